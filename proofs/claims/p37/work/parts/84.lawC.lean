theorem dL_law_423 : decode cL_law 423 = .ok (.iload 19, 2) := by decide +kernel
theorem dL_law_425 : decode cL_law 425 = .ok (.iconst 5, 1) := by decide +kernel
theorem dL_law_426 : decode cL_law 426 = .ok (.ishr, 1) := by decide +kernel
theorem dL_law_427 : decode cL_law 427 = .ok (.iconst 3, 1) := by decide +kernel
theorem dL_law_428 : decode cL_law 428 = .ok (.invokestatic 78, 3) := by decide +kernel
theorem dL_law_431 : decode cL_law 431 = .ok (.istore 22, 2) := by decide +kernel
theorem dL_law_433 : decode cL_law 433 = .ok (.iconst 1, 1) := by decide +kernel
theorem dL_law_434 : decode cL_law 434 = .ok (.iload 19, 2) := by decide +kernel
theorem dL_law_436 : decode cL_law 436 = .ok (.bipush 8, 2) := by decide +kernel
theorem dL_law_438 : decode cL_law 438 = .ok (.ishr, 1) := by decide +kernel
theorem dL_law_439 : decode cL_law 439 = .ok (.iconst 4, 1) := by decide +kernel
theorem dL_law_440 : decode cL_law 440 = .ok (.invokestatic 78, 3) := by decide +kernel
theorem dL_law_443 : decode cL_law 443 = .ok (.iadd, 1) := by decide +kernel
theorem dL_law_444 : decode cL_law 444 = .ok (.istore 23, 2) := by decide +kernel
theorem dL_law_446 : decode cL_law 446 = .ok (.iconst 0, 1) := by decide +kernel
theorem dL_law_447 : decode cL_law 447 = .ok (.istore 24, 2) := by decide +kernel
theorem dL_law_449 : decode cL_law 449 = .ok (.aload_n 2, 1) := by decide +kernel
theorem dL_law_450 : decode cL_law 450 = .ok (.iconst 2, 1) := by decide +kernel
theorem dL_law_451 : decode cL_law 451 = .ok (.iload 22, 2) := by decide +kernel
theorem dL_law_453 : decode cL_law 453 = .ok (.iadd, 1) := by decide +kernel
theorem dL_law_454 : decode cL_law 454 = .ok (.iaload, 1) := by decide +kernel
theorem dL_law_455 : decode cL_law 455 = .ok (.iload 23, 2) := by decide +kernel
theorem dL_law_457 : decode cL_law 457 = .ok (.if_icmp .eq 7, 3) := by decide +kernel
theorem dL_law_464 : decode cL_law 464 = .ok (.iconst 0, 1) := by decide +kernel
theorem dL_law_465 : decode cL_law 465 = .ok (.istore 25, 2) := by decide +kernel
theorem dL_law_467 : decode cL_law 467 = .ok (.aload_n 2, 1) := by decide +kernel
theorem dL_law_468 : decode cL_law 468 = .ok (.iconst 2, 1) := by decide +kernel
theorem dL_law_469 : decode cL_law 469 = .ok (.iload 22, 2) := by decide +kernel
theorem dL_law_471 : decode cL_law 471 = .ok (.iadd, 1) := by decide +kernel
theorem dL_law_472 : decode cL_law 472 = .ok (.iload 23, 2) := by decide +kernel
theorem dL_law_474 : decode cL_law 474 = .ok (.iastore, 1) := by decide +kernel
theorem dL_law_475 : decode cL_law 475 = .ok (.iconst 0, 1) := by decide +kernel
theorem dL_law_476 : decode cL_law 476 = .ok (.istore 26, 2) := by decide +kernel
theorem dL_law_478 : decode cL_law 478 = .ok (.iload 26, 2) := by decide +kernel
theorem dL_law_480 : decode cL_law 480 = .ok (.aload_n 2, 1) := by decide +kernel
theorem dL_law_481 : decode cL_law 481 = .ok (.iconst 0, 1) := by decide +kernel
theorem dL_law_482 : decode cL_law 482 = .ok (.iaload, 1) := by decide +kernel
theorem dL_law_483 : decode cL_law 483 = .ok (.if_icmp .ge 95, 3) := by decide +kernel
theorem dL_law_578 : decode cL_law 578 = .ok (.iconst 0, 1) := by decide +kernel
theorem dL_law_579 : decode cL_law 579 = .ok (.istore 26, 2) := by decide +kernel
theorem dL_law_581 : decode cL_law 581 = .ok (.iload 26, 2) := by decide +kernel
theorem dL_law_583 : decode cL_law 583 = .ok (.aload_n 2, 1) := by decide +kernel
theorem dL_law_584 : decode cL_law 584 = .ok (.iconst 1, 1) := by decide +kernel
theorem dL_law_585 : decode cL_law 585 = .ok (.iaload, 1) := by decide +kernel
theorem dL_law_586 : decode cL_law 586 = .ok (.if_icmp .ge 142, 3) := by decide +kernel
theorem dL_law_728 : decode cL_law 728 = .ok (.aload_n 1, 1) := by decide +kernel
theorem dL_law_729 : decode cL_law 729 = .ok (.iload 22, 2) := by decide +kernel
theorem dL_law_731 : decode cL_law 731 = .ok (.iload 23, 2) := by decide +kernel
set_option maxRecDepth 20000 in
theorem ggL_law_X7_setSpring : GoodIn wsL_law wsX7_setSpring := goodIn_ca (goodIn_ca (goodIn_r _ [364, 152, 153, 11, 23, 21, 365, 366, 2, 367, 82, 83, 251, 252, 253, 254, 15, 368, 369, 370, 98, 371, 111, 372, 373, 374, 20, 375, 40, 35, 36, 376, 377, 378, 379, 34, 33, 380, 276, 277, 39, 278, 46, 47, 48, 279, 280, 281, 282, 45, 126, 127, 283, 163, 164, 165, 284, 285, 286, 287, 112, 381, 382, 383, 384, 385, 386, 387, 388, 389, 390, 391, 392, 31, 393, 394, 395, 396, 30, 397, 398, 399, 400, 401, 402, 403, 404, 405, 406, 407, 408, 409, 313, 314, 315, 316, 317, 318, 319, 410, 309, 310, 311, 312, 320, 321, 322, 323, 324, 325, 326, 327, 328, 329, 330, 331, 49, 411, 412, 413, 414, 267, 268, 269, 270, 17, 415, 416, 417, 418, 22, 154, 155, 156, 157, 13, 561, 562, 563, 564, 565, 566, 567, 598, 599, 600, 601, 602, 603, 604, 605, 590, 591, 592, 568, 569, 570, 571, 572, 573, 574, 579, 580, 581, 582, 583, 575, 576, 577, 578, 584, 585, 586, 587, 588, 589] (by decide +kernel) (by decide +kernel)) (goodIn_sub (fun _ h => List.mem_append_right _ h) (by decide +kernel))) (goodIn_sub (fun _ h => List.mem_append_left _ (List.mem_append_left _ (List.mem_append_right _ h))) (by decide +kernel))
set_option maxRecDepth 20000 in
theorem gL_law_X7_setSpring : GoodIn wsL_law (wsV RL 191 RX7 yX7_setSpring wsX7_setSpring) := goodIn_app (goodIn_of _ (by decide +kernel)) ggL_law_X7_setSpring
theorem dL_law_733 : decode cL_law 733 = .ok (.invokevirtual 191, 3) := by decide +kernel
theorem dL_law_736 : decode cL_law 736 = .ok (.iload 24, 2) := by decide +kernel
theorem dL_law_738 : decode cL_law 738 = .ok (.if_icmp .ne 7, 3) := by decide +kernel
theorem dL_law_741 : decode cL_law 741 = .ok (.iconst 1, 1) := by decide +kernel
theorem dL_law_742 : decode cL_law 742 = .ok (.goto 4, 3) := by decide +kernel
theorem dL_law_746 : decode cL_law 746 = .ok (.istore 21, 2) := by decide +kernel
theorem dL_law_748 : decode cL_law 748 = .ok (.goto 217, 3) := by decide +kernel
theorem dL_law_589 : decode cL_law 589 = .ok (.iload 25, 2) := by decide +kernel
theorem dL_law_591 : decode cL_law 591 = .ok (.ifCond .eq 137, 3) := by decide +kernel
theorem dL_law_486 : decode cL_law 486 = .ok (.iload 25, 2) := by decide +kernel
theorem dL_law_488 : decode cL_law 488 = .ok (.ifCond .eq 90, 3) := by decide +kernel
theorem dL_law_460 : decode cL_law 460 = .ok (.iconst 1, 1) := by decide +kernel
theorem dL_law_461 : decode cL_law 461 = .ok (.goto 4, 3) := by decide +kernel
theorem dL_law_594 : decode cL_law 594 = .ok (.bipush 6, 2) := by decide +kernel
theorem dL_law_596 : decode cL_law 596 = .ok (.iload 22, 2) := by decide +kernel
theorem dL_law_598 : decode cL_law 598 = .ok (.iadd, 1) := by decide +kernel
theorem dL_law_599 : decode cL_law 599 = .ok (.bipush 30, 2) := by decide +kernel
theorem dL_law_601 : decode cL_law 601 = .ok (.bipush 6, 2) := by decide +kernel
theorem dL_law_603 : decode cL_law 603 = .ok (.iload 26, 2) := by decide +kernel
theorem dL_law_605 : decode cL_law 605 = .ok (.imul, 1) := by decide +kernel
theorem dL_law_606 : decode cL_law 606 = .ok (.iadd, 1) := by decide +kernel
theorem dL_law_607 : decode cL_law 607 = .ok (.aload_n 3, 1) := by decide +kernel
set_option maxRecDepth 20000 in
theorem ggL_law_L_has : GoodIn wsL_law wsL_has := goodIn_r _ [338, 138, 139, 62, 140, 73] (by decide +kernel) (by decide +kernel)
set_option maxRecDepth 20000 in
theorem gL_law_L_has : GoodIn wsL_law (va_wsS RL 183 yL_has wsL_has) := goodIn_app (goodIn_of _ (by decide +kernel)) ggL_law_L_has
theorem dL_law_608 : decode cL_law 608 = .ok (.invokestatic 183, 3) := by decide +kernel
theorem dL_law_611 : decode cL_law 611 = .ok (.ifCond .eq 48, 3) := by decide +kernel
theorem dL_law_659 : decode cL_law 659 = .ok (.iconst 0, 1) := by decide +kernel
theorem dL_law_660 : decode cL_law 660 = .ok (.istore 27, 2) := by decide +kernel
theorem dL_law_662 : decode cL_law 662 = .ok (.iload 27, 2) := by decide +kernel
theorem dL_law_664 : decode cL_law 664 = .ok (.bipush 18, 2) := by decide +kernel
theorem dL_law_666 : decode cL_law 666 = .ok (.if_icmp .ge 56, 3) := by decide +kernel
theorem dL_law_722 : decode cL_law 722 = .ok (.iinc 26 1, 3) := by decide +kernel
theorem dL_law_725 : decode cL_law 725 = .ok (.goto (-144), 3) := by decide +kernel
theorem dL_law_669 : decode cL_law 669 = .ok (.aload 10, 2) := by decide +kernel
theorem dL_law_671 : decode cL_law 671 = .ok (.iload 27, 2) := by decide +kernel
theorem dL_law_673 : decode cL_law 673 = .ok (.aload 8, 2) := by decide +kernel
theorem dL_law_675 : decode cL_law 675 = .ok (.iconst 5, 1) := by decide +kernel
theorem dL_law_676 : decode cL_law 676 = .ok (.iload 26, 2) := by decide +kernel
theorem dL_law_678 : decode cL_law 678 = .ok (.imul, 1) := by decide +kernel
theorem dL_law_679 : decode cL_law 679 = .ok (.iconst 2, 1) := by decide +kernel
theorem dL_law_680 : decode cL_law 680 = .ok (.iadd, 1) := by decide +kernel
theorem dL_law_681 : decode cL_law 681 = .ok (.iaload, 1) := by decide +kernel
theorem dL_law_682 : decode cL_law 682 = .ok (.ifCond .ge 28, 3) := by decide +kernel
theorem dL_law_710 : decode cL_law 710 = .ok (.aload 10, 2) := by decide +kernel
theorem dL_law_712 : decode cL_law 712 = .ok (.iload 27, 2) := by decide +kernel
theorem dL_law_714 : decode cL_law 714 = .ok (.iaload, 1) := by decide +kernel
theorem dL_law_715 : decode cL_law 715 = .ok (.iastore, 1) := by decide +kernel
theorem dL_law_716 : decode cL_law 716 = .ok (.iinc 27 6, 3) := by decide +kernel
theorem dL_law_719 : decode cL_law 719 = .ok (.goto (-57), 3) := by decide +kernel
theorem dL_law_685 : decode cL_law 685 = .ok (.aload 10, 2) := by decide +kernel
theorem dL_law_687 : decode cL_law 687 = .ok (.iload 27, 2) := by decide +kernel
theorem dL_law_689 : decode cL_law 689 = .ok (.iaload, 1) := by decide +kernel
theorem dL_law_690 : decode cL_law 690 = .ok (.iconst 1, 1) := by decide +kernel
theorem dL_law_691 : decode cL_law 691 = .ok (.if_icmp .ne 19, 3) := by decide +kernel
theorem dL_law_694 : decode cL_law 694 = .ok (.aload 10, 2) := by decide +kernel
theorem dL_law_696 : decode cL_law 696 = .ok (.iload 27, 2) := by decide +kernel
theorem dL_law_698 : decode cL_law 698 = .ok (.iconst 1, 1) := by decide +kernel
theorem dL_law_699 : decode cL_law 699 = .ok (.iadd, 1) := by decide +kernel
theorem dL_law_700 : decode cL_law 700 = .ok (.iaload, 1) := by decide +kernel
theorem dL_law_701 : decode cL_law 701 = .ok (.iload 26, 2) := by decide +kernel
theorem dL_law_703 : decode cL_law 703 = .ok (.if_icmp .ne 7, 3) := by decide +kernel
theorem dL_law_706 : decode cL_law 706 = .ok (.iconst 4, 1) := by decide +kernel
theorem dL_law_707 : decode cL_law 707 = .ok (.goto 8, 3) := by decide +kernel
theorem dL_law_614 : decode cL_law 614 = .ok (.aload 8, 2) := by decide +kernel
theorem dL_law_616 : decode cL_law 616 = .ok (.iconst 5, 1) := by decide +kernel
theorem dL_law_617 : decode cL_law 617 = .ok (.iload 26, 2) := by decide +kernel
theorem dL_law_619 : decode cL_law 619 = .ok (.imul, 1) := by decide +kernel
theorem dL_law_620 : decode cL_law 620 = .ok (.iconst 2, 1) := by decide +kernel
theorem dL_law_621 : decode cL_law 621 = .ok (.iadd, 1) := by decide +kernel
theorem dL_law_622 : decode cL_law 622 = .ok (.aload 8, 2) := by decide +kernel
theorem dL_law_624 : decode cL_law 624 = .ok (.iconst 5, 1) := by decide +kernel
theorem dL_law_625 : decode cL_law 625 = .ok (.iload 26, 2) := by decide +kernel
theorem dL_law_627 : decode cL_law 627 = .ok (.imul, 1) := by decide +kernel
theorem dL_law_628 : decode cL_law 628 = .ok (.iconst 1, 1) := by decide +kernel
theorem dL_law_629 : decode cL_law 629 = .ok (.iadd, 1) := by decide +kernel
theorem dL_law_630 : decode cL_law 630 = .ok (.iaload, 1) := by decide +kernel
theorem dL_law_631 : decode cL_law 631 = .ok (.bipush 30, 2) := by decide +kernel
theorem dL_law_633 : decode cL_law 633 = .ok (.bipush 6, 2) := by decide +kernel
theorem dL_law_635 : decode cL_law 635 = .ok (.iload 26, 2) := by decide +kernel
theorem dL_law_637 : decode cL_law 637 = .ok (.imul, 1) := by decide +kernel
theorem dL_law_638 : decode cL_law 638 = .ok (.iadd, 1) := by decide +kernel
theorem dL_law_639 : decode cL_law 639 = .ok (.aload_n 2, 1) := by decide +kernel
theorem dL_law_640 : decode cL_law 640 = .ok (.aload_n 3, 1) := by decide +kernel
theorem dL_law_641 : decode cL_law 641 = .ok (.aload 11, 2) := by decide +kernel
theorem dL_law_643 : decode cL_law 643 = .ok (.aload 12, 2) := by decide +kernel
theorem dL_law_645 : decode cL_law 645 = .ok (.aload 13, 2) := by decide +kernel
theorem dL_law_647 : decode cL_law 647 = .ok (.aload 14, 2) := by decide +kernel
theorem dL_law_649 : decode cL_law 649 = .ok (.aload 15, 2) := by decide +kernel
theorem dL_law_651 : decode cL_law 651 = .ok (.aload 16, 2) := by decide +kernel
theorem dL_law_653 : decode cL_law 653 = .ok (.aload 17, 2) := by decide +kernel
theorem dL_law_655 : decode cL_law 655 = .ok (.invokestatic 187, 3) := by decide +kernel
theorem dL_law_658 : decode cL_law 658 = .ok (.iastore, 1) := by decide +kernel
theorem dL_law_491 : decode cL_law 491 = .ok (.aload 4, 2) := by decide +kernel
theorem dL_law_493 : decode cL_law 493 = .ok (.iconst 4, 1) := by decide +kernel
theorem dL_law_494 : decode cL_law 494 = .ok (.iload 26, 2) := by decide +kernel
theorem dL_law_496 : decode cL_law 496 = .ok (.imul, 1) := by decide +kernel
theorem dL_law_497 : decode cL_law 497 = .ok (.iconst 2, 1) := by decide +kernel
theorem dL_law_498 : decode cL_law 498 = .ok (.iadd, 1) := by decide +kernel
theorem dL_law_499 : decode cL_law 499 = .ok (.iaload, 1) := by decide +kernel
theorem dL_law_500 : decode cL_law 500 = .ok (.bipush (-2), 2) := by decide +kernel
theorem dL_law_502 : decode cL_law 502 = .ok (.if_icmp .le 24, 3) := by decide +kernel
theorem dL_law_526 : decode cL_law 526 = .ok (.iconst 0, 1) := by decide +kernel
theorem dL_law_527 : decode cL_law 527 = .ok (.istore 27, 2) := by decide +kernel
theorem dL_law_529 : decode cL_law 529 = .ok (.iload 24, 2) := by decide +kernel
theorem dL_law_531 : decode cL_law 531 = .ok (.iload 27, 2) := by decide +kernel
theorem dL_law_533 : decode cL_law 533 = .ok (.ifCond .eq 7, 3) := by decide +kernel
theorem dL_law_540 : decode cL_law 540 = .ok (.iconst 0, 1) := by decide +kernel
theorem dL_law_541 : decode cL_law 541 = .ok (.iadd, 1) := by decide +kernel
theorem dL_law_542 : decode cL_law 542 = .ok (.istore 24, 2) := by decide +kernel
theorem dL_law_544 : decode cL_law 544 = .ok (.aload 4, 2) := by decide +kernel
theorem dL_law_546 : decode cL_law 546 = .ok (.iconst 4, 1) := by decide +kernel
theorem dL_law_547 : decode cL_law 547 = .ok (.iload 26, 2) := by decide +kernel
theorem dL_law_549 : decode cL_law 549 = .ok (.imul, 1) := by decide +kernel
theorem dL_law_550 : decode cL_law 550 = .ok (.iconst 2, 1) := by decide +kernel
theorem dL_law_551 : decode cL_law 551 = .ok (.iadd, 1) := by decide +kernel
theorem dL_law_552 : decode cL_law 552 = .ok (.iload 27, 2) := by decide +kernel
theorem dL_law_554 : decode cL_law 554 = .ok (.ifCond .eq 8, 3) := by decide +kernel
theorem dL_law_562 : decode cL_law 562 = .ok (.aload 4, 2) := by decide +kernel
theorem dL_law_564 : decode cL_law 564 = .ok (.iconst 4, 1) := by decide +kernel
theorem dL_law_565 : decode cL_law 565 = .ok (.iload 26, 2) := by decide +kernel
theorem dL_law_567 : decode cL_law 567 = .ok (.imul, 1) := by decide +kernel
theorem dL_law_568 : decode cL_law 568 = .ok (.iconst 2, 1) := by decide +kernel
theorem dL_law_569 : decode cL_law 569 = .ok (.iadd, 1) := by decide +kernel
theorem dL_law_570 : decode cL_law 570 = .ok (.iaload, 1) := by decide +kernel
theorem dL_law_571 : decode cL_law 571 = .ok (.iastore, 1) := by decide +kernel
theorem dL_law_572 : decode cL_law 572 = .ok (.iinc 26 1, 3) := by decide +kernel
theorem dL_law_575 : decode cL_law 575 = .ok (.goto (-97), 3) := by decide +kernel
theorem dL_law_505 : decode cL_law 505 = .ok (.bipush 6, 2) := by decide +kernel
theorem dL_law_507 : decode cL_law 507 = .ok (.iload 22, 2) := by decide +kernel
theorem dL_law_509 : decode cL_law 509 = .ok (.iadd, 1) := by decide +kernel
theorem dL_law_510 : decode cL_law 510 = .ok (.bipush 6, 2) := by decide +kernel
theorem dL_law_512 : decode cL_law 512 = .ok (.iload 26, 2) := by decide +kernel
theorem dL_law_514 : decode cL_law 514 = .ok (.imul, 1) := by decide +kernel
theorem dL_law_515 : decode cL_law 515 = .ok (.aload_n 3, 1) := by decide +kernel
theorem dL_law_516 : decode cL_law 516 = .ok (.invokestatic 183, 3) := by decide +kernel
theorem dL_law_519 : decode cL_law 519 = .ok (.ifCond .eq 7, 3) := by decide +kernel
theorem dL_law_522 : decode cL_law 522 = .ok (.iconst 1, 1) := by decide +kernel
theorem dL_law_523 : decode cL_law 523 = .ok (.goto 4, 3) := by decide +kernel
theorem dL_law_536 : decode cL_law 536 = .ok (.iconst 1, 1) := by decide +kernel
theorem dL_law_537 : decode cL_law 537 = .ok (.goto 4, 3) := by decide +kernel
theorem dL_law_557 : decode cL_law 557 = .ok (.bipush (-2), 2) := by decide +kernel
theorem dL_law_559 : decode cL_law 559 = .ok (.goto 12, 3) := by decide +kernel

/-! ===== the law: setSpring ===== -/
theorem Sy.r22 {D : va_G} {x t L W : Nat} {ar : Nat → Nat} {m : CS} {h : vh} (hS : Sy D x ar m L W t h) : ∀ y, y < 6 → 0 ≤ m 22 0 y ∧ m 22 0 y ≤ 4 := by
  obtain ⟨ad, c, hR, hx, hC, hs, hB, hn⟩ := hS
  exact fun y hy => (hs.rn hC y hy).1
theorem vd_s {m : CS} {L i : Nat} {kd v : Int} {l1 : Nat → Int} (hl : ∀ j, j < L → l1 (4 * j + 2) = vdF m kd i j) (hv : v = if vdB m kd i ≠ 0 then -2 else m 6 0 i) : ∀ j, j < L → fu l1 (4 * i + 2) v (4 * j + 2) = vdF m kd (i + 1) j := fun j hj => by
  by_cases q : j = i
  · subst q
    rw [fu_s, hv]
    unfold vdF
    by_cases z : vdB m kd j ≠ 0
    · rw [if_pos z, if_pos ⟨by omega, z⟩]
    · rw [if_neg z, if_neg (fun y => z y.2)]
  · rw [fu_n (by omega), hl j hj]
    unfold vdF
    by_cases z : j < i ∧ vdB m kd j ≠ 0
    · rw [if_pos z, if_pos ⟨by omega, z.2⟩]
    · rw [if_neg z, if_neg (fun y => z ⟨by omega, y.2⟩)]
theorem vd_o {L i : Nat} {v : Int} {l0 l1 : Nat → Int} (hi : i < L) (hl : ∀ a, (∀ j, j < L → a ≠ 4 * j + 2) → l1 a = l0 a) : ∀ a, (∀ j, j < L → a ≠ 4 * j + 2) → fu l1 (4 * i + 2) v a = l0 a := fun a ha => by
  rw [fu_n (ha i hi)]; exact hl a ha

theorem SPR18 {D : va_G} {x t L W : Nat} {ar : Nat → Nat} {m mm : CS} {h : vh} {q : Nat → Int} {g : Nat → Int64} {l0 u v n w p r : Nat → Int} {F1 F6 : Nat → Int} {kd : Int} : ∀ {i : Nat}, SPR kd (cu (cu m 1 0 F1) 6 0 F6) i mm → Sy D x ar m L W t h → PK m L W q g l0 u v n w p r → ∀ {j : Nat}, j < W → -1 ≤ mm 18 0 j ∧ mm 18 0 j ≤ 7000
  | 0, hs, hS, hP, j, hj => by
    have h1 : mm 18 0 j = m 18 0 j := by rw [hs.1 18 0 (by decide) (by decide)]; rfl
    have h2 := (hS.wrk hP hj).2.2.2.1
    rw [(hP.2.2.2.2.1 j hj).2.2.1] at h2
    rw [h1]; exact h2
  | i + 1, hs, hS, hP, j, hj => by
    obtain ⟨m1, h1, h2⟩ := hs
    have ih := SPR18 h1 hS hP hj
    rcases h2 with ⟨_, rfl⟩ | ⟨_, w9, _, h3, h4⟩
    · exact ih
    · rw [h4.1 18 0 (by decide) (by decide)]
      show -1 ≤ fu (m1 18 0) i w9 j ∧ fu (m1 18 0) i w9 j ≤ 7000
      by_cases e : j = i
      · rw [e, fu_s]; omega
      · rw [fu_n e]; exact ih


set_option maxRecDepth 100000 in
set_option maxHeartbeats 20000000 in
theorem lb_spring {κ : KX} {D : va_G} {A : Nat → Prop} {nm : String} (C : CX κ "LedgeLevelsLaw" nm cL_law wsL_law { frames := 12, cells := 600130, slots := 7301080, locals := 472 } D A 28) (kn : KN κ) {b x t turn n1 n2 act : Nat} {ar : Nat → Nat} {zz : Int32} {h : vh} (hai : ∀ i j, i < 16 → j < 16 → ar i = ar j → i = j) (ht : t ≤ 10000) (hrm : n1 + 1000 ≤ 600130 ∧ n2 + 6000 ≤ 7301080) {m : CS} {L W : Nat} {q : Nat → Int} {g : Nat → Int64} {l0 u v n w p r : Nat → Int} (hSy : Sy D x ar m L W t h) (hEX : EX m) (hPK : PK m L W q g l0 u v n w p r) (hAR : AR D ar q g l0 u v n w p r h) (hSC : SC D ar h) (hact : act = 11) (K : ∀ h9, WD D x ar (t + 10) h9 → X κ (n1 + 500) (n2 + 3000) h9 [(0, .ref b), (1, .ref x), (2, .ref (ar 0)), (3, .ref (ar 1)), (4, .ref (ar 2)), (5, .ref (ar 3)), (6, .ref (ar 4)), (7, .ref (ar 5)), (8, .ref (ar 6)), (9, .ref (ar 7)), (10, .ref (ar 8)), (11, .ref (ar 9)), (12, .ref (ar 10)), (13, .ref (ar 11)), (14, .ref (ar 12)), (15, .ref (ar 13)), (16, .ref (ar 14)), (17, .ref (ar 15)), (18, vI ((turn : Nat) : Int)), (19, .int zz), (20, vI ((act : Nat) : Int)), (21, vI 1)] 965 []) : X κ n1 n2 h [(0, .ref b), (1, .ref x), (2, .ref (ar 0)), (3, .ref (ar 1)), (4, .ref (ar 2)), (5, .ref (ar 3)), (6, .ref (ar 4)), (7, .ref (ar 5)), (8, .ref (ar 6)), (9, .ref (ar 7)), (10, .ref (ar 8)), (11, .ref (ar 9)), (12, .ref (ar 10)), (13, .ref (ar 11)), (14, .ref (ar 12)), (15, .ref (ar 13)), (16, .ref (ar 14)), (17, .ref (ar 15)), (18, vI ((turn : Nat) : Int)), (19, .int zz), (20, vI ((act : Nat) : Int)), (21, vI 1)] 423 [] := by
  have hiz : nq (D.1 20) (D.1 21) := cx_iz C
  obtain ⟨hq, hg, hl0, hu, hv, hn, hw, hp, hr⟩ := hAR
  obtain ⟨za, zb, zc, zd, ze, zf, zm, hza, hzb, hzc, hzd, hze, hzf, hzm⟩ := hSC
  have hSC : SC D ar h := ⟨za, zb, zc, zd, ze, zf, zm, hza, hzb, hzc, hzd, hze, hzf, hzm⟩
  obtain ⟨⟨hL5, hW5, hq0, hq1⟩, hqs, hPL, hPN, hPW, hPU, hPP⟩ := id hPK
  have hEB := hSy.eb hPK
  obtain ⟨hz8, hz21, hm2, hm14⟩ := hSy.zero
  obtain ⟨sn, hsn⟩ : ∃ sn : Nat, sn = lowF (zz >>> ((iI 5) &&& 31)) 3 := ⟨_, rfl⟩
  have hsn3 : sn < 3 := by
    have := lowF_lt (v := zz >>> ((iI 5) &&& 31)) (n := 3) (by omega)
    omega
  obtain ⟨to9, hto9⟩ : ∃ to9 : Int, to9 = 1 + ((lowF (zz >>> ((iI 8) &&& 31)) 4 : Nat) : Int) := ⟨_, rfl⟩
  have hto4 : 1 ≤ to9 ∧ to9 ≤ 4 := by
    have := lowF_lt (v := zz >>> ((iI 8) &&& 31)) (n := 4) (by omega)
    omega
  have E2S : Int.toNat (2 + ((sn : Nat) : Int)) = 2 + sn := by omega
  have hqs9 := hqs sn hsn3
  obtain ⟨hss, _⟩ := hSy.str
  have hss9 := hss sn
  have hr22 := hSy.r22
  have hsB := sumB (f := vdB m (6 + ((sn : Nat) : Int))) (n := L) (fun i _ => by rcases vdB_01 m (6 + ((sn : Nat) : Int)) i with q9 | q9 <;> omega)
  have hS4 : ∀ j, 0 ≤ fu (m 1 0) sn to9 j ∧ fu (m 1 0) sn to9 j ≤ 4 := fun j => by
    by_cases q9 : j = sn
    · rw [q9, fu_s]; omega
    · rw [fu_n q9]; exact hss j
  refine x_iload C dL_law_423 19 rfl ?_
  refine x_iconst C dL_law_425 5 (by decide) ?_
  refine x_ishr C dL_law_426 _ rfl ?_
  refine x_iconst C dL_law_427 3 (by decide) ?_
  refine x_callSJ C (n := 2) (As := [.int (zz >>> ((iI 5) &&& 31)), vI 3]) (rest := []) (c_L_low (by omega)) gL_law_L_low (by decide +kernel) rfl rfl rfl (Nat.le_of_ble_eq_true rfl) ⟨by decide, by decide⟩ ⟨(by first | omega | (dsimp only; omega)), (by first | omega | (dsimp only; omega))⟩ dL_law_428 (fun rv1 h2 hp3 => ?_)
  obtain ⟨rfl, e4, hr_428⟩ := hp3
  obtain rfl := e4.symm
  refine x_topv (show ((lowF (zz >>> ((iI 5) &&& 31)) 3 : Nat) : Int) = ((sn : Nat) : Int) from by rw [hsn]) ?_
  refine x_istore C (ls' := [(0, .ref b), (1, .ref x), (2, .ref (ar 0)), (3, .ref (ar 1)), (4, .ref (ar 2)), (5, .ref (ar 3)), (6, .ref (ar 4)), (7, .ref (ar 5)), (8, .ref (ar 6)), (9, .ref (ar 7)), (10, .ref (ar 8)), (11, .ref (ar 9)), (12, .ref (ar 10)), (13, .ref (ar 11)), (14, .ref (ar 12)), (15, .ref (ar 13)), (16, .ref (ar 14)), (17, .ref (ar 15)), (18, vI ((turn : Nat) : Int)), (19, .int zz), (20, vI ((act : Nat) : Int)), (21, vI 1), (22, vI ((sn : Nat) : Int))]) dL_law_431 (by decide) rfl ?_
  refine x_iconst C dL_law_433 1 (by decide) ?_
  refine x_iload C dL_law_434 19 rfl ?_
  refine x_bipush C dL_law_436 8 (by decide) ?_
  refine x_ishr C dL_law_438 _ rfl ?_
  refine x_iconst C dL_law_439 4 (by decide) ?_
  refine x_callSJ C (n := 2) (As := [.int (zz >>> ((iI 8) &&& 31)), vI 4]) (rest := [vI 1]) (c_L_low (by omega)) gL_law_L_low (by decide +kernel) rfl rfl rfl (Nat.le_of_ble_eq_true rfl) ⟨by decide, by decide⟩ ⟨(by first | omega | (dsimp only; omega)), (by first | omega | (dsimp only; omega))⟩ dL_law_440 (fun rv5 h6 hp7 => ?_)
  obtain ⟨rfl, e8, hr_440⟩ := hp7
  obtain rfl := e8.symm
  refine x_iadd C dL_law_443 ?_
  refine x_topv (show 1 + (((lowF (zz >>> ((iI 8) &&& 31)) 4 : Nat) : Int)) = to9 from by rw [hto9]) ?_
  refine x_istore C (ls' := [(0, .ref b), (1, .ref x), (2, .ref (ar 0)), (3, .ref (ar 1)), (4, .ref (ar 2)), (5, .ref (ar 3)), (6, .ref (ar 4)), (7, .ref (ar 5)), (8, .ref (ar 6)), (9, .ref (ar 7)), (10, .ref (ar 8)), (11, .ref (ar 9)), (12, .ref (ar 10)), (13, .ref (ar 11)), (14, .ref (ar 12)), (15, .ref (ar 13)), (16, .ref (ar 14)), (17, .ref (ar 15)), (18, vI ((turn : Nat) : Int)), (19, .int zz), (20, vI ((act : Nat) : Int)), (21, vI 1), (22, vI ((sn : Nat) : Int)), (23, vI to9)]) dL_law_444 (by decide) rfl ?_
  refine x_iconst C dL_law_446 0 (by decide) ?_
  refine x_istore C (ls' := [(0, .ref b), (1, .ref x), (2, .ref (ar 0)), (3, .ref (ar 1)), (4, .ref (ar 2)), (5, .ref (ar 3)), (6, .ref (ar 4)), (7, .ref (ar 5)), (8, .ref (ar 6)), (9, .ref (ar 7)), (10, .ref (ar 8)), (11, .ref (ar 9)), (12, .ref (ar 10)), (13, .ref (ar 11)), (14, .ref (ar 12)), (15, .ref (ar 13)), (16, .ref (ar 14)), (17, .ref (ar 15)), (18, vI ((turn : Nat) : Int)), (19, .int zz), (20, vI ((act : Nat) : Int)), (21, vI 1), (22, vI ((sn : Nat) : Int)), (23, vI to9), (24, vI 0)]) dL_law_447 (by decide) rfl ?_
  refine x_aload_n C dL_law_449 2 rfl ?_
  refine x_iconst C dL_law_450 2 (by decide) ?_
  refine x_iload C dL_law_451 22 rfl ?_
  refine x_iadd C dL_law_453 ?_
  refine x_iald C hq ⟨by omega, by omega⟩ (by decide) dL_law_454 ?_
  refine x_topv (show q (Int.toNat (2 + (((sn : Nat) : Int)))) = m 1 0 sn from by rw [E2S]; exact hqs9) ?_
  refine x_iload C dL_law_455 23 rfl ?_
  refine x_icmp_eq (tgt := 464) C dL_law_457 (by decide) (by omega) (by omega) (fun c9 => ?_) (fun c9 => ?_)
  · skip
    refine x_iconst C dL_law_464 0 (by decide) ?_
    refine x_istore C (ls' := [(0, .ref b), (1, .ref x), (2, .ref (ar 0)), (3, .ref (ar 1)), (4, .ref (ar 2)), (5, .ref (ar 3)), (6, .ref (ar 4)), (7, .ref (ar 5)), (8, .ref (ar 6)), (9, .ref (ar 7)), (10, .ref (ar 8)), (11, .ref (ar 9)), (12, .ref (ar 10)), (13, .ref (ar 11)), (14, .ref (ar 12)), (15, .ref (ar 13)), (16, .ref (ar 14)), (17, .ref (ar 15)), (18, vI ((turn : Nat) : Int)), (19, .int zz), (20, vI ((act : Nat) : Int)), (21, vI 1), (22, vI ((sn : Nat) : Int)), (23, vI to9), (24, vI 0), (25, vI 0)]) dL_law_465 (by decide) rfl ?_
    refine x_aload_n C dL_law_467 2 rfl ?_
    refine x_iconst C dL_law_468 2 (by decide) ?_
    refine x_iload C dL_law_469 22 rfl ?_
    refine x_iadd C dL_law_471 ?_
    refine x_iload C dL_law_472 23 rfl ?_
    refine x_iast C hq ⟨by omega, by omega⟩ (by decide) dL_law_474 (x_hn (fun h10 e11 => ?_))
    have f12 : h10 (ar 0) = some (eI D 5 (fu q (Int.toNat (2 + (((sn : Nat) : Int)))) to9)) := by rw [e11]; exact hu_s
    have f13 : h10 (ar 0) = some (eI D 5 q) := by have q9 := f12; rw [E2S, show to9 = q (2 + sn) by omega, fu_self] at q9; exact q9
    refine x_iconst C dL_law_475 0 (by decide) ?_
    refine x_istore C (ls' := [(0, .ref b), (1, .ref x), (2, .ref (ar 0)), (3, .ref (ar 1)), (4, .ref (ar 2)), (5, .ref (ar 3)), (6, .ref (ar 4)), (7, .ref (ar 5)), (8, .ref (ar 6)), (9, .ref (ar 7)), (10, .ref (ar 8)), (11, .ref (ar 9)), (12, .ref (ar 10)), (13, .ref (ar 11)), (14, .ref (ar 12)), (15, .ref (ar 13)), (16, .ref (ar 14)), (17, .ref (ar 15)), (18, vI ((turn : Nat) : Int)), (19, .int zz), (20, vI ((act : Nat) : Int)), (21, vI 1), (22, vI ((sn : Nat) : Int)), (23, vI to9), (24, vI 0), (25, vI 0), (26, vI 0)]) dL_law_476 (by decide) rfl ?_
    refine x_iload C dL_law_478 26 rfl ?_
    refine x_aload_n C dL_law_480 2 rfl ?_
    refine x_iconst C dL_law_481 0 (by decide) ?_
    refine x_iald C f13 ⟨by omega, by omega⟩ (by decide) dL_law_482 ?_
    refine x_topv (show q (Int.toNat 0) = ((L : Nat) : Int) from by first | exact hq0 | (rw [show Int.toNat 0 = 0 from rfl, fu_n (by omega)]; exact hq0)) ?_
    refine x_icmp_ge (tgt := 578) C dL_law_483 (by decide) (by omega) (by omega) (fun c14 => ?_) (fun c14 => ?_)
    · skip
      refine x_iconst C dL_law_578 0 (by decide) ?_
      refine x_istore C (ls' := [(0, .ref b), (1, .ref x), (2, .ref (ar 0)), (3, .ref (ar 1)), (4, .ref (ar 2)), (5, .ref (ar 3)), (6, .ref (ar 4)), (7, .ref (ar 5)), (8, .ref (ar 6)), (9, .ref (ar 7)), (10, .ref (ar 8)), (11, .ref (ar 9)), (12, .ref (ar 10)), (13, .ref (ar 11)), (14, .ref (ar 12)), (15, .ref (ar 13)), (16, .ref (ar 14)), (17, .ref (ar 15)), (18, vI ((turn : Nat) : Int)), (19, .int zz), (20, vI ((act : Nat) : Int)), (21, vI 1), (22, vI ((sn : Nat) : Int)), (23, vI to9), (24, vI 0), (25, vI 0), (26, vI 0)]) dL_law_579 (by decide) rfl ?_
      refine x_iload C dL_law_581 26 rfl ?_
      refine x_aload_n C dL_law_583 2 rfl ?_
      refine x_iconst C dL_law_584 1 (by decide) ?_
      refine x_iald C f13 ⟨by omega, by omega⟩ (by decide) dL_law_585 ?_
      refine x_topv (show q (Int.toNat 1) = ((W : Nat) : Int) from by first | exact hq1 | (rw [show Int.toNat 1 = 1 from rfl, fu_n (by omega)]; exact hq1)) ?_
      refine x_icmp_ge (tgt := 728) C dL_law_586 (by decide) (by omega) (by omega) (fun c15 => ?_) (fun c15 => ?_)
      · skip
        refine x_aload_n C dL_law_728 1 rfl ?_
        refine x_iload C dL_law_729 22 rfl ?_
        refine x_iload C dL_law_731 23 rfl ?_
        have hSy9 : Sy D x ar m L W t h10 := by rw [e11]; repeat (first | exact hSy | exact hSyL | exact hSy8 | refine Sy.off ?_ (by decide))
        have hSC9 : SC D ar h10 := by rw [e11]; repeat (first | exact hSC | exact hSCL | exact hSC8 | refine SC.off hai ?_ (by decide))
        have f16 : h10 (ar 1) = some (eJ D 60 g) := by rw [e11, hu_n (ari hai (i := 1) (j := 0) (by decide) (by decide) (by decide))]; exact hg
        have f17 : h10 (ar 2) = some (eI D 20 l0) := by rw [e11, hu_n (ari hai (i := 2) (j := 0) (by decide) (by decide) (by decide))]; exact hl0
        have f18 : h10 (ar 3) = some (eI D 60 u) := by rw [e11, hu_n (ari hai (i := 3) (j := 0) (by decide) (by decide) (by decide))]; exact hu
        have f19 : h10 (ar 4) = some (eI D 60 v) := by rw [e11, hu_n (ari hai (i := 4) (j := 0) (by decide) (by decide) (by decide))]; exact hv
        have f20 : h10 (ar 5) = some (eI D 10 n) := by rw [e11, hu_n (ari hai (i := 5) (j := 0) (by decide) (by decide) (by decide))]; exact hn
        have f21 : h10 (ar 6) = some (eI D 25 w) := by rw [e11, hu_n (ari hai (i := 6) (j := 0) (by decide) (by decide) (by decide))]; exact hw
        have f22 : h10 (ar 7) = some (eI D 15 p) := by rw [e11, hu_n (ari hai (i := 7) (j := 0) (by decide) (by decide) (by decide))]; exact hp
        have f23 : h10 (ar 8) = some (eI D 18 r) := by rw [e11, hu_n (ari hai (i := 8) (j := 0) (by decide) (by decide) (by decide))]; exact hr
        have hAR9 : AR D ar q g l0 u v n w p r h10 := ⟨f13, f16, f17, f18, f19, f20, f21, f22, f23⟩
        have f24 : h10 (ar 9) = some (eJ D 64 za) := by rw [e11, hu_n (ari hai (i := 9) (j := 0) (by decide) (by decide) (by decide))]; exact hza
        have f25 : h10 (ar 10) = some (eJ D 64 zb) := by rw [e11, hu_n (ari hai (i := 10) (j := 0) (by decide) (by decide) (by decide))]; exact hzb
        have f26 : h10 (ar 11) = some (eJ D 64 zc) := by rw [e11, hu_n (ari hai (i := 11) (j := 0) (by decide) (by decide) (by decide))]; exact hzc
        have f27 : h10 (ar 12) = some (eJ D 64 zd) := by rw [e11, hu_n (ari hai (i := 12) (j := 0) (by decide) (by decide) (by decide))]; exact hzd
        have f28 : h10 (ar 13) = some (eJ D 64 ze) := by rw [e11, hu_n (ari hai (i := 13) (j := 0) (by decide) (by decide) (by decide))]; exact hze
        have f29 : h10 (ar 14) = some (eJ D 64 zf) := by rw [e11, hu_n (ari hai (i := 14) (j := 0) (by decide) (by decide) (by decide))]; exact hzf
        have f30 : h10 (ar 15) = some (eJ D 2 zm) := by rw [e11, hu_n (ari hai (i := 15) (j := 0) (by decide) (by decide) (by decide))]; exact hzm
        obtain ⟨P9, X9, hM9, hX9, hP9⟩ := k_setSpring (l := kl κ) (A := A) hSy9 (u := sn) (k := to9) hsn3 (by omega) hto4
        obtain ⟨fs9, ho9⟩ := hSy9.obj
        refine x_callVx C (n := 2) (qc := (RX7, TX7, 7)) (As := [vI ((sn : Nat) : Int), vI to9]) (rest := []) hM9 gL_law_X7_setSpring (by decide +kernel) ho9 rfl rfl rfl rfl (Nat.le_of_ble_eq_true rfl) ⟨by decide, by decide⟩ ⟨(by first | omega | (dsimp only; omega)), (by first | omega | (dsimp only; omega))⟩ dL_law_733 hX9 (fun rv9 h31 hp9 => ?_)
        have hk9 := hP9 rv9 h31 hp9
        obtain ⟨hc9, rfl, hS9, hkp9⟩ := hk9.resolve_right (fun z9 => (by have y9 := z9.1; omega))
        obtain ⟨f32, f33, f34, f35, f36, f37, f38, f39, f40⟩ := hAR9.kp hkp9
        have f41 := hkp9 9 (by decide) _ f24
        have f42 := hkp9 10 (by decide) _ f25
        have f43 := hkp9 11 (by decide) _ f26
        have f44 := hkp9 12 (by decide) _ f27
        have f45 := hkp9 13 (by decide) _ f28
        have f46 := hkp9 14 (by decide) _ f29
        have f47 := hkp9 15 (by decide) _ f30
        refine x_iload C dL_law_736 24 rfl ?_
        refine x_icmp_ne (tgt := 745) C dL_law_738 (by decide) (by omega) (by omega) (fun c48 => ?_) (fun c48 => ?_)
        · exfalso; omega
        · skip
          refine x_iconst C dL_law_741 1 (by decide) ?_
          refine x_goto (tgt := 746) C dL_law_742 (by decide) ?_
          refine x_istore C (ls' := [(0, .ref b), (1, .ref x), (2, .ref (ar 0)), (3, .ref (ar 1)), (4, .ref (ar 2)), (5, .ref (ar 3)), (6, .ref (ar 4)), (7, .ref (ar 5)), (8, .ref (ar 6)), (9, .ref (ar 7)), (10, .ref (ar 8)), (11, .ref (ar 9)), (12, .ref (ar 10)), (13, .ref (ar 11)), (14, .ref (ar 12)), (15, .ref (ar 13)), (16, .ref (ar 14)), (17, .ref (ar 15)), (18, vI ((turn : Nat) : Int)), (19, .int zz), (20, vI ((act : Nat) : Int)), (21, vI 1), (22, vI ((sn : Nat) : Int)), (23, vI to9), (24, vI 0), (25, vI 0), (26, vI 0)]) dL_law_746 (by decide) rfl ?_
          refine x_goto (tgt := 965) C dL_law_748 (by decide) ?_
          refine x_sub [0, 1, 2, 3, 4, 5, 6, 7, 8, 9, 10, 11, 12, 13, 14, 15, 16, 17, 18, 19, 20, 21] (ls' := [(0, .ref b), (1, .ref x), (2, .ref (ar 0)), (3, .ref (ar 1)), (4, .ref (ar 2)), (5, .ref (ar 3)), (6, .ref (ar 4)), (7, .ref (ar 5)), (8, .ref (ar 6)), (9, .ref (ar 7)), (10, .ref (ar 8)), (11, .ref (ar 9)), (12, .ref (ar 10)), (13, .ref (ar 11)), (14, .ref (ar 12)), (15, .ref (ar 13)), (16, .ref (ar 14)), (17, .ref (ar 15)), (18, vI ((turn : Nat) : Int)), (19, .int zz), (20, vI ((act : Nat) : Int)), (21, vI 1)]) rfl ?_
          refine x_widen (m1 := n1 + 500) (m2 := n2 + 3000) (by first | omega | (dsimp only; omega)) (by first | omega | (dsimp only; omega)) ?_
          exact K h31 (by first | exact ⟨mm, L, W, _, _, _, _, _, _, _, _, _, hS9.le (by omega), hEXL, hPKL, hAR9.kp hkp9, hSC9.kp hkp9⟩ | exact ⟨m, L, W, _, _, _, _, _, _, _, _, _, hS9.le (by omega), hEX, hPK, hAR9.kp hkp9, hSC9.kp hkp9⟩)
      · skip
        refine x_iload C dL_law_589 25 rfl ?_
        refine x_if_eq (tgt := 728) C dL_law_591 (by decide) (by omega) (fun c49 => ?_) (fun c49 => ?_)
        · skip
          refine x_aload_n C dL_law_728 1 rfl ?_
          refine x_iload C dL_law_729 22 rfl ?_
          refine x_iload C dL_law_731 23 rfl ?_
          have hSy9 : Sy D x ar m L W t h10 := by rw [e11]; repeat (first | exact hSy | exact hSyL | exact hSy8 | refine Sy.off ?_ (by decide))
          have hSC9 : SC D ar h10 := by rw [e11]; repeat (first | exact hSC | exact hSCL | exact hSC8 | refine SC.off hai ?_ (by decide))
          have f50 : h10 (ar 1) = some (eJ D 60 g) := by rw [e11, hu_n (ari hai (i := 1) (j := 0) (by decide) (by decide) (by decide))]; exact hg
          have f51 : h10 (ar 2) = some (eI D 20 l0) := by rw [e11, hu_n (ari hai (i := 2) (j := 0) (by decide) (by decide) (by decide))]; exact hl0
          have f52 : h10 (ar 3) = some (eI D 60 u) := by rw [e11, hu_n (ari hai (i := 3) (j := 0) (by decide) (by decide) (by decide))]; exact hu
          have f53 : h10 (ar 4) = some (eI D 60 v) := by rw [e11, hu_n (ari hai (i := 4) (j := 0) (by decide) (by decide) (by decide))]; exact hv
          have f54 : h10 (ar 5) = some (eI D 10 n) := by rw [e11, hu_n (ari hai (i := 5) (j := 0) (by decide) (by decide) (by decide))]; exact hn
          have f55 : h10 (ar 6) = some (eI D 25 w) := by rw [e11, hu_n (ari hai (i := 6) (j := 0) (by decide) (by decide) (by decide))]; exact hw
          have f56 : h10 (ar 7) = some (eI D 15 p) := by rw [e11, hu_n (ari hai (i := 7) (j := 0) (by decide) (by decide) (by decide))]; exact hp
          have f57 : h10 (ar 8) = some (eI D 18 r) := by rw [e11, hu_n (ari hai (i := 8) (j := 0) (by decide) (by decide) (by decide))]; exact hr
          have hAR9 : AR D ar q g l0 u v n w p r h10 := ⟨f13, f50, f51, f52, f53, f54, f55, f56, f57⟩
          have f58 : h10 (ar 9) = some (eJ D 64 za) := by rw [e11, hu_n (ari hai (i := 9) (j := 0) (by decide) (by decide) (by decide))]; exact hza
          have f59 : h10 (ar 10) = some (eJ D 64 zb) := by rw [e11, hu_n (ari hai (i := 10) (j := 0) (by decide) (by decide) (by decide))]; exact hzb
          have f60 : h10 (ar 11) = some (eJ D 64 zc) := by rw [e11, hu_n (ari hai (i := 11) (j := 0) (by decide) (by decide) (by decide))]; exact hzc
          have f61 : h10 (ar 12) = some (eJ D 64 zd) := by rw [e11, hu_n (ari hai (i := 12) (j := 0) (by decide) (by decide) (by decide))]; exact hzd
          have f62 : h10 (ar 13) = some (eJ D 64 ze) := by rw [e11, hu_n (ari hai (i := 13) (j := 0) (by decide) (by decide) (by decide))]; exact hze
          have f63 : h10 (ar 14) = some (eJ D 64 zf) := by rw [e11, hu_n (ari hai (i := 14) (j := 0) (by decide) (by decide) (by decide))]; exact hzf
          have f64 : h10 (ar 15) = some (eJ D 2 zm) := by rw [e11, hu_n (ari hai (i := 15) (j := 0) (by decide) (by decide) (by decide))]; exact hzm
          obtain ⟨P9, X9, hM9, hX9, hP9⟩ := k_setSpring (l := kl κ) (A := A) hSy9 (u := sn) (k := to9) hsn3 (by omega) hto4
          obtain ⟨fs9, ho9⟩ := hSy9.obj
          refine x_callVx C (n := 2) (qc := (RX7, TX7, 7)) (As := [vI ((sn : Nat) : Int), vI to9]) (rest := []) hM9 gL_law_X7_setSpring (by decide +kernel) ho9 rfl rfl rfl rfl (Nat.le_of_ble_eq_true rfl) ⟨by decide, by decide⟩ ⟨(by first | omega | (dsimp only; omega)), (by first | omega | (dsimp only; omega))⟩ dL_law_733 hX9 (fun rv9 h65 hp9 => ?_)
          have hk9 := hP9 rv9 h65 hp9
          obtain ⟨hc9, rfl, hS9, hkp9⟩ := hk9.resolve_right (fun z9 => (by have y9 := z9.1; omega))
          obtain ⟨f66, f67, f68, f69, f70, f71, f72, f73, f74⟩ := hAR9.kp hkp9
          have f75 := hkp9 9 (by decide) _ f58
          have f76 := hkp9 10 (by decide) _ f59
          have f77 := hkp9 11 (by decide) _ f60
          have f78 := hkp9 12 (by decide) _ f61
          have f79 := hkp9 13 (by decide) _ f62
          have f80 := hkp9 14 (by decide) _ f63
          have f81 := hkp9 15 (by decide) _ f64
          refine x_iload C dL_law_736 24 rfl ?_
          refine x_icmp_ne (tgt := 745) C dL_law_738 (by decide) (by omega) (by omega) (fun c82 => ?_) (fun c82 => ?_)
          · exfalso; omega
          · skip
            refine x_iconst C dL_law_741 1 (by decide) ?_
            refine x_goto (tgt := 746) C dL_law_742 (by decide) ?_
            refine x_istore C (ls' := [(0, .ref b), (1, .ref x), (2, .ref (ar 0)), (3, .ref (ar 1)), (4, .ref (ar 2)), (5, .ref (ar 3)), (6, .ref (ar 4)), (7, .ref (ar 5)), (8, .ref (ar 6)), (9, .ref (ar 7)), (10, .ref (ar 8)), (11, .ref (ar 9)), (12, .ref (ar 10)), (13, .ref (ar 11)), (14, .ref (ar 12)), (15, .ref (ar 13)), (16, .ref (ar 14)), (17, .ref (ar 15)), (18, vI ((turn : Nat) : Int)), (19, .int zz), (20, vI ((act : Nat) : Int)), (21, vI 1), (22, vI ((sn : Nat) : Int)), (23, vI to9), (24, vI 0), (25, vI 0), (26, vI 0)]) dL_law_746 (by decide) rfl ?_
            refine x_goto (tgt := 965) C dL_law_748 (by decide) ?_
            refine x_sub [0, 1, 2, 3, 4, 5, 6, 7, 8, 9, 10, 11, 12, 13, 14, 15, 16, 17, 18, 19, 20, 21] (ls' := [(0, .ref b), (1, .ref x), (2, .ref (ar 0)), (3, .ref (ar 1)), (4, .ref (ar 2)), (5, .ref (ar 3)), (6, .ref (ar 4)), (7, .ref (ar 5)), (8, .ref (ar 6)), (9, .ref (ar 7)), (10, .ref (ar 8)), (11, .ref (ar 9)), (12, .ref (ar 10)), (13, .ref (ar 11)), (14, .ref (ar 12)), (15, .ref (ar 13)), (16, .ref (ar 14)), (17, .ref (ar 15)), (18, vI ((turn : Nat) : Int)), (19, .int zz), (20, vI ((act : Nat) : Int)), (21, vI 1)]) rfl ?_
            refine x_widen (m1 := n1 + 500) (m2 := n2 + 3000) (by first | omega | (dsimp only; omega)) (by first | omega | (dsimp only; omega)) ?_
            exact K h65 (by first | exact ⟨mm, L, W, _, _, _, _, _, _, _, _, _, hS9.le (by omega), hEXL, hPKL, hAR9.kp hkp9, hSC9.kp hkp9⟩ | exact ⟨m, L, W, _, _, _, _, _, _, _, _, _, hS9.le (by omega), hEX, hPK, hAR9.kp hkp9, hSC9.kp hkp9⟩)
        · exfalso; omega
    · skip
      refine x_iload C dL_law_486 25 rfl ?_
      refine x_if_eq (tgt := 578) C dL_law_488 (by decide) (by omega) (fun c83 => ?_) (fun c83 => ?_)
      · skip
        refine x_iconst C dL_law_578 0 (by decide) ?_
        refine x_istore C (ls' := [(0, .ref b), (1, .ref x), (2, .ref (ar 0)), (3, .ref (ar 1)), (4, .ref (ar 2)), (5, .ref (ar 3)), (6, .ref (ar 4)), (7, .ref (ar 5)), (8, .ref (ar 6)), (9, .ref (ar 7)), (10, .ref (ar 8)), (11, .ref (ar 9)), (12, .ref (ar 10)), (13, .ref (ar 11)), (14, .ref (ar 12)), (15, .ref (ar 13)), (16, .ref (ar 14)), (17, .ref (ar 15)), (18, vI ((turn : Nat) : Int)), (19, .int zz), (20, vI ((act : Nat) : Int)), (21, vI 1), (22, vI ((sn : Nat) : Int)), (23, vI to9), (24, vI 0), (25, vI 0), (26, vI 0)]) dL_law_579 (by decide) rfl ?_
        refine x_iload C dL_law_581 26 rfl ?_
        refine x_aload_n C dL_law_583 2 rfl ?_
        refine x_iconst C dL_law_584 1 (by decide) ?_
        refine x_iald C f13 ⟨by omega, by omega⟩ (by decide) dL_law_585 ?_
        refine x_topv (show q (Int.toNat 1) = ((W : Nat) : Int) from by first | exact hq1 | (rw [show Int.toNat 1 = 1 from rfl, fu_n (by omega)]; exact hq1)) ?_
        refine x_icmp_ge (tgt := 728) C dL_law_586 (by decide) (by omega) (by omega) (fun c84 => ?_) (fun c84 => ?_)
        · skip
          refine x_aload_n C dL_law_728 1 rfl ?_
          refine x_iload C dL_law_729 22 rfl ?_
          refine x_iload C dL_law_731 23 rfl ?_
          have hSy9 : Sy D x ar m L W t h10 := by rw [e11]; repeat (first | exact hSy | exact hSyL | exact hSy8 | refine Sy.off ?_ (by decide))
          have hSC9 : SC D ar h10 := by rw [e11]; repeat (first | exact hSC | exact hSCL | exact hSC8 | refine SC.off hai ?_ (by decide))
          have f85 : h10 (ar 1) = some (eJ D 60 g) := by rw [e11, hu_n (ari hai (i := 1) (j := 0) (by decide) (by decide) (by decide))]; exact hg
          have f86 : h10 (ar 2) = some (eI D 20 l0) := by rw [e11, hu_n (ari hai (i := 2) (j := 0) (by decide) (by decide) (by decide))]; exact hl0
          have f87 : h10 (ar 3) = some (eI D 60 u) := by rw [e11, hu_n (ari hai (i := 3) (j := 0) (by decide) (by decide) (by decide))]; exact hu
          have f88 : h10 (ar 4) = some (eI D 60 v) := by rw [e11, hu_n (ari hai (i := 4) (j := 0) (by decide) (by decide) (by decide))]; exact hv
          have f89 : h10 (ar 5) = some (eI D 10 n) := by rw [e11, hu_n (ari hai (i := 5) (j := 0) (by decide) (by decide) (by decide))]; exact hn
          have f90 : h10 (ar 6) = some (eI D 25 w) := by rw [e11, hu_n (ari hai (i := 6) (j := 0) (by decide) (by decide) (by decide))]; exact hw
          have f91 : h10 (ar 7) = some (eI D 15 p) := by rw [e11, hu_n (ari hai (i := 7) (j := 0) (by decide) (by decide) (by decide))]; exact hp
          have f92 : h10 (ar 8) = some (eI D 18 r) := by rw [e11, hu_n (ari hai (i := 8) (j := 0) (by decide) (by decide) (by decide))]; exact hr
          have hAR9 : AR D ar q g l0 u v n w p r h10 := ⟨f13, f85, f86, f87, f88, f89, f90, f91, f92⟩
          have f93 : h10 (ar 9) = some (eJ D 64 za) := by rw [e11, hu_n (ari hai (i := 9) (j := 0) (by decide) (by decide) (by decide))]; exact hza
          have f94 : h10 (ar 10) = some (eJ D 64 zb) := by rw [e11, hu_n (ari hai (i := 10) (j := 0) (by decide) (by decide) (by decide))]; exact hzb
          have f95 : h10 (ar 11) = some (eJ D 64 zc) := by rw [e11, hu_n (ari hai (i := 11) (j := 0) (by decide) (by decide) (by decide))]; exact hzc
          have f96 : h10 (ar 12) = some (eJ D 64 zd) := by rw [e11, hu_n (ari hai (i := 12) (j := 0) (by decide) (by decide) (by decide))]; exact hzd
          have f97 : h10 (ar 13) = some (eJ D 64 ze) := by rw [e11, hu_n (ari hai (i := 13) (j := 0) (by decide) (by decide) (by decide))]; exact hze
          have f98 : h10 (ar 14) = some (eJ D 64 zf) := by rw [e11, hu_n (ari hai (i := 14) (j := 0) (by decide) (by decide) (by decide))]; exact hzf
          have f99 : h10 (ar 15) = some (eJ D 2 zm) := by rw [e11, hu_n (ari hai (i := 15) (j := 0) (by decide) (by decide) (by decide))]; exact hzm
          obtain ⟨P9, X9, hM9, hX9, hP9⟩ := k_setSpring (l := kl κ) (A := A) hSy9 (u := sn) (k := to9) hsn3 (by omega) hto4
          obtain ⟨fs9, ho9⟩ := hSy9.obj
          refine x_callVx C (n := 2) (qc := (RX7, TX7, 7)) (As := [vI ((sn : Nat) : Int), vI to9]) (rest := []) hM9 gL_law_X7_setSpring (by decide +kernel) ho9 rfl rfl rfl rfl (Nat.le_of_ble_eq_true rfl) ⟨by decide, by decide⟩ ⟨(by first | omega | (dsimp only; omega)), (by first | omega | (dsimp only; omega))⟩ dL_law_733 hX9 (fun rv9 h100 hp9 => ?_)
          have hk9 := hP9 rv9 h100 hp9
          obtain ⟨hc9, rfl, hS9, hkp9⟩ := hk9.resolve_right (fun z9 => (by have y9 := z9.1; omega))
          obtain ⟨f101, f102, f103, f104, f105, f106, f107, f108, f109⟩ := hAR9.kp hkp9
          have f110 := hkp9 9 (by decide) _ f93
          have f111 := hkp9 10 (by decide) _ f94
          have f112 := hkp9 11 (by decide) _ f95
          have f113 := hkp9 12 (by decide) _ f96
          have f114 := hkp9 13 (by decide) _ f97
          have f115 := hkp9 14 (by decide) _ f98
          have f116 := hkp9 15 (by decide) _ f99
          refine x_iload C dL_law_736 24 rfl ?_
          refine x_icmp_ne (tgt := 745) C dL_law_738 (by decide) (by omega) (by omega) (fun c117 => ?_) (fun c117 => ?_)
          · exfalso; omega
          · skip
            refine x_iconst C dL_law_741 1 (by decide) ?_
            refine x_goto (tgt := 746) C dL_law_742 (by decide) ?_
            refine x_istore C (ls' := [(0, .ref b), (1, .ref x), (2, .ref (ar 0)), (3, .ref (ar 1)), (4, .ref (ar 2)), (5, .ref (ar 3)), (6, .ref (ar 4)), (7, .ref (ar 5)), (8, .ref (ar 6)), (9, .ref (ar 7)), (10, .ref (ar 8)), (11, .ref (ar 9)), (12, .ref (ar 10)), (13, .ref (ar 11)), (14, .ref (ar 12)), (15, .ref (ar 13)), (16, .ref (ar 14)), (17, .ref (ar 15)), (18, vI ((turn : Nat) : Int)), (19, .int zz), (20, vI ((act : Nat) : Int)), (21, vI 1), (22, vI ((sn : Nat) : Int)), (23, vI to9), (24, vI 0), (25, vI 0), (26, vI 0)]) dL_law_746 (by decide) rfl ?_
            refine x_goto (tgt := 965) C dL_law_748 (by decide) ?_
            refine x_sub [0, 1, 2, 3, 4, 5, 6, 7, 8, 9, 10, 11, 12, 13, 14, 15, 16, 17, 18, 19, 20, 21] (ls' := [(0, .ref b), (1, .ref x), (2, .ref (ar 0)), (3, .ref (ar 1)), (4, .ref (ar 2)), (5, .ref (ar 3)), (6, .ref (ar 4)), (7, .ref (ar 5)), (8, .ref (ar 6)), (9, .ref (ar 7)), (10, .ref (ar 8)), (11, .ref (ar 9)), (12, .ref (ar 10)), (13, .ref (ar 11)), (14, .ref (ar 12)), (15, .ref (ar 13)), (16, .ref (ar 14)), (17, .ref (ar 15)), (18, vI ((turn : Nat) : Int)), (19, .int zz), (20, vI ((act : Nat) : Int)), (21, vI 1)]) rfl ?_
            refine x_widen (m1 := n1 + 500) (m2 := n2 + 3000) (by first | omega | (dsimp only; omega)) (by first | omega | (dsimp only; omega)) ?_
            exact K h100 (by first | exact ⟨mm, L, W, _, _, _, _, _, _, _, _, _, hS9.le (by omega), hEXL, hPKL, hAR9.kp hkp9, hSC9.kp hkp9⟩ | exact ⟨m, L, W, _, _, _, _, _, _, _, _, _, hS9.le (by omega), hEX, hPK, hAR9.kp hkp9, hSC9.kp hkp9⟩)
        · skip
          refine x_iload C dL_law_589 25 rfl ?_
          refine x_if_eq (tgt := 728) C dL_law_591 (by decide) (by omega) (fun c118 => ?_) (fun c118 => ?_)
          · skip
            refine x_aload_n C dL_law_728 1 rfl ?_
            refine x_iload C dL_law_729 22 rfl ?_
            refine x_iload C dL_law_731 23 rfl ?_
            have hSy9 : Sy D x ar m L W t h10 := by rw [e11]; repeat (first | exact hSy | exact hSyL | exact hSy8 | refine Sy.off ?_ (by decide))
            have hSC9 : SC D ar h10 := by rw [e11]; repeat (first | exact hSC | exact hSCL | exact hSC8 | refine SC.off hai ?_ (by decide))
            have f119 : h10 (ar 1) = some (eJ D 60 g) := by rw [e11, hu_n (ari hai (i := 1) (j := 0) (by decide) (by decide) (by decide))]; exact hg
            have f120 : h10 (ar 2) = some (eI D 20 l0) := by rw [e11, hu_n (ari hai (i := 2) (j := 0) (by decide) (by decide) (by decide))]; exact hl0
            have f121 : h10 (ar 3) = some (eI D 60 u) := by rw [e11, hu_n (ari hai (i := 3) (j := 0) (by decide) (by decide) (by decide))]; exact hu
            have f122 : h10 (ar 4) = some (eI D 60 v) := by rw [e11, hu_n (ari hai (i := 4) (j := 0) (by decide) (by decide) (by decide))]; exact hv
            have f123 : h10 (ar 5) = some (eI D 10 n) := by rw [e11, hu_n (ari hai (i := 5) (j := 0) (by decide) (by decide) (by decide))]; exact hn
            have f124 : h10 (ar 6) = some (eI D 25 w) := by rw [e11, hu_n (ari hai (i := 6) (j := 0) (by decide) (by decide) (by decide))]; exact hw
            have f125 : h10 (ar 7) = some (eI D 15 p) := by rw [e11, hu_n (ari hai (i := 7) (j := 0) (by decide) (by decide) (by decide))]; exact hp
            have f126 : h10 (ar 8) = some (eI D 18 r) := by rw [e11, hu_n (ari hai (i := 8) (j := 0) (by decide) (by decide) (by decide))]; exact hr
            have hAR9 : AR D ar q g l0 u v n w p r h10 := ⟨f13, f119, f120, f121, f122, f123, f124, f125, f126⟩
            have f127 : h10 (ar 9) = some (eJ D 64 za) := by rw [e11, hu_n (ari hai (i := 9) (j := 0) (by decide) (by decide) (by decide))]; exact hza
            have f128 : h10 (ar 10) = some (eJ D 64 zb) := by rw [e11, hu_n (ari hai (i := 10) (j := 0) (by decide) (by decide) (by decide))]; exact hzb
            have f129 : h10 (ar 11) = some (eJ D 64 zc) := by rw [e11, hu_n (ari hai (i := 11) (j := 0) (by decide) (by decide) (by decide))]; exact hzc
            have f130 : h10 (ar 12) = some (eJ D 64 zd) := by rw [e11, hu_n (ari hai (i := 12) (j := 0) (by decide) (by decide) (by decide))]; exact hzd
            have f131 : h10 (ar 13) = some (eJ D 64 ze) := by rw [e11, hu_n (ari hai (i := 13) (j := 0) (by decide) (by decide) (by decide))]; exact hze
            have f132 : h10 (ar 14) = some (eJ D 64 zf) := by rw [e11, hu_n (ari hai (i := 14) (j := 0) (by decide) (by decide) (by decide))]; exact hzf
            have f133 : h10 (ar 15) = some (eJ D 2 zm) := by rw [e11, hu_n (ari hai (i := 15) (j := 0) (by decide) (by decide) (by decide))]; exact hzm
            obtain ⟨P9, X9, hM9, hX9, hP9⟩ := k_setSpring (l := kl κ) (A := A) hSy9 (u := sn) (k := to9) hsn3 (by omega) hto4
            obtain ⟨fs9, ho9⟩ := hSy9.obj
            refine x_callVx C (n := 2) (qc := (RX7, TX7, 7)) (As := [vI ((sn : Nat) : Int), vI to9]) (rest := []) hM9 gL_law_X7_setSpring (by decide +kernel) ho9 rfl rfl rfl rfl (Nat.le_of_ble_eq_true rfl) ⟨by decide, by decide⟩ ⟨(by first | omega | (dsimp only; omega)), (by first | omega | (dsimp only; omega))⟩ dL_law_733 hX9 (fun rv9 h134 hp9 => ?_)
            have hk9 := hP9 rv9 h134 hp9
            obtain ⟨hc9, rfl, hS9, hkp9⟩ := hk9.resolve_right (fun z9 => (by have y9 := z9.1; omega))
            obtain ⟨f135, f136, f137, f138, f139, f140, f141, f142, f143⟩ := hAR9.kp hkp9
            have f144 := hkp9 9 (by decide) _ f127
            have f145 := hkp9 10 (by decide) _ f128
            have f146 := hkp9 11 (by decide) _ f129
            have f147 := hkp9 12 (by decide) _ f130
            have f148 := hkp9 13 (by decide) _ f131
            have f149 := hkp9 14 (by decide) _ f132
            have f150 := hkp9 15 (by decide) _ f133
            refine x_iload C dL_law_736 24 rfl ?_
            refine x_icmp_ne (tgt := 745) C dL_law_738 (by decide) (by omega) (by omega) (fun c151 => ?_) (fun c151 => ?_)
            · exfalso; omega
            · skip
              refine x_iconst C dL_law_741 1 (by decide) ?_
              refine x_goto (tgt := 746) C dL_law_742 (by decide) ?_
              refine x_istore C (ls' := [(0, .ref b), (1, .ref x), (2, .ref (ar 0)), (3, .ref (ar 1)), (4, .ref (ar 2)), (5, .ref (ar 3)), (6, .ref (ar 4)), (7, .ref (ar 5)), (8, .ref (ar 6)), (9, .ref (ar 7)), (10, .ref (ar 8)), (11, .ref (ar 9)), (12, .ref (ar 10)), (13, .ref (ar 11)), (14, .ref (ar 12)), (15, .ref (ar 13)), (16, .ref (ar 14)), (17, .ref (ar 15)), (18, vI ((turn : Nat) : Int)), (19, .int zz), (20, vI ((act : Nat) : Int)), (21, vI 1), (22, vI ((sn : Nat) : Int)), (23, vI to9), (24, vI 0), (25, vI 0), (26, vI 0)]) dL_law_746 (by decide) rfl ?_
              refine x_goto (tgt := 965) C dL_law_748 (by decide) ?_
              refine x_sub [0, 1, 2, 3, 4, 5, 6, 7, 8, 9, 10, 11, 12, 13, 14, 15, 16, 17, 18, 19, 20, 21] (ls' := [(0, .ref b), (1, .ref x), (2, .ref (ar 0)), (3, .ref (ar 1)), (4, .ref (ar 2)), (5, .ref (ar 3)), (6, .ref (ar 4)), (7, .ref (ar 5)), (8, .ref (ar 6)), (9, .ref (ar 7)), (10, .ref (ar 8)), (11, .ref (ar 9)), (12, .ref (ar 10)), (13, .ref (ar 11)), (14, .ref (ar 12)), (15, .ref (ar 13)), (16, .ref (ar 14)), (17, .ref (ar 15)), (18, vI ((turn : Nat) : Int)), (19, .int zz), (20, vI ((act : Nat) : Int)), (21, vI 1)]) rfl ?_
              refine x_widen (m1 := n1 + 500) (m2 := n2 + 3000) (by first | omega | (dsimp only; omega)) (by first | omega | (dsimp only; omega)) ?_
              exact K h134 (by first | exact ⟨mm, L, W, _, _, _, _, _, _, _, _, _, hS9.le (by omega), hEXL, hPKL, hAR9.kp hkp9, hSC9.kp hkp9⟩ | exact ⟨m, L, W, _, _, _, _, _, _, _, _, _, hS9.le (by omega), hEX, hPK, hAR9.kp hkp9, hSC9.kp hkp9⟩)
          · exfalso; omega
      · exfalso; omega
  · skip
    refine x_iconst C dL_law_460 1 (by decide) ?_
    refine x_goto (tgt := 465) C dL_law_461 (by decide) ?_
    refine x_istore C (ls' := [(0, .ref b), (1, .ref x), (2, .ref (ar 0)), (3, .ref (ar 1)), (4, .ref (ar 2)), (5, .ref (ar 3)), (6, .ref (ar 4)), (7, .ref (ar 5)), (8, .ref (ar 6)), (9, .ref (ar 7)), (10, .ref (ar 8)), (11, .ref (ar 9)), (12, .ref (ar 10)), (13, .ref (ar 11)), (14, .ref (ar 12)), (15, .ref (ar 13)), (16, .ref (ar 14)), (17, .ref (ar 15)), (18, vI ((turn : Nat) : Int)), (19, .int zz), (20, vI ((act : Nat) : Int)), (21, vI 1), (22, vI ((sn : Nat) : Int)), (23, vI to9), (24, vI 0), (25, vI 1)]) dL_law_465 (by decide) rfl ?_
    refine x_aload_n C dL_law_467 2 rfl ?_
    refine x_iconst C dL_law_468 2 (by decide) ?_
    refine x_iload C dL_law_469 22 rfl ?_
    refine x_iadd C dL_law_471 ?_
    refine x_iload C dL_law_472 23 rfl ?_
    refine x_iast C hq ⟨by omega, by omega⟩ (by decide) dL_law_474 (x_hn (fun h152 e153 => ?_))
    have f154 : h152 (ar 0) = some (eI D 5 (fu q (Int.toNat (2 + (((sn : Nat) : Int)))) to9)) := by rw [e153]; exact hu_s
    have f155 : h152 (ar 0) = some (eI D 5 (fu q (2 + sn) to9)) := by have q9 := f154; rw [E2S] at q9; exact q9
    refine x_iconst C dL_law_475 0 (by decide) ?_
    refine x_istore C (ls' := [(0, .ref b), (1, .ref x), (2, .ref (ar 0)), (3, .ref (ar 1)), (4, .ref (ar 2)), (5, .ref (ar 3)), (6, .ref (ar 4)), (7, .ref (ar 5)), (8, .ref (ar 6)), (9, .ref (ar 7)), (10, .ref (ar 8)), (11, .ref (ar 9)), (12, .ref (ar 10)), (13, .ref (ar 11)), (14, .ref (ar 12)), (15, .ref (ar 13)), (16, .ref (ar 14)), (17, .ref (ar 15)), (18, vI ((turn : Nat) : Int)), (19, .int zz), (20, vI ((act : Nat) : Int)), (21, vI 1), (22, vI ((sn : Nat) : Int)), (23, vI to9), (24, vI 0), (25, vI 1), (26, vI 0)]) dL_law_476 (by decide) rfl ?_
    have LV : ∀ (N : Nat) (i : Nat) (due : Int) (l1 : Nat → Int) (za zb zc zd ze zf zm : Nat → Int64) (h156 : vh)  (vq : h156 (ar 0) = some (eI D 5 (fu q (2 + sn) to9))) (vg : h156 (ar 1) = some (eJ D 60 g)) (vl0 : h156 (ar 2) = some (eI D 20 l1)) (vu : h156 (ar 3) = some (eI D 60 u)) (vv : h156 (ar 4) = some (eI D 60 v)) (vn : h156 (ar 5) = some (eI D 10 n)) (vw : h156 (ar 6) = some (eI D 25 w)) (vp : h156 (ar 7) = some (eI D 15 p)) (vr : h156 (ar 8) = some (eI D 18 r)) (vza : h156 (ar 9) = some (eJ D 64 za)) (vzb : h156 (ar 10) = some (eJ D 64 zb)) (vzc : h156 (ar 11) = some (eJ D 64 zc)) (vzd : h156 (ar 12) = some (eJ D 64 zd)) (vze : h156 (ar 13) = some (eJ D 64 ze)) (vzf : h156 (ar 14) = some (eJ D 64 zf)) (vzm : h156 (ar 15) = some (eJ D 2 zm)) (hi : i ≤ L) (hN : L - i < N) (hdue : due = sumN (vdB m (6 + ((sn : Nat) : Int))) i) (hl1 : ∀ j, j < L → l1 (4 * j + 2) = vdF m (6 + ((sn : Nat) : Int)) i j) (hl2 : ∀ a, (∀ j, j < L → a ≠ 4 * j + 2) → l1 a = l0 a) (hSyL : Sy D x ar m L W t h156) (hSCL : SC D ar h156), X κ (n1 + 0 + 0) (n2 + 0 + 0) h156 [(0, .ref b), (1, .ref x), (2, .ref (ar 0)), (3, .ref (ar 1)), (4, .ref (ar 2)), (5, .ref (ar 3)), (6, .ref (ar 4)), (7, .ref (ar 5)), (8, .ref (ar 6)), (9, .ref (ar 7)), (10, .ref (ar 8)), (11, .ref (ar 9)), (12, .ref (ar 10)), (13, .ref (ar 11)), (14, .ref (ar 12)), (15, .ref (ar 13)), (16, .ref (ar 14)), (17, .ref (ar 15)), (18, vI ((turn : Nat) : Int)), (19, .int zz), (20, vI ((act : Nat) : Int)), (21, vI 1), (22, vI ((sn : Nat) : Int)), (23, vI to9), (24, vI due), (25, vI 1), (26, vI ((i : Nat) : Int))] 478 [] := by
      intro N
      induction N with
      | zero => intro i due l1 za zb zc zd ze zf zm h156 vq vg vl0 vu vv vn vw vp vr vza vzb vzc vzd vze vzf vzm hi hN hdue hl1 hl2 hSyL hSCL; exfalso; omega
      | succ N ihLV =>
        intro i due l1 za zb zc zd ze zf zm h156 vq vg vl0 vu vv vn vw vp vr vza vzb vzc vzd vze vzf vzm hi hN hdue hl1 hl2 hSyL hSCL
        refine x_iload C dL_law_478 26 rfl ?_
        refine x_aload_n C dL_law_480 2 rfl ?_
        refine x_iconst C dL_law_481 0 (by decide) ?_
        refine x_iald C vq ⟨by omega, by omega⟩ (by decide) dL_law_482 ?_
        refine x_topv (show (fu q (2 + sn) to9) (Int.toNat 0) = ((L : Nat) : Int) from by first | exact hq0 | (rw [show Int.toNat 0 = 0 from rfl, fu_n (by omega)]; exact hq0)) ?_
        refine x_icmp_ge (tgt := 578) C dL_law_483 (by decide) (by omega) (by omega) (fun c157 => ?_) (fun c157 => ?_)
        · skip
          have hiL9 : i = L := by omega
          rw [hiL9] at hdue hl1
          have hPK0 := PK.v0 (k := to9) hPK hEB hsn3 hl1 hl2
          have hEX0 : EX (cu (cu m 1 0 (fu (m 1 0) sn to9)) 6 0 (vdF m (6 + ((sn : Nat) : Int)) L)) := hEX.v0
          refine x_iconst C dL_law_578 0 (by decide) ?_
          refine x_istore C (ls' := [(0, .ref b), (1, .ref x), (2, .ref (ar 0)), (3, .ref (ar 1)), (4, .ref (ar 2)), (5, .ref (ar 3)), (6, .ref (ar 4)), (7, .ref (ar 5)), (8, .ref (ar 6)), (9, .ref (ar 7)), (10, .ref (ar 8)), (11, .ref (ar 9)), (12, .ref (ar 10)), (13, .ref (ar 11)), (14, .ref (ar 12)), (15, .ref (ar 13)), (16, .ref (ar 14)), (17, .ref (ar 15)), (18, vI ((turn : Nat) : Int)), (19, .int zz), (20, vI ((act : Nat) : Int)), (21, vI 1), (22, vI ((sn : Nat) : Int)), (23, vI to9), (24, vI due), (25, vI 1), (26, vI 0)]) dL_law_579 (by decide) rfl ?_
          have WV : ∀ (N2 : Nat) (i : Nat) (mm : CS) (w1 r1 : Nat → Int) (za zb zc zd ze zf zm : Nat → Int64) (h158 : vh)  (wq : h158 (ar 0) = some (eI D 5 (fu q (2 + sn) to9))) (wg : h158 (ar 1) = some (eJ D 60 g)) (wl0 : h158 (ar 2) = some (eI D 20 l1)) (wu : h158 (ar 3) = some (eI D 60 u)) (wv : h158 (ar 4) = some (eI D 60 v)) (wn : h158 (ar 5) = some (eI D 10 n)) (ww : h158 (ar 6) = some (eI D 25 w1)) (wp : h158 (ar 7) = some (eI D 15 p)) (wr : h158 (ar 8) = some (eI D 18 r1)) (wza : h158 (ar 9) = some (eJ D 64 za)) (wzb : h158 (ar 10) = some (eJ D 64 zb)) (wzc : h158 (ar 11) = some (eJ D 64 zc)) (wzd : h158 (ar 12) = some (eJ D 64 zd)) (wze : h158 (ar 13) = some (eJ D 64 ze)) (wzf : h158 (ar 14) = some (eJ D 64 zf)) (wzm : h158 (ar 15) = some (eJ D 2 zm)) (hi : i ≤ W) (hN2 : W - i < N2) (hSP : SPR (6 + ((sn : Nat) : Int)) (cu (cu m 1 0 (fu (m 1 0) sn to9)) 6 0 (vdF m (6 + ((sn : Nat) : Int)) L)) i mm) (hEXL : EX mm) (hPKL : PK mm L W (fu q (2 + sn) to9) g l1 u v n w1 p r1) (hSyL : Sy D x ar m L W t h158) (hSCL : SC D ar h158), X κ (n1 + 0 + 0) (n2 + 0 + 0) h158 [(0, .ref b), (1, .ref x), (2, .ref (ar 0)), (3, .ref (ar 1)), (4, .ref (ar 2)), (5, .ref (ar 3)), (6, .ref (ar 4)), (7, .ref (ar 5)), (8, .ref (ar 6)), (9, .ref (ar 7)), (10, .ref (ar 8)), (11, .ref (ar 9)), (12, .ref (ar 10)), (13, .ref (ar 11)), (14, .ref (ar 12)), (15, .ref (ar 13)), (16, .ref (ar 14)), (17, .ref (ar 15)), (18, vI ((turn : Nat) : Int)), (19, .int zz), (20, vI ((act : Nat) : Int)), (21, vI 1), (22, vI ((sn : Nat) : Int)), (23, vI to9), (24, vI due), (25, vI 1), (26, vI ((i : Nat) : Int))] 581 [] := by
            intro N2
            induction N2 with
            | zero => intro i mm w1 r1 za zb zc zd ze zf zm h158 wq wg wl0 wu wv wn ww wp wr wza wzb wzc wzd wze wzf wzm hi hN2 hSP hEXL hPKL hSyL hSCL; exfalso; omega
            | succ N2 ihWV =>
              intro i mm w1 r1 za zb zc zd ze zf zm h158 wq wg wl0 wu wv wn ww wp wr wza wzb wzc wzd wze wzf wzm hi hN2 hSP hEXL hPKL hSyL hSCL
              have hKR := SPR.kr hSP
              have h17 : mm 17 0 = m 17 0 := hKR.1 17 0 (by decide) (by decide) (by decide) (by decide)
              have h1m : mm 1 0 = fu (m 1 0) sn to9 := hKR.1 1 0 (by decide) (by decide) (by decide) (by decide)
              have h23 : mm 23 0 = m 23 0 := hKR.1 23 0 (by decide) (by decide) (by decide) (by decide)
              have h22 := hKR.2.2.2.2 hr22
              have hr9 : ∀ y, y < 3 → (0 ≤ r1 (6 * y) ∧ r1 (6 * y) ≤ 4) ∧ (0 ≤ r1 (6 * y + 1) ∧ r1 (6 * y + 1) < 20) := fun y hy => by
                obtain ⟨b1, b2, _⟩ := hPKL.2.2.2.2.2.2 y hy
                obtain ⟨c1, c2, _⟩ := hPP y hy
                obtain ⟨_, q2, _⟩ := hSy.run hPK hy
                rw [b1, b2, h23, ← c2]
                exact ⟨h22 y (by omega), q2.1, q2.2.1⟩
              have hEBL : ∀ i, i < L → EB mm n i := fun i hi => by
                have q9 := hEB i hi
                unfold EB at q9 ⊢
                rw [show mm 9 0 = m 9 0 from hKR.1 9 0 (by decide) (by decide) (by decide) (by decide), show mm 10 0 = m 10 0 from hKR.1 10 0 (by decide) (by decide) (by decide) (by decide), show mm 12 0 = m 12 0 from hKR.1 12 0 (by decide) (by decide) (by decide) (by decide), show mm 13 0 = m 13 0 from hKR.1 13 0 (by decide) (by decide) (by decide) (by decide)]
                exact q9
              refine x_iload C dL_law_581 26 rfl ?_
              refine x_aload_n C dL_law_583 2 rfl ?_
              refine x_iconst C dL_law_584 1 (by decide) ?_
              refine x_iald C wq ⟨by omega, by omega⟩ (by decide) dL_law_585 ?_
              refine x_topv (show (fu q (2 + sn) to9) (Int.toNat 1) = ((W : Nat) : Int) from by first | exact hq1 | (rw [show Int.toNat 1 = 1 from rfl, fu_n (by omega)]; exact hq1)) ?_
              refine x_icmp_ge (tgt := 728) C dL_law_586 (by decide) (by omega) (by omega) (fun c159 => ?_) (fun c159 => ?_)
              · skip
                refine x_aload_n C dL_law_728 1 rfl ?_
                refine x_iload C dL_law_729 22 rfl ?_
                refine x_iload C dL_law_731 23 rfl ?_
                have hSy9 : Sy D x ar m L W t h158 := by repeat (first | exact hSy | exact hSyL | exact hSy8 | refine Sy.off ?_ (by decide))
                have hSC9 : SC D ar h158 := by repeat (first | exact hSC | exact hSCL | exact hSC8 | refine SC.off hai ?_ (by decide))
                have hAR9 : AR D ar (fu q (2 + sn) to9) g l1 u v n w1 p r1 h158 := ⟨wq, wg, wl0, wu, wv, wn, ww, wp, wr⟩
                have hiW9 : i = W := by omega
                rw [hiW9] at hSP
                obtain ⟨P9, X9, hM9, hX9, hP9⟩ := k_setSpring (l := kl κ) (A := A) hSy9 (u := sn) (k := to9) hsn3 (by omega) hto4
                obtain ⟨fs9, ho9⟩ := hSy9.obj
                refine x_callVx C (n := 2) (qc := (RX7, TX7, 7)) (As := [vI ((sn : Nat) : Int), vI to9]) (rest := []) hM9 gL_law_X7_setSpring (by decide +kernel) ho9 rfl rfl rfl rfl (Nat.le_of_ble_eq_true rfl) ⟨by decide, by decide⟩ ⟨(by first | omega | (dsimp only; omega)), (by first | omega | (dsimp only; omega))⟩ dL_law_733 hX9 (fun rv9 h160 hp9 => ?_)
                have hk9 := hP9 rv9 h160 hp9
                obtain ⟨hc9, hz9⟩ := hk9.resolve_left (fun z9 => (by have y9 := z9.1; omega))
                obtain ⟨rfl, hS9, hkp9⟩ := hz9 mm hSP
                obtain ⟨f161, f162, f163, f164, f165, f166, f167, f168, f169⟩ := hAR9.kp hkp9
                have f170 := hkp9 9 (by decide) _ wza
                have f171 := hkp9 10 (by decide) _ wzb
                have f172 := hkp9 11 (by decide) _ wzc
                have f173 := hkp9 12 (by decide) _ wzd
                have f174 := hkp9 13 (by decide) _ wze
                have f175 := hkp9 14 (by decide) _ wzf
                have f176 := hkp9 15 (by decide) _ wzm
                refine x_iload C dL_law_736 24 rfl ?_
                refine x_icmp_ne (tgt := 745) C dL_law_738 (by decide) (by omega) (by omega) (fun c177 => ?_) (fun c177 => ?_)
                · exfalso; omega
                · skip
                  refine x_iconst C dL_law_741 1 (by decide) ?_
                  refine x_goto (tgt := 746) C dL_law_742 (by decide) ?_
                  refine x_istore C (ls' := [(0, .ref b), (1, .ref x), (2, .ref (ar 0)), (3, .ref (ar 1)), (4, .ref (ar 2)), (5, .ref (ar 3)), (6, .ref (ar 4)), (7, .ref (ar 5)), (8, .ref (ar 6)), (9, .ref (ar 7)), (10, .ref (ar 8)), (11, .ref (ar 9)), (12, .ref (ar 10)), (13, .ref (ar 11)), (14, .ref (ar 12)), (15, .ref (ar 13)), (16, .ref (ar 14)), (17, .ref (ar 15)), (18, vI ((turn : Nat) : Int)), (19, .int zz), (20, vI ((act : Nat) : Int)), (21, vI 1), (22, vI ((sn : Nat) : Int)), (23, vI to9), (24, vI due), (25, vI 1), (26, vI ((i : Nat) : Int))]) dL_law_746 (by decide) rfl ?_
                  refine x_goto (tgt := 965) C dL_law_748 (by decide) ?_
                  refine x_sub [0, 1, 2, 3, 4, 5, 6, 7, 8, 9, 10, 11, 12, 13, 14, 15, 16, 17, 18, 19, 20, 21] (ls' := [(0, .ref b), (1, .ref x), (2, .ref (ar 0)), (3, .ref (ar 1)), (4, .ref (ar 2)), (5, .ref (ar 3)), (6, .ref (ar 4)), (7, .ref (ar 5)), (8, .ref (ar 6)), (9, .ref (ar 7)), (10, .ref (ar 8)), (11, .ref (ar 9)), (12, .ref (ar 10)), (13, .ref (ar 11)), (14, .ref (ar 12)), (15, .ref (ar 13)), (16, .ref (ar 14)), (17, .ref (ar 15)), (18, vI ((turn : Nat) : Int)), (19, .int zz), (20, vI ((act : Nat) : Int)), (21, vI 1)]) rfl ?_
                  refine x_widen (m1 := n1 + 500) (m2 := n2 + 3000) (by first | omega | (dsimp only; omega)) (by first | omega | (dsimp only; omega)) ?_
                  exact K h160 (by first | exact ⟨mm, L, W, _, _, _, _, _, _, _, _, _, hS9.le (by omega), hEXL, hPKL, hAR9.kp hkp9, hSC9.kp hkp9⟩ | exact ⟨m, L, W, _, _, _, _, _, _, _, _, _, hS9.le (by omega), hEX, hPK, hAR9.kp hkp9, hSC9.kp hkp9⟩)
              · skip
                have hiW : i < W := by omega
                obtain ⟨hA7, hf8, hst, hbe, _⟩ := hSy.wrk hPK hiW
                obtain ⟨k1, k2, k3, k4, k5, k6, k7, k8⟩ := hPKL.2.2.2.2.1 i hiW
                have hst9 : 0 ≤ mm 17 0 i ∧ mm 17 0 i ≤ 95 := by rw [h17, ← (hPW i hiW).2.1]; exact hst
                have E30I : (30 + 6 * ((i : Nat) : Int)).toNat = 30 + 6 * i := by omega
                have E52 : Int.toNat (5 * ((i : Nat) : Int) + 2) = 5 * i + 2 := by omega
                have hbr9 := bI_r (∃ x, x < 96 ∧ mm 16 0 (96 * i + x) = (6 + ((sn : Nat) : Int)))
                refine x_iload C dL_law_589 25 rfl ?_
                refine x_if_eq (tgt := 728) C dL_law_591 (by decide) (by omega) (fun c178 => ?_) (fun c178 => ?_)
                · exfalso; omega
                · skip
                  refine x_bipush C dL_law_594 6 (by decide) ?_
                  refine x_iload C dL_law_596 22 rfl ?_
                  refine x_iadd C dL_law_598 ?_
                  refine x_bipush C dL_law_599 30 (by decide) ?_
                  refine x_bipush C dL_law_601 6 (by decide) ?_
                  refine x_iload C dL_law_603 26 rfl ?_
                  refine x_imul C dL_law_605 ?_
                  refine x_iadd C dL_law_606 ?_
                  refine x_aload_n C dL_law_607 3 rfl ?_
                  refine x_callSJ C (n := 3) (As := [vI (6 + (((sn : Nat) : Int))), vI (30 + (6 * (((i : Nat) : Int)))), .ref (ar 1)]) (rest := []) (c_L_has wg (by omega) (by omega)) gL_law_L_has (by decide +kernel) rfl rfl rfl (Nat.le_of_ble_eq_true rfl) ⟨by decide, by decide⟩ ⟨(by first | omega | (dsimp only; omega)), (by first | omega | (dsimp only; omega))⟩ dL_law_608 (fun rv179 h180 hp181 => ?_)
                  obtain ⟨rfl, e182⟩ := hp181
                  obtain rfl := e182.symm
                  refine x_topv (show bI (∃ j, j < 96 ∧ gk g (30 + (6 * (((i : Nat) : Int)))).toNat j = (6 + (((sn : Nat) : Int)))) = bI (∃ x, x < 96 ∧ mm 16 0 (96 * i + x) = (6 + ((sn : Nat) : Int))) from by rw [E30I]; exact has_w hPKL hiW) ?_
                  refine x_if_eq (tgt := 659) C dL_law_611 (by decide) (by omega) (fun c183 => ?_) (fun c183 => ?_)
                  · skip
                    have hno9 := c183
                    refine x_iconst C dL_law_659 0 (by decide) ?_
                    refine x_istore C (ls' := [(0, .ref b), (1, .ref x), (2, .ref (ar 0)), (3, .ref (ar 1)), (4, .ref (ar 2)), (5, .ref (ar 3)), (6, .ref (ar 4)), (7, .ref (ar 5)), (8, .ref (ar 6)), (9, .ref (ar 7)), (10, .ref (ar 8)), (11, .ref (ar 9)), (12, .ref (ar 10)), (13, .ref (ar 11)), (14, .ref (ar 12)), (15, .ref (ar 13)), (16, .ref (ar 14)), (17, .ref (ar 15)), (18, vI ((turn : Nat) : Int)), (19, .int zz), (20, vI ((act : Nat) : Int)), (21, vI 1), (22, vI ((sn : Nat) : Int)), (23, vI to9), (24, vI due), (25, vI 1), (26, vI ((i : Nat) : Int)), (27, vI 0)]) dL_law_660 (by decide) rfl ?_
                    have OV : ∀ (N3 : Nat) (y : Nat) (w2 : Nat → Int) (wv o9 : Int) (za zb zc zd ze zf zm : Nat → Int64) (h184 : vh)  (oq : h184 (ar 0) = some (eI D 5 (fu q (2 + sn) to9))) (og : h184 (ar 1) = some (eJ D 60 g)) (ol0 : h184 (ar 2) = some (eI D 20 l1)) (ou : h184 (ar 3) = some (eI D 60 u)) (ov : h184 (ar 4) = some (eI D 60 v)) (on : h184 (ar 5) = some (eI D 10 n)) (ow : h184 (ar 6) = some (eI D 25 w2)) (op : h184 (ar 7) = some (eI D 15 p)) (or : h184 (ar 8) = some (eI D 18 (erR r1 wv i y))) (oza : h184 (ar 9) = some (eJ D 64 za)) (ozb : h184 (ar 10) = some (eJ D 64 zb)) (ozc : h184 (ar 11) = some (eJ D 64 zc)) (ozd : h184 (ar 12) = some (eJ D 64 zd)) (oze : h184 (ar 13) = some (eJ D 64 ze)) (ozf : h184 (ar 14) = some (eJ D 64 zf)) (ozm : h184 (ar 15) = some (eJ D 2 zm)) (hy : y ≤ 3) (hN3 : 3 - y < N3) (ho9 : o9 = 6 * ((y : Nat) : Int)) (hwv : w2 (5 * i + 2) = wv) (hwr : -1 ≤ wv ∧ wv ≤ 7000) (hnx : ∃ m2, SPR (6 + ((sn : Nat) : Int)) (cu (cu m 1 0 (fu (m 1 0) sn to9)) 6 0 (vdF m (6 + ((sn : Nat) : Int)) L)) (i + 1) m2 ∧ EX m2 ∧ PK m2 L W (fu q (2 + sn) to9) g l1 u v n w2 p (erR r1 wv i 3)) (hSyL : Sy D x ar m L W t h184) (hSCL : SC D ar h184), X κ (n1 + 0 + 0 + 0) (n2 + 0 + 0 + 0) h184 [(0, .ref b), (1, .ref x), (2, .ref (ar 0)), (3, .ref (ar 1)), (4, .ref (ar 2)), (5, .ref (ar 3)), (6, .ref (ar 4)), (7, .ref (ar 5)), (8, .ref (ar 6)), (9, .ref (ar 7)), (10, .ref (ar 8)), (11, .ref (ar 9)), (12, .ref (ar 10)), (13, .ref (ar 11)), (14, .ref (ar 12)), (15, .ref (ar 13)), (16, .ref (ar 14)), (17, .ref (ar 15)), (18, vI ((turn : Nat) : Int)), (19, .int zz), (20, vI ((act : Nat) : Int)), (21, vI 1), (22, vI ((sn : Nat) : Int)), (23, vI to9), (24, vI due), (25, vI 1), (26, vI ((i : Nat) : Int)), (27, vI o9)] 662 [] := by
                      intro N3
                      induction N3 with
                      | zero => intro y w2 wv o9 za zb zc zd ze zf zm h184 oq og ol0 ou ov on ow op or oza ozb ozc ozd oze ozf ozm hy hN3 ho9 hwv hwr hnx hSyL hSCL; exfalso; omega
                      | succ N3 ihOV =>
                        intro y w2 wv o9 za zb zc zd ze zf zm h184 oq og ol0 ou ov on ow op or oza ozb ozc ozd oze ozf ozm hy hN3 ho9 hwv hwr hnx hSyL hSCL
                        refine x_iload C dL_law_662 27 rfl ?_
                        refine x_bipush C dL_law_664 18 (by decide) ?_
                        refine x_icmp_ge (tgt := 722) C dL_law_666 (by decide) (by omega) (by omega) (fun c185 => ?_) (fun c185 => ?_)
                        · skip
                          have hy9 : y = 3 := by omega
                          obtain ⟨m2, hn1, hn2, hn3⟩ := hnx
                          have f186 : h184 (ar 8) = some (eI D 18 (erR r1 wv i 3)) := by have q9 := or; rw [hy9] at q9; exact q9
                          refine x_iinc C (x := ((i : Nat) : Int)) (ls' := [(0, .ref b), (1, .ref x), (2, .ref (ar 0)), (3, .ref (ar 1)), (4, .ref (ar 2)), (5, .ref (ar 3)), (6, .ref (ar 4)), (7, .ref (ar 5)), (8, .ref (ar 6)), (9, .ref (ar 7)), (10, .ref (ar 8)), (11, .ref (ar 9)), (12, .ref (ar 10)), (13, .ref (ar 11)), (14, .ref (ar 12)), (15, .ref (ar 13)), (16, .ref (ar 14)), (17, .ref (ar 15)), (18, vI ((turn : Nat) : Int)), (19, .int zz), (20, vI ((act : Nat) : Int)), (21, vI 1), (22, vI ((sn : Nat) : Int)), (23, vI to9), (24, vI due), (25, vI 1), (26, vI ((((i : Nat) : Int)) + 1)), (27, vI o9)]) dL_law_722 26 rfl (by decide) rfl ?_
                          refine x_goto (tgt := 581) C dL_law_725 (by decide) ?_
                          refine x_sub [0, 1, 2, 3, 4, 5, 6, 7, 8, 9, 10, 11, 12, 13, 14, 15, 16, 17, 18, 19, 20, 21, 22, 23, 24, 25, 26] (ls' := [(0, .ref b), (1, .ref x), (2, .ref (ar 0)), (3, .ref (ar 1)), (4, .ref (ar 2)), (5, .ref (ar 3)), (6, .ref (ar 4)), (7, .ref (ar 5)), (8, .ref (ar 6)), (9, .ref (ar 7)), (10, .ref (ar 8)), (11, .ref (ar 9)), (12, .ref (ar 10)), (13, .ref (ar 11)), (14, .ref (ar 12)), (15, .ref (ar 13)), (16, .ref (ar 14)), (17, .ref (ar 15)), (18, vI ((turn : Nat) : Int)), (19, .int zz), (20, vI ((act : Nat) : Int)), (21, vI 1), (22, vI ((sn : Nat) : Int)), (23, vI to9), (24, vI due), (25, vI 1), (26, vI ((((i : Nat) : Int)) + 1))]) rfl ?_
                          exact ihWV (i + 1) m2 w2 (erR r1 wv i 3) za zb zc zd ze zf zm h184 oq og ol0 ou ov on ow op f186 oza ozb ozc ozd oze ozf ozm (by omega) (by omega) (hn1) (hn2) (hn3) (by rw []; repeat (first | exact hSy | exact hSyL | exact hSy8 | refine Sy.off ?_ (by decide))) (by rw []; repeat (first | exact hSC | exact hSCL | exact hSC8 | refine SC.off hai ?_ (by decide)))
                        · skip
                          have hy3 : y < 3 := by omega
                          obtain ⟨hr7, hr6⟩ := hr9 y hy3
                          have EO : Int.toNat o9 = 6 * y := by omega
                          have EO1 : Int.toNat (o9 + 1) = 6 * y + 1 := by omega
                          refine x_aload C dL_law_669 10 rfl ?_
                          refine x_iload C dL_law_671 27 rfl ?_
                          refine x_aload C dL_law_673 8 rfl ?_
                          refine x_iconst C dL_law_675 5 (by decide) ?_
                          refine x_iload C dL_law_676 26 rfl ?_
                          refine x_imul C dL_law_678 ?_
                          refine x_iconst C dL_law_679 2 (by decide) ?_
                          refine x_iadd C dL_law_680 ?_
                          refine x_iald C ow ⟨by omega, by omega⟩ (by decide) dL_law_681 ?_
                          refine x_topv (show w2 (Int.toNat ((5 * (((i : Nat) : Int))) + 2)) = wv from by rw [E52]; exact hwv) ?_
                          refine x_if_ge (tgt := 710) C dL_law_682 (by decide) (by omega) (fun c187 => ?_) (fun c187 => ?_)
                          · skip
                            refine x_aload C dL_law_710 10 rfl ?_
                            refine x_iload C dL_law_712 27 rfl ?_
                            refine x_iald C or ⟨by omega, by omega⟩ (by decide) dL_law_714 ?_
                            refine x_topv (show (erR r1 wv i y) (Int.toNat o9) = r1 (6 * y) from by rw [EO]; exact erR_a) ?_
                            refine x_iast C or ⟨by omega, by omega⟩ (by decide) dL_law_715 (x_hn (fun h188 e189 => ?_))
                            have f190 : h188 (ar 8) = some (eI D 18 (fu (erR r1 wv i y) (Int.toNat o9) (r1 (6 * y)))) := by rw [e189]; exact hu_s
                            have f191 : h188 (ar 8) = some (eI D 18 (erR r1 wv i (y + 1))) := by have q9 := f190; rw [EO, erR_s (r := r1) (wv := wv) (j := i) (y := y) (v := r1 (6 * y)) (by first | exact Or.inl ⟨by omega, by omega, by omega, rfl⟩ | exact Or.inr ⟨by omega, rfl⟩)] at q9; exact q9
                            refine x_iinc C (x := o9) (ls' := [(0, .ref b), (1, .ref x), (2, .ref (ar 0)), (3, .ref (ar 1)), (4, .ref (ar 2)), (5, .ref (ar 3)), (6, .ref (ar 4)), (7, .ref (ar 5)), (8, .ref (ar 6)), (9, .ref (ar 7)), (10, .ref (ar 8)), (11, .ref (ar 9)), (12, .ref (ar 10)), (13, .ref (ar 11)), (14, .ref (ar 12)), (15, .ref (ar 13)), (16, .ref (ar 14)), (17, .ref (ar 15)), (18, vI ((turn : Nat) : Int)), (19, .int zz), (20, vI ((act : Nat) : Int)), (21, vI 1), (22, vI ((sn : Nat) : Int)), (23, vI to9), (24, vI due), (25, vI 1), (26, vI ((i : Nat) : Int)), (27, vI (o9 + 6))]) dL_law_716 27 rfl (by decide) rfl ?_
                            refine x_goto (tgt := 662) C dL_law_719 (by decide) ?_
                            have f192 : h188 (ar 0) = some (eI D 5 (fu q (2 + sn) to9)) := by rw [e189, hu_n (ari hai (i := 0) (j := 8) (by decide) (by decide) (by decide))]; exact oq
                            have f193 : h188 (ar 1) = some (eJ D 60 g) := by rw [e189, hu_n (ari hai (i := 1) (j := 8) (by decide) (by decide) (by decide))]; exact og
                            have f194 : h188 (ar 2) = some (eI D 20 l1) := by rw [e189, hu_n (ari hai (i := 2) (j := 8) (by decide) (by decide) (by decide))]; exact ol0
                            have f195 : h188 (ar 3) = some (eI D 60 u) := by rw [e189, hu_n (ari hai (i := 3) (j := 8) (by decide) (by decide) (by decide))]; exact ou
                            have f196 : h188 (ar 4) = some (eI D 60 v) := by rw [e189, hu_n (ari hai (i := 4) (j := 8) (by decide) (by decide) (by decide))]; exact ov
                            have f197 : h188 (ar 5) = some (eI D 10 n) := by rw [e189, hu_n (ari hai (i := 5) (j := 8) (by decide) (by decide) (by decide))]; exact on
                            have f198 : h188 (ar 6) = some (eI D 25 w2) := by rw [e189, hu_n (ari hai (i := 6) (j := 8) (by decide) (by decide) (by decide))]; exact ow
                            have f199 : h188 (ar 7) = some (eI D 15 p) := by rw [e189, hu_n (ari hai (i := 7) (j := 8) (by decide) (by decide) (by decide))]; exact op
                            have f200 : h188 (ar 9) = some (eJ D 64 za) := by rw [e189, hu_n (ari hai (i := 9) (j := 8) (by decide) (by decide) (by decide))]; exact oza
                            have f201 : h188 (ar 10) = some (eJ D 64 zb) := by rw [e189, hu_n (ari hai (i := 10) (j := 8) (by decide) (by decide) (by decide))]; exact ozb
                            have f202 : h188 (ar 11) = some (eJ D 64 zc) := by rw [e189, hu_n (ari hai (i := 11) (j := 8) (by decide) (by decide) (by decide))]; exact ozc
                            have f203 : h188 (ar 12) = some (eJ D 64 zd) := by rw [e189, hu_n (ari hai (i := 12) (j := 8) (by decide) (by decide) (by decide))]; exact ozd
                            have f204 : h188 (ar 13) = some (eJ D 64 ze) := by rw [e189, hu_n (ari hai (i := 13) (j := 8) (by decide) (by decide) (by decide))]; exact oze
                            have f205 : h188 (ar 14) = some (eJ D 64 zf) := by rw [e189, hu_n (ari hai (i := 14) (j := 8) (by decide) (by decide) (by decide))]; exact ozf
                            have f206 : h188 (ar 15) = some (eJ D 2 zm) := by rw [e189, hu_n (ari hai (i := 15) (j := 8) (by decide) (by decide) (by decide))]; exact ozm
                            exact ihOV ((y + 1)) w2 wv (o9 + 6) za zb zc zd ze zf zm h188 f192 f193 f194 f195 f196 f197 f198 f199 f191 f200 f201 f202 f203 f204 f205 f206 (by omega) (by omega) (by omega) (hwv) (hwr) (hnx) (by rw [e189]; repeat (first | exact hSy | exact hSyL | exact hSy8 | refine Sy.off ?_ (by decide))) (by rw [e189]; repeat (first | exact hSC | exact hSCL | exact hSC8 | refine SC.off hai ?_ (by decide)))
                          · skip
                            refine x_aload C dL_law_685 10 rfl ?_
                            refine x_iload C dL_law_687 27 rfl ?_
                            refine x_iald C or ⟨by omega, by omega⟩ (by decide) dL_law_689 ?_
                            refine x_topv (show (erR r1 wv i y) (Int.toNat o9) = r1 (6 * y) from by rw [EO]; exact erR_a) ?_
                            refine x_iconst C dL_law_690 1 (by decide) ?_
                            refine x_icmp_ne (tgt := 710) C dL_law_691 (by decide) (by omega) (by omega) (fun c207 => ?_) (fun c207 => ?_)
                            · skip
                              refine x_aload C dL_law_710 10 rfl ?_
                              refine x_iload C dL_law_712 27 rfl ?_
                              refine x_iald C or ⟨by omega, by omega⟩ (by decide) dL_law_714 ?_
                              refine x_topv (show (erR r1 wv i y) (Int.toNat o9) = r1 (6 * y) from by rw [EO]; exact erR_a) ?_
                              refine x_iast C or ⟨by omega, by omega⟩ (by decide) dL_law_715 (x_hn (fun h208 e209 => ?_))
                              have f210 : h208 (ar 8) = some (eI D 18 (fu (erR r1 wv i y) (Int.toNat o9) (r1 (6 * y)))) := by rw [e209]; exact hu_s
                              have f211 : h208 (ar 8) = some (eI D 18 (erR r1 wv i (y + 1))) := by have q9 := f210; rw [EO, erR_s (r := r1) (wv := wv) (j := i) (y := y) (v := r1 (6 * y)) (by first | exact Or.inl ⟨by omega, by omega, by omega, rfl⟩ | exact Or.inr ⟨by omega, rfl⟩)] at q9; exact q9
                              refine x_iinc C (x := o9) (ls' := [(0, .ref b), (1, .ref x), (2, .ref (ar 0)), (3, .ref (ar 1)), (4, .ref (ar 2)), (5, .ref (ar 3)), (6, .ref (ar 4)), (7, .ref (ar 5)), (8, .ref (ar 6)), (9, .ref (ar 7)), (10, .ref (ar 8)), (11, .ref (ar 9)), (12, .ref (ar 10)), (13, .ref (ar 11)), (14, .ref (ar 12)), (15, .ref (ar 13)), (16, .ref (ar 14)), (17, .ref (ar 15)), (18, vI ((turn : Nat) : Int)), (19, .int zz), (20, vI ((act : Nat) : Int)), (21, vI 1), (22, vI ((sn : Nat) : Int)), (23, vI to9), (24, vI due), (25, vI 1), (26, vI ((i : Nat) : Int)), (27, vI (o9 + 6))]) dL_law_716 27 rfl (by decide) rfl ?_
                              refine x_goto (tgt := 662) C dL_law_719 (by decide) ?_
                              have f212 : h208 (ar 0) = some (eI D 5 (fu q (2 + sn) to9)) := by rw [e209, hu_n (ari hai (i := 0) (j := 8) (by decide) (by decide) (by decide))]; exact oq
                              have f213 : h208 (ar 1) = some (eJ D 60 g) := by rw [e209, hu_n (ari hai (i := 1) (j := 8) (by decide) (by decide) (by decide))]; exact og
                              have f214 : h208 (ar 2) = some (eI D 20 l1) := by rw [e209, hu_n (ari hai (i := 2) (j := 8) (by decide) (by decide) (by decide))]; exact ol0
                              have f215 : h208 (ar 3) = some (eI D 60 u) := by rw [e209, hu_n (ari hai (i := 3) (j := 8) (by decide) (by decide) (by decide))]; exact ou
                              have f216 : h208 (ar 4) = some (eI D 60 v) := by rw [e209, hu_n (ari hai (i := 4) (j := 8) (by decide) (by decide) (by decide))]; exact ov
                              have f217 : h208 (ar 5) = some (eI D 10 n) := by rw [e209, hu_n (ari hai (i := 5) (j := 8) (by decide) (by decide) (by decide))]; exact on
                              have f218 : h208 (ar 6) = some (eI D 25 w2) := by rw [e209, hu_n (ari hai (i := 6) (j := 8) (by decide) (by decide) (by decide))]; exact ow
                              have f219 : h208 (ar 7) = some (eI D 15 p) := by rw [e209, hu_n (ari hai (i := 7) (j := 8) (by decide) (by decide) (by decide))]; exact op
                              have f220 : h208 (ar 9) = some (eJ D 64 za) := by rw [e209, hu_n (ari hai (i := 9) (j := 8) (by decide) (by decide) (by decide))]; exact oza
                              have f221 : h208 (ar 10) = some (eJ D 64 zb) := by rw [e209, hu_n (ari hai (i := 10) (j := 8) (by decide) (by decide) (by decide))]; exact ozb
                              have f222 : h208 (ar 11) = some (eJ D 64 zc) := by rw [e209, hu_n (ari hai (i := 11) (j := 8) (by decide) (by decide) (by decide))]; exact ozc
                              have f223 : h208 (ar 12) = some (eJ D 64 zd) := by rw [e209, hu_n (ari hai (i := 12) (j := 8) (by decide) (by decide) (by decide))]; exact ozd
                              have f224 : h208 (ar 13) = some (eJ D 64 ze) := by rw [e209, hu_n (ari hai (i := 13) (j := 8) (by decide) (by decide) (by decide))]; exact oze
                              have f225 : h208 (ar 14) = some (eJ D 64 zf) := by rw [e209, hu_n (ari hai (i := 14) (j := 8) (by decide) (by decide) (by decide))]; exact ozf
                              have f226 : h208 (ar 15) = some (eJ D 2 zm) := by rw [e209, hu_n (ari hai (i := 15) (j := 8) (by decide) (by decide) (by decide))]; exact ozm
                              exact ihOV ((y + 1)) w2 wv (o9 + 6) za zb zc zd ze zf zm h208 f212 f213 f214 f215 f216 f217 f218 f219 f211 f220 f221 f222 f223 f224 f225 f226 (by omega) (by omega) (by omega) (hwv) (hwr) (hnx) (by rw [e209]; repeat (first | exact hSy | exact hSyL | exact hSy8 | refine Sy.off ?_ (by decide))) (by rw [e209]; repeat (first | exact hSC | exact hSCL | exact hSC8 | refine SC.off hai ?_ (by decide)))
                            · skip
                              refine x_aload C dL_law_694 10 rfl ?_
                              refine x_iload C dL_law_696 27 rfl ?_
                              refine x_iconst C dL_law_698 1 (by decide) ?_
                              refine x_iadd C dL_law_699 ?_
                              refine x_iald C or ⟨by omega, by omega⟩ (by decide) dL_law_700 ?_
                              refine x_topv (show (erR r1 wv i y) (Int.toNat (o9 + 1)) = r1 (6 * y + 1) from by rw [EO1]; exact erR_b) ?_
                              refine x_iload C dL_law_701 26 rfl ?_
                              refine x_icmp_ne (tgt := 710) C dL_law_703 (by decide) (by omega) (by omega) (fun c227 => ?_) (fun c227 => ?_)
                              · skip
                                refine x_aload C dL_law_710 10 rfl ?_
                                refine x_iload C dL_law_712 27 rfl ?_
                                refine x_iald C or ⟨by omega, by omega⟩ (by decide) dL_law_714 ?_
                                refine x_topv (show (erR r1 wv i y) (Int.toNat o9) = r1 (6 * y) from by rw [EO]; exact erR_a) ?_
                                refine x_iast C or ⟨by omega, by omega⟩ (by decide) dL_law_715 (x_hn (fun h228 e229 => ?_))
                                have f230 : h228 (ar 8) = some (eI D 18 (fu (erR r1 wv i y) (Int.toNat o9) (r1 (6 * y)))) := by rw [e229]; exact hu_s
                                have f231 : h228 (ar 8) = some (eI D 18 (erR r1 wv i (y + 1))) := by have q9 := f230; rw [EO, erR_s (r := r1) (wv := wv) (j := i) (y := y) (v := r1 (6 * y)) (by first | exact Or.inl ⟨by omega, by omega, by omega, rfl⟩ | exact Or.inr ⟨by omega, rfl⟩)] at q9; exact q9
                                refine x_iinc C (x := o9) (ls' := [(0, .ref b), (1, .ref x), (2, .ref (ar 0)), (3, .ref (ar 1)), (4, .ref (ar 2)), (5, .ref (ar 3)), (6, .ref (ar 4)), (7, .ref (ar 5)), (8, .ref (ar 6)), (9, .ref (ar 7)), (10, .ref (ar 8)), (11, .ref (ar 9)), (12, .ref (ar 10)), (13, .ref (ar 11)), (14, .ref (ar 12)), (15, .ref (ar 13)), (16, .ref (ar 14)), (17, .ref (ar 15)), (18, vI ((turn : Nat) : Int)), (19, .int zz), (20, vI ((act : Nat) : Int)), (21, vI 1), (22, vI ((sn : Nat) : Int)), (23, vI to9), (24, vI due), (25, vI 1), (26, vI ((i : Nat) : Int)), (27, vI (o9 + 6))]) dL_law_716 27 rfl (by decide) rfl ?_
                                refine x_goto (tgt := 662) C dL_law_719 (by decide) ?_
                                have f232 : h228 (ar 0) = some (eI D 5 (fu q (2 + sn) to9)) := by rw [e229, hu_n (ari hai (i := 0) (j := 8) (by decide) (by decide) (by decide))]; exact oq
                                have f233 : h228 (ar 1) = some (eJ D 60 g) := by rw [e229, hu_n (ari hai (i := 1) (j := 8) (by decide) (by decide) (by decide))]; exact og
                                have f234 : h228 (ar 2) = some (eI D 20 l1) := by rw [e229, hu_n (ari hai (i := 2) (j := 8) (by decide) (by decide) (by decide))]; exact ol0
                                have f235 : h228 (ar 3) = some (eI D 60 u) := by rw [e229, hu_n (ari hai (i := 3) (j := 8) (by decide) (by decide) (by decide))]; exact ou
                                have f236 : h228 (ar 4) = some (eI D 60 v) := by rw [e229, hu_n (ari hai (i := 4) (j := 8) (by decide) (by decide) (by decide))]; exact ov
                                have f237 : h228 (ar 5) = some (eI D 10 n) := by rw [e229, hu_n (ari hai (i := 5) (j := 8) (by decide) (by decide) (by decide))]; exact on
                                have f238 : h228 (ar 6) = some (eI D 25 w2) := by rw [e229, hu_n (ari hai (i := 6) (j := 8) (by decide) (by decide) (by decide))]; exact ow
                                have f239 : h228 (ar 7) = some (eI D 15 p) := by rw [e229, hu_n (ari hai (i := 7) (j := 8) (by decide) (by decide) (by decide))]; exact op
                                have f240 : h228 (ar 9) = some (eJ D 64 za) := by rw [e229, hu_n (ari hai (i := 9) (j := 8) (by decide) (by decide) (by decide))]; exact oza
                                have f241 : h228 (ar 10) = some (eJ D 64 zb) := by rw [e229, hu_n (ari hai (i := 10) (j := 8) (by decide) (by decide) (by decide))]; exact ozb
                                have f242 : h228 (ar 11) = some (eJ D 64 zc) := by rw [e229, hu_n (ari hai (i := 11) (j := 8) (by decide) (by decide) (by decide))]; exact ozc
                                have f243 : h228 (ar 12) = some (eJ D 64 zd) := by rw [e229, hu_n (ari hai (i := 12) (j := 8) (by decide) (by decide) (by decide))]; exact ozd
                                have f244 : h228 (ar 13) = some (eJ D 64 ze) := by rw [e229, hu_n (ari hai (i := 13) (j := 8) (by decide) (by decide) (by decide))]; exact oze
                                have f245 : h228 (ar 14) = some (eJ D 64 zf) := by rw [e229, hu_n (ari hai (i := 14) (j := 8) (by decide) (by decide) (by decide))]; exact ozf
                                have f246 : h228 (ar 15) = some (eJ D 2 zm) := by rw [e229, hu_n (ari hai (i := 15) (j := 8) (by decide) (by decide) (by decide))]; exact ozm
                                exact ihOV ((y + 1)) w2 wv (o9 + 6) za zb zc zd ze zf zm h228 f232 f233 f234 f235 f236 f237 f238 f239 f231 f240 f241 f242 f243 f244 f245 f246 (by omega) (by omega) (by omega) (hwv) (hwr) (hnx) (by rw [e229]; repeat (first | exact hSy | exact hSyL | exact hSy8 | refine Sy.off ?_ (by decide))) (by rw [e229]; repeat (first | exact hSC | exact hSCL | exact hSC8 | refine SC.off hai ?_ (by decide)))
                              · skip
                                refine x_iconst C dL_law_706 4 (by decide) ?_
                                refine x_goto (tgt := 715) C dL_law_707 (by decide) ?_
                                refine x_iast C or ⟨by omega, by omega⟩ (by decide) dL_law_715 (x_hn (fun h247 e248 => ?_))
                                have f249 : h247 (ar 8) = some (eI D 18 (fu (erR r1 wv i y) (Int.toNat o9) 4)) := by rw [e248]; exact hu_s
                                have f250 : h247 (ar 8) = some (eI D 18 (erR r1 wv i (y + 1))) := by have q9 := f249; rw [EO, erR_s (r := r1) (wv := wv) (j := i) (y := y) (v := 4) (by first | exact Or.inl ⟨by omega, by omega, by omega, rfl⟩ | exact Or.inr ⟨by omega, rfl⟩)] at q9; exact q9
                                refine x_iinc C (x := o9) (ls' := [(0, .ref b), (1, .ref x), (2, .ref (ar 0)), (3, .ref (ar 1)), (4, .ref (ar 2)), (5, .ref (ar 3)), (6, .ref (ar 4)), (7, .ref (ar 5)), (8, .ref (ar 6)), (9, .ref (ar 7)), (10, .ref (ar 8)), (11, .ref (ar 9)), (12, .ref (ar 10)), (13, .ref (ar 11)), (14, .ref (ar 12)), (15, .ref (ar 13)), (16, .ref (ar 14)), (17, .ref (ar 15)), (18, vI ((turn : Nat) : Int)), (19, .int zz), (20, vI ((act : Nat) : Int)), (21, vI 1), (22, vI ((sn : Nat) : Int)), (23, vI to9), (24, vI due), (25, vI 1), (26, vI ((i : Nat) : Int)), (27, vI (o9 + 6))]) dL_law_716 27 rfl (by decide) rfl ?_
                                refine x_goto (tgt := 662) C dL_law_719 (by decide) ?_
                                have f251 : h247 (ar 0) = some (eI D 5 (fu q (2 + sn) to9)) := by rw [e248, hu_n (ari hai (i := 0) (j := 8) (by decide) (by decide) (by decide))]; exact oq
                                have f252 : h247 (ar 1) = some (eJ D 60 g) := by rw [e248, hu_n (ari hai (i := 1) (j := 8) (by decide) (by decide) (by decide))]; exact og
                                have f253 : h247 (ar 2) = some (eI D 20 l1) := by rw [e248, hu_n (ari hai (i := 2) (j := 8) (by decide) (by decide) (by decide))]; exact ol0
                                have f254 : h247 (ar 3) = some (eI D 60 u) := by rw [e248, hu_n (ari hai (i := 3) (j := 8) (by decide) (by decide) (by decide))]; exact ou
                                have f255 : h247 (ar 4) = some (eI D 60 v) := by rw [e248, hu_n (ari hai (i := 4) (j := 8) (by decide) (by decide) (by decide))]; exact ov
                                have f256 : h247 (ar 5) = some (eI D 10 n) := by rw [e248, hu_n (ari hai (i := 5) (j := 8) (by decide) (by decide) (by decide))]; exact on
                                have f257 : h247 (ar 6) = some (eI D 25 w2) := by rw [e248, hu_n (ari hai (i := 6) (j := 8) (by decide) (by decide) (by decide))]; exact ow
                                have f258 : h247 (ar 7) = some (eI D 15 p) := by rw [e248, hu_n (ari hai (i := 7) (j := 8) (by decide) (by decide) (by decide))]; exact op
                                have f259 : h247 (ar 9) = some (eJ D 64 za) := by rw [e248, hu_n (ari hai (i := 9) (j := 8) (by decide) (by decide) (by decide))]; exact oza
                                have f260 : h247 (ar 10) = some (eJ D 64 zb) := by rw [e248, hu_n (ari hai (i := 10) (j := 8) (by decide) (by decide) (by decide))]; exact ozb
                                have f261 : h247 (ar 11) = some (eJ D 64 zc) := by rw [e248, hu_n (ari hai (i := 11) (j := 8) (by decide) (by decide) (by decide))]; exact ozc
                                have f262 : h247 (ar 12) = some (eJ D 64 zd) := by rw [e248, hu_n (ari hai (i := 12) (j := 8) (by decide) (by decide) (by decide))]; exact ozd
                                have f263 : h247 (ar 13) = some (eJ D 64 ze) := by rw [e248, hu_n (ari hai (i := 13) (j := 8) (by decide) (by decide) (by decide))]; exact oze
                                have f264 : h247 (ar 14) = some (eJ D 64 zf) := by rw [e248, hu_n (ari hai (i := 14) (j := 8) (by decide) (by decide) (by decide))]; exact ozf
                                have f265 : h247 (ar 15) = some (eJ D 2 zm) := by rw [e248, hu_n (ari hai (i := 15) (j := 8) (by decide) (by decide) (by decide))]; exact ozm
                                exact ihOV ((y + 1)) w2 wv (o9 + 6) za zb zc zd ze zf zm h247 f251 f252 f253 f254 f255 f256 f257 f258 f250 f259 f260 f261 f262 f263 f264 f265 (by omega) (by omega) (by omega) (hwv) (hwr) (hnx) (by rw [e248]; repeat (first | exact hSy | exact hSyL | exact hSy8 | refine Sy.off ?_ (by decide))) (by rw [e248]; repeat (first | exact hSC | exact hSCL | exact hSC8 | refine SC.off hai ?_ (by decide)))
                    have hbe18 : -1 ≤ mm 18 0 i ∧ mm 18 0 i ≤ 7000 := SPR18 hSP hSy hPK hiW
                    exact OV (4) 0 w1 ((w1 (5 * i + 2))) 0 za zb zc zd ze zf zm h158 wq wg wl0 wu wv wn ww wp (by have q9 := wr; rw [← erR_0 (r := r1) (wv := (w1 (5 * i + 2))) (j := i)] at q9; exact q9) wza wzb wzc wzd wze wzf wzm (by omega) (by omega) (rfl) (rfl) (by rw [k3]; exact hbe18) (⟨mm, ⟨mm, hSP, Or.inl ⟨hno9, rfl⟩⟩, hEXL, by rw [erR_id hPKL hEXL hiW]; exact hPKL⟩) (by rw []; repeat (first | exact hSy | exact hSyL | exact hSy8 | refine Sy.off ?_ (by decide))) (by rw []; repeat (first | exact hSC | exact hSCL | exact hSC8 | refine SC.off hai ?_ (by decide)))
                  · skip
                    have hys9 := c183
                    refine x_aload C dL_law_614 8 rfl ?_
                    refine x_iconst C dL_law_616 5 (by decide) ?_
                    refine x_iload C dL_law_617 26 rfl ?_
                    refine x_imul C dL_law_619 ?_
                    refine x_iconst C dL_law_620 2 (by decide) ?_
                    refine x_iadd C dL_law_621 ?_
                    refine x_aload C dL_law_622 8 rfl ?_
                    refine x_iconst C dL_law_624 5 (by decide) ?_
                    refine x_iload C dL_law_625 26 rfl ?_
                    refine x_imul C dL_law_627 ?_
                    refine x_iconst C dL_law_628 1 (by decide) ?_
                    refine x_iadd C dL_law_629 ?_
                    refine x_iald C ww ⟨by omega, by omega⟩ (by decide) dL_law_630 ?_
                    refine x_topv (show w1 (Int.toNat ((5 * (((i : Nat) : Int))) + 1)) = mm 17 0 i from by rw [show Int.toNat (5 * ((i : Nat) : Int) + 1) = 5 * i + 1 by omega]; exact k2) ?_
                    refine x_bipush C dL_law_631 30 (by decide) ?_
                    refine x_bipush C dL_law_633 6 (by decide) ?_
                    refine x_iload C dL_law_635 26 rfl ?_
                    refine x_imul C dL_law_637 ?_
                    refine x_iadd C dL_law_638 ?_
                    refine x_aload_n C dL_law_639 2 rfl ?_
                    refine x_aload_n C dL_law_640 3 rfl ?_
                    refine x_aload C dL_law_641 11 rfl ?_
                    refine x_aload C dL_law_643 12 rfl ?_
                    refine x_aload C dL_law_645 13 rfl ?_
                    refine x_aload C dL_law_647 14 rfl ?_
                    refine x_aload C dL_law_649 15 rfl ?_
                    refine x_aload C dL_law_651 16 rfl ?_
                    refine x_aload C dL_law_653 17 rfl ?_
                    refine x_callSJ C (n := 11) (As := [vI (mm 17 0 i), vI (30 + (6 * (((i : Nat) : Int)))), .ref (ar 0), .ref (ar 1), .ref (ar 9), .ref (ar 10), .ref (ar 11), .ref (ar 12), .ref (ar 13), .ref (ar 14), .ref (ar 15)]) (rest := [vI ((5 * (((i : Nat) : Int))) + 2), .ref (ar 6)]) (c_L_search (S := (mm 1 0)) wg wq wza wzb wzc wzd wze wzf wzm (by omega) (by omega) (hPKL.qs) (by rw [h1m]; exact hS4) (by rw [E30I]; exact hA7) (by rw [E30I]; exact hf8) (ari hai (by decide) (by decide) (by decide)) (ari hai (by decide) (by decide) (by decide)) (ari hai (by decide) (by decide) (by decide)) (ari hai (by decide) (by decide) (by decide)) (ari hai (by decide) (by decide) (by decide)) (ari hai (by decide) (by decide) (by decide)) (ari hai (by decide) (by decide) (by decide)) (ari hai (by decide) (by decide) (by decide)) (ari hai (by decide) (by decide) (by decide)) (ari hai (by decide) (by decide) (by decide)) (ari hai (by decide) (by decide) (by decide)) (ari hai (by decide) (by decide) (by decide)) (ari hai (by decide) (by decide) (by decide)) (ari hai (by decide) (by decide) (by decide)) (ari hai (by decide) (by decide) (by decide))) gL_law_L_search (by decide +kernel) rfl rfl rfl (Nat.le_of_ble_eq_true rfl) ⟨by decide, by decide⟩ ⟨(by first | omega | (dsimp only; omega)), (by first | omega | (dsimp only; omega))⟩ dL_law_655 (fun rv266 h267 hp268 => ?_)
                    obtain ⟨ya, yb, yc, yd, ye, yf, ym, w9, rfl, ⟨ga, gb, gc, gd, ge, gf, gm⟩, hfr9, hwr9, hFn9, hSn9⟩ := hp268
                    have hSC8 : SC D ar h267 := ⟨ya, yb, yc, yd, ye, yf, ym, ga, gb, gc, gd, ge, gf, gm⟩
                    have hAR8 := AR.fr hai (show AR D ar (fu q (2 + sn) to9) g l1 u v n w1 p r1 h158 from ⟨wq, wg, wl0, wu, wv, wn, ww, wp, wr⟩) hfr9
                    have hSy8 : Sy D x ar m L W t h267 := Sy.fr (h := h158) (by repeat (first | exact hSy | exact hSyL | refine Sy.off ?_ (by decide))) hfr9
                    obtain ⟨f270, f271, f272, f273, f274, f275, f276, f277, f278⟩ := id hAR8
                    rw [E30I] at hFn9 hSn9
                    have hFd9 : FdR mm (rwM (mm 16 0) (96 * i)) (mm 17 0 i) w9 := by
                      unfold FdR
                      rw [hPKL.gw hiW, hEXL.1, hEXL.2.1, lyG_0g]
                      exact hFn9
                    refine x_iast C f276 ⟨by omega, by omega⟩ (by decide) dL_law_658 (x_hn (fun h279 e280 => ?_))
                    have f281 : h279 (ar 6) = some (eI D 25 (fu w1 (Int.toNat ((5 * (((i : Nat) : Int))) + 2)) w9)) := by rw [e280]; exact hu_s
                    have f282 : h279 (ar 6) = some (eI D 25 (fu w1 (5 * i + 2) w9)) := by have q9 := f281; rw [E52] at q9; exact q9
                    refine x_iconst C dL_law_659 0 (by decide) ?_
                    refine x_istore C (ls' := [(0, .ref b), (1, .ref x), (2, .ref (ar 0)), (3, .ref (ar 1)), (4, .ref (ar 2)), (5, .ref (ar 3)), (6, .ref (ar 4)), (7, .ref (ar 5)), (8, .ref (ar 6)), (9, .ref (ar 7)), (10, .ref (ar 8)), (11, .ref (ar 9)), (12, .ref (ar 10)), (13, .ref (ar 11)), (14, .ref (ar 12)), (15, .ref (ar 13)), (16, .ref (ar 14)), (17, .ref (ar 15)), (18, vI ((turn : Nat) : Int)), (19, .int zz), (20, vI ((act : Nat) : Int)), (21, vI 1), (22, vI ((sn : Nat) : Int)), (23, vI to9), (24, vI due), (25, vI 1), (26, vI ((i : Nat) : Int)), (27, vI 0)]) dL_law_660 (by decide) rfl ?_
                    have OV : ∀ (N3 : Nat) (y : Nat) (w2 : Nat → Int) (wv o9 : Int) (za zb zc zd ze zf zm : Nat → Int64) (h283 : vh)  (oq : h283 (ar 0) = some (eI D 5 (fu q (2 + sn) to9))) (og : h283 (ar 1) = some (eJ D 60 g)) (ol0 : h283 (ar 2) = some (eI D 20 l1)) (ou : h283 (ar 3) = some (eI D 60 u)) (ov : h283 (ar 4) = some (eI D 60 v)) (on : h283 (ar 5) = some (eI D 10 n)) (ow : h283 (ar 6) = some (eI D 25 w2)) (op : h283 (ar 7) = some (eI D 15 p)) (or : h283 (ar 8) = some (eI D 18 (erR r1 wv i y))) (oza : h283 (ar 9) = some (eJ D 64 za)) (ozb : h283 (ar 10) = some (eJ D 64 zb)) (ozc : h283 (ar 11) = some (eJ D 64 zc)) (ozd : h283 (ar 12) = some (eJ D 64 zd)) (oze : h283 (ar 13) = some (eJ D 64 ze)) (ozf : h283 (ar 14) = some (eJ D 64 zf)) (ozm : h283 (ar 15) = some (eJ D 2 zm)) (hy : y ≤ 3) (hN3 : 3 - y < N3) (ho9 : o9 = 6 * ((y : Nat) : Int)) (hwv : w2 (5 * i + 2) = wv) (hwr : -1 ≤ wv ∧ wv ≤ 7000) (hnx : ∃ m2, SPR (6 + ((sn : Nat) : Int)) (cu (cu m 1 0 (fu (m 1 0) sn to9)) 6 0 (vdF m (6 + ((sn : Nat) : Int)) L)) (i + 1) m2 ∧ EX m2 ∧ PK m2 L W (fu q (2 + sn) to9) g l1 u v n w2 p (erR r1 wv i 3)) (hSyL : Sy D x ar m L W t h283) (hSCL : SC D ar h283), X κ (n1 + 0 + 0 + 0 + 0) (n2 + 0 + 0 + 0 + 0) h283 [(0, .ref b), (1, .ref x), (2, .ref (ar 0)), (3, .ref (ar 1)), (4, .ref (ar 2)), (5, .ref (ar 3)), (6, .ref (ar 4)), (7, .ref (ar 5)), (8, .ref (ar 6)), (9, .ref (ar 7)), (10, .ref (ar 8)), (11, .ref (ar 9)), (12, .ref (ar 10)), (13, .ref (ar 11)), (14, .ref (ar 12)), (15, .ref (ar 13)), (16, .ref (ar 14)), (17, .ref (ar 15)), (18, vI ((turn : Nat) : Int)), (19, .int zz), (20, vI ((act : Nat) : Int)), (21, vI 1), (22, vI ((sn : Nat) : Int)), (23, vI to9), (24, vI due), (25, vI 1), (26, vI ((i : Nat) : Int)), (27, vI o9)] 662 [] := by
                      intro N3
                      induction N3 with
                      | zero => intro y w2 wv o9 za zb zc zd ze zf zm h283 oq og ol0 ou ov on ow op or oza ozb ozc ozd oze ozf ozm hy hN3 ho9 hwv hwr hnx hSyL hSCL; exfalso; omega
                      | succ N3 ihOV =>
                        intro y w2 wv o9 za zb zc zd ze zf zm h283 oq og ol0 ou ov on ow op or oza ozb ozc ozd oze ozf ozm hy hN3 ho9 hwv hwr hnx hSyL hSCL
                        refine x_iload C dL_law_662 27 rfl ?_
                        refine x_bipush C dL_law_664 18 (by decide) ?_
                        refine x_icmp_ge (tgt := 722) C dL_law_666 (by decide) (by omega) (by omega) (fun c284 => ?_) (fun c284 => ?_)
                        · skip
                          have hy9 : y = 3 := by omega
                          obtain ⟨m2, hn1, hn2, hn3⟩ := hnx
                          have f285 : h283 (ar 8) = some (eI D 18 (erR r1 wv i 3)) := by have q9 := or; rw [hy9] at q9; exact q9
                          refine x_iinc C (x := ((i : Nat) : Int)) (ls' := [(0, .ref b), (1, .ref x), (2, .ref (ar 0)), (3, .ref (ar 1)), (4, .ref (ar 2)), (5, .ref (ar 3)), (6, .ref (ar 4)), (7, .ref (ar 5)), (8, .ref (ar 6)), (9, .ref (ar 7)), (10, .ref (ar 8)), (11, .ref (ar 9)), (12, .ref (ar 10)), (13, .ref (ar 11)), (14, .ref (ar 12)), (15, .ref (ar 13)), (16, .ref (ar 14)), (17, .ref (ar 15)), (18, vI ((turn : Nat) : Int)), (19, .int zz), (20, vI ((act : Nat) : Int)), (21, vI 1), (22, vI ((sn : Nat) : Int)), (23, vI to9), (24, vI due), (25, vI 1), (26, vI ((((i : Nat) : Int)) + 1)), (27, vI o9)]) dL_law_722 26 rfl (by decide) rfl ?_
                          refine x_goto (tgt := 581) C dL_law_725 (by decide) ?_
                          refine x_sub [0, 1, 2, 3, 4, 5, 6, 7, 8, 9, 10, 11, 12, 13, 14, 15, 16, 17, 18, 19, 20, 21, 22, 23, 24, 25, 26] (ls' := [(0, .ref b), (1, .ref x), (2, .ref (ar 0)), (3, .ref (ar 1)), (4, .ref (ar 2)), (5, .ref (ar 3)), (6, .ref (ar 4)), (7, .ref (ar 5)), (8, .ref (ar 6)), (9, .ref (ar 7)), (10, .ref (ar 8)), (11, .ref (ar 9)), (12, .ref (ar 10)), (13, .ref (ar 11)), (14, .ref (ar 12)), (15, .ref (ar 13)), (16, .ref (ar 14)), (17, .ref (ar 15)), (18, vI ((turn : Nat) : Int)), (19, .int zz), (20, vI ((act : Nat) : Int)), (21, vI 1), (22, vI ((sn : Nat) : Int)), (23, vI to9), (24, vI due), (25, vI 1), (26, vI ((((i : Nat) : Int)) + 1))]) rfl ?_
                          exact ihWV (i + 1) m2 w2 (erR r1 wv i 3) za zb zc zd ze zf zm h283 oq og ol0 ou ov on ow op f285 oza ozb ozc ozd oze ozf ozm (by omega) (by omega) (hn1) (hn2) (hn3) (by rw []; repeat (first | exact hSy | exact hSyL | exact hSy8 | refine Sy.off ?_ (by decide))) (by rw []; repeat (first | exact hSC | exact hSCL | exact hSC8 | refine SC.off hai ?_ (by decide)))
                        · skip
                          have hy3 : y < 3 := by omega
                          obtain ⟨hr7, hr6⟩ := hr9 y hy3
                          have EO : Int.toNat o9 = 6 * y := by omega
                          have EO1 : Int.toNat (o9 + 1) = 6 * y + 1 := by omega
                          refine x_aload C dL_law_669 10 rfl ?_
                          refine x_iload C dL_law_671 27 rfl ?_
                          refine x_aload C dL_law_673 8 rfl ?_
                          refine x_iconst C dL_law_675 5 (by decide) ?_
                          refine x_iload C dL_law_676 26 rfl ?_
                          refine x_imul C dL_law_678 ?_
                          refine x_iconst C dL_law_679 2 (by decide) ?_
                          refine x_iadd C dL_law_680 ?_
                          refine x_iald C ow ⟨by omega, by omega⟩ (by decide) dL_law_681 ?_
                          refine x_topv (show w2 (Int.toNat ((5 * (((i : Nat) : Int))) + 2)) = wv from by rw [E52]; exact hwv) ?_
                          refine x_if_ge (tgt := 710) C dL_law_682 (by decide) (by omega) (fun c286 => ?_) (fun c286 => ?_)
                          · skip
                            refine x_aload C dL_law_710 10 rfl ?_
                            refine x_iload C dL_law_712 27 rfl ?_
                            refine x_iald C or ⟨by omega, by omega⟩ (by decide) dL_law_714 ?_
                            refine x_topv (show (erR r1 wv i y) (Int.toNat o9) = r1 (6 * y) from by rw [EO]; exact erR_a) ?_
                            refine x_iast C or ⟨by omega, by omega⟩ (by decide) dL_law_715 (x_hn (fun h287 e288 => ?_))
                            have f289 : h287 (ar 8) = some (eI D 18 (fu (erR r1 wv i y) (Int.toNat o9) (r1 (6 * y)))) := by rw [e288]; exact hu_s
                            have f290 : h287 (ar 8) = some (eI D 18 (erR r1 wv i (y + 1))) := by have q9 := f289; rw [EO, erR_s (r := r1) (wv := wv) (j := i) (y := y) (v := r1 (6 * y)) (by first | exact Or.inl ⟨by omega, by omega, by omega, rfl⟩ | exact Or.inr ⟨by omega, rfl⟩)] at q9; exact q9
                            refine x_iinc C (x := o9) (ls' := [(0, .ref b), (1, .ref x), (2, .ref (ar 0)), (3, .ref (ar 1)), (4, .ref (ar 2)), (5, .ref (ar 3)), (6, .ref (ar 4)), (7, .ref (ar 5)), (8, .ref (ar 6)), (9, .ref (ar 7)), (10, .ref (ar 8)), (11, .ref (ar 9)), (12, .ref (ar 10)), (13, .ref (ar 11)), (14, .ref (ar 12)), (15, .ref (ar 13)), (16, .ref (ar 14)), (17, .ref (ar 15)), (18, vI ((turn : Nat) : Int)), (19, .int zz), (20, vI ((act : Nat) : Int)), (21, vI 1), (22, vI ((sn : Nat) : Int)), (23, vI to9), (24, vI due), (25, vI 1), (26, vI ((i : Nat) : Int)), (27, vI (o9 + 6))]) dL_law_716 27 rfl (by decide) rfl ?_
                            refine x_goto (tgt := 662) C dL_law_719 (by decide) ?_
                            have f291 : h287 (ar 0) = some (eI D 5 (fu q (2 + sn) to9)) := by rw [e288, hu_n (ari hai (i := 0) (j := 8) (by decide) (by decide) (by decide))]; exact oq
                            have f292 : h287 (ar 1) = some (eJ D 60 g) := by rw [e288, hu_n (ari hai (i := 1) (j := 8) (by decide) (by decide) (by decide))]; exact og
                            have f293 : h287 (ar 2) = some (eI D 20 l1) := by rw [e288, hu_n (ari hai (i := 2) (j := 8) (by decide) (by decide) (by decide))]; exact ol0
                            have f294 : h287 (ar 3) = some (eI D 60 u) := by rw [e288, hu_n (ari hai (i := 3) (j := 8) (by decide) (by decide) (by decide))]; exact ou
                            have f295 : h287 (ar 4) = some (eI D 60 v) := by rw [e288, hu_n (ari hai (i := 4) (j := 8) (by decide) (by decide) (by decide))]; exact ov
                            have f296 : h287 (ar 5) = some (eI D 10 n) := by rw [e288, hu_n (ari hai (i := 5) (j := 8) (by decide) (by decide) (by decide))]; exact on
                            have f297 : h287 (ar 6) = some (eI D 25 w2) := by rw [e288, hu_n (ari hai (i := 6) (j := 8) (by decide) (by decide) (by decide))]; exact ow
                            have f298 : h287 (ar 7) = some (eI D 15 p) := by rw [e288, hu_n (ari hai (i := 7) (j := 8) (by decide) (by decide) (by decide))]; exact op
                            have f299 : h287 (ar 9) = some (eJ D 64 za) := by rw [e288, hu_n (ari hai (i := 9) (j := 8) (by decide) (by decide) (by decide))]; exact oza
                            have f300 : h287 (ar 10) = some (eJ D 64 zb) := by rw [e288, hu_n (ari hai (i := 10) (j := 8) (by decide) (by decide) (by decide))]; exact ozb
                            have f301 : h287 (ar 11) = some (eJ D 64 zc) := by rw [e288, hu_n (ari hai (i := 11) (j := 8) (by decide) (by decide) (by decide))]; exact ozc
                            have f302 : h287 (ar 12) = some (eJ D 64 zd) := by rw [e288, hu_n (ari hai (i := 12) (j := 8) (by decide) (by decide) (by decide))]; exact ozd
                            have f303 : h287 (ar 13) = some (eJ D 64 ze) := by rw [e288, hu_n (ari hai (i := 13) (j := 8) (by decide) (by decide) (by decide))]; exact oze
                            have f304 : h287 (ar 14) = some (eJ D 64 zf) := by rw [e288, hu_n (ari hai (i := 14) (j := 8) (by decide) (by decide) (by decide))]; exact ozf
                            have f305 : h287 (ar 15) = some (eJ D 2 zm) := by rw [e288, hu_n (ari hai (i := 15) (j := 8) (by decide) (by decide) (by decide))]; exact ozm
                            exact ihOV ((y + 1)) w2 wv (o9 + 6) za zb zc zd ze zf zm h287 f291 f292 f293 f294 f295 f296 f297 f298 f290 f299 f300 f301 f302 f303 f304 f305 (by omega) (by omega) (by omega) (hwv) (hwr) (hnx) (by rw [e288]; repeat (first | exact hSy | exact hSyL | exact hSy8 | refine Sy.off ?_ (by decide))) (by rw [e288]; repeat (first | exact hSC | exact hSCL | exact hSC8 | refine SC.off hai ?_ (by decide)))
                          · skip
                            refine x_aload C dL_law_685 10 rfl ?_
                            refine x_iload C dL_law_687 27 rfl ?_
                            refine x_iald C or ⟨by omega, by omega⟩ (by decide) dL_law_689 ?_
                            refine x_topv (show (erR r1 wv i y) (Int.toNat o9) = r1 (6 * y) from by rw [EO]; exact erR_a) ?_
                            refine x_iconst C dL_law_690 1 (by decide) ?_
                            refine x_icmp_ne (tgt := 710) C dL_law_691 (by decide) (by omega) (by omega) (fun c306 => ?_) (fun c306 => ?_)
                            · skip
                              refine x_aload C dL_law_710 10 rfl ?_
                              refine x_iload C dL_law_712 27 rfl ?_
                              refine x_iald C or ⟨by omega, by omega⟩ (by decide) dL_law_714 ?_
                              refine x_topv (show (erR r1 wv i y) (Int.toNat o9) = r1 (6 * y) from by rw [EO]; exact erR_a) ?_
                              refine x_iast C or ⟨by omega, by omega⟩ (by decide) dL_law_715 (x_hn (fun h307 e308 => ?_))
                              have f309 : h307 (ar 8) = some (eI D 18 (fu (erR r1 wv i y) (Int.toNat o9) (r1 (6 * y)))) := by rw [e308]; exact hu_s
                              have f310 : h307 (ar 8) = some (eI D 18 (erR r1 wv i (y + 1))) := by have q9 := f309; rw [EO, erR_s (r := r1) (wv := wv) (j := i) (y := y) (v := r1 (6 * y)) (by first | exact Or.inl ⟨by omega, by omega, by omega, rfl⟩ | exact Or.inr ⟨by omega, rfl⟩)] at q9; exact q9
                              refine x_iinc C (x := o9) (ls' := [(0, .ref b), (1, .ref x), (2, .ref (ar 0)), (3, .ref (ar 1)), (4, .ref (ar 2)), (5, .ref (ar 3)), (6, .ref (ar 4)), (7, .ref (ar 5)), (8, .ref (ar 6)), (9, .ref (ar 7)), (10, .ref (ar 8)), (11, .ref (ar 9)), (12, .ref (ar 10)), (13, .ref (ar 11)), (14, .ref (ar 12)), (15, .ref (ar 13)), (16, .ref (ar 14)), (17, .ref (ar 15)), (18, vI ((turn : Nat) : Int)), (19, .int zz), (20, vI ((act : Nat) : Int)), (21, vI 1), (22, vI ((sn : Nat) : Int)), (23, vI to9), (24, vI due), (25, vI 1), (26, vI ((i : Nat) : Int)), (27, vI (o9 + 6))]) dL_law_716 27 rfl (by decide) rfl ?_
                              refine x_goto (tgt := 662) C dL_law_719 (by decide) ?_
                              have f311 : h307 (ar 0) = some (eI D 5 (fu q (2 + sn) to9)) := by rw [e308, hu_n (ari hai (i := 0) (j := 8) (by decide) (by decide) (by decide))]; exact oq
                              have f312 : h307 (ar 1) = some (eJ D 60 g) := by rw [e308, hu_n (ari hai (i := 1) (j := 8) (by decide) (by decide) (by decide))]; exact og
                              have f313 : h307 (ar 2) = some (eI D 20 l1) := by rw [e308, hu_n (ari hai (i := 2) (j := 8) (by decide) (by decide) (by decide))]; exact ol0
                              have f314 : h307 (ar 3) = some (eI D 60 u) := by rw [e308, hu_n (ari hai (i := 3) (j := 8) (by decide) (by decide) (by decide))]; exact ou
                              have f315 : h307 (ar 4) = some (eI D 60 v) := by rw [e308, hu_n (ari hai (i := 4) (j := 8) (by decide) (by decide) (by decide))]; exact ov
                              have f316 : h307 (ar 5) = some (eI D 10 n) := by rw [e308, hu_n (ari hai (i := 5) (j := 8) (by decide) (by decide) (by decide))]; exact on
                              have f317 : h307 (ar 6) = some (eI D 25 w2) := by rw [e308, hu_n (ari hai (i := 6) (j := 8) (by decide) (by decide) (by decide))]; exact ow
                              have f318 : h307 (ar 7) = some (eI D 15 p) := by rw [e308, hu_n (ari hai (i := 7) (j := 8) (by decide) (by decide) (by decide))]; exact op
                              have f319 : h307 (ar 9) = some (eJ D 64 za) := by rw [e308, hu_n (ari hai (i := 9) (j := 8) (by decide) (by decide) (by decide))]; exact oza
                              have f320 : h307 (ar 10) = some (eJ D 64 zb) := by rw [e308, hu_n (ari hai (i := 10) (j := 8) (by decide) (by decide) (by decide))]; exact ozb
                              have f321 : h307 (ar 11) = some (eJ D 64 zc) := by rw [e308, hu_n (ari hai (i := 11) (j := 8) (by decide) (by decide) (by decide))]; exact ozc
                              have f322 : h307 (ar 12) = some (eJ D 64 zd) := by rw [e308, hu_n (ari hai (i := 12) (j := 8) (by decide) (by decide) (by decide))]; exact ozd
                              have f323 : h307 (ar 13) = some (eJ D 64 ze) := by rw [e308, hu_n (ari hai (i := 13) (j := 8) (by decide) (by decide) (by decide))]; exact oze
                              have f324 : h307 (ar 14) = some (eJ D 64 zf) := by rw [e308, hu_n (ari hai (i := 14) (j := 8) (by decide) (by decide) (by decide))]; exact ozf
                              have f325 : h307 (ar 15) = some (eJ D 2 zm) := by rw [e308, hu_n (ari hai (i := 15) (j := 8) (by decide) (by decide) (by decide))]; exact ozm
                              exact ihOV ((y + 1)) w2 wv (o9 + 6) za zb zc zd ze zf zm h307 f311 f312 f313 f314 f315 f316 f317 f318 f310 f319 f320 f321 f322 f323 f324 f325 (by omega) (by omega) (by omega) (hwv) (hwr) (hnx) (by rw [e308]; repeat (first | exact hSy | exact hSyL | exact hSy8 | refine Sy.off ?_ (by decide))) (by rw [e308]; repeat (first | exact hSC | exact hSCL | exact hSC8 | refine SC.off hai ?_ (by decide)))
                            · skip
                              refine x_aload C dL_law_694 10 rfl ?_
                              refine x_iload C dL_law_696 27 rfl ?_
                              refine x_iconst C dL_law_698 1 (by decide) ?_
                              refine x_iadd C dL_law_699 ?_
                              refine x_iald C or ⟨by omega, by omega⟩ (by decide) dL_law_700 ?_
                              refine x_topv (show (erR r1 wv i y) (Int.toNat (o9 + 1)) = r1 (6 * y + 1) from by rw [EO1]; exact erR_b) ?_
                              refine x_iload C dL_law_701 26 rfl ?_
                              refine x_icmp_ne (tgt := 710) C dL_law_703 (by decide) (by omega) (by omega) (fun c326 => ?_) (fun c326 => ?_)
                              · skip
                                refine x_aload C dL_law_710 10 rfl ?_
                                refine x_iload C dL_law_712 27 rfl ?_
                                refine x_iald C or ⟨by omega, by omega⟩ (by decide) dL_law_714 ?_
                                refine x_topv (show (erR r1 wv i y) (Int.toNat o9) = r1 (6 * y) from by rw [EO]; exact erR_a) ?_
                                refine x_iast C or ⟨by omega, by omega⟩ (by decide) dL_law_715 (x_hn (fun h327 e328 => ?_))
                                have f329 : h327 (ar 8) = some (eI D 18 (fu (erR r1 wv i y) (Int.toNat o9) (r1 (6 * y)))) := by rw [e328]; exact hu_s
                                have f330 : h327 (ar 8) = some (eI D 18 (erR r1 wv i (y + 1))) := by have q9 := f329; rw [EO, erR_s (r := r1) (wv := wv) (j := i) (y := y) (v := r1 (6 * y)) (by first | exact Or.inl ⟨by omega, by omega, by omega, rfl⟩ | exact Or.inr ⟨by omega, rfl⟩)] at q9; exact q9
                                refine x_iinc C (x := o9) (ls' := [(0, .ref b), (1, .ref x), (2, .ref (ar 0)), (3, .ref (ar 1)), (4, .ref (ar 2)), (5, .ref (ar 3)), (6, .ref (ar 4)), (7, .ref (ar 5)), (8, .ref (ar 6)), (9, .ref (ar 7)), (10, .ref (ar 8)), (11, .ref (ar 9)), (12, .ref (ar 10)), (13, .ref (ar 11)), (14, .ref (ar 12)), (15, .ref (ar 13)), (16, .ref (ar 14)), (17, .ref (ar 15)), (18, vI ((turn : Nat) : Int)), (19, .int zz), (20, vI ((act : Nat) : Int)), (21, vI 1), (22, vI ((sn : Nat) : Int)), (23, vI to9), (24, vI due), (25, vI 1), (26, vI ((i : Nat) : Int)), (27, vI (o9 + 6))]) dL_law_716 27 rfl (by decide) rfl ?_
                                refine x_goto (tgt := 662) C dL_law_719 (by decide) ?_
                                have f331 : h327 (ar 0) = some (eI D 5 (fu q (2 + sn) to9)) := by rw [e328, hu_n (ari hai (i := 0) (j := 8) (by decide) (by decide) (by decide))]; exact oq
                                have f332 : h327 (ar 1) = some (eJ D 60 g) := by rw [e328, hu_n (ari hai (i := 1) (j := 8) (by decide) (by decide) (by decide))]; exact og
                                have f333 : h327 (ar 2) = some (eI D 20 l1) := by rw [e328, hu_n (ari hai (i := 2) (j := 8) (by decide) (by decide) (by decide))]; exact ol0
                                have f334 : h327 (ar 3) = some (eI D 60 u) := by rw [e328, hu_n (ari hai (i := 3) (j := 8) (by decide) (by decide) (by decide))]; exact ou
                                have f335 : h327 (ar 4) = some (eI D 60 v) := by rw [e328, hu_n (ari hai (i := 4) (j := 8) (by decide) (by decide) (by decide))]; exact ov
                                have f336 : h327 (ar 5) = some (eI D 10 n) := by rw [e328, hu_n (ari hai (i := 5) (j := 8) (by decide) (by decide) (by decide))]; exact on
                                have f337 : h327 (ar 6) = some (eI D 25 w2) := by rw [e328, hu_n (ari hai (i := 6) (j := 8) (by decide) (by decide) (by decide))]; exact ow
                                have f338 : h327 (ar 7) = some (eI D 15 p) := by rw [e328, hu_n (ari hai (i := 7) (j := 8) (by decide) (by decide) (by decide))]; exact op
                                have f339 : h327 (ar 9) = some (eJ D 64 za) := by rw [e328, hu_n (ari hai (i := 9) (j := 8) (by decide) (by decide) (by decide))]; exact oza
                                have f340 : h327 (ar 10) = some (eJ D 64 zb) := by rw [e328, hu_n (ari hai (i := 10) (j := 8) (by decide) (by decide) (by decide))]; exact ozb
                                have f341 : h327 (ar 11) = some (eJ D 64 zc) := by rw [e328, hu_n (ari hai (i := 11) (j := 8) (by decide) (by decide) (by decide))]; exact ozc
                                have f342 : h327 (ar 12) = some (eJ D 64 zd) := by rw [e328, hu_n (ari hai (i := 12) (j := 8) (by decide) (by decide) (by decide))]; exact ozd
                                have f343 : h327 (ar 13) = some (eJ D 64 ze) := by rw [e328, hu_n (ari hai (i := 13) (j := 8) (by decide) (by decide) (by decide))]; exact oze
                                have f344 : h327 (ar 14) = some (eJ D 64 zf) := by rw [e328, hu_n (ari hai (i := 14) (j := 8) (by decide) (by decide) (by decide))]; exact ozf
                                have f345 : h327 (ar 15) = some (eJ D 2 zm) := by rw [e328, hu_n (ari hai (i := 15) (j := 8) (by decide) (by decide) (by decide))]; exact ozm
                                exact ihOV ((y + 1)) w2 wv (o9 + 6) za zb zc zd ze zf zm h327 f331 f332 f333 f334 f335 f336 f337 f338 f330 f339 f340 f341 f342 f343 f344 f345 (by omega) (by omega) (by omega) (hwv) (hwr) (hnx) (by rw [e328]; repeat (first | exact hSy | exact hSyL | exact hSy8 | refine Sy.off ?_ (by decide))) (by rw [e328]; repeat (first | exact hSC | exact hSCL | exact hSC8 | refine SC.off hai ?_ (by decide)))
                              · skip
                                refine x_iconst C dL_law_706 4 (by decide) ?_
                                refine x_goto (tgt := 715) C dL_law_707 (by decide) ?_
                                refine x_iast C or ⟨by omega, by omega⟩ (by decide) dL_law_715 (x_hn (fun h346 e347 => ?_))
                                have f348 : h346 (ar 8) = some (eI D 18 (fu (erR r1 wv i y) (Int.toNat o9) 4)) := by rw [e347]; exact hu_s
                                have f349 : h346 (ar 8) = some (eI D 18 (erR r1 wv i (y + 1))) := by have q9 := f348; rw [EO, erR_s (r := r1) (wv := wv) (j := i) (y := y) (v := 4) (by first | exact Or.inl ⟨by omega, by omega, by omega, rfl⟩ | exact Or.inr ⟨by omega, rfl⟩)] at q9; exact q9
                                refine x_iinc C (x := o9) (ls' := [(0, .ref b), (1, .ref x), (2, .ref (ar 0)), (3, .ref (ar 1)), (4, .ref (ar 2)), (5, .ref (ar 3)), (6, .ref (ar 4)), (7, .ref (ar 5)), (8, .ref (ar 6)), (9, .ref (ar 7)), (10, .ref (ar 8)), (11, .ref (ar 9)), (12, .ref (ar 10)), (13, .ref (ar 11)), (14, .ref (ar 12)), (15, .ref (ar 13)), (16, .ref (ar 14)), (17, .ref (ar 15)), (18, vI ((turn : Nat) : Int)), (19, .int zz), (20, vI ((act : Nat) : Int)), (21, vI 1), (22, vI ((sn : Nat) : Int)), (23, vI to9), (24, vI due), (25, vI 1), (26, vI ((i : Nat) : Int)), (27, vI (o9 + 6))]) dL_law_716 27 rfl (by decide) rfl ?_
                                refine x_goto (tgt := 662) C dL_law_719 (by decide) ?_
                                have f350 : h346 (ar 0) = some (eI D 5 (fu q (2 + sn) to9)) := by rw [e347, hu_n (ari hai (i := 0) (j := 8) (by decide) (by decide) (by decide))]; exact oq
                                have f351 : h346 (ar 1) = some (eJ D 60 g) := by rw [e347, hu_n (ari hai (i := 1) (j := 8) (by decide) (by decide) (by decide))]; exact og
                                have f352 : h346 (ar 2) = some (eI D 20 l1) := by rw [e347, hu_n (ari hai (i := 2) (j := 8) (by decide) (by decide) (by decide))]; exact ol0
                                have f353 : h346 (ar 3) = some (eI D 60 u) := by rw [e347, hu_n (ari hai (i := 3) (j := 8) (by decide) (by decide) (by decide))]; exact ou
                                have f354 : h346 (ar 4) = some (eI D 60 v) := by rw [e347, hu_n (ari hai (i := 4) (j := 8) (by decide) (by decide) (by decide))]; exact ov
                                have f355 : h346 (ar 5) = some (eI D 10 n) := by rw [e347, hu_n (ari hai (i := 5) (j := 8) (by decide) (by decide) (by decide))]; exact on
                                have f356 : h346 (ar 6) = some (eI D 25 w2) := by rw [e347, hu_n (ari hai (i := 6) (j := 8) (by decide) (by decide) (by decide))]; exact ow
                                have f357 : h346 (ar 7) = some (eI D 15 p) := by rw [e347, hu_n (ari hai (i := 7) (j := 8) (by decide) (by decide) (by decide))]; exact op
                                have f358 : h346 (ar 9) = some (eJ D 64 za) := by rw [e347, hu_n (ari hai (i := 9) (j := 8) (by decide) (by decide) (by decide))]; exact oza
                                have f359 : h346 (ar 10) = some (eJ D 64 zb) := by rw [e347, hu_n (ari hai (i := 10) (j := 8) (by decide) (by decide) (by decide))]; exact ozb
                                have f360 : h346 (ar 11) = some (eJ D 64 zc) := by rw [e347, hu_n (ari hai (i := 11) (j := 8) (by decide) (by decide) (by decide))]; exact ozc
                                have f361 : h346 (ar 12) = some (eJ D 64 zd) := by rw [e347, hu_n (ari hai (i := 12) (j := 8) (by decide) (by decide) (by decide))]; exact ozd
                                have f362 : h346 (ar 13) = some (eJ D 64 ze) := by rw [e347, hu_n (ari hai (i := 13) (j := 8) (by decide) (by decide) (by decide))]; exact oze
                                have f363 : h346 (ar 14) = some (eJ D 64 zf) := by rw [e347, hu_n (ari hai (i := 14) (j := 8) (by decide) (by decide) (by decide))]; exact ozf
                                have f364 : h346 (ar 15) = some (eJ D 2 zm) := by rw [e347, hu_n (ari hai (i := 15) (j := 8) (by decide) (by decide) (by decide))]; exact ozm
                                exact ihOV ((y + 1)) w2 wv (o9 + 6) za zb zc zd ze zf zm h346 f350 f351 f352 f353 f354 f355 f356 f357 f349 f358 f359 f360 f361 f362 f363 f364 (by omega) (by omega) (by omega) (hwv) (hwr) (hnx) (by rw [e347]; repeat (first | exact hSy | exact hSyL | exact hSy8 | refine Sy.off ?_ (by decide))) (by rw [e347]; repeat (first | exact hSC | exact hSCL | exact hSC8 | refine SC.off hai ?_ (by decide)))
                    have f365 : h279 (ar 0) = some (eI D 5 (fu q (2 + sn) to9)) := by rw [e280, hu_n (ari hai (i := 0) (j := 6) (by decide) (by decide) (by decide))]; exact f270
                    have f366 : h279 (ar 1) = some (eJ D 60 g) := by rw [e280, hu_n (ari hai (i := 1) (j := 6) (by decide) (by decide) (by decide))]; exact f271
                    have f367 : h279 (ar 2) = some (eI D 20 l1) := by rw [e280, hu_n (ari hai (i := 2) (j := 6) (by decide) (by decide) (by decide))]; exact f272
                    have f368 : h279 (ar 3) = some (eI D 60 u) := by rw [e280, hu_n (ari hai (i := 3) (j := 6) (by decide) (by decide) (by decide))]; exact f273
                    have f369 : h279 (ar 4) = some (eI D 60 v) := by rw [e280, hu_n (ari hai (i := 4) (j := 6) (by decide) (by decide) (by decide))]; exact f274
                    have f370 : h279 (ar 5) = some (eI D 10 n) := by rw [e280, hu_n (ari hai (i := 5) (j := 6) (by decide) (by decide) (by decide))]; exact f275
                    have f371 : h279 (ar 7) = some (eI D 15 p) := by rw [e280, hu_n (ari hai (i := 7) (j := 6) (by decide) (by decide) (by decide))]; exact f277
                    have f372 : h279 (ar 8) = some (eI D 18 r1) := by rw [e280, hu_n (ari hai (i := 8) (j := 6) (by decide) (by decide) (by decide))]; exact f278
                    have f373 : h279 (ar 9) = some (eJ D 64 ya) := by rw [e280, hu_n (ari hai (i := 9) (j := 6) (by decide) (by decide) (by decide))]; exact ga
                    have f374 : h279 (ar 10) = some (eJ D 64 yb) := by rw [e280, hu_n (ari hai (i := 10) (j := 6) (by decide) (by decide) (by decide))]; exact gb
                    have f375 : h279 (ar 11) = some (eJ D 64 yc) := by rw [e280, hu_n (ari hai (i := 11) (j := 6) (by decide) (by decide) (by decide))]; exact gc
                    have f376 : h279 (ar 12) = some (eJ D 64 yd) := by rw [e280, hu_n (ari hai (i := 12) (j := 6) (by decide) (by decide) (by decide))]; exact gd
                    have f377 : h279 (ar 13) = some (eJ D 64 ye) := by rw [e280, hu_n (ari hai (i := 13) (j := 6) (by decide) (by decide) (by decide))]; exact ge
                    have f378 : h279 (ar 14) = some (eJ D 64 yf) := by rw [e280, hu_n (ari hai (i := 14) (j := 6) (by decide) (by decide) (by decide))]; exact gf
                    have f379 : h279 (ar 15) = some (eJ D 2 ym) := by rw [e280, hu_n (ari hai (i := 15) (j := 6) (by decide) (by decide) (by decide))]; exact gm
                    exact OV (4) 0 (fu w1 (5 * i + 2) w9) w9 0 ya yb yc yd ye yf ym h279 f365 f366 f367 f368 f369 f370 f282 f371 (by have q9 := f372; rw [← erR_0 (r := r1) (wv := w9) (j := i)] at q9; exact q9) f373 f374 f375 f376 f377 f378 f379 (by omega) (by omega) (rfl) (fu_s) (by omega) (⟨trN mm i w9, ⟨mm, hSP, Or.inr ⟨hys9, w9, hFd9, hwr9, SM.rf⟩⟩, hEXL.tr hwr9.1 (fun x9 hx9 hs9 => by rw [h23]; obtain ⟨_, q2, _⟩ := hSy.run hPK hx9; rw [(hPP x9 hx9).2.1] at q2; exact q2.1), PK.tr hPKL hEBL hiW hwr9.1⟩) (by rw [e280]; repeat (first | exact hSy | exact hSyL | exact hSy8 | refine Sy.off ?_ (by decide))) (by rw [e280]; repeat (first | exact hSC | exact hSCL | exact hSC8 | refine SC.off hai ?_ (by decide)))
          exact WV (W + 1) 0 ((cu (cu m 1 0 (fu (m 1 0) sn to9)) 6 0 (vdF m (6 + ((sn : Nat) : Int)) L))) w r za zb zc zd ze zf zm h156 vq vg vl0 vu vv vn vw vp vr vza vzb vzc vzd vze vzf vzm (by omega) (by omega) (SM.rf) (hEX0) (hPK0) (hSyL) (hSCL)
        · skip
          have hiL : i < L := by omega
          have E42 : Int.toNat (4 * ((i : Nat) : Int) + 2) = 4 * i + 2 := by omega
          have hpr9 := (hSy.lev hPK hiL).2.2.2.1
          rw [(hPL i hiL).2.2.1] at hpr9
          have hvd9 := vdB_e m (6 + ((sn : Nat) : Int)) i
          have hbr9 := bI_r (∃ x, x < 96 ∧ m 4 0 (96 * i + x) = (6 + ((sn : Nat) : Int)))
          have hb01 := bI_01 (∃ x, x < 96 ∧ m 4 0 (96 * i + x) = (6 + ((sn : Nat) : Int)))
          refine x_iload C dL_law_486 25 rfl ?_
          refine x_if_eq (tgt := 578) C dL_law_488 (by decide) (by omega) (fun c380 => ?_) (fun c380 => ?_)
          · exfalso; omega
          · skip
            refine x_aload C dL_law_491 4 rfl ?_
            refine x_iconst C dL_law_493 4 (by decide) ?_
            refine x_iload C dL_law_494 26 rfl ?_
            refine x_imul C dL_law_496 ?_
            refine x_iconst C dL_law_497 2 (by decide) ?_
            refine x_iadd C dL_law_498 ?_
            refine x_iald C vl0 ⟨by omega, by omega⟩ (by decide) dL_law_499 ?_
            refine x_topv (show l1 (Int.toNat ((4 * (((i : Nat) : Int))) + 2)) = m 6 0 i from by rw [E42, hl1 i hiL, vdF_v]) ?_
            refine x_bipush C dL_law_500 (-2) (by decide) ?_
            refine x_icmp_le (tgt := 526) C dL_law_502 (by decide) (by omega) (by omega) (fun c381 => ?_) (fun c381 => ?_)
            · skip
              refine x_iconst C dL_law_526 0 (by decide) ?_
              refine x_istore C (ls' := [(0, .ref b), (1, .ref x), (2, .ref (ar 0)), (3, .ref (ar 1)), (4, .ref (ar 2)), (5, .ref (ar 3)), (6, .ref (ar 4)), (7, .ref (ar 5)), (8, .ref (ar 6)), (9, .ref (ar 7)), (10, .ref (ar 8)), (11, .ref (ar 9)), (12, .ref (ar 10)), (13, .ref (ar 11)), (14, .ref (ar 12)), (15, .ref (ar 13)), (16, .ref (ar 14)), (17, .ref (ar 15)), (18, vI ((turn : Nat) : Int)), (19, .int zz), (20, vI ((act : Nat) : Int)), (21, vI 1), (22, vI ((sn : Nat) : Int)), (23, vI to9), (24, vI due), (25, vI 1), (26, vI ((i : Nat) : Int)), (27, vI 0)]) dL_law_527 (by decide) rfl ?_
              refine x_iload C dL_law_529 24 rfl ?_
              refine x_iload C dL_law_531 27 rfl ?_
              refine x_if_eq (tgt := 540) C dL_law_533 (by decide) (by omega) (fun c382 => ?_) (fun c382 => ?_)
              · skip
                refine x_iconst C dL_law_540 0 (by decide) ?_
                refine x_iadd C dL_law_541 ?_
                refine x_istore C (ls' := [(0, .ref b), (1, .ref x), (2, .ref (ar 0)), (3, .ref (ar 1)), (4, .ref (ar 2)), (5, .ref (ar 3)), (6, .ref (ar 4)), (7, .ref (ar 5)), (8, .ref (ar 6)), (9, .ref (ar 7)), (10, .ref (ar 8)), (11, .ref (ar 9)), (12, .ref (ar 10)), (13, .ref (ar 11)), (14, .ref (ar 12)), (15, .ref (ar 13)), (16, .ref (ar 14)), (17, .ref (ar 15)), (18, vI ((turn : Nat) : Int)), (19, .int zz), (20, vI ((act : Nat) : Int)), (21, vI 1), (22, vI ((sn : Nat) : Int)), (23, vI to9), (24, vI (due + 0)), (25, vI 1), (26, vI ((i : Nat) : Int)), (27, vI 0)]) dL_law_542 (by decide) rfl ?_
                refine x_aload C dL_law_544 4 rfl ?_
                refine x_iconst C dL_law_546 4 (by decide) ?_
                refine x_iload C dL_law_547 26 rfl ?_
                refine x_imul C dL_law_549 ?_
                refine x_iconst C dL_law_550 2 (by decide) ?_
                refine x_iadd C dL_law_551 ?_
                refine x_iload C dL_law_552 27 rfl ?_
                refine x_if_eq (tgt := 562) C dL_law_554 (by decide) (by omega) (fun c383 => ?_) (fun c383 => ?_)
                · skip
                  refine x_aload C dL_law_562 4 rfl ?_
                  refine x_iconst C dL_law_564 4 (by decide) ?_
                  refine x_iload C dL_law_565 26 rfl ?_
                  refine x_imul C dL_law_567 ?_
                  refine x_iconst C dL_law_568 2 (by decide) ?_
                  refine x_iadd C dL_law_569 ?_
                  refine x_iald C vl0 ⟨by omega, by omega⟩ (by decide) dL_law_570 ?_
                  refine x_topv (show l1 (Int.toNat ((4 * (((i : Nat) : Int))) + 2)) = m 6 0 i from by rw [E42, hl1 i hiL, vdF_v]) ?_
                  refine x_iast C vl0 ⟨by omega, by omega⟩ (by decide) dL_law_571 (x_hn (fun h384 e385 => ?_))
                  have f386 : h384 (ar 2) = some (eI D 20 (fu l1 (Int.toNat ((4 * (((i : Nat) : Int))) + 2)) (m 6 0 i))) := by rw [e385]; exact hu_s
                  have f387 : h384 (ar 2) = some (eI D 20 (fu l1 (4 * i + 2) (m 6 0 i))) := by have q9 := f386; rw [E42] at q9; exact q9
                  refine x_iinc C (x := ((i : Nat) : Int)) (ls' := [(0, .ref b), (1, .ref x), (2, .ref (ar 0)), (3, .ref (ar 1)), (4, .ref (ar 2)), (5, .ref (ar 3)), (6, .ref (ar 4)), (7, .ref (ar 5)), (8, .ref (ar 6)), (9, .ref (ar 7)), (10, .ref (ar 8)), (11, .ref (ar 9)), (12, .ref (ar 10)), (13, .ref (ar 11)), (14, .ref (ar 12)), (15, .ref (ar 13)), (16, .ref (ar 14)), (17, .ref (ar 15)), (18, vI ((turn : Nat) : Int)), (19, .int zz), (20, vI ((act : Nat) : Int)), (21, vI 1), (22, vI ((sn : Nat) : Int)), (23, vI to9), (24, vI (due + 0)), (25, vI 1), (26, vI ((((i : Nat) : Int)) + 1)), (27, vI 0)]) dL_law_572 26 rfl (by decide) rfl ?_
                  refine x_goto (tgt := 478) C dL_law_575 (by decide) ?_
                  refine x_sub [0, 1, 2, 3, 4, 5, 6, 7, 8, 9, 10, 11, 12, 13, 14, 15, 16, 17, 18, 19, 20, 21, 22, 23, 24, 25, 26] (ls' := [(0, .ref b), (1, .ref x), (2, .ref (ar 0)), (3, .ref (ar 1)), (4, .ref (ar 2)), (5, .ref (ar 3)), (6, .ref (ar 4)), (7, .ref (ar 5)), (8, .ref (ar 6)), (9, .ref (ar 7)), (10, .ref (ar 8)), (11, .ref (ar 9)), (12, .ref (ar 10)), (13, .ref (ar 11)), (14, .ref (ar 12)), (15, .ref (ar 13)), (16, .ref (ar 14)), (17, .ref (ar 15)), (18, vI ((turn : Nat) : Int)), (19, .int zz), (20, vI ((act : Nat) : Int)), (21, vI 1), (22, vI ((sn : Nat) : Int)), (23, vI to9), (24, vI (due + 0)), (25, vI 1), (26, vI ((((i : Nat) : Int)) + 1))]) rfl ?_
                  have f388 : h384 (ar 0) = some (eI D 5 (fu q (2 + sn) to9)) := by rw [e385, hu_n (ari hai (i := 0) (j := 2) (by decide) (by decide) (by decide))]; exact vq
                  have f389 : h384 (ar 1) = some (eJ D 60 g) := by rw [e385, hu_n (ari hai (i := 1) (j := 2) (by decide) (by decide) (by decide))]; exact vg
                  have f390 : h384 (ar 3) = some (eI D 60 u) := by rw [e385, hu_n (ari hai (i := 3) (j := 2) (by decide) (by decide) (by decide))]; exact vu
                  have f391 : h384 (ar 4) = some (eI D 60 v) := by rw [e385, hu_n (ari hai (i := 4) (j := 2) (by decide) (by decide) (by decide))]; exact vv
                  have f392 : h384 (ar 5) = some (eI D 10 n) := by rw [e385, hu_n (ari hai (i := 5) (j := 2) (by decide) (by decide) (by decide))]; exact vn
                  have f393 : h384 (ar 6) = some (eI D 25 w) := by rw [e385, hu_n (ari hai (i := 6) (j := 2) (by decide) (by decide) (by decide))]; exact vw
                  have f394 : h384 (ar 7) = some (eI D 15 p) := by rw [e385, hu_n (ari hai (i := 7) (j := 2) (by decide) (by decide) (by decide))]; exact vp
                  have f395 : h384 (ar 8) = some (eI D 18 r) := by rw [e385, hu_n (ari hai (i := 8) (j := 2) (by decide) (by decide) (by decide))]; exact vr
                  have f396 : h384 (ar 9) = some (eJ D 64 za) := by rw [e385, hu_n (ari hai (i := 9) (j := 2) (by decide) (by decide) (by decide))]; exact vza
                  have f397 : h384 (ar 10) = some (eJ D 64 zb) := by rw [e385, hu_n (ari hai (i := 10) (j := 2) (by decide) (by decide) (by decide))]; exact vzb
                  have f398 : h384 (ar 11) = some (eJ D 64 zc) := by rw [e385, hu_n (ari hai (i := 11) (j := 2) (by decide) (by decide) (by decide))]; exact vzc
                  have f399 : h384 (ar 12) = some (eJ D 64 zd) := by rw [e385, hu_n (ari hai (i := 12) (j := 2) (by decide) (by decide) (by decide))]; exact vzd
                  have f400 : h384 (ar 13) = some (eJ D 64 ze) := by rw [e385, hu_n (ari hai (i := 13) (j := 2) (by decide) (by decide) (by decide))]; exact vze
                  have f401 : h384 (ar 14) = some (eJ D 64 zf) := by rw [e385, hu_n (ari hai (i := 14) (j := 2) (by decide) (by decide) (by decide))]; exact vzf
                  have f402 : h384 (ar 15) = some (eJ D 2 zm) := by rw [e385, hu_n (ari hai (i := 15) (j := 2) (by decide) (by decide) (by decide))]; exact vzm
                  exact ihLV (i + 1) (due + 0) (fu l1 (4 * i + 2) (m 6 0 i)) za zb zc zd ze zf zm h384 f388 f389 f387 f390 f391 f392 f393 f394 f395 f396 f397 f398 f399 f400 f401 f402 (by omega) (by omega) (by rw [show sumN (vdB m (6 + ((sn : Nat) : Int))) (i + 1) = sumN (vdB m (6 + ((sn : Nat) : Int))) i + vdB m (6 + ((sn : Nat) : Int)) i from rfl]; omega) (vd_s hl1 (by first | (rw [if_pos (by omega)]) | (rw [if_neg (by omega)]))) (vd_o hiL hl2) (by rw [e385]; repeat (first | exact hSy | exact hSyL | exact hSy8 | refine Sy.off ?_ (by decide))) (by rw [e385]; repeat (first | exact hSC | exact hSCL | exact hSC8 | refine SC.off hai ?_ (by decide)))
                · exfalso; omega
              · exfalso; omega
            · skip
              refine x_bipush C dL_law_505 6 (by decide) ?_
              refine x_iload C dL_law_507 22 rfl ?_
              refine x_iadd C dL_law_509 ?_
              refine x_bipush C dL_law_510 6 (by decide) ?_
              refine x_iload C dL_law_512 26 rfl ?_
              refine x_imul C dL_law_514 ?_
              refine x_aload_n C dL_law_515 3 rfl ?_
              refine x_callSJ C (n := 3) (As := [vI (6 + (((sn : Nat) : Int))), vI (6 * (((i : Nat) : Int))), .ref (ar 1)]) (rest := []) (c_L_has vg (by omega) (by omega)) gL_law_L_has (by decide +kernel) rfl rfl rfl (Nat.le_of_ble_eq_true rfl) ⟨by decide, by decide⟩ ⟨(by first | omega | (dsimp only; omega)), (by first | omega | (dsimp only; omega))⟩ dL_law_516 (fun rv403 h404 hp405 => ?_)
              obtain ⟨rfl, e406⟩ := hp405
              obtain rfl := e406.symm
              refine x_topv (show bI (∃ j, j < 96 ∧ gk g (6 * (((i : Nat) : Int))).toNat j = (6 + (((sn : Nat) : Int)))) = bI (∃ x, x < 96 ∧ m 4 0 (96 * i + x) = (6 + ((sn : Nat) : Int))) from by rw [show (6 * ((i : Nat) : Int)).toNat = 6 * i by omega]; exact has_l hPK hiL) ?_
              refine x_if_eq (tgt := 526) C dL_law_519 (by decide) (by omega) (fun c407 => ?_) (fun c407 => ?_)
              · skip
                refine x_iconst C dL_law_526 0 (by decide) ?_
                refine x_istore C (ls' := [(0, .ref b), (1, .ref x), (2, .ref (ar 0)), (3, .ref (ar 1)), (4, .ref (ar 2)), (5, .ref (ar 3)), (6, .ref (ar 4)), (7, .ref (ar 5)), (8, .ref (ar 6)), (9, .ref (ar 7)), (10, .ref (ar 8)), (11, .ref (ar 9)), (12, .ref (ar 10)), (13, .ref (ar 11)), (14, .ref (ar 12)), (15, .ref (ar 13)), (16, .ref (ar 14)), (17, .ref (ar 15)), (18, vI ((turn : Nat) : Int)), (19, .int zz), (20, vI ((act : Nat) : Int)), (21, vI 1), (22, vI ((sn : Nat) : Int)), (23, vI to9), (24, vI due), (25, vI 1), (26, vI ((i : Nat) : Int)), (27, vI 0)]) dL_law_527 (by decide) rfl ?_
                refine x_iload C dL_law_529 24 rfl ?_
                refine x_iload C dL_law_531 27 rfl ?_
                refine x_if_eq (tgt := 540) C dL_law_533 (by decide) (by omega) (fun c408 => ?_) (fun c408 => ?_)
                · skip
                  refine x_iconst C dL_law_540 0 (by decide) ?_
                  refine x_iadd C dL_law_541 ?_
                  refine x_istore C (ls' := [(0, .ref b), (1, .ref x), (2, .ref (ar 0)), (3, .ref (ar 1)), (4, .ref (ar 2)), (5, .ref (ar 3)), (6, .ref (ar 4)), (7, .ref (ar 5)), (8, .ref (ar 6)), (9, .ref (ar 7)), (10, .ref (ar 8)), (11, .ref (ar 9)), (12, .ref (ar 10)), (13, .ref (ar 11)), (14, .ref (ar 12)), (15, .ref (ar 13)), (16, .ref (ar 14)), (17, .ref (ar 15)), (18, vI ((turn : Nat) : Int)), (19, .int zz), (20, vI ((act : Nat) : Int)), (21, vI 1), (22, vI ((sn : Nat) : Int)), (23, vI to9), (24, vI (due + 0)), (25, vI 1), (26, vI ((i : Nat) : Int)), (27, vI 0)]) dL_law_542 (by decide) rfl ?_
                  refine x_aload C dL_law_544 4 rfl ?_
                  refine x_iconst C dL_law_546 4 (by decide) ?_
                  refine x_iload C dL_law_547 26 rfl ?_
                  refine x_imul C dL_law_549 ?_
                  refine x_iconst C dL_law_550 2 (by decide) ?_
                  refine x_iadd C dL_law_551 ?_
                  refine x_iload C dL_law_552 27 rfl ?_
                  refine x_if_eq (tgt := 562) C dL_law_554 (by decide) (by omega) (fun c409 => ?_) (fun c409 => ?_)
                  · skip
                    refine x_aload C dL_law_562 4 rfl ?_
                    refine x_iconst C dL_law_564 4 (by decide) ?_
                    refine x_iload C dL_law_565 26 rfl ?_
                    refine x_imul C dL_law_567 ?_
                    refine x_iconst C dL_law_568 2 (by decide) ?_
                    refine x_iadd C dL_law_569 ?_
                    refine x_iald C vl0 ⟨by omega, by omega⟩ (by decide) dL_law_570 ?_
                    refine x_topv (show l1 (Int.toNat ((4 * (((i : Nat) : Int))) + 2)) = m 6 0 i from by rw [E42, hl1 i hiL, vdF_v]) ?_
                    refine x_iast C vl0 ⟨by omega, by omega⟩ (by decide) dL_law_571 (x_hn (fun h410 e411 => ?_))
                    have f412 : h410 (ar 2) = some (eI D 20 (fu l1 (Int.toNat ((4 * (((i : Nat) : Int))) + 2)) (m 6 0 i))) := by rw [e411]; exact hu_s
                    have f413 : h410 (ar 2) = some (eI D 20 (fu l1 (4 * i + 2) (m 6 0 i))) := by have q9 := f412; rw [E42] at q9; exact q9
                    refine x_iinc C (x := ((i : Nat) : Int)) (ls' := [(0, .ref b), (1, .ref x), (2, .ref (ar 0)), (3, .ref (ar 1)), (4, .ref (ar 2)), (5, .ref (ar 3)), (6, .ref (ar 4)), (7, .ref (ar 5)), (8, .ref (ar 6)), (9, .ref (ar 7)), (10, .ref (ar 8)), (11, .ref (ar 9)), (12, .ref (ar 10)), (13, .ref (ar 11)), (14, .ref (ar 12)), (15, .ref (ar 13)), (16, .ref (ar 14)), (17, .ref (ar 15)), (18, vI ((turn : Nat) : Int)), (19, .int zz), (20, vI ((act : Nat) : Int)), (21, vI 1), (22, vI ((sn : Nat) : Int)), (23, vI to9), (24, vI (due + 0)), (25, vI 1), (26, vI ((((i : Nat) : Int)) + 1)), (27, vI 0)]) dL_law_572 26 rfl (by decide) rfl ?_
                    refine x_goto (tgt := 478) C dL_law_575 (by decide) ?_
                    refine x_sub [0, 1, 2, 3, 4, 5, 6, 7, 8, 9, 10, 11, 12, 13, 14, 15, 16, 17, 18, 19, 20, 21, 22, 23, 24, 25, 26] (ls' := [(0, .ref b), (1, .ref x), (2, .ref (ar 0)), (3, .ref (ar 1)), (4, .ref (ar 2)), (5, .ref (ar 3)), (6, .ref (ar 4)), (7, .ref (ar 5)), (8, .ref (ar 6)), (9, .ref (ar 7)), (10, .ref (ar 8)), (11, .ref (ar 9)), (12, .ref (ar 10)), (13, .ref (ar 11)), (14, .ref (ar 12)), (15, .ref (ar 13)), (16, .ref (ar 14)), (17, .ref (ar 15)), (18, vI ((turn : Nat) : Int)), (19, .int zz), (20, vI ((act : Nat) : Int)), (21, vI 1), (22, vI ((sn : Nat) : Int)), (23, vI to9), (24, vI (due + 0)), (25, vI 1), (26, vI ((((i : Nat) : Int)) + 1))]) rfl ?_
                    have f414 : h410 (ar 0) = some (eI D 5 (fu q (2 + sn) to9)) := by rw [e411, hu_n (ari hai (i := 0) (j := 2) (by decide) (by decide) (by decide))]; exact vq
                    have f415 : h410 (ar 1) = some (eJ D 60 g) := by rw [e411, hu_n (ari hai (i := 1) (j := 2) (by decide) (by decide) (by decide))]; exact vg
                    have f416 : h410 (ar 3) = some (eI D 60 u) := by rw [e411, hu_n (ari hai (i := 3) (j := 2) (by decide) (by decide) (by decide))]; exact vu
                    have f417 : h410 (ar 4) = some (eI D 60 v) := by rw [e411, hu_n (ari hai (i := 4) (j := 2) (by decide) (by decide) (by decide))]; exact vv
                    have f418 : h410 (ar 5) = some (eI D 10 n) := by rw [e411, hu_n (ari hai (i := 5) (j := 2) (by decide) (by decide) (by decide))]; exact vn
                    have f419 : h410 (ar 6) = some (eI D 25 w) := by rw [e411, hu_n (ari hai (i := 6) (j := 2) (by decide) (by decide) (by decide))]; exact vw
                    have f420 : h410 (ar 7) = some (eI D 15 p) := by rw [e411, hu_n (ari hai (i := 7) (j := 2) (by decide) (by decide) (by decide))]; exact vp
                    have f421 : h410 (ar 8) = some (eI D 18 r) := by rw [e411, hu_n (ari hai (i := 8) (j := 2) (by decide) (by decide) (by decide))]; exact vr
                    have f422 : h410 (ar 9) = some (eJ D 64 za) := by rw [e411, hu_n (ari hai (i := 9) (j := 2) (by decide) (by decide) (by decide))]; exact vza
                    have f423 : h410 (ar 10) = some (eJ D 64 zb) := by rw [e411, hu_n (ari hai (i := 10) (j := 2) (by decide) (by decide) (by decide))]; exact vzb
                    have f424 : h410 (ar 11) = some (eJ D 64 zc) := by rw [e411, hu_n (ari hai (i := 11) (j := 2) (by decide) (by decide) (by decide))]; exact vzc
                    have f425 : h410 (ar 12) = some (eJ D 64 zd) := by rw [e411, hu_n (ari hai (i := 12) (j := 2) (by decide) (by decide) (by decide))]; exact vzd
                    have f426 : h410 (ar 13) = some (eJ D 64 ze) := by rw [e411, hu_n (ari hai (i := 13) (j := 2) (by decide) (by decide) (by decide))]; exact vze
                    have f427 : h410 (ar 14) = some (eJ D 64 zf) := by rw [e411, hu_n (ari hai (i := 14) (j := 2) (by decide) (by decide) (by decide))]; exact vzf
                    have f428 : h410 (ar 15) = some (eJ D 2 zm) := by rw [e411, hu_n (ari hai (i := 15) (j := 2) (by decide) (by decide) (by decide))]; exact vzm
                    exact ihLV (i + 1) (due + 0) (fu l1 (4 * i + 2) (m 6 0 i)) za zb zc zd ze zf zm h410 f414 f415 f413 f416 f417 f418 f419 f420 f421 f422 f423 f424 f425 f426 f427 f428 (by omega) (by omega) (by rw [show sumN (vdB m (6 + ((sn : Nat) : Int))) (i + 1) = sumN (vdB m (6 + ((sn : Nat) : Int))) i + vdB m (6 + ((sn : Nat) : Int)) i from rfl]; omega) (vd_s hl1 (by first | (rw [if_pos (by omega)]) | (rw [if_neg (by omega)]))) (vd_o hiL hl2) (by rw [e411]; repeat (first | exact hSy | exact hSyL | exact hSy8 | refine Sy.off ?_ (by decide))) (by rw [e411]; repeat (first | exact hSC | exact hSCL | exact hSC8 | refine SC.off hai ?_ (by decide)))
                  · exfalso; omega
                · exfalso; omega
              · skip
                refine x_iconst C dL_law_522 1 (by decide) ?_
                refine x_goto (tgt := 527) C dL_law_523 (by decide) ?_
                refine x_istore C (ls' := [(0, .ref b), (1, .ref x), (2, .ref (ar 0)), (3, .ref (ar 1)), (4, .ref (ar 2)), (5, .ref (ar 3)), (6, .ref (ar 4)), (7, .ref (ar 5)), (8, .ref (ar 6)), (9, .ref (ar 7)), (10, .ref (ar 8)), (11, .ref (ar 9)), (12, .ref (ar 10)), (13, .ref (ar 11)), (14, .ref (ar 12)), (15, .ref (ar 13)), (16, .ref (ar 14)), (17, .ref (ar 15)), (18, vI ((turn : Nat) : Int)), (19, .int zz), (20, vI ((act : Nat) : Int)), (21, vI 1), (22, vI ((sn : Nat) : Int)), (23, vI to9), (24, vI due), (25, vI 1), (26, vI ((i : Nat) : Int)), (27, vI 1)]) dL_law_527 (by decide) rfl ?_
                refine x_iload C dL_law_529 24 rfl ?_
                refine x_iload C dL_law_531 27 rfl ?_
                refine x_if_eq (tgt := 540) C dL_law_533 (by decide) (by omega) (fun c429 => ?_) (fun c429 => ?_)
                · exfalso; omega
                · skip
                  refine x_iconst C dL_law_536 1 (by decide) ?_
                  refine x_goto (tgt := 541) C dL_law_537 (by decide) ?_
                  refine x_iadd C dL_law_541 ?_
                  refine x_istore C (ls' := [(0, .ref b), (1, .ref x), (2, .ref (ar 0)), (3, .ref (ar 1)), (4, .ref (ar 2)), (5, .ref (ar 3)), (6, .ref (ar 4)), (7, .ref (ar 5)), (8, .ref (ar 6)), (9, .ref (ar 7)), (10, .ref (ar 8)), (11, .ref (ar 9)), (12, .ref (ar 10)), (13, .ref (ar 11)), (14, .ref (ar 12)), (15, .ref (ar 13)), (16, .ref (ar 14)), (17, .ref (ar 15)), (18, vI ((turn : Nat) : Int)), (19, .int zz), (20, vI ((act : Nat) : Int)), (21, vI 1), (22, vI ((sn : Nat) : Int)), (23, vI to9), (24, vI (due + 1)), (25, vI 1), (26, vI ((i : Nat) : Int)), (27, vI 1)]) dL_law_542 (by decide) rfl ?_
                  refine x_aload C dL_law_544 4 rfl ?_
                  refine x_iconst C dL_law_546 4 (by decide) ?_
                  refine x_iload C dL_law_547 26 rfl ?_
                  refine x_imul C dL_law_549 ?_
                  refine x_iconst C dL_law_550 2 (by decide) ?_
                  refine x_iadd C dL_law_551 ?_
                  refine x_iload C dL_law_552 27 rfl ?_
                  refine x_if_eq (tgt := 562) C dL_law_554 (by decide) (by omega) (fun c430 => ?_) (fun c430 => ?_)
                  · exfalso; omega
                  · skip
                    refine x_bipush C dL_law_557 (-2) (by decide) ?_
                    refine x_goto (tgt := 571) C dL_law_559 (by decide) ?_
                    refine x_iast C vl0 ⟨by omega, by omega⟩ (by decide) dL_law_571 (x_hn (fun h431 e432 => ?_))
                    have f433 : h431 (ar 2) = some (eI D 20 (fu l1 (Int.toNat ((4 * (((i : Nat) : Int))) + 2)) ((-2)))) := by rw [e432]; exact hu_s
                    have f434 : h431 (ar 2) = some (eI D 20 (fu l1 (4 * i + 2) ((-2)))) := by have q9 := f433; rw [E42] at q9; exact q9
                    refine x_iinc C (x := ((i : Nat) : Int)) (ls' := [(0, .ref b), (1, .ref x), (2, .ref (ar 0)), (3, .ref (ar 1)), (4, .ref (ar 2)), (5, .ref (ar 3)), (6, .ref (ar 4)), (7, .ref (ar 5)), (8, .ref (ar 6)), (9, .ref (ar 7)), (10, .ref (ar 8)), (11, .ref (ar 9)), (12, .ref (ar 10)), (13, .ref (ar 11)), (14, .ref (ar 12)), (15, .ref (ar 13)), (16, .ref (ar 14)), (17, .ref (ar 15)), (18, vI ((turn : Nat) : Int)), (19, .int zz), (20, vI ((act : Nat) : Int)), (21, vI 1), (22, vI ((sn : Nat) : Int)), (23, vI to9), (24, vI (due + 1)), (25, vI 1), (26, vI ((((i : Nat) : Int)) + 1)), (27, vI 1)]) dL_law_572 26 rfl (by decide) rfl ?_
                    refine x_goto (tgt := 478) C dL_law_575 (by decide) ?_
                    refine x_sub [0, 1, 2, 3, 4, 5, 6, 7, 8, 9, 10, 11, 12, 13, 14, 15, 16, 17, 18, 19, 20, 21, 22, 23, 24, 25, 26] (ls' := [(0, .ref b), (1, .ref x), (2, .ref (ar 0)), (3, .ref (ar 1)), (4, .ref (ar 2)), (5, .ref (ar 3)), (6, .ref (ar 4)), (7, .ref (ar 5)), (8, .ref (ar 6)), (9, .ref (ar 7)), (10, .ref (ar 8)), (11, .ref (ar 9)), (12, .ref (ar 10)), (13, .ref (ar 11)), (14, .ref (ar 12)), (15, .ref (ar 13)), (16, .ref (ar 14)), (17, .ref (ar 15)), (18, vI ((turn : Nat) : Int)), (19, .int zz), (20, vI ((act : Nat) : Int)), (21, vI 1), (22, vI ((sn : Nat) : Int)), (23, vI to9), (24, vI (due + 1)), (25, vI 1), (26, vI ((((i : Nat) : Int)) + 1))]) rfl ?_
                    have f435 : h431 (ar 0) = some (eI D 5 (fu q (2 + sn) to9)) := by rw [e432, hu_n (ari hai (i := 0) (j := 2) (by decide) (by decide) (by decide))]; exact vq
                    have f436 : h431 (ar 1) = some (eJ D 60 g) := by rw [e432, hu_n (ari hai (i := 1) (j := 2) (by decide) (by decide) (by decide))]; exact vg
                    have f437 : h431 (ar 3) = some (eI D 60 u) := by rw [e432, hu_n (ari hai (i := 3) (j := 2) (by decide) (by decide) (by decide))]; exact vu
                    have f438 : h431 (ar 4) = some (eI D 60 v) := by rw [e432, hu_n (ari hai (i := 4) (j := 2) (by decide) (by decide) (by decide))]; exact vv
                    have f439 : h431 (ar 5) = some (eI D 10 n) := by rw [e432, hu_n (ari hai (i := 5) (j := 2) (by decide) (by decide) (by decide))]; exact vn
                    have f440 : h431 (ar 6) = some (eI D 25 w) := by rw [e432, hu_n (ari hai (i := 6) (j := 2) (by decide) (by decide) (by decide))]; exact vw
                    have f441 : h431 (ar 7) = some (eI D 15 p) := by rw [e432, hu_n (ari hai (i := 7) (j := 2) (by decide) (by decide) (by decide))]; exact vp
                    have f442 : h431 (ar 8) = some (eI D 18 r) := by rw [e432, hu_n (ari hai (i := 8) (j := 2) (by decide) (by decide) (by decide))]; exact vr
                    have f443 : h431 (ar 9) = some (eJ D 64 za) := by rw [e432, hu_n (ari hai (i := 9) (j := 2) (by decide) (by decide) (by decide))]; exact vza
                    have f444 : h431 (ar 10) = some (eJ D 64 zb) := by rw [e432, hu_n (ari hai (i := 10) (j := 2) (by decide) (by decide) (by decide))]; exact vzb
                    have f445 : h431 (ar 11) = some (eJ D 64 zc) := by rw [e432, hu_n (ari hai (i := 11) (j := 2) (by decide) (by decide) (by decide))]; exact vzc
                    have f446 : h431 (ar 12) = some (eJ D 64 zd) := by rw [e432, hu_n (ari hai (i := 12) (j := 2) (by decide) (by decide) (by decide))]; exact vzd
                    have f447 : h431 (ar 13) = some (eJ D 64 ze) := by rw [e432, hu_n (ari hai (i := 13) (j := 2) (by decide) (by decide) (by decide))]; exact vze
                    have f448 : h431 (ar 14) = some (eJ D 64 zf) := by rw [e432, hu_n (ari hai (i := 14) (j := 2) (by decide) (by decide) (by decide))]; exact vzf
                    have f449 : h431 (ar 15) = some (eJ D 2 zm) := by rw [e432, hu_n (ari hai (i := 15) (j := 2) (by decide) (by decide) (by decide))]; exact vzm
                    exact ihLV (i + 1) (due + 1) (fu l1 (4 * i + 2) ((-2))) za zb zc zd ze zf zm h431 f435 f436 f434 f437 f438 f439 f440 f441 f442 f443 f444 f445 f446 f447 f448 f449 (by omega) (by omega) (by rw [show sumN (vdB m (6 + ((sn : Nat) : Int))) (i + 1) = sumN (vdB m (6 + ((sn : Nat) : Int))) i + vdB m (6 + ((sn : Nat) : Int)) i from rfl]; omega) (vd_s hl1 (by first | (rw [if_pos (by omega)]) | (rw [if_neg (by omega)]))) (vd_o hiL hl2) (by rw [e432]; repeat (first | exact hSy | exact hSyL | exact hSy8 | refine Sy.off ?_ (by decide))) (by rw [e432]; repeat (first | exact hSC | exact hSCL | exact hSC8 | refine SC.off hai ?_ (by decide)))
    have f450 : h152 (ar 1) = some (eJ D 60 g) := by rw [e153, hu_n (ari hai (i := 1) (j := 0) (by decide) (by decide) (by decide))]; exact hg
    have f451 : h152 (ar 2) = some (eI D 20 l0) := by rw [e153, hu_n (ari hai (i := 2) (j := 0) (by decide) (by decide) (by decide))]; exact hl0
    have f452 : h152 (ar 3) = some (eI D 60 u) := by rw [e153, hu_n (ari hai (i := 3) (j := 0) (by decide) (by decide) (by decide))]; exact hu
    have f453 : h152 (ar 4) = some (eI D 60 v) := by rw [e153, hu_n (ari hai (i := 4) (j := 0) (by decide) (by decide) (by decide))]; exact hv
    have f454 : h152 (ar 5) = some (eI D 10 n) := by rw [e153, hu_n (ari hai (i := 5) (j := 0) (by decide) (by decide) (by decide))]; exact hn
    have f455 : h152 (ar 6) = some (eI D 25 w) := by rw [e153, hu_n (ari hai (i := 6) (j := 0) (by decide) (by decide) (by decide))]; exact hw
    have f456 : h152 (ar 7) = some (eI D 15 p) := by rw [e153, hu_n (ari hai (i := 7) (j := 0) (by decide) (by decide) (by decide))]; exact hp
    have f457 : h152 (ar 8) = some (eI D 18 r) := by rw [e153, hu_n (ari hai (i := 8) (j := 0) (by decide) (by decide) (by decide))]; exact hr
    have f458 : h152 (ar 9) = some (eJ D 64 za) := by rw [e153, hu_n (ari hai (i := 9) (j := 0) (by decide) (by decide) (by decide))]; exact hza
    have f459 : h152 (ar 10) = some (eJ D 64 zb) := by rw [e153, hu_n (ari hai (i := 10) (j := 0) (by decide) (by decide) (by decide))]; exact hzb
    have f460 : h152 (ar 11) = some (eJ D 64 zc) := by rw [e153, hu_n (ari hai (i := 11) (j := 0) (by decide) (by decide) (by decide))]; exact hzc
    have f461 : h152 (ar 12) = some (eJ D 64 zd) := by rw [e153, hu_n (ari hai (i := 12) (j := 0) (by decide) (by decide) (by decide))]; exact hzd
    have f462 : h152 (ar 13) = some (eJ D 64 ze) := by rw [e153, hu_n (ari hai (i := 13) (j := 0) (by decide) (by decide) (by decide))]; exact hze
    have f463 : h152 (ar 14) = some (eJ D 64 zf) := by rw [e153, hu_n (ari hai (i := 14) (j := 0) (by decide) (by decide) (by decide))]; exact hzf
    have f464 : h152 (ar 15) = some (eJ D 2 zm) := by rw [e153, hu_n (ari hai (i := 15) (j := 0) (by decide) (by decide) (by decide))]; exact hzm
    exact LV (L + 1) 0 0 l0 za zb zc zd ze zf zm h152 f155 f450 f451 f452 f453 f454 f455 f456 f457 f458 f459 f460 f461 f462 f463 f464 (by omega) (by omega) (rfl) (fun j9 hj9 => by rw [vdF_0]; exact (hPL j9 hj9).2.2.1) (fun _ _ => rfl) (by rw [e153]; repeat (first | exact hSy | refine Sy.off ?_ (by decide))) (by rw [e153]; repeat (first | exact hSC | refine SC.off hai ?_ (by decide)))

