theorem dL_law_572 : decode cL_law 572 = .ok (.aload_n 1, 1) := by decide +kernel
theorem dL_law_573 : decode cL_law 573 = .ok (.aload_n 0, 1) := by decide +kernel
theorem dL_law_574 : decode cL_law 574 = .ok (.iload 4, 2) := by decide +kernel
theorem dL_law_576 : decode cL_law 576 = .ok (.iconst 1, 1) := by decide +kernel
theorem dL_law_577 : decode cL_law 577 = .ok (.iadd, 1) := by decide +kernel
theorem dL_law_578 : decode cL_law 578 = .ok (.iaload, 1) := by decide +kernel
theorem dL_law_579 : decode cL_law 579 = .ok (.aload_n 3, 1) := by decide +kernel
set_option maxRecDepth 20000 in
theorem ggL_law_L_prove : GoodIn wsL_law wsL_prove := goodIn_ca (goodIn_r _ [462, 101, 463, 464, 465, 2, 466, 24, 194, 195, 196, 197, 110, 111, 16, 324, 325, 326, 23, 327, 43, 38, 39, 328, 329, 330, 331, 37, 36, 332, 333, 334, 42, 335, 49, 50, 51, 336, 337, 338, 339, 48, 154, 155, 340, 203, 204, 126, 205, 139, 341, 342, 343, 344, 140, 345, 346, 347, 348, 349, 350, 351, 352, 353, 354, 355, 356, 34, 357, 358, 359, 360, 33, 361, 362, 363, 364, 365, 366, 367, 368, 369, 370, 371, 372, 373, 374, 375, 376, 377, 378, 379, 380, 381, 382, 383, 384, 385, 386, 387, 388, 389, 390, 391, 392, 393, 394, 395, 396, 397, 52, 854, 855, 856, 857, 858, 859, 860, 915, 916, 917, 918, 919, 920, 899, 900, 901, 902, 903, 904, 905, 910, 911, 912, 913, 914, 921, 922, 923] (by decide +kernel) (by decide +kernel)) (goodIn_sub (fun _ h => List.mem_append_left _ (List.mem_append_left _ (List.mem_append_right _ h))) (by decide +kernel))
set_option maxRecDepth 20000 in
theorem gL_law_L_prove : GoodIn wsL_law (va_wsS RL 146 yL_prove wsL_prove) := goodIn_app (goodIn_of _ (by decide +kernel)) ggL_law_L_prove
theorem dL_law_580 : decode cL_law 580 = .ok (.invokestatic 146, 3) := by decide +kernel
theorem dL_law_583 : decode cL_law 583 = .ok (.istore 5, 2) := by decide +kernel
theorem dL_law_585 : decode cL_law 585 = .ok (.aload_n 2, 1) := by decide +kernel
theorem dL_law_586 : decode cL_law 586 = .ok (.aload_n 0, 1) := by decide +kernel
theorem dL_law_587 : decode cL_law 587 = .ok (.iload 4, 2) := by decide +kernel
theorem dL_law_589 : decode cL_law 589 = .ok (.iconst 1, 1) := by decide +kernel
theorem dL_law_590 : decode cL_law 590 = .ok (.iadd, 1) := by decide +kernel
theorem dL_law_591 : decode cL_law 591 = .ok (.iaload, 1) := by decide +kernel
set_option maxRecDepth 20000 in
theorem ggL_law_X8_prove : GoodIn wsL_law wsX8_prove := goodIn_r _ [470, 164, 71, 70, 234, 235, 236, 5, 237, 165, 169, 170, 171, 172, 173, 174, 175, 427, 428, 429, 430, 431, 92, 80, 69, 93, 432, 433, 434, 435, 95, 96, 436, 94, 437, 438, 439, 440, 441, 442, 443, 444, 445, 446, 447, 448, 449, 450, 451, 452, 453, 454, 455, 67, 456, 457, 458, 459, 861, 862, 863, 864, 865, 866, 867, 868, 869, 870, 871, 872, 873, 874, 875, 876, 877, 878, 879, 880, 881, 882, 883, 884, 885, 886, 887, 888, 889, 890, 891, 892, 893, 894, 895, 896, 897, 898] (by decide +kernel) (by decide +kernel)
set_option maxRecDepth 20000 in
theorem gL_law_X8_prove : GoodIn wsL_law (wsV RL 148 RX8 yX8_prove wsX8_prove) := goodIn_app (goodIn_of _ (by decide +kernel)) ggL_law_X8_prove
theorem dL_law_592 : decode cL_law 592 = .ok (.invokevirtual 148, 3) := by decide +kernel
theorem dL_law_595 : decode cL_law 595 = .ok (.istore 6, 2) := by decide +kernel
theorem dL_law_597 : decode cL_law 597 = .ok (.aload_n 2, 1) := by decide +kernel
theorem dL_law_598 : decode cL_law 598 = .ok (.invokevirtual 125, 3) := by decide +kernel
theorem dL_law_601 : decode cL_law 601 = .ok (.iload 5, 2) := by decide +kernel
theorem dL_law_603 : decode cL_law 603 = .ok (.if_icmp .eq 5, 3) := by decide +kernel
theorem dL_law_608 : decode cL_law 608 = .ok (.iload 5, 2) := by decide +kernel
theorem dL_law_610 : decode cL_law 610 = .ok (.ifCond .ne 15, 3) := by decide +kernel
theorem dL_law_625 : decode cL_law 625 = .ok (.goto 1541, 3) := by decide +kernel
theorem dL_law_613 : decode cL_law 613 = .ok (.aload_n 3, 1) := by decide +kernel
theorem dL_law_614 : decode cL_law 614 = .ok (.iconst 0, 1) := by decide +kernel
theorem dL_law_615 : decode cL_law 615 = .ok (.laload, 1) := by decide +kernel
theorem dL_law_616 : decode cL_law 616 = .ok (.iload 6, 2) := by decide +kernel
theorem dL_law_618 : decode cL_law 618 = .ok (.i2l, 1) := by decide +kernel
theorem dL_law_619 : decode cL_law 619 = .ok (.lcmp, 1) := by decide +kernel
theorem dL_law_620 : decode cL_law 620 = .ok (.ifCond .eq 5, 3) := by decide +kernel
theorem dL_law_628 : decode cL_law 628 = .ok (.aload_n 1, 1) := by decide +kernel
theorem dL_law_629 : decode cL_law 629 = .ok (.aload_n 0, 1) := by decide +kernel
theorem dL_law_630 : decode cL_law 630 = .ok (.iload 4, 2) := by decide +kernel
theorem dL_law_632 : decode cL_law 632 = .ok (.iconst 1, 1) := by decide +kernel
theorem dL_law_633 : decode cL_law 633 = .ok (.iadd, 1) := by decide +kernel
theorem dL_law_634 : decode cL_law 634 = .ok (.iaload, 1) := by decide +kernel
theorem dL_law_635 : decode cL_law 635 = .ok (.aload_n 3, 1) := by decide +kernel
set_option maxRecDepth 20000 in
theorem ggL_law_L_offer : GoodIn wsL_law wsL_offer := goodIn_ca (goodIn_ca (goodIn_r _ [473, 101, 102, 474, 475, 476, 2, 477, 116, 117, 26, 18, 17, 478, 479, 194, 195, 196, 197, 110, 111, 16, 480, 481, 482, 483, 11, 12, 484, 125, 126, 485, 13, 486, 487, 488, 489, 490, 491, 492, 136, 137, 138, 139, 140, 141, 493, 494, 495, 496, 497, 203, 204, 205, 498, 151, 152, 153, 154, 155, 156, 157, 158, 159, 915, 916, 917, 918, 919, 920, 854, 855, 856, 857, 858, 859, 860, 929, 930, 931, 932, 933, 934, 935, 936, 921, 922, 923] (by decide +kernel) (by decide +kernel)) (goodIn_sub (fun _ h => List.mem_append_left _ (List.mem_append_right _ h)) (by decide +kernel))) (goodIn_sub (fun _ h => List.mem_append_left _ (List.mem_append_left _ (List.mem_append_right _ h))) (by decide +kernel))
set_option maxRecDepth 20000 in
theorem gL_law_L_offer : GoodIn wsL_law (va_wsS RL 149 yL_offer wsL_offer) := goodIn_app (goodIn_of _ (by decide +kernel)) ggL_law_L_offer
theorem dL_law_636 : decode cL_law 636 = .ok (.invokestatic 149, 3) := by decide +kernel
theorem dL_law_639 : decode cL_law 639 = .ok (.istore 5, 2) := by decide +kernel
theorem dL_law_641 : decode cL_law 641 = .ok (.aload_n 2, 1) := by decide +kernel
theorem dL_law_642 : decode cL_law 642 = .ok (.aload_n 0, 1) := by decide +kernel
theorem dL_law_643 : decode cL_law 643 = .ok (.iload 4, 2) := by decide +kernel
theorem dL_law_645 : decode cL_law 645 = .ok (.iconst 1, 1) := by decide +kernel
theorem dL_law_646 : decode cL_law 646 = .ok (.iadd, 1) := by decide +kernel
theorem dL_law_647 : decode cL_law 647 = .ok (.iaload, 1) := by decide +kernel
set_option maxRecDepth 20000 in
theorem ggL_law_X8_offer : GoodIn wsL_law wsX8_offer := goodIn_r _ [502, 164, 71, 414, 80, 69, 79, 68, 81, 70, 82, 83, 72, 84, 234, 235, 236, 5, 237, 165, 169, 170, 171, 172, 173, 174, 175, 861, 862, 863, 864, 865, 866, 867, 868, 869, 870, 871, 872, 873, 874, 875, 876, 877, 878, 879, 880, 881, 882, 883, 884, 885, 886, 887, 888, 889, 890, 891, 892, 893, 894, 895, 896, 897, 898] (by decide +kernel) (by decide +kernel)
set_option maxRecDepth 20000 in
theorem gL_law_X8_offer : GoodIn wsL_law (wsV RL 151 RX8 yX8_offer wsX8_offer) := goodIn_app (goodIn_of _ (by decide +kernel)) ggL_law_X8_offer
theorem dL_law_648 : decode cL_law 648 = .ok (.invokevirtual 151, 3) := by decide +kernel
theorem dL_law_651 : decode cL_law 651 = .ok (.istore 6, 2) := by decide +kernel
theorem dL_law_653 : decode cL_law 653 = .ok (.aload_n 2, 1) := by decide +kernel
theorem dL_law_654 : decode cL_law 654 = .ok (.invokevirtual 125, 3) := by decide +kernel
theorem dL_law_657 : decode cL_law 657 = .ok (.iload 5, 2) := by decide +kernel
theorem dL_law_659 : decode cL_law 659 = .ok (.if_icmp .eq 5, 3) := by decide +kernel
theorem dL_law_664 : decode cL_law 664 = .ok (.iload 5, 2) := by decide +kernel
theorem dL_law_666 : decode cL_law 666 = .ok (.ifCond .ne 15, 3) := by decide +kernel
theorem dL_law_681 : decode cL_law 681 = .ok (.goto 1485, 3) := by decide +kernel
theorem dL_law_669 : decode cL_law 669 = .ok (.aload_n 3, 1) := by decide +kernel
theorem dL_law_670 : decode cL_law 670 = .ok (.iconst 0, 1) := by decide +kernel
theorem dL_law_671 : decode cL_law 671 = .ok (.laload, 1) := by decide +kernel
theorem dL_law_672 : decode cL_law 672 = .ok (.iload 6, 2) := by decide +kernel
theorem dL_law_674 : decode cL_law 674 = .ok (.i2l, 1) := by decide +kernel
theorem dL_law_675 : decode cL_law 675 = .ok (.lcmp, 1) := by decide +kernel
theorem dL_law_676 : decode cL_law 676 = .ok (.ifCond .eq 5, 3) := by decide +kernel
theorem dL_law_684 : decode cL_law 684 = .ok (.aload_n 1, 1) := by decide +kernel
theorem dL_law_685 : decode cL_law 685 = .ok (.aload_n 0, 1) := by decide +kernel
theorem dL_law_686 : decode cL_law 686 = .ok (.iload 4, 2) := by decide +kernel
theorem dL_law_688 : decode cL_law 688 = .ok (.iconst 1, 1) := by decide +kernel
theorem dL_law_689 : decode cL_law 689 = .ok (.iadd, 1) := by decide +kernel
theorem dL_law_690 : decode cL_law 690 = .ok (.iaload, 1) := by decide +kernel
theorem dL_law_691 : decode cL_law 691 = .ok (.aload_n 0, 1) := by decide +kernel
theorem dL_law_692 : decode cL_law 692 = .ok (.iload 4, 2) := by decide +kernel
theorem dL_law_694 : decode cL_law 694 = .ok (.iconst 2, 1) := by decide +kernel
theorem dL_law_695 : decode cL_law 695 = .ok (.iadd, 1) := by decide +kernel
theorem dL_law_696 : decode cL_law 696 = .ok (.iaload, 1) := by decide +kernel
theorem dL_law_697 : decode cL_law 697 = .ok (.aload_n 3, 1) := by decide +kernel
set_option maxRecDepth 20000 in
theorem ggL_law_L_copy : GoodIn wsL_law wsL_copy := goodIn_ca (goodIn_ca (goodIn_r _ [505, 101, 102, 506, 507, 508, 2, 509, 25, 316, 317, 318, 319, 110, 111, 18, 107, 108, 109, 510, 511, 512, 116, 117, 112, 113, 114, 115, 16, 15, 118, 119, 120, 121, 122, 123, 11, 12, 124, 125, 126, 127, 128, 129, 130, 131, 132, 133, 134, 135, 136, 137, 138, 13, 139, 140, 141, 142, 143, 144, 145, 146, 147, 148, 149, 513, 494, 495, 496, 497, 203, 204, 205, 498, 151, 152, 153, 154, 155, 156, 157, 158, 159, 915, 916, 917, 918, 919, 920, 929, 930, 931, 932, 933, 934, 935, 936, 854, 855, 856, 857, 858, 859, 860, 921, 922, 923, 924, 925, 926, 927, 928] (by decide +kernel) (by decide +kernel)) (goodIn_sub (fun _ h => List.mem_append_left _ (List.mem_append_left _ (List.mem_append_right _ h))) (by decide +kernel))) (goodIn_sub (fun _ h => List.mem_append_left _ (List.mem_append_right _ h)) (by decide +kernel))
set_option maxRecDepth 20000 in
theorem gL_law_L_copy : GoodIn wsL_law (va_wsS RL 152 yL_copy wsL_copy) := goodIn_app (goodIn_of _ (by decide +kernel)) ggL_law_L_copy
theorem dL_law_698 : decode cL_law 698 = .ok (.invokestatic 152, 3) := by decide +kernel
theorem dL_law_701 : decode cL_law 701 = .ok (.istore 5, 2) := by decide +kernel
theorem dL_law_703 : decode cL_law 703 = .ok (.aload_n 2, 1) := by decide +kernel
theorem dL_law_704 : decode cL_law 704 = .ok (.aload_n 0, 1) := by decide +kernel
theorem dL_law_705 : decode cL_law 705 = .ok (.iload 4, 2) := by decide +kernel
theorem dL_law_707 : decode cL_law 707 = .ok (.iconst 1, 1) := by decide +kernel
theorem dL_law_708 : decode cL_law 708 = .ok (.iadd, 1) := by decide +kernel
theorem dL_law_709 : decode cL_law 709 = .ok (.iaload, 1) := by decide +kernel
theorem dL_law_710 : decode cL_law 710 = .ok (.aload_n 0, 1) := by decide +kernel
theorem dL_law_711 : decode cL_law 711 = .ok (.iload 4, 2) := by decide +kernel
theorem dL_law_713 : decode cL_law 713 = .ok (.iconst 2, 1) := by decide +kernel
theorem dL_law_714 : decode cL_law 714 = .ok (.iadd, 1) := by decide +kernel
theorem dL_law_715 : decode cL_law 715 = .ok (.iaload, 1) := by decide +kernel
set_option maxRecDepth 20000 in
theorem ggL_law_X8_copy : GoodIn wsL_law wsX8_copy := goodIn_r _ [517, 164, 82, 165, 69, 80, 81, 518, 519, 520, 5, 521, 414, 169, 170, 171, 166, 167, 168, 172, 173, 174, 175, 176, 177, 178, 179, 68, 70, 71, 72, 861, 862, 863, 864, 865, 866, 867, 868, 869, 870, 871, 872, 873, 874, 875, 876, 877, 878, 879, 880, 881, 882, 883, 884, 885, 886, 887, 888, 889, 890, 891, 892, 893, 894, 895, 896, 897, 898] (by decide +kernel) (by decide +kernel)
set_option maxRecDepth 20000 in
theorem gL_law_X8_copy : GoodIn wsL_law (wsV RL 154 RX8 yX8_copy wsX8_copy) := goodIn_app (goodIn_of _ (by decide +kernel)) ggL_law_X8_copy
theorem dL_law_716 : decode cL_law 716 = .ok (.invokevirtual 154, 3) := by decide +kernel
theorem dL_law_719 : decode cL_law 719 = .ok (.istore 6, 2) := by decide +kernel
theorem dL_law_721 : decode cL_law 721 = .ok (.aload_n 2, 1) := by decide +kernel
theorem dL_law_722 : decode cL_law 722 = .ok (.invokevirtual 125, 3) := by decide +kernel
theorem dL_law_725 : decode cL_law 725 = .ok (.iload 5, 2) := by decide +kernel
theorem dL_law_727 : decode cL_law 727 = .ok (.if_icmp .eq 5, 3) := by decide +kernel
theorem dL_law_732 : decode cL_law 732 = .ok (.iload 5, 2) := by decide +kernel
theorem dL_law_734 : decode cL_law 734 = .ok (.ifCond .ne 15, 3) := by decide +kernel
theorem dL_law_749 : decode cL_law 749 = .ok (.goto 1417, 3) := by decide +kernel
theorem dL_law_737 : decode cL_law 737 = .ok (.aload_n 3, 1) := by decide +kernel
theorem dL_law_738 : decode cL_law 738 = .ok (.iconst 0, 1) := by decide +kernel
theorem dL_law_739 : decode cL_law 739 = .ok (.laload, 1) := by decide +kernel
theorem dL_law_740 : decode cL_law 740 = .ok (.iload 6, 2) := by decide +kernel
theorem dL_law_742 : decode cL_law 742 = .ok (.i2l, 1) := by decide +kernel
theorem dL_law_743 : decode cL_law 743 = .ok (.lcmp, 1) := by decide +kernel
theorem dL_law_744 : decode cL_law 744 = .ok (.ifCond .eq 5, 3) := by decide +kernel
theorem dL_law_752 : decode cL_law 752 = .ok (.aload_n 1, 1) := by decide +kernel
theorem dL_law_753 : decode cL_law 753 = .ok (.aload_n 0, 1) := by decide +kernel
theorem dL_law_754 : decode cL_law 754 = .ok (.iload 4, 2) := by decide +kernel
theorem dL_law_756 : decode cL_law 756 = .ok (.iconst 1, 1) := by decide +kernel
theorem dL_law_757 : decode cL_law 757 = .ok (.iadd, 1) := by decide +kernel
theorem dL_law_758 : decode cL_law 758 = .ok (.iaload, 1) := by decide +kernel
theorem dL_law_759 : decode cL_law 759 = .ok (.aload_n 0, 1) := by decide +kernel
theorem dL_law_760 : decode cL_law 760 = .ok (.iload 4, 2) := by decide +kernel
theorem dL_law_762 : decode cL_law 762 = .ok (.iconst 2, 1) := by decide +kernel
theorem dL_law_763 : decode cL_law 763 = .ok (.iadd, 1) := by decide +kernel
theorem dL_law_764 : decode cL_law 764 = .ok (.iaload, 1) := by decide +kernel
theorem dL_law_765 : decode cL_law 765 = .ok (.aload_n 0, 1) := by decide +kernel
theorem dL_law_766 : decode cL_law 766 = .ok (.iload 4, 2) := by decide +kernel
theorem dL_law_768 : decode cL_law 768 = .ok (.iconst 3, 1) := by decide +kernel
theorem dL_law_769 : decode cL_law 769 = .ok (.iadd, 1) := by decide +kernel
theorem dL_law_770 : decode cL_law 770 = .ok (.iaload, 1) := by decide +kernel
theorem dL_law_771 : decode cL_law 771 = .ok (.aload_n 3, 1) := by decide +kernel
set_option maxRecDepth 20000 in
theorem ggL_law_L_star : GoodIn wsL_law wsL_star := goodIn_ca (goodIn_ca (goodIn_ca (goodIn_r _ [524, 101, 187, 102, 525, 526, 527, 2, 528, 192, 193, 116, 117, 316, 317, 318, 319, 110, 111, 18, 107, 108, 109, 510, 511, 512, 929, 930, 931, 932, 933, 934, 935, 936, 854, 855, 856, 857, 858, 859, 860] (by decide +kernel) (by decide +kernel)) (goodIn_sub (fun _ h => List.mem_append_right _ h) (by decide +kernel))) (goodIn_sub (fun _ h => List.mem_append_left _ (List.mem_append_right _ h)) (by decide +kernel))) (goodIn_sub (fun _ h => List.mem_append_left _ (List.mem_append_left _ (List.mem_append_right _ h))) (by decide +kernel))
set_option maxRecDepth 20000 in
theorem gL_law_L_star : GoodIn wsL_law (va_wsS RL 155 yL_star wsL_star) := goodIn_app (goodIn_of _ (by decide +kernel)) ggL_law_L_star
theorem dL_law_772 : decode cL_law 772 = .ok (.invokestatic 155, 3) := by decide +kernel
theorem dL_law_775 : decode cL_law 775 = .ok (.istore 5, 2) := by decide +kernel
theorem dL_law_777 : decode cL_law 777 = .ok (.aload_n 2, 1) := by decide +kernel
theorem dL_law_778 : decode cL_law 778 = .ok (.aload_n 0, 1) := by decide +kernel
theorem dL_law_779 : decode cL_law 779 = .ok (.iload 4, 2) := by decide +kernel
theorem dL_law_781 : decode cL_law 781 = .ok (.iconst 1, 1) := by decide +kernel
theorem dL_law_782 : decode cL_law 782 = .ok (.iadd, 1) := by decide +kernel
theorem dL_law_783 : decode cL_law 783 = .ok (.iaload, 1) := by decide +kernel
theorem dL_law_784 : decode cL_law 784 = .ok (.aload_n 0, 1) := by decide +kernel
theorem dL_law_785 : decode cL_law 785 = .ok (.iload 4, 2) := by decide +kernel
theorem dL_law_787 : decode cL_law 787 = .ok (.iconst 2, 1) := by decide +kernel
theorem dL_law_788 : decode cL_law 788 = .ok (.iadd, 1) := by decide +kernel
theorem dL_law_789 : decode cL_law 789 = .ok (.iaload, 1) := by decide +kernel
theorem dL_law_790 : decode cL_law 790 = .ok (.aload_n 0, 1) := by decide +kernel
theorem dL_law_791 : decode cL_law 791 = .ok (.iload 4, 2) := by decide +kernel
theorem dL_law_793 : decode cL_law 793 = .ok (.iconst 3, 1) := by decide +kernel
theorem dL_law_794 : decode cL_law 794 = .ok (.iadd, 1) := by decide +kernel
theorem dL_law_795 : decode cL_law 795 = .ok (.iaload, 1) := by decide +kernel
set_option maxRecDepth 20000 in
theorem ggL_law_X8_star : GoodIn wsL_law wsX8_star := goodIn_r _ [532, 164, 82, 79, 85, 518, 519, 520, 5, 521, 414, 169, 170, 171, 166, 167, 168, 172, 173, 174, 175, 861, 862, 863, 864, 865, 866, 867, 868, 869, 870, 871, 872, 873, 874, 875, 876, 877, 878, 879, 880, 881, 882, 883, 884, 885, 886, 887, 888, 889, 890, 891, 892, 893, 894, 895, 896, 897, 898] (by decide +kernel) (by decide +kernel)
set_option maxRecDepth 20000 in
theorem gL_law_X8_star : GoodIn wsL_law (wsV RL 157 RX8 yX8_star wsX8_star) := goodIn_app (goodIn_of _ (by decide +kernel)) ggL_law_X8_star
theorem dL_law_796 : decode cL_law 796 = .ok (.invokevirtual 157, 3) := by decide +kernel
theorem dL_law_799 : decode cL_law 799 = .ok (.istore 6, 2) := by decide +kernel
theorem dL_law_801 : decode cL_law 801 = .ok (.aload_n 2, 1) := by decide +kernel
theorem dL_law_802 : decode cL_law 802 = .ok (.invokevirtual 125, 3) := by decide +kernel
theorem dL_law_805 : decode cL_law 805 = .ok (.iload 5, 2) := by decide +kernel
theorem dL_law_807 : decode cL_law 807 = .ok (.if_icmp .eq 5, 3) := by decide +kernel
theorem dL_law_812 : decode cL_law 812 = .ok (.iload 5, 2) := by decide +kernel
theorem dL_law_814 : decode cL_law 814 = .ok (.ifCond .ne 15, 3) := by decide +kernel
theorem dL_law_829 : decode cL_law 829 = .ok (.goto 1337, 3) := by decide +kernel
theorem dL_law_817 : decode cL_law 817 = .ok (.aload_n 3, 1) := by decide +kernel
theorem dL_law_818 : decode cL_law 818 = .ok (.iconst 0, 1) := by decide +kernel
theorem dL_law_819 : decode cL_law 819 = .ok (.laload, 1) := by decide +kernel
theorem dL_law_820 : decode cL_law 820 = .ok (.iload 6, 2) := by decide +kernel
theorem dL_law_822 : decode cL_law 822 = .ok (.i2l, 1) := by decide +kernel
theorem dL_law_823 : decode cL_law 823 = .ok (.lcmp, 1) := by decide +kernel
theorem dL_law_824 : decode cL_law 824 = .ok (.ifCond .eq 5, 3) := by decide +kernel
theorem dL_law_832 : decode cL_law 832 = .ok (.aload_n 1, 1) := by decide +kernel
theorem dL_law_833 : decode cL_law 833 = .ok (.aload_n 0, 1) := by decide +kernel
theorem dL_law_834 : decode cL_law 834 = .ok (.iload 4, 2) := by decide +kernel
theorem dL_law_836 : decode cL_law 836 = .ok (.iconst 1, 1) := by decide +kernel
theorem dL_law_837 : decode cL_law 837 = .ok (.iadd, 1) := by decide +kernel
theorem dL_law_838 : decode cL_law 838 = .ok (.iaload, 1) := by decide +kernel
theorem dL_law_839 : decode cL_law 839 = .ok (.aload_n 0, 1) := by decide +kernel
theorem dL_law_840 : decode cL_law 840 = .ok (.iload 4, 2) := by decide +kernel
theorem dL_law_842 : decode cL_law 842 = .ok (.iconst 2, 1) := by decide +kernel
theorem dL_law_843 : decode cL_law 843 = .ok (.iadd, 1) := by decide +kernel
theorem dL_law_844 : decode cL_law 844 = .ok (.iaload, 1) := by decide +kernel
theorem dL_law_845 : decode cL_law 845 = .ok (.aload_n 3, 1) := by decide +kernel
set_option maxRecDepth 20000 in
theorem ggL_law_L_run : GoodIn wsL_law wsL_run := goodIn_ca (goodIn_ca (goodIn_r _ [535, 101, 102, 536, 537, 538, 2, 539, 402, 403, 404, 405, 110, 111, 20, 316, 317, 318, 319, 18, 510, 511, 512, 116, 117, 540, 541, 542, 28, 543, 57, 59, 61, 544, 333, 334, 42, 335, 49, 50, 51, 336, 337, 338, 339, 48, 154, 155, 340, 203, 204, 126, 205, 139, 341, 342, 343, 344, 140, 545, 546, 547, 548, 58, 549, 550, 551, 479, 552, 487, 553, 554, 555, 556, 854, 855, 856, 857, 858, 859, 860, 929, 930, 931, 932, 933, 934, 935, 936, 906, 907, 908, 909, 910, 911, 912, 913, 914, 921, 922, 923] (by decide +kernel) (by decide +kernel)) (goodIn_sub (fun _ h => List.mem_append_left _ (List.mem_append_left _ (List.mem_append_right _ h))) (by decide +kernel))) (goodIn_sub (fun _ h => List.mem_append_left _ (List.mem_append_right _ h)) (by decide +kernel))
set_option maxRecDepth 20000 in
theorem gL_law_L_run : GoodIn wsL_law (va_wsS RL 158 yL_run wsL_run) := goodIn_app (goodIn_of _ (by decide +kernel)) ggL_law_L_run
theorem dL_law_846 : decode cL_law 846 = .ok (.invokestatic 158, 3) := by decide +kernel
theorem dL_law_849 : decode cL_law 849 = .ok (.istore 5, 2) := by decide +kernel
theorem dL_law_851 : decode cL_law 851 = .ok (.aload_n 2, 1) := by decide +kernel
theorem dL_law_852 : decode cL_law 852 = .ok (.aload_n 0, 1) := by decide +kernel
theorem dL_law_853 : decode cL_law 853 = .ok (.iload 4, 2) := by decide +kernel
theorem dL_law_855 : decode cL_law 855 = .ok (.iconst 1, 1) := by decide +kernel
theorem dL_law_856 : decode cL_law 856 = .ok (.iadd, 1) := by decide +kernel
theorem dL_law_857 : decode cL_law 857 = .ok (.iaload, 1) := by decide +kernel
theorem dL_law_858 : decode cL_law 858 = .ok (.aload_n 0, 1) := by decide +kernel
theorem dL_law_859 : decode cL_law 859 = .ok (.iload 4, 2) := by decide +kernel
theorem dL_law_861 : decode cL_law 861 = .ok (.iconst 2, 1) := by decide +kernel
theorem dL_law_862 : decode cL_law 862 = .ok (.iadd, 1) := by decide +kernel
theorem dL_law_863 : decode cL_law 863 = .ok (.iaload, 1) := by decide +kernel
set_option maxRecDepth 20000 in
theorem ggL_law_X8_run : GoodIn wsL_law wsX8_run := goodIn_r _ [560, 164, 82, 87, 91, 81, 166, 167, 5, 168, 169, 170, 171, 518, 519, 520, 521, 414, 172, 173, 174, 175, 427, 428, 429, 430, 431, 92, 80, 69, 93, 440, 441, 442, 443, 438, 439, 444, 445, 446, 447, 436, 437, 561, 562, 563, 564, 88, 89, 90, 86, 84, 861, 862, 863, 864, 865, 866, 867, 868, 869, 870, 871, 872, 873, 874, 875, 876, 877, 878, 879, 880, 881, 882, 883, 884, 885, 886, 887, 888, 889, 890, 891, 892, 893, 894, 895, 896, 897, 898] (by decide +kernel) (by decide +kernel)
set_option maxRecDepth 20000 in
theorem gL_law_X8_run : GoodIn wsL_law (wsV RL 160 RX8 yX8_run wsX8_run) := goodIn_app (goodIn_of _ (by decide +kernel)) ggL_law_X8_run
theorem dL_law_864 : decode cL_law 864 = .ok (.invokevirtual 160, 3) := by decide +kernel
theorem dL_law_867 : decode cL_law 867 = .ok (.istore 6, 2) := by decide +kernel
theorem dL_law_869 : decode cL_law 869 = .ok (.aload_n 2, 1) := by decide +kernel
theorem dL_law_870 : decode cL_law 870 = .ok (.invokevirtual 125, 3) := by decide +kernel
theorem dL_law_873 : decode cL_law 873 = .ok (.iload 5, 2) := by decide +kernel
theorem dL_law_875 : decode cL_law 875 = .ok (.if_icmp .eq 5, 3) := by decide +kernel
theorem dL_law_880 : decode cL_law 880 = .ok (.iload 5, 2) := by decide +kernel
theorem dL_law_882 : decode cL_law 882 = .ok (.ifCond .ne 15, 3) := by decide +kernel
theorem dL_law_897 : decode cL_law 897 = .ok (.goto 1269, 3) := by decide +kernel
theorem dL_law_885 : decode cL_law 885 = .ok (.aload_n 3, 1) := by decide +kernel
theorem dL_law_886 : decode cL_law 886 = .ok (.iconst 0, 1) := by decide +kernel
theorem dL_law_887 : decode cL_law 887 = .ok (.laload, 1) := by decide +kernel
theorem dL_law_888 : decode cL_law 888 = .ok (.iload 6, 2) := by decide +kernel
theorem dL_law_890 : decode cL_law 890 = .ok (.i2l, 1) := by decide +kernel
theorem dL_law_891 : decode cL_law 891 = .ok (.lcmp, 1) := by decide +kernel
theorem dL_law_892 : decode cL_law 892 = .ok (.ifCond .eq 5, 3) := by decide +kernel
theorem dL_law_900 : decode cL_law 900 = .ok (.aload_n 1, 1) := by decide +kernel
theorem dL_law_901 : decode cL_law 901 = .ok (.aload_n 0, 1) := by decide +kernel
theorem dL_law_902 : decode cL_law 902 = .ok (.iload 4, 2) := by decide +kernel
theorem dL_law_904 : decode cL_law 904 = .ok (.iconst 1, 1) := by decide +kernel
theorem dL_law_905 : decode cL_law 905 = .ok (.iadd, 1) := by decide +kernel
theorem dL_law_906 : decode cL_law 906 = .ok (.iaload, 1) := by decide +kernel
theorem dL_law_907 : decode cL_law 907 = .ok (.aload_n 0, 1) := by decide +kernel
theorem dL_law_908 : decode cL_law 908 = .ok (.iload 4, 2) := by decide +kernel
theorem dL_law_910 : decode cL_law 910 = .ok (.iconst 2, 1) := by decide +kernel
theorem dL_law_911 : decode cL_law 911 = .ok (.iadd, 1) := by decide +kernel
theorem dL_law_912 : decode cL_law 912 = .ok (.iaload, 1) := by decide +kernel
theorem dL_law_913 : decode cL_law 913 = .ok (.aload_n 3, 1) := by decide +kernel
set_option maxRecDepth 20000 in
theorem ggL_law_L_step : GoodIn wsL_law wsL_step := goodIn_ca (goodIn_ca (goodIn_ca (goodIn_r _ [567, 101, 187, 102, 568, 569, 570, 2, 571, 192, 193, 116, 117, 402, 403, 404, 405, 110, 111, 20, 572, 573, 574, 28, 575, 57, 59, 61, 576, 382, 383, 42, 384, 49, 51, 385, 374, 375, 376, 48, 377, 378, 379, 380, 50, 340, 203, 204, 126, 205, 139, 386, 387, 388, 389, 336, 337, 338, 339, 154, 155, 341, 342, 343, 344, 140, 390, 391, 392, 393, 394, 395, 396, 397, 52, 545, 546, 547, 548, 58, 549, 550, 551, 479, 552, 487, 553, 554, 555, 556, 906, 907, 908, 909, 854, 855, 856, 857, 858, 859, 860, 929, 930, 931, 932, 933, 934, 935, 936, 910, 911, 912, 913, 914, 921, 922, 923] (by decide +kernel) (by decide +kernel)) (goodIn_sub (fun _ h => List.mem_append_right _ h) (by decide +kernel))) (goodIn_sub (fun _ h => List.mem_append_left _ (List.mem_append_right _ h)) (by decide +kernel))) (goodIn_sub (fun _ h => List.mem_append_left _ (List.mem_append_left _ (List.mem_append_right _ h))) (by decide +kernel))
set_option maxRecDepth 20000 in
theorem gL_law_L_step : GoodIn wsL_law (va_wsS RL 161 yL_step wsL_step) := goodIn_app (goodIn_of _ (by decide +kernel)) ggL_law_L_step
theorem dL_law_914 : decode cL_law 914 = .ok (.invokestatic 161, 3) := by decide +kernel
theorem dL_law_917 : decode cL_law 917 = .ok (.istore 5, 2) := by decide +kernel
theorem dL_law_919 : decode cL_law 919 = .ok (.aload_n 2, 1) := by decide +kernel
theorem dL_law_920 : decode cL_law 920 = .ok (.aload_n 0, 1) := by decide +kernel
theorem dL_law_921 : decode cL_law 921 = .ok (.iload 4, 2) := by decide +kernel
theorem dL_law_923 : decode cL_law 923 = .ok (.iconst 1, 1) := by decide +kernel
theorem dL_law_924 : decode cL_law 924 = .ok (.iadd, 1) := by decide +kernel
theorem dL_law_925 : decode cL_law 925 = .ok (.iaload, 1) := by decide +kernel
theorem dL_law_926 : decode cL_law 926 = .ok (.aload_n 0, 1) := by decide +kernel
theorem dL_law_927 : decode cL_law 927 = .ok (.iload 4, 2) := by decide +kernel
theorem dL_law_929 : decode cL_law 929 = .ok (.iconst 2, 1) := by decide +kernel
theorem dL_law_930 : decode cL_law 930 = .ok (.iadd, 1) := by decide +kernel
theorem dL_law_931 : decode cL_law 931 = .ok (.iaload, 1) := by decide +kernel
set_option maxRecDepth 20000 in
theorem ggL_law_X8_step : GoodIn wsL_law wsX8_step := goodIn_r _ [580, 164, 86, 91, 87, 88, 437, 89, 438, 90, 439, 436, 166, 167, 5, 168, 169, 170, 171, 172, 173, 174, 175, 427, 428, 429, 430, 431, 92, 80, 69, 93, 452, 453, 454, 455, 67, 456, 457, 458, 459, 444, 445, 446, 447, 561, 562, 563, 564, 84, 861, 862, 863, 864, 865, 866, 867, 868, 869, 870, 871, 872, 873, 874, 875, 876, 877, 878, 879, 880, 881, 882, 883, 884, 885, 886, 887, 888, 889, 890, 891, 892, 893, 894, 895, 896, 897, 898] (by decide +kernel) (by decide +kernel)
set_option maxRecDepth 20000 in
theorem gL_law_X8_step : GoodIn wsL_law (wsV RL 163 RX8 yX8_step wsX8_step) := goodIn_app (goodIn_of _ (by decide +kernel)) ggL_law_X8_step
theorem dL_law_932 : decode cL_law 932 = .ok (.invokevirtual 163, 3) := by decide +kernel
theorem dL_law_935 : decode cL_law 935 = .ok (.istore 6, 2) := by decide +kernel
theorem dL_law_937 : decode cL_law 937 = .ok (.aload_n 2, 1) := by decide +kernel
theorem dL_law_938 : decode cL_law 938 = .ok (.invokevirtual 125, 3) := by decide +kernel
theorem dL_law_941 : decode cL_law 941 = .ok (.iload 5, 2) := by decide +kernel
theorem dL_law_943 : decode cL_law 943 = .ok (.if_icmp .eq 5, 3) := by decide +kernel
theorem dL_law_948 : decode cL_law 948 = .ok (.iload 5, 2) := by decide +kernel
theorem dL_law_950 : decode cL_law 950 = .ok (.ifCond .ne 15, 3) := by decide +kernel
theorem dL_law_965 : decode cL_law 965 = .ok (.goto 1201, 3) := by decide +kernel
theorem dL_law_953 : decode cL_law 953 = .ok (.aload_n 3, 1) := by decide +kernel
theorem dL_law_954 : decode cL_law 954 = .ok (.iconst 0, 1) := by decide +kernel
theorem dL_law_955 : decode cL_law 955 = .ok (.laload, 1) := by decide +kernel
theorem dL_law_956 : decode cL_law 956 = .ok (.iload 6, 2) := by decide +kernel
theorem dL_law_958 : decode cL_law 958 = .ok (.i2l, 1) := by decide +kernel
theorem dL_law_959 : decode cL_law 959 = .ok (.lcmp, 1) := by decide +kernel
theorem dL_law_960 : decode cL_law 960 = .ok (.ifCond .eq 5, 3) := by decide +kernel

set_option maxRecDepth 100000 in
set_option maxHeartbeats 4000000 in
theorem lc_prove {κ : KX} {D : va_G} {A : Nat → Prop} {nm : String} (C : CX κ "LedgeLevelsLaw" nm cL_law wsL_law { frames := 12, cells := 601024, slots := 7293034, locals := 438 } D A 7) (kn : KN κ) {b x mm ao nS : Nat} {sc : Nat → Int} (xs0 : XS κ b nS sc) {h : vh} {t i n1 n2 : Nat} (hS : Sy D x mm ao h t) (ht : t < 512) (hi : i + 3 < nS) (hnS : nS ≤ 2048) (hsc : ∀ j, -2147483648 ≤ sc j ∧ sc j ≤ 2147483647) (hn : n1 + 500 ≤ 601024 ∧ n2 + 3000 ≤ 7293034) (K : ∀ h9, Sy D x mm ao h9 (t + 1) → X κ (n1 + 500) (n2 + 3000) h9 [(0, .ref b), (1, .ref x), (2, .ref mm), (3, .ref ao), (4, vI ((i : Nat) : Int))] 2166 []) : X κ n1 n2 h [(0, .ref b), (1, .ref x), (2, .ref mm), (3, .ref ao), (4, vI ((i : Nat) : Int))] 572 [] := by
  obtain ⟨ad, c, L, W, am, m, fo, hR, hO, rfl, rfl, hC, hSi, hB⟩ := hS
  obtain ⟨p1, hp1⟩ : ∃ p9, p9 = sc (Int.toNat (((i : Nat) : Int) + 1)) := ⟨_, rfl⟩
  have hr1 : -2147483648 ≤ p1 ∧ p1 ≤ 2147483647 := by rw [hp1]; exact hsc _
  have hb3 := hB.2.2
  refine x_aload_n C dL_law_572 1 rfl ?_
  refine x_aload_n C dL_law_573 0 rfl ?_
  refine x_iload C dL_law_574 4 rfl ?_
  refine x_iconst C dL_law_576 1 (by decide) ?_
  refine x_iadd C dL_law_577 ?_
  refine x_sld C xs0 ⟨by omega, by omega⟩ (by omega) dL_law_578 ?_
  refine x_topv (show sc (Int.toNat (((i : Nat) : Int) + 1)) = p1 from hp1.symm) ?_
  refine x_aload_n C dL_law_579 3 rfl ?_
  refine x_callSh C (n := 3) (As := [.ref (ad 0 0), vI p1, .ref ao]) (rest := []) (c_L_prove (ao := ao) (fo := fo) (c_X7_prove hR hC (hB.oks (by omega)) (by omega)) (hR.1 0 0 (lv0 (by decide))) (fun rv h9 hp => by obtain ⟨y0, y1, rfl, hcp, _⟩ := hp; exact ⟨_, rfl, (hO.fr hcp.2).2.1⟩) (fun E h9 hx => by obtain ⟨_, hx⟩ := hx; rcases hx with ⟨rfl, q⟩ | ⟨rfl, q⟩ | ⟨rfl, q⟩ <;> first | exact q.elim | exact rfl | exact Or.inl rfl | exact Or.inr rfl | exact Or.inr (Or.inl rfl) | exact Or.inr (Or.inr rfl))) kn gL_law_L_prove (by decide +kernel) rfl rfl rfl (Nat.le_of_ble_eq_true rfl) ⟨by decide, by decide⟩ ⟨by dsimp only; omega, by dsimp only; omega⟩ dL_law_580 (fun rv h1 hp => ?_)
  obtain ⟨k, ad1, c1, L1, W1, fo1, rfl, hk, hR1, hO1, hx1, hB1, hA⟩ := hr_prove hO rfl hR hC hSi hB rv h1 hp
  refine x_istore C (ls' := [(0, .ref b), (1, .ref (ad 0 0)), (2, .ref (am 0 0)), (3, .ref ao), (4, vI ((i : Nat) : Int))] ++ [(5, vI k)]) dL_law_583 (by decide) rfl ?_
  refine x_aload_n C dL_law_585 2 rfl ?_
  refine x_aload_n C dL_law_586 0 rfl ?_
  refine x_iload C dL_law_587 4 rfl ?_
  refine x_iconst C dL_law_589 1 (by decide) ?_
  refine x_iadd C dL_law_590 ?_
  refine x_sld C xs0 ⟨by omega, by omega⟩ (by omega) dL_law_591 ?_
  refine x_topv (show sc (Int.toNat (((i : Nat) : Int) + 1)) = p1 from hp1.symm) ?_
  refine x_callV C (n := 1) (qc := (RX8, TX8, 38)) (As := [vI p1]) (rest := []) (c_X8_prove hO1.1 (hSi.mk1 hC) (by omega) (hSi.g4 hC) hSi.ke hSi.gk (hSi.ss hC) (hSi.bg hC)) gL_law_X8_prove (by decide +kernel) (hO1.1.1 0 0 (lm0 (by decide))) rfl rfl rfl rfl (Nat.le_of_ble_eq_true rfl) ⟨by decide, by decide⟩ ⟨by dsimp only; omega, by dsimp only; omega⟩ dL_law_592 (fun rv2 h2 hp2 => ?_)
  obtain ⟨r, m1, rfl, hM, hPR⟩ := hp2
  obtain ⟨a1, a2, a3, a4⟩ := hA r m1 hPR
  obtain ⟨hR2, hO2⟩ := hO1.mp hR1 hM
  refine x_istore C (ls' := [(0, .ref b), (1, .ref (ad 0 0)), (2, .ref (am 0 0)), (3, .ref ao), (4, vI ((i : Nat) : Int))] ++ [(5, vI k), (6, vI r)]) dL_law_595 (by decide) rfl ?_
  refine x_aload_n C dL_law_597 2 rfl ?_
  refine x_callV C (n := 0) (qc := (RX8, TX8, 38)) (As := []) (rest := []) (c_X8_thrown hO2.1) gL_law_X8_thrown (by decide +kernel) (hO2.1.1 0 0 (lm0 (by decide))) rfl rfl rfl rfl (Nat.le_of_ble_eq_true rfl) ⟨by decide, by decide⟩ ⟨by dsimp only; omega, by dsimp only; omega⟩ dL_law_598 (fun rv3 h3 hp3 => ?_)
  obtain ⟨rfl, rfl⟩ := hp3
  refine x_topv (show m1 0 0 0 = k from a1) ?_
  refine x_iload C dL_law_601 5 rfl ?_
  refine x_icmp_eq (tgt := 608) C dL_law_603 (by decide) (by omega) (by omega) (fun _ => ?_) (fun z1 => absurd rfl z1)
  refine x_iload C dL_law_608 5 rfl ?_
  refine x_if_ne (tgt := 625) C dL_law_610 (by decide) (by omega) (fun z1 => ?_) (fun z1 => ?_)
  · refine x_goto (tgt := 2166) C dL_law_625 (by decide) ?_
    refine x_sub [0, 1, 2, 3, 4] (ls' := [(0, .ref b), (1, .ref (ad 0 0)), (2, .ref (am 0 0)), (3, .ref ao), (4, vI ((i : Nat) : Int))]) rfl ?_
    refine x_widen (m1 := n1 + 500) (m2 := n2 + 3000) (by dsimp only; omega) (by dsimp only; omega) ?_
    exact K _ ⟨ad1, c1, L1, W1, am, m1, fo1, hR2, hO2, hx1, rfl, a4, a2, hB1⟩
  · refine x_aload_n C dL_law_613 3 rfl ?_
    refine x_iconst C dL_law_614 0 (by decide) ?_
    refine x_lald C hO2.2.1 ⟨by decide, by decide⟩ (by decide) dL_law_615 ?_
    refine x_iload C dL_law_616 6 rfl ?_
    refine x_i2l C dL_law_618 ?_
    refine x_lcmp C dL_law_619 (a3 (by omega)) ?_
    refine x_if_eq (tgt := 625) C dL_law_620 (by decide) (by omega) (fun _ => ?_) (fun z2 => absurd rfl z2)
    refine x_goto (tgt := 2166) C dL_law_625 (by decide) ?_
    refine x_sub [0, 1, 2, 3, 4] (ls' := [(0, .ref b), (1, .ref (ad 0 0)), (2, .ref (am 0 0)), (3, .ref ao), (4, vI ((i : Nat) : Int))]) rfl ?_
    refine x_widen (m1 := n1 + 500) (m2 := n2 + 3000) (by dsimp only; omega) (by dsimp only; omega) ?_
    exact K _ ⟨ad1, c1, L1, W1, am, m1, fo1, hR2, hO2, hx1, rfl, a4, a2, hB1⟩

set_option maxRecDepth 100000 in
set_option maxHeartbeats 4000000 in
theorem lc_offer {κ : KX} {D : va_G} {A : Nat → Prop} {nm : String} (C : CX κ "LedgeLevelsLaw" nm cL_law wsL_law { frames := 12, cells := 601024, slots := 7293034, locals := 438 } D A 7) (kn : KN κ) {b x mm ao nS : Nat} {sc : Nat → Int} (xs0 : XS κ b nS sc) {h : vh} {t i n1 n2 : Nat} (hS : Sy D x mm ao h t) (ht : t < 512) (hi : i + 3 < nS) (hnS : nS ≤ 2048) (hsc : ∀ j, -2147483648 ≤ sc j ∧ sc j ≤ 2147483647) (hn : n1 + 500 ≤ 601024 ∧ n2 + 3000 ≤ 7293034) (K : ∀ h9, Sy D x mm ao h9 (t + 1) → X κ (n1 + 500) (n2 + 3000) h9 [(0, .ref b), (1, .ref x), (2, .ref mm), (3, .ref ao), (4, vI ((i : Nat) : Int))] 2166 []) : X κ n1 n2 h [(0, .ref b), (1, .ref x), (2, .ref mm), (3, .ref ao), (4, vI ((i : Nat) : Int))] 628 [] := by
  obtain ⟨ad, c, L, W, am, m, fo, hR, hO, rfl, rfl, hC, hSi, hB⟩ := hS
  obtain ⟨p1, hp1⟩ : ∃ p9, p9 = sc (Int.toNat (((i : Nat) : Int) + 1)) := ⟨_, rfl⟩
  have hr1 : -2147483648 ≤ p1 ∧ p1 ≤ 2147483647 := by rw [hp1]; exact hsc _
  have hb3 := hB.2.2
  refine x_aload_n C dL_law_628 1 rfl ?_
  refine x_aload_n C dL_law_629 0 rfl ?_
  refine x_iload C dL_law_630 4 rfl ?_
  refine x_iconst C dL_law_632 1 (by decide) ?_
  refine x_iadd C dL_law_633 ?_
  refine x_sld C xs0 ⟨by omega, by omega⟩ (by omega) dL_law_634 ?_
  refine x_topv (show sc (Int.toNat (((i : Nat) : Int) + 1)) = p1 from hp1.symm) ?_
  refine x_aload_n C dL_law_635 3 rfl ?_
  refine x_callSh C (n := 3) (As := [.ref (ad 0 0), vI p1, .ref ao]) (rest := []) (c_L_offer (ao := ao) (fo := fo) (c_X7_offer hR hC (by omega)) (hR.1 0 0 (lv0 (by decide))) (fun rv h9 hp => by obtain ⟨y0, rfl, hcp, hg, _⟩ := hp; exact ⟨_, rfl, (hO.gr hg hcp.2).2.1⟩) (fun E h9 hx => by obtain ⟨_, hx⟩ := hx; rcases hx with ⟨rfl, q⟩ | ⟨rfl, q⟩ | ⟨rfl, q⟩ <;> first | exact q.elim | exact rfl | exact Or.inl rfl | exact Or.inr rfl | exact Or.inr (Or.inl rfl) | exact Or.inr (Or.inr rfl))) kn gL_law_L_offer (by decide +kernel) rfl rfl rfl (Nat.le_of_ble_eq_true rfl) ⟨by decide, by decide⟩ ⟨by dsimp only; omega, by dsimp only; omega⟩ dL_law_636 (fun rv h1 hp => ?_)
  obtain ⟨k, ad1, c1, L1, W1, fo1, rfl, hk, hR1, hO1, hx1, hB1, hA⟩ := hr_offer hO rfl hR hC hSi hB rv h1 hp
  refine x_istore C (ls' := [(0, .ref b), (1, .ref (ad 0 0)), (2, .ref (am 0 0)), (3, .ref ao), (4, vI ((i : Nat) : Int))] ++ [(5, vI k)]) dL_law_639 (by decide) rfl ?_
  refine x_aload_n C dL_law_641 2 rfl ?_
  refine x_aload_n C dL_law_642 0 rfl ?_
  refine x_iload C dL_law_643 4 rfl ?_
  refine x_iconst C dL_law_645 1 (by decide) ?_
  refine x_iadd C dL_law_646 ?_
  refine x_sld C xs0 ⟨by omega, by omega⟩ (by omega) dL_law_647 ?_
  refine x_topv (show sc (Int.toNat (((i : Nat) : Int) + 1)) = p1 from hp1.symm) ?_
  refine x_callV C (n := 1) (qc := (RX8, TX8, 38)) (As := [vI p1]) (rest := []) (c_X8_offer hO1.1 (hSi.mk1 hC) (by omega) (hSi.pf hC)) gL_law_X8_offer (by decide +kernel) (hO1.1.1 0 0 (lm0 (by decide))) rfl rfl rfl rfl (Nat.le_of_ble_eq_true rfl) ⟨by decide, by decide⟩ ⟨by dsimp only; omega, by dsimp only; omega⟩ dL_law_648 (fun rv2 h2 hp2 => ?_)
  obtain ⟨r, m1, rfl, hM, hPR⟩ := hp2
  obtain ⟨a1, a2, a3, a4⟩ := hA r m1 hPR
  obtain ⟨hR2, hO2⟩ := hO1.mp hR1 hM
  refine x_istore C (ls' := [(0, .ref b), (1, .ref (ad 0 0)), (2, .ref (am 0 0)), (3, .ref ao), (4, vI ((i : Nat) : Int))] ++ [(5, vI k), (6, vI r)]) dL_law_651 (by decide) rfl ?_
  refine x_aload_n C dL_law_653 2 rfl ?_
  refine x_callV C (n := 0) (qc := (RX8, TX8, 38)) (As := []) (rest := []) (c_X8_thrown hO2.1) gL_law_X8_thrown (by decide +kernel) (hO2.1.1 0 0 (lm0 (by decide))) rfl rfl rfl rfl (Nat.le_of_ble_eq_true rfl) ⟨by decide, by decide⟩ ⟨by dsimp only; omega, by dsimp only; omega⟩ dL_law_654 (fun rv3 h3 hp3 => ?_)
  obtain ⟨rfl, rfl⟩ := hp3
  refine x_topv (show m1 0 0 0 = k from a1) ?_
  refine x_iload C dL_law_657 5 rfl ?_
  refine x_icmp_eq (tgt := 664) C dL_law_659 (by decide) (by omega) (by omega) (fun _ => ?_) (fun z1 => absurd rfl z1)
  refine x_iload C dL_law_664 5 rfl ?_
  refine x_if_ne (tgt := 681) C dL_law_666 (by decide) (by omega) (fun z1 => ?_) (fun z1 => ?_)
  · refine x_goto (tgt := 2166) C dL_law_681 (by decide) ?_
    refine x_sub [0, 1, 2, 3, 4] (ls' := [(0, .ref b), (1, .ref (ad 0 0)), (2, .ref (am 0 0)), (3, .ref ao), (4, vI ((i : Nat) : Int))]) rfl ?_
    refine x_widen (m1 := n1 + 500) (m2 := n2 + 3000) (by dsimp only; omega) (by dsimp only; omega) ?_
    exact K _ ⟨ad1, c1, L1, W1, am, m1, fo1, hR2, hO2, hx1, rfl, a4, a2, hB1⟩
  · refine x_aload_n C dL_law_669 3 rfl ?_
    refine x_iconst C dL_law_670 0 (by decide) ?_
    refine x_lald C hO2.2.1 ⟨by decide, by decide⟩ (by decide) dL_law_671 ?_
    refine x_iload C dL_law_672 6 rfl ?_
    refine x_i2l C dL_law_674 ?_
    refine x_lcmp C dL_law_675 (a3 (by omega)) ?_
    refine x_if_eq (tgt := 681) C dL_law_676 (by decide) (by omega) (fun _ => ?_) (fun z2 => absurd rfl z2)
    refine x_goto (tgt := 2166) C dL_law_681 (by decide) ?_
    refine x_sub [0, 1, 2, 3, 4] (ls' := [(0, .ref b), (1, .ref (ad 0 0)), (2, .ref (am 0 0)), (3, .ref ao), (4, vI ((i : Nat) : Int))]) rfl ?_
    refine x_widen (m1 := n1 + 500) (m2 := n2 + 3000) (by dsimp only; omega) (by dsimp only; omega) ?_
    exact K _ ⟨ad1, c1, L1, W1, am, m1, fo1, hR2, hO2, hx1, rfl, a4, a2, hB1⟩

set_option maxRecDepth 100000 in
set_option maxHeartbeats 4000000 in
theorem lc_copy {κ : KX} {D : va_G} {A : Nat → Prop} {nm : String} (C : CX κ "LedgeLevelsLaw" nm cL_law wsL_law { frames := 12, cells := 601024, slots := 7293034, locals := 438 } D A 7) (kn : KN κ) {b x mm ao nS : Nat} {sc : Nat → Int} (xs0 : XS κ b nS sc) {h : vh} {t i n1 n2 : Nat} (hS : Sy D x mm ao h t) (ht : t < 512) (hi : i + 3 < nS) (hnS : nS ≤ 2048) (hsc : ∀ j, -2147483648 ≤ sc j ∧ sc j ≤ 2147483647) (hn : n1 + 500 ≤ 601024 ∧ n2 + 3000 ≤ 7293034) (K : ∀ h9, Sy D x mm ao h9 (t + 1) → X κ (n1 + 500) (n2 + 3000) h9 [(0, .ref b), (1, .ref x), (2, .ref mm), (3, .ref ao), (4, vI ((i : Nat) : Int))] 2166 []) : X κ n1 n2 h [(0, .ref b), (1, .ref x), (2, .ref mm), (3, .ref ao), (4, vI ((i : Nat) : Int))] 684 [] := by
  obtain ⟨ad, c, L, W, am, m, fo, hR, hO, rfl, rfl, hC, hSi, hB⟩ := hS
  obtain ⟨p1, hp1⟩ : ∃ p9, p9 = sc (Int.toNat (((i : Nat) : Int) + 1)) := ⟨_, rfl⟩
  have hr1 : -2147483648 ≤ p1 ∧ p1 ≤ 2147483647 := by rw [hp1]; exact hsc _
  obtain ⟨p2, hp2⟩ : ∃ p9, p9 = sc (Int.toNat (((i : Nat) : Int) + 2)) := ⟨_, rfl⟩
  have hr2 : -2147483648 ≤ p2 ∧ p2 ≤ 2147483647 := by rw [hp2]; exact hsc _
  have hb3 := hB.2.2
  refine x_aload_n C dL_law_684 1 rfl ?_
  refine x_aload_n C dL_law_685 0 rfl ?_
  refine x_iload C dL_law_686 4 rfl ?_
  refine x_iconst C dL_law_688 1 (by decide) ?_
  refine x_iadd C dL_law_689 ?_
  refine x_sld C xs0 ⟨by omega, by omega⟩ (by omega) dL_law_690 ?_
  refine x_topv (show sc (Int.toNat (((i : Nat) : Int) + 1)) = p1 from hp1.symm) ?_
  refine x_aload_n C dL_law_691 0 rfl ?_
  refine x_iload C dL_law_692 4 rfl ?_
  refine x_iconst C dL_law_694 2 (by decide) ?_
  refine x_iadd C dL_law_695 ?_
  refine x_sld C xs0 ⟨by omega, by omega⟩ (by omega) dL_law_696 ?_
  refine x_topv (show sc (Int.toNat (((i : Nat) : Int) + 2)) = p2 from hp2.symm) ?_
  refine x_aload_n C dL_law_697 3 rfl ?_
  refine x_callSh C (n := 4) (As := [.ref (ad 0 0), vI p1, vI p2, .ref ao]) (rest := []) (c_L_copy (ao := ao) (fo := fo) (c_X7_copy hR hC (by omega) (by omega)) (hR.1 0 0 (lv0 (by decide))) (fun rv h9 hp => by obtain ⟨y0, rfl, hcp, hg, _⟩ := hp; exact ⟨_, rfl, (hO.gr hg hcp.2).2.1⟩) (fun E h9 hx => by obtain ⟨_, hx⟩ := hx; rcases hx with ⟨rfl, q⟩ | ⟨rfl, q⟩ | ⟨rfl, q⟩ <;> first | exact q.elim | exact rfl | exact Or.inl rfl | exact Or.inr rfl | exact Or.inr (Or.inl rfl) | exact Or.inr (Or.inr rfl))) kn gL_law_L_copy (by decide +kernel) rfl rfl rfl (Nat.le_of_ble_eq_true rfl) ⟨by decide, by decide⟩ ⟨by dsimp only; omega, by dsimp only; omega⟩ dL_law_698 (fun rv h1 hp => ?_)
  obtain ⟨k, ad1, c1, L1, W1, fo1, rfl, hk, hR1, hO1, hx1, hB1, hA⟩ := hr_copy hO rfl hR hC hSi hB rv h1 hp
  refine x_istore C (ls' := [(0, .ref b), (1, .ref (ad 0 0)), (2, .ref (am 0 0)), (3, .ref ao), (4, vI ((i : Nat) : Int))] ++ [(5, vI k)]) dL_law_701 (by decide) rfl ?_
  refine x_aload_n C dL_law_703 2 rfl ?_
  refine x_aload_n C dL_law_704 0 rfl ?_
  refine x_iload C dL_law_705 4 rfl ?_
  refine x_iconst C dL_law_707 1 (by decide) ?_
  refine x_iadd C dL_law_708 ?_
  refine x_sld C xs0 ⟨by omega, by omega⟩ (by omega) dL_law_709 ?_
  refine x_topv (show sc (Int.toNat (((i : Nat) : Int) + 1)) = p1 from hp1.symm) ?_
  refine x_aload_n C dL_law_710 0 rfl ?_
  refine x_iload C dL_law_711 4 rfl ?_
  refine x_iconst C dL_law_713 2 (by decide) ?_
  refine x_iadd C dL_law_714 ?_
  refine x_sld C xs0 ⟨by omega, by omega⟩ (by omega) dL_law_715 ?_
  refine x_topv (show sc (Int.toNat (((i : Nat) : Int) + 2)) = p2 from hp2.symm) ?_
  refine x_callV C (n := 2) (qc := (RX8, TX8, 38)) (As := [vI p1, vI p2]) (rest := []) (c_X8_copy hO1.1 (hSi.mk1 hC) (by omega) (by omega) (hSi.bst hC)) gL_law_X8_copy (by decide +kernel) (hO1.1.1 0 0 (lm0 (by decide))) rfl rfl rfl rfl (Nat.le_of_ble_eq_true rfl) ⟨by decide, by decide⟩ ⟨by dsimp only; omega, by dsimp only; omega⟩ dL_law_716 (fun rv2 h2 hp2 => ?_)
  obtain ⟨r, m1, rfl, hM, hPR⟩ := hp2
  obtain ⟨a1, a2, a3, a4⟩ := hA r m1 hPR
  obtain ⟨hR2, hO2⟩ := hO1.mp hR1 hM
  refine x_istore C (ls' := [(0, .ref b), (1, .ref (ad 0 0)), (2, .ref (am 0 0)), (3, .ref ao), (4, vI ((i : Nat) : Int))] ++ [(5, vI k), (6, vI r)]) dL_law_719 (by decide) rfl ?_
  refine x_aload_n C dL_law_721 2 rfl ?_
  refine x_callV C (n := 0) (qc := (RX8, TX8, 38)) (As := []) (rest := []) (c_X8_thrown hO2.1) gL_law_X8_thrown (by decide +kernel) (hO2.1.1 0 0 (lm0 (by decide))) rfl rfl rfl rfl (Nat.le_of_ble_eq_true rfl) ⟨by decide, by decide⟩ ⟨by dsimp only; omega, by dsimp only; omega⟩ dL_law_722 (fun rv3 h3 hp3 => ?_)
  obtain ⟨rfl, rfl⟩ := hp3
  refine x_topv (show m1 0 0 0 = k from a1) ?_
  refine x_iload C dL_law_725 5 rfl ?_
  refine x_icmp_eq (tgt := 732) C dL_law_727 (by decide) (by omega) (by omega) (fun _ => ?_) (fun z1 => absurd rfl z1)
  refine x_iload C dL_law_732 5 rfl ?_
  refine x_if_ne (tgt := 749) C dL_law_734 (by decide) (by omega) (fun z1 => ?_) (fun z1 => ?_)
  · refine x_goto (tgt := 2166) C dL_law_749 (by decide) ?_
    refine x_sub [0, 1, 2, 3, 4] (ls' := [(0, .ref b), (1, .ref (ad 0 0)), (2, .ref (am 0 0)), (3, .ref ao), (4, vI ((i : Nat) : Int))]) rfl ?_
    refine x_widen (m1 := n1 + 500) (m2 := n2 + 3000) (by dsimp only; omega) (by dsimp only; omega) ?_
    exact K _ ⟨ad1, c1, L1, W1, am, m1, fo1, hR2, hO2, hx1, rfl, a4, a2, hB1⟩
  · refine x_aload_n C dL_law_737 3 rfl ?_
    refine x_iconst C dL_law_738 0 (by decide) ?_
    refine x_lald C hO2.2.1 ⟨by decide, by decide⟩ (by decide) dL_law_739 ?_
    refine x_iload C dL_law_740 6 rfl ?_
    refine x_i2l C dL_law_742 ?_
    refine x_lcmp C dL_law_743 (a3 (by omega)) ?_
    refine x_if_eq (tgt := 749) C dL_law_744 (by decide) (by omega) (fun _ => ?_) (fun z2 => absurd rfl z2)
    refine x_goto (tgt := 2166) C dL_law_749 (by decide) ?_
    refine x_sub [0, 1, 2, 3, 4] (ls' := [(0, .ref b), (1, .ref (ad 0 0)), (2, .ref (am 0 0)), (3, .ref ao), (4, vI ((i : Nat) : Int))]) rfl ?_
    refine x_widen (m1 := n1 + 500) (m2 := n2 + 3000) (by dsimp only; omega) (by dsimp only; omega) ?_
    exact K _ ⟨ad1, c1, L1, W1, am, m1, fo1, hR2, hO2, hx1, rfl, a4, a2, hB1⟩

set_option maxRecDepth 100000 in
set_option maxHeartbeats 4000000 in
theorem lc_star {κ : KX} {D : va_G} {A : Nat → Prop} {nm : String} (C : CX κ "LedgeLevelsLaw" nm cL_law wsL_law { frames := 12, cells := 601024, slots := 7293034, locals := 438 } D A 7) (kn : KN κ) {b x mm ao nS : Nat} {sc : Nat → Int} (xs0 : XS κ b nS sc) {h : vh} {t i n1 n2 : Nat} (hS : Sy D x mm ao h t) (ht : t < 512) (hi : i + 3 < nS) (hnS : nS ≤ 2048) (hsc : ∀ j, -2147483648 ≤ sc j ∧ sc j ≤ 2147483647) (hn : n1 + 500 ≤ 601024 ∧ n2 + 3000 ≤ 7293034) (K : ∀ h9, Sy D x mm ao h9 (t + 1) → X κ (n1 + 500) (n2 + 3000) h9 [(0, .ref b), (1, .ref x), (2, .ref mm), (3, .ref ao), (4, vI ((i : Nat) : Int))] 2166 []) : X κ n1 n2 h [(0, .ref b), (1, .ref x), (2, .ref mm), (3, .ref ao), (4, vI ((i : Nat) : Int))] 752 [] := by
  obtain ⟨ad, c, L, W, am, m, fo, hR, hO, rfl, rfl, hC, hSi, hB⟩ := hS
  obtain ⟨p1, hp1⟩ : ∃ p9, p9 = sc (Int.toNat (((i : Nat) : Int) + 1)) := ⟨_, rfl⟩
  have hr1 : -2147483648 ≤ p1 ∧ p1 ≤ 2147483647 := by rw [hp1]; exact hsc _
  obtain ⟨p2, hp2⟩ : ∃ p9, p9 = sc (Int.toNat (((i : Nat) : Int) + 2)) := ⟨_, rfl⟩
  have hr2 : -2147483648 ≤ p2 ∧ p2 ≤ 2147483647 := by rw [hp2]; exact hsc _
  obtain ⟨p3, hp3⟩ : ∃ p9, p9 = sc (Int.toNat (((i : Nat) : Int) + 3)) := ⟨_, rfl⟩
  have hr3 : -2147483648 ≤ p3 ∧ p3 ≤ 2147483647 := by rw [hp3]; exact hsc _
  have hb3 := hB.2.2
  refine x_aload_n C dL_law_752 1 rfl ?_
  refine x_aload_n C dL_law_753 0 rfl ?_
  refine x_iload C dL_law_754 4 rfl ?_
  refine x_iconst C dL_law_756 1 (by decide) ?_
  refine x_iadd C dL_law_757 ?_
  refine x_sld C xs0 ⟨by omega, by omega⟩ (by omega) dL_law_758 ?_
  refine x_topv (show sc (Int.toNat (((i : Nat) : Int) + 1)) = p1 from hp1.symm) ?_
  refine x_aload_n C dL_law_759 0 rfl ?_
  refine x_iload C dL_law_760 4 rfl ?_
  refine x_iconst C dL_law_762 2 (by decide) ?_
  refine x_iadd C dL_law_763 ?_
  refine x_sld C xs0 ⟨by omega, by omega⟩ (by omega) dL_law_764 ?_
  refine x_topv (show sc (Int.toNat (((i : Nat) : Int) + 2)) = p2 from hp2.symm) ?_
  refine x_aload_n C dL_law_765 0 rfl ?_
  refine x_iload C dL_law_766 4 rfl ?_
  refine x_iconst C dL_law_768 3 (by decide) ?_
  refine x_iadd C dL_law_769 ?_
  refine x_sld C xs0 ⟨by omega, by omega⟩ (by omega) dL_law_770 ?_
  refine x_topv (show sc (Int.toNat (((i : Nat) : Int) + 3)) = p3 from hp3.symm) ?_
  refine x_aload_n C dL_law_771 3 rfl ?_
  refine x_callSh C (n := 5) (As := [.ref (ad 0 0), vI p1, vI p2, vI p3, .ref ao]) (rest := []) (c_L_star (ao := ao) (fo := fo) (c_X7_star hR hC (by omega) (by omega) (by omega)) (hR.1 0 0 (lv0 (by decide))) (fun rv h9 hp => by obtain ⟨rfl, hcp, _⟩ := hp; exact ⟨_, rfl, (hO.fr hcp.2).2.1⟩) (fun E h9 hx => by obtain ⟨_, hx⟩ := hx; rcases hx with ⟨rfl, q⟩ | ⟨rfl, q⟩ | ⟨rfl, q⟩ <;> first | exact q.elim | exact rfl | exact Or.inl rfl | exact Or.inr rfl | exact Or.inr (Or.inl rfl) | exact Or.inr (Or.inr rfl))) kn gL_law_L_star (by decide +kernel) rfl rfl rfl (Nat.le_of_ble_eq_true rfl) ⟨by decide, by decide⟩ ⟨by dsimp only; omega, by dsimp only; omega⟩ dL_law_772 (fun rv h1 hp => ?_)
  obtain ⟨k, ad1, c1, L1, W1, fo1, rfl, hk, hR1, hO1, hx1, hB1, hA⟩ := hr_star hO rfl hR hC hSi hB rv h1 hp
  refine x_istore C (ls' := [(0, .ref b), (1, .ref (ad 0 0)), (2, .ref (am 0 0)), (3, .ref ao), (4, vI ((i : Nat) : Int))] ++ [(5, vI k)]) dL_law_775 (by decide) rfl ?_
  refine x_aload_n C dL_law_777 2 rfl ?_
  refine x_aload_n C dL_law_778 0 rfl ?_
  refine x_iload C dL_law_779 4 rfl ?_
  refine x_iconst C dL_law_781 1 (by decide) ?_
  refine x_iadd C dL_law_782 ?_
  refine x_sld C xs0 ⟨by omega, by omega⟩ (by omega) dL_law_783 ?_
  refine x_topv (show sc (Int.toNat (((i : Nat) : Int) + 1)) = p1 from hp1.symm) ?_
  refine x_aload_n C dL_law_784 0 rfl ?_
  refine x_iload C dL_law_785 4 rfl ?_
  refine x_iconst C dL_law_787 2 (by decide) ?_
  refine x_iadd C dL_law_788 ?_
  refine x_sld C xs0 ⟨by omega, by omega⟩ (by omega) dL_law_789 ?_
  refine x_topv (show sc (Int.toNat (((i : Nat) : Int) + 2)) = p2 from hp2.symm) ?_
  refine x_aload_n C dL_law_790 0 rfl ?_
  refine x_iload C dL_law_791 4 rfl ?_
  refine x_iconst C dL_law_793 3 (by decide) ?_
  refine x_iadd C dL_law_794 ?_
  refine x_sld C xs0 ⟨by omega, by omega⟩ (by omega) dL_law_795 ?_
  refine x_topv (show sc (Int.toNat (((i : Nat) : Int) + 3)) = p3 from hp3.symm) ?_
  refine x_callV C (n := 3) (qc := (RX8, TX8, 38)) (As := [vI p1, vI p2, vI p3]) (rest := []) (c_X8_star hO1.1 (hSi.mk1 hC) (by omega) (by omega) (by omega) (hSi.bst hC) (hSi.au hC)) gL_law_X8_star (by decide +kernel) (hO1.1.1 0 0 (lm0 (by decide))) rfl rfl rfl rfl (Nat.le_of_ble_eq_true rfl) ⟨by decide, by decide⟩ ⟨by dsimp only; omega, by dsimp only; omega⟩ dL_law_796 (fun rv2 h2 hp2 => ?_)
  obtain ⟨r, m1, rfl, hM, hPR⟩ := hp2
  obtain ⟨a1, a2, a3, a4⟩ := hA r m1 hPR
  obtain ⟨hR2, hO2⟩ := hO1.mp hR1 hM
  refine x_istore C (ls' := [(0, .ref b), (1, .ref (ad 0 0)), (2, .ref (am 0 0)), (3, .ref ao), (4, vI ((i : Nat) : Int))] ++ [(5, vI k), (6, vI r)]) dL_law_799 (by decide) rfl ?_
  refine x_aload_n C dL_law_801 2 rfl ?_
  refine x_callV C (n := 0) (qc := (RX8, TX8, 38)) (As := []) (rest := []) (c_X8_thrown hO2.1) gL_law_X8_thrown (by decide +kernel) (hO2.1.1 0 0 (lm0 (by decide))) rfl rfl rfl rfl (Nat.le_of_ble_eq_true rfl) ⟨by decide, by decide⟩ ⟨by dsimp only; omega, by dsimp only; omega⟩ dL_law_802 (fun rv3 h3 hp3 => ?_)
  obtain ⟨rfl, rfl⟩ := hp3
  refine x_topv (show m1 0 0 0 = k from a1) ?_
  refine x_iload C dL_law_805 5 rfl ?_
  refine x_icmp_eq (tgt := 812) C dL_law_807 (by decide) (by omega) (by omega) (fun _ => ?_) (fun z1 => absurd rfl z1)
  refine x_iload C dL_law_812 5 rfl ?_
  refine x_if_ne (tgt := 829) C dL_law_814 (by decide) (by omega) (fun z1 => ?_) (fun z1 => ?_)
  · refine x_goto (tgt := 2166) C dL_law_829 (by decide) ?_
    refine x_sub [0, 1, 2, 3, 4] (ls' := [(0, .ref b), (1, .ref (ad 0 0)), (2, .ref (am 0 0)), (3, .ref ao), (4, vI ((i : Nat) : Int))]) rfl ?_
    refine x_widen (m1 := n1 + 500) (m2 := n2 + 3000) (by dsimp only; omega) (by dsimp only; omega) ?_
    exact K _ ⟨ad1, c1, L1, W1, am, m1, fo1, hR2, hO2, hx1, rfl, a4, a2, hB1⟩
  · refine x_aload_n C dL_law_817 3 rfl ?_
    refine x_iconst C dL_law_818 0 (by decide) ?_
    refine x_lald C hO2.2.1 ⟨by decide, by decide⟩ (by decide) dL_law_819 ?_
    refine x_iload C dL_law_820 6 rfl ?_
    refine x_i2l C dL_law_822 ?_
    refine x_lcmp C dL_law_823 (a3 (by omega)) ?_
    refine x_if_eq (tgt := 829) C dL_law_824 (by decide) (by omega) (fun _ => ?_) (fun z2 => absurd rfl z2)
    refine x_goto (tgt := 2166) C dL_law_829 (by decide) ?_
    refine x_sub [0, 1, 2, 3, 4] (ls' := [(0, .ref b), (1, .ref (ad 0 0)), (2, .ref (am 0 0)), (3, .ref ao), (4, vI ((i : Nat) : Int))]) rfl ?_
    refine x_widen (m1 := n1 + 500) (m2 := n2 + 3000) (by dsimp only; omega) (by dsimp only; omega) ?_
    exact K _ ⟨ad1, c1, L1, W1, am, m1, fo1, hR2, hO2, hx1, rfl, a4, a2, hB1⟩

set_option maxRecDepth 100000 in
set_option maxHeartbeats 4000000 in
theorem lc_run {κ : KX} {D : va_G} {A : Nat → Prop} {nm : String} (C : CX κ "LedgeLevelsLaw" nm cL_law wsL_law { frames := 12, cells := 601024, slots := 7293034, locals := 438 } D A 7) (kn : KN κ) {b x mm ao nS : Nat} {sc : Nat → Int} (xs0 : XS κ b nS sc) {h : vh} {t i n1 n2 : Nat} (hS : Sy D x mm ao h t) (ht : t < 512) (hi : i + 3 < nS) (hnS : nS ≤ 2048) (hsc : ∀ j, -2147483648 ≤ sc j ∧ sc j ≤ 2147483647) (hn : n1 + 500 ≤ 601024 ∧ n2 + 3000 ≤ 7293034) (K : ∀ h9, Sy D x mm ao h9 (t + 1) → X κ (n1 + 500) (n2 + 3000) h9 [(0, .ref b), (1, .ref x), (2, .ref mm), (3, .ref ao), (4, vI ((i : Nat) : Int))] 2166 []) : X κ n1 n2 h [(0, .ref b), (1, .ref x), (2, .ref mm), (3, .ref ao), (4, vI ((i : Nat) : Int))] 832 [] := by
  obtain ⟨ad, c, L, W, am, m, fo, hR, hO, rfl, rfl, hC, hSi, hB⟩ := hS
  obtain ⟨p1, hp1⟩ : ∃ p9, p9 = sc (Int.toNat (((i : Nat) : Int) + 1)) := ⟨_, rfl⟩
  have hr1 : -2147483648 ≤ p1 ∧ p1 ≤ 2147483647 := by rw [hp1]; exact hsc _
  obtain ⟨p2, hp2⟩ : ∃ p9, p9 = sc (Int.toNat (((i : Nat) : Int) + 2)) := ⟨_, rfl⟩
  have hr2 : -2147483648 ≤ p2 ∧ p2 ≤ 2147483647 := by rw [hp2]; exact hsc _
  have hb3 := hB.2.2
  refine x_aload_n C dL_law_832 1 rfl ?_
  refine x_aload_n C dL_law_833 0 rfl ?_
  refine x_iload C dL_law_834 4 rfl ?_
  refine x_iconst C dL_law_836 1 (by decide) ?_
  refine x_iadd C dL_law_837 ?_
  refine x_sld C xs0 ⟨by omega, by omega⟩ (by omega) dL_law_838 ?_
  refine x_topv (show sc (Int.toNat (((i : Nat) : Int) + 1)) = p1 from hp1.symm) ?_
  refine x_aload_n C dL_law_839 0 rfl ?_
  refine x_iload C dL_law_840 4 rfl ?_
  refine x_iconst C dL_law_842 2 (by decide) ?_
  refine x_iadd C dL_law_843 ?_
  refine x_sld C xs0 ⟨by omega, by omega⟩ (by omega) dL_law_844 ?_
  refine x_topv (show sc (Int.toNat (((i : Nat) : Int) + 2)) = p2 from hp2.symm) ?_
  refine x_aload_n C dL_law_845 3 rfl ?_
  refine x_callSh C (n := 4) (As := [.ref (ad 0 0), vI p1, vI p2, .ref ao]) (rest := []) (c_L_run (ao := ao) (fo := fo) (c_X7_run hR hC (by omega) (by omega)) (hR.1 0 0 (lv0 (by decide))) (fun rv h9 hp => by obtain ⟨rfl, hcp, _⟩ := hp; exact ⟨_, rfl, (hO.fr hcp.2).2.1⟩) (fun E h9 hx => by obtain ⟨_, hx⟩ := hx; rcases hx with ⟨rfl, q⟩ | ⟨rfl, q⟩ | ⟨rfl, q⟩ <;> first | exact q.elim | exact rfl | exact Or.inl rfl | exact Or.inr rfl | exact Or.inr (Or.inl rfl) | exact Or.inr (Or.inr rfl))) kn gL_law_L_run (by decide +kernel) rfl rfl rfl (Nat.le_of_ble_eq_true rfl) ⟨by decide, by decide⟩ ⟨by dsimp only; omega, by dsimp only; omega⟩ dL_law_846 (fun rv h1 hp => ?_)
  obtain ⟨k, ad1, c1, L1, W1, fo1, rfl, hk, hR1, hO1, hx1, hB1, hA⟩ := hr_run hO rfl hR hC hSi hB rv h1 hp
  refine x_istore C (ls' := [(0, .ref b), (1, .ref (ad 0 0)), (2, .ref (am 0 0)), (3, .ref ao), (4, vI ((i : Nat) : Int))] ++ [(5, vI k)]) dL_law_849 (by decide) rfl ?_
  refine x_aload_n C dL_law_851 2 rfl ?_
  refine x_aload_n C dL_law_852 0 rfl ?_
  refine x_iload C dL_law_853 4 rfl ?_
  refine x_iconst C dL_law_855 1 (by decide) ?_
  refine x_iadd C dL_law_856 ?_
  refine x_sld C xs0 ⟨by omega, by omega⟩ (by omega) dL_law_857 ?_
  refine x_topv (show sc (Int.toNat (((i : Nat) : Int) + 1)) = p1 from hp1.symm) ?_
  refine x_aload_n C dL_law_858 0 rfl ?_
  refine x_iload C dL_law_859 4 rfl ?_
  refine x_iconst C dL_law_861 2 (by decide) ?_
  refine x_iadd C dL_law_862 ?_
  refine x_sld C xs0 ⟨by omega, by omega⟩ (by omega) dL_law_863 ?_
  refine x_topv (show sc (Int.toNat (((i : Nat) : Int) + 2)) = p2 from hp2.symm) ?_
  refine x_callV C (n := 2) (qc := (RX8, TX8, 38)) (As := [vI p1, vI p2]) (rest := []) (c_X8_run hO1.1 (hSi.mk1 hC) (by omega) (by omega) (hSi.bst hC) (hSi.g16 hC) hSi.kw hSi.gk (hSi.fr hC) (hSi.rec hC)) gL_law_X8_run (by decide +kernel) (hO1.1.1 0 0 (lm0 (by decide))) rfl rfl rfl rfl (Nat.le_of_ble_eq_true rfl) ⟨by decide, by decide⟩ ⟨by dsimp only; omega, by dsimp only; omega⟩ dL_law_864 (fun rv2 h2 hp2 => ?_)
  obtain ⟨r, m1, rfl, hM, hPR⟩ := hp2
  obtain ⟨a1, a2, a3, a4⟩ := hA r m1 hPR
  obtain ⟨hR2, hO2⟩ := hO1.mp hR1 hM
  refine x_istore C (ls' := [(0, .ref b), (1, .ref (ad 0 0)), (2, .ref (am 0 0)), (3, .ref ao), (4, vI ((i : Nat) : Int))] ++ [(5, vI k), (6, vI r)]) dL_law_867 (by decide) rfl ?_
  refine x_aload_n C dL_law_869 2 rfl ?_
  refine x_callV C (n := 0) (qc := (RX8, TX8, 38)) (As := []) (rest := []) (c_X8_thrown hO2.1) gL_law_X8_thrown (by decide +kernel) (hO2.1.1 0 0 (lm0 (by decide))) rfl rfl rfl rfl (Nat.le_of_ble_eq_true rfl) ⟨by decide, by decide⟩ ⟨by dsimp only; omega, by dsimp only; omega⟩ dL_law_870 (fun rv3 h3 hp3 => ?_)
  obtain ⟨rfl, rfl⟩ := hp3
  refine x_topv (show m1 0 0 0 = k from a1) ?_
  refine x_iload C dL_law_873 5 rfl ?_
  refine x_icmp_eq (tgt := 880) C dL_law_875 (by decide) (by omega) (by omega) (fun _ => ?_) (fun z1 => absurd rfl z1)
  refine x_iload C dL_law_880 5 rfl ?_
  refine x_if_ne (tgt := 897) C dL_law_882 (by decide) (by omega) (fun z1 => ?_) (fun z1 => ?_)
  · refine x_goto (tgt := 2166) C dL_law_897 (by decide) ?_
    refine x_sub [0, 1, 2, 3, 4] (ls' := [(0, .ref b), (1, .ref (ad 0 0)), (2, .ref (am 0 0)), (3, .ref ao), (4, vI ((i : Nat) : Int))]) rfl ?_
    refine x_widen (m1 := n1 + 500) (m2 := n2 + 3000) (by dsimp only; omega) (by dsimp only; omega) ?_
    exact K _ ⟨ad1, c1, L1, W1, am, m1, fo1, hR2, hO2, hx1, rfl, a4, a2, hB1⟩
  · refine x_aload_n C dL_law_885 3 rfl ?_
    refine x_iconst C dL_law_886 0 (by decide) ?_
    refine x_lald C hO2.2.1 ⟨by decide, by decide⟩ (by decide) dL_law_887 ?_
    refine x_iload C dL_law_888 6 rfl ?_
    refine x_i2l C dL_law_890 ?_
    refine x_lcmp C dL_law_891 (a3 (by omega)) ?_
    refine x_if_eq (tgt := 897) C dL_law_892 (by decide) (by omega) (fun _ => ?_) (fun z2 => absurd rfl z2)
    refine x_goto (tgt := 2166) C dL_law_897 (by decide) ?_
    refine x_sub [0, 1, 2, 3, 4] (ls' := [(0, .ref b), (1, .ref (ad 0 0)), (2, .ref (am 0 0)), (3, .ref ao), (4, vI ((i : Nat) : Int))]) rfl ?_
    refine x_widen (m1 := n1 + 500) (m2 := n2 + 3000) (by dsimp only; omega) (by dsimp only; omega) ?_
    exact K _ ⟨ad1, c1, L1, W1, am, m1, fo1, hR2, hO2, hx1, rfl, a4, a2, hB1⟩

set_option maxRecDepth 100000 in
set_option maxHeartbeats 4000000 in
theorem lc_step {κ : KX} {D : va_G} {A : Nat → Prop} {nm : String} (C : CX κ "LedgeLevelsLaw" nm cL_law wsL_law { frames := 12, cells := 601024, slots := 7293034, locals := 438 } D A 7) (kn : KN κ) {b x mm ao nS : Nat} {sc : Nat → Int} (xs0 : XS κ b nS sc) {h : vh} {t i n1 n2 : Nat} (hS : Sy D x mm ao h t) (ht : t < 512) (hi : i + 3 < nS) (hnS : nS ≤ 2048) (hsc : ∀ j, -2147483648 ≤ sc j ∧ sc j ≤ 2147483647) (hn : n1 + 500 ≤ 601024 ∧ n2 + 3000 ≤ 7293034) (K : ∀ h9, Sy D x mm ao h9 (t + 1) → X κ (n1 + 500) (n2 + 3000) h9 [(0, .ref b), (1, .ref x), (2, .ref mm), (3, .ref ao), (4, vI ((i : Nat) : Int))] 2166 []) : X κ n1 n2 h [(0, .ref b), (1, .ref x), (2, .ref mm), (3, .ref ao), (4, vI ((i : Nat) : Int))] 900 [] := by
  obtain ⟨ad, c, L, W, am, m, fo, hR, hO, rfl, rfl, hC, hSi, hB⟩ := hS
  obtain ⟨p1, hp1⟩ : ∃ p9, p9 = sc (Int.toNat (((i : Nat) : Int) + 1)) := ⟨_, rfl⟩
  have hr1 : -2147483648 ≤ p1 ∧ p1 ≤ 2147483647 := by rw [hp1]; exact hsc _
  obtain ⟨p2, hp2⟩ : ∃ p9, p9 = sc (Int.toNat (((i : Nat) : Int) + 2)) := ⟨_, rfl⟩
  have hr2 : -2147483648 ≤ p2 ∧ p2 ≤ 2147483647 := by rw [hp2]; exact hsc _
  have hb3 := hB.2.2
  refine x_aload_n C dL_law_900 1 rfl ?_
  refine x_aload_n C dL_law_901 0 rfl ?_
  refine x_iload C dL_law_902 4 rfl ?_
  refine x_iconst C dL_law_904 1 (by decide) ?_
  refine x_iadd C dL_law_905 ?_
  refine x_sld C xs0 ⟨by omega, by omega⟩ (by omega) dL_law_906 ?_
  refine x_topv (show sc (Int.toNat (((i : Nat) : Int) + 1)) = p1 from hp1.symm) ?_
  refine x_aload_n C dL_law_907 0 rfl ?_
  refine x_iload C dL_law_908 4 rfl ?_
  refine x_iconst C dL_law_910 2 (by decide) ?_
  refine x_iadd C dL_law_911 ?_
  refine x_sld C xs0 ⟨by omega, by omega⟩ (by omega) dL_law_912 ?_
  refine x_topv (show sc (Int.toNat (((i : Nat) : Int) + 2)) = p2 from hp2.symm) ?_
  refine x_aload_n C dL_law_913 3 rfl ?_
  refine x_callSh C (n := 4) (As := [.ref (ad 0 0), vI p1, vI p2, .ref ao]) (rest := []) (c_L_step (ao := ao) (fo := fo) (c_X7_step hR hC (by omega) (by omega)) (hR.1 0 0 (lv0 (by decide))) (fun rv h9 hp => by obtain ⟨y0, rfl, hcp, _⟩ := hp; exact ⟨_, rfl, (hO.fr hcp.2).2.1⟩) (fun E h9 hx => by obtain ⟨_, hx⟩ := hx; rcases hx with ⟨rfl, q⟩ | ⟨rfl, q⟩ | ⟨rfl, q⟩ <;> first | exact q.elim | exact rfl | exact Or.inl rfl | exact Or.inr rfl | exact Or.inr (Or.inl rfl) | exact Or.inr (Or.inr rfl))) kn gL_law_L_step (by decide +kernel) rfl rfl rfl (Nat.le_of_ble_eq_true rfl) ⟨by decide, by decide⟩ ⟨by dsimp only; omega, by dsimp only; omega⟩ dL_law_914 (fun rv h1 hp => ?_)
  obtain ⟨k, ad1, c1, L1, W1, fo1, rfl, hk, hR1, hO1, hx1, hB1, hA⟩ := hr_step hO rfl hR hC hSi hB rv h1 hp
  refine x_istore C (ls' := [(0, .ref b), (1, .ref (ad 0 0)), (2, .ref (am 0 0)), (3, .ref ao), (4, vI ((i : Nat) : Int))] ++ [(5, vI k)]) dL_law_917 (by decide) rfl ?_
  refine x_aload_n C dL_law_919 2 rfl ?_
  refine x_aload_n C dL_law_920 0 rfl ?_
  refine x_iload C dL_law_921 4 rfl ?_
  refine x_iconst C dL_law_923 1 (by decide) ?_
  refine x_iadd C dL_law_924 ?_
  refine x_sld C xs0 ⟨by omega, by omega⟩ (by omega) dL_law_925 ?_
  refine x_topv (show sc (Int.toNat (((i : Nat) : Int) + 1)) = p1 from hp1.symm) ?_
  refine x_aload_n C dL_law_926 0 rfl ?_
  refine x_iload C dL_law_927 4 rfl ?_
  refine x_iconst C dL_law_929 2 (by decide) ?_
  refine x_iadd C dL_law_930 ?_
  refine x_sld C xs0 ⟨by omega, by omega⟩ (by omega) dL_law_931 ?_
  refine x_topv (show sc (Int.toNat (((i : Nat) : Int) + 2)) = p2 from hp2.symm) ?_
  refine x_callV C (n := 2) (qc := (RX8, TX8, 38)) (As := [vI p1, vI p2]) (rest := []) (c_X8_step hO1.1 (hSi.mk1 hC) (by omega) (by omega) (hSi.rn hC) (hSi.g16 hC) hSi.kw hSi.gk (hSi.ss hC) (hSi.rec hC)) gL_law_X8_step (by decide +kernel) (hO1.1.1 0 0 (lm0 (by decide))) rfl rfl rfl rfl (Nat.le_of_ble_eq_true rfl) ⟨by decide, by decide⟩ ⟨by dsimp only; omega, by dsimp only; omega⟩ dL_law_932 (fun rv2 h2 hp2 => ?_)
  obtain ⟨r, m1, rfl, hM, hPR⟩ := hp2
  obtain ⟨a1, a2, a3, a4⟩ := hA r m1 hPR
  obtain ⟨hR2, hO2⟩ := hO1.mp hR1 hM
  refine x_istore C (ls' := [(0, .ref b), (1, .ref (ad 0 0)), (2, .ref (am 0 0)), (3, .ref ao), (4, vI ((i : Nat) : Int))] ++ [(5, vI k), (6, vI r)]) dL_law_935 (by decide) rfl ?_
  refine x_aload_n C dL_law_937 2 rfl ?_
  refine x_callV C (n := 0) (qc := (RX8, TX8, 38)) (As := []) (rest := []) (c_X8_thrown hO2.1) gL_law_X8_thrown (by decide +kernel) (hO2.1.1 0 0 (lm0 (by decide))) rfl rfl rfl rfl (Nat.le_of_ble_eq_true rfl) ⟨by decide, by decide⟩ ⟨by dsimp only; omega, by dsimp only; omega⟩ dL_law_938 (fun rv3 h3 hp3 => ?_)
  obtain ⟨rfl, rfl⟩ := hp3
  refine x_topv (show m1 0 0 0 = k from a1) ?_
  refine x_iload C dL_law_941 5 rfl ?_
  refine x_icmp_eq (tgt := 948) C dL_law_943 (by decide) (by omega) (by omega) (fun _ => ?_) (fun z1 => absurd rfl z1)
  refine x_iload C dL_law_948 5 rfl ?_
  refine x_if_ne (tgt := 965) C dL_law_950 (by decide) (by omega) (fun z1 => ?_) (fun z1 => ?_)
  · refine x_goto (tgt := 2166) C dL_law_965 (by decide) ?_
    refine x_sub [0, 1, 2, 3, 4] (ls' := [(0, .ref b), (1, .ref (ad 0 0)), (2, .ref (am 0 0)), (3, .ref ao), (4, vI ((i : Nat) : Int))]) rfl ?_
    refine x_widen (m1 := n1 + 500) (m2 := n2 + 3000) (by dsimp only; omega) (by dsimp only; omega) ?_
    exact K _ ⟨ad1, c1, L1, W1, am, m1, fo1, hR2, hO2, hx1, rfl, a4, a2, hB1⟩
  · refine x_aload_n C dL_law_953 3 rfl ?_
    refine x_iconst C dL_law_954 0 (by decide) ?_
    refine x_lald C hO2.2.1 ⟨by decide, by decide⟩ (by decide) dL_law_955 ?_
    refine x_iload C dL_law_956 6 rfl ?_
    refine x_i2l C dL_law_958 ?_
    refine x_lcmp C dL_law_959 (a3 (by omega)) ?_
    refine x_if_eq (tgt := 965) C dL_law_960 (by decide) (by omega) (fun _ => ?_) (fun z2 => absurd rfl z2)
    refine x_goto (tgt := 2166) C dL_law_965 (by decide) ?_
    refine x_sub [0, 1, 2, 3, 4] (ls' := [(0, .ref b), (1, .ref (ad 0 0)), (2, .ref (am 0 0)), (3, .ref ao), (4, vI ((i : Nat) : Int))]) rfl ?_
    refine x_widen (m1 := n1 + 500) (m2 := n2 + 3000) (by dsimp only; omega) (by dsimp only; omega) ?_
    exact K _ ⟨ad1, c1, L1, W1, am, m1, fo1, hR2, hO2, hx1, rfl, a4, a2, hB1⟩

