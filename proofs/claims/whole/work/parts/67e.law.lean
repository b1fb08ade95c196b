theorem dL_law_1606 : decode cL_law 1606 = .ok (.aload_n 1, 1) := by decide +kernel
theorem dL_law_1607 : decode cL_law 1607 = .ok (.aload_n 0, 1) := by decide +kernel
theorem dL_law_1608 : decode cL_law 1608 = .ok (.iload 4, 2) := by decide +kernel
theorem dL_law_1610 : decode cL_law 1610 = .ok (.iconst 1, 1) := by decide +kernel
theorem dL_law_1611 : decode cL_law 1611 = .ok (.iadd, 1) := by decide +kernel
theorem dL_law_1612 : decode cL_law 1612 = .ok (.iaload, 1) := by decide +kernel
theorem dL_law_1613 : decode cL_law 1613 = .ok (.aload_n 3, 1) := by decide +kernel
set_option maxRecDepth 20000 in
theorem ggL_law_L_parent : GoodIn wsL_law wsL_parent := goodIn_ca (goodIn_r _ [725, 101, 726, 727, 728, 2, 729, 316, 317, 318, 319, 110, 111, 18, 929, 930, 931, 932, 933, 934, 935, 936, 854, 855, 856, 857, 858, 859, 860] (by decide +kernel) (by decide +kernel)) (goodIn_sub (fun _ h => List.mem_append_left _ (List.mem_append_left _ (List.mem_append_right _ h))) (by decide +kernel))
set_option maxRecDepth 20000 in
theorem gL_law_L_parent : GoodIn wsL_law (va_wsS RL 203 yL_parent wsL_parent) := goodIn_app (goodIn_of _ (by decide +kernel)) ggL_law_L_parent
theorem dL_law_1614 : decode cL_law 1614 = .ok (.invokestatic 203, 3) := by decide +kernel
theorem dL_law_1617 : decode cL_law 1617 = .ok (.istore 5, 2) := by decide +kernel
theorem dL_law_1619 : decode cL_law 1619 = .ok (.aload_n 2, 1) := by decide +kernel
theorem dL_law_1620 : decode cL_law 1620 = .ok (.aload_n 0, 1) := by decide +kernel
theorem dL_law_1621 : decode cL_law 1621 = .ok (.iload 4, 2) := by decide +kernel
theorem dL_law_1623 : decode cL_law 1623 = .ok (.iconst 1, 1) := by decide +kernel
theorem dL_law_1624 : decode cL_law 1624 = .ok (.iadd, 1) := by decide +kernel
theorem dL_law_1625 : decode cL_law 1625 = .ok (.iaload, 1) := by decide +kernel
set_option maxRecDepth 20000 in
theorem ggL_law_X8_parent : GoodIn wsL_law wsX8_parent := goodIn_r _ [733, 164, 83, 518, 519, 520, 5, 521, 414, 169, 170, 171, 172, 173, 174, 175, 861, 862, 863, 864, 865, 866, 867, 868, 869, 870, 871, 872, 873, 874, 875, 876, 877, 878, 879, 880, 881, 882, 883, 884, 885, 886, 887, 888, 889, 890, 891, 892, 893, 894, 895, 896, 897, 898] (by decide +kernel) (by decide +kernel)
set_option maxRecDepth 20000 in
theorem gL_law_X8_parent : GoodIn wsL_law (wsV RL 205 RX8 yX8_parent wsX8_parent) := goodIn_app (goodIn_of _ (by decide +kernel)) ggL_law_X8_parent
theorem dL_law_1626 : decode cL_law 1626 = .ok (.invokevirtual 205, 3) := by decide +kernel
theorem dL_law_1629 : decode cL_law 1629 = .ok (.istore 6, 2) := by decide +kernel
theorem dL_law_1631 : decode cL_law 1631 = .ok (.aload_n 2, 1) := by decide +kernel
theorem dL_law_1632 : decode cL_law 1632 = .ok (.invokevirtual 125, 3) := by decide +kernel
theorem dL_law_1635 : decode cL_law 1635 = .ok (.iload 5, 2) := by decide +kernel
theorem dL_law_1637 : decode cL_law 1637 = .ok (.if_icmp .eq 5, 3) := by decide +kernel
theorem dL_law_1642 : decode cL_law 1642 = .ok (.iload 5, 2) := by decide +kernel
theorem dL_law_1644 : decode cL_law 1644 = .ok (.ifCond .ne 15, 3) := by decide +kernel
theorem dL_law_1659 : decode cL_law 1659 = .ok (.goto 507, 3) := by decide +kernel
theorem dL_law_1647 : decode cL_law 1647 = .ok (.aload_n 3, 1) := by decide +kernel
theorem dL_law_1648 : decode cL_law 1648 = .ok (.iconst 0, 1) := by decide +kernel
theorem dL_law_1649 : decode cL_law 1649 = .ok (.laload, 1) := by decide +kernel
theorem dL_law_1650 : decode cL_law 1650 = .ok (.iload 6, 2) := by decide +kernel
theorem dL_law_1652 : decode cL_law 1652 = .ok (.i2l, 1) := by decide +kernel
theorem dL_law_1653 : decode cL_law 1653 = .ok (.lcmp, 1) := by decide +kernel
theorem dL_law_1654 : decode cL_law 1654 = .ok (.ifCond .eq 5, 3) := by decide +kernel
theorem dL_law_1662 : decode cL_law 1662 = .ok (.aload_n 1, 1) := by decide +kernel
theorem dL_law_1663 : decode cL_law 1663 = .ok (.aload_n 0, 1) := by decide +kernel
theorem dL_law_1664 : decode cL_law 1664 = .ok (.iload 4, 2) := by decide +kernel
theorem dL_law_1666 : decode cL_law 1666 = .ok (.iconst 1, 1) := by decide +kernel
theorem dL_law_1667 : decode cL_law 1667 = .ok (.iadd, 1) := by decide +kernel
theorem dL_law_1668 : decode cL_law 1668 = .ok (.iaload, 1) := by decide +kernel
theorem dL_law_1669 : decode cL_law 1669 = .ok (.aload_n 3, 1) := by decide +kernel
set_option maxRecDepth 20000 in
theorem ggL_law_L_line : GoodIn wsL_law wsL_line := goodIn_ca (goodIn_r _ [736, 101, 737, 738, 739, 2, 740, 26, 316, 317, 318, 319, 110, 111, 18, 741, 742, 743, 479, 744, 490, 854, 855, 856, 857, 858, 859, 860, 929, 930, 931, 932, 933, 934, 935, 936] (by decide +kernel) (by decide +kernel)) (goodIn_sub (fun _ h => List.mem_append_left _ (List.mem_append_left _ (List.mem_append_right _ h))) (by decide +kernel))
set_option maxRecDepth 20000 in
theorem gL_law_L_line : GoodIn wsL_law (va_wsS RL 206 yL_line wsL_line) := goodIn_app (goodIn_of _ (by decide +kernel)) ggL_law_L_line
theorem dL_law_1670 : decode cL_law 1670 = .ok (.invokestatic 206, 3) := by decide +kernel
theorem dL_law_1673 : decode cL_law 1673 = .ok (.istore 5, 2) := by decide +kernel
theorem dL_law_1675 : decode cL_law 1675 = .ok (.aload_n 2, 1) := by decide +kernel
theorem dL_law_1676 : decode cL_law 1676 = .ok (.aload_n 0, 1) := by decide +kernel
theorem dL_law_1677 : decode cL_law 1677 = .ok (.iload 4, 2) := by decide +kernel
theorem dL_law_1679 : decode cL_law 1679 = .ok (.iconst 1, 1) := by decide +kernel
theorem dL_law_1680 : decode cL_law 1680 = .ok (.iadd, 1) := by decide +kernel
theorem dL_law_1681 : decode cL_law 1681 = .ok (.iaload, 1) := by decide +kernel
set_option maxRecDepth 20000 in
theorem ggL_law_X8_line : GoodIn wsL_law wsX8_line := goodIn_r _ [748, 164, 414, 518, 519, 520, 5, 521, 169, 170, 171, 172, 173, 174, 175, 749, 750, 751, 752, 83, 861, 862, 863, 864, 865, 866, 867, 868, 869, 870, 871, 872, 873, 874, 875, 876, 877, 878, 879, 880, 881, 882, 883, 884, 885, 886, 887, 888, 889, 890, 891, 892, 893, 894, 895, 896, 897, 898] (by decide +kernel) (by decide +kernel)
set_option maxRecDepth 20000 in
theorem gL_law_X8_line : GoodIn wsL_law (wsV RL 208 RX8 yX8_line wsX8_line) := goodIn_app (goodIn_of _ (by decide +kernel)) ggL_law_X8_line
theorem dL_law_1682 : decode cL_law 1682 = .ok (.invokevirtual 208, 3) := by decide +kernel
theorem dL_law_1685 : decode cL_law 1685 = .ok (.istore 6, 2) := by decide +kernel
theorem dL_law_1687 : decode cL_law 1687 = .ok (.aload_n 2, 1) := by decide +kernel
theorem dL_law_1688 : decode cL_law 1688 = .ok (.invokevirtual 125, 3) := by decide +kernel
theorem dL_law_1691 : decode cL_law 1691 = .ok (.iload 5, 2) := by decide +kernel
theorem dL_law_1693 : decode cL_law 1693 = .ok (.if_icmp .eq 5, 3) := by decide +kernel
theorem dL_law_1698 : decode cL_law 1698 = .ok (.iload 5, 2) := by decide +kernel
theorem dL_law_1700 : decode cL_law 1700 = .ok (.ifCond .ne 15, 3) := by decide +kernel
theorem dL_law_1715 : decode cL_law 1715 = .ok (.goto 451, 3) := by decide +kernel
theorem dL_law_1703 : decode cL_law 1703 = .ok (.aload_n 3, 1) := by decide +kernel
theorem dL_law_1704 : decode cL_law 1704 = .ok (.iconst 0, 1) := by decide +kernel
theorem dL_law_1705 : decode cL_law 1705 = .ok (.laload, 1) := by decide +kernel
theorem dL_law_1706 : decode cL_law 1706 = .ok (.iload 6, 2) := by decide +kernel
theorem dL_law_1708 : decode cL_law 1708 = .ok (.i2l, 1) := by decide +kernel
theorem dL_law_1709 : decode cL_law 1709 = .ok (.lcmp, 1) := by decide +kernel
theorem dL_law_1710 : decode cL_law 1710 = .ok (.ifCond .eq 5, 3) := by decide +kernel
theorem dL_law_1718 : decode cL_law 1718 = .ok (.aload_n 1, 1) := by decide +kernel
theorem dL_law_1719 : decode cL_law 1719 = .ok (.aload_n 0, 1) := by decide +kernel
theorem dL_law_1720 : decode cL_law 1720 = .ok (.iload 4, 2) := by decide +kernel
theorem dL_law_1722 : decode cL_law 1722 = .ok (.iconst 1, 1) := by decide +kernel
theorem dL_law_1723 : decode cL_law 1723 = .ok (.iadd, 1) := by decide +kernel
theorem dL_law_1724 : decode cL_law 1724 = .ok (.iaload, 1) := by decide +kernel
theorem dL_law_1725 : decode cL_law 1725 = .ok (.aload_n 3, 1) := by decide +kernel
set_option maxRecDepth 20000 in
theorem ggL_law_L_stars : GoodIn wsL_law wsL_stars := goodIn_ca (goodIn_r _ [755, 101, 756, 757, 758, 2, 759, 316, 317, 318, 319, 110, 111, 18, 760, 761, 762, 479, 763, 486, 854, 855, 856, 857, 858, 859, 860, 929, 930, 931, 932, 933, 934, 935, 936] (by decide +kernel) (by decide +kernel)) (goodIn_sub (fun _ h => List.mem_append_left _ (List.mem_append_left _ (List.mem_append_right _ h))) (by decide +kernel))
set_option maxRecDepth 20000 in
theorem gL_law_L_stars : GoodIn wsL_law (va_wsS RL 209 yL_stars wsL_stars) := goodIn_app (goodIn_of _ (by decide +kernel)) ggL_law_L_stars
theorem dL_law_1726 : decode cL_law 1726 = .ok (.invokestatic 209, 3) := by decide +kernel
theorem dL_law_1729 : decode cL_law 1729 = .ok (.istore 5, 2) := by decide +kernel
theorem dL_law_1731 : decode cL_law 1731 = .ok (.aload_n 2, 1) := by decide +kernel
theorem dL_law_1732 : decode cL_law 1732 = .ok (.aload_n 0, 1) := by decide +kernel
theorem dL_law_1733 : decode cL_law 1733 = .ok (.iload 4, 2) := by decide +kernel
theorem dL_law_1735 : decode cL_law 1735 = .ok (.iconst 1, 1) := by decide +kernel
theorem dL_law_1736 : decode cL_law 1736 = .ok (.iadd, 1) := by decide +kernel
theorem dL_law_1737 : decode cL_law 1737 = .ok (.iaload, 1) := by decide +kernel
set_option maxRecDepth 20000 in
theorem ggL_law_X8_stars : GoodIn wsL_law wsX8_stars := goodIn_r _ [767, 164, 518, 519, 520, 5, 521, 414, 169, 170, 171, 768, 769, 770, 771, 85, 172, 173, 174, 175, 861, 862, 863, 864, 865, 866, 867, 868, 869, 870, 871, 872, 873, 874, 875, 876, 877, 878, 879, 880, 881, 882, 883, 884, 885, 886, 887, 888, 889, 890, 891, 892, 893, 894, 895, 896, 897, 898] (by decide +kernel) (by decide +kernel)
set_option maxRecDepth 20000 in
theorem gL_law_X8_stars : GoodIn wsL_law (wsV RL 211 RX8 yX8_stars wsX8_stars) := goodIn_app (goodIn_of _ (by decide +kernel)) ggL_law_X8_stars
theorem dL_law_1738 : decode cL_law 1738 = .ok (.invokevirtual 211, 3) := by decide +kernel
theorem dL_law_1741 : decode cL_law 1741 = .ok (.istore 6, 2) := by decide +kernel
theorem dL_law_1743 : decode cL_law 1743 = .ok (.aload_n 2, 1) := by decide +kernel
theorem dL_law_1744 : decode cL_law 1744 = .ok (.invokevirtual 125, 3) := by decide +kernel
theorem dL_law_1747 : decode cL_law 1747 = .ok (.iload 5, 2) := by decide +kernel
theorem dL_law_1749 : decode cL_law 1749 = .ok (.if_icmp .eq 5, 3) := by decide +kernel
theorem dL_law_1754 : decode cL_law 1754 = .ok (.iload 5, 2) := by decide +kernel
theorem dL_law_1756 : decode cL_law 1756 = .ok (.ifCond .ne 15, 3) := by decide +kernel
theorem dL_law_1771 : decode cL_law 1771 = .ok (.goto 395, 3) := by decide +kernel
theorem dL_law_1759 : decode cL_law 1759 = .ok (.aload_n 3, 1) := by decide +kernel
theorem dL_law_1760 : decode cL_law 1760 = .ok (.iconst 0, 1) := by decide +kernel
theorem dL_law_1761 : decode cL_law 1761 = .ok (.laload, 1) := by decide +kernel
theorem dL_law_1762 : decode cL_law 1762 = .ok (.iload 6, 2) := by decide +kernel
theorem dL_law_1764 : decode cL_law 1764 = .ok (.i2l, 1) := by decide +kernel
theorem dL_law_1765 : decode cL_law 1765 = .ok (.lcmp, 1) := by decide +kernel
theorem dL_law_1766 : decode cL_law 1766 = .ok (.ifCond .eq 5, 3) := by decide +kernel
theorem dL_law_1774 : decode cL_law 1774 = .ok (.aload_n 1, 1) := by decide +kernel
theorem dL_law_1775 : decode cL_law 1775 = .ok (.aload_n 0, 1) := by decide +kernel
theorem dL_law_1776 : decode cL_law 1776 = .ok (.iload 4, 2) := by decide +kernel
theorem dL_law_1778 : decode cL_law 1778 = .ok (.iconst 1, 1) := by decide +kernel
theorem dL_law_1779 : decode cL_law 1779 = .ok (.iadd, 1) := by decide +kernel
theorem dL_law_1780 : decode cL_law 1780 = .ok (.iaload, 1) := by decide +kernel
theorem dL_law_1781 : decode cL_law 1781 = .ok (.aload_n 3, 1) := by decide +kernel
set_option maxRecDepth 20000 in
theorem ggL_law_L_credit : GoodIn wsL_law wsL_credit := goodIn_ca (goodIn_r _ [774, 101, 775, 776, 777, 2, 778, 26, 107, 108, 109, 110, 111, 316, 317, 318, 319, 18, 779, 780, 781, 479, 782, 489, 490, 760, 761, 762, 763, 486, 854, 855, 856, 857, 858, 859, 860, 929, 930, 931, 932, 933, 934, 935, 936] (by decide +kernel) (by decide +kernel)) (goodIn_sub (fun _ h => List.mem_append_left _ (List.mem_append_left _ (List.mem_append_right _ h))) (by decide +kernel))
set_option maxRecDepth 20000 in
theorem gL_law_L_credit : GoodIn wsL_law (va_wsS RL 212 yL_credit wsL_credit) := goodIn_app (goodIn_of _ (by decide +kernel)) ggL_law_L_credit
theorem dL_law_1782 : decode cL_law 1782 = .ok (.invokestatic 212, 3) := by decide +kernel
theorem dL_law_1785 : decode cL_law 1785 = .ok (.istore 5, 2) := by decide +kernel
theorem dL_law_1787 : decode cL_law 1787 = .ok (.aload_n 2, 1) := by decide +kernel
theorem dL_law_1788 : decode cL_law 1788 = .ok (.aload_n 0, 1) := by decide +kernel
theorem dL_law_1789 : decode cL_law 1789 = .ok (.iload 4, 2) := by decide +kernel
theorem dL_law_1791 : decode cL_law 1791 = .ok (.iconst 1, 1) := by decide +kernel
theorem dL_law_1792 : decode cL_law 1792 = .ok (.iadd, 1) := by decide +kernel
theorem dL_law_1793 : decode cL_law 1793 = .ok (.iaload, 1) := by decide +kernel
set_option maxRecDepth 20000 in
theorem ggL_law_X8_credit : GoodIn wsL_law wsX8_credit := goodIn_r _ [786, 164, 414, 79, 83, 166, 167, 5, 168, 169, 170, 171, 172, 173, 174, 175, 768, 769, 770, 771, 85, 861, 862, 863, 864, 865, 866, 867, 868, 869, 870, 871, 872, 873, 874, 875, 876, 877, 878, 879, 880, 881, 882, 883, 884, 885, 886, 887, 888, 889, 890, 891, 892, 893, 894, 895, 896, 897, 898] (by decide +kernel) (by decide +kernel)
set_option maxRecDepth 20000 in
theorem gL_law_X8_credit : GoodIn wsL_law (wsV RL 214 RX8 yX8_credit wsX8_credit) := goodIn_app (goodIn_of _ (by decide +kernel)) ggL_law_X8_credit
theorem dL_law_1794 : decode cL_law 1794 = .ok (.invokevirtual 214, 3) := by decide +kernel
theorem dL_law_1797 : decode cL_law 1797 = .ok (.istore 6, 2) := by decide +kernel
theorem dL_law_1799 : decode cL_law 1799 = .ok (.aload_n 2, 1) := by decide +kernel
theorem dL_law_1800 : decode cL_law 1800 = .ok (.invokevirtual 125, 3) := by decide +kernel
theorem dL_law_1803 : decode cL_law 1803 = .ok (.iload 5, 2) := by decide +kernel
theorem dL_law_1805 : decode cL_law 1805 = .ok (.if_icmp .eq 5, 3) := by decide +kernel
theorem dL_law_1810 : decode cL_law 1810 = .ok (.iload 5, 2) := by decide +kernel
theorem dL_law_1812 : decode cL_law 1812 = .ok (.ifCond .ne 15, 3) := by decide +kernel
theorem dL_law_1827 : decode cL_law 1827 = .ok (.goto 339, 3) := by decide +kernel
theorem dL_law_1815 : decode cL_law 1815 = .ok (.aload_n 3, 1) := by decide +kernel
theorem dL_law_1816 : decode cL_law 1816 = .ok (.iconst 0, 1) := by decide +kernel
theorem dL_law_1817 : decode cL_law 1817 = .ok (.laload, 1) := by decide +kernel
theorem dL_law_1818 : decode cL_law 1818 = .ok (.iload 6, 2) := by decide +kernel
theorem dL_law_1820 : decode cL_law 1820 = .ok (.i2l, 1) := by decide +kernel
theorem dL_law_1821 : decode cL_law 1821 = .ok (.lcmp, 1) := by decide +kernel
theorem dL_law_1822 : decode cL_law 1822 = .ok (.ifCond .eq 5, 3) := by decide +kernel
theorem dL_law_1830 : decode cL_law 1830 = .ok (.aload_n 1, 1) := by decide +kernel
theorem dL_law_1831 : decode cL_law 1831 = .ok (.aload_n 0, 1) := by decide +kernel
theorem dL_law_1832 : decode cL_law 1832 = .ok (.iload 4, 2) := by decide +kernel
theorem dL_law_1834 : decode cL_law 1834 = .ok (.iconst 1, 1) := by decide +kernel
theorem dL_law_1835 : decode cL_law 1835 = .ok (.iadd, 1) := by decide +kernel
theorem dL_law_1836 : decode cL_law 1836 = .ok (.iaload, 1) := by decide +kernel
theorem dL_law_1837 : decode cL_law 1837 = .ok (.aload_n 3, 1) := by decide +kernel
set_option maxRecDepth 20000 in
theorem ggL_law_L_record : GoodIn wsL_law wsL_record := goodIn_ca (goodIn_r _ [789, 101, 790, 791, 792, 2, 793, 316, 317, 318, 319, 110, 111, 18, 929, 930, 931, 932, 933, 934, 935, 936, 854, 855, 856, 857, 858, 859, 860] (by decide +kernel) (by decide +kernel)) (goodIn_sub (fun _ h => List.mem_append_left _ (List.mem_append_left _ (List.mem_append_right _ h))) (by decide +kernel))
set_option maxRecDepth 20000 in
theorem gL_law_L_record : GoodIn wsL_law (va_wsS RL 215 yL_record wsL_record) := goodIn_app (goodIn_of _ (by decide +kernel)) ggL_law_L_record
theorem dL_law_1838 : decode cL_law 1838 = .ok (.invokestatic 215, 3) := by decide +kernel
theorem dL_law_1841 : decode cL_law 1841 = .ok (.istore 5, 2) := by decide +kernel
theorem dL_law_1843 : decode cL_law 1843 = .ok (.aload_n 2, 1) := by decide +kernel
theorem dL_law_1844 : decode cL_law 1844 = .ok (.aload_n 0, 1) := by decide +kernel
theorem dL_law_1845 : decode cL_law 1845 = .ok (.iload 4, 2) := by decide +kernel
theorem dL_law_1847 : decode cL_law 1847 = .ok (.iconst 1, 1) := by decide +kernel
theorem dL_law_1848 : decode cL_law 1848 = .ok (.iadd, 1) := by decide +kernel
theorem dL_law_1849 : decode cL_law 1849 = .ok (.iaload, 1) := by decide +kernel
set_option maxRecDepth 20000 in
theorem ggL_law_X8_record : GoodIn wsL_law wsX8_record := goodIn_r _ [797, 164, 84, 518, 519, 520, 5, 521, 414, 169, 170, 171, 172, 173, 174, 175, 861, 862, 863, 864, 865, 866, 867, 868, 869, 870, 871, 872, 873, 874, 875, 876, 877, 878, 879, 880, 881, 882, 883, 884, 885, 886, 887, 888, 889, 890, 891, 892, 893, 894, 895, 896, 897, 898] (by decide +kernel) (by decide +kernel)
set_option maxRecDepth 20000 in
theorem gL_law_X8_record : GoodIn wsL_law (wsV RL 217 RX8 yX8_record wsX8_record) := goodIn_app (goodIn_of _ (by decide +kernel)) ggL_law_X8_record
theorem dL_law_1850 : decode cL_law 1850 = .ok (.invokevirtual 217, 3) := by decide +kernel
theorem dL_law_1853 : decode cL_law 1853 = .ok (.istore 6, 2) := by decide +kernel
theorem dL_law_1855 : decode cL_law 1855 = .ok (.aload_n 2, 1) := by decide +kernel
theorem dL_law_1856 : decode cL_law 1856 = .ok (.invokevirtual 125, 3) := by decide +kernel
theorem dL_law_1859 : decode cL_law 1859 = .ok (.iload 5, 2) := by decide +kernel
theorem dL_law_1861 : decode cL_law 1861 = .ok (.if_icmp .eq 5, 3) := by decide +kernel
theorem dL_law_1866 : decode cL_law 1866 = .ok (.iload 5, 2) := by decide +kernel
theorem dL_law_1868 : decode cL_law 1868 = .ok (.ifCond .ne 15, 3) := by decide +kernel
theorem dL_law_1883 : decode cL_law 1883 = .ok (.goto 283, 3) := by decide +kernel
theorem dL_law_1871 : decode cL_law 1871 = .ok (.aload_n 3, 1) := by decide +kernel
theorem dL_law_1872 : decode cL_law 1872 = .ok (.iconst 0, 1) := by decide +kernel
theorem dL_law_1873 : decode cL_law 1873 = .ok (.laload, 1) := by decide +kernel
theorem dL_law_1874 : decode cL_law 1874 = .ok (.iload 6, 2) := by decide +kernel
theorem dL_law_1876 : decode cL_law 1876 = .ok (.i2l, 1) := by decide +kernel
theorem dL_law_1877 : decode cL_law 1877 = .ok (.lcmp, 1) := by decide +kernel
theorem dL_law_1878 : decode cL_law 1878 = .ok (.ifCond .eq 5, 3) := by decide +kernel

set_option maxRecDepth 100000 in
set_option maxHeartbeats 4000000 in
theorem lc_parent {κ : KX} {D : va_G} {A : Nat → Prop} {nm : String} (C : CX κ "LedgeLevelsLaw" nm cL_law wsL_law { frames := 12, cells := 601024, slots := 7293034, locals := 438 } D A 7) (kn : KN κ) {b x mm ao nS : Nat} {sc : Nat → Int} (xs0 : XS κ b nS sc) {h : vh} {t i n1 n2 : Nat} (hS : Sy D x mm ao h t) (ht : t < 512) (hi : i + 3 < nS) (hnS : nS ≤ 2048) (hsc : ∀ j, -2147483648 ≤ sc j ∧ sc j ≤ 2147483647) (hn : n1 + 500 ≤ 601024 ∧ n2 + 3000 ≤ 7293034) (K : ∀ h9, Sy D x mm ao h9 (t + 1) → X κ (n1 + 500) (n2 + 3000) h9 [(0, .ref b), (1, .ref x), (2, .ref mm), (3, .ref ao), (4, vI ((i : Nat) : Int))] 2166 []) : X κ n1 n2 h [(0, .ref b), (1, .ref x), (2, .ref mm), (3, .ref ao), (4, vI ((i : Nat) : Int))] 1606 [] := by
  obtain ⟨ad, c, L, W, am, m, fo, hR, hO, rfl, rfl, hC, hSi, hB⟩ := hS
  obtain ⟨p1, hp1⟩ : ∃ p9, p9 = sc (Int.toNat (((i : Nat) : Int) + 1)) := ⟨_, rfl⟩
  have hr1 : -2147483648 ≤ p1 ∧ p1 ≤ 2147483647 := by rw [hp1]; exact hsc _
  have hb3 := hB.2.2
  refine x_aload_n C dL_law_1606 1 rfl ?_
  refine x_aload_n C dL_law_1607 0 rfl ?_
  refine x_iload C dL_law_1608 4 rfl ?_
  refine x_iconst C dL_law_1610 1 (by decide) ?_
  refine x_iadd C dL_law_1611 ?_
  refine x_sld C xs0 ⟨by omega, by omega⟩ (by omega) dL_law_1612 ?_
  refine x_topv (show sc (Int.toNat (((i : Nat) : Int) + 1)) = p1 from hp1.symm) ?_
  refine x_aload_n C dL_law_1613 3 rfl ?_
  refine x_callSh C (n := 3) (As := [.ref (ad 0 0), vI p1, .ref ao]) (rest := []) (c_L_parent (ao := ao) (fo := fo) (c_X7_parent hR hC (by omega)) (hR.1 0 0 (lv0 (by decide))) (fun rv h9 hp => by obtain ⟨rfl, rfl, _⟩ := hp; exact ⟨_, rfl, hO.2.1⟩) (fun E h9 hx => by obtain ⟨_, hx⟩ := hx; rcases hx with ⟨rfl, q⟩ | ⟨rfl, q⟩ | ⟨rfl, q⟩ <;> first | exact q.elim | exact rfl | exact Or.inl rfl | exact Or.inr rfl | exact Or.inr (Or.inl rfl) | exact Or.inr (Or.inr rfl))) kn gL_law_L_parent (by decide +kernel) rfl rfl rfl (Nat.le_of_ble_eq_true rfl) ⟨by decide, by decide⟩ ⟨by dsimp only; omega, by dsimp only; omega⟩ dL_law_1614 (fun rv h1 hp => ?_)
  obtain ⟨k, ad1, c1, L1, W1, fo1, rfl, hk, hR1, hO1, hx1, hB1, hA⟩ := hr_parent hO rfl hR hC hSi hB rv h1 hp
  refine x_istore C (ls' := [(0, .ref b), (1, .ref (ad 0 0)), (2, .ref (am 0 0)), (3, .ref ao), (4, vI ((i : Nat) : Int))] ++ [(5, vI k)]) dL_law_1617 (by decide) rfl ?_
  refine x_aload_n C dL_law_1619 2 rfl ?_
  refine x_aload_n C dL_law_1620 0 rfl ?_
  refine x_iload C dL_law_1621 4 rfl ?_
  refine x_iconst C dL_law_1623 1 (by decide) ?_
  refine x_iadd C dL_law_1624 ?_
  refine x_sld C xs0 ⟨by omega, by omega⟩ (by omega) dL_law_1625 ?_
  refine x_topv (show sc (Int.toNat (((i : Nat) : Int) + 1)) = p1 from hp1.symm) ?_
  refine x_callV C (n := 1) (qc := (RX8, TX8, 38)) (As := [vI p1]) (rest := []) (c_X8_parent hO1.1 (hSi.mk1 hC) (by omega)) gL_law_X8_parent (by decide +kernel) (hO1.1.1 0 0 (lm0 (by decide))) rfl rfl rfl rfl (Nat.le_of_ble_eq_true rfl) ⟨by decide, by decide⟩ ⟨by dsimp only; omega, by dsimp only; omega⟩ dL_law_1626 (fun rv2 h2 hp2 => ?_)
  obtain ⟨r, m1, rfl, hM, hPR⟩ := hp2
  obtain ⟨a1, a2, a3, a4⟩ := hA r m1 hPR
  obtain ⟨hR2, hO2⟩ := hO1.mp hR1 hM
  refine x_istore C (ls' := [(0, .ref b), (1, .ref (ad 0 0)), (2, .ref (am 0 0)), (3, .ref ao), (4, vI ((i : Nat) : Int))] ++ [(5, vI k), (6, vI r)]) dL_law_1629 (by decide) rfl ?_
  refine x_aload_n C dL_law_1631 2 rfl ?_
  refine x_callV C (n := 0) (qc := (RX8, TX8, 38)) (As := []) (rest := []) (c_X8_thrown hO2.1) gL_law_X8_thrown (by decide +kernel) (hO2.1.1 0 0 (lm0 (by decide))) rfl rfl rfl rfl (Nat.le_of_ble_eq_true rfl) ⟨by decide, by decide⟩ ⟨by dsimp only; omega, by dsimp only; omega⟩ dL_law_1632 (fun rv3 h3 hp3 => ?_)
  obtain ⟨rfl, rfl⟩ := hp3
  refine x_topv (show m1 0 0 0 = k from a1) ?_
  refine x_iload C dL_law_1635 5 rfl ?_
  refine x_icmp_eq (tgt := 1642) C dL_law_1637 (by decide) (by omega) (by omega) (fun _ => ?_) (fun z1 => absurd rfl z1)
  refine x_iload C dL_law_1642 5 rfl ?_
  refine x_if_ne (tgt := 1659) C dL_law_1644 (by decide) (by omega) (fun z1 => ?_) (fun z1 => ?_)
  · refine x_goto (tgt := 2166) C dL_law_1659 (by decide) ?_
    refine x_sub [0, 1, 2, 3, 4] (ls' := [(0, .ref b), (1, .ref (ad 0 0)), (2, .ref (am 0 0)), (3, .ref ao), (4, vI ((i : Nat) : Int))]) rfl ?_
    refine x_widen (m1 := n1 + 500) (m2 := n2 + 3000) (by dsimp only; omega) (by dsimp only; omega) ?_
    exact K _ ⟨ad1, c1, L1, W1, am, m1, fo1, hR2, hO2, hx1, rfl, a4, a2, hB1⟩
  · refine x_aload_n C dL_law_1647 3 rfl ?_
    refine x_iconst C dL_law_1648 0 (by decide) ?_
    refine x_lald C hO2.2.1 ⟨by decide, by decide⟩ (by decide) dL_law_1649 ?_
    refine x_iload C dL_law_1650 6 rfl ?_
    refine x_i2l C dL_law_1652 ?_
    refine x_lcmp C dL_law_1653 (a3 (by omega)) ?_
    refine x_if_eq (tgt := 1659) C dL_law_1654 (by decide) (by omega) (fun _ => ?_) (fun z2 => absurd rfl z2)
    refine x_goto (tgt := 2166) C dL_law_1659 (by decide) ?_
    refine x_sub [0, 1, 2, 3, 4] (ls' := [(0, .ref b), (1, .ref (ad 0 0)), (2, .ref (am 0 0)), (3, .ref ao), (4, vI ((i : Nat) : Int))]) rfl ?_
    refine x_widen (m1 := n1 + 500) (m2 := n2 + 3000) (by dsimp only; omega) (by dsimp only; omega) ?_
    exact K _ ⟨ad1, c1, L1, W1, am, m1, fo1, hR2, hO2, hx1, rfl, a4, a2, hB1⟩

set_option maxRecDepth 100000 in
set_option maxHeartbeats 4000000 in
theorem lc_line {κ : KX} {D : va_G} {A : Nat → Prop} {nm : String} (C : CX κ "LedgeLevelsLaw" nm cL_law wsL_law { frames := 12, cells := 601024, slots := 7293034, locals := 438 } D A 7) (kn : KN κ) {b x mm ao nS : Nat} {sc : Nat → Int} (xs0 : XS κ b nS sc) {h : vh} {t i n1 n2 : Nat} (hS : Sy D x mm ao h t) (ht : t < 512) (hi : i + 3 < nS) (hnS : nS ≤ 2048) (hsc : ∀ j, -2147483648 ≤ sc j ∧ sc j ≤ 2147483647) (hn : n1 + 500 ≤ 601024 ∧ n2 + 3000 ≤ 7293034) (K : ∀ h9, Sy D x mm ao h9 (t + 1) → X κ (n1 + 500) (n2 + 3000) h9 [(0, .ref b), (1, .ref x), (2, .ref mm), (3, .ref ao), (4, vI ((i : Nat) : Int))] 2166 []) : X κ n1 n2 h [(0, .ref b), (1, .ref x), (2, .ref mm), (3, .ref ao), (4, vI ((i : Nat) : Int))] 1662 [] := by
  obtain ⟨ad, c, L, W, am, m, fo, hR, hO, rfl, rfl, hC, hSi, hB⟩ := hS
  obtain ⟨p1, hp1⟩ : ∃ p9, p9 = sc (Int.toNat (((i : Nat) : Int) + 1)) := ⟨_, rfl⟩
  have hr1 : -2147483648 ≤ p1 ∧ p1 ≤ 2147483647 := by rw [hp1]; exact hsc _
  have hb3 := hB.2.2
  refine x_aload_n C dL_law_1662 1 rfl ?_
  refine x_aload_n C dL_law_1663 0 rfl ?_
  refine x_iload C dL_law_1664 4 rfl ?_
  refine x_iconst C dL_law_1666 1 (by decide) ?_
  refine x_iadd C dL_law_1667 ?_
  refine x_sld C xs0 ⟨by omega, by omega⟩ (by omega) dL_law_1668 ?_
  refine x_topv (show sc (Int.toNat (((i : Nat) : Int) + 1)) = p1 from hp1.symm) ?_
  refine x_aload_n C dL_law_1669 3 rfl ?_
  refine x_callSh C (n := 3) (As := [.ref (ad 0 0), vI p1, .ref ao]) (rest := []) (c_L_line (ao := ao) (fo := fo) (c_X7_line hR hC (by omega)) (hR.1 0 0 (lv0 (by decide))) (fun rv h9 hp => by obtain ⟨rfl, rfl, _⟩ := hp; exact ⟨_, rfl, hO.2.1⟩) (fun E h9 hx => by obtain ⟨_, hx⟩ := hx; rcases hx with ⟨rfl, q⟩ | ⟨rfl, q⟩ | ⟨rfl, q⟩ <;> first | exact q.elim | exact rfl | exact Or.inl rfl | exact Or.inr rfl | exact Or.inr (Or.inl rfl) | exact Or.inr (Or.inr rfl))) kn gL_law_L_line (by decide +kernel) rfl rfl rfl (Nat.le_of_ble_eq_true rfl) ⟨by decide, by decide⟩ ⟨by dsimp only; omega, by dsimp only; omega⟩ dL_law_1670 (fun rv h1 hp => ?_)
  obtain ⟨k, ad1, c1, L1, W1, fo1, rfl, hk, hR1, hO1, hx1, hB1, hA⟩ := hr_line hO rfl hR hC hSi hB rv h1 hp
  refine x_istore C (ls' := [(0, .ref b), (1, .ref (ad 0 0)), (2, .ref (am 0 0)), (3, .ref ao), (4, vI ((i : Nat) : Int))] ++ [(5, vI k)]) dL_law_1673 (by decide) rfl ?_
  refine x_aload_n C dL_law_1675 2 rfl ?_
  refine x_aload_n C dL_law_1676 0 rfl ?_
  refine x_iload C dL_law_1677 4 rfl ?_
  refine x_iconst C dL_law_1679 1 (by decide) ?_
  refine x_iadd C dL_law_1680 ?_
  refine x_sld C xs0 ⟨by omega, by omega⟩ (by omega) dL_law_1681 ?_
  refine x_topv (show sc (Int.toNat (((i : Nat) : Int) + 1)) = p1 from hp1.symm) ?_
  refine x_callV C (n := 1) (qc := (RX8, TX8, 38)) (As := [vI p1]) (rest := []) (c_X8_line hO1.1 (hSi.mk1 hC) (by omega) (hSi.pa hC) (hSi.w20 hC)) gL_law_X8_line (by decide +kernel) (hO1.1.1 0 0 (lm0 (by decide))) rfl rfl rfl rfl (Nat.le_of_ble_eq_true rfl) ⟨by decide, by decide⟩ ⟨by dsimp only; omega, by dsimp only; omega⟩ dL_law_1682 (fun rv2 h2 hp2 => ?_)
  obtain ⟨r, m1, rfl, hM, hPR⟩ := hp2
  obtain ⟨a1, a2, a3, a4⟩ := hA r m1 hPR
  obtain ⟨hR2, hO2⟩ := hO1.mp hR1 hM
  refine x_istore C (ls' := [(0, .ref b), (1, .ref (ad 0 0)), (2, .ref (am 0 0)), (3, .ref ao), (4, vI ((i : Nat) : Int))] ++ [(5, vI k), (6, vI r)]) dL_law_1685 (by decide) rfl ?_
  refine x_aload_n C dL_law_1687 2 rfl ?_
  refine x_callV C (n := 0) (qc := (RX8, TX8, 38)) (As := []) (rest := []) (c_X8_thrown hO2.1) gL_law_X8_thrown (by decide +kernel) (hO2.1.1 0 0 (lm0 (by decide))) rfl rfl rfl rfl (Nat.le_of_ble_eq_true rfl) ⟨by decide, by decide⟩ ⟨by dsimp only; omega, by dsimp only; omega⟩ dL_law_1688 (fun rv3 h3 hp3 => ?_)
  obtain ⟨rfl, rfl⟩ := hp3
  refine x_topv (show m1 0 0 0 = k from a1) ?_
  refine x_iload C dL_law_1691 5 rfl ?_
  refine x_icmp_eq (tgt := 1698) C dL_law_1693 (by decide) (by omega) (by omega) (fun _ => ?_) (fun z1 => absurd rfl z1)
  refine x_iload C dL_law_1698 5 rfl ?_
  refine x_if_ne (tgt := 1715) C dL_law_1700 (by decide) (by omega) (fun z1 => ?_) (fun z1 => ?_)
  · refine x_goto (tgt := 2166) C dL_law_1715 (by decide) ?_
    refine x_sub [0, 1, 2, 3, 4] (ls' := [(0, .ref b), (1, .ref (ad 0 0)), (2, .ref (am 0 0)), (3, .ref ao), (4, vI ((i : Nat) : Int))]) rfl ?_
    refine x_widen (m1 := n1 + 500) (m2 := n2 + 3000) (by dsimp only; omega) (by dsimp only; omega) ?_
    exact K _ ⟨ad1, c1, L1, W1, am, m1, fo1, hR2, hO2, hx1, rfl, a4, a2, hB1⟩
  · refine x_aload_n C dL_law_1703 3 rfl ?_
    refine x_iconst C dL_law_1704 0 (by decide) ?_
    refine x_lald C hO2.2.1 ⟨by decide, by decide⟩ (by decide) dL_law_1705 ?_
    refine x_iload C dL_law_1706 6 rfl ?_
    refine x_i2l C dL_law_1708 ?_
    refine x_lcmp C dL_law_1709 (a3 (by omega)) ?_
    refine x_if_eq (tgt := 1715) C dL_law_1710 (by decide) (by omega) (fun _ => ?_) (fun z2 => absurd rfl z2)
    refine x_goto (tgt := 2166) C dL_law_1715 (by decide) ?_
    refine x_sub [0, 1, 2, 3, 4] (ls' := [(0, .ref b), (1, .ref (ad 0 0)), (2, .ref (am 0 0)), (3, .ref ao), (4, vI ((i : Nat) : Int))]) rfl ?_
    refine x_widen (m1 := n1 + 500) (m2 := n2 + 3000) (by dsimp only; omega) (by dsimp only; omega) ?_
    exact K _ ⟨ad1, c1, L1, W1, am, m1, fo1, hR2, hO2, hx1, rfl, a4, a2, hB1⟩

set_option maxRecDepth 100000 in
set_option maxHeartbeats 4000000 in
theorem lc_stars {κ : KX} {D : va_G} {A : Nat → Prop} {nm : String} (C : CX κ "LedgeLevelsLaw" nm cL_law wsL_law { frames := 12, cells := 601024, slots := 7293034, locals := 438 } D A 7) (kn : KN κ) {b x mm ao nS : Nat} {sc : Nat → Int} (xs0 : XS κ b nS sc) {h : vh} {t i n1 n2 : Nat} (hS : Sy D x mm ao h t) (ht : t < 512) (hi : i + 3 < nS) (hnS : nS ≤ 2048) (hsc : ∀ j, -2147483648 ≤ sc j ∧ sc j ≤ 2147483647) (hn : n1 + 500 ≤ 601024 ∧ n2 + 3000 ≤ 7293034) (K : ∀ h9, Sy D x mm ao h9 (t + 1) → X κ (n1 + 500) (n2 + 3000) h9 [(0, .ref b), (1, .ref x), (2, .ref mm), (3, .ref ao), (4, vI ((i : Nat) : Int))] 2166 []) : X κ n1 n2 h [(0, .ref b), (1, .ref x), (2, .ref mm), (3, .ref ao), (4, vI ((i : Nat) : Int))] 1718 [] := by
  obtain ⟨ad, c, L, W, am, m, fo, hR, hO, rfl, rfl, hC, hSi, hB⟩ := hS
  obtain ⟨p1, hp1⟩ : ∃ p9, p9 = sc (Int.toNat (((i : Nat) : Int) + 1)) := ⟨_, rfl⟩
  have hr1 : -2147483648 ≤ p1 ∧ p1 ≤ 2147483647 := by rw [hp1]; exact hsc _
  have hb3 := hB.2.2
  refine x_aload_n C dL_law_1718 1 rfl ?_
  refine x_aload_n C dL_law_1719 0 rfl ?_
  refine x_iload C dL_law_1720 4 rfl ?_
  refine x_iconst C dL_law_1722 1 (by decide) ?_
  refine x_iadd C dL_law_1723 ?_
  refine x_sld C xs0 ⟨by omega, by omega⟩ (by omega) dL_law_1724 ?_
  refine x_topv (show sc (Int.toNat (((i : Nat) : Int) + 1)) = p1 from hp1.symm) ?_
  refine x_aload_n C dL_law_1725 3 rfl ?_
  refine x_callSh C (n := 3) (As := [.ref (ad 0 0), vI p1, .ref ao]) (rest := []) (c_L_stars (ao := ao) (fo := fo) (c_X7_stars hR hC (by omega)) (hR.1 0 0 (lv0 (by decide))) (fun rv h9 hp => by obtain ⟨rfl, rfl, _⟩ := hp; exact ⟨_, rfl, hO.2.1⟩) (fun E h9 hx => by obtain ⟨_, hx⟩ := hx; rcases hx with ⟨rfl, q⟩ | ⟨rfl, q⟩ | ⟨rfl, q⟩ <;> first | exact q.elim | exact rfl | exact Or.inl rfl | exact Or.inr rfl | exact Or.inr (Or.inl rfl) | exact Or.inr (Or.inr rfl))) kn gL_law_L_stars (by decide +kernel) rfl rfl rfl (Nat.le_of_ble_eq_true rfl) ⟨by decide, by decide⟩ ⟨by dsimp only; omega, by dsimp only; omega⟩ dL_law_1726 (fun rv h1 hp => ?_)
  obtain ⟨k, ad1, c1, L1, W1, fo1, rfl, hk, hR1, hO1, hx1, hB1, hA⟩ := hr_stars hO rfl hR hC hSi hB rv h1 hp
  refine x_istore C (ls' := [(0, .ref b), (1, .ref (ad 0 0)), (2, .ref (am 0 0)), (3, .ref ao), (4, vI ((i : Nat) : Int))] ++ [(5, vI k)]) dL_law_1729 (by decide) rfl ?_
  refine x_aload_n C dL_law_1731 2 rfl ?_
  refine x_aload_n C dL_law_1732 0 rfl ?_
  refine x_iload C dL_law_1733 4 rfl ?_
  refine x_iconst C dL_law_1735 1 (by decide) ?_
  refine x_iadd C dL_law_1736 ?_
  refine x_sld C xs0 ⟨by omega, by omega⟩ (by omega) dL_law_1737 ?_
  refine x_topv (show sc (Int.toNat (((i : Nat) : Int) + 1)) = p1 from hp1.symm) ?_
  refine x_callV C (n := 1) (qc := (RX8, TX8, 38)) (As := [vI p1]) (rest := []) (c_X8_stars hO1.1 (hSi.mk1 hC) (by omega)) gL_law_X8_stars (by decide +kernel) (hO1.1.1 0 0 (lm0 (by decide))) rfl rfl rfl rfl (Nat.le_of_ble_eq_true rfl) ⟨by decide, by decide⟩ ⟨by dsimp only; omega, by dsimp only; omega⟩ dL_law_1738 (fun rv2 h2 hp2 => ?_)
  obtain ⟨r, m1, rfl, hM, hPR⟩ := hp2
  obtain ⟨a1, a2, a3, a4⟩ := hA r m1 hPR
  obtain ⟨hR2, hO2⟩ := hO1.mp hR1 hM
  refine x_istore C (ls' := [(0, .ref b), (1, .ref (ad 0 0)), (2, .ref (am 0 0)), (3, .ref ao), (4, vI ((i : Nat) : Int))] ++ [(5, vI k), (6, vI r)]) dL_law_1741 (by decide) rfl ?_
  refine x_aload_n C dL_law_1743 2 rfl ?_
  refine x_callV C (n := 0) (qc := (RX8, TX8, 38)) (As := []) (rest := []) (c_X8_thrown hO2.1) gL_law_X8_thrown (by decide +kernel) (hO2.1.1 0 0 (lm0 (by decide))) rfl rfl rfl rfl (Nat.le_of_ble_eq_true rfl) ⟨by decide, by decide⟩ ⟨by dsimp only; omega, by dsimp only; omega⟩ dL_law_1744 (fun rv3 h3 hp3 => ?_)
  obtain ⟨rfl, rfl⟩ := hp3
  refine x_topv (show m1 0 0 0 = k from a1) ?_
  refine x_iload C dL_law_1747 5 rfl ?_
  refine x_icmp_eq (tgt := 1754) C dL_law_1749 (by decide) (by omega) (by omega) (fun _ => ?_) (fun z1 => absurd rfl z1)
  refine x_iload C dL_law_1754 5 rfl ?_
  refine x_if_ne (tgt := 1771) C dL_law_1756 (by decide) (by omega) (fun z1 => ?_) (fun z1 => ?_)
  · refine x_goto (tgt := 2166) C dL_law_1771 (by decide) ?_
    refine x_sub [0, 1, 2, 3, 4] (ls' := [(0, .ref b), (1, .ref (ad 0 0)), (2, .ref (am 0 0)), (3, .ref ao), (4, vI ((i : Nat) : Int))]) rfl ?_
    refine x_widen (m1 := n1 + 500) (m2 := n2 + 3000) (by dsimp only; omega) (by dsimp only; omega) ?_
    exact K _ ⟨ad1, c1, L1, W1, am, m1, fo1, hR2, hO2, hx1, rfl, a4, a2, hB1⟩
  · refine x_aload_n C dL_law_1759 3 rfl ?_
    refine x_iconst C dL_law_1760 0 (by decide) ?_
    refine x_lald C hO2.2.1 ⟨by decide, by decide⟩ (by decide) dL_law_1761 ?_
    refine x_iload C dL_law_1762 6 rfl ?_
    refine x_i2l C dL_law_1764 ?_
    refine x_lcmp C dL_law_1765 (a3 (by omega)) ?_
    refine x_if_eq (tgt := 1771) C dL_law_1766 (by decide) (by omega) (fun _ => ?_) (fun z2 => absurd rfl z2)
    refine x_goto (tgt := 2166) C dL_law_1771 (by decide) ?_
    refine x_sub [0, 1, 2, 3, 4] (ls' := [(0, .ref b), (1, .ref (ad 0 0)), (2, .ref (am 0 0)), (3, .ref ao), (4, vI ((i : Nat) : Int))]) rfl ?_
    refine x_widen (m1 := n1 + 500) (m2 := n2 + 3000) (by dsimp only; omega) (by dsimp only; omega) ?_
    exact K _ ⟨ad1, c1, L1, W1, am, m1, fo1, hR2, hO2, hx1, rfl, a4, a2, hB1⟩

set_option maxRecDepth 100000 in
set_option maxHeartbeats 4000000 in
theorem lc_credit {κ : KX} {D : va_G} {A : Nat → Prop} {nm : String} (C : CX κ "LedgeLevelsLaw" nm cL_law wsL_law { frames := 12, cells := 601024, slots := 7293034, locals := 438 } D A 7) (kn : KN κ) {b x mm ao nS : Nat} {sc : Nat → Int} (xs0 : XS κ b nS sc) {h : vh} {t i n1 n2 : Nat} (hS : Sy D x mm ao h t) (ht : t < 512) (hi : i + 3 < nS) (hnS : nS ≤ 2048) (hsc : ∀ j, -2147483648 ≤ sc j ∧ sc j ≤ 2147483647) (hn : n1 + 500 ≤ 601024 ∧ n2 + 3000 ≤ 7293034) (K : ∀ h9, Sy D x mm ao h9 (t + 1) → X κ (n1 + 500) (n2 + 3000) h9 [(0, .ref b), (1, .ref x), (2, .ref mm), (3, .ref ao), (4, vI ((i : Nat) : Int))] 2166 []) : X κ n1 n2 h [(0, .ref b), (1, .ref x), (2, .ref mm), (3, .ref ao), (4, vI ((i : Nat) : Int))] 1774 [] := by
  obtain ⟨ad, c, L, W, am, m, fo, hR, hO, rfl, rfl, hC, hSi, hB⟩ := hS
  obtain ⟨p1, hp1⟩ : ∃ p9, p9 = sc (Int.toNat (((i : Nat) : Int) + 1)) := ⟨_, rfl⟩
  have hr1 : -2147483648 ≤ p1 ∧ p1 ≤ 2147483647 := by rw [hp1]; exact hsc _
  have hb3 := hB.2.2
  refine x_aload_n C dL_law_1774 1 rfl ?_
  refine x_aload_n C dL_law_1775 0 rfl ?_
  refine x_iload C dL_law_1776 4 rfl ?_
  refine x_iconst C dL_law_1778 1 (by decide) ?_
  refine x_iadd C dL_law_1779 ?_
  refine x_sld C xs0 ⟨by omega, by omega⟩ (by omega) dL_law_1780 ?_
  refine x_topv (show sc (Int.toNat (((i : Nat) : Int) + 1)) = p1 from hp1.symm) ?_
  refine x_aload_n C dL_law_1781 3 rfl ?_
  refine x_callSh C (n := 3) (As := [.ref (ad 0 0), vI p1, .ref ao]) (rest := []) (c_L_credit (ao := ao) (fo := fo) (c_X7_credit hR hC (by omega)) (hR.1 0 0 (lv0 (by decide))) (fun rv h9 hp => by obtain ⟨rfl, rfl, _⟩ := hp; exact ⟨_, rfl, hO.2.1⟩) (fun E h9 hx => by obtain ⟨_, hx⟩ := hx; rcases hx with ⟨rfl, q⟩ | ⟨rfl, q⟩ | ⟨rfl, q⟩ <;> first | exact q.elim | exact rfl | exact Or.inl rfl | exact Or.inr rfl | exact Or.inr (Or.inl rfl) | exact Or.inr (Or.inr rfl))) kn gL_law_L_credit (by decide +kernel) rfl rfl rfl (Nat.le_of_ble_eq_true rfl) ⟨by decide, by decide⟩ ⟨by dsimp only; omega, by dsimp only; omega⟩ dL_law_1782 (fun rv h1 hp => ?_)
  obtain ⟨k, ad1, c1, L1, W1, fo1, rfl, hk, hR1, hO1, hx1, hB1, hA⟩ := hr_credit hO rfl hR hC hSi hB rv h1 hp
  refine x_istore C (ls' := [(0, .ref b), (1, .ref (ad 0 0)), (2, .ref (am 0 0)), (3, .ref ao), (4, vI ((i : Nat) : Int))] ++ [(5, vI k)]) dL_law_1785 (by decide) rfl ?_
  refine x_aload_n C dL_law_1787 2 rfl ?_
  refine x_aload_n C dL_law_1788 0 rfl ?_
  refine x_iload C dL_law_1789 4 rfl ?_
  refine x_iconst C dL_law_1791 1 (by decide) ?_
  refine x_iadd C dL_law_1792 ?_
  refine x_sld C xs0 ⟨by omega, by omega⟩ (by omega) dL_law_1793 ?_
  refine x_topv (show sc (Int.toNat (((i : Nat) : Int) + 1)) = p1 from hp1.symm) ?_
  refine x_callV C (n := 1) (qc := (RX8, TX8, 38)) (As := [vI p1]) (rest := []) (c_X8_credit hO1.1 (hSi.mk1 hC) (by omega) (hSi.pa hC) (hSi.au hC) (hSi.w20 hC)) gL_law_X8_credit (by decide +kernel) (hO1.1.1 0 0 (lm0 (by decide))) rfl rfl rfl rfl (Nat.le_of_ble_eq_true rfl) ⟨by decide, by decide⟩ ⟨by dsimp only; omega, by dsimp only; omega⟩ dL_law_1794 (fun rv2 h2 hp2 => ?_)
  obtain ⟨r, m1, rfl, hM, hPR⟩ := hp2
  obtain ⟨a1, a2, a3, a4⟩ := hA r m1 hPR
  obtain ⟨hR2, hO2⟩ := hO1.mp hR1 hM
  refine x_istore C (ls' := [(0, .ref b), (1, .ref (ad 0 0)), (2, .ref (am 0 0)), (3, .ref ao), (4, vI ((i : Nat) : Int))] ++ [(5, vI k), (6, vI r)]) dL_law_1797 (by decide) rfl ?_
  refine x_aload_n C dL_law_1799 2 rfl ?_
  refine x_callV C (n := 0) (qc := (RX8, TX8, 38)) (As := []) (rest := []) (c_X8_thrown hO2.1) gL_law_X8_thrown (by decide +kernel) (hO2.1.1 0 0 (lm0 (by decide))) rfl rfl rfl rfl (Nat.le_of_ble_eq_true rfl) ⟨by decide, by decide⟩ ⟨by dsimp only; omega, by dsimp only; omega⟩ dL_law_1800 (fun rv3 h3 hp3 => ?_)
  obtain ⟨rfl, rfl⟩ := hp3
  refine x_topv (show m1 0 0 0 = k from a1) ?_
  refine x_iload C dL_law_1803 5 rfl ?_
  refine x_icmp_eq (tgt := 1810) C dL_law_1805 (by decide) (by omega) (by omega) (fun _ => ?_) (fun z1 => absurd rfl z1)
  refine x_iload C dL_law_1810 5 rfl ?_
  refine x_if_ne (tgt := 1827) C dL_law_1812 (by decide) (by omega) (fun z1 => ?_) (fun z1 => ?_)
  · refine x_goto (tgt := 2166) C dL_law_1827 (by decide) ?_
    refine x_sub [0, 1, 2, 3, 4] (ls' := [(0, .ref b), (1, .ref (ad 0 0)), (2, .ref (am 0 0)), (3, .ref ao), (4, vI ((i : Nat) : Int))]) rfl ?_
    refine x_widen (m1 := n1 + 500) (m2 := n2 + 3000) (by dsimp only; omega) (by dsimp only; omega) ?_
    exact K _ ⟨ad1, c1, L1, W1, am, m1, fo1, hR2, hO2, hx1, rfl, a4, a2, hB1⟩
  · refine x_aload_n C dL_law_1815 3 rfl ?_
    refine x_iconst C dL_law_1816 0 (by decide) ?_
    refine x_lald C hO2.2.1 ⟨by decide, by decide⟩ (by decide) dL_law_1817 ?_
    refine x_iload C dL_law_1818 6 rfl ?_
    refine x_i2l C dL_law_1820 ?_
    refine x_lcmp C dL_law_1821 (a3 (by omega)) ?_
    refine x_if_eq (tgt := 1827) C dL_law_1822 (by decide) (by omega) (fun _ => ?_) (fun z2 => absurd rfl z2)
    refine x_goto (tgt := 2166) C dL_law_1827 (by decide) ?_
    refine x_sub [0, 1, 2, 3, 4] (ls' := [(0, .ref b), (1, .ref (ad 0 0)), (2, .ref (am 0 0)), (3, .ref ao), (4, vI ((i : Nat) : Int))]) rfl ?_
    refine x_widen (m1 := n1 + 500) (m2 := n2 + 3000) (by dsimp only; omega) (by dsimp only; omega) ?_
    exact K _ ⟨ad1, c1, L1, W1, am, m1, fo1, hR2, hO2, hx1, rfl, a4, a2, hB1⟩

set_option maxRecDepth 100000 in
set_option maxHeartbeats 4000000 in
theorem lc_record {κ : KX} {D : va_G} {A : Nat → Prop} {nm : String} (C : CX κ "LedgeLevelsLaw" nm cL_law wsL_law { frames := 12, cells := 601024, slots := 7293034, locals := 438 } D A 7) (kn : KN κ) {b x mm ao nS : Nat} {sc : Nat → Int} (xs0 : XS κ b nS sc) {h : vh} {t i n1 n2 : Nat} (hS : Sy D x mm ao h t) (ht : t < 512) (hi : i + 3 < nS) (hnS : nS ≤ 2048) (hsc : ∀ j, -2147483648 ≤ sc j ∧ sc j ≤ 2147483647) (hn : n1 + 500 ≤ 601024 ∧ n2 + 3000 ≤ 7293034) (K : ∀ h9, Sy D x mm ao h9 (t + 1) → X κ (n1 + 500) (n2 + 3000) h9 [(0, .ref b), (1, .ref x), (2, .ref mm), (3, .ref ao), (4, vI ((i : Nat) : Int))] 2166 []) : X κ n1 n2 h [(0, .ref b), (1, .ref x), (2, .ref mm), (3, .ref ao), (4, vI ((i : Nat) : Int))] 1830 [] := by
  obtain ⟨ad, c, L, W, am, m, fo, hR, hO, rfl, rfl, hC, hSi, hB⟩ := hS
  obtain ⟨p1, hp1⟩ : ∃ p9, p9 = sc (Int.toNat (((i : Nat) : Int) + 1)) := ⟨_, rfl⟩
  have hr1 : -2147483648 ≤ p1 ∧ p1 ≤ 2147483647 := by rw [hp1]; exact hsc _
  have hb3 := hB.2.2
  refine x_aload_n C dL_law_1830 1 rfl ?_
  refine x_aload_n C dL_law_1831 0 rfl ?_
  refine x_iload C dL_law_1832 4 rfl ?_
  refine x_iconst C dL_law_1834 1 (by decide) ?_
  refine x_iadd C dL_law_1835 ?_
  refine x_sld C xs0 ⟨by omega, by omega⟩ (by omega) dL_law_1836 ?_
  refine x_topv (show sc (Int.toNat (((i : Nat) : Int) + 1)) = p1 from hp1.symm) ?_
  refine x_aload_n C dL_law_1837 3 rfl ?_
  refine x_callSh C (n := 3) (As := [.ref (ad 0 0), vI p1, .ref ao]) (rest := []) (c_L_record (ao := ao) (fo := fo) (c_X7_record hR hC (by omega)) (hR.1 0 0 (lv0 (by decide))) (fun rv h9 hp => by obtain ⟨rfl, rfl, _⟩ := hp; exact ⟨_, rfl, hO.2.1⟩) (fun E h9 hx => by obtain ⟨_, hx⟩ := hx; rcases hx with ⟨rfl, q⟩ | ⟨rfl, q⟩ | ⟨rfl, q⟩ <;> first | exact q.elim | exact rfl | exact Or.inl rfl | exact Or.inr rfl | exact Or.inr (Or.inl rfl) | exact Or.inr (Or.inr rfl))) kn gL_law_L_record (by decide +kernel) rfl rfl rfl (Nat.le_of_ble_eq_true rfl) ⟨by decide, by decide⟩ ⟨by dsimp only; omega, by dsimp only; omega⟩ dL_law_1838 (fun rv h1 hp => ?_)
  obtain ⟨k, ad1, c1, L1, W1, fo1, rfl, hk, hR1, hO1, hx1, hB1, hA⟩ := hr_record hO rfl hR hC hSi hB rv h1 hp
  refine x_istore C (ls' := [(0, .ref b), (1, .ref (ad 0 0)), (2, .ref (am 0 0)), (3, .ref ao), (4, vI ((i : Nat) : Int))] ++ [(5, vI k)]) dL_law_1841 (by decide) rfl ?_
  refine x_aload_n C dL_law_1843 2 rfl ?_
  refine x_aload_n C dL_law_1844 0 rfl ?_
  refine x_iload C dL_law_1845 4 rfl ?_
  refine x_iconst C dL_law_1847 1 (by decide) ?_
  refine x_iadd C dL_law_1848 ?_
  refine x_sld C xs0 ⟨by omega, by omega⟩ (by omega) dL_law_1849 ?_
  refine x_topv (show sc (Int.toNat (((i : Nat) : Int) + 1)) = p1 from hp1.symm) ?_
  refine x_callV C (n := 1) (qc := (RX8, TX8, 38)) (As := [vI p1]) (rest := []) (c_X8_record hO1.1 (hSi.mk1 hC) (by omega)) gL_law_X8_record (by decide +kernel) (hO1.1.1 0 0 (lm0 (by decide))) rfl rfl rfl rfl (Nat.le_of_ble_eq_true rfl) ⟨by decide, by decide⟩ ⟨by dsimp only; omega, by dsimp only; omega⟩ dL_law_1850 (fun rv2 h2 hp2 => ?_)
  obtain ⟨r, m1, rfl, hM, hPR⟩ := hp2
  obtain ⟨a1, a2, a3, a4⟩ := hA r m1 hPR
  obtain ⟨hR2, hO2⟩ := hO1.mp hR1 hM
  refine x_istore C (ls' := [(0, .ref b), (1, .ref (ad 0 0)), (2, .ref (am 0 0)), (3, .ref ao), (4, vI ((i : Nat) : Int))] ++ [(5, vI k), (6, vI r)]) dL_law_1853 (by decide) rfl ?_
  refine x_aload_n C dL_law_1855 2 rfl ?_
  refine x_callV C (n := 0) (qc := (RX8, TX8, 38)) (As := []) (rest := []) (c_X8_thrown hO2.1) gL_law_X8_thrown (by decide +kernel) (hO2.1.1 0 0 (lm0 (by decide))) rfl rfl rfl rfl (Nat.le_of_ble_eq_true rfl) ⟨by decide, by decide⟩ ⟨by dsimp only; omega, by dsimp only; omega⟩ dL_law_1856 (fun rv3 h3 hp3 => ?_)
  obtain ⟨rfl, rfl⟩ := hp3
  refine x_topv (show m1 0 0 0 = k from a1) ?_
  refine x_iload C dL_law_1859 5 rfl ?_
  refine x_icmp_eq (tgt := 1866) C dL_law_1861 (by decide) (by omega) (by omega) (fun _ => ?_) (fun z1 => absurd rfl z1)
  refine x_iload C dL_law_1866 5 rfl ?_
  refine x_if_ne (tgt := 1883) C dL_law_1868 (by decide) (by omega) (fun z1 => ?_) (fun z1 => ?_)
  · refine x_goto (tgt := 2166) C dL_law_1883 (by decide) ?_
    refine x_sub [0, 1, 2, 3, 4] (ls' := [(0, .ref b), (1, .ref (ad 0 0)), (2, .ref (am 0 0)), (3, .ref ao), (4, vI ((i : Nat) : Int))]) rfl ?_
    refine x_widen (m1 := n1 + 500) (m2 := n2 + 3000) (by dsimp only; omega) (by dsimp only; omega) ?_
    exact K _ ⟨ad1, c1, L1, W1, am, m1, fo1, hR2, hO2, hx1, rfl, a4, a2, hB1⟩
  · refine x_aload_n C dL_law_1871 3 rfl ?_
    refine x_iconst C dL_law_1872 0 (by decide) ?_
    refine x_lald C hO2.2.1 ⟨by decide, by decide⟩ (by decide) dL_law_1873 ?_
    refine x_iload C dL_law_1874 6 rfl ?_
    refine x_i2l C dL_law_1876 ?_
    refine x_lcmp C dL_law_1877 (a3 (by omega)) ?_
    refine x_if_eq (tgt := 1883) C dL_law_1878 (by decide) (by omega) (fun _ => ?_) (fun z2 => absurd rfl z2)
    refine x_goto (tgt := 2166) C dL_law_1883 (by decide) ?_
    refine x_sub [0, 1, 2, 3, 4] (ls' := [(0, .ref b), (1, .ref (ad 0 0)), (2, .ref (am 0 0)), (3, .ref ao), (4, vI ((i : Nat) : Int))]) rfl ?_
    refine x_widen (m1 := n1 + 500) (m2 := n2 + 3000) (by dsimp only; omega) (by dsimp only; omega) ?_
    exact K _ ⟨ad1, c1, L1, W1, am, m1, fo1, hR2, hO2, hx1, rfl, a4, a2, hB1⟩

