theorem dL_law_1667 : decode cL_law 1667 = .ok (.aload_n 1, 1) := by decide +kernel
theorem dL_law_1668 : decode cL_law 1668 = .ok (.aload_n 0, 1) := by decide +kernel
theorem dL_law_1669 : decode cL_law 1669 = .ok (.iload_n 3, 1) := by decide +kernel
theorem dL_law_1670 : decode cL_law 1670 = .ok (.iconst 1, 1) := by decide +kernel
theorem dL_law_1671 : decode cL_law 1671 = .ok (.iadd, 1) := by decide +kernel
theorem dL_law_1672 : decode cL_law 1672 = .ok (.iaload, 1) := by decide +kernel
theorem dL_law_1673 : decode cL_law 1673 = .ok (.aload_n 0, 1) := by decide +kernel
theorem dL_law_1674 : decode cL_law 1674 = .ok (.iload_n 3, 1) := by decide +kernel
theorem dL_law_1675 : decode cL_law 1675 = .ok (.iconst 2, 1) := by decide +kernel
theorem dL_law_1676 : decode cL_law 1676 = .ok (.iadd, 1) := by decide +kernel
theorem dL_law_1677 : decode cL_law 1677 = .ok (.iaload, 1) := by decide +kernel
theorem dL_law_1678 : decode cL_law 1678 = .ok (.aload_n 0, 1) := by decide +kernel
theorem dL_law_1679 : decode cL_law 1679 = .ok (.iload_n 3, 1) := by decide +kernel
theorem dL_law_1680 : decode cL_law 1680 = .ok (.iconst 3, 1) := by decide +kernel
theorem dL_law_1681 : decode cL_law 1681 = .ok (.iadd, 1) := by decide +kernel
theorem dL_law_1682 : decode cL_law 1682 = .ok (.iaload, 1) := by decide +kernel
theorem dL_law_1683 : decode cL_law 1683 = .ok (.aload_n 0, 1) := by decide +kernel
theorem dL_law_1684 : decode cL_law 1684 = .ok (.iload_n 3, 1) := by decide +kernel
theorem dL_law_1685 : decode cL_law 1685 = .ok (.iconst 4, 1) := by decide +kernel
theorem dL_law_1686 : decode cL_law 1686 = .ok (.iadd, 1) := by decide +kernel
theorem dL_law_1687 : decode cL_law 1687 = .ok (.iaload, 1) := by decide +kernel
theorem dL_law_1688 : decode cL_law 1688 = .ok (.invokevirtual 165, 3) := by decide +kernel
theorem dL_law_1691 : decode cL_law 1691 = .ok (.aload_n 2, 1) := by decide +kernel
theorem dL_law_1692 : decode cL_law 1692 = .ok (.aload_n 0, 1) := by decide +kernel
theorem dL_law_1693 : decode cL_law 1693 = .ok (.iload_n 3, 1) := by decide +kernel
theorem dL_law_1694 : decode cL_law 1694 = .ok (.iconst 1, 1) := by decide +kernel
theorem dL_law_1695 : decode cL_law 1695 = .ok (.iadd, 1) := by decide +kernel
theorem dL_law_1696 : decode cL_law 1696 = .ok (.iaload, 1) := by decide +kernel
theorem dL_law_1697 : decode cL_law 1697 = .ok (.aload_n 0, 1) := by decide +kernel
theorem dL_law_1698 : decode cL_law 1698 = .ok (.iload_n 3, 1) := by decide +kernel
theorem dL_law_1699 : decode cL_law 1699 = .ok (.iconst 2, 1) := by decide +kernel
theorem dL_law_1700 : decode cL_law 1700 = .ok (.iadd, 1) := by decide +kernel
theorem dL_law_1701 : decode cL_law 1701 = .ok (.iaload, 1) := by decide +kernel
theorem dL_law_1702 : decode cL_law 1702 = .ok (.aload_n 0, 1) := by decide +kernel
theorem dL_law_1703 : decode cL_law 1703 = .ok (.iload_n 3, 1) := by decide +kernel
theorem dL_law_1704 : decode cL_law 1704 = .ok (.iconst 3, 1) := by decide +kernel
theorem dL_law_1705 : decode cL_law 1705 = .ok (.iadd, 1) := by decide +kernel
theorem dL_law_1706 : decode cL_law 1706 = .ok (.iaload, 1) := by decide +kernel
theorem dL_law_1707 : decode cL_law 1707 = .ok (.aload_n 0, 1) := by decide +kernel
theorem dL_law_1708 : decode cL_law 1708 = .ok (.iload_n 3, 1) := by decide +kernel
theorem dL_law_1709 : decode cL_law 1709 = .ok (.iconst 4, 1) := by decide +kernel
theorem dL_law_1710 : decode cL_law 1710 = .ok (.iadd, 1) := by decide +kernel
theorem dL_law_1711 : decode cL_law 1711 = .ok (.iaload, 1) := by decide +kernel
theorem dL_law_1712 : decode cL_law 1712 = .ok (.invokevirtual 168, 3) := by decide +kernel
theorem dL_law_1715 : decode cL_law 1715 = .ok (.lcmp, 1) := by decide +kernel
theorem dL_law_1716 : decode cL_law 1716 = .ok (.ifCond .eq 570, 3) := by decide +kernel
theorem dL_law_1721 : decode cL_law 1721 = .ok (.aload_n 1, 1) := by decide +kernel
theorem dL_law_1722 : decode cL_law 1722 = .ok (.aload_n 0, 1) := by decide +kernel
theorem dL_law_1723 : decode cL_law 1723 = .ok (.iload_n 3, 1) := by decide +kernel
theorem dL_law_1724 : decode cL_law 1724 = .ok (.iconst 1, 1) := by decide +kernel
theorem dL_law_1725 : decode cL_law 1725 = .ok (.iadd, 1) := by decide +kernel
theorem dL_law_1726 : decode cL_law 1726 = .ok (.iaload, 1) := by decide +kernel
theorem dL_law_1727 : decode cL_law 1727 = .ok (.aload_n 0, 1) := by decide +kernel
theorem dL_law_1728 : decode cL_law 1728 = .ok (.iload_n 3, 1) := by decide +kernel
theorem dL_law_1729 : decode cL_law 1729 = .ok (.iconst 2, 1) := by decide +kernel
theorem dL_law_1730 : decode cL_law 1730 = .ok (.iadd, 1) := by decide +kernel
theorem dL_law_1731 : decode cL_law 1731 = .ok (.iaload, 1) := by decide +kernel
theorem dL_law_1732 : decode cL_law 1732 = .ok (.aload_n 0, 1) := by decide +kernel
theorem dL_law_1733 : decode cL_law 1733 = .ok (.iload_n 3, 1) := by decide +kernel
theorem dL_law_1734 : decode cL_law 1734 = .ok (.iconst 3, 1) := by decide +kernel
theorem dL_law_1735 : decode cL_law 1735 = .ok (.iadd, 1) := by decide +kernel
theorem dL_law_1736 : decode cL_law 1736 = .ok (.iaload, 1) := by decide +kernel
theorem dL_law_1737 : decode cL_law 1737 = .ok (.invokevirtual 169, 3) := by decide +kernel
theorem dL_law_1740 : decode cL_law 1740 = .ok (.aload_n 2, 1) := by decide +kernel
theorem dL_law_1741 : decode cL_law 1741 = .ok (.aload_n 0, 1) := by decide +kernel
theorem dL_law_1742 : decode cL_law 1742 = .ok (.iload_n 3, 1) := by decide +kernel
theorem dL_law_1743 : decode cL_law 1743 = .ok (.iconst 1, 1) := by decide +kernel
theorem dL_law_1744 : decode cL_law 1744 = .ok (.iadd, 1) := by decide +kernel
theorem dL_law_1745 : decode cL_law 1745 = .ok (.iaload, 1) := by decide +kernel
theorem dL_law_1746 : decode cL_law 1746 = .ok (.aload_n 0, 1) := by decide +kernel
theorem dL_law_1747 : decode cL_law 1747 = .ok (.iload_n 3, 1) := by decide +kernel
theorem dL_law_1748 : decode cL_law 1748 = .ok (.iconst 2, 1) := by decide +kernel
theorem dL_law_1749 : decode cL_law 1749 = .ok (.iadd, 1) := by decide +kernel
theorem dL_law_1750 : decode cL_law 1750 = .ok (.iaload, 1) := by decide +kernel
theorem dL_law_1751 : decode cL_law 1751 = .ok (.aload_n 0, 1) := by decide +kernel
theorem dL_law_1752 : decode cL_law 1752 = .ok (.iload_n 3, 1) := by decide +kernel
theorem dL_law_1753 : decode cL_law 1753 = .ok (.iconst 3, 1) := by decide +kernel
theorem dL_law_1754 : decode cL_law 1754 = .ok (.iadd, 1) := by decide +kernel
theorem dL_law_1755 : decode cL_law 1755 = .ok (.iaload, 1) := by decide +kernel
theorem dL_law_1756 : decode cL_law 1756 = .ok (.invokevirtual 172, 3) := by decide +kernel
theorem dL_law_1759 : decode cL_law 1759 = .ok (.if_icmp .eq 527, 3) := by decide +kernel
theorem dL_law_1764 : decode cL_law 1764 = .ok (.aload_n 1, 1) := by decide +kernel
theorem dL_law_1765 : decode cL_law 1765 = .ok (.aload_n 0, 1) := by decide +kernel
theorem dL_law_1766 : decode cL_law 1766 = .ok (.iload_n 3, 1) := by decide +kernel
theorem dL_law_1767 : decode cL_law 1767 = .ok (.iconst 1, 1) := by decide +kernel
theorem dL_law_1768 : decode cL_law 1768 = .ok (.iadd, 1) := by decide +kernel
theorem dL_law_1769 : decode cL_law 1769 = .ok (.iaload, 1) := by decide +kernel
theorem dL_law_1770 : decode cL_law 1770 = .ok (.invokevirtual 173, 3) := by decide +kernel
theorem dL_law_1773 : decode cL_law 1773 = .ok (.aload_n 2, 1) := by decide +kernel
theorem dL_law_1774 : decode cL_law 1774 = .ok (.aload_n 0, 1) := by decide +kernel
theorem dL_law_1775 : decode cL_law 1775 = .ok (.iload_n 3, 1) := by decide +kernel
theorem dL_law_1776 : decode cL_law 1776 = .ok (.iconst 1, 1) := by decide +kernel
theorem dL_law_1777 : decode cL_law 1777 = .ok (.iadd, 1) := by decide +kernel
theorem dL_law_1778 : decode cL_law 1778 = .ok (.iaload, 1) := by decide +kernel
theorem dL_law_1779 : decode cL_law 1779 = .ok (.invokevirtual 176, 3) := by decide +kernel
theorem dL_law_1782 : decode cL_law 1782 = .ok (.if_icmp .eq 504, 3) := by decide +kernel
theorem dL_law_1787 : decode cL_law 1787 = .ok (.aload_n 1, 1) := by decide +kernel
theorem dL_law_1788 : decode cL_law 1788 = .ok (.aload_n 0, 1) := by decide +kernel
theorem dL_law_1789 : decode cL_law 1789 = .ok (.iload_n 3, 1) := by decide +kernel
theorem dL_law_1790 : decode cL_law 1790 = .ok (.iconst 1, 1) := by decide +kernel
theorem dL_law_1791 : decode cL_law 1791 = .ok (.iadd, 1) := by decide +kernel
theorem dL_law_1792 : decode cL_law 1792 = .ok (.iaload, 1) := by decide +kernel
theorem dL_law_1793 : decode cL_law 1793 = .ok (.invokevirtual 177, 3) := by decide +kernel
theorem dL_law_1796 : decode cL_law 1796 = .ok (.aload_n 2, 1) := by decide +kernel
theorem dL_law_1797 : decode cL_law 1797 = .ok (.aload_n 0, 1) := by decide +kernel
theorem dL_law_1798 : decode cL_law 1798 = .ok (.iload_n 3, 1) := by decide +kernel
theorem dL_law_1799 : decode cL_law 1799 = .ok (.iconst 1, 1) := by decide +kernel
theorem dL_law_1800 : decode cL_law 1800 = .ok (.iadd, 1) := by decide +kernel
theorem dL_law_1801 : decode cL_law 1801 = .ok (.iaload, 1) := by decide +kernel
theorem dL_law_1802 : decode cL_law 1802 = .ok (.invokevirtual 180, 3) := by decide +kernel
theorem dL_law_1805 : decode cL_law 1805 = .ok (.if_icmp .eq 481, 3) := by decide +kernel
theorem dL_law_1810 : decode cL_law 1810 = .ok (.aload_n 1, 1) := by decide +kernel
theorem dL_law_1811 : decode cL_law 1811 = .ok (.aload_n 0, 1) := by decide +kernel
theorem dL_law_1812 : decode cL_law 1812 = .ok (.iload_n 3, 1) := by decide +kernel
theorem dL_law_1813 : decode cL_law 1813 = .ok (.iconst 1, 1) := by decide +kernel
theorem dL_law_1814 : decode cL_law 1814 = .ok (.iadd, 1) := by decide +kernel
theorem dL_law_1815 : decode cL_law 1815 = .ok (.iaload, 1) := by decide +kernel
theorem dL_law_1816 : decode cL_law 1816 = .ok (.invokevirtual 181, 3) := by decide +kernel
theorem dL_law_1819 : decode cL_law 1819 = .ok (.aload_n 2, 1) := by decide +kernel
theorem dL_law_1820 : decode cL_law 1820 = .ok (.aload_n 0, 1) := by decide +kernel
theorem dL_law_1821 : decode cL_law 1821 = .ok (.iload_n 3, 1) := by decide +kernel
theorem dL_law_1822 : decode cL_law 1822 = .ok (.iconst 1, 1) := by decide +kernel
theorem dL_law_1823 : decode cL_law 1823 = .ok (.iadd, 1) := by decide +kernel
theorem dL_law_1824 : decode cL_law 1824 = .ok (.iaload, 1) := by decide +kernel
theorem dL_law_1825 : decode cL_law 1825 = .ok (.invokevirtual 184, 3) := by decide +kernel
theorem dL_law_1828 : decode cL_law 1828 = .ok (.if_icmp .eq 458, 3) := by decide +kernel
theorem sV_L_165 : SiteV RL 165 yX9_spread cX9_spread 5 (some .long) 4 := ⟨ml_L_165, im_X9_spread, se_X9_spread, ini_X9, co_X9_spread, by decide +kernel⟩
theorem sV_L_168 : SiteV RL 168 yX10_spread cX10_spread 5 (some .long) 4 := ⟨ml_L_168, im_X10_spread, se_X10_spread, ini_X10, co_X10_spread, by decide +kernel⟩
theorem sV_L_169 : SiteV RL 169 yX9_bear cX9_bear 10 (some .int) 3 := ⟨ml_L_169, im_X9_bear, se_X9_bear, ini_X9, co_X9_bear, by decide +kernel⟩
theorem sV_L_172 : SiteV RL 172 yX10_bear cX10_bear 10 (some .int) 3 := ⟨ml_L_172, im_X10_bear, se_X10_bear, ini_X10, co_X10_bear, by decide +kernel⟩
theorem sV_L_173 : SiteV RL 173 yX9_run cX9_run 3 (some .int) 1 := ⟨ml_L_173, im_X9_run, se_X9_run, ini_X9, co_X9_run, by decide +kernel⟩
theorem sV_L_176 : SiteV RL 176 yX10_run cX10_run 3 (some .int) 1 := ⟨ml_L_176, im_X10_run, se_X10_run, ini_X10, co_X10_run, by decide +kernel⟩
theorem sV_L_177 : SiteV RL 177 yX9_told cX9_told 3 (some .int) 1 := ⟨ml_L_177, im_X9_told, se_X9_told, ini_X9, co_X9_told, by decide +kernel⟩
theorem sV_L_180 : SiteV RL 180 yX10_told cX10_told 5 (some .int) 1 := ⟨ml_L_180, im_X10_told, se_X10_told, ini_X10, co_X10_told, by decide +kernel⟩
theorem sV_L_181 : SiteV RL 181 yX9_shut cX9_shut 2 (some .int) 1 := ⟨ml_L_181, im_X9_shut, se_X9_shut, ini_X9, co_X9_shut, by decide +kernel⟩
theorem sV_L_184 : SiteV RL 184 yX10_shut cX10_shut 2 (some .int) 1 := ⟨ml_L_184, im_X10_shut, se_X10_shut, ini_X10, co_X10_shut, by decide +kernel⟩
set_option maxHeartbeats 4000000 in
set_option maxRecDepth 100000 in
theorem lc_35 {p : Program} {e : Env} {s : State} {m : MethodId} {below : List Frame} {meth : Method} {c : Code} {l : Launch} {b L : Nat} {xs : Nat → Int32} {A : Nat → Prop} (D : va_G) (cy : Nat → ClassId) (xa ma : Nat → Nat) (fw : Nat → Int32) (hw : ∀ k : Nat, k < 4 → fw k = -1) (hL7 : L = 7) (C0 : lw_At p s m meth c b L xs) (hK : KK D cy s) (hA : ∀ q : Nat, s.heap.size ≤ q → A q) (hA2 : ∀ q : Nat, A q → s.heap.size ≤ q) (hbA : ¬ A b) {H : Heap} {locs : List Loc} (hP : va_P D vwCl [((xa 0), .inr (9, [.ref (xa 1), .ref (xa 2), .ref (xa 3), .ref (xa 4), .ref (xa 5), .ref (xa 6), .ref (xa 7), .ref (xa 8), .ref (xa 9), .int 0, .ref (xa 11), .null, .int 0, .int (-1)])), ((xa 1), .inl (cy 0, 1600, .inl (fun _ => 0))), ((xa 2), .inr (4, [.int 0, .int (-1), .ref (xa 30), .int 0, .int 0, .int 0, .int 0, .int 0, .ref (xa 31), .int 0, .int 0, .int 0])), ((xa 8), .inl (cy 4, 4, .inr (.inr (.inr (.inr (fun _ => none)))))), ((xa 9), .inl (cy 5, 3, .inr (.inr (.inr (.inr (fun _ => none)))))), ((xa 11), .inr (2, [.int 0, .int 0, .int 0, .int 0, .int 0, .int 0, .int 0, .int 0, .int 1, .int 10, .int 0, .int 0, .int 0, .int 0, .ref (xa 20), .ref (xa 21), .ref (xa 22), .ref (xa 23), .ref (xa 24), .ref (xa 25), .ref (xa 26)])), ((ma 0), .inr (10, [.int 0, .ref (ma 1), .ref (ma 2), .ref (ma 3), .ref (ma 4), .ref (ma 5), .int 0, .int 0, .int 0, .int 0, .int 0, .long 0, .int 0, .int 0, .int 0, .int (-1), .ref (ma 16), .ref (ma 17), .ref (ma 18), .ref (ma 19), .ref (ma 20), .ref (ma 21), .ref (ma 22), .ref (ma 23), .ref (ma 24), .ref (ma 25), .ref (ma 26), .ref (ma 27), .ref (ma 28), .ref (ma 29), .ref (ma 30), .ref (ma 31), .ref (ma 32), .ref (ma 33), .ref (ma 34), .ref (ma 35), .ref (ma 36), .ref (ma 37), .ref (ma 38), .ref (ma 39), .ref (ma 40), .ref (ma 41), .long 0])), ((ma 1), .inl (cy 1, 4, .inl fw)), ((ma 2), .inl (cy 1, 4, .inl (fun _ => 0))), ((ma 3), .inl (cy 2, 240, .inr (.inl (fun _ => 0)))), ((ma 5), .inl (cy 0, 1600, .inl (fun _ => 0))), ((ma 16), .inl (cy 1, 5, .inl (fun _ => 0))), ((ma 17), .inl (cy 1, 20, .inl (fun _ => 0))), ((ma 18), .inl (cy 1, 5, .inl (fun _ => 0))), ((ma 19), .inl (cy 1, 45, .inl (fun _ => 0))), ((ma 20), .inl (cy 1, 5, .inl (fun _ => 0))), ((ma 21), .inl (cy 1, 150, .inl (fun _ => 0))), ((ma 22), .inl (cy 1, 5, .inl (fun _ => 0))), ((ma 23), .inl (cy 1, 120, .inl (fun _ => 0))), ((ma 24), .inl (cy 1, 30, .inl (fun _ => 0))), ((ma 25), .inl (cy 3, 15, .inl (fun _ => 0))), ((ma 26), .inl (cy 1, 5, .inl (fun _ => 0))), ((ma 27), .inl (cy 1, 30, .inl (fun _ => 0))), ((ma 28), .inl (cy 3, 3, .inl (fun _ => 0)))] H) (hD : va_D A [((xa 0), .inr (9, [.ref (xa 1), .ref (xa 2), .ref (xa 3), .ref (xa 4), .ref (xa 5), .ref (xa 6), .ref (xa 7), .ref (xa 8), .ref (xa 9), .int 0, .ref (xa 11), .null, .int 0, .int (-1)])), ((xa 1), .inl (cy 0, 1600, .inl (fun _ => 0))), ((xa 2), .inr (4, [.int 0, .int (-1), .ref (xa 30), .int 0, .int 0, .int 0, .int 0, .int 0, .ref (xa 31), .int 0, .int 0, .int 0])), ((xa 8), .inl (cy 4, 4, .inr (.inr (.inr (.inr (fun _ => none)))))), ((xa 9), .inl (cy 5, 3, .inr (.inr (.inr (.inr (fun _ => none)))))), ((xa 11), .inr (2, [.int 0, .int 0, .int 0, .int 0, .int 0, .int 0, .int 0, .int 0, .int 1, .int 10, .int 0, .int 0, .int 0, .int 0, .ref (xa 20), .ref (xa 21), .ref (xa 22), .ref (xa 23), .ref (xa 24), .ref (xa 25), .ref (xa 26)])), ((ma 0), .inr (10, [.int 0, .ref (ma 1), .ref (ma 2), .ref (ma 3), .ref (ma 4), .ref (ma 5), .int 0, .int 0, .int 0, .int 0, .int 0, .long 0, .int 0, .int 0, .int 0, .int (-1), .ref (ma 16), .ref (ma 17), .ref (ma 18), .ref (ma 19), .ref (ma 20), .ref (ma 21), .ref (ma 22), .ref (ma 23), .ref (ma 24), .ref (ma 25), .ref (ma 26), .ref (ma 27), .ref (ma 28), .ref (ma 29), .ref (ma 30), .ref (ma 31), .ref (ma 32), .ref (ma 33), .ref (ma 34), .ref (ma 35), .ref (ma 36), .ref (ma 37), .ref (ma 38), .ref (ma 39), .ref (ma 40), .ref (ma 41), .long 0])), ((ma 1), .inl (cy 1, 4, .inl fw)), ((ma 2), .inl (cy 1, 4, .inl (fun _ => 0))), ((ma 3), .inl (cy 2, 240, .inr (.inl (fun _ => 0)))), ((ma 5), .inl (cy 0, 1600, .inl (fun _ => 0))), ((ma 16), .inl (cy 1, 5, .inl (fun _ => 0))), ((ma 17), .inl (cy 1, 20, .inl (fun _ => 0))), ((ma 18), .inl (cy 1, 5, .inl (fun _ => 0))), ((ma 19), .inl (cy 1, 45, .inl (fun _ => 0))), ((ma 20), .inl (cy 1, 5, .inl (fun _ => 0))), ((ma 21), .inl (cy 1, 150, .inl (fun _ => 0))), ((ma 22), .inl (cy 1, 5, .inl (fun _ => 0))), ((ma 23), .inl (cy 1, 120, .inl (fun _ => 0))), ((ma 24), .inl (cy 1, 30, .inl (fun _ => 0))), ((ma 25), .inl (cy 3, 15, .inl (fun _ => 0))), ((ma 26), .inl (cy 1, 5, .inl (fun _ => 0))), ((ma 27), .inl (cy 1, 30, .inl (fun _ => 0))), ((ma 28), .inl (cy 3, 3, .inl (fun _ => 0)))]) (hS : va_S A s.heap H locs) {ls : Array Slot} (hl : lv_has ls 4 [(3, .int 0), (2, .ref (ma 0)), (1, .ref (xa 0)), (0, .ref b)]) : W p l e room_1 s m #[Value.ref b] below meth c H locs 82 108979 (lw_Z below #[Value.ref b] s) (F0 m 1667 ls []) := by
  obtain ⟨hx, hb, hr, hml, hown, hts, hX, hbl, hlocks, hgv⟩ := id C0
  have hown : s.vm.findClass RL = some m.cls := hown
  have hb : c.code = cL_law := hb
  have hts : ∀ w ∈ GW, w.before #[Value.ref b] s = true := fun w h => hts w (gw_tbl w h)
  refine lv_aload_n hx hb dL_law_1667 rfl (lv_at hl 2 rfl) ?_
  refine lv_aload_n hx hb dL_law_1668 rfl (lv_at hl 3 rfl) ?_
  refine lv_iload_n hx hb dL_law_1669 rfl (lv_at hl 0 rfl) ?_
  refine lv_iconst (v := 1) hx hb dL_law_1670 (by decide) ?_
  refine lv_iadd hx hb dL_law_1671 ?_
  refine lv_topi (fun z_1 ez_1 => ?_)
  have ez_1 : z_1 = 1 := ez_1.trans (by decide)
  subst ez_1
  refine va_sld (i := 1) hx hb hX hbl hbA hS (by subst hL7; exact vp_in_iff.mpr (by decide)) dL_law_1672 ?_
  refine W.eq (g2 := F0 m 1673 ls [.int (xs 1), .ref (xa 0)]) rfl ?_
  refine lv_aload_n hx hb dL_law_1673 rfl (lv_at hl 3 rfl) ?_
  refine lv_iload_n hx hb dL_law_1674 rfl (lv_at hl 0 rfl) ?_
  refine lv_iconst (v := 2) hx hb dL_law_1675 (by decide) ?_
  refine lv_iadd hx hb dL_law_1676 ?_
  refine lv_topi (fun z_2 ez_2 => ?_)
  have ez_2 : z_2 = 2 := ez_2.trans (by decide)
  subst ez_2
  refine va_sld (i := 2) hx hb hX hbl hbA hS (by subst hL7; exact vp_in_iff.mpr (by decide)) dL_law_1677 ?_
  refine W.eq (g2 := F0 m 1678 ls [.int (xs 2), .int (xs 1), .ref (xa 0)]) rfl ?_
  refine lv_aload_n hx hb dL_law_1678 rfl (lv_at hl 3 rfl) ?_
  refine lv_iload_n hx hb dL_law_1679 rfl (lv_at hl 0 rfl) ?_
  refine lv_iconst (v := 3) hx hb dL_law_1680 (by decide) ?_
  refine lv_iadd hx hb dL_law_1681 ?_
  refine lv_topi (fun z_3 ez_3 => ?_)
  have ez_3 : z_3 = 3 := ez_3.trans (by decide)
  subst ez_3
  refine va_sld (i := 3) hx hb hX hbl hbA hS (by subst hL7; exact vp_in_iff.mpr (by decide)) dL_law_1682 ?_
  refine W.eq (g2 := F0 m 1683 ls [.int (xs 3), .int (xs 2), .int (xs 1), .ref (xa 0)]) rfl ?_
  refine lv_aload_n hx hb dL_law_1683 rfl (lv_at hl 3 rfl) ?_
  refine lv_iload_n hx hb dL_law_1684 rfl (lv_at hl 0 rfl) ?_
  refine lv_iconst (v := 4) hx hb dL_law_1685 (by decide) ?_
  refine lv_iadd hx hb dL_law_1686 ?_
  refine lv_topi (fun z_4 ez_4 => ?_)
  have ez_4 : z_4 = 4 := ez_4.trans (by decide)
  subst ez_4
  refine va_sld (i := 4) hx hb hX hbl hbA hS (by subst hL7; exact vp_in_iff.mpr (by decide)) dL_law_1687 ?_
  refine W.eq (g2 := F0 m 1688 ls [.int (xs 4), .int (xs 3), .int (xs 2), .int (xs 1), .ref (xa 0)]) rfl ?_
  refine pu_calll (runV (As := [.int (xs 1), .int (xs 2), .int (xs 3), .int (xs 4)]) (rest := []) ⟨hx, hb, hml, hown, hts⟩ (f_X9_spread l D cy xa (xs 1) (xs 2) (xs 3) (xs 4) ) sV_L_165 hK (va_recv hK.1 hP (ci := 9) (q0 := 0) rfl rfl) (hP.sub (ws' := [((xa 0), .inr (9, [.ref (xa 1), .ref (xa 2), .ref (xa 3), .ref (xa 4), .ref (xa 5), .ref (xa 6), .ref (xa 7), .ref (xa 8), .ref (xa 9), .int 0, .ref (xa 11), .null, .int 0, .int (-1)])), ((xa 11), .inr (2, [.int 0, .int 0, .int 0, .int 0, .int 0, .int 0, .int 0, .int 0, .int 1, .int 10, .int 0, .int 0, .int 0, .int 0, .ref (xa 20), .ref (xa 21), .ref (xa 22), .ref (xa 23), .ref (xa 24), .ref (xa 25), .ref (xa 26)]))]) [0, 5] rfl) ⟨Nat.le_of_ble_eq_true rfl, Nat.le_of_ble_eq_true rfl⟩ rfl hl.1 rfl (Nat.le_of_ble_eq_true rfl) dL_law_1688 ⟨Nat.le_of_ble_eq_true rfl, Nat.le_of_ble_eq_true rfl⟩) (fun r_5 hr_5 => ?_)
  have er_5 := hr_5
  subst er_5
  refine W.eq (g2 := F0 m 1691 ls [.long (-2)]) rfl ?_
  refine lv_aload_n hx hb dL_law_1691 rfl (lv_at hl 1 rfl) ?_
  refine lv_aload_n hx hb dL_law_1692 rfl (lv_at hl 3 rfl) ?_
  refine lv_iload_n hx hb dL_law_1693 rfl (lv_at hl 0 rfl) ?_
  refine lv_iconst (v := 1) hx hb dL_law_1694 (by decide) ?_
  refine lv_iadd hx hb dL_law_1695 ?_
  refine lv_topi (fun z_6 ez_6 => ?_)
  have ez_6 : z_6 = 1 := ez_6.trans (by decide)
  subst ez_6
  refine va_sld (i := 1) hx hb hX hbl hbA hS (by subst hL7; exact vp_in_iff.mpr (by decide)) dL_law_1696 ?_
  refine W.eq (g2 := F0 m 1697 ls [.int (xs 1), .ref (ma 0), .long (-2)]) rfl ?_
  refine lv_aload_n hx hb dL_law_1697 rfl (lv_at hl 3 rfl) ?_
  refine lv_iload_n hx hb dL_law_1698 rfl (lv_at hl 0 rfl) ?_
  refine lv_iconst (v := 2) hx hb dL_law_1699 (by decide) ?_
  refine lv_iadd hx hb dL_law_1700 ?_
  refine lv_topi (fun z_7 ez_7 => ?_)
  have ez_7 : z_7 = 2 := ez_7.trans (by decide)
  subst ez_7
  refine va_sld (i := 2) hx hb hX hbl hbA hS (by subst hL7; exact vp_in_iff.mpr (by decide)) dL_law_1701 ?_
  refine W.eq (g2 := F0 m 1702 ls [.int (xs 2), .int (xs 1), .ref (ma 0), .long (-2)]) rfl ?_
  refine lv_aload_n hx hb dL_law_1702 rfl (lv_at hl 3 rfl) ?_
  refine lv_iload_n hx hb dL_law_1703 rfl (lv_at hl 0 rfl) ?_
  refine lv_iconst (v := 3) hx hb dL_law_1704 (by decide) ?_
  refine lv_iadd hx hb dL_law_1705 ?_
  refine lv_topi (fun z_8 ez_8 => ?_)
  have ez_8 : z_8 = 3 := ez_8.trans (by decide)
  subst ez_8
  refine va_sld (i := 3) hx hb hX hbl hbA hS (by subst hL7; exact vp_in_iff.mpr (by decide)) dL_law_1706 ?_
  refine W.eq (g2 := F0 m 1707 ls [.int (xs 3), .int (xs 2), .int (xs 1), .ref (ma 0), .long (-2)]) rfl ?_
  refine lv_aload_n hx hb dL_law_1707 rfl (lv_at hl 3 rfl) ?_
  refine lv_iload_n hx hb dL_law_1708 rfl (lv_at hl 0 rfl) ?_
  refine lv_iconst (v := 4) hx hb dL_law_1709 (by decide) ?_
  refine lv_iadd hx hb dL_law_1710 ?_
  refine lv_topi (fun z_9 ez_9 => ?_)
  have ez_9 : z_9 = 4 := ez_9.trans (by decide)
  subst ez_9
  refine va_sld (i := 4) hx hb hX hbl hbA hS (by subst hL7; exact vp_in_iff.mpr (by decide)) dL_law_1711 ?_
  refine W.eq (g2 := F0 m 1712 ls [.int (xs 4), .int (xs 3), .int (xs 2), .int (xs 1), .ref (ma 0), .long (-2)]) rfl ?_
  refine fw_call (wc := [((ma 0), .inr (10, [.int 0, .ref (ma 1), .ref (ma 2), .ref (ma 3), .ref (ma 4), .ref (ma 5), .int 0, .int 0, .int 0, .int 0, .int 0, .long 0, .int 0, .int 0, .int 0, .int (-1), .ref (ma 16), .ref (ma 17), .ref (ma 18), .ref (ma 19), .ref (ma 20), .ref (ma 21), .ref (ma 22), .ref (ma 23), .ref (ma 24), .ref (ma 25), .ref (ma 26), .ref (ma 27), .ref (ma 28), .ref (ma 29), .ref (ma 30), .ref (ma 31), .ref (ma 32), .ref (ma 33), .ref (ma 34), .ref (ma 35), .ref (ma 36), .ref (ma 37), .ref (ma 38), .ref (ma 39), .ref (ma 40), .ref (ma 41), .long 0])), ((ma 20), .inl (cy 1, 5, .inl (fun _ => 0))), ((ma 18), .inl (cy 1, 5, .inl (fun _ => 0))), ((ma 17), .inl (cy 1, 20, .inl (fun _ => 0)))]) (wr := [((xa 0), .inr (9, [.ref (xa 1), .ref (xa 2), .ref (xa 3), .ref (xa 4), .ref (xa 5), .ref (xa 6), .ref (xa 7), .ref (xa 8), .ref (xa 9), .int 0, .ref (xa 11), .null, .int 0, .int (-1)])), ((xa 1), .inl (cy 0, 1600, .inl (fun _ => 0))), ((xa 2), .inr (4, [.int 0, .int (-1), .ref (xa 30), .int 0, .int 0, .int 0, .int 0, .int 0, .ref (xa 31), .int 0, .int 0, .int 0])), ((xa 8), .inl (cy 4, 4, .inr (.inr (.inr (.inr (fun _ => none)))))), ((xa 9), .inl (cy 5, 3, .inr (.inr (.inr (.inr (fun _ => none)))))), ((xa 11), .inr (2, [.int 0, .int 0, .int 0, .int 0, .int 0, .int 0, .int 0, .int 0, .int 1, .int 10, .int 0, .int 0, .int 0, .int 0, .ref (xa 20), .ref (xa 21), .ref (xa 22), .ref (xa 23), .ref (xa 24), .ref (xa 25), .ref (xa 26)])), ((ma 1), .inl (cy 1, 4, .inl fw)), ((ma 2), .inl (cy 1, 4, .inl (fun _ => 0))), ((ma 3), .inl (cy 2, 240, .inr (.inl (fun _ => 0)))), ((ma 5), .inl (cy 0, 1600, .inl (fun _ => 0))), ((ma 16), .inl (cy 1, 5, .inl (fun _ => 0))), ((ma 19), .inl (cy 1, 45, .inl (fun _ => 0))), ((ma 21), .inl (cy 1, 150, .inl (fun _ => 0))), ((ma 22), .inl (cy 1, 5, .inl (fun _ => 0))), ((ma 23), .inl (cy 1, 120, .inl (fun _ => 0))), ((ma 24), .inl (cy 1, 30, .inl (fun _ => 0))), ((ma 25), .inl (cy 3, 15, .inl (fun _ => 0))), ((ma 26), .inl (cy 1, 5, .inl (fun _ => 0))), ((ma 27), .inl (cy 1, 30, .inl (fun _ => 0))), ((ma 28), .inl (cy 3, 3, .inl (fun _ => 0)))]) (runV (As := [.int (xs 1), .int (xs 2), .int (xs 3), .int (xs 4)]) (rest := [.long (-2)]) ⟨hx, hb, hml, hown, hts⟩ (g_X10_spread l D cy ma (xs 1) (xs 2) (xs 3) (xs 4)  H.size) sV_L_168 hK (va_recv hK.1 hP (ci := 10) (q0 := 6) rfl rfl) (PW.of hP hD [6, 15, 13, 12] (by decide) rfl rfl) ⟨Nat.le_of_ble_eq_true rfl, Nat.le_of_ble_eq_true rfl⟩ rfl hl.1 rfl (Nat.le_of_ble_eq_true rfl) dL_law_1712 ⟨Nat.le_of_ble_eq_true rfl, Nat.le_of_ble_eq_true rfl⟩) hP hD hS hA [6, 15, 13, 12] [0, 1, 2, 3, 4, 5, 7, 8, 9, 10, 11, 14, 16, 17, 18, 19, 20, 21, 22, 23] rfl rfl (by decide) (by decide) (fun v u_10 H locs hv hP hD hS => ?_)
  have hP : va_P D vwCl [((xa 0), .inr (9, [.ref (xa 1), .ref (xa 2), .ref (xa 3), .ref (xa 4), .ref (xa 5), .ref (xa 6), .ref (xa 7), .ref (xa 8), .ref (xa 9), .int 0, .ref (xa 11), .null, .int 0, .int (-1)])), ((xa 1), .inl (cy 0, 1600, .inl (fun _ => 0))), ((xa 2), .inr (4, [.int 0, .int (-1), .ref (xa 30), .int 0, .int 0, .int 0, .int 0, .int 0, .ref (xa 31), .int 0, .int 0, .int 0])), ((xa 8), .inl (cy 4, 4, .inr (.inr (.inr (.inr (fun _ => none)))))), ((xa 9), .inl (cy 5, 3, .inr (.inr (.inr (.inr (fun _ => none)))))), ((xa 11), .inr (2, [.int 0, .int 0, .int 0, .int 0, .int 0, .int 0, .int 0, .int 0, .int 1, .int 10, .int 0, .int 0, .int 0, .int 0, .ref (xa 20), .ref (xa 21), .ref (xa 22), .ref (xa 23), .ref (xa 24), .ref (xa 25), .ref (xa 26)])), ((ma 1), .inl (cy 1, 4, .inl fw)), ((ma 2), .inl (cy 1, 4, .inl (fun _ => 0))), ((ma 3), .inl (cy 2, 240, .inr (.inl (fun _ => 0)))), ((ma 5), .inl (cy 0, 1600, .inl (fun _ => 0))), ((ma 16), .inl (cy 1, 5, .inl (fun _ => 0))), ((ma 19), .inl (cy 1, 45, .inl (fun _ => 0))), ((ma 21), .inl (cy 1, 150, .inl (fun _ => 0))), ((ma 22), .inl (cy 1, 5, .inl (fun _ => 0))), ((ma 23), .inl (cy 1, 120, .inl (fun _ => 0))), ((ma 24), .inl (cy 1, 30, .inl (fun _ => 0))), ((ma 25), .inl (cy 3, 15, .inl (fun _ => 0))), ((ma 26), .inl (cy 1, 5, .inl (fun _ => 0))), ((ma 27), .inl (cy 1, 30, .inl (fun _ => 0))), ((ma 28), .inl (cy 3, 3, .inl (fun _ => 0)))] H := hP
  have hD : va_D A [((xa 0), .inr (9, [.ref (xa 1), .ref (xa 2), .ref (xa 3), .ref (xa 4), .ref (xa 5), .ref (xa 6), .ref (xa 7), .ref (xa 8), .ref (xa 9), .int 0, .ref (xa 11), .null, .int 0, .int (-1)])), ((xa 1), .inl (cy 0, 1600, .inl (fun _ => 0))), ((xa 2), .inr (4, [.int 0, .int (-1), .ref (xa 30), .int 0, .int 0, .int 0, .int 0, .int 0, .ref (xa 31), .int 0, .int 0, .int 0])), ((xa 8), .inl (cy 4, 4, .inr (.inr (.inr (.inr (fun _ => none)))))), ((xa 9), .inl (cy 5, 3, .inr (.inr (.inr (.inr (fun _ => none)))))), ((xa 11), .inr (2, [.int 0, .int 0, .int 0, .int 0, .int 0, .int 0, .int 0, .int 0, .int 1, .int 10, .int 0, .int 0, .int 0, .int 0, .ref (xa 20), .ref (xa 21), .ref (xa 22), .ref (xa 23), .ref (xa 24), .ref (xa 25), .ref (xa 26)])), ((ma 1), .inl (cy 1, 4, .inl fw)), ((ma 2), .inl (cy 1, 4, .inl (fun _ => 0))), ((ma 3), .inl (cy 2, 240, .inr (.inl (fun _ => 0)))), ((ma 5), .inl (cy 0, 1600, .inl (fun _ => 0))), ((ma 16), .inl (cy 1, 5, .inl (fun _ => 0))), ((ma 19), .inl (cy 1, 45, .inl (fun _ => 0))), ((ma 21), .inl (cy 1, 150, .inl (fun _ => 0))), ((ma 22), .inl (cy 1, 5, .inl (fun _ => 0))), ((ma 23), .inl (cy 1, 120, .inl (fun _ => 0))), ((ma 24), .inl (cy 1, 30, .inl (fun _ => 0))), ((ma 25), .inl (cy 3, 15, .inl (fun _ => 0))), ((ma 26), .inl (cy 1, 5, .inl (fun _ => 0))), ((ma 27), .inl (cy 1, 30, .inl (fun _ => 0))), ((ma 28), .inl (cy 3, 3, .inl (fun _ => 0)))] := hD
  obtain ⟨r_11, rfl, hr_11⟩ := hv
  have er_11 := hr_11
  subst er_11
  refine W.eq (g2 := F0 m 1715 ls [.long (-2), .long (-2)]) rfl ?_
  refine W.lcmp hx hb dL_law_1715 ?_
  refine lv_topi (fun z_12 ez_12 => ?_)
  have ez_12 : z_12 = 0 := ez_12.trans (by decide)
  subst ez_12
  refine lv_if_eq (tgt := 2286) hx hb dL_law_1716 (by decide) (fun _ => ?_) (fun c_13 => absurd (by decide) c_13)
  exact law_end C0 hL7 hA2 hbA hS (lv_sub hl [0, 1, 2, 3] rfl) (Nat.le_of_ble_eq_true rfl) (Nat.le_of_ble_eq_true rfl)
set_option maxHeartbeats 4000000 in
set_option maxRecDepth 100000 in
theorem lc_36 {p : Program} {e : Env} {s : State} {m : MethodId} {below : List Frame} {meth : Method} {c : Code} {l : Launch} {b L : Nat} {xs : Nat → Int32} {A : Nat → Prop} (D : va_G) (cy : Nat → ClassId) (xa ma : Nat → Nat) (fw : Nat → Int32) (hw : ∀ k : Nat, k < 4 → fw k = -1) (hL7 : L = 7) (C0 : lw_At p s m meth c b L xs) (hK : KK D cy s) (hA : ∀ q : Nat, s.heap.size ≤ q → A q) (hA2 : ∀ q : Nat, A q → s.heap.size ≤ q) (hbA : ¬ A b) {H : Heap} {locs : List Loc} (hP : va_P D vwCl [((xa 0), .inr (9, [.ref (xa 1), .ref (xa 2), .ref (xa 3), .ref (xa 4), .ref (xa 5), .ref (xa 6), .ref (xa 7), .ref (xa 8), .ref (xa 9), .int 0, .ref (xa 11), .null, .int 0, .int (-1)])), ((xa 1), .inl (cy 0, 1600, .inl (fun _ => 0))), ((xa 2), .inr (4, [.int 0, .int (-1), .ref (xa 30), .int 0, .int 0, .int 0, .int 0, .int 0, .ref (xa 31), .int 0, .int 0, .int 0])), ((xa 8), .inl (cy 4, 4, .inr (.inr (.inr (.inr (fun _ => none)))))), ((xa 9), .inl (cy 5, 3, .inr (.inr (.inr (.inr (fun _ => none)))))), ((xa 11), .inr (2, [.int 0, .int 0, .int 0, .int 0, .int 0, .int 0, .int 0, .int 0, .int 1, .int 10, .int 0, .int 0, .int 0, .int 0, .ref (xa 20), .ref (xa 21), .ref (xa 22), .ref (xa 23), .ref (xa 24), .ref (xa 25), .ref (xa 26)])), ((ma 0), .inr (10, [.int 0, .ref (ma 1), .ref (ma 2), .ref (ma 3), .ref (ma 4), .ref (ma 5), .int 0, .int 0, .int 0, .int 0, .int 0, .long 0, .int 0, .int 0, .int 0, .int (-1), .ref (ma 16), .ref (ma 17), .ref (ma 18), .ref (ma 19), .ref (ma 20), .ref (ma 21), .ref (ma 22), .ref (ma 23), .ref (ma 24), .ref (ma 25), .ref (ma 26), .ref (ma 27), .ref (ma 28), .ref (ma 29), .ref (ma 30), .ref (ma 31), .ref (ma 32), .ref (ma 33), .ref (ma 34), .ref (ma 35), .ref (ma 36), .ref (ma 37), .ref (ma 38), .ref (ma 39), .ref (ma 40), .ref (ma 41), .long 0])), ((ma 1), .inl (cy 1, 4, .inl fw)), ((ma 2), .inl (cy 1, 4, .inl (fun _ => 0))), ((ma 3), .inl (cy 2, 240, .inr (.inl (fun _ => 0)))), ((ma 5), .inl (cy 0, 1600, .inl (fun _ => 0))), ((ma 16), .inl (cy 1, 5, .inl (fun _ => 0))), ((ma 17), .inl (cy 1, 20, .inl (fun _ => 0))), ((ma 18), .inl (cy 1, 5, .inl (fun _ => 0))), ((ma 19), .inl (cy 1, 45, .inl (fun _ => 0))), ((ma 20), .inl (cy 1, 5, .inl (fun _ => 0))), ((ma 21), .inl (cy 1, 150, .inl (fun _ => 0))), ((ma 22), .inl (cy 1, 5, .inl (fun _ => 0))), ((ma 23), .inl (cy 1, 120, .inl (fun _ => 0))), ((ma 24), .inl (cy 1, 30, .inl (fun _ => 0))), ((ma 25), .inl (cy 3, 15, .inl (fun _ => 0))), ((ma 26), .inl (cy 1, 5, .inl (fun _ => 0))), ((ma 27), .inl (cy 1, 30, .inl (fun _ => 0))), ((ma 28), .inl (cy 3, 3, .inl (fun _ => 0)))] H) (hD : va_D A [((xa 0), .inr (9, [.ref (xa 1), .ref (xa 2), .ref (xa 3), .ref (xa 4), .ref (xa 5), .ref (xa 6), .ref (xa 7), .ref (xa 8), .ref (xa 9), .int 0, .ref (xa 11), .null, .int 0, .int (-1)])), ((xa 1), .inl (cy 0, 1600, .inl (fun _ => 0))), ((xa 2), .inr (4, [.int 0, .int (-1), .ref (xa 30), .int 0, .int 0, .int 0, .int 0, .int 0, .ref (xa 31), .int 0, .int 0, .int 0])), ((xa 8), .inl (cy 4, 4, .inr (.inr (.inr (.inr (fun _ => none)))))), ((xa 9), .inl (cy 5, 3, .inr (.inr (.inr (.inr (fun _ => none)))))), ((xa 11), .inr (2, [.int 0, .int 0, .int 0, .int 0, .int 0, .int 0, .int 0, .int 0, .int 1, .int 10, .int 0, .int 0, .int 0, .int 0, .ref (xa 20), .ref (xa 21), .ref (xa 22), .ref (xa 23), .ref (xa 24), .ref (xa 25), .ref (xa 26)])), ((ma 0), .inr (10, [.int 0, .ref (ma 1), .ref (ma 2), .ref (ma 3), .ref (ma 4), .ref (ma 5), .int 0, .int 0, .int 0, .int 0, .int 0, .long 0, .int 0, .int 0, .int 0, .int (-1), .ref (ma 16), .ref (ma 17), .ref (ma 18), .ref (ma 19), .ref (ma 20), .ref (ma 21), .ref (ma 22), .ref (ma 23), .ref (ma 24), .ref (ma 25), .ref (ma 26), .ref (ma 27), .ref (ma 28), .ref (ma 29), .ref (ma 30), .ref (ma 31), .ref (ma 32), .ref (ma 33), .ref (ma 34), .ref (ma 35), .ref (ma 36), .ref (ma 37), .ref (ma 38), .ref (ma 39), .ref (ma 40), .ref (ma 41), .long 0])), ((ma 1), .inl (cy 1, 4, .inl fw)), ((ma 2), .inl (cy 1, 4, .inl (fun _ => 0))), ((ma 3), .inl (cy 2, 240, .inr (.inl (fun _ => 0)))), ((ma 5), .inl (cy 0, 1600, .inl (fun _ => 0))), ((ma 16), .inl (cy 1, 5, .inl (fun _ => 0))), ((ma 17), .inl (cy 1, 20, .inl (fun _ => 0))), ((ma 18), .inl (cy 1, 5, .inl (fun _ => 0))), ((ma 19), .inl (cy 1, 45, .inl (fun _ => 0))), ((ma 20), .inl (cy 1, 5, .inl (fun _ => 0))), ((ma 21), .inl (cy 1, 150, .inl (fun _ => 0))), ((ma 22), .inl (cy 1, 5, .inl (fun _ => 0))), ((ma 23), .inl (cy 1, 120, .inl (fun _ => 0))), ((ma 24), .inl (cy 1, 30, .inl (fun _ => 0))), ((ma 25), .inl (cy 3, 15, .inl (fun _ => 0))), ((ma 26), .inl (cy 1, 5, .inl (fun _ => 0))), ((ma 27), .inl (cy 1, 30, .inl (fun _ => 0))), ((ma 28), .inl (cy 3, 3, .inl (fun _ => 0)))]) (hS : va_S A s.heap H locs) {ls : Array Slot} (hl : lv_has ls 4 [(3, .int 0), (2, .ref (ma 0)), (1, .ref (xa 0)), (0, .ref b)]) : W p l e room_1 s m #[Value.ref b] below meth c H locs 82 108979 (lw_Z below #[Value.ref b] s) (F0 m 1721 ls []) := by
  obtain ⟨hx, hb, hr, hml, hown, hts, hX, hbl, hlocks, hgv⟩ := id C0
  have hown : s.vm.findClass RL = some m.cls := hown
  have hb : c.code = cL_law := hb
  have hts : ∀ w ∈ GW, w.before #[Value.ref b] s = true := fun w h => hts w (gw_tbl w h)
  refine lv_aload_n hx hb dL_law_1721 rfl (lv_at hl 2 rfl) ?_
  refine lv_aload_n hx hb dL_law_1722 rfl (lv_at hl 3 rfl) ?_
  refine lv_iload_n hx hb dL_law_1723 rfl (lv_at hl 0 rfl) ?_
  refine lv_iconst (v := 1) hx hb dL_law_1724 (by decide) ?_
  refine lv_iadd hx hb dL_law_1725 ?_
  refine lv_topi (fun z_1 ez_1 => ?_)
  have ez_1 : z_1 = 1 := ez_1.trans (by decide)
  subst ez_1
  refine va_sld (i := 1) hx hb hX hbl hbA hS (by subst hL7; exact vp_in_iff.mpr (by decide)) dL_law_1726 ?_
  refine W.eq (g2 := F0 m 1727 ls [.int (xs 1), .ref (xa 0)]) rfl ?_
  refine lv_aload_n hx hb dL_law_1727 rfl (lv_at hl 3 rfl) ?_
  refine lv_iload_n hx hb dL_law_1728 rfl (lv_at hl 0 rfl) ?_
  refine lv_iconst (v := 2) hx hb dL_law_1729 (by decide) ?_
  refine lv_iadd hx hb dL_law_1730 ?_
  refine lv_topi (fun z_2 ez_2 => ?_)
  have ez_2 : z_2 = 2 := ez_2.trans (by decide)
  subst ez_2
  refine va_sld (i := 2) hx hb hX hbl hbA hS (by subst hL7; exact vp_in_iff.mpr (by decide)) dL_law_1731 ?_
  refine W.eq (g2 := F0 m 1732 ls [.int (xs 2), .int (xs 1), .ref (xa 0)]) rfl ?_
  refine lv_aload_n hx hb dL_law_1732 rfl (lv_at hl 3 rfl) ?_
  refine lv_iload_n hx hb dL_law_1733 rfl (lv_at hl 0 rfl) ?_
  refine lv_iconst (v := 3) hx hb dL_law_1734 (by decide) ?_
  refine lv_iadd hx hb dL_law_1735 ?_
  refine lv_topi (fun z_3 ez_3 => ?_)
  have ez_3 : z_3 = 3 := ez_3.trans (by decide)
  subst ez_3
  refine va_sld (i := 3) hx hb hX hbl hbA hS (by subst hL7; exact vp_in_iff.mpr (by decide)) dL_law_1736 ?_
  refine W.eq (g2 := F0 m 1737 ls [.int (xs 3), .int (xs 2), .int (xs 1), .ref (xa 0)]) rfl ?_
  refine pu_calli (runV (As := [.int (xs 1), .int (xs 2), .int (xs 3)]) (rest := []) ⟨hx, hb, hml, hown, hts⟩ (f_X9_bear l D cy xa (xs 1) (xs 2) (xs 3) ) sV_L_169 hK (va_recv hK.1 hP (ci := 9) (q0 := 0) rfl rfl) (hP.sub (ws' := [((xa 0), .inr (9, [.ref (xa 1), .ref (xa 2), .ref (xa 3), .ref (xa 4), .ref (xa 5), .ref (xa 6), .ref (xa 7), .ref (xa 8), .ref (xa 9), .int 0, .ref (xa 11), .null, .int 0, .int (-1)])), ((xa 11), .inr (2, [.int 0, .int 0, .int 0, .int 0, .int 0, .int 0, .int 0, .int 0, .int 1, .int 10, .int 0, .int 0, .int 0, .int 0, .ref (xa 20), .ref (xa 21), .ref (xa 22), .ref (xa 23), .ref (xa 24), .ref (xa 25), .ref (xa 26)]))]) [0, 5] rfl) ⟨Nat.le_of_ble_eq_true rfl, Nat.le_of_ble_eq_true rfl⟩ rfl hl.1 rfl (Nat.le_of_ble_eq_true rfl) dL_law_1737 ⟨Nat.le_of_ble_eq_true rfl, Nat.le_of_ble_eq_true rfl⟩) (fun r_4 hr_4 => ?_)
  have er_4 := hr_4
  subst er_4
  refine W.eq (g2 := F0 m 1740 ls [.int (-2)]) rfl ?_
  refine lv_aload_n hx hb dL_law_1740 rfl (lv_at hl 1 rfl) ?_
  refine lv_aload_n hx hb dL_law_1741 rfl (lv_at hl 3 rfl) ?_
  refine lv_iload_n hx hb dL_law_1742 rfl (lv_at hl 0 rfl) ?_
  refine lv_iconst (v := 1) hx hb dL_law_1743 (by decide) ?_
  refine lv_iadd hx hb dL_law_1744 ?_
  refine lv_topi (fun z_5 ez_5 => ?_)
  have ez_5 : z_5 = 1 := ez_5.trans (by decide)
  subst ez_5
  refine va_sld (i := 1) hx hb hX hbl hbA hS (by subst hL7; exact vp_in_iff.mpr (by decide)) dL_law_1745 ?_
  refine W.eq (g2 := F0 m 1746 ls [.int (xs 1), .ref (ma 0), .int (-2)]) rfl ?_
  refine lv_aload_n hx hb dL_law_1746 rfl (lv_at hl 3 rfl) ?_
  refine lv_iload_n hx hb dL_law_1747 rfl (lv_at hl 0 rfl) ?_
  refine lv_iconst (v := 2) hx hb dL_law_1748 (by decide) ?_
  refine lv_iadd hx hb dL_law_1749 ?_
  refine lv_topi (fun z_6 ez_6 => ?_)
  have ez_6 : z_6 = 2 := ez_6.trans (by decide)
  subst ez_6
  refine va_sld (i := 2) hx hb hX hbl hbA hS (by subst hL7; exact vp_in_iff.mpr (by decide)) dL_law_1750 ?_
  refine W.eq (g2 := F0 m 1751 ls [.int (xs 2), .int (xs 1), .ref (ma 0), .int (-2)]) rfl ?_
  refine lv_aload_n hx hb dL_law_1751 rfl (lv_at hl 3 rfl) ?_
  refine lv_iload_n hx hb dL_law_1752 rfl (lv_at hl 0 rfl) ?_
  refine lv_iconst (v := 3) hx hb dL_law_1753 (by decide) ?_
  refine lv_iadd hx hb dL_law_1754 ?_
  refine lv_topi (fun z_7 ez_7 => ?_)
  have ez_7 : z_7 = 3 := ez_7.trans (by decide)
  subst ez_7
  refine va_sld (i := 3) hx hb hX hbl hbA hS (by subst hL7; exact vp_in_iff.mpr (by decide)) dL_law_1755 ?_
  refine W.eq (g2 := F0 m 1756 ls [.int (xs 3), .int (xs 2), .int (xs 1), .ref (ma 0), .int (-2)]) rfl ?_
  refine fw_call (wc := [((ma 0), .inr (10, [.int 0, .ref (ma 1), .ref (ma 2), .ref (ma 3), .ref (ma 4), .ref (ma 5), .int 0, .int 0, .int 0, .int 0, .int 0, .long 0, .int 0, .int 0, .int 0, .int (-1), .ref (ma 16), .ref (ma 17), .ref (ma 18), .ref (ma 19), .ref (ma 20), .ref (ma 21), .ref (ma 22), .ref (ma 23), .ref (ma 24), .ref (ma 25), .ref (ma 26), .ref (ma 27), .ref (ma 28), .ref (ma 29), .ref (ma 30), .ref (ma 31), .ref (ma 32), .ref (ma 33), .ref (ma 34), .ref (ma 35), .ref (ma 36), .ref (ma 37), .ref (ma 38), .ref (ma 39), .ref (ma 40), .ref (ma 41), .long 0])), ((ma 20), .inl (cy 1, 5, .inl (fun _ => 0))), ((ma 18), .inl (cy 1, 5, .inl (fun _ => 0))), ((ma 17), .inl (cy 1, 20, .inl (fun _ => 0)))]) (wr := [((xa 0), .inr (9, [.ref (xa 1), .ref (xa 2), .ref (xa 3), .ref (xa 4), .ref (xa 5), .ref (xa 6), .ref (xa 7), .ref (xa 8), .ref (xa 9), .int 0, .ref (xa 11), .null, .int 0, .int (-1)])), ((xa 1), .inl (cy 0, 1600, .inl (fun _ => 0))), ((xa 2), .inr (4, [.int 0, .int (-1), .ref (xa 30), .int 0, .int 0, .int 0, .int 0, .int 0, .ref (xa 31), .int 0, .int 0, .int 0])), ((xa 8), .inl (cy 4, 4, .inr (.inr (.inr (.inr (fun _ => none)))))), ((xa 9), .inl (cy 5, 3, .inr (.inr (.inr (.inr (fun _ => none)))))), ((xa 11), .inr (2, [.int 0, .int 0, .int 0, .int 0, .int 0, .int 0, .int 0, .int 0, .int 1, .int 10, .int 0, .int 0, .int 0, .int 0, .ref (xa 20), .ref (xa 21), .ref (xa 22), .ref (xa 23), .ref (xa 24), .ref (xa 25), .ref (xa 26)])), ((ma 1), .inl (cy 1, 4, .inl fw)), ((ma 2), .inl (cy 1, 4, .inl (fun _ => 0))), ((ma 3), .inl (cy 2, 240, .inr (.inl (fun _ => 0)))), ((ma 5), .inl (cy 0, 1600, .inl (fun _ => 0))), ((ma 16), .inl (cy 1, 5, .inl (fun _ => 0))), ((ma 19), .inl (cy 1, 45, .inl (fun _ => 0))), ((ma 21), .inl (cy 1, 150, .inl (fun _ => 0))), ((ma 22), .inl (cy 1, 5, .inl (fun _ => 0))), ((ma 23), .inl (cy 1, 120, .inl (fun _ => 0))), ((ma 24), .inl (cy 1, 30, .inl (fun _ => 0))), ((ma 25), .inl (cy 3, 15, .inl (fun _ => 0))), ((ma 26), .inl (cy 1, 5, .inl (fun _ => 0))), ((ma 27), .inl (cy 1, 30, .inl (fun _ => 0))), ((ma 28), .inl (cy 3, 3, .inl (fun _ => 0)))]) (runV (As := [.int (xs 1), .int (xs 2), .int (xs 3)]) (rest := [.int (-2)]) ⟨hx, hb, hml, hown, hts⟩ (g_X10_bear l D cy ma (xs 1) (xs 2) (xs 3)  H.size) sV_L_172 hK (va_recv hK.1 hP (ci := 10) (q0 := 6) rfl rfl) (PW.of hP hD [6, 15, 13, 12] (by decide) rfl rfl) ⟨Nat.le_of_ble_eq_true rfl, Nat.le_of_ble_eq_true rfl⟩ rfl hl.1 rfl (Nat.le_of_ble_eq_true rfl) dL_law_1756 ⟨Nat.le_of_ble_eq_true rfl, Nat.le_of_ble_eq_true rfl⟩) hP hD hS hA [6, 15, 13, 12] [0, 1, 2, 3, 4, 5, 7, 8, 9, 10, 11, 14, 16, 17, 18, 19, 20, 21, 22, 23] rfl rfl (by decide) (by decide) (fun v u_8 H locs hv hP hD hS => ?_)
  have hP : va_P D vwCl [((xa 0), .inr (9, [.ref (xa 1), .ref (xa 2), .ref (xa 3), .ref (xa 4), .ref (xa 5), .ref (xa 6), .ref (xa 7), .ref (xa 8), .ref (xa 9), .int 0, .ref (xa 11), .null, .int 0, .int (-1)])), ((xa 1), .inl (cy 0, 1600, .inl (fun _ => 0))), ((xa 2), .inr (4, [.int 0, .int (-1), .ref (xa 30), .int 0, .int 0, .int 0, .int 0, .int 0, .ref (xa 31), .int 0, .int 0, .int 0])), ((xa 8), .inl (cy 4, 4, .inr (.inr (.inr (.inr (fun _ => none)))))), ((xa 9), .inl (cy 5, 3, .inr (.inr (.inr (.inr (fun _ => none)))))), ((xa 11), .inr (2, [.int 0, .int 0, .int 0, .int 0, .int 0, .int 0, .int 0, .int 0, .int 1, .int 10, .int 0, .int 0, .int 0, .int 0, .ref (xa 20), .ref (xa 21), .ref (xa 22), .ref (xa 23), .ref (xa 24), .ref (xa 25), .ref (xa 26)])), ((ma 1), .inl (cy 1, 4, .inl fw)), ((ma 2), .inl (cy 1, 4, .inl (fun _ => 0))), ((ma 3), .inl (cy 2, 240, .inr (.inl (fun _ => 0)))), ((ma 5), .inl (cy 0, 1600, .inl (fun _ => 0))), ((ma 16), .inl (cy 1, 5, .inl (fun _ => 0))), ((ma 19), .inl (cy 1, 45, .inl (fun _ => 0))), ((ma 21), .inl (cy 1, 150, .inl (fun _ => 0))), ((ma 22), .inl (cy 1, 5, .inl (fun _ => 0))), ((ma 23), .inl (cy 1, 120, .inl (fun _ => 0))), ((ma 24), .inl (cy 1, 30, .inl (fun _ => 0))), ((ma 25), .inl (cy 3, 15, .inl (fun _ => 0))), ((ma 26), .inl (cy 1, 5, .inl (fun _ => 0))), ((ma 27), .inl (cy 1, 30, .inl (fun _ => 0))), ((ma 28), .inl (cy 3, 3, .inl (fun _ => 0)))] H := hP
  have hD : va_D A [((xa 0), .inr (9, [.ref (xa 1), .ref (xa 2), .ref (xa 3), .ref (xa 4), .ref (xa 5), .ref (xa 6), .ref (xa 7), .ref (xa 8), .ref (xa 9), .int 0, .ref (xa 11), .null, .int 0, .int (-1)])), ((xa 1), .inl (cy 0, 1600, .inl (fun _ => 0))), ((xa 2), .inr (4, [.int 0, .int (-1), .ref (xa 30), .int 0, .int 0, .int 0, .int 0, .int 0, .ref (xa 31), .int 0, .int 0, .int 0])), ((xa 8), .inl (cy 4, 4, .inr (.inr (.inr (.inr (fun _ => none)))))), ((xa 9), .inl (cy 5, 3, .inr (.inr (.inr (.inr (fun _ => none)))))), ((xa 11), .inr (2, [.int 0, .int 0, .int 0, .int 0, .int 0, .int 0, .int 0, .int 0, .int 1, .int 10, .int 0, .int 0, .int 0, .int 0, .ref (xa 20), .ref (xa 21), .ref (xa 22), .ref (xa 23), .ref (xa 24), .ref (xa 25), .ref (xa 26)])), ((ma 1), .inl (cy 1, 4, .inl fw)), ((ma 2), .inl (cy 1, 4, .inl (fun _ => 0))), ((ma 3), .inl (cy 2, 240, .inr (.inl (fun _ => 0)))), ((ma 5), .inl (cy 0, 1600, .inl (fun _ => 0))), ((ma 16), .inl (cy 1, 5, .inl (fun _ => 0))), ((ma 19), .inl (cy 1, 45, .inl (fun _ => 0))), ((ma 21), .inl (cy 1, 150, .inl (fun _ => 0))), ((ma 22), .inl (cy 1, 5, .inl (fun _ => 0))), ((ma 23), .inl (cy 1, 120, .inl (fun _ => 0))), ((ma 24), .inl (cy 1, 30, .inl (fun _ => 0))), ((ma 25), .inl (cy 3, 15, .inl (fun _ => 0))), ((ma 26), .inl (cy 1, 5, .inl (fun _ => 0))), ((ma 27), .inl (cy 1, 30, .inl (fun _ => 0))), ((ma 28), .inl (cy 3, 3, .inl (fun _ => 0)))] := hD
  obtain ⟨r_9, rfl, hr_9⟩ := hv
  have er_9 := hr_9
  subst er_9
  refine W.eq (g2 := F0 m 1759 ls [.int (-2), .int (-2)]) rfl ?_
  refine lv_icmp_eq (tgt := 2286) hx hb dL_law_1759 (by decide) (fun _ => ?_) (fun c_10 => absurd (by decide) c_10)
  exact law_end C0 hL7 hA2 hbA hS (lv_sub hl [0, 1, 2, 3] rfl) (Nat.le_of_ble_eq_true rfl) (Nat.le_of_ble_eq_true rfl)
set_option maxHeartbeats 4000000 in
set_option maxRecDepth 100000 in
theorem lc_37 {p : Program} {e : Env} {s : State} {m : MethodId} {below : List Frame} {meth : Method} {c : Code} {l : Launch} {b L : Nat} {xs : Nat → Int32} {A : Nat → Prop} (D : va_G) (cy : Nat → ClassId) (xa ma : Nat → Nat) (fw : Nat → Int32) (hw : ∀ k : Nat, k < 4 → fw k = -1) (hL7 : L = 7) (C0 : lw_At p s m meth c b L xs) (hK : KK D cy s) (hA : ∀ q : Nat, s.heap.size ≤ q → A q) (hA2 : ∀ q : Nat, A q → s.heap.size ≤ q) (hbA : ¬ A b) {H : Heap} {locs : List Loc} (hP : va_P D vwCl [((xa 0), .inr (9, [.ref (xa 1), .ref (xa 2), .ref (xa 3), .ref (xa 4), .ref (xa 5), .ref (xa 6), .ref (xa 7), .ref (xa 8), .ref (xa 9), .int 0, .ref (xa 11), .null, .int 0, .int (-1)])), ((xa 1), .inl (cy 0, 1600, .inl (fun _ => 0))), ((xa 2), .inr (4, [.int 0, .int (-1), .ref (xa 30), .int 0, .int 0, .int 0, .int 0, .int 0, .ref (xa 31), .int 0, .int 0, .int 0])), ((xa 8), .inl (cy 4, 4, .inr (.inr (.inr (.inr (fun _ => none)))))), ((xa 9), .inl (cy 5, 3, .inr (.inr (.inr (.inr (fun _ => none)))))), ((xa 11), .inr (2, [.int 0, .int 0, .int 0, .int 0, .int 0, .int 0, .int 0, .int 0, .int 1, .int 10, .int 0, .int 0, .int 0, .int 0, .ref (xa 20), .ref (xa 21), .ref (xa 22), .ref (xa 23), .ref (xa 24), .ref (xa 25), .ref (xa 26)])), ((ma 0), .inr (10, [.int 0, .ref (ma 1), .ref (ma 2), .ref (ma 3), .ref (ma 4), .ref (ma 5), .int 0, .int 0, .int 0, .int 0, .int 0, .long 0, .int 0, .int 0, .int 0, .int (-1), .ref (ma 16), .ref (ma 17), .ref (ma 18), .ref (ma 19), .ref (ma 20), .ref (ma 21), .ref (ma 22), .ref (ma 23), .ref (ma 24), .ref (ma 25), .ref (ma 26), .ref (ma 27), .ref (ma 28), .ref (ma 29), .ref (ma 30), .ref (ma 31), .ref (ma 32), .ref (ma 33), .ref (ma 34), .ref (ma 35), .ref (ma 36), .ref (ma 37), .ref (ma 38), .ref (ma 39), .ref (ma 40), .ref (ma 41), .long 0])), ((ma 1), .inl (cy 1, 4, .inl fw)), ((ma 2), .inl (cy 1, 4, .inl (fun _ => 0))), ((ma 3), .inl (cy 2, 240, .inr (.inl (fun _ => 0)))), ((ma 5), .inl (cy 0, 1600, .inl (fun _ => 0))), ((ma 16), .inl (cy 1, 5, .inl (fun _ => 0))), ((ma 17), .inl (cy 1, 20, .inl (fun _ => 0))), ((ma 18), .inl (cy 1, 5, .inl (fun _ => 0))), ((ma 19), .inl (cy 1, 45, .inl (fun _ => 0))), ((ma 20), .inl (cy 1, 5, .inl (fun _ => 0))), ((ma 21), .inl (cy 1, 150, .inl (fun _ => 0))), ((ma 22), .inl (cy 1, 5, .inl (fun _ => 0))), ((ma 23), .inl (cy 1, 120, .inl (fun _ => 0))), ((ma 24), .inl (cy 1, 30, .inl (fun _ => 0))), ((ma 25), .inl (cy 3, 15, .inl (fun _ => 0))), ((ma 26), .inl (cy 1, 5, .inl (fun _ => 0))), ((ma 27), .inl (cy 1, 30, .inl (fun _ => 0))), ((ma 28), .inl (cy 3, 3, .inl (fun _ => 0)))] H) (hD : va_D A [((xa 0), .inr (9, [.ref (xa 1), .ref (xa 2), .ref (xa 3), .ref (xa 4), .ref (xa 5), .ref (xa 6), .ref (xa 7), .ref (xa 8), .ref (xa 9), .int 0, .ref (xa 11), .null, .int 0, .int (-1)])), ((xa 1), .inl (cy 0, 1600, .inl (fun _ => 0))), ((xa 2), .inr (4, [.int 0, .int (-1), .ref (xa 30), .int 0, .int 0, .int 0, .int 0, .int 0, .ref (xa 31), .int 0, .int 0, .int 0])), ((xa 8), .inl (cy 4, 4, .inr (.inr (.inr (.inr (fun _ => none)))))), ((xa 9), .inl (cy 5, 3, .inr (.inr (.inr (.inr (fun _ => none)))))), ((xa 11), .inr (2, [.int 0, .int 0, .int 0, .int 0, .int 0, .int 0, .int 0, .int 0, .int 1, .int 10, .int 0, .int 0, .int 0, .int 0, .ref (xa 20), .ref (xa 21), .ref (xa 22), .ref (xa 23), .ref (xa 24), .ref (xa 25), .ref (xa 26)])), ((ma 0), .inr (10, [.int 0, .ref (ma 1), .ref (ma 2), .ref (ma 3), .ref (ma 4), .ref (ma 5), .int 0, .int 0, .int 0, .int 0, .int 0, .long 0, .int 0, .int 0, .int 0, .int (-1), .ref (ma 16), .ref (ma 17), .ref (ma 18), .ref (ma 19), .ref (ma 20), .ref (ma 21), .ref (ma 22), .ref (ma 23), .ref (ma 24), .ref (ma 25), .ref (ma 26), .ref (ma 27), .ref (ma 28), .ref (ma 29), .ref (ma 30), .ref (ma 31), .ref (ma 32), .ref (ma 33), .ref (ma 34), .ref (ma 35), .ref (ma 36), .ref (ma 37), .ref (ma 38), .ref (ma 39), .ref (ma 40), .ref (ma 41), .long 0])), ((ma 1), .inl (cy 1, 4, .inl fw)), ((ma 2), .inl (cy 1, 4, .inl (fun _ => 0))), ((ma 3), .inl (cy 2, 240, .inr (.inl (fun _ => 0)))), ((ma 5), .inl (cy 0, 1600, .inl (fun _ => 0))), ((ma 16), .inl (cy 1, 5, .inl (fun _ => 0))), ((ma 17), .inl (cy 1, 20, .inl (fun _ => 0))), ((ma 18), .inl (cy 1, 5, .inl (fun _ => 0))), ((ma 19), .inl (cy 1, 45, .inl (fun _ => 0))), ((ma 20), .inl (cy 1, 5, .inl (fun _ => 0))), ((ma 21), .inl (cy 1, 150, .inl (fun _ => 0))), ((ma 22), .inl (cy 1, 5, .inl (fun _ => 0))), ((ma 23), .inl (cy 1, 120, .inl (fun _ => 0))), ((ma 24), .inl (cy 1, 30, .inl (fun _ => 0))), ((ma 25), .inl (cy 3, 15, .inl (fun _ => 0))), ((ma 26), .inl (cy 1, 5, .inl (fun _ => 0))), ((ma 27), .inl (cy 1, 30, .inl (fun _ => 0))), ((ma 28), .inl (cy 3, 3, .inl (fun _ => 0)))]) (hS : va_S A s.heap H locs) {ls : Array Slot} (hl : lv_has ls 4 [(3, .int 0), (2, .ref (ma 0)), (1, .ref (xa 0)), (0, .ref b)]) : W p l e room_1 s m #[Value.ref b] below meth c H locs 82 108979 (lw_Z below #[Value.ref b] s) (F0 m 1764 ls []) := by
  obtain ⟨hx, hb, hr, hml, hown, hts, hX, hbl, hlocks, hgv⟩ := id C0
  have hown : s.vm.findClass RL = some m.cls := hown
  have hb : c.code = cL_law := hb
  have hts : ∀ w ∈ GW, w.before #[Value.ref b] s = true := fun w h => hts w (gw_tbl w h)
  refine lv_aload_n hx hb dL_law_1764 rfl (lv_at hl 2 rfl) ?_
  refine lv_aload_n hx hb dL_law_1765 rfl (lv_at hl 3 rfl) ?_
  refine lv_iload_n hx hb dL_law_1766 rfl (lv_at hl 0 rfl) ?_
  refine lv_iconst (v := 1) hx hb dL_law_1767 (by decide) ?_
  refine lv_iadd hx hb dL_law_1768 ?_
  refine lv_topi (fun z_1 ez_1 => ?_)
  have ez_1 : z_1 = 1 := ez_1.trans (by decide)
  subst ez_1
  refine va_sld (i := 1) hx hb hX hbl hbA hS (by subst hL7; exact vp_in_iff.mpr (by decide)) dL_law_1769 ?_
  refine W.eq (g2 := F0 m 1770 ls [.int (xs 1), .ref (xa 0)]) rfl ?_
  refine pu_calli (runV (As := [.int (xs 1)]) (rest := []) ⟨hx, hb, hml, hown, hts⟩ (f_X9_run l D cy xa (xs 1) ) sV_L_173 hK (va_recv hK.1 hP (ci := 9) (q0 := 0) rfl rfl) (hP.sub (ws' := [((xa 0), .inr (9, [.ref (xa 1), .ref (xa 2), .ref (xa 3), .ref (xa 4), .ref (xa 5), .ref (xa 6), .ref (xa 7), .ref (xa 8), .ref (xa 9), .int 0, .ref (xa 11), .null, .int 0, .int (-1)])), ((xa 11), .inr (2, [.int 0, .int 0, .int 0, .int 0, .int 0, .int 0, .int 0, .int 0, .int 1, .int 10, .int 0, .int 0, .int 0, .int 0, .ref (xa 20), .ref (xa 21), .ref (xa 22), .ref (xa 23), .ref (xa 24), .ref (xa 25), .ref (xa 26)]))]) [0, 5] rfl) ⟨Nat.le_of_ble_eq_true rfl, Nat.le_of_ble_eq_true rfl⟩ rfl hl.1 rfl (Nat.le_of_ble_eq_true rfl) dL_law_1770 ⟨Nat.le_of_ble_eq_true rfl, Nat.le_of_ble_eq_true rfl⟩) (fun r_2 hr_2 => ?_)
  have er_2 := hr_2
  subst er_2
  refine W.eq (g2 := F0 m 1773 ls [.int (-2)]) rfl ?_
  refine lv_aload_n hx hb dL_law_1773 rfl (lv_at hl 1 rfl) ?_
  refine lv_aload_n hx hb dL_law_1774 rfl (lv_at hl 3 rfl) ?_
  refine lv_iload_n hx hb dL_law_1775 rfl (lv_at hl 0 rfl) ?_
  refine lv_iconst (v := 1) hx hb dL_law_1776 (by decide) ?_
  refine lv_iadd hx hb dL_law_1777 ?_
  refine lv_topi (fun z_3 ez_3 => ?_)
  have ez_3 : z_3 = 1 := ez_3.trans (by decide)
  subst ez_3
  refine va_sld (i := 1) hx hb hX hbl hbA hS (by subst hL7; exact vp_in_iff.mpr (by decide)) dL_law_1778 ?_
  refine W.eq (g2 := F0 m 1779 ls [.int (xs 1), .ref (ma 0), .int (-2)]) rfl ?_
  refine fw_call (wc := [((ma 0), .inr (10, [.int 0, .ref (ma 1), .ref (ma 2), .ref (ma 3), .ref (ma 4), .ref (ma 5), .int 0, .int 0, .int 0, .int 0, .int 0, .long 0, .int 0, .int 0, .int 0, .int (-1), .ref (ma 16), .ref (ma 17), .ref (ma 18), .ref (ma 19), .ref (ma 20), .ref (ma 21), .ref (ma 22), .ref (ma 23), .ref (ma 24), .ref (ma 25), .ref (ma 26), .ref (ma 27), .ref (ma 28), .ref (ma 29), .ref (ma 30), .ref (ma 31), .ref (ma 32), .ref (ma 33), .ref (ma 34), .ref (ma 35), .ref (ma 36), .ref (ma 37), .ref (ma 38), .ref (ma 39), .ref (ma 40), .ref (ma 41), .long 0])), ((ma 20), .inl (cy 1, 5, .inl (fun _ => 0))), ((ma 18), .inl (cy 1, 5, .inl (fun _ => 0))), ((ma 17), .inl (cy 1, 20, .inl (fun _ => 0)))]) (wr := [((xa 0), .inr (9, [.ref (xa 1), .ref (xa 2), .ref (xa 3), .ref (xa 4), .ref (xa 5), .ref (xa 6), .ref (xa 7), .ref (xa 8), .ref (xa 9), .int 0, .ref (xa 11), .null, .int 0, .int (-1)])), ((xa 1), .inl (cy 0, 1600, .inl (fun _ => 0))), ((xa 2), .inr (4, [.int 0, .int (-1), .ref (xa 30), .int 0, .int 0, .int 0, .int 0, .int 0, .ref (xa 31), .int 0, .int 0, .int 0])), ((xa 8), .inl (cy 4, 4, .inr (.inr (.inr (.inr (fun _ => none)))))), ((xa 9), .inl (cy 5, 3, .inr (.inr (.inr (.inr (fun _ => none)))))), ((xa 11), .inr (2, [.int 0, .int 0, .int 0, .int 0, .int 0, .int 0, .int 0, .int 0, .int 1, .int 10, .int 0, .int 0, .int 0, .int 0, .ref (xa 20), .ref (xa 21), .ref (xa 22), .ref (xa 23), .ref (xa 24), .ref (xa 25), .ref (xa 26)])), ((ma 1), .inl (cy 1, 4, .inl fw)), ((ma 2), .inl (cy 1, 4, .inl (fun _ => 0))), ((ma 3), .inl (cy 2, 240, .inr (.inl (fun _ => 0)))), ((ma 5), .inl (cy 0, 1600, .inl (fun _ => 0))), ((ma 16), .inl (cy 1, 5, .inl (fun _ => 0))), ((ma 19), .inl (cy 1, 45, .inl (fun _ => 0))), ((ma 21), .inl (cy 1, 150, .inl (fun _ => 0))), ((ma 22), .inl (cy 1, 5, .inl (fun _ => 0))), ((ma 23), .inl (cy 1, 120, .inl (fun _ => 0))), ((ma 24), .inl (cy 1, 30, .inl (fun _ => 0))), ((ma 25), .inl (cy 3, 15, .inl (fun _ => 0))), ((ma 26), .inl (cy 1, 5, .inl (fun _ => 0))), ((ma 27), .inl (cy 1, 30, .inl (fun _ => 0))), ((ma 28), .inl (cy 3, 3, .inl (fun _ => 0)))]) (runV (As := [.int (xs 1)]) (rest := [.int (-2)]) ⟨hx, hb, hml, hown, hts⟩ (g_X10_run l D cy ma (xs 1)  H.size) sV_L_176 hK (va_recv hK.1 hP (ci := 10) (q0 := 6) rfl rfl) (PW.of hP hD [6, 15, 13, 12] (by decide) rfl rfl) ⟨Nat.le_of_ble_eq_true rfl, Nat.le_of_ble_eq_true rfl⟩ rfl hl.1 rfl (Nat.le_of_ble_eq_true rfl) dL_law_1779 ⟨Nat.le_of_ble_eq_true rfl, Nat.le_of_ble_eq_true rfl⟩) hP hD hS hA [6, 15, 13, 12] [0, 1, 2, 3, 4, 5, 7, 8, 9, 10, 11, 14, 16, 17, 18, 19, 20, 21, 22, 23] rfl rfl (by decide) (by decide) (fun v u_4 H locs hv hP hD hS => ?_)
  have hP : va_P D vwCl [((xa 0), .inr (9, [.ref (xa 1), .ref (xa 2), .ref (xa 3), .ref (xa 4), .ref (xa 5), .ref (xa 6), .ref (xa 7), .ref (xa 8), .ref (xa 9), .int 0, .ref (xa 11), .null, .int 0, .int (-1)])), ((xa 1), .inl (cy 0, 1600, .inl (fun _ => 0))), ((xa 2), .inr (4, [.int 0, .int (-1), .ref (xa 30), .int 0, .int 0, .int 0, .int 0, .int 0, .ref (xa 31), .int 0, .int 0, .int 0])), ((xa 8), .inl (cy 4, 4, .inr (.inr (.inr (.inr (fun _ => none)))))), ((xa 9), .inl (cy 5, 3, .inr (.inr (.inr (.inr (fun _ => none)))))), ((xa 11), .inr (2, [.int 0, .int 0, .int 0, .int 0, .int 0, .int 0, .int 0, .int 0, .int 1, .int 10, .int 0, .int 0, .int 0, .int 0, .ref (xa 20), .ref (xa 21), .ref (xa 22), .ref (xa 23), .ref (xa 24), .ref (xa 25), .ref (xa 26)])), ((ma 1), .inl (cy 1, 4, .inl fw)), ((ma 2), .inl (cy 1, 4, .inl (fun _ => 0))), ((ma 3), .inl (cy 2, 240, .inr (.inl (fun _ => 0)))), ((ma 5), .inl (cy 0, 1600, .inl (fun _ => 0))), ((ma 16), .inl (cy 1, 5, .inl (fun _ => 0))), ((ma 19), .inl (cy 1, 45, .inl (fun _ => 0))), ((ma 21), .inl (cy 1, 150, .inl (fun _ => 0))), ((ma 22), .inl (cy 1, 5, .inl (fun _ => 0))), ((ma 23), .inl (cy 1, 120, .inl (fun _ => 0))), ((ma 24), .inl (cy 1, 30, .inl (fun _ => 0))), ((ma 25), .inl (cy 3, 15, .inl (fun _ => 0))), ((ma 26), .inl (cy 1, 5, .inl (fun _ => 0))), ((ma 27), .inl (cy 1, 30, .inl (fun _ => 0))), ((ma 28), .inl (cy 3, 3, .inl (fun _ => 0)))] H := hP
  have hD : va_D A [((xa 0), .inr (9, [.ref (xa 1), .ref (xa 2), .ref (xa 3), .ref (xa 4), .ref (xa 5), .ref (xa 6), .ref (xa 7), .ref (xa 8), .ref (xa 9), .int 0, .ref (xa 11), .null, .int 0, .int (-1)])), ((xa 1), .inl (cy 0, 1600, .inl (fun _ => 0))), ((xa 2), .inr (4, [.int 0, .int (-1), .ref (xa 30), .int 0, .int 0, .int 0, .int 0, .int 0, .ref (xa 31), .int 0, .int 0, .int 0])), ((xa 8), .inl (cy 4, 4, .inr (.inr (.inr (.inr (fun _ => none)))))), ((xa 9), .inl (cy 5, 3, .inr (.inr (.inr (.inr (fun _ => none)))))), ((xa 11), .inr (2, [.int 0, .int 0, .int 0, .int 0, .int 0, .int 0, .int 0, .int 0, .int 1, .int 10, .int 0, .int 0, .int 0, .int 0, .ref (xa 20), .ref (xa 21), .ref (xa 22), .ref (xa 23), .ref (xa 24), .ref (xa 25), .ref (xa 26)])), ((ma 1), .inl (cy 1, 4, .inl fw)), ((ma 2), .inl (cy 1, 4, .inl (fun _ => 0))), ((ma 3), .inl (cy 2, 240, .inr (.inl (fun _ => 0)))), ((ma 5), .inl (cy 0, 1600, .inl (fun _ => 0))), ((ma 16), .inl (cy 1, 5, .inl (fun _ => 0))), ((ma 19), .inl (cy 1, 45, .inl (fun _ => 0))), ((ma 21), .inl (cy 1, 150, .inl (fun _ => 0))), ((ma 22), .inl (cy 1, 5, .inl (fun _ => 0))), ((ma 23), .inl (cy 1, 120, .inl (fun _ => 0))), ((ma 24), .inl (cy 1, 30, .inl (fun _ => 0))), ((ma 25), .inl (cy 3, 15, .inl (fun _ => 0))), ((ma 26), .inl (cy 1, 5, .inl (fun _ => 0))), ((ma 27), .inl (cy 1, 30, .inl (fun _ => 0))), ((ma 28), .inl (cy 3, 3, .inl (fun _ => 0)))] := hD
  obtain ⟨r_5, rfl, hr_5⟩ := hv
  have er_5 := hr_5
  subst er_5
  refine W.eq (g2 := F0 m 1782 ls [.int (-2), .int (-2)]) rfl ?_
  refine lv_icmp_eq (tgt := 2286) hx hb dL_law_1782 (by decide) (fun _ => ?_) (fun c_6 => absurd (by decide) c_6)
  exact law_end C0 hL7 hA2 hbA hS (lv_sub hl [0, 1, 2, 3] rfl) (Nat.le_of_ble_eq_true rfl) (Nat.le_of_ble_eq_true rfl)
set_option maxHeartbeats 4000000 in
set_option maxRecDepth 100000 in
theorem lc_38 {p : Program} {e : Env} {s : State} {m : MethodId} {below : List Frame} {meth : Method} {c : Code} {l : Launch} {b L : Nat} {xs : Nat → Int32} {A : Nat → Prop} (D : va_G) (cy : Nat → ClassId) (xa ma : Nat → Nat) (fw : Nat → Int32) (hw : ∀ k : Nat, k < 4 → fw k = -1) (hL7 : L = 7) (C0 : lw_At p s m meth c b L xs) (hK : KK D cy s) (hA : ∀ q : Nat, s.heap.size ≤ q → A q) (hA2 : ∀ q : Nat, A q → s.heap.size ≤ q) (hbA : ¬ A b) {H : Heap} {locs : List Loc} (hP : va_P D vwCl [((xa 0), .inr (9, [.ref (xa 1), .ref (xa 2), .ref (xa 3), .ref (xa 4), .ref (xa 5), .ref (xa 6), .ref (xa 7), .ref (xa 8), .ref (xa 9), .int 0, .ref (xa 11), .null, .int 0, .int (-1)])), ((xa 1), .inl (cy 0, 1600, .inl (fun _ => 0))), ((xa 2), .inr (4, [.int 0, .int (-1), .ref (xa 30), .int 0, .int 0, .int 0, .int 0, .int 0, .ref (xa 31), .int 0, .int 0, .int 0])), ((xa 8), .inl (cy 4, 4, .inr (.inr (.inr (.inr (fun _ => none)))))), ((xa 9), .inl (cy 5, 3, .inr (.inr (.inr (.inr (fun _ => none)))))), ((xa 11), .inr (2, [.int 0, .int 0, .int 0, .int 0, .int 0, .int 0, .int 0, .int 0, .int 1, .int 10, .int 0, .int 0, .int 0, .int 0, .ref (xa 20), .ref (xa 21), .ref (xa 22), .ref (xa 23), .ref (xa 24), .ref (xa 25), .ref (xa 26)])), ((ma 0), .inr (10, [.int 0, .ref (ma 1), .ref (ma 2), .ref (ma 3), .ref (ma 4), .ref (ma 5), .int 0, .int 0, .int 0, .int 0, .int 0, .long 0, .int 0, .int 0, .int 0, .int (-1), .ref (ma 16), .ref (ma 17), .ref (ma 18), .ref (ma 19), .ref (ma 20), .ref (ma 21), .ref (ma 22), .ref (ma 23), .ref (ma 24), .ref (ma 25), .ref (ma 26), .ref (ma 27), .ref (ma 28), .ref (ma 29), .ref (ma 30), .ref (ma 31), .ref (ma 32), .ref (ma 33), .ref (ma 34), .ref (ma 35), .ref (ma 36), .ref (ma 37), .ref (ma 38), .ref (ma 39), .ref (ma 40), .ref (ma 41), .long 0])), ((ma 1), .inl (cy 1, 4, .inl fw)), ((ma 2), .inl (cy 1, 4, .inl (fun _ => 0))), ((ma 3), .inl (cy 2, 240, .inr (.inl (fun _ => 0)))), ((ma 5), .inl (cy 0, 1600, .inl (fun _ => 0))), ((ma 16), .inl (cy 1, 5, .inl (fun _ => 0))), ((ma 17), .inl (cy 1, 20, .inl (fun _ => 0))), ((ma 18), .inl (cy 1, 5, .inl (fun _ => 0))), ((ma 19), .inl (cy 1, 45, .inl (fun _ => 0))), ((ma 20), .inl (cy 1, 5, .inl (fun _ => 0))), ((ma 21), .inl (cy 1, 150, .inl (fun _ => 0))), ((ma 22), .inl (cy 1, 5, .inl (fun _ => 0))), ((ma 23), .inl (cy 1, 120, .inl (fun _ => 0))), ((ma 24), .inl (cy 1, 30, .inl (fun _ => 0))), ((ma 25), .inl (cy 3, 15, .inl (fun _ => 0))), ((ma 26), .inl (cy 1, 5, .inl (fun _ => 0))), ((ma 27), .inl (cy 1, 30, .inl (fun _ => 0))), ((ma 28), .inl (cy 3, 3, .inl (fun _ => 0)))] H) (hD : va_D A [((xa 0), .inr (9, [.ref (xa 1), .ref (xa 2), .ref (xa 3), .ref (xa 4), .ref (xa 5), .ref (xa 6), .ref (xa 7), .ref (xa 8), .ref (xa 9), .int 0, .ref (xa 11), .null, .int 0, .int (-1)])), ((xa 1), .inl (cy 0, 1600, .inl (fun _ => 0))), ((xa 2), .inr (4, [.int 0, .int (-1), .ref (xa 30), .int 0, .int 0, .int 0, .int 0, .int 0, .ref (xa 31), .int 0, .int 0, .int 0])), ((xa 8), .inl (cy 4, 4, .inr (.inr (.inr (.inr (fun _ => none)))))), ((xa 9), .inl (cy 5, 3, .inr (.inr (.inr (.inr (fun _ => none)))))), ((xa 11), .inr (2, [.int 0, .int 0, .int 0, .int 0, .int 0, .int 0, .int 0, .int 0, .int 1, .int 10, .int 0, .int 0, .int 0, .int 0, .ref (xa 20), .ref (xa 21), .ref (xa 22), .ref (xa 23), .ref (xa 24), .ref (xa 25), .ref (xa 26)])), ((ma 0), .inr (10, [.int 0, .ref (ma 1), .ref (ma 2), .ref (ma 3), .ref (ma 4), .ref (ma 5), .int 0, .int 0, .int 0, .int 0, .int 0, .long 0, .int 0, .int 0, .int 0, .int (-1), .ref (ma 16), .ref (ma 17), .ref (ma 18), .ref (ma 19), .ref (ma 20), .ref (ma 21), .ref (ma 22), .ref (ma 23), .ref (ma 24), .ref (ma 25), .ref (ma 26), .ref (ma 27), .ref (ma 28), .ref (ma 29), .ref (ma 30), .ref (ma 31), .ref (ma 32), .ref (ma 33), .ref (ma 34), .ref (ma 35), .ref (ma 36), .ref (ma 37), .ref (ma 38), .ref (ma 39), .ref (ma 40), .ref (ma 41), .long 0])), ((ma 1), .inl (cy 1, 4, .inl fw)), ((ma 2), .inl (cy 1, 4, .inl (fun _ => 0))), ((ma 3), .inl (cy 2, 240, .inr (.inl (fun _ => 0)))), ((ma 5), .inl (cy 0, 1600, .inl (fun _ => 0))), ((ma 16), .inl (cy 1, 5, .inl (fun _ => 0))), ((ma 17), .inl (cy 1, 20, .inl (fun _ => 0))), ((ma 18), .inl (cy 1, 5, .inl (fun _ => 0))), ((ma 19), .inl (cy 1, 45, .inl (fun _ => 0))), ((ma 20), .inl (cy 1, 5, .inl (fun _ => 0))), ((ma 21), .inl (cy 1, 150, .inl (fun _ => 0))), ((ma 22), .inl (cy 1, 5, .inl (fun _ => 0))), ((ma 23), .inl (cy 1, 120, .inl (fun _ => 0))), ((ma 24), .inl (cy 1, 30, .inl (fun _ => 0))), ((ma 25), .inl (cy 3, 15, .inl (fun _ => 0))), ((ma 26), .inl (cy 1, 5, .inl (fun _ => 0))), ((ma 27), .inl (cy 1, 30, .inl (fun _ => 0))), ((ma 28), .inl (cy 3, 3, .inl (fun _ => 0)))]) (hS : va_S A s.heap H locs) {ls : Array Slot} (hl : lv_has ls 4 [(3, .int 0), (2, .ref (ma 0)), (1, .ref (xa 0)), (0, .ref b)]) : W p l e room_1 s m #[Value.ref b] below meth c H locs 82 108979 (lw_Z below #[Value.ref b] s) (F0 m 1787 ls []) := by
  obtain ⟨hx, hb, hr, hml, hown, hts, hX, hbl, hlocks, hgv⟩ := id C0
  have hown : s.vm.findClass RL = some m.cls := hown
  have hb : c.code = cL_law := hb
  have hts : ∀ w ∈ GW, w.before #[Value.ref b] s = true := fun w h => hts w (gw_tbl w h)
  refine lv_aload_n hx hb dL_law_1787 rfl (lv_at hl 2 rfl) ?_
  refine lv_aload_n hx hb dL_law_1788 rfl (lv_at hl 3 rfl) ?_
  refine lv_iload_n hx hb dL_law_1789 rfl (lv_at hl 0 rfl) ?_
  refine lv_iconst (v := 1) hx hb dL_law_1790 (by decide) ?_
  refine lv_iadd hx hb dL_law_1791 ?_
  refine lv_topi (fun z_1 ez_1 => ?_)
  have ez_1 : z_1 = 1 := ez_1.trans (by decide)
  subst ez_1
  refine va_sld (i := 1) hx hb hX hbl hbA hS (by subst hL7; exact vp_in_iff.mpr (by decide)) dL_law_1792 ?_
  refine W.eq (g2 := F0 m 1793 ls [.int (xs 1), .ref (xa 0)]) rfl ?_
  refine pu_calli (runV (As := [.int (xs 1)]) (rest := []) ⟨hx, hb, hml, hown, hts⟩ (f_X9_told l D cy xa (xs 1) ) sV_L_177 hK (va_recv hK.1 hP (ci := 9) (q0 := 0) rfl rfl) (hP.sub (ws' := [((xa 0), .inr (9, [.ref (xa 1), .ref (xa 2), .ref (xa 3), .ref (xa 4), .ref (xa 5), .ref (xa 6), .ref (xa 7), .ref (xa 8), .ref (xa 9), .int 0, .ref (xa 11), .null, .int 0, .int (-1)])), ((xa 11), .inr (2, [.int 0, .int 0, .int 0, .int 0, .int 0, .int 0, .int 0, .int 0, .int 1, .int 10, .int 0, .int 0, .int 0, .int 0, .ref (xa 20), .ref (xa 21), .ref (xa 22), .ref (xa 23), .ref (xa 24), .ref (xa 25), .ref (xa 26)]))]) [0, 5] rfl) ⟨Nat.le_of_ble_eq_true rfl, Nat.le_of_ble_eq_true rfl⟩ rfl hl.1 rfl (Nat.le_of_ble_eq_true rfl) dL_law_1793 ⟨Nat.le_of_ble_eq_true rfl, Nat.le_of_ble_eq_true rfl⟩) (fun r_2 hr_2 => ?_)
  have er_2 := hr_2
  subst er_2
  refine W.eq (g2 := F0 m 1796 ls [.int (-2)]) rfl ?_
  refine lv_aload_n hx hb dL_law_1796 rfl (lv_at hl 1 rfl) ?_
  refine lv_aload_n hx hb dL_law_1797 rfl (lv_at hl 3 rfl) ?_
  refine lv_iload_n hx hb dL_law_1798 rfl (lv_at hl 0 rfl) ?_
  refine lv_iconst (v := 1) hx hb dL_law_1799 (by decide) ?_
  refine lv_iadd hx hb dL_law_1800 ?_
  refine lv_topi (fun z_3 ez_3 => ?_)
  have ez_3 : z_3 = 1 := ez_3.trans (by decide)
  subst ez_3
  refine va_sld (i := 1) hx hb hX hbl hbA hS (by subst hL7; exact vp_in_iff.mpr (by decide)) dL_law_1801 ?_
  refine W.eq (g2 := F0 m 1802 ls [.int (xs 1), .ref (ma 0), .int (-2)]) rfl ?_
  refine fw_call (wc := [((ma 0), .inr (10, [.int 0, .ref (ma 1), .ref (ma 2), .ref (ma 3), .ref (ma 4), .ref (ma 5), .int 0, .int 0, .int 0, .int 0, .int 0, .long 0, .int 0, .int 0, .int 0, .int (-1), .ref (ma 16), .ref (ma 17), .ref (ma 18), .ref (ma 19), .ref (ma 20), .ref (ma 21), .ref (ma 22), .ref (ma 23), .ref (ma 24), .ref (ma 25), .ref (ma 26), .ref (ma 27), .ref (ma 28), .ref (ma 29), .ref (ma 30), .ref (ma 31), .ref (ma 32), .ref (ma 33), .ref (ma 34), .ref (ma 35), .ref (ma 36), .ref (ma 37), .ref (ma 38), .ref (ma 39), .ref (ma 40), .ref (ma 41), .long 0])), ((ma 20), .inl (cy 1, 5, .inl (fun _ => 0))), ((ma 18), .inl (cy 1, 5, .inl (fun _ => 0))), ((ma 17), .inl (cy 1, 20, .inl (fun _ => 0)))]) (wr := [((xa 0), .inr (9, [.ref (xa 1), .ref (xa 2), .ref (xa 3), .ref (xa 4), .ref (xa 5), .ref (xa 6), .ref (xa 7), .ref (xa 8), .ref (xa 9), .int 0, .ref (xa 11), .null, .int 0, .int (-1)])), ((xa 1), .inl (cy 0, 1600, .inl (fun _ => 0))), ((xa 2), .inr (4, [.int 0, .int (-1), .ref (xa 30), .int 0, .int 0, .int 0, .int 0, .int 0, .ref (xa 31), .int 0, .int 0, .int 0])), ((xa 8), .inl (cy 4, 4, .inr (.inr (.inr (.inr (fun _ => none)))))), ((xa 9), .inl (cy 5, 3, .inr (.inr (.inr (.inr (fun _ => none)))))), ((xa 11), .inr (2, [.int 0, .int 0, .int 0, .int 0, .int 0, .int 0, .int 0, .int 0, .int 1, .int 10, .int 0, .int 0, .int 0, .int 0, .ref (xa 20), .ref (xa 21), .ref (xa 22), .ref (xa 23), .ref (xa 24), .ref (xa 25), .ref (xa 26)])), ((ma 1), .inl (cy 1, 4, .inl fw)), ((ma 2), .inl (cy 1, 4, .inl (fun _ => 0))), ((ma 3), .inl (cy 2, 240, .inr (.inl (fun _ => 0)))), ((ma 5), .inl (cy 0, 1600, .inl (fun _ => 0))), ((ma 16), .inl (cy 1, 5, .inl (fun _ => 0))), ((ma 19), .inl (cy 1, 45, .inl (fun _ => 0))), ((ma 21), .inl (cy 1, 150, .inl (fun _ => 0))), ((ma 22), .inl (cy 1, 5, .inl (fun _ => 0))), ((ma 23), .inl (cy 1, 120, .inl (fun _ => 0))), ((ma 24), .inl (cy 1, 30, .inl (fun _ => 0))), ((ma 25), .inl (cy 3, 15, .inl (fun _ => 0))), ((ma 26), .inl (cy 1, 5, .inl (fun _ => 0))), ((ma 27), .inl (cy 1, 30, .inl (fun _ => 0))), ((ma 28), .inl (cy 3, 3, .inl (fun _ => 0)))]) (runV (As := [.int (xs 1)]) (rest := [.int (-2)]) ⟨hx, hb, hml, hown, hts⟩ (g_X10_told l D cy ma (xs 1)  H.size) sV_L_180 hK (va_recv hK.1 hP (ci := 10) (q0 := 6) rfl rfl) (PW.of hP hD [6, 15, 13, 12] (by decide) rfl rfl) ⟨Nat.le_of_ble_eq_true rfl, Nat.le_of_ble_eq_true rfl⟩ rfl hl.1 rfl (Nat.le_of_ble_eq_true rfl) dL_law_1802 ⟨Nat.le_of_ble_eq_true rfl, Nat.le_of_ble_eq_true rfl⟩) hP hD hS hA [6, 15, 13, 12] [0, 1, 2, 3, 4, 5, 7, 8, 9, 10, 11, 14, 16, 17, 18, 19, 20, 21, 22, 23] rfl rfl (by decide) (by decide) (fun v u_4 H locs hv hP hD hS => ?_)
  have hP : va_P D vwCl [((xa 0), .inr (9, [.ref (xa 1), .ref (xa 2), .ref (xa 3), .ref (xa 4), .ref (xa 5), .ref (xa 6), .ref (xa 7), .ref (xa 8), .ref (xa 9), .int 0, .ref (xa 11), .null, .int 0, .int (-1)])), ((xa 1), .inl (cy 0, 1600, .inl (fun _ => 0))), ((xa 2), .inr (4, [.int 0, .int (-1), .ref (xa 30), .int 0, .int 0, .int 0, .int 0, .int 0, .ref (xa 31), .int 0, .int 0, .int 0])), ((xa 8), .inl (cy 4, 4, .inr (.inr (.inr (.inr (fun _ => none)))))), ((xa 9), .inl (cy 5, 3, .inr (.inr (.inr (.inr (fun _ => none)))))), ((xa 11), .inr (2, [.int 0, .int 0, .int 0, .int 0, .int 0, .int 0, .int 0, .int 0, .int 1, .int 10, .int 0, .int 0, .int 0, .int 0, .ref (xa 20), .ref (xa 21), .ref (xa 22), .ref (xa 23), .ref (xa 24), .ref (xa 25), .ref (xa 26)])), ((ma 1), .inl (cy 1, 4, .inl fw)), ((ma 2), .inl (cy 1, 4, .inl (fun _ => 0))), ((ma 3), .inl (cy 2, 240, .inr (.inl (fun _ => 0)))), ((ma 5), .inl (cy 0, 1600, .inl (fun _ => 0))), ((ma 16), .inl (cy 1, 5, .inl (fun _ => 0))), ((ma 19), .inl (cy 1, 45, .inl (fun _ => 0))), ((ma 21), .inl (cy 1, 150, .inl (fun _ => 0))), ((ma 22), .inl (cy 1, 5, .inl (fun _ => 0))), ((ma 23), .inl (cy 1, 120, .inl (fun _ => 0))), ((ma 24), .inl (cy 1, 30, .inl (fun _ => 0))), ((ma 25), .inl (cy 3, 15, .inl (fun _ => 0))), ((ma 26), .inl (cy 1, 5, .inl (fun _ => 0))), ((ma 27), .inl (cy 1, 30, .inl (fun _ => 0))), ((ma 28), .inl (cy 3, 3, .inl (fun _ => 0)))] H := hP
  have hD : va_D A [((xa 0), .inr (9, [.ref (xa 1), .ref (xa 2), .ref (xa 3), .ref (xa 4), .ref (xa 5), .ref (xa 6), .ref (xa 7), .ref (xa 8), .ref (xa 9), .int 0, .ref (xa 11), .null, .int 0, .int (-1)])), ((xa 1), .inl (cy 0, 1600, .inl (fun _ => 0))), ((xa 2), .inr (4, [.int 0, .int (-1), .ref (xa 30), .int 0, .int 0, .int 0, .int 0, .int 0, .ref (xa 31), .int 0, .int 0, .int 0])), ((xa 8), .inl (cy 4, 4, .inr (.inr (.inr (.inr (fun _ => none)))))), ((xa 9), .inl (cy 5, 3, .inr (.inr (.inr (.inr (fun _ => none)))))), ((xa 11), .inr (2, [.int 0, .int 0, .int 0, .int 0, .int 0, .int 0, .int 0, .int 0, .int 1, .int 10, .int 0, .int 0, .int 0, .int 0, .ref (xa 20), .ref (xa 21), .ref (xa 22), .ref (xa 23), .ref (xa 24), .ref (xa 25), .ref (xa 26)])), ((ma 1), .inl (cy 1, 4, .inl fw)), ((ma 2), .inl (cy 1, 4, .inl (fun _ => 0))), ((ma 3), .inl (cy 2, 240, .inr (.inl (fun _ => 0)))), ((ma 5), .inl (cy 0, 1600, .inl (fun _ => 0))), ((ma 16), .inl (cy 1, 5, .inl (fun _ => 0))), ((ma 19), .inl (cy 1, 45, .inl (fun _ => 0))), ((ma 21), .inl (cy 1, 150, .inl (fun _ => 0))), ((ma 22), .inl (cy 1, 5, .inl (fun _ => 0))), ((ma 23), .inl (cy 1, 120, .inl (fun _ => 0))), ((ma 24), .inl (cy 1, 30, .inl (fun _ => 0))), ((ma 25), .inl (cy 3, 15, .inl (fun _ => 0))), ((ma 26), .inl (cy 1, 5, .inl (fun _ => 0))), ((ma 27), .inl (cy 1, 30, .inl (fun _ => 0))), ((ma 28), .inl (cy 3, 3, .inl (fun _ => 0)))] := hD
  obtain ⟨r_5, rfl, hr_5⟩ := hv
  have er_5 := hr_5
  subst er_5
  refine W.eq (g2 := F0 m 1805 ls [.int (-2), .int (-2)]) rfl ?_
  refine lv_icmp_eq (tgt := 2286) hx hb dL_law_1805 (by decide) (fun _ => ?_) (fun c_6 => absurd (by decide) c_6)
  exact law_end C0 hL7 hA2 hbA hS (lv_sub hl [0, 1, 2, 3] rfl) (Nat.le_of_ble_eq_true rfl) (Nat.le_of_ble_eq_true rfl)
set_option maxHeartbeats 4000000 in
set_option maxRecDepth 100000 in
theorem lc_39 {p : Program} {e : Env} {s : State} {m : MethodId} {below : List Frame} {meth : Method} {c : Code} {l : Launch} {b L : Nat} {xs : Nat → Int32} {A : Nat → Prop} (D : va_G) (cy : Nat → ClassId) (xa ma : Nat → Nat) (fw : Nat → Int32) (hw : ∀ k : Nat, k < 4 → fw k = -1) (hL7 : L = 7) (C0 : lw_At p s m meth c b L xs) (hK : KK D cy s) (hA : ∀ q : Nat, s.heap.size ≤ q → A q) (hA2 : ∀ q : Nat, A q → s.heap.size ≤ q) (hbA : ¬ A b) {H : Heap} {locs : List Loc} (hP : va_P D vwCl [((xa 0), .inr (9, [.ref (xa 1), .ref (xa 2), .ref (xa 3), .ref (xa 4), .ref (xa 5), .ref (xa 6), .ref (xa 7), .ref (xa 8), .ref (xa 9), .int 0, .ref (xa 11), .null, .int 0, .int (-1)])), ((xa 1), .inl (cy 0, 1600, .inl (fun _ => 0))), ((xa 2), .inr (4, [.int 0, .int (-1), .ref (xa 30), .int 0, .int 0, .int 0, .int 0, .int 0, .ref (xa 31), .int 0, .int 0, .int 0])), ((xa 8), .inl (cy 4, 4, .inr (.inr (.inr (.inr (fun _ => none)))))), ((xa 9), .inl (cy 5, 3, .inr (.inr (.inr (.inr (fun _ => none)))))), ((xa 11), .inr (2, [.int 0, .int 0, .int 0, .int 0, .int 0, .int 0, .int 0, .int 0, .int 1, .int 10, .int 0, .int 0, .int 0, .int 0, .ref (xa 20), .ref (xa 21), .ref (xa 22), .ref (xa 23), .ref (xa 24), .ref (xa 25), .ref (xa 26)])), ((ma 0), .inr (10, [.int 0, .ref (ma 1), .ref (ma 2), .ref (ma 3), .ref (ma 4), .ref (ma 5), .int 0, .int 0, .int 0, .int 0, .int 0, .long 0, .int 0, .int 0, .int 0, .int (-1), .ref (ma 16), .ref (ma 17), .ref (ma 18), .ref (ma 19), .ref (ma 20), .ref (ma 21), .ref (ma 22), .ref (ma 23), .ref (ma 24), .ref (ma 25), .ref (ma 26), .ref (ma 27), .ref (ma 28), .ref (ma 29), .ref (ma 30), .ref (ma 31), .ref (ma 32), .ref (ma 33), .ref (ma 34), .ref (ma 35), .ref (ma 36), .ref (ma 37), .ref (ma 38), .ref (ma 39), .ref (ma 40), .ref (ma 41), .long 0])), ((ma 1), .inl (cy 1, 4, .inl fw)), ((ma 2), .inl (cy 1, 4, .inl (fun _ => 0))), ((ma 3), .inl (cy 2, 240, .inr (.inl (fun _ => 0)))), ((ma 5), .inl (cy 0, 1600, .inl (fun _ => 0))), ((ma 16), .inl (cy 1, 5, .inl (fun _ => 0))), ((ma 17), .inl (cy 1, 20, .inl (fun _ => 0))), ((ma 18), .inl (cy 1, 5, .inl (fun _ => 0))), ((ma 19), .inl (cy 1, 45, .inl (fun _ => 0))), ((ma 20), .inl (cy 1, 5, .inl (fun _ => 0))), ((ma 21), .inl (cy 1, 150, .inl (fun _ => 0))), ((ma 22), .inl (cy 1, 5, .inl (fun _ => 0))), ((ma 23), .inl (cy 1, 120, .inl (fun _ => 0))), ((ma 24), .inl (cy 1, 30, .inl (fun _ => 0))), ((ma 25), .inl (cy 3, 15, .inl (fun _ => 0))), ((ma 26), .inl (cy 1, 5, .inl (fun _ => 0))), ((ma 27), .inl (cy 1, 30, .inl (fun _ => 0))), ((ma 28), .inl (cy 3, 3, .inl (fun _ => 0)))] H) (hD : va_D A [((xa 0), .inr (9, [.ref (xa 1), .ref (xa 2), .ref (xa 3), .ref (xa 4), .ref (xa 5), .ref (xa 6), .ref (xa 7), .ref (xa 8), .ref (xa 9), .int 0, .ref (xa 11), .null, .int 0, .int (-1)])), ((xa 1), .inl (cy 0, 1600, .inl (fun _ => 0))), ((xa 2), .inr (4, [.int 0, .int (-1), .ref (xa 30), .int 0, .int 0, .int 0, .int 0, .int 0, .ref (xa 31), .int 0, .int 0, .int 0])), ((xa 8), .inl (cy 4, 4, .inr (.inr (.inr (.inr (fun _ => none)))))), ((xa 9), .inl (cy 5, 3, .inr (.inr (.inr (.inr (fun _ => none)))))), ((xa 11), .inr (2, [.int 0, .int 0, .int 0, .int 0, .int 0, .int 0, .int 0, .int 0, .int 1, .int 10, .int 0, .int 0, .int 0, .int 0, .ref (xa 20), .ref (xa 21), .ref (xa 22), .ref (xa 23), .ref (xa 24), .ref (xa 25), .ref (xa 26)])), ((ma 0), .inr (10, [.int 0, .ref (ma 1), .ref (ma 2), .ref (ma 3), .ref (ma 4), .ref (ma 5), .int 0, .int 0, .int 0, .int 0, .int 0, .long 0, .int 0, .int 0, .int 0, .int (-1), .ref (ma 16), .ref (ma 17), .ref (ma 18), .ref (ma 19), .ref (ma 20), .ref (ma 21), .ref (ma 22), .ref (ma 23), .ref (ma 24), .ref (ma 25), .ref (ma 26), .ref (ma 27), .ref (ma 28), .ref (ma 29), .ref (ma 30), .ref (ma 31), .ref (ma 32), .ref (ma 33), .ref (ma 34), .ref (ma 35), .ref (ma 36), .ref (ma 37), .ref (ma 38), .ref (ma 39), .ref (ma 40), .ref (ma 41), .long 0])), ((ma 1), .inl (cy 1, 4, .inl fw)), ((ma 2), .inl (cy 1, 4, .inl (fun _ => 0))), ((ma 3), .inl (cy 2, 240, .inr (.inl (fun _ => 0)))), ((ma 5), .inl (cy 0, 1600, .inl (fun _ => 0))), ((ma 16), .inl (cy 1, 5, .inl (fun _ => 0))), ((ma 17), .inl (cy 1, 20, .inl (fun _ => 0))), ((ma 18), .inl (cy 1, 5, .inl (fun _ => 0))), ((ma 19), .inl (cy 1, 45, .inl (fun _ => 0))), ((ma 20), .inl (cy 1, 5, .inl (fun _ => 0))), ((ma 21), .inl (cy 1, 150, .inl (fun _ => 0))), ((ma 22), .inl (cy 1, 5, .inl (fun _ => 0))), ((ma 23), .inl (cy 1, 120, .inl (fun _ => 0))), ((ma 24), .inl (cy 1, 30, .inl (fun _ => 0))), ((ma 25), .inl (cy 3, 15, .inl (fun _ => 0))), ((ma 26), .inl (cy 1, 5, .inl (fun _ => 0))), ((ma 27), .inl (cy 1, 30, .inl (fun _ => 0))), ((ma 28), .inl (cy 3, 3, .inl (fun _ => 0)))]) (hS : va_S A s.heap H locs) {ls : Array Slot} (hl : lv_has ls 4 [(3, .int 0), (2, .ref (ma 0)), (1, .ref (xa 0)), (0, .ref b)]) : W p l e room_1 s m #[Value.ref b] below meth c H locs 82 108979 (lw_Z below #[Value.ref b] s) (F0 m 1810 ls []) := by
  obtain ⟨hx, hb, hr, hml, hown, hts, hX, hbl, hlocks, hgv⟩ := id C0
  have hown : s.vm.findClass RL = some m.cls := hown
  have hb : c.code = cL_law := hb
  have hts : ∀ w ∈ GW, w.before #[Value.ref b] s = true := fun w h => hts w (gw_tbl w h)
  refine lv_aload_n hx hb dL_law_1810 rfl (lv_at hl 2 rfl) ?_
  refine lv_aload_n hx hb dL_law_1811 rfl (lv_at hl 3 rfl) ?_
  refine lv_iload_n hx hb dL_law_1812 rfl (lv_at hl 0 rfl) ?_
  refine lv_iconst (v := 1) hx hb dL_law_1813 (by decide) ?_
  refine lv_iadd hx hb dL_law_1814 ?_
  refine lv_topi (fun z_1 ez_1 => ?_)
  have ez_1 : z_1 = 1 := ez_1.trans (by decide)
  subst ez_1
  refine va_sld (i := 1) hx hb hX hbl hbA hS (by subst hL7; exact vp_in_iff.mpr (by decide)) dL_law_1815 ?_
  refine W.eq (g2 := F0 m 1816 ls [.int (xs 1), .ref (xa 0)]) rfl ?_
  refine pu_calli (runV (As := [.int (xs 1)]) (rest := []) ⟨hx, hb, hml, hown, hts⟩ (f_X9_shut l D cy xa (xs 1) ) sV_L_181 hK (va_recv hK.1 hP (ci := 9) (q0 := 0) rfl rfl) (hP.sub (ws' := [((xa 0), .inr (9, [.ref (xa 1), .ref (xa 2), .ref (xa 3), .ref (xa 4), .ref (xa 5), .ref (xa 6), .ref (xa 7), .ref (xa 8), .ref (xa 9), .int 0, .ref (xa 11), .null, .int 0, .int (-1)])), ((xa 11), .inr (2, [.int 0, .int 0, .int 0, .int 0, .int 0, .int 0, .int 0, .int 0, .int 1, .int 10, .int 0, .int 0, .int 0, .int 0, .ref (xa 20), .ref (xa 21), .ref (xa 22), .ref (xa 23), .ref (xa 24), .ref (xa 25), .ref (xa 26)]))]) [0, 5] rfl) ⟨Nat.le_of_ble_eq_true rfl, Nat.le_of_ble_eq_true rfl⟩ rfl hl.1 rfl (Nat.le_of_ble_eq_true rfl) dL_law_1816 ⟨Nat.le_of_ble_eq_true rfl, Nat.le_of_ble_eq_true rfl⟩) (fun r_2 hr_2 => ?_)
  have er_2 := hr_2
  subst er_2
  refine W.eq (g2 := F0 m 1819 ls [.int (-2)]) rfl ?_
  refine lv_aload_n hx hb dL_law_1819 rfl (lv_at hl 1 rfl) ?_
  refine lv_aload_n hx hb dL_law_1820 rfl (lv_at hl 3 rfl) ?_
  refine lv_iload_n hx hb dL_law_1821 rfl (lv_at hl 0 rfl) ?_
  refine lv_iconst (v := 1) hx hb dL_law_1822 (by decide) ?_
  refine lv_iadd hx hb dL_law_1823 ?_
  refine lv_topi (fun z_3 ez_3 => ?_)
  have ez_3 : z_3 = 1 := ez_3.trans (by decide)
  subst ez_3
  refine va_sld (i := 1) hx hb hX hbl hbA hS (by subst hL7; exact vp_in_iff.mpr (by decide)) dL_law_1824 ?_
  refine W.eq (g2 := F0 m 1825 ls [.int (xs 1), .ref (ma 0), .int (-2)]) rfl ?_
  refine fw_call (wc := [((ma 0), .inr (10, [.int 0, .ref (ma 1), .ref (ma 2), .ref (ma 3), .ref (ma 4), .ref (ma 5), .int 0, .int 0, .int 0, .int 0, .int 0, .long 0, .int 0, .int 0, .int 0, .int (-1), .ref (ma 16), .ref (ma 17), .ref (ma 18), .ref (ma 19), .ref (ma 20), .ref (ma 21), .ref (ma 22), .ref (ma 23), .ref (ma 24), .ref (ma 25), .ref (ma 26), .ref (ma 27), .ref (ma 28), .ref (ma 29), .ref (ma 30), .ref (ma 31), .ref (ma 32), .ref (ma 33), .ref (ma 34), .ref (ma 35), .ref (ma 36), .ref (ma 37), .ref (ma 38), .ref (ma 39), .ref (ma 40), .ref (ma 41), .long 0])), ((ma 20), .inl (cy 1, 5, .inl (fun _ => 0))), ((ma 18), .inl (cy 1, 5, .inl (fun _ => 0))), ((ma 17), .inl (cy 1, 20, .inl (fun _ => 0)))]) (wr := [((xa 0), .inr (9, [.ref (xa 1), .ref (xa 2), .ref (xa 3), .ref (xa 4), .ref (xa 5), .ref (xa 6), .ref (xa 7), .ref (xa 8), .ref (xa 9), .int 0, .ref (xa 11), .null, .int 0, .int (-1)])), ((xa 1), .inl (cy 0, 1600, .inl (fun _ => 0))), ((xa 2), .inr (4, [.int 0, .int (-1), .ref (xa 30), .int 0, .int 0, .int 0, .int 0, .int 0, .ref (xa 31), .int 0, .int 0, .int 0])), ((xa 8), .inl (cy 4, 4, .inr (.inr (.inr (.inr (fun _ => none)))))), ((xa 9), .inl (cy 5, 3, .inr (.inr (.inr (.inr (fun _ => none)))))), ((xa 11), .inr (2, [.int 0, .int 0, .int 0, .int 0, .int 0, .int 0, .int 0, .int 0, .int 1, .int 10, .int 0, .int 0, .int 0, .int 0, .ref (xa 20), .ref (xa 21), .ref (xa 22), .ref (xa 23), .ref (xa 24), .ref (xa 25), .ref (xa 26)])), ((ma 1), .inl (cy 1, 4, .inl fw)), ((ma 2), .inl (cy 1, 4, .inl (fun _ => 0))), ((ma 3), .inl (cy 2, 240, .inr (.inl (fun _ => 0)))), ((ma 5), .inl (cy 0, 1600, .inl (fun _ => 0))), ((ma 16), .inl (cy 1, 5, .inl (fun _ => 0))), ((ma 19), .inl (cy 1, 45, .inl (fun _ => 0))), ((ma 21), .inl (cy 1, 150, .inl (fun _ => 0))), ((ma 22), .inl (cy 1, 5, .inl (fun _ => 0))), ((ma 23), .inl (cy 1, 120, .inl (fun _ => 0))), ((ma 24), .inl (cy 1, 30, .inl (fun _ => 0))), ((ma 25), .inl (cy 3, 15, .inl (fun _ => 0))), ((ma 26), .inl (cy 1, 5, .inl (fun _ => 0))), ((ma 27), .inl (cy 1, 30, .inl (fun _ => 0))), ((ma 28), .inl (cy 3, 3, .inl (fun _ => 0)))]) (runV (As := [.int (xs 1)]) (rest := [.int (-2)]) ⟨hx, hb, hml, hown, hts⟩ (g_X10_shut l D cy ma (xs 1)  H.size) sV_L_184 hK (va_recv hK.1 hP (ci := 10) (q0 := 6) rfl rfl) (PW.of hP hD [6, 15, 13, 12] (by decide) rfl rfl) ⟨Nat.le_of_ble_eq_true rfl, Nat.le_of_ble_eq_true rfl⟩ rfl hl.1 rfl (Nat.le_of_ble_eq_true rfl) dL_law_1825 ⟨Nat.le_of_ble_eq_true rfl, Nat.le_of_ble_eq_true rfl⟩) hP hD hS hA [6, 15, 13, 12] [0, 1, 2, 3, 4, 5, 7, 8, 9, 10, 11, 14, 16, 17, 18, 19, 20, 21, 22, 23] rfl rfl (by decide) (by decide) (fun v u_4 H locs hv hP hD hS => ?_)
  have hP : va_P D vwCl [((xa 0), .inr (9, [.ref (xa 1), .ref (xa 2), .ref (xa 3), .ref (xa 4), .ref (xa 5), .ref (xa 6), .ref (xa 7), .ref (xa 8), .ref (xa 9), .int 0, .ref (xa 11), .null, .int 0, .int (-1)])), ((xa 1), .inl (cy 0, 1600, .inl (fun _ => 0))), ((xa 2), .inr (4, [.int 0, .int (-1), .ref (xa 30), .int 0, .int 0, .int 0, .int 0, .int 0, .ref (xa 31), .int 0, .int 0, .int 0])), ((xa 8), .inl (cy 4, 4, .inr (.inr (.inr (.inr (fun _ => none)))))), ((xa 9), .inl (cy 5, 3, .inr (.inr (.inr (.inr (fun _ => none)))))), ((xa 11), .inr (2, [.int 0, .int 0, .int 0, .int 0, .int 0, .int 0, .int 0, .int 0, .int 1, .int 10, .int 0, .int 0, .int 0, .int 0, .ref (xa 20), .ref (xa 21), .ref (xa 22), .ref (xa 23), .ref (xa 24), .ref (xa 25), .ref (xa 26)])), ((ma 1), .inl (cy 1, 4, .inl fw)), ((ma 2), .inl (cy 1, 4, .inl (fun _ => 0))), ((ma 3), .inl (cy 2, 240, .inr (.inl (fun _ => 0)))), ((ma 5), .inl (cy 0, 1600, .inl (fun _ => 0))), ((ma 16), .inl (cy 1, 5, .inl (fun _ => 0))), ((ma 19), .inl (cy 1, 45, .inl (fun _ => 0))), ((ma 21), .inl (cy 1, 150, .inl (fun _ => 0))), ((ma 22), .inl (cy 1, 5, .inl (fun _ => 0))), ((ma 23), .inl (cy 1, 120, .inl (fun _ => 0))), ((ma 24), .inl (cy 1, 30, .inl (fun _ => 0))), ((ma 25), .inl (cy 3, 15, .inl (fun _ => 0))), ((ma 26), .inl (cy 1, 5, .inl (fun _ => 0))), ((ma 27), .inl (cy 1, 30, .inl (fun _ => 0))), ((ma 28), .inl (cy 3, 3, .inl (fun _ => 0)))] H := hP
  have hD : va_D A [((xa 0), .inr (9, [.ref (xa 1), .ref (xa 2), .ref (xa 3), .ref (xa 4), .ref (xa 5), .ref (xa 6), .ref (xa 7), .ref (xa 8), .ref (xa 9), .int 0, .ref (xa 11), .null, .int 0, .int (-1)])), ((xa 1), .inl (cy 0, 1600, .inl (fun _ => 0))), ((xa 2), .inr (4, [.int 0, .int (-1), .ref (xa 30), .int 0, .int 0, .int 0, .int 0, .int 0, .ref (xa 31), .int 0, .int 0, .int 0])), ((xa 8), .inl (cy 4, 4, .inr (.inr (.inr (.inr (fun _ => none)))))), ((xa 9), .inl (cy 5, 3, .inr (.inr (.inr (.inr (fun _ => none)))))), ((xa 11), .inr (2, [.int 0, .int 0, .int 0, .int 0, .int 0, .int 0, .int 0, .int 0, .int 1, .int 10, .int 0, .int 0, .int 0, .int 0, .ref (xa 20), .ref (xa 21), .ref (xa 22), .ref (xa 23), .ref (xa 24), .ref (xa 25), .ref (xa 26)])), ((ma 1), .inl (cy 1, 4, .inl fw)), ((ma 2), .inl (cy 1, 4, .inl (fun _ => 0))), ((ma 3), .inl (cy 2, 240, .inr (.inl (fun _ => 0)))), ((ma 5), .inl (cy 0, 1600, .inl (fun _ => 0))), ((ma 16), .inl (cy 1, 5, .inl (fun _ => 0))), ((ma 19), .inl (cy 1, 45, .inl (fun _ => 0))), ((ma 21), .inl (cy 1, 150, .inl (fun _ => 0))), ((ma 22), .inl (cy 1, 5, .inl (fun _ => 0))), ((ma 23), .inl (cy 1, 120, .inl (fun _ => 0))), ((ma 24), .inl (cy 1, 30, .inl (fun _ => 0))), ((ma 25), .inl (cy 3, 15, .inl (fun _ => 0))), ((ma 26), .inl (cy 1, 5, .inl (fun _ => 0))), ((ma 27), .inl (cy 1, 30, .inl (fun _ => 0))), ((ma 28), .inl (cy 3, 3, .inl (fun _ => 0)))] := hD
  obtain ⟨r_5, rfl, hr_5⟩ := hv
  have er_5 := hr_5
  subst er_5
  refine W.eq (g2 := F0 m 1828 ls [.int (-2), .int (-2)]) rfl ?_
  refine lv_icmp_eq (tgt := 2286) hx hb dL_law_1828 (by decide) (fun _ => ?_) (fun c_6 => absurd (by decide) c_6)
  exact law_end C0 hL7 hA2 hbA hS (lv_sub hl [0, 1, 2, 3] rfl) (Nat.le_of_ble_eq_true rfl) (Nat.le_of_ble_eq_true rfl)
