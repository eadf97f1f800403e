theorem dL_law_1588 : decode cL_law 1588 = .ok (.aload_n 1, 1) := by decide +kernel
theorem dL_law_1589 : decode cL_law 1589 = .ok (.aload_n 0, 1) := by decide +kernel
theorem dL_law_1590 : decode cL_law 1590 = .ok (.iload 4, 2) := by decide +kernel
theorem dL_law_1592 : decode cL_law 1592 = .ok (.iconst 1, 1) := by decide +kernel
theorem dL_law_1593 : decode cL_law 1593 = .ok (.iadd, 1) := by decide +kernel
theorem dL_law_1594 : decode cL_law 1594 = .ok (.iaload, 1) := by decide +kernel
theorem dL_law_1595 : decode cL_law 1595 = .ok (.aload_n 0, 1) := by decide +kernel
theorem dL_law_1596 : decode cL_law 1596 = .ok (.iload 4, 2) := by decide +kernel
theorem dL_law_1598 : decode cL_law 1598 = .ok (.iconst 2, 1) := by decide +kernel
theorem dL_law_1599 : decode cL_law 1599 = .ok (.iadd, 1) := by decide +kernel
theorem dL_law_1600 : decode cL_law 1600 = .ok (.iaload, 1) := by decide +kernel
theorem dL_law_1601 : decode cL_law 1601 = .ok (.aload_n 3, 1) := by decide +kernel
theorem dL_law_1602 : decode cL_law 1602 = .ok (.invokestatic 221, 3) := by decide +kernel
theorem dL_law_1605 : decode cL_law 1605 = .ok (.istore 5, 2) := by decide +kernel
theorem dL_law_1607 : decode cL_law 1607 = .ok (.aload_n 2, 1) := by decide +kernel
theorem dL_law_1608 : decode cL_law 1608 = .ok (.aload_n 0, 1) := by decide +kernel
theorem dL_law_1609 : decode cL_law 1609 = .ok (.iload 4, 2) := by decide +kernel
theorem dL_law_1611 : decode cL_law 1611 = .ok (.iconst 1, 1) := by decide +kernel
theorem dL_law_1612 : decode cL_law 1612 = .ok (.iadd, 1) := by decide +kernel
theorem dL_law_1613 : decode cL_law 1613 = .ok (.iaload, 1) := by decide +kernel
theorem dL_law_1614 : decode cL_law 1614 = .ok (.aload_n 0, 1) := by decide +kernel
theorem dL_law_1615 : decode cL_law 1615 = .ok (.iload 4, 2) := by decide +kernel
theorem dL_law_1617 : decode cL_law 1617 = .ok (.iconst 2, 1) := by decide +kernel
theorem dL_law_1618 : decode cL_law 1618 = .ok (.iadd, 1) := by decide +kernel
theorem dL_law_1619 : decode cL_law 1619 = .ok (.iaload, 1) := by decide +kernel
theorem dL_law_1620 : decode cL_law 1620 = .ok (.invokevirtual 223, 3) := by decide +kernel
theorem dL_law_1623 : decode cL_law 1623 = .ok (.istore 6, 2) := by decide +kernel
theorem dL_law_1625 : decode cL_law 1625 = .ok (.aload_n 2, 1) := by decide +kernel
theorem dL_law_1626 : decode cL_law 1626 = .ok (.invokevirtual 132, 3) := by decide +kernel
theorem dL_law_1629 : decode cL_law 1629 = .ok (.iload 5, 2) := by decide +kernel
theorem dL_law_1631 : decode cL_law 1631 = .ok (.if_icmp .eq 5, 3) := by decide +kernel
theorem dL_law_1636 : decode cL_law 1636 = .ok (.iload 5, 2) := by decide +kernel
theorem dL_law_1638 : decode cL_law 1638 = .ok (.ifCond .ne 15, 3) := by decide +kernel
theorem dL_law_1653 : decode cL_law 1653 = .ok (.goto 805, 3) := by decide +kernel
theorem dL_law_1656 : decode cL_law 1656 = .ok (.aload_n 1, 1) := by decide +kernel
theorem dL_law_1657 : decode cL_law 1657 = .ok (.aload_n 0, 1) := by decide +kernel
theorem dL_law_1658 : decode cL_law 1658 = .ok (.iload 4, 2) := by decide +kernel
theorem dL_law_1660 : decode cL_law 1660 = .ok (.iconst 1, 1) := by decide +kernel
theorem dL_law_1661 : decode cL_law 1661 = .ok (.iadd, 1) := by decide +kernel
theorem dL_law_1662 : decode cL_law 1662 = .ok (.iaload, 1) := by decide +kernel
theorem dL_law_1663 : decode cL_law 1663 = .ok (.aload_n 0, 1) := by decide +kernel
theorem dL_law_1664 : decode cL_law 1664 = .ok (.iload 4, 2) := by decide +kernel
theorem dL_law_1666 : decode cL_law 1666 = .ok (.iconst 2, 1) := by decide +kernel
theorem dL_law_1667 : decode cL_law 1667 = .ok (.iadd, 1) := by decide +kernel
theorem dL_law_1668 : decode cL_law 1668 = .ok (.iaload, 1) := by decide +kernel
theorem dL_law_1669 : decode cL_law 1669 = .ok (.ifCond .eq 7, 3) := by decide +kernel
theorem dL_law_1672 : decode cL_law 1672 = .ok (.iconst 1, 1) := by decide +kernel
theorem dL_law_1673 : decode cL_law 1673 = .ok (.goto 4, 3) := by decide +kernel
theorem dL_law_1676 : decode cL_law 1676 = .ok (.iconst 0, 1) := by decide +kernel
theorem dL_law_1677 : decode cL_law 1677 = .ok (.aload_n 3, 1) := by decide +kernel
theorem dL_law_1678 : decode cL_law 1678 = .ok (.invokestatic 224, 3) := by decide +kernel
theorem dL_law_1681 : decode cL_law 1681 = .ok (.istore 5, 2) := by decide +kernel
theorem dL_law_1683 : decode cL_law 1683 = .ok (.aload_n 2, 1) := by decide +kernel
theorem dL_law_1684 : decode cL_law 1684 = .ok (.aload_n 0, 1) := by decide +kernel
theorem dL_law_1685 : decode cL_law 1685 = .ok (.iload 4, 2) := by decide +kernel
theorem dL_law_1687 : decode cL_law 1687 = .ok (.iconst 1, 1) := by decide +kernel
theorem dL_law_1688 : decode cL_law 1688 = .ok (.iadd, 1) := by decide +kernel
theorem dL_law_1689 : decode cL_law 1689 = .ok (.iaload, 1) := by decide +kernel
theorem dL_law_1690 : decode cL_law 1690 = .ok (.aload_n 0, 1) := by decide +kernel
theorem dL_law_1691 : decode cL_law 1691 = .ok (.iload 4, 2) := by decide +kernel
theorem dL_law_1693 : decode cL_law 1693 = .ok (.iconst 2, 1) := by decide +kernel
theorem dL_law_1694 : decode cL_law 1694 = .ok (.iadd, 1) := by decide +kernel
theorem dL_law_1695 : decode cL_law 1695 = .ok (.iaload, 1) := by decide +kernel
theorem dL_law_1696 : decode cL_law 1696 = .ok (.ifCond .eq 7, 3) := by decide +kernel
theorem dL_law_1699 : decode cL_law 1699 = .ok (.iconst 1, 1) := by decide +kernel
theorem dL_law_1700 : decode cL_law 1700 = .ok (.goto 4, 3) := by decide +kernel
theorem dL_law_1703 : decode cL_law 1703 = .ok (.iconst 0, 1) := by decide +kernel
theorem dL_law_1704 : decode cL_law 1704 = .ok (.invokevirtual 227, 3) := by decide +kernel
theorem dL_law_1707 : decode cL_law 1707 = .ok (.istore 6, 2) := by decide +kernel
theorem dL_law_1709 : decode cL_law 1709 = .ok (.aload_n 2, 1) := by decide +kernel
theorem dL_law_1710 : decode cL_law 1710 = .ok (.invokevirtual 132, 3) := by decide +kernel
theorem dL_law_1713 : decode cL_law 1713 = .ok (.iload 5, 2) := by decide +kernel
theorem dL_law_1715 : decode cL_law 1715 = .ok (.if_icmp .eq 5, 3) := by decide +kernel
theorem dL_law_1720 : decode cL_law 1720 = .ok (.iload 5, 2) := by decide +kernel
theorem dL_law_1722 : decode cL_law 1722 = .ok (.ifCond .ne 15, 3) := by decide +kernel
theorem dL_law_1737 : decode cL_law 1737 = .ok (.goto 721, 3) := by decide +kernel
theorem dL_law_1740 : decode cL_law 1740 = .ok (.aload_n 1, 1) := by decide +kernel
theorem dL_law_1741 : decode cL_law 1741 = .ok (.aload_n 0, 1) := by decide +kernel
theorem dL_law_1742 : decode cL_law 1742 = .ok (.iload 4, 2) := by decide +kernel
theorem dL_law_1744 : decode cL_law 1744 = .ok (.iconst 1, 1) := by decide +kernel
theorem dL_law_1745 : decode cL_law 1745 = .ok (.iadd, 1) := by decide +kernel
theorem dL_law_1746 : decode cL_law 1746 = .ok (.iaload, 1) := by decide +kernel
theorem dL_law_1747 : decode cL_law 1747 = .ok (.aload_n 0, 1) := by decide +kernel
theorem dL_law_1748 : decode cL_law 1748 = .ok (.iload 4, 2) := by decide +kernel
theorem dL_law_1750 : decode cL_law 1750 = .ok (.iconst 2, 1) := by decide +kernel
theorem dL_law_1751 : decode cL_law 1751 = .ok (.iadd, 1) := by decide +kernel
theorem dL_law_1752 : decode cL_law 1752 = .ok (.iaload, 1) := by decide +kernel
theorem dL_law_1753 : decode cL_law 1753 = .ok (.ifCond .eq 7, 3) := by decide +kernel
theorem dL_law_1756 : decode cL_law 1756 = .ok (.iconst 1, 1) := by decide +kernel
theorem dL_law_1757 : decode cL_law 1757 = .ok (.goto 4, 3) := by decide +kernel
theorem dL_law_1760 : decode cL_law 1760 = .ok (.iconst 0, 1) := by decide +kernel
theorem dL_law_1761 : decode cL_law 1761 = .ok (.aload_n 0, 1) := by decide +kernel
theorem dL_law_1762 : decode cL_law 1762 = .ok (.iload 4, 2) := by decide +kernel
theorem dL_law_1764 : decode cL_law 1764 = .ok (.iconst 3, 1) := by decide +kernel
theorem dL_law_1765 : decode cL_law 1765 = .ok (.iadd, 1) := by decide +kernel
theorem dL_law_1766 : decode cL_law 1766 = .ok (.iaload, 1) := by decide +kernel
theorem dL_law_1767 : decode cL_law 1767 = .ok (.aload_n 3, 1) := by decide +kernel
theorem dL_law_1768 : decode cL_law 1768 = .ok (.invokestatic 228, 3) := by decide +kernel
theorem dL_law_1771 : decode cL_law 1771 = .ok (.istore 5, 2) := by decide +kernel
theorem dL_law_1773 : decode cL_law 1773 = .ok (.aload_n 2, 1) := by decide +kernel
theorem dL_law_1774 : decode cL_law 1774 = .ok (.aload_n 0, 1) := by decide +kernel
theorem dL_law_1775 : decode cL_law 1775 = .ok (.iload 4, 2) := by decide +kernel
theorem dL_law_1777 : decode cL_law 1777 = .ok (.iconst 1, 1) := by decide +kernel
theorem dL_law_1778 : decode cL_law 1778 = .ok (.iadd, 1) := by decide +kernel
theorem dL_law_1779 : decode cL_law 1779 = .ok (.iaload, 1) := by decide +kernel
theorem dL_law_1780 : decode cL_law 1780 = .ok (.aload_n 0, 1) := by decide +kernel
theorem dL_law_1781 : decode cL_law 1781 = .ok (.iload 4, 2) := by decide +kernel
theorem dL_law_1783 : decode cL_law 1783 = .ok (.iconst 2, 1) := by decide +kernel
theorem dL_law_1784 : decode cL_law 1784 = .ok (.iadd, 1) := by decide +kernel
theorem dL_law_1785 : decode cL_law 1785 = .ok (.iaload, 1) := by decide +kernel
theorem dL_law_1786 : decode cL_law 1786 = .ok (.ifCond .eq 7, 3) := by decide +kernel
theorem dL_law_1789 : decode cL_law 1789 = .ok (.iconst 1, 1) := by decide +kernel
theorem dL_law_1790 : decode cL_law 1790 = .ok (.goto 4, 3) := by decide +kernel
theorem dL_law_1793 : decode cL_law 1793 = .ok (.iconst 0, 1) := by decide +kernel
theorem dL_law_1794 : decode cL_law 1794 = .ok (.aload_n 0, 1) := by decide +kernel
theorem dL_law_1795 : decode cL_law 1795 = .ok (.iload 4, 2) := by decide +kernel
theorem dL_law_1797 : decode cL_law 1797 = .ok (.iconst 3, 1) := by decide +kernel
theorem dL_law_1798 : decode cL_law 1798 = .ok (.iadd, 1) := by decide +kernel
theorem dL_law_1799 : decode cL_law 1799 = .ok (.iaload, 1) := by decide +kernel
theorem dL_law_1800 : decode cL_law 1800 = .ok (.invokevirtual 231, 3) := by decide +kernel
theorem dL_law_1803 : decode cL_law 1803 = .ok (.istore 6, 2) := by decide +kernel
theorem dL_law_1805 : decode cL_law 1805 = .ok (.aload_n 2, 1) := by decide +kernel
theorem dL_law_1806 : decode cL_law 1806 = .ok (.invokevirtual 132, 3) := by decide +kernel
theorem dL_law_1809 : decode cL_law 1809 = .ok (.iload 5, 2) := by decide +kernel
theorem dL_law_1811 : decode cL_law 1811 = .ok (.if_icmp .eq 5, 3) := by decide +kernel
theorem dL_law_1816 : decode cL_law 1816 = .ok (.iload 5, 2) := by decide +kernel
theorem dL_law_1818 : decode cL_law 1818 = .ok (.ifCond .ne 15, 3) := by decide +kernel
theorem dL_law_1821 : decode cL_law 1821 = .ok (.aload_n 3, 1) := by decide +kernel
theorem dL_law_1822 : decode cL_law 1822 = .ok (.iconst 0, 1) := by decide +kernel
theorem dL_law_1823 : decode cL_law 1823 = .ok (.laload, 1) := by decide +kernel
theorem dL_law_1824 : decode cL_law 1824 = .ok (.iload 6, 2) := by decide +kernel
theorem dL_law_1826 : decode cL_law 1826 = .ok (.i2l, 1) := by decide +kernel
theorem dL_law_1827 : decode cL_law 1827 = .ok (.lcmp, 1) := by decide +kernel
theorem dL_law_1828 : decode cL_law 1828 = .ok (.ifCond .eq 5, 3) := by decide +kernel
theorem dL_law_1833 : decode cL_law 1833 = .ok (.goto 625, 3) := by decide +kernel
set_option maxHeartbeats 4000000 in
set_option maxRecDepth 100000 in
theorem law_c27 {p : Program} {l : Launch} {e : Env} {s : State} {m : MethodId} {below : List Frame} {meth : Method} {c : Code} {b : Nat} {xs : Nat → Int32} {D : va_G} {cy : Nat → ClassId} {A : Nat → Prop} (hlT : l.stackTraces = false) (F : Fx D cy p m c cL_law 8 s #[Value.ref b] lw_tbl RL A) (hr : meth.sig.returnType = ret) (hlk : meth.locks = false) (hX : va_X b 6 xs s s.heap) (hbl : b < s.heap.size) (hbA : ¬ A b) (hAq : ∀ q, A q → s.heap.size ≤ q) {H : Heap} {locs : List Loc} {ls : Array Slot} (n1900 n1000 n1001 n1017 n1034 n1039 n1041 n1042 n1043 n1044 n1048 n1056 n1057 n1002 n1003 n1004 n1005 n1006 n1007 n1008 n1009 n1010 n1011 n1012 n1013 n3900 n3000 n3001 n3002 n3003 n3004 n3005 n3006 n3007 n3008 n3009 n3010 n3011 n3012 n3013 n3014 n3015 n3016 n3017 n3018 n5000 : Nat) (hP : va_P D vwCl [(n1900, .inr (11, [.ref n1000, .int 0, .ref n1001, .ref n1017, .ref n1034, .ref n1039, .ref n1041, .ref n1042, .ref n1043, .ref n1044, .ref n1048, .ref n1056, .ref n1057, .int 0])), (n1001, .inr (9, [.int 0, .int 0, .int 0, .int 0, .int 0, .ref n1002, .ref n1003, .ref n1004, .ref n1005, .ref n1006, .ref n1007, .ref n1008, .int 0, .ref n1009, .ref n1010, .ref n1011, .ref n1012, .ref n1013])), (n3900, .inr (12, [.ref n3000, .ref n3001, .ref n3002, .ref n3003, .int 0, .ref n3004, .int 0, .int 0, .int 0, .int 0, .int 0, .int 0, .int 0, .int 0, .int 0, .int (-1), .int 0, .ref n3005, .ref n3006, .int 0, .ref n3007, .ref n3008, .int 0, .int 0, .int 0, .int 0, .int 0, .int 0, .int 0, .ref n3009, .ref n3010, .int 0, .int 0, .ref n3011, .ref n3012, .int 0, .int 0, .ref n3013, .ref n3014, .ref n3015, .int 0, .ref n3016, .ref n3017, .ref n3018])), (n3000, .inl (cy 1, 1300, .inl (fun _ => 0)))] H) (hD : va_D A [(n1900, .inr (11, [.ref n1000, .int 0, .ref n1001, .ref n1017, .ref n1034, .ref n1039, .ref n1041, .ref n1042, .ref n1043, .ref n1044, .ref n1048, .ref n1056, .ref n1057, .int 0])), (n1001, .inr (9, [.int 0, .int 0, .int 0, .int 0, .int 0, .ref n1002, .ref n1003, .ref n1004, .ref n1005, .ref n1006, .ref n1007, .ref n1008, .int 0, .ref n1009, .ref n1010, .ref n1011, .ref n1012, .ref n1013])), (n3900, .inr (12, [.ref n3000, .ref n3001, .ref n3002, .ref n3003, .int 0, .ref n3004, .int 0, .int 0, .int 0, .int 0, .int 0, .int 0, .int 0, .int 0, .int 0, .int (-1), .int 0, .ref n3005, .ref n3006, .int 0, .ref n3007, .ref n3008, .int 0, .int 0, .int 0, .int 0, .int 0, .int 0, .int 0, .ref n3009, .ref n3010, .int 0, .int 0, .ref n3011, .ref n3012, .int 0, .int 0, .ref n3013, .ref n3014, .ref n3015, .int 0, .ref n3016, .ref n3017, .ref n3018])), (n3000, .inl (cy 1, 1300, .inl (fun _ => 0)))]) (hS : va_S A s.heap H locs) (hl : lv_has ls 8 [(4, .int 0), (3, .ref n5000), (2, .ref n3900), (1, .ref n1900), (0, .ref b)]) : W p l e room_1 s m #[Value.ref b] below meth c H locs 152 18765 (lw_Z below #[Value.ref b] s) (F0 m 1588 ls []) := by
  obtain ⟨⟨hx, hb, hml, hown, hts⟩, hK, hG, hZ, hA⟩ := id F
  obtain ⟨z1, ez1⟩ : ∃ z, xs 1 = z := ⟨_, rfl⟩
  obtain ⟨z2, ez2⟩ : ∃ z, xs 2 = z := ⟨_, rfl⟩
  obtain ⟨z3, ez3⟩ : ∃ z, xs 3 = z := ⟨_, rfl⟩
  obtain ⟨z4, ez4⟩ : ∃ z, xs 4 = z := ⟨_, rfl⟩
  obtain ⟨z5, ez5⟩ : ∃ z, xs 5 = z := ⟨_, rfl⟩
  refine lv_aload_n hx hb dL_law_1588 rfl (lv_at hl 3 rfl) ?_
  refine lv_aload_n hx hb dL_law_1589 rfl (lv_at hl 4 rfl) ?_
  refine lv_iload hx hb dL_law_1590 (lv_at hl 0 rfl) ?_
  refine lv_iconst (v := 1) hx hb dL_law_1592 (by decide +kernel) ?_
  refine lv_iadd hx hb dL_law_1593 ?_
  refine top_i (v := 1) (by decide +kernel) ?_
  refine va_sld hx hb hX hbl hbA hS (i := 1) (vin (by decide +kernel)) dL_law_1594 ?_
  refine top_i (v := z1) ez1 ?_
  refine lv_aload_n hx hb dL_law_1595 rfl (lv_at hl 4 rfl) ?_
  refine lv_iload hx hb dL_law_1596 (lv_at hl 0 rfl) ?_
  refine lv_iconst (v := 2) hx hb dL_law_1598 (by decide +kernel) ?_
  refine lv_iadd hx hb dL_law_1599 ?_
  refine top_i (v := 2) (by decide +kernel) ?_
  refine va_sld hx hb hX hbl hbA hS (i := 2) (vin (by decide +kernel)) dL_law_1600 ?_
  refine top_i (v := z2) ez2 ?_
  refine lv_aload_n hx hb dL_law_1601 rfl (lv_at hl 1 rfl) ?_
  refine call_i (av := [.ref n1900, .int z1, .int z2, .ref n5000]) F hP hD hS [(n1900, .inr (11, [.ref n1000, .int 0, .ref n1001, .ref n1017, .ref n1034, .ref n1039, .ref n1041, .ref n1042, .ref n1043, .ref n1044, .ref n1048, .ref n1056, .ref n1057, .int 0])), (n1001, .inr (9, [.int 0, .int 0, .int 0, .int 0, .int 0, .ref n1002, .ref n1003, .ref n1004, .ref n1005, .ref n1006, .ref n1007, .ref n1008, .int 0, .ref n1009, .ref n1010, .ref n1011, .ref n1012, .ref n1013]))] [(n3900, .inr (12, [.ref n3000, .ref n3001, .ref n3002, .ref n3003, .int 0, .ref n3004, .int 0, .int 0, .int 0, .int 0, .int 0, .int 0, .int 0, .int 0, .int 0, .int (-1), .int 0, .ref n3005, .ref n3006, .int 0, .ref n3007, .ref n3008, .int 0, .int 0, .int 0, .int 0, .int 0, .int 0, .int 0, .ref n3009, .ref n3010, .int 0, .int 0, .ref n3011, .ref n3012, .int 0, .int 0, .ref n3013, .ref n3014, .ref n3015, .int 0, .ref n3016, .ref n3017, .ref n3018])), (n3000, .inl (cy 1, 1300, .inl (fun _ => 0)))] [0, 1] [2, 3] rfl rfl (by decide +kernel) (fun pr => vx_runSW (As := [.ref n1900, .int z1, .int z2, .ref n5000]) (rest := []) ⟨hx, hb, hml, hown, hts⟩ (k321_L_event l hlT D cy H.size n1900 z1 z2 n5000 n1001 n1000 n1017 n1034 n1039 n1041 n1042 n1043 n1044 n1048 n1056 n1057 n1002 n1003 n1004 n1005 n1006 n1007 n1008 n1009 n1010 n1011 n1012 n1013) (vx_cwSW 4 hts gw_L_event rfl rfl rfl (by decide +kernel) ⟨(by decide +kernel), (by decide +kernel)⟩) pr rfl rfl hl.1 rfl (lv_room (Nat.le_of_ble_eq_true rfl)) dL_law_1602 ⟨(by decide +kernel), (by decide +kernel)⟩) (fun r u H locs hw hP hD hS => ?_)
  rcases hw with ⟨rfl, rfl⟩
  have hP : va_P D vwCl [(n3900, .inr (12, [.ref n3000, .ref n3001, .ref n3002, .ref n3003, .int 0, .ref n3004, .int 0, .int 0, .int 0, .int 0, .int 0, .int 0, .int 0, .int 0, .int 0, .int (-1), .int 0, .ref n3005, .ref n3006, .int 0, .ref n3007, .ref n3008, .int 0, .int 0, .int 0, .int 0, .int 0, .int 0, .int 0, .ref n3009, .ref n3010, .int 0, .int 0, .ref n3011, .ref n3012, .int 0, .int 0, .ref n3013, .ref n3014, .ref n3015, .int 0, .ref n3016, .ref n3017, .ref n3018])), (n3000, .inl (cy 1, 1300, .inl (fun _ => 0)))] H := hP
  have hD : va_D A [(n3900, .inr (12, [.ref n3000, .ref n3001, .ref n3002, .ref n3003, .int 0, .ref n3004, .int 0, .int 0, .int 0, .int 0, .int 0, .int 0, .int 0, .int 0, .int 0, .int (-1), .int 0, .ref n3005, .ref n3006, .int 0, .ref n3007, .ref n3008, .int 0, .int 0, .int 0, .int 0, .int 0, .int 0, .int 0, .ref n3009, .ref n3010, .int 0, .int 0, .ref n3011, .ref n3012, .int 0, .int 0, .ref n3013, .ref n3014, .ref n3015, .int 0, .ref n3016, .ref n3017, .ref n3018])), (n3000, .inl (cy 1, 1300, .inl (fun _ => 0)))] := hD
  refine lv_istore (lv' := [(5, .int 1), (4, .int 0), (3, .ref n5000), (2, .ref n3900), (1, .ref n1900), (0, .ref b)]) hx hb dL_law_1605 hl (by decide +kernel) rfl (fun ls hl => ?_)
  refine lv_aload_n hx hb dL_law_1607 rfl (lv_at hl 3 rfl) ?_
  refine lv_aload_n hx hb dL_law_1608 rfl (lv_at hl 5 rfl) ?_
  refine lv_iload hx hb dL_law_1609 (lv_at hl 1 rfl) ?_
  refine lv_iconst (v := 1) hx hb dL_law_1611 (by decide +kernel) ?_
  refine lv_iadd hx hb dL_law_1612 ?_
  refine top_i (v := 1) (by decide +kernel) ?_
  refine va_sld hx hb hX hbl hbA hS (i := 1) (vin (by decide +kernel)) dL_law_1613 ?_
  refine top_i (v := z1) ez1 ?_
  refine lv_aload_n hx hb dL_law_1614 rfl (lv_at hl 5 rfl) ?_
  refine lv_iload hx hb dL_law_1615 (lv_at hl 1 rfl) ?_
  refine lv_iconst (v := 2) hx hb dL_law_1617 (by decide +kernel) ?_
  refine lv_iadd hx hb dL_law_1618 ?_
  refine top_i (v := 2) (by decide +kernel) ?_
  refine va_sld hx hb hX hbl hbA hS (i := 2) (vin (by decide +kernel)) dL_law_1619 ?_
  refine top_i (v := z2) ez2 ?_
  refine call_i (av := [.ref n3900, .int z1, .int z2]) F hP hD hS [(n3900, .inr (12, [.ref n3000, .ref n3001, .ref n3002, .ref n3003, .int 0, .ref n3004, .int 0, .int 0, .int 0, .int 0, .int 0, .int 0, .int 0, .int 0, .int 0, .int (-1), .int 0, .ref n3005, .ref n3006, .int 0, .ref n3007, .ref n3008, .int 0, .int 0, .int 0, .int 0, .int 0, .int 0, .int 0, .ref n3009, .ref n3010, .int 0, .int 0, .ref n3011, .ref n3012, .int 0, .int 0, .ref n3013, .ref n3014, .ref n3015, .int 0, .ref n3016, .ref n3017, .ref n3018])), (n3000, .inl (cy 1, 1300, .inl (fun _ => 0)))] [] [0, 1] [] rfl rfl (by decide +kernel) (fun pr => va_runV (As := [.int z1, .int z2]) (rest := []) ⟨hx, hb, hml, hown, hts⟩ (k201_X12_event l D cy H.size n3900 z1 z2 n3000 n3001 n3002 n3003 n3004 n3005 n3006 n3007 n3008 n3009 n3010 n3011 n3012 n3013 n3014 n3015 n3016 n3017 n3018) (cwV 2 hts gw_X12_event rfl rfl rfl (by decide +kernel) ⟨(by decide +kernel), (by decide +kernel)⟩) ⟨pr.1, va_recv hK hP (ci := 12) (q0 := 0) rfl rfl, pr.2⟩ rfl rfl hl.1 rfl (lv_room (Nat.le_of_ble_eq_true rfl)) dL_law_1620 ⟨(by decide +kernel), (by decide +kernel)⟩) (fun r u H locs hw hP hD hS => ?_)
  rcases hw with ⟨rfl, rfl⟩
  have hP : va_P D vwCl [(n3900, .inr (12, [.ref n3000, .ref n3001, .ref n3002, .ref n3003, .int 1, .ref n3004, .int 0, .int 0, .int 0, .int 0, .int 0, .int 0, .int 0, .int 0, .int 0, .int (-1), .int 0, .ref n3005, .ref n3006, .int 0, .ref n3007, .ref n3008, .int 0, .int 0, .int 0, .int 0, .int 0, .int 0, .int 0, .ref n3009, .ref n3010, .int 0, .int 0, .ref n3011, .ref n3012, .int 0, .int 0, .ref n3013, .ref n3014, .ref n3015, .int 0, .ref n3016, .ref n3017, .ref n3018])), (n3000, .inl (cy 1, 1300, .inl (fun _ => 0)))] H := hP
  have hD : va_D A [(n3900, .inr (12, [.ref n3000, .ref n3001, .ref n3002, .ref n3003, .int 1, .ref n3004, .int 0, .int 0, .int 0, .int 0, .int 0, .int 0, .int 0, .int 0, .int 0, .int (-1), .int 0, .ref n3005, .ref n3006, .int 0, .ref n3007, .ref n3008, .int 0, .int 0, .int 0, .int 0, .int 0, .int 0, .int 0, .ref n3009, .ref n3010, .int 0, .int 0, .ref n3011, .ref n3012, .int 0, .int 0, .ref n3013, .ref n3014, .ref n3015, .int 0, .ref n3016, .ref n3017, .ref n3018])), (n3000, .inl (cy 1, 1300, .inl (fun _ => 0)))] := hD
  refine lv_istore (lv' := [(6, .int 0), (5, .int 1), (4, .int 0), (3, .ref n5000), (2, .ref n3900), (1, .ref n1900), (0, .ref b)]) hx hb dL_law_1623 hl (by decide +kernel) rfl (fun ls hl => ?_)
  refine lv_aload_n hx hb dL_law_1625 rfl (lv_at hl 4 rfl) ?_
  refine call_i (av := [.ref n3900]) F hP hD hS [(n3900, .inr (12, [.ref n3000, .ref n3001, .ref n3002, .ref n3003, .int 1, .ref n3004, .int 0, .int 0, .int 0, .int 0, .int 0, .int 0, .int 0, .int 0, .int 0, .int (-1), .int 0, .ref n3005, .ref n3006, .int 0, .ref n3007, .ref n3008, .int 0, .int 0, .int 0, .int 0, .int 0, .int 0, .int 0, .ref n3009, .ref n3010, .int 0, .int 0, .ref n3011, .ref n3012, .int 0, .int 0, .ref n3013, .ref n3014, .ref n3015, .int 0, .ref n3016, .ref n3017, .ref n3018]))] [(n3000, .inl (cy 1, 1300, .inl (fun _ => 0)))] [0] [1] rfl rfl (by decide +kernel) (fun pr => va_runV (As := []) (rest := []) ⟨hx, hb, hml, hown, hts⟩ (k333_X12_thrown l D cy H.size n3900 n3000 n3001 n3002 n3003 n3004 n3005 n3006 n3007 n3008 n3009 n3010 n3011 n3012 n3013 n3014 n3015 n3016 n3017 n3018) (cwV 0 hts gw_X12_thrown rfl rfl rfl (by decide +kernel) ⟨(by decide +kernel), (by decide +kernel)⟩) ⟨pr.1, va_recv hK hP (ci := 12) (q0 := 0) rfl rfl, pr.2⟩ rfl rfl hl.1 rfl (lv_room (Nat.le_of_ble_eq_true rfl)) dL_law_1626 ⟨(by decide +kernel), (by decide +kernel)⟩) (fun r u H locs hw hP hD hS => ?_)
  rcases hw with ⟨rfl, rfl⟩
  have hP : va_P D vwCl [(n3000, .inl (cy 1, 1300, .inl (fun _ => 0))), (n3900, .inr (12, [.ref n3000, .ref n3001, .ref n3002, .ref n3003, .int 1, .ref n3004, .int 0, .int 0, .int 0, .int 0, .int 0, .int 0, .int 0, .int 0, .int 0, .int (-1), .int 0, .ref n3005, .ref n3006, .int 0, .ref n3007, .ref n3008, .int 0, .int 0, .int 0, .int 0, .int 0, .int 0, .int 0, .ref n3009, .ref n3010, .int 0, .int 0, .ref n3011, .ref n3012, .int 0, .int 0, .ref n3013, .ref n3014, .ref n3015, .int 0, .ref n3016, .ref n3017, .ref n3018]))] H := hP
  have hD : va_D A [(n3000, .inl (cy 1, 1300, .inl (fun _ => 0))), (n3900, .inr (12, [.ref n3000, .ref n3001, .ref n3002, .ref n3003, .int 1, .ref n3004, .int 0, .int 0, .int 0, .int 0, .int 0, .int 0, .int 0, .int 0, .int 0, .int (-1), .int 0, .ref n3005, .ref n3006, .int 0, .ref n3007, .ref n3008, .int 0, .int 0, .int 0, .int 0, .int 0, .int 0, .int 0, .ref n3009, .ref n3010, .int 0, .int 0, .ref n3011, .ref n3012, .int 0, .int 0, .ref n3013, .ref n3014, .ref n3015, .int 0, .ref n3016, .ref n3017, .ref n3018]))] := hD
  refine lv_iload hx hb dL_law_1629 (lv_at hl 1 rfl) ?_
  refine lv_icmp_eq (tgt := 1636) hx hb dL_law_1631 (by decide +kernel) (fun _ => ?_) (fun h => absurd (by decide +kernel) h)
  refine lv_iload hx hb dL_law_1636 (lv_at hl 1 rfl) ?_
  refine lv_if_ne (tgt := 1653) hx hb dL_law_1638 (by decide +kernel) (fun _ => ?_) (fun h => absurd h (by decide +kernel))
  refine lv_goto (tgt := 2458) hx hb dL_law_1653 (by decide +kernel) ?_
  refine lv_iinc (v := 6) (lv' := [(4, .int 6), (6, .int 0), (5, .int 1), (3, .ref n5000), (2, .ref n3900), (1, .ref n1900), (0, .ref b)]) hx hb dL_law_2458 hl (k := 2) rfl (by decide) (by decide +kernel) rfl (fun ls hl => ?_)
  refine lv_goto (tgt := 23) hx hb dL_law_2461 (by decide +kernel) ?_
  refine lv_iload hx hb dL_law_23 (lv_at hl 0 rfl) ?_
  refine lv_aload_n hx hb dL_law_25 rfl (lv_at hl 6 rfl) ?_
  refine va_slen hx hb hX hbl hbA hS dL_law_26 ?_
  refine top_i (v := 6) rfl ?_
  refine lv_bipush (v := 6) hx hb dL_law_27 (by decide +kernel) ?_
  refine lv_isub hx hb dL_law_29 ?_
  refine top_i (v := 0) (by decide +kernel) ?_
  refine lv_icmp_gt (tgt := 2464) hx hb dL_law_30 (by decide +kernel) (fun _ => ?_) (fun h => absurd (by decide +kernel) h)
  refine lv_iconst (v := 1) hx hb dL_law_2464 (by decide +kernel) ?_
  refine va_forget (fun q hq => hAq _ (hS.2.2 q hq)) ?_
  refine W.widen (k := 600002) (n := 7302232) (by decide +kernel) (by decide +kernel) ?_
  exact lw_ret hx hb hr hlk dL_law_2465
set_option maxHeartbeats 4000000 in
set_option maxRecDepth 100000 in
theorem law_c28 {p : Program} {l : Launch} {e : Env} {s : State} {m : MethodId} {below : List Frame} {meth : Method} {c : Code} {b : Nat} {xs : Nat → Int32} {D : va_G} {cy : Nat → ClassId} {A : Nat → Prop} (hlT : l.stackTraces = false) (F : Fx D cy p m c cL_law 8 s #[Value.ref b] lw_tbl RL A) (hr : meth.sig.returnType = ret) (hlk : meth.locks = false) (hX : va_X b 6 xs s s.heap) (hbl : b < s.heap.size) (hbA : ¬ A b) (hAq : ∀ q, A q → s.heap.size ≤ q) {H : Heap} {locs : List Loc} {ls : Array Slot} (n1900 n1000 n1001 n1017 n1034 n1039 n1041 n1042 n1043 n1044 n1048 n1056 n1057 n1122 n1124 n1126 n1128 n1123 n1125 n1127 n1129 n3900 n3000 n3001 n3002 n3003 n3004 n3005 n3006 n3007 n3008 n3009 n3010 n3011 n3012 n3013 n3014 n3015 n3016 n3017 n3018 n5000 : Nat) (hP : va_P D vwCl [(n1900, .inr (11, [.ref n1000, .int 0, .ref n1001, .ref n1017, .ref n1034, .ref n1039, .ref n1041, .ref n1042, .ref n1043, .ref n1044, .ref n1048, .ref n1056, .ref n1057, .int 0])), (n1043, .inl (cy 5, 4, .inr (.inr (.inr (.inr (va_up (va_up (va_up (va_up (fun _ => none) 0 (some n1122)) 1 (some n1124)) 2 (some n1126)) 3 (some n1128))))))), (n1122, .inr (10, [.int (-1), .int 0, .ref n1123])), (n1124, .inr (10, [.int (-1), .int 0, .ref n1125])), (n1126, .inr (10, [.int (-1), .int 0, .ref n1127])), (n1128, .inr (10, [.int (-1), .int 0, .ref n1129])), (n3900, .inr (12, [.ref n3000, .ref n3001, .ref n3002, .ref n3003, .int 0, .ref n3004, .int 0, .int 0, .int 0, .int 0, .int 0, .int 0, .int 0, .int 0, .int 0, .int (-1), .int 0, .ref n3005, .ref n3006, .int 0, .ref n3007, .ref n3008, .int 0, .int 0, .int 0, .int 0, .int 0, .int 0, .int 0, .ref n3009, .ref n3010, .int 0, .int 0, .ref n3011, .ref n3012, .int 0, .int 0, .ref n3013, .ref n3014, .ref n3015, .int 0, .ref n3016, .ref n3017, .ref n3018])), (n3016, .inl (cy 1, 4, .inl (upd (upd (upd (upd (fun _ => 0) 0 (-1)) 1 (-1)) 2 (-1)) 3 (-1))))] H) (hD : va_D A [(n1900, .inr (11, [.ref n1000, .int 0, .ref n1001, .ref n1017, .ref n1034, .ref n1039, .ref n1041, .ref n1042, .ref n1043, .ref n1044, .ref n1048, .ref n1056, .ref n1057, .int 0])), (n1043, .inl (cy 5, 4, .inr (.inr (.inr (.inr (va_up (va_up (va_up (va_up (fun _ => none) 0 (some n1122)) 1 (some n1124)) 2 (some n1126)) 3 (some n1128))))))), (n1122, .inr (10, [.int (-1), .int 0, .ref n1123])), (n1124, .inr (10, [.int (-1), .int 0, .ref n1125])), (n1126, .inr (10, [.int (-1), .int 0, .ref n1127])), (n1128, .inr (10, [.int (-1), .int 0, .ref n1129])), (n3900, .inr (12, [.ref n3000, .ref n3001, .ref n3002, .ref n3003, .int 0, .ref n3004, .int 0, .int 0, .int 0, .int 0, .int 0, .int 0, .int 0, .int 0, .int 0, .int (-1), .int 0, .ref n3005, .ref n3006, .int 0, .ref n3007, .ref n3008, .int 0, .int 0, .int 0, .int 0, .int 0, .int 0, .int 0, .ref n3009, .ref n3010, .int 0, .int 0, .ref n3011, .ref n3012, .int 0, .int 0, .ref n3013, .ref n3014, .ref n3015, .int 0, .ref n3016, .ref n3017, .ref n3018])), (n3016, .inl (cy 1, 4, .inl (upd (upd (upd (upd (fun _ => 0) 0 (-1)) 1 (-1)) 2 (-1)) 3 (-1))))]) (hS : va_S A s.heap H locs) (hl : lv_has ls 8 [(4, .int 0), (3, .ref n5000), (2, .ref n3900), (1, .ref n1900), (0, .ref b)]) : W p l e room_1 s m #[Value.ref b] below meth c H locs 152 18765 (lw_Z below #[Value.ref b] s) (F0 m 1656 ls []) := by
  obtain ⟨⟨hx, hb, hml, hown, hts⟩, hK, hG, hZ, hA⟩ := id F
  obtain ⟨z1, ez1⟩ : ∃ z, xs 1 = z := ⟨_, rfl⟩
  obtain ⟨z2, ez2⟩ : ∃ z, xs 2 = z := ⟨_, rfl⟩
  obtain ⟨z3, ez3⟩ : ∃ z, xs 3 = z := ⟨_, rfl⟩
  obtain ⟨z4, ez4⟩ : ∃ z, xs 4 = z := ⟨_, rfl⟩
  obtain ⟨z5, ez5⟩ : ∃ z, xs 5 = z := ⟨_, rfl⟩
  refine lv_aload_n hx hb dL_law_1656 rfl (lv_at hl 3 rfl) ?_
  refine lv_aload_n hx hb dL_law_1657 rfl (lv_at hl 4 rfl) ?_
  refine lv_iload hx hb dL_law_1658 (lv_at hl 0 rfl) ?_
  refine lv_iconst (v := 1) hx hb dL_law_1660 (by decide +kernel) ?_
  refine lv_iadd hx hb dL_law_1661 ?_
  refine top_i (v := 1) (by decide +kernel) ?_
  refine va_sld hx hb hX hbl hbA hS (i := 1) (vin (by decide +kernel)) dL_law_1662 ?_
  refine top_i (v := z1) ez1 ?_
  refine lv_aload_n hx hb dL_law_1663 rfl (lv_at hl 4 rfl) ?_
  refine lv_iload hx hb dL_law_1664 (lv_at hl 0 rfl) ?_
  refine lv_iconst (v := 2) hx hb dL_law_1666 (by decide +kernel) ?_
  refine lv_iadd hx hb dL_law_1667 ?_
  refine top_i (v := 2) (by decide +kernel) ?_
  refine va_sld hx hb hX hbl hbA hS (i := 2) (vin (by decide +kernel)) dL_law_1668 ?_
  refine top_i (v := z2) ez2 ?_
  refine lv_if_eq (tgt := 1676) hx hb dL_law_1669 (by decide +kernel) (fun c800001 => ?_) (fun c800001 => ?_)
  · subst c800001
    refine lv_iconst (v := 0) hx hb dL_law_1676 (by decide +kernel) ?_
    refine lv_aload_n hx hb dL_law_1677 rfl (lv_at hl 1 rfl) ?_
    refine call_i (av := [.ref n1900, .int z1, .int 0, .ref n5000]) F hP hD hS [(n1900, .inr (11, [.ref n1000, .int 0, .ref n1001, .ref n1017, .ref n1034, .ref n1039, .ref n1041, .ref n1042, .ref n1043, .ref n1044, .ref n1048, .ref n1056, .ref n1057, .int 0])), (n1043, .inl (cy 5, 4, .inr (.inr (.inr (.inr (va_up (va_up (va_up (va_up (fun _ => none) 0 (some n1122)) 1 (some n1124)) 2 (some n1126)) 3 (some n1128))))))), (n1122, .inr (10, [.int (-1), .int 0, .ref n1123])), (n1124, .inr (10, [.int (-1), .int 0, .ref n1125])), (n1126, .inr (10, [.int (-1), .int 0, .ref n1127])), (n1128, .inr (10, [.int (-1), .int 0, .ref n1129]))] [(n3900, .inr (12, [.ref n3000, .ref n3001, .ref n3002, .ref n3003, .int 0, .ref n3004, .int 0, .int 0, .int 0, .int 0, .int 0, .int 0, .int 0, .int 0, .int 0, .int (-1), .int 0, .ref n3005, .ref n3006, .int 0, .ref n3007, .ref n3008, .int 0, .int 0, .int 0, .int 0, .int 0, .int 0, .int 0, .ref n3009, .ref n3010, .int 0, .int 0, .ref n3011, .ref n3012, .int 0, .int 0, .ref n3013, .ref n3014, .ref n3015, .int 0, .ref n3016, .ref n3017, .ref n3018])), (n3016, .inl (cy 1, 4, .inl (upd (upd (upd (upd (fun _ => 0) 0 (-1)) 1 (-1)) 2 (-1)) 3 (-1))))] [0, 1, 2, 3, 4, 5] [6, 7] rfl rfl (by decide +kernel) (fun pr => vx_runSW (As := [.ref n1900, .int z1, .int 0, .ref n5000]) (rest := []) ⟨hx, hb, hml, hown, hts⟩ (k322_L_goats l hlT D cy H.size n1900 z1 0 n5000 n1043 n1122 n1124 n1126 n1128 n1000 n1001 n1017 n1034 n1039 n1041 n1042 n1044 n1048 n1056 n1057 n1123 n1125 n1127 n1129) (vx_cwSW 4 hts gw_L_goats rfl rfl rfl (by decide +kernel) ⟨(by decide +kernel), (by decide +kernel)⟩) pr rfl rfl hl.1 rfl (lv_room (Nat.le_of_ble_eq_true rfl)) dL_law_1678 ⟨(by decide +kernel), (by decide +kernel)⟩) (fun r u H locs hw hP hD hS => ?_)
    rcases hw with ⟨c800002, rfl, rfl⟩ | ⟨c800003, c800004, rfl, rfl⟩ | ⟨c800005, c800006, c800007, rfl, rfl⟩ | ⟨c800008, c800009, c800010, rfl, rfl⟩ | ⟨c800011, c800012, c800013, rfl, rfl⟩ | ⟨c800014, c800015, c800016, rfl, rfl⟩
    · have hP : va_P D vwCl [(n3900, .inr (12, [.ref n3000, .ref n3001, .ref n3002, .ref n3003, .int 0, .ref n3004, .int 0, .int 0, .int 0, .int 0, .int 0, .int 0, .int 0, .int 0, .int 0, .int (-1), .int 0, .ref n3005, .ref n3006, .int 0, .ref n3007, .ref n3008, .int 0, .int 0, .int 0, .int 0, .int 0, .int 0, .int 0, .ref n3009, .ref n3010, .int 0, .int 0, .ref n3011, .ref n3012, .int 0, .int 0, .ref n3013, .ref n3014, .ref n3015, .int 0, .ref n3016, .ref n3017, .ref n3018])), (n3016, .inl (cy 1, 4, .inl (upd (upd (upd (upd (fun _ => 0) 0 (-1)) 1 (-1)) 2 (-1)) 3 (-1))))] H := hP
      have hD : va_D A [(n3900, .inr (12, [.ref n3000, .ref n3001, .ref n3002, .ref n3003, .int 0, .ref n3004, .int 0, .int 0, .int 0, .int 0, .int 0, .int 0, .int 0, .int 0, .int 0, .int (-1), .int 0, .ref n3005, .ref n3006, .int 0, .ref n3007, .ref n3008, .int 0, .int 0, .int 0, .int 0, .int 0, .int 0, .int 0, .ref n3009, .ref n3010, .int 0, .int 0, .ref n3011, .ref n3012, .int 0, .int 0, .ref n3013, .ref n3014, .ref n3015, .int 0, .ref n3016, .ref n3017, .ref n3018])), (n3016, .inl (cy 1, 4, .inl (upd (upd (upd (upd (fun _ => 0) 0 (-1)) 1 (-1)) 2 (-1)) 3 (-1))))] := hD
      refine lv_istore (lv' := [(5, .int 1), (4, .int 0), (3, .ref n5000), (2, .ref n3900), (1, .ref n1900), (0, .ref b)]) hx hb dL_law_1681 hl (by decide +kernel) rfl (fun ls hl => ?_)
      refine lv_aload_n hx hb dL_law_1683 rfl (lv_at hl 3 rfl) ?_
      refine lv_aload_n hx hb dL_law_1684 rfl (lv_at hl 5 rfl) ?_
      refine lv_iload hx hb dL_law_1685 (lv_at hl 1 rfl) ?_
      refine lv_iconst (v := 1) hx hb dL_law_1687 (by decide +kernel) ?_
      refine lv_iadd hx hb dL_law_1688 ?_
      refine top_i (v := 1) (by decide +kernel) ?_
      refine va_sld hx hb hX hbl hbA hS (i := 1) (vin (by decide +kernel)) dL_law_1689 ?_
      refine top_i (v := z1) ez1 ?_
      refine lv_aload_n hx hb dL_law_1690 rfl (lv_at hl 5 rfl) ?_
      refine lv_iload hx hb dL_law_1691 (lv_at hl 1 rfl) ?_
      refine lv_iconst (v := 2) hx hb dL_law_1693 (by decide +kernel) ?_
      refine lv_iadd hx hb dL_law_1694 ?_
      refine top_i (v := 2) (by decide +kernel) ?_
      refine va_sld hx hb hX hbl hbA hS (i := 2) (vin (by decide +kernel)) dL_law_1695 ?_
      refine top_i (v := 0) ez2 ?_
      refine lv_if_eq (tgt := 1703) hx hb dL_law_1696 (by decide +kernel) (fun _ => ?_) (fun h => absurd (by decide +kernel) h)
      refine lv_iconst (v := 0) hx hb dL_law_1703 (by decide +kernel) ?_
      refine call_i (av := [.ref n3900, .int z1, .int 0]) F hP hD hS [(n3900, .inr (12, [.ref n3000, .ref n3001, .ref n3002, .ref n3003, .int 0, .ref n3004, .int 0, .int 0, .int 0, .int 0, .int 0, .int 0, .int 0, .int 0, .int 0, .int (-1), .int 0, .ref n3005, .ref n3006, .int 0, .ref n3007, .ref n3008, .int 0, .int 0, .int 0, .int 0, .int 0, .int 0, .int 0, .ref n3009, .ref n3010, .int 0, .int 0, .ref n3011, .ref n3012, .int 0, .int 0, .ref n3013, .ref n3014, .ref n3015, .int 0, .ref n3016, .ref n3017, .ref n3018])), (n3016, .inl (cy 1, 4, .inl (upd (upd (upd (upd (fun _ => 0) 0 (-1)) 1 (-1)) 2 (-1)) 3 (-1))))] [] [0, 1] [] rfl rfl (by decide +kernel) (fun pr => va_runV (As := [.int z1, .int 0]) (rest := []) ⟨hx, hb, hml, hown, hts⟩ (k204_X12_goats l D cy H.size n3900 z1 0 n3016 n3000 n3001 n3002 n3003 n3004 n3005 n3006 n3007 n3008 n3009 n3010 n3011 n3012 n3013 n3014 n3015 n3017 n3018) (cwV 2 hts gw_X12_goats rfl rfl rfl (by decide +kernel) ⟨(by decide +kernel), (by decide +kernel)⟩) ⟨pr.1, va_recv hK hP (ci := 12) (q0 := 0) rfl rfl, pr.2⟩ rfl rfl hl.1 rfl (lv_room (Nat.le_of_ble_eq_true rfl)) dL_law_1704 ⟨(by decide +kernel), (by decide +kernel)⟩) (fun r u H locs hw hP hD hS => ?_)
      rcases hw with ⟨c800018, rfl, rfl⟩ | ⟨c800019, c800020, rfl, rfl⟩ | ⟨c800021, c800022, c800023, rfl, rfl⟩ | ⟨c800024, c800025, c800026, rfl, rfl⟩ | ⟨c800027, c800028, c800029, rfl, rfl⟩ | ⟨c800030, c800031, c800032, rfl, rfl⟩
      · have hP : va_P D vwCl [(n3900, .inr (12, [.ref n3000, .ref n3001, .ref n3002, .ref n3003, .int 1, .ref n3004, .int 0, .int 0, .int 0, .int 0, .int 0, .int 0, .int 0, .int 0, .int 0, .int (-1), .int 0, .ref n3005, .ref n3006, .int 0, .ref n3007, .ref n3008, .int 0, .int 0, .int 0, .int 0, .int 0, .int 0, .int 0, .ref n3009, .ref n3010, .int 0, .int 0, .ref n3011, .ref n3012, .int 0, .int 0, .ref n3013, .ref n3014, .ref n3015, .int 0, .ref n3016, .ref n3017, .ref n3018])), (n3016, .inl (cy 1, 4, .inl (upd (upd (upd (upd (fun _ => 0) 0 (-1)) 1 (-1)) 2 (-1)) 3 (-1))))] H := hP
        have hD : va_D A [(n3900, .inr (12, [.ref n3000, .ref n3001, .ref n3002, .ref n3003, .int 1, .ref n3004, .int 0, .int 0, .int 0, .int 0, .int 0, .int 0, .int 0, .int 0, .int 0, .int (-1), .int 0, .ref n3005, .ref n3006, .int 0, .ref n3007, .ref n3008, .int 0, .int 0, .int 0, .int 0, .int 0, .int 0, .int 0, .ref n3009, .ref n3010, .int 0, .int 0, .ref n3011, .ref n3012, .int 0, .int 0, .ref n3013, .ref n3014, .ref n3015, .int 0, .ref n3016, .ref n3017, .ref n3018])), (n3016, .inl (cy 1, 4, .inl (upd (upd (upd (upd (fun _ => 0) 0 (-1)) 1 (-1)) 2 (-1)) 3 (-1))))] := hD
        refine lv_istore (lv' := [(6, .int 0), (5, .int 1), (4, .int 0), (3, .ref n5000), (2, .ref n3900), (1, .ref n1900), (0, .ref b)]) hx hb dL_law_1707 hl (by decide +kernel) rfl (fun ls hl => ?_)
        refine lv_aload_n hx hb dL_law_1709 rfl (lv_at hl 4 rfl) ?_
        refine call_i (av := [.ref n3900]) F hP hD hS [(n3900, .inr (12, [.ref n3000, .ref n3001, .ref n3002, .ref n3003, .int 1, .ref n3004, .int 0, .int 0, .int 0, .int 0, .int 0, .int 0, .int 0, .int 0, .int 0, .int (-1), .int 0, .ref n3005, .ref n3006, .int 0, .ref n3007, .ref n3008, .int 0, .int 0, .int 0, .int 0, .int 0, .int 0, .int 0, .ref n3009, .ref n3010, .int 0, .int 0, .ref n3011, .ref n3012, .int 0, .int 0, .ref n3013, .ref n3014, .ref n3015, .int 0, .ref n3016, .ref n3017, .ref n3018]))] [(n3016, .inl (cy 1, 4, .inl (upd (upd (upd (upd (fun _ => 0) 0 (-1)) 1 (-1)) 2 (-1)) 3 (-1))))] [0] [1] rfl rfl (by decide +kernel) (fun pr => va_runV (As := []) (rest := []) ⟨hx, hb, hml, hown, hts⟩ (k333_X12_thrown l D cy H.size n3900 n3000 n3001 n3002 n3003 n3004 n3005 n3006 n3007 n3008 n3009 n3010 n3011 n3012 n3013 n3014 n3015 n3016 n3017 n3018) (cwV 0 hts gw_X12_thrown rfl rfl rfl (by decide +kernel) ⟨(by decide +kernel), (by decide +kernel)⟩) ⟨pr.1, va_recv hK hP (ci := 12) (q0 := 0) rfl rfl, pr.2⟩ rfl rfl hl.1 rfl (lv_room (Nat.le_of_ble_eq_true rfl)) dL_law_1710 ⟨(by decide +kernel), (by decide +kernel)⟩) (fun r u H locs hw hP hD hS => ?_)
        rcases hw with ⟨rfl, rfl⟩
        have hP : va_P D vwCl [(n3016, .inl (cy 1, 4, .inl (upd (upd (upd (upd (fun _ => 0) 0 (-1)) 1 (-1)) 2 (-1)) 3 (-1)))), (n3900, .inr (12, [.ref n3000, .ref n3001, .ref n3002, .ref n3003, .int 1, .ref n3004, .int 0, .int 0, .int 0, .int 0, .int 0, .int 0, .int 0, .int 0, .int 0, .int (-1), .int 0, .ref n3005, .ref n3006, .int 0, .ref n3007, .ref n3008, .int 0, .int 0, .int 0, .int 0, .int 0, .int 0, .int 0, .ref n3009, .ref n3010, .int 0, .int 0, .ref n3011, .ref n3012, .int 0, .int 0, .ref n3013, .ref n3014, .ref n3015, .int 0, .ref n3016, .ref n3017, .ref n3018]))] H := hP
        have hD : va_D A [(n3016, .inl (cy 1, 4, .inl (upd (upd (upd (upd (fun _ => 0) 0 (-1)) 1 (-1)) 2 (-1)) 3 (-1)))), (n3900, .inr (12, [.ref n3000, .ref n3001, .ref n3002, .ref n3003, .int 1, .ref n3004, .int 0, .int 0, .int 0, .int 0, .int 0, .int 0, .int 0, .int 0, .int 0, .int (-1), .int 0, .ref n3005, .ref n3006, .int 0, .ref n3007, .ref n3008, .int 0, .int 0, .int 0, .int 0, .int 0, .int 0, .int 0, .ref n3009, .ref n3010, .int 0, .int 0, .ref n3011, .ref n3012, .int 0, .int 0, .ref n3013, .ref n3014, .ref n3015, .int 0, .ref n3016, .ref n3017, .ref n3018]))] := hD
        refine lv_iload hx hb dL_law_1713 (lv_at hl 1 rfl) ?_
        refine lv_icmp_eq (tgt := 1720) hx hb dL_law_1715 (by decide +kernel) (fun _ => ?_) (fun h => absurd (by decide +kernel) h)
        refine lv_iload hx hb dL_law_1720 (lv_at hl 1 rfl) ?_
        refine lv_if_ne (tgt := 1737) hx hb dL_law_1722 (by decide +kernel) (fun _ => ?_) (fun h => absurd h (by decide +kernel))
        refine lv_goto (tgt := 2458) hx hb dL_law_1737 (by decide +kernel) ?_
        refine lv_iinc (v := 6) (lv' := [(4, .int 6), (6, .int 0), (5, .int 1), (3, .ref n5000), (2, .ref n3900), (1, .ref n1900), (0, .ref b)]) hx hb dL_law_2458 hl (k := 2) rfl (by decide) (by decide +kernel) rfl (fun ls hl => ?_)
        refine lv_goto (tgt := 23) hx hb dL_law_2461 (by decide +kernel) ?_
        refine lv_iload hx hb dL_law_23 (lv_at hl 0 rfl) ?_
        refine lv_aload_n hx hb dL_law_25 rfl (lv_at hl 6 rfl) ?_
        refine va_slen hx hb hX hbl hbA hS dL_law_26 ?_
        refine top_i (v := 6) rfl ?_
        refine lv_bipush (v := 6) hx hb dL_law_27 (by decide +kernel) ?_
        refine lv_isub hx hb dL_law_29 ?_
        refine top_i (v := 0) (by decide +kernel) ?_
        refine lv_icmp_gt (tgt := 2464) hx hb dL_law_30 (by decide +kernel) (fun _ => ?_) (fun h => absurd (by decide +kernel) h)
        refine lv_iconst (v := 1) hx hb dL_law_2464 (by decide +kernel) ?_
        refine va_forget (fun q hq => hAq _ (hS.2.2 q hq)) ?_
        refine W.widen (k := 600002) (n := 7302232) (by decide +kernel) (by decide +kernel) ?_
        exact lw_ret hx hb hr hlk dL_law_2465
      · exact (no_b (lo_nlt_w c800019) (up_lt c800002) (by decide +kernel)).elim
      · exact (no_b (lo_nlt_w c800021) (up_lt c800002) (by decide +kernel)).elim
      · exact (no_b (lo_nlt_w c800024) (up_lt c800002) (by decide +kernel)).elim
      · exact (no_b (lo_nlt_w c800027) (up_lt c800002) (by decide +kernel)).elim
      · exact (no_b (lo_nlt_w c800030) (up_lt c800002) (by decide +kernel)).elim
    · have hP : va_P D vwCl [(n3900, .inr (12, [.ref n3000, .ref n3001, .ref n3002, .ref n3003, .int 0, .ref n3004, .int 0, .int 0, .int 0, .int 0, .int 0, .int 0, .int 0, .int 0, .int 0, .int (-1), .int 0, .ref n3005, .ref n3006, .int 0, .ref n3007, .ref n3008, .int 0, .int 0, .int 0, .int 0, .int 0, .int 0, .int 0, .ref n3009, .ref n3010, .int 0, .int 0, .ref n3011, .ref n3012, .int 0, .int 0, .ref n3013, .ref n3014, .ref n3015, .int 0, .ref n3016, .ref n3017, .ref n3018])), (n3016, .inl (cy 1, 4, .inl (upd (upd (upd (upd (fun _ => 0) 0 (-1)) 1 (-1)) 2 (-1)) 3 (-1))))] H := hP
      have hD : va_D A [(n3900, .inr (12, [.ref n3000, .ref n3001, .ref n3002, .ref n3003, .int 0, .ref n3004, .int 0, .int 0, .int 0, .int 0, .int 0, .int 0, .int 0, .int 0, .int 0, .int (-1), .int 0, .ref n3005, .ref n3006, .int 0, .ref n3007, .ref n3008, .int 0, .int 0, .int 0, .int 0, .int 0, .int 0, .int 0, .ref n3009, .ref n3010, .int 0, .int 0, .ref n3011, .ref n3012, .int 0, .int 0, .ref n3013, .ref n3014, .ref n3015, .int 0, .ref n3016, .ref n3017, .ref n3018])), (n3016, .inl (cy 1, 4, .inl (upd (upd (upd (upd (fun _ => 0) 0 (-1)) 1 (-1)) 2 (-1)) 3 (-1))))] := hD
      refine lv_istore (lv' := [(5, .int 1), (4, .int 0), (3, .ref n5000), (2, .ref n3900), (1, .ref n1900), (0, .ref b)]) hx hb dL_law_1681 hl (by decide +kernel) rfl (fun ls hl => ?_)
      refine lv_aload_n hx hb dL_law_1683 rfl (lv_at hl 3 rfl) ?_
      refine lv_aload_n hx hb dL_law_1684 rfl (lv_at hl 5 rfl) ?_
      refine lv_iload hx hb dL_law_1685 (lv_at hl 1 rfl) ?_
      refine lv_iconst (v := 1) hx hb dL_law_1687 (by decide +kernel) ?_
      refine lv_iadd hx hb dL_law_1688 ?_
      refine top_i (v := 1) (by decide +kernel) ?_
      refine va_sld hx hb hX hbl hbA hS (i := 1) (vin (by decide +kernel)) dL_law_1689 ?_
      refine top_i (v := z1) ez1 ?_
      refine lv_aload_n hx hb dL_law_1690 rfl (lv_at hl 5 rfl) ?_
      refine lv_iload hx hb dL_law_1691 (lv_at hl 1 rfl) ?_
      refine lv_iconst (v := 2) hx hb dL_law_1693 (by decide +kernel) ?_
      refine lv_iadd hx hb dL_law_1694 ?_
      refine top_i (v := 2) (by decide +kernel) ?_
      refine va_sld hx hb hX hbl hbA hS (i := 2) (vin (by decide +kernel)) dL_law_1695 ?_
      refine top_i (v := 0) ez2 ?_
      refine lv_if_eq (tgt := 1703) hx hb dL_law_1696 (by decide +kernel) (fun _ => ?_) (fun h => absurd (by decide +kernel) h)
      refine lv_iconst (v := 0) hx hb dL_law_1703 (by decide +kernel) ?_
      refine call_i (av := [.ref n3900, .int z1, .int 0]) F hP hD hS [(n3900, .inr (12, [.ref n3000, .ref n3001, .ref n3002, .ref n3003, .int 0, .ref n3004, .int 0, .int 0, .int 0, .int 0, .int 0, .int 0, .int 0, .int 0, .int 0, .int (-1), .int 0, .ref n3005, .ref n3006, .int 0, .ref n3007, .ref n3008, .int 0, .int 0, .int 0, .int 0, .int 0, .int 0, .int 0, .ref n3009, .ref n3010, .int 0, .int 0, .ref n3011, .ref n3012, .int 0, .int 0, .ref n3013, .ref n3014, .ref n3015, .int 0, .ref n3016, .ref n3017, .ref n3018])), (n3016, .inl (cy 1, 4, .inl (upd (upd (upd (upd (fun _ => 0) 0 (-1)) 1 (-1)) 2 (-1)) 3 (-1))))] [] [0, 1] [] rfl rfl (by decide +kernel) (fun pr => va_runV (As := [.int z1, .int 0]) (rest := []) ⟨hx, hb, hml, hown, hts⟩ (k204_X12_goats l D cy H.size n3900 z1 0 n3016 n3000 n3001 n3002 n3003 n3004 n3005 n3006 n3007 n3008 n3009 n3010 n3011 n3012 n3013 n3014 n3015 n3017 n3018) (cwV 2 hts gw_X12_goats rfl rfl rfl (by decide +kernel) ⟨(by decide +kernel), (by decide +kernel)⟩) ⟨pr.1, va_recv hK hP (ci := 12) (q0 := 0) rfl rfl, pr.2⟩ rfl rfl hl.1 rfl (lv_room (Nat.le_of_ble_eq_true rfl)) dL_law_1704 ⟨(by decide +kernel), (by decide +kernel)⟩) (fun r u H locs hw hP hD hS => ?_)
      rcases hw with ⟨c800037, rfl, rfl⟩ | ⟨c800038, c800039, rfl, rfl⟩ | ⟨c800040, c800041, c800042, rfl, rfl⟩ | ⟨c800043, c800044, c800045, rfl, rfl⟩ | ⟨c800046, c800047, c800048, rfl, rfl⟩ | ⟨c800049, c800050, c800051, rfl, rfl⟩
      · exact (no_b (lo_nlt c800004) (up_lt_w c800037) (by decide +kernel)).elim
      · have hP : va_P D vwCl [(n3900, .inr (12, [.ref n3000, .ref n3001, .ref n3002, .ref n3003, .int 1, .ref n3004, .int 0, .int 0, .int 0, .int 0, .int 0, .int 0, .int 0, .int 0, .int 0, .int (-1), .int 0, .ref n3005, .ref n3006, .int 0, .ref n3007, .ref n3008, .int 0, .int 0, .int 0, .int 0, .int 0, .int 0, .int 0, .ref n3009, .ref n3010, .int 0, .int 0, .ref n3011, .ref n3012, .int 0, .int 0, .ref n3013, .ref n3014, .ref n3015, .int 0, .ref n3016, .ref n3017, .ref n3018])), (n3016, .inl (cy 1, 4, .inl (upd (upd (upd (upd (fun _ => 0) 0 (-1)) 1 (-1)) 2 (-1)) 3 (-1))))] H := hP
        have hD : va_D A [(n3900, .inr (12, [.ref n3000, .ref n3001, .ref n3002, .ref n3003, .int 1, .ref n3004, .int 0, .int 0, .int 0, .int 0, .int 0, .int 0, .int 0, .int 0, .int 0, .int (-1), .int 0, .ref n3005, .ref n3006, .int 0, .ref n3007, .ref n3008, .int 0, .int 0, .int 0, .int 0, .int 0, .int 0, .int 0, .ref n3009, .ref n3010, .int 0, .int 0, .ref n3011, .ref n3012, .int 0, .int 0, .ref n3013, .ref n3014, .ref n3015, .int 0, .ref n3016, .ref n3017, .ref n3018])), (n3016, .inl (cy 1, 4, .inl (upd (upd (upd (upd (fun _ => 0) 0 (-1)) 1 (-1)) 2 (-1)) 3 (-1))))] := hD
        refine lv_istore (lv' := [(6, .int 0), (5, .int 1), (4, .int 0), (3, .ref n5000), (2, .ref n3900), (1, .ref n1900), (0, .ref b)]) hx hb dL_law_1707 hl (by decide +kernel) rfl (fun ls hl => ?_)
        refine lv_aload_n hx hb dL_law_1709 rfl (lv_at hl 4 rfl) ?_
        refine call_i (av := [.ref n3900]) F hP hD hS [(n3900, .inr (12, [.ref n3000, .ref n3001, .ref n3002, .ref n3003, .int 1, .ref n3004, .int 0, .int 0, .int 0, .int 0, .int 0, .int 0, .int 0, .int 0, .int 0, .int (-1), .int 0, .ref n3005, .ref n3006, .int 0, .ref n3007, .ref n3008, .int 0, .int 0, .int 0, .int 0, .int 0, .int 0, .int 0, .ref n3009, .ref n3010, .int 0, .int 0, .ref n3011, .ref n3012, .int 0, .int 0, .ref n3013, .ref n3014, .ref n3015, .int 0, .ref n3016, .ref n3017, .ref n3018]))] [(n3016, .inl (cy 1, 4, .inl (upd (upd (upd (upd (fun _ => 0) 0 (-1)) 1 (-1)) 2 (-1)) 3 (-1))))] [0] [1] rfl rfl (by decide +kernel) (fun pr => va_runV (As := []) (rest := []) ⟨hx, hb, hml, hown, hts⟩ (k333_X12_thrown l D cy H.size n3900 n3000 n3001 n3002 n3003 n3004 n3005 n3006 n3007 n3008 n3009 n3010 n3011 n3012 n3013 n3014 n3015 n3016 n3017 n3018) (cwV 0 hts gw_X12_thrown rfl rfl rfl (by decide +kernel) ⟨(by decide +kernel), (by decide +kernel)⟩) ⟨pr.1, va_recv hK hP (ci := 12) (q0 := 0) rfl rfl, pr.2⟩ rfl rfl hl.1 rfl (lv_room (Nat.le_of_ble_eq_true rfl)) dL_law_1710 ⟨(by decide +kernel), (by decide +kernel)⟩) (fun r u H locs hw hP hD hS => ?_)
        rcases hw with ⟨rfl, rfl⟩
        have hP : va_P D vwCl [(n3016, .inl (cy 1, 4, .inl (upd (upd (upd (upd (fun _ => 0) 0 (-1)) 1 (-1)) 2 (-1)) 3 (-1)))), (n3900, .inr (12, [.ref n3000, .ref n3001, .ref n3002, .ref n3003, .int 1, .ref n3004, .int 0, .int 0, .int 0, .int 0, .int 0, .int 0, .int 0, .int 0, .int 0, .int (-1), .int 0, .ref n3005, .ref n3006, .int 0, .ref n3007, .ref n3008, .int 0, .int 0, .int 0, .int 0, .int 0, .int 0, .int 0, .ref n3009, .ref n3010, .int 0, .int 0, .ref n3011, .ref n3012, .int 0, .int 0, .ref n3013, .ref n3014, .ref n3015, .int 0, .ref n3016, .ref n3017, .ref n3018]))] H := hP
        have hD : va_D A [(n3016, .inl (cy 1, 4, .inl (upd (upd (upd (upd (fun _ => 0) 0 (-1)) 1 (-1)) 2 (-1)) 3 (-1)))), (n3900, .inr (12, [.ref n3000, .ref n3001, .ref n3002, .ref n3003, .int 1, .ref n3004, .int 0, .int 0, .int 0, .int 0, .int 0, .int 0, .int 0, .int 0, .int 0, .int (-1), .int 0, .ref n3005, .ref n3006, .int 0, .ref n3007, .ref n3008, .int 0, .int 0, .int 0, .int 0, .int 0, .int 0, .int 0, .ref n3009, .ref n3010, .int 0, .int 0, .ref n3011, .ref n3012, .int 0, .int 0, .ref n3013, .ref n3014, .ref n3015, .int 0, .ref n3016, .ref n3017, .ref n3018]))] := hD
        refine lv_iload hx hb dL_law_1713 (lv_at hl 1 rfl) ?_
        refine lv_icmp_eq (tgt := 1720) hx hb dL_law_1715 (by decide +kernel) (fun _ => ?_) (fun h => absurd (by decide +kernel) h)
        refine lv_iload hx hb dL_law_1720 (lv_at hl 1 rfl) ?_
        refine lv_if_ne (tgt := 1737) hx hb dL_law_1722 (by decide +kernel) (fun _ => ?_) (fun h => absurd h (by decide +kernel))
        refine lv_goto (tgt := 2458) hx hb dL_law_1737 (by decide +kernel) ?_
        refine lv_iinc (v := 6) (lv' := [(4, .int 6), (6, .int 0), (5, .int 1), (3, .ref n5000), (2, .ref n3900), (1, .ref n1900), (0, .ref b)]) hx hb dL_law_2458 hl (k := 2) rfl (by decide) (by decide +kernel) rfl (fun ls hl => ?_)
        refine lv_goto (tgt := 23) hx hb dL_law_2461 (by decide +kernel) ?_
        refine lv_iload hx hb dL_law_23 (lv_at hl 0 rfl) ?_
        refine lv_aload_n hx hb dL_law_25 rfl (lv_at hl 6 rfl) ?_
        refine va_slen hx hb hX hbl hbA hS dL_law_26 ?_
        refine top_i (v := 6) rfl ?_
        refine lv_bipush (v := 6) hx hb dL_law_27 (by decide +kernel) ?_
        refine lv_isub hx hb dL_law_29 ?_
        refine top_i (v := 0) (by decide +kernel) ?_
        refine lv_icmp_gt (tgt := 2464) hx hb dL_law_30 (by decide +kernel) (fun _ => ?_) (fun h => absurd (by decide +kernel) h)
        refine lv_iconst (v := 1) hx hb dL_law_2464 (by decide +kernel) ?_
        refine va_forget (fun q hq => hAq _ (hS.2.2 q hq)) ?_
        refine W.widen (k := 600002) (n := 7302232) (by decide +kernel) (by decide +kernel) ?_
        exact lw_ret hx hb hr hlk dL_law_2465
      · exact (no_b (lo_nlt c800004) (up_nlt_w c800041) (by decide +kernel)).elim
      · exact (no_b (lo_nlt c800004) (up_nlt_w c800044) (by decide +kernel)).elim
      · exact (no_b (lo_nlt c800004) (up_nlt_w c800047) (by decide +kernel)).elim
      · exact (no_b (lo_nlt c800004) (up_nlt_w c800050) (by decide +kernel)).elim
    · subst c800007
      have hP : va_P D vwCl [(n3900, .inr (12, [.ref n3000, .ref n3001, .ref n3002, .ref n3003, .int 0, .ref n3004, .int 0, .int 0, .int 0, .int 0, .int 0, .int 0, .int 0, .int 0, .int 0, .int (-1), .int 0, .ref n3005, .ref n3006, .int 0, .ref n3007, .ref n3008, .int 0, .int 0, .int 0, .int 0, .int 0, .int 0, .int 0, .ref n3009, .ref n3010, .int 0, .int 0, .ref n3011, .ref n3012, .int 0, .int 0, .ref n3013, .ref n3014, .ref n3015, .int 0, .ref n3016, .ref n3017, .ref n3018])), (n3016, .inl (cy 1, 4, .inl (upd (upd (upd (upd (fun _ => 0) 0 (-1)) 1 (-1)) 2 (-1)) 3 (-1))))] H := hP
      have hD : va_D A [(n3900, .inr (12, [.ref n3000, .ref n3001, .ref n3002, .ref n3003, .int 0, .ref n3004, .int 0, .int 0, .int 0, .int 0, .int 0, .int 0, .int 0, .int 0, .int 0, .int (-1), .int 0, .ref n3005, .ref n3006, .int 0, .ref n3007, .ref n3008, .int 0, .int 0, .int 0, .int 0, .int 0, .int 0, .int 0, .ref n3009, .ref n3010, .int 0, .int 0, .ref n3011, .ref n3012, .int 0, .int 0, .ref n3013, .ref n3014, .ref n3015, .int 0, .ref n3016, .ref n3017, .ref n3018])), (n3016, .inl (cy 1, 4, .inl (upd (upd (upd (upd (fun _ => 0) 0 (-1)) 1 (-1)) 2 (-1)) 3 (-1))))] := hD
      refine lv_istore (lv' := [(5, .int 2), (4, .int 0), (3, .ref n5000), (2, .ref n3900), (1, .ref n1900), (0, .ref b)]) hx hb dL_law_1681 hl (by decide +kernel) rfl (fun ls hl => ?_)
      refine lv_aload_n hx hb dL_law_1683 rfl (lv_at hl 3 rfl) ?_
      refine lv_aload_n hx hb dL_law_1684 rfl (lv_at hl 5 rfl) ?_
      refine lv_iload hx hb dL_law_1685 (lv_at hl 1 rfl) ?_
      refine lv_iconst (v := 1) hx hb dL_law_1687 (by decide +kernel) ?_
      refine lv_iadd hx hb dL_law_1688 ?_
      refine top_i (v := 1) (by decide +kernel) ?_
      refine va_sld hx hb hX hbl hbA hS (i := 1) (vin (by decide +kernel)) dL_law_1689 ?_
      refine top_i (v := 0) ez1 ?_
      refine lv_aload_n hx hb dL_law_1690 rfl (lv_at hl 5 rfl) ?_
      refine lv_iload hx hb dL_law_1691 (lv_at hl 1 rfl) ?_
      refine lv_iconst (v := 2) hx hb dL_law_1693 (by decide +kernel) ?_
      refine lv_iadd hx hb dL_law_1694 ?_
      refine top_i (v := 2) (by decide +kernel) ?_
      refine va_sld hx hb hX hbl hbA hS (i := 2) (vin (by decide +kernel)) dL_law_1695 ?_
      refine top_i (v := 0) ez2 ?_
      refine lv_if_eq (tgt := 1703) hx hb dL_law_1696 (by decide +kernel) (fun _ => ?_) (fun h => absurd (by decide +kernel) h)
      refine lv_iconst (v := 0) hx hb dL_law_1703 (by decide +kernel) ?_
      refine call_i (av := [.ref n3900, .int 0, .int 0]) F hP hD hS [(n3900, .inr (12, [.ref n3000, .ref n3001, .ref n3002, .ref n3003, .int 0, .ref n3004, .int 0, .int 0, .int 0, .int 0, .int 0, .int 0, .int 0, .int 0, .int 0, .int (-1), .int 0, .ref n3005, .ref n3006, .int 0, .ref n3007, .ref n3008, .int 0, .int 0, .int 0, .int 0, .int 0, .int 0, .int 0, .ref n3009, .ref n3010, .int 0, .int 0, .ref n3011, .ref n3012, .int 0, .int 0, .ref n3013, .ref n3014, .ref n3015, .int 0, .ref n3016, .ref n3017, .ref n3018])), (n3016, .inl (cy 1, 4, .inl (upd (upd (upd (upd (fun _ => 0) 0 (-1)) 1 (-1)) 2 (-1)) 3 (-1))))] [] [0, 1] [] rfl rfl (by decide +kernel) (fun pr => va_runV (As := [.int 0, .int 0]) (rest := []) ⟨hx, hb, hml, hown, hts⟩ (k204_X12_goats l D cy H.size n3900 0 0 n3016 n3000 n3001 n3002 n3003 n3004 n3005 n3006 n3007 n3008 n3009 n3010 n3011 n3012 n3013 n3014 n3015 n3017 n3018) (cwV 2 hts gw_X12_goats rfl rfl rfl (by decide +kernel) ⟨(by decide +kernel), (by decide +kernel)⟩) ⟨pr.1, va_recv hK hP (ci := 12) (q0 := 0) rfl rfl, pr.2⟩ rfl rfl hl.1 rfl (lv_room (Nat.le_of_ble_eq_true rfl)) dL_law_1704 ⟨(by decide +kernel), (by decide +kernel)⟩) (fun r u H locs hw hP hD hS => ?_)
      rcases hw with ⟨c800056, rfl, rfl⟩ | ⟨c800057, c800058, rfl, rfl⟩ | ⟨c800059, c800060, c800061, rfl, rfl⟩ | ⟨c800062, c800063, c800064, rfl, rfl⟩ | ⟨c800065, c800066, c800067, rfl, rfl⟩ | ⟨c800068, c800069, c800070, rfl, rfl⟩
      · exact absurd c800056 (by decide +kernel)
      · exact absurd c800058 (by decide +kernel)
      · have hP : va_P D vwCl [(n3900, .inr (12, [.ref n3000, .ref n3001, .ref n3002, .ref n3003, .int 2, .ref n3004, .int 0, .int 0, .int 0, .int 0, .int 0, .int 0, .int 0, .int 0, .int 0, .int (-1), .int 0, .ref n3005, .ref n3006, .int 0, .ref n3007, .ref n3008, .int 0, .int 0, .int 0, .int 0, .int 0, .int 0, .int 0, .ref n3009, .ref n3010, .int 0, .int 0, .ref n3011, .ref n3012, .int 0, .int 0, .ref n3013, .ref n3014, .ref n3015, .int 0, .ref n3016, .ref n3017, .ref n3018])), (n3016, .inl (cy 1, 4, .inl (upd (upd (upd (upd (fun _ => 0) 0 (-1)) 1 (-1)) 2 (-1)) 3 (-1))))] H := hP
        have hD : va_D A [(n3900, .inr (12, [.ref n3000, .ref n3001, .ref n3002, .ref n3003, .int 2, .ref n3004, .int 0, .int 0, .int 0, .int 0, .int 0, .int 0, .int 0, .int 0, .int 0, .int (-1), .int 0, .ref n3005, .ref n3006, .int 0, .ref n3007, .ref n3008, .int 0, .int 0, .int 0, .int 0, .int 0, .int 0, .int 0, .ref n3009, .ref n3010, .int 0, .int 0, .ref n3011, .ref n3012, .int 0, .int 0, .ref n3013, .ref n3014, .ref n3015, .int 0, .ref n3016, .ref n3017, .ref n3018])), (n3016, .inl (cy 1, 4, .inl (upd (upd (upd (upd (fun _ => 0) 0 (-1)) 1 (-1)) 2 (-1)) 3 (-1))))] := hD
        refine lv_istore (lv' := [(6, .int 0), (5, .int 2), (4, .int 0), (3, .ref n5000), (2, .ref n3900), (1, .ref n1900), (0, .ref b)]) hx hb dL_law_1707 hl (by decide +kernel) rfl (fun ls hl => ?_)
        refine lv_aload_n hx hb dL_law_1709 rfl (lv_at hl 4 rfl) ?_
        refine call_i (av := [.ref n3900]) F hP hD hS [(n3900, .inr (12, [.ref n3000, .ref n3001, .ref n3002, .ref n3003, .int 2, .ref n3004, .int 0, .int 0, .int 0, .int 0, .int 0, .int 0, .int 0, .int 0, .int 0, .int (-1), .int 0, .ref n3005, .ref n3006, .int 0, .ref n3007, .ref n3008, .int 0, .int 0, .int 0, .int 0, .int 0, .int 0, .int 0, .ref n3009, .ref n3010, .int 0, .int 0, .ref n3011, .ref n3012, .int 0, .int 0, .ref n3013, .ref n3014, .ref n3015, .int 0, .ref n3016, .ref n3017, .ref n3018]))] [(n3016, .inl (cy 1, 4, .inl (upd (upd (upd (upd (fun _ => 0) 0 (-1)) 1 (-1)) 2 (-1)) 3 (-1))))] [0] [1] rfl rfl (by decide +kernel) (fun pr => va_runV (As := []) (rest := []) ⟨hx, hb, hml, hown, hts⟩ (k335_X12_thrown l D cy H.size n3900 n3000 n3001 n3002 n3003 n3004 n3005 n3006 n3007 n3008 n3009 n3010 n3011 n3012 n3013 n3014 n3015 n3016 n3017 n3018) (cwV 0 hts gw_X12_thrown rfl rfl rfl (by decide +kernel) ⟨(by decide +kernel), (by decide +kernel)⟩) ⟨pr.1, va_recv hK hP (ci := 12) (q0 := 0) rfl rfl, pr.2⟩ rfl rfl hl.1 rfl (lv_room (Nat.le_of_ble_eq_true rfl)) dL_law_1710 ⟨(by decide +kernel), (by decide +kernel)⟩) (fun r u H locs hw hP hD hS => ?_)
        rcases hw with ⟨rfl, rfl⟩
        have hP : va_P D vwCl [(n3016, .inl (cy 1, 4, .inl (upd (upd (upd (upd (fun _ => 0) 0 (-1)) 1 (-1)) 2 (-1)) 3 (-1)))), (n3900, .inr (12, [.ref n3000, .ref n3001, .ref n3002, .ref n3003, .int 2, .ref n3004, .int 0, .int 0, .int 0, .int 0, .int 0, .int 0, .int 0, .int 0, .int 0, .int (-1), .int 0, .ref n3005, .ref n3006, .int 0, .ref n3007, .ref n3008, .int 0, .int 0, .int 0, .int 0, .int 0, .int 0, .int 0, .ref n3009, .ref n3010, .int 0, .int 0, .ref n3011, .ref n3012, .int 0, .int 0, .ref n3013, .ref n3014, .ref n3015, .int 0, .ref n3016, .ref n3017, .ref n3018]))] H := hP
        have hD : va_D A [(n3016, .inl (cy 1, 4, .inl (upd (upd (upd (upd (fun _ => 0) 0 (-1)) 1 (-1)) 2 (-1)) 3 (-1)))), (n3900, .inr (12, [.ref n3000, .ref n3001, .ref n3002, .ref n3003, .int 2, .ref n3004, .int 0, .int 0, .int 0, .int 0, .int 0, .int 0, .int 0, .int 0, .int 0, .int (-1), .int 0, .ref n3005, .ref n3006, .int 0, .ref n3007, .ref n3008, .int 0, .int 0, .int 0, .int 0, .int 0, .int 0, .int 0, .ref n3009, .ref n3010, .int 0, .int 0, .ref n3011, .ref n3012, .int 0, .int 0, .ref n3013, .ref n3014, .ref n3015, .int 0, .ref n3016, .ref n3017, .ref n3018]))] := hD
        refine lv_iload hx hb dL_law_1713 (lv_at hl 1 rfl) ?_
        refine lv_icmp_eq (tgt := 1720) hx hb dL_law_1715 (by decide +kernel) (fun _ => ?_) (fun h => absurd (by decide +kernel) h)
        refine lv_iload hx hb dL_law_1720 (lv_at hl 1 rfl) ?_
        refine lv_if_ne (tgt := 1737) hx hb dL_law_1722 (by decide +kernel) (fun _ => ?_) (fun h => absurd h (by decide +kernel))
        refine lv_goto (tgt := 2458) hx hb dL_law_1737 (by decide +kernel) ?_
        refine lv_iinc (v := 6) (lv' := [(4, .int 6), (6, .int 0), (5, .int 2), (3, .ref n5000), (2, .ref n3900), (1, .ref n1900), (0, .ref b)]) hx hb dL_law_2458 hl (k := 2) rfl (by decide) (by decide +kernel) rfl (fun ls hl => ?_)
        refine lv_goto (tgt := 23) hx hb dL_law_2461 (by decide +kernel) ?_
        refine lv_iload hx hb dL_law_23 (lv_at hl 0 rfl) ?_
        refine lv_aload_n hx hb dL_law_25 rfl (lv_at hl 6 rfl) ?_
        refine va_slen hx hb hX hbl hbA hS dL_law_26 ?_
        refine top_i (v := 6) rfl ?_
        refine lv_bipush (v := 6) hx hb dL_law_27 (by decide +kernel) ?_
        refine lv_isub hx hb dL_law_29 ?_
        refine top_i (v := 0) (by decide +kernel) ?_
        refine lv_icmp_gt (tgt := 2464) hx hb dL_law_30 (by decide +kernel) (fun _ => ?_) (fun h => absurd (by decide +kernel) h)
        refine lv_iconst (v := 1) hx hb dL_law_2464 (by decide +kernel) ?_
        refine va_forget (fun q hq => hAq _ (hS.2.2 q hq)) ?_
        refine W.widen (k := 600002) (n := 7302232) (by decide +kernel) (by decide +kernel) ?_
        exact lw_ret hx hb hr hlk dL_law_2465
      · exact absurd c800064 (by decide +kernel)
      · exact absurd c800067 (by decide +kernel)
      · exact absurd c800070 (by decide +kernel)
    · subst c800010
      have hP : va_P D vwCl [(n3900, .inr (12, [.ref n3000, .ref n3001, .ref n3002, .ref n3003, .int 0, .ref n3004, .int 0, .int 0, .int 0, .int 0, .int 0, .int 0, .int 0, .int 0, .int 0, .int (-1), .int 0, .ref n3005, .ref n3006, .int 0, .ref n3007, .ref n3008, .int 0, .int 0, .int 0, .int 0, .int 0, .int 0, .int 0, .ref n3009, .ref n3010, .int 0, .int 0, .ref n3011, .ref n3012, .int 0, .int 0, .ref n3013, .ref n3014, .ref n3015, .int 0, .ref n3016, .ref n3017, .ref n3018])), (n3016, .inl (cy 1, 4, .inl (upd (upd (upd (upd (fun _ => 0) 0 (-1)) 1 (-1)) 2 (-1)) 3 (-1))))] H := hP
      have hD : va_D A [(n3900, .inr (12, [.ref n3000, .ref n3001, .ref n3002, .ref n3003, .int 0, .ref n3004, .int 0, .int 0, .int 0, .int 0, .int 0, .int 0, .int 0, .int 0, .int 0, .int (-1), .int 0, .ref n3005, .ref n3006, .int 0, .ref n3007, .ref n3008, .int 0, .int 0, .int 0, .int 0, .int 0, .int 0, .int 0, .ref n3009, .ref n3010, .int 0, .int 0, .ref n3011, .ref n3012, .int 0, .int 0, .ref n3013, .ref n3014, .ref n3015, .int 0, .ref n3016, .ref n3017, .ref n3018])), (n3016, .inl (cy 1, 4, .inl (upd (upd (upd (upd (fun _ => 0) 0 (-1)) 1 (-1)) 2 (-1)) 3 (-1))))] := hD
      refine lv_istore (lv' := [(5, .int 2), (4, .int 0), (3, .ref n5000), (2, .ref n3900), (1, .ref n1900), (0, .ref b)]) hx hb dL_law_1681 hl (by decide +kernel) rfl (fun ls hl => ?_)
      refine lv_aload_n hx hb dL_law_1683 rfl (lv_at hl 3 rfl) ?_
      refine lv_aload_n hx hb dL_law_1684 rfl (lv_at hl 5 rfl) ?_
      refine lv_iload hx hb dL_law_1685 (lv_at hl 1 rfl) ?_
      refine lv_iconst (v := 1) hx hb dL_law_1687 (by decide +kernel) ?_
      refine lv_iadd hx hb dL_law_1688 ?_
      refine top_i (v := 1) (by decide +kernel) ?_
      refine va_sld hx hb hX hbl hbA hS (i := 1) (vin (by decide +kernel)) dL_law_1689 ?_
      refine top_i (v := 1) ez1 ?_
      refine lv_aload_n hx hb dL_law_1690 rfl (lv_at hl 5 rfl) ?_
      refine lv_iload hx hb dL_law_1691 (lv_at hl 1 rfl) ?_
      refine lv_iconst (v := 2) hx hb dL_law_1693 (by decide +kernel) ?_
      refine lv_iadd hx hb dL_law_1694 ?_
      refine top_i (v := 2) (by decide +kernel) ?_
      refine va_sld hx hb hX hbl hbA hS (i := 2) (vin (by decide +kernel)) dL_law_1695 ?_
      refine top_i (v := 0) ez2 ?_
      refine lv_if_eq (tgt := 1703) hx hb dL_law_1696 (by decide +kernel) (fun _ => ?_) (fun h => absurd (by decide +kernel) h)
      refine lv_iconst (v := 0) hx hb dL_law_1703 (by decide +kernel) ?_
      refine call_i (av := [.ref n3900, .int 1, .int 0]) F hP hD hS [(n3900, .inr (12, [.ref n3000, .ref n3001, .ref n3002, .ref n3003, .int 0, .ref n3004, .int 0, .int 0, .int 0, .int 0, .int 0, .int 0, .int 0, .int 0, .int 0, .int (-1), .int 0, .ref n3005, .ref n3006, .int 0, .ref n3007, .ref n3008, .int 0, .int 0, .int 0, .int 0, .int 0, .int 0, .int 0, .ref n3009, .ref n3010, .int 0, .int 0, .ref n3011, .ref n3012, .int 0, .int 0, .ref n3013, .ref n3014, .ref n3015, .int 0, .ref n3016, .ref n3017, .ref n3018])), (n3016, .inl (cy 1, 4, .inl (upd (upd (upd (upd (fun _ => 0) 0 (-1)) 1 (-1)) 2 (-1)) 3 (-1))))] [] [0, 1] [] rfl rfl (by decide +kernel) (fun pr => va_runV (As := [.int 1, .int 0]) (rest := []) ⟨hx, hb, hml, hown, hts⟩ (k204_X12_goats l D cy H.size n3900 1 0 n3016 n3000 n3001 n3002 n3003 n3004 n3005 n3006 n3007 n3008 n3009 n3010 n3011 n3012 n3013 n3014 n3015 n3017 n3018) (cwV 2 hts gw_X12_goats rfl rfl rfl (by decide +kernel) ⟨(by decide +kernel), (by decide +kernel)⟩) ⟨pr.1, va_recv hK hP (ci := 12) (q0 := 0) rfl rfl, pr.2⟩ rfl rfl hl.1 rfl (lv_room (Nat.le_of_ble_eq_true rfl)) dL_law_1704 ⟨(by decide +kernel), (by decide +kernel)⟩) (fun r u H locs hw hP hD hS => ?_)
      rcases hw with ⟨c800075, rfl, rfl⟩ | ⟨c800076, c800077, rfl, rfl⟩ | ⟨c800078, c800079, c800080, rfl, rfl⟩ | ⟨c800081, c800082, c800083, rfl, rfl⟩ | ⟨c800084, c800085, c800086, rfl, rfl⟩ | ⟨c800087, c800088, c800089, rfl, rfl⟩
      · exact absurd c800075 (by decide +kernel)
      · exact absurd c800077 (by decide +kernel)
      · exact absurd c800080 (by decide +kernel)
      · have hP : va_P D vwCl [(n3900, .inr (12, [.ref n3000, .ref n3001, .ref n3002, .ref n3003, .int 2, .ref n3004, .int 0, .int 0, .int 0, .int 0, .int 0, .int 0, .int 0, .int 0, .int 0, .int (-1), .int 0, .ref n3005, .ref n3006, .int 0, .ref n3007, .ref n3008, .int 0, .int 0, .int 0, .int 0, .int 0, .int 0, .int 0, .ref n3009, .ref n3010, .int 0, .int 0, .ref n3011, .ref n3012, .int 0, .int 0, .ref n3013, .ref n3014, .ref n3015, .int 0, .ref n3016, .ref n3017, .ref n3018])), (n3016, .inl (cy 1, 4, .inl (upd (upd (upd (upd (fun _ => 0) 0 (-1)) 1 (-1)) 2 (-1)) 3 (-1))))] H := hP
        have hD : va_D A [(n3900, .inr (12, [.ref n3000, .ref n3001, .ref n3002, .ref n3003, .int 2, .ref n3004, .int 0, .int 0, .int 0, .int 0, .int 0, .int 0, .int 0, .int 0, .int 0, .int (-1), .int 0, .ref n3005, .ref n3006, .int 0, .ref n3007, .ref n3008, .int 0, .int 0, .int 0, .int 0, .int 0, .int 0, .int 0, .ref n3009, .ref n3010, .int 0, .int 0, .ref n3011, .ref n3012, .int 0, .int 0, .ref n3013, .ref n3014, .ref n3015, .int 0, .ref n3016, .ref n3017, .ref n3018])), (n3016, .inl (cy 1, 4, .inl (upd (upd (upd (upd (fun _ => 0) 0 (-1)) 1 (-1)) 2 (-1)) 3 (-1))))] := hD
        refine lv_istore (lv' := [(6, .int 0), (5, .int 2), (4, .int 0), (3, .ref n5000), (2, .ref n3900), (1, .ref n1900), (0, .ref b)]) hx hb dL_law_1707 hl (by decide +kernel) rfl (fun ls hl => ?_)
        refine lv_aload_n hx hb dL_law_1709 rfl (lv_at hl 4 rfl) ?_
        refine call_i (av := [.ref n3900]) F hP hD hS [(n3900, .inr (12, [.ref n3000, .ref n3001, .ref n3002, .ref n3003, .int 2, .ref n3004, .int 0, .int 0, .int 0, .int 0, .int 0, .int 0, .int 0, .int 0, .int 0, .int (-1), .int 0, .ref n3005, .ref n3006, .int 0, .ref n3007, .ref n3008, .int 0, .int 0, .int 0, .int 0, .int 0, .int 0, .int 0, .ref n3009, .ref n3010, .int 0, .int 0, .ref n3011, .ref n3012, .int 0, .int 0, .ref n3013, .ref n3014, .ref n3015, .int 0, .ref n3016, .ref n3017, .ref n3018]))] [(n3016, .inl (cy 1, 4, .inl (upd (upd (upd (upd (fun _ => 0) 0 (-1)) 1 (-1)) 2 (-1)) 3 (-1))))] [0] [1] rfl rfl (by decide +kernel) (fun pr => va_runV (As := []) (rest := []) ⟨hx, hb, hml, hown, hts⟩ (k335_X12_thrown l D cy H.size n3900 n3000 n3001 n3002 n3003 n3004 n3005 n3006 n3007 n3008 n3009 n3010 n3011 n3012 n3013 n3014 n3015 n3016 n3017 n3018) (cwV 0 hts gw_X12_thrown rfl rfl rfl (by decide +kernel) ⟨(by decide +kernel), (by decide +kernel)⟩) ⟨pr.1, va_recv hK hP (ci := 12) (q0 := 0) rfl rfl, pr.2⟩ rfl rfl hl.1 rfl (lv_room (Nat.le_of_ble_eq_true rfl)) dL_law_1710 ⟨(by decide +kernel), (by decide +kernel)⟩) (fun r u H locs hw hP hD hS => ?_)
        rcases hw with ⟨rfl, rfl⟩
        have hP : va_P D vwCl [(n3016, .inl (cy 1, 4, .inl (upd (upd (upd (upd (fun _ => 0) 0 (-1)) 1 (-1)) 2 (-1)) 3 (-1)))), (n3900, .inr (12, [.ref n3000, .ref n3001, .ref n3002, .ref n3003, .int 2, .ref n3004, .int 0, .int 0, .int 0, .int 0, .int 0, .int 0, .int 0, .int 0, .int 0, .int (-1), .int 0, .ref n3005, .ref n3006, .int 0, .ref n3007, .ref n3008, .int 0, .int 0, .int 0, .int 0, .int 0, .int 0, .int 0, .ref n3009, .ref n3010, .int 0, .int 0, .ref n3011, .ref n3012, .int 0, .int 0, .ref n3013, .ref n3014, .ref n3015, .int 0, .ref n3016, .ref n3017, .ref n3018]))] H := hP
        have hD : va_D A [(n3016, .inl (cy 1, 4, .inl (upd (upd (upd (upd (fun _ => 0) 0 (-1)) 1 (-1)) 2 (-1)) 3 (-1)))), (n3900, .inr (12, [.ref n3000, .ref n3001, .ref n3002, .ref n3003, .int 2, .ref n3004, .int 0, .int 0, .int 0, .int 0, .int 0, .int 0, .int 0, .int 0, .int 0, .int (-1), .int 0, .ref n3005, .ref n3006, .int 0, .ref n3007, .ref n3008, .int 0, .int 0, .int 0, .int 0, .int 0, .int 0, .int 0, .ref n3009, .ref n3010, .int 0, .int 0, .ref n3011, .ref n3012, .int 0, .int 0, .ref n3013, .ref n3014, .ref n3015, .int 0, .ref n3016, .ref n3017, .ref n3018]))] := hD
        refine lv_iload hx hb dL_law_1713 (lv_at hl 1 rfl) ?_
        refine lv_icmp_eq (tgt := 1720) hx hb dL_law_1715 (by decide +kernel) (fun _ => ?_) (fun h => absurd (by decide +kernel) h)
        refine lv_iload hx hb dL_law_1720 (lv_at hl 1 rfl) ?_
        refine lv_if_ne (tgt := 1737) hx hb dL_law_1722 (by decide +kernel) (fun _ => ?_) (fun h => absurd h (by decide +kernel))
        refine lv_goto (tgt := 2458) hx hb dL_law_1737 (by decide +kernel) ?_
        refine lv_iinc (v := 6) (lv' := [(4, .int 6), (6, .int 0), (5, .int 2), (3, .ref n5000), (2, .ref n3900), (1, .ref n1900), (0, .ref b)]) hx hb dL_law_2458 hl (k := 2) rfl (by decide) (by decide +kernel) rfl (fun ls hl => ?_)
        refine lv_goto (tgt := 23) hx hb dL_law_2461 (by decide +kernel) ?_
        refine lv_iload hx hb dL_law_23 (lv_at hl 0 rfl) ?_
        refine lv_aload_n hx hb dL_law_25 rfl (lv_at hl 6 rfl) ?_
        refine va_slen hx hb hX hbl hbA hS dL_law_26 ?_
        refine top_i (v := 6) rfl ?_
        refine lv_bipush (v := 6) hx hb dL_law_27 (by decide +kernel) ?_
        refine lv_isub hx hb dL_law_29 ?_
        refine top_i (v := 0) (by decide +kernel) ?_
        refine lv_icmp_gt (tgt := 2464) hx hb dL_law_30 (by decide +kernel) (fun _ => ?_) (fun h => absurd (by decide +kernel) h)
        refine lv_iconst (v := 1) hx hb dL_law_2464 (by decide +kernel) ?_
        refine va_forget (fun q hq => hAq _ (hS.2.2 q hq)) ?_
        refine W.widen (k := 600002) (n := 7302232) (by decide +kernel) (by decide +kernel) ?_
        exact lw_ret hx hb hr hlk dL_law_2465
      · exact absurd c800086 (by decide +kernel)
      · exact absurd c800089 (by decide +kernel)
    · subst c800013
      have hP : va_P D vwCl [(n3900, .inr (12, [.ref n3000, .ref n3001, .ref n3002, .ref n3003, .int 0, .ref n3004, .int 0, .int 0, .int 0, .int 0, .int 0, .int 0, .int 0, .int 0, .int 0, .int (-1), .int 0, .ref n3005, .ref n3006, .int 0, .ref n3007, .ref n3008, .int 0, .int 0, .int 0, .int 0, .int 0, .int 0, .int 0, .ref n3009, .ref n3010, .int 0, .int 0, .ref n3011, .ref n3012, .int 0, .int 0, .ref n3013, .ref n3014, .ref n3015, .int 0, .ref n3016, .ref n3017, .ref n3018])), (n3016, .inl (cy 1, 4, .inl (upd (upd (upd (upd (fun _ => 0) 0 (-1)) 1 (-1)) 2 (-1)) 3 (-1))))] H := hP
      have hD : va_D A [(n3900, .inr (12, [.ref n3000, .ref n3001, .ref n3002, .ref n3003, .int 0, .ref n3004, .int 0, .int 0, .int 0, .int 0, .int 0, .int 0, .int 0, .int 0, .int 0, .int (-1), .int 0, .ref n3005, .ref n3006, .int 0, .ref n3007, .ref n3008, .int 0, .int 0, .int 0, .int 0, .int 0, .int 0, .int 0, .ref n3009, .ref n3010, .int 0, .int 0, .ref n3011, .ref n3012, .int 0, .int 0, .ref n3013, .ref n3014, .ref n3015, .int 0, .ref n3016, .ref n3017, .ref n3018])), (n3016, .inl (cy 1, 4, .inl (upd (upd (upd (upd (fun _ => 0) 0 (-1)) 1 (-1)) 2 (-1)) 3 (-1))))] := hD
      refine lv_istore (lv' := [(5, .int 2), (4, .int 0), (3, .ref n5000), (2, .ref n3900), (1, .ref n1900), (0, .ref b)]) hx hb dL_law_1681 hl (by decide +kernel) rfl (fun ls hl => ?_)
      refine lv_aload_n hx hb dL_law_1683 rfl (lv_at hl 3 rfl) ?_
      refine lv_aload_n hx hb dL_law_1684 rfl (lv_at hl 5 rfl) ?_
      refine lv_iload hx hb dL_law_1685 (lv_at hl 1 rfl) ?_
      refine lv_iconst (v := 1) hx hb dL_law_1687 (by decide +kernel) ?_
      refine lv_iadd hx hb dL_law_1688 ?_
      refine top_i (v := 1) (by decide +kernel) ?_
      refine va_sld hx hb hX hbl hbA hS (i := 1) (vin (by decide +kernel)) dL_law_1689 ?_
      refine top_i (v := 2) ez1 ?_
      refine lv_aload_n hx hb dL_law_1690 rfl (lv_at hl 5 rfl) ?_
      refine lv_iload hx hb dL_law_1691 (lv_at hl 1 rfl) ?_
      refine lv_iconst (v := 2) hx hb dL_law_1693 (by decide +kernel) ?_
      refine lv_iadd hx hb dL_law_1694 ?_
      refine top_i (v := 2) (by decide +kernel) ?_
      refine va_sld hx hb hX hbl hbA hS (i := 2) (vin (by decide +kernel)) dL_law_1695 ?_
      refine top_i (v := 0) ez2 ?_
      refine lv_if_eq (tgt := 1703) hx hb dL_law_1696 (by decide +kernel) (fun _ => ?_) (fun h => absurd (by decide +kernel) h)
      refine lv_iconst (v := 0) hx hb dL_law_1703 (by decide +kernel) ?_
      refine call_i (av := [.ref n3900, .int 2, .int 0]) F hP hD hS [(n3900, .inr (12, [.ref n3000, .ref n3001, .ref n3002, .ref n3003, .int 0, .ref n3004, .int 0, .int 0, .int 0, .int 0, .int 0, .int 0, .int 0, .int 0, .int 0, .int (-1), .int 0, .ref n3005, .ref n3006, .int 0, .ref n3007, .ref n3008, .int 0, .int 0, .int 0, .int 0, .int 0, .int 0, .int 0, .ref n3009, .ref n3010, .int 0, .int 0, .ref n3011, .ref n3012, .int 0, .int 0, .ref n3013, .ref n3014, .ref n3015, .int 0, .ref n3016, .ref n3017, .ref n3018])), (n3016, .inl (cy 1, 4, .inl (upd (upd (upd (upd (fun _ => 0) 0 (-1)) 1 (-1)) 2 (-1)) 3 (-1))))] [] [0, 1] [] rfl rfl (by decide +kernel) (fun pr => va_runV (As := [.int 2, .int 0]) (rest := []) ⟨hx, hb, hml, hown, hts⟩ (k204_X12_goats l D cy H.size n3900 2 0 n3016 n3000 n3001 n3002 n3003 n3004 n3005 n3006 n3007 n3008 n3009 n3010 n3011 n3012 n3013 n3014 n3015 n3017 n3018) (cwV 2 hts gw_X12_goats rfl rfl rfl (by decide +kernel) ⟨(by decide +kernel), (by decide +kernel)⟩) ⟨pr.1, va_recv hK hP (ci := 12) (q0 := 0) rfl rfl, pr.2⟩ rfl rfl hl.1 rfl (lv_room (Nat.le_of_ble_eq_true rfl)) dL_law_1704 ⟨(by decide +kernel), (by decide +kernel)⟩) (fun r u H locs hw hP hD hS => ?_)
      rcases hw with ⟨c800094, rfl, rfl⟩ | ⟨c800095, c800096, rfl, rfl⟩ | ⟨c800097, c800098, c800099, rfl, rfl⟩ | ⟨c800100, c800101, c800102, rfl, rfl⟩ | ⟨c800103, c800104, c800105, rfl, rfl⟩ | ⟨c800106, c800107, c800108, rfl, rfl⟩
      · exact absurd c800094 (by decide +kernel)
      · exact absurd c800096 (by decide +kernel)
      · exact absurd c800099 (by decide +kernel)
      · exact absurd c800102 (by decide +kernel)
      · have hP : va_P D vwCl [(n3900, .inr (12, [.ref n3000, .ref n3001, .ref n3002, .ref n3003, .int 2, .ref n3004, .int 0, .int 0, .int 0, .int 0, .int 0, .int 0, .int 0, .int 0, .int 0, .int (-1), .int 0, .ref n3005, .ref n3006, .int 0, .ref n3007, .ref n3008, .int 0, .int 0, .int 0, .int 0, .int 0, .int 0, .int 0, .ref n3009, .ref n3010, .int 0, .int 0, .ref n3011, .ref n3012, .int 0, .int 0, .ref n3013, .ref n3014, .ref n3015, .int 0, .ref n3016, .ref n3017, .ref n3018])), (n3016, .inl (cy 1, 4, .inl (upd (upd (upd (upd (fun _ => 0) 0 (-1)) 1 (-1)) 2 (-1)) 3 (-1))))] H := hP
        have hD : va_D A [(n3900, .inr (12, [.ref n3000, .ref n3001, .ref n3002, .ref n3003, .int 2, .ref n3004, .int 0, .int 0, .int 0, .int 0, .int 0, .int 0, .int 0, .int 0, .int 0, .int (-1), .int 0, .ref n3005, .ref n3006, .int 0, .ref n3007, .ref n3008, .int 0, .int 0, .int 0, .int 0, .int 0, .int 0, .int 0, .ref n3009, .ref n3010, .int 0, .int 0, .ref n3011, .ref n3012, .int 0, .int 0, .ref n3013, .ref n3014, .ref n3015, .int 0, .ref n3016, .ref n3017, .ref n3018])), (n3016, .inl (cy 1, 4, .inl (upd (upd (upd (upd (fun _ => 0) 0 (-1)) 1 (-1)) 2 (-1)) 3 (-1))))] := hD
        refine lv_istore (lv' := [(6, .int 0), (5, .int 2), (4, .int 0), (3, .ref n5000), (2, .ref n3900), (1, .ref n1900), (0, .ref b)]) hx hb dL_law_1707 hl (by decide +kernel) rfl (fun ls hl => ?_)
        refine lv_aload_n hx hb dL_law_1709 rfl (lv_at hl 4 rfl) ?_
        refine call_i (av := [.ref n3900]) F hP hD hS [(n3900, .inr (12, [.ref n3000, .ref n3001, .ref n3002, .ref n3003, .int 2, .ref n3004, .int 0, .int 0, .int 0, .int 0, .int 0, .int 0, .int 0, .int 0, .int 0, .int (-1), .int 0, .ref n3005, .ref n3006, .int 0, .ref n3007, .ref n3008, .int 0, .int 0, .int 0, .int 0, .int 0, .int 0, .int 0, .ref n3009, .ref n3010, .int 0, .int 0, .ref n3011, .ref n3012, .int 0, .int 0, .ref n3013, .ref n3014, .ref n3015, .int 0, .ref n3016, .ref n3017, .ref n3018]))] [(n3016, .inl (cy 1, 4, .inl (upd (upd (upd (upd (fun _ => 0) 0 (-1)) 1 (-1)) 2 (-1)) 3 (-1))))] [0] [1] rfl rfl (by decide +kernel) (fun pr => va_runV (As := []) (rest := []) ⟨hx, hb, hml, hown, hts⟩ (k335_X12_thrown l D cy H.size n3900 n3000 n3001 n3002 n3003 n3004 n3005 n3006 n3007 n3008 n3009 n3010 n3011 n3012 n3013 n3014 n3015 n3016 n3017 n3018) (cwV 0 hts gw_X12_thrown rfl rfl rfl (by decide +kernel) ⟨(by decide +kernel), (by decide +kernel)⟩) ⟨pr.1, va_recv hK hP (ci := 12) (q0 := 0) rfl rfl, pr.2⟩ rfl rfl hl.1 rfl (lv_room (Nat.le_of_ble_eq_true rfl)) dL_law_1710 ⟨(by decide +kernel), (by decide +kernel)⟩) (fun r u H locs hw hP hD hS => ?_)
        rcases hw with ⟨rfl, rfl⟩
        have hP : va_P D vwCl [(n3016, .inl (cy 1, 4, .inl (upd (upd (upd (upd (fun _ => 0) 0 (-1)) 1 (-1)) 2 (-1)) 3 (-1)))), (n3900, .inr (12, [.ref n3000, .ref n3001, .ref n3002, .ref n3003, .int 2, .ref n3004, .int 0, .int 0, .int 0, .int 0, .int 0, .int 0, .int 0, .int 0, .int 0, .int (-1), .int 0, .ref n3005, .ref n3006, .int 0, .ref n3007, .ref n3008, .int 0, .int 0, .int 0, .int 0, .int 0, .int 0, .int 0, .ref n3009, .ref n3010, .int 0, .int 0, .ref n3011, .ref n3012, .int 0, .int 0, .ref n3013, .ref n3014, .ref n3015, .int 0, .ref n3016, .ref n3017, .ref n3018]))] H := hP
        have hD : va_D A [(n3016, .inl (cy 1, 4, .inl (upd (upd (upd (upd (fun _ => 0) 0 (-1)) 1 (-1)) 2 (-1)) 3 (-1)))), (n3900, .inr (12, [.ref n3000, .ref n3001, .ref n3002, .ref n3003, .int 2, .ref n3004, .int 0, .int 0, .int 0, .int 0, .int 0, .int 0, .int 0, .int 0, .int 0, .int (-1), .int 0, .ref n3005, .ref n3006, .int 0, .ref n3007, .ref n3008, .int 0, .int 0, .int 0, .int 0, .int 0, .int 0, .int 0, .ref n3009, .ref n3010, .int 0, .int 0, .ref n3011, .ref n3012, .int 0, .int 0, .ref n3013, .ref n3014, .ref n3015, .int 0, .ref n3016, .ref n3017, .ref n3018]))] := hD
        refine lv_iload hx hb dL_law_1713 (lv_at hl 1 rfl) ?_
        refine lv_icmp_eq (tgt := 1720) hx hb dL_law_1715 (by decide +kernel) (fun _ => ?_) (fun h => absurd (by decide +kernel) h)
        refine lv_iload hx hb dL_law_1720 (lv_at hl 1 rfl) ?_
        refine lv_if_ne (tgt := 1737) hx hb dL_law_1722 (by decide +kernel) (fun _ => ?_) (fun h => absurd h (by decide +kernel))
        refine lv_goto (tgt := 2458) hx hb dL_law_1737 (by decide +kernel) ?_
        refine lv_iinc (v := 6) (lv' := [(4, .int 6), (6, .int 0), (5, .int 2), (3, .ref n5000), (2, .ref n3900), (1, .ref n1900), (0, .ref b)]) hx hb dL_law_2458 hl (k := 2) rfl (by decide) (by decide +kernel) rfl (fun ls hl => ?_)
        refine lv_goto (tgt := 23) hx hb dL_law_2461 (by decide +kernel) ?_
        refine lv_iload hx hb dL_law_23 (lv_at hl 0 rfl) ?_
        refine lv_aload_n hx hb dL_law_25 rfl (lv_at hl 6 rfl) ?_
        refine va_slen hx hb hX hbl hbA hS dL_law_26 ?_
        refine top_i (v := 6) rfl ?_
        refine lv_bipush (v := 6) hx hb dL_law_27 (by decide +kernel) ?_
        refine lv_isub hx hb dL_law_29 ?_
        refine top_i (v := 0) (by decide +kernel) ?_
        refine lv_icmp_gt (tgt := 2464) hx hb dL_law_30 (by decide +kernel) (fun _ => ?_) (fun h => absurd (by decide +kernel) h)
        refine lv_iconst (v := 1) hx hb dL_law_2464 (by decide +kernel) ?_
        refine va_forget (fun q hq => hAq _ (hS.2.2 q hq)) ?_
        refine W.widen (k := 600002) (n := 7302232) (by decide +kernel) (by decide +kernel) ?_
        exact lw_ret hx hb hr hlk dL_law_2465
      · exact absurd c800108 (by decide +kernel)
    · subst c800016
      have hP : va_P D vwCl [(n3900, .inr (12, [.ref n3000, .ref n3001, .ref n3002, .ref n3003, .int 0, .ref n3004, .int 0, .int 0, .int 0, .int 0, .int 0, .int 0, .int 0, .int 0, .int 0, .int (-1), .int 0, .ref n3005, .ref n3006, .int 0, .ref n3007, .ref n3008, .int 0, .int 0, .int 0, .int 0, .int 0, .int 0, .int 0, .ref n3009, .ref n3010, .int 0, .int 0, .ref n3011, .ref n3012, .int 0, .int 0, .ref n3013, .ref n3014, .ref n3015, .int 0, .ref n3016, .ref n3017, .ref n3018])), (n3016, .inl (cy 1, 4, .inl (upd (upd (upd (upd (fun _ => 0) 0 (-1)) 1 (-1)) 2 (-1)) 3 (-1))))] H := hP
      have hD : va_D A [(n3900, .inr (12, [.ref n3000, .ref n3001, .ref n3002, .ref n3003, .int 0, .ref n3004, .int 0, .int 0, .int 0, .int 0, .int 0, .int 0, .int 0, .int 0, .int 0, .int (-1), .int 0, .ref n3005, .ref n3006, .int 0, .ref n3007, .ref n3008, .int 0, .int 0, .int 0, .int 0, .int 0, .int 0, .int 0, .ref n3009, .ref n3010, .int 0, .int 0, .ref n3011, .ref n3012, .int 0, .int 0, .ref n3013, .ref n3014, .ref n3015, .int 0, .ref n3016, .ref n3017, .ref n3018])), (n3016, .inl (cy 1, 4, .inl (upd (upd (upd (upd (fun _ => 0) 0 (-1)) 1 (-1)) 2 (-1)) 3 (-1))))] := hD
      refine lv_istore (lv' := [(5, .int 2), (4, .int 0), (3, .ref n5000), (2, .ref n3900), (1, .ref n1900), (0, .ref b)]) hx hb dL_law_1681 hl (by decide +kernel) rfl (fun ls hl => ?_)
      refine lv_aload_n hx hb dL_law_1683 rfl (lv_at hl 3 rfl) ?_
      refine lv_aload_n hx hb dL_law_1684 rfl (lv_at hl 5 rfl) ?_
      refine lv_iload hx hb dL_law_1685 (lv_at hl 1 rfl) ?_
      refine lv_iconst (v := 1) hx hb dL_law_1687 (by decide +kernel) ?_
      refine lv_iadd hx hb dL_law_1688 ?_
      refine top_i (v := 1) (by decide +kernel) ?_
      refine va_sld hx hb hX hbl hbA hS (i := 1) (vin (by decide +kernel)) dL_law_1689 ?_
      refine top_i (v := 3) ez1 ?_
      refine lv_aload_n hx hb dL_law_1690 rfl (lv_at hl 5 rfl) ?_
      refine lv_iload hx hb dL_law_1691 (lv_at hl 1 rfl) ?_
      refine lv_iconst (v := 2) hx hb dL_law_1693 (by decide +kernel) ?_
      refine lv_iadd hx hb dL_law_1694 ?_
      refine top_i (v := 2) (by decide +kernel) ?_
      refine va_sld hx hb hX hbl hbA hS (i := 2) (vin (by decide +kernel)) dL_law_1695 ?_
      refine top_i (v := 0) ez2 ?_
      refine lv_if_eq (tgt := 1703) hx hb dL_law_1696 (by decide +kernel) (fun _ => ?_) (fun h => absurd (by decide +kernel) h)
      refine lv_iconst (v := 0) hx hb dL_law_1703 (by decide +kernel) ?_
      refine call_i (av := [.ref n3900, .int 3, .int 0]) F hP hD hS [(n3900, .inr (12, [.ref n3000, .ref n3001, .ref n3002, .ref n3003, .int 0, .ref n3004, .int 0, .int 0, .int 0, .int 0, .int 0, .int 0, .int 0, .int 0, .int 0, .int (-1), .int 0, .ref n3005, .ref n3006, .int 0, .ref n3007, .ref n3008, .int 0, .int 0, .int 0, .int 0, .int 0, .int 0, .int 0, .ref n3009, .ref n3010, .int 0, .int 0, .ref n3011, .ref n3012, .int 0, .int 0, .ref n3013, .ref n3014, .ref n3015, .int 0, .ref n3016, .ref n3017, .ref n3018])), (n3016, .inl (cy 1, 4, .inl (upd (upd (upd (upd (fun _ => 0) 0 (-1)) 1 (-1)) 2 (-1)) 3 (-1))))] [] [0, 1] [] rfl rfl (by decide +kernel) (fun pr => va_runV (As := [.int 3, .int 0]) (rest := []) ⟨hx, hb, hml, hown, hts⟩ (k204_X12_goats l D cy H.size n3900 3 0 n3016 n3000 n3001 n3002 n3003 n3004 n3005 n3006 n3007 n3008 n3009 n3010 n3011 n3012 n3013 n3014 n3015 n3017 n3018) (cwV 2 hts gw_X12_goats rfl rfl rfl (by decide +kernel) ⟨(by decide +kernel), (by decide +kernel)⟩) ⟨pr.1, va_recv hK hP (ci := 12) (q0 := 0) rfl rfl, pr.2⟩ rfl rfl hl.1 rfl (lv_room (Nat.le_of_ble_eq_true rfl)) dL_law_1704 ⟨(by decide +kernel), (by decide +kernel)⟩) (fun r u H locs hw hP hD hS => ?_)
      rcases hw with ⟨c800113, rfl, rfl⟩ | ⟨c800114, c800115, rfl, rfl⟩ | ⟨c800116, c800117, c800118, rfl, rfl⟩ | ⟨c800119, c800120, c800121, rfl, rfl⟩ | ⟨c800122, c800123, c800124, rfl, rfl⟩ | ⟨c800125, c800126, c800127, rfl, rfl⟩
      · exact absurd c800113 (by decide +kernel)
      · exact absurd c800115 (by decide +kernel)
      · exact absurd c800118 (by decide +kernel)
      · exact absurd c800121 (by decide +kernel)
      · exact absurd c800124 (by decide +kernel)
      · have hP : va_P D vwCl [(n3900, .inr (12, [.ref n3000, .ref n3001, .ref n3002, .ref n3003, .int 2, .ref n3004, .int 0, .int 0, .int 0, .int 0, .int 0, .int 0, .int 0, .int 0, .int 0, .int (-1), .int 0, .ref n3005, .ref n3006, .int 0, .ref n3007, .ref n3008, .int 0, .int 0, .int 0, .int 0, .int 0, .int 0, .int 0, .ref n3009, .ref n3010, .int 0, .int 0, .ref n3011, .ref n3012, .int 0, .int 0, .ref n3013, .ref n3014, .ref n3015, .int 0, .ref n3016, .ref n3017, .ref n3018])), (n3016, .inl (cy 1, 4, .inl (upd (upd (upd (upd (fun _ => 0) 0 (-1)) 1 (-1)) 2 (-1)) 3 (-1))))] H := hP
        have hD : va_D A [(n3900, .inr (12, [.ref n3000, .ref n3001, .ref n3002, .ref n3003, .int 2, .ref n3004, .int 0, .int 0, .int 0, .int 0, .int 0, .int 0, .int 0, .int 0, .int 0, .int (-1), .int 0, .ref n3005, .ref n3006, .int 0, .ref n3007, .ref n3008, .int 0, .int 0, .int 0, .int 0, .int 0, .int 0, .int 0, .ref n3009, .ref n3010, .int 0, .int 0, .ref n3011, .ref n3012, .int 0, .int 0, .ref n3013, .ref n3014, .ref n3015, .int 0, .ref n3016, .ref n3017, .ref n3018])), (n3016, .inl (cy 1, 4, .inl (upd (upd (upd (upd (fun _ => 0) 0 (-1)) 1 (-1)) 2 (-1)) 3 (-1))))] := hD
        refine lv_istore (lv' := [(6, .int 0), (5, .int 2), (4, .int 0), (3, .ref n5000), (2, .ref n3900), (1, .ref n1900), (0, .ref b)]) hx hb dL_law_1707 hl (by decide +kernel) rfl (fun ls hl => ?_)
        refine lv_aload_n hx hb dL_law_1709 rfl (lv_at hl 4 rfl) ?_
        refine call_i (av := [.ref n3900]) F hP hD hS [(n3900, .inr (12, [.ref n3000, .ref n3001, .ref n3002, .ref n3003, .int 2, .ref n3004, .int 0, .int 0, .int 0, .int 0, .int 0, .int 0, .int 0, .int 0, .int 0, .int (-1), .int 0, .ref n3005, .ref n3006, .int 0, .ref n3007, .ref n3008, .int 0, .int 0, .int 0, .int 0, .int 0, .int 0, .int 0, .ref n3009, .ref n3010, .int 0, .int 0, .ref n3011, .ref n3012, .int 0, .int 0, .ref n3013, .ref n3014, .ref n3015, .int 0, .ref n3016, .ref n3017, .ref n3018]))] [(n3016, .inl (cy 1, 4, .inl (upd (upd (upd (upd (fun _ => 0) 0 (-1)) 1 (-1)) 2 (-1)) 3 (-1))))] [0] [1] rfl rfl (by decide +kernel) (fun pr => va_runV (As := []) (rest := []) ⟨hx, hb, hml, hown, hts⟩ (k335_X12_thrown l D cy H.size n3900 n3000 n3001 n3002 n3003 n3004 n3005 n3006 n3007 n3008 n3009 n3010 n3011 n3012 n3013 n3014 n3015 n3016 n3017 n3018) (cwV 0 hts gw_X12_thrown rfl rfl rfl (by decide +kernel) ⟨(by decide +kernel), (by decide +kernel)⟩) ⟨pr.1, va_recv hK hP (ci := 12) (q0 := 0) rfl rfl, pr.2⟩ rfl rfl hl.1 rfl (lv_room (Nat.le_of_ble_eq_true rfl)) dL_law_1710 ⟨(by decide +kernel), (by decide +kernel)⟩) (fun r u H locs hw hP hD hS => ?_)
        rcases hw with ⟨rfl, rfl⟩
        have hP : va_P D vwCl [(n3016, .inl (cy 1, 4, .inl (upd (upd (upd (upd (fun _ => 0) 0 (-1)) 1 (-1)) 2 (-1)) 3 (-1)))), (n3900, .inr (12, [.ref n3000, .ref n3001, .ref n3002, .ref n3003, .int 2, .ref n3004, .int 0, .int 0, .int 0, .int 0, .int 0, .int 0, .int 0, .int 0, .int 0, .int (-1), .int 0, .ref n3005, .ref n3006, .int 0, .ref n3007, .ref n3008, .int 0, .int 0, .int 0, .int 0, .int 0, .int 0, .int 0, .ref n3009, .ref n3010, .int 0, .int 0, .ref n3011, .ref n3012, .int 0, .int 0, .ref n3013, .ref n3014, .ref n3015, .int 0, .ref n3016, .ref n3017, .ref n3018]))] H := hP
        have hD : va_D A [(n3016, .inl (cy 1, 4, .inl (upd (upd (upd (upd (fun _ => 0) 0 (-1)) 1 (-1)) 2 (-1)) 3 (-1)))), (n3900, .inr (12, [.ref n3000, .ref n3001, .ref n3002, .ref n3003, .int 2, .ref n3004, .int 0, .int 0, .int 0, .int 0, .int 0, .int 0, .int 0, .int 0, .int 0, .int (-1), .int 0, .ref n3005, .ref n3006, .int 0, .ref n3007, .ref n3008, .int 0, .int 0, .int 0, .int 0, .int 0, .int 0, .int 0, .ref n3009, .ref n3010, .int 0, .int 0, .ref n3011, .ref n3012, .int 0, .int 0, .ref n3013, .ref n3014, .ref n3015, .int 0, .ref n3016, .ref n3017, .ref n3018]))] := hD
        refine lv_iload hx hb dL_law_1713 (lv_at hl 1 rfl) ?_
        refine lv_icmp_eq (tgt := 1720) hx hb dL_law_1715 (by decide +kernel) (fun _ => ?_) (fun h => absurd (by decide +kernel) h)
        refine lv_iload hx hb dL_law_1720 (lv_at hl 1 rfl) ?_
        refine lv_if_ne (tgt := 1737) hx hb dL_law_1722 (by decide +kernel) (fun _ => ?_) (fun h => absurd h (by decide +kernel))
        refine lv_goto (tgt := 2458) hx hb dL_law_1737 (by decide +kernel) ?_
        refine lv_iinc (v := 6) (lv' := [(4, .int 6), (6, .int 0), (5, .int 2), (3, .ref n5000), (2, .ref n3900), (1, .ref n1900), (0, .ref b)]) hx hb dL_law_2458 hl (k := 2) rfl (by decide) (by decide +kernel) rfl (fun ls hl => ?_)
        refine lv_goto (tgt := 23) hx hb dL_law_2461 (by decide +kernel) ?_
        refine lv_iload hx hb dL_law_23 (lv_at hl 0 rfl) ?_
        refine lv_aload_n hx hb dL_law_25 rfl (lv_at hl 6 rfl) ?_
        refine va_slen hx hb hX hbl hbA hS dL_law_26 ?_
        refine top_i (v := 6) rfl ?_
        refine lv_bipush (v := 6) hx hb dL_law_27 (by decide +kernel) ?_
        refine lv_isub hx hb dL_law_29 ?_
        refine top_i (v := 0) (by decide +kernel) ?_
        refine lv_icmp_gt (tgt := 2464) hx hb dL_law_30 (by decide +kernel) (fun _ => ?_) (fun h => absurd (by decide +kernel) h)
        refine lv_iconst (v := 1) hx hb dL_law_2464 (by decide +kernel) ?_
        refine va_forget (fun q hq => hAq _ (hS.2.2 q hq)) ?_
        refine W.widen (k := 600002) (n := 7302232) (by decide +kernel) (by decide +kernel) ?_
        exact lw_ret hx hb hr hlk dL_law_2465
  · refine lv_iconst (v := 1) hx hb dL_law_1672 (by decide +kernel) ?_
    refine lv_goto (tgt := 1677) hx hb dL_law_1673 (by decide +kernel) ?_
    refine lv_aload_n hx hb dL_law_1677 rfl (lv_at hl 1 rfl) ?_
    refine call_i (av := [.ref n1900, .int z1, .int 1, .ref n5000]) F hP hD hS [(n1900, .inr (11, [.ref n1000, .int 0, .ref n1001, .ref n1017, .ref n1034, .ref n1039, .ref n1041, .ref n1042, .ref n1043, .ref n1044, .ref n1048, .ref n1056, .ref n1057, .int 0])), (n1043, .inl (cy 5, 4, .inr (.inr (.inr (.inr (va_up (va_up (va_up (va_up (fun _ => none) 0 (some n1122)) 1 (some n1124)) 2 (some n1126)) 3 (some n1128))))))), (n1122, .inr (10, [.int (-1), .int 0, .ref n1123])), (n1124, .inr (10, [.int (-1), .int 0, .ref n1125])), (n1126, .inr (10, [.int (-1), .int 0, .ref n1127])), (n1128, .inr (10, [.int (-1), .int 0, .ref n1129]))] [(n3900, .inr (12, [.ref n3000, .ref n3001, .ref n3002, .ref n3003, .int 0, .ref n3004, .int 0, .int 0, .int 0, .int 0, .int 0, .int 0, .int 0, .int 0, .int 0, .int (-1), .int 0, .ref n3005, .ref n3006, .int 0, .ref n3007, .ref n3008, .int 0, .int 0, .int 0, .int 0, .int 0, .int 0, .int 0, .ref n3009, .ref n3010, .int 0, .int 0, .ref n3011, .ref n3012, .int 0, .int 0, .ref n3013, .ref n3014, .ref n3015, .int 0, .ref n3016, .ref n3017, .ref n3018])), (n3016, .inl (cy 1, 4, .inl (upd (upd (upd (upd (fun _ => 0) 0 (-1)) 1 (-1)) 2 (-1)) 3 (-1))))] [0, 1, 2, 3, 4, 5] [6, 7] rfl rfl (by decide +kernel) (fun pr => vx_runSW (As := [.ref n1900, .int z1, .int 1, .ref n5000]) (rest := []) ⟨hx, hb, hml, hown, hts⟩ (k322_L_goats l hlT D cy H.size n1900 z1 1 n5000 n1043 n1122 n1124 n1126 n1128 n1000 n1001 n1017 n1034 n1039 n1041 n1042 n1044 n1048 n1056 n1057 n1123 n1125 n1127 n1129) (vx_cwSW 4 hts gw_L_goats rfl rfl rfl (by decide +kernel) ⟨(by decide +kernel), (by decide +kernel)⟩) pr rfl rfl hl.1 rfl (lv_room (Nat.le_of_ble_eq_true rfl)) dL_law_1678 ⟨(by decide +kernel), (by decide +kernel)⟩) (fun r u H locs hw hP hD hS => ?_)
    rcases hw with ⟨c800131, rfl, rfl⟩ | ⟨c800132, c800133, rfl, rfl⟩ | ⟨c800134, c800135, c800136, rfl, rfl⟩ | ⟨c800137, c800138, c800139, rfl, rfl⟩ | ⟨c800140, c800141, c800142, rfl, rfl⟩ | ⟨c800143, c800144, c800145, rfl, rfl⟩
    · have hP : va_P D vwCl [(n3900, .inr (12, [.ref n3000, .ref n3001, .ref n3002, .ref n3003, .int 0, .ref n3004, .int 0, .int 0, .int 0, .int 0, .int 0, .int 0, .int 0, .int 0, .int 0, .int (-1), .int 0, .ref n3005, .ref n3006, .int 0, .ref n3007, .ref n3008, .int 0, .int 0, .int 0, .int 0, .int 0, .int 0, .int 0, .ref n3009, .ref n3010, .int 0, .int 0, .ref n3011, .ref n3012, .int 0, .int 0, .ref n3013, .ref n3014, .ref n3015, .int 0, .ref n3016, .ref n3017, .ref n3018])), (n3016, .inl (cy 1, 4, .inl (upd (upd (upd (upd (fun _ => 0) 0 (-1)) 1 (-1)) 2 (-1)) 3 (-1))))] H := hP
      have hD : va_D A [(n3900, .inr (12, [.ref n3000, .ref n3001, .ref n3002, .ref n3003, .int 0, .ref n3004, .int 0, .int 0, .int 0, .int 0, .int 0, .int 0, .int 0, .int 0, .int 0, .int (-1), .int 0, .ref n3005, .ref n3006, .int 0, .ref n3007, .ref n3008, .int 0, .int 0, .int 0, .int 0, .int 0, .int 0, .int 0, .ref n3009, .ref n3010, .int 0, .int 0, .ref n3011, .ref n3012, .int 0, .int 0, .ref n3013, .ref n3014, .ref n3015, .int 0, .ref n3016, .ref n3017, .ref n3018])), (n3016, .inl (cy 1, 4, .inl (upd (upd (upd (upd (fun _ => 0) 0 (-1)) 1 (-1)) 2 (-1)) 3 (-1))))] := hD
      refine lv_istore (lv' := [(5, .int 1), (4, .int 0), (3, .ref n5000), (2, .ref n3900), (1, .ref n1900), (0, .ref b)]) hx hb dL_law_1681 hl (by decide +kernel) rfl (fun ls hl => ?_)
      refine lv_aload_n hx hb dL_law_1683 rfl (lv_at hl 3 rfl) ?_
      refine lv_aload_n hx hb dL_law_1684 rfl (lv_at hl 5 rfl) ?_
      refine lv_iload hx hb dL_law_1685 (lv_at hl 1 rfl) ?_
      refine lv_iconst (v := 1) hx hb dL_law_1687 (by decide +kernel) ?_
      refine lv_iadd hx hb dL_law_1688 ?_
      refine top_i (v := 1) (by decide +kernel) ?_
      refine va_sld hx hb hX hbl hbA hS (i := 1) (vin (by decide +kernel)) dL_law_1689 ?_
      refine top_i (v := z1) ez1 ?_
      refine lv_aload_n hx hb dL_law_1690 rfl (lv_at hl 5 rfl) ?_
      refine lv_iload hx hb dL_law_1691 (lv_at hl 1 rfl) ?_
      refine lv_iconst (v := 2) hx hb dL_law_1693 (by decide +kernel) ?_
      refine lv_iadd hx hb dL_law_1694 ?_
      refine top_i (v := 2) (by decide +kernel) ?_
      refine va_sld hx hb hX hbl hbA hS (i := 2) (vin (by decide +kernel)) dL_law_1695 ?_
      refine top_i (v := z2) ez2 ?_
      refine lv_if_eq (tgt := 1703) hx hb dL_law_1696 (by decide +kernel) (fun h => absurd h c800001) (fun _ => ?_)
      refine lv_iconst (v := 1) hx hb dL_law_1699 (by decide +kernel) ?_
      refine lv_goto (tgt := 1704) hx hb dL_law_1700 (by decide +kernel) ?_
      refine call_i (av := [.ref n3900, .int z1, .int 1]) F hP hD hS [(n3900, .inr (12, [.ref n3000, .ref n3001, .ref n3002, .ref n3003, .int 0, .ref n3004, .int 0, .int 0, .int 0, .int 0, .int 0, .int 0, .int 0, .int 0, .int 0, .int (-1), .int 0, .ref n3005, .ref n3006, .int 0, .ref n3007, .ref n3008, .int 0, .int 0, .int 0, .int 0, .int 0, .int 0, .int 0, .ref n3009, .ref n3010, .int 0, .int 0, .ref n3011, .ref n3012, .int 0, .int 0, .ref n3013, .ref n3014, .ref n3015, .int 0, .ref n3016, .ref n3017, .ref n3018])), (n3016, .inl (cy 1, 4, .inl (upd (upd (upd (upd (fun _ => 0) 0 (-1)) 1 (-1)) 2 (-1)) 3 (-1))))] [] [0, 1] [] rfl rfl (by decide +kernel) (fun pr => va_runV (As := [.int z1, .int 1]) (rest := []) ⟨hx, hb, hml, hown, hts⟩ (k204_X12_goats l D cy H.size n3900 z1 1 n3016 n3000 n3001 n3002 n3003 n3004 n3005 n3006 n3007 n3008 n3009 n3010 n3011 n3012 n3013 n3014 n3015 n3017 n3018) (cwV 2 hts gw_X12_goats rfl rfl rfl (by decide +kernel) ⟨(by decide +kernel), (by decide +kernel)⟩) ⟨pr.1, va_recv hK hP (ci := 12) (q0 := 0) rfl rfl, pr.2⟩ rfl rfl hl.1 rfl (lv_room (Nat.le_of_ble_eq_true rfl)) dL_law_1704 ⟨(by decide +kernel), (by decide +kernel)⟩) (fun r u H locs hw hP hD hS => ?_)
      rcases hw with ⟨c800147, rfl, rfl⟩ | ⟨c800148, c800149, rfl, rfl⟩ | ⟨c800150, c800151, c800152, rfl, rfl⟩ | ⟨c800153, c800154, c800155, rfl, rfl⟩ | ⟨c800156, c800157, c800158, rfl, rfl⟩ | ⟨c800159, c800160, c800161, rfl, rfl⟩
      · have hP : va_P D vwCl [(n3900, .inr (12, [.ref n3000, .ref n3001, .ref n3002, .ref n3003, .int 1, .ref n3004, .int 0, .int 0, .int 0, .int 0, .int 0, .int 0, .int 0, .int 0, .int 0, .int (-1), .int 0, .ref n3005, .ref n3006, .int 0, .ref n3007, .ref n3008, .int 0, .int 0, .int 0, .int 0, .int 0, .int 0, .int 0, .ref n3009, .ref n3010, .int 0, .int 0, .ref n3011, .ref n3012, .int 0, .int 0, .ref n3013, .ref n3014, .ref n3015, .int 0, .ref n3016, .ref n3017, .ref n3018])), (n3016, .inl (cy 1, 4, .inl (upd (upd (upd (upd (fun _ => 0) 0 (-1)) 1 (-1)) 2 (-1)) 3 (-1))))] H := hP
        have hD : va_D A [(n3900, .inr (12, [.ref n3000, .ref n3001, .ref n3002, .ref n3003, .int 1, .ref n3004, .int 0, .int 0, .int 0, .int 0, .int 0, .int 0, .int 0, .int 0, .int 0, .int (-1), .int 0, .ref n3005, .ref n3006, .int 0, .ref n3007, .ref n3008, .int 0, .int 0, .int 0, .int 0, .int 0, .int 0, .int 0, .ref n3009, .ref n3010, .int 0, .int 0, .ref n3011, .ref n3012, .int 0, .int 0, .ref n3013, .ref n3014, .ref n3015, .int 0, .ref n3016, .ref n3017, .ref n3018])), (n3016, .inl (cy 1, 4, .inl (upd (upd (upd (upd (fun _ => 0) 0 (-1)) 1 (-1)) 2 (-1)) 3 (-1))))] := hD
        refine lv_istore (lv' := [(6, .int 0), (5, .int 1), (4, .int 0), (3, .ref n5000), (2, .ref n3900), (1, .ref n1900), (0, .ref b)]) hx hb dL_law_1707 hl (by decide +kernel) rfl (fun ls hl => ?_)
        refine lv_aload_n hx hb dL_law_1709 rfl (lv_at hl 4 rfl) ?_
        refine call_i (av := [.ref n3900]) F hP hD hS [(n3900, .inr (12, [.ref n3000, .ref n3001, .ref n3002, .ref n3003, .int 1, .ref n3004, .int 0, .int 0, .int 0, .int 0, .int 0, .int 0, .int 0, .int 0, .int 0, .int (-1), .int 0, .ref n3005, .ref n3006, .int 0, .ref n3007, .ref n3008, .int 0, .int 0, .int 0, .int 0, .int 0, .int 0, .int 0, .ref n3009, .ref n3010, .int 0, .int 0, .ref n3011, .ref n3012, .int 0, .int 0, .ref n3013, .ref n3014, .ref n3015, .int 0, .ref n3016, .ref n3017, .ref n3018]))] [(n3016, .inl (cy 1, 4, .inl (upd (upd (upd (upd (fun _ => 0) 0 (-1)) 1 (-1)) 2 (-1)) 3 (-1))))] [0] [1] rfl rfl (by decide +kernel) (fun pr => va_runV (As := []) (rest := []) ⟨hx, hb, hml, hown, hts⟩ (k333_X12_thrown l D cy H.size n3900 n3000 n3001 n3002 n3003 n3004 n3005 n3006 n3007 n3008 n3009 n3010 n3011 n3012 n3013 n3014 n3015 n3016 n3017 n3018) (cwV 0 hts gw_X12_thrown rfl rfl rfl (by decide +kernel) ⟨(by decide +kernel), (by decide +kernel)⟩) ⟨pr.1, va_recv hK hP (ci := 12) (q0 := 0) rfl rfl, pr.2⟩ rfl rfl hl.1 rfl (lv_room (Nat.le_of_ble_eq_true rfl)) dL_law_1710 ⟨(by decide +kernel), (by decide +kernel)⟩) (fun r u H locs hw hP hD hS => ?_)
        rcases hw with ⟨rfl, rfl⟩
        have hP : va_P D vwCl [(n3016, .inl (cy 1, 4, .inl (upd (upd (upd (upd (fun _ => 0) 0 (-1)) 1 (-1)) 2 (-1)) 3 (-1)))), (n3900, .inr (12, [.ref n3000, .ref n3001, .ref n3002, .ref n3003, .int 1, .ref n3004, .int 0, .int 0, .int 0, .int 0, .int 0, .int 0, .int 0, .int 0, .int 0, .int (-1), .int 0, .ref n3005, .ref n3006, .int 0, .ref n3007, .ref n3008, .int 0, .int 0, .int 0, .int 0, .int 0, .int 0, .int 0, .ref n3009, .ref n3010, .int 0, .int 0, .ref n3011, .ref n3012, .int 0, .int 0, .ref n3013, .ref n3014, .ref n3015, .int 0, .ref n3016, .ref n3017, .ref n3018]))] H := hP
        have hD : va_D A [(n3016, .inl (cy 1, 4, .inl (upd (upd (upd (upd (fun _ => 0) 0 (-1)) 1 (-1)) 2 (-1)) 3 (-1)))), (n3900, .inr (12, [.ref n3000, .ref n3001, .ref n3002, .ref n3003, .int 1, .ref n3004, .int 0, .int 0, .int 0, .int 0, .int 0, .int 0, .int 0, .int 0, .int 0, .int (-1), .int 0, .ref n3005, .ref n3006, .int 0, .ref n3007, .ref n3008, .int 0, .int 0, .int 0, .int 0, .int 0, .int 0, .int 0, .ref n3009, .ref n3010, .int 0, .int 0, .ref n3011, .ref n3012, .int 0, .int 0, .ref n3013, .ref n3014, .ref n3015, .int 0, .ref n3016, .ref n3017, .ref n3018]))] := hD
        refine lv_iload hx hb dL_law_1713 (lv_at hl 1 rfl) ?_
        refine lv_icmp_eq (tgt := 1720) hx hb dL_law_1715 (by decide +kernel) (fun _ => ?_) (fun h => absurd (by decide +kernel) h)
        refine lv_iload hx hb dL_law_1720 (lv_at hl 1 rfl) ?_
        refine lv_if_ne (tgt := 1737) hx hb dL_law_1722 (by decide +kernel) (fun _ => ?_) (fun h => absurd h (by decide +kernel))
        refine lv_goto (tgt := 2458) hx hb dL_law_1737 (by decide +kernel) ?_
        refine lv_iinc (v := 6) (lv' := [(4, .int 6), (6, .int 0), (5, .int 1), (3, .ref n5000), (2, .ref n3900), (1, .ref n1900), (0, .ref b)]) hx hb dL_law_2458 hl (k := 2) rfl (by decide) (by decide +kernel) rfl (fun ls hl => ?_)
        refine lv_goto (tgt := 23) hx hb dL_law_2461 (by decide +kernel) ?_
        refine lv_iload hx hb dL_law_23 (lv_at hl 0 rfl) ?_
        refine lv_aload_n hx hb dL_law_25 rfl (lv_at hl 6 rfl) ?_
        refine va_slen hx hb hX hbl hbA hS dL_law_26 ?_
        refine top_i (v := 6) rfl ?_
        refine lv_bipush (v := 6) hx hb dL_law_27 (by decide +kernel) ?_
        refine lv_isub hx hb dL_law_29 ?_
        refine top_i (v := 0) (by decide +kernel) ?_
        refine lv_icmp_gt (tgt := 2464) hx hb dL_law_30 (by decide +kernel) (fun _ => ?_) (fun h => absurd (by decide +kernel) h)
        refine lv_iconst (v := 1) hx hb dL_law_2464 (by decide +kernel) ?_
        refine va_forget (fun q hq => hAq _ (hS.2.2 q hq)) ?_
        refine W.widen (k := 600002) (n := 7302232) (by decide +kernel) (by decide +kernel) ?_
        exact lw_ret hx hb hr hlk dL_law_2465
      · exact (no_b (lo_nlt_w c800148) (up_lt c800131) (by decide +kernel)).elim
      · exact (no_b (lo_nlt_w c800150) (up_lt c800131) (by decide +kernel)).elim
      · exact (no_b (lo_nlt_w c800153) (up_lt c800131) (by decide +kernel)).elim
      · exact (no_b (lo_nlt_w c800156) (up_lt c800131) (by decide +kernel)).elim
      · exact (no_b (lo_nlt_w c800159) (up_lt c800131) (by decide +kernel)).elim
    · have hP : va_P D vwCl [(n3900, .inr (12, [.ref n3000, .ref n3001, .ref n3002, .ref n3003, .int 0, .ref n3004, .int 0, .int 0, .int 0, .int 0, .int 0, .int 0, .int 0, .int 0, .int 0, .int (-1), .int 0, .ref n3005, .ref n3006, .int 0, .ref n3007, .ref n3008, .int 0, .int 0, .int 0, .int 0, .int 0, .int 0, .int 0, .ref n3009, .ref n3010, .int 0, .int 0, .ref n3011, .ref n3012, .int 0, .int 0, .ref n3013, .ref n3014, .ref n3015, .int 0, .ref n3016, .ref n3017, .ref n3018])), (n3016, .inl (cy 1, 4, .inl (upd (upd (upd (upd (fun _ => 0) 0 (-1)) 1 (-1)) 2 (-1)) 3 (-1))))] H := hP
      have hD : va_D A [(n3900, .inr (12, [.ref n3000, .ref n3001, .ref n3002, .ref n3003, .int 0, .ref n3004, .int 0, .int 0, .int 0, .int 0, .int 0, .int 0, .int 0, .int 0, .int 0, .int (-1), .int 0, .ref n3005, .ref n3006, .int 0, .ref n3007, .ref n3008, .int 0, .int 0, .int 0, .int 0, .int 0, .int 0, .int 0, .ref n3009, .ref n3010, .int 0, .int 0, .ref n3011, .ref n3012, .int 0, .int 0, .ref n3013, .ref n3014, .ref n3015, .int 0, .ref n3016, .ref n3017, .ref n3018])), (n3016, .inl (cy 1, 4, .inl (upd (upd (upd (upd (fun _ => 0) 0 (-1)) 1 (-1)) 2 (-1)) 3 (-1))))] := hD
      refine lv_istore (lv' := [(5, .int 1), (4, .int 0), (3, .ref n5000), (2, .ref n3900), (1, .ref n1900), (0, .ref b)]) hx hb dL_law_1681 hl (by decide +kernel) rfl (fun ls hl => ?_)
      refine lv_aload_n hx hb dL_law_1683 rfl (lv_at hl 3 rfl) ?_
      refine lv_aload_n hx hb dL_law_1684 rfl (lv_at hl 5 rfl) ?_
      refine lv_iload hx hb dL_law_1685 (lv_at hl 1 rfl) ?_
      refine lv_iconst (v := 1) hx hb dL_law_1687 (by decide +kernel) ?_
      refine lv_iadd hx hb dL_law_1688 ?_
      refine top_i (v := 1) (by decide +kernel) ?_
      refine va_sld hx hb hX hbl hbA hS (i := 1) (vin (by decide +kernel)) dL_law_1689 ?_
      refine top_i (v := z1) ez1 ?_
      refine lv_aload_n hx hb dL_law_1690 rfl (lv_at hl 5 rfl) ?_
      refine lv_iload hx hb dL_law_1691 (lv_at hl 1 rfl) ?_
      refine lv_iconst (v := 2) hx hb dL_law_1693 (by decide +kernel) ?_
      refine lv_iadd hx hb dL_law_1694 ?_
      refine top_i (v := 2) (by decide +kernel) ?_
      refine va_sld hx hb hX hbl hbA hS (i := 2) (vin (by decide +kernel)) dL_law_1695 ?_
      refine top_i (v := z2) ez2 ?_
      refine lv_if_eq (tgt := 1703) hx hb dL_law_1696 (by decide +kernel) (fun h => absurd h c800001) (fun _ => ?_)
      refine lv_iconst (v := 1) hx hb dL_law_1699 (by decide +kernel) ?_
      refine lv_goto (tgt := 1704) hx hb dL_law_1700 (by decide +kernel) ?_
      refine call_i (av := [.ref n3900, .int z1, .int 1]) F hP hD hS [(n3900, .inr (12, [.ref n3000, .ref n3001, .ref n3002, .ref n3003, .int 0, .ref n3004, .int 0, .int 0, .int 0, .int 0, .int 0, .int 0, .int 0, .int 0, .int 0, .int (-1), .int 0, .ref n3005, .ref n3006, .int 0, .ref n3007, .ref n3008, .int 0, .int 0, .int 0, .int 0, .int 0, .int 0, .int 0, .ref n3009, .ref n3010, .int 0, .int 0, .ref n3011, .ref n3012, .int 0, .int 0, .ref n3013, .ref n3014, .ref n3015, .int 0, .ref n3016, .ref n3017, .ref n3018])), (n3016, .inl (cy 1, 4, .inl (upd (upd (upd (upd (fun _ => 0) 0 (-1)) 1 (-1)) 2 (-1)) 3 (-1))))] [] [0, 1] [] rfl rfl (by decide +kernel) (fun pr => va_runV (As := [.int z1, .int 1]) (rest := []) ⟨hx, hb, hml, hown, hts⟩ (k204_X12_goats l D cy H.size n3900 z1 1 n3016 n3000 n3001 n3002 n3003 n3004 n3005 n3006 n3007 n3008 n3009 n3010 n3011 n3012 n3013 n3014 n3015 n3017 n3018) (cwV 2 hts gw_X12_goats rfl rfl rfl (by decide +kernel) ⟨(by decide +kernel), (by decide +kernel)⟩) ⟨pr.1, va_recv hK hP (ci := 12) (q0 := 0) rfl rfl, pr.2⟩ rfl rfl hl.1 rfl (lv_room (Nat.le_of_ble_eq_true rfl)) dL_law_1704 ⟨(by decide +kernel), (by decide +kernel)⟩) (fun r u H locs hw hP hD hS => ?_)
      rcases hw with ⟨c800166, rfl, rfl⟩ | ⟨c800167, c800168, rfl, rfl⟩ | ⟨c800169, c800170, c800171, rfl, rfl⟩ | ⟨c800172, c800173, c800174, rfl, rfl⟩ | ⟨c800175, c800176, c800177, rfl, rfl⟩ | ⟨c800178, c800179, c800180, rfl, rfl⟩
      · exact (no_b (lo_nlt c800133) (up_lt_w c800166) (by decide +kernel)).elim
      · have hP : va_P D vwCl [(n3900, .inr (12, [.ref n3000, .ref n3001, .ref n3002, .ref n3003, .int 1, .ref n3004, .int 0, .int 0, .int 0, .int 0, .int 0, .int 0, .int 0, .int 0, .int 0, .int (-1), .int 0, .ref n3005, .ref n3006, .int 0, .ref n3007, .ref n3008, .int 0, .int 0, .int 0, .int 0, .int 0, .int 0, .int 0, .ref n3009, .ref n3010, .int 0, .int 0, .ref n3011, .ref n3012, .int 0, .int 0, .ref n3013, .ref n3014, .ref n3015, .int 0, .ref n3016, .ref n3017, .ref n3018])), (n3016, .inl (cy 1, 4, .inl (upd (upd (upd (upd (fun _ => 0) 0 (-1)) 1 (-1)) 2 (-1)) 3 (-1))))] H := hP
        have hD : va_D A [(n3900, .inr (12, [.ref n3000, .ref n3001, .ref n3002, .ref n3003, .int 1, .ref n3004, .int 0, .int 0, .int 0, .int 0, .int 0, .int 0, .int 0, .int 0, .int 0, .int (-1), .int 0, .ref n3005, .ref n3006, .int 0, .ref n3007, .ref n3008, .int 0, .int 0, .int 0, .int 0, .int 0, .int 0, .int 0, .ref n3009, .ref n3010, .int 0, .int 0, .ref n3011, .ref n3012, .int 0, .int 0, .ref n3013, .ref n3014, .ref n3015, .int 0, .ref n3016, .ref n3017, .ref n3018])), (n3016, .inl (cy 1, 4, .inl (upd (upd (upd (upd (fun _ => 0) 0 (-1)) 1 (-1)) 2 (-1)) 3 (-1))))] := hD
        refine lv_istore (lv' := [(6, .int 0), (5, .int 1), (4, .int 0), (3, .ref n5000), (2, .ref n3900), (1, .ref n1900), (0, .ref b)]) hx hb dL_law_1707 hl (by decide +kernel) rfl (fun ls hl => ?_)
        refine lv_aload_n hx hb dL_law_1709 rfl (lv_at hl 4 rfl) ?_
        refine call_i (av := [.ref n3900]) F hP hD hS [(n3900, .inr (12, [.ref n3000, .ref n3001, .ref n3002, .ref n3003, .int 1, .ref n3004, .int 0, .int 0, .int 0, .int 0, .int 0, .int 0, .int 0, .int 0, .int 0, .int (-1), .int 0, .ref n3005, .ref n3006, .int 0, .ref n3007, .ref n3008, .int 0, .int 0, .int 0, .int 0, .int 0, .int 0, .int 0, .ref n3009, .ref n3010, .int 0, .int 0, .ref n3011, .ref n3012, .int 0, .int 0, .ref n3013, .ref n3014, .ref n3015, .int 0, .ref n3016, .ref n3017, .ref n3018]))] [(n3016, .inl (cy 1, 4, .inl (upd (upd (upd (upd (fun _ => 0) 0 (-1)) 1 (-1)) 2 (-1)) 3 (-1))))] [0] [1] rfl rfl (by decide +kernel) (fun pr => va_runV (As := []) (rest := []) ⟨hx, hb, hml, hown, hts⟩ (k333_X12_thrown l D cy H.size n3900 n3000 n3001 n3002 n3003 n3004 n3005 n3006 n3007 n3008 n3009 n3010 n3011 n3012 n3013 n3014 n3015 n3016 n3017 n3018) (cwV 0 hts gw_X12_thrown rfl rfl rfl (by decide +kernel) ⟨(by decide +kernel), (by decide +kernel)⟩) ⟨pr.1, va_recv hK hP (ci := 12) (q0 := 0) rfl rfl, pr.2⟩ rfl rfl hl.1 rfl (lv_room (Nat.le_of_ble_eq_true rfl)) dL_law_1710 ⟨(by decide +kernel), (by decide +kernel)⟩) (fun r u H locs hw hP hD hS => ?_)
        rcases hw with ⟨rfl, rfl⟩
        have hP : va_P D vwCl [(n3016, .inl (cy 1, 4, .inl (upd (upd (upd (upd (fun _ => 0) 0 (-1)) 1 (-1)) 2 (-1)) 3 (-1)))), (n3900, .inr (12, [.ref n3000, .ref n3001, .ref n3002, .ref n3003, .int 1, .ref n3004, .int 0, .int 0, .int 0, .int 0, .int 0, .int 0, .int 0, .int 0, .int 0, .int (-1), .int 0, .ref n3005, .ref n3006, .int 0, .ref n3007, .ref n3008, .int 0, .int 0, .int 0, .int 0, .int 0, .int 0, .int 0, .ref n3009, .ref n3010, .int 0, .int 0, .ref n3011, .ref n3012, .int 0, .int 0, .ref n3013, .ref n3014, .ref n3015, .int 0, .ref n3016, .ref n3017, .ref n3018]))] H := hP
        have hD : va_D A [(n3016, .inl (cy 1, 4, .inl (upd (upd (upd (upd (fun _ => 0) 0 (-1)) 1 (-1)) 2 (-1)) 3 (-1)))), (n3900, .inr (12, [.ref n3000, .ref n3001, .ref n3002, .ref n3003, .int 1, .ref n3004, .int 0, .int 0, .int 0, .int 0, .int 0, .int 0, .int 0, .int 0, .int 0, .int (-1), .int 0, .ref n3005, .ref n3006, .int 0, .ref n3007, .ref n3008, .int 0, .int 0, .int 0, .int 0, .int 0, .int 0, .int 0, .ref n3009, .ref n3010, .int 0, .int 0, .ref n3011, .ref n3012, .int 0, .int 0, .ref n3013, .ref n3014, .ref n3015, .int 0, .ref n3016, .ref n3017, .ref n3018]))] := hD
        refine lv_iload hx hb dL_law_1713 (lv_at hl 1 rfl) ?_
        refine lv_icmp_eq (tgt := 1720) hx hb dL_law_1715 (by decide +kernel) (fun _ => ?_) (fun h => absurd (by decide +kernel) h)
        refine lv_iload hx hb dL_law_1720 (lv_at hl 1 rfl) ?_
        refine lv_if_ne (tgt := 1737) hx hb dL_law_1722 (by decide +kernel) (fun _ => ?_) (fun h => absurd h (by decide +kernel))
        refine lv_goto (tgt := 2458) hx hb dL_law_1737 (by decide +kernel) ?_
        refine lv_iinc (v := 6) (lv' := [(4, .int 6), (6, .int 0), (5, .int 1), (3, .ref n5000), (2, .ref n3900), (1, .ref n1900), (0, .ref b)]) hx hb dL_law_2458 hl (k := 2) rfl (by decide) (by decide +kernel) rfl (fun ls hl => ?_)
        refine lv_goto (tgt := 23) hx hb dL_law_2461 (by decide +kernel) ?_
        refine lv_iload hx hb dL_law_23 (lv_at hl 0 rfl) ?_
        refine lv_aload_n hx hb dL_law_25 rfl (lv_at hl 6 rfl) ?_
        refine va_slen hx hb hX hbl hbA hS dL_law_26 ?_
        refine top_i (v := 6) rfl ?_
        refine lv_bipush (v := 6) hx hb dL_law_27 (by decide +kernel) ?_
        refine lv_isub hx hb dL_law_29 ?_
        refine top_i (v := 0) (by decide +kernel) ?_
        refine lv_icmp_gt (tgt := 2464) hx hb dL_law_30 (by decide +kernel) (fun _ => ?_) (fun h => absurd (by decide +kernel) h)
        refine lv_iconst (v := 1) hx hb dL_law_2464 (by decide +kernel) ?_
        refine va_forget (fun q hq => hAq _ (hS.2.2 q hq)) ?_
        refine W.widen (k := 600002) (n := 7302232) (by decide +kernel) (by decide +kernel) ?_
        exact lw_ret hx hb hr hlk dL_law_2465
      · exact (no_b (lo_nlt c800133) (up_nlt_w c800170) (by decide +kernel)).elim
      · exact (no_b (lo_nlt c800133) (up_nlt_w c800173) (by decide +kernel)).elim
      · exact (no_b (lo_nlt c800133) (up_nlt_w c800176) (by decide +kernel)).elim
      · exact (no_b (lo_nlt c800133) (up_nlt_w c800179) (by decide +kernel)).elim
    · subst c800136
      have hP : va_P D vwCl [(n3900, .inr (12, [.ref n3000, .ref n3001, .ref n3002, .ref n3003, .int 0, .ref n3004, .int 0, .int 0, .int 0, .int 0, .int 0, .int 0, .int 0, .int 0, .int 0, .int (-1), .int 0, .ref n3005, .ref n3006, .int 0, .ref n3007, .ref n3008, .int 0, .int 0, .int 0, .int 0, .int 0, .int 0, .int 0, .ref n3009, .ref n3010, .int 0, .int 0, .ref n3011, .ref n3012, .int 0, .int 0, .ref n3013, .ref n3014, .ref n3015, .int 0, .ref n3016, .ref n3017, .ref n3018])), (n3016, .inl (cy 1, 4, .inl (upd (upd (upd (upd (fun _ => 0) 0 (-1)) 1 (-1)) 2 (-1)) 3 (-1))))] H := hP
      have hD : va_D A [(n3900, .inr (12, [.ref n3000, .ref n3001, .ref n3002, .ref n3003, .int 0, .ref n3004, .int 0, .int 0, .int 0, .int 0, .int 0, .int 0, .int 0, .int 0, .int 0, .int (-1), .int 0, .ref n3005, .ref n3006, .int 0, .ref n3007, .ref n3008, .int 0, .int 0, .int 0, .int 0, .int 0, .int 0, .int 0, .ref n3009, .ref n3010, .int 0, .int 0, .ref n3011, .ref n3012, .int 0, .int 0, .ref n3013, .ref n3014, .ref n3015, .int 0, .ref n3016, .ref n3017, .ref n3018])), (n3016, .inl (cy 1, 4, .inl (upd (upd (upd (upd (fun _ => 0) 0 (-1)) 1 (-1)) 2 (-1)) 3 (-1))))] := hD
      refine lv_istore (lv' := [(5, .int 2), (4, .int 0), (3, .ref n5000), (2, .ref n3900), (1, .ref n1900), (0, .ref b)]) hx hb dL_law_1681 hl (by decide +kernel) rfl (fun ls hl => ?_)
      refine lv_aload_n hx hb dL_law_1683 rfl (lv_at hl 3 rfl) ?_
      refine lv_aload_n hx hb dL_law_1684 rfl (lv_at hl 5 rfl) ?_
      refine lv_iload hx hb dL_law_1685 (lv_at hl 1 rfl) ?_
      refine lv_iconst (v := 1) hx hb dL_law_1687 (by decide +kernel) ?_
      refine lv_iadd hx hb dL_law_1688 ?_
      refine top_i (v := 1) (by decide +kernel) ?_
      refine va_sld hx hb hX hbl hbA hS (i := 1) (vin (by decide +kernel)) dL_law_1689 ?_
      refine top_i (v := 0) ez1 ?_
      refine lv_aload_n hx hb dL_law_1690 rfl (lv_at hl 5 rfl) ?_
      refine lv_iload hx hb dL_law_1691 (lv_at hl 1 rfl) ?_
      refine lv_iconst (v := 2) hx hb dL_law_1693 (by decide +kernel) ?_
      refine lv_iadd hx hb dL_law_1694 ?_
      refine top_i (v := 2) (by decide +kernel) ?_
      refine va_sld hx hb hX hbl hbA hS (i := 2) (vin (by decide +kernel)) dL_law_1695 ?_
      refine top_i (v := z2) ez2 ?_
      refine lv_if_eq (tgt := 1703) hx hb dL_law_1696 (by decide +kernel) (fun h => absurd h c800001) (fun _ => ?_)
      refine lv_iconst (v := 1) hx hb dL_law_1699 (by decide +kernel) ?_
      refine lv_goto (tgt := 1704) hx hb dL_law_1700 (by decide +kernel) ?_
      refine call_i (av := [.ref n3900, .int 0, .int 1]) F hP hD hS [(n3900, .inr (12, [.ref n3000, .ref n3001, .ref n3002, .ref n3003, .int 0, .ref n3004, .int 0, .int 0, .int 0, .int 0, .int 0, .int 0, .int 0, .int 0, .int 0, .int (-1), .int 0, .ref n3005, .ref n3006, .int 0, .ref n3007, .ref n3008, .int 0, .int 0, .int 0, .int 0, .int 0, .int 0, .int 0, .ref n3009, .ref n3010, .int 0, .int 0, .ref n3011, .ref n3012, .int 0, .int 0, .ref n3013, .ref n3014, .ref n3015, .int 0, .ref n3016, .ref n3017, .ref n3018])), (n3016, .inl (cy 1, 4, .inl (upd (upd (upd (upd (fun _ => 0) 0 (-1)) 1 (-1)) 2 (-1)) 3 (-1))))] [] [0, 1] [] rfl rfl (by decide +kernel) (fun pr => va_runV (As := [.int 0, .int 1]) (rest := []) ⟨hx, hb, hml, hown, hts⟩ (k204_X12_goats l D cy H.size n3900 0 1 n3016 n3000 n3001 n3002 n3003 n3004 n3005 n3006 n3007 n3008 n3009 n3010 n3011 n3012 n3013 n3014 n3015 n3017 n3018) (cwV 2 hts gw_X12_goats rfl rfl rfl (by decide +kernel) ⟨(by decide +kernel), (by decide +kernel)⟩) ⟨pr.1, va_recv hK hP (ci := 12) (q0 := 0) rfl rfl, pr.2⟩ rfl rfl hl.1 rfl (lv_room (Nat.le_of_ble_eq_true rfl)) dL_law_1704 ⟨(by decide +kernel), (by decide +kernel)⟩) (fun r u H locs hw hP hD hS => ?_)
      rcases hw with ⟨c800185, rfl, rfl⟩ | ⟨c800186, c800187, rfl, rfl⟩ | ⟨c800188, c800189, c800190, rfl, rfl⟩ | ⟨c800191, c800192, c800193, rfl, rfl⟩ | ⟨c800194, c800195, c800196, rfl, rfl⟩ | ⟨c800197, c800198, c800199, rfl, rfl⟩
      · exact absurd c800185 (by decide +kernel)
      · exact absurd c800187 (by decide +kernel)
      · have hP : va_P D vwCl [(n3900, .inr (12, [.ref n3000, .ref n3001, .ref n3002, .ref n3003, .int 2, .ref n3004, .int 0, .int 0, .int 0, .int 0, .int 0, .int 0, .int 0, .int 0, .int 0, .int (-1), .int 0, .ref n3005, .ref n3006, .int 0, .ref n3007, .ref n3008, .int 0, .int 0, .int 0, .int 0, .int 0, .int 0, .int 0, .ref n3009, .ref n3010, .int 0, .int 0, .ref n3011, .ref n3012, .int 0, .int 0, .ref n3013, .ref n3014, .ref n3015, .int 0, .ref n3016, .ref n3017, .ref n3018])), (n3016, .inl (cy 1, 4, .inl (upd (upd (upd (upd (fun _ => 0) 0 (-1)) 1 (-1)) 2 (-1)) 3 (-1))))] H := hP
        have hD : va_D A [(n3900, .inr (12, [.ref n3000, .ref n3001, .ref n3002, .ref n3003, .int 2, .ref n3004, .int 0, .int 0, .int 0, .int 0, .int 0, .int 0, .int 0, .int 0, .int 0, .int (-1), .int 0, .ref n3005, .ref n3006, .int 0, .ref n3007, .ref n3008, .int 0, .int 0, .int 0, .int 0, .int 0, .int 0, .int 0, .ref n3009, .ref n3010, .int 0, .int 0, .ref n3011, .ref n3012, .int 0, .int 0, .ref n3013, .ref n3014, .ref n3015, .int 0, .ref n3016, .ref n3017, .ref n3018])), (n3016, .inl (cy 1, 4, .inl (upd (upd (upd (upd (fun _ => 0) 0 (-1)) 1 (-1)) 2 (-1)) 3 (-1))))] := hD
        refine lv_istore (lv' := [(6, .int 0), (5, .int 2), (4, .int 0), (3, .ref n5000), (2, .ref n3900), (1, .ref n1900), (0, .ref b)]) hx hb dL_law_1707 hl (by decide +kernel) rfl (fun ls hl => ?_)
        refine lv_aload_n hx hb dL_law_1709 rfl (lv_at hl 4 rfl) ?_
        refine call_i (av := [.ref n3900]) F hP hD hS [(n3900, .inr (12, [.ref n3000, .ref n3001, .ref n3002, .ref n3003, .int 2, .ref n3004, .int 0, .int 0, .int 0, .int 0, .int 0, .int 0, .int 0, .int 0, .int 0, .int (-1), .int 0, .ref n3005, .ref n3006, .int 0, .ref n3007, .ref n3008, .int 0, .int 0, .int 0, .int 0, .int 0, .int 0, .int 0, .ref n3009, .ref n3010, .int 0, .int 0, .ref n3011, .ref n3012, .int 0, .int 0, .ref n3013, .ref n3014, .ref n3015, .int 0, .ref n3016, .ref n3017, .ref n3018]))] [(n3016, .inl (cy 1, 4, .inl (upd (upd (upd (upd (fun _ => 0) 0 (-1)) 1 (-1)) 2 (-1)) 3 (-1))))] [0] [1] rfl rfl (by decide +kernel) (fun pr => va_runV (As := []) (rest := []) ⟨hx, hb, hml, hown, hts⟩ (k335_X12_thrown l D cy H.size n3900 n3000 n3001 n3002 n3003 n3004 n3005 n3006 n3007 n3008 n3009 n3010 n3011 n3012 n3013 n3014 n3015 n3016 n3017 n3018) (cwV 0 hts gw_X12_thrown rfl rfl rfl (by decide +kernel) ⟨(by decide +kernel), (by decide +kernel)⟩) ⟨pr.1, va_recv hK hP (ci := 12) (q0 := 0) rfl rfl, pr.2⟩ rfl rfl hl.1 rfl (lv_room (Nat.le_of_ble_eq_true rfl)) dL_law_1710 ⟨(by decide +kernel), (by decide +kernel)⟩) (fun r u H locs hw hP hD hS => ?_)
        rcases hw with ⟨rfl, rfl⟩
        have hP : va_P D vwCl [(n3016, .inl (cy 1, 4, .inl (upd (upd (upd (upd (fun _ => 0) 0 (-1)) 1 (-1)) 2 (-1)) 3 (-1)))), (n3900, .inr (12, [.ref n3000, .ref n3001, .ref n3002, .ref n3003, .int 2, .ref n3004, .int 0, .int 0, .int 0, .int 0, .int 0, .int 0, .int 0, .int 0, .int 0, .int (-1), .int 0, .ref n3005, .ref n3006, .int 0, .ref n3007, .ref n3008, .int 0, .int 0, .int 0, .int 0, .int 0, .int 0, .int 0, .ref n3009, .ref n3010, .int 0, .int 0, .ref n3011, .ref n3012, .int 0, .int 0, .ref n3013, .ref n3014, .ref n3015, .int 0, .ref n3016, .ref n3017, .ref n3018]))] H := hP
        have hD : va_D A [(n3016, .inl (cy 1, 4, .inl (upd (upd (upd (upd (fun _ => 0) 0 (-1)) 1 (-1)) 2 (-1)) 3 (-1)))), (n3900, .inr (12, [.ref n3000, .ref n3001, .ref n3002, .ref n3003, .int 2, .ref n3004, .int 0, .int 0, .int 0, .int 0, .int 0, .int 0, .int 0, .int 0, .int 0, .int (-1), .int 0, .ref n3005, .ref n3006, .int 0, .ref n3007, .ref n3008, .int 0, .int 0, .int 0, .int 0, .int 0, .int 0, .int 0, .ref n3009, .ref n3010, .int 0, .int 0, .ref n3011, .ref n3012, .int 0, .int 0, .ref n3013, .ref n3014, .ref n3015, .int 0, .ref n3016, .ref n3017, .ref n3018]))] := hD
        refine lv_iload hx hb dL_law_1713 (lv_at hl 1 rfl) ?_
        refine lv_icmp_eq (tgt := 1720) hx hb dL_law_1715 (by decide +kernel) (fun _ => ?_) (fun h => absurd (by decide +kernel) h)
        refine lv_iload hx hb dL_law_1720 (lv_at hl 1 rfl) ?_
        refine lv_if_ne (tgt := 1737) hx hb dL_law_1722 (by decide +kernel) (fun _ => ?_) (fun h => absurd h (by decide +kernel))
        refine lv_goto (tgt := 2458) hx hb dL_law_1737 (by decide +kernel) ?_
        refine lv_iinc (v := 6) (lv' := [(4, .int 6), (6, .int 0), (5, .int 2), (3, .ref n5000), (2, .ref n3900), (1, .ref n1900), (0, .ref b)]) hx hb dL_law_2458 hl (k := 2) rfl (by decide) (by decide +kernel) rfl (fun ls hl => ?_)
        refine lv_goto (tgt := 23) hx hb dL_law_2461 (by decide +kernel) ?_
        refine lv_iload hx hb dL_law_23 (lv_at hl 0 rfl) ?_
        refine lv_aload_n hx hb dL_law_25 rfl (lv_at hl 6 rfl) ?_
        refine va_slen hx hb hX hbl hbA hS dL_law_26 ?_
        refine top_i (v := 6) rfl ?_
        refine lv_bipush (v := 6) hx hb dL_law_27 (by decide +kernel) ?_
        refine lv_isub hx hb dL_law_29 ?_
        refine top_i (v := 0) (by decide +kernel) ?_
        refine lv_icmp_gt (tgt := 2464) hx hb dL_law_30 (by decide +kernel) (fun _ => ?_) (fun h => absurd (by decide +kernel) h)
        refine lv_iconst (v := 1) hx hb dL_law_2464 (by decide +kernel) ?_
        refine va_forget (fun q hq => hAq _ (hS.2.2 q hq)) ?_
        refine W.widen (k := 600002) (n := 7302232) (by decide +kernel) (by decide +kernel) ?_
        exact lw_ret hx hb hr hlk dL_law_2465
      · exact absurd c800193 (by decide +kernel)
      · exact absurd c800196 (by decide +kernel)
      · exact absurd c800199 (by decide +kernel)
    · subst c800139
      have hP : va_P D vwCl [(n3900, .inr (12, [.ref n3000, .ref n3001, .ref n3002, .ref n3003, .int 0, .ref n3004, .int 0, .int 0, .int 0, .int 0, .int 0, .int 0, .int 0, .int 0, .int 0, .int (-1), .int 0, .ref n3005, .ref n3006, .int 0, .ref n3007, .ref n3008, .int 0, .int 0, .int 0, .int 0, .int 0, .int 0, .int 0, .ref n3009, .ref n3010, .int 0, .int 0, .ref n3011, .ref n3012, .int 0, .int 0, .ref n3013, .ref n3014, .ref n3015, .int 0, .ref n3016, .ref n3017, .ref n3018])), (n3016, .inl (cy 1, 4, .inl (upd (upd (upd (upd (fun _ => 0) 0 (-1)) 1 (-1)) 2 (-1)) 3 (-1))))] H := hP
      have hD : va_D A [(n3900, .inr (12, [.ref n3000, .ref n3001, .ref n3002, .ref n3003, .int 0, .ref n3004, .int 0, .int 0, .int 0, .int 0, .int 0, .int 0, .int 0, .int 0, .int 0, .int (-1), .int 0, .ref n3005, .ref n3006, .int 0, .ref n3007, .ref n3008, .int 0, .int 0, .int 0, .int 0, .int 0, .int 0, .int 0, .ref n3009, .ref n3010, .int 0, .int 0, .ref n3011, .ref n3012, .int 0, .int 0, .ref n3013, .ref n3014, .ref n3015, .int 0, .ref n3016, .ref n3017, .ref n3018])), (n3016, .inl (cy 1, 4, .inl (upd (upd (upd (upd (fun _ => 0) 0 (-1)) 1 (-1)) 2 (-1)) 3 (-1))))] := hD
      refine lv_istore (lv' := [(5, .int 2), (4, .int 0), (3, .ref n5000), (2, .ref n3900), (1, .ref n1900), (0, .ref b)]) hx hb dL_law_1681 hl (by decide +kernel) rfl (fun ls hl => ?_)
      refine lv_aload_n hx hb dL_law_1683 rfl (lv_at hl 3 rfl) ?_
      refine lv_aload_n hx hb dL_law_1684 rfl (lv_at hl 5 rfl) ?_
      refine lv_iload hx hb dL_law_1685 (lv_at hl 1 rfl) ?_
      refine lv_iconst (v := 1) hx hb dL_law_1687 (by decide +kernel) ?_
      refine lv_iadd hx hb dL_law_1688 ?_
      refine top_i (v := 1) (by decide +kernel) ?_
      refine va_sld hx hb hX hbl hbA hS (i := 1) (vin (by decide +kernel)) dL_law_1689 ?_
      refine top_i (v := 1) ez1 ?_
      refine lv_aload_n hx hb dL_law_1690 rfl (lv_at hl 5 rfl) ?_
      refine lv_iload hx hb dL_law_1691 (lv_at hl 1 rfl) ?_
      refine lv_iconst (v := 2) hx hb dL_law_1693 (by decide +kernel) ?_
      refine lv_iadd hx hb dL_law_1694 ?_
      refine top_i (v := 2) (by decide +kernel) ?_
      refine va_sld hx hb hX hbl hbA hS (i := 2) (vin (by decide +kernel)) dL_law_1695 ?_
      refine top_i (v := z2) ez2 ?_
      refine lv_if_eq (tgt := 1703) hx hb dL_law_1696 (by decide +kernel) (fun h => absurd h c800001) (fun _ => ?_)
      refine lv_iconst (v := 1) hx hb dL_law_1699 (by decide +kernel) ?_
      refine lv_goto (tgt := 1704) hx hb dL_law_1700 (by decide +kernel) ?_
      refine call_i (av := [.ref n3900, .int 1, .int 1]) F hP hD hS [(n3900, .inr (12, [.ref n3000, .ref n3001, .ref n3002, .ref n3003, .int 0, .ref n3004, .int 0, .int 0, .int 0, .int 0, .int 0, .int 0, .int 0, .int 0, .int 0, .int (-1), .int 0, .ref n3005, .ref n3006, .int 0, .ref n3007, .ref n3008, .int 0, .int 0, .int 0, .int 0, .int 0, .int 0, .int 0, .ref n3009, .ref n3010, .int 0, .int 0, .ref n3011, .ref n3012, .int 0, .int 0, .ref n3013, .ref n3014, .ref n3015, .int 0, .ref n3016, .ref n3017, .ref n3018])), (n3016, .inl (cy 1, 4, .inl (upd (upd (upd (upd (fun _ => 0) 0 (-1)) 1 (-1)) 2 (-1)) 3 (-1))))] [] [0, 1] [] rfl rfl (by decide +kernel) (fun pr => va_runV (As := [.int 1, .int 1]) (rest := []) ⟨hx, hb, hml, hown, hts⟩ (k204_X12_goats l D cy H.size n3900 1 1 n3016 n3000 n3001 n3002 n3003 n3004 n3005 n3006 n3007 n3008 n3009 n3010 n3011 n3012 n3013 n3014 n3015 n3017 n3018) (cwV 2 hts gw_X12_goats rfl rfl rfl (by decide +kernel) ⟨(by decide +kernel), (by decide +kernel)⟩) ⟨pr.1, va_recv hK hP (ci := 12) (q0 := 0) rfl rfl, pr.2⟩ rfl rfl hl.1 rfl (lv_room (Nat.le_of_ble_eq_true rfl)) dL_law_1704 ⟨(by decide +kernel), (by decide +kernel)⟩) (fun r u H locs hw hP hD hS => ?_)
      rcases hw with ⟨c800204, rfl, rfl⟩ | ⟨c800205, c800206, rfl, rfl⟩ | ⟨c800207, c800208, c800209, rfl, rfl⟩ | ⟨c800210, c800211, c800212, rfl, rfl⟩ | ⟨c800213, c800214, c800215, rfl, rfl⟩ | ⟨c800216, c800217, c800218, rfl, rfl⟩
      · exact absurd c800204 (by decide +kernel)
      · exact absurd c800206 (by decide +kernel)
      · exact absurd c800209 (by decide +kernel)
      · have hP : va_P D vwCl [(n3900, .inr (12, [.ref n3000, .ref n3001, .ref n3002, .ref n3003, .int 2, .ref n3004, .int 0, .int 0, .int 0, .int 0, .int 0, .int 0, .int 0, .int 0, .int 0, .int (-1), .int 0, .ref n3005, .ref n3006, .int 0, .ref n3007, .ref n3008, .int 0, .int 0, .int 0, .int 0, .int 0, .int 0, .int 0, .ref n3009, .ref n3010, .int 0, .int 0, .ref n3011, .ref n3012, .int 0, .int 0, .ref n3013, .ref n3014, .ref n3015, .int 0, .ref n3016, .ref n3017, .ref n3018])), (n3016, .inl (cy 1, 4, .inl (upd (upd (upd (upd (fun _ => 0) 0 (-1)) 1 (-1)) 2 (-1)) 3 (-1))))] H := hP
        have hD : va_D A [(n3900, .inr (12, [.ref n3000, .ref n3001, .ref n3002, .ref n3003, .int 2, .ref n3004, .int 0, .int 0, .int 0, .int 0, .int 0, .int 0, .int 0, .int 0, .int 0, .int (-1), .int 0, .ref n3005, .ref n3006, .int 0, .ref n3007, .ref n3008, .int 0, .int 0, .int 0, .int 0, .int 0, .int 0, .int 0, .ref n3009, .ref n3010, .int 0, .int 0, .ref n3011, .ref n3012, .int 0, .int 0, .ref n3013, .ref n3014, .ref n3015, .int 0, .ref n3016, .ref n3017, .ref n3018])), (n3016, .inl (cy 1, 4, .inl (upd (upd (upd (upd (fun _ => 0) 0 (-1)) 1 (-1)) 2 (-1)) 3 (-1))))] := hD
        refine lv_istore (lv' := [(6, .int 0), (5, .int 2), (4, .int 0), (3, .ref n5000), (2, .ref n3900), (1, .ref n1900), (0, .ref b)]) hx hb dL_law_1707 hl (by decide +kernel) rfl (fun ls hl => ?_)
        refine lv_aload_n hx hb dL_law_1709 rfl (lv_at hl 4 rfl) ?_
        refine call_i (av := [.ref n3900]) F hP hD hS [(n3900, .inr (12, [.ref n3000, .ref n3001, .ref n3002, .ref n3003, .int 2, .ref n3004, .int 0, .int 0, .int 0, .int 0, .int 0, .int 0, .int 0, .int 0, .int 0, .int (-1), .int 0, .ref n3005, .ref n3006, .int 0, .ref n3007, .ref n3008, .int 0, .int 0, .int 0, .int 0, .int 0, .int 0, .int 0, .ref n3009, .ref n3010, .int 0, .int 0, .ref n3011, .ref n3012, .int 0, .int 0, .ref n3013, .ref n3014, .ref n3015, .int 0, .ref n3016, .ref n3017, .ref n3018]))] [(n3016, .inl (cy 1, 4, .inl (upd (upd (upd (upd (fun _ => 0) 0 (-1)) 1 (-1)) 2 (-1)) 3 (-1))))] [0] [1] rfl rfl (by decide +kernel) (fun pr => va_runV (As := []) (rest := []) ⟨hx, hb, hml, hown, hts⟩ (k335_X12_thrown l D cy H.size n3900 n3000 n3001 n3002 n3003 n3004 n3005 n3006 n3007 n3008 n3009 n3010 n3011 n3012 n3013 n3014 n3015 n3016 n3017 n3018) (cwV 0 hts gw_X12_thrown rfl rfl rfl (by decide +kernel) ⟨(by decide +kernel), (by decide +kernel)⟩) ⟨pr.1, va_recv hK hP (ci := 12) (q0 := 0) rfl rfl, pr.2⟩ rfl rfl hl.1 rfl (lv_room (Nat.le_of_ble_eq_true rfl)) dL_law_1710 ⟨(by decide +kernel), (by decide +kernel)⟩) (fun r u H locs hw hP hD hS => ?_)
        rcases hw with ⟨rfl, rfl⟩
        have hP : va_P D vwCl [(n3016, .inl (cy 1, 4, .inl (upd (upd (upd (upd (fun _ => 0) 0 (-1)) 1 (-1)) 2 (-1)) 3 (-1)))), (n3900, .inr (12, [.ref n3000, .ref n3001, .ref n3002, .ref n3003, .int 2, .ref n3004, .int 0, .int 0, .int 0, .int 0, .int 0, .int 0, .int 0, .int 0, .int 0, .int (-1), .int 0, .ref n3005, .ref n3006, .int 0, .ref n3007, .ref n3008, .int 0, .int 0, .int 0, .int 0, .int 0, .int 0, .int 0, .ref n3009, .ref n3010, .int 0, .int 0, .ref n3011, .ref n3012, .int 0, .int 0, .ref n3013, .ref n3014, .ref n3015, .int 0, .ref n3016, .ref n3017, .ref n3018]))] H := hP
        have hD : va_D A [(n3016, .inl (cy 1, 4, .inl (upd (upd (upd (upd (fun _ => 0) 0 (-1)) 1 (-1)) 2 (-1)) 3 (-1)))), (n3900, .inr (12, [.ref n3000, .ref n3001, .ref n3002, .ref n3003, .int 2, .ref n3004, .int 0, .int 0, .int 0, .int 0, .int 0, .int 0, .int 0, .int 0, .int 0, .int (-1), .int 0, .ref n3005, .ref n3006, .int 0, .ref n3007, .ref n3008, .int 0, .int 0, .int 0, .int 0, .int 0, .int 0, .int 0, .ref n3009, .ref n3010, .int 0, .int 0, .ref n3011, .ref n3012, .int 0, .int 0, .ref n3013, .ref n3014, .ref n3015, .int 0, .ref n3016, .ref n3017, .ref n3018]))] := hD
        refine lv_iload hx hb dL_law_1713 (lv_at hl 1 rfl) ?_
        refine lv_icmp_eq (tgt := 1720) hx hb dL_law_1715 (by decide +kernel) (fun _ => ?_) (fun h => absurd (by decide +kernel) h)
        refine lv_iload hx hb dL_law_1720 (lv_at hl 1 rfl) ?_
        refine lv_if_ne (tgt := 1737) hx hb dL_law_1722 (by decide +kernel) (fun _ => ?_) (fun h => absurd h (by decide +kernel))
        refine lv_goto (tgt := 2458) hx hb dL_law_1737 (by decide +kernel) ?_
        refine lv_iinc (v := 6) (lv' := [(4, .int 6), (6, .int 0), (5, .int 2), (3, .ref n5000), (2, .ref n3900), (1, .ref n1900), (0, .ref b)]) hx hb dL_law_2458 hl (k := 2) rfl (by decide) (by decide +kernel) rfl (fun ls hl => ?_)
        refine lv_goto (tgt := 23) hx hb dL_law_2461 (by decide +kernel) ?_
        refine lv_iload hx hb dL_law_23 (lv_at hl 0 rfl) ?_
        refine lv_aload_n hx hb dL_law_25 rfl (lv_at hl 6 rfl) ?_
        refine va_slen hx hb hX hbl hbA hS dL_law_26 ?_
        refine top_i (v := 6) rfl ?_
        refine lv_bipush (v := 6) hx hb dL_law_27 (by decide +kernel) ?_
        refine lv_isub hx hb dL_law_29 ?_
        refine top_i (v := 0) (by decide +kernel) ?_
        refine lv_icmp_gt (tgt := 2464) hx hb dL_law_30 (by decide +kernel) (fun _ => ?_) (fun h => absurd (by decide +kernel) h)
        refine lv_iconst (v := 1) hx hb dL_law_2464 (by decide +kernel) ?_
        refine va_forget (fun q hq => hAq _ (hS.2.2 q hq)) ?_
        refine W.widen (k := 600002) (n := 7302232) (by decide +kernel) (by decide +kernel) ?_
        exact lw_ret hx hb hr hlk dL_law_2465
      · exact absurd c800215 (by decide +kernel)
      · exact absurd c800218 (by decide +kernel)
    · subst c800142
      have hP : va_P D vwCl [(n3900, .inr (12, [.ref n3000, .ref n3001, .ref n3002, .ref n3003, .int 0, .ref n3004, .int 0, .int 0, .int 0, .int 0, .int 0, .int 0, .int 0, .int 0, .int 0, .int (-1), .int 0, .ref n3005, .ref n3006, .int 0, .ref n3007, .ref n3008, .int 0, .int 0, .int 0, .int 0, .int 0, .int 0, .int 0, .ref n3009, .ref n3010, .int 0, .int 0, .ref n3011, .ref n3012, .int 0, .int 0, .ref n3013, .ref n3014, .ref n3015, .int 0, .ref n3016, .ref n3017, .ref n3018])), (n3016, .inl (cy 1, 4, .inl (upd (upd (upd (upd (fun _ => 0) 0 (-1)) 1 (-1)) 2 (-1)) 3 (-1))))] H := hP
      have hD : va_D A [(n3900, .inr (12, [.ref n3000, .ref n3001, .ref n3002, .ref n3003, .int 0, .ref n3004, .int 0, .int 0, .int 0, .int 0, .int 0, .int 0, .int 0, .int 0, .int 0, .int (-1), .int 0, .ref n3005, .ref n3006, .int 0, .ref n3007, .ref n3008, .int 0, .int 0, .int 0, .int 0, .int 0, .int 0, .int 0, .ref n3009, .ref n3010, .int 0, .int 0, .ref n3011, .ref n3012, .int 0, .int 0, .ref n3013, .ref n3014, .ref n3015, .int 0, .ref n3016, .ref n3017, .ref n3018])), (n3016, .inl (cy 1, 4, .inl (upd (upd (upd (upd (fun _ => 0) 0 (-1)) 1 (-1)) 2 (-1)) 3 (-1))))] := hD
      refine lv_istore (lv' := [(5, .int 2), (4, .int 0), (3, .ref n5000), (2, .ref n3900), (1, .ref n1900), (0, .ref b)]) hx hb dL_law_1681 hl (by decide +kernel) rfl (fun ls hl => ?_)
      refine lv_aload_n hx hb dL_law_1683 rfl (lv_at hl 3 rfl) ?_
      refine lv_aload_n hx hb dL_law_1684 rfl (lv_at hl 5 rfl) ?_
      refine lv_iload hx hb dL_law_1685 (lv_at hl 1 rfl) ?_
      refine lv_iconst (v := 1) hx hb dL_law_1687 (by decide +kernel) ?_
      refine lv_iadd hx hb dL_law_1688 ?_
      refine top_i (v := 1) (by decide +kernel) ?_
      refine va_sld hx hb hX hbl hbA hS (i := 1) (vin (by decide +kernel)) dL_law_1689 ?_
      refine top_i (v := 2) ez1 ?_
      refine lv_aload_n hx hb dL_law_1690 rfl (lv_at hl 5 rfl) ?_
      refine lv_iload hx hb dL_law_1691 (lv_at hl 1 rfl) ?_
      refine lv_iconst (v := 2) hx hb dL_law_1693 (by decide +kernel) ?_
      refine lv_iadd hx hb dL_law_1694 ?_
      refine top_i (v := 2) (by decide +kernel) ?_
      refine va_sld hx hb hX hbl hbA hS (i := 2) (vin (by decide +kernel)) dL_law_1695 ?_
      refine top_i (v := z2) ez2 ?_
      refine lv_if_eq (tgt := 1703) hx hb dL_law_1696 (by decide +kernel) (fun h => absurd h c800001) (fun _ => ?_)
      refine lv_iconst (v := 1) hx hb dL_law_1699 (by decide +kernel) ?_
      refine lv_goto (tgt := 1704) hx hb dL_law_1700 (by decide +kernel) ?_
      refine call_i (av := [.ref n3900, .int 2, .int 1]) F hP hD hS [(n3900, .inr (12, [.ref n3000, .ref n3001, .ref n3002, .ref n3003, .int 0, .ref n3004, .int 0, .int 0, .int 0, .int 0, .int 0, .int 0, .int 0, .int 0, .int 0, .int (-1), .int 0, .ref n3005, .ref n3006, .int 0, .ref n3007, .ref n3008, .int 0, .int 0, .int 0, .int 0, .int 0, .int 0, .int 0, .ref n3009, .ref n3010, .int 0, .int 0, .ref n3011, .ref n3012, .int 0, .int 0, .ref n3013, .ref n3014, .ref n3015, .int 0, .ref n3016, .ref n3017, .ref n3018])), (n3016, .inl (cy 1, 4, .inl (upd (upd (upd (upd (fun _ => 0) 0 (-1)) 1 (-1)) 2 (-1)) 3 (-1))))] [] [0, 1] [] rfl rfl (by decide +kernel) (fun pr => va_runV (As := [.int 2, .int 1]) (rest := []) ⟨hx, hb, hml, hown, hts⟩ (k204_X12_goats l D cy H.size n3900 2 1 n3016 n3000 n3001 n3002 n3003 n3004 n3005 n3006 n3007 n3008 n3009 n3010 n3011 n3012 n3013 n3014 n3015 n3017 n3018) (cwV 2 hts gw_X12_goats rfl rfl rfl (by decide +kernel) ⟨(by decide +kernel), (by decide +kernel)⟩) ⟨pr.1, va_recv hK hP (ci := 12) (q0 := 0) rfl rfl, pr.2⟩ rfl rfl hl.1 rfl (lv_room (Nat.le_of_ble_eq_true rfl)) dL_law_1704 ⟨(by decide +kernel), (by decide +kernel)⟩) (fun r u H locs hw hP hD hS => ?_)
      rcases hw with ⟨c800223, rfl, rfl⟩ | ⟨c800224, c800225, rfl, rfl⟩ | ⟨c800226, c800227, c800228, rfl, rfl⟩ | ⟨c800229, c800230, c800231, rfl, rfl⟩ | ⟨c800232, c800233, c800234, rfl, rfl⟩ | ⟨c800235, c800236, c800237, rfl, rfl⟩
      · exact absurd c800223 (by decide +kernel)
      · exact absurd c800225 (by decide +kernel)
      · exact absurd c800228 (by decide +kernel)
      · exact absurd c800231 (by decide +kernel)
      · have hP : va_P D vwCl [(n3900, .inr (12, [.ref n3000, .ref n3001, .ref n3002, .ref n3003, .int 2, .ref n3004, .int 0, .int 0, .int 0, .int 0, .int 0, .int 0, .int 0, .int 0, .int 0, .int (-1), .int 0, .ref n3005, .ref n3006, .int 0, .ref n3007, .ref n3008, .int 0, .int 0, .int 0, .int 0, .int 0, .int 0, .int 0, .ref n3009, .ref n3010, .int 0, .int 0, .ref n3011, .ref n3012, .int 0, .int 0, .ref n3013, .ref n3014, .ref n3015, .int 0, .ref n3016, .ref n3017, .ref n3018])), (n3016, .inl (cy 1, 4, .inl (upd (upd (upd (upd (fun _ => 0) 0 (-1)) 1 (-1)) 2 (-1)) 3 (-1))))] H := hP
        have hD : va_D A [(n3900, .inr (12, [.ref n3000, .ref n3001, .ref n3002, .ref n3003, .int 2, .ref n3004, .int 0, .int 0, .int 0, .int 0, .int 0, .int 0, .int 0, .int 0, .int 0, .int (-1), .int 0, .ref n3005, .ref n3006, .int 0, .ref n3007, .ref n3008, .int 0, .int 0, .int 0, .int 0, .int 0, .int 0, .int 0, .ref n3009, .ref n3010, .int 0, .int 0, .ref n3011, .ref n3012, .int 0, .int 0, .ref n3013, .ref n3014, .ref n3015, .int 0, .ref n3016, .ref n3017, .ref n3018])), (n3016, .inl (cy 1, 4, .inl (upd (upd (upd (upd (fun _ => 0) 0 (-1)) 1 (-1)) 2 (-1)) 3 (-1))))] := hD
        refine lv_istore (lv' := [(6, .int 0), (5, .int 2), (4, .int 0), (3, .ref n5000), (2, .ref n3900), (1, .ref n1900), (0, .ref b)]) hx hb dL_law_1707 hl (by decide +kernel) rfl (fun ls hl => ?_)
        refine lv_aload_n hx hb dL_law_1709 rfl (lv_at hl 4 rfl) ?_
        refine call_i (av := [.ref n3900]) F hP hD hS [(n3900, .inr (12, [.ref n3000, .ref n3001, .ref n3002, .ref n3003, .int 2, .ref n3004, .int 0, .int 0, .int 0, .int 0, .int 0, .int 0, .int 0, .int 0, .int 0, .int (-1), .int 0, .ref n3005, .ref n3006, .int 0, .ref n3007, .ref n3008, .int 0, .int 0, .int 0, .int 0, .int 0, .int 0, .int 0, .ref n3009, .ref n3010, .int 0, .int 0, .ref n3011, .ref n3012, .int 0, .int 0, .ref n3013, .ref n3014, .ref n3015, .int 0, .ref n3016, .ref n3017, .ref n3018]))] [(n3016, .inl (cy 1, 4, .inl (upd (upd (upd (upd (fun _ => 0) 0 (-1)) 1 (-1)) 2 (-1)) 3 (-1))))] [0] [1] rfl rfl (by decide +kernel) (fun pr => va_runV (As := []) (rest := []) ⟨hx, hb, hml, hown, hts⟩ (k335_X12_thrown l D cy H.size n3900 n3000 n3001 n3002 n3003 n3004 n3005 n3006 n3007 n3008 n3009 n3010 n3011 n3012 n3013 n3014 n3015 n3016 n3017 n3018) (cwV 0 hts gw_X12_thrown rfl rfl rfl (by decide +kernel) ⟨(by decide +kernel), (by decide +kernel)⟩) ⟨pr.1, va_recv hK hP (ci := 12) (q0 := 0) rfl rfl, pr.2⟩ rfl rfl hl.1 rfl (lv_room (Nat.le_of_ble_eq_true rfl)) dL_law_1710 ⟨(by decide +kernel), (by decide +kernel)⟩) (fun r u H locs hw hP hD hS => ?_)
        rcases hw with ⟨rfl, rfl⟩
        have hP : va_P D vwCl [(n3016, .inl (cy 1, 4, .inl (upd (upd (upd (upd (fun _ => 0) 0 (-1)) 1 (-1)) 2 (-1)) 3 (-1)))), (n3900, .inr (12, [.ref n3000, .ref n3001, .ref n3002, .ref n3003, .int 2, .ref n3004, .int 0, .int 0, .int 0, .int 0, .int 0, .int 0, .int 0, .int 0, .int 0, .int (-1), .int 0, .ref n3005, .ref n3006, .int 0, .ref n3007, .ref n3008, .int 0, .int 0, .int 0, .int 0, .int 0, .int 0, .int 0, .ref n3009, .ref n3010, .int 0, .int 0, .ref n3011, .ref n3012, .int 0, .int 0, .ref n3013, .ref n3014, .ref n3015, .int 0, .ref n3016, .ref n3017, .ref n3018]))] H := hP
        have hD : va_D A [(n3016, .inl (cy 1, 4, .inl (upd (upd (upd (upd (fun _ => 0) 0 (-1)) 1 (-1)) 2 (-1)) 3 (-1)))), (n3900, .inr (12, [.ref n3000, .ref n3001, .ref n3002, .ref n3003, .int 2, .ref n3004, .int 0, .int 0, .int 0, .int 0, .int 0, .int 0, .int 0, .int 0, .int 0, .int (-1), .int 0, .ref n3005, .ref n3006, .int 0, .ref n3007, .ref n3008, .int 0, .int 0, .int 0, .int 0, .int 0, .int 0, .int 0, .ref n3009, .ref n3010, .int 0, .int 0, .ref n3011, .ref n3012, .int 0, .int 0, .ref n3013, .ref n3014, .ref n3015, .int 0, .ref n3016, .ref n3017, .ref n3018]))] := hD
        refine lv_iload hx hb dL_law_1713 (lv_at hl 1 rfl) ?_
        refine lv_icmp_eq (tgt := 1720) hx hb dL_law_1715 (by decide +kernel) (fun _ => ?_) (fun h => absurd (by decide +kernel) h)
        refine lv_iload hx hb dL_law_1720 (lv_at hl 1 rfl) ?_
        refine lv_if_ne (tgt := 1737) hx hb dL_law_1722 (by decide +kernel) (fun _ => ?_) (fun h => absurd h (by decide +kernel))
        refine lv_goto (tgt := 2458) hx hb dL_law_1737 (by decide +kernel) ?_
        refine lv_iinc (v := 6) (lv' := [(4, .int 6), (6, .int 0), (5, .int 2), (3, .ref n5000), (2, .ref n3900), (1, .ref n1900), (0, .ref b)]) hx hb dL_law_2458 hl (k := 2) rfl (by decide) (by decide +kernel) rfl (fun ls hl => ?_)
        refine lv_goto (tgt := 23) hx hb dL_law_2461 (by decide +kernel) ?_
        refine lv_iload hx hb dL_law_23 (lv_at hl 0 rfl) ?_
        refine lv_aload_n hx hb dL_law_25 rfl (lv_at hl 6 rfl) ?_
        refine va_slen hx hb hX hbl hbA hS dL_law_26 ?_
        refine top_i (v := 6) rfl ?_
        refine lv_bipush (v := 6) hx hb dL_law_27 (by decide +kernel) ?_
        refine lv_isub hx hb dL_law_29 ?_
        refine top_i (v := 0) (by decide +kernel) ?_
        refine lv_icmp_gt (tgt := 2464) hx hb dL_law_30 (by decide +kernel) (fun _ => ?_) (fun h => absurd (by decide +kernel) h)
        refine lv_iconst (v := 1) hx hb dL_law_2464 (by decide +kernel) ?_
        refine va_forget (fun q hq => hAq _ (hS.2.2 q hq)) ?_
        refine W.widen (k := 600002) (n := 7302232) (by decide +kernel) (by decide +kernel) ?_
        exact lw_ret hx hb hr hlk dL_law_2465
      · exact absurd c800237 (by decide +kernel)
    · subst c800145
      have hP : va_P D vwCl [(n3900, .inr (12, [.ref n3000, .ref n3001, .ref n3002, .ref n3003, .int 0, .ref n3004, .int 0, .int 0, .int 0, .int 0, .int 0, .int 0, .int 0, .int 0, .int 0, .int (-1), .int 0, .ref n3005, .ref n3006, .int 0, .ref n3007, .ref n3008, .int 0, .int 0, .int 0, .int 0, .int 0, .int 0, .int 0, .ref n3009, .ref n3010, .int 0, .int 0, .ref n3011, .ref n3012, .int 0, .int 0, .ref n3013, .ref n3014, .ref n3015, .int 0, .ref n3016, .ref n3017, .ref n3018])), (n3016, .inl (cy 1, 4, .inl (upd (upd (upd (upd (fun _ => 0) 0 (-1)) 1 (-1)) 2 (-1)) 3 (-1))))] H := hP
      have hD : va_D A [(n3900, .inr (12, [.ref n3000, .ref n3001, .ref n3002, .ref n3003, .int 0, .ref n3004, .int 0, .int 0, .int 0, .int 0, .int 0, .int 0, .int 0, .int 0, .int 0, .int (-1), .int 0, .ref n3005, .ref n3006, .int 0, .ref n3007, .ref n3008, .int 0, .int 0, .int 0, .int 0, .int 0, .int 0, .int 0, .ref n3009, .ref n3010, .int 0, .int 0, .ref n3011, .ref n3012, .int 0, .int 0, .ref n3013, .ref n3014, .ref n3015, .int 0, .ref n3016, .ref n3017, .ref n3018])), (n3016, .inl (cy 1, 4, .inl (upd (upd (upd (upd (fun _ => 0) 0 (-1)) 1 (-1)) 2 (-1)) 3 (-1))))] := hD
      refine lv_istore (lv' := [(5, .int 2), (4, .int 0), (3, .ref n5000), (2, .ref n3900), (1, .ref n1900), (0, .ref b)]) hx hb dL_law_1681 hl (by decide +kernel) rfl (fun ls hl => ?_)
      refine lv_aload_n hx hb dL_law_1683 rfl (lv_at hl 3 rfl) ?_
      refine lv_aload_n hx hb dL_law_1684 rfl (lv_at hl 5 rfl) ?_
      refine lv_iload hx hb dL_law_1685 (lv_at hl 1 rfl) ?_
      refine lv_iconst (v := 1) hx hb dL_law_1687 (by decide +kernel) ?_
      refine lv_iadd hx hb dL_law_1688 ?_
      refine top_i (v := 1) (by decide +kernel) ?_
      refine va_sld hx hb hX hbl hbA hS (i := 1) (vin (by decide +kernel)) dL_law_1689 ?_
      refine top_i (v := 3) ez1 ?_
      refine lv_aload_n hx hb dL_law_1690 rfl (lv_at hl 5 rfl) ?_
      refine lv_iload hx hb dL_law_1691 (lv_at hl 1 rfl) ?_
      refine lv_iconst (v := 2) hx hb dL_law_1693 (by decide +kernel) ?_
      refine lv_iadd hx hb dL_law_1694 ?_
      refine top_i (v := 2) (by decide +kernel) ?_
      refine va_sld hx hb hX hbl hbA hS (i := 2) (vin (by decide +kernel)) dL_law_1695 ?_
      refine top_i (v := z2) ez2 ?_
      refine lv_if_eq (tgt := 1703) hx hb dL_law_1696 (by decide +kernel) (fun h => absurd h c800001) (fun _ => ?_)
      refine lv_iconst (v := 1) hx hb dL_law_1699 (by decide +kernel) ?_
      refine lv_goto (tgt := 1704) hx hb dL_law_1700 (by decide +kernel) ?_
      refine call_i (av := [.ref n3900, .int 3, .int 1]) F hP hD hS [(n3900, .inr (12, [.ref n3000, .ref n3001, .ref n3002, .ref n3003, .int 0, .ref n3004, .int 0, .int 0, .int 0, .int 0, .int 0, .int 0, .int 0, .int 0, .int 0, .int (-1), .int 0, .ref n3005, .ref n3006, .int 0, .ref n3007, .ref n3008, .int 0, .int 0, .int 0, .int 0, .int 0, .int 0, .int 0, .ref n3009, .ref n3010, .int 0, .int 0, .ref n3011, .ref n3012, .int 0, .int 0, .ref n3013, .ref n3014, .ref n3015, .int 0, .ref n3016, .ref n3017, .ref n3018])), (n3016, .inl (cy 1, 4, .inl (upd (upd (upd (upd (fun _ => 0) 0 (-1)) 1 (-1)) 2 (-1)) 3 (-1))))] [] [0, 1] [] rfl rfl (by decide +kernel) (fun pr => va_runV (As := [.int 3, .int 1]) (rest := []) ⟨hx, hb, hml, hown, hts⟩ (k204_X12_goats l D cy H.size n3900 3 1 n3016 n3000 n3001 n3002 n3003 n3004 n3005 n3006 n3007 n3008 n3009 n3010 n3011 n3012 n3013 n3014 n3015 n3017 n3018) (cwV 2 hts gw_X12_goats rfl rfl rfl (by decide +kernel) ⟨(by decide +kernel), (by decide +kernel)⟩) ⟨pr.1, va_recv hK hP (ci := 12) (q0 := 0) rfl rfl, pr.2⟩ rfl rfl hl.1 rfl (lv_room (Nat.le_of_ble_eq_true rfl)) dL_law_1704 ⟨(by decide +kernel), (by decide +kernel)⟩) (fun r u H locs hw hP hD hS => ?_)
      rcases hw with ⟨c800242, rfl, rfl⟩ | ⟨c800243, c800244, rfl, rfl⟩ | ⟨c800245, c800246, c800247, rfl, rfl⟩ | ⟨c800248, c800249, c800250, rfl, rfl⟩ | ⟨c800251, c800252, c800253, rfl, rfl⟩ | ⟨c800254, c800255, c800256, rfl, rfl⟩
      · exact absurd c800242 (by decide +kernel)
      · exact absurd c800244 (by decide +kernel)
      · exact absurd c800247 (by decide +kernel)
      · exact absurd c800250 (by decide +kernel)
      · exact absurd c800253 (by decide +kernel)
      · have hP : va_P D vwCl [(n3900, .inr (12, [.ref n3000, .ref n3001, .ref n3002, .ref n3003, .int 2, .ref n3004, .int 0, .int 0, .int 0, .int 0, .int 0, .int 0, .int 0, .int 0, .int 0, .int (-1), .int 0, .ref n3005, .ref n3006, .int 0, .ref n3007, .ref n3008, .int 0, .int 0, .int 0, .int 0, .int 0, .int 0, .int 0, .ref n3009, .ref n3010, .int 0, .int 0, .ref n3011, .ref n3012, .int 0, .int 0, .ref n3013, .ref n3014, .ref n3015, .int 0, .ref n3016, .ref n3017, .ref n3018])), (n3016, .inl (cy 1, 4, .inl (upd (upd (upd (upd (fun _ => 0) 0 (-1)) 1 (-1)) 2 (-1)) 3 (-1))))] H := hP
        have hD : va_D A [(n3900, .inr (12, [.ref n3000, .ref n3001, .ref n3002, .ref n3003, .int 2, .ref n3004, .int 0, .int 0, .int 0, .int 0, .int 0, .int 0, .int 0, .int 0, .int 0, .int (-1), .int 0, .ref n3005, .ref n3006, .int 0, .ref n3007, .ref n3008, .int 0, .int 0, .int 0, .int 0, .int 0, .int 0, .int 0, .ref n3009, .ref n3010, .int 0, .int 0, .ref n3011, .ref n3012, .int 0, .int 0, .ref n3013, .ref n3014, .ref n3015, .int 0, .ref n3016, .ref n3017, .ref n3018])), (n3016, .inl (cy 1, 4, .inl (upd (upd (upd (upd (fun _ => 0) 0 (-1)) 1 (-1)) 2 (-1)) 3 (-1))))] := hD
        refine lv_istore (lv' := [(6, .int 0), (5, .int 2), (4, .int 0), (3, .ref n5000), (2, .ref n3900), (1, .ref n1900), (0, .ref b)]) hx hb dL_law_1707 hl (by decide +kernel) rfl (fun ls hl => ?_)
        refine lv_aload_n hx hb dL_law_1709 rfl (lv_at hl 4 rfl) ?_
        refine call_i (av := [.ref n3900]) F hP hD hS [(n3900, .inr (12, [.ref n3000, .ref n3001, .ref n3002, .ref n3003, .int 2, .ref n3004, .int 0, .int 0, .int 0, .int 0, .int 0, .int 0, .int 0, .int 0, .int 0, .int (-1), .int 0, .ref n3005, .ref n3006, .int 0, .ref n3007, .ref n3008, .int 0, .int 0, .int 0, .int 0, .int 0, .int 0, .int 0, .ref n3009, .ref n3010, .int 0, .int 0, .ref n3011, .ref n3012, .int 0, .int 0, .ref n3013, .ref n3014, .ref n3015, .int 0, .ref n3016, .ref n3017, .ref n3018]))] [(n3016, .inl (cy 1, 4, .inl (upd (upd (upd (upd (fun _ => 0) 0 (-1)) 1 (-1)) 2 (-1)) 3 (-1))))] [0] [1] rfl rfl (by decide +kernel) (fun pr => va_runV (As := []) (rest := []) ⟨hx, hb, hml, hown, hts⟩ (k335_X12_thrown l D cy H.size n3900 n3000 n3001 n3002 n3003 n3004 n3005 n3006 n3007 n3008 n3009 n3010 n3011 n3012 n3013 n3014 n3015 n3016 n3017 n3018) (cwV 0 hts gw_X12_thrown rfl rfl rfl (by decide +kernel) ⟨(by decide +kernel), (by decide +kernel)⟩) ⟨pr.1, va_recv hK hP (ci := 12) (q0 := 0) rfl rfl, pr.2⟩ rfl rfl hl.1 rfl (lv_room (Nat.le_of_ble_eq_true rfl)) dL_law_1710 ⟨(by decide +kernel), (by decide +kernel)⟩) (fun r u H locs hw hP hD hS => ?_)
        rcases hw with ⟨rfl, rfl⟩
        have hP : va_P D vwCl [(n3016, .inl (cy 1, 4, .inl (upd (upd (upd (upd (fun _ => 0) 0 (-1)) 1 (-1)) 2 (-1)) 3 (-1)))), (n3900, .inr (12, [.ref n3000, .ref n3001, .ref n3002, .ref n3003, .int 2, .ref n3004, .int 0, .int 0, .int 0, .int 0, .int 0, .int 0, .int 0, .int 0, .int 0, .int (-1), .int 0, .ref n3005, .ref n3006, .int 0, .ref n3007, .ref n3008, .int 0, .int 0, .int 0, .int 0, .int 0, .int 0, .int 0, .ref n3009, .ref n3010, .int 0, .int 0, .ref n3011, .ref n3012, .int 0, .int 0, .ref n3013, .ref n3014, .ref n3015, .int 0, .ref n3016, .ref n3017, .ref n3018]))] H := hP
        have hD : va_D A [(n3016, .inl (cy 1, 4, .inl (upd (upd (upd (upd (fun _ => 0) 0 (-1)) 1 (-1)) 2 (-1)) 3 (-1)))), (n3900, .inr (12, [.ref n3000, .ref n3001, .ref n3002, .ref n3003, .int 2, .ref n3004, .int 0, .int 0, .int 0, .int 0, .int 0, .int 0, .int 0, .int 0, .int 0, .int (-1), .int 0, .ref n3005, .ref n3006, .int 0, .ref n3007, .ref n3008, .int 0, .int 0, .int 0, .int 0, .int 0, .int 0, .int 0, .ref n3009, .ref n3010, .int 0, .int 0, .ref n3011, .ref n3012, .int 0, .int 0, .ref n3013, .ref n3014, .ref n3015, .int 0, .ref n3016, .ref n3017, .ref n3018]))] := hD
        refine lv_iload hx hb dL_law_1713 (lv_at hl 1 rfl) ?_
        refine lv_icmp_eq (tgt := 1720) hx hb dL_law_1715 (by decide +kernel) (fun _ => ?_) (fun h => absurd (by decide +kernel) h)
        refine lv_iload hx hb dL_law_1720 (lv_at hl 1 rfl) ?_
        refine lv_if_ne (tgt := 1737) hx hb dL_law_1722 (by decide +kernel) (fun _ => ?_) (fun h => absurd h (by decide +kernel))
        refine lv_goto (tgt := 2458) hx hb dL_law_1737 (by decide +kernel) ?_
        refine lv_iinc (v := 6) (lv' := [(4, .int 6), (6, .int 0), (5, .int 2), (3, .ref n5000), (2, .ref n3900), (1, .ref n1900), (0, .ref b)]) hx hb dL_law_2458 hl (k := 2) rfl (by decide) (by decide +kernel) rfl (fun ls hl => ?_)
        refine lv_goto (tgt := 23) hx hb dL_law_2461 (by decide +kernel) ?_
        refine lv_iload hx hb dL_law_23 (lv_at hl 0 rfl) ?_
        refine lv_aload_n hx hb dL_law_25 rfl (lv_at hl 6 rfl) ?_
        refine va_slen hx hb hX hbl hbA hS dL_law_26 ?_
        refine top_i (v := 6) rfl ?_
        refine lv_bipush (v := 6) hx hb dL_law_27 (by decide +kernel) ?_
        refine lv_isub hx hb dL_law_29 ?_
        refine top_i (v := 0) (by decide +kernel) ?_
        refine lv_icmp_gt (tgt := 2464) hx hb dL_law_30 (by decide +kernel) (fun _ => ?_) (fun h => absurd (by decide +kernel) h)
        refine lv_iconst (v := 1) hx hb dL_law_2464 (by decide +kernel) ?_
        refine va_forget (fun q hq => hAq _ (hS.2.2 q hq)) ?_
        refine W.widen (k := 600002) (n := 7302232) (by decide +kernel) (by decide +kernel) ?_
        exact lw_ret hx hb hr hlk dL_law_2465
set_option maxHeartbeats 4000000 in
set_option maxRecDepth 100000 in
theorem law_c29 {p : Program} {l : Launch} {e : Env} {s : State} {m : MethodId} {below : List Frame} {meth : Method} {c : Code} {b : Nat} {xs : Nat → Int32} {D : va_G} {cy : Nat → ClassId} {A : Nat → Prop} (hlT : l.stackTraces = false) (F : Fx D cy p m c cL_law 8 s #[Value.ref b] lw_tbl RL A) (hr : meth.sig.returnType = ret) (hlk : meth.locks = false) (hX : va_X b 6 xs s s.heap) (hbl : b < s.heap.size) (hbA : ¬ A b) (hAq : ∀ q, A q → s.heap.size ≤ q) {H : Heap} {locs : List Loc} {ls : Array Slot} (n1900 n1000 n1001 n1017 n1034 n1039 n1041 n1042 n1043 n1044 n1048 n1056 n1057 n1002 n1003 n1004 n1005 n1006 n1007 n1008 n1009 n1010 n1011 n1012 n1013 n1058 n1059 n1060 n1061 n3900 n3000 n3001 n3002 n3003 n3004 n3005 n3006 n3007 n3008 n3009 n3010 n3011 n3012 n3013 n3014 n3015 n3016 n3017 n3018 n5000 : Nat) (hP : va_P D vwCl [(n1900, .inr (11, [.ref n1000, .int 0, .ref n1001, .ref n1017, .ref n1034, .ref n1039, .ref n1041, .ref n1042, .ref n1043, .ref n1044, .ref n1048, .ref n1056, .ref n1057, .int 0])), (n1001, .inr (9, [.int 0, .int 0, .int 0, .int 0, .int 0, .ref n1002, .ref n1003, .ref n1004, .ref n1005, .ref n1006, .ref n1007, .ref n1008, .int 0, .ref n1009, .ref n1010, .ref n1011, .ref n1012, .ref n1013])), (n1057, .inr (8, [.ref n1001, .ref n1034, .ref n1058, .int 0, .ref n1059, .ref n1060, .ref n1061, .int 0, .int 0])), (n3900, .inr (12, [.ref n3000, .ref n3001, .ref n3002, .ref n3003, .int 0, .ref n3004, .int 0, .int 0, .int 0, .int 0, .int 0, .int 0, .int 0, .int 0, .int 0, .int (-1), .int 0, .ref n3005, .ref n3006, .int 0, .ref n3007, .ref n3008, .int 0, .int 0, .int 0, .int 0, .int 0, .int 0, .int 0, .ref n3009, .ref n3010, .int 0, .int 0, .ref n3011, .ref n3012, .int 0, .int 0, .ref n3013, .ref n3014, .ref n3015, .int 0, .ref n3016, .ref n3017, .ref n3018])), (n3000, .inl (cy 1, 1300, .inl (fun _ => 0))), (n5000, .inl (cy 2, 1, .inr (.inl (fun _ => 0))))] H) (hD : va_D A [(n1900, .inr (11, [.ref n1000, .int 0, .ref n1001, .ref n1017, .ref n1034, .ref n1039, .ref n1041, .ref n1042, .ref n1043, .ref n1044, .ref n1048, .ref n1056, .ref n1057, .int 0])), (n1001, .inr (9, [.int 0, .int 0, .int 0, .int 0, .int 0, .ref n1002, .ref n1003, .ref n1004, .ref n1005, .ref n1006, .ref n1007, .ref n1008, .int 0, .ref n1009, .ref n1010, .ref n1011, .ref n1012, .ref n1013])), (n1057, .inr (8, [.ref n1001, .ref n1034, .ref n1058, .int 0, .ref n1059, .ref n1060, .ref n1061, .int 0, .int 0])), (n3900, .inr (12, [.ref n3000, .ref n3001, .ref n3002, .ref n3003, .int 0, .ref n3004, .int 0, .int 0, .int 0, .int 0, .int 0, .int 0, .int 0, .int 0, .int 0, .int (-1), .int 0, .ref n3005, .ref n3006, .int 0, .ref n3007, .ref n3008, .int 0, .int 0, .int 0, .int 0, .int 0, .int 0, .int 0, .ref n3009, .ref n3010, .int 0, .int 0, .ref n3011, .ref n3012, .int 0, .int 0, .ref n3013, .ref n3014, .ref n3015, .int 0, .ref n3016, .ref n3017, .ref n3018])), (n3000, .inl (cy 1, 1300, .inl (fun _ => 0))), (n5000, .inl (cy 2, 1, .inr (.inl (fun _ => 0))))]) (hS : va_S A s.heap H locs) (hl : lv_has ls 8 [(4, .int 0), (3, .ref n5000), (2, .ref n3900), (1, .ref n1900), (0, .ref b)]) : W p l e room_1 s m #[Value.ref b] below meth c H locs 152 18765 (lw_Z below #[Value.ref b] s) (F0 m 1740 ls []) := by
  obtain ⟨⟨hx, hb, hml, hown, hts⟩, hK, hG, hZ, hA⟩ := id F
  obtain ⟨z1, ez1⟩ : ∃ z, xs 1 = z := ⟨_, rfl⟩
  obtain ⟨z2, ez2⟩ : ∃ z, xs 2 = z := ⟨_, rfl⟩
  obtain ⟨z3, ez3⟩ : ∃ z, xs 3 = z := ⟨_, rfl⟩
  obtain ⟨z4, ez4⟩ : ∃ z, xs 4 = z := ⟨_, rfl⟩
  obtain ⟨z5, ez5⟩ : ∃ z, xs 5 = z := ⟨_, rfl⟩
  refine lv_aload_n hx hb dL_law_1740 rfl (lv_at hl 3 rfl) ?_
  refine lv_aload_n hx hb dL_law_1741 rfl (lv_at hl 4 rfl) ?_
  refine lv_iload hx hb dL_law_1742 (lv_at hl 0 rfl) ?_
  refine lv_iconst (v := 1) hx hb dL_law_1744 (by decide +kernel) ?_
  refine lv_iadd hx hb dL_law_1745 ?_
  refine top_i (v := 1) (by decide +kernel) ?_
  refine va_sld hx hb hX hbl hbA hS (i := 1) (vin (by decide +kernel)) dL_law_1746 ?_
  refine top_i (v := z1) ez1 ?_
  refine lv_aload_n hx hb dL_law_1747 rfl (lv_at hl 4 rfl) ?_
  refine lv_iload hx hb dL_law_1748 (lv_at hl 0 rfl) ?_
  refine lv_iconst (v := 2) hx hb dL_law_1750 (by decide +kernel) ?_
  refine lv_iadd hx hb dL_law_1751 ?_
  refine top_i (v := 2) (by decide +kernel) ?_
  refine va_sld hx hb hX hbl hbA hS (i := 2) (vin (by decide +kernel)) dL_law_1752 ?_
  refine top_i (v := z2) ez2 ?_
  refine lv_if_eq (tgt := 1760) hx hb dL_law_1753 (by decide +kernel) (fun c800001 => ?_) (fun c800001 => ?_)
  · subst c800001
    refine lv_iconst (v := 0) hx hb dL_law_1760 (by decide +kernel) ?_
    refine lv_aload_n hx hb dL_law_1761 rfl (lv_at hl 4 rfl) ?_
    refine lv_iload hx hb dL_law_1762 (lv_at hl 0 rfl) ?_
    refine lv_iconst (v := 3) hx hb dL_law_1764 (by decide +kernel) ?_
    refine lv_iadd hx hb dL_law_1765 ?_
    refine top_i (v := 3) (by decide +kernel) ?_
    refine va_sld hx hb hX hbl hbA hS (i := 3) (vin (by decide +kernel)) dL_law_1766 ?_
    refine top_i (v := z3) ez3 ?_
    refine lv_aload_n hx hb dL_law_1767 rfl (lv_at hl 1 rfl) ?_
    refine call_i (av := [.ref n1900, .int z1, .int 0, .int z3, .ref n5000]) F hP hD hS [(n1900, .inr (11, [.ref n1000, .int 0, .ref n1001, .ref n1017, .ref n1034, .ref n1039, .ref n1041, .ref n1042, .ref n1043, .ref n1044, .ref n1048, .ref n1056, .ref n1057, .int 0])), (n1001, .inr (9, [.int 0, .int 0, .int 0, .int 0, .int 0, .ref n1002, .ref n1003, .ref n1004, .ref n1005, .ref n1006, .ref n1007, .ref n1008, .int 0, .ref n1009, .ref n1010, .ref n1011, .ref n1012, .ref n1013])), (n1057, .inr (8, [.ref n1001, .ref n1034, .ref n1058, .int 0, .ref n1059, .ref n1060, .ref n1061, .int 0, .int 0])), (n5000, .inl (cy 2, 1, .inr (.inl (fun _ => 0))))] [(n3900, .inr (12, [.ref n3000, .ref n3001, .ref n3002, .ref n3003, .int 0, .ref n3004, .int 0, .int 0, .int 0, .int 0, .int 0, .int 0, .int 0, .int 0, .int 0, .int (-1), .int 0, .ref n3005, .ref n3006, .int 0, .ref n3007, .ref n3008, .int 0, .int 0, .int 0, .int 0, .int 0, .int 0, .int 0, .ref n3009, .ref n3010, .int 0, .int 0, .ref n3011, .ref n3012, .int 0, .int 0, .ref n3013, .ref n3014, .ref n3015, .int 0, .ref n3016, .ref n3017, .ref n3018])), (n3000, .inl (cy 1, 1300, .inl (fun _ => 0)))] [0, 1, 2, 5] [3, 4] rfl rfl (by decide +kernel) (fun pr => vx_runSW (As := [.ref n1900, .int z1, .int 0, .int z3, .ref n5000]) (rest := []) ⟨hx, hb, hml, hown, hts⟩ (k323_L_bestRow l hlT D cy H.size n1900 z1 0 z3 n5000 n1001 n1057 n1000 n1017 n1034 n1039 n1041 n1042 n1043 n1044 n1048 n1056 n1002 n1003 n1004 n1005 n1006 n1007 n1008 n1009 n1010 n1011 n1012 n1013 n1058 n1059 n1060 n1061) (vx_cwSW 5 hts gw_L_bestRow rfl rfl rfl (by decide +kernel) ⟨(by decide +kernel), (by decide +kernel)⟩) pr rfl rfl hl.1 rfl (lv_room (Nat.le_of_ble_eq_true rfl)) dL_law_1768 ⟨(by decide +kernel), (by decide +kernel)⟩) (fun r u H locs hw hP hD hS => ?_)
    rcases hw with ⟨c800002, rfl, rfl⟩ | ⟨c800003, c800004, c800005, c800006, c800007, rfl, rfl⟩ | ⟨c800008, c800009, c800010, c800011, c800012, c800013, rfl, rfl⟩ | ⟨c800014, c800015, rfl, rfl⟩ | ⟨c800016, c800017, c800018, c800019, rfl, rfl⟩ | ⟨c800020, c800021, c800022, c800023, c800024, c800025, c800026, rfl, rfl⟩ | ⟨c800027, c800028, c800029, c800030, c800031, c800032, c800033, rfl, rfl⟩ | ⟨c800034, c800035, c800036, c800037, c800038, c800039, c800040, rfl, rfl⟩ | ⟨c800041, c800042, c800043, c800044, c800045, c800046, c800047, rfl, rfl⟩ | ⟨c800048, c800049, c800050, c800051, c800052, c800053, c800054, rfl, rfl⟩ | ⟨c800055, c800056, c800057, c800058, c800059, c800060, c800061, rfl, rfl⟩ | ⟨c800062, c800063, c800064, c800065, c800066, c800067, c800068, rfl, rfl⟩ | ⟨c800069, c800070, c800071, c800072, c800073, c800074, c800075, rfl, rfl⟩
    · have hP : va_P D vwCl [(n3900, .inr (12, [.ref n3000, .ref n3001, .ref n3002, .ref n3003, .int 0, .ref n3004, .int 0, .int 0, .int 0, .int 0, .int 0, .int 0, .int 0, .int 0, .int 0, .int (-1), .int 0, .ref n3005, .ref n3006, .int 0, .ref n3007, .ref n3008, .int 0, .int 0, .int 0, .int 0, .int 0, .int 0, .int 0, .ref n3009, .ref n3010, .int 0, .int 0, .ref n3011, .ref n3012, .int 0, .int 0, .ref n3013, .ref n3014, .ref n3015, .int 0, .ref n3016, .ref n3017, .ref n3018])), (n3000, .inl (cy 1, 1300, .inl (fun _ => 0))), (n5000, .inl (cy 2, 1, .inr (.inl (fun _ => 0))))] H := hP
      have hD : va_D A [(n3900, .inr (12, [.ref n3000, .ref n3001, .ref n3002, .ref n3003, .int 0, .ref n3004, .int 0, .int 0, .int 0, .int 0, .int 0, .int 0, .int 0, .int 0, .int 0, .int (-1), .int 0, .ref n3005, .ref n3006, .int 0, .ref n3007, .ref n3008, .int 0, .int 0, .int 0, .int 0, .int 0, .int 0, .int 0, .ref n3009, .ref n3010, .int 0, .int 0, .ref n3011, .ref n3012, .int 0, .int 0, .ref n3013, .ref n3014, .ref n3015, .int 0, .ref n3016, .ref n3017, .ref n3018])), (n3000, .inl (cy 1, 1300, .inl (fun _ => 0))), (n5000, .inl (cy 2, 1, .inr (.inl (fun _ => 0))))] := hD
      refine lv_istore (lv' := [(5, .int 1), (4, .int 0), (3, .ref n5000), (2, .ref n3900), (1, .ref n1900), (0, .ref b)]) hx hb dL_law_1771 hl (by decide +kernel) rfl (fun ls hl => ?_)
      refine lv_aload_n hx hb dL_law_1773 rfl (lv_at hl 3 rfl) ?_
      refine lv_aload_n hx hb dL_law_1774 rfl (lv_at hl 5 rfl) ?_
      refine lv_iload hx hb dL_law_1775 (lv_at hl 1 rfl) ?_
      refine lv_iconst (v := 1) hx hb dL_law_1777 (by decide +kernel) ?_
      refine lv_iadd hx hb dL_law_1778 ?_
      refine top_i (v := 1) (by decide +kernel) ?_
      refine va_sld hx hb hX hbl hbA hS (i := 1) (vin (by decide +kernel)) dL_law_1779 ?_
      refine top_i (v := z1) ez1 ?_
      refine lv_aload_n hx hb dL_law_1780 rfl (lv_at hl 5 rfl) ?_
      refine lv_iload hx hb dL_law_1781 (lv_at hl 1 rfl) ?_
      refine lv_iconst (v := 2) hx hb dL_law_1783 (by decide +kernel) ?_
      refine lv_iadd hx hb dL_law_1784 ?_
      refine top_i (v := 2) (by decide +kernel) ?_
      refine va_sld hx hb hX hbl hbA hS (i := 2) (vin (by decide +kernel)) dL_law_1785 ?_
      refine top_i (v := 0) ez2 ?_
      refine lv_if_eq (tgt := 1793) hx hb dL_law_1786 (by decide +kernel) (fun _ => ?_) (fun h => absurd (by decide +kernel) h)
      refine lv_iconst (v := 0) hx hb dL_law_1793 (by decide +kernel) ?_
      refine lv_aload_n hx hb dL_law_1794 rfl (lv_at hl 5 rfl) ?_
      refine lv_iload hx hb dL_law_1795 (lv_at hl 1 rfl) ?_
      refine lv_iconst (v := 3) hx hb dL_law_1797 (by decide +kernel) ?_
      refine lv_iadd hx hb dL_law_1798 ?_
      refine top_i (v := 3) (by decide +kernel) ?_
      refine va_sld hx hb hX hbl hbA hS (i := 3) (vin (by decide +kernel)) dL_law_1799 ?_
      refine top_i (v := z3) ez3 ?_
      refine call_i (av := [.ref n3900, .int z1, .int 0, .int z3]) F hP hD hS [(n3900, .inr (12, [.ref n3000, .ref n3001, .ref n3002, .ref n3003, .int 0, .ref n3004, .int 0, .int 0, .int 0, .int 0, .int 0, .int 0, .int 0, .int 0, .int 0, .int (-1), .int 0, .ref n3005, .ref n3006, .int 0, .ref n3007, .ref n3008, .int 0, .int 0, .int 0, .int 0, .int 0, .int 0, .int 0, .ref n3009, .ref n3010, .int 0, .int 0, .ref n3011, .ref n3012, .int 0, .int 0, .ref n3013, .ref n3014, .ref n3015, .int 0, .ref n3016, .ref n3017, .ref n3018])), (n3000, .inl (cy 1, 1300, .inl (fun _ => 0)))] [(n5000, .inl (cy 2, 1, .inr (.inl (fun _ => 0))))] [0, 1] [2] rfl rfl (by decide +kernel) (fun pr => va_runV (As := [.int z1, .int 0, .int z3]) (rest := []) ⟨hx, hb, hml, hown, hts⟩ (k242_X12_bestRow l D cy H.size n3900 z1 0 z3 n3000 n3001 n3002 n3003 n3004 n3005 n3006 n3007 n3008 n3009 n3010 n3011 n3012 n3013 n3014 n3015 n3016 n3017 n3018) (cwV 3 hts gw_X12_bestRow rfl rfl rfl (by decide +kernel) ⟨(by decide +kernel), (by decide +kernel)⟩) ⟨pr.1, va_recv hK hP (ci := 12) (q0 := 0) rfl rfl, pr.2⟩ rfl rfl hl.1 rfl (lv_room (Nat.le_of_ble_eq_true rfl)) dL_law_1800 ⟨(by decide +kernel), (by decide +kernel)⟩) (fun r u H locs hw hP hD hS => ?_)
      rcases hw with ⟨c800077, rfl, rfl⟩ | ⟨c800078, c800079, rfl, rfl⟩ | ⟨c800080, c800081, c800082, rfl, rfl⟩ | ⟨c800083, c800084, c800085, c800086, rfl, rfl⟩ | ⟨c800087, c800088, c800089, c800090, c800091, rfl, rfl⟩ | ⟨c800092, c800093, c800094, c800095, c800096, rfl, rfl⟩ | ⟨c800097, c800098, c800099, c800100, c800101, rfl, rfl⟩ | ⟨c800102, c800103, c800104, c800105, c800106, rfl, rfl⟩ | ⟨c800107, c800108, c800109, c800110, c800111, rfl, rfl⟩ | ⟨c800112, c800113, c800114, c800115, c800116, rfl, rfl⟩ | ⟨c800117, c800118, c800119, c800120, c800121, rfl, rfl⟩ | ⟨c800122, c800123, c800124, c800125, c800126, rfl, rfl⟩
      · have hP : va_P D vwCl [(n5000, .inl (cy 2, 1, .inr (.inl (fun _ => 0)))), (n3000, .inl (cy 1, 1300, .inl (fun _ => 0))), (n3900, .inr (12, [.ref n3000, .ref n3001, .ref n3002, .ref n3003, .int 1, .ref n3004, .int 0, .int 0, .int 0, .int 0, .int 0, .int 0, .int 0, .int 0, .int 0, .int (-1), .int 0, .ref n3005, .ref n3006, .int 0, .ref n3007, .ref n3008, .int 0, .int 0, .int 0, .int 0, .int 0, .int 0, .int 0, .ref n3009, .ref n3010, .int 0, .int 0, .ref n3011, .ref n3012, .int 0, .int 0, .ref n3013, .ref n3014, .ref n3015, .int 0, .ref n3016, .ref n3017, .ref n3018]))] H := hP
        have hD : va_D A [(n5000, .inl (cy 2, 1, .inr (.inl (fun _ => 0)))), (n3000, .inl (cy 1, 1300, .inl (fun _ => 0))), (n3900, .inr (12, [.ref n3000, .ref n3001, .ref n3002, .ref n3003, .int 1, .ref n3004, .int 0, .int 0, .int 0, .int 0, .int 0, .int 0, .int 0, .int 0, .int 0, .int (-1), .int 0, .ref n3005, .ref n3006, .int 0, .ref n3007, .ref n3008, .int 0, .int 0, .int 0, .int 0, .int 0, .int 0, .int 0, .ref n3009, .ref n3010, .int 0, .int 0, .ref n3011, .ref n3012, .int 0, .int 0, .ref n3013, .ref n3014, .ref n3015, .int 0, .ref n3016, .ref n3017, .ref n3018]))] := hD
        refine lv_istore (lv' := [(6, .int 0), (5, .int 1), (4, .int 0), (3, .ref n5000), (2, .ref n3900), (1, .ref n1900), (0, .ref b)]) hx hb dL_law_1803 hl (by decide +kernel) rfl (fun ls hl => ?_)
        refine lv_aload_n hx hb dL_law_1805 rfl (lv_at hl 4 rfl) ?_
        refine call_i (av := [.ref n3900]) F hP hD hS [(n3900, .inr (12, [.ref n3000, .ref n3001, .ref n3002, .ref n3003, .int 1, .ref n3004, .int 0, .int 0, .int 0, .int 0, .int 0, .int 0, .int 0, .int 0, .int 0, .int (-1), .int 0, .ref n3005, .ref n3006, .int 0, .ref n3007, .ref n3008, .int 0, .int 0, .int 0, .int 0, .int 0, .int 0, .int 0, .ref n3009, .ref n3010, .int 0, .int 0, .ref n3011, .ref n3012, .int 0, .int 0, .ref n3013, .ref n3014, .ref n3015, .int 0, .ref n3016, .ref n3017, .ref n3018]))] [(n5000, .inl (cy 2, 1, .inr (.inl (fun _ => 0)))), (n3000, .inl (cy 1, 1300, .inl (fun _ => 0)))] [2] [0, 1] rfl rfl (by decide +kernel) (fun pr => va_runV (As := []) (rest := []) ⟨hx, hb, hml, hown, hts⟩ (k333_X12_thrown l D cy H.size n3900 n3000 n3001 n3002 n3003 n3004 n3005 n3006 n3007 n3008 n3009 n3010 n3011 n3012 n3013 n3014 n3015 n3016 n3017 n3018) (cwV 0 hts gw_X12_thrown rfl rfl rfl (by decide +kernel) ⟨(by decide +kernel), (by decide +kernel)⟩) ⟨pr.1, va_recv hK hP (ci := 12) (q0 := 2) rfl rfl, pr.2⟩ rfl rfl hl.1 rfl (lv_room (Nat.le_of_ble_eq_true rfl)) dL_law_1806 ⟨(by decide +kernel), (by decide +kernel)⟩) (fun r u H locs hw hP hD hS => ?_)
        rcases hw with ⟨rfl, rfl⟩
        have hP : va_P D vwCl [(n5000, .inl (cy 2, 1, .inr (.inl (fun _ => 0)))), (n3000, .inl (cy 1, 1300, .inl (fun _ => 0))), (n3900, .inr (12, [.ref n3000, .ref n3001, .ref n3002, .ref n3003, .int 1, .ref n3004, .int 0, .int 0, .int 0, .int 0, .int 0, .int 0, .int 0, .int 0, .int 0, .int (-1), .int 0, .ref n3005, .ref n3006, .int 0, .ref n3007, .ref n3008, .int 0, .int 0, .int 0, .int 0, .int 0, .int 0, .int 0, .ref n3009, .ref n3010, .int 0, .int 0, .ref n3011, .ref n3012, .int 0, .int 0, .ref n3013, .ref n3014, .ref n3015, .int 0, .ref n3016, .ref n3017, .ref n3018]))] H := hP
        have hD : va_D A [(n5000, .inl (cy 2, 1, .inr (.inl (fun _ => 0)))), (n3000, .inl (cy 1, 1300, .inl (fun _ => 0))), (n3900, .inr (12, [.ref n3000, .ref n3001, .ref n3002, .ref n3003, .int 1, .ref n3004, .int 0, .int 0, .int 0, .int 0, .int 0, .int 0, .int 0, .int 0, .int 0, .int (-1), .int 0, .ref n3005, .ref n3006, .int 0, .ref n3007, .ref n3008, .int 0, .int 0, .int 0, .int 0, .int 0, .int 0, .int 0, .ref n3009, .ref n3010, .int 0, .int 0, .ref n3011, .ref n3012, .int 0, .int 0, .ref n3013, .ref n3014, .ref n3015, .int 0, .ref n3016, .ref n3017, .ref n3018]))] := hD
        refine lv_iload hx hb dL_law_1809 (lv_at hl 1 rfl) ?_
        refine lv_icmp_eq (tgt := 1816) hx hb dL_law_1811 (by decide +kernel) (fun _ => ?_) (fun h => absurd (by decide +kernel) h)
        refine lv_iload hx hb dL_law_1816 (lv_at hl 1 rfl) ?_
        refine lv_if_ne (tgt := 1833) hx hb dL_law_1818 (by decide +kernel) (fun _ => ?_) (fun h => absurd h (by decide +kernel))
        refine lv_goto (tgt := 2458) hx hb dL_law_1833 (by decide +kernel) ?_
        refine lv_iinc (v := 6) (lv' := [(4, .int 6), (6, .int 0), (5, .int 1), (3, .ref n5000), (2, .ref n3900), (1, .ref n1900), (0, .ref b)]) hx hb dL_law_2458 hl (k := 2) rfl (by decide) (by decide +kernel) rfl (fun ls hl => ?_)
        refine lv_goto (tgt := 23) hx hb dL_law_2461 (by decide +kernel) ?_
        refine lv_iload hx hb dL_law_23 (lv_at hl 0 rfl) ?_
        refine lv_aload_n hx hb dL_law_25 rfl (lv_at hl 6 rfl) ?_
        refine va_slen hx hb hX hbl hbA hS dL_law_26 ?_
        refine top_i (v := 6) rfl ?_
        refine lv_bipush (v := 6) hx hb dL_law_27 (by decide +kernel) ?_
        refine lv_isub hx hb dL_law_29 ?_
        refine top_i (v := 0) (by decide +kernel) ?_
        refine lv_icmp_gt (tgt := 2464) hx hb dL_law_30 (by decide +kernel) (fun _ => ?_) (fun h => absurd (by decide +kernel) h)
        refine lv_iconst (v := 1) hx hb dL_law_2464 (by decide +kernel) ?_
        refine va_forget (fun q hq => hAq _ (hS.2.2 q hq)) ?_
        refine W.widen (k := 600002) (n := 7302232) (by decide +kernel) (by decide +kernel) ?_
        exact lw_ret hx hb hr hlk dL_law_2465
      · exact (no_b (lo_eq c800078) (up_lt c800002) (by decide +kernel)).elim
      · exact (no_b (lo_eq c800080) (up_lt c800002) (by decide +kernel)).elim
      · exact (no_b (lo_eq c800083) (up_lt c800002) (by decide +kernel)).elim
      · exact (no_b (lo_eq c800087) (up_lt c800002) (by decide +kernel)).elim
      · exact (no_b (lo_eq c800092) (up_lt c800002) (by decide +kernel)).elim
      · exact (no_b (lo_eq c800097) (up_lt c800002) (by decide +kernel)).elim
      · exact (no_b (lo_eq c800102) (up_lt c800002) (by decide +kernel)).elim
      · exact (no_b (lo_eq c800107) (up_lt c800002) (by decide +kernel)).elim
      · exact (no_b (lo_eq c800112) (up_lt c800002) (by decide +kernel)).elim
      · exact (no_b (lo_eq c800117) (up_lt c800002) (by decide +kernel)).elim
      · exact (no_b (lo_eq c800122) (up_lt c800002) (by decide +kernel)).elim
    · obtain ⟨jj, hj, hjj⟩ := split_b (lo_nlt c800003) (up_lt c800004) 1 (by decide +kernel)
      obtain rfl : jj = 0 := by omega
      have c800130 : z1 = 0 := hjj.trans (by decide +kernel)
      clear hj hjj
      subst c800130
      have hP : va_P D vwCl [(n3900, .inr (12, [.ref n3000, .ref n3001, .ref n3002, .ref n3003, .int 0, .ref n3004, .int 0, .int 0, .int 0, .int 0, .int 0, .int 0, .int 0, .int 0, .int 0, .int (-1), .int 0, .ref n3005, .ref n3006, .int 0, .ref n3007, .ref n3008, .int 0, .int 0, .int 0, .int 0, .int 0, .int 0, .int 0, .ref n3009, .ref n3010, .int 0, .int 0, .ref n3011, .ref n3012, .int 0, .int 0, .ref n3013, .ref n3014, .ref n3015, .int 0, .ref n3016, .ref n3017, .ref n3018])), (n3000, .inl (cy 1, 1300, .inl (fun _ => 0))), (n5000, .inl (cy 2, 1, .inr (.inl (fun _ => 0))))] H := hP
      have hD : va_D A [(n3900, .inr (12, [.ref n3000, .ref n3001, .ref n3002, .ref n3003, .int 0, .ref n3004, .int 0, .int 0, .int 0, .int 0, .int 0, .int 0, .int 0, .int 0, .int 0, .int (-1), .int 0, .ref n3005, .ref n3006, .int 0, .ref n3007, .ref n3008, .int 0, .int 0, .int 0, .int 0, .int 0, .int 0, .int 0, .ref n3009, .ref n3010, .int 0, .int 0, .ref n3011, .ref n3012, .int 0, .int 0, .ref n3013, .ref n3014, .ref n3015, .int 0, .ref n3016, .ref n3017, .ref n3018])), (n3000, .inl (cy 1, 1300, .inl (fun _ => 0))), (n5000, .inl (cy 2, 1, .inr (.inl (fun _ => 0))))] := hD
      refine lv_istore (lv' := [(5, .int 1), (4, .int 0), (3, .ref n5000), (2, .ref n3900), (1, .ref n1900), (0, .ref b)]) hx hb dL_law_1771 hl (by decide +kernel) rfl (fun ls hl => ?_)
      refine lv_aload_n hx hb dL_law_1773 rfl (lv_at hl 3 rfl) ?_
      refine lv_aload_n hx hb dL_law_1774 rfl (lv_at hl 5 rfl) ?_
      refine lv_iload hx hb dL_law_1775 (lv_at hl 1 rfl) ?_
      refine lv_iconst (v := 1) hx hb dL_law_1777 (by decide +kernel) ?_
      refine lv_iadd hx hb dL_law_1778 ?_
      refine top_i (v := 1) (by decide +kernel) ?_
      refine va_sld hx hb hX hbl hbA hS (i := 1) (vin (by decide +kernel)) dL_law_1779 ?_
      refine top_i (v := 0) ez1 ?_
      refine lv_aload_n hx hb dL_law_1780 rfl (lv_at hl 5 rfl) ?_
      refine lv_iload hx hb dL_law_1781 (lv_at hl 1 rfl) ?_
      refine lv_iconst (v := 2) hx hb dL_law_1783 (by decide +kernel) ?_
      refine lv_iadd hx hb dL_law_1784 ?_
      refine top_i (v := 2) (by decide +kernel) ?_
      refine va_sld hx hb hX hbl hbA hS (i := 2) (vin (by decide +kernel)) dL_law_1785 ?_
      refine top_i (v := 0) ez2 ?_
      refine lv_if_eq (tgt := 1793) hx hb dL_law_1786 (by decide +kernel) (fun _ => ?_) (fun h => absurd (by decide +kernel) h)
      refine lv_iconst (v := 0) hx hb dL_law_1793 (by decide +kernel) ?_
      refine lv_aload_n hx hb dL_law_1794 rfl (lv_at hl 5 rfl) ?_
      refine lv_iload hx hb dL_law_1795 (lv_at hl 1 rfl) ?_
      refine lv_iconst (v := 3) hx hb dL_law_1797 (by decide +kernel) ?_
      refine lv_iadd hx hb dL_law_1798 ?_
      refine top_i (v := 3) (by decide +kernel) ?_
      refine va_sld hx hb hX hbl hbA hS (i := 3) (vin (by decide +kernel)) dL_law_1799 ?_
      refine top_i (v := z3) ez3 ?_
      refine call_i (av := [.ref n3900, .int 0, .int 0, .int z3]) F hP hD hS [(n3900, .inr (12, [.ref n3000, .ref n3001, .ref n3002, .ref n3003, .int 0, .ref n3004, .int 0, .int 0, .int 0, .int 0, .int 0, .int 0, .int 0, .int 0, .int 0, .int (-1), .int 0, .ref n3005, .ref n3006, .int 0, .ref n3007, .ref n3008, .int 0, .int 0, .int 0, .int 0, .int 0, .int 0, .int 0, .ref n3009, .ref n3010, .int 0, .int 0, .ref n3011, .ref n3012, .int 0, .int 0, .ref n3013, .ref n3014, .ref n3015, .int 0, .ref n3016, .ref n3017, .ref n3018])), (n3000, .inl (cy 1, 1300, .inl (fun _ => 0)))] [(n5000, .inl (cy 2, 1, .inr (.inl (fun _ => 0))))] [0, 1] [2] rfl rfl (by decide +kernel) (fun pr => va_runV (As := [.int 0, .int 0, .int z3]) (rest := []) ⟨hx, hb, hml, hown, hts⟩ (k242_X12_bestRow l D cy H.size n3900 0 0 z3 n3000 n3001 n3002 n3003 n3004 n3005 n3006 n3007 n3008 n3009 n3010 n3011 n3012 n3013 n3014 n3015 n3016 n3017 n3018) (cwV 3 hts gw_X12_bestRow rfl rfl rfl (by decide +kernel) ⟨(by decide +kernel), (by decide +kernel)⟩) ⟨pr.1, va_recv hK hP (ci := 12) (q0 := 0) rfl rfl, pr.2⟩ rfl rfl hl.1 rfl (lv_room (Nat.le_of_ble_eq_true rfl)) dL_law_1800 ⟨(by decide +kernel), (by decide +kernel)⟩) (fun r u H locs hw hP hD hS => ?_)
      rcases hw with ⟨c800132, rfl, rfl⟩ | ⟨c800133, c800134, rfl, rfl⟩ | ⟨c800135, c800136, c800137, rfl, rfl⟩ | ⟨c800138, c800139, c800140, c800141, rfl, rfl⟩ | ⟨c800142, c800143, c800144, c800145, c800146, rfl, rfl⟩ | ⟨c800147, c800148, c800149, c800150, c800151, rfl, rfl⟩ | ⟨c800152, c800153, c800154, c800155, c800156, rfl, rfl⟩ | ⟨c800157, c800158, c800159, c800160, c800161, rfl, rfl⟩ | ⟨c800162, c800163, c800164, c800165, c800166, rfl, rfl⟩ | ⟨c800167, c800168, c800169, c800170, c800171, rfl, rfl⟩ | ⟨c800172, c800173, c800174, c800175, c800176, rfl, rfl⟩ | ⟨c800177, c800178, c800179, c800180, c800181, rfl, rfl⟩
      · exact absurd (by decide +kernel) c800132
      · exact absurd c800134 c800006
      · have hP : va_P D vwCl [(n5000, .inl (cy 2, 1, .inr (.inl (fun _ => 0)))), (n3000, .inl (cy 1, 1300, .inl (fun _ => 0))), (n3900, .inr (12, [.ref n3000, .ref n3001, .ref n3002, .ref n3003, .int 1, .ref n3004, .int 0, .int 0, .int 0, .int 0, .int 0, .int 0, .int 0, .int 0, .int 0, .int (-1), .int 0, .ref n3005, .ref n3006, .int 0, .ref n3007, .ref n3008, .int 0, .int 0, .int 0, .int 0, .int 0, .int 0, .int 0, .ref n3009, .ref n3010, .int 0, .int 0, .ref n3011, .ref n3012, .int 0, .int 0, .ref n3013, .ref n3014, .ref n3015, .int 0, .ref n3016, .ref n3017, .ref n3018]))] H := hP
        have hD : va_D A [(n5000, .inl (cy 2, 1, .inr (.inl (fun _ => 0)))), (n3000, .inl (cy 1, 1300, .inl (fun _ => 0))), (n3900, .inr (12, [.ref n3000, .ref n3001, .ref n3002, .ref n3003, .int 1, .ref n3004, .int 0, .int 0, .int 0, .int 0, .int 0, .int 0, .int 0, .int 0, .int 0, .int (-1), .int 0, .ref n3005, .ref n3006, .int 0, .ref n3007, .ref n3008, .int 0, .int 0, .int 0, .int 0, .int 0, .int 0, .int 0, .ref n3009, .ref n3010, .int 0, .int 0, .ref n3011, .ref n3012, .int 0, .int 0, .ref n3013, .ref n3014, .ref n3015, .int 0, .ref n3016, .ref n3017, .ref n3018]))] := hD
        refine lv_istore (lv' := [(6, .int 0), (5, .int 1), (4, .int 0), (3, .ref n5000), (2, .ref n3900), (1, .ref n1900), (0, .ref b)]) hx hb dL_law_1803 hl (by decide +kernel) rfl (fun ls hl => ?_)
        refine lv_aload_n hx hb dL_law_1805 rfl (lv_at hl 4 rfl) ?_
        refine call_i (av := [.ref n3900]) F hP hD hS [(n3900, .inr (12, [.ref n3000, .ref n3001, .ref n3002, .ref n3003, .int 1, .ref n3004, .int 0, .int 0, .int 0, .int 0, .int 0, .int 0, .int 0, .int 0, .int 0, .int (-1), .int 0, .ref n3005, .ref n3006, .int 0, .ref n3007, .ref n3008, .int 0, .int 0, .int 0, .int 0, .int 0, .int 0, .int 0, .ref n3009, .ref n3010, .int 0, .int 0, .ref n3011, .ref n3012, .int 0, .int 0, .ref n3013, .ref n3014, .ref n3015, .int 0, .ref n3016, .ref n3017, .ref n3018]))] [(n5000, .inl (cy 2, 1, .inr (.inl (fun _ => 0)))), (n3000, .inl (cy 1, 1300, .inl (fun _ => 0)))] [2] [0, 1] rfl rfl (by decide +kernel) (fun pr => va_runV (As := []) (rest := []) ⟨hx, hb, hml, hown, hts⟩ (k333_X12_thrown l D cy H.size n3900 n3000 n3001 n3002 n3003 n3004 n3005 n3006 n3007 n3008 n3009 n3010 n3011 n3012 n3013 n3014 n3015 n3016 n3017 n3018) (cwV 0 hts gw_X12_thrown rfl rfl rfl (by decide +kernel) ⟨(by decide +kernel), (by decide +kernel)⟩) ⟨pr.1, va_recv hK hP (ci := 12) (q0 := 2) rfl rfl, pr.2⟩ rfl rfl hl.1 rfl (lv_room (Nat.le_of_ble_eq_true rfl)) dL_law_1806 ⟨(by decide +kernel), (by decide +kernel)⟩) (fun r u H locs hw hP hD hS => ?_)
        rcases hw with ⟨rfl, rfl⟩
        have hP : va_P D vwCl [(n5000, .inl (cy 2, 1, .inr (.inl (fun _ => 0)))), (n3000, .inl (cy 1, 1300, .inl (fun _ => 0))), (n3900, .inr (12, [.ref n3000, .ref n3001, .ref n3002, .ref n3003, .int 1, .ref n3004, .int 0, .int 0, .int 0, .int 0, .int 0, .int 0, .int 0, .int 0, .int 0, .int (-1), .int 0, .ref n3005, .ref n3006, .int 0, .ref n3007, .ref n3008, .int 0, .int 0, .int 0, .int 0, .int 0, .int 0, .int 0, .ref n3009, .ref n3010, .int 0, .int 0, .ref n3011, .ref n3012, .int 0, .int 0, .ref n3013, .ref n3014, .ref n3015, .int 0, .ref n3016, .ref n3017, .ref n3018]))] H := hP
        have hD : va_D A [(n5000, .inl (cy 2, 1, .inr (.inl (fun _ => 0)))), (n3000, .inl (cy 1, 1300, .inl (fun _ => 0))), (n3900, .inr (12, [.ref n3000, .ref n3001, .ref n3002, .ref n3003, .int 1, .ref n3004, .int 0, .int 0, .int 0, .int 0, .int 0, .int 0, .int 0, .int 0, .int 0, .int (-1), .int 0, .ref n3005, .ref n3006, .int 0, .ref n3007, .ref n3008, .int 0, .int 0, .int 0, .int 0, .int 0, .int 0, .int 0, .ref n3009, .ref n3010, .int 0, .int 0, .ref n3011, .ref n3012, .int 0, .int 0, .ref n3013, .ref n3014, .ref n3015, .int 0, .ref n3016, .ref n3017, .ref n3018]))] := hD
        refine lv_iload hx hb dL_law_1809 (lv_at hl 1 rfl) ?_
        refine lv_icmp_eq (tgt := 1816) hx hb dL_law_1811 (by decide +kernel) (fun _ => ?_) (fun h => absurd (by decide +kernel) h)
        refine lv_iload hx hb dL_law_1816 (lv_at hl 1 rfl) ?_
        refine lv_if_ne (tgt := 1833) hx hb dL_law_1818 (by decide +kernel) (fun _ => ?_) (fun h => absurd h (by decide +kernel))
        refine lv_goto (tgt := 2458) hx hb dL_law_1833 (by decide +kernel) ?_
        refine lv_iinc (v := 6) (lv' := [(4, .int 6), (6, .int 0), (5, .int 1), (3, .ref n5000), (2, .ref n3900), (1, .ref n1900), (0, .ref b)]) hx hb dL_law_2458 hl (k := 2) rfl (by decide) (by decide +kernel) rfl (fun ls hl => ?_)
        refine lv_goto (tgt := 23) hx hb dL_law_2461 (by decide +kernel) ?_
        refine lv_iload hx hb dL_law_23 (lv_at hl 0 rfl) ?_
        refine lv_aload_n hx hb dL_law_25 rfl (lv_at hl 6 rfl) ?_
        refine va_slen hx hb hX hbl hbA hS dL_law_26 ?_
        refine top_i (v := 6) rfl ?_
        refine lv_bipush (v := 6) hx hb dL_law_27 (by decide +kernel) ?_
        refine lv_isub hx hb dL_law_29 ?_
        refine top_i (v := 0) (by decide +kernel) ?_
        refine lv_icmp_gt (tgt := 2464) hx hb dL_law_30 (by decide +kernel) (fun _ => ?_) (fun h => absurd (by decide +kernel) h)
        refine lv_iconst (v := 1) hx hb dL_law_2464 (by decide +kernel) ?_
        refine va_forget (fun q hq => hAq _ (hS.2.2 q hq)) ?_
        refine W.widen (k := 600002) (n := 7302232) (by decide +kernel) (by decide +kernel) ?_
        exact lw_ret hx hb hr hlk dL_law_2465
      · exact (no_b (lo_nlt_w c800140) (up_lt c800007) (by decide +kernel)).elim
      · exact (no_b (lo_nlt_w c800144) (up_lt c800007) (by decide +kernel)).elim
      · exact (no_b (lo_nlt_w c800149) (up_lt c800007) (by decide +kernel)).elim
      · exact (no_b (lo_nlt_w c800154) (up_lt c800007) (by decide +kernel)).elim
      · exact (no_b (lo_nlt_w c800159) (up_lt c800007) (by decide +kernel)).elim
      · exact (no_b (lo_nlt_w c800164) (up_lt c800007) (by decide +kernel)).elim
      · exact (no_b (lo_nlt_w c800169) (up_lt c800007) (by decide +kernel)).elim
      · exact (no_b (lo_nlt_w c800174) (up_lt c800007) (by decide +kernel)).elim
      · exact (no_b (lo_nlt_w c800179) (up_lt c800007) (by decide +kernel)).elim
    · obtain ⟨jj, hj, hjj⟩ := split_b (lo_nlt c800008) (up_lt c800009) 1 (by decide +kernel)
      obtain rfl : jj = 0 := by omega
      have c800185 : z1 = 0 := hjj.trans (by decide +kernel)
      clear hj hjj
      subst c800185
      have hP : va_P D vwCl [(n3900, .inr (12, [.ref n3000, .ref n3001, .ref n3002, .ref n3003, .int 0, .ref n3004, .int 0, .int 0, .int 0, .int 0, .int 0, .int 0, .int 0, .int 0, .int 0, .int (-1), .int 0, .ref n3005, .ref n3006, .int 0, .ref n3007, .ref n3008, .int 0, .int 0, .int 0, .int 0, .int 0, .int 0, .int 0, .ref n3009, .ref n3010, .int 0, .int 0, .ref n3011, .ref n3012, .int 0, .int 0, .ref n3013, .ref n3014, .ref n3015, .int 0, .ref n3016, .ref n3017, .ref n3018])), (n3000, .inl (cy 1, 1300, .inl (fun _ => 0))), (n5000, .inl (cy 2, 1, .inr (.inl (fun _ => 0))))] H := hP
      have hD : va_D A [(n3900, .inr (12, [.ref n3000, .ref n3001, .ref n3002, .ref n3003, .int 0, .ref n3004, .int 0, .int 0, .int 0, .int 0, .int 0, .int 0, .int 0, .int 0, .int 0, .int (-1), .int 0, .ref n3005, .ref n3006, .int 0, .ref n3007, .ref n3008, .int 0, .int 0, .int 0, .int 0, .int 0, .int 0, .int 0, .ref n3009, .ref n3010, .int 0, .int 0, .ref n3011, .ref n3012, .int 0, .int 0, .ref n3013, .ref n3014, .ref n3015, .int 0, .ref n3016, .ref n3017, .ref n3018])), (n3000, .inl (cy 1, 1300, .inl (fun _ => 0))), (n5000, .inl (cy 2, 1, .inr (.inl (fun _ => 0))))] := hD
      refine lv_istore (lv' := [(5, .int 1), (4, .int 0), (3, .ref n5000), (2, .ref n3900), (1, .ref n1900), (0, .ref b)]) hx hb dL_law_1771 hl (by decide +kernel) rfl (fun ls hl => ?_)
      refine lv_aload_n hx hb dL_law_1773 rfl (lv_at hl 3 rfl) ?_
      refine lv_aload_n hx hb dL_law_1774 rfl (lv_at hl 5 rfl) ?_
      refine lv_iload hx hb dL_law_1775 (lv_at hl 1 rfl) ?_
      refine lv_iconst (v := 1) hx hb dL_law_1777 (by decide +kernel) ?_
      refine lv_iadd hx hb dL_law_1778 ?_
      refine top_i (v := 1) (by decide +kernel) ?_
      refine va_sld hx hb hX hbl hbA hS (i := 1) (vin (by decide +kernel)) dL_law_1779 ?_
      refine top_i (v := 0) ez1 ?_
      refine lv_aload_n hx hb dL_law_1780 rfl (lv_at hl 5 rfl) ?_
      refine lv_iload hx hb dL_law_1781 (lv_at hl 1 rfl) ?_
      refine lv_iconst (v := 2) hx hb dL_law_1783 (by decide +kernel) ?_
      refine lv_iadd hx hb dL_law_1784 ?_
      refine top_i (v := 2) (by decide +kernel) ?_
      refine va_sld hx hb hX hbl hbA hS (i := 2) (vin (by decide +kernel)) dL_law_1785 ?_
      refine top_i (v := 0) ez2 ?_
      refine lv_if_eq (tgt := 1793) hx hb dL_law_1786 (by decide +kernel) (fun _ => ?_) (fun h => absurd (by decide +kernel) h)
      refine lv_iconst (v := 0) hx hb dL_law_1793 (by decide +kernel) ?_
      refine lv_aload_n hx hb dL_law_1794 rfl (lv_at hl 5 rfl) ?_
      refine lv_iload hx hb dL_law_1795 (lv_at hl 1 rfl) ?_
      refine lv_iconst (v := 3) hx hb dL_law_1797 (by decide +kernel) ?_
      refine lv_iadd hx hb dL_law_1798 ?_
      refine top_i (v := 3) (by decide +kernel) ?_
      refine va_sld hx hb hX hbl hbA hS (i := 3) (vin (by decide +kernel)) dL_law_1799 ?_
      refine top_i (v := z3) ez3 ?_
      refine call_i (av := [.ref n3900, .int 0, .int 0, .int z3]) F hP hD hS [(n3900, .inr (12, [.ref n3000, .ref n3001, .ref n3002, .ref n3003, .int 0, .ref n3004, .int 0, .int 0, .int 0, .int 0, .int 0, .int 0, .int 0, .int 0, .int 0, .int (-1), .int 0, .ref n3005, .ref n3006, .int 0, .ref n3007, .ref n3008, .int 0, .int 0, .int 0, .int 0, .int 0, .int 0, .int 0, .ref n3009, .ref n3010, .int 0, .int 0, .ref n3011, .ref n3012, .int 0, .int 0, .ref n3013, .ref n3014, .ref n3015, .int 0, .ref n3016, .ref n3017, .ref n3018])), (n3000, .inl (cy 1, 1300, .inl (fun _ => 0)))] [(n5000, .inl (cy 2, 1, .inr (.inl (fun _ => 0))))] [0, 1] [2] rfl rfl (by decide +kernel) (fun pr => va_runV (As := [.int 0, .int 0, .int z3]) (rest := []) ⟨hx, hb, hml, hown, hts⟩ (k242_X12_bestRow l D cy H.size n3900 0 0 z3 n3000 n3001 n3002 n3003 n3004 n3005 n3006 n3007 n3008 n3009 n3010 n3011 n3012 n3013 n3014 n3015 n3016 n3017 n3018) (cwV 3 hts gw_X12_bestRow rfl rfl rfl (by decide +kernel) ⟨(by decide +kernel), (by decide +kernel)⟩) ⟨pr.1, va_recv hK hP (ci := 12) (q0 := 0) rfl rfl, pr.2⟩ rfl rfl hl.1 rfl (lv_room (Nat.le_of_ble_eq_true rfl)) dL_law_1800 ⟨(by decide +kernel), (by decide +kernel)⟩) (fun r u H locs hw hP hD hS => ?_)
      rcases hw with ⟨c800187, rfl, rfl⟩ | ⟨c800188, c800189, rfl, rfl⟩ | ⟨c800190, c800191, c800192, rfl, rfl⟩ | ⟨c800193, c800194, c800195, c800196, rfl, rfl⟩ | ⟨c800197, c800198, c800199, c800200, c800201, rfl, rfl⟩ | ⟨c800202, c800203, c800204, c800205, c800206, rfl, rfl⟩ | ⟨c800207, c800208, c800209, c800210, c800211, rfl, rfl⟩ | ⟨c800212, c800213, c800214, c800215, c800216, rfl, rfl⟩ | ⟨c800217, c800218, c800219, c800220, c800221, rfl, rfl⟩ | ⟨c800222, c800223, c800224, c800225, c800226, rfl, rfl⟩ | ⟨c800227, c800228, c800229, c800230, c800231, rfl, rfl⟩ | ⟨c800232, c800233, c800234, c800235, c800236, rfl, rfl⟩
      · exact absurd (by decide +kernel) c800187
      · exact absurd c800189 c800011
      · exact (no_b (lo_nlt c800013) (up_lt_w c800192) (by decide +kernel)).elim
      · have hP : va_P D vwCl [(n5000, .inl (cy 2, 1, .inr (.inl (fun _ => 0)))), (n3000, .inl (cy 1, 1300, .inl (fun _ => 0))), (n3900, .inr (12, [.ref n3000, .ref n3001, .ref n3002, .ref n3003, .int 1, .ref n3004, .int 0, .int 0, .int 0, .int 0, .int 0, .int 0, .int 0, .int 0, .int 0, .int (-1), .int 0, .ref n3005, .ref n3006, .int 0, .ref n3007, .ref n3008, .int 0, .int 0, .int 0, .int 0, .int 0, .int 0, .int 0, .ref n3009, .ref n3010, .int 0, .int 0, .ref n3011, .ref n3012, .int 0, .int 0, .ref n3013, .ref n3014, .ref n3015, .int 0, .ref n3016, .ref n3017, .ref n3018]))] H := hP
        have hD : va_D A [(n5000, .inl (cy 2, 1, .inr (.inl (fun _ => 0)))), (n3000, .inl (cy 1, 1300, .inl (fun _ => 0))), (n3900, .inr (12, [.ref n3000, .ref n3001, .ref n3002, .ref n3003, .int 1, .ref n3004, .int 0, .int 0, .int 0, .int 0, .int 0, .int 0, .int 0, .int 0, .int 0, .int (-1), .int 0, .ref n3005, .ref n3006, .int 0, .ref n3007, .ref n3008, .int 0, .int 0, .int 0, .int 0, .int 0, .int 0, .int 0, .ref n3009, .ref n3010, .int 0, .int 0, .ref n3011, .ref n3012, .int 0, .int 0, .ref n3013, .ref n3014, .ref n3015, .int 0, .ref n3016, .ref n3017, .ref n3018]))] := hD
        refine lv_istore (lv' := [(6, .int 0), (5, .int 1), (4, .int 0), (3, .ref n5000), (2, .ref n3900), (1, .ref n1900), (0, .ref b)]) hx hb dL_law_1803 hl (by decide +kernel) rfl (fun ls hl => ?_)
        refine lv_aload_n hx hb dL_law_1805 rfl (lv_at hl 4 rfl) ?_
        refine call_i (av := [.ref n3900]) F hP hD hS [(n3900, .inr (12, [.ref n3000, .ref n3001, .ref n3002, .ref n3003, .int 1, .ref n3004, .int 0, .int 0, .int 0, .int 0, .int 0, .int 0, .int 0, .int 0, .int 0, .int (-1), .int 0, .ref n3005, .ref n3006, .int 0, .ref n3007, .ref n3008, .int 0, .int 0, .int 0, .int 0, .int 0, .int 0, .int 0, .ref n3009, .ref n3010, .int 0, .int 0, .ref n3011, .ref n3012, .int 0, .int 0, .ref n3013, .ref n3014, .ref n3015, .int 0, .ref n3016, .ref n3017, .ref n3018]))] [(n5000, .inl (cy 2, 1, .inr (.inl (fun _ => 0)))), (n3000, .inl (cy 1, 1300, .inl (fun _ => 0)))] [2] [0, 1] rfl rfl (by decide +kernel) (fun pr => va_runV (As := []) (rest := []) ⟨hx, hb, hml, hown, hts⟩ (k333_X12_thrown l D cy H.size n3900 n3000 n3001 n3002 n3003 n3004 n3005 n3006 n3007 n3008 n3009 n3010 n3011 n3012 n3013 n3014 n3015 n3016 n3017 n3018) (cwV 0 hts gw_X12_thrown rfl rfl rfl (by decide +kernel) ⟨(by decide +kernel), (by decide +kernel)⟩) ⟨pr.1, va_recv hK hP (ci := 12) (q0 := 2) rfl rfl, pr.2⟩ rfl rfl hl.1 rfl (lv_room (Nat.le_of_ble_eq_true rfl)) dL_law_1806 ⟨(by decide +kernel), (by decide +kernel)⟩) (fun r u H locs hw hP hD hS => ?_)
        rcases hw with ⟨rfl, rfl⟩
        have hP : va_P D vwCl [(n5000, .inl (cy 2, 1, .inr (.inl (fun _ => 0)))), (n3000, .inl (cy 1, 1300, .inl (fun _ => 0))), (n3900, .inr (12, [.ref n3000, .ref n3001, .ref n3002, .ref n3003, .int 1, .ref n3004, .int 0, .int 0, .int 0, .int 0, .int 0, .int 0, .int 0, .int 0, .int 0, .int (-1), .int 0, .ref n3005, .ref n3006, .int 0, .ref n3007, .ref n3008, .int 0, .int 0, .int 0, .int 0, .int 0, .int 0, .int 0, .ref n3009, .ref n3010, .int 0, .int 0, .ref n3011, .ref n3012, .int 0, .int 0, .ref n3013, .ref n3014, .ref n3015, .int 0, .ref n3016, .ref n3017, .ref n3018]))] H := hP
        have hD : va_D A [(n5000, .inl (cy 2, 1, .inr (.inl (fun _ => 0)))), (n3000, .inl (cy 1, 1300, .inl (fun _ => 0))), (n3900, .inr (12, [.ref n3000, .ref n3001, .ref n3002, .ref n3003, .int 1, .ref n3004, .int 0, .int 0, .int 0, .int 0, .int 0, .int 0, .int 0, .int 0, .int 0, .int (-1), .int 0, .ref n3005, .ref n3006, .int 0, .ref n3007, .ref n3008, .int 0, .int 0, .int 0, .int 0, .int 0, .int 0, .int 0, .ref n3009, .ref n3010, .int 0, .int 0, .ref n3011, .ref n3012, .int 0, .int 0, .ref n3013, .ref n3014, .ref n3015, .int 0, .ref n3016, .ref n3017, .ref n3018]))] := hD
        refine lv_iload hx hb dL_law_1809 (lv_at hl 1 rfl) ?_
        refine lv_icmp_eq (tgt := 1816) hx hb dL_law_1811 (by decide +kernel) (fun _ => ?_) (fun h => absurd (by decide +kernel) h)
        refine lv_iload hx hb dL_law_1816 (lv_at hl 1 rfl) ?_
        refine lv_if_ne (tgt := 1833) hx hb dL_law_1818 (by decide +kernel) (fun _ => ?_) (fun h => absurd h (by decide +kernel))
        refine lv_goto (tgt := 2458) hx hb dL_law_1833 (by decide +kernel) ?_
        refine lv_iinc (v := 6) (lv' := [(4, .int 6), (6, .int 0), (5, .int 1), (3, .ref n5000), (2, .ref n3900), (1, .ref n1900), (0, .ref b)]) hx hb dL_law_2458 hl (k := 2) rfl (by decide) (by decide +kernel) rfl (fun ls hl => ?_)
        refine lv_goto (tgt := 23) hx hb dL_law_2461 (by decide +kernel) ?_
        refine lv_iload hx hb dL_law_23 (lv_at hl 0 rfl) ?_
        refine lv_aload_n hx hb dL_law_25 rfl (lv_at hl 6 rfl) ?_
        refine va_slen hx hb hX hbl hbA hS dL_law_26 ?_
        refine top_i (v := 6) rfl ?_
        refine lv_bipush (v := 6) hx hb dL_law_27 (by decide +kernel) ?_
        refine lv_isub hx hb dL_law_29 ?_
        refine top_i (v := 0) (by decide +kernel) ?_
        refine lv_icmp_gt (tgt := 2464) hx hb dL_law_30 (by decide +kernel) (fun _ => ?_) (fun h => absurd (by decide +kernel) h)
        refine lv_iconst (v := 1) hx hb dL_law_2464 (by decide +kernel) ?_
        refine va_forget (fun q hq => hAq _ (hS.2.2 q hq)) ?_
        refine W.widen (k := 600002) (n := 7302232) (by decide +kernel) (by decide +kernel) ?_
        exact lw_ret hx hb hr hlk dL_law_2465
      · exact (no_b (lo_nlt c800013) (up_nlt_w c800200) (by decide +kernel)).elim
      · exact (no_b (lo_nlt c800013) (up_nlt_w c800205) (by decide +kernel)).elim
      · exact (no_b (lo_nlt c800013) (up_nlt_w c800210) (by decide +kernel)).elim
      · exact (no_b (lo_nlt c800013) (up_nlt_w c800215) (by decide +kernel)).elim
      · exact (no_b (lo_nlt c800013) (up_nlt_w c800220) (by decide +kernel)).elim
      · exact (no_b (lo_nlt c800013) (up_nlt_w c800225) (by decide +kernel)).elim
      · exact (no_b (lo_nlt c800013) (up_nlt_w c800230) (by decide +kernel)).elim
      · exact (no_b (lo_nlt c800013) (up_nlt_w c800235) (by decide +kernel)).elim
    · have hP : va_P D vwCl [(n3900, .inr (12, [.ref n3000, .ref n3001, .ref n3002, .ref n3003, .int 0, .ref n3004, .int 0, .int 0, .int 0, .int 0, .int 0, .int 0, .int 0, .int 0, .int 0, .int (-1), .int 0, .ref n3005, .ref n3006, .int 0, .ref n3007, .ref n3008, .int 0, .int 0, .int 0, .int 0, .int 0, .int 0, .int 0, .ref n3009, .ref n3010, .int 0, .int 0, .ref n3011, .ref n3012, .int 0, .int 0, .ref n3013, .ref n3014, .ref n3015, .int 0, .ref n3016, .ref n3017, .ref n3018])), (n3000, .inl (cy 1, 1300, .inl (fun _ => 0))), (n5000, .inl (cy 2, 1, .inr (.inl (fun _ => 0))))] H := hP
      have hD : va_D A [(n3900, .inr (12, [.ref n3000, .ref n3001, .ref n3002, .ref n3003, .int 0, .ref n3004, .int 0, .int 0, .int 0, .int 0, .int 0, .int 0, .int 0, .int 0, .int 0, .int (-1), .int 0, .ref n3005, .ref n3006, .int 0, .ref n3007, .ref n3008, .int 0, .int 0, .int 0, .int 0, .int 0, .int 0, .int 0, .ref n3009, .ref n3010, .int 0, .int 0, .ref n3011, .ref n3012, .int 0, .int 0, .ref n3013, .ref n3014, .ref n3015, .int 0, .ref n3016, .ref n3017, .ref n3018])), (n3000, .inl (cy 1, 1300, .inl (fun _ => 0))), (n5000, .inl (cy 2, 1, .inr (.inl (fun _ => 0))))] := hD
      refine lv_istore (lv' := [(5, .int 1), (4, .int 0), (3, .ref n5000), (2, .ref n3900), (1, .ref n1900), (0, .ref b)]) hx hb dL_law_1771 hl (by decide +kernel) rfl (fun ls hl => ?_)
      refine lv_aload_n hx hb dL_law_1773 rfl (lv_at hl 3 rfl) ?_
      refine lv_aload_n hx hb dL_law_1774 rfl (lv_at hl 5 rfl) ?_
      refine lv_iload hx hb dL_law_1775 (lv_at hl 1 rfl) ?_
      refine lv_iconst (v := 1) hx hb dL_law_1777 (by decide +kernel) ?_
      refine lv_iadd hx hb dL_law_1778 ?_
      refine top_i (v := 1) (by decide +kernel) ?_
      refine va_sld hx hb hX hbl hbA hS (i := 1) (vin (by decide +kernel)) dL_law_1779 ?_
      refine top_i (v := z1) ez1 ?_
      refine lv_aload_n hx hb dL_law_1780 rfl (lv_at hl 5 rfl) ?_
      refine lv_iload hx hb dL_law_1781 (lv_at hl 1 rfl) ?_
      refine lv_iconst (v := 2) hx hb dL_law_1783 (by decide +kernel) ?_
      refine lv_iadd hx hb dL_law_1784 ?_
      refine top_i (v := 2) (by decide +kernel) ?_
      refine va_sld hx hb hX hbl hbA hS (i := 2) (vin (by decide +kernel)) dL_law_1785 ?_
      refine top_i (v := 0) ez2 ?_
      refine lv_if_eq (tgt := 1793) hx hb dL_law_1786 (by decide +kernel) (fun _ => ?_) (fun h => absurd (by decide +kernel) h)
      refine lv_iconst (v := 0) hx hb dL_law_1793 (by decide +kernel) ?_
      refine lv_aload_n hx hb dL_law_1794 rfl (lv_at hl 5 rfl) ?_
      refine lv_iload hx hb dL_law_1795 (lv_at hl 1 rfl) ?_
      refine lv_iconst (v := 3) hx hb dL_law_1797 (by decide +kernel) ?_
      refine lv_iadd hx hb dL_law_1798 ?_
      refine top_i (v := 3) (by decide +kernel) ?_
      refine va_sld hx hb hX hbl hbA hS (i := 3) (vin (by decide +kernel)) dL_law_1799 ?_
      refine top_i (v := z3) ez3 ?_
      refine call_i (av := [.ref n3900, .int z1, .int 0, .int z3]) F hP hD hS [(n3900, .inr (12, [.ref n3000, .ref n3001, .ref n3002, .ref n3003, .int 0, .ref n3004, .int 0, .int 0, .int 0, .int 0, .int 0, .int 0, .int 0, .int 0, .int 0, .int (-1), .int 0, .ref n3005, .ref n3006, .int 0, .ref n3007, .ref n3008, .int 0, .int 0, .int 0, .int 0, .int 0, .int 0, .int 0, .ref n3009, .ref n3010, .int 0, .int 0, .ref n3011, .ref n3012, .int 0, .int 0, .ref n3013, .ref n3014, .ref n3015, .int 0, .ref n3016, .ref n3017, .ref n3018])), (n3000, .inl (cy 1, 1300, .inl (fun _ => 0)))] [(n5000, .inl (cy 2, 1, .inr (.inl (fun _ => 0))))] [0, 1] [2] rfl rfl (by decide +kernel) (fun pr => va_runV (As := [.int z1, .int 0, .int z3]) (rest := []) ⟨hx, hb, hml, hown, hts⟩ (k242_X12_bestRow l D cy H.size n3900 z1 0 z3 n3000 n3001 n3002 n3003 n3004 n3005 n3006 n3007 n3008 n3009 n3010 n3011 n3012 n3013 n3014 n3015 n3016 n3017 n3018) (cwV 3 hts gw_X12_bestRow rfl rfl rfl (by decide +kernel) ⟨(by decide +kernel), (by decide +kernel)⟩) ⟨pr.1, va_recv hK hP (ci := 12) (q0 := 0) rfl rfl, pr.2⟩ rfl rfl hl.1 rfl (lv_room (Nat.le_of_ble_eq_true rfl)) dL_law_1800 ⟨(by decide +kernel), (by decide +kernel)⟩) (fun r u H locs hw hP hD hS => ?_)
      rcases hw with ⟨c800241, rfl, rfl⟩ | ⟨c800242, c800243, rfl, rfl⟩ | ⟨c800244, c800245, c800246, rfl, rfl⟩ | ⟨c800247, c800248, c800249, c800250, rfl, rfl⟩ | ⟨c800251, c800252, c800253, c800254, c800255, rfl, rfl⟩ | ⟨c800256, c800257, c800258, c800259, c800260, rfl, rfl⟩ | ⟨c800261, c800262, c800263, c800264, c800265, rfl, rfl⟩ | ⟨c800266, c800267, c800268, c800269, c800270, rfl, rfl⟩ | ⟨c800271, c800272, c800273, c800274, c800275, rfl, rfl⟩ | ⟨c800276, c800277, c800278, c800279, c800280, rfl, rfl⟩ | ⟨c800281, c800282, c800283, c800284, c800285, rfl, rfl⟩ | ⟨c800286, c800287, c800288, c800289, c800290, rfl, rfl⟩
      · have hP : va_P D vwCl [(n5000, .inl (cy 2, 1, .inr (.inl (fun _ => 0)))), (n3000, .inl (cy 1, 1300, .inl (fun _ => 0))), (n3900, .inr (12, [.ref n3000, .ref n3001, .ref n3002, .ref n3003, .int 1, .ref n3004, .int 0, .int 0, .int 0, .int 0, .int 0, .int 0, .int 0, .int 0, .int 0, .int (-1), .int 0, .ref n3005, .ref n3006, .int 0, .ref n3007, .ref n3008, .int 0, .int 0, .int 0, .int 0, .int 0, .int 0, .int 0, .ref n3009, .ref n3010, .int 0, .int 0, .ref n3011, .ref n3012, .int 0, .int 0, .ref n3013, .ref n3014, .ref n3015, .int 0, .ref n3016, .ref n3017, .ref n3018]))] H := hP
        have hD : va_D A [(n5000, .inl (cy 2, 1, .inr (.inl (fun _ => 0)))), (n3000, .inl (cy 1, 1300, .inl (fun _ => 0))), (n3900, .inr (12, [.ref n3000, .ref n3001, .ref n3002, .ref n3003, .int 1, .ref n3004, .int 0, .int 0, .int 0, .int 0, .int 0, .int 0, .int 0, .int 0, .int 0, .int (-1), .int 0, .ref n3005, .ref n3006, .int 0, .ref n3007, .ref n3008, .int 0, .int 0, .int 0, .int 0, .int 0, .int 0, .int 0, .ref n3009, .ref n3010, .int 0, .int 0, .ref n3011, .ref n3012, .int 0, .int 0, .ref n3013, .ref n3014, .ref n3015, .int 0, .ref n3016, .ref n3017, .ref n3018]))] := hD
        refine lv_istore (lv' := [(6, .int 0), (5, .int 1), (4, .int 0), (3, .ref n5000), (2, .ref n3900), (1, .ref n1900), (0, .ref b)]) hx hb dL_law_1803 hl (by decide +kernel) rfl (fun ls hl => ?_)
        refine lv_aload_n hx hb dL_law_1805 rfl (lv_at hl 4 rfl) ?_
        refine call_i (av := [.ref n3900]) F hP hD hS [(n3900, .inr (12, [.ref n3000, .ref n3001, .ref n3002, .ref n3003, .int 1, .ref n3004, .int 0, .int 0, .int 0, .int 0, .int 0, .int 0, .int 0, .int 0, .int 0, .int (-1), .int 0, .ref n3005, .ref n3006, .int 0, .ref n3007, .ref n3008, .int 0, .int 0, .int 0, .int 0, .int 0, .int 0, .int 0, .ref n3009, .ref n3010, .int 0, .int 0, .ref n3011, .ref n3012, .int 0, .int 0, .ref n3013, .ref n3014, .ref n3015, .int 0, .ref n3016, .ref n3017, .ref n3018]))] [(n5000, .inl (cy 2, 1, .inr (.inl (fun _ => 0)))), (n3000, .inl (cy 1, 1300, .inl (fun _ => 0)))] [2] [0, 1] rfl rfl (by decide +kernel) (fun pr => va_runV (As := []) (rest := []) ⟨hx, hb, hml, hown, hts⟩ (k333_X12_thrown l D cy H.size n3900 n3000 n3001 n3002 n3003 n3004 n3005 n3006 n3007 n3008 n3009 n3010 n3011 n3012 n3013 n3014 n3015 n3016 n3017 n3018) (cwV 0 hts gw_X12_thrown rfl rfl rfl (by decide +kernel) ⟨(by decide +kernel), (by decide +kernel)⟩) ⟨pr.1, va_recv hK hP (ci := 12) (q0 := 2) rfl rfl, pr.2⟩ rfl rfl hl.1 rfl (lv_room (Nat.le_of_ble_eq_true rfl)) dL_law_1806 ⟨(by decide +kernel), (by decide +kernel)⟩) (fun r u H locs hw hP hD hS => ?_)
        rcases hw with ⟨rfl, rfl⟩
        have hP : va_P D vwCl [(n5000, .inl (cy 2, 1, .inr (.inl (fun _ => 0)))), (n3000, .inl (cy 1, 1300, .inl (fun _ => 0))), (n3900, .inr (12, [.ref n3000, .ref n3001, .ref n3002, .ref n3003, .int 1, .ref n3004, .int 0, .int 0, .int 0, .int 0, .int 0, .int 0, .int 0, .int 0, .int 0, .int (-1), .int 0, .ref n3005, .ref n3006, .int 0, .ref n3007, .ref n3008, .int 0, .int 0, .int 0, .int 0, .int 0, .int 0, .int 0, .ref n3009, .ref n3010, .int 0, .int 0, .ref n3011, .ref n3012, .int 0, .int 0, .ref n3013, .ref n3014, .ref n3015, .int 0, .ref n3016, .ref n3017, .ref n3018]))] H := hP
        have hD : va_D A [(n5000, .inl (cy 2, 1, .inr (.inl (fun _ => 0)))), (n3000, .inl (cy 1, 1300, .inl (fun _ => 0))), (n3900, .inr (12, [.ref n3000, .ref n3001, .ref n3002, .ref n3003, .int 1, .ref n3004, .int 0, .int 0, .int 0, .int 0, .int 0, .int 0, .int 0, .int 0, .int 0, .int (-1), .int 0, .ref n3005, .ref n3006, .int 0, .ref n3007, .ref n3008, .int 0, .int 0, .int 0, .int 0, .int 0, .int 0, .int 0, .ref n3009, .ref n3010, .int 0, .int 0, .ref n3011, .ref n3012, .int 0, .int 0, .ref n3013, .ref n3014, .ref n3015, .int 0, .ref n3016, .ref n3017, .ref n3018]))] := hD
        refine lv_iload hx hb dL_law_1809 (lv_at hl 1 rfl) ?_
        refine lv_icmp_eq (tgt := 1816) hx hb dL_law_1811 (by decide +kernel) (fun _ => ?_) (fun h => absurd (by decide +kernel) h)
        refine lv_iload hx hb dL_law_1816 (lv_at hl 1 rfl) ?_
        refine lv_if_ne (tgt := 1833) hx hb dL_law_1818 (by decide +kernel) (fun _ => ?_) (fun h => absurd h (by decide +kernel))
        refine lv_goto (tgt := 2458) hx hb dL_law_1833 (by decide +kernel) ?_
        refine lv_iinc (v := 6) (lv' := [(4, .int 6), (6, .int 0), (5, .int 1), (3, .ref n5000), (2, .ref n3900), (1, .ref n1900), (0, .ref b)]) hx hb dL_law_2458 hl (k := 2) rfl (by decide) (by decide +kernel) rfl (fun ls hl => ?_)
        refine lv_goto (tgt := 23) hx hb dL_law_2461 (by decide +kernel) ?_
        refine lv_iload hx hb dL_law_23 (lv_at hl 0 rfl) ?_
        refine lv_aload_n hx hb dL_law_25 rfl (lv_at hl 6 rfl) ?_
        refine va_slen hx hb hX hbl hbA hS dL_law_26 ?_
        refine top_i (v := 6) rfl ?_
        refine lv_bipush (v := 6) hx hb dL_law_27 (by decide +kernel) ?_
        refine lv_isub hx hb dL_law_29 ?_
        refine top_i (v := 0) (by decide +kernel) ?_
        refine lv_icmp_gt (tgt := 2464) hx hb dL_law_30 (by decide +kernel) (fun _ => ?_) (fun h => absurd (by decide +kernel) h)
        refine lv_iconst (v := 1) hx hb dL_law_2464 (by decide +kernel) ?_
        refine va_forget (fun q hq => hAq _ (hS.2.2 q hq)) ?_
        refine W.widen (k := 600002) (n := 7302232) (by decide +kernel) (by decide +kernel) ?_
        exact lw_ret hx hb hr hlk dL_law_2465
      · exact (no_b (lo_nlt c800015) (up_eq c800242) (by decide +kernel)).elim
      · exact (no_b (lo_nlt c800015) (up_eq c800244) (by decide +kernel)).elim
      · exact (no_b (lo_nlt c800015) (up_eq c800247) (by decide +kernel)).elim
      · exact (no_b (lo_nlt c800015) (up_eq c800251) (by decide +kernel)).elim
      · exact (no_b (lo_nlt c800015) (up_eq c800256) (by decide +kernel)).elim
      · exact (no_b (lo_nlt c800015) (up_eq c800261) (by decide +kernel)).elim
      · exact (no_b (lo_nlt c800015) (up_eq c800266) (by decide +kernel)).elim
      · exact (no_b (lo_nlt c800015) (up_eq c800271) (by decide +kernel)).elim
      · exact (no_b (lo_nlt c800015) (up_eq c800276) (by decide +kernel)).elim
      · exact (no_b (lo_nlt c800015) (up_eq c800281) (by decide +kernel)).elim
      · exact (no_b (lo_nlt c800015) (up_eq c800286) (by decide +kernel)).elim
    · obtain ⟨jj, hj, hjj⟩ := split_b (lo_nlt c800016) (up_lt c800017) 1 (by decide +kernel)
      obtain rfl : jj = 0 := by omega
      have c800294 : z1 = 0 := hjj.trans (by decide +kernel)
      clear hj hjj
      subst c800294
      subst c800019
      have hP : va_P D vwCl [(n3900, .inr (12, [.ref n3000, .ref n3001, .ref n3002, .ref n3003, .int 0, .ref n3004, .int 0, .int 0, .int 0, .int 0, .int 0, .int 0, .int 0, .int 0, .int 0, .int (-1), .int 0, .ref n3005, .ref n3006, .int 0, .ref n3007, .ref n3008, .int 0, .int 0, .int 0, .int 0, .int 0, .int 0, .int 0, .ref n3009, .ref n3010, .int 0, .int 0, .ref n3011, .ref n3012, .int 0, .int 0, .ref n3013, .ref n3014, .ref n3015, .int 0, .ref n3016, .ref n3017, .ref n3018])), (n3000, .inl (cy 1, 1300, .inl (fun _ => 0))), (n5000, .inl (cy 2, 1, .inr (.inl (fun _ => 0))))] H := hP
      have hD : va_D A [(n3900, .inr (12, [.ref n3000, .ref n3001, .ref n3002, .ref n3003, .int 0, .ref n3004, .int 0, .int 0, .int 0, .int 0, .int 0, .int 0, .int 0, .int 0, .int 0, .int (-1), .int 0, .ref n3005, .ref n3006, .int 0, .ref n3007, .ref n3008, .int 0, .int 0, .int 0, .int 0, .int 0, .int 0, .int 0, .ref n3009, .ref n3010, .int 0, .int 0, .ref n3011, .ref n3012, .int 0, .int 0, .ref n3013, .ref n3014, .ref n3015, .int 0, .ref n3016, .ref n3017, .ref n3018])), (n3000, .inl (cy 1, 1300, .inl (fun _ => 0))), (n5000, .inl (cy 2, 1, .inr (.inl (fun _ => 0))))] := hD
      refine lv_istore (lv' := [(5, .int 0), (4, .int 0), (3, .ref n5000), (2, .ref n3900), (1, .ref n1900), (0, .ref b)]) hx hb dL_law_1771 hl (by decide +kernel) rfl (fun ls hl => ?_)
      refine lv_aload_n hx hb dL_law_1773 rfl (lv_at hl 3 rfl) ?_
      refine lv_aload_n hx hb dL_law_1774 rfl (lv_at hl 5 rfl) ?_
      refine lv_iload hx hb dL_law_1775 (lv_at hl 1 rfl) ?_
      refine lv_iconst (v := 1) hx hb dL_law_1777 (by decide +kernel) ?_
      refine lv_iadd hx hb dL_law_1778 ?_
      refine top_i (v := 1) (by decide +kernel) ?_
      refine va_sld hx hb hX hbl hbA hS (i := 1) (vin (by decide +kernel)) dL_law_1779 ?_
      refine top_i (v := 0) ez1 ?_
      refine lv_aload_n hx hb dL_law_1780 rfl (lv_at hl 5 rfl) ?_
      refine lv_iload hx hb dL_law_1781 (lv_at hl 1 rfl) ?_
      refine lv_iconst (v := 2) hx hb dL_law_1783 (by decide +kernel) ?_
      refine lv_iadd hx hb dL_law_1784 ?_
      refine top_i (v := 2) (by decide +kernel) ?_
      refine va_sld hx hb hX hbl hbA hS (i := 2) (vin (by decide +kernel)) dL_law_1785 ?_
      refine top_i (v := 0) ez2 ?_
      refine lv_if_eq (tgt := 1793) hx hb dL_law_1786 (by decide +kernel) (fun _ => ?_) (fun h => absurd (by decide +kernel) h)
      refine lv_iconst (v := 0) hx hb dL_law_1793 (by decide +kernel) ?_
      refine lv_aload_n hx hb dL_law_1794 rfl (lv_at hl 5 rfl) ?_
      refine lv_iload hx hb dL_law_1795 (lv_at hl 1 rfl) ?_
      refine lv_iconst (v := 3) hx hb dL_law_1797 (by decide +kernel) ?_
      refine lv_iadd hx hb dL_law_1798 ?_
      refine top_i (v := 3) (by decide +kernel) ?_
      refine va_sld hx hb hX hbl hbA hS (i := 3) (vin (by decide +kernel)) dL_law_1799 ?_
      refine top_i (v := 0) ez3 ?_
      refine call_i (av := [.ref n3900, .int 0, .int 0, .int 0]) F hP hD hS [(n3900, .inr (12, [.ref n3000, .ref n3001, .ref n3002, .ref n3003, .int 0, .ref n3004, .int 0, .int 0, .int 0, .int 0, .int 0, .int 0, .int 0, .int 0, .int 0, .int (-1), .int 0, .ref n3005, .ref n3006, .int 0, .ref n3007, .ref n3008, .int 0, .int 0, .int 0, .int 0, .int 0, .int 0, .int 0, .ref n3009, .ref n3010, .int 0, .int 0, .ref n3011, .ref n3012, .int 0, .int 0, .ref n3013, .ref n3014, .ref n3015, .int 0, .ref n3016, .ref n3017, .ref n3018])), (n3000, .inl (cy 1, 1300, .inl (fun _ => 0)))] [(n5000, .inl (cy 2, 1, .inr (.inl (fun _ => 0))))] [0, 1] [2] rfl rfl (by decide +kernel) (fun pr => va_runV (As := [.int 0, .int 0, .int 0]) (rest := []) ⟨hx, hb, hml, hown, hts⟩ (k242_X12_bestRow l D cy H.size n3900 0 0 0 n3000 n3001 n3002 n3003 n3004 n3005 n3006 n3007 n3008 n3009 n3010 n3011 n3012 n3013 n3014 n3015 n3016 n3017 n3018) (cwV 3 hts gw_X12_bestRow rfl rfl rfl (by decide +kernel) ⟨(by decide +kernel), (by decide +kernel)⟩) ⟨pr.1, va_recv hK hP (ci := 12) (q0 := 0) rfl rfl, pr.2⟩ rfl rfl hl.1 rfl (lv_room (Nat.le_of_ble_eq_true rfl)) dL_law_1800 ⟨(by decide +kernel), (by decide +kernel)⟩) (fun r u H locs hw hP hD hS => ?_)
      rcases hw with ⟨c800296, rfl, rfl⟩ | ⟨c800297, c800298, rfl, rfl⟩ | ⟨c800299, c800300, c800301, rfl, rfl⟩ | ⟨c800302, c800303, c800304, c800305, rfl, rfl⟩ | ⟨c800306, c800307, c800308, c800309, c800310, rfl, rfl⟩ | ⟨c800311, c800312, c800313, c800314, c800315, rfl, rfl⟩ | ⟨c800316, c800317, c800318, c800319, c800320, rfl, rfl⟩ | ⟨c800321, c800322, c800323, c800324, c800325, rfl, rfl⟩ | ⟨c800326, c800327, c800328, c800329, c800330, rfl, rfl⟩ | ⟨c800331, c800332, c800333, c800334, c800335, rfl, rfl⟩ | ⟨c800336, c800337, c800338, c800339, c800340, rfl, rfl⟩ | ⟨c800341, c800342, c800343, c800344, c800345, rfl, rfl⟩
      · exact absurd (by decide +kernel) c800296
      · have hP : va_P D vwCl [(n5000, .inl (cy 2, 1, .inr (.inl (fun _ => 0)))), (n3000, .inl (cy 1, 1300, .inl (fun _ => 0))), (n3900, .inr (12, [.ref n3000, .ref n3001, .ref n3002, .ref n3003, .int 0, .ref n3004, .int 0, .int 0, .int 0, .int 0, .int 0, .int 0, .int 0, .int 0, .int 0, .int (-1), .int 0, .ref n3005, .ref n3006, .int 0, .ref n3007, .ref n3008, .int 0, .int 0, .int 0, .int 0, .int 0, .int 0, .int 0, .ref n3009, .ref n3010, .int 0, .int 0, .ref n3011, .ref n3012, .int 0, .int 1, .ref n3013, .ref n3014, .ref n3015, .int 0, .ref n3016, .ref n3017, .ref n3018]))] H := hP
        have hD : va_D A [(n5000, .inl (cy 2, 1, .inr (.inl (fun _ => 0)))), (n3000, .inl (cy 1, 1300, .inl (fun _ => 0))), (n3900, .inr (12, [.ref n3000, .ref n3001, .ref n3002, .ref n3003, .int 0, .ref n3004, .int 0, .int 0, .int 0, .int 0, .int 0, .int 0, .int 0, .int 0, .int 0, .int (-1), .int 0, .ref n3005, .ref n3006, .int 0, .ref n3007, .ref n3008, .int 0, .int 0, .int 0, .int 0, .int 0, .int 0, .int 0, .ref n3009, .ref n3010, .int 0, .int 0, .ref n3011, .ref n3012, .int 0, .int 1, .ref n3013, .ref n3014, .ref n3015, .int 0, .ref n3016, .ref n3017, .ref n3018]))] := hD
        refine lv_istore (lv' := [(6, .int 0), (5, .int 0), (4, .int 0), (3, .ref n5000), (2, .ref n3900), (1, .ref n1900), (0, .ref b)]) hx hb dL_law_1803 hl (by decide +kernel) rfl (fun ls hl => ?_)
        refine lv_aload_n hx hb dL_law_1805 rfl (lv_at hl 4 rfl) ?_
        refine call_i (av := [.ref n3900]) F hP hD hS [(n3900, .inr (12, [.ref n3000, .ref n3001, .ref n3002, .ref n3003, .int 0, .ref n3004, .int 0, .int 0, .int 0, .int 0, .int 0, .int 0, .int 0, .int 0, .int 0, .int (-1), .int 0, .ref n3005, .ref n3006, .int 0, .ref n3007, .ref n3008, .int 0, .int 0, .int 0, .int 0, .int 0, .int 0, .int 0, .ref n3009, .ref n3010, .int 0, .int 0, .ref n3011, .ref n3012, .int 0, .int 1, .ref n3013, .ref n3014, .ref n3015, .int 0, .ref n3016, .ref n3017, .ref n3018]))] [(n5000, .inl (cy 2, 1, .inr (.inl (fun _ => 0)))), (n3000, .inl (cy 1, 1300, .inl (fun _ => 0)))] [2] [0, 1] rfl rfl (by decide +kernel) (fun pr => va_runV (As := []) (rest := []) ⟨hx, hb, hml, hown, hts⟩ (k338_X12_thrown l D cy H.size n3900 n3000 n3001 n3002 n3003 n3004 n3005 n3006 n3007 n3008 n3009 n3010 n3011 n3012 n3013 n3014 n3015 n3016 n3017 n3018) (cwV 0 hts gw_X12_thrown rfl rfl rfl (by decide +kernel) ⟨(by decide +kernel), (by decide +kernel)⟩) ⟨pr.1, va_recv hK hP (ci := 12) (q0 := 2) rfl rfl, pr.2⟩ rfl rfl hl.1 rfl (lv_room (Nat.le_of_ble_eq_true rfl)) dL_law_1806 ⟨(by decide +kernel), (by decide +kernel)⟩) (fun r u H locs hw hP hD hS => ?_)
        rcases hw with ⟨rfl, rfl⟩
        have hP : va_P D vwCl [(n5000, .inl (cy 2, 1, .inr (.inl (fun _ => 0)))), (n3000, .inl (cy 1, 1300, .inl (fun _ => 0))), (n3900, .inr (12, [.ref n3000, .ref n3001, .ref n3002, .ref n3003, .int 0, .ref n3004, .int 0, .int 0, .int 0, .int 0, .int 0, .int 0, .int 0, .int 0, .int 0, .int (-1), .int 0, .ref n3005, .ref n3006, .int 0, .ref n3007, .ref n3008, .int 0, .int 0, .int 0, .int 0, .int 0, .int 0, .int 0, .ref n3009, .ref n3010, .int 0, .int 0, .ref n3011, .ref n3012, .int 0, .int 1, .ref n3013, .ref n3014, .ref n3015, .int 0, .ref n3016, .ref n3017, .ref n3018]))] H := hP
        have hD : va_D A [(n5000, .inl (cy 2, 1, .inr (.inl (fun _ => 0)))), (n3000, .inl (cy 1, 1300, .inl (fun _ => 0))), (n3900, .inr (12, [.ref n3000, .ref n3001, .ref n3002, .ref n3003, .int 0, .ref n3004, .int 0, .int 0, .int 0, .int 0, .int 0, .int 0, .int 0, .int 0, .int 0, .int (-1), .int 0, .ref n3005, .ref n3006, .int 0, .ref n3007, .ref n3008, .int 0, .int 0, .int 0, .int 0, .int 0, .int 0, .int 0, .ref n3009, .ref n3010, .int 0, .int 0, .ref n3011, .ref n3012, .int 0, .int 1, .ref n3013, .ref n3014, .ref n3015, .int 0, .ref n3016, .ref n3017, .ref n3018]))] := hD
        refine lv_iload hx hb dL_law_1809 (lv_at hl 1 rfl) ?_
        refine lv_icmp_eq (tgt := 1816) hx hb dL_law_1811 (by decide +kernel) (fun _ => ?_) (fun h => absurd (by decide +kernel) h)
        refine lv_iload hx hb dL_law_1816 (lv_at hl 1 rfl) ?_
        refine lv_if_ne (tgt := 1833) hx hb dL_law_1818 (by decide +kernel) (fun h => absurd (by decide +kernel) h) (fun _ => ?_)
        refine lv_aload_n hx hb dL_law_1821 rfl (lv_at hl 3 rfl) ?_
        refine lv_iconst (v := 0) hx hb dL_law_1822 (by decide +kernel) ?_
        refine va_lald hx hb hK hP 0 2 rfl rfl (i := 0) (vin (by decide +kernel)) dL_law_1823 ?_
        refine top_l (v := 0) (by decide +kernel) ?_
        refine lv_iload hx hb dL_law_1824 (lv_at hl 0 rfl) ?_
        refine lv_i2l (v := 0) hx hb dL_law_1826 (by decide +kernel) ?_
        refine W.lcmp hx hb dL_law_1827 ?_
        refine top_i (v := 0) (by decide +kernel) ?_
        refine lv_if_eq (tgt := 1833) hx hb dL_law_1828 (by decide +kernel) (fun _ => ?_) (fun h => absurd (by decide +kernel) h)
        refine lv_goto (tgt := 2458) hx hb dL_law_1833 (by decide +kernel) ?_
        refine lv_iinc (v := 6) (lv' := [(4, .int 6), (6, .int 0), (5, .int 0), (3, .ref n5000), (2, .ref n3900), (1, .ref n1900), (0, .ref b)]) hx hb dL_law_2458 hl (k := 2) rfl (by decide) (by decide +kernel) rfl (fun ls hl => ?_)
        refine lv_goto (tgt := 23) hx hb dL_law_2461 (by decide +kernel) ?_
        refine lv_iload hx hb dL_law_23 (lv_at hl 0 rfl) ?_
        refine lv_aload_n hx hb dL_law_25 rfl (lv_at hl 6 rfl) ?_
        refine va_slen hx hb hX hbl hbA hS dL_law_26 ?_
        refine top_i (v := 6) rfl ?_
        refine lv_bipush (v := 6) hx hb dL_law_27 (by decide +kernel) ?_
        refine lv_isub hx hb dL_law_29 ?_
        refine top_i (v := 0) (by decide +kernel) ?_
        refine lv_icmp_gt (tgt := 2464) hx hb dL_law_30 (by decide +kernel) (fun _ => ?_) (fun h => absurd (by decide +kernel) h)
        refine lv_iconst (v := 1) hx hb dL_law_2464 (by decide +kernel) ?_
        refine va_forget (fun q hq => hAq _ (hS.2.2 q hq)) ?_
        refine W.widen (k := 600002) (n := 7302232) (by decide +kernel) (by decide +kernel) ?_
        exact lw_ret hx hb hr hlk dL_law_2465
      · exact absurd (by decide +kernel) c800300
      · exact absurd (by decide +kernel) c800303
      · exact absurd (by decide +kernel) c800307
      · exact absurd (by decide +kernel) c800312
      · exact absurd (by decide +kernel) c800317
      · exact absurd (by decide +kernel) c800322
      · exact absurd (by decide +kernel) c800327
      · exact absurd (by decide +kernel) c800332
      · exact absurd (by decide +kernel) c800337
      · exact absurd (by decide +kernel) c800342
    · obtain ⟨jj, hj, hjj⟩ := split_b (lo_nlt c800020) (up_lt c800021) 1 (by decide +kernel)
      obtain rfl : jj = 0 := by omega
      have c800350 : z1 = 0 := hjj.trans (by decide +kernel)
      clear hj hjj
      subst c800350
      subst c800026
      have hP : va_P D vwCl [(n3900, .inr (12, [.ref n3000, .ref n3001, .ref n3002, .ref n3003, .int 0, .ref n3004, .int 0, .int 0, .int 0, .int 0, .int 0, .int 0, .int 0, .int 0, .int 0, .int (-1), .int 0, .ref n3005, .ref n3006, .int 0, .ref n3007, .ref n3008, .int 0, .int 0, .int 0, .int 0, .int 0, .int 0, .int 0, .ref n3009, .ref n3010, .int 0, .int 0, .ref n3011, .ref n3012, .int 0, .int 0, .ref n3013, .ref n3014, .ref n3015, .int 0, .ref n3016, .ref n3017, .ref n3018])), (n3000, .inl (cy 1, 1300, .inl (fun _ => 0))), (n5000, .inl (cy 2, 1, .inr (.inl (vp_updL (fun _ => 0) 0 (-1)))))] H := hP
      have hD : va_D A [(n3900, .inr (12, [.ref n3000, .ref n3001, .ref n3002, .ref n3003, .int 0, .ref n3004, .int 0, .int 0, .int 0, .int 0, .int 0, .int 0, .int 0, .int 0, .int 0, .int (-1), .int 0, .ref n3005, .ref n3006, .int 0, .ref n3007, .ref n3008, .int 0, .int 0, .int 0, .int 0, .int 0, .int 0, .int 0, .ref n3009, .ref n3010, .int 0, .int 0, .ref n3011, .ref n3012, .int 0, .int 0, .ref n3013, .ref n3014, .ref n3015, .int 0, .ref n3016, .ref n3017, .ref n3018])), (n3000, .inl (cy 1, 1300, .inl (fun _ => 0))), (n5000, .inl (cy 2, 1, .inr (.inl (vp_updL (fun _ => 0) 0 (-1)))))] := hD
      refine lv_istore (lv' := [(5, .int 0), (4, .int 0), (3, .ref n5000), (2, .ref n3900), (1, .ref n1900), (0, .ref b)]) hx hb dL_law_1771 hl (by decide +kernel) rfl (fun ls hl => ?_)
      refine lv_aload_n hx hb dL_law_1773 rfl (lv_at hl 3 rfl) ?_
      refine lv_aload_n hx hb dL_law_1774 rfl (lv_at hl 5 rfl) ?_
      refine lv_iload hx hb dL_law_1775 (lv_at hl 1 rfl) ?_
      refine lv_iconst (v := 1) hx hb dL_law_1777 (by decide +kernel) ?_
      refine lv_iadd hx hb dL_law_1778 ?_
      refine top_i (v := 1) (by decide +kernel) ?_
      refine va_sld hx hb hX hbl hbA hS (i := 1) (vin (by decide +kernel)) dL_law_1779 ?_
      refine top_i (v := 0) ez1 ?_
      refine lv_aload_n hx hb dL_law_1780 rfl (lv_at hl 5 rfl) ?_
      refine lv_iload hx hb dL_law_1781 (lv_at hl 1 rfl) ?_
      refine lv_iconst (v := 2) hx hb dL_law_1783 (by decide +kernel) ?_
      refine lv_iadd hx hb dL_law_1784 ?_
      refine top_i (v := 2) (by decide +kernel) ?_
      refine va_sld hx hb hX hbl hbA hS (i := 2) (vin (by decide +kernel)) dL_law_1785 ?_
      refine top_i (v := 0) ez2 ?_
      refine lv_if_eq (tgt := 1793) hx hb dL_law_1786 (by decide +kernel) (fun _ => ?_) (fun h => absurd (by decide +kernel) h)
      refine lv_iconst (v := 0) hx hb dL_law_1793 (by decide +kernel) ?_
      refine lv_aload_n hx hb dL_law_1794 rfl (lv_at hl 5 rfl) ?_
      refine lv_iload hx hb dL_law_1795 (lv_at hl 1 rfl) ?_
      refine lv_iconst (v := 3) hx hb dL_law_1797 (by decide +kernel) ?_
      refine lv_iadd hx hb dL_law_1798 ?_
      refine top_i (v := 3) (by decide +kernel) ?_
      refine va_sld hx hb hX hbl hbA hS (i := 3) (vin (by decide +kernel)) dL_law_1799 ?_
      refine top_i (v := 10) ez3 ?_
      refine call_i (av := [.ref n3900, .int 0, .int 0, .int 10]) F hP hD hS [(n3900, .inr (12, [.ref n3000, .ref n3001, .ref n3002, .ref n3003, .int 0, .ref n3004, .int 0, .int 0, .int 0, .int 0, .int 0, .int 0, .int 0, .int 0, .int 0, .int (-1), .int 0, .ref n3005, .ref n3006, .int 0, .ref n3007, .ref n3008, .int 0, .int 0, .int 0, .int 0, .int 0, .int 0, .int 0, .ref n3009, .ref n3010, .int 0, .int 0, .ref n3011, .ref n3012, .int 0, .int 0, .ref n3013, .ref n3014, .ref n3015, .int 0, .ref n3016, .ref n3017, .ref n3018])), (n3000, .inl (cy 1, 1300, .inl (fun _ => 0)))] [(n5000, .inl (cy 2, 1, .inr (.inl (vp_updL (fun _ => 0) 0 (-1)))))] [0, 1] [2] rfl rfl (by decide +kernel) (fun pr => va_runV (As := [.int 0, .int 0, .int 10]) (rest := []) ⟨hx, hb, hml, hown, hts⟩ (k242_X12_bestRow l D cy H.size n3900 0 0 10 n3000 n3001 n3002 n3003 n3004 n3005 n3006 n3007 n3008 n3009 n3010 n3011 n3012 n3013 n3014 n3015 n3016 n3017 n3018) (cwV 3 hts gw_X12_bestRow rfl rfl rfl (by decide +kernel) ⟨(by decide +kernel), (by decide +kernel)⟩) ⟨pr.1, va_recv hK hP (ci := 12) (q0 := 0) rfl rfl, pr.2⟩ rfl rfl hl.1 rfl (lv_room (Nat.le_of_ble_eq_true rfl)) dL_law_1800 ⟨(by decide +kernel), (by decide +kernel)⟩) (fun r u H locs hw hP hD hS => ?_)
      rcases hw with ⟨c800352, rfl, rfl⟩ | ⟨c800353, c800354, rfl, rfl⟩ | ⟨c800355, c800356, c800357, rfl, rfl⟩ | ⟨c800358, c800359, c800360, c800361, rfl, rfl⟩ | ⟨c800362, c800363, c800364, c800365, c800366, rfl, rfl⟩ | ⟨c800367, c800368, c800369, c800370, c800371, rfl, rfl⟩ | ⟨c800372, c800373, c800374, c800375, c800376, rfl, rfl⟩ | ⟨c800377, c800378, c800379, c800380, c800381, rfl, rfl⟩ | ⟨c800382, c800383, c800384, c800385, c800386, rfl, rfl⟩ | ⟨c800387, c800388, c800389, c800390, c800391, rfl, rfl⟩ | ⟨c800392, c800393, c800394, c800395, c800396, rfl, rfl⟩ | ⟨c800397, c800398, c800399, c800400, c800401, rfl, rfl⟩
      · exact absurd (by decide +kernel) c800352
      · exact absurd c800354 (by decide +kernel)
      · exact absurd c800357 (by decide +kernel)
      · exact absurd c800361 (by decide +kernel)
      · have hP : va_P D vwCl [(n5000, .inl (cy 2, 1, .inr (.inl (vp_updL (fun _ => 0) 0 (-1))))), (n3000, .inl (cy 1, 1300, .inl (fun _ => 0))), (n3900, .inr (12, [.ref n3000, .ref n3001, .ref n3002, .ref n3003, .int 0, .ref n3004, .int 0, .int 0, .int 0, .int 0, .int 0, .int 0, .int 0, .int 0, .int 0, .int (-1), .int 0, .ref n3005, .ref n3006, .int 0, .ref n3007, .ref n3008, .int 0, .int 0, .int 0, .int 0, .int 0, .int 0, .int 0, .ref n3009, .ref n3010, .int 0, .int 0, .ref n3011, .ref n3012, .int 0, .int 1, .ref n3013, .ref n3014, .ref n3015, .int 0, .ref n3016, .ref n3017, .ref n3018]))] H := hP
        have hD : va_D A [(n5000, .inl (cy 2, 1, .inr (.inl (vp_updL (fun _ => 0) 0 (-1))))), (n3000, .inl (cy 1, 1300, .inl (fun _ => 0))), (n3900, .inr (12, [.ref n3000, .ref n3001, .ref n3002, .ref n3003, .int 0, .ref n3004, .int 0, .int 0, .int 0, .int 0, .int 0, .int 0, .int 0, .int 0, .int 0, .int (-1), .int 0, .ref n3005, .ref n3006, .int 0, .ref n3007, .ref n3008, .int 0, .int 0, .int 0, .int 0, .int 0, .int 0, .int 0, .ref n3009, .ref n3010, .int 0, .int 0, .ref n3011, .ref n3012, .int 0, .int 1, .ref n3013, .ref n3014, .ref n3015, .int 0, .ref n3016, .ref n3017, .ref n3018]))] := hD
        refine lv_istore (lv' := [(6, .int (-1)), (5, .int 0), (4, .int 0), (3, .ref n5000), (2, .ref n3900), (1, .ref n1900), (0, .ref b)]) hx hb dL_law_1803 hl (by decide +kernel) rfl (fun ls hl => ?_)
        refine lv_aload_n hx hb dL_law_1805 rfl (lv_at hl 4 rfl) ?_
        refine call_i (av := [.ref n3900]) F hP hD hS [(n3900, .inr (12, [.ref n3000, .ref n3001, .ref n3002, .ref n3003, .int 0, .ref n3004, .int 0, .int 0, .int 0, .int 0, .int 0, .int 0, .int 0, .int 0, .int 0, .int (-1), .int 0, .ref n3005, .ref n3006, .int 0, .ref n3007, .ref n3008, .int 0, .int 0, .int 0, .int 0, .int 0, .int 0, .int 0, .ref n3009, .ref n3010, .int 0, .int 0, .ref n3011, .ref n3012, .int 0, .int 1, .ref n3013, .ref n3014, .ref n3015, .int 0, .ref n3016, .ref n3017, .ref n3018]))] [(n5000, .inl (cy 2, 1, .inr (.inl (vp_updL (fun _ => 0) 0 (-1))))), (n3000, .inl (cy 1, 1300, .inl (fun _ => 0)))] [2] [0, 1] rfl rfl (by decide +kernel) (fun pr => va_runV (As := []) (rest := []) ⟨hx, hb, hml, hown, hts⟩ (k338_X12_thrown l D cy H.size n3900 n3000 n3001 n3002 n3003 n3004 n3005 n3006 n3007 n3008 n3009 n3010 n3011 n3012 n3013 n3014 n3015 n3016 n3017 n3018) (cwV 0 hts gw_X12_thrown rfl rfl rfl (by decide +kernel) ⟨(by decide +kernel), (by decide +kernel)⟩) ⟨pr.1, va_recv hK hP (ci := 12) (q0 := 2) rfl rfl, pr.2⟩ rfl rfl hl.1 rfl (lv_room (Nat.le_of_ble_eq_true rfl)) dL_law_1806 ⟨(by decide +kernel), (by decide +kernel)⟩) (fun r u H locs hw hP hD hS => ?_)
        rcases hw with ⟨rfl, rfl⟩
        have hP : va_P D vwCl [(n5000, .inl (cy 2, 1, .inr (.inl (vp_updL (fun _ => 0) 0 (-1))))), (n3000, .inl (cy 1, 1300, .inl (fun _ => 0))), (n3900, .inr (12, [.ref n3000, .ref n3001, .ref n3002, .ref n3003, .int 0, .ref n3004, .int 0, .int 0, .int 0, .int 0, .int 0, .int 0, .int 0, .int 0, .int 0, .int (-1), .int 0, .ref n3005, .ref n3006, .int 0, .ref n3007, .ref n3008, .int 0, .int 0, .int 0, .int 0, .int 0, .int 0, .int 0, .ref n3009, .ref n3010, .int 0, .int 0, .ref n3011, .ref n3012, .int 0, .int 1, .ref n3013, .ref n3014, .ref n3015, .int 0, .ref n3016, .ref n3017, .ref n3018]))] H := hP
        have hD : va_D A [(n5000, .inl (cy 2, 1, .inr (.inl (vp_updL (fun _ => 0) 0 (-1))))), (n3000, .inl (cy 1, 1300, .inl (fun _ => 0))), (n3900, .inr (12, [.ref n3000, .ref n3001, .ref n3002, .ref n3003, .int 0, .ref n3004, .int 0, .int 0, .int 0, .int 0, .int 0, .int 0, .int 0, .int 0, .int 0, .int (-1), .int 0, .ref n3005, .ref n3006, .int 0, .ref n3007, .ref n3008, .int 0, .int 0, .int 0, .int 0, .int 0, .int 0, .int 0, .ref n3009, .ref n3010, .int 0, .int 0, .ref n3011, .ref n3012, .int 0, .int 1, .ref n3013, .ref n3014, .ref n3015, .int 0, .ref n3016, .ref n3017, .ref n3018]))] := hD
        refine lv_iload hx hb dL_law_1809 (lv_at hl 1 rfl) ?_
        refine lv_icmp_eq (tgt := 1816) hx hb dL_law_1811 (by decide +kernel) (fun _ => ?_) (fun h => absurd (by decide +kernel) h)
        refine lv_iload hx hb dL_law_1816 (lv_at hl 1 rfl) ?_
        refine lv_if_ne (tgt := 1833) hx hb dL_law_1818 (by decide +kernel) (fun h => absurd (by decide +kernel) h) (fun _ => ?_)
        refine lv_aload_n hx hb dL_law_1821 rfl (lv_at hl 3 rfl) ?_
        refine lv_iconst (v := 0) hx hb dL_law_1822 (by decide +kernel) ?_
        refine va_lald hx hb hK hP 0 2 rfl rfl (i := 0) (vin (by decide +kernel)) dL_law_1823 ?_
        refine top_l (v := (-1)) (by decide +kernel) ?_
        refine lv_iload hx hb dL_law_1824 (lv_at hl 0 rfl) ?_
        refine lv_i2l (v := (-1)) hx hb dL_law_1826 (by decide +kernel) ?_
        refine W.lcmp hx hb dL_law_1827 ?_
        refine top_i (v := 0) (by decide +kernel) ?_
        refine lv_if_eq (tgt := 1833) hx hb dL_law_1828 (by decide +kernel) (fun _ => ?_) (fun h => absurd (by decide +kernel) h)
        refine lv_goto (tgt := 2458) hx hb dL_law_1833 (by decide +kernel) ?_
        refine lv_iinc (v := 6) (lv' := [(4, .int 6), (6, .int (-1)), (5, .int 0), (3, .ref n5000), (2, .ref n3900), (1, .ref n1900), (0, .ref b)]) hx hb dL_law_2458 hl (k := 2) rfl (by decide) (by decide +kernel) rfl (fun ls hl => ?_)
        refine lv_goto (tgt := 23) hx hb dL_law_2461 (by decide +kernel) ?_
        refine lv_iload hx hb dL_law_23 (lv_at hl 0 rfl) ?_
        refine lv_aload_n hx hb dL_law_25 rfl (lv_at hl 6 rfl) ?_
        refine va_slen hx hb hX hbl hbA hS dL_law_26 ?_
        refine top_i (v := 6) rfl ?_
        refine lv_bipush (v := 6) hx hb dL_law_27 (by decide +kernel) ?_
        refine lv_isub hx hb dL_law_29 ?_
        refine top_i (v := 0) (by decide +kernel) ?_
        refine lv_icmp_gt (tgt := 2464) hx hb dL_law_30 (by decide +kernel) (fun _ => ?_) (fun h => absurd (by decide +kernel) h)
        refine lv_iconst (v := 1) hx hb dL_law_2464 (by decide +kernel) ?_
        refine va_forget (fun q hq => hAq _ (hS.2.2 q hq)) ?_
        refine W.widen (k := 600002) (n := 7302232) (by decide +kernel) (by decide +kernel) ?_
        exact lw_ret hx hb hr hlk dL_law_2465
      · exact absurd c800371 (by decide +kernel)
      · exact absurd c800376 (by decide +kernel)
      · exact absurd c800381 (by decide +kernel)
      · exact absurd c800386 (by decide +kernel)
      · exact absurd c800391 (by decide +kernel)
      · exact absurd c800396 (by decide +kernel)
      · exact absurd c800401 (by decide +kernel)
    · obtain ⟨jj, hj, hjj⟩ := split_b (lo_nlt c800027) (up_lt c800028) 1 (by decide +kernel)
      obtain rfl : jj = 0 := by omega
      have c800406 : z1 = 0 := hjj.trans (by decide +kernel)
      clear hj hjj
      subst c800406
      subst c800033
      have hP : va_P D vwCl [(n3900, .inr (12, [.ref n3000, .ref n3001, .ref n3002, .ref n3003, .int 0, .ref n3004, .int 0, .int 0, .int 0, .int 0, .int 0, .int 0, .int 0, .int 0, .int 0, .int (-1), .int 0, .ref n3005, .ref n3006, .int 0, .ref n3007, .ref n3008, .int 0, .int 0, .int 0, .int 0, .int 0, .int 0, .int 0, .ref n3009, .ref n3010, .int 0, .int 0, .ref n3011, .ref n3012, .int 0, .int 0, .ref n3013, .ref n3014, .ref n3015, .int 0, .ref n3016, .ref n3017, .ref n3018])), (n3000, .inl (cy 1, 1300, .inl (fun _ => 0))), (n5000, .inl (cy 2, 1, .inr (.inl (vp_updL (fun _ => 0) 0 (-1)))))] H := hP
      have hD : va_D A [(n3900, .inr (12, [.ref n3000, .ref n3001, .ref n3002, .ref n3003, .int 0, .ref n3004, .int 0, .int 0, .int 0, .int 0, .int 0, .int 0, .int 0, .int 0, .int 0, .int (-1), .int 0, .ref n3005, .ref n3006, .int 0, .ref n3007, .ref n3008, .int 0, .int 0, .int 0, .int 0, .int 0, .int 0, .int 0, .ref n3009, .ref n3010, .int 0, .int 0, .ref n3011, .ref n3012, .int 0, .int 0, .ref n3013, .ref n3014, .ref n3015, .int 0, .ref n3016, .ref n3017, .ref n3018])), (n3000, .inl (cy 1, 1300, .inl (fun _ => 0))), (n5000, .inl (cy 2, 1, .inr (.inl (vp_updL (fun _ => 0) 0 (-1)))))] := hD
      refine lv_istore (lv' := [(5, .int 0), (4, .int 0), (3, .ref n5000), (2, .ref n3900), (1, .ref n1900), (0, .ref b)]) hx hb dL_law_1771 hl (by decide +kernel) rfl (fun ls hl => ?_)
      refine lv_aload_n hx hb dL_law_1773 rfl (lv_at hl 3 rfl) ?_
      refine lv_aload_n hx hb dL_law_1774 rfl (lv_at hl 5 rfl) ?_
      refine lv_iload hx hb dL_law_1775 (lv_at hl 1 rfl) ?_
      refine lv_iconst (v := 1) hx hb dL_law_1777 (by decide +kernel) ?_
      refine lv_iadd hx hb dL_law_1778 ?_
      refine top_i (v := 1) (by decide +kernel) ?_
      refine va_sld hx hb hX hbl hbA hS (i := 1) (vin (by decide +kernel)) dL_law_1779 ?_
      refine top_i (v := 0) ez1 ?_
      refine lv_aload_n hx hb dL_law_1780 rfl (lv_at hl 5 rfl) ?_
      refine lv_iload hx hb dL_law_1781 (lv_at hl 1 rfl) ?_
      refine lv_iconst (v := 2) hx hb dL_law_1783 (by decide +kernel) ?_
      refine lv_iadd hx hb dL_law_1784 ?_
      refine top_i (v := 2) (by decide +kernel) ?_
      refine va_sld hx hb hX hbl hbA hS (i := 2) (vin (by decide +kernel)) dL_law_1785 ?_
      refine top_i (v := 0) ez2 ?_
      refine lv_if_eq (tgt := 1793) hx hb dL_law_1786 (by decide +kernel) (fun _ => ?_) (fun h => absurd (by decide +kernel) h)
      refine lv_iconst (v := 0) hx hb dL_law_1793 (by decide +kernel) ?_
      refine lv_aload_n hx hb dL_law_1794 rfl (lv_at hl 5 rfl) ?_
      refine lv_iload hx hb dL_law_1795 (lv_at hl 1 rfl) ?_
      refine lv_iconst (v := 3) hx hb dL_law_1797 (by decide +kernel) ?_
      refine lv_iadd hx hb dL_law_1798 ?_
      refine top_i (v := 3) (by decide +kernel) ?_
      refine va_sld hx hb hX hbl hbA hS (i := 3) (vin (by decide +kernel)) dL_law_1799 ?_
      refine top_i (v := 11) ez3 ?_
      refine call_i (av := [.ref n3900, .int 0, .int 0, .int 11]) F hP hD hS [(n3900, .inr (12, [.ref n3000, .ref n3001, .ref n3002, .ref n3003, .int 0, .ref n3004, .int 0, .int 0, .int 0, .int 0, .int 0, .int 0, .int 0, .int 0, .int 0, .int (-1), .int 0, .ref n3005, .ref n3006, .int 0, .ref n3007, .ref n3008, .int 0, .int 0, .int 0, .int 0, .int 0, .int 0, .int 0, .ref n3009, .ref n3010, .int 0, .int 0, .ref n3011, .ref n3012, .int 0, .int 0, .ref n3013, .ref n3014, .ref n3015, .int 0, .ref n3016, .ref n3017, .ref n3018])), (n3000, .inl (cy 1, 1300, .inl (fun _ => 0)))] [(n5000, .inl (cy 2, 1, .inr (.inl (vp_updL (fun _ => 0) 0 (-1)))))] [0, 1] [2] rfl rfl (by decide +kernel) (fun pr => va_runV (As := [.int 0, .int 0, .int 11]) (rest := []) ⟨hx, hb, hml, hown, hts⟩ (k242_X12_bestRow l D cy H.size n3900 0 0 11 n3000 n3001 n3002 n3003 n3004 n3005 n3006 n3007 n3008 n3009 n3010 n3011 n3012 n3013 n3014 n3015 n3016 n3017 n3018) (cwV 3 hts gw_X12_bestRow rfl rfl rfl (by decide +kernel) ⟨(by decide +kernel), (by decide +kernel)⟩) ⟨pr.1, va_recv hK hP (ci := 12) (q0 := 0) rfl rfl, pr.2⟩ rfl rfl hl.1 rfl (lv_room (Nat.le_of_ble_eq_true rfl)) dL_law_1800 ⟨(by decide +kernel), (by decide +kernel)⟩) (fun r u H locs hw hP hD hS => ?_)
      rcases hw with ⟨c800408, rfl, rfl⟩ | ⟨c800409, c800410, rfl, rfl⟩ | ⟨c800411, c800412, c800413, rfl, rfl⟩ | ⟨c800414, c800415, c800416, c800417, rfl, rfl⟩ | ⟨c800418, c800419, c800420, c800421, c800422, rfl, rfl⟩ | ⟨c800423, c800424, c800425, c800426, c800427, rfl, rfl⟩ | ⟨c800428, c800429, c800430, c800431, c800432, rfl, rfl⟩ | ⟨c800433, c800434, c800435, c800436, c800437, rfl, rfl⟩ | ⟨c800438, c800439, c800440, c800441, c800442, rfl, rfl⟩ | ⟨c800443, c800444, c800445, c800446, c800447, rfl, rfl⟩ | ⟨c800448, c800449, c800450, c800451, c800452, rfl, rfl⟩ | ⟨c800453, c800454, c800455, c800456, c800457, rfl, rfl⟩
      · exact absurd (by decide +kernel) c800408
      · exact absurd c800410 (by decide +kernel)
      · exact absurd c800413 (by decide +kernel)
      · exact absurd c800417 (by decide +kernel)
      · exact absurd c800422 (by decide +kernel)
      · have hP : va_P D vwCl [(n5000, .inl (cy 2, 1, .inr (.inl (vp_updL (fun _ => 0) 0 (-1))))), (n3000, .inl (cy 1, 1300, .inl (fun _ => 0))), (n3900, .inr (12, [.ref n3000, .ref n3001, .ref n3002, .ref n3003, .int 0, .ref n3004, .int 0, .int 0, .int 0, .int 0, .int 0, .int 0, .int 0, .int 0, .int 0, .int (-1), .int 0, .ref n3005, .ref n3006, .int 0, .ref n3007, .ref n3008, .int 0, .int 0, .int 0, .int 0, .int 0, .int 0, .int 0, .ref n3009, .ref n3010, .int 0, .int 0, .ref n3011, .ref n3012, .int 0, .int 1, .ref n3013, .ref n3014, .ref n3015, .int 0, .ref n3016, .ref n3017, .ref n3018]))] H := hP
        have hD : va_D A [(n5000, .inl (cy 2, 1, .inr (.inl (vp_updL (fun _ => 0) 0 (-1))))), (n3000, .inl (cy 1, 1300, .inl (fun _ => 0))), (n3900, .inr (12, [.ref n3000, .ref n3001, .ref n3002, .ref n3003, .int 0, .ref n3004, .int 0, .int 0, .int 0, .int 0, .int 0, .int 0, .int 0, .int 0, .int 0, .int (-1), .int 0, .ref n3005, .ref n3006, .int 0, .ref n3007, .ref n3008, .int 0, .int 0, .int 0, .int 0, .int 0, .int 0, .int 0, .ref n3009, .ref n3010, .int 0, .int 0, .ref n3011, .ref n3012, .int 0, .int 1, .ref n3013, .ref n3014, .ref n3015, .int 0, .ref n3016, .ref n3017, .ref n3018]))] := hD
        refine lv_istore (lv' := [(6, .int (-1)), (5, .int 0), (4, .int 0), (3, .ref n5000), (2, .ref n3900), (1, .ref n1900), (0, .ref b)]) hx hb dL_law_1803 hl (by decide +kernel) rfl (fun ls hl => ?_)
        refine lv_aload_n hx hb dL_law_1805 rfl (lv_at hl 4 rfl) ?_
        refine call_i (av := [.ref n3900]) F hP hD hS [(n3900, .inr (12, [.ref n3000, .ref n3001, .ref n3002, .ref n3003, .int 0, .ref n3004, .int 0, .int 0, .int 0, .int 0, .int 0, .int 0, .int 0, .int 0, .int 0, .int (-1), .int 0, .ref n3005, .ref n3006, .int 0, .ref n3007, .ref n3008, .int 0, .int 0, .int 0, .int 0, .int 0, .int 0, .int 0, .ref n3009, .ref n3010, .int 0, .int 0, .ref n3011, .ref n3012, .int 0, .int 1, .ref n3013, .ref n3014, .ref n3015, .int 0, .ref n3016, .ref n3017, .ref n3018]))] [(n5000, .inl (cy 2, 1, .inr (.inl (vp_updL (fun _ => 0) 0 (-1))))), (n3000, .inl (cy 1, 1300, .inl (fun _ => 0)))] [2] [0, 1] rfl rfl (by decide +kernel) (fun pr => va_runV (As := []) (rest := []) ⟨hx, hb, hml, hown, hts⟩ (k338_X12_thrown l D cy H.size n3900 n3000 n3001 n3002 n3003 n3004 n3005 n3006 n3007 n3008 n3009 n3010 n3011 n3012 n3013 n3014 n3015 n3016 n3017 n3018) (cwV 0 hts gw_X12_thrown rfl rfl rfl (by decide +kernel) ⟨(by decide +kernel), (by decide +kernel)⟩) ⟨pr.1, va_recv hK hP (ci := 12) (q0 := 2) rfl rfl, pr.2⟩ rfl rfl hl.1 rfl (lv_room (Nat.le_of_ble_eq_true rfl)) dL_law_1806 ⟨(by decide +kernel), (by decide +kernel)⟩) (fun r u H locs hw hP hD hS => ?_)
        rcases hw with ⟨rfl, rfl⟩
        have hP : va_P D vwCl [(n5000, .inl (cy 2, 1, .inr (.inl (vp_updL (fun _ => 0) 0 (-1))))), (n3000, .inl (cy 1, 1300, .inl (fun _ => 0))), (n3900, .inr (12, [.ref n3000, .ref n3001, .ref n3002, .ref n3003, .int 0, .ref n3004, .int 0, .int 0, .int 0, .int 0, .int 0, .int 0, .int 0, .int 0, .int 0, .int (-1), .int 0, .ref n3005, .ref n3006, .int 0, .ref n3007, .ref n3008, .int 0, .int 0, .int 0, .int 0, .int 0, .int 0, .int 0, .ref n3009, .ref n3010, .int 0, .int 0, .ref n3011, .ref n3012, .int 0, .int 1, .ref n3013, .ref n3014, .ref n3015, .int 0, .ref n3016, .ref n3017, .ref n3018]))] H := hP
        have hD : va_D A [(n5000, .inl (cy 2, 1, .inr (.inl (vp_updL (fun _ => 0) 0 (-1))))), (n3000, .inl (cy 1, 1300, .inl (fun _ => 0))), (n3900, .inr (12, [.ref n3000, .ref n3001, .ref n3002, .ref n3003, .int 0, .ref n3004, .int 0, .int 0, .int 0, .int 0, .int 0, .int 0, .int 0, .int 0, .int 0, .int (-1), .int 0, .ref n3005, .ref n3006, .int 0, .ref n3007, .ref n3008, .int 0, .int 0, .int 0, .int 0, .int 0, .int 0, .int 0, .ref n3009, .ref n3010, .int 0, .int 0, .ref n3011, .ref n3012, .int 0, .int 1, .ref n3013, .ref n3014, .ref n3015, .int 0, .ref n3016, .ref n3017, .ref n3018]))] := hD
        refine lv_iload hx hb dL_law_1809 (lv_at hl 1 rfl) ?_
        refine lv_icmp_eq (tgt := 1816) hx hb dL_law_1811 (by decide +kernel) (fun _ => ?_) (fun h => absurd (by decide +kernel) h)
        refine lv_iload hx hb dL_law_1816 (lv_at hl 1 rfl) ?_
        refine lv_if_ne (tgt := 1833) hx hb dL_law_1818 (by decide +kernel) (fun h => absurd (by decide +kernel) h) (fun _ => ?_)
        refine lv_aload_n hx hb dL_law_1821 rfl (lv_at hl 3 rfl) ?_
        refine lv_iconst (v := 0) hx hb dL_law_1822 (by decide +kernel) ?_
        refine va_lald hx hb hK hP 0 2 rfl rfl (i := 0) (vin (by decide +kernel)) dL_law_1823 ?_
        refine top_l (v := (-1)) (by decide +kernel) ?_
        refine lv_iload hx hb dL_law_1824 (lv_at hl 0 rfl) ?_
        refine lv_i2l (v := (-1)) hx hb dL_law_1826 (by decide +kernel) ?_
        refine W.lcmp hx hb dL_law_1827 ?_
        refine top_i (v := 0) (by decide +kernel) ?_
        refine lv_if_eq (tgt := 1833) hx hb dL_law_1828 (by decide +kernel) (fun _ => ?_) (fun h => absurd (by decide +kernel) h)
        refine lv_goto (tgt := 2458) hx hb dL_law_1833 (by decide +kernel) ?_
        refine lv_iinc (v := 6) (lv' := [(4, .int 6), (6, .int (-1)), (5, .int 0), (3, .ref n5000), (2, .ref n3900), (1, .ref n1900), (0, .ref b)]) hx hb dL_law_2458 hl (k := 2) rfl (by decide) (by decide +kernel) rfl (fun ls hl => ?_)
        refine lv_goto (tgt := 23) hx hb dL_law_2461 (by decide +kernel) ?_
        refine lv_iload hx hb dL_law_23 (lv_at hl 0 rfl) ?_
        refine lv_aload_n hx hb dL_law_25 rfl (lv_at hl 6 rfl) ?_
        refine va_slen hx hb hX hbl hbA hS dL_law_26 ?_
        refine top_i (v := 6) rfl ?_
        refine lv_bipush (v := 6) hx hb dL_law_27 (by decide +kernel) ?_
        refine lv_isub hx hb dL_law_29 ?_
        refine top_i (v := 0) (by decide +kernel) ?_
        refine lv_icmp_gt (tgt := 2464) hx hb dL_law_30 (by decide +kernel) (fun _ => ?_) (fun h => absurd (by decide +kernel) h)
        refine lv_iconst (v := 1) hx hb dL_law_2464 (by decide +kernel) ?_
        refine va_forget (fun q hq => hAq _ (hS.2.2 q hq)) ?_
        refine W.widen (k := 600002) (n := 7302232) (by decide +kernel) (by decide +kernel) ?_
        exact lw_ret hx hb hr hlk dL_law_2465
      · exact absurd c800432 (by decide +kernel)
      · exact absurd c800437 (by decide +kernel)
      · exact absurd c800442 (by decide +kernel)
      · exact absurd c800447 (by decide +kernel)
      · exact absurd c800452 (by decide +kernel)
      · exact absurd c800457 (by decide +kernel)
    · obtain ⟨jj, hj, hjj⟩ := split_b (lo_nlt c800034) (up_lt c800035) 1 (by decide +kernel)
      obtain rfl : jj = 0 := by omega
      have c800462 : z1 = 0 := hjj.trans (by decide +kernel)
      clear hj hjj
      subst c800462
      subst c800040
      have hP : va_P D vwCl [(n3900, .inr (12, [.ref n3000, .ref n3001, .ref n3002, .ref n3003, .int 0, .ref n3004, .int 0, .int 0, .int 0, .int 0, .int 0, .int 0, .int 0, .int 0, .int 0, .int (-1), .int 0, .ref n3005, .ref n3006, .int 0, .ref n3007, .ref n3008, .int 0, .int 0, .int 0, .int 0, .int 0, .int 0, .int 0, .ref n3009, .ref n3010, .int 0, .int 0, .ref n3011, .ref n3012, .int 0, .int 0, .ref n3013, .ref n3014, .ref n3015, .int 0, .ref n3016, .ref n3017, .ref n3018])), (n3000, .inl (cy 1, 1300, .inl (fun _ => 0))), (n5000, .inl (cy 2, 1, .inr (.inl (vp_updL (fun _ => 0) 0 (-1)))))] H := hP
      have hD : va_D A [(n3900, .inr (12, [.ref n3000, .ref n3001, .ref n3002, .ref n3003, .int 0, .ref n3004, .int 0, .int 0, .int 0, .int 0, .int 0, .int 0, .int 0, .int 0, .int 0, .int (-1), .int 0, .ref n3005, .ref n3006, .int 0, .ref n3007, .ref n3008, .int 0, .int 0, .int 0, .int 0, .int 0, .int 0, .int 0, .ref n3009, .ref n3010, .int 0, .int 0, .ref n3011, .ref n3012, .int 0, .int 0, .ref n3013, .ref n3014, .ref n3015, .int 0, .ref n3016, .ref n3017, .ref n3018])), (n3000, .inl (cy 1, 1300, .inl (fun _ => 0))), (n5000, .inl (cy 2, 1, .inr (.inl (vp_updL (fun _ => 0) 0 (-1)))))] := hD
      refine lv_istore (lv' := [(5, .int 0), (4, .int 0), (3, .ref n5000), (2, .ref n3900), (1, .ref n1900), (0, .ref b)]) hx hb dL_law_1771 hl (by decide +kernel) rfl (fun ls hl => ?_)
      refine lv_aload_n hx hb dL_law_1773 rfl (lv_at hl 3 rfl) ?_
      refine lv_aload_n hx hb dL_law_1774 rfl (lv_at hl 5 rfl) ?_
      refine lv_iload hx hb dL_law_1775 (lv_at hl 1 rfl) ?_
      refine lv_iconst (v := 1) hx hb dL_law_1777 (by decide +kernel) ?_
      refine lv_iadd hx hb dL_law_1778 ?_
      refine top_i (v := 1) (by decide +kernel) ?_
      refine va_sld hx hb hX hbl hbA hS (i := 1) (vin (by decide +kernel)) dL_law_1779 ?_
      refine top_i (v := 0) ez1 ?_
      refine lv_aload_n hx hb dL_law_1780 rfl (lv_at hl 5 rfl) ?_
      refine lv_iload hx hb dL_law_1781 (lv_at hl 1 rfl) ?_
      refine lv_iconst (v := 2) hx hb dL_law_1783 (by decide +kernel) ?_
      refine lv_iadd hx hb dL_law_1784 ?_
      refine top_i (v := 2) (by decide +kernel) ?_
      refine va_sld hx hb hX hbl hbA hS (i := 2) (vin (by decide +kernel)) dL_law_1785 ?_
      refine top_i (v := 0) ez2 ?_
      refine lv_if_eq (tgt := 1793) hx hb dL_law_1786 (by decide +kernel) (fun _ => ?_) (fun h => absurd (by decide +kernel) h)
      refine lv_iconst (v := 0) hx hb dL_law_1793 (by decide +kernel) ?_
      refine lv_aload_n hx hb dL_law_1794 rfl (lv_at hl 5 rfl) ?_
      refine lv_iload hx hb dL_law_1795 (lv_at hl 1 rfl) ?_
      refine lv_iconst (v := 3) hx hb dL_law_1797 (by decide +kernel) ?_
      refine lv_iadd hx hb dL_law_1798 ?_
      refine top_i (v := 3) (by decide +kernel) ?_
      refine va_sld hx hb hX hbl hbA hS (i := 3) (vin (by decide +kernel)) dL_law_1799 ?_
      refine top_i (v := 12) ez3 ?_
      refine call_i (av := [.ref n3900, .int 0, .int 0, .int 12]) F hP hD hS [(n3900, .inr (12, [.ref n3000, .ref n3001, .ref n3002, .ref n3003, .int 0, .ref n3004, .int 0, .int 0, .int 0, .int 0, .int 0, .int 0, .int 0, .int 0, .int 0, .int (-1), .int 0, .ref n3005, .ref n3006, .int 0, .ref n3007, .ref n3008, .int 0, .int 0, .int 0, .int 0, .int 0, .int 0, .int 0, .ref n3009, .ref n3010, .int 0, .int 0, .ref n3011, .ref n3012, .int 0, .int 0, .ref n3013, .ref n3014, .ref n3015, .int 0, .ref n3016, .ref n3017, .ref n3018])), (n3000, .inl (cy 1, 1300, .inl (fun _ => 0)))] [(n5000, .inl (cy 2, 1, .inr (.inl (vp_updL (fun _ => 0) 0 (-1)))))] [0, 1] [2] rfl rfl (by decide +kernel) (fun pr => va_runV (As := [.int 0, .int 0, .int 12]) (rest := []) ⟨hx, hb, hml, hown, hts⟩ (k242_X12_bestRow l D cy H.size n3900 0 0 12 n3000 n3001 n3002 n3003 n3004 n3005 n3006 n3007 n3008 n3009 n3010 n3011 n3012 n3013 n3014 n3015 n3016 n3017 n3018) (cwV 3 hts gw_X12_bestRow rfl rfl rfl (by decide +kernel) ⟨(by decide +kernel), (by decide +kernel)⟩) ⟨pr.1, va_recv hK hP (ci := 12) (q0 := 0) rfl rfl, pr.2⟩ rfl rfl hl.1 rfl (lv_room (Nat.le_of_ble_eq_true rfl)) dL_law_1800 ⟨(by decide +kernel), (by decide +kernel)⟩) (fun r u H locs hw hP hD hS => ?_)
      rcases hw with ⟨c800464, rfl, rfl⟩ | ⟨c800465, c800466, rfl, rfl⟩ | ⟨c800467, c800468, c800469, rfl, rfl⟩ | ⟨c800470, c800471, c800472, c800473, rfl, rfl⟩ | ⟨c800474, c800475, c800476, c800477, c800478, rfl, rfl⟩ | ⟨c800479, c800480, c800481, c800482, c800483, rfl, rfl⟩ | ⟨c800484, c800485, c800486, c800487, c800488, rfl, rfl⟩ | ⟨c800489, c800490, c800491, c800492, c800493, rfl, rfl⟩ | ⟨c800494, c800495, c800496, c800497, c800498, rfl, rfl⟩ | ⟨c800499, c800500, c800501, c800502, c800503, rfl, rfl⟩ | ⟨c800504, c800505, c800506, c800507, c800508, rfl, rfl⟩ | ⟨c800509, c800510, c800511, c800512, c800513, rfl, rfl⟩
      · exact absurd (by decide +kernel) c800464
      · exact absurd c800466 (by decide +kernel)
      · exact absurd c800469 (by decide +kernel)
      · exact absurd c800473 (by decide +kernel)
      · exact absurd c800478 (by decide +kernel)
      · exact absurd c800483 (by decide +kernel)
      · have hP : va_P D vwCl [(n5000, .inl (cy 2, 1, .inr (.inl (vp_updL (fun _ => 0) 0 (-1))))), (n3000, .inl (cy 1, 1300, .inl (fun _ => 0))), (n3900, .inr (12, [.ref n3000, .ref n3001, .ref n3002, .ref n3003, .int 0, .ref n3004, .int 0, .int 0, .int 0, .int 0, .int 0, .int 0, .int 0, .int 0, .int 0, .int (-1), .int 0, .ref n3005, .ref n3006, .int 0, .ref n3007, .ref n3008, .int 0, .int 0, .int 0, .int 0, .int 0, .int 0, .int 0, .ref n3009, .ref n3010, .int 0, .int 0, .ref n3011, .ref n3012, .int 0, .int 1, .ref n3013, .ref n3014, .ref n3015, .int 0, .ref n3016, .ref n3017, .ref n3018]))] H := hP
        have hD : va_D A [(n5000, .inl (cy 2, 1, .inr (.inl (vp_updL (fun _ => 0) 0 (-1))))), (n3000, .inl (cy 1, 1300, .inl (fun _ => 0))), (n3900, .inr (12, [.ref n3000, .ref n3001, .ref n3002, .ref n3003, .int 0, .ref n3004, .int 0, .int 0, .int 0, .int 0, .int 0, .int 0, .int 0, .int 0, .int 0, .int (-1), .int 0, .ref n3005, .ref n3006, .int 0, .ref n3007, .ref n3008, .int 0, .int 0, .int 0, .int 0, .int 0, .int 0, .int 0, .ref n3009, .ref n3010, .int 0, .int 0, .ref n3011, .ref n3012, .int 0, .int 1, .ref n3013, .ref n3014, .ref n3015, .int 0, .ref n3016, .ref n3017, .ref n3018]))] := hD
        refine lv_istore (lv' := [(6, .int (-1)), (5, .int 0), (4, .int 0), (3, .ref n5000), (2, .ref n3900), (1, .ref n1900), (0, .ref b)]) hx hb dL_law_1803 hl (by decide +kernel) rfl (fun ls hl => ?_)
        refine lv_aload_n hx hb dL_law_1805 rfl (lv_at hl 4 rfl) ?_
        refine call_i (av := [.ref n3900]) F hP hD hS [(n3900, .inr (12, [.ref n3000, .ref n3001, .ref n3002, .ref n3003, .int 0, .ref n3004, .int 0, .int 0, .int 0, .int 0, .int 0, .int 0, .int 0, .int 0, .int 0, .int (-1), .int 0, .ref n3005, .ref n3006, .int 0, .ref n3007, .ref n3008, .int 0, .int 0, .int 0, .int 0, .int 0, .int 0, .int 0, .ref n3009, .ref n3010, .int 0, .int 0, .ref n3011, .ref n3012, .int 0, .int 1, .ref n3013, .ref n3014, .ref n3015, .int 0, .ref n3016, .ref n3017, .ref n3018]))] [(n5000, .inl (cy 2, 1, .inr (.inl (vp_updL (fun _ => 0) 0 (-1))))), (n3000, .inl (cy 1, 1300, .inl (fun _ => 0)))] [2] [0, 1] rfl rfl (by decide +kernel) (fun pr => va_runV (As := []) (rest := []) ⟨hx, hb, hml, hown, hts⟩ (k338_X12_thrown l D cy H.size n3900 n3000 n3001 n3002 n3003 n3004 n3005 n3006 n3007 n3008 n3009 n3010 n3011 n3012 n3013 n3014 n3015 n3016 n3017 n3018) (cwV 0 hts gw_X12_thrown rfl rfl rfl (by decide +kernel) ⟨(by decide +kernel), (by decide +kernel)⟩) ⟨pr.1, va_recv hK hP (ci := 12) (q0 := 2) rfl rfl, pr.2⟩ rfl rfl hl.1 rfl (lv_room (Nat.le_of_ble_eq_true rfl)) dL_law_1806 ⟨(by decide +kernel), (by decide +kernel)⟩) (fun r u H locs hw hP hD hS => ?_)
        rcases hw with ⟨rfl, rfl⟩
        have hP : va_P D vwCl [(n5000, .inl (cy 2, 1, .inr (.inl (vp_updL (fun _ => 0) 0 (-1))))), (n3000, .inl (cy 1, 1300, .inl (fun _ => 0))), (n3900, .inr (12, [.ref n3000, .ref n3001, .ref n3002, .ref n3003, .int 0, .ref n3004, .int 0, .int 0, .int 0, .int 0, .int 0, .int 0, .int 0, .int 0, .int 0, .int (-1), .int 0, .ref n3005, .ref n3006, .int 0, .ref n3007, .ref n3008, .int 0, .int 0, .int 0, .int 0, .int 0, .int 0, .int 0, .ref n3009, .ref n3010, .int 0, .int 0, .ref n3011, .ref n3012, .int 0, .int 1, .ref n3013, .ref n3014, .ref n3015, .int 0, .ref n3016, .ref n3017, .ref n3018]))] H := hP
        have hD : va_D A [(n5000, .inl (cy 2, 1, .inr (.inl (vp_updL (fun _ => 0) 0 (-1))))), (n3000, .inl (cy 1, 1300, .inl (fun _ => 0))), (n3900, .inr (12, [.ref n3000, .ref n3001, .ref n3002, .ref n3003, .int 0, .ref n3004, .int 0, .int 0, .int 0, .int 0, .int 0, .int 0, .int 0, .int 0, .int 0, .int (-1), .int 0, .ref n3005, .ref n3006, .int 0, .ref n3007, .ref n3008, .int 0, .int 0, .int 0, .int 0, .int 0, .int 0, .int 0, .ref n3009, .ref n3010, .int 0, .int 0, .ref n3011, .ref n3012, .int 0, .int 1, .ref n3013, .ref n3014, .ref n3015, .int 0, .ref n3016, .ref n3017, .ref n3018]))] := hD
        refine lv_iload hx hb dL_law_1809 (lv_at hl 1 rfl) ?_
        refine lv_icmp_eq (tgt := 1816) hx hb dL_law_1811 (by decide +kernel) (fun _ => ?_) (fun h => absurd (by decide +kernel) h)
        refine lv_iload hx hb dL_law_1816 (lv_at hl 1 rfl) ?_
        refine lv_if_ne (tgt := 1833) hx hb dL_law_1818 (by decide +kernel) (fun h => absurd (by decide +kernel) h) (fun _ => ?_)
        refine lv_aload_n hx hb dL_law_1821 rfl (lv_at hl 3 rfl) ?_
        refine lv_iconst (v := 0) hx hb dL_law_1822 (by decide +kernel) ?_
        refine va_lald hx hb hK hP 0 2 rfl rfl (i := 0) (vin (by decide +kernel)) dL_law_1823 ?_
        refine top_l (v := (-1)) (by decide +kernel) ?_
        refine lv_iload hx hb dL_law_1824 (lv_at hl 0 rfl) ?_
        refine lv_i2l (v := (-1)) hx hb dL_law_1826 (by decide +kernel) ?_
        refine W.lcmp hx hb dL_law_1827 ?_
        refine top_i (v := 0) (by decide +kernel) ?_
        refine lv_if_eq (tgt := 1833) hx hb dL_law_1828 (by decide +kernel) (fun _ => ?_) (fun h => absurd (by decide +kernel) h)
        refine lv_goto (tgt := 2458) hx hb dL_law_1833 (by decide +kernel) ?_
        refine lv_iinc (v := 6) (lv' := [(4, .int 6), (6, .int (-1)), (5, .int 0), (3, .ref n5000), (2, .ref n3900), (1, .ref n1900), (0, .ref b)]) hx hb dL_law_2458 hl (k := 2) rfl (by decide) (by decide +kernel) rfl (fun ls hl => ?_)
        refine lv_goto (tgt := 23) hx hb dL_law_2461 (by decide +kernel) ?_
        refine lv_iload hx hb dL_law_23 (lv_at hl 0 rfl) ?_
        refine lv_aload_n hx hb dL_law_25 rfl (lv_at hl 6 rfl) ?_
        refine va_slen hx hb hX hbl hbA hS dL_law_26 ?_
        refine top_i (v := 6) rfl ?_
        refine lv_bipush (v := 6) hx hb dL_law_27 (by decide +kernel) ?_
        refine lv_isub hx hb dL_law_29 ?_
        refine top_i (v := 0) (by decide +kernel) ?_
        refine lv_icmp_gt (tgt := 2464) hx hb dL_law_30 (by decide +kernel) (fun _ => ?_) (fun h => absurd (by decide +kernel) h)
        refine lv_iconst (v := 1) hx hb dL_law_2464 (by decide +kernel) ?_
        refine va_forget (fun q hq => hAq _ (hS.2.2 q hq)) ?_
        refine W.widen (k := 600002) (n := 7302232) (by decide +kernel) (by decide +kernel) ?_
        exact lw_ret hx hb hr hlk dL_law_2465
      · exact absurd c800493 (by decide +kernel)
      · exact absurd c800498 (by decide +kernel)
      · exact absurd c800503 (by decide +kernel)
      · exact absurd c800508 (by decide +kernel)
      · exact absurd c800513 (by decide +kernel)
    · obtain ⟨jj, hj, hjj⟩ := split_b (lo_nlt c800041) (up_lt c800042) 1 (by decide +kernel)
      obtain rfl : jj = 0 := by omega
      have c800518 : z1 = 0 := hjj.trans (by decide +kernel)
      clear hj hjj
      subst c800518
      subst c800047
      have hP : va_P D vwCl [(n3900, .inr (12, [.ref n3000, .ref n3001, .ref n3002, .ref n3003, .int 0, .ref n3004, .int 0, .int 0, .int 0, .int 0, .int 0, .int 0, .int 0, .int 0, .int 0, .int (-1), .int 0, .ref n3005, .ref n3006, .int 0, .ref n3007, .ref n3008, .int 0, .int 0, .int 0, .int 0, .int 0, .int 0, .int 0, .ref n3009, .ref n3010, .int 0, .int 0, .ref n3011, .ref n3012, .int 0, .int 0, .ref n3013, .ref n3014, .ref n3015, .int 0, .ref n3016, .ref n3017, .ref n3018])), (n3000, .inl (cy 1, 1300, .inl (fun _ => 0))), (n5000, .inl (cy 2, 1, .inr (.inl (vp_updL (fun _ => 0) 0 (-1)))))] H := hP
      have hD : va_D A [(n3900, .inr (12, [.ref n3000, .ref n3001, .ref n3002, .ref n3003, .int 0, .ref n3004, .int 0, .int 0, .int 0, .int 0, .int 0, .int 0, .int 0, .int 0, .int 0, .int (-1), .int 0, .ref n3005, .ref n3006, .int 0, .ref n3007, .ref n3008, .int 0, .int 0, .int 0, .int 0, .int 0, .int 0, .int 0, .ref n3009, .ref n3010, .int 0, .int 0, .ref n3011, .ref n3012, .int 0, .int 0, .ref n3013, .ref n3014, .ref n3015, .int 0, .ref n3016, .ref n3017, .ref n3018])), (n3000, .inl (cy 1, 1300, .inl (fun _ => 0))), (n5000, .inl (cy 2, 1, .inr (.inl (vp_updL (fun _ => 0) 0 (-1)))))] := hD
      refine lv_istore (lv' := [(5, .int 0), (4, .int 0), (3, .ref n5000), (2, .ref n3900), (1, .ref n1900), (0, .ref b)]) hx hb dL_law_1771 hl (by decide +kernel) rfl (fun ls hl => ?_)
      refine lv_aload_n hx hb dL_law_1773 rfl (lv_at hl 3 rfl) ?_
      refine lv_aload_n hx hb dL_law_1774 rfl (lv_at hl 5 rfl) ?_
      refine lv_iload hx hb dL_law_1775 (lv_at hl 1 rfl) ?_
      refine lv_iconst (v := 1) hx hb dL_law_1777 (by decide +kernel) ?_
      refine lv_iadd hx hb dL_law_1778 ?_
      refine top_i (v := 1) (by decide +kernel) ?_
      refine va_sld hx hb hX hbl hbA hS (i := 1) (vin (by decide +kernel)) dL_law_1779 ?_
      refine top_i (v := 0) ez1 ?_
      refine lv_aload_n hx hb dL_law_1780 rfl (lv_at hl 5 rfl) ?_
      refine lv_iload hx hb dL_law_1781 (lv_at hl 1 rfl) ?_
      refine lv_iconst (v := 2) hx hb dL_law_1783 (by decide +kernel) ?_
      refine lv_iadd hx hb dL_law_1784 ?_
      refine top_i (v := 2) (by decide +kernel) ?_
      refine va_sld hx hb hX hbl hbA hS (i := 2) (vin (by decide +kernel)) dL_law_1785 ?_
      refine top_i (v := 0) ez2 ?_
      refine lv_if_eq (tgt := 1793) hx hb dL_law_1786 (by decide +kernel) (fun _ => ?_) (fun h => absurd (by decide +kernel) h)
      refine lv_iconst (v := 0) hx hb dL_law_1793 (by decide +kernel) ?_
      refine lv_aload_n hx hb dL_law_1794 rfl (lv_at hl 5 rfl) ?_
      refine lv_iload hx hb dL_law_1795 (lv_at hl 1 rfl) ?_
      refine lv_iconst (v := 3) hx hb dL_law_1797 (by decide +kernel) ?_
      refine lv_iadd hx hb dL_law_1798 ?_
      refine top_i (v := 3) (by decide +kernel) ?_
      refine va_sld hx hb hX hbl hbA hS (i := 3) (vin (by decide +kernel)) dL_law_1799 ?_
      refine top_i (v := 13) ez3 ?_
      refine call_i (av := [.ref n3900, .int 0, .int 0, .int 13]) F hP hD hS [(n3900, .inr (12, [.ref n3000, .ref n3001, .ref n3002, .ref n3003, .int 0, .ref n3004, .int 0, .int 0, .int 0, .int 0, .int 0, .int 0, .int 0, .int 0, .int 0, .int (-1), .int 0, .ref n3005, .ref n3006, .int 0, .ref n3007, .ref n3008, .int 0, .int 0, .int 0, .int 0, .int 0, .int 0, .int 0, .ref n3009, .ref n3010, .int 0, .int 0, .ref n3011, .ref n3012, .int 0, .int 0, .ref n3013, .ref n3014, .ref n3015, .int 0, .ref n3016, .ref n3017, .ref n3018])), (n3000, .inl (cy 1, 1300, .inl (fun _ => 0)))] [(n5000, .inl (cy 2, 1, .inr (.inl (vp_updL (fun _ => 0) 0 (-1)))))] [0, 1] [2] rfl rfl (by decide +kernel) (fun pr => va_runV (As := [.int 0, .int 0, .int 13]) (rest := []) ⟨hx, hb, hml, hown, hts⟩ (k242_X12_bestRow l D cy H.size n3900 0 0 13 n3000 n3001 n3002 n3003 n3004 n3005 n3006 n3007 n3008 n3009 n3010 n3011 n3012 n3013 n3014 n3015 n3016 n3017 n3018) (cwV 3 hts gw_X12_bestRow rfl rfl rfl (by decide +kernel) ⟨(by decide +kernel), (by decide +kernel)⟩) ⟨pr.1, va_recv hK hP (ci := 12) (q0 := 0) rfl rfl, pr.2⟩ rfl rfl hl.1 rfl (lv_room (Nat.le_of_ble_eq_true rfl)) dL_law_1800 ⟨(by decide +kernel), (by decide +kernel)⟩) (fun r u H locs hw hP hD hS => ?_)
      rcases hw with ⟨c800520, rfl, rfl⟩ | ⟨c800521, c800522, rfl, rfl⟩ | ⟨c800523, c800524, c800525, rfl, rfl⟩ | ⟨c800526, c800527, c800528, c800529, rfl, rfl⟩ | ⟨c800530, c800531, c800532, c800533, c800534, rfl, rfl⟩ | ⟨c800535, c800536, c800537, c800538, c800539, rfl, rfl⟩ | ⟨c800540, c800541, c800542, c800543, c800544, rfl, rfl⟩ | ⟨c800545, c800546, c800547, c800548, c800549, rfl, rfl⟩ | ⟨c800550, c800551, c800552, c800553, c800554, rfl, rfl⟩ | ⟨c800555, c800556, c800557, c800558, c800559, rfl, rfl⟩ | ⟨c800560, c800561, c800562, c800563, c800564, rfl, rfl⟩ | ⟨c800565, c800566, c800567, c800568, c800569, rfl, rfl⟩
      · exact absurd (by decide +kernel) c800520
      · exact absurd c800522 (by decide +kernel)
      · exact absurd c800525 (by decide +kernel)
      · exact absurd c800529 (by decide +kernel)
      · exact absurd c800534 (by decide +kernel)
      · exact absurd c800539 (by decide +kernel)
      · exact absurd c800544 (by decide +kernel)
      · have hP : va_P D vwCl [(n5000, .inl (cy 2, 1, .inr (.inl (vp_updL (fun _ => 0) 0 (-1))))), (n3000, .inl (cy 1, 1300, .inl (fun _ => 0))), (n3900, .inr (12, [.ref n3000, .ref n3001, .ref n3002, .ref n3003, .int 0, .ref n3004, .int 0, .int 0, .int 0, .int 0, .int 0, .int 0, .int 0, .int 0, .int 0, .int (-1), .int 0, .ref n3005, .ref n3006, .int 0, .ref n3007, .ref n3008, .int 0, .int 0, .int 0, .int 0, .int 0, .int 0, .int 0, .ref n3009, .ref n3010, .int 0, .int 0, .ref n3011, .ref n3012, .int 0, .int 1, .ref n3013, .ref n3014, .ref n3015, .int 0, .ref n3016, .ref n3017, .ref n3018]))] H := hP
        have hD : va_D A [(n5000, .inl (cy 2, 1, .inr (.inl (vp_updL (fun _ => 0) 0 (-1))))), (n3000, .inl (cy 1, 1300, .inl (fun _ => 0))), (n3900, .inr (12, [.ref n3000, .ref n3001, .ref n3002, .ref n3003, .int 0, .ref n3004, .int 0, .int 0, .int 0, .int 0, .int 0, .int 0, .int 0, .int 0, .int 0, .int (-1), .int 0, .ref n3005, .ref n3006, .int 0, .ref n3007, .ref n3008, .int 0, .int 0, .int 0, .int 0, .int 0, .int 0, .int 0, .ref n3009, .ref n3010, .int 0, .int 0, .ref n3011, .ref n3012, .int 0, .int 1, .ref n3013, .ref n3014, .ref n3015, .int 0, .ref n3016, .ref n3017, .ref n3018]))] := hD
        refine lv_istore (lv' := [(6, .int (-1)), (5, .int 0), (4, .int 0), (3, .ref n5000), (2, .ref n3900), (1, .ref n1900), (0, .ref b)]) hx hb dL_law_1803 hl (by decide +kernel) rfl (fun ls hl => ?_)
        refine lv_aload_n hx hb dL_law_1805 rfl (lv_at hl 4 rfl) ?_
        refine call_i (av := [.ref n3900]) F hP hD hS [(n3900, .inr (12, [.ref n3000, .ref n3001, .ref n3002, .ref n3003, .int 0, .ref n3004, .int 0, .int 0, .int 0, .int 0, .int 0, .int 0, .int 0, .int 0, .int 0, .int (-1), .int 0, .ref n3005, .ref n3006, .int 0, .ref n3007, .ref n3008, .int 0, .int 0, .int 0, .int 0, .int 0, .int 0, .int 0, .ref n3009, .ref n3010, .int 0, .int 0, .ref n3011, .ref n3012, .int 0, .int 1, .ref n3013, .ref n3014, .ref n3015, .int 0, .ref n3016, .ref n3017, .ref n3018]))] [(n5000, .inl (cy 2, 1, .inr (.inl (vp_updL (fun _ => 0) 0 (-1))))), (n3000, .inl (cy 1, 1300, .inl (fun _ => 0)))] [2] [0, 1] rfl rfl (by decide +kernel) (fun pr => va_runV (As := []) (rest := []) ⟨hx, hb, hml, hown, hts⟩ (k338_X12_thrown l D cy H.size n3900 n3000 n3001 n3002 n3003 n3004 n3005 n3006 n3007 n3008 n3009 n3010 n3011 n3012 n3013 n3014 n3015 n3016 n3017 n3018) (cwV 0 hts gw_X12_thrown rfl rfl rfl (by decide +kernel) ⟨(by decide +kernel), (by decide +kernel)⟩) ⟨pr.1, va_recv hK hP (ci := 12) (q0 := 2) rfl rfl, pr.2⟩ rfl rfl hl.1 rfl (lv_room (Nat.le_of_ble_eq_true rfl)) dL_law_1806 ⟨(by decide +kernel), (by decide +kernel)⟩) (fun r u H locs hw hP hD hS => ?_)
        rcases hw with ⟨rfl, rfl⟩
        have hP : va_P D vwCl [(n5000, .inl (cy 2, 1, .inr (.inl (vp_updL (fun _ => 0) 0 (-1))))), (n3000, .inl (cy 1, 1300, .inl (fun _ => 0))), (n3900, .inr (12, [.ref n3000, .ref n3001, .ref n3002, .ref n3003, .int 0, .ref n3004, .int 0, .int 0, .int 0, .int 0, .int 0, .int 0, .int 0, .int 0, .int 0, .int (-1), .int 0, .ref n3005, .ref n3006, .int 0, .ref n3007, .ref n3008, .int 0, .int 0, .int 0, .int 0, .int 0, .int 0, .int 0, .ref n3009, .ref n3010, .int 0, .int 0, .ref n3011, .ref n3012, .int 0, .int 1, .ref n3013, .ref n3014, .ref n3015, .int 0, .ref n3016, .ref n3017, .ref n3018]))] H := hP
        have hD : va_D A [(n5000, .inl (cy 2, 1, .inr (.inl (vp_updL (fun _ => 0) 0 (-1))))), (n3000, .inl (cy 1, 1300, .inl (fun _ => 0))), (n3900, .inr (12, [.ref n3000, .ref n3001, .ref n3002, .ref n3003, .int 0, .ref n3004, .int 0, .int 0, .int 0, .int 0, .int 0, .int 0, .int 0, .int 0, .int 0, .int (-1), .int 0, .ref n3005, .ref n3006, .int 0, .ref n3007, .ref n3008, .int 0, .int 0, .int 0, .int 0, .int 0, .int 0, .int 0, .ref n3009, .ref n3010, .int 0, .int 0, .ref n3011, .ref n3012, .int 0, .int 1, .ref n3013, .ref n3014, .ref n3015, .int 0, .ref n3016, .ref n3017, .ref n3018]))] := hD
        refine lv_iload hx hb dL_law_1809 (lv_at hl 1 rfl) ?_
        refine lv_icmp_eq (tgt := 1816) hx hb dL_law_1811 (by decide +kernel) (fun _ => ?_) (fun h => absurd (by decide +kernel) h)
        refine lv_iload hx hb dL_law_1816 (lv_at hl 1 rfl) ?_
        refine lv_if_ne (tgt := 1833) hx hb dL_law_1818 (by decide +kernel) (fun h => absurd (by decide +kernel) h) (fun _ => ?_)
        refine lv_aload_n hx hb dL_law_1821 rfl (lv_at hl 3 rfl) ?_
        refine lv_iconst (v := 0) hx hb dL_law_1822 (by decide +kernel) ?_
        refine va_lald hx hb hK hP 0 2 rfl rfl (i := 0) (vin (by decide +kernel)) dL_law_1823 ?_
        refine top_l (v := (-1)) (by decide +kernel) ?_
        refine lv_iload hx hb dL_law_1824 (lv_at hl 0 rfl) ?_
        refine lv_i2l (v := (-1)) hx hb dL_law_1826 (by decide +kernel) ?_
        refine W.lcmp hx hb dL_law_1827 ?_
        refine top_i (v := 0) (by decide +kernel) ?_
        refine lv_if_eq (tgt := 1833) hx hb dL_law_1828 (by decide +kernel) (fun _ => ?_) (fun h => absurd (by decide +kernel) h)
        refine lv_goto (tgt := 2458) hx hb dL_law_1833 (by decide +kernel) ?_
        refine lv_iinc (v := 6) (lv' := [(4, .int 6), (6, .int (-1)), (5, .int 0), (3, .ref n5000), (2, .ref n3900), (1, .ref n1900), (0, .ref b)]) hx hb dL_law_2458 hl (k := 2) rfl (by decide) (by decide +kernel) rfl (fun ls hl => ?_)
        refine lv_goto (tgt := 23) hx hb dL_law_2461 (by decide +kernel) ?_
        refine lv_iload hx hb dL_law_23 (lv_at hl 0 rfl) ?_
        refine lv_aload_n hx hb dL_law_25 rfl (lv_at hl 6 rfl) ?_
        refine va_slen hx hb hX hbl hbA hS dL_law_26 ?_
        refine top_i (v := 6) rfl ?_
        refine lv_bipush (v := 6) hx hb dL_law_27 (by decide +kernel) ?_
        refine lv_isub hx hb dL_law_29 ?_
        refine top_i (v := 0) (by decide +kernel) ?_
        refine lv_icmp_gt (tgt := 2464) hx hb dL_law_30 (by decide +kernel) (fun _ => ?_) (fun h => absurd (by decide +kernel) h)
        refine lv_iconst (v := 1) hx hb dL_law_2464 (by decide +kernel) ?_
        refine va_forget (fun q hq => hAq _ (hS.2.2 q hq)) ?_
        refine W.widen (k := 600002) (n := 7302232) (by decide +kernel) (by decide +kernel) ?_
        exact lw_ret hx hb hr hlk dL_law_2465
      · exact absurd c800554 (by decide +kernel)
      · exact absurd c800559 (by decide +kernel)
      · exact absurd c800564 (by decide +kernel)
      · exact absurd c800569 (by decide +kernel)
    · obtain ⟨jj, hj, hjj⟩ := split_b (lo_nlt c800048) (up_lt c800049) 1 (by decide +kernel)
      obtain rfl : jj = 0 := by omega
      have c800574 : z1 = 0 := hjj.trans (by decide +kernel)
      clear hj hjj
      subst c800574
      subst c800054
      have hP : va_P D vwCl [(n3900, .inr (12, [.ref n3000, .ref n3001, .ref n3002, .ref n3003, .int 0, .ref n3004, .int 0, .int 0, .int 0, .int 0, .int 0, .int 0, .int 0, .int 0, .int 0, .int (-1), .int 0, .ref n3005, .ref n3006, .int 0, .ref n3007, .ref n3008, .int 0, .int 0, .int 0, .int 0, .int 0, .int 0, .int 0, .ref n3009, .ref n3010, .int 0, .int 0, .ref n3011, .ref n3012, .int 0, .int 0, .ref n3013, .ref n3014, .ref n3015, .int 0, .ref n3016, .ref n3017, .ref n3018])), (n3000, .inl (cy 1, 1300, .inl (fun _ => 0))), (n5000, .inl (cy 2, 1, .inr (.inl (vp_updL (fun _ => 0) 0 (-1)))))] H := hP
      have hD : va_D A [(n3900, .inr (12, [.ref n3000, .ref n3001, .ref n3002, .ref n3003, .int 0, .ref n3004, .int 0, .int 0, .int 0, .int 0, .int 0, .int 0, .int 0, .int 0, .int 0, .int (-1), .int 0, .ref n3005, .ref n3006, .int 0, .ref n3007, .ref n3008, .int 0, .int 0, .int 0, .int 0, .int 0, .int 0, .int 0, .ref n3009, .ref n3010, .int 0, .int 0, .ref n3011, .ref n3012, .int 0, .int 0, .ref n3013, .ref n3014, .ref n3015, .int 0, .ref n3016, .ref n3017, .ref n3018])), (n3000, .inl (cy 1, 1300, .inl (fun _ => 0))), (n5000, .inl (cy 2, 1, .inr (.inl (vp_updL (fun _ => 0) 0 (-1)))))] := hD
      refine lv_istore (lv' := [(5, .int 0), (4, .int 0), (3, .ref n5000), (2, .ref n3900), (1, .ref n1900), (0, .ref b)]) hx hb dL_law_1771 hl (by decide +kernel) rfl (fun ls hl => ?_)
      refine lv_aload_n hx hb dL_law_1773 rfl (lv_at hl 3 rfl) ?_
      refine lv_aload_n hx hb dL_law_1774 rfl (lv_at hl 5 rfl) ?_
      refine lv_iload hx hb dL_law_1775 (lv_at hl 1 rfl) ?_
      refine lv_iconst (v := 1) hx hb dL_law_1777 (by decide +kernel) ?_
      refine lv_iadd hx hb dL_law_1778 ?_
      refine top_i (v := 1) (by decide +kernel) ?_
      refine va_sld hx hb hX hbl hbA hS (i := 1) (vin (by decide +kernel)) dL_law_1779 ?_
      refine top_i (v := 0) ez1 ?_
      refine lv_aload_n hx hb dL_law_1780 rfl (lv_at hl 5 rfl) ?_
      refine lv_iload hx hb dL_law_1781 (lv_at hl 1 rfl) ?_
      refine lv_iconst (v := 2) hx hb dL_law_1783 (by decide +kernel) ?_
      refine lv_iadd hx hb dL_law_1784 ?_
      refine top_i (v := 2) (by decide +kernel) ?_
      refine va_sld hx hb hX hbl hbA hS (i := 2) (vin (by decide +kernel)) dL_law_1785 ?_
      refine top_i (v := 0) ez2 ?_
      refine lv_if_eq (tgt := 1793) hx hb dL_law_1786 (by decide +kernel) (fun _ => ?_) (fun h => absurd (by decide +kernel) h)
      refine lv_iconst (v := 0) hx hb dL_law_1793 (by decide +kernel) ?_
      refine lv_aload_n hx hb dL_law_1794 rfl (lv_at hl 5 rfl) ?_
      refine lv_iload hx hb dL_law_1795 (lv_at hl 1 rfl) ?_
      refine lv_iconst (v := 3) hx hb dL_law_1797 (by decide +kernel) ?_
      refine lv_iadd hx hb dL_law_1798 ?_
      refine top_i (v := 3) (by decide +kernel) ?_
      refine va_sld hx hb hX hbl hbA hS (i := 3) (vin (by decide +kernel)) dL_law_1799 ?_
      refine top_i (v := 14) ez3 ?_
      refine call_i (av := [.ref n3900, .int 0, .int 0, .int 14]) F hP hD hS [(n3900, .inr (12, [.ref n3000, .ref n3001, .ref n3002, .ref n3003, .int 0, .ref n3004, .int 0, .int 0, .int 0, .int 0, .int 0, .int 0, .int 0, .int 0, .int 0, .int (-1), .int 0, .ref n3005, .ref n3006, .int 0, .ref n3007, .ref n3008, .int 0, .int 0, .int 0, .int 0, .int 0, .int 0, .int 0, .ref n3009, .ref n3010, .int 0, .int 0, .ref n3011, .ref n3012, .int 0, .int 0, .ref n3013, .ref n3014, .ref n3015, .int 0, .ref n3016, .ref n3017, .ref n3018])), (n3000, .inl (cy 1, 1300, .inl (fun _ => 0)))] [(n5000, .inl (cy 2, 1, .inr (.inl (vp_updL (fun _ => 0) 0 (-1)))))] [0, 1] [2] rfl rfl (by decide +kernel) (fun pr => va_runV (As := [.int 0, .int 0, .int 14]) (rest := []) ⟨hx, hb, hml, hown, hts⟩ (k242_X12_bestRow l D cy H.size n3900 0 0 14 n3000 n3001 n3002 n3003 n3004 n3005 n3006 n3007 n3008 n3009 n3010 n3011 n3012 n3013 n3014 n3015 n3016 n3017 n3018) (cwV 3 hts gw_X12_bestRow rfl rfl rfl (by decide +kernel) ⟨(by decide +kernel), (by decide +kernel)⟩) ⟨pr.1, va_recv hK hP (ci := 12) (q0 := 0) rfl rfl, pr.2⟩ rfl rfl hl.1 rfl (lv_room (Nat.le_of_ble_eq_true rfl)) dL_law_1800 ⟨(by decide +kernel), (by decide +kernel)⟩) (fun r u H locs hw hP hD hS => ?_)
      rcases hw with ⟨c800576, rfl, rfl⟩ | ⟨c800577, c800578, rfl, rfl⟩ | ⟨c800579, c800580, c800581, rfl, rfl⟩ | ⟨c800582, c800583, c800584, c800585, rfl, rfl⟩ | ⟨c800586, c800587, c800588, c800589, c800590, rfl, rfl⟩ | ⟨c800591, c800592, c800593, c800594, c800595, rfl, rfl⟩ | ⟨c800596, c800597, c800598, c800599, c800600, rfl, rfl⟩ | ⟨c800601, c800602, c800603, c800604, c800605, rfl, rfl⟩ | ⟨c800606, c800607, c800608, c800609, c800610, rfl, rfl⟩ | ⟨c800611, c800612, c800613, c800614, c800615, rfl, rfl⟩ | ⟨c800616, c800617, c800618, c800619, c800620, rfl, rfl⟩ | ⟨c800621, c800622, c800623, c800624, c800625, rfl, rfl⟩
      · exact absurd (by decide +kernel) c800576
      · exact absurd c800578 (by decide +kernel)
      · exact absurd c800581 (by decide +kernel)
      · exact absurd c800585 (by decide +kernel)
      · exact absurd c800590 (by decide +kernel)
      · exact absurd c800595 (by decide +kernel)
      · exact absurd c800600 (by decide +kernel)
      · exact absurd c800605 (by decide +kernel)
      · have hP : va_P D vwCl [(n5000, .inl (cy 2, 1, .inr (.inl (vp_updL (fun _ => 0) 0 (-1))))), (n3000, .inl (cy 1, 1300, .inl (fun _ => 0))), (n3900, .inr (12, [.ref n3000, .ref n3001, .ref n3002, .ref n3003, .int 0, .ref n3004, .int 0, .int 0, .int 0, .int 0, .int 0, .int 0, .int 0, .int 0, .int 0, .int (-1), .int 0, .ref n3005, .ref n3006, .int 0, .ref n3007, .ref n3008, .int 0, .int 0, .int 0, .int 0, .int 0, .int 0, .int 0, .ref n3009, .ref n3010, .int 0, .int 0, .ref n3011, .ref n3012, .int 0, .int 1, .ref n3013, .ref n3014, .ref n3015, .int 0, .ref n3016, .ref n3017, .ref n3018]))] H := hP
        have hD : va_D A [(n5000, .inl (cy 2, 1, .inr (.inl (vp_updL (fun _ => 0) 0 (-1))))), (n3000, .inl (cy 1, 1300, .inl (fun _ => 0))), (n3900, .inr (12, [.ref n3000, .ref n3001, .ref n3002, .ref n3003, .int 0, .ref n3004, .int 0, .int 0, .int 0, .int 0, .int 0, .int 0, .int 0, .int 0, .int 0, .int (-1), .int 0, .ref n3005, .ref n3006, .int 0, .ref n3007, .ref n3008, .int 0, .int 0, .int 0, .int 0, .int 0, .int 0, .int 0, .ref n3009, .ref n3010, .int 0, .int 0, .ref n3011, .ref n3012, .int 0, .int 1, .ref n3013, .ref n3014, .ref n3015, .int 0, .ref n3016, .ref n3017, .ref n3018]))] := hD
        refine lv_istore (lv' := [(6, .int (-1)), (5, .int 0), (4, .int 0), (3, .ref n5000), (2, .ref n3900), (1, .ref n1900), (0, .ref b)]) hx hb dL_law_1803 hl (by decide +kernel) rfl (fun ls hl => ?_)
        refine lv_aload_n hx hb dL_law_1805 rfl (lv_at hl 4 rfl) ?_
        refine call_i (av := [.ref n3900]) F hP hD hS [(n3900, .inr (12, [.ref n3000, .ref n3001, .ref n3002, .ref n3003, .int 0, .ref n3004, .int 0, .int 0, .int 0, .int 0, .int 0, .int 0, .int 0, .int 0, .int 0, .int (-1), .int 0, .ref n3005, .ref n3006, .int 0, .ref n3007, .ref n3008, .int 0, .int 0, .int 0, .int 0, .int 0, .int 0, .int 0, .ref n3009, .ref n3010, .int 0, .int 0, .ref n3011, .ref n3012, .int 0, .int 1, .ref n3013, .ref n3014, .ref n3015, .int 0, .ref n3016, .ref n3017, .ref n3018]))] [(n5000, .inl (cy 2, 1, .inr (.inl (vp_updL (fun _ => 0) 0 (-1))))), (n3000, .inl (cy 1, 1300, .inl (fun _ => 0)))] [2] [0, 1] rfl rfl (by decide +kernel) (fun pr => va_runV (As := []) (rest := []) ⟨hx, hb, hml, hown, hts⟩ (k338_X12_thrown l D cy H.size n3900 n3000 n3001 n3002 n3003 n3004 n3005 n3006 n3007 n3008 n3009 n3010 n3011 n3012 n3013 n3014 n3015 n3016 n3017 n3018) (cwV 0 hts gw_X12_thrown rfl rfl rfl (by decide +kernel) ⟨(by decide +kernel), (by decide +kernel)⟩) ⟨pr.1, va_recv hK hP (ci := 12) (q0 := 2) rfl rfl, pr.2⟩ rfl rfl hl.1 rfl (lv_room (Nat.le_of_ble_eq_true rfl)) dL_law_1806 ⟨(by decide +kernel), (by decide +kernel)⟩) (fun r u H locs hw hP hD hS => ?_)
        rcases hw with ⟨rfl, rfl⟩
        have hP : va_P D vwCl [(n5000, .inl (cy 2, 1, .inr (.inl (vp_updL (fun _ => 0) 0 (-1))))), (n3000, .inl (cy 1, 1300, .inl (fun _ => 0))), (n3900, .inr (12, [.ref n3000, .ref n3001, .ref n3002, .ref n3003, .int 0, .ref n3004, .int 0, .int 0, .int 0, .int 0, .int 0, .int 0, .int 0, .int 0, .int 0, .int (-1), .int 0, .ref n3005, .ref n3006, .int 0, .ref n3007, .ref n3008, .int 0, .int 0, .int 0, .int 0, .int 0, .int 0, .int 0, .ref n3009, .ref n3010, .int 0, .int 0, .ref n3011, .ref n3012, .int 0, .int 1, .ref n3013, .ref n3014, .ref n3015, .int 0, .ref n3016, .ref n3017, .ref n3018]))] H := hP
        have hD : va_D A [(n5000, .inl (cy 2, 1, .inr (.inl (vp_updL (fun _ => 0) 0 (-1))))), (n3000, .inl (cy 1, 1300, .inl (fun _ => 0))), (n3900, .inr (12, [.ref n3000, .ref n3001, .ref n3002, .ref n3003, .int 0, .ref n3004, .int 0, .int 0, .int 0, .int 0, .int 0, .int 0, .int 0, .int 0, .int 0, .int (-1), .int 0, .ref n3005, .ref n3006, .int 0, .ref n3007, .ref n3008, .int 0, .int 0, .int 0, .int 0, .int 0, .int 0, .int 0, .ref n3009, .ref n3010, .int 0, .int 0, .ref n3011, .ref n3012, .int 0, .int 1, .ref n3013, .ref n3014, .ref n3015, .int 0, .ref n3016, .ref n3017, .ref n3018]))] := hD
        refine lv_iload hx hb dL_law_1809 (lv_at hl 1 rfl) ?_
        refine lv_icmp_eq (tgt := 1816) hx hb dL_law_1811 (by decide +kernel) (fun _ => ?_) (fun h => absurd (by decide +kernel) h)
        refine lv_iload hx hb dL_law_1816 (lv_at hl 1 rfl) ?_
        refine lv_if_ne (tgt := 1833) hx hb dL_law_1818 (by decide +kernel) (fun h => absurd (by decide +kernel) h) (fun _ => ?_)
        refine lv_aload_n hx hb dL_law_1821 rfl (lv_at hl 3 rfl) ?_
        refine lv_iconst (v := 0) hx hb dL_law_1822 (by decide +kernel) ?_
        refine va_lald hx hb hK hP 0 2 rfl rfl (i := 0) (vin (by decide +kernel)) dL_law_1823 ?_
        refine top_l (v := (-1)) (by decide +kernel) ?_
        refine lv_iload hx hb dL_law_1824 (lv_at hl 0 rfl) ?_
        refine lv_i2l (v := (-1)) hx hb dL_law_1826 (by decide +kernel) ?_
        refine W.lcmp hx hb dL_law_1827 ?_
        refine top_i (v := 0) (by decide +kernel) ?_
        refine lv_if_eq (tgt := 1833) hx hb dL_law_1828 (by decide +kernel) (fun _ => ?_) (fun h => absurd (by decide +kernel) h)
        refine lv_goto (tgt := 2458) hx hb dL_law_1833 (by decide +kernel) ?_
        refine lv_iinc (v := 6) (lv' := [(4, .int 6), (6, .int (-1)), (5, .int 0), (3, .ref n5000), (2, .ref n3900), (1, .ref n1900), (0, .ref b)]) hx hb dL_law_2458 hl (k := 2) rfl (by decide) (by decide +kernel) rfl (fun ls hl => ?_)
        refine lv_goto (tgt := 23) hx hb dL_law_2461 (by decide +kernel) ?_
        refine lv_iload hx hb dL_law_23 (lv_at hl 0 rfl) ?_
        refine lv_aload_n hx hb dL_law_25 rfl (lv_at hl 6 rfl) ?_
        refine va_slen hx hb hX hbl hbA hS dL_law_26 ?_
        refine top_i (v := 6) rfl ?_
        refine lv_bipush (v := 6) hx hb dL_law_27 (by decide +kernel) ?_
        refine lv_isub hx hb dL_law_29 ?_
        refine top_i (v := 0) (by decide +kernel) ?_
        refine lv_icmp_gt (tgt := 2464) hx hb dL_law_30 (by decide +kernel) (fun _ => ?_) (fun h => absurd (by decide +kernel) h)
        refine lv_iconst (v := 1) hx hb dL_law_2464 (by decide +kernel) ?_
        refine va_forget (fun q hq => hAq _ (hS.2.2 q hq)) ?_
        refine W.widen (k := 600002) (n := 7302232) (by decide +kernel) (by decide +kernel) ?_
        exact lw_ret hx hb hr hlk dL_law_2465
      · exact absurd c800615 (by decide +kernel)
      · exact absurd c800620 (by decide +kernel)
      · exact absurd c800625 (by decide +kernel)
    · obtain ⟨jj, hj, hjj⟩ := split_b (lo_nlt c800055) (up_lt c800056) 1 (by decide +kernel)
      obtain rfl : jj = 0 := by omega
      have c800630 : z1 = 0 := hjj.trans (by decide +kernel)
      clear hj hjj
      subst c800630
      subst c800061
      have hP : va_P D vwCl [(n3900, .inr (12, [.ref n3000, .ref n3001, .ref n3002, .ref n3003, .int 0, .ref n3004, .int 0, .int 0, .int 0, .int 0, .int 0, .int 0, .int 0, .int 0, .int 0, .int (-1), .int 0, .ref n3005, .ref n3006, .int 0, .ref n3007, .ref n3008, .int 0, .int 0, .int 0, .int 0, .int 0, .int 0, .int 0, .ref n3009, .ref n3010, .int 0, .int 0, .ref n3011, .ref n3012, .int 0, .int 0, .ref n3013, .ref n3014, .ref n3015, .int 0, .ref n3016, .ref n3017, .ref n3018])), (n3000, .inl (cy 1, 1300, .inl (fun _ => 0))), (n5000, .inl (cy 2, 1, .inr (.inl (vp_updL (fun _ => 0) 0 (-1)))))] H := hP
      have hD : va_D A [(n3900, .inr (12, [.ref n3000, .ref n3001, .ref n3002, .ref n3003, .int 0, .ref n3004, .int 0, .int 0, .int 0, .int 0, .int 0, .int 0, .int 0, .int 0, .int 0, .int (-1), .int 0, .ref n3005, .ref n3006, .int 0, .ref n3007, .ref n3008, .int 0, .int 0, .int 0, .int 0, .int 0, .int 0, .int 0, .ref n3009, .ref n3010, .int 0, .int 0, .ref n3011, .ref n3012, .int 0, .int 0, .ref n3013, .ref n3014, .ref n3015, .int 0, .ref n3016, .ref n3017, .ref n3018])), (n3000, .inl (cy 1, 1300, .inl (fun _ => 0))), (n5000, .inl (cy 2, 1, .inr (.inl (vp_updL (fun _ => 0) 0 (-1)))))] := hD
      refine lv_istore (lv' := [(5, .int 0), (4, .int 0), (3, .ref n5000), (2, .ref n3900), (1, .ref n1900), (0, .ref b)]) hx hb dL_law_1771 hl (by decide +kernel) rfl (fun ls hl => ?_)
      refine lv_aload_n hx hb dL_law_1773 rfl (lv_at hl 3 rfl) ?_
      refine lv_aload_n hx hb dL_law_1774 rfl (lv_at hl 5 rfl) ?_
      refine lv_iload hx hb dL_law_1775 (lv_at hl 1 rfl) ?_
      refine lv_iconst (v := 1) hx hb dL_law_1777 (by decide +kernel) ?_
      refine lv_iadd hx hb dL_law_1778 ?_
      refine top_i (v := 1) (by decide +kernel) ?_
      refine va_sld hx hb hX hbl hbA hS (i := 1) (vin (by decide +kernel)) dL_law_1779 ?_
      refine top_i (v := 0) ez1 ?_
      refine lv_aload_n hx hb dL_law_1780 rfl (lv_at hl 5 rfl) ?_
      refine lv_iload hx hb dL_law_1781 (lv_at hl 1 rfl) ?_
      refine lv_iconst (v := 2) hx hb dL_law_1783 (by decide +kernel) ?_
      refine lv_iadd hx hb dL_law_1784 ?_
      refine top_i (v := 2) (by decide +kernel) ?_
      refine va_sld hx hb hX hbl hbA hS (i := 2) (vin (by decide +kernel)) dL_law_1785 ?_
      refine top_i (v := 0) ez2 ?_
      refine lv_if_eq (tgt := 1793) hx hb dL_law_1786 (by decide +kernel) (fun _ => ?_) (fun h => absurd (by decide +kernel) h)
      refine lv_iconst (v := 0) hx hb dL_law_1793 (by decide +kernel) ?_
      refine lv_aload_n hx hb dL_law_1794 rfl (lv_at hl 5 rfl) ?_
      refine lv_iload hx hb dL_law_1795 (lv_at hl 1 rfl) ?_
      refine lv_iconst (v := 3) hx hb dL_law_1797 (by decide +kernel) ?_
      refine lv_iadd hx hb dL_law_1798 ?_
      refine top_i (v := 3) (by decide +kernel) ?_
      refine va_sld hx hb hX hbl hbA hS (i := 3) (vin (by decide +kernel)) dL_law_1799 ?_
      refine top_i (v := 15) ez3 ?_
      refine call_i (av := [.ref n3900, .int 0, .int 0, .int 15]) F hP hD hS [(n3900, .inr (12, [.ref n3000, .ref n3001, .ref n3002, .ref n3003, .int 0, .ref n3004, .int 0, .int 0, .int 0, .int 0, .int 0, .int 0, .int 0, .int 0, .int 0, .int (-1), .int 0, .ref n3005, .ref n3006, .int 0, .ref n3007, .ref n3008, .int 0, .int 0, .int 0, .int 0, .int 0, .int 0, .int 0, .ref n3009, .ref n3010, .int 0, .int 0, .ref n3011, .ref n3012, .int 0, .int 0, .ref n3013, .ref n3014, .ref n3015, .int 0, .ref n3016, .ref n3017, .ref n3018])), (n3000, .inl (cy 1, 1300, .inl (fun _ => 0)))] [(n5000, .inl (cy 2, 1, .inr (.inl (vp_updL (fun _ => 0) 0 (-1)))))] [0, 1] [2] rfl rfl (by decide +kernel) (fun pr => va_runV (As := [.int 0, .int 0, .int 15]) (rest := []) ⟨hx, hb, hml, hown, hts⟩ (k242_X12_bestRow l D cy H.size n3900 0 0 15 n3000 n3001 n3002 n3003 n3004 n3005 n3006 n3007 n3008 n3009 n3010 n3011 n3012 n3013 n3014 n3015 n3016 n3017 n3018) (cwV 3 hts gw_X12_bestRow rfl rfl rfl (by decide +kernel) ⟨(by decide +kernel), (by decide +kernel)⟩) ⟨pr.1, va_recv hK hP (ci := 12) (q0 := 0) rfl rfl, pr.2⟩ rfl rfl hl.1 rfl (lv_room (Nat.le_of_ble_eq_true rfl)) dL_law_1800 ⟨(by decide +kernel), (by decide +kernel)⟩) (fun r u H locs hw hP hD hS => ?_)
      rcases hw with ⟨c800632, rfl, rfl⟩ | ⟨c800633, c800634, rfl, rfl⟩ | ⟨c800635, c800636, c800637, rfl, rfl⟩ | ⟨c800638, c800639, c800640, c800641, rfl, rfl⟩ | ⟨c800642, c800643, c800644, c800645, c800646, rfl, rfl⟩ | ⟨c800647, c800648, c800649, c800650, c800651, rfl, rfl⟩ | ⟨c800652, c800653, c800654, c800655, c800656, rfl, rfl⟩ | ⟨c800657, c800658, c800659, c800660, c800661, rfl, rfl⟩ | ⟨c800662, c800663, c800664, c800665, c800666, rfl, rfl⟩ | ⟨c800667, c800668, c800669, c800670, c800671, rfl, rfl⟩ | ⟨c800672, c800673, c800674, c800675, c800676, rfl, rfl⟩ | ⟨c800677, c800678, c800679, c800680, c800681, rfl, rfl⟩
      · exact absurd (by decide +kernel) c800632
      · exact absurd c800634 (by decide +kernel)
      · exact absurd c800637 (by decide +kernel)
      · exact absurd c800641 (by decide +kernel)
      · exact absurd c800646 (by decide +kernel)
      · exact absurd c800651 (by decide +kernel)
      · exact absurd c800656 (by decide +kernel)
      · exact absurd c800661 (by decide +kernel)
      · exact absurd c800666 (by decide +kernel)
      · have hP : va_P D vwCl [(n5000, .inl (cy 2, 1, .inr (.inl (vp_updL (fun _ => 0) 0 (-1))))), (n3000, .inl (cy 1, 1300, .inl (fun _ => 0))), (n3900, .inr (12, [.ref n3000, .ref n3001, .ref n3002, .ref n3003, .int 0, .ref n3004, .int 0, .int 0, .int 0, .int 0, .int 0, .int 0, .int 0, .int 0, .int 0, .int (-1), .int 0, .ref n3005, .ref n3006, .int 0, .ref n3007, .ref n3008, .int 0, .int 0, .int 0, .int 0, .int 0, .int 0, .int 0, .ref n3009, .ref n3010, .int 0, .int 0, .ref n3011, .ref n3012, .int 0, .int 1, .ref n3013, .ref n3014, .ref n3015, .int 0, .ref n3016, .ref n3017, .ref n3018]))] H := hP
        have hD : va_D A [(n5000, .inl (cy 2, 1, .inr (.inl (vp_updL (fun _ => 0) 0 (-1))))), (n3000, .inl (cy 1, 1300, .inl (fun _ => 0))), (n3900, .inr (12, [.ref n3000, .ref n3001, .ref n3002, .ref n3003, .int 0, .ref n3004, .int 0, .int 0, .int 0, .int 0, .int 0, .int 0, .int 0, .int 0, .int 0, .int (-1), .int 0, .ref n3005, .ref n3006, .int 0, .ref n3007, .ref n3008, .int 0, .int 0, .int 0, .int 0, .int 0, .int 0, .int 0, .ref n3009, .ref n3010, .int 0, .int 0, .ref n3011, .ref n3012, .int 0, .int 1, .ref n3013, .ref n3014, .ref n3015, .int 0, .ref n3016, .ref n3017, .ref n3018]))] := hD
        refine lv_istore (lv' := [(6, .int (-1)), (5, .int 0), (4, .int 0), (3, .ref n5000), (2, .ref n3900), (1, .ref n1900), (0, .ref b)]) hx hb dL_law_1803 hl (by decide +kernel) rfl (fun ls hl => ?_)
        refine lv_aload_n hx hb dL_law_1805 rfl (lv_at hl 4 rfl) ?_
        refine call_i (av := [.ref n3900]) F hP hD hS [(n3900, .inr (12, [.ref n3000, .ref n3001, .ref n3002, .ref n3003, .int 0, .ref n3004, .int 0, .int 0, .int 0, .int 0, .int 0, .int 0, .int 0, .int 0, .int 0, .int (-1), .int 0, .ref n3005, .ref n3006, .int 0, .ref n3007, .ref n3008, .int 0, .int 0, .int 0, .int 0, .int 0, .int 0, .int 0, .ref n3009, .ref n3010, .int 0, .int 0, .ref n3011, .ref n3012, .int 0, .int 1, .ref n3013, .ref n3014, .ref n3015, .int 0, .ref n3016, .ref n3017, .ref n3018]))] [(n5000, .inl (cy 2, 1, .inr (.inl (vp_updL (fun _ => 0) 0 (-1))))), (n3000, .inl (cy 1, 1300, .inl (fun _ => 0)))] [2] [0, 1] rfl rfl (by decide +kernel) (fun pr => va_runV (As := []) (rest := []) ⟨hx, hb, hml, hown, hts⟩ (k338_X12_thrown l D cy H.size n3900 n3000 n3001 n3002 n3003 n3004 n3005 n3006 n3007 n3008 n3009 n3010 n3011 n3012 n3013 n3014 n3015 n3016 n3017 n3018) (cwV 0 hts gw_X12_thrown rfl rfl rfl (by decide +kernel) ⟨(by decide +kernel), (by decide +kernel)⟩) ⟨pr.1, va_recv hK hP (ci := 12) (q0 := 2) rfl rfl, pr.2⟩ rfl rfl hl.1 rfl (lv_room (Nat.le_of_ble_eq_true rfl)) dL_law_1806 ⟨(by decide +kernel), (by decide +kernel)⟩) (fun r u H locs hw hP hD hS => ?_)
        rcases hw with ⟨rfl, rfl⟩
        have hP : va_P D vwCl [(n5000, .inl (cy 2, 1, .inr (.inl (vp_updL (fun _ => 0) 0 (-1))))), (n3000, .inl (cy 1, 1300, .inl (fun _ => 0))), (n3900, .inr (12, [.ref n3000, .ref n3001, .ref n3002, .ref n3003, .int 0, .ref n3004, .int 0, .int 0, .int 0, .int 0, .int 0, .int 0, .int 0, .int 0, .int 0, .int (-1), .int 0, .ref n3005, .ref n3006, .int 0, .ref n3007, .ref n3008, .int 0, .int 0, .int 0, .int 0, .int 0, .int 0, .int 0, .ref n3009, .ref n3010, .int 0, .int 0, .ref n3011, .ref n3012, .int 0, .int 1, .ref n3013, .ref n3014, .ref n3015, .int 0, .ref n3016, .ref n3017, .ref n3018]))] H := hP
        have hD : va_D A [(n5000, .inl (cy 2, 1, .inr (.inl (vp_updL (fun _ => 0) 0 (-1))))), (n3000, .inl (cy 1, 1300, .inl (fun _ => 0))), (n3900, .inr (12, [.ref n3000, .ref n3001, .ref n3002, .ref n3003, .int 0, .ref n3004, .int 0, .int 0, .int 0, .int 0, .int 0, .int 0, .int 0, .int 0, .int 0, .int (-1), .int 0, .ref n3005, .ref n3006, .int 0, .ref n3007, .ref n3008, .int 0, .int 0, .int 0, .int 0, .int 0, .int 0, .int 0, .ref n3009, .ref n3010, .int 0, .int 0, .ref n3011, .ref n3012, .int 0, .int 1, .ref n3013, .ref n3014, .ref n3015, .int 0, .ref n3016, .ref n3017, .ref n3018]))] := hD
        refine lv_iload hx hb dL_law_1809 (lv_at hl 1 rfl) ?_
        refine lv_icmp_eq (tgt := 1816) hx hb dL_law_1811 (by decide +kernel) (fun _ => ?_) (fun h => absurd (by decide +kernel) h)
        refine lv_iload hx hb dL_law_1816 (lv_at hl 1 rfl) ?_
        refine lv_if_ne (tgt := 1833) hx hb dL_law_1818 (by decide +kernel) (fun h => absurd (by decide +kernel) h) (fun _ => ?_)
        refine lv_aload_n hx hb dL_law_1821 rfl (lv_at hl 3 rfl) ?_
        refine lv_iconst (v := 0) hx hb dL_law_1822 (by decide +kernel) ?_
        refine va_lald hx hb hK hP 0 2 rfl rfl (i := 0) (vin (by decide +kernel)) dL_law_1823 ?_
        refine top_l (v := (-1)) (by decide +kernel) ?_
        refine lv_iload hx hb dL_law_1824 (lv_at hl 0 rfl) ?_
        refine lv_i2l (v := (-1)) hx hb dL_law_1826 (by decide +kernel) ?_
        refine W.lcmp hx hb dL_law_1827 ?_
        refine top_i (v := 0) (by decide +kernel) ?_
        refine lv_if_eq (tgt := 1833) hx hb dL_law_1828 (by decide +kernel) (fun _ => ?_) (fun h => absurd (by decide +kernel) h)
        refine lv_goto (tgt := 2458) hx hb dL_law_1833 (by decide +kernel) ?_
        refine lv_iinc (v := 6) (lv' := [(4, .int 6), (6, .int (-1)), (5, .int 0), (3, .ref n5000), (2, .ref n3900), (1, .ref n1900), (0, .ref b)]) hx hb dL_law_2458 hl (k := 2) rfl (by decide) (by decide +kernel) rfl (fun ls hl => ?_)
        refine lv_goto (tgt := 23) hx hb dL_law_2461 (by decide +kernel) ?_
        refine lv_iload hx hb dL_law_23 (lv_at hl 0 rfl) ?_
        refine lv_aload_n hx hb dL_law_25 rfl (lv_at hl 6 rfl) ?_
        refine va_slen hx hb hX hbl hbA hS dL_law_26 ?_
        refine top_i (v := 6) rfl ?_
        refine lv_bipush (v := 6) hx hb dL_law_27 (by decide +kernel) ?_
        refine lv_isub hx hb dL_law_29 ?_
        refine top_i (v := 0) (by decide +kernel) ?_
        refine lv_icmp_gt (tgt := 2464) hx hb dL_law_30 (by decide +kernel) (fun _ => ?_) (fun h => absurd (by decide +kernel) h)
        refine lv_iconst (v := 1) hx hb dL_law_2464 (by decide +kernel) ?_
        refine va_forget (fun q hq => hAq _ (hS.2.2 q hq)) ?_
        refine W.widen (k := 600002) (n := 7302232) (by decide +kernel) (by decide +kernel) ?_
        exact lw_ret hx hb hr hlk dL_law_2465
      · exact absurd c800676 (by decide +kernel)
      · exact absurd c800681 (by decide +kernel)
    · obtain ⟨jj, hj, hjj⟩ := split_b (lo_nlt c800062) (up_lt c800063) 1 (by decide +kernel)
      obtain rfl : jj = 0 := by omega
      have c800686 : z1 = 0 := hjj.trans (by decide +kernel)
      clear hj hjj
      subst c800686
      subst c800068
      have hP : va_P D vwCl [(n3900, .inr (12, [.ref n3000, .ref n3001, .ref n3002, .ref n3003, .int 0, .ref n3004, .int 0, .int 0, .int 0, .int 0, .int 0, .int 0, .int 0, .int 0, .int 0, .int (-1), .int 0, .ref n3005, .ref n3006, .int 0, .ref n3007, .ref n3008, .int 0, .int 0, .int 0, .int 0, .int 0, .int 0, .int 0, .ref n3009, .ref n3010, .int 0, .int 0, .ref n3011, .ref n3012, .int 0, .int 0, .ref n3013, .ref n3014, .ref n3015, .int 0, .ref n3016, .ref n3017, .ref n3018])), (n3000, .inl (cy 1, 1300, .inl (fun _ => 0))), (n5000, .inl (cy 2, 1, .inr (.inl (vp_updL (fun _ => 0) 0 (-1)))))] H := hP
      have hD : va_D A [(n3900, .inr (12, [.ref n3000, .ref n3001, .ref n3002, .ref n3003, .int 0, .ref n3004, .int 0, .int 0, .int 0, .int 0, .int 0, .int 0, .int 0, .int 0, .int 0, .int (-1), .int 0, .ref n3005, .ref n3006, .int 0, .ref n3007, .ref n3008, .int 0, .int 0, .int 0, .int 0, .int 0, .int 0, .int 0, .ref n3009, .ref n3010, .int 0, .int 0, .ref n3011, .ref n3012, .int 0, .int 0, .ref n3013, .ref n3014, .ref n3015, .int 0, .ref n3016, .ref n3017, .ref n3018])), (n3000, .inl (cy 1, 1300, .inl (fun _ => 0))), (n5000, .inl (cy 2, 1, .inr (.inl (vp_updL (fun _ => 0) 0 (-1)))))] := hD
      refine lv_istore (lv' := [(5, .int 0), (4, .int 0), (3, .ref n5000), (2, .ref n3900), (1, .ref n1900), (0, .ref b)]) hx hb dL_law_1771 hl (by decide +kernel) rfl (fun ls hl => ?_)
      refine lv_aload_n hx hb dL_law_1773 rfl (lv_at hl 3 rfl) ?_
      refine lv_aload_n hx hb dL_law_1774 rfl (lv_at hl 5 rfl) ?_
      refine lv_iload hx hb dL_law_1775 (lv_at hl 1 rfl) ?_
      refine lv_iconst (v := 1) hx hb dL_law_1777 (by decide +kernel) ?_
      refine lv_iadd hx hb dL_law_1778 ?_
      refine top_i (v := 1) (by decide +kernel) ?_
      refine va_sld hx hb hX hbl hbA hS (i := 1) (vin (by decide +kernel)) dL_law_1779 ?_
      refine top_i (v := 0) ez1 ?_
      refine lv_aload_n hx hb dL_law_1780 rfl (lv_at hl 5 rfl) ?_
      refine lv_iload hx hb dL_law_1781 (lv_at hl 1 rfl) ?_
      refine lv_iconst (v := 2) hx hb dL_law_1783 (by decide +kernel) ?_
      refine lv_iadd hx hb dL_law_1784 ?_
      refine top_i (v := 2) (by decide +kernel) ?_
      refine va_sld hx hb hX hbl hbA hS (i := 2) (vin (by decide +kernel)) dL_law_1785 ?_
      refine top_i (v := 0) ez2 ?_
      refine lv_if_eq (tgt := 1793) hx hb dL_law_1786 (by decide +kernel) (fun _ => ?_) (fun h => absurd (by decide +kernel) h)
      refine lv_iconst (v := 0) hx hb dL_law_1793 (by decide +kernel) ?_
      refine lv_aload_n hx hb dL_law_1794 rfl (lv_at hl 5 rfl) ?_
      refine lv_iload hx hb dL_law_1795 (lv_at hl 1 rfl) ?_
      refine lv_iconst (v := 3) hx hb dL_law_1797 (by decide +kernel) ?_
      refine lv_iadd hx hb dL_law_1798 ?_
      refine top_i (v := 3) (by decide +kernel) ?_
      refine va_sld hx hb hX hbl hbA hS (i := 3) (vin (by decide +kernel)) dL_law_1799 ?_
      refine top_i (v := 16) ez3 ?_
      refine call_i (av := [.ref n3900, .int 0, .int 0, .int 16]) F hP hD hS [(n3900, .inr (12, [.ref n3000, .ref n3001, .ref n3002, .ref n3003, .int 0, .ref n3004, .int 0, .int 0, .int 0, .int 0, .int 0, .int 0, .int 0, .int 0, .int 0, .int (-1), .int 0, .ref n3005, .ref n3006, .int 0, .ref n3007, .ref n3008, .int 0, .int 0, .int 0, .int 0, .int 0, .int 0, .int 0, .ref n3009, .ref n3010, .int 0, .int 0, .ref n3011, .ref n3012, .int 0, .int 0, .ref n3013, .ref n3014, .ref n3015, .int 0, .ref n3016, .ref n3017, .ref n3018])), (n3000, .inl (cy 1, 1300, .inl (fun _ => 0)))] [(n5000, .inl (cy 2, 1, .inr (.inl (vp_updL (fun _ => 0) 0 (-1)))))] [0, 1] [2] rfl rfl (by decide +kernel) (fun pr => va_runV (As := [.int 0, .int 0, .int 16]) (rest := []) ⟨hx, hb, hml, hown, hts⟩ (k242_X12_bestRow l D cy H.size n3900 0 0 16 n3000 n3001 n3002 n3003 n3004 n3005 n3006 n3007 n3008 n3009 n3010 n3011 n3012 n3013 n3014 n3015 n3016 n3017 n3018) (cwV 3 hts gw_X12_bestRow rfl rfl rfl (by decide +kernel) ⟨(by decide +kernel), (by decide +kernel)⟩) ⟨pr.1, va_recv hK hP (ci := 12) (q0 := 0) rfl rfl, pr.2⟩ rfl rfl hl.1 rfl (lv_room (Nat.le_of_ble_eq_true rfl)) dL_law_1800 ⟨(by decide +kernel), (by decide +kernel)⟩) (fun r u H locs hw hP hD hS => ?_)
      rcases hw with ⟨c800688, rfl, rfl⟩ | ⟨c800689, c800690, rfl, rfl⟩ | ⟨c800691, c800692, c800693, rfl, rfl⟩ | ⟨c800694, c800695, c800696, c800697, rfl, rfl⟩ | ⟨c800698, c800699, c800700, c800701, c800702, rfl, rfl⟩ | ⟨c800703, c800704, c800705, c800706, c800707, rfl, rfl⟩ | ⟨c800708, c800709, c800710, c800711, c800712, rfl, rfl⟩ | ⟨c800713, c800714, c800715, c800716, c800717, rfl, rfl⟩ | ⟨c800718, c800719, c800720, c800721, c800722, rfl, rfl⟩ | ⟨c800723, c800724, c800725, c800726, c800727, rfl, rfl⟩ | ⟨c800728, c800729, c800730, c800731, c800732, rfl, rfl⟩ | ⟨c800733, c800734, c800735, c800736, c800737, rfl, rfl⟩
      · exact absurd (by decide +kernel) c800688
      · exact absurd c800690 (by decide +kernel)
      · exact absurd c800693 (by decide +kernel)
      · exact absurd c800697 (by decide +kernel)
      · exact absurd c800702 (by decide +kernel)
      · exact absurd c800707 (by decide +kernel)
      · exact absurd c800712 (by decide +kernel)
      · exact absurd c800717 (by decide +kernel)
      · exact absurd c800722 (by decide +kernel)
      · exact absurd c800727 (by decide +kernel)
      · have hP : va_P D vwCl [(n5000, .inl (cy 2, 1, .inr (.inl (vp_updL (fun _ => 0) 0 (-1))))), (n3000, .inl (cy 1, 1300, .inl (fun _ => 0))), (n3900, .inr (12, [.ref n3000, .ref n3001, .ref n3002, .ref n3003, .int 0, .ref n3004, .int 0, .int 0, .int 0, .int 0, .int 0, .int 0, .int 0, .int 0, .int 0, .int (-1), .int 0, .ref n3005, .ref n3006, .int 0, .ref n3007, .ref n3008, .int 0, .int 0, .int 0, .int 0, .int 0, .int 0, .int 0, .ref n3009, .ref n3010, .int 0, .int 0, .ref n3011, .ref n3012, .int 0, .int 1, .ref n3013, .ref n3014, .ref n3015, .int 0, .ref n3016, .ref n3017, .ref n3018]))] H := hP
        have hD : va_D A [(n5000, .inl (cy 2, 1, .inr (.inl (vp_updL (fun _ => 0) 0 (-1))))), (n3000, .inl (cy 1, 1300, .inl (fun _ => 0))), (n3900, .inr (12, [.ref n3000, .ref n3001, .ref n3002, .ref n3003, .int 0, .ref n3004, .int 0, .int 0, .int 0, .int 0, .int 0, .int 0, .int 0, .int 0, .int 0, .int (-1), .int 0, .ref n3005, .ref n3006, .int 0, .ref n3007, .ref n3008, .int 0, .int 0, .int 0, .int 0, .int 0, .int 0, .int 0, .ref n3009, .ref n3010, .int 0, .int 0, .ref n3011, .ref n3012, .int 0, .int 1, .ref n3013, .ref n3014, .ref n3015, .int 0, .ref n3016, .ref n3017, .ref n3018]))] := hD
        refine lv_istore (lv' := [(6, .int (-1)), (5, .int 0), (4, .int 0), (3, .ref n5000), (2, .ref n3900), (1, .ref n1900), (0, .ref b)]) hx hb dL_law_1803 hl (by decide +kernel) rfl (fun ls hl => ?_)
        refine lv_aload_n hx hb dL_law_1805 rfl (lv_at hl 4 rfl) ?_
        refine call_i (av := [.ref n3900]) F hP hD hS [(n3900, .inr (12, [.ref n3000, .ref n3001, .ref n3002, .ref n3003, .int 0, .ref n3004, .int 0, .int 0, .int 0, .int 0, .int 0, .int 0, .int 0, .int 0, .int 0, .int (-1), .int 0, .ref n3005, .ref n3006, .int 0, .ref n3007, .ref n3008, .int 0, .int 0, .int 0, .int 0, .int 0, .int 0, .int 0, .ref n3009, .ref n3010, .int 0, .int 0, .ref n3011, .ref n3012, .int 0, .int 1, .ref n3013, .ref n3014, .ref n3015, .int 0, .ref n3016, .ref n3017, .ref n3018]))] [(n5000, .inl (cy 2, 1, .inr (.inl (vp_updL (fun _ => 0) 0 (-1))))), (n3000, .inl (cy 1, 1300, .inl (fun _ => 0)))] [2] [0, 1] rfl rfl (by decide +kernel) (fun pr => va_runV (As := []) (rest := []) ⟨hx, hb, hml, hown, hts⟩ (k338_X12_thrown l D cy H.size n3900 n3000 n3001 n3002 n3003 n3004 n3005 n3006 n3007 n3008 n3009 n3010 n3011 n3012 n3013 n3014 n3015 n3016 n3017 n3018) (cwV 0 hts gw_X12_thrown rfl rfl rfl (by decide +kernel) ⟨(by decide +kernel), (by decide +kernel)⟩) ⟨pr.1, va_recv hK hP (ci := 12) (q0 := 2) rfl rfl, pr.2⟩ rfl rfl hl.1 rfl (lv_room (Nat.le_of_ble_eq_true rfl)) dL_law_1806 ⟨(by decide +kernel), (by decide +kernel)⟩) (fun r u H locs hw hP hD hS => ?_)
        rcases hw with ⟨rfl, rfl⟩
        have hP : va_P D vwCl [(n5000, .inl (cy 2, 1, .inr (.inl (vp_updL (fun _ => 0) 0 (-1))))), (n3000, .inl (cy 1, 1300, .inl (fun _ => 0))), (n3900, .inr (12, [.ref n3000, .ref n3001, .ref n3002, .ref n3003, .int 0, .ref n3004, .int 0, .int 0, .int 0, .int 0, .int 0, .int 0, .int 0, .int 0, .int 0, .int (-1), .int 0, .ref n3005, .ref n3006, .int 0, .ref n3007, .ref n3008, .int 0, .int 0, .int 0, .int 0, .int 0, .int 0, .int 0, .ref n3009, .ref n3010, .int 0, .int 0, .ref n3011, .ref n3012, .int 0, .int 1, .ref n3013, .ref n3014, .ref n3015, .int 0, .ref n3016, .ref n3017, .ref n3018]))] H := hP
        have hD : va_D A [(n5000, .inl (cy 2, 1, .inr (.inl (vp_updL (fun _ => 0) 0 (-1))))), (n3000, .inl (cy 1, 1300, .inl (fun _ => 0))), (n3900, .inr (12, [.ref n3000, .ref n3001, .ref n3002, .ref n3003, .int 0, .ref n3004, .int 0, .int 0, .int 0, .int 0, .int 0, .int 0, .int 0, .int 0, .int 0, .int (-1), .int 0, .ref n3005, .ref n3006, .int 0, .ref n3007, .ref n3008, .int 0, .int 0, .int 0, .int 0, .int 0, .int 0, .int 0, .ref n3009, .ref n3010, .int 0, .int 0, .ref n3011, .ref n3012, .int 0, .int 1, .ref n3013, .ref n3014, .ref n3015, .int 0, .ref n3016, .ref n3017, .ref n3018]))] := hD
        refine lv_iload hx hb dL_law_1809 (lv_at hl 1 rfl) ?_
        refine lv_icmp_eq (tgt := 1816) hx hb dL_law_1811 (by decide +kernel) (fun _ => ?_) (fun h => absurd (by decide +kernel) h)
        refine lv_iload hx hb dL_law_1816 (lv_at hl 1 rfl) ?_
        refine lv_if_ne (tgt := 1833) hx hb dL_law_1818 (by decide +kernel) (fun h => absurd (by decide +kernel) h) (fun _ => ?_)
        refine lv_aload_n hx hb dL_law_1821 rfl (lv_at hl 3 rfl) ?_
        refine lv_iconst (v := 0) hx hb dL_law_1822 (by decide +kernel) ?_
        refine va_lald hx hb hK hP 0 2 rfl rfl (i := 0) (vin (by decide +kernel)) dL_law_1823 ?_
        refine top_l (v := (-1)) (by decide +kernel) ?_
        refine lv_iload hx hb dL_law_1824 (lv_at hl 0 rfl) ?_
        refine lv_i2l (v := (-1)) hx hb dL_law_1826 (by decide +kernel) ?_
        refine W.lcmp hx hb dL_law_1827 ?_
        refine top_i (v := 0) (by decide +kernel) ?_
        refine lv_if_eq (tgt := 1833) hx hb dL_law_1828 (by decide +kernel) (fun _ => ?_) (fun h => absurd (by decide +kernel) h)
        refine lv_goto (tgt := 2458) hx hb dL_law_1833 (by decide +kernel) ?_
        refine lv_iinc (v := 6) (lv' := [(4, .int 6), (6, .int (-1)), (5, .int 0), (3, .ref n5000), (2, .ref n3900), (1, .ref n1900), (0, .ref b)]) hx hb dL_law_2458 hl (k := 2) rfl (by decide) (by decide +kernel) rfl (fun ls hl => ?_)
        refine lv_goto (tgt := 23) hx hb dL_law_2461 (by decide +kernel) ?_
        refine lv_iload hx hb dL_law_23 (lv_at hl 0 rfl) ?_
        refine lv_aload_n hx hb dL_law_25 rfl (lv_at hl 6 rfl) ?_
        refine va_slen hx hb hX hbl hbA hS dL_law_26 ?_
        refine top_i (v := 6) rfl ?_
        refine lv_bipush (v := 6) hx hb dL_law_27 (by decide +kernel) ?_
        refine lv_isub hx hb dL_law_29 ?_
        refine top_i (v := 0) (by decide +kernel) ?_
        refine lv_icmp_gt (tgt := 2464) hx hb dL_law_30 (by decide +kernel) (fun _ => ?_) (fun h => absurd (by decide +kernel) h)
        refine lv_iconst (v := 1) hx hb dL_law_2464 (by decide +kernel) ?_
        refine va_forget (fun q hq => hAq _ (hS.2.2 q hq)) ?_
        refine W.widen (k := 600002) (n := 7302232) (by decide +kernel) (by decide +kernel) ?_
        exact lw_ret hx hb hr hlk dL_law_2465
      · exact absurd c800737 (by decide +kernel)
    · obtain ⟨jj, hj, hjj⟩ := split_b (lo_nlt c800069) (up_lt c800070) 1 (by decide +kernel)
      obtain rfl : jj = 0 := by omega
      have c800742 : z1 = 0 := hjj.trans (by decide +kernel)
      clear hj hjj
      subst c800742
      subst c800075
      have hP : va_P D vwCl [(n3900, .inr (12, [.ref n3000, .ref n3001, .ref n3002, .ref n3003, .int 0, .ref n3004, .int 0, .int 0, .int 0, .int 0, .int 0, .int 0, .int 0, .int 0, .int 0, .int (-1), .int 0, .ref n3005, .ref n3006, .int 0, .ref n3007, .ref n3008, .int 0, .int 0, .int 0, .int 0, .int 0, .int 0, .int 0, .ref n3009, .ref n3010, .int 0, .int 0, .ref n3011, .ref n3012, .int 0, .int 0, .ref n3013, .ref n3014, .ref n3015, .int 0, .ref n3016, .ref n3017, .ref n3018])), (n3000, .inl (cy 1, 1300, .inl (fun _ => 0))), (n5000, .inl (cy 2, 1, .inr (.inl (vp_updL (fun _ => 0) 0 (-1)))))] H := hP
      have hD : va_D A [(n3900, .inr (12, [.ref n3000, .ref n3001, .ref n3002, .ref n3003, .int 0, .ref n3004, .int 0, .int 0, .int 0, .int 0, .int 0, .int 0, .int 0, .int 0, .int 0, .int (-1), .int 0, .ref n3005, .ref n3006, .int 0, .ref n3007, .ref n3008, .int 0, .int 0, .int 0, .int 0, .int 0, .int 0, .int 0, .ref n3009, .ref n3010, .int 0, .int 0, .ref n3011, .ref n3012, .int 0, .int 0, .ref n3013, .ref n3014, .ref n3015, .int 0, .ref n3016, .ref n3017, .ref n3018])), (n3000, .inl (cy 1, 1300, .inl (fun _ => 0))), (n5000, .inl (cy 2, 1, .inr (.inl (vp_updL (fun _ => 0) 0 (-1)))))] := hD
      refine lv_istore (lv' := [(5, .int 0), (4, .int 0), (3, .ref n5000), (2, .ref n3900), (1, .ref n1900), (0, .ref b)]) hx hb dL_law_1771 hl (by decide +kernel) rfl (fun ls hl => ?_)
      refine lv_aload_n hx hb dL_law_1773 rfl (lv_at hl 3 rfl) ?_
      refine lv_aload_n hx hb dL_law_1774 rfl (lv_at hl 5 rfl) ?_
      refine lv_iload hx hb dL_law_1775 (lv_at hl 1 rfl) ?_
      refine lv_iconst (v := 1) hx hb dL_law_1777 (by decide +kernel) ?_
      refine lv_iadd hx hb dL_law_1778 ?_
      refine top_i (v := 1) (by decide +kernel) ?_
      refine va_sld hx hb hX hbl hbA hS (i := 1) (vin (by decide +kernel)) dL_law_1779 ?_
      refine top_i (v := 0) ez1 ?_
      refine lv_aload_n hx hb dL_law_1780 rfl (lv_at hl 5 rfl) ?_
      refine lv_iload hx hb dL_law_1781 (lv_at hl 1 rfl) ?_
      refine lv_iconst (v := 2) hx hb dL_law_1783 (by decide +kernel) ?_
      refine lv_iadd hx hb dL_law_1784 ?_
      refine top_i (v := 2) (by decide +kernel) ?_
      refine va_sld hx hb hX hbl hbA hS (i := 2) (vin (by decide +kernel)) dL_law_1785 ?_
      refine top_i (v := 0) ez2 ?_
      refine lv_if_eq (tgt := 1793) hx hb dL_law_1786 (by decide +kernel) (fun _ => ?_) (fun h => absurd (by decide +kernel) h)
      refine lv_iconst (v := 0) hx hb dL_law_1793 (by decide +kernel) ?_
      refine lv_aload_n hx hb dL_law_1794 rfl (lv_at hl 5 rfl) ?_
      refine lv_iload hx hb dL_law_1795 (lv_at hl 1 rfl) ?_
      refine lv_iconst (v := 3) hx hb dL_law_1797 (by decide +kernel) ?_
      refine lv_iadd hx hb dL_law_1798 ?_
      refine top_i (v := 3) (by decide +kernel) ?_
      refine va_sld hx hb hX hbl hbA hS (i := 3) (vin (by decide +kernel)) dL_law_1799 ?_
      refine top_i (v := 17) ez3 ?_
      refine call_i (av := [.ref n3900, .int 0, .int 0, .int 17]) F hP hD hS [(n3900, .inr (12, [.ref n3000, .ref n3001, .ref n3002, .ref n3003, .int 0, .ref n3004, .int 0, .int 0, .int 0, .int 0, .int 0, .int 0, .int 0, .int 0, .int 0, .int (-1), .int 0, .ref n3005, .ref n3006, .int 0, .ref n3007, .ref n3008, .int 0, .int 0, .int 0, .int 0, .int 0, .int 0, .int 0, .ref n3009, .ref n3010, .int 0, .int 0, .ref n3011, .ref n3012, .int 0, .int 0, .ref n3013, .ref n3014, .ref n3015, .int 0, .ref n3016, .ref n3017, .ref n3018])), (n3000, .inl (cy 1, 1300, .inl (fun _ => 0)))] [(n5000, .inl (cy 2, 1, .inr (.inl (vp_updL (fun _ => 0) 0 (-1)))))] [0, 1] [2] rfl rfl (by decide +kernel) (fun pr => va_runV (As := [.int 0, .int 0, .int 17]) (rest := []) ⟨hx, hb, hml, hown, hts⟩ (k242_X12_bestRow l D cy H.size n3900 0 0 17 n3000 n3001 n3002 n3003 n3004 n3005 n3006 n3007 n3008 n3009 n3010 n3011 n3012 n3013 n3014 n3015 n3016 n3017 n3018) (cwV 3 hts gw_X12_bestRow rfl rfl rfl (by decide +kernel) ⟨(by decide +kernel), (by decide +kernel)⟩) ⟨pr.1, va_recv hK hP (ci := 12) (q0 := 0) rfl rfl, pr.2⟩ rfl rfl hl.1 rfl (lv_room (Nat.le_of_ble_eq_true rfl)) dL_law_1800 ⟨(by decide +kernel), (by decide +kernel)⟩) (fun r u H locs hw hP hD hS => ?_)
      rcases hw with ⟨c800744, rfl, rfl⟩ | ⟨c800745, c800746, rfl, rfl⟩ | ⟨c800747, c800748, c800749, rfl, rfl⟩ | ⟨c800750, c800751, c800752, c800753, rfl, rfl⟩ | ⟨c800754, c800755, c800756, c800757, c800758, rfl, rfl⟩ | ⟨c800759, c800760, c800761, c800762, c800763, rfl, rfl⟩ | ⟨c800764, c800765, c800766, c800767, c800768, rfl, rfl⟩ | ⟨c800769, c800770, c800771, c800772, c800773, rfl, rfl⟩ | ⟨c800774, c800775, c800776, c800777, c800778, rfl, rfl⟩ | ⟨c800779, c800780, c800781, c800782, c800783, rfl, rfl⟩ | ⟨c800784, c800785, c800786, c800787, c800788, rfl, rfl⟩ | ⟨c800789, c800790, c800791, c800792, c800793, rfl, rfl⟩
      · exact absurd (by decide +kernel) c800744
      · exact absurd c800746 (by decide +kernel)
      · exact absurd c800749 (by decide +kernel)
      · exact absurd c800753 (by decide +kernel)
      · exact absurd c800758 (by decide +kernel)
      · exact absurd c800763 (by decide +kernel)
      · exact absurd c800768 (by decide +kernel)
      · exact absurd c800773 (by decide +kernel)
      · exact absurd c800778 (by decide +kernel)
      · exact absurd c800783 (by decide +kernel)
      · exact absurd c800788 (by decide +kernel)
      · have hP : va_P D vwCl [(n5000, .inl (cy 2, 1, .inr (.inl (vp_updL (fun _ => 0) 0 (-1))))), (n3000, .inl (cy 1, 1300, .inl (fun _ => 0))), (n3900, .inr (12, [.ref n3000, .ref n3001, .ref n3002, .ref n3003, .int 0, .ref n3004, .int 0, .int 0, .int 0, .int 0, .int 0, .int 0, .int 0, .int 0, .int 0, .int (-1), .int 0, .ref n3005, .ref n3006, .int 0, .ref n3007, .ref n3008, .int 0, .int 0, .int 0, .int 0, .int 0, .int 0, .int 0, .ref n3009, .ref n3010, .int 0, .int 0, .ref n3011, .ref n3012, .int 0, .int 1, .ref n3013, .ref n3014, .ref n3015, .int 0, .ref n3016, .ref n3017, .ref n3018]))] H := hP
        have hD : va_D A [(n5000, .inl (cy 2, 1, .inr (.inl (vp_updL (fun _ => 0) 0 (-1))))), (n3000, .inl (cy 1, 1300, .inl (fun _ => 0))), (n3900, .inr (12, [.ref n3000, .ref n3001, .ref n3002, .ref n3003, .int 0, .ref n3004, .int 0, .int 0, .int 0, .int 0, .int 0, .int 0, .int 0, .int 0, .int 0, .int (-1), .int 0, .ref n3005, .ref n3006, .int 0, .ref n3007, .ref n3008, .int 0, .int 0, .int 0, .int 0, .int 0, .int 0, .int 0, .ref n3009, .ref n3010, .int 0, .int 0, .ref n3011, .ref n3012, .int 0, .int 1, .ref n3013, .ref n3014, .ref n3015, .int 0, .ref n3016, .ref n3017, .ref n3018]))] := hD
        refine lv_istore (lv' := [(6, .int (-1)), (5, .int 0), (4, .int 0), (3, .ref n5000), (2, .ref n3900), (1, .ref n1900), (0, .ref b)]) hx hb dL_law_1803 hl (by decide +kernel) rfl (fun ls hl => ?_)
        refine lv_aload_n hx hb dL_law_1805 rfl (lv_at hl 4 rfl) ?_
        refine call_i (av := [.ref n3900]) F hP hD hS [(n3900, .inr (12, [.ref n3000, .ref n3001, .ref n3002, .ref n3003, .int 0, .ref n3004, .int 0, .int 0, .int 0, .int 0, .int 0, .int 0, .int 0, .int 0, .int 0, .int (-1), .int 0, .ref n3005, .ref n3006, .int 0, .ref n3007, .ref n3008, .int 0, .int 0, .int 0, .int 0, .int 0, .int 0, .int 0, .ref n3009, .ref n3010, .int 0, .int 0, .ref n3011, .ref n3012, .int 0, .int 1, .ref n3013, .ref n3014, .ref n3015, .int 0, .ref n3016, .ref n3017, .ref n3018]))] [(n5000, .inl (cy 2, 1, .inr (.inl (vp_updL (fun _ => 0) 0 (-1))))), (n3000, .inl (cy 1, 1300, .inl (fun _ => 0)))] [2] [0, 1] rfl rfl (by decide +kernel) (fun pr => va_runV (As := []) (rest := []) ⟨hx, hb, hml, hown, hts⟩ (k338_X12_thrown l D cy H.size n3900 n3000 n3001 n3002 n3003 n3004 n3005 n3006 n3007 n3008 n3009 n3010 n3011 n3012 n3013 n3014 n3015 n3016 n3017 n3018) (cwV 0 hts gw_X12_thrown rfl rfl rfl (by decide +kernel) ⟨(by decide +kernel), (by decide +kernel)⟩) ⟨pr.1, va_recv hK hP (ci := 12) (q0 := 2) rfl rfl, pr.2⟩ rfl rfl hl.1 rfl (lv_room (Nat.le_of_ble_eq_true rfl)) dL_law_1806 ⟨(by decide +kernel), (by decide +kernel)⟩) (fun r u H locs hw hP hD hS => ?_)
        rcases hw with ⟨rfl, rfl⟩
        have hP : va_P D vwCl [(n5000, .inl (cy 2, 1, .inr (.inl (vp_updL (fun _ => 0) 0 (-1))))), (n3000, .inl (cy 1, 1300, .inl (fun _ => 0))), (n3900, .inr (12, [.ref n3000, .ref n3001, .ref n3002, .ref n3003, .int 0, .ref n3004, .int 0, .int 0, .int 0, .int 0, .int 0, .int 0, .int 0, .int 0, .int 0, .int (-1), .int 0, .ref n3005, .ref n3006, .int 0, .ref n3007, .ref n3008, .int 0, .int 0, .int 0, .int 0, .int 0, .int 0, .int 0, .ref n3009, .ref n3010, .int 0, .int 0, .ref n3011, .ref n3012, .int 0, .int 1, .ref n3013, .ref n3014, .ref n3015, .int 0, .ref n3016, .ref n3017, .ref n3018]))] H := hP
        have hD : va_D A [(n5000, .inl (cy 2, 1, .inr (.inl (vp_updL (fun _ => 0) 0 (-1))))), (n3000, .inl (cy 1, 1300, .inl (fun _ => 0))), (n3900, .inr (12, [.ref n3000, .ref n3001, .ref n3002, .ref n3003, .int 0, .ref n3004, .int 0, .int 0, .int 0, .int 0, .int 0, .int 0, .int 0, .int 0, .int 0, .int (-1), .int 0, .ref n3005, .ref n3006, .int 0, .ref n3007, .ref n3008, .int 0, .int 0, .int 0, .int 0, .int 0, .int 0, .int 0, .ref n3009, .ref n3010, .int 0, .int 0, .ref n3011, .ref n3012, .int 0, .int 1, .ref n3013, .ref n3014, .ref n3015, .int 0, .ref n3016, .ref n3017, .ref n3018]))] := hD
        refine lv_iload hx hb dL_law_1809 (lv_at hl 1 rfl) ?_
        refine lv_icmp_eq (tgt := 1816) hx hb dL_law_1811 (by decide +kernel) (fun _ => ?_) (fun h => absurd (by decide +kernel) h)
        refine lv_iload hx hb dL_law_1816 (lv_at hl 1 rfl) ?_
        refine lv_if_ne (tgt := 1833) hx hb dL_law_1818 (by decide +kernel) (fun h => absurd (by decide +kernel) h) (fun _ => ?_)
        refine lv_aload_n hx hb dL_law_1821 rfl (lv_at hl 3 rfl) ?_
        refine lv_iconst (v := 0) hx hb dL_law_1822 (by decide +kernel) ?_
        refine va_lald hx hb hK hP 0 2 rfl rfl (i := 0) (vin (by decide +kernel)) dL_law_1823 ?_
        refine top_l (v := (-1)) (by decide +kernel) ?_
        refine lv_iload hx hb dL_law_1824 (lv_at hl 0 rfl) ?_
        refine lv_i2l (v := (-1)) hx hb dL_law_1826 (by decide +kernel) ?_
        refine W.lcmp hx hb dL_law_1827 ?_
        refine top_i (v := 0) (by decide +kernel) ?_
        refine lv_if_eq (tgt := 1833) hx hb dL_law_1828 (by decide +kernel) (fun _ => ?_) (fun h => absurd (by decide +kernel) h)
        refine lv_goto (tgt := 2458) hx hb dL_law_1833 (by decide +kernel) ?_
        refine lv_iinc (v := 6) (lv' := [(4, .int 6), (6, .int (-1)), (5, .int 0), (3, .ref n5000), (2, .ref n3900), (1, .ref n1900), (0, .ref b)]) hx hb dL_law_2458 hl (k := 2) rfl (by decide) (by decide +kernel) rfl (fun ls hl => ?_)
        refine lv_goto (tgt := 23) hx hb dL_law_2461 (by decide +kernel) ?_
        refine lv_iload hx hb dL_law_23 (lv_at hl 0 rfl) ?_
        refine lv_aload_n hx hb dL_law_25 rfl (lv_at hl 6 rfl) ?_
        refine va_slen hx hb hX hbl hbA hS dL_law_26 ?_
        refine top_i (v := 6) rfl ?_
        refine lv_bipush (v := 6) hx hb dL_law_27 (by decide +kernel) ?_
        refine lv_isub hx hb dL_law_29 ?_
        refine top_i (v := 0) (by decide +kernel) ?_
        refine lv_icmp_gt (tgt := 2464) hx hb dL_law_30 (by decide +kernel) (fun _ => ?_) (fun h => absurd (by decide +kernel) h)
        refine lv_iconst (v := 1) hx hb dL_law_2464 (by decide +kernel) ?_
        refine va_forget (fun q hq => hAq _ (hS.2.2 q hq)) ?_
        refine W.widen (k := 600002) (n := 7302232) (by decide +kernel) (by decide +kernel) ?_
        exact lw_ret hx hb hr hlk dL_law_2465
  · refine lv_iconst (v := 1) hx hb dL_law_1756 (by decide +kernel) ?_
    refine lv_goto (tgt := 1761) hx hb dL_law_1757 (by decide +kernel) ?_
    refine lv_aload_n hx hb dL_law_1761 rfl (lv_at hl 4 rfl) ?_
    refine lv_iload hx hb dL_law_1762 (lv_at hl 0 rfl) ?_
    refine lv_iconst (v := 3) hx hb dL_law_1764 (by decide +kernel) ?_
    refine lv_iadd hx hb dL_law_1765 ?_
    refine top_i (v := 3) (by decide +kernel) ?_
    refine va_sld hx hb hX hbl hbA hS (i := 3) (vin (by decide +kernel)) dL_law_1766 ?_
    refine top_i (v := z3) ez3 ?_
    refine lv_aload_n hx hb dL_law_1767 rfl (lv_at hl 1 rfl) ?_
    refine call_i (av := [.ref n1900, .int z1, .int 1, .int z3, .ref n5000]) F hP hD hS [(n1900, .inr (11, [.ref n1000, .int 0, .ref n1001, .ref n1017, .ref n1034, .ref n1039, .ref n1041, .ref n1042, .ref n1043, .ref n1044, .ref n1048, .ref n1056, .ref n1057, .int 0])), (n1001, .inr (9, [.int 0, .int 0, .int 0, .int 0, .int 0, .ref n1002, .ref n1003, .ref n1004, .ref n1005, .ref n1006, .ref n1007, .ref n1008, .int 0, .ref n1009, .ref n1010, .ref n1011, .ref n1012, .ref n1013])), (n1057, .inr (8, [.ref n1001, .ref n1034, .ref n1058, .int 0, .ref n1059, .ref n1060, .ref n1061, .int 0, .int 0])), (n5000, .inl (cy 2, 1, .inr (.inl (fun _ => 0))))] [(n3900, .inr (12, [.ref n3000, .ref n3001, .ref n3002, .ref n3003, .int 0, .ref n3004, .int 0, .int 0, .int 0, .int 0, .int 0, .int 0, .int 0, .int 0, .int 0, .int (-1), .int 0, .ref n3005, .ref n3006, .int 0, .ref n3007, .ref n3008, .int 0, .int 0, .int 0, .int 0, .int 0, .int 0, .int 0, .ref n3009, .ref n3010, .int 0, .int 0, .ref n3011, .ref n3012, .int 0, .int 0, .ref n3013, .ref n3014, .ref n3015, .int 0, .ref n3016, .ref n3017, .ref n3018])), (n3000, .inl (cy 1, 1300, .inl (fun _ => 0)))] [0, 1, 2, 5] [3, 4] rfl rfl (by decide +kernel) (fun pr => vx_runSW (As := [.ref n1900, .int z1, .int 1, .int z3, .ref n5000]) (rest := []) ⟨hx, hb, hml, hown, hts⟩ (k323_L_bestRow l hlT D cy H.size n1900 z1 1 z3 n5000 n1001 n1057 n1000 n1017 n1034 n1039 n1041 n1042 n1043 n1044 n1048 n1056 n1002 n1003 n1004 n1005 n1006 n1007 n1008 n1009 n1010 n1011 n1012 n1013 n1058 n1059 n1060 n1061) (vx_cwSW 5 hts gw_L_bestRow rfl rfl rfl (by decide +kernel) ⟨(by decide +kernel), (by decide +kernel)⟩) pr rfl rfl hl.1 rfl (lv_room (Nat.le_of_ble_eq_true rfl)) dL_law_1768 ⟨(by decide +kernel), (by decide +kernel)⟩) (fun r u H locs hw hP hD hS => ?_)
    rcases hw with ⟨c800798, rfl, rfl⟩ | ⟨c800799, c800800, c800801, c800802, c800803, rfl, rfl⟩ | ⟨c800804, c800805, c800806, c800807, c800808, c800809, rfl, rfl⟩ | ⟨c800810, c800811, rfl, rfl⟩ | ⟨c800812, c800813, c800814, c800815, rfl, rfl⟩ | ⟨c800816, c800817, c800818, c800819, c800820, c800821, c800822, rfl, rfl⟩ | ⟨c800823, c800824, c800825, c800826, c800827, c800828, c800829, rfl, rfl⟩ | ⟨c800830, c800831, c800832, c800833, c800834, c800835, c800836, rfl, rfl⟩ | ⟨c800837, c800838, c800839, c800840, c800841, c800842, c800843, rfl, rfl⟩ | ⟨c800844, c800845, c800846, c800847, c800848, c800849, c800850, rfl, rfl⟩ | ⟨c800851, c800852, c800853, c800854, c800855, c800856, c800857, rfl, rfl⟩ | ⟨c800858, c800859, c800860, c800861, c800862, c800863, c800864, rfl, rfl⟩ | ⟨c800865, c800866, c800867, c800868, c800869, c800870, c800871, rfl, rfl⟩
    · have hP : va_P D vwCl [(n3900, .inr (12, [.ref n3000, .ref n3001, .ref n3002, .ref n3003, .int 0, .ref n3004, .int 0, .int 0, .int 0, .int 0, .int 0, .int 0, .int 0, .int 0, .int 0, .int (-1), .int 0, .ref n3005, .ref n3006, .int 0, .ref n3007, .ref n3008, .int 0, .int 0, .int 0, .int 0, .int 0, .int 0, .int 0, .ref n3009, .ref n3010, .int 0, .int 0, .ref n3011, .ref n3012, .int 0, .int 0, .ref n3013, .ref n3014, .ref n3015, .int 0, .ref n3016, .ref n3017, .ref n3018])), (n3000, .inl (cy 1, 1300, .inl (fun _ => 0))), (n5000, .inl (cy 2, 1, .inr (.inl (fun _ => 0))))] H := hP
      have hD : va_D A [(n3900, .inr (12, [.ref n3000, .ref n3001, .ref n3002, .ref n3003, .int 0, .ref n3004, .int 0, .int 0, .int 0, .int 0, .int 0, .int 0, .int 0, .int 0, .int 0, .int (-1), .int 0, .ref n3005, .ref n3006, .int 0, .ref n3007, .ref n3008, .int 0, .int 0, .int 0, .int 0, .int 0, .int 0, .int 0, .ref n3009, .ref n3010, .int 0, .int 0, .ref n3011, .ref n3012, .int 0, .int 0, .ref n3013, .ref n3014, .ref n3015, .int 0, .ref n3016, .ref n3017, .ref n3018])), (n3000, .inl (cy 1, 1300, .inl (fun _ => 0))), (n5000, .inl (cy 2, 1, .inr (.inl (fun _ => 0))))] := hD
      refine lv_istore (lv' := [(5, .int 1), (4, .int 0), (3, .ref n5000), (2, .ref n3900), (1, .ref n1900), (0, .ref b)]) hx hb dL_law_1771 hl (by decide +kernel) rfl (fun ls hl => ?_)
      refine lv_aload_n hx hb dL_law_1773 rfl (lv_at hl 3 rfl) ?_
      refine lv_aload_n hx hb dL_law_1774 rfl (lv_at hl 5 rfl) ?_
      refine lv_iload hx hb dL_law_1775 (lv_at hl 1 rfl) ?_
      refine lv_iconst (v := 1) hx hb dL_law_1777 (by decide +kernel) ?_
      refine lv_iadd hx hb dL_law_1778 ?_
      refine top_i (v := 1) (by decide +kernel) ?_
      refine va_sld hx hb hX hbl hbA hS (i := 1) (vin (by decide +kernel)) dL_law_1779 ?_
      refine top_i (v := z1) ez1 ?_
      refine lv_aload_n hx hb dL_law_1780 rfl (lv_at hl 5 rfl) ?_
      refine lv_iload hx hb dL_law_1781 (lv_at hl 1 rfl) ?_
      refine lv_iconst (v := 2) hx hb dL_law_1783 (by decide +kernel) ?_
      refine lv_iadd hx hb dL_law_1784 ?_
      refine top_i (v := 2) (by decide +kernel) ?_
      refine va_sld hx hb hX hbl hbA hS (i := 2) (vin (by decide +kernel)) dL_law_1785 ?_
      refine top_i (v := z2) ez2 ?_
      refine lv_if_eq (tgt := 1793) hx hb dL_law_1786 (by decide +kernel) (fun h => absurd h c800001) (fun _ => ?_)
      refine lv_iconst (v := 1) hx hb dL_law_1789 (by decide +kernel) ?_
      refine lv_goto (tgt := 1794) hx hb dL_law_1790 (by decide +kernel) ?_
      refine lv_aload_n hx hb dL_law_1794 rfl (lv_at hl 5 rfl) ?_
      refine lv_iload hx hb dL_law_1795 (lv_at hl 1 rfl) ?_
      refine lv_iconst (v := 3) hx hb dL_law_1797 (by decide +kernel) ?_
      refine lv_iadd hx hb dL_law_1798 ?_
      refine top_i (v := 3) (by decide +kernel) ?_
      refine va_sld hx hb hX hbl hbA hS (i := 3) (vin (by decide +kernel)) dL_law_1799 ?_
      refine top_i (v := z3) ez3 ?_
      refine call_i (av := [.ref n3900, .int z1, .int 1, .int z3]) F hP hD hS [(n3900, .inr (12, [.ref n3000, .ref n3001, .ref n3002, .ref n3003, .int 0, .ref n3004, .int 0, .int 0, .int 0, .int 0, .int 0, .int 0, .int 0, .int 0, .int 0, .int (-1), .int 0, .ref n3005, .ref n3006, .int 0, .ref n3007, .ref n3008, .int 0, .int 0, .int 0, .int 0, .int 0, .int 0, .int 0, .ref n3009, .ref n3010, .int 0, .int 0, .ref n3011, .ref n3012, .int 0, .int 0, .ref n3013, .ref n3014, .ref n3015, .int 0, .ref n3016, .ref n3017, .ref n3018])), (n3000, .inl (cy 1, 1300, .inl (fun _ => 0)))] [(n5000, .inl (cy 2, 1, .inr (.inl (fun _ => 0))))] [0, 1] [2] rfl rfl (by decide +kernel) (fun pr => va_runV (As := [.int z1, .int 1, .int z3]) (rest := []) ⟨hx, hb, hml, hown, hts⟩ (k242_X12_bestRow l D cy H.size n3900 z1 1 z3 n3000 n3001 n3002 n3003 n3004 n3005 n3006 n3007 n3008 n3009 n3010 n3011 n3012 n3013 n3014 n3015 n3016 n3017 n3018) (cwV 3 hts gw_X12_bestRow rfl rfl rfl (by decide +kernel) ⟨(by decide +kernel), (by decide +kernel)⟩) ⟨pr.1, va_recv hK hP (ci := 12) (q0 := 0) rfl rfl, pr.2⟩ rfl rfl hl.1 rfl (lv_room (Nat.le_of_ble_eq_true rfl)) dL_law_1800 ⟨(by decide +kernel), (by decide +kernel)⟩) (fun r u H locs hw hP hD hS => ?_)
      rcases hw with ⟨c800873, rfl, rfl⟩ | ⟨c800874, c800875, rfl, rfl⟩ | ⟨c800876, c800877, c800878, rfl, rfl⟩ | ⟨c800879, c800880, c800881, c800882, rfl, rfl⟩ | ⟨c800883, c800884, c800885, c800886, c800887, rfl, rfl⟩ | ⟨c800888, c800889, c800890, c800891, c800892, rfl, rfl⟩ | ⟨c800893, c800894, c800895, c800896, c800897, rfl, rfl⟩ | ⟨c800898, c800899, c800900, c800901, c800902, rfl, rfl⟩ | ⟨c800903, c800904, c800905, c800906, c800907, rfl, rfl⟩ | ⟨c800908, c800909, c800910, c800911, c800912, rfl, rfl⟩ | ⟨c800913, c800914, c800915, c800916, c800917, rfl, rfl⟩ | ⟨c800918, c800919, c800920, c800921, c800922, rfl, rfl⟩
      · have hP : va_P D vwCl [(n5000, .inl (cy 2, 1, .inr (.inl (fun _ => 0)))), (n3000, .inl (cy 1, 1300, .inl (fun _ => 0))), (n3900, .inr (12, [.ref n3000, .ref n3001, .ref n3002, .ref n3003, .int 1, .ref n3004, .int 0, .int 0, .int 0, .int 0, .int 0, .int 0, .int 0, .int 0, .int 0, .int (-1), .int 0, .ref n3005, .ref n3006, .int 0, .ref n3007, .ref n3008, .int 0, .int 0, .int 0, .int 0, .int 0, .int 0, .int 0, .ref n3009, .ref n3010, .int 0, .int 0, .ref n3011, .ref n3012, .int 0, .int 0, .ref n3013, .ref n3014, .ref n3015, .int 0, .ref n3016, .ref n3017, .ref n3018]))] H := hP
        have hD : va_D A [(n5000, .inl (cy 2, 1, .inr (.inl (fun _ => 0)))), (n3000, .inl (cy 1, 1300, .inl (fun _ => 0))), (n3900, .inr (12, [.ref n3000, .ref n3001, .ref n3002, .ref n3003, .int 1, .ref n3004, .int 0, .int 0, .int 0, .int 0, .int 0, .int 0, .int 0, .int 0, .int 0, .int (-1), .int 0, .ref n3005, .ref n3006, .int 0, .ref n3007, .ref n3008, .int 0, .int 0, .int 0, .int 0, .int 0, .int 0, .int 0, .ref n3009, .ref n3010, .int 0, .int 0, .ref n3011, .ref n3012, .int 0, .int 0, .ref n3013, .ref n3014, .ref n3015, .int 0, .ref n3016, .ref n3017, .ref n3018]))] := hD
        refine lv_istore (lv' := [(6, .int 0), (5, .int 1), (4, .int 0), (3, .ref n5000), (2, .ref n3900), (1, .ref n1900), (0, .ref b)]) hx hb dL_law_1803 hl (by decide +kernel) rfl (fun ls hl => ?_)
        refine lv_aload_n hx hb dL_law_1805 rfl (lv_at hl 4 rfl) ?_
        refine call_i (av := [.ref n3900]) F hP hD hS [(n3900, .inr (12, [.ref n3000, .ref n3001, .ref n3002, .ref n3003, .int 1, .ref n3004, .int 0, .int 0, .int 0, .int 0, .int 0, .int 0, .int 0, .int 0, .int 0, .int (-1), .int 0, .ref n3005, .ref n3006, .int 0, .ref n3007, .ref n3008, .int 0, .int 0, .int 0, .int 0, .int 0, .int 0, .int 0, .ref n3009, .ref n3010, .int 0, .int 0, .ref n3011, .ref n3012, .int 0, .int 0, .ref n3013, .ref n3014, .ref n3015, .int 0, .ref n3016, .ref n3017, .ref n3018]))] [(n5000, .inl (cy 2, 1, .inr (.inl (fun _ => 0)))), (n3000, .inl (cy 1, 1300, .inl (fun _ => 0)))] [2] [0, 1] rfl rfl (by decide +kernel) (fun pr => va_runV (As := []) (rest := []) ⟨hx, hb, hml, hown, hts⟩ (k333_X12_thrown l D cy H.size n3900 n3000 n3001 n3002 n3003 n3004 n3005 n3006 n3007 n3008 n3009 n3010 n3011 n3012 n3013 n3014 n3015 n3016 n3017 n3018) (cwV 0 hts gw_X12_thrown rfl rfl rfl (by decide +kernel) ⟨(by decide +kernel), (by decide +kernel)⟩) ⟨pr.1, va_recv hK hP (ci := 12) (q0 := 2) rfl rfl, pr.2⟩ rfl rfl hl.1 rfl (lv_room (Nat.le_of_ble_eq_true rfl)) dL_law_1806 ⟨(by decide +kernel), (by decide +kernel)⟩) (fun r u H locs hw hP hD hS => ?_)
        rcases hw with ⟨rfl, rfl⟩
        have hP : va_P D vwCl [(n5000, .inl (cy 2, 1, .inr (.inl (fun _ => 0)))), (n3000, .inl (cy 1, 1300, .inl (fun _ => 0))), (n3900, .inr (12, [.ref n3000, .ref n3001, .ref n3002, .ref n3003, .int 1, .ref n3004, .int 0, .int 0, .int 0, .int 0, .int 0, .int 0, .int 0, .int 0, .int 0, .int (-1), .int 0, .ref n3005, .ref n3006, .int 0, .ref n3007, .ref n3008, .int 0, .int 0, .int 0, .int 0, .int 0, .int 0, .int 0, .ref n3009, .ref n3010, .int 0, .int 0, .ref n3011, .ref n3012, .int 0, .int 0, .ref n3013, .ref n3014, .ref n3015, .int 0, .ref n3016, .ref n3017, .ref n3018]))] H := hP
        have hD : va_D A [(n5000, .inl (cy 2, 1, .inr (.inl (fun _ => 0)))), (n3000, .inl (cy 1, 1300, .inl (fun _ => 0))), (n3900, .inr (12, [.ref n3000, .ref n3001, .ref n3002, .ref n3003, .int 1, .ref n3004, .int 0, .int 0, .int 0, .int 0, .int 0, .int 0, .int 0, .int 0, .int 0, .int (-1), .int 0, .ref n3005, .ref n3006, .int 0, .ref n3007, .ref n3008, .int 0, .int 0, .int 0, .int 0, .int 0, .int 0, .int 0, .ref n3009, .ref n3010, .int 0, .int 0, .ref n3011, .ref n3012, .int 0, .int 0, .ref n3013, .ref n3014, .ref n3015, .int 0, .ref n3016, .ref n3017, .ref n3018]))] := hD
        refine lv_iload hx hb dL_law_1809 (lv_at hl 1 rfl) ?_
        refine lv_icmp_eq (tgt := 1816) hx hb dL_law_1811 (by decide +kernel) (fun _ => ?_) (fun h => absurd (by decide +kernel) h)
        refine lv_iload hx hb dL_law_1816 (lv_at hl 1 rfl) ?_
        refine lv_if_ne (tgt := 1833) hx hb dL_law_1818 (by decide +kernel) (fun _ => ?_) (fun h => absurd h (by decide +kernel))
        refine lv_goto (tgt := 2458) hx hb dL_law_1833 (by decide +kernel) ?_
        refine lv_iinc (v := 6) (lv' := [(4, .int 6), (6, .int 0), (5, .int 1), (3, .ref n5000), (2, .ref n3900), (1, .ref n1900), (0, .ref b)]) hx hb dL_law_2458 hl (k := 2) rfl (by decide) (by decide +kernel) rfl (fun ls hl => ?_)
        refine lv_goto (tgt := 23) hx hb dL_law_2461 (by decide +kernel) ?_
        refine lv_iload hx hb dL_law_23 (lv_at hl 0 rfl) ?_
        refine lv_aload_n hx hb dL_law_25 rfl (lv_at hl 6 rfl) ?_
        refine va_slen hx hb hX hbl hbA hS dL_law_26 ?_
        refine top_i (v := 6) rfl ?_
        refine lv_bipush (v := 6) hx hb dL_law_27 (by decide +kernel) ?_
        refine lv_isub hx hb dL_law_29 ?_
        refine top_i (v := 0) (by decide +kernel) ?_
        refine lv_icmp_gt (tgt := 2464) hx hb dL_law_30 (by decide +kernel) (fun _ => ?_) (fun h => absurd (by decide +kernel) h)
        refine lv_iconst (v := 1) hx hb dL_law_2464 (by decide +kernel) ?_
        refine va_forget (fun q hq => hAq _ (hS.2.2 q hq)) ?_
        refine W.widen (k := 600002) (n := 7302232) (by decide +kernel) (by decide +kernel) ?_
        exact lw_ret hx hb hr hlk dL_law_2465
      · exact (no_b (lo_eq c800874) (up_lt c800798) (by decide +kernel)).elim
      · exact (no_b (lo_eq c800876) (up_lt c800798) (by decide +kernel)).elim
      · exact (no_b (lo_eq c800879) (up_lt c800798) (by decide +kernel)).elim
      · exact (no_b (lo_eq c800883) (up_lt c800798) (by decide +kernel)).elim
      · exact (no_b (lo_eq c800888) (up_lt c800798) (by decide +kernel)).elim
      · exact (no_b (lo_eq c800893) (up_lt c800798) (by decide +kernel)).elim
      · exact (no_b (lo_eq c800898) (up_lt c800798) (by decide +kernel)).elim
      · exact (no_b (lo_eq c800903) (up_lt c800798) (by decide +kernel)).elim
      · exact (no_b (lo_eq c800908) (up_lt c800798) (by decide +kernel)).elim
      · exact (no_b (lo_eq c800913) (up_lt c800798) (by decide +kernel)).elim
      · exact (no_b (lo_eq c800918) (up_lt c800798) (by decide +kernel)).elim
    · obtain ⟨jj, hj, hjj⟩ := split_b (lo_nlt c800799) (up_lt c800800) 1 (by decide +kernel)
      obtain rfl : jj = 0 := by omega
      have c800926 : z1 = 0 := hjj.trans (by decide +kernel)
      clear hj hjj
      subst c800926
      have hP : va_P D vwCl [(n3900, .inr (12, [.ref n3000, .ref n3001, .ref n3002, .ref n3003, .int 0, .ref n3004, .int 0, .int 0, .int 0, .int 0, .int 0, .int 0, .int 0, .int 0, .int 0, .int (-1), .int 0, .ref n3005, .ref n3006, .int 0, .ref n3007, .ref n3008, .int 0, .int 0, .int 0, .int 0, .int 0, .int 0, .int 0, .ref n3009, .ref n3010, .int 0, .int 0, .ref n3011, .ref n3012, .int 0, .int 0, .ref n3013, .ref n3014, .ref n3015, .int 0, .ref n3016, .ref n3017, .ref n3018])), (n3000, .inl (cy 1, 1300, .inl (fun _ => 0))), (n5000, .inl (cy 2, 1, .inr (.inl (fun _ => 0))))] H := hP
      have hD : va_D A [(n3900, .inr (12, [.ref n3000, .ref n3001, .ref n3002, .ref n3003, .int 0, .ref n3004, .int 0, .int 0, .int 0, .int 0, .int 0, .int 0, .int 0, .int 0, .int 0, .int (-1), .int 0, .ref n3005, .ref n3006, .int 0, .ref n3007, .ref n3008, .int 0, .int 0, .int 0, .int 0, .int 0, .int 0, .int 0, .ref n3009, .ref n3010, .int 0, .int 0, .ref n3011, .ref n3012, .int 0, .int 0, .ref n3013, .ref n3014, .ref n3015, .int 0, .ref n3016, .ref n3017, .ref n3018])), (n3000, .inl (cy 1, 1300, .inl (fun _ => 0))), (n5000, .inl (cy 2, 1, .inr (.inl (fun _ => 0))))] := hD
      refine lv_istore (lv' := [(5, .int 1), (4, .int 0), (3, .ref n5000), (2, .ref n3900), (1, .ref n1900), (0, .ref b)]) hx hb dL_law_1771 hl (by decide +kernel) rfl (fun ls hl => ?_)
      refine lv_aload_n hx hb dL_law_1773 rfl (lv_at hl 3 rfl) ?_
      refine lv_aload_n hx hb dL_law_1774 rfl (lv_at hl 5 rfl) ?_
      refine lv_iload hx hb dL_law_1775 (lv_at hl 1 rfl) ?_
      refine lv_iconst (v := 1) hx hb dL_law_1777 (by decide +kernel) ?_
      refine lv_iadd hx hb dL_law_1778 ?_
      refine top_i (v := 1) (by decide +kernel) ?_
      refine va_sld hx hb hX hbl hbA hS (i := 1) (vin (by decide +kernel)) dL_law_1779 ?_
      refine top_i (v := 0) ez1 ?_
      refine lv_aload_n hx hb dL_law_1780 rfl (lv_at hl 5 rfl) ?_
      refine lv_iload hx hb dL_law_1781 (lv_at hl 1 rfl) ?_
      refine lv_iconst (v := 2) hx hb dL_law_1783 (by decide +kernel) ?_
      refine lv_iadd hx hb dL_law_1784 ?_
      refine top_i (v := 2) (by decide +kernel) ?_
      refine va_sld hx hb hX hbl hbA hS (i := 2) (vin (by decide +kernel)) dL_law_1785 ?_
      refine top_i (v := z2) ez2 ?_
      refine lv_if_eq (tgt := 1793) hx hb dL_law_1786 (by decide +kernel) (fun h => absurd h c800001) (fun _ => ?_)
      refine lv_iconst (v := 1) hx hb dL_law_1789 (by decide +kernel) ?_
      refine lv_goto (tgt := 1794) hx hb dL_law_1790 (by decide +kernel) ?_
      refine lv_aload_n hx hb dL_law_1794 rfl (lv_at hl 5 rfl) ?_
      refine lv_iload hx hb dL_law_1795 (lv_at hl 1 rfl) ?_
      refine lv_iconst (v := 3) hx hb dL_law_1797 (by decide +kernel) ?_
      refine lv_iadd hx hb dL_law_1798 ?_
      refine top_i (v := 3) (by decide +kernel) ?_
      refine va_sld hx hb hX hbl hbA hS (i := 3) (vin (by decide +kernel)) dL_law_1799 ?_
      refine top_i (v := z3) ez3 ?_
      refine call_i (av := [.ref n3900, .int 0, .int 1, .int z3]) F hP hD hS [(n3900, .inr (12, [.ref n3000, .ref n3001, .ref n3002, .ref n3003, .int 0, .ref n3004, .int 0, .int 0, .int 0, .int 0, .int 0, .int 0, .int 0, .int 0, .int 0, .int (-1), .int 0, .ref n3005, .ref n3006, .int 0, .ref n3007, .ref n3008, .int 0, .int 0, .int 0, .int 0, .int 0, .int 0, .int 0, .ref n3009, .ref n3010, .int 0, .int 0, .ref n3011, .ref n3012, .int 0, .int 0, .ref n3013, .ref n3014, .ref n3015, .int 0, .ref n3016, .ref n3017, .ref n3018])), (n3000, .inl (cy 1, 1300, .inl (fun _ => 0)))] [(n5000, .inl (cy 2, 1, .inr (.inl (fun _ => 0))))] [0, 1] [2] rfl rfl (by decide +kernel) (fun pr => va_runV (As := [.int 0, .int 1, .int z3]) (rest := []) ⟨hx, hb, hml, hown, hts⟩ (k242_X12_bestRow l D cy H.size n3900 0 1 z3 n3000 n3001 n3002 n3003 n3004 n3005 n3006 n3007 n3008 n3009 n3010 n3011 n3012 n3013 n3014 n3015 n3016 n3017 n3018) (cwV 3 hts gw_X12_bestRow rfl rfl rfl (by decide +kernel) ⟨(by decide +kernel), (by decide +kernel)⟩) ⟨pr.1, va_recv hK hP (ci := 12) (q0 := 0) rfl rfl, pr.2⟩ rfl rfl hl.1 rfl (lv_room (Nat.le_of_ble_eq_true rfl)) dL_law_1800 ⟨(by decide +kernel), (by decide +kernel)⟩) (fun r u H locs hw hP hD hS => ?_)
      rcases hw with ⟨c800928, rfl, rfl⟩ | ⟨c800929, c800930, rfl, rfl⟩ | ⟨c800931, c800932, c800933, rfl, rfl⟩ | ⟨c800934, c800935, c800936, c800937, rfl, rfl⟩ | ⟨c800938, c800939, c800940, c800941, c800942, rfl, rfl⟩ | ⟨c800943, c800944, c800945, c800946, c800947, rfl, rfl⟩ | ⟨c800948, c800949, c800950, c800951, c800952, rfl, rfl⟩ | ⟨c800953, c800954, c800955, c800956, c800957, rfl, rfl⟩ | ⟨c800958, c800959, c800960, c800961, c800962, rfl, rfl⟩ | ⟨c800963, c800964, c800965, c800966, c800967, rfl, rfl⟩ | ⟨c800968, c800969, c800970, c800971, c800972, rfl, rfl⟩ | ⟨c800973, c800974, c800975, c800976, c800977, rfl, rfl⟩
      · exact absurd (by decide +kernel) c800928
      · exact absurd c800930 c800802
      · have hP : va_P D vwCl [(n5000, .inl (cy 2, 1, .inr (.inl (fun _ => 0)))), (n3000, .inl (cy 1, 1300, .inl (fun _ => 0))), (n3900, .inr (12, [.ref n3000, .ref n3001, .ref n3002, .ref n3003, .int 1, .ref n3004, .int 0, .int 0, .int 0, .int 0, .int 0, .int 0, .int 0, .int 0, .int 0, .int (-1), .int 0, .ref n3005, .ref n3006, .int 0, .ref n3007, .ref n3008, .int 0, .int 0, .int 0, .int 0, .int 0, .int 0, .int 0, .ref n3009, .ref n3010, .int 0, .int 0, .ref n3011, .ref n3012, .int 0, .int 0, .ref n3013, .ref n3014, .ref n3015, .int 0, .ref n3016, .ref n3017, .ref n3018]))] H := hP
        have hD : va_D A [(n5000, .inl (cy 2, 1, .inr (.inl (fun _ => 0)))), (n3000, .inl (cy 1, 1300, .inl (fun _ => 0))), (n3900, .inr (12, [.ref n3000, .ref n3001, .ref n3002, .ref n3003, .int 1, .ref n3004, .int 0, .int 0, .int 0, .int 0, .int 0, .int 0, .int 0, .int 0, .int 0, .int (-1), .int 0, .ref n3005, .ref n3006, .int 0, .ref n3007, .ref n3008, .int 0, .int 0, .int 0, .int 0, .int 0, .int 0, .int 0, .ref n3009, .ref n3010, .int 0, .int 0, .ref n3011, .ref n3012, .int 0, .int 0, .ref n3013, .ref n3014, .ref n3015, .int 0, .ref n3016, .ref n3017, .ref n3018]))] := hD
        refine lv_istore (lv' := [(6, .int 0), (5, .int 1), (4, .int 0), (3, .ref n5000), (2, .ref n3900), (1, .ref n1900), (0, .ref b)]) hx hb dL_law_1803 hl (by decide +kernel) rfl (fun ls hl => ?_)
        refine lv_aload_n hx hb dL_law_1805 rfl (lv_at hl 4 rfl) ?_
        refine call_i (av := [.ref n3900]) F hP hD hS [(n3900, .inr (12, [.ref n3000, .ref n3001, .ref n3002, .ref n3003, .int 1, .ref n3004, .int 0, .int 0, .int 0, .int 0, .int 0, .int 0, .int 0, .int 0, .int 0, .int (-1), .int 0, .ref n3005, .ref n3006, .int 0, .ref n3007, .ref n3008, .int 0, .int 0, .int 0, .int 0, .int 0, .int 0, .int 0, .ref n3009, .ref n3010, .int 0, .int 0, .ref n3011, .ref n3012, .int 0, .int 0, .ref n3013, .ref n3014, .ref n3015, .int 0, .ref n3016, .ref n3017, .ref n3018]))] [(n5000, .inl (cy 2, 1, .inr (.inl (fun _ => 0)))), (n3000, .inl (cy 1, 1300, .inl (fun _ => 0)))] [2] [0, 1] rfl rfl (by decide +kernel) (fun pr => va_runV (As := []) (rest := []) ⟨hx, hb, hml, hown, hts⟩ (k333_X12_thrown l D cy H.size n3900 n3000 n3001 n3002 n3003 n3004 n3005 n3006 n3007 n3008 n3009 n3010 n3011 n3012 n3013 n3014 n3015 n3016 n3017 n3018) (cwV 0 hts gw_X12_thrown rfl rfl rfl (by decide +kernel) ⟨(by decide +kernel), (by decide +kernel)⟩) ⟨pr.1, va_recv hK hP (ci := 12) (q0 := 2) rfl rfl, pr.2⟩ rfl rfl hl.1 rfl (lv_room (Nat.le_of_ble_eq_true rfl)) dL_law_1806 ⟨(by decide +kernel), (by decide +kernel)⟩) (fun r u H locs hw hP hD hS => ?_)
        rcases hw with ⟨rfl, rfl⟩
        have hP : va_P D vwCl [(n5000, .inl (cy 2, 1, .inr (.inl (fun _ => 0)))), (n3000, .inl (cy 1, 1300, .inl (fun _ => 0))), (n3900, .inr (12, [.ref n3000, .ref n3001, .ref n3002, .ref n3003, .int 1, .ref n3004, .int 0, .int 0, .int 0, .int 0, .int 0, .int 0, .int 0, .int 0, .int 0, .int (-1), .int 0, .ref n3005, .ref n3006, .int 0, .ref n3007, .ref n3008, .int 0, .int 0, .int 0, .int 0, .int 0, .int 0, .int 0, .ref n3009, .ref n3010, .int 0, .int 0, .ref n3011, .ref n3012, .int 0, .int 0, .ref n3013, .ref n3014, .ref n3015, .int 0, .ref n3016, .ref n3017, .ref n3018]))] H := hP
        have hD : va_D A [(n5000, .inl (cy 2, 1, .inr (.inl (fun _ => 0)))), (n3000, .inl (cy 1, 1300, .inl (fun _ => 0))), (n3900, .inr (12, [.ref n3000, .ref n3001, .ref n3002, .ref n3003, .int 1, .ref n3004, .int 0, .int 0, .int 0, .int 0, .int 0, .int 0, .int 0, .int 0, .int 0, .int (-1), .int 0, .ref n3005, .ref n3006, .int 0, .ref n3007, .ref n3008, .int 0, .int 0, .int 0, .int 0, .int 0, .int 0, .int 0, .ref n3009, .ref n3010, .int 0, .int 0, .ref n3011, .ref n3012, .int 0, .int 0, .ref n3013, .ref n3014, .ref n3015, .int 0, .ref n3016, .ref n3017, .ref n3018]))] := hD
        refine lv_iload hx hb dL_law_1809 (lv_at hl 1 rfl) ?_
        refine lv_icmp_eq (tgt := 1816) hx hb dL_law_1811 (by decide +kernel) (fun _ => ?_) (fun h => absurd (by decide +kernel) h)
        refine lv_iload hx hb dL_law_1816 (lv_at hl 1 rfl) ?_
        refine lv_if_ne (tgt := 1833) hx hb dL_law_1818 (by decide +kernel) (fun _ => ?_) (fun h => absurd h (by decide +kernel))
        refine lv_goto (tgt := 2458) hx hb dL_law_1833 (by decide +kernel) ?_
        refine lv_iinc (v := 6) (lv' := [(4, .int 6), (6, .int 0), (5, .int 1), (3, .ref n5000), (2, .ref n3900), (1, .ref n1900), (0, .ref b)]) hx hb dL_law_2458 hl (k := 2) rfl (by decide) (by decide +kernel) rfl (fun ls hl => ?_)
        refine lv_goto (tgt := 23) hx hb dL_law_2461 (by decide +kernel) ?_
        refine lv_iload hx hb dL_law_23 (lv_at hl 0 rfl) ?_
        refine lv_aload_n hx hb dL_law_25 rfl (lv_at hl 6 rfl) ?_
        refine va_slen hx hb hX hbl hbA hS dL_law_26 ?_
        refine top_i (v := 6) rfl ?_
        refine lv_bipush (v := 6) hx hb dL_law_27 (by decide +kernel) ?_
        refine lv_isub hx hb dL_law_29 ?_
        refine top_i (v := 0) (by decide +kernel) ?_
        refine lv_icmp_gt (tgt := 2464) hx hb dL_law_30 (by decide +kernel) (fun _ => ?_) (fun h => absurd (by decide +kernel) h)
        refine lv_iconst (v := 1) hx hb dL_law_2464 (by decide +kernel) ?_
        refine va_forget (fun q hq => hAq _ (hS.2.2 q hq)) ?_
        refine W.widen (k := 600002) (n := 7302232) (by decide +kernel) (by decide +kernel) ?_
        exact lw_ret hx hb hr hlk dL_law_2465
      · exact (no_b (lo_nlt_w c800936) (up_lt c800803) (by decide +kernel)).elim
      · exact (no_b (lo_nlt_w c800940) (up_lt c800803) (by decide +kernel)).elim
      · exact (no_b (lo_nlt_w c800945) (up_lt c800803) (by decide +kernel)).elim
      · exact (no_b (lo_nlt_w c800950) (up_lt c800803) (by decide +kernel)).elim
      · exact (no_b (lo_nlt_w c800955) (up_lt c800803) (by decide +kernel)).elim
      · exact (no_b (lo_nlt_w c800960) (up_lt c800803) (by decide +kernel)).elim
      · exact (no_b (lo_nlt_w c800965) (up_lt c800803) (by decide +kernel)).elim
      · exact (no_b (lo_nlt_w c800970) (up_lt c800803) (by decide +kernel)).elim
      · exact (no_b (lo_nlt_w c800975) (up_lt c800803) (by decide +kernel)).elim
    · obtain ⟨jj, hj, hjj⟩ := split_b (lo_nlt c800804) (up_lt c800805) 1 (by decide +kernel)
      obtain rfl : jj = 0 := by omega
      have c800981 : z1 = 0 := hjj.trans (by decide +kernel)
      clear hj hjj
      subst c800981
      have hP : va_P D vwCl [(n3900, .inr (12, [.ref n3000, .ref n3001, .ref n3002, .ref n3003, .int 0, .ref n3004, .int 0, .int 0, .int 0, .int 0, .int 0, .int 0, .int 0, .int 0, .int 0, .int (-1), .int 0, .ref n3005, .ref n3006, .int 0, .ref n3007, .ref n3008, .int 0, .int 0, .int 0, .int 0, .int 0, .int 0, .int 0, .ref n3009, .ref n3010, .int 0, .int 0, .ref n3011, .ref n3012, .int 0, .int 0, .ref n3013, .ref n3014, .ref n3015, .int 0, .ref n3016, .ref n3017, .ref n3018])), (n3000, .inl (cy 1, 1300, .inl (fun _ => 0))), (n5000, .inl (cy 2, 1, .inr (.inl (fun _ => 0))))] H := hP
      have hD : va_D A [(n3900, .inr (12, [.ref n3000, .ref n3001, .ref n3002, .ref n3003, .int 0, .ref n3004, .int 0, .int 0, .int 0, .int 0, .int 0, .int 0, .int 0, .int 0, .int 0, .int (-1), .int 0, .ref n3005, .ref n3006, .int 0, .ref n3007, .ref n3008, .int 0, .int 0, .int 0, .int 0, .int 0, .int 0, .int 0, .ref n3009, .ref n3010, .int 0, .int 0, .ref n3011, .ref n3012, .int 0, .int 0, .ref n3013, .ref n3014, .ref n3015, .int 0, .ref n3016, .ref n3017, .ref n3018])), (n3000, .inl (cy 1, 1300, .inl (fun _ => 0))), (n5000, .inl (cy 2, 1, .inr (.inl (fun _ => 0))))] := hD
      refine lv_istore (lv' := [(5, .int 1), (4, .int 0), (3, .ref n5000), (2, .ref n3900), (1, .ref n1900), (0, .ref b)]) hx hb dL_law_1771 hl (by decide +kernel) rfl (fun ls hl => ?_)
      refine lv_aload_n hx hb dL_law_1773 rfl (lv_at hl 3 rfl) ?_
      refine lv_aload_n hx hb dL_law_1774 rfl (lv_at hl 5 rfl) ?_
      refine lv_iload hx hb dL_law_1775 (lv_at hl 1 rfl) ?_
      refine lv_iconst (v := 1) hx hb dL_law_1777 (by decide +kernel) ?_
      refine lv_iadd hx hb dL_law_1778 ?_
      refine top_i (v := 1) (by decide +kernel) ?_
      refine va_sld hx hb hX hbl hbA hS (i := 1) (vin (by decide +kernel)) dL_law_1779 ?_
      refine top_i (v := 0) ez1 ?_
      refine lv_aload_n hx hb dL_law_1780 rfl (lv_at hl 5 rfl) ?_
      refine lv_iload hx hb dL_law_1781 (lv_at hl 1 rfl) ?_
      refine lv_iconst (v := 2) hx hb dL_law_1783 (by decide +kernel) ?_
      refine lv_iadd hx hb dL_law_1784 ?_
      refine top_i (v := 2) (by decide +kernel) ?_
      refine va_sld hx hb hX hbl hbA hS (i := 2) (vin (by decide +kernel)) dL_law_1785 ?_
      refine top_i (v := z2) ez2 ?_
      refine lv_if_eq (tgt := 1793) hx hb dL_law_1786 (by decide +kernel) (fun h => absurd h c800001) (fun _ => ?_)
      refine lv_iconst (v := 1) hx hb dL_law_1789 (by decide +kernel) ?_
      refine lv_goto (tgt := 1794) hx hb dL_law_1790 (by decide +kernel) ?_
      refine lv_aload_n hx hb dL_law_1794 rfl (lv_at hl 5 rfl) ?_
      refine lv_iload hx hb dL_law_1795 (lv_at hl 1 rfl) ?_
      refine lv_iconst (v := 3) hx hb dL_law_1797 (by decide +kernel) ?_
      refine lv_iadd hx hb dL_law_1798 ?_
      refine top_i (v := 3) (by decide +kernel) ?_
      refine va_sld hx hb hX hbl hbA hS (i := 3) (vin (by decide +kernel)) dL_law_1799 ?_
      refine top_i (v := z3) ez3 ?_
      refine call_i (av := [.ref n3900, .int 0, .int 1, .int z3]) F hP hD hS [(n3900, .inr (12, [.ref n3000, .ref n3001, .ref n3002, .ref n3003, .int 0, .ref n3004, .int 0, .int 0, .int 0, .int 0, .int 0, .int 0, .int 0, .int 0, .int 0, .int (-1), .int 0, .ref n3005, .ref n3006, .int 0, .ref n3007, .ref n3008, .int 0, .int 0, .int 0, .int 0, .int 0, .int 0, .int 0, .ref n3009, .ref n3010, .int 0, .int 0, .ref n3011, .ref n3012, .int 0, .int 0, .ref n3013, .ref n3014, .ref n3015, .int 0, .ref n3016, .ref n3017, .ref n3018])), (n3000, .inl (cy 1, 1300, .inl (fun _ => 0)))] [(n5000, .inl (cy 2, 1, .inr (.inl (fun _ => 0))))] [0, 1] [2] rfl rfl (by decide +kernel) (fun pr => va_runV (As := [.int 0, .int 1, .int z3]) (rest := []) ⟨hx, hb, hml, hown, hts⟩ (k242_X12_bestRow l D cy H.size n3900 0 1 z3 n3000 n3001 n3002 n3003 n3004 n3005 n3006 n3007 n3008 n3009 n3010 n3011 n3012 n3013 n3014 n3015 n3016 n3017 n3018) (cwV 3 hts gw_X12_bestRow rfl rfl rfl (by decide +kernel) ⟨(by decide +kernel), (by decide +kernel)⟩) ⟨pr.1, va_recv hK hP (ci := 12) (q0 := 0) rfl rfl, pr.2⟩ rfl rfl hl.1 rfl (lv_room (Nat.le_of_ble_eq_true rfl)) dL_law_1800 ⟨(by decide +kernel), (by decide +kernel)⟩) (fun r u H locs hw hP hD hS => ?_)
      rcases hw with ⟨c800983, rfl, rfl⟩ | ⟨c800984, c800985, rfl, rfl⟩ | ⟨c800986, c800987, c800988, rfl, rfl⟩ | ⟨c800989, c800990, c800991, c800992, rfl, rfl⟩ | ⟨c800993, c800994, c800995, c800996, c800997, rfl, rfl⟩ | ⟨c800998, c800999, c801000, c801001, c801002, rfl, rfl⟩ | ⟨c801003, c801004, c801005, c801006, c801007, rfl, rfl⟩ | ⟨c801008, c801009, c801010, c801011, c801012, rfl, rfl⟩ | ⟨c801013, c801014, c801015, c801016, c801017, rfl, rfl⟩ | ⟨c801018, c801019, c801020, c801021, c801022, rfl, rfl⟩ | ⟨c801023, c801024, c801025, c801026, c801027, rfl, rfl⟩ | ⟨c801028, c801029, c801030, c801031, c801032, rfl, rfl⟩
      · exact absurd (by decide +kernel) c800983
      · exact absurd c800985 c800807
      · exact (no_b (lo_nlt c800809) (up_lt_w c800988) (by decide +kernel)).elim
      · have hP : va_P D vwCl [(n5000, .inl (cy 2, 1, .inr (.inl (fun _ => 0)))), (n3000, .inl (cy 1, 1300, .inl (fun _ => 0))), (n3900, .inr (12, [.ref n3000, .ref n3001, .ref n3002, .ref n3003, .int 1, .ref n3004, .int 0, .int 0, .int 0, .int 0, .int 0, .int 0, .int 0, .int 0, .int 0, .int (-1), .int 0, .ref n3005, .ref n3006, .int 0, .ref n3007, .ref n3008, .int 0, .int 0, .int 0, .int 0, .int 0, .int 0, .int 0, .ref n3009, .ref n3010, .int 0, .int 0, .ref n3011, .ref n3012, .int 0, .int 0, .ref n3013, .ref n3014, .ref n3015, .int 0, .ref n3016, .ref n3017, .ref n3018]))] H := hP
        have hD : va_D A [(n5000, .inl (cy 2, 1, .inr (.inl (fun _ => 0)))), (n3000, .inl (cy 1, 1300, .inl (fun _ => 0))), (n3900, .inr (12, [.ref n3000, .ref n3001, .ref n3002, .ref n3003, .int 1, .ref n3004, .int 0, .int 0, .int 0, .int 0, .int 0, .int 0, .int 0, .int 0, .int 0, .int (-1), .int 0, .ref n3005, .ref n3006, .int 0, .ref n3007, .ref n3008, .int 0, .int 0, .int 0, .int 0, .int 0, .int 0, .int 0, .ref n3009, .ref n3010, .int 0, .int 0, .ref n3011, .ref n3012, .int 0, .int 0, .ref n3013, .ref n3014, .ref n3015, .int 0, .ref n3016, .ref n3017, .ref n3018]))] := hD
        refine lv_istore (lv' := [(6, .int 0), (5, .int 1), (4, .int 0), (3, .ref n5000), (2, .ref n3900), (1, .ref n1900), (0, .ref b)]) hx hb dL_law_1803 hl (by decide +kernel) rfl (fun ls hl => ?_)
        refine lv_aload_n hx hb dL_law_1805 rfl (lv_at hl 4 rfl) ?_
        refine call_i (av := [.ref n3900]) F hP hD hS [(n3900, .inr (12, [.ref n3000, .ref n3001, .ref n3002, .ref n3003, .int 1, .ref n3004, .int 0, .int 0, .int 0, .int 0, .int 0, .int 0, .int 0, .int 0, .int 0, .int (-1), .int 0, .ref n3005, .ref n3006, .int 0, .ref n3007, .ref n3008, .int 0, .int 0, .int 0, .int 0, .int 0, .int 0, .int 0, .ref n3009, .ref n3010, .int 0, .int 0, .ref n3011, .ref n3012, .int 0, .int 0, .ref n3013, .ref n3014, .ref n3015, .int 0, .ref n3016, .ref n3017, .ref n3018]))] [(n5000, .inl (cy 2, 1, .inr (.inl (fun _ => 0)))), (n3000, .inl (cy 1, 1300, .inl (fun _ => 0)))] [2] [0, 1] rfl rfl (by decide +kernel) (fun pr => va_runV (As := []) (rest := []) ⟨hx, hb, hml, hown, hts⟩ (k333_X12_thrown l D cy H.size n3900 n3000 n3001 n3002 n3003 n3004 n3005 n3006 n3007 n3008 n3009 n3010 n3011 n3012 n3013 n3014 n3015 n3016 n3017 n3018) (cwV 0 hts gw_X12_thrown rfl rfl rfl (by decide +kernel) ⟨(by decide +kernel), (by decide +kernel)⟩) ⟨pr.1, va_recv hK hP (ci := 12) (q0 := 2) rfl rfl, pr.2⟩ rfl rfl hl.1 rfl (lv_room (Nat.le_of_ble_eq_true rfl)) dL_law_1806 ⟨(by decide +kernel), (by decide +kernel)⟩) (fun r u H locs hw hP hD hS => ?_)
        rcases hw with ⟨rfl, rfl⟩
        have hP : va_P D vwCl [(n5000, .inl (cy 2, 1, .inr (.inl (fun _ => 0)))), (n3000, .inl (cy 1, 1300, .inl (fun _ => 0))), (n3900, .inr (12, [.ref n3000, .ref n3001, .ref n3002, .ref n3003, .int 1, .ref n3004, .int 0, .int 0, .int 0, .int 0, .int 0, .int 0, .int 0, .int 0, .int 0, .int (-1), .int 0, .ref n3005, .ref n3006, .int 0, .ref n3007, .ref n3008, .int 0, .int 0, .int 0, .int 0, .int 0, .int 0, .int 0, .ref n3009, .ref n3010, .int 0, .int 0, .ref n3011, .ref n3012, .int 0, .int 0, .ref n3013, .ref n3014, .ref n3015, .int 0, .ref n3016, .ref n3017, .ref n3018]))] H := hP
        have hD : va_D A [(n5000, .inl (cy 2, 1, .inr (.inl (fun _ => 0)))), (n3000, .inl (cy 1, 1300, .inl (fun _ => 0))), (n3900, .inr (12, [.ref n3000, .ref n3001, .ref n3002, .ref n3003, .int 1, .ref n3004, .int 0, .int 0, .int 0, .int 0, .int 0, .int 0, .int 0, .int 0, .int 0, .int (-1), .int 0, .ref n3005, .ref n3006, .int 0, .ref n3007, .ref n3008, .int 0, .int 0, .int 0, .int 0, .int 0, .int 0, .int 0, .ref n3009, .ref n3010, .int 0, .int 0, .ref n3011, .ref n3012, .int 0, .int 0, .ref n3013, .ref n3014, .ref n3015, .int 0, .ref n3016, .ref n3017, .ref n3018]))] := hD
        refine lv_iload hx hb dL_law_1809 (lv_at hl 1 rfl) ?_
        refine lv_icmp_eq (tgt := 1816) hx hb dL_law_1811 (by decide +kernel) (fun _ => ?_) (fun h => absurd (by decide +kernel) h)
        refine lv_iload hx hb dL_law_1816 (lv_at hl 1 rfl) ?_
        refine lv_if_ne (tgt := 1833) hx hb dL_law_1818 (by decide +kernel) (fun _ => ?_) (fun h => absurd h (by decide +kernel))
        refine lv_goto (tgt := 2458) hx hb dL_law_1833 (by decide +kernel) ?_
        refine lv_iinc (v := 6) (lv' := [(4, .int 6), (6, .int 0), (5, .int 1), (3, .ref n5000), (2, .ref n3900), (1, .ref n1900), (0, .ref b)]) hx hb dL_law_2458 hl (k := 2) rfl (by decide) (by decide +kernel) rfl (fun ls hl => ?_)
        refine lv_goto (tgt := 23) hx hb dL_law_2461 (by decide +kernel) ?_
        refine lv_iload hx hb dL_law_23 (lv_at hl 0 rfl) ?_
        refine lv_aload_n hx hb dL_law_25 rfl (lv_at hl 6 rfl) ?_
        refine va_slen hx hb hX hbl hbA hS dL_law_26 ?_
        refine top_i (v := 6) rfl ?_
        refine lv_bipush (v := 6) hx hb dL_law_27 (by decide +kernel) ?_
        refine lv_isub hx hb dL_law_29 ?_
        refine top_i (v := 0) (by decide +kernel) ?_
        refine lv_icmp_gt (tgt := 2464) hx hb dL_law_30 (by decide +kernel) (fun _ => ?_) (fun h => absurd (by decide +kernel) h)
        refine lv_iconst (v := 1) hx hb dL_law_2464 (by decide +kernel) ?_
        refine va_forget (fun q hq => hAq _ (hS.2.2 q hq)) ?_
        refine W.widen (k := 600002) (n := 7302232) (by decide +kernel) (by decide +kernel) ?_
        exact lw_ret hx hb hr hlk dL_law_2465
      · exact (no_b (lo_nlt c800809) (up_nlt_w c800996) (by decide +kernel)).elim
      · exact (no_b (lo_nlt c800809) (up_nlt_w c801001) (by decide +kernel)).elim
      · exact (no_b (lo_nlt c800809) (up_nlt_w c801006) (by decide +kernel)).elim
      · exact (no_b (lo_nlt c800809) (up_nlt_w c801011) (by decide +kernel)).elim
      · exact (no_b (lo_nlt c800809) (up_nlt_w c801016) (by decide +kernel)).elim
      · exact (no_b (lo_nlt c800809) (up_nlt_w c801021) (by decide +kernel)).elim
      · exact (no_b (lo_nlt c800809) (up_nlt_w c801026) (by decide +kernel)).elim
      · exact (no_b (lo_nlt c800809) (up_nlt_w c801031) (by decide +kernel)).elim
    · have hP : va_P D vwCl [(n3900, .inr (12, [.ref n3000, .ref n3001, .ref n3002, .ref n3003, .int 0, .ref n3004, .int 0, .int 0, .int 0, .int 0, .int 0, .int 0, .int 0, .int 0, .int 0, .int (-1), .int 0, .ref n3005, .ref n3006, .int 0, .ref n3007, .ref n3008, .int 0, .int 0, .int 0, .int 0, .int 0, .int 0, .int 0, .ref n3009, .ref n3010, .int 0, .int 0, .ref n3011, .ref n3012, .int 0, .int 0, .ref n3013, .ref n3014, .ref n3015, .int 0, .ref n3016, .ref n3017, .ref n3018])), (n3000, .inl (cy 1, 1300, .inl (fun _ => 0))), (n5000, .inl (cy 2, 1, .inr (.inl (fun _ => 0))))] H := hP
      have hD : va_D A [(n3900, .inr (12, [.ref n3000, .ref n3001, .ref n3002, .ref n3003, .int 0, .ref n3004, .int 0, .int 0, .int 0, .int 0, .int 0, .int 0, .int 0, .int 0, .int 0, .int (-1), .int 0, .ref n3005, .ref n3006, .int 0, .ref n3007, .ref n3008, .int 0, .int 0, .int 0, .int 0, .int 0, .int 0, .int 0, .ref n3009, .ref n3010, .int 0, .int 0, .ref n3011, .ref n3012, .int 0, .int 0, .ref n3013, .ref n3014, .ref n3015, .int 0, .ref n3016, .ref n3017, .ref n3018])), (n3000, .inl (cy 1, 1300, .inl (fun _ => 0))), (n5000, .inl (cy 2, 1, .inr (.inl (fun _ => 0))))] := hD
      refine lv_istore (lv' := [(5, .int 1), (4, .int 0), (3, .ref n5000), (2, .ref n3900), (1, .ref n1900), (0, .ref b)]) hx hb dL_law_1771 hl (by decide +kernel) rfl (fun ls hl => ?_)
      refine lv_aload_n hx hb dL_law_1773 rfl (lv_at hl 3 rfl) ?_
      refine lv_aload_n hx hb dL_law_1774 rfl (lv_at hl 5 rfl) ?_
      refine lv_iload hx hb dL_law_1775 (lv_at hl 1 rfl) ?_
      refine lv_iconst (v := 1) hx hb dL_law_1777 (by decide +kernel) ?_
      refine lv_iadd hx hb dL_law_1778 ?_
      refine top_i (v := 1) (by decide +kernel) ?_
      refine va_sld hx hb hX hbl hbA hS (i := 1) (vin (by decide +kernel)) dL_law_1779 ?_
      refine top_i (v := z1) ez1 ?_
      refine lv_aload_n hx hb dL_law_1780 rfl (lv_at hl 5 rfl) ?_
      refine lv_iload hx hb dL_law_1781 (lv_at hl 1 rfl) ?_
      refine lv_iconst (v := 2) hx hb dL_law_1783 (by decide +kernel) ?_
      refine lv_iadd hx hb dL_law_1784 ?_
      refine top_i (v := 2) (by decide +kernel) ?_
      refine va_sld hx hb hX hbl hbA hS (i := 2) (vin (by decide +kernel)) dL_law_1785 ?_
      refine top_i (v := z2) ez2 ?_
      refine lv_if_eq (tgt := 1793) hx hb dL_law_1786 (by decide +kernel) (fun h => absurd h c800001) (fun _ => ?_)
      refine lv_iconst (v := 1) hx hb dL_law_1789 (by decide +kernel) ?_
      refine lv_goto (tgt := 1794) hx hb dL_law_1790 (by decide +kernel) ?_
      refine lv_aload_n hx hb dL_law_1794 rfl (lv_at hl 5 rfl) ?_
      refine lv_iload hx hb dL_law_1795 (lv_at hl 1 rfl) ?_
      refine lv_iconst (v := 3) hx hb dL_law_1797 (by decide +kernel) ?_
      refine lv_iadd hx hb dL_law_1798 ?_
      refine top_i (v := 3) (by decide +kernel) ?_
      refine va_sld hx hb hX hbl hbA hS (i := 3) (vin (by decide +kernel)) dL_law_1799 ?_
      refine top_i (v := z3) ez3 ?_
      refine call_i (av := [.ref n3900, .int z1, .int 1, .int z3]) F hP hD hS [(n3900, .inr (12, [.ref n3000, .ref n3001, .ref n3002, .ref n3003, .int 0, .ref n3004, .int 0, .int 0, .int 0, .int 0, .int 0, .int 0, .int 0, .int 0, .int 0, .int (-1), .int 0, .ref n3005, .ref n3006, .int 0, .ref n3007, .ref n3008, .int 0, .int 0, .int 0, .int 0, .int 0, .int 0, .int 0, .ref n3009, .ref n3010, .int 0, .int 0, .ref n3011, .ref n3012, .int 0, .int 0, .ref n3013, .ref n3014, .ref n3015, .int 0, .ref n3016, .ref n3017, .ref n3018])), (n3000, .inl (cy 1, 1300, .inl (fun _ => 0)))] [(n5000, .inl (cy 2, 1, .inr (.inl (fun _ => 0))))] [0, 1] [2] rfl rfl (by decide +kernel) (fun pr => va_runV (As := [.int z1, .int 1, .int z3]) (rest := []) ⟨hx, hb, hml, hown, hts⟩ (k242_X12_bestRow l D cy H.size n3900 z1 1 z3 n3000 n3001 n3002 n3003 n3004 n3005 n3006 n3007 n3008 n3009 n3010 n3011 n3012 n3013 n3014 n3015 n3016 n3017 n3018) (cwV 3 hts gw_X12_bestRow rfl rfl rfl (by decide +kernel) ⟨(by decide +kernel), (by decide +kernel)⟩) ⟨pr.1, va_recv hK hP (ci := 12) (q0 := 0) rfl rfl, pr.2⟩ rfl rfl hl.1 rfl (lv_room (Nat.le_of_ble_eq_true rfl)) dL_law_1800 ⟨(by decide +kernel), (by decide +kernel)⟩) (fun r u H locs hw hP hD hS => ?_)
      rcases hw with ⟨c801037, rfl, rfl⟩ | ⟨c801038, c801039, rfl, rfl⟩ | ⟨c801040, c801041, c801042, rfl, rfl⟩ | ⟨c801043, c801044, c801045, c801046, rfl, rfl⟩ | ⟨c801047, c801048, c801049, c801050, c801051, rfl, rfl⟩ | ⟨c801052, c801053, c801054, c801055, c801056, rfl, rfl⟩ | ⟨c801057, c801058, c801059, c801060, c801061, rfl, rfl⟩ | ⟨c801062, c801063, c801064, c801065, c801066, rfl, rfl⟩ | ⟨c801067, c801068, c801069, c801070, c801071, rfl, rfl⟩ | ⟨c801072, c801073, c801074, c801075, c801076, rfl, rfl⟩ | ⟨c801077, c801078, c801079, c801080, c801081, rfl, rfl⟩ | ⟨c801082, c801083, c801084, c801085, c801086, rfl, rfl⟩
      · have hP : va_P D vwCl [(n5000, .inl (cy 2, 1, .inr (.inl (fun _ => 0)))), (n3000, .inl (cy 1, 1300, .inl (fun _ => 0))), (n3900, .inr (12, [.ref n3000, .ref n3001, .ref n3002, .ref n3003, .int 1, .ref n3004, .int 0, .int 0, .int 0, .int 0, .int 0, .int 0, .int 0, .int 0, .int 0, .int (-1), .int 0, .ref n3005, .ref n3006, .int 0, .ref n3007, .ref n3008, .int 0, .int 0, .int 0, .int 0, .int 0, .int 0, .int 0, .ref n3009, .ref n3010, .int 0, .int 0, .ref n3011, .ref n3012, .int 0, .int 0, .ref n3013, .ref n3014, .ref n3015, .int 0, .ref n3016, .ref n3017, .ref n3018]))] H := hP
        have hD : va_D A [(n5000, .inl (cy 2, 1, .inr (.inl (fun _ => 0)))), (n3000, .inl (cy 1, 1300, .inl (fun _ => 0))), (n3900, .inr (12, [.ref n3000, .ref n3001, .ref n3002, .ref n3003, .int 1, .ref n3004, .int 0, .int 0, .int 0, .int 0, .int 0, .int 0, .int 0, .int 0, .int 0, .int (-1), .int 0, .ref n3005, .ref n3006, .int 0, .ref n3007, .ref n3008, .int 0, .int 0, .int 0, .int 0, .int 0, .int 0, .int 0, .ref n3009, .ref n3010, .int 0, .int 0, .ref n3011, .ref n3012, .int 0, .int 0, .ref n3013, .ref n3014, .ref n3015, .int 0, .ref n3016, .ref n3017, .ref n3018]))] := hD
        refine lv_istore (lv' := [(6, .int 0), (5, .int 1), (4, .int 0), (3, .ref n5000), (2, .ref n3900), (1, .ref n1900), (0, .ref b)]) hx hb dL_law_1803 hl (by decide +kernel) rfl (fun ls hl => ?_)
        refine lv_aload_n hx hb dL_law_1805 rfl (lv_at hl 4 rfl) ?_
        refine call_i (av := [.ref n3900]) F hP hD hS [(n3900, .inr (12, [.ref n3000, .ref n3001, .ref n3002, .ref n3003, .int 1, .ref n3004, .int 0, .int 0, .int 0, .int 0, .int 0, .int 0, .int 0, .int 0, .int 0, .int (-1), .int 0, .ref n3005, .ref n3006, .int 0, .ref n3007, .ref n3008, .int 0, .int 0, .int 0, .int 0, .int 0, .int 0, .int 0, .ref n3009, .ref n3010, .int 0, .int 0, .ref n3011, .ref n3012, .int 0, .int 0, .ref n3013, .ref n3014, .ref n3015, .int 0, .ref n3016, .ref n3017, .ref n3018]))] [(n5000, .inl (cy 2, 1, .inr (.inl (fun _ => 0)))), (n3000, .inl (cy 1, 1300, .inl (fun _ => 0)))] [2] [0, 1] rfl rfl (by decide +kernel) (fun pr => va_runV (As := []) (rest := []) ⟨hx, hb, hml, hown, hts⟩ (k333_X12_thrown l D cy H.size n3900 n3000 n3001 n3002 n3003 n3004 n3005 n3006 n3007 n3008 n3009 n3010 n3011 n3012 n3013 n3014 n3015 n3016 n3017 n3018) (cwV 0 hts gw_X12_thrown rfl rfl rfl (by decide +kernel) ⟨(by decide +kernel), (by decide +kernel)⟩) ⟨pr.1, va_recv hK hP (ci := 12) (q0 := 2) rfl rfl, pr.2⟩ rfl rfl hl.1 rfl (lv_room (Nat.le_of_ble_eq_true rfl)) dL_law_1806 ⟨(by decide +kernel), (by decide +kernel)⟩) (fun r u H locs hw hP hD hS => ?_)
        rcases hw with ⟨rfl, rfl⟩
        have hP : va_P D vwCl [(n5000, .inl (cy 2, 1, .inr (.inl (fun _ => 0)))), (n3000, .inl (cy 1, 1300, .inl (fun _ => 0))), (n3900, .inr (12, [.ref n3000, .ref n3001, .ref n3002, .ref n3003, .int 1, .ref n3004, .int 0, .int 0, .int 0, .int 0, .int 0, .int 0, .int 0, .int 0, .int 0, .int (-1), .int 0, .ref n3005, .ref n3006, .int 0, .ref n3007, .ref n3008, .int 0, .int 0, .int 0, .int 0, .int 0, .int 0, .int 0, .ref n3009, .ref n3010, .int 0, .int 0, .ref n3011, .ref n3012, .int 0, .int 0, .ref n3013, .ref n3014, .ref n3015, .int 0, .ref n3016, .ref n3017, .ref n3018]))] H := hP
        have hD : va_D A [(n5000, .inl (cy 2, 1, .inr (.inl (fun _ => 0)))), (n3000, .inl (cy 1, 1300, .inl (fun _ => 0))), (n3900, .inr (12, [.ref n3000, .ref n3001, .ref n3002, .ref n3003, .int 1, .ref n3004, .int 0, .int 0, .int 0, .int 0, .int 0, .int 0, .int 0, .int 0, .int 0, .int (-1), .int 0, .ref n3005, .ref n3006, .int 0, .ref n3007, .ref n3008, .int 0, .int 0, .int 0, .int 0, .int 0, .int 0, .int 0, .ref n3009, .ref n3010, .int 0, .int 0, .ref n3011, .ref n3012, .int 0, .int 0, .ref n3013, .ref n3014, .ref n3015, .int 0, .ref n3016, .ref n3017, .ref n3018]))] := hD
        refine lv_iload hx hb dL_law_1809 (lv_at hl 1 rfl) ?_
        refine lv_icmp_eq (tgt := 1816) hx hb dL_law_1811 (by decide +kernel) (fun _ => ?_) (fun h => absurd (by decide +kernel) h)
        refine lv_iload hx hb dL_law_1816 (lv_at hl 1 rfl) ?_
        refine lv_if_ne (tgt := 1833) hx hb dL_law_1818 (by decide +kernel) (fun _ => ?_) (fun h => absurd h (by decide +kernel))
        refine lv_goto (tgt := 2458) hx hb dL_law_1833 (by decide +kernel) ?_
        refine lv_iinc (v := 6) (lv' := [(4, .int 6), (6, .int 0), (5, .int 1), (3, .ref n5000), (2, .ref n3900), (1, .ref n1900), (0, .ref b)]) hx hb dL_law_2458 hl (k := 2) rfl (by decide) (by decide +kernel) rfl (fun ls hl => ?_)
        refine lv_goto (tgt := 23) hx hb dL_law_2461 (by decide +kernel) ?_
        refine lv_iload hx hb dL_law_23 (lv_at hl 0 rfl) ?_
        refine lv_aload_n hx hb dL_law_25 rfl (lv_at hl 6 rfl) ?_
        refine va_slen hx hb hX hbl hbA hS dL_law_26 ?_
        refine top_i (v := 6) rfl ?_
        refine lv_bipush (v := 6) hx hb dL_law_27 (by decide +kernel) ?_
        refine lv_isub hx hb dL_law_29 ?_
        refine top_i (v := 0) (by decide +kernel) ?_
        refine lv_icmp_gt (tgt := 2464) hx hb dL_law_30 (by decide +kernel) (fun _ => ?_) (fun h => absurd (by decide +kernel) h)
        refine lv_iconst (v := 1) hx hb dL_law_2464 (by decide +kernel) ?_
        refine va_forget (fun q hq => hAq _ (hS.2.2 q hq)) ?_
        refine W.widen (k := 600002) (n := 7302232) (by decide +kernel) (by decide +kernel) ?_
        exact lw_ret hx hb hr hlk dL_law_2465
      · exact (no_b (lo_nlt c800811) (up_eq c801038) (by decide +kernel)).elim
      · exact (no_b (lo_nlt c800811) (up_eq c801040) (by decide +kernel)).elim
      · exact (no_b (lo_nlt c800811) (up_eq c801043) (by decide +kernel)).elim
      · exact (no_b (lo_nlt c800811) (up_eq c801047) (by decide +kernel)).elim
      · exact (no_b (lo_nlt c800811) (up_eq c801052) (by decide +kernel)).elim
      · exact (no_b (lo_nlt c800811) (up_eq c801057) (by decide +kernel)).elim
      · exact (no_b (lo_nlt c800811) (up_eq c801062) (by decide +kernel)).elim
      · exact (no_b (lo_nlt c800811) (up_eq c801067) (by decide +kernel)).elim
      · exact (no_b (lo_nlt c800811) (up_eq c801072) (by decide +kernel)).elim
      · exact (no_b (lo_nlt c800811) (up_eq c801077) (by decide +kernel)).elim
      · exact (no_b (lo_nlt c800811) (up_eq c801082) (by decide +kernel)).elim
    · obtain ⟨jj, hj, hjj⟩ := split_b (lo_nlt c800812) (up_lt c800813) 1 (by decide +kernel)
      obtain rfl : jj = 0 := by omega
      have c801090 : z1 = 0 := hjj.trans (by decide +kernel)
      clear hj hjj
      subst c801090
      subst c800815
      have hP : va_P D vwCl [(n3900, .inr (12, [.ref n3000, .ref n3001, .ref n3002, .ref n3003, .int 0, .ref n3004, .int 0, .int 0, .int 0, .int 0, .int 0, .int 0, .int 0, .int 0, .int 0, .int (-1), .int 0, .ref n3005, .ref n3006, .int 0, .ref n3007, .ref n3008, .int 0, .int 0, .int 0, .int 0, .int 0, .int 0, .int 0, .ref n3009, .ref n3010, .int 0, .int 0, .ref n3011, .ref n3012, .int 0, .int 0, .ref n3013, .ref n3014, .ref n3015, .int 0, .ref n3016, .ref n3017, .ref n3018])), (n3000, .inl (cy 1, 1300, .inl (fun _ => 0))), (n5000, .inl (cy 2, 1, .inr (.inl (fun _ => 0))))] H := hP
      have hD : va_D A [(n3900, .inr (12, [.ref n3000, .ref n3001, .ref n3002, .ref n3003, .int 0, .ref n3004, .int 0, .int 0, .int 0, .int 0, .int 0, .int 0, .int 0, .int 0, .int 0, .int (-1), .int 0, .ref n3005, .ref n3006, .int 0, .ref n3007, .ref n3008, .int 0, .int 0, .int 0, .int 0, .int 0, .int 0, .int 0, .ref n3009, .ref n3010, .int 0, .int 0, .ref n3011, .ref n3012, .int 0, .int 0, .ref n3013, .ref n3014, .ref n3015, .int 0, .ref n3016, .ref n3017, .ref n3018])), (n3000, .inl (cy 1, 1300, .inl (fun _ => 0))), (n5000, .inl (cy 2, 1, .inr (.inl (fun _ => 0))))] := hD
      refine lv_istore (lv' := [(5, .int 0), (4, .int 0), (3, .ref n5000), (2, .ref n3900), (1, .ref n1900), (0, .ref b)]) hx hb dL_law_1771 hl (by decide +kernel) rfl (fun ls hl => ?_)
      refine lv_aload_n hx hb dL_law_1773 rfl (lv_at hl 3 rfl) ?_
      refine lv_aload_n hx hb dL_law_1774 rfl (lv_at hl 5 rfl) ?_
      refine lv_iload hx hb dL_law_1775 (lv_at hl 1 rfl) ?_
      refine lv_iconst (v := 1) hx hb dL_law_1777 (by decide +kernel) ?_
      refine lv_iadd hx hb dL_law_1778 ?_
      refine top_i (v := 1) (by decide +kernel) ?_
      refine va_sld hx hb hX hbl hbA hS (i := 1) (vin (by decide +kernel)) dL_law_1779 ?_
      refine top_i (v := 0) ez1 ?_
      refine lv_aload_n hx hb dL_law_1780 rfl (lv_at hl 5 rfl) ?_
      refine lv_iload hx hb dL_law_1781 (lv_at hl 1 rfl) ?_
      refine lv_iconst (v := 2) hx hb dL_law_1783 (by decide +kernel) ?_
      refine lv_iadd hx hb dL_law_1784 ?_
      refine top_i (v := 2) (by decide +kernel) ?_
      refine va_sld hx hb hX hbl hbA hS (i := 2) (vin (by decide +kernel)) dL_law_1785 ?_
      refine top_i (v := z2) ez2 ?_
      refine lv_if_eq (tgt := 1793) hx hb dL_law_1786 (by decide +kernel) (fun h => absurd h c800001) (fun _ => ?_)
      refine lv_iconst (v := 1) hx hb dL_law_1789 (by decide +kernel) ?_
      refine lv_goto (tgt := 1794) hx hb dL_law_1790 (by decide +kernel) ?_
      refine lv_aload_n hx hb dL_law_1794 rfl (lv_at hl 5 rfl) ?_
      refine lv_iload hx hb dL_law_1795 (lv_at hl 1 rfl) ?_
      refine lv_iconst (v := 3) hx hb dL_law_1797 (by decide +kernel) ?_
      refine lv_iadd hx hb dL_law_1798 ?_
      refine top_i (v := 3) (by decide +kernel) ?_
      refine va_sld hx hb hX hbl hbA hS (i := 3) (vin (by decide +kernel)) dL_law_1799 ?_
      refine top_i (v := 0) ez3 ?_
      refine call_i (av := [.ref n3900, .int 0, .int 1, .int 0]) F hP hD hS [(n3900, .inr (12, [.ref n3000, .ref n3001, .ref n3002, .ref n3003, .int 0, .ref n3004, .int 0, .int 0, .int 0, .int 0, .int 0, .int 0, .int 0, .int 0, .int 0, .int (-1), .int 0, .ref n3005, .ref n3006, .int 0, .ref n3007, .ref n3008, .int 0, .int 0, .int 0, .int 0, .int 0, .int 0, .int 0, .ref n3009, .ref n3010, .int 0, .int 0, .ref n3011, .ref n3012, .int 0, .int 0, .ref n3013, .ref n3014, .ref n3015, .int 0, .ref n3016, .ref n3017, .ref n3018])), (n3000, .inl (cy 1, 1300, .inl (fun _ => 0)))] [(n5000, .inl (cy 2, 1, .inr (.inl (fun _ => 0))))] [0, 1] [2] rfl rfl (by decide +kernel) (fun pr => va_runV (As := [.int 0, .int 1, .int 0]) (rest := []) ⟨hx, hb, hml, hown, hts⟩ (k242_X12_bestRow l D cy H.size n3900 0 1 0 n3000 n3001 n3002 n3003 n3004 n3005 n3006 n3007 n3008 n3009 n3010 n3011 n3012 n3013 n3014 n3015 n3016 n3017 n3018) (cwV 3 hts gw_X12_bestRow rfl rfl rfl (by decide +kernel) ⟨(by decide +kernel), (by decide +kernel)⟩) ⟨pr.1, va_recv hK hP (ci := 12) (q0 := 0) rfl rfl, pr.2⟩ rfl rfl hl.1 rfl (lv_room (Nat.le_of_ble_eq_true rfl)) dL_law_1800 ⟨(by decide +kernel), (by decide +kernel)⟩) (fun r u H locs hw hP hD hS => ?_)
      rcases hw with ⟨c801092, rfl, rfl⟩ | ⟨c801093, c801094, rfl, rfl⟩ | ⟨c801095, c801096, c801097, rfl, rfl⟩ | ⟨c801098, c801099, c801100, c801101, rfl, rfl⟩ | ⟨c801102, c801103, c801104, c801105, c801106, rfl, rfl⟩ | ⟨c801107, c801108, c801109, c801110, c801111, rfl, rfl⟩ | ⟨c801112, c801113, c801114, c801115, c801116, rfl, rfl⟩ | ⟨c801117, c801118, c801119, c801120, c801121, rfl, rfl⟩ | ⟨c801122, c801123, c801124, c801125, c801126, rfl, rfl⟩ | ⟨c801127, c801128, c801129, c801130, c801131, rfl, rfl⟩ | ⟨c801132, c801133, c801134, c801135, c801136, rfl, rfl⟩ | ⟨c801137, c801138, c801139, c801140, c801141, rfl, rfl⟩
      · exact absurd (by decide +kernel) c801092
      · have hP : va_P D vwCl [(n5000, .inl (cy 2, 1, .inr (.inl (fun _ => 0)))), (n3000, .inl (cy 1, 1300, .inl (fun _ => 0))), (n3900, .inr (12, [.ref n3000, .ref n3001, .ref n3002, .ref n3003, .int 0, .ref n3004, .int 0, .int 0, .int 0, .int 0, .int 0, .int 0, .int 0, .int 0, .int 0, .int (-1), .int 0, .ref n3005, .ref n3006, .int 0, .ref n3007, .ref n3008, .int 0, .int 0, .int 0, .int 0, .int 0, .int 0, .int 0, .ref n3009, .ref n3010, .int 0, .int 0, .ref n3011, .ref n3012, .int 0, .int 1, .ref n3013, .ref n3014, .ref n3015, .int 0, .ref n3016, .ref n3017, .ref n3018]))] H := hP
        have hD : va_D A [(n5000, .inl (cy 2, 1, .inr (.inl (fun _ => 0)))), (n3000, .inl (cy 1, 1300, .inl (fun _ => 0))), (n3900, .inr (12, [.ref n3000, .ref n3001, .ref n3002, .ref n3003, .int 0, .ref n3004, .int 0, .int 0, .int 0, .int 0, .int 0, .int 0, .int 0, .int 0, .int 0, .int (-1), .int 0, .ref n3005, .ref n3006, .int 0, .ref n3007, .ref n3008, .int 0, .int 0, .int 0, .int 0, .int 0, .int 0, .int 0, .ref n3009, .ref n3010, .int 0, .int 0, .ref n3011, .ref n3012, .int 0, .int 1, .ref n3013, .ref n3014, .ref n3015, .int 0, .ref n3016, .ref n3017, .ref n3018]))] := hD
        refine lv_istore (lv' := [(6, .int 0), (5, .int 0), (4, .int 0), (3, .ref n5000), (2, .ref n3900), (1, .ref n1900), (0, .ref b)]) hx hb dL_law_1803 hl (by decide +kernel) rfl (fun ls hl => ?_)
        refine lv_aload_n hx hb dL_law_1805 rfl (lv_at hl 4 rfl) ?_
        refine call_i (av := [.ref n3900]) F hP hD hS [(n3900, .inr (12, [.ref n3000, .ref n3001, .ref n3002, .ref n3003, .int 0, .ref n3004, .int 0, .int 0, .int 0, .int 0, .int 0, .int 0, .int 0, .int 0, .int 0, .int (-1), .int 0, .ref n3005, .ref n3006, .int 0, .ref n3007, .ref n3008, .int 0, .int 0, .int 0, .int 0, .int 0, .int 0, .int 0, .ref n3009, .ref n3010, .int 0, .int 0, .ref n3011, .ref n3012, .int 0, .int 1, .ref n3013, .ref n3014, .ref n3015, .int 0, .ref n3016, .ref n3017, .ref n3018]))] [(n5000, .inl (cy 2, 1, .inr (.inl (fun _ => 0)))), (n3000, .inl (cy 1, 1300, .inl (fun _ => 0)))] [2] [0, 1] rfl rfl (by decide +kernel) (fun pr => va_runV (As := []) (rest := []) ⟨hx, hb, hml, hown, hts⟩ (k338_X12_thrown l D cy H.size n3900 n3000 n3001 n3002 n3003 n3004 n3005 n3006 n3007 n3008 n3009 n3010 n3011 n3012 n3013 n3014 n3015 n3016 n3017 n3018) (cwV 0 hts gw_X12_thrown rfl rfl rfl (by decide +kernel) ⟨(by decide +kernel), (by decide +kernel)⟩) ⟨pr.1, va_recv hK hP (ci := 12) (q0 := 2) rfl rfl, pr.2⟩ rfl rfl hl.1 rfl (lv_room (Nat.le_of_ble_eq_true rfl)) dL_law_1806 ⟨(by decide +kernel), (by decide +kernel)⟩) (fun r u H locs hw hP hD hS => ?_)
        rcases hw with ⟨rfl, rfl⟩
        have hP : va_P D vwCl [(n5000, .inl (cy 2, 1, .inr (.inl (fun _ => 0)))), (n3000, .inl (cy 1, 1300, .inl (fun _ => 0))), (n3900, .inr (12, [.ref n3000, .ref n3001, .ref n3002, .ref n3003, .int 0, .ref n3004, .int 0, .int 0, .int 0, .int 0, .int 0, .int 0, .int 0, .int 0, .int 0, .int (-1), .int 0, .ref n3005, .ref n3006, .int 0, .ref n3007, .ref n3008, .int 0, .int 0, .int 0, .int 0, .int 0, .int 0, .int 0, .ref n3009, .ref n3010, .int 0, .int 0, .ref n3011, .ref n3012, .int 0, .int 1, .ref n3013, .ref n3014, .ref n3015, .int 0, .ref n3016, .ref n3017, .ref n3018]))] H := hP
        have hD : va_D A [(n5000, .inl (cy 2, 1, .inr (.inl (fun _ => 0)))), (n3000, .inl (cy 1, 1300, .inl (fun _ => 0))), (n3900, .inr (12, [.ref n3000, .ref n3001, .ref n3002, .ref n3003, .int 0, .ref n3004, .int 0, .int 0, .int 0, .int 0, .int 0, .int 0, .int 0, .int 0, .int 0, .int (-1), .int 0, .ref n3005, .ref n3006, .int 0, .ref n3007, .ref n3008, .int 0, .int 0, .int 0, .int 0, .int 0, .int 0, .int 0, .ref n3009, .ref n3010, .int 0, .int 0, .ref n3011, .ref n3012, .int 0, .int 1, .ref n3013, .ref n3014, .ref n3015, .int 0, .ref n3016, .ref n3017, .ref n3018]))] := hD
        refine lv_iload hx hb dL_law_1809 (lv_at hl 1 rfl) ?_
        refine lv_icmp_eq (tgt := 1816) hx hb dL_law_1811 (by decide +kernel) (fun _ => ?_) (fun h => absurd (by decide +kernel) h)
        refine lv_iload hx hb dL_law_1816 (lv_at hl 1 rfl) ?_
        refine lv_if_ne (tgt := 1833) hx hb dL_law_1818 (by decide +kernel) (fun h => absurd (by decide +kernel) h) (fun _ => ?_)
        refine lv_aload_n hx hb dL_law_1821 rfl (lv_at hl 3 rfl) ?_
        refine lv_iconst (v := 0) hx hb dL_law_1822 (by decide +kernel) ?_
        refine va_lald hx hb hK hP 0 2 rfl rfl (i := 0) (vin (by decide +kernel)) dL_law_1823 ?_
        refine top_l (v := 0) (by decide +kernel) ?_
        refine lv_iload hx hb dL_law_1824 (lv_at hl 0 rfl) ?_
        refine lv_i2l (v := 0) hx hb dL_law_1826 (by decide +kernel) ?_
        refine W.lcmp hx hb dL_law_1827 ?_
        refine top_i (v := 0) (by decide +kernel) ?_
        refine lv_if_eq (tgt := 1833) hx hb dL_law_1828 (by decide +kernel) (fun _ => ?_) (fun h => absurd (by decide +kernel) h)
        refine lv_goto (tgt := 2458) hx hb dL_law_1833 (by decide +kernel) ?_
        refine lv_iinc (v := 6) (lv' := [(4, .int 6), (6, .int 0), (5, .int 0), (3, .ref n5000), (2, .ref n3900), (1, .ref n1900), (0, .ref b)]) hx hb dL_law_2458 hl (k := 2) rfl (by decide) (by decide +kernel) rfl (fun ls hl => ?_)
        refine lv_goto (tgt := 23) hx hb dL_law_2461 (by decide +kernel) ?_
        refine lv_iload hx hb dL_law_23 (lv_at hl 0 rfl) ?_
        refine lv_aload_n hx hb dL_law_25 rfl (lv_at hl 6 rfl) ?_
        refine va_slen hx hb hX hbl hbA hS dL_law_26 ?_
        refine top_i (v := 6) rfl ?_
        refine lv_bipush (v := 6) hx hb dL_law_27 (by decide +kernel) ?_
        refine lv_isub hx hb dL_law_29 ?_
        refine top_i (v := 0) (by decide +kernel) ?_
        refine lv_icmp_gt (tgt := 2464) hx hb dL_law_30 (by decide +kernel) (fun _ => ?_) (fun h => absurd (by decide +kernel) h)
        refine lv_iconst (v := 1) hx hb dL_law_2464 (by decide +kernel) ?_
        refine va_forget (fun q hq => hAq _ (hS.2.2 q hq)) ?_
        refine W.widen (k := 600002) (n := 7302232) (by decide +kernel) (by decide +kernel) ?_
        exact lw_ret hx hb hr hlk dL_law_2465
      · exact absurd (by decide +kernel) c801096
      · exact absurd (by decide +kernel) c801099
      · exact absurd (by decide +kernel) c801103
      · exact absurd (by decide +kernel) c801108
      · exact absurd (by decide +kernel) c801113
      · exact absurd (by decide +kernel) c801118
      · exact absurd (by decide +kernel) c801123
      · exact absurd (by decide +kernel) c801128
      · exact absurd (by decide +kernel) c801133
      · exact absurd (by decide +kernel) c801138
    · obtain ⟨jj, hj, hjj⟩ := split_b (lo_nlt c800816) (up_lt c800817) 1 (by decide +kernel)
      obtain rfl : jj = 0 := by omega
      have c801146 : z1 = 0 := hjj.trans (by decide +kernel)
      clear hj hjj
      subst c801146
      subst c800822
      have hP : va_P D vwCl [(n3900, .inr (12, [.ref n3000, .ref n3001, .ref n3002, .ref n3003, .int 0, .ref n3004, .int 0, .int 0, .int 0, .int 0, .int 0, .int 0, .int 0, .int 0, .int 0, .int (-1), .int 0, .ref n3005, .ref n3006, .int 0, .ref n3007, .ref n3008, .int 0, .int 0, .int 0, .int 0, .int 0, .int 0, .int 0, .ref n3009, .ref n3010, .int 0, .int 0, .ref n3011, .ref n3012, .int 0, .int 0, .ref n3013, .ref n3014, .ref n3015, .int 0, .ref n3016, .ref n3017, .ref n3018])), (n3000, .inl (cy 1, 1300, .inl (fun _ => 0))), (n5000, .inl (cy 2, 1, .inr (.inl (vp_updL (fun _ => 0) 0 (-1)))))] H := hP
      have hD : va_D A [(n3900, .inr (12, [.ref n3000, .ref n3001, .ref n3002, .ref n3003, .int 0, .ref n3004, .int 0, .int 0, .int 0, .int 0, .int 0, .int 0, .int 0, .int 0, .int 0, .int (-1), .int 0, .ref n3005, .ref n3006, .int 0, .ref n3007, .ref n3008, .int 0, .int 0, .int 0, .int 0, .int 0, .int 0, .int 0, .ref n3009, .ref n3010, .int 0, .int 0, .ref n3011, .ref n3012, .int 0, .int 0, .ref n3013, .ref n3014, .ref n3015, .int 0, .ref n3016, .ref n3017, .ref n3018])), (n3000, .inl (cy 1, 1300, .inl (fun _ => 0))), (n5000, .inl (cy 2, 1, .inr (.inl (vp_updL (fun _ => 0) 0 (-1)))))] := hD
      refine lv_istore (lv' := [(5, .int 0), (4, .int 0), (3, .ref n5000), (2, .ref n3900), (1, .ref n1900), (0, .ref b)]) hx hb dL_law_1771 hl (by decide +kernel) rfl (fun ls hl => ?_)
      refine lv_aload_n hx hb dL_law_1773 rfl (lv_at hl 3 rfl) ?_
      refine lv_aload_n hx hb dL_law_1774 rfl (lv_at hl 5 rfl) ?_
      refine lv_iload hx hb dL_law_1775 (lv_at hl 1 rfl) ?_
      refine lv_iconst (v := 1) hx hb dL_law_1777 (by decide +kernel) ?_
      refine lv_iadd hx hb dL_law_1778 ?_
      refine top_i (v := 1) (by decide +kernel) ?_
      refine va_sld hx hb hX hbl hbA hS (i := 1) (vin (by decide +kernel)) dL_law_1779 ?_
      refine top_i (v := 0) ez1 ?_
      refine lv_aload_n hx hb dL_law_1780 rfl (lv_at hl 5 rfl) ?_
      refine lv_iload hx hb dL_law_1781 (lv_at hl 1 rfl) ?_
      refine lv_iconst (v := 2) hx hb dL_law_1783 (by decide +kernel) ?_
      refine lv_iadd hx hb dL_law_1784 ?_
      refine top_i (v := 2) (by decide +kernel) ?_
      refine va_sld hx hb hX hbl hbA hS (i := 2) (vin (by decide +kernel)) dL_law_1785 ?_
      refine top_i (v := z2) ez2 ?_
      refine lv_if_eq (tgt := 1793) hx hb dL_law_1786 (by decide +kernel) (fun h => absurd h c800001) (fun _ => ?_)
      refine lv_iconst (v := 1) hx hb dL_law_1789 (by decide +kernel) ?_
      refine lv_goto (tgt := 1794) hx hb dL_law_1790 (by decide +kernel) ?_
      refine lv_aload_n hx hb dL_law_1794 rfl (lv_at hl 5 rfl) ?_
      refine lv_iload hx hb dL_law_1795 (lv_at hl 1 rfl) ?_
      refine lv_iconst (v := 3) hx hb dL_law_1797 (by decide +kernel) ?_
      refine lv_iadd hx hb dL_law_1798 ?_
      refine top_i (v := 3) (by decide +kernel) ?_
      refine va_sld hx hb hX hbl hbA hS (i := 3) (vin (by decide +kernel)) dL_law_1799 ?_
      refine top_i (v := 10) ez3 ?_
      refine call_i (av := [.ref n3900, .int 0, .int 1, .int 10]) F hP hD hS [(n3900, .inr (12, [.ref n3000, .ref n3001, .ref n3002, .ref n3003, .int 0, .ref n3004, .int 0, .int 0, .int 0, .int 0, .int 0, .int 0, .int 0, .int 0, .int 0, .int (-1), .int 0, .ref n3005, .ref n3006, .int 0, .ref n3007, .ref n3008, .int 0, .int 0, .int 0, .int 0, .int 0, .int 0, .int 0, .ref n3009, .ref n3010, .int 0, .int 0, .ref n3011, .ref n3012, .int 0, .int 0, .ref n3013, .ref n3014, .ref n3015, .int 0, .ref n3016, .ref n3017, .ref n3018])), (n3000, .inl (cy 1, 1300, .inl (fun _ => 0)))] [(n5000, .inl (cy 2, 1, .inr (.inl (vp_updL (fun _ => 0) 0 (-1)))))] [0, 1] [2] rfl rfl (by decide +kernel) (fun pr => va_runV (As := [.int 0, .int 1, .int 10]) (rest := []) ⟨hx, hb, hml, hown, hts⟩ (k242_X12_bestRow l D cy H.size n3900 0 1 10 n3000 n3001 n3002 n3003 n3004 n3005 n3006 n3007 n3008 n3009 n3010 n3011 n3012 n3013 n3014 n3015 n3016 n3017 n3018) (cwV 3 hts gw_X12_bestRow rfl rfl rfl (by decide +kernel) ⟨(by decide +kernel), (by decide +kernel)⟩) ⟨pr.1, va_recv hK hP (ci := 12) (q0 := 0) rfl rfl, pr.2⟩ rfl rfl hl.1 rfl (lv_room (Nat.le_of_ble_eq_true rfl)) dL_law_1800 ⟨(by decide +kernel), (by decide +kernel)⟩) (fun r u H locs hw hP hD hS => ?_)
      rcases hw with ⟨c801148, rfl, rfl⟩ | ⟨c801149, c801150, rfl, rfl⟩ | ⟨c801151, c801152, c801153, rfl, rfl⟩ | ⟨c801154, c801155, c801156, c801157, rfl, rfl⟩ | ⟨c801158, c801159, c801160, c801161, c801162, rfl, rfl⟩ | ⟨c801163, c801164, c801165, c801166, c801167, rfl, rfl⟩ | ⟨c801168, c801169, c801170, c801171, c801172, rfl, rfl⟩ | ⟨c801173, c801174, c801175, c801176, c801177, rfl, rfl⟩ | ⟨c801178, c801179, c801180, c801181, c801182, rfl, rfl⟩ | ⟨c801183, c801184, c801185, c801186, c801187, rfl, rfl⟩ | ⟨c801188, c801189, c801190, c801191, c801192, rfl, rfl⟩ | ⟨c801193, c801194, c801195, c801196, c801197, rfl, rfl⟩
      · exact absurd (by decide +kernel) c801148
      · exact absurd c801150 (by decide +kernel)
      · exact absurd c801153 (by decide +kernel)
      · exact absurd c801157 (by decide +kernel)
      · have hP : va_P D vwCl [(n5000, .inl (cy 2, 1, .inr (.inl (vp_updL (fun _ => 0) 0 (-1))))), (n3000, .inl (cy 1, 1300, .inl (fun _ => 0))), (n3900, .inr (12, [.ref n3000, .ref n3001, .ref n3002, .ref n3003, .int 0, .ref n3004, .int 0, .int 0, .int 0, .int 0, .int 0, .int 0, .int 0, .int 0, .int 0, .int (-1), .int 0, .ref n3005, .ref n3006, .int 0, .ref n3007, .ref n3008, .int 0, .int 0, .int 0, .int 0, .int 0, .int 0, .int 0, .ref n3009, .ref n3010, .int 0, .int 0, .ref n3011, .ref n3012, .int 0, .int 1, .ref n3013, .ref n3014, .ref n3015, .int 0, .ref n3016, .ref n3017, .ref n3018]))] H := hP
        have hD : va_D A [(n5000, .inl (cy 2, 1, .inr (.inl (vp_updL (fun _ => 0) 0 (-1))))), (n3000, .inl (cy 1, 1300, .inl (fun _ => 0))), (n3900, .inr (12, [.ref n3000, .ref n3001, .ref n3002, .ref n3003, .int 0, .ref n3004, .int 0, .int 0, .int 0, .int 0, .int 0, .int 0, .int 0, .int 0, .int 0, .int (-1), .int 0, .ref n3005, .ref n3006, .int 0, .ref n3007, .ref n3008, .int 0, .int 0, .int 0, .int 0, .int 0, .int 0, .int 0, .ref n3009, .ref n3010, .int 0, .int 0, .ref n3011, .ref n3012, .int 0, .int 1, .ref n3013, .ref n3014, .ref n3015, .int 0, .ref n3016, .ref n3017, .ref n3018]))] := hD
        refine lv_istore (lv' := [(6, .int (-1)), (5, .int 0), (4, .int 0), (3, .ref n5000), (2, .ref n3900), (1, .ref n1900), (0, .ref b)]) hx hb dL_law_1803 hl (by decide +kernel) rfl (fun ls hl => ?_)
        refine lv_aload_n hx hb dL_law_1805 rfl (lv_at hl 4 rfl) ?_
        refine call_i (av := [.ref n3900]) F hP hD hS [(n3900, .inr (12, [.ref n3000, .ref n3001, .ref n3002, .ref n3003, .int 0, .ref n3004, .int 0, .int 0, .int 0, .int 0, .int 0, .int 0, .int 0, .int 0, .int 0, .int (-1), .int 0, .ref n3005, .ref n3006, .int 0, .ref n3007, .ref n3008, .int 0, .int 0, .int 0, .int 0, .int 0, .int 0, .int 0, .ref n3009, .ref n3010, .int 0, .int 0, .ref n3011, .ref n3012, .int 0, .int 1, .ref n3013, .ref n3014, .ref n3015, .int 0, .ref n3016, .ref n3017, .ref n3018]))] [(n5000, .inl (cy 2, 1, .inr (.inl (vp_updL (fun _ => 0) 0 (-1))))), (n3000, .inl (cy 1, 1300, .inl (fun _ => 0)))] [2] [0, 1] rfl rfl (by decide +kernel) (fun pr => va_runV (As := []) (rest := []) ⟨hx, hb, hml, hown, hts⟩ (k338_X12_thrown l D cy H.size n3900 n3000 n3001 n3002 n3003 n3004 n3005 n3006 n3007 n3008 n3009 n3010 n3011 n3012 n3013 n3014 n3015 n3016 n3017 n3018) (cwV 0 hts gw_X12_thrown rfl rfl rfl (by decide +kernel) ⟨(by decide +kernel), (by decide +kernel)⟩) ⟨pr.1, va_recv hK hP (ci := 12) (q0 := 2) rfl rfl, pr.2⟩ rfl rfl hl.1 rfl (lv_room (Nat.le_of_ble_eq_true rfl)) dL_law_1806 ⟨(by decide +kernel), (by decide +kernel)⟩) (fun r u H locs hw hP hD hS => ?_)
        rcases hw with ⟨rfl, rfl⟩
        have hP : va_P D vwCl [(n5000, .inl (cy 2, 1, .inr (.inl (vp_updL (fun _ => 0) 0 (-1))))), (n3000, .inl (cy 1, 1300, .inl (fun _ => 0))), (n3900, .inr (12, [.ref n3000, .ref n3001, .ref n3002, .ref n3003, .int 0, .ref n3004, .int 0, .int 0, .int 0, .int 0, .int 0, .int 0, .int 0, .int 0, .int 0, .int (-1), .int 0, .ref n3005, .ref n3006, .int 0, .ref n3007, .ref n3008, .int 0, .int 0, .int 0, .int 0, .int 0, .int 0, .int 0, .ref n3009, .ref n3010, .int 0, .int 0, .ref n3011, .ref n3012, .int 0, .int 1, .ref n3013, .ref n3014, .ref n3015, .int 0, .ref n3016, .ref n3017, .ref n3018]))] H := hP
        have hD : va_D A [(n5000, .inl (cy 2, 1, .inr (.inl (vp_updL (fun _ => 0) 0 (-1))))), (n3000, .inl (cy 1, 1300, .inl (fun _ => 0))), (n3900, .inr (12, [.ref n3000, .ref n3001, .ref n3002, .ref n3003, .int 0, .ref n3004, .int 0, .int 0, .int 0, .int 0, .int 0, .int 0, .int 0, .int 0, .int 0, .int (-1), .int 0, .ref n3005, .ref n3006, .int 0, .ref n3007, .ref n3008, .int 0, .int 0, .int 0, .int 0, .int 0, .int 0, .int 0, .ref n3009, .ref n3010, .int 0, .int 0, .ref n3011, .ref n3012, .int 0, .int 1, .ref n3013, .ref n3014, .ref n3015, .int 0, .ref n3016, .ref n3017, .ref n3018]))] := hD
        refine lv_iload hx hb dL_law_1809 (lv_at hl 1 rfl) ?_
        refine lv_icmp_eq (tgt := 1816) hx hb dL_law_1811 (by decide +kernel) (fun _ => ?_) (fun h => absurd (by decide +kernel) h)
        refine lv_iload hx hb dL_law_1816 (lv_at hl 1 rfl) ?_
        refine lv_if_ne (tgt := 1833) hx hb dL_law_1818 (by decide +kernel) (fun h => absurd (by decide +kernel) h) (fun _ => ?_)
        refine lv_aload_n hx hb dL_law_1821 rfl (lv_at hl 3 rfl) ?_
        refine lv_iconst (v := 0) hx hb dL_law_1822 (by decide +kernel) ?_
        refine va_lald hx hb hK hP 0 2 rfl rfl (i := 0) (vin (by decide +kernel)) dL_law_1823 ?_
        refine top_l (v := (-1)) (by decide +kernel) ?_
        refine lv_iload hx hb dL_law_1824 (lv_at hl 0 rfl) ?_
        refine lv_i2l (v := (-1)) hx hb dL_law_1826 (by decide +kernel) ?_
        refine W.lcmp hx hb dL_law_1827 ?_
        refine top_i (v := 0) (by decide +kernel) ?_
        refine lv_if_eq (tgt := 1833) hx hb dL_law_1828 (by decide +kernel) (fun _ => ?_) (fun h => absurd (by decide +kernel) h)
        refine lv_goto (tgt := 2458) hx hb dL_law_1833 (by decide +kernel) ?_
        refine lv_iinc (v := 6) (lv' := [(4, .int 6), (6, .int (-1)), (5, .int 0), (3, .ref n5000), (2, .ref n3900), (1, .ref n1900), (0, .ref b)]) hx hb dL_law_2458 hl (k := 2) rfl (by decide) (by decide +kernel) rfl (fun ls hl => ?_)
        refine lv_goto (tgt := 23) hx hb dL_law_2461 (by decide +kernel) ?_
        refine lv_iload hx hb dL_law_23 (lv_at hl 0 rfl) ?_
        refine lv_aload_n hx hb dL_law_25 rfl (lv_at hl 6 rfl) ?_
        refine va_slen hx hb hX hbl hbA hS dL_law_26 ?_
        refine top_i (v := 6) rfl ?_
        refine lv_bipush (v := 6) hx hb dL_law_27 (by decide +kernel) ?_
        refine lv_isub hx hb dL_law_29 ?_
        refine top_i (v := 0) (by decide +kernel) ?_
        refine lv_icmp_gt (tgt := 2464) hx hb dL_law_30 (by decide +kernel) (fun _ => ?_) (fun h => absurd (by decide +kernel) h)
        refine lv_iconst (v := 1) hx hb dL_law_2464 (by decide +kernel) ?_
        refine va_forget (fun q hq => hAq _ (hS.2.2 q hq)) ?_
        refine W.widen (k := 600002) (n := 7302232) (by decide +kernel) (by decide +kernel) ?_
        exact lw_ret hx hb hr hlk dL_law_2465
      · exact absurd c801167 (by decide +kernel)
      · exact absurd c801172 (by decide +kernel)
      · exact absurd c801177 (by decide +kernel)
      · exact absurd c801182 (by decide +kernel)
      · exact absurd c801187 (by decide +kernel)
      · exact absurd c801192 (by decide +kernel)
      · exact absurd c801197 (by decide +kernel)
    · obtain ⟨jj, hj, hjj⟩ := split_b (lo_nlt c800823) (up_lt c800824) 1 (by decide +kernel)
      obtain rfl : jj = 0 := by omega
      have c801202 : z1 = 0 := hjj.trans (by decide +kernel)
      clear hj hjj
      subst c801202
      subst c800829
      have hP : va_P D vwCl [(n3900, .inr (12, [.ref n3000, .ref n3001, .ref n3002, .ref n3003, .int 0, .ref n3004, .int 0, .int 0, .int 0, .int 0, .int 0, .int 0, .int 0, .int 0, .int 0, .int (-1), .int 0, .ref n3005, .ref n3006, .int 0, .ref n3007, .ref n3008, .int 0, .int 0, .int 0, .int 0, .int 0, .int 0, .int 0, .ref n3009, .ref n3010, .int 0, .int 0, .ref n3011, .ref n3012, .int 0, .int 0, .ref n3013, .ref n3014, .ref n3015, .int 0, .ref n3016, .ref n3017, .ref n3018])), (n3000, .inl (cy 1, 1300, .inl (fun _ => 0))), (n5000, .inl (cy 2, 1, .inr (.inl (vp_updL (fun _ => 0) 0 (-1)))))] H := hP
      have hD : va_D A [(n3900, .inr (12, [.ref n3000, .ref n3001, .ref n3002, .ref n3003, .int 0, .ref n3004, .int 0, .int 0, .int 0, .int 0, .int 0, .int 0, .int 0, .int 0, .int 0, .int (-1), .int 0, .ref n3005, .ref n3006, .int 0, .ref n3007, .ref n3008, .int 0, .int 0, .int 0, .int 0, .int 0, .int 0, .int 0, .ref n3009, .ref n3010, .int 0, .int 0, .ref n3011, .ref n3012, .int 0, .int 0, .ref n3013, .ref n3014, .ref n3015, .int 0, .ref n3016, .ref n3017, .ref n3018])), (n3000, .inl (cy 1, 1300, .inl (fun _ => 0))), (n5000, .inl (cy 2, 1, .inr (.inl (vp_updL (fun _ => 0) 0 (-1)))))] := hD
      refine lv_istore (lv' := [(5, .int 0), (4, .int 0), (3, .ref n5000), (2, .ref n3900), (1, .ref n1900), (0, .ref b)]) hx hb dL_law_1771 hl (by decide +kernel) rfl (fun ls hl => ?_)
      refine lv_aload_n hx hb dL_law_1773 rfl (lv_at hl 3 rfl) ?_
      refine lv_aload_n hx hb dL_law_1774 rfl (lv_at hl 5 rfl) ?_
      refine lv_iload hx hb dL_law_1775 (lv_at hl 1 rfl) ?_
      refine lv_iconst (v := 1) hx hb dL_law_1777 (by decide +kernel) ?_
      refine lv_iadd hx hb dL_law_1778 ?_
      refine top_i (v := 1) (by decide +kernel) ?_
      refine va_sld hx hb hX hbl hbA hS (i := 1) (vin (by decide +kernel)) dL_law_1779 ?_
      refine top_i (v := 0) ez1 ?_
      refine lv_aload_n hx hb dL_law_1780 rfl (lv_at hl 5 rfl) ?_
      refine lv_iload hx hb dL_law_1781 (lv_at hl 1 rfl) ?_
      refine lv_iconst (v := 2) hx hb dL_law_1783 (by decide +kernel) ?_
      refine lv_iadd hx hb dL_law_1784 ?_
      refine top_i (v := 2) (by decide +kernel) ?_
      refine va_sld hx hb hX hbl hbA hS (i := 2) (vin (by decide +kernel)) dL_law_1785 ?_
      refine top_i (v := z2) ez2 ?_
      refine lv_if_eq (tgt := 1793) hx hb dL_law_1786 (by decide +kernel) (fun h => absurd h c800001) (fun _ => ?_)
      refine lv_iconst (v := 1) hx hb dL_law_1789 (by decide +kernel) ?_
      refine lv_goto (tgt := 1794) hx hb dL_law_1790 (by decide +kernel) ?_
      refine lv_aload_n hx hb dL_law_1794 rfl (lv_at hl 5 rfl) ?_
      refine lv_iload hx hb dL_law_1795 (lv_at hl 1 rfl) ?_
      refine lv_iconst (v := 3) hx hb dL_law_1797 (by decide +kernel) ?_
      refine lv_iadd hx hb dL_law_1798 ?_
      refine top_i (v := 3) (by decide +kernel) ?_
      refine va_sld hx hb hX hbl hbA hS (i := 3) (vin (by decide +kernel)) dL_law_1799 ?_
      refine top_i (v := 11) ez3 ?_
      refine call_i (av := [.ref n3900, .int 0, .int 1, .int 11]) F hP hD hS [(n3900, .inr (12, [.ref n3000, .ref n3001, .ref n3002, .ref n3003, .int 0, .ref n3004, .int 0, .int 0, .int 0, .int 0, .int 0, .int 0, .int 0, .int 0, .int 0, .int (-1), .int 0, .ref n3005, .ref n3006, .int 0, .ref n3007, .ref n3008, .int 0, .int 0, .int 0, .int 0, .int 0, .int 0, .int 0, .ref n3009, .ref n3010, .int 0, .int 0, .ref n3011, .ref n3012, .int 0, .int 0, .ref n3013, .ref n3014, .ref n3015, .int 0, .ref n3016, .ref n3017, .ref n3018])), (n3000, .inl (cy 1, 1300, .inl (fun _ => 0)))] [(n5000, .inl (cy 2, 1, .inr (.inl (vp_updL (fun _ => 0) 0 (-1)))))] [0, 1] [2] rfl rfl (by decide +kernel) (fun pr => va_runV (As := [.int 0, .int 1, .int 11]) (rest := []) ⟨hx, hb, hml, hown, hts⟩ (k242_X12_bestRow l D cy H.size n3900 0 1 11 n3000 n3001 n3002 n3003 n3004 n3005 n3006 n3007 n3008 n3009 n3010 n3011 n3012 n3013 n3014 n3015 n3016 n3017 n3018) (cwV 3 hts gw_X12_bestRow rfl rfl rfl (by decide +kernel) ⟨(by decide +kernel), (by decide +kernel)⟩) ⟨pr.1, va_recv hK hP (ci := 12) (q0 := 0) rfl rfl, pr.2⟩ rfl rfl hl.1 rfl (lv_room (Nat.le_of_ble_eq_true rfl)) dL_law_1800 ⟨(by decide +kernel), (by decide +kernel)⟩) (fun r u H locs hw hP hD hS => ?_)
      rcases hw with ⟨c801204, rfl, rfl⟩ | ⟨c801205, c801206, rfl, rfl⟩ | ⟨c801207, c801208, c801209, rfl, rfl⟩ | ⟨c801210, c801211, c801212, c801213, rfl, rfl⟩ | ⟨c801214, c801215, c801216, c801217, c801218, rfl, rfl⟩ | ⟨c801219, c801220, c801221, c801222, c801223, rfl, rfl⟩ | ⟨c801224, c801225, c801226, c801227, c801228, rfl, rfl⟩ | ⟨c801229, c801230, c801231, c801232, c801233, rfl, rfl⟩ | ⟨c801234, c801235, c801236, c801237, c801238, rfl, rfl⟩ | ⟨c801239, c801240, c801241, c801242, c801243, rfl, rfl⟩ | ⟨c801244, c801245, c801246, c801247, c801248, rfl, rfl⟩ | ⟨c801249, c801250, c801251, c801252, c801253, rfl, rfl⟩
      · exact absurd (by decide +kernel) c801204
      · exact absurd c801206 (by decide +kernel)
      · exact absurd c801209 (by decide +kernel)
      · exact absurd c801213 (by decide +kernel)
      · exact absurd c801218 (by decide +kernel)
      · have hP : va_P D vwCl [(n5000, .inl (cy 2, 1, .inr (.inl (vp_updL (fun _ => 0) 0 (-1))))), (n3000, .inl (cy 1, 1300, .inl (fun _ => 0))), (n3900, .inr (12, [.ref n3000, .ref n3001, .ref n3002, .ref n3003, .int 0, .ref n3004, .int 0, .int 0, .int 0, .int 0, .int 0, .int 0, .int 0, .int 0, .int 0, .int (-1), .int 0, .ref n3005, .ref n3006, .int 0, .ref n3007, .ref n3008, .int 0, .int 0, .int 0, .int 0, .int 0, .int 0, .int 0, .ref n3009, .ref n3010, .int 0, .int 0, .ref n3011, .ref n3012, .int 0, .int 1, .ref n3013, .ref n3014, .ref n3015, .int 0, .ref n3016, .ref n3017, .ref n3018]))] H := hP
        have hD : va_D A [(n5000, .inl (cy 2, 1, .inr (.inl (vp_updL (fun _ => 0) 0 (-1))))), (n3000, .inl (cy 1, 1300, .inl (fun _ => 0))), (n3900, .inr (12, [.ref n3000, .ref n3001, .ref n3002, .ref n3003, .int 0, .ref n3004, .int 0, .int 0, .int 0, .int 0, .int 0, .int 0, .int 0, .int 0, .int 0, .int (-1), .int 0, .ref n3005, .ref n3006, .int 0, .ref n3007, .ref n3008, .int 0, .int 0, .int 0, .int 0, .int 0, .int 0, .int 0, .ref n3009, .ref n3010, .int 0, .int 0, .ref n3011, .ref n3012, .int 0, .int 1, .ref n3013, .ref n3014, .ref n3015, .int 0, .ref n3016, .ref n3017, .ref n3018]))] := hD
        refine lv_istore (lv' := [(6, .int (-1)), (5, .int 0), (4, .int 0), (3, .ref n5000), (2, .ref n3900), (1, .ref n1900), (0, .ref b)]) hx hb dL_law_1803 hl (by decide +kernel) rfl (fun ls hl => ?_)
        refine lv_aload_n hx hb dL_law_1805 rfl (lv_at hl 4 rfl) ?_
        refine call_i (av := [.ref n3900]) F hP hD hS [(n3900, .inr (12, [.ref n3000, .ref n3001, .ref n3002, .ref n3003, .int 0, .ref n3004, .int 0, .int 0, .int 0, .int 0, .int 0, .int 0, .int 0, .int 0, .int 0, .int (-1), .int 0, .ref n3005, .ref n3006, .int 0, .ref n3007, .ref n3008, .int 0, .int 0, .int 0, .int 0, .int 0, .int 0, .int 0, .ref n3009, .ref n3010, .int 0, .int 0, .ref n3011, .ref n3012, .int 0, .int 1, .ref n3013, .ref n3014, .ref n3015, .int 0, .ref n3016, .ref n3017, .ref n3018]))] [(n5000, .inl (cy 2, 1, .inr (.inl (vp_updL (fun _ => 0) 0 (-1))))), (n3000, .inl (cy 1, 1300, .inl (fun _ => 0)))] [2] [0, 1] rfl rfl (by decide +kernel) (fun pr => va_runV (As := []) (rest := []) ⟨hx, hb, hml, hown, hts⟩ (k338_X12_thrown l D cy H.size n3900 n3000 n3001 n3002 n3003 n3004 n3005 n3006 n3007 n3008 n3009 n3010 n3011 n3012 n3013 n3014 n3015 n3016 n3017 n3018) (cwV 0 hts gw_X12_thrown rfl rfl rfl (by decide +kernel) ⟨(by decide +kernel), (by decide +kernel)⟩) ⟨pr.1, va_recv hK hP (ci := 12) (q0 := 2) rfl rfl, pr.2⟩ rfl rfl hl.1 rfl (lv_room (Nat.le_of_ble_eq_true rfl)) dL_law_1806 ⟨(by decide +kernel), (by decide +kernel)⟩) (fun r u H locs hw hP hD hS => ?_)
        rcases hw with ⟨rfl, rfl⟩
        have hP : va_P D vwCl [(n5000, .inl (cy 2, 1, .inr (.inl (vp_updL (fun _ => 0) 0 (-1))))), (n3000, .inl (cy 1, 1300, .inl (fun _ => 0))), (n3900, .inr (12, [.ref n3000, .ref n3001, .ref n3002, .ref n3003, .int 0, .ref n3004, .int 0, .int 0, .int 0, .int 0, .int 0, .int 0, .int 0, .int 0, .int 0, .int (-1), .int 0, .ref n3005, .ref n3006, .int 0, .ref n3007, .ref n3008, .int 0, .int 0, .int 0, .int 0, .int 0, .int 0, .int 0, .ref n3009, .ref n3010, .int 0, .int 0, .ref n3011, .ref n3012, .int 0, .int 1, .ref n3013, .ref n3014, .ref n3015, .int 0, .ref n3016, .ref n3017, .ref n3018]))] H := hP
        have hD : va_D A [(n5000, .inl (cy 2, 1, .inr (.inl (vp_updL (fun _ => 0) 0 (-1))))), (n3000, .inl (cy 1, 1300, .inl (fun _ => 0))), (n3900, .inr (12, [.ref n3000, .ref n3001, .ref n3002, .ref n3003, .int 0, .ref n3004, .int 0, .int 0, .int 0, .int 0, .int 0, .int 0, .int 0, .int 0, .int 0, .int (-1), .int 0, .ref n3005, .ref n3006, .int 0, .ref n3007, .ref n3008, .int 0, .int 0, .int 0, .int 0, .int 0, .int 0, .int 0, .ref n3009, .ref n3010, .int 0, .int 0, .ref n3011, .ref n3012, .int 0, .int 1, .ref n3013, .ref n3014, .ref n3015, .int 0, .ref n3016, .ref n3017, .ref n3018]))] := hD
        refine lv_iload hx hb dL_law_1809 (lv_at hl 1 rfl) ?_
        refine lv_icmp_eq (tgt := 1816) hx hb dL_law_1811 (by decide +kernel) (fun _ => ?_) (fun h => absurd (by decide +kernel) h)
        refine lv_iload hx hb dL_law_1816 (lv_at hl 1 rfl) ?_
        refine lv_if_ne (tgt := 1833) hx hb dL_law_1818 (by decide +kernel) (fun h => absurd (by decide +kernel) h) (fun _ => ?_)
        refine lv_aload_n hx hb dL_law_1821 rfl (lv_at hl 3 rfl) ?_
        refine lv_iconst (v := 0) hx hb dL_law_1822 (by decide +kernel) ?_
        refine va_lald hx hb hK hP 0 2 rfl rfl (i := 0) (vin (by decide +kernel)) dL_law_1823 ?_
        refine top_l (v := (-1)) (by decide +kernel) ?_
        refine lv_iload hx hb dL_law_1824 (lv_at hl 0 rfl) ?_
        refine lv_i2l (v := (-1)) hx hb dL_law_1826 (by decide +kernel) ?_
        refine W.lcmp hx hb dL_law_1827 ?_
        refine top_i (v := 0) (by decide +kernel) ?_
        refine lv_if_eq (tgt := 1833) hx hb dL_law_1828 (by decide +kernel) (fun _ => ?_) (fun h => absurd (by decide +kernel) h)
        refine lv_goto (tgt := 2458) hx hb dL_law_1833 (by decide +kernel) ?_
        refine lv_iinc (v := 6) (lv' := [(4, .int 6), (6, .int (-1)), (5, .int 0), (3, .ref n5000), (2, .ref n3900), (1, .ref n1900), (0, .ref b)]) hx hb dL_law_2458 hl (k := 2) rfl (by decide) (by decide +kernel) rfl (fun ls hl => ?_)
        refine lv_goto (tgt := 23) hx hb dL_law_2461 (by decide +kernel) ?_
        refine lv_iload hx hb dL_law_23 (lv_at hl 0 rfl) ?_
        refine lv_aload_n hx hb dL_law_25 rfl (lv_at hl 6 rfl) ?_
        refine va_slen hx hb hX hbl hbA hS dL_law_26 ?_
        refine top_i (v := 6) rfl ?_
        refine lv_bipush (v := 6) hx hb dL_law_27 (by decide +kernel) ?_
        refine lv_isub hx hb dL_law_29 ?_
        refine top_i (v := 0) (by decide +kernel) ?_
        refine lv_icmp_gt (tgt := 2464) hx hb dL_law_30 (by decide +kernel) (fun _ => ?_) (fun h => absurd (by decide +kernel) h)
        refine lv_iconst (v := 1) hx hb dL_law_2464 (by decide +kernel) ?_
        refine va_forget (fun q hq => hAq _ (hS.2.2 q hq)) ?_
        refine W.widen (k := 600002) (n := 7302232) (by decide +kernel) (by decide +kernel) ?_
        exact lw_ret hx hb hr hlk dL_law_2465
      · exact absurd c801228 (by decide +kernel)
      · exact absurd c801233 (by decide +kernel)
      · exact absurd c801238 (by decide +kernel)
      · exact absurd c801243 (by decide +kernel)
      · exact absurd c801248 (by decide +kernel)
      · exact absurd c801253 (by decide +kernel)
    · obtain ⟨jj, hj, hjj⟩ := split_b (lo_nlt c800830) (up_lt c800831) 1 (by decide +kernel)
      obtain rfl : jj = 0 := by omega
      have c801258 : z1 = 0 := hjj.trans (by decide +kernel)
      clear hj hjj
      subst c801258
      subst c800836
      have hP : va_P D vwCl [(n3900, .inr (12, [.ref n3000, .ref n3001, .ref n3002, .ref n3003, .int 0, .ref n3004, .int 0, .int 0, .int 0, .int 0, .int 0, .int 0, .int 0, .int 0, .int 0, .int (-1), .int 0, .ref n3005, .ref n3006, .int 0, .ref n3007, .ref n3008, .int 0, .int 0, .int 0, .int 0, .int 0, .int 0, .int 0, .ref n3009, .ref n3010, .int 0, .int 0, .ref n3011, .ref n3012, .int 0, .int 0, .ref n3013, .ref n3014, .ref n3015, .int 0, .ref n3016, .ref n3017, .ref n3018])), (n3000, .inl (cy 1, 1300, .inl (fun _ => 0))), (n5000, .inl (cy 2, 1, .inr (.inl (vp_updL (fun _ => 0) 0 (-1)))))] H := hP
      have hD : va_D A [(n3900, .inr (12, [.ref n3000, .ref n3001, .ref n3002, .ref n3003, .int 0, .ref n3004, .int 0, .int 0, .int 0, .int 0, .int 0, .int 0, .int 0, .int 0, .int 0, .int (-1), .int 0, .ref n3005, .ref n3006, .int 0, .ref n3007, .ref n3008, .int 0, .int 0, .int 0, .int 0, .int 0, .int 0, .int 0, .ref n3009, .ref n3010, .int 0, .int 0, .ref n3011, .ref n3012, .int 0, .int 0, .ref n3013, .ref n3014, .ref n3015, .int 0, .ref n3016, .ref n3017, .ref n3018])), (n3000, .inl (cy 1, 1300, .inl (fun _ => 0))), (n5000, .inl (cy 2, 1, .inr (.inl (vp_updL (fun _ => 0) 0 (-1)))))] := hD
      refine lv_istore (lv' := [(5, .int 0), (4, .int 0), (3, .ref n5000), (2, .ref n3900), (1, .ref n1900), (0, .ref b)]) hx hb dL_law_1771 hl (by decide +kernel) rfl (fun ls hl => ?_)
      refine lv_aload_n hx hb dL_law_1773 rfl (lv_at hl 3 rfl) ?_
      refine lv_aload_n hx hb dL_law_1774 rfl (lv_at hl 5 rfl) ?_
      refine lv_iload hx hb dL_law_1775 (lv_at hl 1 rfl) ?_
      refine lv_iconst (v := 1) hx hb dL_law_1777 (by decide +kernel) ?_
      refine lv_iadd hx hb dL_law_1778 ?_
      refine top_i (v := 1) (by decide +kernel) ?_
      refine va_sld hx hb hX hbl hbA hS (i := 1) (vin (by decide +kernel)) dL_law_1779 ?_
      refine top_i (v := 0) ez1 ?_
      refine lv_aload_n hx hb dL_law_1780 rfl (lv_at hl 5 rfl) ?_
      refine lv_iload hx hb dL_law_1781 (lv_at hl 1 rfl) ?_
      refine lv_iconst (v := 2) hx hb dL_law_1783 (by decide +kernel) ?_
      refine lv_iadd hx hb dL_law_1784 ?_
      refine top_i (v := 2) (by decide +kernel) ?_
      refine va_sld hx hb hX hbl hbA hS (i := 2) (vin (by decide +kernel)) dL_law_1785 ?_
      refine top_i (v := z2) ez2 ?_
      refine lv_if_eq (tgt := 1793) hx hb dL_law_1786 (by decide +kernel) (fun h => absurd h c800001) (fun _ => ?_)
      refine lv_iconst (v := 1) hx hb dL_law_1789 (by decide +kernel) ?_
      refine lv_goto (tgt := 1794) hx hb dL_law_1790 (by decide +kernel) ?_
      refine lv_aload_n hx hb dL_law_1794 rfl (lv_at hl 5 rfl) ?_
      refine lv_iload hx hb dL_law_1795 (lv_at hl 1 rfl) ?_
      refine lv_iconst (v := 3) hx hb dL_law_1797 (by decide +kernel) ?_
      refine lv_iadd hx hb dL_law_1798 ?_
      refine top_i (v := 3) (by decide +kernel) ?_
      refine va_sld hx hb hX hbl hbA hS (i := 3) (vin (by decide +kernel)) dL_law_1799 ?_
      refine top_i (v := 12) ez3 ?_
      refine call_i (av := [.ref n3900, .int 0, .int 1, .int 12]) F hP hD hS [(n3900, .inr (12, [.ref n3000, .ref n3001, .ref n3002, .ref n3003, .int 0, .ref n3004, .int 0, .int 0, .int 0, .int 0, .int 0, .int 0, .int 0, .int 0, .int 0, .int (-1), .int 0, .ref n3005, .ref n3006, .int 0, .ref n3007, .ref n3008, .int 0, .int 0, .int 0, .int 0, .int 0, .int 0, .int 0, .ref n3009, .ref n3010, .int 0, .int 0, .ref n3011, .ref n3012, .int 0, .int 0, .ref n3013, .ref n3014, .ref n3015, .int 0, .ref n3016, .ref n3017, .ref n3018])), (n3000, .inl (cy 1, 1300, .inl (fun _ => 0)))] [(n5000, .inl (cy 2, 1, .inr (.inl (vp_updL (fun _ => 0) 0 (-1)))))] [0, 1] [2] rfl rfl (by decide +kernel) (fun pr => va_runV (As := [.int 0, .int 1, .int 12]) (rest := []) ⟨hx, hb, hml, hown, hts⟩ (k242_X12_bestRow l D cy H.size n3900 0 1 12 n3000 n3001 n3002 n3003 n3004 n3005 n3006 n3007 n3008 n3009 n3010 n3011 n3012 n3013 n3014 n3015 n3016 n3017 n3018) (cwV 3 hts gw_X12_bestRow rfl rfl rfl (by decide +kernel) ⟨(by decide +kernel), (by decide +kernel)⟩) ⟨pr.1, va_recv hK hP (ci := 12) (q0 := 0) rfl rfl, pr.2⟩ rfl rfl hl.1 rfl (lv_room (Nat.le_of_ble_eq_true rfl)) dL_law_1800 ⟨(by decide +kernel), (by decide +kernel)⟩) (fun r u H locs hw hP hD hS => ?_)
      rcases hw with ⟨c801260, rfl, rfl⟩ | ⟨c801261, c801262, rfl, rfl⟩ | ⟨c801263, c801264, c801265, rfl, rfl⟩ | ⟨c801266, c801267, c801268, c801269, rfl, rfl⟩ | ⟨c801270, c801271, c801272, c801273, c801274, rfl, rfl⟩ | ⟨c801275, c801276, c801277, c801278, c801279, rfl, rfl⟩ | ⟨c801280, c801281, c801282, c801283, c801284, rfl, rfl⟩ | ⟨c801285, c801286, c801287, c801288, c801289, rfl, rfl⟩ | ⟨c801290, c801291, c801292, c801293, c801294, rfl, rfl⟩ | ⟨c801295, c801296, c801297, c801298, c801299, rfl, rfl⟩ | ⟨c801300, c801301, c801302, c801303, c801304, rfl, rfl⟩ | ⟨c801305, c801306, c801307, c801308, c801309, rfl, rfl⟩
      · exact absurd (by decide +kernel) c801260
      · exact absurd c801262 (by decide +kernel)
      · exact absurd c801265 (by decide +kernel)
      · exact absurd c801269 (by decide +kernel)
      · exact absurd c801274 (by decide +kernel)
      · exact absurd c801279 (by decide +kernel)
      · have hP : va_P D vwCl [(n5000, .inl (cy 2, 1, .inr (.inl (vp_updL (fun _ => 0) 0 (-1))))), (n3000, .inl (cy 1, 1300, .inl (fun _ => 0))), (n3900, .inr (12, [.ref n3000, .ref n3001, .ref n3002, .ref n3003, .int 0, .ref n3004, .int 0, .int 0, .int 0, .int 0, .int 0, .int 0, .int 0, .int 0, .int 0, .int (-1), .int 0, .ref n3005, .ref n3006, .int 0, .ref n3007, .ref n3008, .int 0, .int 0, .int 0, .int 0, .int 0, .int 0, .int 0, .ref n3009, .ref n3010, .int 0, .int 0, .ref n3011, .ref n3012, .int 0, .int 1, .ref n3013, .ref n3014, .ref n3015, .int 0, .ref n3016, .ref n3017, .ref n3018]))] H := hP
        have hD : va_D A [(n5000, .inl (cy 2, 1, .inr (.inl (vp_updL (fun _ => 0) 0 (-1))))), (n3000, .inl (cy 1, 1300, .inl (fun _ => 0))), (n3900, .inr (12, [.ref n3000, .ref n3001, .ref n3002, .ref n3003, .int 0, .ref n3004, .int 0, .int 0, .int 0, .int 0, .int 0, .int 0, .int 0, .int 0, .int 0, .int (-1), .int 0, .ref n3005, .ref n3006, .int 0, .ref n3007, .ref n3008, .int 0, .int 0, .int 0, .int 0, .int 0, .int 0, .int 0, .ref n3009, .ref n3010, .int 0, .int 0, .ref n3011, .ref n3012, .int 0, .int 1, .ref n3013, .ref n3014, .ref n3015, .int 0, .ref n3016, .ref n3017, .ref n3018]))] := hD
        refine lv_istore (lv' := [(6, .int (-1)), (5, .int 0), (4, .int 0), (3, .ref n5000), (2, .ref n3900), (1, .ref n1900), (0, .ref b)]) hx hb dL_law_1803 hl (by decide +kernel) rfl (fun ls hl => ?_)
        refine lv_aload_n hx hb dL_law_1805 rfl (lv_at hl 4 rfl) ?_
        refine call_i (av := [.ref n3900]) F hP hD hS [(n3900, .inr (12, [.ref n3000, .ref n3001, .ref n3002, .ref n3003, .int 0, .ref n3004, .int 0, .int 0, .int 0, .int 0, .int 0, .int 0, .int 0, .int 0, .int 0, .int (-1), .int 0, .ref n3005, .ref n3006, .int 0, .ref n3007, .ref n3008, .int 0, .int 0, .int 0, .int 0, .int 0, .int 0, .int 0, .ref n3009, .ref n3010, .int 0, .int 0, .ref n3011, .ref n3012, .int 0, .int 1, .ref n3013, .ref n3014, .ref n3015, .int 0, .ref n3016, .ref n3017, .ref n3018]))] [(n5000, .inl (cy 2, 1, .inr (.inl (vp_updL (fun _ => 0) 0 (-1))))), (n3000, .inl (cy 1, 1300, .inl (fun _ => 0)))] [2] [0, 1] rfl rfl (by decide +kernel) (fun pr => va_runV (As := []) (rest := []) ⟨hx, hb, hml, hown, hts⟩ (k338_X12_thrown l D cy H.size n3900 n3000 n3001 n3002 n3003 n3004 n3005 n3006 n3007 n3008 n3009 n3010 n3011 n3012 n3013 n3014 n3015 n3016 n3017 n3018) (cwV 0 hts gw_X12_thrown rfl rfl rfl (by decide +kernel) ⟨(by decide +kernel), (by decide +kernel)⟩) ⟨pr.1, va_recv hK hP (ci := 12) (q0 := 2) rfl rfl, pr.2⟩ rfl rfl hl.1 rfl (lv_room (Nat.le_of_ble_eq_true rfl)) dL_law_1806 ⟨(by decide +kernel), (by decide +kernel)⟩) (fun r u H locs hw hP hD hS => ?_)
        rcases hw with ⟨rfl, rfl⟩
        have hP : va_P D vwCl [(n5000, .inl (cy 2, 1, .inr (.inl (vp_updL (fun _ => 0) 0 (-1))))), (n3000, .inl (cy 1, 1300, .inl (fun _ => 0))), (n3900, .inr (12, [.ref n3000, .ref n3001, .ref n3002, .ref n3003, .int 0, .ref n3004, .int 0, .int 0, .int 0, .int 0, .int 0, .int 0, .int 0, .int 0, .int 0, .int (-1), .int 0, .ref n3005, .ref n3006, .int 0, .ref n3007, .ref n3008, .int 0, .int 0, .int 0, .int 0, .int 0, .int 0, .int 0, .ref n3009, .ref n3010, .int 0, .int 0, .ref n3011, .ref n3012, .int 0, .int 1, .ref n3013, .ref n3014, .ref n3015, .int 0, .ref n3016, .ref n3017, .ref n3018]))] H := hP
        have hD : va_D A [(n5000, .inl (cy 2, 1, .inr (.inl (vp_updL (fun _ => 0) 0 (-1))))), (n3000, .inl (cy 1, 1300, .inl (fun _ => 0))), (n3900, .inr (12, [.ref n3000, .ref n3001, .ref n3002, .ref n3003, .int 0, .ref n3004, .int 0, .int 0, .int 0, .int 0, .int 0, .int 0, .int 0, .int 0, .int 0, .int (-1), .int 0, .ref n3005, .ref n3006, .int 0, .ref n3007, .ref n3008, .int 0, .int 0, .int 0, .int 0, .int 0, .int 0, .int 0, .ref n3009, .ref n3010, .int 0, .int 0, .ref n3011, .ref n3012, .int 0, .int 1, .ref n3013, .ref n3014, .ref n3015, .int 0, .ref n3016, .ref n3017, .ref n3018]))] := hD
        refine lv_iload hx hb dL_law_1809 (lv_at hl 1 rfl) ?_
        refine lv_icmp_eq (tgt := 1816) hx hb dL_law_1811 (by decide +kernel) (fun _ => ?_) (fun h => absurd (by decide +kernel) h)
        refine lv_iload hx hb dL_law_1816 (lv_at hl 1 rfl) ?_
        refine lv_if_ne (tgt := 1833) hx hb dL_law_1818 (by decide +kernel) (fun h => absurd (by decide +kernel) h) (fun _ => ?_)
        refine lv_aload_n hx hb dL_law_1821 rfl (lv_at hl 3 rfl) ?_
        refine lv_iconst (v := 0) hx hb dL_law_1822 (by decide +kernel) ?_
        refine va_lald hx hb hK hP 0 2 rfl rfl (i := 0) (vin (by decide +kernel)) dL_law_1823 ?_
        refine top_l (v := (-1)) (by decide +kernel) ?_
        refine lv_iload hx hb dL_law_1824 (lv_at hl 0 rfl) ?_
        refine lv_i2l (v := (-1)) hx hb dL_law_1826 (by decide +kernel) ?_
        refine W.lcmp hx hb dL_law_1827 ?_
        refine top_i (v := 0) (by decide +kernel) ?_
        refine lv_if_eq (tgt := 1833) hx hb dL_law_1828 (by decide +kernel) (fun _ => ?_) (fun h => absurd (by decide +kernel) h)
        refine lv_goto (tgt := 2458) hx hb dL_law_1833 (by decide +kernel) ?_
        refine lv_iinc (v := 6) (lv' := [(4, .int 6), (6, .int (-1)), (5, .int 0), (3, .ref n5000), (2, .ref n3900), (1, .ref n1900), (0, .ref b)]) hx hb dL_law_2458 hl (k := 2) rfl (by decide) (by decide +kernel) rfl (fun ls hl => ?_)
        refine lv_goto (tgt := 23) hx hb dL_law_2461 (by decide +kernel) ?_
        refine lv_iload hx hb dL_law_23 (lv_at hl 0 rfl) ?_
        refine lv_aload_n hx hb dL_law_25 rfl (lv_at hl 6 rfl) ?_
        refine va_slen hx hb hX hbl hbA hS dL_law_26 ?_
        refine top_i (v := 6) rfl ?_
        refine lv_bipush (v := 6) hx hb dL_law_27 (by decide +kernel) ?_
        refine lv_isub hx hb dL_law_29 ?_
        refine top_i (v := 0) (by decide +kernel) ?_
        refine lv_icmp_gt (tgt := 2464) hx hb dL_law_30 (by decide +kernel) (fun _ => ?_) (fun h => absurd (by decide +kernel) h)
        refine lv_iconst (v := 1) hx hb dL_law_2464 (by decide +kernel) ?_
        refine va_forget (fun q hq => hAq _ (hS.2.2 q hq)) ?_
        refine W.widen (k := 600002) (n := 7302232) (by decide +kernel) (by decide +kernel) ?_
        exact lw_ret hx hb hr hlk dL_law_2465
      · exact absurd c801289 (by decide +kernel)
      · exact absurd c801294 (by decide +kernel)
      · exact absurd c801299 (by decide +kernel)
      · exact absurd c801304 (by decide +kernel)
      · exact absurd c801309 (by decide +kernel)
    · obtain ⟨jj, hj, hjj⟩ := split_b (lo_nlt c800837) (up_lt c800838) 1 (by decide +kernel)
      obtain rfl : jj = 0 := by omega
      have c801314 : z1 = 0 := hjj.trans (by decide +kernel)
      clear hj hjj
      subst c801314
      subst c800843
      have hP : va_P D vwCl [(n3900, .inr (12, [.ref n3000, .ref n3001, .ref n3002, .ref n3003, .int 0, .ref n3004, .int 0, .int 0, .int 0, .int 0, .int 0, .int 0, .int 0, .int 0, .int 0, .int (-1), .int 0, .ref n3005, .ref n3006, .int 0, .ref n3007, .ref n3008, .int 0, .int 0, .int 0, .int 0, .int 0, .int 0, .int 0, .ref n3009, .ref n3010, .int 0, .int 0, .ref n3011, .ref n3012, .int 0, .int 0, .ref n3013, .ref n3014, .ref n3015, .int 0, .ref n3016, .ref n3017, .ref n3018])), (n3000, .inl (cy 1, 1300, .inl (fun _ => 0))), (n5000, .inl (cy 2, 1, .inr (.inl (vp_updL (fun _ => 0) 0 (-1)))))] H := hP
      have hD : va_D A [(n3900, .inr (12, [.ref n3000, .ref n3001, .ref n3002, .ref n3003, .int 0, .ref n3004, .int 0, .int 0, .int 0, .int 0, .int 0, .int 0, .int 0, .int 0, .int 0, .int (-1), .int 0, .ref n3005, .ref n3006, .int 0, .ref n3007, .ref n3008, .int 0, .int 0, .int 0, .int 0, .int 0, .int 0, .int 0, .ref n3009, .ref n3010, .int 0, .int 0, .ref n3011, .ref n3012, .int 0, .int 0, .ref n3013, .ref n3014, .ref n3015, .int 0, .ref n3016, .ref n3017, .ref n3018])), (n3000, .inl (cy 1, 1300, .inl (fun _ => 0))), (n5000, .inl (cy 2, 1, .inr (.inl (vp_updL (fun _ => 0) 0 (-1)))))] := hD
      refine lv_istore (lv' := [(5, .int 0), (4, .int 0), (3, .ref n5000), (2, .ref n3900), (1, .ref n1900), (0, .ref b)]) hx hb dL_law_1771 hl (by decide +kernel) rfl (fun ls hl => ?_)
      refine lv_aload_n hx hb dL_law_1773 rfl (lv_at hl 3 rfl) ?_
      refine lv_aload_n hx hb dL_law_1774 rfl (lv_at hl 5 rfl) ?_
      refine lv_iload hx hb dL_law_1775 (lv_at hl 1 rfl) ?_
      refine lv_iconst (v := 1) hx hb dL_law_1777 (by decide +kernel) ?_
      refine lv_iadd hx hb dL_law_1778 ?_
      refine top_i (v := 1) (by decide +kernel) ?_
      refine va_sld hx hb hX hbl hbA hS (i := 1) (vin (by decide +kernel)) dL_law_1779 ?_
      refine top_i (v := 0) ez1 ?_
      refine lv_aload_n hx hb dL_law_1780 rfl (lv_at hl 5 rfl) ?_
      refine lv_iload hx hb dL_law_1781 (lv_at hl 1 rfl) ?_
      refine lv_iconst (v := 2) hx hb dL_law_1783 (by decide +kernel) ?_
      refine lv_iadd hx hb dL_law_1784 ?_
      refine top_i (v := 2) (by decide +kernel) ?_
      refine va_sld hx hb hX hbl hbA hS (i := 2) (vin (by decide +kernel)) dL_law_1785 ?_
      refine top_i (v := z2) ez2 ?_
      refine lv_if_eq (tgt := 1793) hx hb dL_law_1786 (by decide +kernel) (fun h => absurd h c800001) (fun _ => ?_)
      refine lv_iconst (v := 1) hx hb dL_law_1789 (by decide +kernel) ?_
      refine lv_goto (tgt := 1794) hx hb dL_law_1790 (by decide +kernel) ?_
      refine lv_aload_n hx hb dL_law_1794 rfl (lv_at hl 5 rfl) ?_
      refine lv_iload hx hb dL_law_1795 (lv_at hl 1 rfl) ?_
      refine lv_iconst (v := 3) hx hb dL_law_1797 (by decide +kernel) ?_
      refine lv_iadd hx hb dL_law_1798 ?_
      refine top_i (v := 3) (by decide +kernel) ?_
      refine va_sld hx hb hX hbl hbA hS (i := 3) (vin (by decide +kernel)) dL_law_1799 ?_
      refine top_i (v := 13) ez3 ?_
      refine call_i (av := [.ref n3900, .int 0, .int 1, .int 13]) F hP hD hS [(n3900, .inr (12, [.ref n3000, .ref n3001, .ref n3002, .ref n3003, .int 0, .ref n3004, .int 0, .int 0, .int 0, .int 0, .int 0, .int 0, .int 0, .int 0, .int 0, .int (-1), .int 0, .ref n3005, .ref n3006, .int 0, .ref n3007, .ref n3008, .int 0, .int 0, .int 0, .int 0, .int 0, .int 0, .int 0, .ref n3009, .ref n3010, .int 0, .int 0, .ref n3011, .ref n3012, .int 0, .int 0, .ref n3013, .ref n3014, .ref n3015, .int 0, .ref n3016, .ref n3017, .ref n3018])), (n3000, .inl (cy 1, 1300, .inl (fun _ => 0)))] [(n5000, .inl (cy 2, 1, .inr (.inl (vp_updL (fun _ => 0) 0 (-1)))))] [0, 1] [2] rfl rfl (by decide +kernel) (fun pr => va_runV (As := [.int 0, .int 1, .int 13]) (rest := []) ⟨hx, hb, hml, hown, hts⟩ (k242_X12_bestRow l D cy H.size n3900 0 1 13 n3000 n3001 n3002 n3003 n3004 n3005 n3006 n3007 n3008 n3009 n3010 n3011 n3012 n3013 n3014 n3015 n3016 n3017 n3018) (cwV 3 hts gw_X12_bestRow rfl rfl rfl (by decide +kernel) ⟨(by decide +kernel), (by decide +kernel)⟩) ⟨pr.1, va_recv hK hP (ci := 12) (q0 := 0) rfl rfl, pr.2⟩ rfl rfl hl.1 rfl (lv_room (Nat.le_of_ble_eq_true rfl)) dL_law_1800 ⟨(by decide +kernel), (by decide +kernel)⟩) (fun r u H locs hw hP hD hS => ?_)
      rcases hw with ⟨c801316, rfl, rfl⟩ | ⟨c801317, c801318, rfl, rfl⟩ | ⟨c801319, c801320, c801321, rfl, rfl⟩ | ⟨c801322, c801323, c801324, c801325, rfl, rfl⟩ | ⟨c801326, c801327, c801328, c801329, c801330, rfl, rfl⟩ | ⟨c801331, c801332, c801333, c801334, c801335, rfl, rfl⟩ | ⟨c801336, c801337, c801338, c801339, c801340, rfl, rfl⟩ | ⟨c801341, c801342, c801343, c801344, c801345, rfl, rfl⟩ | ⟨c801346, c801347, c801348, c801349, c801350, rfl, rfl⟩ | ⟨c801351, c801352, c801353, c801354, c801355, rfl, rfl⟩ | ⟨c801356, c801357, c801358, c801359, c801360, rfl, rfl⟩ | ⟨c801361, c801362, c801363, c801364, c801365, rfl, rfl⟩
      · exact absurd (by decide +kernel) c801316
      · exact absurd c801318 (by decide +kernel)
      · exact absurd c801321 (by decide +kernel)
      · exact absurd c801325 (by decide +kernel)
      · exact absurd c801330 (by decide +kernel)
      · exact absurd c801335 (by decide +kernel)
      · exact absurd c801340 (by decide +kernel)
      · have hP : va_P D vwCl [(n5000, .inl (cy 2, 1, .inr (.inl (vp_updL (fun _ => 0) 0 (-1))))), (n3000, .inl (cy 1, 1300, .inl (fun _ => 0))), (n3900, .inr (12, [.ref n3000, .ref n3001, .ref n3002, .ref n3003, .int 0, .ref n3004, .int 0, .int 0, .int 0, .int 0, .int 0, .int 0, .int 0, .int 0, .int 0, .int (-1), .int 0, .ref n3005, .ref n3006, .int 0, .ref n3007, .ref n3008, .int 0, .int 0, .int 0, .int 0, .int 0, .int 0, .int 0, .ref n3009, .ref n3010, .int 0, .int 0, .ref n3011, .ref n3012, .int 0, .int 1, .ref n3013, .ref n3014, .ref n3015, .int 0, .ref n3016, .ref n3017, .ref n3018]))] H := hP
        have hD : va_D A [(n5000, .inl (cy 2, 1, .inr (.inl (vp_updL (fun _ => 0) 0 (-1))))), (n3000, .inl (cy 1, 1300, .inl (fun _ => 0))), (n3900, .inr (12, [.ref n3000, .ref n3001, .ref n3002, .ref n3003, .int 0, .ref n3004, .int 0, .int 0, .int 0, .int 0, .int 0, .int 0, .int 0, .int 0, .int 0, .int (-1), .int 0, .ref n3005, .ref n3006, .int 0, .ref n3007, .ref n3008, .int 0, .int 0, .int 0, .int 0, .int 0, .int 0, .int 0, .ref n3009, .ref n3010, .int 0, .int 0, .ref n3011, .ref n3012, .int 0, .int 1, .ref n3013, .ref n3014, .ref n3015, .int 0, .ref n3016, .ref n3017, .ref n3018]))] := hD
        refine lv_istore (lv' := [(6, .int (-1)), (5, .int 0), (4, .int 0), (3, .ref n5000), (2, .ref n3900), (1, .ref n1900), (0, .ref b)]) hx hb dL_law_1803 hl (by decide +kernel) rfl (fun ls hl => ?_)
        refine lv_aload_n hx hb dL_law_1805 rfl (lv_at hl 4 rfl) ?_
        refine call_i (av := [.ref n3900]) F hP hD hS [(n3900, .inr (12, [.ref n3000, .ref n3001, .ref n3002, .ref n3003, .int 0, .ref n3004, .int 0, .int 0, .int 0, .int 0, .int 0, .int 0, .int 0, .int 0, .int 0, .int (-1), .int 0, .ref n3005, .ref n3006, .int 0, .ref n3007, .ref n3008, .int 0, .int 0, .int 0, .int 0, .int 0, .int 0, .int 0, .ref n3009, .ref n3010, .int 0, .int 0, .ref n3011, .ref n3012, .int 0, .int 1, .ref n3013, .ref n3014, .ref n3015, .int 0, .ref n3016, .ref n3017, .ref n3018]))] [(n5000, .inl (cy 2, 1, .inr (.inl (vp_updL (fun _ => 0) 0 (-1))))), (n3000, .inl (cy 1, 1300, .inl (fun _ => 0)))] [2] [0, 1] rfl rfl (by decide +kernel) (fun pr => va_runV (As := []) (rest := []) ⟨hx, hb, hml, hown, hts⟩ (k338_X12_thrown l D cy H.size n3900 n3000 n3001 n3002 n3003 n3004 n3005 n3006 n3007 n3008 n3009 n3010 n3011 n3012 n3013 n3014 n3015 n3016 n3017 n3018) (cwV 0 hts gw_X12_thrown rfl rfl rfl (by decide +kernel) ⟨(by decide +kernel), (by decide +kernel)⟩) ⟨pr.1, va_recv hK hP (ci := 12) (q0 := 2) rfl rfl, pr.2⟩ rfl rfl hl.1 rfl (lv_room (Nat.le_of_ble_eq_true rfl)) dL_law_1806 ⟨(by decide +kernel), (by decide +kernel)⟩) (fun r u H locs hw hP hD hS => ?_)
        rcases hw with ⟨rfl, rfl⟩
        have hP : va_P D vwCl [(n5000, .inl (cy 2, 1, .inr (.inl (vp_updL (fun _ => 0) 0 (-1))))), (n3000, .inl (cy 1, 1300, .inl (fun _ => 0))), (n3900, .inr (12, [.ref n3000, .ref n3001, .ref n3002, .ref n3003, .int 0, .ref n3004, .int 0, .int 0, .int 0, .int 0, .int 0, .int 0, .int 0, .int 0, .int 0, .int (-1), .int 0, .ref n3005, .ref n3006, .int 0, .ref n3007, .ref n3008, .int 0, .int 0, .int 0, .int 0, .int 0, .int 0, .int 0, .ref n3009, .ref n3010, .int 0, .int 0, .ref n3011, .ref n3012, .int 0, .int 1, .ref n3013, .ref n3014, .ref n3015, .int 0, .ref n3016, .ref n3017, .ref n3018]))] H := hP
        have hD : va_D A [(n5000, .inl (cy 2, 1, .inr (.inl (vp_updL (fun _ => 0) 0 (-1))))), (n3000, .inl (cy 1, 1300, .inl (fun _ => 0))), (n3900, .inr (12, [.ref n3000, .ref n3001, .ref n3002, .ref n3003, .int 0, .ref n3004, .int 0, .int 0, .int 0, .int 0, .int 0, .int 0, .int 0, .int 0, .int 0, .int (-1), .int 0, .ref n3005, .ref n3006, .int 0, .ref n3007, .ref n3008, .int 0, .int 0, .int 0, .int 0, .int 0, .int 0, .int 0, .ref n3009, .ref n3010, .int 0, .int 0, .ref n3011, .ref n3012, .int 0, .int 1, .ref n3013, .ref n3014, .ref n3015, .int 0, .ref n3016, .ref n3017, .ref n3018]))] := hD
        refine lv_iload hx hb dL_law_1809 (lv_at hl 1 rfl) ?_
        refine lv_icmp_eq (tgt := 1816) hx hb dL_law_1811 (by decide +kernel) (fun _ => ?_) (fun h => absurd (by decide +kernel) h)
        refine lv_iload hx hb dL_law_1816 (lv_at hl 1 rfl) ?_
        refine lv_if_ne (tgt := 1833) hx hb dL_law_1818 (by decide +kernel) (fun h => absurd (by decide +kernel) h) (fun _ => ?_)
        refine lv_aload_n hx hb dL_law_1821 rfl (lv_at hl 3 rfl) ?_
        refine lv_iconst (v := 0) hx hb dL_law_1822 (by decide +kernel) ?_
        refine va_lald hx hb hK hP 0 2 rfl rfl (i := 0) (vin (by decide +kernel)) dL_law_1823 ?_
        refine top_l (v := (-1)) (by decide +kernel) ?_
        refine lv_iload hx hb dL_law_1824 (lv_at hl 0 rfl) ?_
        refine lv_i2l (v := (-1)) hx hb dL_law_1826 (by decide +kernel) ?_
        refine W.lcmp hx hb dL_law_1827 ?_
        refine top_i (v := 0) (by decide +kernel) ?_
        refine lv_if_eq (tgt := 1833) hx hb dL_law_1828 (by decide +kernel) (fun _ => ?_) (fun h => absurd (by decide +kernel) h)
        refine lv_goto (tgt := 2458) hx hb dL_law_1833 (by decide +kernel) ?_
        refine lv_iinc (v := 6) (lv' := [(4, .int 6), (6, .int (-1)), (5, .int 0), (3, .ref n5000), (2, .ref n3900), (1, .ref n1900), (0, .ref b)]) hx hb dL_law_2458 hl (k := 2) rfl (by decide) (by decide +kernel) rfl (fun ls hl => ?_)
        refine lv_goto (tgt := 23) hx hb dL_law_2461 (by decide +kernel) ?_
        refine lv_iload hx hb dL_law_23 (lv_at hl 0 rfl) ?_
        refine lv_aload_n hx hb dL_law_25 rfl (lv_at hl 6 rfl) ?_
        refine va_slen hx hb hX hbl hbA hS dL_law_26 ?_
        refine top_i (v := 6) rfl ?_
        refine lv_bipush (v := 6) hx hb dL_law_27 (by decide +kernel) ?_
        refine lv_isub hx hb dL_law_29 ?_
        refine top_i (v := 0) (by decide +kernel) ?_
        refine lv_icmp_gt (tgt := 2464) hx hb dL_law_30 (by decide +kernel) (fun _ => ?_) (fun h => absurd (by decide +kernel) h)
        refine lv_iconst (v := 1) hx hb dL_law_2464 (by decide +kernel) ?_
        refine va_forget (fun q hq => hAq _ (hS.2.2 q hq)) ?_
        refine W.widen (k := 600002) (n := 7302232) (by decide +kernel) (by decide +kernel) ?_
        exact lw_ret hx hb hr hlk dL_law_2465
      · exact absurd c801350 (by decide +kernel)
      · exact absurd c801355 (by decide +kernel)
      · exact absurd c801360 (by decide +kernel)
      · exact absurd c801365 (by decide +kernel)
    · obtain ⟨jj, hj, hjj⟩ := split_b (lo_nlt c800844) (up_lt c800845) 1 (by decide +kernel)
      obtain rfl : jj = 0 := by omega
      have c801370 : z1 = 0 := hjj.trans (by decide +kernel)
      clear hj hjj
      subst c801370
      subst c800850
      have hP : va_P D vwCl [(n3900, .inr (12, [.ref n3000, .ref n3001, .ref n3002, .ref n3003, .int 0, .ref n3004, .int 0, .int 0, .int 0, .int 0, .int 0, .int 0, .int 0, .int 0, .int 0, .int (-1), .int 0, .ref n3005, .ref n3006, .int 0, .ref n3007, .ref n3008, .int 0, .int 0, .int 0, .int 0, .int 0, .int 0, .int 0, .ref n3009, .ref n3010, .int 0, .int 0, .ref n3011, .ref n3012, .int 0, .int 0, .ref n3013, .ref n3014, .ref n3015, .int 0, .ref n3016, .ref n3017, .ref n3018])), (n3000, .inl (cy 1, 1300, .inl (fun _ => 0))), (n5000, .inl (cy 2, 1, .inr (.inl (vp_updL (fun _ => 0) 0 (-1)))))] H := hP
      have hD : va_D A [(n3900, .inr (12, [.ref n3000, .ref n3001, .ref n3002, .ref n3003, .int 0, .ref n3004, .int 0, .int 0, .int 0, .int 0, .int 0, .int 0, .int 0, .int 0, .int 0, .int (-1), .int 0, .ref n3005, .ref n3006, .int 0, .ref n3007, .ref n3008, .int 0, .int 0, .int 0, .int 0, .int 0, .int 0, .int 0, .ref n3009, .ref n3010, .int 0, .int 0, .ref n3011, .ref n3012, .int 0, .int 0, .ref n3013, .ref n3014, .ref n3015, .int 0, .ref n3016, .ref n3017, .ref n3018])), (n3000, .inl (cy 1, 1300, .inl (fun _ => 0))), (n5000, .inl (cy 2, 1, .inr (.inl (vp_updL (fun _ => 0) 0 (-1)))))] := hD
      refine lv_istore (lv' := [(5, .int 0), (4, .int 0), (3, .ref n5000), (2, .ref n3900), (1, .ref n1900), (0, .ref b)]) hx hb dL_law_1771 hl (by decide +kernel) rfl (fun ls hl => ?_)
      refine lv_aload_n hx hb dL_law_1773 rfl (lv_at hl 3 rfl) ?_
      refine lv_aload_n hx hb dL_law_1774 rfl (lv_at hl 5 rfl) ?_
      refine lv_iload hx hb dL_law_1775 (lv_at hl 1 rfl) ?_
      refine lv_iconst (v := 1) hx hb dL_law_1777 (by decide +kernel) ?_
      refine lv_iadd hx hb dL_law_1778 ?_
      refine top_i (v := 1) (by decide +kernel) ?_
      refine va_sld hx hb hX hbl hbA hS (i := 1) (vin (by decide +kernel)) dL_law_1779 ?_
      refine top_i (v := 0) ez1 ?_
      refine lv_aload_n hx hb dL_law_1780 rfl (lv_at hl 5 rfl) ?_
      refine lv_iload hx hb dL_law_1781 (lv_at hl 1 rfl) ?_
      refine lv_iconst (v := 2) hx hb dL_law_1783 (by decide +kernel) ?_
      refine lv_iadd hx hb dL_law_1784 ?_
      refine top_i (v := 2) (by decide +kernel) ?_
      refine va_sld hx hb hX hbl hbA hS (i := 2) (vin (by decide +kernel)) dL_law_1785 ?_
      refine top_i (v := z2) ez2 ?_
      refine lv_if_eq (tgt := 1793) hx hb dL_law_1786 (by decide +kernel) (fun h => absurd h c800001) (fun _ => ?_)
      refine lv_iconst (v := 1) hx hb dL_law_1789 (by decide +kernel) ?_
      refine lv_goto (tgt := 1794) hx hb dL_law_1790 (by decide +kernel) ?_
      refine lv_aload_n hx hb dL_law_1794 rfl (lv_at hl 5 rfl) ?_
      refine lv_iload hx hb dL_law_1795 (lv_at hl 1 rfl) ?_
      refine lv_iconst (v := 3) hx hb dL_law_1797 (by decide +kernel) ?_
      refine lv_iadd hx hb dL_law_1798 ?_
      refine top_i (v := 3) (by decide +kernel) ?_
      refine va_sld hx hb hX hbl hbA hS (i := 3) (vin (by decide +kernel)) dL_law_1799 ?_
      refine top_i (v := 14) ez3 ?_
      refine call_i (av := [.ref n3900, .int 0, .int 1, .int 14]) F hP hD hS [(n3900, .inr (12, [.ref n3000, .ref n3001, .ref n3002, .ref n3003, .int 0, .ref n3004, .int 0, .int 0, .int 0, .int 0, .int 0, .int 0, .int 0, .int 0, .int 0, .int (-1), .int 0, .ref n3005, .ref n3006, .int 0, .ref n3007, .ref n3008, .int 0, .int 0, .int 0, .int 0, .int 0, .int 0, .int 0, .ref n3009, .ref n3010, .int 0, .int 0, .ref n3011, .ref n3012, .int 0, .int 0, .ref n3013, .ref n3014, .ref n3015, .int 0, .ref n3016, .ref n3017, .ref n3018])), (n3000, .inl (cy 1, 1300, .inl (fun _ => 0)))] [(n5000, .inl (cy 2, 1, .inr (.inl (vp_updL (fun _ => 0) 0 (-1)))))] [0, 1] [2] rfl rfl (by decide +kernel) (fun pr => va_runV (As := [.int 0, .int 1, .int 14]) (rest := []) ⟨hx, hb, hml, hown, hts⟩ (k242_X12_bestRow l D cy H.size n3900 0 1 14 n3000 n3001 n3002 n3003 n3004 n3005 n3006 n3007 n3008 n3009 n3010 n3011 n3012 n3013 n3014 n3015 n3016 n3017 n3018) (cwV 3 hts gw_X12_bestRow rfl rfl rfl (by decide +kernel) ⟨(by decide +kernel), (by decide +kernel)⟩) ⟨pr.1, va_recv hK hP (ci := 12) (q0 := 0) rfl rfl, pr.2⟩ rfl rfl hl.1 rfl (lv_room (Nat.le_of_ble_eq_true rfl)) dL_law_1800 ⟨(by decide +kernel), (by decide +kernel)⟩) (fun r u H locs hw hP hD hS => ?_)
      rcases hw with ⟨c801372, rfl, rfl⟩ | ⟨c801373, c801374, rfl, rfl⟩ | ⟨c801375, c801376, c801377, rfl, rfl⟩ | ⟨c801378, c801379, c801380, c801381, rfl, rfl⟩ | ⟨c801382, c801383, c801384, c801385, c801386, rfl, rfl⟩ | ⟨c801387, c801388, c801389, c801390, c801391, rfl, rfl⟩ | ⟨c801392, c801393, c801394, c801395, c801396, rfl, rfl⟩ | ⟨c801397, c801398, c801399, c801400, c801401, rfl, rfl⟩ | ⟨c801402, c801403, c801404, c801405, c801406, rfl, rfl⟩ | ⟨c801407, c801408, c801409, c801410, c801411, rfl, rfl⟩ | ⟨c801412, c801413, c801414, c801415, c801416, rfl, rfl⟩ | ⟨c801417, c801418, c801419, c801420, c801421, rfl, rfl⟩
      · exact absurd (by decide +kernel) c801372
      · exact absurd c801374 (by decide +kernel)
      · exact absurd c801377 (by decide +kernel)
      · exact absurd c801381 (by decide +kernel)
      · exact absurd c801386 (by decide +kernel)
      · exact absurd c801391 (by decide +kernel)
      · exact absurd c801396 (by decide +kernel)
      · exact absurd c801401 (by decide +kernel)
      · have hP : va_P D vwCl [(n5000, .inl (cy 2, 1, .inr (.inl (vp_updL (fun _ => 0) 0 (-1))))), (n3000, .inl (cy 1, 1300, .inl (fun _ => 0))), (n3900, .inr (12, [.ref n3000, .ref n3001, .ref n3002, .ref n3003, .int 0, .ref n3004, .int 0, .int 0, .int 0, .int 0, .int 0, .int 0, .int 0, .int 0, .int 0, .int (-1), .int 0, .ref n3005, .ref n3006, .int 0, .ref n3007, .ref n3008, .int 0, .int 0, .int 0, .int 0, .int 0, .int 0, .int 0, .ref n3009, .ref n3010, .int 0, .int 0, .ref n3011, .ref n3012, .int 0, .int 1, .ref n3013, .ref n3014, .ref n3015, .int 0, .ref n3016, .ref n3017, .ref n3018]))] H := hP
        have hD : va_D A [(n5000, .inl (cy 2, 1, .inr (.inl (vp_updL (fun _ => 0) 0 (-1))))), (n3000, .inl (cy 1, 1300, .inl (fun _ => 0))), (n3900, .inr (12, [.ref n3000, .ref n3001, .ref n3002, .ref n3003, .int 0, .ref n3004, .int 0, .int 0, .int 0, .int 0, .int 0, .int 0, .int 0, .int 0, .int 0, .int (-1), .int 0, .ref n3005, .ref n3006, .int 0, .ref n3007, .ref n3008, .int 0, .int 0, .int 0, .int 0, .int 0, .int 0, .int 0, .ref n3009, .ref n3010, .int 0, .int 0, .ref n3011, .ref n3012, .int 0, .int 1, .ref n3013, .ref n3014, .ref n3015, .int 0, .ref n3016, .ref n3017, .ref n3018]))] := hD
        refine lv_istore (lv' := [(6, .int (-1)), (5, .int 0), (4, .int 0), (3, .ref n5000), (2, .ref n3900), (1, .ref n1900), (0, .ref b)]) hx hb dL_law_1803 hl (by decide +kernel) rfl (fun ls hl => ?_)
        refine lv_aload_n hx hb dL_law_1805 rfl (lv_at hl 4 rfl) ?_
        refine call_i (av := [.ref n3900]) F hP hD hS [(n3900, .inr (12, [.ref n3000, .ref n3001, .ref n3002, .ref n3003, .int 0, .ref n3004, .int 0, .int 0, .int 0, .int 0, .int 0, .int 0, .int 0, .int 0, .int 0, .int (-1), .int 0, .ref n3005, .ref n3006, .int 0, .ref n3007, .ref n3008, .int 0, .int 0, .int 0, .int 0, .int 0, .int 0, .int 0, .ref n3009, .ref n3010, .int 0, .int 0, .ref n3011, .ref n3012, .int 0, .int 1, .ref n3013, .ref n3014, .ref n3015, .int 0, .ref n3016, .ref n3017, .ref n3018]))] [(n5000, .inl (cy 2, 1, .inr (.inl (vp_updL (fun _ => 0) 0 (-1))))), (n3000, .inl (cy 1, 1300, .inl (fun _ => 0)))] [2] [0, 1] rfl rfl (by decide +kernel) (fun pr => va_runV (As := []) (rest := []) ⟨hx, hb, hml, hown, hts⟩ (k338_X12_thrown l D cy H.size n3900 n3000 n3001 n3002 n3003 n3004 n3005 n3006 n3007 n3008 n3009 n3010 n3011 n3012 n3013 n3014 n3015 n3016 n3017 n3018) (cwV 0 hts gw_X12_thrown rfl rfl rfl (by decide +kernel) ⟨(by decide +kernel), (by decide +kernel)⟩) ⟨pr.1, va_recv hK hP (ci := 12) (q0 := 2) rfl rfl, pr.2⟩ rfl rfl hl.1 rfl (lv_room (Nat.le_of_ble_eq_true rfl)) dL_law_1806 ⟨(by decide +kernel), (by decide +kernel)⟩) (fun r u H locs hw hP hD hS => ?_)
        rcases hw with ⟨rfl, rfl⟩
        have hP : va_P D vwCl [(n5000, .inl (cy 2, 1, .inr (.inl (vp_updL (fun _ => 0) 0 (-1))))), (n3000, .inl (cy 1, 1300, .inl (fun _ => 0))), (n3900, .inr (12, [.ref n3000, .ref n3001, .ref n3002, .ref n3003, .int 0, .ref n3004, .int 0, .int 0, .int 0, .int 0, .int 0, .int 0, .int 0, .int 0, .int 0, .int (-1), .int 0, .ref n3005, .ref n3006, .int 0, .ref n3007, .ref n3008, .int 0, .int 0, .int 0, .int 0, .int 0, .int 0, .int 0, .ref n3009, .ref n3010, .int 0, .int 0, .ref n3011, .ref n3012, .int 0, .int 1, .ref n3013, .ref n3014, .ref n3015, .int 0, .ref n3016, .ref n3017, .ref n3018]))] H := hP
        have hD : va_D A [(n5000, .inl (cy 2, 1, .inr (.inl (vp_updL (fun _ => 0) 0 (-1))))), (n3000, .inl (cy 1, 1300, .inl (fun _ => 0))), (n3900, .inr (12, [.ref n3000, .ref n3001, .ref n3002, .ref n3003, .int 0, .ref n3004, .int 0, .int 0, .int 0, .int 0, .int 0, .int 0, .int 0, .int 0, .int 0, .int (-1), .int 0, .ref n3005, .ref n3006, .int 0, .ref n3007, .ref n3008, .int 0, .int 0, .int 0, .int 0, .int 0, .int 0, .int 0, .ref n3009, .ref n3010, .int 0, .int 0, .ref n3011, .ref n3012, .int 0, .int 1, .ref n3013, .ref n3014, .ref n3015, .int 0, .ref n3016, .ref n3017, .ref n3018]))] := hD
        refine lv_iload hx hb dL_law_1809 (lv_at hl 1 rfl) ?_
        refine lv_icmp_eq (tgt := 1816) hx hb dL_law_1811 (by decide +kernel) (fun _ => ?_) (fun h => absurd (by decide +kernel) h)
        refine lv_iload hx hb dL_law_1816 (lv_at hl 1 rfl) ?_
        refine lv_if_ne (tgt := 1833) hx hb dL_law_1818 (by decide +kernel) (fun h => absurd (by decide +kernel) h) (fun _ => ?_)
        refine lv_aload_n hx hb dL_law_1821 rfl (lv_at hl 3 rfl) ?_
        refine lv_iconst (v := 0) hx hb dL_law_1822 (by decide +kernel) ?_
        refine va_lald hx hb hK hP 0 2 rfl rfl (i := 0) (vin (by decide +kernel)) dL_law_1823 ?_
        refine top_l (v := (-1)) (by decide +kernel) ?_
        refine lv_iload hx hb dL_law_1824 (lv_at hl 0 rfl) ?_
        refine lv_i2l (v := (-1)) hx hb dL_law_1826 (by decide +kernel) ?_
        refine W.lcmp hx hb dL_law_1827 ?_
        refine top_i (v := 0) (by decide +kernel) ?_
        refine lv_if_eq (tgt := 1833) hx hb dL_law_1828 (by decide +kernel) (fun _ => ?_) (fun h => absurd (by decide +kernel) h)
        refine lv_goto (tgt := 2458) hx hb dL_law_1833 (by decide +kernel) ?_
        refine lv_iinc (v := 6) (lv' := [(4, .int 6), (6, .int (-1)), (5, .int 0), (3, .ref n5000), (2, .ref n3900), (1, .ref n1900), (0, .ref b)]) hx hb dL_law_2458 hl (k := 2) rfl (by decide) (by decide +kernel) rfl (fun ls hl => ?_)
        refine lv_goto (tgt := 23) hx hb dL_law_2461 (by decide +kernel) ?_
        refine lv_iload hx hb dL_law_23 (lv_at hl 0 rfl) ?_
        refine lv_aload_n hx hb dL_law_25 rfl (lv_at hl 6 rfl) ?_
        refine va_slen hx hb hX hbl hbA hS dL_law_26 ?_
        refine top_i (v := 6) rfl ?_
        refine lv_bipush (v := 6) hx hb dL_law_27 (by decide +kernel) ?_
        refine lv_isub hx hb dL_law_29 ?_
        refine top_i (v := 0) (by decide +kernel) ?_
        refine lv_icmp_gt (tgt := 2464) hx hb dL_law_30 (by decide +kernel) (fun _ => ?_) (fun h => absurd (by decide +kernel) h)
        refine lv_iconst (v := 1) hx hb dL_law_2464 (by decide +kernel) ?_
        refine va_forget (fun q hq => hAq _ (hS.2.2 q hq)) ?_
        refine W.widen (k := 600002) (n := 7302232) (by decide +kernel) (by decide +kernel) ?_
        exact lw_ret hx hb hr hlk dL_law_2465
      · exact absurd c801411 (by decide +kernel)
      · exact absurd c801416 (by decide +kernel)
      · exact absurd c801421 (by decide +kernel)
    · obtain ⟨jj, hj, hjj⟩ := split_b (lo_nlt c800851) (up_lt c800852) 1 (by decide +kernel)
      obtain rfl : jj = 0 := by omega
      have c801426 : z1 = 0 := hjj.trans (by decide +kernel)
      clear hj hjj
      subst c801426
      subst c800857
      have hP : va_P D vwCl [(n3900, .inr (12, [.ref n3000, .ref n3001, .ref n3002, .ref n3003, .int 0, .ref n3004, .int 0, .int 0, .int 0, .int 0, .int 0, .int 0, .int 0, .int 0, .int 0, .int (-1), .int 0, .ref n3005, .ref n3006, .int 0, .ref n3007, .ref n3008, .int 0, .int 0, .int 0, .int 0, .int 0, .int 0, .int 0, .ref n3009, .ref n3010, .int 0, .int 0, .ref n3011, .ref n3012, .int 0, .int 0, .ref n3013, .ref n3014, .ref n3015, .int 0, .ref n3016, .ref n3017, .ref n3018])), (n3000, .inl (cy 1, 1300, .inl (fun _ => 0))), (n5000, .inl (cy 2, 1, .inr (.inl (vp_updL (fun _ => 0) 0 (-1)))))] H := hP
      have hD : va_D A [(n3900, .inr (12, [.ref n3000, .ref n3001, .ref n3002, .ref n3003, .int 0, .ref n3004, .int 0, .int 0, .int 0, .int 0, .int 0, .int 0, .int 0, .int 0, .int 0, .int (-1), .int 0, .ref n3005, .ref n3006, .int 0, .ref n3007, .ref n3008, .int 0, .int 0, .int 0, .int 0, .int 0, .int 0, .int 0, .ref n3009, .ref n3010, .int 0, .int 0, .ref n3011, .ref n3012, .int 0, .int 0, .ref n3013, .ref n3014, .ref n3015, .int 0, .ref n3016, .ref n3017, .ref n3018])), (n3000, .inl (cy 1, 1300, .inl (fun _ => 0))), (n5000, .inl (cy 2, 1, .inr (.inl (vp_updL (fun _ => 0) 0 (-1)))))] := hD
      refine lv_istore (lv' := [(5, .int 0), (4, .int 0), (3, .ref n5000), (2, .ref n3900), (1, .ref n1900), (0, .ref b)]) hx hb dL_law_1771 hl (by decide +kernel) rfl (fun ls hl => ?_)
      refine lv_aload_n hx hb dL_law_1773 rfl (lv_at hl 3 rfl) ?_
      refine lv_aload_n hx hb dL_law_1774 rfl (lv_at hl 5 rfl) ?_
      refine lv_iload hx hb dL_law_1775 (lv_at hl 1 rfl) ?_
      refine lv_iconst (v := 1) hx hb dL_law_1777 (by decide +kernel) ?_
      refine lv_iadd hx hb dL_law_1778 ?_
      refine top_i (v := 1) (by decide +kernel) ?_
      refine va_sld hx hb hX hbl hbA hS (i := 1) (vin (by decide +kernel)) dL_law_1779 ?_
      refine top_i (v := 0) ez1 ?_
      refine lv_aload_n hx hb dL_law_1780 rfl (lv_at hl 5 rfl) ?_
      refine lv_iload hx hb dL_law_1781 (lv_at hl 1 rfl) ?_
      refine lv_iconst (v := 2) hx hb dL_law_1783 (by decide +kernel) ?_
      refine lv_iadd hx hb dL_law_1784 ?_
      refine top_i (v := 2) (by decide +kernel) ?_
      refine va_sld hx hb hX hbl hbA hS (i := 2) (vin (by decide +kernel)) dL_law_1785 ?_
      refine top_i (v := z2) ez2 ?_
      refine lv_if_eq (tgt := 1793) hx hb dL_law_1786 (by decide +kernel) (fun h => absurd h c800001) (fun _ => ?_)
      refine lv_iconst (v := 1) hx hb dL_law_1789 (by decide +kernel) ?_
      refine lv_goto (tgt := 1794) hx hb dL_law_1790 (by decide +kernel) ?_
      refine lv_aload_n hx hb dL_law_1794 rfl (lv_at hl 5 rfl) ?_
      refine lv_iload hx hb dL_law_1795 (lv_at hl 1 rfl) ?_
      refine lv_iconst (v := 3) hx hb dL_law_1797 (by decide +kernel) ?_
      refine lv_iadd hx hb dL_law_1798 ?_
      refine top_i (v := 3) (by decide +kernel) ?_
      refine va_sld hx hb hX hbl hbA hS (i := 3) (vin (by decide +kernel)) dL_law_1799 ?_
      refine top_i (v := 15) ez3 ?_
      refine call_i (av := [.ref n3900, .int 0, .int 1, .int 15]) F hP hD hS [(n3900, .inr (12, [.ref n3000, .ref n3001, .ref n3002, .ref n3003, .int 0, .ref n3004, .int 0, .int 0, .int 0, .int 0, .int 0, .int 0, .int 0, .int 0, .int 0, .int (-1), .int 0, .ref n3005, .ref n3006, .int 0, .ref n3007, .ref n3008, .int 0, .int 0, .int 0, .int 0, .int 0, .int 0, .int 0, .ref n3009, .ref n3010, .int 0, .int 0, .ref n3011, .ref n3012, .int 0, .int 0, .ref n3013, .ref n3014, .ref n3015, .int 0, .ref n3016, .ref n3017, .ref n3018])), (n3000, .inl (cy 1, 1300, .inl (fun _ => 0)))] [(n5000, .inl (cy 2, 1, .inr (.inl (vp_updL (fun _ => 0) 0 (-1)))))] [0, 1] [2] rfl rfl (by decide +kernel) (fun pr => va_runV (As := [.int 0, .int 1, .int 15]) (rest := []) ⟨hx, hb, hml, hown, hts⟩ (k242_X12_bestRow l D cy H.size n3900 0 1 15 n3000 n3001 n3002 n3003 n3004 n3005 n3006 n3007 n3008 n3009 n3010 n3011 n3012 n3013 n3014 n3015 n3016 n3017 n3018) (cwV 3 hts gw_X12_bestRow rfl rfl rfl (by decide +kernel) ⟨(by decide +kernel), (by decide +kernel)⟩) ⟨pr.1, va_recv hK hP (ci := 12) (q0 := 0) rfl rfl, pr.2⟩ rfl rfl hl.1 rfl (lv_room (Nat.le_of_ble_eq_true rfl)) dL_law_1800 ⟨(by decide +kernel), (by decide +kernel)⟩) (fun r u H locs hw hP hD hS => ?_)
      rcases hw with ⟨c801428, rfl, rfl⟩ | ⟨c801429, c801430, rfl, rfl⟩ | ⟨c801431, c801432, c801433, rfl, rfl⟩ | ⟨c801434, c801435, c801436, c801437, rfl, rfl⟩ | ⟨c801438, c801439, c801440, c801441, c801442, rfl, rfl⟩ | ⟨c801443, c801444, c801445, c801446, c801447, rfl, rfl⟩ | ⟨c801448, c801449, c801450, c801451, c801452, rfl, rfl⟩ | ⟨c801453, c801454, c801455, c801456, c801457, rfl, rfl⟩ | ⟨c801458, c801459, c801460, c801461, c801462, rfl, rfl⟩ | ⟨c801463, c801464, c801465, c801466, c801467, rfl, rfl⟩ | ⟨c801468, c801469, c801470, c801471, c801472, rfl, rfl⟩ | ⟨c801473, c801474, c801475, c801476, c801477, rfl, rfl⟩
      · exact absurd (by decide +kernel) c801428
      · exact absurd c801430 (by decide +kernel)
      · exact absurd c801433 (by decide +kernel)
      · exact absurd c801437 (by decide +kernel)
      · exact absurd c801442 (by decide +kernel)
      · exact absurd c801447 (by decide +kernel)
      · exact absurd c801452 (by decide +kernel)
      · exact absurd c801457 (by decide +kernel)
      · exact absurd c801462 (by decide +kernel)
      · have hP : va_P D vwCl [(n5000, .inl (cy 2, 1, .inr (.inl (vp_updL (fun _ => 0) 0 (-1))))), (n3000, .inl (cy 1, 1300, .inl (fun _ => 0))), (n3900, .inr (12, [.ref n3000, .ref n3001, .ref n3002, .ref n3003, .int 0, .ref n3004, .int 0, .int 0, .int 0, .int 0, .int 0, .int 0, .int 0, .int 0, .int 0, .int (-1), .int 0, .ref n3005, .ref n3006, .int 0, .ref n3007, .ref n3008, .int 0, .int 0, .int 0, .int 0, .int 0, .int 0, .int 0, .ref n3009, .ref n3010, .int 0, .int 0, .ref n3011, .ref n3012, .int 0, .int 1, .ref n3013, .ref n3014, .ref n3015, .int 0, .ref n3016, .ref n3017, .ref n3018]))] H := hP
        have hD : va_D A [(n5000, .inl (cy 2, 1, .inr (.inl (vp_updL (fun _ => 0) 0 (-1))))), (n3000, .inl (cy 1, 1300, .inl (fun _ => 0))), (n3900, .inr (12, [.ref n3000, .ref n3001, .ref n3002, .ref n3003, .int 0, .ref n3004, .int 0, .int 0, .int 0, .int 0, .int 0, .int 0, .int 0, .int 0, .int 0, .int (-1), .int 0, .ref n3005, .ref n3006, .int 0, .ref n3007, .ref n3008, .int 0, .int 0, .int 0, .int 0, .int 0, .int 0, .int 0, .ref n3009, .ref n3010, .int 0, .int 0, .ref n3011, .ref n3012, .int 0, .int 1, .ref n3013, .ref n3014, .ref n3015, .int 0, .ref n3016, .ref n3017, .ref n3018]))] := hD
        refine lv_istore (lv' := [(6, .int (-1)), (5, .int 0), (4, .int 0), (3, .ref n5000), (2, .ref n3900), (1, .ref n1900), (0, .ref b)]) hx hb dL_law_1803 hl (by decide +kernel) rfl (fun ls hl => ?_)
        refine lv_aload_n hx hb dL_law_1805 rfl (lv_at hl 4 rfl) ?_
        refine call_i (av := [.ref n3900]) F hP hD hS [(n3900, .inr (12, [.ref n3000, .ref n3001, .ref n3002, .ref n3003, .int 0, .ref n3004, .int 0, .int 0, .int 0, .int 0, .int 0, .int 0, .int 0, .int 0, .int 0, .int (-1), .int 0, .ref n3005, .ref n3006, .int 0, .ref n3007, .ref n3008, .int 0, .int 0, .int 0, .int 0, .int 0, .int 0, .int 0, .ref n3009, .ref n3010, .int 0, .int 0, .ref n3011, .ref n3012, .int 0, .int 1, .ref n3013, .ref n3014, .ref n3015, .int 0, .ref n3016, .ref n3017, .ref n3018]))] [(n5000, .inl (cy 2, 1, .inr (.inl (vp_updL (fun _ => 0) 0 (-1))))), (n3000, .inl (cy 1, 1300, .inl (fun _ => 0)))] [2] [0, 1] rfl rfl (by decide +kernel) (fun pr => va_runV (As := []) (rest := []) ⟨hx, hb, hml, hown, hts⟩ (k338_X12_thrown l D cy H.size n3900 n3000 n3001 n3002 n3003 n3004 n3005 n3006 n3007 n3008 n3009 n3010 n3011 n3012 n3013 n3014 n3015 n3016 n3017 n3018) (cwV 0 hts gw_X12_thrown rfl rfl rfl (by decide +kernel) ⟨(by decide +kernel), (by decide +kernel)⟩) ⟨pr.1, va_recv hK hP (ci := 12) (q0 := 2) rfl rfl, pr.2⟩ rfl rfl hl.1 rfl (lv_room (Nat.le_of_ble_eq_true rfl)) dL_law_1806 ⟨(by decide +kernel), (by decide +kernel)⟩) (fun r u H locs hw hP hD hS => ?_)
        rcases hw with ⟨rfl, rfl⟩
        have hP : va_P D vwCl [(n5000, .inl (cy 2, 1, .inr (.inl (vp_updL (fun _ => 0) 0 (-1))))), (n3000, .inl (cy 1, 1300, .inl (fun _ => 0))), (n3900, .inr (12, [.ref n3000, .ref n3001, .ref n3002, .ref n3003, .int 0, .ref n3004, .int 0, .int 0, .int 0, .int 0, .int 0, .int 0, .int 0, .int 0, .int 0, .int (-1), .int 0, .ref n3005, .ref n3006, .int 0, .ref n3007, .ref n3008, .int 0, .int 0, .int 0, .int 0, .int 0, .int 0, .int 0, .ref n3009, .ref n3010, .int 0, .int 0, .ref n3011, .ref n3012, .int 0, .int 1, .ref n3013, .ref n3014, .ref n3015, .int 0, .ref n3016, .ref n3017, .ref n3018]))] H := hP
        have hD : va_D A [(n5000, .inl (cy 2, 1, .inr (.inl (vp_updL (fun _ => 0) 0 (-1))))), (n3000, .inl (cy 1, 1300, .inl (fun _ => 0))), (n3900, .inr (12, [.ref n3000, .ref n3001, .ref n3002, .ref n3003, .int 0, .ref n3004, .int 0, .int 0, .int 0, .int 0, .int 0, .int 0, .int 0, .int 0, .int 0, .int (-1), .int 0, .ref n3005, .ref n3006, .int 0, .ref n3007, .ref n3008, .int 0, .int 0, .int 0, .int 0, .int 0, .int 0, .int 0, .ref n3009, .ref n3010, .int 0, .int 0, .ref n3011, .ref n3012, .int 0, .int 1, .ref n3013, .ref n3014, .ref n3015, .int 0, .ref n3016, .ref n3017, .ref n3018]))] := hD
        refine lv_iload hx hb dL_law_1809 (lv_at hl 1 rfl) ?_
        refine lv_icmp_eq (tgt := 1816) hx hb dL_law_1811 (by decide +kernel) (fun _ => ?_) (fun h => absurd (by decide +kernel) h)
        refine lv_iload hx hb dL_law_1816 (lv_at hl 1 rfl) ?_
        refine lv_if_ne (tgt := 1833) hx hb dL_law_1818 (by decide +kernel) (fun h => absurd (by decide +kernel) h) (fun _ => ?_)
        refine lv_aload_n hx hb dL_law_1821 rfl (lv_at hl 3 rfl) ?_
        refine lv_iconst (v := 0) hx hb dL_law_1822 (by decide +kernel) ?_
        refine va_lald hx hb hK hP 0 2 rfl rfl (i := 0) (vin (by decide +kernel)) dL_law_1823 ?_
        refine top_l (v := (-1)) (by decide +kernel) ?_
        refine lv_iload hx hb dL_law_1824 (lv_at hl 0 rfl) ?_
        refine lv_i2l (v := (-1)) hx hb dL_law_1826 (by decide +kernel) ?_
        refine W.lcmp hx hb dL_law_1827 ?_
        refine top_i (v := 0) (by decide +kernel) ?_
        refine lv_if_eq (tgt := 1833) hx hb dL_law_1828 (by decide +kernel) (fun _ => ?_) (fun h => absurd (by decide +kernel) h)
        refine lv_goto (tgt := 2458) hx hb dL_law_1833 (by decide +kernel) ?_
        refine lv_iinc (v := 6) (lv' := [(4, .int 6), (6, .int (-1)), (5, .int 0), (3, .ref n5000), (2, .ref n3900), (1, .ref n1900), (0, .ref b)]) hx hb dL_law_2458 hl (k := 2) rfl (by decide) (by decide +kernel) rfl (fun ls hl => ?_)
        refine lv_goto (tgt := 23) hx hb dL_law_2461 (by decide +kernel) ?_
        refine lv_iload hx hb dL_law_23 (lv_at hl 0 rfl) ?_
        refine lv_aload_n hx hb dL_law_25 rfl (lv_at hl 6 rfl) ?_
        refine va_slen hx hb hX hbl hbA hS dL_law_26 ?_
        refine top_i (v := 6) rfl ?_
        refine lv_bipush (v := 6) hx hb dL_law_27 (by decide +kernel) ?_
        refine lv_isub hx hb dL_law_29 ?_
        refine top_i (v := 0) (by decide +kernel) ?_
        refine lv_icmp_gt (tgt := 2464) hx hb dL_law_30 (by decide +kernel) (fun _ => ?_) (fun h => absurd (by decide +kernel) h)
        refine lv_iconst (v := 1) hx hb dL_law_2464 (by decide +kernel) ?_
        refine va_forget (fun q hq => hAq _ (hS.2.2 q hq)) ?_
        refine W.widen (k := 600002) (n := 7302232) (by decide +kernel) (by decide +kernel) ?_
        exact lw_ret hx hb hr hlk dL_law_2465
      · exact absurd c801472 (by decide +kernel)
      · exact absurd c801477 (by decide +kernel)
    · obtain ⟨jj, hj, hjj⟩ := split_b (lo_nlt c800858) (up_lt c800859) 1 (by decide +kernel)
      obtain rfl : jj = 0 := by omega
      have c801482 : z1 = 0 := hjj.trans (by decide +kernel)
      clear hj hjj
      subst c801482
      subst c800864
      have hP : va_P D vwCl [(n3900, .inr (12, [.ref n3000, .ref n3001, .ref n3002, .ref n3003, .int 0, .ref n3004, .int 0, .int 0, .int 0, .int 0, .int 0, .int 0, .int 0, .int 0, .int 0, .int (-1), .int 0, .ref n3005, .ref n3006, .int 0, .ref n3007, .ref n3008, .int 0, .int 0, .int 0, .int 0, .int 0, .int 0, .int 0, .ref n3009, .ref n3010, .int 0, .int 0, .ref n3011, .ref n3012, .int 0, .int 0, .ref n3013, .ref n3014, .ref n3015, .int 0, .ref n3016, .ref n3017, .ref n3018])), (n3000, .inl (cy 1, 1300, .inl (fun _ => 0))), (n5000, .inl (cy 2, 1, .inr (.inl (vp_updL (fun _ => 0) 0 (-1)))))] H := hP
      have hD : va_D A [(n3900, .inr (12, [.ref n3000, .ref n3001, .ref n3002, .ref n3003, .int 0, .ref n3004, .int 0, .int 0, .int 0, .int 0, .int 0, .int 0, .int 0, .int 0, .int 0, .int (-1), .int 0, .ref n3005, .ref n3006, .int 0, .ref n3007, .ref n3008, .int 0, .int 0, .int 0, .int 0, .int 0, .int 0, .int 0, .ref n3009, .ref n3010, .int 0, .int 0, .ref n3011, .ref n3012, .int 0, .int 0, .ref n3013, .ref n3014, .ref n3015, .int 0, .ref n3016, .ref n3017, .ref n3018])), (n3000, .inl (cy 1, 1300, .inl (fun _ => 0))), (n5000, .inl (cy 2, 1, .inr (.inl (vp_updL (fun _ => 0) 0 (-1)))))] := hD
      refine lv_istore (lv' := [(5, .int 0), (4, .int 0), (3, .ref n5000), (2, .ref n3900), (1, .ref n1900), (0, .ref b)]) hx hb dL_law_1771 hl (by decide +kernel) rfl (fun ls hl => ?_)
      refine lv_aload_n hx hb dL_law_1773 rfl (lv_at hl 3 rfl) ?_
      refine lv_aload_n hx hb dL_law_1774 rfl (lv_at hl 5 rfl) ?_
      refine lv_iload hx hb dL_law_1775 (lv_at hl 1 rfl) ?_
      refine lv_iconst (v := 1) hx hb dL_law_1777 (by decide +kernel) ?_
      refine lv_iadd hx hb dL_law_1778 ?_
      refine top_i (v := 1) (by decide +kernel) ?_
      refine va_sld hx hb hX hbl hbA hS (i := 1) (vin (by decide +kernel)) dL_law_1779 ?_
      refine top_i (v := 0) ez1 ?_
      refine lv_aload_n hx hb dL_law_1780 rfl (lv_at hl 5 rfl) ?_
      refine lv_iload hx hb dL_law_1781 (lv_at hl 1 rfl) ?_
      refine lv_iconst (v := 2) hx hb dL_law_1783 (by decide +kernel) ?_
      refine lv_iadd hx hb dL_law_1784 ?_
      refine top_i (v := 2) (by decide +kernel) ?_
      refine va_sld hx hb hX hbl hbA hS (i := 2) (vin (by decide +kernel)) dL_law_1785 ?_
      refine top_i (v := z2) ez2 ?_
      refine lv_if_eq (tgt := 1793) hx hb dL_law_1786 (by decide +kernel) (fun h => absurd h c800001) (fun _ => ?_)
      refine lv_iconst (v := 1) hx hb dL_law_1789 (by decide +kernel) ?_
      refine lv_goto (tgt := 1794) hx hb dL_law_1790 (by decide +kernel) ?_
      refine lv_aload_n hx hb dL_law_1794 rfl (lv_at hl 5 rfl) ?_
      refine lv_iload hx hb dL_law_1795 (lv_at hl 1 rfl) ?_
      refine lv_iconst (v := 3) hx hb dL_law_1797 (by decide +kernel) ?_
      refine lv_iadd hx hb dL_law_1798 ?_
      refine top_i (v := 3) (by decide +kernel) ?_
      refine va_sld hx hb hX hbl hbA hS (i := 3) (vin (by decide +kernel)) dL_law_1799 ?_
      refine top_i (v := 16) ez3 ?_
      refine call_i (av := [.ref n3900, .int 0, .int 1, .int 16]) F hP hD hS [(n3900, .inr (12, [.ref n3000, .ref n3001, .ref n3002, .ref n3003, .int 0, .ref n3004, .int 0, .int 0, .int 0, .int 0, .int 0, .int 0, .int 0, .int 0, .int 0, .int (-1), .int 0, .ref n3005, .ref n3006, .int 0, .ref n3007, .ref n3008, .int 0, .int 0, .int 0, .int 0, .int 0, .int 0, .int 0, .ref n3009, .ref n3010, .int 0, .int 0, .ref n3011, .ref n3012, .int 0, .int 0, .ref n3013, .ref n3014, .ref n3015, .int 0, .ref n3016, .ref n3017, .ref n3018])), (n3000, .inl (cy 1, 1300, .inl (fun _ => 0)))] [(n5000, .inl (cy 2, 1, .inr (.inl (vp_updL (fun _ => 0) 0 (-1)))))] [0, 1] [2] rfl rfl (by decide +kernel) (fun pr => va_runV (As := [.int 0, .int 1, .int 16]) (rest := []) ⟨hx, hb, hml, hown, hts⟩ (k242_X12_bestRow l D cy H.size n3900 0 1 16 n3000 n3001 n3002 n3003 n3004 n3005 n3006 n3007 n3008 n3009 n3010 n3011 n3012 n3013 n3014 n3015 n3016 n3017 n3018) (cwV 3 hts gw_X12_bestRow rfl rfl rfl (by decide +kernel) ⟨(by decide +kernel), (by decide +kernel)⟩) ⟨pr.1, va_recv hK hP (ci := 12) (q0 := 0) rfl rfl, pr.2⟩ rfl rfl hl.1 rfl (lv_room (Nat.le_of_ble_eq_true rfl)) dL_law_1800 ⟨(by decide +kernel), (by decide +kernel)⟩) (fun r u H locs hw hP hD hS => ?_)
      rcases hw with ⟨c801484, rfl, rfl⟩ | ⟨c801485, c801486, rfl, rfl⟩ | ⟨c801487, c801488, c801489, rfl, rfl⟩ | ⟨c801490, c801491, c801492, c801493, rfl, rfl⟩ | ⟨c801494, c801495, c801496, c801497, c801498, rfl, rfl⟩ | ⟨c801499, c801500, c801501, c801502, c801503, rfl, rfl⟩ | ⟨c801504, c801505, c801506, c801507, c801508, rfl, rfl⟩ | ⟨c801509, c801510, c801511, c801512, c801513, rfl, rfl⟩ | ⟨c801514, c801515, c801516, c801517, c801518, rfl, rfl⟩ | ⟨c801519, c801520, c801521, c801522, c801523, rfl, rfl⟩ | ⟨c801524, c801525, c801526, c801527, c801528, rfl, rfl⟩ | ⟨c801529, c801530, c801531, c801532, c801533, rfl, rfl⟩
      · exact absurd (by decide +kernel) c801484
      · exact absurd c801486 (by decide +kernel)
      · exact absurd c801489 (by decide +kernel)
      · exact absurd c801493 (by decide +kernel)
      · exact absurd c801498 (by decide +kernel)
      · exact absurd c801503 (by decide +kernel)
      · exact absurd c801508 (by decide +kernel)
      · exact absurd c801513 (by decide +kernel)
      · exact absurd c801518 (by decide +kernel)
      · exact absurd c801523 (by decide +kernel)
      · have hP : va_P D vwCl [(n5000, .inl (cy 2, 1, .inr (.inl (vp_updL (fun _ => 0) 0 (-1))))), (n3000, .inl (cy 1, 1300, .inl (fun _ => 0))), (n3900, .inr (12, [.ref n3000, .ref n3001, .ref n3002, .ref n3003, .int 0, .ref n3004, .int 0, .int 0, .int 0, .int 0, .int 0, .int 0, .int 0, .int 0, .int 0, .int (-1), .int 0, .ref n3005, .ref n3006, .int 0, .ref n3007, .ref n3008, .int 0, .int 0, .int 0, .int 0, .int 0, .int 0, .int 0, .ref n3009, .ref n3010, .int 0, .int 0, .ref n3011, .ref n3012, .int 0, .int 1, .ref n3013, .ref n3014, .ref n3015, .int 0, .ref n3016, .ref n3017, .ref n3018]))] H := hP
        have hD : va_D A [(n5000, .inl (cy 2, 1, .inr (.inl (vp_updL (fun _ => 0) 0 (-1))))), (n3000, .inl (cy 1, 1300, .inl (fun _ => 0))), (n3900, .inr (12, [.ref n3000, .ref n3001, .ref n3002, .ref n3003, .int 0, .ref n3004, .int 0, .int 0, .int 0, .int 0, .int 0, .int 0, .int 0, .int 0, .int 0, .int (-1), .int 0, .ref n3005, .ref n3006, .int 0, .ref n3007, .ref n3008, .int 0, .int 0, .int 0, .int 0, .int 0, .int 0, .int 0, .ref n3009, .ref n3010, .int 0, .int 0, .ref n3011, .ref n3012, .int 0, .int 1, .ref n3013, .ref n3014, .ref n3015, .int 0, .ref n3016, .ref n3017, .ref n3018]))] := hD
        refine lv_istore (lv' := [(6, .int (-1)), (5, .int 0), (4, .int 0), (3, .ref n5000), (2, .ref n3900), (1, .ref n1900), (0, .ref b)]) hx hb dL_law_1803 hl (by decide +kernel) rfl (fun ls hl => ?_)
        refine lv_aload_n hx hb dL_law_1805 rfl (lv_at hl 4 rfl) ?_
        refine call_i (av := [.ref n3900]) F hP hD hS [(n3900, .inr (12, [.ref n3000, .ref n3001, .ref n3002, .ref n3003, .int 0, .ref n3004, .int 0, .int 0, .int 0, .int 0, .int 0, .int 0, .int 0, .int 0, .int 0, .int (-1), .int 0, .ref n3005, .ref n3006, .int 0, .ref n3007, .ref n3008, .int 0, .int 0, .int 0, .int 0, .int 0, .int 0, .int 0, .ref n3009, .ref n3010, .int 0, .int 0, .ref n3011, .ref n3012, .int 0, .int 1, .ref n3013, .ref n3014, .ref n3015, .int 0, .ref n3016, .ref n3017, .ref n3018]))] [(n5000, .inl (cy 2, 1, .inr (.inl (vp_updL (fun _ => 0) 0 (-1))))), (n3000, .inl (cy 1, 1300, .inl (fun _ => 0)))] [2] [0, 1] rfl rfl (by decide +kernel) (fun pr => va_runV (As := []) (rest := []) ⟨hx, hb, hml, hown, hts⟩ (k338_X12_thrown l D cy H.size n3900 n3000 n3001 n3002 n3003 n3004 n3005 n3006 n3007 n3008 n3009 n3010 n3011 n3012 n3013 n3014 n3015 n3016 n3017 n3018) (cwV 0 hts gw_X12_thrown rfl rfl rfl (by decide +kernel) ⟨(by decide +kernel), (by decide +kernel)⟩) ⟨pr.1, va_recv hK hP (ci := 12) (q0 := 2) rfl rfl, pr.2⟩ rfl rfl hl.1 rfl (lv_room (Nat.le_of_ble_eq_true rfl)) dL_law_1806 ⟨(by decide +kernel), (by decide +kernel)⟩) (fun r u H locs hw hP hD hS => ?_)
        rcases hw with ⟨rfl, rfl⟩
        have hP : va_P D vwCl [(n5000, .inl (cy 2, 1, .inr (.inl (vp_updL (fun _ => 0) 0 (-1))))), (n3000, .inl (cy 1, 1300, .inl (fun _ => 0))), (n3900, .inr (12, [.ref n3000, .ref n3001, .ref n3002, .ref n3003, .int 0, .ref n3004, .int 0, .int 0, .int 0, .int 0, .int 0, .int 0, .int 0, .int 0, .int 0, .int (-1), .int 0, .ref n3005, .ref n3006, .int 0, .ref n3007, .ref n3008, .int 0, .int 0, .int 0, .int 0, .int 0, .int 0, .int 0, .ref n3009, .ref n3010, .int 0, .int 0, .ref n3011, .ref n3012, .int 0, .int 1, .ref n3013, .ref n3014, .ref n3015, .int 0, .ref n3016, .ref n3017, .ref n3018]))] H := hP
        have hD : va_D A [(n5000, .inl (cy 2, 1, .inr (.inl (vp_updL (fun _ => 0) 0 (-1))))), (n3000, .inl (cy 1, 1300, .inl (fun _ => 0))), (n3900, .inr (12, [.ref n3000, .ref n3001, .ref n3002, .ref n3003, .int 0, .ref n3004, .int 0, .int 0, .int 0, .int 0, .int 0, .int 0, .int 0, .int 0, .int 0, .int (-1), .int 0, .ref n3005, .ref n3006, .int 0, .ref n3007, .ref n3008, .int 0, .int 0, .int 0, .int 0, .int 0, .int 0, .int 0, .ref n3009, .ref n3010, .int 0, .int 0, .ref n3011, .ref n3012, .int 0, .int 1, .ref n3013, .ref n3014, .ref n3015, .int 0, .ref n3016, .ref n3017, .ref n3018]))] := hD
        refine lv_iload hx hb dL_law_1809 (lv_at hl 1 rfl) ?_
        refine lv_icmp_eq (tgt := 1816) hx hb dL_law_1811 (by decide +kernel) (fun _ => ?_) (fun h => absurd (by decide +kernel) h)
        refine lv_iload hx hb dL_law_1816 (lv_at hl 1 rfl) ?_
        refine lv_if_ne (tgt := 1833) hx hb dL_law_1818 (by decide +kernel) (fun h => absurd (by decide +kernel) h) (fun _ => ?_)
        refine lv_aload_n hx hb dL_law_1821 rfl (lv_at hl 3 rfl) ?_
        refine lv_iconst (v := 0) hx hb dL_law_1822 (by decide +kernel) ?_
        refine va_lald hx hb hK hP 0 2 rfl rfl (i := 0) (vin (by decide +kernel)) dL_law_1823 ?_
        refine top_l (v := (-1)) (by decide +kernel) ?_
        refine lv_iload hx hb dL_law_1824 (lv_at hl 0 rfl) ?_
        refine lv_i2l (v := (-1)) hx hb dL_law_1826 (by decide +kernel) ?_
        refine W.lcmp hx hb dL_law_1827 ?_
        refine top_i (v := 0) (by decide +kernel) ?_
        refine lv_if_eq (tgt := 1833) hx hb dL_law_1828 (by decide +kernel) (fun _ => ?_) (fun h => absurd (by decide +kernel) h)
        refine lv_goto (tgt := 2458) hx hb dL_law_1833 (by decide +kernel) ?_
        refine lv_iinc (v := 6) (lv' := [(4, .int 6), (6, .int (-1)), (5, .int 0), (3, .ref n5000), (2, .ref n3900), (1, .ref n1900), (0, .ref b)]) hx hb dL_law_2458 hl (k := 2) rfl (by decide) (by decide +kernel) rfl (fun ls hl => ?_)
        refine lv_goto (tgt := 23) hx hb dL_law_2461 (by decide +kernel) ?_
        refine lv_iload hx hb dL_law_23 (lv_at hl 0 rfl) ?_
        refine lv_aload_n hx hb dL_law_25 rfl (lv_at hl 6 rfl) ?_
        refine va_slen hx hb hX hbl hbA hS dL_law_26 ?_
        refine top_i (v := 6) rfl ?_
        refine lv_bipush (v := 6) hx hb dL_law_27 (by decide +kernel) ?_
        refine lv_isub hx hb dL_law_29 ?_
        refine top_i (v := 0) (by decide +kernel) ?_
        refine lv_icmp_gt (tgt := 2464) hx hb dL_law_30 (by decide +kernel) (fun _ => ?_) (fun h => absurd (by decide +kernel) h)
        refine lv_iconst (v := 1) hx hb dL_law_2464 (by decide +kernel) ?_
        refine va_forget (fun q hq => hAq _ (hS.2.2 q hq)) ?_
        refine W.widen (k := 600002) (n := 7302232) (by decide +kernel) (by decide +kernel) ?_
        exact lw_ret hx hb hr hlk dL_law_2465
      · exact absurd c801533 (by decide +kernel)
    · obtain ⟨jj, hj, hjj⟩ := split_b (lo_nlt c800865) (up_lt c800866) 1 (by decide +kernel)
      obtain rfl : jj = 0 := by omega
      have c801538 : z1 = 0 := hjj.trans (by decide +kernel)
      clear hj hjj
      subst c801538
      subst c800871
      have hP : va_P D vwCl [(n3900, .inr (12, [.ref n3000, .ref n3001, .ref n3002, .ref n3003, .int 0, .ref n3004, .int 0, .int 0, .int 0, .int 0, .int 0, .int 0, .int 0, .int 0, .int 0, .int (-1), .int 0, .ref n3005, .ref n3006, .int 0, .ref n3007, .ref n3008, .int 0, .int 0, .int 0, .int 0, .int 0, .int 0, .int 0, .ref n3009, .ref n3010, .int 0, .int 0, .ref n3011, .ref n3012, .int 0, .int 0, .ref n3013, .ref n3014, .ref n3015, .int 0, .ref n3016, .ref n3017, .ref n3018])), (n3000, .inl (cy 1, 1300, .inl (fun _ => 0))), (n5000, .inl (cy 2, 1, .inr (.inl (vp_updL (fun _ => 0) 0 (-1)))))] H := hP
      have hD : va_D A [(n3900, .inr (12, [.ref n3000, .ref n3001, .ref n3002, .ref n3003, .int 0, .ref n3004, .int 0, .int 0, .int 0, .int 0, .int 0, .int 0, .int 0, .int 0, .int 0, .int (-1), .int 0, .ref n3005, .ref n3006, .int 0, .ref n3007, .ref n3008, .int 0, .int 0, .int 0, .int 0, .int 0, .int 0, .int 0, .ref n3009, .ref n3010, .int 0, .int 0, .ref n3011, .ref n3012, .int 0, .int 0, .ref n3013, .ref n3014, .ref n3015, .int 0, .ref n3016, .ref n3017, .ref n3018])), (n3000, .inl (cy 1, 1300, .inl (fun _ => 0))), (n5000, .inl (cy 2, 1, .inr (.inl (vp_updL (fun _ => 0) 0 (-1)))))] := hD
      refine lv_istore (lv' := [(5, .int 0), (4, .int 0), (3, .ref n5000), (2, .ref n3900), (1, .ref n1900), (0, .ref b)]) hx hb dL_law_1771 hl (by decide +kernel) rfl (fun ls hl => ?_)
      refine lv_aload_n hx hb dL_law_1773 rfl (lv_at hl 3 rfl) ?_
      refine lv_aload_n hx hb dL_law_1774 rfl (lv_at hl 5 rfl) ?_
      refine lv_iload hx hb dL_law_1775 (lv_at hl 1 rfl) ?_
      refine lv_iconst (v := 1) hx hb dL_law_1777 (by decide +kernel) ?_
      refine lv_iadd hx hb dL_law_1778 ?_
      refine top_i (v := 1) (by decide +kernel) ?_
      refine va_sld hx hb hX hbl hbA hS (i := 1) (vin (by decide +kernel)) dL_law_1779 ?_
      refine top_i (v := 0) ez1 ?_
      refine lv_aload_n hx hb dL_law_1780 rfl (lv_at hl 5 rfl) ?_
      refine lv_iload hx hb dL_law_1781 (lv_at hl 1 rfl) ?_
      refine lv_iconst (v := 2) hx hb dL_law_1783 (by decide +kernel) ?_
      refine lv_iadd hx hb dL_law_1784 ?_
      refine top_i (v := 2) (by decide +kernel) ?_
      refine va_sld hx hb hX hbl hbA hS (i := 2) (vin (by decide +kernel)) dL_law_1785 ?_
      refine top_i (v := z2) ez2 ?_
      refine lv_if_eq (tgt := 1793) hx hb dL_law_1786 (by decide +kernel) (fun h => absurd h c800001) (fun _ => ?_)
      refine lv_iconst (v := 1) hx hb dL_law_1789 (by decide +kernel) ?_
      refine lv_goto (tgt := 1794) hx hb dL_law_1790 (by decide +kernel) ?_
      refine lv_aload_n hx hb dL_law_1794 rfl (lv_at hl 5 rfl) ?_
      refine lv_iload hx hb dL_law_1795 (lv_at hl 1 rfl) ?_
      refine lv_iconst (v := 3) hx hb dL_law_1797 (by decide +kernel) ?_
      refine lv_iadd hx hb dL_law_1798 ?_
      refine top_i (v := 3) (by decide +kernel) ?_
      refine va_sld hx hb hX hbl hbA hS (i := 3) (vin (by decide +kernel)) dL_law_1799 ?_
      refine top_i (v := 17) ez3 ?_
      refine call_i (av := [.ref n3900, .int 0, .int 1, .int 17]) F hP hD hS [(n3900, .inr (12, [.ref n3000, .ref n3001, .ref n3002, .ref n3003, .int 0, .ref n3004, .int 0, .int 0, .int 0, .int 0, .int 0, .int 0, .int 0, .int 0, .int 0, .int (-1), .int 0, .ref n3005, .ref n3006, .int 0, .ref n3007, .ref n3008, .int 0, .int 0, .int 0, .int 0, .int 0, .int 0, .int 0, .ref n3009, .ref n3010, .int 0, .int 0, .ref n3011, .ref n3012, .int 0, .int 0, .ref n3013, .ref n3014, .ref n3015, .int 0, .ref n3016, .ref n3017, .ref n3018])), (n3000, .inl (cy 1, 1300, .inl (fun _ => 0)))] [(n5000, .inl (cy 2, 1, .inr (.inl (vp_updL (fun _ => 0) 0 (-1)))))] [0, 1] [2] rfl rfl (by decide +kernel) (fun pr => va_runV (As := [.int 0, .int 1, .int 17]) (rest := []) ⟨hx, hb, hml, hown, hts⟩ (k242_X12_bestRow l D cy H.size n3900 0 1 17 n3000 n3001 n3002 n3003 n3004 n3005 n3006 n3007 n3008 n3009 n3010 n3011 n3012 n3013 n3014 n3015 n3016 n3017 n3018) (cwV 3 hts gw_X12_bestRow rfl rfl rfl (by decide +kernel) ⟨(by decide +kernel), (by decide +kernel)⟩) ⟨pr.1, va_recv hK hP (ci := 12) (q0 := 0) rfl rfl, pr.2⟩ rfl rfl hl.1 rfl (lv_room (Nat.le_of_ble_eq_true rfl)) dL_law_1800 ⟨(by decide +kernel), (by decide +kernel)⟩) (fun r u H locs hw hP hD hS => ?_)
      rcases hw with ⟨c801540, rfl, rfl⟩ | ⟨c801541, c801542, rfl, rfl⟩ | ⟨c801543, c801544, c801545, rfl, rfl⟩ | ⟨c801546, c801547, c801548, c801549, rfl, rfl⟩ | ⟨c801550, c801551, c801552, c801553, c801554, rfl, rfl⟩ | ⟨c801555, c801556, c801557, c801558, c801559, rfl, rfl⟩ | ⟨c801560, c801561, c801562, c801563, c801564, rfl, rfl⟩ | ⟨c801565, c801566, c801567, c801568, c801569, rfl, rfl⟩ | ⟨c801570, c801571, c801572, c801573, c801574, rfl, rfl⟩ | ⟨c801575, c801576, c801577, c801578, c801579, rfl, rfl⟩ | ⟨c801580, c801581, c801582, c801583, c801584, rfl, rfl⟩ | ⟨c801585, c801586, c801587, c801588, c801589, rfl, rfl⟩
      · exact absurd (by decide +kernel) c801540
      · exact absurd c801542 (by decide +kernel)
      · exact absurd c801545 (by decide +kernel)
      · exact absurd c801549 (by decide +kernel)
      · exact absurd c801554 (by decide +kernel)
      · exact absurd c801559 (by decide +kernel)
      · exact absurd c801564 (by decide +kernel)
      · exact absurd c801569 (by decide +kernel)
      · exact absurd c801574 (by decide +kernel)
      · exact absurd c801579 (by decide +kernel)
      · exact absurd c801584 (by decide +kernel)
      · have hP : va_P D vwCl [(n5000, .inl (cy 2, 1, .inr (.inl (vp_updL (fun _ => 0) 0 (-1))))), (n3000, .inl (cy 1, 1300, .inl (fun _ => 0))), (n3900, .inr (12, [.ref n3000, .ref n3001, .ref n3002, .ref n3003, .int 0, .ref n3004, .int 0, .int 0, .int 0, .int 0, .int 0, .int 0, .int 0, .int 0, .int 0, .int (-1), .int 0, .ref n3005, .ref n3006, .int 0, .ref n3007, .ref n3008, .int 0, .int 0, .int 0, .int 0, .int 0, .int 0, .int 0, .ref n3009, .ref n3010, .int 0, .int 0, .ref n3011, .ref n3012, .int 0, .int 1, .ref n3013, .ref n3014, .ref n3015, .int 0, .ref n3016, .ref n3017, .ref n3018]))] H := hP
        have hD : va_D A [(n5000, .inl (cy 2, 1, .inr (.inl (vp_updL (fun _ => 0) 0 (-1))))), (n3000, .inl (cy 1, 1300, .inl (fun _ => 0))), (n3900, .inr (12, [.ref n3000, .ref n3001, .ref n3002, .ref n3003, .int 0, .ref n3004, .int 0, .int 0, .int 0, .int 0, .int 0, .int 0, .int 0, .int 0, .int 0, .int (-1), .int 0, .ref n3005, .ref n3006, .int 0, .ref n3007, .ref n3008, .int 0, .int 0, .int 0, .int 0, .int 0, .int 0, .int 0, .ref n3009, .ref n3010, .int 0, .int 0, .ref n3011, .ref n3012, .int 0, .int 1, .ref n3013, .ref n3014, .ref n3015, .int 0, .ref n3016, .ref n3017, .ref n3018]))] := hD
        refine lv_istore (lv' := [(6, .int (-1)), (5, .int 0), (4, .int 0), (3, .ref n5000), (2, .ref n3900), (1, .ref n1900), (0, .ref b)]) hx hb dL_law_1803 hl (by decide +kernel) rfl (fun ls hl => ?_)
        refine lv_aload_n hx hb dL_law_1805 rfl (lv_at hl 4 rfl) ?_
        refine call_i (av := [.ref n3900]) F hP hD hS [(n3900, .inr (12, [.ref n3000, .ref n3001, .ref n3002, .ref n3003, .int 0, .ref n3004, .int 0, .int 0, .int 0, .int 0, .int 0, .int 0, .int 0, .int 0, .int 0, .int (-1), .int 0, .ref n3005, .ref n3006, .int 0, .ref n3007, .ref n3008, .int 0, .int 0, .int 0, .int 0, .int 0, .int 0, .int 0, .ref n3009, .ref n3010, .int 0, .int 0, .ref n3011, .ref n3012, .int 0, .int 1, .ref n3013, .ref n3014, .ref n3015, .int 0, .ref n3016, .ref n3017, .ref n3018]))] [(n5000, .inl (cy 2, 1, .inr (.inl (vp_updL (fun _ => 0) 0 (-1))))), (n3000, .inl (cy 1, 1300, .inl (fun _ => 0)))] [2] [0, 1] rfl rfl (by decide +kernel) (fun pr => va_runV (As := []) (rest := []) ⟨hx, hb, hml, hown, hts⟩ (k338_X12_thrown l D cy H.size n3900 n3000 n3001 n3002 n3003 n3004 n3005 n3006 n3007 n3008 n3009 n3010 n3011 n3012 n3013 n3014 n3015 n3016 n3017 n3018) (cwV 0 hts gw_X12_thrown rfl rfl rfl (by decide +kernel) ⟨(by decide +kernel), (by decide +kernel)⟩) ⟨pr.1, va_recv hK hP (ci := 12) (q0 := 2) rfl rfl, pr.2⟩ rfl rfl hl.1 rfl (lv_room (Nat.le_of_ble_eq_true rfl)) dL_law_1806 ⟨(by decide +kernel), (by decide +kernel)⟩) (fun r u H locs hw hP hD hS => ?_)
        rcases hw with ⟨rfl, rfl⟩
        have hP : va_P D vwCl [(n5000, .inl (cy 2, 1, .inr (.inl (vp_updL (fun _ => 0) 0 (-1))))), (n3000, .inl (cy 1, 1300, .inl (fun _ => 0))), (n3900, .inr (12, [.ref n3000, .ref n3001, .ref n3002, .ref n3003, .int 0, .ref n3004, .int 0, .int 0, .int 0, .int 0, .int 0, .int 0, .int 0, .int 0, .int 0, .int (-1), .int 0, .ref n3005, .ref n3006, .int 0, .ref n3007, .ref n3008, .int 0, .int 0, .int 0, .int 0, .int 0, .int 0, .int 0, .ref n3009, .ref n3010, .int 0, .int 0, .ref n3011, .ref n3012, .int 0, .int 1, .ref n3013, .ref n3014, .ref n3015, .int 0, .ref n3016, .ref n3017, .ref n3018]))] H := hP
        have hD : va_D A [(n5000, .inl (cy 2, 1, .inr (.inl (vp_updL (fun _ => 0) 0 (-1))))), (n3000, .inl (cy 1, 1300, .inl (fun _ => 0))), (n3900, .inr (12, [.ref n3000, .ref n3001, .ref n3002, .ref n3003, .int 0, .ref n3004, .int 0, .int 0, .int 0, .int 0, .int 0, .int 0, .int 0, .int 0, .int 0, .int (-1), .int 0, .ref n3005, .ref n3006, .int 0, .ref n3007, .ref n3008, .int 0, .int 0, .int 0, .int 0, .int 0, .int 0, .int 0, .ref n3009, .ref n3010, .int 0, .int 0, .ref n3011, .ref n3012, .int 0, .int 1, .ref n3013, .ref n3014, .ref n3015, .int 0, .ref n3016, .ref n3017, .ref n3018]))] := hD
        refine lv_iload hx hb dL_law_1809 (lv_at hl 1 rfl) ?_
        refine lv_icmp_eq (tgt := 1816) hx hb dL_law_1811 (by decide +kernel) (fun _ => ?_) (fun h => absurd (by decide +kernel) h)
        refine lv_iload hx hb dL_law_1816 (lv_at hl 1 rfl) ?_
        refine lv_if_ne (tgt := 1833) hx hb dL_law_1818 (by decide +kernel) (fun h => absurd (by decide +kernel) h) (fun _ => ?_)
        refine lv_aload_n hx hb dL_law_1821 rfl (lv_at hl 3 rfl) ?_
        refine lv_iconst (v := 0) hx hb dL_law_1822 (by decide +kernel) ?_
        refine va_lald hx hb hK hP 0 2 rfl rfl (i := 0) (vin (by decide +kernel)) dL_law_1823 ?_
        refine top_l (v := (-1)) (by decide +kernel) ?_
        refine lv_iload hx hb dL_law_1824 (lv_at hl 0 rfl) ?_
        refine lv_i2l (v := (-1)) hx hb dL_law_1826 (by decide +kernel) ?_
        refine W.lcmp hx hb dL_law_1827 ?_
        refine top_i (v := 0) (by decide +kernel) ?_
        refine lv_if_eq (tgt := 1833) hx hb dL_law_1828 (by decide +kernel) (fun _ => ?_) (fun h => absurd (by decide +kernel) h)
        refine lv_goto (tgt := 2458) hx hb dL_law_1833 (by decide +kernel) ?_
        refine lv_iinc (v := 6) (lv' := [(4, .int 6), (6, .int (-1)), (5, .int 0), (3, .ref n5000), (2, .ref n3900), (1, .ref n1900), (0, .ref b)]) hx hb dL_law_2458 hl (k := 2) rfl (by decide) (by decide +kernel) rfl (fun ls hl => ?_)
        refine lv_goto (tgt := 23) hx hb dL_law_2461 (by decide +kernel) ?_
        refine lv_iload hx hb dL_law_23 (lv_at hl 0 rfl) ?_
        refine lv_aload_n hx hb dL_law_25 rfl (lv_at hl 6 rfl) ?_
        refine va_slen hx hb hX hbl hbA hS dL_law_26 ?_
        refine top_i (v := 6) rfl ?_
        refine lv_bipush (v := 6) hx hb dL_law_27 (by decide +kernel) ?_
        refine lv_isub hx hb dL_law_29 ?_
        refine top_i (v := 0) (by decide +kernel) ?_
        refine lv_icmp_gt (tgt := 2464) hx hb dL_law_30 (by decide +kernel) (fun _ => ?_) (fun h => absurd (by decide +kernel) h)
        refine lv_iconst (v := 1) hx hb dL_law_2464 (by decide +kernel) ?_
        refine va_forget (fun q hq => hAq _ (hS.2.2 q hq)) ?_
        refine W.widen (k := 600002) (n := 7302232) (by decide +kernel) (by decide +kernel) ?_
        exact lw_ret hx hb hr hlk dL_law_2465
