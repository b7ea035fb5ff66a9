/-! words and sites of the law's cases [20, 21, 22, 24, 25] (printed by wip/p1/walk.py) -/
theorem mt1222 : Cond.methodLink RL 77 yX11_plainly ∈ WG := zt (List.mem_of_getElem? (i := 1222) (by decide +kernel)) rfl
theorem mt1223 : Cond.instanceMethod yX11_plainly ∈ WG := zt (List.mem_of_getElem? (i := 1223) (by decide +kernel)) rfl
theorem mt1224 : Cond.selects RX11 yX11_plainly yX11_plainly ∈ WG := zt (List.mem_of_getElem? (i := 1224) (by decide +kernel)) rfl
theorem mt1225 : Cond.code yX11_plainly cX11_plainly 8 (some .int) ∈ WG := zt (List.mem_of_getElem? (i := 1225) (by decide +kernel)) rfl
theorem mt1219 : Cond.methodLink RL 170 yL_plainly ∈ WG := zt (List.mem_of_getElem? (i := 1219) (by decide +kernel)) rfl
theorem mt1220 : Cond.static yL_plainly ∈ WG := zt (List.mem_of_getElem? (i := 1220) (by decide +kernel)) rfl
theorem mt1221 : Cond.codeWith yL_plainly cL_plainly 8 (some .int) [(0, 16, 19, 18), (0, 16, 23, 13)] ∈ WG := zt (List.mem_of_getElem? (i := 1221) (by decide +kernel)) rfl
theorem mt1946 : Cond.methodLink RL 173 yX12_plainly ∈ WG := zt (List.mem_of_getElem? (i := 1946) (by decide +kernel)) rfl
theorem mt1947 : Cond.instanceMethod yX12_plainly ∈ WG := zt (List.mem_of_getElem? (i := 1947) (by decide +kernel)) rfl
theorem mt1948 : Cond.selects RX12 yX12_plainly yX12_plainly ∈ WG := zt (List.mem_of_getElem? (i := 1948) (by decide +kernel)) rfl
theorem mt1949 : Cond.code yX12_plainly cX12_plainly 6 (some .int) ∈ WG := zt (List.mem_of_getElem? (i := 1949) (by decide +kernel)) rfl
theorem mt386 : Cond.methodLink RX11 142 yX1_answer ∈ WG := zt (List.mem_of_getElem? (i := 386) (by decide +kernel)) rfl
theorem mt387 : Cond.instanceMethod yX1_answer ∈ WG := zt (List.mem_of_getElem? (i := 387) (by decide +kernel)) rfl
theorem mt388 : Cond.selects RX1 yX1_answer yX1_answer ∈ WG := zt (List.mem_of_getElem? (i := 388) (by decide +kernel)) rfl
theorem mt389 : Cond.code yX1_answer cX1_answer 1 (some .int) ∈ WG := zt (List.mem_of_getElem? (i := 389) (by decide +kernel)) rfl
theorem mt382 : Cond.methodLink RL 174 yX11_value ∈ WG := zt (List.mem_of_getElem? (i := 382) (by decide +kernel)) rfl
theorem mt383 : Cond.instanceMethod yX11_value ∈ WG := zt (List.mem_of_getElem? (i := 383) (by decide +kernel)) rfl
theorem mt384 : Cond.selects RX11 yX11_value yX11_value ∈ WG := zt (List.mem_of_getElem? (i := 384) (by decide +kernel)) rfl
theorem mt385 : Cond.code yX11_value cX11_value 1 (some .int) ∈ WG := zt (List.mem_of_getElem? (i := 385) (by decide +kernel)) rfl
theorem mt1950 : Cond.methodLink RL 177 yX12_value ∈ WG := zt (List.mem_of_getElem? (i := 1950) (by decide +kernel)) rfl
theorem mt1951 : Cond.instanceMethod yX12_value ∈ WG := zt (List.mem_of_getElem? (i := 1951) (by decide +kernel)) rfl
theorem mt1952 : Cond.selects RX12 yX12_value yX12_value ∈ WG := zt (List.mem_of_getElem? (i := 1952) (by decide +kernel)) rfl
theorem mt1953 : Cond.code yX12_value cX12_value 1 (some .int) ∈ WG := zt (List.mem_of_getElem? (i := 1953) (by decide +kernel)) rfl
theorem mt1229 : Cond.methodLink RL 81 yX11_count ∈ WG := zt (List.mem_of_getElem? (i := 1229) (by decide +kernel)) rfl
theorem mt1230 : Cond.instanceMethod yX11_count ∈ WG := zt (List.mem_of_getElem? (i := 1230) (by decide +kernel)) rfl
theorem mt1231 : Cond.selects RX11 yX11_count yX11_count ∈ WG := zt (List.mem_of_getElem? (i := 1231) (by decide +kernel)) rfl
theorem mt1232 : Cond.code yX11_count cX11_count 2 (some .int) ∈ WG := zt (List.mem_of_getElem? (i := 1232) (by decide +kernel)) rfl
theorem mt1226 : Cond.methodLink RL 178 yL_count ∈ WG := zt (List.mem_of_getElem? (i := 1226) (by decide +kernel)) rfl
theorem mt1227 : Cond.static yL_count ∈ WG := zt (List.mem_of_getElem? (i := 1227) (by decide +kernel)) rfl
theorem mt1228 : Cond.codeWith yL_count cL_count 4 (some .int) [(0, 9, 12, 18)] ∈ WG := zt (List.mem_of_getElem? (i := 1228) (by decide +kernel)) rfl
theorem mt1954 : Cond.methodLink RL 180 yX12_count ∈ WG := zt (List.mem_of_getElem? (i := 1954) (by decide +kernel)) rfl
theorem mt1955 : Cond.instanceMethod yX12_count ∈ WG := zt (List.mem_of_getElem? (i := 1955) (by decide +kernel)) rfl
theorem mt1956 : Cond.selects RX12 yX12_count yX12_count ∈ WG := zt (List.mem_of_getElem? (i := 1956) (by decide +kernel)) rfl
theorem mt1957 : Cond.code yX12_count cX12_count 2 (some .int) ∈ WG := zt (List.mem_of_getElem? (i := 1957) (by decide +kernel)) rfl
theorem mt1233 : Cond.methodLink RX11 145 yX1_counted ∈ WG := zt (List.mem_of_getElem? (i := 1233) (by decide +kernel)) rfl
theorem mt1234 : Cond.instanceMethod yX1_counted ∈ WG := zt (List.mem_of_getElem? (i := 1234) (by decide +kernel)) rfl
theorem mt1235 : Cond.selects RX1 yX1_counted yX1_counted ∈ WG := zt (List.mem_of_getElem? (i := 1235) (by decide +kernel)) rfl
theorem mt1236 : Cond.code yX1_counted cX1_counted 2 (some .int) ∈ WG := zt (List.mem_of_getElem? (i := 1236) (by decide +kernel)) rfl
theorem mt1254 : Cond.methodLink RL 87 yX11_size ∈ WG := zt (List.mem_of_getElem? (i := 1254) (by decide +kernel)) rfl
theorem mt1255 : Cond.instanceMethod yX11_size ∈ WG := zt (List.mem_of_getElem? (i := 1255) (by decide +kernel)) rfl
theorem mt1256 : Cond.selects RX11 yX11_size yX11_size ∈ WG := zt (List.mem_of_getElem? (i := 1256) (by decide +kernel)) rfl
theorem mt1257 : Cond.code yX11_size cX11_size 3 (some .int) ∈ WG := zt (List.mem_of_getElem? (i := 1257) (by decide +kernel)) rfl
theorem mt1251 : Cond.methodLink RL 184 yL_size ∈ WG := zt (List.mem_of_getElem? (i := 1251) (by decide +kernel)) rfl
theorem mt1252 : Cond.static yL_size ∈ WG := zt (List.mem_of_getElem? (i := 1252) (by decide +kernel)) rfl
theorem mt1253 : Cond.codeWith yL_size cL_size 5 (some .int) [(0, 10, 13, 18), (0, 10, 17, 13)] ∈ WG := zt (List.mem_of_getElem? (i := 1253) (by decide +kernel)) rfl
theorem mt1958 : Cond.methodLink RL 187 yX12_size ∈ WG := zt (List.mem_of_getElem? (i := 1958) (by decide +kernel)) rfl
theorem mt1959 : Cond.instanceMethod yX12_size ∈ WG := zt (List.mem_of_getElem? (i := 1959) (by decide +kernel)) rfl
theorem mt1960 : Cond.selects RX12 yX12_size yX12_size ∈ WG := zt (List.mem_of_getElem? (i := 1960) (by decide +kernel)) rfl
theorem mt1961 : Cond.code yX12_size cX12_size 3 (some .int) ∈ WG := zt (List.mem_of_getElem? (i := 1961) (by decide +kernel)) rfl
theorem mt1261 : Cond.methodLink RL 91 yX11_node ∈ WG := zt (List.mem_of_getElem? (i := 1261) (by decide +kernel)) rfl
theorem mt1262 : Cond.instanceMethod yX11_node ∈ WG := zt (List.mem_of_getElem? (i := 1262) (by decide +kernel)) rfl
theorem mt1263 : Cond.selects RX11 yX11_node yX11_node ∈ WG := zt (List.mem_of_getElem? (i := 1263) (by decide +kernel)) rfl
theorem mt1264 : Cond.code yX11_node cX11_node 5 (some .int) ∈ WG := zt (List.mem_of_getElem? (i := 1264) (by decide +kernel)) rfl
theorem mt1258 : Cond.methodLink RL 188 yL_node ∈ WG := zt (List.mem_of_getElem? (i := 1258) (by decide +kernel)) rfl
theorem mt1259 : Cond.static yL_node ∈ WG := zt (List.mem_of_getElem? (i := 1259) (by decide +kernel)) rfl
theorem mt1260 : Cond.codeWith yL_node cL_node 6 (some .int) [(0, 12, 15, 27), (0, 12, 19, 18)] ∈ WG := zt (List.mem_of_getElem? (i := 1260) (by decide +kernel)) rfl
theorem mt1962 : Cond.methodLink RL 190 yX12_node ∈ WG := zt (List.mem_of_getElem? (i := 1962) (by decide +kernel)) rfl
theorem mt1963 : Cond.instanceMethod yX12_node ∈ WG := zt (List.mem_of_getElem? (i := 1963) (by decide +kernel)) rfl
theorem mt1964 : Cond.selects RX12 yX12_node yX12_node ∈ WG := zt (List.mem_of_getElem? (i := 1964) (by decide +kernel)) rfl
theorem mt1965 : Cond.code yX12_node cX12_node 7 (some .int) ∈ WG := zt (List.mem_of_getElem? (i := 1965) (by decide +kernel)) rfl
theorem dL_law_1605 : decode cL_law 1605 = .ok (.aload_n 1, 1) := by decide +kernel
theorem dL_law_1606 : decode cL_law 1606 = .ok (.aload_n 0, 1) := by decide +kernel
theorem dL_law_1607 : decode cL_law 1607 = .ok (.iload 4, 2) := by decide +kernel
theorem dL_law_1609 : decode cL_law 1609 = .ok (.iconst 1, 1) := by decide +kernel
theorem dL_law_1610 : decode cL_law 1610 = .ok (.iadd, 1) := by decide +kernel
theorem dL_law_1611 : decode cL_law 1611 = .ok (.iaload, 1) := by decide +kernel
theorem dL_law_1612 : decode cL_law 1612 = .ok (.aload_n 0, 1) := by decide +kernel
theorem dL_law_1613 : decode cL_law 1613 = .ok (.iload 4, 2) := by decide +kernel
theorem dL_law_1615 : decode cL_law 1615 = .ok (.iconst 2, 1) := by decide +kernel
theorem dL_law_1616 : decode cL_law 1616 = .ok (.iadd, 1) := by decide +kernel
theorem dL_law_1617 : decode cL_law 1617 = .ok (.iaload, 1) := by decide +kernel
theorem dL_law_1618 : decode cL_law 1618 = .ok (.aload_n 0, 1) := by decide +kernel
theorem dL_law_1619 : decode cL_law 1619 = .ok (.iload 4, 2) := by decide +kernel
theorem dL_law_1621 : decode cL_law 1621 = .ok (.iconst 3, 1) := by decide +kernel
theorem dL_law_1622 : decode cL_law 1622 = .ok (.iadd, 1) := by decide +kernel
theorem dL_law_1623 : decode cL_law 1623 = .ok (.iaload, 1) := by decide +kernel
theorem dL_law_1624 : decode cL_law 1624 = .ok (.aload_n 0, 1) := by decide +kernel
theorem dL_law_1625 : decode cL_law 1625 = .ok (.iload 4, 2) := by decide +kernel
theorem dL_law_1627 : decode cL_law 1627 = .ok (.iconst 4, 1) := by decide +kernel
theorem dL_law_1628 : decode cL_law 1628 = .ok (.iadd, 1) := by decide +kernel
theorem dL_law_1629 : decode cL_law 1629 = .ok (.iaload, 1) := by decide +kernel
theorem dL_law_1630 : decode cL_law 1630 = .ok (.aload_n 0, 1) := by decide +kernel
theorem dL_law_1631 : decode cL_law 1631 = .ok (.iload 4, 2) := by decide +kernel
theorem dL_law_1633 : decode cL_law 1633 = .ok (.iconst 5, 1) := by decide +kernel
theorem dL_law_1634 : decode cL_law 1634 = .ok (.iadd, 1) := by decide +kernel
theorem dL_law_1635 : decode cL_law 1635 = .ok (.iaload, 1) := by decide +kernel
theorem dL_law_1636 : decode cL_law 1636 = .ok (.ifCond .eq 7, 3) := by decide +kernel
theorem dL_law_1639 : decode cL_law 1639 = .ok (.iconst 1, 1) := by decide +kernel
theorem dL_law_1640 : decode cL_law 1640 = .ok (.goto 4, 3) := by decide +kernel
theorem dL_law_1643 : decode cL_law 1643 = .ok (.iconst 0, 1) := by decide +kernel
theorem dL_law_1644 : decode cL_law 1644 = .ok (.aload_n 3, 1) := by decide +kernel
theorem dL_law_1645 : decode cL_law 1645 = .ok (.invokestatic 170, 3) := by decide +kernel
theorem dL_law_1648 : decode cL_law 1648 = .ok (.istore 5, 2) := by decide +kernel
theorem dL_law_1650 : decode cL_law 1650 = .ok (.aload_n 2, 1) := by decide +kernel
theorem dL_law_1651 : decode cL_law 1651 = .ok (.aload_n 0, 1) := by decide +kernel
theorem dL_law_1652 : decode cL_law 1652 = .ok (.iload 4, 2) := by decide +kernel
theorem dL_law_1654 : decode cL_law 1654 = .ok (.iconst 1, 1) := by decide +kernel
theorem dL_law_1655 : decode cL_law 1655 = .ok (.iadd, 1) := by decide +kernel
theorem dL_law_1656 : decode cL_law 1656 = .ok (.iaload, 1) := by decide +kernel
theorem dL_law_1657 : decode cL_law 1657 = .ok (.aload_n 0, 1) := by decide +kernel
theorem dL_law_1658 : decode cL_law 1658 = .ok (.iload 4, 2) := by decide +kernel
theorem dL_law_1660 : decode cL_law 1660 = .ok (.iconst 2, 1) := by decide +kernel
theorem dL_law_1661 : decode cL_law 1661 = .ok (.iadd, 1) := by decide +kernel
theorem dL_law_1662 : decode cL_law 1662 = .ok (.iaload, 1) := by decide +kernel
theorem dL_law_1663 : decode cL_law 1663 = .ok (.aload_n 0, 1) := by decide +kernel
theorem dL_law_1664 : decode cL_law 1664 = .ok (.iload 4, 2) := by decide +kernel
theorem dL_law_1666 : decode cL_law 1666 = .ok (.iconst 3, 1) := by decide +kernel
theorem dL_law_1667 : decode cL_law 1667 = .ok (.iadd, 1) := by decide +kernel
theorem dL_law_1668 : decode cL_law 1668 = .ok (.iaload, 1) := by decide +kernel
theorem dL_law_1669 : decode cL_law 1669 = .ok (.aload_n 0, 1) := by decide +kernel
theorem dL_law_1670 : decode cL_law 1670 = .ok (.iload 4, 2) := by decide +kernel
theorem dL_law_1672 : decode cL_law 1672 = .ok (.iconst 4, 1) := by decide +kernel
theorem dL_law_1673 : decode cL_law 1673 = .ok (.iadd, 1) := by decide +kernel
theorem dL_law_1674 : decode cL_law 1674 = .ok (.iaload, 1) := by decide +kernel
theorem dL_law_1675 : decode cL_law 1675 = .ok (.aload_n 0, 1) := by decide +kernel
theorem dL_law_1676 : decode cL_law 1676 = .ok (.iload 4, 2) := by decide +kernel
theorem dL_law_1678 : decode cL_law 1678 = .ok (.iconst 5, 1) := by decide +kernel
theorem dL_law_1679 : decode cL_law 1679 = .ok (.iadd, 1) := by decide +kernel
theorem dL_law_1680 : decode cL_law 1680 = .ok (.iaload, 1) := by decide +kernel
theorem dL_law_1681 : decode cL_law 1681 = .ok (.ifCond .eq 7, 3) := by decide +kernel
theorem dL_law_1684 : decode cL_law 1684 = .ok (.iconst 1, 1) := by decide +kernel
theorem dL_law_1685 : decode cL_law 1685 = .ok (.goto 4, 3) := by decide +kernel
theorem dL_law_1688 : decode cL_law 1688 = .ok (.iconst 0, 1) := by decide +kernel
theorem dL_law_1689 : decode cL_law 1689 = .ok (.invokevirtual 173, 3) := by decide +kernel
theorem dL_law_1692 : decode cL_law 1692 = .ok (.istore 6, 2) := by decide +kernel
theorem dL_law_1694 : decode cL_law 1694 = .ok (.aload_n 2, 1) := by decide +kernel
theorem dL_law_1695 : decode cL_law 1695 = .ok (.invokevirtual 104, 3) := by decide +kernel
theorem dL_law_1698 : decode cL_law 1698 = .ok (.iload 5, 2) := by decide +kernel
theorem dL_law_1700 : decode cL_law 1700 = .ok (.if_icmp .eq 5, 3) := by decide +kernel
theorem dL_law_1705 : decode cL_law 1705 = .ok (.iload 5, 2) := by decide +kernel
theorem dL_law_1707 : decode cL_law 1707 = .ok (.ifCond .ne 15, 3) := by decide +kernel
theorem dL_law_1710 : decode cL_law 1710 = .ok (.aload_n 3, 1) := by decide +kernel
theorem dL_law_1711 : decode cL_law 1711 = .ok (.iconst 0, 1) := by decide +kernel
theorem dL_law_1712 : decode cL_law 1712 = .ok (.laload, 1) := by decide +kernel
theorem dL_law_1713 : decode cL_law 1713 = .ok (.iload 6, 2) := by decide +kernel
theorem dL_law_1715 : decode cL_law 1715 = .ok (.i2l, 1) := by decide +kernel
theorem dL_law_1716 : decode cL_law 1716 = .ok (.lcmp, 1) := by decide +kernel
theorem dL_law_1717 : decode cL_law 1717 = .ok (.ifCond .eq 5, 3) := by decide +kernel
theorem dL_law_1722 : decode cL_law 1722 = .ok (.goto 304, 3) := by decide +kernel
theorem dL_law_1725 : decode cL_law 1725 = .ok (.aload_n 1, 1) := by decide +kernel
theorem dL_law_1726 : decode cL_law 1726 = .ok (.invokevirtual 174, 3) := by decide +kernel
theorem dL_law_1729 : decode cL_law 1729 = .ok (.aload_n 2, 1) := by decide +kernel
theorem dL_law_1730 : decode cL_law 1730 = .ok (.invokevirtual 177, 3) := by decide +kernel
theorem dL_law_1733 : decode cL_law 1733 = .ok (.if_icmp .eq 293, 3) := by decide +kernel
theorem dL_law_1738 : decode cL_law 1738 = .ok (.aload_n 1, 1) := by decide +kernel
theorem dL_law_1739 : decode cL_law 1739 = .ok (.aload_n 0, 1) := by decide +kernel
theorem dL_law_1740 : decode cL_law 1740 = .ok (.iload 4, 2) := by decide +kernel
theorem dL_law_1742 : decode cL_law 1742 = .ok (.iconst 1, 1) := by decide +kernel
theorem dL_law_1743 : decode cL_law 1743 = .ok (.iadd, 1) := by decide +kernel
theorem dL_law_1744 : decode cL_law 1744 = .ok (.iaload, 1) := by decide +kernel
theorem dL_law_1745 : decode cL_law 1745 = .ok (.aload_n 3, 1) := by decide +kernel
theorem dL_law_1746 : decode cL_law 1746 = .ok (.invokestatic 178, 3) := by decide +kernel
theorem dL_law_1749 : decode cL_law 1749 = .ok (.istore 5, 2) := by decide +kernel
theorem dL_law_1751 : decode cL_law 1751 = .ok (.aload_n 2, 1) := by decide +kernel
theorem dL_law_1752 : decode cL_law 1752 = .ok (.aload_n 0, 1) := by decide +kernel
theorem dL_law_1753 : decode cL_law 1753 = .ok (.iload 4, 2) := by decide +kernel
theorem dL_law_1755 : decode cL_law 1755 = .ok (.iconst 1, 1) := by decide +kernel
theorem dL_law_1756 : decode cL_law 1756 = .ok (.iadd, 1) := by decide +kernel
theorem dL_law_1757 : decode cL_law 1757 = .ok (.iaload, 1) := by decide +kernel
theorem dL_law_1758 : decode cL_law 1758 = .ok (.invokevirtual 180, 3) := by decide +kernel
theorem dL_law_1761 : decode cL_law 1761 = .ok (.istore 6, 2) := by decide +kernel
theorem dL_law_1763 : decode cL_law 1763 = .ok (.aload_n 2, 1) := by decide +kernel
theorem dL_law_1764 : decode cL_law 1764 = .ok (.invokevirtual 104, 3) := by decide +kernel
theorem dL_law_1767 : decode cL_law 1767 = .ok (.iload 5, 2) := by decide +kernel
theorem dL_law_1769 : decode cL_law 1769 = .ok (.if_icmp .eq 5, 3) := by decide +kernel
theorem dL_law_1774 : decode cL_law 1774 = .ok (.iload 5, 2) := by decide +kernel
theorem dL_law_1776 : decode cL_law 1776 = .ok (.ifCond .ne 15, 3) := by decide +kernel
theorem dL_law_1779 : decode cL_law 1779 = .ok (.aload_n 3, 1) := by decide +kernel
theorem dL_law_1780 : decode cL_law 1780 = .ok (.iconst 0, 1) := by decide +kernel
theorem dL_law_1781 : decode cL_law 1781 = .ok (.laload, 1) := by decide +kernel
theorem dL_law_1782 : decode cL_law 1782 = .ok (.iload 6, 2) := by decide +kernel
theorem dL_law_1784 : decode cL_law 1784 = .ok (.i2l, 1) := by decide +kernel
theorem dL_law_1785 : decode cL_law 1785 = .ok (.lcmp, 1) := by decide +kernel
theorem dL_law_1786 : decode cL_law 1786 = .ok (.ifCond .eq 5, 3) := by decide +kernel
theorem dL_law_1791 : decode cL_law 1791 = .ok (.goto 235, 3) := by decide +kernel
theorem dL_law_1862 : decode cL_law 1862 = .ok (.aload_n 1, 1) := by decide +kernel
theorem dL_law_1863 : decode cL_law 1863 = .ok (.aload_n 0, 1) := by decide +kernel
theorem dL_law_1864 : decode cL_law 1864 = .ok (.iload 4, 2) := by decide +kernel
theorem dL_law_1866 : decode cL_law 1866 = .ok (.iconst 1, 1) := by decide +kernel
theorem dL_law_1867 : decode cL_law 1867 = .ok (.iadd, 1) := by decide +kernel
theorem dL_law_1868 : decode cL_law 1868 = .ok (.iaload, 1) := by decide +kernel
theorem dL_law_1869 : decode cL_law 1869 = .ok (.aload_n 0, 1) := by decide +kernel
theorem dL_law_1870 : decode cL_law 1870 = .ok (.iload 4, 2) := by decide +kernel
theorem dL_law_1872 : decode cL_law 1872 = .ok (.iconst 2, 1) := by decide +kernel
theorem dL_law_1873 : decode cL_law 1873 = .ok (.iadd, 1) := by decide +kernel
theorem dL_law_1874 : decode cL_law 1874 = .ok (.iaload, 1) := by decide +kernel
theorem dL_law_1875 : decode cL_law 1875 = .ok (.ifCond .eq 7, 3) := by decide +kernel
theorem dL_law_1878 : decode cL_law 1878 = .ok (.iconst 1, 1) := by decide +kernel
theorem dL_law_1879 : decode cL_law 1879 = .ok (.goto 4, 3) := by decide +kernel
theorem dL_law_1882 : decode cL_law 1882 = .ok (.iconst 0, 1) := by decide +kernel
theorem dL_law_1883 : decode cL_law 1883 = .ok (.aload_n 3, 1) := by decide +kernel
theorem dL_law_1884 : decode cL_law 1884 = .ok (.invokestatic 184, 3) := by decide +kernel
theorem dL_law_1887 : decode cL_law 1887 = .ok (.istore 5, 2) := by decide +kernel
theorem dL_law_1889 : decode cL_law 1889 = .ok (.aload_n 2, 1) := by decide +kernel
theorem dL_law_1890 : decode cL_law 1890 = .ok (.aload_n 0, 1) := by decide +kernel
theorem dL_law_1891 : decode cL_law 1891 = .ok (.iload 4, 2) := by decide +kernel
theorem dL_law_1893 : decode cL_law 1893 = .ok (.iconst 1, 1) := by decide +kernel
theorem dL_law_1894 : decode cL_law 1894 = .ok (.iadd, 1) := by decide +kernel
theorem dL_law_1895 : decode cL_law 1895 = .ok (.iaload, 1) := by decide +kernel
theorem dL_law_1896 : decode cL_law 1896 = .ok (.aload_n 0, 1) := by decide +kernel
theorem dL_law_1897 : decode cL_law 1897 = .ok (.iload 4, 2) := by decide +kernel
theorem dL_law_1899 : decode cL_law 1899 = .ok (.iconst 2, 1) := by decide +kernel
theorem dL_law_1900 : decode cL_law 1900 = .ok (.iadd, 1) := by decide +kernel
theorem dL_law_1901 : decode cL_law 1901 = .ok (.iaload, 1) := by decide +kernel
theorem dL_law_1902 : decode cL_law 1902 = .ok (.ifCond .eq 7, 3) := by decide +kernel
theorem dL_law_1905 : decode cL_law 1905 = .ok (.iconst 1, 1) := by decide +kernel
theorem dL_law_1906 : decode cL_law 1906 = .ok (.goto 4, 3) := by decide +kernel
theorem dL_law_1909 : decode cL_law 1909 = .ok (.iconst 0, 1) := by decide +kernel
theorem dL_law_1910 : decode cL_law 1910 = .ok (.invokevirtual 187, 3) := by decide +kernel
theorem dL_law_1913 : decode cL_law 1913 = .ok (.istore 6, 2) := by decide +kernel
theorem dL_law_1915 : decode cL_law 1915 = .ok (.aload_n 2, 1) := by decide +kernel
theorem dL_law_1916 : decode cL_law 1916 = .ok (.invokevirtual 104, 3) := by decide +kernel
theorem dL_law_1919 : decode cL_law 1919 = .ok (.iload 5, 2) := by decide +kernel
theorem dL_law_1921 : decode cL_law 1921 = .ok (.if_icmp .eq 5, 3) := by decide +kernel
theorem dL_law_1926 : decode cL_law 1926 = .ok (.iload 5, 2) := by decide +kernel
theorem dL_law_1928 : decode cL_law 1928 = .ok (.ifCond .ne 15, 3) := by decide +kernel
theorem dL_law_1931 : decode cL_law 1931 = .ok (.aload_n 3, 1) := by decide +kernel
theorem dL_law_1932 : decode cL_law 1932 = .ok (.iconst 0, 1) := by decide +kernel
theorem dL_law_1933 : decode cL_law 1933 = .ok (.laload, 1) := by decide +kernel
theorem dL_law_1934 : decode cL_law 1934 = .ok (.iload 6, 2) := by decide +kernel
theorem dL_law_1936 : decode cL_law 1936 = .ok (.i2l, 1) := by decide +kernel
theorem dL_law_1937 : decode cL_law 1937 = .ok (.lcmp, 1) := by decide +kernel
theorem dL_law_1938 : decode cL_law 1938 = .ok (.ifCond .eq 5, 3) := by decide +kernel
theorem dL_law_1943 : decode cL_law 1943 = .ok (.goto 83, 3) := by decide +kernel
theorem dL_law_1946 : decode cL_law 1946 = .ok (.aload_n 1, 1) := by decide +kernel
theorem dL_law_1947 : decode cL_law 1947 = .ok (.aload_n 0, 1) := by decide +kernel
theorem dL_law_1948 : decode cL_law 1948 = .ok (.iload 4, 2) := by decide +kernel
theorem dL_law_1950 : decode cL_law 1950 = .ok (.iconst 1, 1) := by decide +kernel
theorem dL_law_1951 : decode cL_law 1951 = .ok (.iadd, 1) := by decide +kernel
theorem dL_law_1952 : decode cL_law 1952 = .ok (.iaload, 1) := by decide +kernel
theorem dL_law_1953 : decode cL_law 1953 = .ok (.aload_n 0, 1) := by decide +kernel
theorem dL_law_1954 : decode cL_law 1954 = .ok (.iload 4, 2) := by decide +kernel
theorem dL_law_1956 : decode cL_law 1956 = .ok (.iconst 2, 1) := by decide +kernel
theorem dL_law_1957 : decode cL_law 1957 = .ok (.iadd, 1) := by decide +kernel
theorem dL_law_1958 : decode cL_law 1958 = .ok (.iaload, 1) := by decide +kernel
theorem dL_law_1959 : decode cL_law 1959 = .ok (.aload_n 0, 1) := by decide +kernel
theorem dL_law_1960 : decode cL_law 1960 = .ok (.iload 4, 2) := by decide +kernel
theorem dL_law_1962 : decode cL_law 1962 = .ok (.iconst 3, 1) := by decide +kernel
theorem dL_law_1963 : decode cL_law 1963 = .ok (.iadd, 1) := by decide +kernel
theorem dL_law_1964 : decode cL_law 1964 = .ok (.iaload, 1) := by decide +kernel
theorem dL_law_1965 : decode cL_law 1965 = .ok (.aload_n 3, 1) := by decide +kernel
theorem dL_law_1966 : decode cL_law 1966 = .ok (.invokestatic 188, 3) := by decide +kernel
theorem dL_law_1969 : decode cL_law 1969 = .ok (.istore 5, 2) := by decide +kernel
theorem dL_law_1971 : decode cL_law 1971 = .ok (.aload_n 2, 1) := by decide +kernel
theorem dL_law_1972 : decode cL_law 1972 = .ok (.aload_n 0, 1) := by decide +kernel
theorem dL_law_1973 : decode cL_law 1973 = .ok (.iload 4, 2) := by decide +kernel
theorem dL_law_1975 : decode cL_law 1975 = .ok (.iconst 1, 1) := by decide +kernel
theorem dL_law_1976 : decode cL_law 1976 = .ok (.iadd, 1) := by decide +kernel
theorem dL_law_1977 : decode cL_law 1977 = .ok (.iaload, 1) := by decide +kernel
theorem dL_law_1978 : decode cL_law 1978 = .ok (.aload_n 0, 1) := by decide +kernel
theorem dL_law_1979 : decode cL_law 1979 = .ok (.iload 4, 2) := by decide +kernel
theorem dL_law_1981 : decode cL_law 1981 = .ok (.iconst 2, 1) := by decide +kernel
theorem dL_law_1982 : decode cL_law 1982 = .ok (.iadd, 1) := by decide +kernel
theorem dL_law_1983 : decode cL_law 1983 = .ok (.iaload, 1) := by decide +kernel
theorem dL_law_1984 : decode cL_law 1984 = .ok (.aload_n 0, 1) := by decide +kernel
theorem dL_law_1985 : decode cL_law 1985 = .ok (.iload 4, 2) := by decide +kernel
theorem dL_law_1987 : decode cL_law 1987 = .ok (.iconst 3, 1) := by decide +kernel
theorem dL_law_1988 : decode cL_law 1988 = .ok (.iadd, 1) := by decide +kernel
theorem dL_law_1989 : decode cL_law 1989 = .ok (.iaload, 1) := by decide +kernel
theorem dL_law_1990 : decode cL_law 1990 = .ok (.invokevirtual 190, 3) := by decide +kernel
theorem dL_law_1993 : decode cL_law 1993 = .ok (.istore 6, 2) := by decide +kernel
theorem dL_law_1995 : decode cL_law 1995 = .ok (.aload_n 2, 1) := by decide +kernel
theorem dL_law_1996 : decode cL_law 1996 = .ok (.invokevirtual 104, 3) := by decide +kernel
theorem dL_law_1999 : decode cL_law 1999 = .ok (.iload 5, 2) := by decide +kernel
theorem dL_law_2001 : decode cL_law 2001 = .ok (.if_icmp .eq 5, 3) := by decide +kernel
theorem dL_law_2006 : decode cL_law 2006 = .ok (.iload 5, 2) := by decide +kernel
theorem dL_law_2008 : decode cL_law 2008 = .ok (.ifCond .ne 15, 3) := by decide +kernel
theorem dL_law_2023 : decode cL_law 2023 = .ok (.goto 3, 3) := by decide +kernel
theorem dX1_lookAtOwn_27 : decode cX1_lookAtOwn 27 = .ok (.iconst 0, 1) := by decide +kernel
theorem dL_plainly_0 : decode cL_plainly 0 = .ok (.aload 6, 2) := by decide +kernel
theorem dL_plainly_2 : decode cL_plainly 2 = .ok (.iconst 0, 1) := by decide +kernel
theorem dL_plainly_3 : decode cL_plainly 3 = .ok (.aload_n 0, 1) := by decide +kernel
theorem dL_plainly_4 : decode cL_plainly 4 = .ok (.iload_n 1, 1) := by decide +kernel
theorem dL_plainly_5 : decode cL_plainly 5 = .ok (.iload_n 2, 1) := by decide +kernel
theorem dL_plainly_6 : decode cL_plainly 6 = .ok (.iload_n 3, 1) := by decide +kernel
theorem dL_plainly_7 : decode cL_plainly 7 = .ok (.iload 4, 2) := by decide +kernel
theorem dL_plainly_9 : decode cL_plainly 9 = .ok (.iload 5, 2) := by decide +kernel
theorem dL_plainly_11 : decode cL_plainly 11 = .ok (.invokevirtual 77, 3) := by decide +kernel
theorem dL_plainly_14 : decode cL_plainly 14 = .ok (.i2l, 1) := by decide +kernel
theorem dL_plainly_15 : decode cL_plainly 15 = .ok (.lastore, 1) := by decide +kernel
theorem dL_plainly_16 : decode cL_plainly 16 = .ok (.goto 11, 3) := by decide +kernel
theorem dL_plainly_19 : decode cL_plainly 19 = .ok (.astore 7, 2) := by decide +kernel
theorem dL_plainly_21 : decode cL_plainly 21 = .ok (.iconst 1, 1) := by decide +kernel
theorem dL_plainly_22 : decode cL_plainly 22 = .ok (.ireturn, 1) := by decide +kernel
theorem dL_plainly_23 : decode cL_plainly 23 = .ok (.astore 7, 2) := by decide +kernel
theorem dL_plainly_25 : decode cL_plainly 25 = .ok (.iconst 2, 1) := by decide +kernel
theorem dL_plainly_26 : decode cL_plainly 26 = .ok (.ireturn, 1) := by decide +kernel
theorem dL_plainly_27 : decode cL_plainly 27 = .ok (.iconst 0, 1) := by decide +kernel
theorem dL_plainly_28 : decode cL_plainly 28 = .ok (.ireturn, 1) := by decide +kernel
theorem dX11_plainly_0 : decode cX11_plainly 0 = .ok (.aload_n 0, 1) := by decide +kernel
theorem dX11_plainly_1 : decode cX11_plainly 1 = .ok (.iload_n 1, 1) := by decide +kernel
theorem dX11_plainly_2 : decode cX11_plainly 2 = .ok (.iload_n 2, 1) := by decide +kernel
theorem dX11_plainly_3 : decode cX11_plainly 3 = .ok (.iload 5, 2) := by decide +kernel
theorem dX11_plainly_5 : decode cX11_plainly 5 = .ok (.invokevirtual 130, 3) := by decide +kernel
theorem dX11_plainly_8 : decode cX11_plainly 8 = .ok (.astore 6, 2) := by decide +kernel
theorem dX11_plainly_10 : decode cX11_plainly 10 = .ok (.aload 6, 2) := by decide +kernel
theorem dX11_plainly_12 : decode cX11_plainly 12 = .ok (.iload_n 1, 1) := by decide +kernel
theorem dX11_plainly_13 : decode cX11_plainly 13 = .ok (.iload_n 2, 1) := by decide +kernel
theorem dX11_plainly_14 : decode cX11_plainly 14 = .ok (.iload_n 3, 1) := by decide +kernel
theorem dX11_plainly_15 : decode cX11_plainly 15 = .ok (.iload 4, 2) := by decide +kernel
theorem dX11_plainly_17 : decode cX11_plainly 17 = .ok (.invokevirtual 134, 3) := by decide +kernel
theorem dX11_plainly_20 : decode cX11_plainly 20 = .ok (.istore 7, 2) := by decide +kernel
theorem dX11_plainly_22 : decode cX11_plainly 22 = .ok (.aload_n 0, 1) := by decide +kernel
theorem dX11_plainly_23 : decode cX11_plainly 23 = .ok (.getfield 58, 3) := by decide +kernel
theorem dX11_plainly_26 : decode cX11_plainly 26 = .ok (.aload 6, 2) := by decide +kernel
theorem dX11_plainly_28 : decode cX11_plainly 28 = .ok (.iload 7, 2) := by decide +kernel
theorem dX11_plainly_30 : decode cX11_plainly 30 = .ok (.iconst 0, 1) := by decide +kernel
theorem dX11_plainly_31 : decode cX11_plainly 31 = .ok (.iconst 0, 1) := by decide +kernel
theorem dX11_plainly_32 : decode cX11_plainly 32 = .ok (.invokevirtual 138, 3) := by decide +kernel
theorem dX11_plainly_35 : decode cX11_plainly 35 = .ok (.ireturn, 1) := by decide +kernel
theorem dX12_plainly_0 : decode cX12_plainly 0 = .ok (.aload_n 0, 1) := by decide +kernel
theorem dX12_plainly_1 : decode cX12_plainly 1 = .ok (.iload_n 1, 1) := by decide +kernel
theorem dX12_plainly_2 : decode cX12_plainly 2 = .ok (.iload_n 2, 1) := by decide +kernel
theorem dX12_plainly_3 : decode cX12_plainly 3 = .ok (.iconst 1, 1) := by decide +kernel
theorem dX12_plainly_4 : decode cX12_plainly 4 = .ok (.iload 5, 2) := by decide +kernel
theorem dX12_plainly_6 : decode cX12_plainly 6 = .ok (.invokevirtual 492, 3) := by decide +kernel
theorem dX12_plainly_9 : decode cX12_plainly 9 = .ok (.ifCond .ne 5, 3) := by decide +kernel
theorem dX12_plainly_12 : decode cX12_plainly 12 = .ok (.iconst 0, 1) := by decide +kernel
theorem dX12_plainly_13 : decode cX12_plainly 13 = .ok (.ireturn, 1) := by decide +kernel
theorem dX12_plainly_14 : decode cX12_plainly 14 = .ok (.aload_n 0, 1) := by decide +kernel
theorem dX12_plainly_15 : decode cX12_plainly 15 = .ok (.iconst 1, 1) := by decide +kernel
theorem dX12_plainly_16 : decode cX12_plainly 16 = .ok (.putfield 431, 3) := by decide +kernel
theorem dX12_plainly_19 : decode cX12_plainly 19 = .ok (.aload_n 0, 1) := by decide +kernel
theorem dX12_plainly_20 : decode cX12_plainly 20 = .ok (.iconst 0, 1) := by decide +kernel
theorem dX12_plainly_21 : decode cX12_plainly 21 = .ok (.putfield 449, 3) := by decide +kernel
theorem dX12_plainly_24 : decode cX12_plainly 24 = .ok (.aload_n 0, 1) := by decide +kernel
theorem dX12_plainly_25 : decode cX12_plainly 25 = .ok (.iload_n 1, 1) := by decide +kernel
theorem dX12_plainly_26 : decode cX12_plainly 26 = .ok (.iload_n 2, 1) := by decide +kernel
theorem dX12_plainly_27 : decode cX12_plainly 27 = .ok (.iload_n 3, 1) := by decide +kernel
theorem dX12_plainly_28 : decode cX12_plainly 28 = .ok (.iload 4, 2) := by decide +kernel
theorem dX12_plainly_30 : decode cX12_plainly 30 = .ok (.iload 5, 2) := by decide +kernel
theorem dX12_plainly_32 : decode cX12_plainly 32 = .ok (.invokevirtual 496, 3) := by decide +kernel
theorem dX12_plainly_35 : decode cX12_plainly 35 = .ok (.ireturn, 1) := by decide +kernel
theorem dX11_value_0 : decode cX11_value 0 = .ok (.aload_n 0, 1) := by decide +kernel
theorem dX11_value_1 : decode cX11_value 1 = .ok (.getfield 58, 3) := by decide +kernel
theorem dX11_value_4 : decode cX11_value 4 = .ok (.invokevirtual 142, 3) := by decide +kernel
theorem dX11_value_7 : decode cX11_value 7 = .ok (.ireturn, 1) := by decide +kernel
theorem dX1_answer_0 : decode cX1_answer 0 = .ok (.aload_n 0, 1) := by decide +kernel
theorem dX1_answer_1 : decode cX1_answer 1 = .ok (.getfield 43, 3) := by decide +kernel
theorem dX1_answer_4 : decode cX1_answer 4 = .ok (.ireturn, 1) := by decide +kernel
theorem dX12_value_0 : decode cX12_value 0 = .ok (.aload_n 0, 1) := by decide +kernel
theorem dX12_value_1 : decode cX12_value 1 = .ok (.iconst 0, 1) := by decide +kernel
theorem dX12_value_2 : decode cX12_value 2 = .ok (.putfield 172, 3) := by decide +kernel
theorem dX12_value_5 : decode cX12_value 5 = .ok (.aload_n 0, 1) := by decide +kernel
theorem dX12_value_6 : decode cX12_value 6 = .ok (.getfield 410, 3) := by decide +kernel
theorem dX12_value_9 : decode cX12_value 9 = .ok (.ireturn, 1) := by decide +kernel
theorem dL_count_0 : decode cL_count 0 = .ok (.aload_n 2, 1) := by decide +kernel
theorem dL_count_1 : decode cL_count 1 = .ok (.iconst 0, 1) := by decide +kernel
theorem dL_count_2 : decode cL_count 2 = .ok (.aload_n 0, 1) := by decide +kernel
theorem dL_count_3 : decode cL_count 3 = .ok (.iload_n 1, 1) := by decide +kernel
theorem dL_count_4 : decode cL_count 4 = .ok (.invokevirtual 81, 3) := by decide +kernel
theorem dL_count_7 : decode cL_count 7 = .ok (.i2l, 1) := by decide +kernel
theorem dL_count_8 : decode cL_count 8 = .ok (.lastore, 1) := by decide +kernel
theorem dL_count_9 : decode cL_count 9 = .ok (.goto 6, 3) := by decide +kernel
theorem dL_count_12 : decode cL_count 12 = .ok (.astore_n 3, 1) := by decide +kernel
theorem dL_count_13 : decode cL_count 13 = .ok (.iconst 1, 1) := by decide +kernel
theorem dL_count_14 : decode cL_count 14 = .ok (.ireturn, 1) := by decide +kernel
theorem dL_count_15 : decode cL_count 15 = .ok (.iconst 0, 1) := by decide +kernel
theorem dL_count_16 : decode cL_count 16 = .ok (.ireturn, 1) := by decide +kernel
theorem dX11_count_0 : decode cX11_count 0 = .ok (.aload_n 0, 1) := by decide +kernel
theorem dX11_count_1 : decode cX11_count 1 = .ok (.iload_n 1, 1) := by decide +kernel
theorem dX11_count_2 : decode cX11_count 2 = .ok (.bipush 10, 2) := by decide +kernel
theorem dX11_count_4 : decode cX11_count 4 = .ok (.invokevirtual 72, 3) := by decide +kernel
theorem dX11_count_7 : decode cX11_count 7 = .ok (.aload_n 0, 1) := by decide +kernel
theorem dX11_count_8 : decode cX11_count 8 = .ok (.getfield 58, 3) := by decide +kernel
theorem dX11_count_11 : decode cX11_count 11 = .ok (.iload_n 1, 1) := by decide +kernel
theorem dX11_count_12 : decode cX11_count 12 = .ok (.invokevirtual 145, 3) := by decide +kernel
theorem dX11_count_15 : decode cX11_count 15 = .ok (.ireturn, 1) := by decide +kernel
theorem dX12_count_0 : decode cX12_count 0 = .ok (.aload_n 0, 1) := by decide +kernel
theorem dX12_count_1 : decode cX12_count 1 = .ok (.iload_n 1, 1) := by decide +kernel
theorem dX12_count_2 : decode cX12_count 2 = .ok (.iconst 0, 1) := by decide +kernel
theorem dX12_count_3 : decode cX12_count 3 = .ok (.bipush 9, 2) := by decide +kernel
theorem dX12_count_5 : decode cX12_count 5 = .ok (.invokestatic 175, 3) := by decide +kernel
theorem dX12_count_8 : decode cX12_count 8 = .ok (.ifCond .eq 7, 3) := by decide +kernel
theorem dX12_count_11 : decode cX12_count 11 = .ok (.iconst 0, 1) := by decide +kernel
theorem dX12_count_12 : decode cX12_count 12 = .ok (.goto 4, 3) := by decide +kernel
theorem dX12_count_15 : decode cX12_count 15 = .ok (.iconst 1, 1) := by decide +kernel
theorem dX12_count_16 : decode cX12_count 16 = .ok (.invokevirtual 182, 3) := by decide +kernel
theorem dX12_count_19 : decode cX12_count 19 = .ok (.ifCond .eq 12, 3) := by decide +kernel
theorem dX12_count_22 : decode cX12_count 22 = .ok (.aload_n 0, 1) := by decide +kernel
theorem dX12_count_23 : decode cX12_count 23 = .ok (.getfield 166, 3) := by decide +kernel
theorem dX12_count_26 : decode cX12_count 26 = .ok (.iload_n 1, 1) := by decide +kernel
theorem dX12_count_27 : decode cX12_count 27 = .ok (.iaload, 1) := by decide +kernel
theorem dX12_count_28 : decode cX12_count 28 = .ok (.goto 4, 3) := by decide +kernel
theorem dX12_count_31 : decode cX12_count 31 = .ok (.iconst 0, 1) := by decide +kernel
theorem dX12_count_32 : decode cX12_count 32 = .ok (.ireturn, 1) := by decide +kernel
theorem dX1_counted_0 : decode cX1_counted 0 = .ok (.iload_n 1, 1) := by decide +kernel
theorem dX1_counted_1 : decode cX1_counted 1 = .ok (.ifCond .lt 18, 3) := by decide +kernel
theorem dX1_counted_4 : decode cX1_counted 4 = .ok (.iload_n 1, 1) := by decide +kernel
theorem dX1_counted_5 : decode cX1_counted 5 = .ok (.bipush 10, 2) := by decide +kernel
theorem dX1_counted_7 : decode cX1_counted 7 = .ok (.if_icmp .ge 12, 3) := by decide +kernel
theorem dX1_counted_10 : decode cX1_counted 10 = .ok (.aload_n 0, 1) := by decide +kernel
theorem dX1_counted_11 : decode cX1_counted 11 = .ok (.getfield 27, 3) := by decide +kernel
theorem dX1_counted_14 : decode cX1_counted 14 = .ok (.iload_n 1, 1) := by decide +kernel
theorem dX1_counted_15 : decode cX1_counted 15 = .ok (.iaload, 1) := by decide +kernel
theorem dX1_counted_16 : decode cX1_counted 16 = .ok (.goto 4, 3) := by decide +kernel
theorem dX1_counted_20 : decode cX1_counted 20 = .ok (.ireturn, 1) := by decide +kernel
theorem dL_size_0 : decode cL_size 0 = .ok (.aload_n 3, 1) := by decide +kernel
theorem dL_size_1 : decode cL_size 1 = .ok (.iconst 0, 1) := by decide +kernel
theorem dL_size_2 : decode cL_size 2 = .ok (.aload_n 0, 1) := by decide +kernel
theorem dL_size_3 : decode cL_size 3 = .ok (.iload_n 1, 1) := by decide +kernel
theorem dL_size_4 : decode cL_size 4 = .ok (.iload_n 2, 1) := by decide +kernel
theorem dL_size_5 : decode cL_size 5 = .ok (.invokevirtual 87, 3) := by decide +kernel
theorem dL_size_8 : decode cL_size 8 = .ok (.i2l, 1) := by decide +kernel
theorem dL_size_9 : decode cL_size 9 = .ok (.lastore, 1) := by decide +kernel
theorem dL_size_10 : decode cL_size 10 = .ok (.goto 11, 3) := by decide +kernel
theorem dL_size_13 : decode cL_size 13 = .ok (.astore 4, 2) := by decide +kernel
theorem dL_size_15 : decode cL_size 15 = .ok (.iconst 1, 1) := by decide +kernel
theorem dL_size_16 : decode cL_size 16 = .ok (.ireturn, 1) := by decide +kernel
theorem dL_size_17 : decode cL_size 17 = .ok (.astore 4, 2) := by decide +kernel
theorem dL_size_19 : decode cL_size 19 = .ok (.iconst 2, 1) := by decide +kernel
theorem dL_size_20 : decode cL_size 20 = .ok (.ireturn, 1) := by decide +kernel
theorem dL_size_21 : decode cL_size 21 = .ok (.iconst 0, 1) := by decide +kernel
theorem dL_size_22 : decode cL_size 22 = .ok (.ireturn, 1) := by decide +kernel
theorem dX11_size_0 : decode cX11_size 0 = .ok (.aload_n 0, 1) := by decide +kernel
theorem dX11_size_1 : decode cX11_size 1 = .ok (.iload_n 1, 1) := by decide +kernel
theorem dX11_size_2 : decode cX11_size 2 = .ok (.bipush 8, 2) := by decide +kernel
theorem dX11_size_4 : decode cX11_size 4 = .ok (.invokevirtual 72, 3) := by decide +kernel
theorem dX11_size_7 : decode cX11_size 7 = .ok (.aload_n 0, 1) := by decide +kernel
theorem dX11_size_8 : decode cX11_size 8 = .ok (.iload_n 2, 1) := by decide +kernel
theorem dX11_size_9 : decode cX11_size 9 = .ok (.invokevirtual 157, 3) := by decide +kernel
theorem dX11_size_12 : decode cX11_size 12 = .ok (.iload_n 1, 1) := by decide +kernel
theorem dX11_size_13 : decode cX11_size 13 = .ok (.invokevirtual 103, 3) := by decide +kernel
theorem dX11_size_16 : decode cX11_size 16 = .ok (.ireturn, 1) := by decide +kernel
theorem dX12_size_0 : decode cX12_size 0 = .ok (.aload_n 0, 1) := by decide +kernel
theorem dX12_size_1 : decode cX12_size 1 = .ok (.iload_n 1, 1) := by decide +kernel
theorem dX12_size_2 : decode cX12_size 2 = .ok (.invokestatic 197, 3) := by decide +kernel
theorem dX12_size_5 : decode cX12_size 5 = .ok (.ifCond .ne 7, 3) := by decide +kernel
theorem dX12_size_8 : decode cX12_size 8 = .ok (.iconst 1, 1) := by decide +kernel
theorem dX12_size_9 : decode cX12_size 9 = .ok (.goto 19, 3) := by decide +kernel
theorem dX12_size_12 : decode cX12_size 12 = .ok (.iload_n 2, 1) := by decide +kernel
theorem dX12_size_13 : decode cX12_size 13 = .ok (.ifCond .eq 14, 3) := by decide +kernel
theorem dX12_size_16 : decode cX12_size 16 = .ok (.aload_n 0, 1) := by decide +kernel
theorem dX12_size_17 : decode cX12_size 17 = .ok (.getfield 261, 3) := by decide +kernel
theorem dX12_size_20 : decode cX12_size 20 = .ok (.ifCond .ne 7, 3) := by decide +kernel
theorem dX12_size_23 : decode cX12_size 23 = .ok (.iconst 2, 1) := by decide +kernel
theorem dX12_size_24 : decode cX12_size 24 = .ok (.goto 4, 3) := by decide +kernel
theorem dX12_size_27 : decode cX12_size 27 = .ok (.iconst 0, 1) := by decide +kernel
theorem dX12_size_28 : decode cX12_size 28 = .ok (.invokevirtual 182, 3) := by decide +kernel
theorem dX12_size_31 : decode cX12_size 31 = .ok (.ifCond .ne 5, 3) := by decide +kernel
theorem dX12_size_34 : decode cX12_size 34 = .ok (.iconst 0, 1) := by decide +kernel
theorem dX12_size_35 : decode cX12_size 35 = .ok (.ireturn, 1) := by decide +kernel
theorem dX12_size_36 : decode cX12_size 36 = .ok (.aload_n 0, 1) := by decide +kernel
theorem dX12_size_37 : decode cX12_size 37 = .ok (.getfield 49, 3) := by decide +kernel
theorem dX12_size_40 : decode cX12_size 40 = .ok (.iload_n 2, 1) := by decide +kernel
theorem dX12_size_41 : decode cX12_size 41 = .ok (.ifCond .eq 10, 3) := by decide +kernel
theorem dX12_size_51 : decode cX12_size 51 = .ok (.iload_n 1, 1) := by decide +kernel
theorem dX12_size_52 : decode cX12_size 52 = .ok (.iaload, 1) := by decide +kernel
theorem dX12_size_53 : decode cX12_size 53 = .ok (.ireturn, 1) := by decide +kernel
theorem dL_node_0 : decode cL_node 0 = .ok (.aload 4, 2) := by decide +kernel
theorem dL_node_2 : decode cL_node 2 = .ok (.iconst 0, 1) := by decide +kernel
theorem dL_node_3 : decode cL_node 3 = .ok (.aload_n 0, 1) := by decide +kernel
theorem dL_node_4 : decode cL_node 4 = .ok (.iload_n 1, 1) := by decide +kernel
theorem dL_node_5 : decode cL_node 5 = .ok (.iload_n 2, 1) := by decide +kernel
theorem dL_node_6 : decode cL_node 6 = .ok (.iload_n 3, 1) := by decide +kernel
theorem dL_node_7 : decode cL_node 7 = .ok (.invokevirtual 91, 3) := by decide +kernel
theorem dL_node_15 : decode cL_node 15 = .ok (.astore 5, 2) := by decide +kernel
theorem dL_node_17 : decode cL_node 17 = .ok (.iconst 1, 1) := by decide +kernel
theorem dL_node_18 : decode cL_node 18 = .ok (.ireturn, 1) := by decide +kernel
theorem dL_node_19 : decode cL_node 19 = .ok (.astore 5, 2) := by decide +kernel
theorem dL_node_21 : decode cL_node 21 = .ok (.iconst 2, 1) := by decide +kernel
theorem dL_node_22 : decode cL_node 22 = .ok (.ireturn, 1) := by decide +kernel
theorem dX11_node_0 : decode cX11_node 0 = .ok (.aload_n 0, 1) := by decide +kernel
theorem dX11_node_1 : decode cX11_node 1 = .ok (.iload_n 1, 1) := by decide +kernel
theorem dX11_node_2 : decode cX11_node 2 = .ok (.bipush 8, 2) := by decide +kernel
theorem dX11_node_4 : decode cX11_node 4 = .ok (.invokevirtual 72, 3) := by decide +kernel
theorem dX11_node_7 : decode cX11_node 7 = .ok (.iload_n 2, 1) := by decide +kernel
theorem dX11_node_8 : decode cX11_node 8 = .ok (.ifCond .lt 15, 3) := by decide +kernel
theorem dX11_node_11 : decode cX11_node 11 = .ok (.iload_n 2, 1) := by decide +kernel
theorem dX11_node_12 : decode cX11_node 12 = .ok (.aload_n 0, 1) := by decide +kernel
theorem dX11_node_13 : decode cX11_node 13 = .ok (.getfield 28, 3) := by decide +kernel
theorem dX11_node_16 : decode cX11_node 16 = .ok (.iload_n 1, 1) := by decide +kernel
theorem dX11_node_17 : decode cX11_node 17 = .ok (.invokevirtual 103, 3) := by decide +kernel
theorem dX11_node_20 : decode cX11_node 20 = .ok (.if_icmp .lt 13, 3) := by decide +kernel
theorem dX11_node_23 : decode cX11_node 23 = .ok (.new 161, 3) := by decide +kernel
theorem dX11_node_26 : decode cX11_node 26 = .ok (.dup, 1) := by decide +kernel
theorem dX11_node_27 : decode cX11_node 27 = .ok (.ldc 163, 2) := by decide +kernel
theorem dX11_node_29 : decode cX11_node 29 = .ok (.invokespecial 165, 3) := by decide +kernel
theorem dX11_node_32 : decode cX11_node 32 = .ok (.athrow, 1) := by decide +kernel
theorem dX12_node_0 : decode cX12_node 0 = .ok (.iload_n 1, 1) := by decide +kernel
theorem dX12_node_1 : decode cX12_node 1 = .ok (.invokestatic 197, 3) := by decide +kernel
theorem dX12_node_4 : decode cX12_node 4 = .ok (.istore 4, 2) := by decide +kernel
theorem dX12_node_6 : decode cX12_node 6 = .ok (.iload 4, 2) := by decide +kernel
theorem dX12_node_8 : decode cX12_node 8 = .ok (.ifCond .eq 23, 3) := by decide +kernel
theorem dX12_node_11 : decode cX12_node 11 = .ok (.iload_n 2, 1) := by decide +kernel
theorem dX12_node_12 : decode cX12_node 12 = .ok (.iconst 0, 1) := by decide +kernel
theorem dX12_node_13 : decode cX12_node 13 = .ok (.aload_n 0, 1) := by decide +kernel
theorem dX12_node_14 : decode cX12_node 14 = .ok (.getfield 49, 3) := by decide +kernel
theorem dX12_node_17 : decode cX12_node 17 = .ok (.iload_n 1, 1) := by decide +kernel
theorem dX12_node_18 : decode cX12_node 18 = .ok (.iaload, 1) := by decide +kernel
theorem dX12_node_19 : decode cX12_node 19 = .ok (.iconst 1, 1) := by decide +kernel
theorem dX12_node_20 : decode cX12_node 20 = .ok (.isub, 1) := by decide +kernel
theorem dX12_node_21 : decode cX12_node 21 = .ok (.invokestatic 175, 3) := by decide +kernel
theorem dX12_node_24 : decode cX12_node 24 = .ok (.ifCond .eq 7, 3) := by decide +kernel
theorem dX12_node_31 : decode cX12_node 31 = .ok (.iconst 0, 1) := by decide +kernel
theorem dX12_node_32 : decode cX12_node 32 = .ok (.istore 5, 2) := by decide +kernel
theorem dX12_node_34 : decode cX12_node 34 = .ok (.aload_n 0, 1) := by decide +kernel
theorem dX12_node_35 : decode cX12_node 35 = .ok (.iload 4, 2) := by decide +kernel
theorem dX12_node_37 : decode cX12_node 37 = .ok (.ifCond .ne 7, 3) := by decide +kernel
theorem dX12_node_40 : decode cX12_node 40 = .ok (.iconst 2, 1) := by decide +kernel
theorem dX12_node_41 : decode cX12_node 41 = .ok (.goto 26, 3) := by decide +kernel
theorem dX12_node_44 : decode cX12_node 44 = .ok (.iload 5, 2) := by decide +kernel
theorem dX12_node_46 : decode cX12_node 46 = .ok (.ifCond .ne 7, 3) := by decide +kernel
theorem dX12_node_49 : decode cX12_node 49 = .ok (.iconst 1, 1) := by decide +kernel
theorem dX12_node_50 : decode cX12_node 50 = .ok (.goto 17, 3) := by decide +kernel
theorem dX12_node_67 : decode cX12_node 67 = .ok (.invokevirtual 182, 3) := by decide +kernel
theorem dX12_node_70 : decode cX12_node 70 = .ok (.ifCond .ne 5, 3) := by decide +kernel
theorem dX12_node_73 : decode cX12_node 73 = .ok (.iconst 0, 1) := by decide +kernel
theorem dX12_node_74 : decode cX12_node 74 = .ok (.ireturn, 1) := by decide +kernel
set_option maxRecDepth 20000 in
theorem kV_RL_77 : GoodIn WG (wsV RL 77 RX11 yX11_plainly (Cond.code yX11_plainly cX11_plainly 8 (some .int) :: WG)) := zGV mt1222 mt1223 mt1224 mt1 mt1225
set_option maxRecDepth 20000 in
theorem kS_RL_170 : GoodIn WG (va_wsS RL 170 yL_plainly (Cond.codeWith yL_plainly cL_plainly 8 (some .int) [(0, 16, 19, 18), (0, 16, 23, 13)] :: WG)) := zGS mt1219 mt1220 mt0 mt1221
set_option maxRecDepth 20000 in
theorem kV_RL_173 : GoodIn WG (wsV RL 173 RX12 yX12_plainly (Cond.code yX12_plainly cX12_plainly 6 (some .int) :: WG)) := zGV mt1946 mt1947 mt1948 mt10 mt1949
set_option maxRecDepth 20000 in
theorem kV_RX11_142 : GoodIn WG (wsV RX11 142 RX1 yX1_answer (Cond.code yX1_answer cX1_answer 1 (some .int) :: WG)) := zGV mt386 mt387 mt388 mt7 mt389
set_option maxRecDepth 20000 in
theorem kV_RL_174 : GoodIn WG (wsV RL 174 RX11 yX11_value (Cond.code yX11_value cX11_value 1 (some .int) :: WG)) := zGV mt382 mt383 mt384 mt1 mt385
set_option maxRecDepth 20000 in
theorem kV_RL_177 : GoodIn WG (wsV RL 177 RX12 yX12_value (Cond.code yX12_value cX12_value 1 (some .int) :: WG)) := zGV mt1950 mt1951 mt1952 mt10 mt1953
set_option maxRecDepth 20000 in
theorem kV_RL_81 : GoodIn WG (wsV RL 81 RX11 yX11_count (Cond.code yX11_count cX11_count 2 (some .int) :: WG)) := zGV mt1229 mt1230 mt1231 mt1 mt1232
set_option maxRecDepth 20000 in
theorem kS_RL_178 : GoodIn WG (va_wsS RL 178 yL_count (Cond.codeWith yL_count cL_count 4 (some .int) [(0, 9, 12, 18)] :: WG)) := zGS mt1226 mt1227 mt0 mt1228
set_option maxRecDepth 20000 in
theorem kV_RL_180 : GoodIn WG (wsV RL 180 RX12 yX12_count (Cond.code yX12_count cX12_count 2 (some .int) :: WG)) := zGV mt1954 mt1955 mt1956 mt10 mt1957
set_option maxRecDepth 20000 in
theorem kV_RX11_145 : GoodIn WG (wsV RX11 145 RX1 yX1_counted (Cond.code yX1_counted cX1_counted 2 (some .int) :: WG)) := zGV mt1233 mt1234 mt1235 mt7 mt1236
set_option maxRecDepth 20000 in
theorem kV_RL_87 : GoodIn WG (wsV RL 87 RX11 yX11_size (Cond.code yX11_size cX11_size 3 (some .int) :: WG)) := zGV mt1254 mt1255 mt1256 mt1 mt1257
set_option maxRecDepth 20000 in
theorem kS_RL_184 : GoodIn WG (va_wsS RL 184 yL_size (Cond.codeWith yL_size cL_size 5 (some .int) [(0, 10, 13, 18), (0, 10, 17, 13)] :: WG)) := zGS mt1251 mt1252 mt0 mt1253
set_option maxRecDepth 20000 in
theorem kV_RL_187 : GoodIn WG (wsV RL 187 RX12 yX12_size (Cond.code yX12_size cX12_size 3 (some .int) :: WG)) := zGV mt1958 mt1959 mt1960 mt10 mt1961
set_option maxRecDepth 20000 in
theorem kV_RL_91 : GoodIn WG (wsV RL 91 RX11 yX11_node (Cond.code yX11_node cX11_node 5 (some .int) :: WG)) := zGV mt1261 mt1262 mt1263 mt1 mt1264
set_option maxRecDepth 20000 in
theorem kS_RL_188 : GoodIn WG (va_wsS RL 188 yL_node (Cond.codeWith yL_node cL_node 6 (some .int) [(0, 12, 15, 27), (0, 12, 19, 18)] :: WG)) := zGS mt1258 mt1259 mt0 mt1260
set_option maxRecDepth 20000 in
theorem kV_RL_190 : GoodIn WG (wsV RL 190 RX12 yX12_node (Cond.code yX12_node cX12_node 7 (some .int) :: WG)) := zGV mt1962 mt1963 mt1964 mt10 mt1965
theorem hd_X11_plainly : z_hd yX11_plainly RX11 5 := by decide +kernel
theorem hd_L_plainly : z_hd yL_plainly RL 7 := by decide +kernel
theorem hd_X12_plainly : z_hd yX12_plainly RX12 5 := by decide +kernel
theorem hd_X1_answer : z_hd yX1_answer RX1 0 := by decide +kernel
theorem hd_X11_value : z_hd yX11_value RX11 0 := by decide +kernel
theorem hd_X12_value : z_hd yX12_value RX12 0 := by decide +kernel
theorem hd_X11_count : z_hd yX11_count RX11 1 := by decide +kernel
theorem hd_L_count : z_hd yL_count RL 3 := by decide +kernel
theorem hd_X12_count : z_hd yX12_count RX12 1 := by decide +kernel
theorem hd_X1_counted : z_hd yX1_counted RX1 1 := by decide +kernel
theorem hd_X11_size : z_hd yX11_size RX11 2 := by decide +kernel
theorem hd_L_size : z_hd yL_size RL 4 := by decide +kernel
theorem hd_X12_size : z_hd yX12_size RX12 2 := by decide +kernel
theorem hd_X11_node : z_hd yX11_node RX11 3 := by decide +kernel
theorem hd_L_node : z_hd yL_node RL 5 := by decide +kernel
theorem hd_X12_node : z_hd yX12_node RX12 3 := by decide +kernel
