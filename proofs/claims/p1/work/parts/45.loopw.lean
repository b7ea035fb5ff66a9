/-! words and sites of the law's cases [17, 23] (printed by wip/p1/walk.py) -/
theorem mt372 : Cond.methodLink RX5 69 yJ7_fill_53178 ∈ WG := zt (List.mem_of_getElem? (i := 372) (by decide +kernel)) rfl
theorem mt375 : Cond.methodLink RX5 75 yJ7_fill_d0a16 ∈ WG := zt (List.mem_of_getElem? (i := 375) (by decide +kernel)) rfl
theorem mt376 : Cond.static yJ7_fill_d0a16 ∈ WG := zt (List.mem_of_getElem? (i := 376) (by decide +kernel)) rfl
theorem mt377 : Cond.code yJ7_fill_d0a16 cJ7_fill_d0a16 5 none ∈ WG := zt (List.mem_of_getElem? (i := 377) (by decide +kernel)) rfl
theorem mt368 : Cond.methodLink RX5 64 yX5_forget ∈ WG := zt (List.mem_of_getElem? (i := 368) (by decide +kernel)) rfl
theorem mt369 : Cond.instanceMethod yX5_forget ∈ WG := zt (List.mem_of_getElem? (i := 369) (by decide +kernel)) rfl
theorem mt370 : Cond.selects RX5 yX5_forget yX5_forget ∈ WG := zt (List.mem_of_getElem? (i := 370) (by decide +kernel)) rfl
theorem mt371 : Cond.code yX5_forget cX5_forget 1 none ∈ WG := zt (List.mem_of_getElem? (i := 371) (by decide +kernel)) rfl
theorem mt336 : Cond.methodLink RX11 117 yX5_copy ∈ WG := zt (List.mem_of_getElem? (i := 336) (by decide +kernel)) rfl
theorem mt337 : Cond.instanceMethod yX5_copy ∈ WG := zt (List.mem_of_getElem? (i := 337) (by decide +kernel)) rfl
theorem mt338 : Cond.selects RX5 yX5_copy yX5_copy ∈ WG := zt (List.mem_of_getElem? (i := 338) (by decide +kernel)) rfl
theorem mt339 : Cond.code yX5_copy cX5_copy 3 none ∈ WG := zt (List.mem_of_getElem? (i := 339) (by decide +kernel)) rfl
theorem mt378 : Cond.methodLink RX11 120 yX5_howMany ∈ WG := zt (List.mem_of_getElem? (i := 378) (by decide +kernel)) rfl
theorem mt379 : Cond.instanceMethod yX5_howMany ∈ WG := zt (List.mem_of_getElem? (i := 379) (by decide +kernel)) rfl
theorem mt380 : Cond.selects RX5 yX5_howMany yX5_howMany ∈ WG := zt (List.mem_of_getElem? (i := 380) (by decide +kernel)) rfl
theorem mt381 : Cond.code yX5_howMany cX5_howMany 3 (some .int) ∈ WG := zt (List.mem_of_getElem? (i := 381) (by decide +kernel)) rfl
theorem mt332 : Cond.methodLink RL 159 yX11_begin ∈ WG := zt (List.mem_of_getElem? (i := 332) (by decide +kernel)) rfl
theorem mt333 : Cond.instanceMethod yX11_begin ∈ WG := zt (List.mem_of_getElem? (i := 333) (by decide +kernel)) rfl
theorem mt334 : Cond.selects RX11 yX11_begin yX11_begin ∈ WG := zt (List.mem_of_getElem? (i := 334) (by decide +kernel)) rfl
theorem mt335 : Cond.code yX11_begin cX11_begin 1 (some .int) ∈ WG := zt (List.mem_of_getElem? (i := 335) (by decide +kernel)) rfl
theorem mt1675 : Cond.methodLink RX12 244 yX12_forgets ∈ WG := zt (List.mem_of_getElem? (i := 1675) (by decide +kernel)) rfl
theorem mt1677 : Cond.instanceMethod yX12_forgets ∈ WG := zt (List.mem_of_getElem? (i := 1677) (by decide +kernel)) rfl
theorem ms84 : Cond.selects RX12 yX12_forgets yX12_forgets ∈ WG := zs (List.mem_of_getElem? (i := 84) (by decide +kernel)) rfl
theorem mt1678 : Cond.code yX12_forgets cX12_forgets 3 none ∈ WG := zt (List.mem_of_getElem? (i := 1678) (by decide +kernel)) rfl
theorem mt1683 : Cond.methodLink RL 162 yX12_begin ∈ WG := zt (List.mem_of_getElem? (i := 1683) (by decide +kernel)) rfl
theorem mt1684 : Cond.instanceMethod yX12_begin ∈ WG := zt (List.mem_of_getElem? (i := 1684) (by decide +kernel)) rfl
theorem mt1685 : Cond.selects RX12 yX12_begin yX12_begin ∈ WG := zt (List.mem_of_getElem? (i := 1685) (by decide +kernel)) rfl
theorem mt1686 : Cond.code yX12_begin cX12_begin 4 (some .int) ∈ WG := zt (List.mem_of_getElem? (i := 1686) (by decide +kernel)) rfl
theorem mt1240 : Cond.methodLink RL 84 yX11_needed ∈ WG := zt (List.mem_of_getElem? (i := 1240) (by decide +kernel)) rfl
theorem mt1241 : Cond.instanceMethod yX11_needed ∈ WG := zt (List.mem_of_getElem? (i := 1241) (by decide +kernel)) rfl
theorem mt1242 : Cond.selects RX11 yX11_needed yX11_needed ∈ WG := zt (List.mem_of_getElem? (i := 1242) (by decide +kernel)) rfl
theorem mt1243 : Cond.code yX11_needed cX11_needed 3 (some .int) ∈ WG := zt (List.mem_of_getElem? (i := 1243) (by decide +kernel)) rfl
theorem mt1237 : Cond.methodLink RL 181 yL_needed ∈ WG := zt (List.mem_of_getElem? (i := 1237) (by decide +kernel)) rfl
theorem mt1238 : Cond.static yL_needed ∈ WG := zt (List.mem_of_getElem? (i := 1238) (by decide +kernel)) rfl
theorem mt1239 : Cond.codeWith yL_needed cL_needed 5 (some .int) [(0, 10, 13, 18)] ∈ WG := zt (List.mem_of_getElem? (i := 1239) (by decide +kernel)) rfl
theorem mt1687 : Cond.methodLink RL 183 yX12_needed ∈ WG := zt (List.mem_of_getElem? (i := 1687) (by decide +kernel)) rfl
theorem mt1688 : Cond.instanceMethod yX12_needed ∈ WG := zt (List.mem_of_getElem? (i := 1688) (by decide +kernel)) rfl
theorem mt1689 : Cond.selects RX12 yX12_needed yX12_needed ∈ WG := zt (List.mem_of_getElem? (i := 1689) (by decide +kernel)) rfl
theorem mt1690 : Cond.code yX12_needed cX12_needed 3 (some .int) ∈ WG := zt (List.mem_of_getElem? (i := 1690) (by decide +kernel)) rfl
theorem mt707 : Cond.methodLink RX5 41 yX5_sizeOf ∈ WG := zt (List.mem_of_getElem? (i := 707) (by decide +kernel)) rfl
theorem mt1245 : Cond.methodLink RX11 150 yX5_firstLams ∈ WG := zt (List.mem_of_getElem? (i := 1245) (by decide +kernel)) rfl
theorem mt704 : Cond.instanceMethod yX5_firstLams ∈ WG := zt (List.mem_of_getElem? (i := 704) (by decide +kernel)) rfl
theorem mt705 : Cond.selects RX5 yX5_firstLams yX5_firstLams ∈ WG := zt (List.mem_of_getElem? (i := 705) (by decide +kernel)) rfl
theorem mt706 : Cond.code yX5_firstLams cX5_firstLams 4 (some .int) ∈ WG := zt (List.mem_of_getElem? (i := 706) (by decide +kernel)) rfl
theorem mt1699 : Cond.methodLink RX12 273 yX12_copiesGlobal ∈ WG := zt (List.mem_of_getElem? (i := 1699) (by decide +kernel)) rfl
theorem mt1701 : Cond.instanceMethod yX12_copiesGlobal ∈ WG := zt (List.mem_of_getElem? (i := 1701) (by decide +kernel)) rfl
theorem ms87 : Cond.selects RX12 yX12_copiesGlobal yX12_copiesGlobal ∈ WG := zs (List.mem_of_getElem? (i := 87) (by decide +kernel)) rfl
theorem mt1702 : Cond.code yX12_copiesGlobal cX12_copiesGlobal 5 (some .int) ∈ WG := zt (List.mem_of_getElem? (i := 1702) (by decide +kernel)) rfl
theorem mt1639 : Cond.methodLink RX12 240 yX12_ends ∈ WG := zt (List.mem_of_getElem? (i := 1639) (by decide +kernel)) rfl
theorem mt1641 : Cond.instanceMethod yX12_ends ∈ WG := zt (List.mem_of_getElem? (i := 1641) (by decide +kernel)) rfl
theorem ms75 : Cond.selects RX12 yX12_ends yX12_ends ∈ WG := zs (List.mem_of_getElem? (i := 75) (by decide +kernel)) rfl
theorem mt1642 : Cond.code yX12_ends cX12_ends 6 none ∈ WG := zt (List.mem_of_getElem? (i := 1642) (by decide +kernel)) rfl
theorem mt1703 : Cond.methodLink RX12 276 yX12_findsNeeds ∈ WG := zt (List.mem_of_getElem? (i := 1703) (by decide +kernel)) rfl
theorem mt1705 : Cond.instanceMethod yX12_findsNeeds ∈ WG := zt (List.mem_of_getElem? (i := 1705) (by decide +kernel)) rfl
theorem ms88 : Cond.selects RX12 yX12_findsNeeds yX12_findsNeeds ∈ WG := zs (List.mem_of_getElem? (i := 88) (by decide +kernel)) rfl
theorem mt1706 : Cond.code yX12_findsNeeds cX12_findsNeeds 4 none ∈ WG := zt (List.mem_of_getElem? (i := 1706) (by decide +kernel)) rfl
theorem mt1695 : Cond.methodLink RX12 279 yX12_looks ∈ WG := zt (List.mem_of_getElem? (i := 1695) (by decide +kernel)) rfl
theorem mt1697 : Cond.instanceMethod yX12_looks ∈ WG := zt (List.mem_of_getElem? (i := 1697) (by decide +kernel)) rfl
theorem ms86 : Cond.selects RX12 yX12_looks yX12_looks ∈ WG := zs (List.mem_of_getElem? (i := 86) (by decide +kernel)) rfl
theorem mt1698 : Cond.code yX12_looks cX12_looks 10 (some .boolean) ∈ WG := zt (List.mem_of_getElem? (i := 1698) (by decide +kernel)) rfl
theorem mt1691 : Cond.methodLink RX12 282 yX12_demands ∈ WG := zt (List.mem_of_getElem? (i := 1691) (by decide +kernel)) rfl
theorem mt1693 : Cond.instanceMethod yX12_demands ∈ WG := zt (List.mem_of_getElem? (i := 1693) (by decide +kernel)) rfl
theorem ms85 : Cond.selects RX12 yX12_demands yX12_demands ∈ WG := zs (List.mem_of_getElem? (i := 85) (by decide +kernel)) rfl
theorem mt1694 : Cond.code yX12_demands cX12_demands 3 none ∈ WG := zt (List.mem_of_getElem? (i := 1694) (by decide +kernel)) rfl
theorem dL_law_1390 : decode cL_law 1390 = .ok (.aload_n 1, 1) := by decide +kernel
theorem dL_law_1391 : decode cL_law 1391 = .ok (.invokevirtual 159, 3) := by decide +kernel
theorem dL_law_1394 : decode cL_law 1394 = .ok (.aload_n 2, 1) := by decide +kernel
theorem dL_law_1395 : decode cL_law 1395 = .ok (.invokevirtual 162, 3) := by decide +kernel
theorem dL_law_1398 : decode cL_law 1398 = .ok (.if_icmp .eq 628, 3) := by decide +kernel
theorem dL_law_1794 : decode cL_law 1794 = .ok (.aload_n 1, 1) := by decide +kernel
theorem dL_law_1795 : decode cL_law 1795 = .ok (.aload_n 0, 1) := by decide +kernel
theorem dL_law_1796 : decode cL_law 1796 = .ok (.iload 4, 2) := by decide +kernel
theorem dL_law_1798 : decode cL_law 1798 = .ok (.iconst 1, 1) := by decide +kernel
theorem dL_law_1799 : decode cL_law 1799 = .ok (.iadd, 1) := by decide +kernel
theorem dL_law_1800 : decode cL_law 1800 = .ok (.iaload, 1) := by decide +kernel
theorem dL_law_1801 : decode cL_law 1801 = .ok (.aload_n 0, 1) := by decide +kernel
theorem dL_law_1802 : decode cL_law 1802 = .ok (.iload 4, 2) := by decide +kernel
theorem dL_law_1804 : decode cL_law 1804 = .ok (.iconst 2, 1) := by decide +kernel
theorem dL_law_1805 : decode cL_law 1805 = .ok (.iadd, 1) := by decide +kernel
theorem dL_law_1806 : decode cL_law 1806 = .ok (.iaload, 1) := by decide +kernel
theorem dL_law_1807 : decode cL_law 1807 = .ok (.aload_n 3, 1) := by decide +kernel
theorem dL_law_1808 : decode cL_law 1808 = .ok (.invokestatic 181, 3) := by decide +kernel
theorem dL_law_1811 : decode cL_law 1811 = .ok (.istore 5, 2) := by decide +kernel
theorem dL_law_1813 : decode cL_law 1813 = .ok (.aload_n 2, 1) := by decide +kernel
theorem dL_law_1814 : decode cL_law 1814 = .ok (.aload_n 0, 1) := by decide +kernel
theorem dL_law_1815 : decode cL_law 1815 = .ok (.iload 4, 2) := by decide +kernel
theorem dL_law_1817 : decode cL_law 1817 = .ok (.iconst 1, 1) := by decide +kernel
theorem dL_law_1818 : decode cL_law 1818 = .ok (.iadd, 1) := by decide +kernel
theorem dL_law_1819 : decode cL_law 1819 = .ok (.iaload, 1) := by decide +kernel
theorem dL_law_1820 : decode cL_law 1820 = .ok (.aload_n 0, 1) := by decide +kernel
theorem dL_law_1821 : decode cL_law 1821 = .ok (.iload 4, 2) := by decide +kernel
theorem dL_law_1823 : decode cL_law 1823 = .ok (.iconst 2, 1) := by decide +kernel
theorem dL_law_1824 : decode cL_law 1824 = .ok (.iadd, 1) := by decide +kernel
theorem dL_law_1825 : decode cL_law 1825 = .ok (.iaload, 1) := by decide +kernel
theorem dL_law_1826 : decode cL_law 1826 = .ok (.invokevirtual 183, 3) := by decide +kernel
theorem dL_law_1829 : decode cL_law 1829 = .ok (.istore 6, 2) := by decide +kernel
theorem dL_law_1831 : decode cL_law 1831 = .ok (.aload_n 2, 1) := by decide +kernel
theorem dL_law_1832 : decode cL_law 1832 = .ok (.invokevirtual 104, 3) := by decide +kernel
theorem dL_law_1835 : decode cL_law 1835 = .ok (.iload 5, 2) := by decide +kernel
theorem dL_law_1837 : decode cL_law 1837 = .ok (.if_icmp .eq 5, 3) := by decide +kernel
theorem dL_law_1842 : decode cL_law 1842 = .ok (.iload 5, 2) := by decide +kernel
theorem dL_law_1844 : decode cL_law 1844 = .ok (.ifCond .ne 15, 3) := by decide +kernel
theorem dL_law_1847 : decode cL_law 1847 = .ok (.aload_n 3, 1) := by decide +kernel
theorem dL_law_1848 : decode cL_law 1848 = .ok (.iconst 0, 1) := by decide +kernel
theorem dL_law_1849 : decode cL_law 1849 = .ok (.laload, 1) := by decide +kernel
theorem dL_law_1850 : decode cL_law 1850 = .ok (.iload 6, 2) := by decide +kernel
theorem dL_law_1852 : decode cL_law 1852 = .ok (.i2l, 1) := by decide +kernel
theorem dL_law_1853 : decode cL_law 1853 = .ok (.lcmp, 1) := by decide +kernel
theorem dL_law_1854 : decode cL_law 1854 = .ok (.ifCond .eq 5, 3) := by decide +kernel
theorem dL_law_1859 : decode cL_law 1859 = .ok (.goto 167, 3) := by decide +kernel
theorem dX11_begin_0 : decode cX11_begin 0 = .ok (.aload_n 0, 1) := by decide +kernel
theorem dX11_begin_1 : decode cX11_begin 1 = .ok (.getfield 32, 3) := by decide +kernel
theorem dX11_begin_4 : decode cX11_begin 4 = .ok (.aload_n 0, 1) := by decide +kernel
theorem dX11_begin_5 : decode cX11_begin 5 = .ok (.getfield 28, 3) := by decide +kernel
theorem dX11_begin_8 : decode cX11_begin 8 = .ok (.invokevirtual 117, 3) := by decide +kernel
theorem dX11_begin_11 : decode cX11_begin 11 = .ok (.aload_n 0, 1) := by decide +kernel
theorem dX11_begin_12 : decode cX11_begin 12 = .ok (.iconst 1, 1) := by decide +kernel
theorem dX11_begin_13 : decode cX11_begin 13 = .ok (.putfield 62, 3) := by decide +kernel
theorem dX11_begin_16 : decode cX11_begin 16 = .ok (.aload_n 0, 1) := by decide +kernel
theorem dX11_begin_17 : decode cX11_begin 17 = .ok (.getfield 32, 3) := by decide +kernel
theorem dX11_begin_20 : decode cX11_begin 20 = .ok (.invokevirtual 120, 3) := by decide +kernel
theorem dX11_begin_23 : decode cX11_begin 23 = .ok (.ireturn, 1) := by decide +kernel
theorem dX5_copy_0 : decode cX5_copy 0 = .ok (.iconst 0, 1) := by decide +kernel
theorem dX5_copy_1 : decode cX5_copy 1 = .ok (.istore_n 2, 1) := by decide +kernel
theorem dX5_copy_2 : decode cX5_copy 2 = .ok (.iload_n 2, 1) := by decide +kernel
theorem dX5_copy_3 : decode cX5_copy 3 = .ok (.bipush 8, 2) := by decide +kernel
theorem dX5_copy_5 : decode cX5_copy 5 = .ok (.if_icmp .ge 39, 3) := by decide +kernel
theorem dX5_copy_8 : decode cX5_copy 8 = .ok (.aload_n 0, 1) := by decide +kernel
theorem dX5_copy_9 : decode cX5_copy 9 = .ok (.getfield 24, 3) := by decide +kernel
theorem dX5_copy_12 : decode cX5_copy 12 = .ok (.iload_n 2, 1) := by decide +kernel
theorem dX5_copy_13 : decode cX5_copy 13 = .ok (.iconst 0, 1) := by decide +kernel
theorem dX5_copy_14 : decode cX5_copy 14 = .ok (.iastore, 1) := by decide +kernel
theorem dX5_copy_15 : decode cX5_copy 15 = .ok (.aload_n 1, 1) := by decide +kernel
theorem dX5_copy_16 : decode cX5_copy 16 = .ok (.getfield 24, 3) := by decide +kernel
theorem dX5_copy_19 : decode cX5_copy 19 = .ok (.iload_n 2, 1) := by decide +kernel
theorem dX5_copy_20 : decode cX5_copy 20 = .ok (.iaload, 1) := by decide +kernel
theorem dX5_copy_21 : decode cX5_copy 21 = .ok (.ifCond .le 17, 3) := by decide +kernel
theorem dX5_copy_38 : decode cX5_copy 38 = .ok (.iinc 2 1, 3) := by decide +kernel
theorem dX5_copy_41 : decode cX5_copy 41 = .ok (.goto (-39), 3) := by decide +kernel
theorem dX5_copy_44 : decode cX5_copy 44 = .ok (.aload_n 0, 1) := by decide +kernel
theorem dX5_copy_45 : decode cX5_copy 45 = .ok (.invokevirtual 64, 3) := by decide +kernel
theorem dX5_copy_48 : decode cX5_copy 48 = .ok (.return_, 1) := by decide +kernel
theorem dX5_forget_0 : decode cX5_forget 0 = .ok (.aload_n 0, 1) := by decide +kernel
theorem dX5_forget_1 : decode cX5_forget 1 = .ok (.getfield 28, 3) := by decide +kernel
theorem dX5_forget_4 : decode cX5_forget 4 = .ok (.iconst 0, 1) := by decide +kernel
theorem dX5_forget_5 : decode cX5_forget 5 = .ok (.invokestatic 69, 3) := by decide +kernel
theorem dX5_forget_8 : decode cX5_forget 8 = .ok (.aload_n 0, 1) := by decide +kernel
theorem dX5_forget_9 : decode cX5_forget 9 = .ok (.getfield 31, 3) := by decide +kernel
theorem dX5_forget_12 : decode cX5_forget 12 = .ok (.lconst 0, 1) := by decide +kernel
theorem dX5_forget_13 : decode cX5_forget 13 = .ok (.invokestatic 75, 3) := by decide +kernel
theorem dX5_forget_16 : decode cX5_forget 16 = .ok (.return_, 1) := by decide +kernel
theorem dJ7_fill_d0a16_0 : decode cJ7_fill_d0a16 0 = .ok (.iconst 0, 1) := by decide +kernel
theorem dJ7_fill_d0a16_1 : decode cJ7_fill_d0a16 1 = .ok (.istore_n 3, 1) := by decide +kernel
theorem dJ7_fill_d0a16_2 : decode cJ7_fill_d0a16 2 = .ok (.aload_n 0, 1) := by decide +kernel
theorem dJ7_fill_d0a16_3 : decode cJ7_fill_d0a16 3 = .ok (.arraylength, 1) := by decide +kernel
theorem dJ7_fill_d0a16_4 : decode cJ7_fill_d0a16 4 = .ok (.istore 4, 2) := by decide +kernel
theorem dJ7_fill_d0a16_6 : decode cJ7_fill_d0a16 6 = .ok (.iload_n 3, 1) := by decide +kernel
theorem dJ7_fill_d0a16_7 : decode cJ7_fill_d0a16 7 = .ok (.iload 4, 2) := by decide +kernel
theorem dJ7_fill_d0a16_9 : decode cJ7_fill_d0a16 9 = .ok (.if_icmp .ge 13, 3) := by decide +kernel
theorem dJ7_fill_d0a16_12 : decode cJ7_fill_d0a16 12 = .ok (.aload_n 0, 1) := by decide +kernel
theorem dJ7_fill_d0a16_13 : decode cJ7_fill_d0a16 13 = .ok (.iload_n 3, 1) := by decide +kernel
theorem dJ7_fill_d0a16_14 : decode cJ7_fill_d0a16 14 = .ok (.lload_n 1, 1) := by decide +kernel
theorem dJ7_fill_d0a16_15 : decode cJ7_fill_d0a16 15 = .ok (.lastore, 1) := by decide +kernel
theorem dJ7_fill_d0a16_16 : decode cJ7_fill_d0a16 16 = .ok (.iinc 3 1, 3) := by decide +kernel
theorem dJ7_fill_d0a16_19 : decode cJ7_fill_d0a16 19 = .ok (.goto (-13), 3) := by decide +kernel
theorem dJ7_fill_d0a16_22 : decode cJ7_fill_d0a16 22 = .ok (.return_, 1) := by decide +kernel
theorem dX5_howMany_0 : decode cX5_howMany 0 = .ok (.iconst 0, 1) := by decide +kernel
theorem dX5_howMany_1 : decode cX5_howMany 1 = .ok (.istore_n 1, 1) := by decide +kernel
theorem dX5_howMany_2 : decode cX5_howMany 2 = .ok (.iconst 0, 1) := by decide +kernel
theorem dX5_howMany_3 : decode cX5_howMany 3 = .ok (.istore_n 2, 1) := by decide +kernel
theorem dX5_howMany_4 : decode cX5_howMany 4 = .ok (.iload_n 2, 1) := by decide +kernel
theorem dX5_howMany_5 : decode cX5_howMany 5 = .ok (.bipush 8, 2) := by decide +kernel
theorem dX5_howMany_7 : decode cX5_howMany 7 = .ok (.if_icmp .ge 26, 3) := by decide +kernel
theorem dX5_howMany_10 : decode cX5_howMany 10 = .ok (.iload_n 1, 1) := by decide +kernel
theorem dX5_howMany_11 : decode cX5_howMany 11 = .ok (.aload_n 0, 1) := by decide +kernel
theorem dX5_howMany_12 : decode cX5_howMany 12 = .ok (.getfield 24, 3) := by decide +kernel
theorem dX5_howMany_15 : decode cX5_howMany 15 = .ok (.iload_n 2, 1) := by decide +kernel
theorem dX5_howMany_16 : decode cX5_howMany 16 = .ok (.iaload, 1) := by decide +kernel
theorem dX5_howMany_17 : decode cX5_howMany 17 = .ok (.ifCond .le 7, 3) := by decide +kernel
theorem dX5_howMany_24 : decode cX5_howMany 24 = .ok (.iconst 0, 1) := by decide +kernel
theorem dX5_howMany_25 : decode cX5_howMany 25 = .ok (.iadd, 1) := by decide +kernel
theorem dX5_howMany_26 : decode cX5_howMany 26 = .ok (.istore_n 1, 1) := by decide +kernel
theorem dX5_howMany_27 : decode cX5_howMany 27 = .ok (.iinc 2 1, 3) := by decide +kernel
theorem dX5_howMany_30 : decode cX5_howMany 30 = .ok (.goto (-26), 3) := by decide +kernel
theorem dX5_howMany_33 : decode cX5_howMany 33 = .ok (.iload_n 1, 1) := by decide +kernel
theorem dX5_howMany_34 : decode cX5_howMany 34 = .ok (.ireturn, 1) := by decide +kernel
theorem dX12_begin_0 : decode cX12_begin 0 = .ok (.aload_n 0, 1) := by decide +kernel
theorem dX12_begin_1 : decode cX12_begin 1 = .ok (.iconst 0, 1) := by decide +kernel
theorem dX12_begin_2 : decode cX12_begin 2 = .ok (.putfield 172, 3) := by decide +kernel
theorem dX12_begin_5 : decode cX12_begin 5 = .ok (.iconst 0, 1) := by decide +kernel
theorem dX12_begin_6 : decode cX12_begin 6 = .ok (.istore_n 1, 1) := by decide +kernel
theorem dX12_begin_7 : decode cX12_begin 7 = .ok (.iconst 0, 1) := by decide +kernel
theorem dX12_begin_8 : decode cX12_begin 8 = .ok (.istore_n 2, 1) := by decide +kernel
theorem dX12_begin_9 : decode cX12_begin 9 = .ok (.iload_n 2, 1) := by decide +kernel
theorem dX12_begin_10 : decode cX12_begin 10 = .ok (.bipush 8, 2) := by decide +kernel
theorem dX12_begin_12 : decode cX12_begin 12 = .ok (.if_icmp .ge 41, 3) := by decide +kernel
theorem dX12_begin_15 : decode cX12_begin 15 = .ok (.aload_n 0, 1) := by decide +kernel
theorem dX12_begin_16 : decode cX12_begin 16 = .ok (.getfield 49, 3) := by decide +kernel
theorem dX12_begin_19 : decode cX12_begin 19 = .ok (.bipush 8, 2) := by decide +kernel
theorem dX12_begin_21 : decode cX12_begin 21 = .ok (.iload_n 2, 1) := by decide +kernel
theorem dX12_begin_22 : decode cX12_begin 22 = .ok (.iadd, 1) := by decide +kernel
theorem dX12_begin_23 : decode cX12_begin 23 = .ok (.aload_n 0, 1) := by decide +kernel
theorem dX12_begin_24 : decode cX12_begin 24 = .ok (.getfield 49, 3) := by decide +kernel
theorem dX12_begin_27 : decode cX12_begin 27 = .ok (.iload_n 2, 1) := by decide +kernel
theorem dX12_begin_28 : decode cX12_begin 28 = .ok (.iaload, 1) := by decide +kernel
theorem dX12_begin_29 : decode cX12_begin 29 = .ok (.iastore, 1) := by decide +kernel
theorem dX12_begin_30 : decode cX12_begin 30 = .ok (.iload_n 1, 1) := by decide +kernel
theorem dX12_begin_31 : decode cX12_begin 31 = .ok (.aload_n 0, 1) := by decide +kernel
theorem dX12_begin_32 : decode cX12_begin 32 = .ok (.getfield 49, 3) := by decide +kernel
theorem dX12_begin_35 : decode cX12_begin 35 = .ok (.iload_n 2, 1) := by decide +kernel
theorem dX12_begin_36 : decode cX12_begin 36 = .ok (.iaload, 1) := by decide +kernel
theorem dX12_begin_37 : decode cX12_begin 37 = .ok (.ifCond .le 7, 3) := by decide +kernel
theorem dX12_begin_44 : decode cX12_begin 44 = .ok (.iconst 0, 1) := by decide +kernel
theorem dX12_begin_45 : decode cX12_begin 45 = .ok (.iadd, 1) := by decide +kernel
theorem dX12_begin_46 : decode cX12_begin 46 = .ok (.istore_n 1, 1) := by decide +kernel
theorem dX12_begin_47 : decode cX12_begin 47 = .ok (.iinc 2 1, 3) := by decide +kernel
theorem dX12_begin_50 : decode cX12_begin 50 = .ok (.goto (-41), 3) := by decide +kernel
theorem dX12_begin_53 : decode cX12_begin 53 = .ok (.iconst 0, 1) := by decide +kernel
theorem dX12_begin_54 : decode cX12_begin 54 = .ok (.istore_n 2, 1) := by decide +kernel
theorem dX12_begin_55 : decode cX12_begin 55 = .ok (.iload_n 2, 1) := by decide +kernel
theorem dX12_begin_56 : decode cX12_begin 56 = .ok (.sipush 640, 3) := by decide +kernel
theorem dX12_begin_59 : decode cX12_begin 59 = .ok (.if_icmp .ge 91, 3) := by decide +kernel
theorem dX12_begin_62 : decode cX12_begin 62 = .ok (.sipush 640, 3) := by decide +kernel
theorem dX12_begin_65 : decode cX12_begin 65 = .ok (.iload_n 2, 1) := by decide +kernel
theorem dX12_begin_66 : decode cX12_begin 66 = .ok (.iadd, 1) := by decide +kernel
theorem dX12_begin_67 : decode cX12_begin 67 = .ok (.istore_n 3, 1) := by decide +kernel
theorem dX12_begin_68 : decode cX12_begin 68 = .ok (.aload_n 0, 1) := by decide +kernel
theorem dX12_begin_69 : decode cX12_begin 69 = .ok (.getfield 31, 3) := by decide +kernel
theorem dX12_begin_72 : decode cX12_begin 72 = .ok (.iload_n 3, 1) := by decide +kernel
theorem dX12_begin_73 : decode cX12_begin 73 = .ok (.aload_n 0, 1) := by decide +kernel
theorem dX12_begin_74 : decode cX12_begin 74 = .ok (.getfield 31, 3) := by decide +kernel
theorem dX12_begin_77 : decode cX12_begin 77 = .ok (.iload_n 2, 1) := by decide +kernel
theorem dX12_begin_78 : decode cX12_begin 78 = .ok (.iaload, 1) := by decide +kernel
theorem dX12_begin_79 : decode cX12_begin 79 = .ok (.iastore, 1) := by decide +kernel
theorem dX12_begin_80 : decode cX12_begin 80 = .ok (.aload_n 0, 1) := by decide +kernel
theorem dX12_begin_81 : decode cX12_begin 81 = .ok (.getfield 34, 3) := by decide +kernel
theorem dX12_begin_84 : decode cX12_begin 84 = .ok (.iload_n 3, 1) := by decide +kernel
theorem dX12_begin_85 : decode cX12_begin 85 = .ok (.aload_n 0, 1) := by decide +kernel
theorem dX12_begin_86 : decode cX12_begin 86 = .ok (.getfield 34, 3) := by decide +kernel
theorem dX12_begin_89 : decode cX12_begin 89 = .ok (.iload_n 2, 1) := by decide +kernel
theorem dX12_begin_90 : decode cX12_begin 90 = .ok (.iaload, 1) := by decide +kernel
theorem dX12_begin_91 : decode cX12_begin 91 = .ok (.iastore, 1) := by decide +kernel
theorem dX12_begin_92 : decode cX12_begin 92 = .ok (.aload_n 0, 1) := by decide +kernel
theorem dX12_begin_93 : decode cX12_begin 93 = .ok (.getfield 37, 3) := by decide +kernel
theorem dX12_begin_96 : decode cX12_begin 96 = .ok (.iload_n 3, 1) := by decide +kernel
theorem dX12_begin_97 : decode cX12_begin 97 = .ok (.aload_n 0, 1) := by decide +kernel
theorem dX12_begin_98 : decode cX12_begin 98 = .ok (.getfield 37, 3) := by decide +kernel
theorem dX12_begin_101 : decode cX12_begin 101 = .ok (.iload_n 2, 1) := by decide +kernel
theorem dX12_begin_102 : decode cX12_begin 102 = .ok (.iaload, 1) := by decide +kernel
theorem dX12_begin_103 : decode cX12_begin 103 = .ok (.iastore, 1) := by decide +kernel
theorem dX12_begin_104 : decode cX12_begin 104 = .ok (.aload_n 0, 1) := by decide +kernel
theorem dX12_begin_105 : decode cX12_begin 105 = .ok (.getfield 40, 3) := by decide +kernel
theorem dX12_begin_108 : decode cX12_begin 108 = .ok (.iload_n 3, 1) := by decide +kernel
theorem dX12_begin_109 : decode cX12_begin 109 = .ok (.aload_n 0, 1) := by decide +kernel
theorem dX12_begin_110 : decode cX12_begin 110 = .ok (.getfield 40, 3) := by decide +kernel
theorem dX12_begin_113 : decode cX12_begin 113 = .ok (.iload_n 2, 1) := by decide +kernel
theorem dX12_begin_114 : decode cX12_begin 114 = .ok (.iaload, 1) := by decide +kernel
theorem dX12_begin_115 : decode cX12_begin 115 = .ok (.iastore, 1) := by decide +kernel
theorem dX12_begin_116 : decode cX12_begin 116 = .ok (.aload_n 0, 1) := by decide +kernel
theorem dX12_begin_117 : decode cX12_begin 117 = .ok (.getfield 43, 3) := by decide +kernel
theorem dX12_begin_120 : decode cX12_begin 120 = .ok (.iload_n 3, 1) := by decide +kernel
theorem dX12_begin_121 : decode cX12_begin 121 = .ok (.aload_n 0, 1) := by decide +kernel
theorem dX12_begin_122 : decode cX12_begin 122 = .ok (.getfield 43, 3) := by decide +kernel
theorem dX12_begin_125 : decode cX12_begin 125 = .ok (.iload_n 2, 1) := by decide +kernel
theorem dX12_begin_126 : decode cX12_begin 126 = .ok (.iaload, 1) := by decide +kernel
theorem dX12_begin_127 : decode cX12_begin 127 = .ok (.iastore, 1) := by decide +kernel
theorem dX12_begin_128 : decode cX12_begin 128 = .ok (.aload_n 0, 1) := by decide +kernel
theorem dX12_begin_129 : decode cX12_begin 129 = .ok (.getfield 46, 3) := by decide +kernel
theorem dX12_begin_132 : decode cX12_begin 132 = .ok (.iload_n 3, 1) := by decide +kernel
theorem dX12_begin_133 : decode cX12_begin 133 = .ok (.sipush 640, 3) := by decide +kernel
theorem dX12_begin_136 : decode cX12_begin 136 = .ok (.aload_n 0, 1) := by decide +kernel
theorem dX12_begin_137 : decode cX12_begin 137 = .ok (.getfield 46, 3) := by decide +kernel
theorem dX12_begin_140 : decode cX12_begin 140 = .ok (.iload_n 2, 1) := by decide +kernel
theorem dX12_begin_141 : decode cX12_begin 141 = .ok (.iaload, 1) := by decide +kernel
theorem dX12_begin_142 : decode cX12_begin 142 = .ok (.iadd, 1) := by decide +kernel
theorem dX12_begin_143 : decode cX12_begin 143 = .ok (.iastore, 1) := by decide +kernel
theorem dX12_begin_144 : decode cX12_begin 144 = .ok (.iinc 2 1, 3) := by decide +kernel
theorem dX12_begin_147 : decode cX12_begin 147 = .ok (.goto (-92), 3) := by decide +kernel
theorem dX12_begin_150 : decode cX12_begin 150 = .ok (.aload_n 0, 1) := by decide +kernel
theorem dX12_begin_151 : decode cX12_begin 151 = .ok (.iconst 1, 1) := by decide +kernel
theorem dX12_begin_152 : decode cX12_begin 152 = .ok (.invokevirtual 244, 3) := by decide +kernel
theorem dX12_begin_155 : decode cX12_begin 155 = .ok (.aload_n 0, 1) := by decide +kernel
theorem dX12_begin_156 : decode cX12_begin 156 = .ok (.iconst 1, 1) := by decide +kernel
theorem dX12_begin_157 : decode cX12_begin 157 = .ok (.putfield 261, 3) := by decide +kernel
theorem dX12_begin_160 : decode cX12_begin 160 = .ok (.iload_n 1, 1) := by decide +kernel
theorem dX12_begin_161 : decode cX12_begin 161 = .ok (.ireturn, 1) := by decide +kernel
theorem dX12_forgets_0 : decode cX12_forgets 0 = .ok (.iconst 0, 1) := by decide +kernel
theorem dX12_forgets_1 : decode cX12_forgets 1 = .ok (.istore_n 2, 1) := by decide +kernel
theorem dX12_forgets_2 : decode cX12_forgets 2 = .ok (.iload_n 2, 1) := by decide +kernel
theorem dX12_forgets_3 : decode cX12_forgets 3 = .ok (.bipush 8, 2) := by decide +kernel
theorem dX12_forgets_5 : decode cX12_forgets 5 = .ok (.if_icmp .ge 21, 3) := by decide +kernel
theorem dX12_forgets_8 : decode cX12_forgets 8 = .ok (.aload_n 0, 1) := by decide +kernel
theorem dX12_forgets_9 : decode cX12_forgets 9 = .ok (.getfield 91, 3) := by decide +kernel
theorem dX12_forgets_12 : decode cX12_forgets 12 = .ok (.bipush 8, 2) := by decide +kernel
theorem dX12_forgets_14 : decode cX12_forgets 14 = .ok (.iload_n 1, 1) := by decide +kernel
theorem dX12_forgets_15 : decode cX12_forgets 15 = .ok (.imul, 1) := by decide +kernel
theorem dX12_forgets_16 : decode cX12_forgets 16 = .ok (.iload_n 2, 1) := by decide +kernel
theorem dX12_forgets_17 : decode cX12_forgets 17 = .ok (.iadd, 1) := by decide +kernel
theorem dX12_forgets_18 : decode cX12_forgets 18 = .ok (.iconst 0, 1) := by decide +kernel
theorem dX12_forgets_19 : decode cX12_forgets 19 = .ok (.iastore, 1) := by decide +kernel
theorem dX12_forgets_20 : decode cX12_forgets 20 = .ok (.iinc 2 1, 3) := by decide +kernel
theorem dX12_forgets_23 : decode cX12_forgets 23 = .ok (.goto (-21), 3) := by decide +kernel
theorem dX12_forgets_26 : decode cX12_forgets 26 = .ok (.return_, 1) := by decide +kernel
theorem dL_needed_0 : decode cL_needed 0 = .ok (.aload_n 3, 1) := by decide +kernel
theorem dL_needed_1 : decode cL_needed 1 = .ok (.iconst 0, 1) := by decide +kernel
theorem dL_needed_2 : decode cL_needed 2 = .ok (.aload_n 0, 1) := by decide +kernel
theorem dL_needed_3 : decode cL_needed 3 = .ok (.iload_n 1, 1) := by decide +kernel
theorem dL_needed_4 : decode cL_needed 4 = .ok (.iload_n 2, 1) := by decide +kernel
theorem dL_needed_5 : decode cL_needed 5 = .ok (.invokevirtual 84, 3) := by decide +kernel
theorem dL_needed_8 : decode cL_needed 8 = .ok (.i2l, 1) := by decide +kernel
theorem dL_needed_9 : decode cL_needed 9 = .ok (.lastore, 1) := by decide +kernel
theorem dL_needed_10 : decode cL_needed 10 = .ok (.goto 7, 3) := by decide +kernel
theorem dL_needed_13 : decode cL_needed 13 = .ok (.astore 4, 2) := by decide +kernel
theorem dL_needed_15 : decode cL_needed 15 = .ok (.iconst 1, 1) := by decide +kernel
theorem dL_needed_16 : decode cL_needed 16 = .ok (.ireturn, 1) := by decide +kernel
theorem dL_needed_17 : decode cL_needed 17 = .ok (.iconst 0, 1) := by decide +kernel
theorem dL_needed_18 : decode cL_needed 18 = .ok (.ireturn, 1) := by decide +kernel
theorem dX11_needed_0 : decode cX11_needed 0 = .ok (.aload_n 0, 1) := by decide +kernel
theorem dX11_needed_1 : decode cX11_needed 1 = .ok (.iload_n 1, 1) := by decide +kernel
theorem dX11_needed_2 : decode cX11_needed 2 = .ok (.bipush 8, 2) := by decide +kernel
theorem dX11_needed_4 : decode cX11_needed 4 = .ok (.invokevirtual 72, 3) := by decide +kernel
theorem dX11_needed_7 : decode cX11_needed 7 = .ok (.iload_n 2, 1) := by decide +kernel
theorem dX11_needed_8 : decode cX11_needed 8 = .ok (.ifCond .ge 13, 3) := by decide +kernel
theorem dX11_needed_11 : decode cX11_needed 11 = .ok (.new 82, 3) := by decide +kernel
theorem dX11_needed_14 : decode cX11_needed 14 = .ok (.dup, 1) := by decide +kernel
theorem dX11_needed_15 : decode cX11_needed 15 = .ok (.ldc 148, 2) := by decide +kernel
theorem dX11_needed_17 : decode cX11_needed 17 = .ok (.invokespecial 86, 3) := by decide +kernel
theorem dX11_needed_20 : decode cX11_needed 20 = .ok (.athrow, 1) := by decide +kernel
theorem dX11_needed_21 : decode cX11_needed 21 = .ok (.iload_n 2, 1) := by decide +kernel
theorem dX11_needed_22 : decode cX11_needed 22 = .ok (.aload_n 0, 1) := by decide +kernel
theorem dX11_needed_23 : decode cX11_needed 23 = .ok (.getfield 28, 3) := by decide +kernel
theorem dX11_needed_26 : decode cX11_needed 26 = .ok (.iload_n 1, 1) := by decide +kernel
theorem dX11_needed_27 : decode cX11_needed 27 = .ok (.invokevirtual 150, 3) := by decide +kernel
theorem dX11_needed_30 : decode cX11_needed 30 = .ok (.if_icmp .lt 5, 3) := by decide +kernel
theorem dX11_needed_33 : decode cX11_needed 33 = .ok (.iconst (-1), 1) := by decide +kernel
theorem dX11_needed_34 : decode cX11_needed 34 = .ok (.ireturn, 1) := by decide +kernel
theorem dX12_needed_0 : decode cX12_needed 0 = .ok (.aload_n 0, 1) := by decide +kernel
theorem dX12_needed_1 : decode cX12_needed 1 = .ok (.iload_n 1, 1) := by decide +kernel
theorem dX12_needed_2 : decode cX12_needed 2 = .ok (.invokestatic 197, 3) := by decide +kernel
theorem dX12_needed_5 : decode cX12_needed 5 = .ok (.ifCond .eq 11, 3) := by decide +kernel
theorem dX12_needed_8 : decode cX12_needed 8 = .ok (.iload_n 2, 1) := by decide +kernel
theorem dX12_needed_9 : decode cX12_needed 9 = .ok (.ifCond .lt 7, 3) := by decide +kernel
theorem dX12_needed_12 : decode cX12_needed 12 = .ok (.iconst 0, 1) := by decide +kernel
theorem dX12_needed_13 : decode cX12_needed 13 = .ok (.goto 4, 3) := by decide +kernel
theorem dX12_needed_16 : decode cX12_needed 16 = .ok (.iconst 1, 1) := by decide +kernel
theorem dX12_needed_17 : decode cX12_needed 17 = .ok (.invokevirtual 182, 3) := by decide +kernel
theorem dX12_needed_20 : decode cX12_needed 20 = .ok (.ifCond .ne 5, 3) := by decide +kernel
theorem dX12_needed_23 : decode cX12_needed 23 = .ok (.iconst 0, 1) := by decide +kernel
theorem dX12_needed_24 : decode cX12_needed 24 = .ok (.ireturn, 1) := by decide +kernel
theorem dX12_needed_25 : decode cX12_needed 25 = .ok (.aload_n 0, 1) := by decide +kernel
theorem dX12_needed_26 : decode cX12_needed 26 = .ok (.invokevirtual 282, 3) := by decide +kernel
theorem dX12_needed_29 : decode cX12_needed 29 = .ok (.iload_n 2, 1) := by decide +kernel
theorem dX12_needed_30 : decode cX12_needed 30 = .ok (.aload_n 0, 1) := by decide +kernel
theorem dX12_needed_31 : decode cX12_needed 31 = .ok (.getfield 83, 3) := by decide +kernel
theorem dX12_needed_34 : decode cX12_needed 34 = .ok (.iload_n 1, 1) := by decide +kernel
theorem dX12_needed_35 : decode cX12_needed 35 = .ok (.iaload, 1) := by decide +kernel
theorem dX12_needed_36 : decode cX12_needed 36 = .ok (.if_icmp .lt 7, 3) := by decide +kernel
theorem dX12_needed_39 : decode cX12_needed 39 = .ok (.iconst (-1), 1) := by decide +kernel
theorem dX12_needed_40 : decode cX12_needed 40 = .ok (.goto 22, 3) := by decide +kernel
theorem dX12_needed_62 : decode cX12_needed 62 = .ok (.ireturn, 1) := by decide +kernel
theorem dX5_firstLams_0 : decode cX5_firstLams 0 = .ok (.iconst 0, 1) := by decide +kernel
theorem dX5_firstLams_1 : decode cX5_firstLams 1 = .ok (.istore_n 2, 1) := by decide +kernel
theorem dX5_firstLams_2 : decode cX5_firstLams 2 = .ok (.aload_n 0, 1) := by decide +kernel
theorem dX5_firstLams_3 : decode cX5_firstLams 3 = .ok (.iload_n 1, 1) := by decide +kernel
theorem dX5_firstLams_4 : decode cX5_firstLams 4 = .ok (.invokevirtual 41, 3) := by decide +kernel
theorem dX5_firstLams_7 : decode cX5_firstLams 7 = .ok (.istore_n 3, 1) := by decide +kernel
theorem dX5_firstLams_8 : decode cX5_firstLams 8 = .ok (.iload_n 2, 1) := by decide +kernel
theorem dX5_firstLams_9 : decode cX5_firstLams 9 = .ok (.iload_n 3, 1) := by decide +kernel
theorem dX5_firstLams_10 : decode cX5_firstLams 10 = .ok (.if_icmp .ge 27, 3) := by decide +kernel
theorem dX5_firstLams_37 : decode cX5_firstLams 37 = .ok (.iload_n 2, 1) := by decide +kernel
theorem dX5_firstLams_38 : decode cX5_firstLams 38 = .ok (.ireturn, 1) := by decide +kernel
theorem dX12_demands_0 : decode cX12_demands 0 = .ok (.iconst 0, 1) := by decide +kernel
theorem dX12_demands_1 : decode cX12_demands 1 = .ok (.istore_n 1, 1) := by decide +kernel
theorem dX12_demands_2 : decode cX12_demands 2 = .ok (.iload_n 1, 1) := by decide +kernel
theorem dX12_demands_3 : decode cX12_demands 3 = .ok (.bipush 8, 2) := by decide +kernel
theorem dX12_demands_5 : decode cX12_demands 5 = .ok (.if_icmp .ge 64, 3) := by decide +kernel
theorem dX12_demands_8 : decode cX12_demands 8 = .ok (.aload_n 0, 1) := by decide +kernel
theorem dX12_demands_9 : decode cX12_demands 9 = .ok (.getfield 83, 3) := by decide +kernel
theorem dX12_demands_12 : decode cX12_demands 12 = .ok (.iload_n 1, 1) := by decide +kernel
theorem dX12_demands_13 : decode cX12_demands 13 = .ok (.iconst 0, 1) := by decide +kernel
theorem dX12_demands_14 : decode cX12_demands 14 = .ok (.iastore, 1) := by decide +kernel
theorem dX12_demands_15 : decode cX12_demands 15 = .ok (.aload_n 0, 1) := by decide +kernel
theorem dX12_demands_16 : decode cX12_demands 16 = .ok (.getfield 83, 3) := by decide +kernel
theorem dX12_demands_19 : decode cX12_demands 19 = .ok (.iload_n 1, 1) := by decide +kernel
theorem dX12_demands_20 : decode cX12_demands 20 = .ok (.iaload, 1) := by decide +kernel
theorem dX12_demands_21 : decode cX12_demands 21 = .ok (.aload_n 0, 1) := by decide +kernel
theorem dX12_demands_22 : decode cX12_demands 22 = .ok (.getfield 49, 3) := by decide +kernel
theorem dX12_demands_25 : decode cX12_demands 25 = .ok (.iload_n 1, 1) := by decide +kernel
theorem dX12_demands_26 : decode cX12_demands 26 = .ok (.iaload, 1) := by decide +kernel
theorem dX12_demands_27 : decode cX12_demands 27 = .ok (.if_icmp .ge 36, 3) := by decide +kernel
theorem dX12_demands_63 : decode cX12_demands 63 = .ok (.iinc 1 1, 3) := by decide +kernel
theorem dX12_demands_66 : decode cX12_demands 66 = .ok (.goto (-64), 3) := by decide +kernel
theorem dX12_demands_69 : decode cX12_demands 69 = .ok (.iconst 0, 1) := by decide +kernel
theorem dX12_demands_70 : decode cX12_demands 70 = .ok (.istore_n 1, 1) := by decide +kernel
theorem dX12_demands_71 : decode cX12_demands 71 = .ok (.iload_n 1, 1) := by decide +kernel
theorem dX12_demands_72 : decode cX12_demands 72 = .ok (.sipush 640, 3) := by decide +kernel
theorem dX12_demands_75 : decode cX12_demands 75 = .ok (.if_icmp .ge 23, 3) := by decide +kernel
theorem dX12_demands_78 : decode cX12_demands 78 = .ok (.aload_n 0, 1) := by decide +kernel
theorem dX12_demands_79 : decode cX12_demands 79 = .ok (.getfield 79, 3) := by decide +kernel
theorem dX12_demands_82 : decode cX12_demands 82 = .ok (.iload_n 1, 1) := by decide +kernel
theorem dX12_demands_83 : decode cX12_demands 83 = .ok (.iconst 1, 1) := by decide +kernel
theorem dX12_demands_84 : decode cX12_demands 84 = .ok (.bastore, 1) := by decide +kernel
theorem dX12_demands_85 : decode cX12_demands 85 = .ok (.aload_n 0, 1) := by decide +kernel
theorem dX12_demands_86 : decode cX12_demands 86 = .ok (.getfield 169, 3) := by decide +kernel
theorem dX12_demands_89 : decode cX12_demands 89 = .ok (.iload_n 1, 1) := by decide +kernel
theorem dX12_demands_90 : decode cX12_demands 90 = .ok (.iconst 1, 1) := by decide +kernel
theorem dX12_demands_91 : decode cX12_demands 91 = .ok (.bastore, 1) := by decide +kernel
theorem dX12_demands_92 : decode cX12_demands 92 = .ok (.iinc 1 1, 3) := by decide +kernel
theorem dX12_demands_95 : decode cX12_demands 95 = .ok (.goto (-24), 3) := by decide +kernel
theorem dX12_demands_98 : decode cX12_demands 98 = .ok (.iconst 1, 1) := by decide +kernel
theorem dX12_demands_99 : decode cX12_demands 99 = .ok (.istore_n 1, 1) := by decide +kernel
theorem dX12_demands_100 : decode cX12_demands 100 = .ok (.iload_n 1, 1) := by decide +kernel
theorem dX12_demands_101 : decode cX12_demands 101 = .ok (.ifCond .eq 57, 3) := by decide +kernel
theorem dX12_demands_104 : decode cX12_demands 104 = .ok (.iconst 0, 1) := by decide +kernel
theorem dX12_demands_105 : decode cX12_demands 105 = .ok (.istore_n 1, 1) := by decide +kernel
theorem dX12_demands_106 : decode cX12_demands 106 = .ok (.iconst 0, 1) := by decide +kernel
theorem dX12_demands_107 : decode cX12_demands 107 = .ok (.istore_n 2, 1) := by decide +kernel
theorem dX12_demands_108 : decode cX12_demands 108 = .ok (.iload_n 2, 1) := by decide +kernel
theorem dX12_demands_109 : decode cX12_demands 109 = .ok (.bipush 8, 2) := by decide +kernel
theorem dX12_demands_111 : decode cX12_demands 111 = .ok (.if_icmp .ge 17, 3) := by decide +kernel
theorem dX12_demands_114 : decode cX12_demands 114 = .ok (.iload_n 1, 1) := by decide +kernel
theorem dX12_demands_115 : decode cX12_demands 115 = .ok (.aload_n 0, 1) := by decide +kernel
theorem dX12_demands_116 : decode cX12_demands 116 = .ok (.iload_n 2, 1) := by decide +kernel
theorem dX12_demands_117 : decode cX12_demands 117 = .ok (.invokevirtual 279, 3) := by decide +kernel
theorem dX12_demands_120 : decode cX12_demands 120 = .ok (.ior, 1) := by decide +kernel
theorem dX12_demands_121 : decode cX12_demands 121 = .ok (.istore_n 1, 1) := by decide +kernel
theorem dX12_demands_122 : decode cX12_demands 122 = .ok (.iinc 2 1, 3) := by decide +kernel
theorem dX12_demands_125 : decode cX12_demands 125 = .ok (.goto (-17), 3) := by decide +kernel
theorem dX12_demands_128 : decode cX12_demands 128 = .ok (.iconst 0, 1) := by decide +kernel
theorem dX12_demands_129 : decode cX12_demands 129 = .ok (.istore_n 2, 1) := by decide +kernel
theorem dX12_demands_130 : decode cX12_demands 130 = .ok (.iload_n 2, 1) := by decide +kernel
theorem dX12_demands_131 : decode cX12_demands 131 = .ok (.sipush 640, 3) := by decide +kernel
theorem dX12_demands_134 : decode cX12_demands 134 = .ok (.if_icmp .ge 21, 3) := by decide +kernel
theorem dX12_demands_137 : decode cX12_demands 137 = .ok (.aload_n 0, 1) := by decide +kernel
theorem dX12_demands_138 : decode cX12_demands 138 = .ok (.getfield 79, 3) := by decide +kernel
theorem dX12_demands_141 : decode cX12_demands 141 = .ok (.iload_n 2, 1) := by decide +kernel
theorem dX12_demands_142 : decode cX12_demands 142 = .ok (.aload_n 0, 1) := by decide +kernel
theorem dX12_demands_143 : decode cX12_demands 143 = .ok (.getfield 169, 3) := by decide +kernel
theorem dX12_demands_146 : decode cX12_demands 146 = .ok (.iload_n 2, 1) := by decide +kernel
theorem dX12_demands_147 : decode cX12_demands 147 = .ok (.baload, 1) := by decide +kernel
theorem dX12_demands_148 : decode cX12_demands 148 = .ok (.bastore, 1) := by decide +kernel
theorem dX12_demands_149 : decode cX12_demands 149 = .ok (.iinc 2 1, 3) := by decide +kernel
theorem dX12_demands_152 : decode cX12_demands 152 = .ok (.goto (-22), 3) := by decide +kernel
theorem dX12_demands_155 : decode cX12_demands 155 = .ok (.goto (-55), 3) := by decide +kernel
theorem dX12_demands_158 : decode cX12_demands 158 = .ok (.return_, 1) := by decide +kernel
theorem dX12_looks_0 : decode cX12_looks 0 = .ok (.sipush 4000, 3) := by decide +kernel
theorem dX12_looks_3 : decode cX12_looks 3 = .ok (.istore_n 2, 1) := by decide +kernel
theorem dX12_looks_4 : decode cX12_looks 4 = .ok (.aload_n 0, 1) := by decide +kernel
theorem dX12_looks_5 : decode cX12_looks 5 = .ok (.iload_n 1, 1) := by decide +kernel
theorem dX12_looks_6 : decode cX12_looks 6 = .ok (.iload_n 2, 1) := by decide +kernel
theorem dX12_looks_7 : decode cX12_looks 7 = .ok (.invokevirtual 273, 3) := by decide +kernel
theorem dX12_looks_10 : decode cX12_looks 10 = .ok (.istore_n 3, 1) := by decide +kernel
theorem dX12_looks_11 : decode cX12_looks 11 = .ok (.aload_n 0, 1) := by decide +kernel
theorem dX12_looks_12 : decode cX12_looks 12 = .ok (.iload_n 2, 1) := by decide +kernel
theorem dX12_looks_13 : decode cX12_looks 13 = .ok (.iload_n 3, 1) := by decide +kernel
theorem dX12_looks_14 : decode cX12_looks 14 = .ok (.invokevirtual 240, 3) := by decide +kernel
theorem dX12_looks_17 : decode cX12_looks 17 = .ok (.aload_n 0, 1) := by decide +kernel
theorem dX12_looks_18 : decode cX12_looks 18 = .ok (.iload_n 2, 1) := by decide +kernel
theorem dX12_looks_19 : decode cX12_looks 19 = .ok (.iload_n 3, 1) := by decide +kernel
theorem dX12_looks_20 : decode cX12_looks 20 = .ok (.invokevirtual 276, 3) := by decide +kernel
theorem dX12_looks_23 : decode cX12_looks 23 = .ok (.iconst 0, 1) := by decide +kernel
theorem dX12_looks_24 : decode cX12_looks 24 = .ok (.istore 4, 2) := by decide +kernel
theorem dX12_looks_26 : decode cX12_looks 26 = .ok (.iconst 0, 1) := by decide +kernel
theorem dX12_looks_27 : decode cX12_looks 27 = .ok (.istore 5, 2) := by decide +kernel
theorem dX12_looks_29 : decode cX12_looks 29 = .ok (.aload_n 0, 1) := by decide +kernel
theorem dX12_looks_30 : decode cX12_looks 30 = .ok (.getfield 83, 3) := by decide +kernel
theorem dX12_looks_33 : decode cX12_looks 33 = .ok (.iload_n 1, 1) := by decide +kernel
theorem dX12_looks_34 : decode cX12_looks 34 = .ok (.iaload, 1) := by decide +kernel
theorem dX12_looks_35 : decode cX12_looks 35 = .ok (.ifCond .le 19, 3) := by decide +kernel
theorem dX12_looks_54 : decode cX12_looks 54 = .ok (.iconst 0, 1) := by decide +kernel
theorem dX12_looks_55 : decode cX12_looks 55 = .ok (.istore 6, 2) := by decide +kernel
theorem dX12_looks_57 : decode cX12_looks 57 = .ok (.aload_n 0, 1) := by decide +kernel
theorem dX12_looks_58 : decode cX12_looks 58 = .ok (.getfield 83, 3) := by decide +kernel
theorem dX12_looks_61 : decode cX12_looks 61 = .ok (.iload_n 1, 1) := by decide +kernel
theorem dX12_looks_62 : decode cX12_looks 62 = .ok (.iaload, 1) := by decide +kernel
theorem dX12_looks_63 : decode cX12_looks 63 = .ok (.iconst 1, 1) := by decide +kernel
theorem dX12_looks_64 : decode cX12_looks 64 = .ok (.isub, 1) := by decide +kernel
theorem dX12_looks_65 : decode cX12_looks 65 = .ok (.istore 7, 2) := by decide +kernel
theorem dX12_looks_67 : decode cX12_looks 67 = .ok (.iload 7, 2) := by decide +kernel
theorem dX12_looks_69 : decode cX12_looks 69 = .ok (.ifCond .lt 95, 3) := by decide +kernel
theorem dX12_looks_164 : decode cX12_looks 164 = .ok (.iload 4, 2) := by decide +kernel
theorem dX12_looks_166 : decode cX12_looks 166 = .ok (.ireturn, 1) := by decide +kernel
theorem dX12_copiesGlobal_0 : decode cX12_copiesGlobal 0 = .ok (.iconst 0, 1) := by decide +kernel
theorem dX12_copiesGlobal_1 : decode cX12_copiesGlobal 1 = .ok (.istore_n 3, 1) := by decide +kernel
theorem dX12_copiesGlobal_2 : decode cX12_copiesGlobal 2 = .ok (.iload_n 3, 1) := by decide +kernel
theorem dX12_copiesGlobal_3 : decode cX12_copiesGlobal 3 = .ok (.aload_n 0, 1) := by decide +kernel
theorem dX12_copiesGlobal_4 : decode cX12_copiesGlobal 4 = .ok (.getfield 49, 3) := by decide +kernel
theorem dX12_copiesGlobal_7 : decode cX12_copiesGlobal 7 = .ok (.iload_n 1, 1) := by decide +kernel
theorem dX12_copiesGlobal_8 : decode cX12_copiesGlobal 8 = .ok (.iaload, 1) := by decide +kernel
theorem dX12_copiesGlobal_9 : decode cX12_copiesGlobal 9 = .ok (.if_icmp .ge 59, 3) := by decide +kernel
theorem dX12_copiesGlobal_68 : decode cX12_copiesGlobal 68 = .ok (.iload_n 2, 1) := by decide +kernel
theorem dX12_copiesGlobal_69 : decode cX12_copiesGlobal 69 = .ok (.aload_n 0, 1) := by decide +kernel
theorem dX12_copiesGlobal_70 : decode cX12_copiesGlobal 70 = .ok (.getfield 49, 3) := by decide +kernel
theorem dX12_copiesGlobal_73 : decode cX12_copiesGlobal 73 = .ok (.iload_n 1, 1) := by decide +kernel
theorem dX12_copiesGlobal_74 : decode cX12_copiesGlobal 74 = .ok (.iaload, 1) := by decide +kernel
theorem dX12_copiesGlobal_75 : decode cX12_copiesGlobal 75 = .ok (.iadd, 1) := by decide +kernel
theorem dX12_copiesGlobal_76 : decode cX12_copiesGlobal 76 = .ok (.ireturn, 1) := by decide +kernel
theorem dX12_ends_0 : decode cX12_ends 0 = .ok (.iload_n 2, 1) := by decide +kernel
theorem dX12_ends_1 : decode cX12_ends 1 = .ok (.iconst 1, 1) := by decide +kernel
theorem dX12_ends_2 : decode cX12_ends 2 = .ok (.isub, 1) := by decide +kernel
theorem dX12_ends_3 : decode cX12_ends 3 = .ok (.istore_n 3, 1) := by decide +kernel
theorem dX12_ends_4 : decode cX12_ends 4 = .ok (.iload_n 3, 1) := by decide +kernel
theorem dX12_ends_5 : decode cX12_ends 5 = .ok (.iload_n 1, 1) := by decide +kernel
theorem dX12_ends_6 : decode cX12_ends 6 = .ok (.if_icmp .lt 51, 3) := by decide +kernel
theorem dX12_ends_57 : decode cX12_ends 57 = .ok (.return_, 1) := by decide +kernel
theorem dX12_findsNeeds_0 : decode cX12_findsNeeds 0 = .ok (.iload_n 2, 1) := by decide +kernel
theorem dX12_findsNeeds_1 : decode cX12_findsNeeds 1 = .ok (.iconst 1, 1) := by decide +kernel
theorem dX12_findsNeeds_2 : decode cX12_findsNeeds 2 = .ok (.isub, 1) := by decide +kernel
theorem dX12_findsNeeds_3 : decode cX12_findsNeeds 3 = .ok (.istore_n 3, 1) := by decide +kernel
theorem dX12_findsNeeds_4 : decode cX12_findsNeeds 4 = .ok (.iload_n 3, 1) := by decide +kernel
theorem dX12_findsNeeds_5 : decode cX12_findsNeeds 5 = .ok (.iload_n 1, 1) := by decide +kernel
theorem dX12_findsNeeds_6 : decode cX12_findsNeeds 6 = .ok (.if_icmp .lt 20, 3) := by decide +kernel
theorem dX12_findsNeeds_26 : decode cX12_findsNeeds 26 = .ok (.return_, 1) := by decide +kernel
set_option maxRecDepth 20000 in
theorem kS_RX5_69 : GoodIn WG (va_wsS RX5 69 yJ7_fill_53178 (Cond.code yJ7_fill_53178 cJ7_fill_53178 4 none :: WG)) := zGS mt372 mt373 mt19 mt374
set_option maxRecDepth 20000 in
theorem kS_RX5_75 : GoodIn WG (va_wsS RX5 75 yJ7_fill_d0a16 (Cond.code yJ7_fill_d0a16 cJ7_fill_d0a16 5 none :: WG)) := zGS mt375 mt376 mt19 mt377
set_option maxRecDepth 20000 in
theorem kV_RX5_64 : GoodIn WG (wsV RX5 64 RX5 yX5_forget (Cond.code yX5_forget cX5_forget 1 none :: WG)) := zGV mt368 mt369 mt370 mt3 mt371
set_option maxRecDepth 20000 in
theorem kV_RX11_117 : GoodIn WG (wsV RX11 117 RX5 yX5_copy (Cond.code yX5_copy cX5_copy 3 none :: WG)) := zGV mt336 mt337 mt338 mt3 mt339
set_option maxRecDepth 20000 in
theorem kV_RX11_120 : GoodIn WG (wsV RX11 120 RX5 yX5_howMany (Cond.code yX5_howMany cX5_howMany 3 (some .int) :: WG)) := zGV mt378 mt379 mt380 mt3 mt381
set_option maxRecDepth 20000 in
theorem kV_RL_159 : GoodIn WG (wsV RL 159 RX11 yX11_begin (Cond.code yX11_begin cX11_begin 1 (some .int) :: WG)) := zGV mt332 mt333 mt334 mt1 mt335
set_option maxRecDepth 20000 in
theorem kV_RX12_244 : GoodIn WG (wsV RX12 244 RX12 yX12_forgets (Cond.code yX12_forgets cX12_forgets 3 none :: WG)) := zGV mt1675 mt1677 ms84 mt10 mt1678
set_option maxRecDepth 20000 in
theorem kV_RL_162 : GoodIn WG (wsV RL 162 RX12 yX12_begin (Cond.code yX12_begin cX12_begin 4 (some .int) :: WG)) := zGV mt1683 mt1684 mt1685 mt10 mt1686
set_option maxRecDepth 20000 in
theorem kV_RL_84 : GoodIn WG (wsV RL 84 RX11 yX11_needed (Cond.code yX11_needed cX11_needed 3 (some .int) :: WG)) := zGV mt1240 mt1241 mt1242 mt1 mt1243
set_option maxRecDepth 20000 in
theorem kS_RL_181 : GoodIn WG (va_wsS RL 181 yL_needed (Cond.codeWith yL_needed cL_needed 5 (some .int) [(0, 10, 13, 18)] :: WG)) := zGS mt1237 mt1238 mt0 mt1239
set_option maxRecDepth 20000 in
theorem kV_RL_183 : GoodIn WG (wsV RL 183 RX12 yX12_needed (Cond.code yX12_needed cX12_needed 3 (some .int) :: WG)) := zGV mt1687 mt1688 mt1689 mt10 mt1690
set_option maxRecDepth 20000 in
theorem kV_RX5_41 : GoodIn WG (wsV RX5 41 RX5 yX5_sizeOf (Cond.code yX5_sizeOf cX5_sizeOf 2 (some .int) :: WG)) := zGV mt707 mt654 mt655 mt3 mt656
set_option maxRecDepth 20000 in
theorem kV_RX11_150 : GoodIn WG (wsV RX11 150 RX5 yX5_firstLams (Cond.code yX5_firstLams cX5_firstLams 4 (some .int) :: WG)) := zGV mt1245 mt704 mt705 mt3 mt706
set_option maxRecDepth 20000 in
theorem kV_RX12_273 : GoodIn WG (wsV RX12 273 RX12 yX12_copiesGlobal (Cond.code yX12_copiesGlobal cX12_copiesGlobal 5 (some .int) :: WG)) := zGV mt1699 mt1701 ms87 mt10 mt1702
set_option maxRecDepth 20000 in
theorem kV_RX12_240 : GoodIn WG (wsV RX12 240 RX12 yX12_ends (Cond.code yX12_ends cX12_ends 6 none :: WG)) := zGV mt1639 mt1641 ms75 mt10 mt1642
set_option maxRecDepth 20000 in
theorem kV_RX12_276 : GoodIn WG (wsV RX12 276 RX12 yX12_findsNeeds (Cond.code yX12_findsNeeds cX12_findsNeeds 4 none :: WG)) := zGV mt1703 mt1705 ms88 mt10 mt1706
set_option maxRecDepth 20000 in
theorem kV_RX12_279 : GoodIn WG (wsV RX12 279 RX12 yX12_looks (Cond.code yX12_looks cX12_looks 10 (some .boolean) :: WG)) := zGV mt1695 mt1697 ms86 mt10 mt1698
set_option maxRecDepth 20000 in
theorem kV_RX12_282 : GoodIn WG (wsV RX12 282 RX12 yX12_demands (Cond.code yX12_demands cX12_demands 3 none :: WG)) := zGV mt1691 mt1693 ms85 mt10 mt1694
theorem hd_J7_fill_d0a16 : z_hd yJ7_fill_d0a16 "java/util/Arrays" 2 := by decide +kernel
theorem hd_X5_forget : z_hd yX5_forget RX5 0 := by decide +kernel
theorem hd_X5_copy : z_hd yX5_copy RX5 1 := by decide +kernel
theorem hd_X5_howMany : z_hd yX5_howMany RX5 0 := by decide +kernel
theorem hd_X11_begin : z_hd yX11_begin RX11 0 := by decide +kernel
theorem hd_X12_forgets : z_hd yX12_forgets RX12 1 := by decide +kernel
theorem hd_X12_begin : z_hd yX12_begin RX12 0 := by decide +kernel
theorem hd_X11_needed : z_hd yX11_needed RX11 2 := by decide +kernel
theorem hd_L_needed : z_hd yL_needed RL 4 := by decide +kernel
theorem hd_X12_needed : z_hd yX12_needed RX12 2 := by decide +kernel
theorem hd_X5_firstLams : z_hd yX5_firstLams RX5 1 := by decide +kernel
theorem hd_X12_copiesGlobal : z_hd yX12_copiesGlobal RX12 2 := by decide +kernel
theorem hd_X12_ends : z_hd yX12_ends RX12 2 := by decide +kernel
theorem hd_X12_findsNeeds : z_hd yX12_findsNeeds RX12 2 := by decide +kernel
theorem hd_X12_looks : z_hd yX12_looks RX12 1 := by decide +kernel
theorem hd_X12_demands : z_hd yX12_demands RX12 0 := by decide +kernel
