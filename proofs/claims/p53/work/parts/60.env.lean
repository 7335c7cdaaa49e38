/-! WHAT THE START GIVES -/
def lwG : List Cond := flatC (Cond.and given_1 narrow_1)
def lwA : List Cond := lw_tbl ++ lwG
def sR (i : Nat) : Term := .static "DebtClearing$Refusal" ((["NOTHING", "NO_MEMBER", "BAD_ARGUMENT", "BAD_STATE", "NOT_SUPPORTED"] : List String).getD i "") "LDebtClearing$Refusal;"
def sC (i : Nat) : Term := .static "DebtClearing$Command" ((["MEMBER", "DEBT", "PAY", "NET", "RING", "CLEAR", "PLEDGE", "FAIL"] : List String).getD i "") "LDebtClearing$Command;"
def sK : List (String × Nat) := [("DebtClearing$Command", 52), ("DebtClearing$Command", 58), ("DebtClearing$Command", 61), ("DebtClearing$Command", 64), ("DebtClearing$Command", 67), ("DebtClearing$Command", 70), ("DebtClearing$Command", 73), ("DebtClearing$Command", 76), ("DebtClearingLaw", 254), ("DebtClearingLaw", 263), ("DebtClearingLaw", 269), ("DebtClearingLaw", 309), ("DebtClearingLaw", 313), ("DebtClearingLaw", 317)]
def sS (i : Nat) : Term := .string (sK.getD i ("", 0)).1 (sK.getD i ("", 0)).2
def sV (i : Nat) : Term := .field (sS i) "java/lang/String" "value" "[B"
def sO : Term := .static "java/lang/Integer" "DigitOnes" "[B"
def sT : Term := .static "java/lang/Integer" "DigitTens" "[B"
def sM : Term := .static "DebtClearing$CommandText" "COMMANDS" "[LDebtClearing$Command;"
def sW : Term := .static "DebtClearing$1" "$SwitchMap$DebtClearing$Command" "[I"
def prs (n : Nat) : List (Nat × Nat) := (List.range n).flatMap (fun i => (List.range i).map (fun j => (j, i)))
def wf_nf : List Cond := zNF.map (fun q => Cond.fieldLinkNest q.1 q.2.1 q.2.2.1 q.2.2.2.1 q.2.2.2.2.1 q.2.2.2.2.2)
def wf_nm : List Cond := zNM.map (fun q => Cond.methodLinkNest q.1 q.2.1 q.2.2.1 q.2.2.2)
def wf_rl : List Cond := (List.range 5).map (fun i => Cond.laysStatic "DebtClearing$Refusal" ((["NOTHING", "NO_MEMBER", "BAD_ARGUMENT", "BAD_STATE", "NOT_SUPPORTED"] : List String).getD i "") "LDebtClearing$Refusal;")
def wf_re : List Cond := (List.range 5).map (fun i => Cond.exactly (sR i) "DebtClearing$Refusal")
def wf_ce : List Cond := (List.range 8).map (fun i => Cond.exactly (sC i) "DebtClearing$Command")
def wf_co : List Cond := (List.range 8).map (fun i => Cond.eq (.field (sC i) "java/lang/Enum" "ordinal" "I") (.int (Int32.ofNat i)))
def wf_cf : List Cond := (List.range 8).map (fun i => Cond.eq (.field (sC i) "DebtClearing$Command" "form" "Ljava/lang/String;") (sS i))
def wf_sr : List Cond := zStr.map (fun q => Cond.stringRef q.1 q.2.1 q.2.2)
def wf_se : List Cond := zStr.map (fun q => Cond.exactly (.string q.1 q.2.1) "java/lang/String")
def wf_ca : List Cond := zCa.map (fun q => Cond.castable q.1 q.2)
def wf_nc : List Cond := zNc.map (fun q => Cond.not (.castable q.1 q.2))
def wf_de : List Cond := zDe.map (fun q => Cond.declares q)
def wf_wd : List Cond := zWdL
def wf_st : List Cond := zStT.map (fun q => Cond.stringRef "DebtClearingLaw" q.1 q.2)
def wf_ke : List Cond := (List.range 14).map (fun i => Cond.exactly (sS i) "java/lang/String")
def wf_kc : List Cond := (List.range 14).map (fun i => Cond.eq (.field (sS i) "java/lang/String" "coder" "B") (.int 0))
def wf_ka : List Cond := (List.range 14).map (fun i => Cond.arrayOf (sV i) .byte)
def wf_kl : List Cond := (List.range 14).map (fun i => Cond.eq (.length (sV i)) (.int (Int32.ofNat (f_fl i))))
def wf_kb0 : List Cond := (List.range (f_fl 0)).map (fun j => Cond.eq (.elem (sV 0) (.int (Int32.ofNat j))) (.int (zBy (f_fb 0) j)))
def wf_kb1 : List Cond := (List.range (f_fl 1)).map (fun j => Cond.eq (.elem (sV 1) (.int (Int32.ofNat j))) (.int (zBy (f_fb 1) j)))
def wf_kb2 : List Cond := (List.range (f_fl 2)).map (fun j => Cond.eq (.elem (sV 2) (.int (Int32.ofNat j))) (.int (zBy (f_fb 2) j)))
def wf_kb3 : List Cond := (List.range (f_fl 3)).map (fun j => Cond.eq (.elem (sV 3) (.int (Int32.ofNat j))) (.int (zBy (f_fb 3) j)))
def wf_kb4 : List Cond := (List.range (f_fl 4)).map (fun j => Cond.eq (.elem (sV 4) (.int (Int32.ofNat j))) (.int (zBy (f_fb 4) j)))
def wf_kb5 : List Cond := (List.range (f_fl 5)).map (fun j => Cond.eq (.elem (sV 5) (.int (Int32.ofNat j))) (.int (zBy (f_fb 5) j)))
def wf_kb6 : List Cond := (List.range (f_fl 6)).map (fun j => Cond.eq (.elem (sV 6) (.int (Int32.ofNat j))) (.int (zBy (f_fb 6) j)))
def wf_kb7 : List Cond := (List.range (f_fl 7)).map (fun j => Cond.eq (.elem (sV 7) (.int (Int32.ofNat j))) (.int (zBy (f_fb 7) j)))
def wf_kb8 : List Cond := (List.range (f_fl 8)).map (fun j => Cond.eq (.elem (sV 8) (.int (Int32.ofNat j))) (.int (zBy (f_fb 8) j)))
def wf_kb9 : List Cond := (List.range (f_fl 9)).map (fun j => Cond.eq (.elem (sV 9) (.int (Int32.ofNat j))) (.int (zBy (f_fb 9) j)))
def wf_kb10 : List Cond := (List.range (f_fl 10)).map (fun j => Cond.eq (.elem (sV 10) (.int (Int32.ofNat j))) (.int (zBy (f_fb 10) j)))
def wf_kb11 : List Cond := (List.range (f_fl 11)).map (fun j => Cond.eq (.elem (sV 11) (.int (Int32.ofNat j))) (.int (zBy (f_fb 11) j)))
def wf_kb12 : List Cond := (List.range (f_fl 12)).map (fun j => Cond.eq (.elem (sV 12) (.int (Int32.ofNat j))) (.int (zBy (f_fb 12) j)))
def wf_kb13 : List Cond := (List.range (f_fl 13)).map (fun j => Cond.eq (.elem (sV 13) (.int (Int32.ofNat j))) (.int (zBy (f_fb 13) j)))
def wf_on : List Cond := (List.range 100).map (fun j => Cond.eq (.elem sO (.int (Int32.ofNat j))) (.int (f_one j)))
def wf_te : List Cond := (List.range 100).map (fun j => Cond.eq (.elem sT (.int (Int32.ofNat j))) (.int (f_ten j)))
def wf_sw : List Cond := (List.range 8).map (fun j => Cond.eq (.elem sW (.int (Int32.ofNat j))) (.int (f_sw j)))
def wf_cm : List Cond := (List.range 8).map (fun j => Cond.eq (.elem sM (.int (Int32.ofNat j))) (sC j))
def wf_m1 : List Cond := ([.laysStatic "java/lang/String" "COMPACT_STRINGS" "Z", .initialized "java/lang/String", .eq (.static "java/lang/String" "COMPACT_STRINGS" "Z") (.int 1), .laysStatic "jdk/internal/util/Preconditions" "SIOOBE_FORMATTER" "Ljava/util/function/BiFunction;", .initialized "jdk/internal/util/Preconditions", .isRef (.static "jdk/internal/util/Preconditions" "SIOOBE_FORMATTER" "Ljava/util/function/BiFunction;"), .laysStatic "java/lang/Integer" "DigitOnes" "[B", .initialized "java/lang/Integer", .arrayOf sO .byte, .eq (.length sO) (.int 100), .laysStatic "java/lang/Integer" "DigitTens" "[B", .arrayOf sT .byte, .eq (.length sT) (.int 100), .laysStatic "DebtClearing$CommandText" "COMMANDS" "[LDebtClearing$Command;", .initialized "DebtClearing$CommandText", .arrayOf sM (.object "DebtClearing$Command"), .eq (.length sM) (.int 8), .laysStatic "DebtClearing$1" "$SwitchMap$DebtClearing$Command" "[I", .initialized "DebtClearing$1", .arrayOf sW .int, .eq (.length sW) (.int 8), .initialized "DebtClearing$Refusal", .arrayOver (.object "DebtClearing$Ledger"), .laysStatic Bundle.tN "UNASSIGNED_STACK" Bundle.steD, .laysStatic Bundle.tN "SUPPRESSED_SENTINEL" Bundle.listD, .initialized Bundle.tN, .isRef (.static Bundle.tN "UNASSIGNED_STACK" Bundle.steD), .isRef (.static Bundle.tN "SUPPRESSED_SENTINEL" Bundle.listD)] : List Cond)
def prR : List (Nat × Nat) := [(0, 1), (0, 2), (1, 2), (0, 3), (3, 1), (3, 2), (0, 4), (1, 4), (2, 4), (3, 4)]
def prC : List (Nat × Nat) := [(0, 1), (0, 2), (1, 2), (0, 3), (1, 3), (2, 3), (0, 4), (1, 4), (2, 4), (3, 4), (0, 5), (1, 5), (2, 5), (3, 5), (4, 5), (0, 6), (1, 6), (2, 6), (3, 6), (4, 6), (5, 6), (0, 7), (1, 7), (2, 7), (3, 7), (4, 7), (5, 7), (6, 7)]
def wf_pR : List Cond := prR.map (fun q => Cond.not (.eq (sR q.1) (sR q.2)))
def wf_pC : List Cond := prC.map (fun q => Cond.not (.eq (sC q.1) (sC q.2)))
theorem z_in2 {ws B : List Cond} (ps : List Nat) (hp : ws.map some = ps.map (fun i => B[i]?)) : ∀ w ∈ ws, w ∈ B := by
  intro w hw
  have h1 : some w ∈ ps.map (fun i => B[i]?) := by rw [← hp]; exact List.mem_map.mpr ⟨w, hw, rfl⟩
  obtain ⟨i, -, hi⟩ := List.mem_map.mp h1
  exact List.mem_of_getElem? hi
set_option maxRecDepth 100000 in
theorem fam_nf : ∀ w ∈ wf_nf, w ∈ lwA := z_in2 [71, 73, 74, 75, 77, 78, 79, 81, 82, 84, 86, 87, 88, 90, 91, 93, 95, 97, 98, 188, 207, 210, 1507] (by decide +kernel)
set_option maxRecDepth 100000 in
theorem fam_nm : ∀ w ∈ wf_nm, w ∈ lwA := z_in2 [66, 124, 143, 156, 184, 198] (by decide +kernel)
set_option maxRecDepth 100000 in
theorem fam_rl : ∀ w ∈ wf_rl, w ∈ lwA := z_in2 [409, 416, 490, 411, 525] (by decide +kernel)
set_option maxRecDepth 100000 in
theorem fam_re : ∀ w ∈ wf_re, w ∈ lwA := z_in2 [1530, 1535, 1541, 1532, 1546] (by decide +kernel)
set_option maxRecDepth 100000 in
theorem fam_ce : ∀ w ∈ wf_ce, w ∈ lwA := z_in2 [1786, 1794, 1803, 1813, 1824, 1836, 1849, 1863] (by decide +kernel)
set_option maxRecDepth 100000 in
theorem fam_co : ∀ w ∈ wf_co, w ∈ lwA := z_in2 [1787, 1795, 1804, 1814, 1825, 1837, 1850, 1864] (by decide +kernel)
set_option maxRecDepth 100000 in
theorem fam_cf : ∀ w ∈ wf_cf, w ∈ lwA := z_in2 [1788, 1796, 1805, 1815, 1826, 1838, 1851, 1865] (by decide +kernel)
set_option maxRecDepth 100000 in
theorem fam_sr : ∀ w ∈ wf_sr, w ∈ lwA := z_in2 [1333, 1044, 945, 973, 711, 803, 857, 875, 1469, 1311, 889, 901, 463, 500, 517, 535] (by decide +kernel)
set_option maxRecDepth 100000 in
theorem fam_se : ∀ w ∈ wf_se, w ∈ lwA := z_in2 [2490, 2332, 2274, 2298, 2129, 2157, 2182, 2202, 2595, 2460, 2227, 2252, 1984, 2011, 2056, 2087] (by decide +kernel)
set_option maxRecDepth 100000 in
theorem fam_ca : ∀ w ∈ wf_ca, w ∈ lwA := z_in2 [938, 493, 510, 419, 1506, 528, 868] (by decide +kernel)
set_option maxRecDepth 100000 in
theorem fam_nc : ∀ w ∈ wf_nc, w ∈ lwA := z_in2 [1927, 1893, 1910, 1945, 1963, 1977, 1888, 1906, 1941, 1959, 1974, 1920, 1904, 1938, 1956, 1976, 1922, 1887, 1940, 1958, 1978, 1923, 1889, 1907, 1960, 1980, 1925, 1891, 1909, 1943] (by decide +kernel)
set_option maxRecDepth 100000 in
theorem fam_de : ∀ w ∈ wf_de, w ∈ lwA := z_in2 [421, 423, 425] (by decide +kernel)
set_option maxRecDepth 100000 in
theorem fam_wd : ∀ w ∈ wf_wd, w ∈ lwA := z_in2 [400, 549, 570, 571, 861, 926] (by decide +kernel)
set_option maxRecDepth 100000 in
theorem fam_st : ∀ w ∈ wf_st, w ∈ lwA := z_in2 [1381, 1384, 1386, 1460, 1461, 1470] (by decide +kernel)
set_option maxRecDepth 100000 in
theorem fam_ke : ∀ w ∈ wf_ke, w ∈ lwA := z_in2 [2627, 2637, 2651, 2664, 2675, 2687, 2696, 2710, 2521, 2540, 2545, 2565, 2570, 2616] (by decide +kernel)
set_option maxRecDepth 100000 in
theorem fam_kc : ∀ w ∈ wf_kc, w ∈ lwA := z_in2 [2628, 2638, 2652, 2665, 2676, 2688, 2697, 2711, 2522, 2541, 2546, 2566, 2571, 2617] (by decide +kernel)
set_option maxRecDepth 100000 in
theorem fam_ka : ∀ w ∈ wf_ka, w ∈ lwA := z_in2 [2629, 2639, 2653, 2666, 2677, 2689, 2698, 2712, 2523, 2542, 2547, 2567, 2572, 2618] (by decide +kernel)
set_option maxRecDepth 100000 in
theorem fam_kl : ∀ w ∈ wf_kl, w ∈ lwA := z_in2 [2630, 2640, 2654, 2667, 2678, 2690, 2699, 2713, 2524, 2543, 2548, 2568, 2573, 2619] (by decide +kernel)
set_option maxRecDepth 100000 in
theorem fam_kb0 : ∀ w ∈ wf_kb0, w ∈ lwA := z_in2 [2631, 2632, 2633, 2634, 2635, 2636] (by decide +kernel)
set_option maxRecDepth 100000 in
theorem fam_kb1 : ∀ w ∈ wf_kb1, w ∈ lwA := z_in2 [2641, 2642, 2643, 2644, 2645, 2646, 2647, 2648, 2649, 2650] (by decide +kernel)
set_option maxRecDepth 100000 in
theorem fam_kb2 : ∀ w ∈ wf_kb2, w ∈ lwA := z_in2 [2655, 2656, 2657, 2658, 2659, 2660, 2661, 2662, 2663] (by decide +kernel)
set_option maxRecDepth 100000 in
theorem fam_kb3 : ∀ w ∈ wf_kb3, w ∈ lwA := z_in2 [2668, 2669, 2670, 2671, 2672, 2673, 2674] (by decide +kernel)
set_option maxRecDepth 100000 in
theorem fam_kb4 : ∀ w ∈ wf_kb4, w ∈ lwA := z_in2 [2679, 2680, 2681, 2682, 2683, 2684, 2685, 2686] (by decide +kernel)
set_option maxRecDepth 100000 in
theorem fam_kb5 : ∀ w ∈ wf_kb5, w ∈ lwA := z_in2 [2691, 2692, 2693, 2694, 2695] (by decide +kernel)
set_option maxRecDepth 100000 in
theorem fam_kb6 : ∀ w ∈ wf_kb6, w ∈ lwA := z_in2 [2700, 2701, 2702, 2703, 2704, 2705, 2706, 2707, 2708, 2709] (by decide +kernel)
set_option maxRecDepth 100000 in
theorem fam_kb7 : ∀ w ∈ wf_kb7, w ∈ lwA := z_in2 [2714, 2715, 2716, 2717, 2718, 2719] (by decide +kernel)
set_option maxRecDepth 100000 in
theorem fam_kb8 : ∀ w ∈ wf_kb8, w ∈ lwA := z_in2 [2525, 2526, 2527, 2528, 2529, 2530, 2531, 2532, 2533, 2534, 2535, 2536, 2537, 2538, 2539] (by decide +kernel)
set_option maxRecDepth 100000 in
theorem fam_kb9 : ∀ w ∈ wf_kb9, w ∈ lwA := z_in2 [2544] (by decide +kernel)
set_option maxRecDepth 100000 in
theorem fam_kb10 : ∀ w ∈ wf_kb10, w ∈ lwA := z_in2 [2549, 2550, 2551, 2552, 2553, 2554, 2555, 2556, 2557, 2558, 2559, 2560, 2561, 2562, 2563, 2564] (by decide +kernel)
set_option maxRecDepth 100000 in
theorem fam_kb11 : ∀ w ∈ wf_kb11, w ∈ lwA := z_in2 [2569] (by decide +kernel)
set_option maxRecDepth 100000 in
theorem fam_kb12 : ∀ w ∈ wf_kb12, w ∈ lwA := z_in2 [2574, 2575, 2576, 2577, 2578, 2579, 2580, 2581, 2582, 2583, 2584, 2585, 2586, 2587, 2588, 2589, 2590, 2591, 2592, 2593, 2594] (by decide +kernel)
set_option maxRecDepth 100000 in
theorem fam_kb13 : ∀ w ∈ wf_kb13, w ∈ lwA := z_in2 [2620, 2621, 2622, 2623, 2624, 2625, 2626] (by decide +kernel)
set_option maxRecDepth 100000 in
theorem fam_on : ∀ w ∈ wf_on, w ∈ lwA := z_in2 [1583, 1584, 1585, 1586, 1587, 1588, 1589, 1590, 1591, 1592, 1593, 1594, 1595, 1596, 1597, 1598, 1599, 1600, 1601, 1602, 1603, 1604, 1605, 1606, 1607, 1608, 1609, 1610, 1611, 1612, 1613, 1614, 1615, 1616, 1617, 1618, 1619, 1620, 1621, 1622, 1623, 1624, 1625, 1626, 1627, 1628, 1629, 1630, 1631, 1632, 1633, 1634, 1635, 1636, 1637, 1638, 1639, 1640, 1641, 1642, 1643, 1644, 1645, 1646, 1647, 1648, 1649, 1650, 1651, 1652, 1653, 1654, 1655, 1656, 1657, 1658, 1659, 1660, 1661, 1662, 1663, 1664, 1665, 1666, 1667, 1668, 1669, 1670, 1671, 1672, 1673, 1674, 1675, 1676, 1677, 1678, 1679, 1680, 1681, 1682] (by decide +kernel)
set_option maxRecDepth 100000 in
theorem fam_te : ∀ w ∈ wf_te, w ∈ lwA := z_in2 [1686, 1687, 1688, 1689, 1690, 1691, 1692, 1693, 1694, 1695, 1696, 1697, 1698, 1699, 1700, 1701, 1702, 1703, 1704, 1705, 1706, 1707, 1708, 1709, 1710, 1711, 1712, 1713, 1714, 1715, 1716, 1717, 1718, 1719, 1720, 1721, 1722, 1723, 1724, 1725, 1726, 1727, 1728, 1729, 1730, 1731, 1732, 1733, 1734, 1735, 1736, 1737, 1738, 1739, 1740, 1741, 1742, 1743, 1744, 1745, 1746, 1747, 1748, 1749, 1750, 1751, 1752, 1753, 1754, 1755, 1756, 1757, 1758, 1759, 1760, 1761, 1762, 1763, 1764, 1765, 1766, 1767, 1768, 1769, 1770, 1771, 1772, 1773, 1774, 1775, 1776, 1777, 1778, 1779, 1780, 1781, 1782, 1783, 1784, 1785] (by decide +kernel)
set_option maxRecDepth 100000 in
theorem fam_sw : ∀ w ∈ wf_sw, w ∈ lwA := z_in2 [1572, 1573, 1574, 1575, 1576, 1577, 1578, 1579] (by decide +kernel)
set_option maxRecDepth 100000 in
theorem fam_cm : ∀ w ∈ wf_cm, w ∈ lwA := z_in2 [1557, 1558, 1559, 1560, 1561, 1562, 1563, 1564] (by decide +kernel)
set_option maxRecDepth 100000 in
theorem fam_m1 : ∀ w ∈ wf_m1, w ∈ lwA := z_in2 [237, 29, 1529, 761, 44, 1565, 1184, 50, 1581, 1582, 1186, 1684, 1685, 732, 26, 1554, 1555, 818, 45, 1570, 1571, 38, 183, 444, 446, 31, 1539, 1540] (by decide +kernel)
set_option maxRecDepth 100000 in
theorem fam_pR : ∀ w ∈ wf_pR, w ∈ lwA := z_in2 [1537, 1543, 1545, 1534, 1538, 1544, 1548, 1550, 1551, 1549] (by decide +kernel)
set_option maxRecDepth 100000 in
theorem fam_pC : ∀ w ∈ wf_pC, w ∈ lwA := z_in2 [1802, 1811, 1812, 1821, 1822, 1823, 1832, 1833, 1834, 1835, 1844, 1845, 1846, 1847, 1848, 1857, 1858, 1859, 1860, 1861, 1862, 1871, 1872, 1873, 1874, 1875, 1876, 1877] (by decide +kernel)
theorem st_A (s : State) : ∀ a : Nat, a < s.heap.size → ¬ (fun q => s.heap.size ≤ q) a := fun a h => Nat.not_le.mpr h
theorem st_nest {args : Array Value} {s : State} (hw : ∀ w ∈ lwA, w.before args s = true) : zNest s := ⟨fun q hq => va_Nw.of rfl (hw _ (fam_nf _ (List.mem_map.mpr ⟨q, hq, rfl⟩))), fun q hq => va_Nw.of rfl (hw _ (fam_nm _ (List.mem_map.mpr ⟨q, hq, rfl⟩)))⟩
theorem st_er {args : Array Value} {s : State} (hw : ∀ w ∈ lwA, w.before args s = true) : ∃ er, zEr er (fun q => s.heap.size ≤ q) s s.heap := va_Enof (nm := ["NOTHING", "NO_MEMBER", "BAD_ARGUMENT", "BAD_STATE", "NOT_SUPPORTED"]) (F := []) (fun i hi => (hw _ (fam_rl _ (List.mem_map.mpr ⟨i, List.mem_range.mpr hi, rfl⟩)))) (hw _ (fam_m1 _ (List.mem_of_getElem? (i := 21) rfl))) (fun i hi => (hw _ (fam_re _ (List.mem_map.mpr ⟨i, List.mem_range.mpr hi, rfl⟩)))) (fun q hq => nomatch hq) (fun i j hi hj hn => by
  have : ∀ i, i < 5 → ∀ j, j < 5 → i = j ∨ (i, j) ∈ prR ∨ (j, i) ∈ prR := by decide
  rcases (this i hi j hj).resolve_left hn with h | h
  · exact Or.inl (hw _ (fam_pR _ (List.mem_map.mpr ⟨_, h, rfl⟩)))
  · exact Or.inr (hw _ (fam_pR _ (List.mem_map.mpr ⟨_, h, rfl⟩)))) (st_A s)
theorem st_xs {args : Array Value} {s : State} (hw : ∀ w ∈ lwA, w.before args s = true) : zXs (fun q => s.heap.size ≤ q) s s.heap := ⟨⟨vx_Zqof (hw _ (fam_m1 _ (List.mem_of_getElem? (i := 23) rfl))) (hw _ (fam_m1 _ (List.mem_of_getElem? (i := 25) rfl))) (hw _ (fam_m1 _ (List.mem_of_getElem? (i := 26) rfl))) (st_A s), vx_Zqof (hw _ (fam_m1 _ (List.mem_of_getElem? (i := 24) rfl))) (hw _ (fam_m1 _ (List.mem_of_getElem? (i := 25) rfl))) (hw _ (fam_m1 _ (List.mem_of_getElem? (i := 27) rfl))) (st_A s)⟩,
  fun q hq => by
    obtain ⟨a, c, cell, k, q1, -⟩ := Cond.exactly_spec (hw _ (fam_se _ (List.mem_map.mpr ⟨q, hq, rfl⟩)))
    exact ⟨a, vk_R.of (hw _ (fam_sr _ (List.mem_map.mpr ⟨q, hq, rfl⟩))) q1⟩,
  fun q hq => va_Nw.of rfl (hw _ (fam_ca _ (List.mem_map.mpr ⟨q, hq, rfl⟩))), fun q hq => va_Nc.of (hw _ (fam_nc _ (List.mem_map.mpr ⟨q, hq, rfl⟩))), va_AO.of (hw _ (fam_m1 _ (List.mem_of_getElem? (i := 22) rfl))), fun q hq => va_Nw.of rfl (hw _ (fam_de _ (List.mem_map.mpr ⟨q, hq, rfl⟩)))⟩
theorem st_j (D : va_G) (g : Nat → ClassId) {args : Array Value} {s : State} (hw : ∀ w ∈ lwA, w.before args s = true) : ∃ dg, zJ D g dg (fun q => s.heap.size ≤ q) s s.heap := by
  obtain ⟨t1, e1, h1⟩ := va_Tof (tm := sO) (ty := .byte) (N := 100) (f := fun k => .int (f_one k)) (by decide) (hw _ (fam_m1 _ (List.mem_of_getElem? (i := 8) rfl))) (va_eqt (hw _ (fam_m1 _ (List.mem_of_getElem? (i := 9) rfl)))) (fun j hj => va_eqt (hw _ (fam_on _ (List.mem_map.mpr ⟨j, List.mem_range.mpr hj, rfl⟩)))) (st_A s)
  obtain ⟨t2, e2, h2⟩ := va_Tof (tm := sT) (ty := .byte) (N := 100) (f := fun k => .int (f_ten k)) (by decide) (hw _ (fam_m1 _ (List.mem_of_getElem? (i := 11) rfl))) (va_eqt (hw _ (fam_m1 _ (List.mem_of_getElem? (i := 12) rfl)))) (fun j hj => va_eqt (hw _ (fam_te _ (List.mem_map.mpr ⟨j, List.mem_range.mpr hj, rfl⟩)))) (st_A s)
  exact ⟨fun i => if i = 0 then t1 else t2, va_Zof (hw _ (fam_m1 _ (List.mem_of_getElem? (i := 0) rfl))) (hw _ (fam_m1 _ (List.mem_of_getElem? (i := 1) rfl))) (va_eqi (hw _ (fam_m1 _ (List.mem_of_getElem? (i := 2) rfl)))) (st_A s), va_Zqof (hw _ (fam_m1 _ (List.mem_of_getElem? (i := 3) rfl))) (hw _ (fam_m1 _ (List.mem_of_getElem? (i := 4) rfl))) (hw _ (fam_m1 _ (List.mem_of_getElem? (i := 5) rfl))) (st_A s), va_Zref (hw _ (fam_m1 _ (List.mem_of_getElem? (i := 6) rfl))) (hw _ (fam_m1 _ (List.mem_of_getElem? (i := 7) rfl))) e1 (st_A s), va_Zref (hw _ (fam_m1 _ (List.mem_of_getElem? (i := 10) rfl))) (hw _ (fam_m1 _ (List.mem_of_getElem? (i := 7) rfl))) e2 (st_A s), h1, h2⟩
theorem st_kb {i j : Nat} (hi : i < 14) (hj : j < f_fl i) : Cond.eq (.elem (sV i) (.int (Int32.ofNat j))) (.int (zBy (f_fb i) j)) ∈ lwA := by
  rcases (by omega : i = 0 ∨ i = 1 ∨ i = 2 ∨ i = 3 ∨ i = 4 ∨ i = 5 ∨ i = 6 ∨ i = 7 ∨ i = 8 ∨ i = 9 ∨ i = 10 ∨ i = 11 ∨ i = 12 ∨ i = 13) with rfl | rfl | rfl | rfl | rfl | rfl | rfl | rfl | rfl | rfl | rfl | rfl | rfl | rfl
  · exact fam_kb0 _ (List.mem_map.mpr ⟨j, List.mem_range.mpr hj, rfl⟩)
  · exact fam_kb1 _ (List.mem_map.mpr ⟨j, List.mem_range.mpr hj, rfl⟩)
  · exact fam_kb2 _ (List.mem_map.mpr ⟨j, List.mem_range.mpr hj, rfl⟩)
  · exact fam_kb3 _ (List.mem_map.mpr ⟨j, List.mem_range.mpr hj, rfl⟩)
  · exact fam_kb4 _ (List.mem_map.mpr ⟨j, List.mem_range.mpr hj, rfl⟩)
  · exact fam_kb5 _ (List.mem_map.mpr ⟨j, List.mem_range.mpr hj, rfl⟩)
  · exact fam_kb6 _ (List.mem_map.mpr ⟨j, List.mem_range.mpr hj, rfl⟩)
  · exact fam_kb7 _ (List.mem_map.mpr ⟨j, List.mem_range.mpr hj, rfl⟩)
  · exact fam_kb8 _ (List.mem_map.mpr ⟨j, List.mem_range.mpr hj, rfl⟩)
  · exact fam_kb9 _ (List.mem_map.mpr ⟨j, List.mem_range.mpr hj, rfl⟩)
  · exact fam_kb10 _ (List.mem_map.mpr ⟨j, List.mem_range.mpr hj, rfl⟩)
  · exact fam_kb11 _ (List.mem_map.mpr ⟨j, List.mem_range.mpr hj, rfl⟩)
  · exact fam_kb12 _ (List.mem_map.mpr ⟨j, List.mem_range.mpr hj, rfl⟩)
  · exact fam_kb13 _ (List.mem_map.mpr ⟨j, List.mem_range.mpr hj, rfl⟩)
theorem st_s {args : Array Value} {s : State} (hw : ∀ w ∈ lwA, w.before args s = true) : ∃ fs fv : Nat → Nat, (∀ i, i < 14 → (sS i).eval args s none [] s = some (.ref (fs i))) ∧ zSk fs fv (fun q => s.heap.size ≤ q) s s.heap := by
  have h0 : ∀ i : Nat, ∃ ab : Nat × Nat, i < 14 → (sS i).eval args s none [] s = some (.ref ab.1) ∧ va_O "java/lang/String" ab.1 (fun q => s.heap.size ≤ q) s s.heap ∧ va_OF "java/lang/String" "coder" "B" (.int 0) ab.1 (fun q => s.heap.size ≤ q) s s.heap ∧ va_OF "java/lang/String" "value" "[B" (.ref ab.2) ab.1 (fun q => s.heap.size ≤ q) s s.heap ∧ va_T .byte ab.2 (f_fl i) (fun k => .int (zBy (f_fb i) k)) (fun q => s.heap.size ≤ q) s s.heap := by
    intro i
    by_cases hi : i < 14
    · obtain ⟨a, c, cell, k, q1, -⟩ := Cond.exactly_spec (hw _ (fam_ke _ (List.mem_map.mpr ⟨i, List.mem_range.mpr hi, rfl⟩)))
      obtain ⟨t, e, h⟩ := va_Tof (tm := sV i) (ty := .byte) (N := f_fl i) (f := fun k => .int (zBy (f_fb i) k)) (Nat.lt_of_le_of_lt (f_fl_le i) (by decide)) (hw _ (fam_ka _ (List.mem_map.mpr ⟨i, List.mem_range.mpr hi, rfl⟩))) (va_eqt (hw _ (fam_kl _ (List.mem_map.mpr ⟨i, List.mem_range.mpr hi, rfl⟩)))) (fun j hj => va_eqt (hw _ (st_kb hi hj))) (st_A s)
      exact ⟨(a, t), fun _ => ⟨q1, va_Oof (hw _ (fam_ke _ (List.mem_map.mpr ⟨i, List.mem_range.mpr hi, rfl⟩))) q1 (st_A s), vk_OFof q1 (va_eqt (hw _ (fam_kc _ (List.mem_map.mpr ⟨i, List.mem_range.mpr hi, rfl⟩)))) (st_A s), vk_OFof q1 e (st_A s), h⟩⟩
    · exact ⟨(0, 0), fun h => absurd h hi⟩
  obtain ⟨ab, hab⟩ := Classical.axiomOfChoice h0
  exact ⟨fun i => (ab i).1, fun i => (ab i).2, fun i hi => (hab i hi).1, fun i hi => (hab i hi).2⟩
theorem st_cm (D : va_G) (g : Nat → ClassId) {args : Array Value} {s : State} (hw : ∀ w ∈ lwA, w.before args s = true) {fs fv : Nat → Nat} (hf : ∀ i, i < 14 → (sS i).eval args s none [] s = some (.ref (fs i))) (hk : zSk fs fv (fun q => s.heap.size ≤ q) s s.heap) : ∃ (ec : Nat → Nat) (qa : Nat), zCm D g ec fs fv qa (fun q => s.heap.size ≤ q) s s.heap := by
  have h0 : ∀ i : Nat, ∃ t : Nat, i < 8 → (sC i).eval args s none [] s = some (.ref t) := by
    intro i
    by_cases hi : i < 8
    · obtain ⟨a, c, cell, k, q1, -⟩ := Cond.exactly_spec (hw _ (fam_ce _ (List.mem_map.mpr ⟨i, List.mem_range.mpr hi, rfl⟩)))
      exact ⟨a, fun _ => q1⟩
    · exact ⟨0, fun h => absurd h hi⟩
  obtain ⟨ec, hec⟩ := Classical.axiomOfChoice h0
  obtain ⟨qa, e1, h1⟩ := va_Tof (tm := sM) (ty := .object "DebtClearing$Command") (N := 8) (f := fun k => .ref (ec k)) (by decide) (hw _ (fam_m1 _ (List.mem_of_getElem? (i := 15) rfl))) (va_eqt (hw _ (fam_m1 _ (List.mem_of_getElem? (i := 16) rfl)))) (fun j hj => va_eqv (hw _ (fam_cm _ (List.mem_map.mpr ⟨j, List.mem_range.mpr hj, rfl⟩))) (hec j hj)) (st_A s)
  refine ⟨ec, qa, va_Zref (hw _ (fam_m1 _ (List.mem_of_getElem? (i := 13) rfl))) (hw _ (fam_m1 _ (List.mem_of_getElem? (i := 14) rfl))) e1 (st_A s), h1, ⟨fun i hi => ⟨va_Oof (hw _ (fam_ce _ (List.mem_map.mpr ⟨i, List.mem_range.mpr hi, rfl⟩))) (hec i hi) (st_A s), fun q hq => ?_⟩, fun i j hi hj e => ?_⟩, ?_, hk⟩
  · obtain rfl := List.mem_singleton.mp hq
    have hv := va_eqt (hw _ (fam_co _ (List.mem_map.mpr ⟨i, List.mem_range.mpr hi, rfl⟩)))
    have e9 : (([0, 1, 2, 3, 4, 5, 6, 7] : List Int32).getD i 0) = Int32.ofNat i := (by decide : ∀ i, i < 8 → ([0, 1, 2, 3, 4, 5, 6, 7] : List Int32).getD i 0 = Int32.ofNat i) i hi
    show va_OF "java/lang/Enum" "ordinal" "I" (.int (([0, 1, 2, 3, 4, 5, 6, 7] : List Int32).getD i 0)) (ec i) (fun q => s.heap.size ≤ q) s s.heap
    rw [e9]
    exact vk_OFof (hec i hi) hv (st_A s)
  · by_cases hn : i = j
    · exact hn
    · have : ∀ i, i < 8 → ∀ j, j < 8 → i = j ∨ (i, j) ∈ prC ∨ (j, i) ∈ prC := by decide
      rcases (this i hi j hj).resolve_left hn with h | h
      · exact absurd e (va_neR (hw _ (fam_pC _ (List.mem_map.mpr ⟨_, h, rfl⟩))) (hec i hi) (hec j hj))
      · exact absurd e.symm (va_neR (hw _ (fam_pC _ (List.mem_map.mpr ⟨_, h, rfl⟩))) (hec j hj) (hec i hi))
  · exact fun i hi => vk_OFof (hec i hi) (va_eqv (hw _ (fam_cf _ (List.mem_map.mpr ⟨i, List.mem_range.mpr hi, rfl⟩))) (hf i (Nat.lt_of_lt_of_le hi (by decide)))) (st_A s)
theorem st_sw (D : va_G) (g : Nat → ClassId) {args : Array Value} {s : State} (hw : ∀ w ∈ lwA, w.before args s = true) : ∃ sw, zSw D g sw (fun q => s.heap.size ≤ q) s s.heap := by
  obtain ⟨t, e, h⟩ := va_Tof (tm := sW) (ty := .int) (N := 8) (f := fun k => .int (f_sw k)) (by decide) (hw _ (fam_m1 _ (List.mem_of_getElem? (i := 19) rfl))) (va_eqt (hw _ (fam_m1 _ (List.mem_of_getElem? (i := 20) rfl)))) (fun j hj => va_eqt (hw _ (fam_sw _ (List.mem_map.mpr ⟨j, List.mem_range.mpr hj, rfl⟩)))) (st_A s)
  exact ⟨t, va_Zref (hw _ (fam_m1 _ (List.mem_of_getElem? (i := 17) rfl))) (hw _ (fam_m1 _ (List.mem_of_getElem? (i := 18) rfl))) e (st_A s), h⟩
theorem st_wd {args : Array Value} {s : State} (hw : ∀ w ∈ lwA, w.before args s = true) : zWd s := fun w h => va_Nw.of (List.all_eq_true.mp (by decide : zWdL.all (fun w => w.onTables) = true) w h) (hw _ (fam_wd _ h))
theorem st_st {args : Array Value} {s : State} (hw : ∀ w ∈ lwA, w.before args s = true) {fs : Nat → Nat} (hf : ∀ i, i < 14 → (sS i).eval args s none [] s = some (.ref (fs i))) : zStL fs s := fun i q h => by
  have hq := List.mem_of_getElem? h
  have h1 := (hw _ (fam_st _ (List.mem_map.mpr ⟨q, hq, rfl⟩)))
  have hi : i < 6 := (List.getElem?_eq_some_iff.mp h).1
  refine vk_R.of h1 ?_
  have h2 := hf (8 + i) (by omega)
  rcases (by omega : i = 0 ∨ i = 1 ∨ i = 2 ∨ i = 3 ∨ i = 4 ∨ i = 5) with rfl | rfl | rfl | rfl | rfl | rfl <;> (cases h; exact h2)
/-- the environment, out of the start -/
theorem law_env (D : va_G) (g : Nat → ClassId) {args : Array Value} {s : State} (hw : ∀ w ∈ lwA, w.before args s = true) {b L : Nat} {xs : Nat → Int32} (hX : va_X b L xs s s.heap) (hb : b < s.heap.size) (hL : L ≤ 260) : ∃ (er dg ec fs fv : Nat → Nat) (qa sw : Nat), zEnvL er D g dg ec fs fv qa sw b L xs (fun q => s.heap.size ≤ q) s s.heap := by
  obtain ⟨er, her⟩ := st_er hw
  obtain ⟨dg, hdg⟩ := st_j D g hw
  obtain ⟨fs, fv, hfs, hsk⟩ := st_s hw
  obtain ⟨ec, qa, hcm⟩ := st_cm D g hw hfs hsk
  obtain ⟨sw, hsw⟩ := st_sw D g hw
  exact ⟨er, dg, ec, fs, fv, qa, sw, ⟨⟨⟨⟨st_nest hw, her, st_xs hw⟩, hdg⟩, hcm⟩, hsw⟩, ⟨st_wd hw, st_st hw hfs⟩, hX, hb, Nat.not_le.mpr hb, hL⟩
