noncomputable section
/-! ===== readings, by program, checked by the kernel ===== -/
def cx_496pi_0 (t : List (Int × Int)) : List (Int × Int) := ui0 :: ui1776 :: ui425 :: ui1674 :: (0, 1) :: ui1676 :: ui1676 :: (0, 2) :: t
def cx_496pi_1 (t : List (Int × Int)) : List (Int × Int) := ui1674 :: ui1674 :: (0, 8) :: (0, 3) :: ui1674 :: ui52 :: ui68 :: ui1676 :: t
def cx_496pi_2 (t : List (Int × Int)) : List (Int × Int) := (0, 1) :: ui31 :: t
def cx_496p : zS := ((cx_496pi_0 (cx_496pi_1 (cx_496pi_2 []))), (cx_473pr_0 (cx_473pr_1 [])), [uL572, uL1783, uL1784, uL1785], [], [uV2, uV62], (cx_486pf_0 (cx_486pf_1 [])), (cx_486pg_0 []))
def cx_496q1i_0 (t : List (Int × Int)) : List (Int × Int) := ui0 :: ui1776 :: (0, 0) :: ui1674 :: (0, 1) :: ui1676 :: ui1676 :: (0, 2) :: t
def cx_496q1i_1 (t : List (Int × Int)) : List (Int × Int) := ui1674 :: ui1674 :: (0, 8) :: (0, 3) :: ui1674 :: ui52 :: ui68 :: ui1676 :: t
def cx_496q1i_2 (t : List (Int × Int)) : List (Int × Int) := (0, 1) :: ui31 :: t
def cx_496q1 : zS := ((cx_496q1i_0 (cx_496q1i_1 (cx_496q1i_2 []))), (cx_473pr_0 (cx_473pr_1 [])), [uL1784, uL63, uL572], [], [], [uF1779, uF1778], (cx_486q0g_0 []))
def cx_496q2i_0 (t : List (Int × Int)) : List (Int × Int) := ui0 :: ui1776 :: ui1777 :: ui1674 :: (0, 1) :: ui1676 :: ui1676 :: (0, 2) :: t
def cx_496q2i_1 (t : List (Int × Int)) : List (Int × Int) := ui1674 :: ui1674 :: (1, 8) :: (1, 3) :: ui1674 :: ui52 :: ui68 :: ui1676 :: t
def cx_496q2i_2 (t : List (Int × Int)) : List (Int × Int) := (0, 1) :: ui31 :: ui1788 :: t
def cx_496q2 : zS := ((cx_496q2i_0 (cx_496q2i_1 (cx_496q2i_2 []))), (cx_473pr_0 (cx_473pr_1 [])), [uL1791, uL1792, uL1793], [], [], [uF1794, uF1795], (cx_486q1g_0 []))
def cx_496q3i_0 (t : List (Int × Int)) : List (Int × Int) := ui0 :: ui1776 :: ui1777 :: ui1674 :: (0, 1) :: ui1676 :: ui1676 :: (0, 2) :: t
def cx_496q3i_1 (t : List (Int × Int)) : List (Int × Int) := ui1674 :: ui1674 :: (0, 8) :: (1, 3) :: ui1674 :: ui52 :: ui68 :: ui1676 :: t
def cx_496q3i_2 (t : List (Int × Int)) : List (Int × Int) := (0, 1) :: ui31 :: (0, 0) :: t
def cx_496q3 : zS := ((cx_496q3i_0 (cx_496q3i_1 (cx_496q3i_2 []))), (cx_473pr_0 (cx_473pr_1 [])), [uL1791, uL1792, uL1793], [], [], [uF1794, uF1795], (cx_486q1g_0 []))
/-- M.comesOut -/
def cx_496 : zCtx := (218, cx_496p, [cx_486q0, cx_496q1, cx_496q2, cx_496q3], [uk1755, uk1731, uk1756, uk1757], 107, 1, 22)
def cz_496_0i_0 (t : List (Int × Int)) : List (Int × Int) := ui0 :: ui1776 :: ui1777 :: ui1674 :: (0, 1) :: ui1676 :: ui1676 :: (0, 2) :: t
def cz_496_0i_1 (t : List (Int × Int)) : List (Int × Int) := ui1674 :: ui1674 :: (0, 8) :: (1, 3) :: ui1674 :: ui52 :: ui68 :: ui1676 :: t
def cz_496_0i_2 (t : List (Int × Int)) : List (Int × Int) := (0, 1) :: ui31 :: ui1796 :: ui96 :: (0, 3) :: t
def cz_496_0 : zS := ((cz_496_0i_0 (cz_496_0i_1 (cz_496_0i_2 []))), (cx_473pr_0 (cx_473pr_1 [])), [uL1800, uL1801, uL1802, uL572, uL1783, uL1784, uL1785, uL1803], [uV2, uV62, uV1193], [], (cz_486_0f_0 (cz_486_0f_1 [])), (cz_486_0g_0 []))
set_option maxRecDepth 1000000 in
theorem ck_496 : x_ok mLT1 [cx_482, cx_483, cx_484, cx_485] mTS2 mTC2 mRUp cx_496 [(85, [0, 1, 2, 3])] [(0, uN1804), (4, [3]), (17, [2]), (41, uN1805), (88, uN1806), (91, uN1826)] [(0, cz_496_0, (15, [(20, 35)]))] (88, []) 19 40 = true := by decide +kernel
theorem sn_496 {W : Bool} {X : List Int32} : y_Snd (mGw W) mLT1 (J2 W X) X cx_496 := y_ok J2_J mTS2_ok1 mTC2_ok1 mRUp_ok1 (List.forall_mem_cons.mpr ⟨sn_482, List.forall_mem_cons.mpr ⟨sn_483, List.forall_mem_cons.mpr ⟨sn_484, List.forall_mem_cons.mpr ⟨sn_485, fun _ h => absurd h List.not_mem_nil⟩⟩⟩⟩) ck_496
def cx_497pi_0 (t : List (Int × Int)) : List (Int × Int) := ui0 :: ui1827 :: ui1788 :: ui1674 :: (0, 1) :: ui1676 :: ui1676 :: (0, 2) :: t
def cx_497pi_1 (t : List (Int × Int)) : List (Int × Int) := ui1674 :: ui1674 :: (1, 8) :: (0, 3) :: ui1674 :: (0, 1) :: ui31 :: t
def cx_497p : zS := ((cx_497pi_0 (cx_497pi_1 [])), (cx_473pr_0 (cx_473pr_1 [])), [uL572, uL1783, uL1784, uL1785], [], [uV2, uV62], (cx_486pf_0 (cx_486pf_1 [])), [uG1748, uG1780, uG1781, uG1811])
def cx_497q0i_0 (t : List (Int × Int)) : List (Int × Int) := ui0 :: ui1827 :: ui1788 :: ui1674 :: (0, 1) :: ui1676 :: ui1676 :: (0, 2) :: t
def cx_497q0i_1 (t : List (Int × Int)) : List (Int × Int) := ui1674 :: ui1674 :: (1, 8) :: (0, 0) :: ui1674 :: (0, 1) :: ui31 :: t
def cx_497q0 : zS := ((cx_497q0i_0 (cx_497q0i_1 [])), (cx_473pr_0 (cx_473pr_1 [])), [uL1784, uL63, uL572], [], [], [uF1779, uF1778], [uG1748, uG1811, uG1786, uG1781])
def cx_497q1i_0 (t : List (Int × Int)) : List (Int × Int) := ui0 :: ui1827 :: ui1828 :: ui1674 :: (0, 1) :: ui1676 :: ui1676 :: (0, 2) :: t
def cx_497q1i_1 (t : List (Int × Int)) : List (Int × Int) := ui1674 :: ui1674 :: (1, 8) :: (1, 3) :: ui1674 :: (0, 1) :: ui31 :: ui1334 :: t
def cx_497q1 : zS := ((cx_497q1i_0 (cx_497q1i_1 [])), (cx_473pr_0 (cx_473pr_1 [])), [uL1812, uL1813, uL1814], [], [], [uF1815, uF1816], [uG1748, uG1811, uG1817, uG1818])
/-- M.comesOut -/
def cx_497 : zCtx := (218, cx_497p, [cx_497q0, cx_497q1], [uk1755, uk1731, uk1756, uk1757], 107, 1, 22)
def cz_497_0i_0 (t : List (Int × Int)) : List (Int × Int) := ui0 :: ui1827 :: ui1828 :: ui1674 :: (0, 1) :: ui1676 :: ui1676 :: (0, 2) :: t
def cz_497_0i_1 (t : List (Int × Int)) : List (Int × Int) := ui1674 :: ui1674 :: (1, 8) :: (1, 3) :: ui1674 :: (0, 1) :: ui31 :: ui1796 :: t
def cz_497_0i_2 (t : List (Int × Int)) : List (Int × Int) := ui1334 :: (0, 3) :: t
def cz_497_0 : zS := ((cz_497_0i_0 (cz_497_0i_1 (cz_497_0i_2 []))), (cx_473pr_0 (cx_473pr_1 [])), [uL1820, uL1821, uL1822, uL572, uL1783, uL1784, uL1785, uL1823], [uV2, uV62, uV587], [], (cz_495_0f_0 (cz_495_0f_1 [])), [uG1748, uG1811, uG1824, uG1825])
set_option maxRecDepth 1000000 in
theorem ck_497 : x_ok mLT1 [cx_491, cx_492, cx_493, cx_494] mTS2 mTC2 mRUp cx_497 [(85, [0, 1, 2, 3])] [(0, uN1804), (4, [3]), (17, [2]), (41, uN1805), (88, uN1806)] [(0, cz_497_0, (15, [(17, 35)]))] (88, []) 19 40 = true := by decide +kernel
theorem sn_497 {W : Bool} {X : List Int32} : y_Snd (mGw W) mLT1 (J2 W X) X cx_497 := y_ok J2_J mTS2_ok1 mTC2_ok1 mRUp_ok1 (List.forall_mem_cons.mpr ⟨sn_491, List.forall_mem_cons.mpr ⟨sn_492, List.forall_mem_cons.mpr ⟨sn_493, List.forall_mem_cons.mpr ⟨sn_494, fun _ h => absurd h List.not_mem_nil⟩⟩⟩⟩) ck_497
def cx_498p : zS := ((cx_496pi_0 (cx_496pi_1 (cx_496pi_2 []))), (cx_473pr_0 (cx_473pr_1 [])), [uL572, uL1783, uL1784, uL1785], [], [uV2, uV64], (cx_486pf_0 (cx_486pf_1 [])), (cx_486pg_0 []))
def cx_498q0i_0 (t : List (Int × Int)) : List (Int × Int) := ui0 :: ui1776 :: ui1777 :: ui1674 :: (0, 1) :: ui1676 :: ui1676 :: (0, 2) :: t
def cx_498q0i_1 (t : List (Int × Int)) : List (Int × Int) := ui1674 :: ui1674 :: (0, 8) :: (1, 1) :: ui1674 :: ui52 :: ui68 :: ui1676 :: t
def cx_498q0i_2 (t : List (Int × Int)) : List (Int × Int) := (0, 1) :: ui31 :: (0, 1) :: t
def cx_498q0g_0 (t : List zTg) : List zTg := uG1748 :: uG1782 :: (1, [uL67, uL170, uL277]) :: uG1781 :: (216, [uL207, uL208, uL98, uL9, uL67, uL209, uL211]) :: t
def cx_498q0 : zS := ((cx_498q0i_0 (cx_498q0i_1 (cx_498q0i_2 []))), (cx_473pr_0 (cx_473pr_1 [])), [uL1784, uL63, uL572], [], [], [uF1779, uF1778], (cx_498q0g_0 []))
def cx_498q1i_0 (t : List (Int × Int)) : List (Int × Int) := ui0 :: ui1776 :: ui1777 :: ui1674 :: (0, 1) :: ui1676 :: ui1676 :: (0, 2) :: t
def cx_498q1i_1 (t : List (Int × Int)) : List (Int × Int) := ui1674 :: ui1674 :: (1, 8) :: (0, 0) :: ui1674 :: ui52 :: ui68 :: ui1676 :: t
def cx_498q1i_2 (t : List (Int × Int)) : List (Int × Int) := (0, 1) :: ui31 :: (0, 1) :: t
def cx_498q1 : zS := ((cx_498q1i_0 (cx_498q1i_1 (cx_498q1i_2 []))), (cx_473pr_0 (cx_473pr_1 [])), [uL1784, uL63, uL572], [], [], [uF1779, uF1778], (cx_498q0g_0 []))
def cx_498q2i_0 (t : List (Int × Int)) : List (Int × Int) := ui0 :: ui1776 :: (0, 0) :: ui1674 :: (0, 1) :: ui1676 :: ui1676 :: (0, 2) :: t
def cx_498q2i_1 (t : List (Int × Int)) : List (Int × Int) := ui1674 :: ui1674 :: (0, 8) :: (0, 3) :: ui1674 :: ui52 :: ui68 :: ui1676 :: t
def cx_498q2i_2 (t : List (Int × Int)) : List (Int × Int) := (0, 1) :: ui31 :: (0, 1) :: t
def cx_498q2 : zS := ((cx_498q2i_0 (cx_498q2i_1 (cx_498q2i_2 []))), (cx_473pr_0 (cx_473pr_1 [])), [uL1784, uL63, uL572], [], [], [uF1779, uF1778], (cx_498q0g_0 []))
def cx_498q3i_0 (t : List (Int × Int)) : List (Int × Int) := ui0 :: ui1776 :: ui1777 :: ui1674 :: (0, 1) :: ui1676 :: ui1676 :: (0, 2) :: t
def cx_498q3i_1 (t : List (Int × Int)) : List (Int × Int) := ui1674 :: ui1674 :: (0, 8) :: (2, 3) :: ui1674 :: ui52 :: ui68 :: ui1676 :: t
def cx_498q3i_2 (t : List (Int × Int)) : List (Int × Int) := (0, 1) :: ui31 :: ui1788 :: (0, 1) :: t
def cx_498q3g_0 (t : List zTg) : List zTg := uG1748 :: uG1782 :: (1, [uL277, uL170, uL353]) :: uG1790 :: (216, [uL207, uL208, uL98, uL1789, uL277, uL209, uL211]) :: t
def cx_498q3 : zS := ((cx_498q3i_0 (cx_498q3i_1 (cx_498q3i_2 []))), (cx_473pr_0 (cx_473pr_1 [])), [uL1791, uL1792, uL1793], [], [], [uF1794, uF1795], (cx_498q3g_0 []))
def cx_498q4i_0 (t : List (Int × Int)) : List (Int × Int) := ui0 :: ui1776 :: ui1777 :: ui1674 :: (0, 1) :: ui1676 :: ui1676 :: (0, 2) :: t
def cx_498q4i_1 (t : List (Int × Int)) : List (Int × Int) := ui1674 :: ui1674 :: (0, 8) :: (2, 3) :: ui1674 :: ui52 :: ui68 :: ui1676 :: t
def cx_498q4i_2 (t : List (Int × Int)) : List (Int × Int) := (0, 1) :: ui31 :: (0, 0) :: (0, 1) :: t
def cx_498q4 : zS := ((cx_498q4i_0 (cx_498q4i_1 (cx_498q4i_2 []))), (cx_473pr_0 (cx_473pr_1 [])), [uL1791, uL1792, uL1793], [], [], [uF1794, uF1795], (cx_498q3g_0 []))
/-- M.comesOut -/
def cx_498 : zCtx := (218, cx_498p, [cx_498q0, cx_498q1, cx_498q2, cx_498q3, cx_498q4], [uk1755, uk1731, uk1756, uk1757], 424, 1, 22)
def cz_498_0i_0 (t : List (Int × Int)) : List (Int × Int) := ui0 :: ui1776 :: ui1777 :: ui1674 :: (0, 1) :: ui1676 :: ui1676 :: (0, 2) :: t
def cz_498_0i_1 (t : List (Int × Int)) : List (Int × Int) := ui1674 :: ui1674 :: (0, 8) :: (2, 3) :: ui1674 :: ui52 :: ui68 :: ui1676 :: t
def cz_498_0i_2 (t : List (Int × Int)) : List (Int × Int) := (0, 1) :: ui31 :: (10, 15) :: ui96 :: (0, 3) :: t
def cz_498_0g_0 (t : List zTg) : List zTg := uG1748 :: uG1782 :: uG1797 :: uG1799 :: (216, [uL207, uL208, uL98, uL1798, uL353, uL209, uL65]) :: t
def cz_498_0 : zS := ((cz_498_0i_0 (cz_498_0i_1 (cz_498_0i_2 []))), (cx_473pr_0 (cx_473pr_1 [])), [uL1800, uL1801, uL1802, uL572, uL1783, uL1784, uL1785, uL1803], [uV2, uV64, uV1193], [], (cz_486_0f_0 (cz_486_0f_1 [])), (cz_498_0g_0 []))
set_option maxRecDepth 1000000 in
theorem ck_498 : x_ok mLT1 [cx_484, cx_485] mTS2 mTC2 mRUp cx_498 [(85, [0, 1])] [(0, uN1804), (4, [3]), (17, [2]), (41, uN1805), (88, uN1806), (91, uN1826)] [(0, cz_498_0, (65, [(18, 1), (20, 110)]))] (405, []) 19 46 = true := by decide +kernel
theorem sn_498 {W : Bool} {X : List Int32} : y_Snd (mGw W) mLT1 (J2 W X) X cx_498 := y_ok J2_J mTS2_ok1 mTC2_ok1 mRUp_ok1 (List.forall_mem_cons.mpr ⟨sn_484, List.forall_mem_cons.mpr ⟨sn_485, fun _ h => absurd h List.not_mem_nil⟩⟩) ck_498
def cx_499pi_0 (t : List (Int × Int)) : List (Int × Int) := ui0 :: ui406 :: (0, 0) :: (0, 0) :: ui52 :: ui1694 :: ui1675 :: (0, 1) :: t
def cx_499pi_1 (t : List (Int × Int)) : List (Int × Int) := ui1676 :: ui1676 :: (0, 2) :: ui1674 :: ui1674 :: ui52 :: ui304 :: (0, 6) :: t
def cx_499pi_2 (t : List (Int × Int)) : List (Int × Int) := (0, 1) :: ui48 :: (0, 5) :: ui52 :: ui68 :: ui1676 :: (0, 1) :: ui31 :: t
def cx_499pr_0 (t : List (Nat × Bool)) : List (Nat × Bool) := ur1414 :: ur1715 :: ur1428 :: ur1429 :: ur1430 :: ur1431 :: ur1464 :: ur1470 :: t
def cx_499pr_1 (t : List (Nat × Bool)) : List (Nat × Bool) := ur1471 :: ur1461 :: ur1462 :: ur1472 :: ur1473 :: ur1474 :: ur1475 :: ur1476 :: t
def cx_499pf_0 (t : List zFa) : List zFa := uF1505 :: uF1677 :: uF1525 :: uF1511 :: uF1716 :: uF1717 :: uF1718 :: uF1707 :: t
def cx_499pf_1 (t : List zFa) : List zFa := uF1124 :: uF1125 :: uF1445 :: uF1446 :: uF1829 :: uF1830 :: uF1580 :: uF1831 :: t
def cx_499pf_2 (t : List zFa) : List zFa := uF1832 :: uF1833 :: uF1834 :: uF1835 :: uF1836 :: uF1837 :: uF1838 :: uF1839 :: t
def cx_499pf_3 (t : List zFa) : List zFa := uF1840 :: uF1841 :: uF1842 :: t
def cx_499pg_0 (t : List zTg) : List zTg := uG1729 :: uG1843 :: uG1844 :: (216, [uL207, uL9, uL79, uL104, uL63, uL1191, uL63]) :: uG1845 :: t
def cx_499p : zS := ((cx_499pi_0 (cx_499pi_1 (cx_499pi_2 []))), (cx_499pr_0 (cx_499pr_1 [])), [uL1728, uL1846], [], [uV2], (cx_499pf_0 (cx_499pf_1 (cx_499pf_2 (cx_499pf_3 [])))), (cx_499pg_0 []))
def cx_499q0i_0 (t : List (Int × Int)) : List (Int × Int) := ui0 :: ui406 :: (0, 0) :: (0, 0) :: ui52 :: ui1694 :: ui1675 :: (0, 1) :: t
def cx_499q0i_1 (t : List (Int × Int)) : List (Int × Int) := ui1676 :: ui1676 :: (0, 2) :: ui1674 :: ui1674 :: ui52 :: ui304 :: (0, 6) :: t
def cx_499q0i_2 (t : List (Int × Int)) : List (Int × Int) := (0, 1) :: ui48 :: (0, 5) :: ui52 :: ui68 :: ui1676 :: (0, 1) :: ui31 :: t
def cx_499q0i_3 (t : List (Int × Int)) : List (Int × Int) := ui52 :: (1, 2) :: ui406 :: ui1674 :: ui425 :: (0, 7) :: t
def cx_499q0 : zS := ((cx_499q0i_0 (cx_499q0i_1 (cx_499q0i_2 (cx_499q0i_3 [])))), (cx_499pr_0 (cx_499pr_1 [])), [uL1847], [], [], [uF1848, uF1849, uF1850, uF1851, uF1831, uF1852, (0, (false, 12, 0, []), 0, 0, 0, [(29, 1)]), uF1831], [uG1729, uG1845, uG1853])
def cx_499q1i_0 (t : List (Int × Int)) : List (Int × Int) := ui0 :: ui406 :: (0, 0) :: (0, 0) :: ui52 :: ui1694 :: ui1675 :: (0, 1) :: t
def cx_499q1i_1 (t : List (Int × Int)) : List (Int × Int) := ui1676 :: ui1676 :: (0, 2) :: ui1674 :: ui1674 :: ui52 :: ui304 :: (0, 6) :: t
def cx_499q1i_2 (t : List (Int × Int)) : List (Int × Int) := (0, 1) :: ui48 :: (0, 5) :: ui52 :: ui68 :: ui1676 :: (0, 1) :: ui31 :: t
def cx_499q1i_3 (t : List (Int × Int)) : List (Int × Int) := (0, 0) :: ui1810 :: ui1572 :: ui1675 :: t
def cx_499q1g_0 (t : List zTg) : List zTg := uG1729 :: uG1845 :: (0, [uL104, uL65, uL1268]) :: uG1854 :: (40, [uL207, uL1761, uL208, uL65, uL67, uL209, uL213, uL277, uL353, uL408]) :: (71, [uL207, uL1761]) :: (216, [uL207, uL1761, uL79, uL1268, uL1762, uL1191, uL36]) :: t
def cx_499q1 : zS := ((cx_499q1i_0 (cx_499q1i_1 (cx_499q1i_2 (cx_499q1i_3 [])))), (cx_499pr_0 (cx_499pr_1 [])), [((-2), [(7, 420), (25, (-1)), (26, 1)]), (0, [(1, (-1)), (5, 1), (25, (-1)), (26, 1)]), ((-1), [(1, (-1)), (26, 1)]), uL1855, uL1847], [], [], [uF1856, uF1857, uF1850, uF1525, uF1511, uF1831, uF1831, uF1677], (cx_499q1g_0 []))
/-- M.expression -/
def cx_499 : zCtx := (215, cx_499p, [cx_499q0, cx_499q1], kc_75, 14189224, 3, 61)
def cq_499 : List zCtx := [cx_474, cx_425, cx_426, cx_476, cx_477, cx_480, cx_481, cx_486, cx_487, cx_488, cx_489, cx_490, cx_429, cx_434, cx_495, cx_496, cx_497, cx_498]
def cs_499 : List (Nat × List Nat) := [(26, [0]), (43, [1]), (57, [2, 3]), (85, [4, 5]), (99, [6]), (115, [7]), (139, [2]), (148, [8]), (157, [9]), (166, [10]), (175, [11]), (201, [12, 13]), (206, [7, 14, 15, 16]), (214, [10]), (223, [11]), (234, [15, 17]), (266, [2])]
def hs_499 : List (Nat × List Nat) := [(5, [5, 6]), (24, [1000246]), (42, [1000350]), (56, [1000351]), (60, [3, 1000352, 1000353]), (71, [4]), (81, [1000589]), (84, [1000338, 1000339]), (85, [3]), (97, [1000246]), (115, [1000609]), (118, [2]), (138, [1000354]), (142, [1000355, 1000356, 1000590]), (187, [1000372, 1000373, 1000374]), (200, [1000357, 1000358, 1000359]), (206, [1000609]), (234, [1000609]), (237, [3]), (255, [4]), (265, [1000360, 1000361, 1000362, 1000363]), (269, [1000364, 1000365, 1000366, 1000367, 1000368, 1000369, 1000370, 1000371, 1000591, 1000592, 1000593, 1000594])]
def nd_499_0pi_0 (t : List (Int × Int)) : List (Int × Int) := ui0 :: ui406 :: (0, 0) :: (0, 0) :: ui52 :: ui1694 :: ui1675 :: (0, 1) :: t
def nd_499_0pi_1 (t : List (Int × Int)) : List (Int × Int) := ui1676 :: ui1676 :: (0, 2) :: ui1674 :: ui1674 :: ui52 :: ui304 :: (0, 6) :: t
def nd_499_0pi_2 (t : List (Int × Int)) : List (Int × Int) := (0, 1) :: ui48 :: (0, 5) :: ui52 :: ui68 :: ui1676 :: (0, 1) :: ui31 :: t
def nd_499_0pi_3 (t : List (Int × Int)) : List (Int × Int) := ui96 :: ui406 :: (0, 6) :: (0, 822) :: (0, 3) :: t
def nd_499_0pf_0 (t : List zFa) : List zFa := uF1856 :: uF1858 :: uF1859 :: uF1525 :: uF1511 :: uF1851 :: uF1718 :: uF1707 :: t
def nd_499_0pf_1 (t : List zFa) : List zFa := uF1124 :: uF1125 :: uF1445 :: uF1446 :: uF1829 :: uF1830 :: uF1580 :: uF1831 :: t
def nd_499_0pf_2 (t : List zFa) : List zFa := uF1832 :: uF1833 :: uF1834 :: uF1835 :: uF1836 :: uF1837 :: uF1838 :: uF1839 :: t
def nd_499_0pf_3 (t : List zFa) : List zFa := uF1840 :: uF1841 :: uF1842 :: t
def nd_499_0pg_0 (t : List zTg) : List zTg := uG1729 :: uG1845 :: (1, [uL1267, uL1860, uL1768]) :: (0, [uL104, uL1861, uL1762]) :: uG1862 :: (40, [uL207, uL1268, uL208, uL63, uL1761, uL209, uL213, uL277, uL353, uL408]) :: (216, [uL207, uL1268, uL79, uL1762, uL1267, uL1191, uL63]) :: t
def nd_499_0p : zS := ((nd_499_0pi_0 (nd_499_0pi_1 (nd_499_0pi_2 (nd_499_0pi_3 [])))), (cx_499pr_0 (cx_499pr_1 [])), [uL1863, uL1864, uL1865, uL1866, uL1861, uL1860], [uV2, uV12, uV64], [], (nd_499_0pf_0 (nd_499_0pf_1 (nd_499_0pf_2 (nd_499_0pf_3 [])))), (nd_499_0pg_0 []))
def nd_499_0 : zN := (12, nd_499_0p, (14180160, [(1, 35520), (2, (-96000000000000)), (3, (-96000000000000)), (25, (-35520)), (26, 480)]))
def nd_499_1pi_0 (t : List (Int × Int)) : List (Int × Int) := ui0 :: ui406 :: (0, 0) :: (0, 0) :: ui52 :: ui1694 :: ui1675 :: (0, 1) :: t
def nd_499_1pi_1 (t : List (Int × Int)) : List (Int × Int) := ui1676 :: ui1676 :: (0, 2) :: ui1674 :: ui1674 :: ui52 :: ui304 :: (0, 6) :: t
def nd_499_1pi_2 (t : List (Int × Int)) : List (Int × Int) := (0, 1) :: ui48 :: (0, 5) :: ui52 :: ui68 :: ui1676 :: (0, 1) :: ui31 :: t
def nd_499_1pi_3 (t : List (Int × Int)) : List (Int × Int) := ui425 :: ui406 :: (0, 6) :: ui1674 :: (0, 3) :: t
def nd_499_1p : zS := ((nd_499_1pi_0 (nd_499_1pi_1 (nd_499_1pi_2 (nd_499_1pi_3 [])))), (cx_499pr_0 (cx_499pr_1 [])), [uL1863, uL1864, uL1865, uL1866, uL1861, uL1860], [uV2, uV12, uV64], [], (nd_499_0pf_0 (nd_499_0pf_1 (nd_499_0pf_2 (nd_499_0pf_3 [])))), (nd_499_0pg_0 []))
def nd_499_1 : zN := (23, nd_499_1p, (14174400, [(1, 35520), (2, (-96000000000000)), (3, (-96000000000000)), (25, (-35520)), (26, 480)]))
def nd_499_2pi_0 (t : List (Int × Int)) : List (Int × Int) := ui0 :: ui406 :: (0, 0) :: (0, 0) :: ui52 :: ui1694 :: ui1675 :: (0, 1) :: t
def nd_499_2pi_1 (t : List (Int × Int)) : List (Int × Int) := ui1676 :: ui1676 :: (0, 2) :: ui1674 :: ui1674 :: ui52 :: ui304 :: (0, 6) :: t
def nd_499_2pi_2 (t : List (Int × Int)) : List (Int × Int) := (0, 1) :: ui48 :: (0, 5) :: ui52 :: ui68 :: ui1676 :: (0, 1) :: ui31 :: t
def nd_499_2pi_3 (t : List (Int × Int)) : List (Int × Int) := ui1572 :: ui1867 :: ui425 :: (0, 6) :: (0, 3) :: t
def nd_499_2pf_0 (t : List zFa) : List zFa := uF1868 :: uF1525 :: uF1511 :: uF1857 :: uF1831 :: uF1869 :: uF1870 :: uF1718 :: t
def nd_499_2pf_1 (t : List zFa) : List zFa := uF1707 :: uF1124 :: uF1125 :: uF1445 :: uF1446 :: uF1829 :: uF1830 :: uF1580 :: t
def nd_499_2pf_2 (t : List zFa) : List zFa := uF1831 :: uF1832 :: uF1833 :: uF1834 :: uF1835 :: uF1836 :: uF1837 :: uF1838 :: t
def nd_499_2pf_3 (t : List zFa) : List zFa := uF1839 :: uF1840 :: uF1841 :: uF1842 :: t
def nd_499_2pg_0 (t : List zTg) : List zTg := uG1729 :: uG1845 :: uG1872 :: uG1873 :: uG1874 :: uG1875 :: uG1876 :: t
def nd_499_2p : zS := ((nd_499_2pi_0 (nd_499_2pi_1 (nd_499_2pi_2 (nd_499_2pi_3 [])))), (cx_499pr_0 (cx_499pr_1 [])), [uL1877, uL1878, uL1879, uL1855, uL1880, uL1871], [uV2, uV12, uV64], [], (nd_499_2pf_0 (nd_499_2pf_1 (nd_499_2pf_2 (nd_499_2pf_3 [])))), (nd_499_2pg_0 []))
def nd_499_2 : zN := (96, nd_499_2p, (14200320, [(1, 35520), (2, (-96000000000000)), (3, (-96000000000000)), (24, (-35520)), (27, 480)]))
def nd_499_3pi_0 (t : List (Int × Int)) : List (Int × Int) := ui0 :: ui406 :: (0, 0) :: (0, 0) :: ui52 :: ui1694 :: ui1675 :: (0, 1) :: t
def nd_499_3pi_1 (t : List (Int × Int)) : List (Int × Int) := ui1676 :: ui1676 :: (0, 2) :: ui1674 :: ui1674 :: ui52 :: ui304 :: (0, 6) :: t
def nd_499_3pi_2 (t : List (Int × Int)) : List (Int × Int) := (0, 1) :: ui48 :: (0, 5) :: ui52 :: ui68 :: ui1676 :: (0, 1) :: ui31 :: t
def nd_499_3pi_3 (t : List (Int × Int)) : List (Int × Int) := ui1572 :: ui425 :: (0, 6) :: (0, 3) :: ui1808 :: ui52 :: t
def nd_499_3pf_0 (t : List zFa) : List zFa := uF1868 :: uF1525 :: uF1511 :: (0, (false, 39, 0, []), 0, 0, 1, [(5, 1)]) :: uF1831 :: (0, (false, 43, 0, []), 0, 0, 0, [(25, 1)]) :: uF1859 :: uF1718 :: t
def nd_499_3pf_1 (t : List zFa) : List zFa := uF1707 :: uF1124 :: uF1125 :: uF1445 :: uF1446 :: uF1829 :: uF1830 :: uF1580 :: t
def nd_499_3pf_2 (t : List zFa) : List zFa := uF1831 :: uF1832 :: uF1833 :: uF1834 :: uF1835 :: uF1836 :: uF1837 :: uF1838 :: t
def nd_499_3pf_3 (t : List zFa) : List zFa := uF1839 :: uF1840 :: uF1841 :: uF1842 :: (3, (true, 0, 0, [(24, 1)]), 0, 0, 0, [(29, 1)]) :: (2, (true, 0, 0, [(24, 1)]), 0, 0, 0, [(28, 1)]) :: t
def nd_499_3pg_0 (t : List zTg) : List zTg := (59, [uL207, uL1267, uL1768, uL1767]) :: uG1729 :: uG1845 :: (1, [uL1268, uL1860, uL1762]) :: (0, [uL104, (1, [(2, 1), (25, 1), (26, (-1))]), uL205]) :: uG1874 :: (40, [uL207, uL1267, uL208, uL65, uL1761, uL209, uL213, uL277, uL353, uL408]) :: (216, [uL207, uL1267, uL79, uL205, uL1268, uL1191, uL63]) :: t
def nd_499_3p : zS := ((nd_499_3pi_0 (nd_499_3pi_1 (nd_499_3pi_2 (nd_499_3pi_3 [])))), (cx_499pr_0 (cx_499pr_1 [])), [uL1881, uL1882, uL1883, uL1879, uL65, uL1884, uL1860], [uV2, uV12, uV64], [], (nd_499_3pf_0 (nd_499_3pf_1 (nd_499_3pf_2 (nd_499_3pf_3 [])))), (nd_499_3pg_0 []))
def nd_499_3 : zN := (210, nd_499_3p, uL1885)
def nd_499_4pi_0 (t : List (Int × Int)) : List (Int × Int) := ui0 :: ui406 :: (0, 0) :: (0, 0) :: ui52 :: ui1694 :: ui1675 :: (0, 1) :: t
def nd_499_4pi_1 (t : List (Int × Int)) : List (Int × Int) := ui1676 :: ui1676 :: (0, 2) :: ui1674 :: ui1674 :: ui52 :: ui304 :: (0, 6) :: t
def nd_499_4pi_2 (t : List (Int × Int)) : List (Int × Int) := (0, 1) :: ui48 :: (0, 5) :: ui52 :: ui68 :: ui1676 :: (0, 1) :: ui31 :: t
def nd_499_4pi_3 (t : List (Int × Int)) : List (Int × Int) := ui1572 :: ui425 :: (0, 6) :: (0, 3) :: ui1807 :: ui52 :: t
def nd_499_4p : zS := ((nd_499_4pi_0 (nd_499_4pi_1 (nd_499_4pi_2 (nd_499_4pi_3 [])))), (cx_499pr_0 (cx_499pr_1 [])), [uL1881, uL1882, uL1883, uL1879, uL65, uL1884, uL1860], [uV2, uV12, uV64], [], (nd_499_3pf_0 (nd_499_3pf_1 (nd_499_3pf_2 (nd_499_3pf_3 [])))), (nd_499_3pg_0 []))
def nd_499_4 : zN := (210, nd_499_4p, uL1885)
def nd_499_5pi_0 (t : List (Int × Int)) : List (Int × Int) := ui0 :: ui406 :: (0, 0) :: (0, 0) :: ui52 :: ui1694 :: ui1675 :: (0, 1) :: t
def nd_499_5pi_1 (t : List (Int × Int)) : List (Int × Int) := ui1676 :: ui1676 :: (0, 2) :: ui1674 :: ui1674 :: ui52 :: ui304 :: (0, 6) :: t
def nd_499_5pi_2 (t : List (Int × Int)) : List (Int × Int) := (0, 1) :: ui48 :: (0, 5) :: ui52 :: ui68 :: ui1676 :: (0, 1) :: ui31 :: t
def nd_499_5pi_3 (t : List (Int × Int)) : List (Int × Int) := ui1572 :: ui425 :: (0, 6) :: (0, 3) :: (9, 9) :: ui52 :: t
def nd_499_5p : zS := ((nd_499_5pi_0 (nd_499_5pi_1 (nd_499_5pi_2 (nd_499_5pi_3 [])))), (cx_499pr_0 (cx_499pr_1 [])), [uL1881, uL1882, uL1883, uL1879, uL65, uL1884, uL1860], [uV2, uV12, uV64], [], (nd_499_3pf_0 (nd_499_3pf_1 (nd_499_3pf_2 (nd_499_3pf_3 [])))), (nd_499_3pg_0 []))
def nd_499_5 : zN := (210, nd_499_5p, uL1885)
def nd_499_6pi_0 (t : List (Int × Int)) : List (Int × Int) := ui0 :: ui406 :: (0, 0) :: (0, 0) :: ui52 :: ui1694 :: ui1675 :: (0, 1) :: t
def nd_499_6pi_1 (t : List (Int × Int)) : List (Int × Int) := ui1676 :: ui1676 :: (0, 2) :: ui1674 :: ui1674 :: ui52 :: ui304 :: (0, 6) :: t
def nd_499_6pi_2 (t : List (Int × Int)) : List (Int × Int) := (0, 1) :: ui48 :: (0, 5) :: ui52 :: ui68 :: ui1676 :: (0, 1) :: ui31 :: t
def nd_499_6pi_3 (t : List (Int × Int)) : List (Int × Int) := ui1572 :: ui425 :: (0, 6) :: (0, 3) :: (8, 8) :: ui52 :: t
def nd_499_6p : zS := ((nd_499_6pi_0 (nd_499_6pi_1 (nd_499_6pi_2 (nd_499_6pi_3 [])))), (cx_499pr_0 (cx_499pr_1 [])), [uL1881, uL1882, uL1883, uL1879, uL65, uL1884, uL1860], [uV2, uV12, uV64], [], (nd_499_3pf_0 (nd_499_3pf_1 (nd_499_3pf_2 (nd_499_3pf_3 [])))), (nd_499_3pg_0 []))
def nd_499_6 : zN := (210, nd_499_6p, uL1885)
def nd_499_7pi_0 (t : List (Int × Int)) : List (Int × Int) := ui0 :: ui406 :: (0, 0) :: (0, 0) :: ui52 :: ui1694 :: ui1675 :: (0, 1) :: t
def nd_499_7pi_1 (t : List (Int × Int)) : List (Int × Int) := ui1676 :: ui1676 :: (0, 2) :: ui1674 :: ui1674 :: ui52 :: ui304 :: (0, 6) :: t
def nd_499_7pi_2 (t : List (Int × Int)) : List (Int × Int) := (0, 1) :: ui48 :: (0, 5) :: ui52 :: ui68 :: ui1676 :: (0, 1) :: ui31 :: t
def nd_499_7pi_3 (t : List (Int × Int)) : List (Int × Int) := ui1572 :: ui1867 :: ui425 :: (0, 6) :: (0, 3) :: ui1808 :: ui52 :: t
def nd_499_7pf_0 (t : List zFa) : List zFa := uF1868 :: uF1525 :: uF1511 :: uF1857 :: uF1831 :: uF1869 :: uF1870 :: uF1718 :: t
def nd_499_7pf_1 (t : List zFa) : List zFa := uF1707 :: uF1124 :: uF1125 :: uF1445 :: uF1446 :: uF1829 :: uF1830 :: uF1580 :: t
def nd_499_7pf_2 (t : List zFa) : List zFa := uF1831 :: uF1832 :: uF1833 :: uF1834 :: uF1835 :: uF1836 :: uF1837 :: uF1838 :: t
def nd_499_7pf_3 (t : List zFa) : List zFa := uF1839 :: uF1840 :: uF1841 :: uF1842 :: (3, (true, 0, 0, [(24, 1)]), 0, 0, 0, [(30, 1)]) :: (2, (true, 0, 0, [(24, 1)]), 0, 0, 0, [(29, 1)]) :: t
def nd_499_7pg_0 (t : List zTg) : List zTg := (59, [uL207, uL1267, uL1767, uL1886]) :: uG1729 :: uG1845 :: uG1872 :: uG1873 :: uG1874 :: uG1875 :: uG1876 :: t
def nd_499_7p : zS := ((nd_499_7pi_0 (nd_499_7pi_1 (nd_499_7pi_2 (nd_499_7pi_3 [])))), (cx_499pr_0 (cx_499pr_1 [])), [uL1887, uL1877, uL1878, uL1879, uL1855, uL1880, uL1871], [uV2, uV12, uV64], [], (nd_499_7pf_0 (nd_499_7pf_1 (nd_499_7pf_2 (nd_499_7pf_3 [])))), (nd_499_7pg_0 []))
def nd_499_7 : zN := (210, nd_499_7p, ((-96000000000000), [(1, 35520), (2, (-96000000000000)), (3, (-96000000000000)), (24, (-35520)), (27, 480), (29, 6400000945024)]))
def nd_499_8pi_0 (t : List (Int × Int)) : List (Int × Int) := ui0 :: ui406 :: (0, 0) :: (0, 0) :: ui52 :: ui1694 :: ui1675 :: (0, 1) :: t
def nd_499_8pi_1 (t : List (Int × Int)) : List (Int × Int) := ui1676 :: ui1676 :: (0, 2) :: ui1674 :: ui1674 :: ui52 :: ui304 :: (0, 6) :: t
def nd_499_8pi_2 (t : List (Int × Int)) : List (Int × Int) := (0, 1) :: ui48 :: (0, 5) :: ui52 :: ui68 :: ui1676 :: (0, 1) :: ui31 :: t
def nd_499_8pi_3 (t : List (Int × Int)) : List (Int × Int) := ui1572 :: ui1867 :: ui425 :: (0, 6) :: (0, 3) :: ui1807 :: ui52 :: t
def nd_499_8p : zS := ((nd_499_8pi_0 (nd_499_8pi_1 (nd_499_8pi_2 (nd_499_8pi_3 [])))), (cx_499pr_0 (cx_499pr_1 [])), [uL1887, uL1877, uL1878, uL1879, uL1855, uL1880, uL1871], [uV2, uV12, uV64], [], (nd_499_7pf_0 (nd_499_7pf_1 (nd_499_7pf_2 (nd_499_7pf_3 [])))), (nd_499_7pg_0 []))
def nd_499_8 : zN := (210, nd_499_8p, ((-96000000000000), [(1, 35520), (2, (-96000000000000)), (3, (-96000000000000)), (24, (-35505)), (29, 9600001417440)]))
def nd_499_9pi_0 (t : List (Int × Int)) : List (Int × Int) := ui0 :: ui406 :: (0, 0) :: (0, 0) :: ui52 :: ui1694 :: ui1675 :: (0, 1) :: t
def nd_499_9pi_1 (t : List (Int × Int)) : List (Int × Int) := ui1676 :: ui1676 :: (0, 2) :: ui1674 :: ui1674 :: ui52 :: ui304 :: (0, 6) :: t
def nd_499_9pi_2 (t : List (Int × Int)) : List (Int × Int) := (0, 1) :: ui48 :: (0, 5) :: ui52 :: ui68 :: ui1676 :: (0, 1) :: ui31 :: t
def nd_499_9pi_3 (t : List (Int × Int)) : List (Int × Int) := ui1572 :: ui1867 :: ui425 :: (0, 6) :: (0, 3) :: (9, 9) :: ui52 :: t
def nd_499_9p : zS := ((nd_499_9pi_0 (nd_499_9pi_1 (nd_499_9pi_2 (nd_499_9pi_3 [])))), (cx_499pr_0 (cx_499pr_1 [])), [uL1887, uL1877, uL1878, uL1879, uL1855, uL1880, uL1871], [uV2, uV12, uV64], [], (nd_499_7pf_0 (nd_499_7pf_1 (nd_499_7pf_2 (nd_499_7pf_3 [])))), (nd_499_7pg_0 []))
def nd_499_9 : zN := (210, nd_499_9p, ((-96000000000000), [(1, 35520), (2, (-96000000000000)), (3, (-96000000000000)), (24, (-35505)), (29, 10666668241920)]))
def nd_499_10pi_0 (t : List (Int × Int)) : List (Int × Int) := ui0 :: ui406 :: (0, 0) :: (0, 0) :: ui52 :: ui1694 :: ui1675 :: (0, 1) :: t
def nd_499_10pi_1 (t : List (Int × Int)) : List (Int × Int) := ui1676 :: ui1676 :: (0, 2) :: ui1674 :: ui1674 :: ui52 :: ui304 :: (0, 6) :: t
def nd_499_10pi_2 (t : List (Int × Int)) : List (Int × Int) := (0, 1) :: ui48 :: (0, 5) :: ui52 :: ui68 :: ui1676 :: (0, 1) :: ui31 :: t
def nd_499_10pi_3 (t : List (Int × Int)) : List (Int × Int) := ui1572 :: ui1867 :: ui425 :: (0, 6) :: (0, 3) :: (8, 8) :: ui52 :: t
def nd_499_10p : zS := ((nd_499_10pi_0 (nd_499_10pi_1 (nd_499_10pi_2 (nd_499_10pi_3 [])))), (cx_499pr_0 (cx_499pr_1 [])), [uL1887, uL1877, uL1878, uL1879, uL1855, uL1880, uL1871], [uV2, uV12, uV64], [], (nd_499_7pf_0 (nd_499_7pf_1 (nd_499_7pf_2 (nd_499_7pf_3 [])))), (nd_499_7pg_0 []))
def nd_499_10 : zN := (210, nd_499_10p, ((-96000000000000), [(1, 35520), (2, (-96000000000000)), (3, (-96000000000000)), (24, (-35496)), (29, 12000001772145)]))
def ns_499 : List zN := [nd_499_0, nd_499_1, nd_499_2, nd_499_3, nd_499_4, nd_499_5, nd_499_6, nd_499_7, nd_499_8, nd_499_9, nd_499_10]
set_option maxRecDepth 1000000 in
theorem ca_499 : x_okA mLT1 cq_499 mTS2 mTC2 mRUp cx_499 cs_499 hs_499 ns_499 (14188800, []) 424 64 = true := by decide +kernel
set_option maxRecDepth 1000000 in
theorem cb_499_0 : x_okB mLT1 cq_499 mTS2 mTC2 mRUp cx_499 cs_499 hs_499 ns_499 (14188800, []) 424 64 nd_499_0 = true := by decide +kernel
set_option maxRecDepth 1000000 in
theorem cb_499_1 : x_okB mLT1 cq_499 mTS2 mTC2 mRUp cx_499 cs_499 hs_499 ns_499 (14188800, []) 424 64 nd_499_1 = true := by decide +kernel
set_option maxRecDepth 1000000 in
theorem cb_499_2 : x_okB mLT1 cq_499 mTS2 mTC2 mRUp cx_499 cs_499 hs_499 ns_499 (14188800, []) 424 64 nd_499_2 = true := by decide +kernel
set_option maxRecDepth 1000000 in
theorem cb_499_3 : x_okB mLT1 cq_499 mTS2 mTC2 mRUp cx_499 cs_499 hs_499 ns_499 (14188800, []) 424 64 nd_499_3 = true := by decide +kernel
set_option maxRecDepth 1000000 in
theorem cb_499_4 : x_okB mLT1 cq_499 mTS2 mTC2 mRUp cx_499 cs_499 hs_499 ns_499 (14188800, []) 424 64 nd_499_4 = true := by decide +kernel
set_option maxRecDepth 1000000 in
theorem cb_499_5 : x_okB mLT1 cq_499 mTS2 mTC2 mRUp cx_499 cs_499 hs_499 ns_499 (14188800, []) 424 64 nd_499_5 = true := by decide +kernel
set_option maxRecDepth 1000000 in
theorem cb_499_6 : x_okB mLT1 cq_499 mTS2 mTC2 mRUp cx_499 cs_499 hs_499 ns_499 (14188800, []) 424 64 nd_499_6 = true := by decide +kernel
set_option maxRecDepth 1000000 in
theorem cb_499_7 : x_okB mLT1 cq_499 mTS2 mTC2 mRUp cx_499 cs_499 hs_499 ns_499 (14188800, []) 424 64 nd_499_7 = true := by decide +kernel
set_option maxRecDepth 1000000 in
theorem cb_499_8 : x_okB mLT1 cq_499 mTS2 mTC2 mRUp cx_499 cs_499 hs_499 ns_499 (14188800, []) 424 64 nd_499_8 = true := by decide +kernel
set_option maxRecDepth 1000000 in
theorem cb_499_9 : x_okB mLT1 cq_499 mTS2 mTC2 mRUp cx_499 cs_499 hs_499 ns_499 (14188800, []) 424 64 nd_499_9 = true := by decide +kernel
set_option maxRecDepth 1000000 in
theorem cb_499_10 : x_okB mLT1 cq_499 mTS2 mTC2 mRUp cx_499 cs_499 hs_499 ns_499 (14188800, []) 424 64 nd_499_10 = true := by decide +kernel
set_option maxRecDepth 1000000 in
theorem cc_499 : x_okC mLT1 cq_499 mTS2 mTC2 mRUp cx_499 cs_499 hs_499 ns_499 (14188800, []) 424 64 = true := by decide +kernel
theorem ck_499 : x_ok mLT1 cq_499 mTS2 mTC2 mRUp cx_499 cs_499 hs_499 ns_499 (14188800, []) 424 64 = true := x_ok_of ca_499 (List.forall_mem_cons.mpr ⟨cb_499_0, List.forall_mem_cons.mpr ⟨cb_499_1, List.forall_mem_cons.mpr ⟨cb_499_2, List.forall_mem_cons.mpr ⟨cb_499_3, List.forall_mem_cons.mpr ⟨cb_499_4, List.forall_mem_cons.mpr ⟨cb_499_5, List.forall_mem_cons.mpr ⟨cb_499_6, List.forall_mem_cons.mpr ⟨cb_499_7, List.forall_mem_cons.mpr ⟨cb_499_8, List.forall_mem_cons.mpr ⟨cb_499_9, List.forall_mem_cons.mpr ⟨cb_499_10, fun _ h => absurd h List.not_mem_nil⟩⟩⟩⟩⟩⟩⟩⟩⟩⟩⟩) cc_499
theorem sn_499 {W : Bool} {X : List Int32} : y_Snd (mGw W) mLT1 (J2 W X) X cx_499 := y_ok J2_J mTS2_ok1 mTC2_ok1 mRUp_ok1 (List.forall_mem_cons.mpr ⟨sn_474, List.forall_mem_cons.mpr ⟨sn_425, List.forall_mem_cons.mpr ⟨sn_426, List.forall_mem_cons.mpr ⟨sn_476, List.forall_mem_cons.mpr ⟨sn_477, List.forall_mem_cons.mpr ⟨sn_480, List.forall_mem_cons.mpr ⟨sn_481, List.forall_mem_cons.mpr ⟨sn_486, List.forall_mem_cons.mpr ⟨sn_487, List.forall_mem_cons.mpr ⟨sn_488, List.forall_mem_cons.mpr ⟨sn_489, List.forall_mem_cons.mpr ⟨sn_490, List.forall_mem_cons.mpr ⟨sn_429, List.forall_mem_cons.mpr ⟨sn_434, List.forall_mem_cons.mpr ⟨sn_495, List.forall_mem_cons.mpr ⟨sn_496, List.forall_mem_cons.mpr ⟨sn_497, List.forall_mem_cons.mpr ⟨sn_498, fun _ h => absurd h List.not_mem_nil⟩⟩⟩⟩⟩⟩⟩⟩⟩⟩⟩⟩⟩⟩⟩⟩⟩⟩) ck_499
end
