noncomputable section
/-! ===== readings, by program, checked by the kernel ===== -/
def cx_493pi_0 (t : List (Int × Int)) : List (Int × Int) := ui0 :: ui1840 :: ui424 :: ui1734 :: (0, 1) :: ui1736 :: ui1736 :: (0, 2) :: t
def cx_493pi_1 (t : List (Int × Int)) : List (Int × Int) := ui1734 :: ui1734 :: (0, 8) :: (0, 3) :: ui1734 :: ui52 :: ui68 :: ui1736 :: t
def cx_493pi_2 (t : List (Int × Int)) : List (Int × Int) := (0, 1) :: ui31 :: t
def cx_493p : zS := ((cx_493pi_0 (cx_493pi_1 (cx_493pi_2 []))), (cx_470pr_0 (cx_470pr_1 [])), [uL587, uL1847, uL1376, uL1848], [], [uV2, uV62], (cx_483pf_0 (cx_483pf_1 [])), (cx_483pg_0 []))
def cx_493q1i_0 (t : List (Int × Int)) : List (Int × Int) := ui0 :: ui1840 :: (0, 0) :: ui1734 :: (0, 1) :: ui1736 :: ui1736 :: (0, 2) :: t
def cx_493q1i_1 (t : List (Int × Int)) : List (Int × Int) := ui1734 :: ui1734 :: (0, 8) :: (0, 3) :: ui1734 :: ui52 :: ui68 :: ui1736 :: t
def cx_493q1i_2 (t : List (Int × Int)) : List (Int × Int) := (0, 1) :: ui31 :: t
def cx_493q1 : zS := ((cx_493q1i_0 (cx_493q1i_1 (cx_493q1i_2 []))), (cx_470pr_0 (cx_470pr_1 [])), [uL1376, uL63, uL587], [], [], [uF1843, uF1842], (cx_483q0g_0 []))
def cx_493q2i_0 (t : List (Int × Int)) : List (Int × Int) := ui0 :: ui1840 :: ui1841 :: ui1734 :: (0, 1) :: ui1736 :: ui1736 :: (0, 2) :: t
def cx_493q2i_1 (t : List (Int × Int)) : List (Int × Int) := ui1734 :: ui1734 :: (1, 8) :: (1, 3) :: ui1734 :: ui52 :: ui68 :: ui1736 :: t
def cx_493q2i_2 (t : List (Int × Int)) : List (Int × Int) := (0, 1) :: ui31 :: ui1851 :: t
def cx_493q2 : zS := ((cx_493q2i_0 (cx_493q2i_1 (cx_493q2i_2 []))), (cx_470pr_0 (cx_470pr_1 [])), [uL1854, uL1855, uL1856], [], [], [uF1857, uF1858], (cx_483q1g_0 []))
def cx_493q3i_0 (t : List (Int × Int)) : List (Int × Int) := ui0 :: ui1840 :: ui1841 :: ui1734 :: (0, 1) :: ui1736 :: ui1736 :: (0, 2) :: t
def cx_493q3i_1 (t : List (Int × Int)) : List (Int × Int) := ui1734 :: ui1734 :: (0, 8) :: (1, 3) :: ui1734 :: ui52 :: ui68 :: ui1736 :: t
def cx_493q3i_2 (t : List (Int × Int)) : List (Int × Int) := (0, 1) :: ui31 :: (0, 0) :: t
def cx_493q3 : zS := ((cx_493q3i_0 (cx_493q3i_1 (cx_493q3i_2 []))), (cx_470pr_0 (cx_470pr_1 [])), [uL1854, uL1855, uL1856], [], [], [uF1857, uF1858], (cx_483q1g_0 []))
/-- M.comesOut -/
def cx_493 : zCtx := (218, cx_493p, [cx_483q0, cx_493q1, cx_493q2, cx_493q3], [uk1815, uk1791, uk1816, uk1817], 107, 1, 22)
def cz_493_0i_0 (t : List (Int × Int)) : List (Int × Int) := ui0 :: ui1840 :: ui1841 :: ui1734 :: (0, 1) :: ui1736 :: ui1736 :: (0, 2) :: t
def cz_493_0i_1 (t : List (Int × Int)) : List (Int × Int) := ui1734 :: ui1734 :: (0, 8) :: (1, 3) :: ui1734 :: ui52 :: ui68 :: ui1736 :: t
def cz_493_0i_2 (t : List (Int × Int)) : List (Int × Int) := (0, 1) :: ui31 :: ui1859 :: ui96 :: (0, 3) :: t
def cz_493_0 : zS := ((cz_493_0i_0 (cz_493_0i_1 (cz_493_0i_2 []))), (cx_470pr_0 (cx_470pr_1 [])), [uL1863, uL1864, uL1865, uL587, uL1847, uL1376, uL1848, uL1866], [uV2, uV62, uV1230], [], (cz_483_0f_0 (cz_483_0f_1 [])), (cz_483_0g_0 []))
set_option maxRecDepth 1000000 in
theorem ck_493 : x_ok mLT1 [cx_479, cx_480, cx_481, cx_482] mTS2 mTC2 mRUp cx_493 [(85, [0, 1, 2, 3])] [(0, uN1867), (4, [3]), (17, [2]), (41, uN1868), (88, uN1869), (91, uN1889)] [(0, cz_493_0, (15, [(20, 35)]))] (88, []) 19 40 = true := by decide +kernel
theorem sn_493 {W : Bool} {X : List Int32} : y_Snd (mGw W) mLT1 (J2 W X) X cx_493 := y_ok J2_J mTS2_ok1 mTC2_ok1 mRUp_ok1 (List.forall_mem_cons.mpr ⟨sn_479, List.forall_mem_cons.mpr ⟨sn_480, List.forall_mem_cons.mpr ⟨sn_481, List.forall_mem_cons.mpr ⟨sn_482, fun _ h => absurd h List.not_mem_nil⟩⟩⟩⟩) ck_493
def cx_494pi_0 (t : List (Int × Int)) : List (Int × Int) := ui0 :: ui1890 :: ui1851 :: ui1734 :: (0, 1) :: ui1736 :: ui1736 :: (0, 2) :: t
def cx_494pi_1 (t : List (Int × Int)) : List (Int × Int) := ui1734 :: ui1734 :: (1, 8) :: (0, 3) :: ui1734 :: (0, 1) :: ui31 :: t
def cx_494p : zS := ((cx_494pi_0 (cx_494pi_1 [])), (cx_470pr_0 (cx_470pr_1 [])), [uL587, uL1847, uL1376, uL1848], [], [uV2, uV62], (cx_483pf_0 (cx_483pf_1 [])), [uG1808, uG1844, uG1845, uG1874])
def cx_494q0i_0 (t : List (Int × Int)) : List (Int × Int) := ui0 :: ui1890 :: ui1851 :: ui1734 :: (0, 1) :: ui1736 :: ui1736 :: (0, 2) :: t
def cx_494q0i_1 (t : List (Int × Int)) : List (Int × Int) := ui1734 :: ui1734 :: (1, 8) :: (0, 0) :: ui1734 :: (0, 1) :: ui31 :: t
def cx_494q0 : zS := ((cx_494q0i_0 (cx_494q0i_1 [])), (cx_470pr_0 (cx_470pr_1 [])), [uL1376, uL63, uL587], [], [], [uF1843, uF1842], [uG1808, uG1874, uG1849, uG1845])
def cx_494q1i_0 (t : List (Int × Int)) : List (Int × Int) := ui0 :: ui1890 :: ui1891 :: ui1734 :: (0, 1) :: ui1736 :: ui1736 :: (0, 2) :: t
def cx_494q1i_1 (t : List (Int × Int)) : List (Int × Int) := ui1734 :: ui1734 :: (1, 8) :: (1, 3) :: ui1734 :: (0, 1) :: ui31 :: ui1394 :: t
def cx_494q1 : zS := ((cx_494q1i_0 (cx_494q1i_1 [])), (cx_470pr_0 (cx_470pr_1 [])), [uL1875, uL1876, uL1877], [], [], [uF1878, uF1879], [uG1808, uG1874, uG1880, uG1881])
/-- M.comesOut -/
def cx_494 : zCtx := (218, cx_494p, [cx_494q0, cx_494q1], [uk1815, uk1791, uk1816, uk1817], 107, 1, 22)
def cz_494_0i_0 (t : List (Int × Int)) : List (Int × Int) := ui0 :: ui1890 :: ui1891 :: ui1734 :: (0, 1) :: ui1736 :: ui1736 :: (0, 2) :: t
def cz_494_0i_1 (t : List (Int × Int)) : List (Int × Int) := ui1734 :: ui1734 :: (1, 8) :: (1, 3) :: ui1734 :: (0, 1) :: ui31 :: ui1859 :: t
def cz_494_0i_2 (t : List (Int × Int)) : List (Int × Int) := ui1394 :: (0, 3) :: t
def cz_494_0 : zS := ((cz_494_0i_0 (cz_494_0i_1 (cz_494_0i_2 []))), (cx_470pr_0 (cx_470pr_1 [])), [uL1883, uL1884, uL1885, uL587, uL1847, uL1376, uL1848, uL1886], [uV2, uV62, uV601], [], (cz_492_0f_0 (cz_492_0f_1 [])), [uG1808, uG1874, uG1887, uG1888])
set_option maxRecDepth 1000000 in
theorem ck_494 : x_ok mLT1 [cx_488, cx_489, cx_490, cx_491] mTS2 mTC2 mRUp cx_494 [(85, [0, 1, 2, 3])] [(0, uN1867), (4, [3]), (17, [2]), (41, uN1868), (88, uN1869)] [(0, cz_494_0, (15, [(17, 35)]))] (88, []) 19 40 = true := by decide +kernel
theorem sn_494 {W : Bool} {X : List Int32} : y_Snd (mGw W) mLT1 (J2 W X) X cx_494 := y_ok J2_J mTS2_ok1 mTC2_ok1 mRUp_ok1 (List.forall_mem_cons.mpr ⟨sn_488, List.forall_mem_cons.mpr ⟨sn_489, List.forall_mem_cons.mpr ⟨sn_490, List.forall_mem_cons.mpr ⟨sn_491, fun _ h => absurd h List.not_mem_nil⟩⟩⟩⟩) ck_494
def cx_495p : zS := ((cx_493pi_0 (cx_493pi_1 (cx_493pi_2 []))), (cx_470pr_0 (cx_470pr_1 [])), [uL587, uL1847, uL1376, uL1848], [], [uV2, uV64], (cx_483pf_0 (cx_483pf_1 [])), (cx_483pg_0 []))
def cx_495q0i_0 (t : List (Int × Int)) : List (Int × Int) := ui0 :: ui1840 :: ui1841 :: ui1734 :: (0, 1) :: ui1736 :: ui1736 :: (0, 2) :: t
def cx_495q0i_1 (t : List (Int × Int)) : List (Int × Int) := ui1734 :: ui1734 :: (0, 8) :: (1, 1) :: ui1734 :: ui52 :: ui68 :: ui1736 :: t
def cx_495q0i_2 (t : List (Int × Int)) : List (Int × Int) := (0, 1) :: ui31 :: (0, 1) :: t
def cx_495q0g_0 (t : List zTg) : List zTg := uG1808 :: uG1846 :: (1, [uL67, uL169, uL275]) :: uG1845 :: (216, [uL205, uL206, uL98, uL9, uL67, uL207, uL209]) :: t
def cx_495q0 : zS := ((cx_495q0i_0 (cx_495q0i_1 (cx_495q0i_2 []))), (cx_470pr_0 (cx_470pr_1 [])), [uL1376, uL63, uL587], [], [], [uF1843, uF1842], (cx_495q0g_0 []))
def cx_495q1i_0 (t : List (Int × Int)) : List (Int × Int) := ui0 :: ui1840 :: ui1841 :: ui1734 :: (0, 1) :: ui1736 :: ui1736 :: (0, 2) :: t
def cx_495q1i_1 (t : List (Int × Int)) : List (Int × Int) := ui1734 :: ui1734 :: (1, 8) :: (0, 0) :: ui1734 :: ui52 :: ui68 :: ui1736 :: t
def cx_495q1i_2 (t : List (Int × Int)) : List (Int × Int) := (0, 1) :: ui31 :: (0, 1) :: t
def cx_495q1 : zS := ((cx_495q1i_0 (cx_495q1i_1 (cx_495q1i_2 []))), (cx_470pr_0 (cx_470pr_1 [])), [uL1376, uL63, uL587], [], [], [uF1843, uF1842], (cx_495q0g_0 []))
def cx_495q2i_0 (t : List (Int × Int)) : List (Int × Int) := ui0 :: ui1840 :: (0, 0) :: ui1734 :: (0, 1) :: ui1736 :: ui1736 :: (0, 2) :: t
def cx_495q2i_1 (t : List (Int × Int)) : List (Int × Int) := ui1734 :: ui1734 :: (0, 8) :: (0, 3) :: ui1734 :: ui52 :: ui68 :: ui1736 :: t
def cx_495q2i_2 (t : List (Int × Int)) : List (Int × Int) := (0, 1) :: ui31 :: (0, 1) :: t
def cx_495q2 : zS := ((cx_495q2i_0 (cx_495q2i_1 (cx_495q2i_2 []))), (cx_470pr_0 (cx_470pr_1 [])), [uL1376, uL63, uL587], [], [], [uF1843, uF1842], (cx_495q0g_0 []))
def cx_495q3i_0 (t : List (Int × Int)) : List (Int × Int) := ui0 :: ui1840 :: ui1841 :: ui1734 :: (0, 1) :: ui1736 :: ui1736 :: (0, 2) :: t
def cx_495q3i_1 (t : List (Int × Int)) : List (Int × Int) := ui1734 :: ui1734 :: (0, 8) :: (2, 3) :: ui1734 :: ui52 :: ui68 :: ui1736 :: t
def cx_495q3i_2 (t : List (Int × Int)) : List (Int × Int) := (0, 1) :: ui31 :: ui1851 :: (0, 1) :: t
def cx_495q3g_0 (t : List zTg) : List zTg := uG1808 :: uG1846 :: (1, [uL275, uL169, uL352]) :: uG1853 :: (216, [uL205, uL206, uL98, uL1852, uL275, uL207, uL209]) :: t
def cx_495q3 : zS := ((cx_495q3i_0 (cx_495q3i_1 (cx_495q3i_2 []))), (cx_470pr_0 (cx_470pr_1 [])), [uL1854, uL1855, uL1856], [], [], [uF1857, uF1858], (cx_495q3g_0 []))
def cx_495q4i_0 (t : List (Int × Int)) : List (Int × Int) := ui0 :: ui1840 :: ui1841 :: ui1734 :: (0, 1) :: ui1736 :: ui1736 :: (0, 2) :: t
def cx_495q4i_1 (t : List (Int × Int)) : List (Int × Int) := ui1734 :: ui1734 :: (0, 8) :: (2, 3) :: ui1734 :: ui52 :: ui68 :: ui1736 :: t
def cx_495q4i_2 (t : List (Int × Int)) : List (Int × Int) := (0, 1) :: ui31 :: (0, 0) :: (0, 1) :: t
def cx_495q4 : zS := ((cx_495q4i_0 (cx_495q4i_1 (cx_495q4i_2 []))), (cx_470pr_0 (cx_470pr_1 [])), [uL1854, uL1855, uL1856], [], [], [uF1857, uF1858], (cx_495q3g_0 []))
/-- M.comesOut -/
def cx_495 : zCtx := (218, cx_495p, [cx_495q0, cx_495q1, cx_495q2, cx_495q3, cx_495q4], [uk1815, uk1791, uk1816, uk1817], 424, 1, 22)
def cz_495_0i_0 (t : List (Int × Int)) : List (Int × Int) := ui0 :: ui1840 :: ui1841 :: ui1734 :: (0, 1) :: ui1736 :: ui1736 :: (0, 2) :: t
def cz_495_0i_1 (t : List (Int × Int)) : List (Int × Int) := ui1734 :: ui1734 :: (0, 8) :: (2, 3) :: ui1734 :: ui52 :: ui68 :: ui1736 :: t
def cz_495_0i_2 (t : List (Int × Int)) : List (Int × Int) := (0, 1) :: ui31 :: (10, 15) :: ui96 :: (0, 3) :: t
def cz_495_0g_0 (t : List zTg) : List zTg := uG1808 :: uG1846 :: uG1860 :: uG1862 :: (216, [uL205, uL206, uL98, uL1861, uL352, uL207, uL65]) :: t
def cz_495_0 : zS := ((cz_495_0i_0 (cz_495_0i_1 (cz_495_0i_2 []))), (cx_470pr_0 (cx_470pr_1 [])), [uL1863, uL1864, uL1865, uL587, uL1847, uL1376, uL1848, uL1866], [uV2, uV64, uV1230], [], (cz_483_0f_0 (cz_483_0f_1 [])), (cz_495_0g_0 []))
set_option maxRecDepth 1000000 in
theorem ck_495 : x_ok mLT1 [cx_481, cx_482] mTS2 mTC2 mRUp cx_495 [(85, [0, 1])] [(0, uN1867), (4, [3]), (17, [2]), (41, uN1868), (88, uN1869), (91, uN1889)] [(0, cz_495_0, (65, [(18, 1), (20, 110)]))] (405, []) 19 46 = true := by decide +kernel
theorem sn_495 {W : Bool} {X : List Int32} : y_Snd (mGw W) mLT1 (J2 W X) X cx_495 := y_ok J2_J mTS2_ok1 mTC2_ok1 mRUp_ok1 (List.forall_mem_cons.mpr ⟨sn_481, List.forall_mem_cons.mpr ⟨sn_482, fun _ h => absurd h List.not_mem_nil⟩⟩) ck_495
def cx_496pi_0 (t : List (Int × Int)) : List (Int × Int) := ui0 :: ui405 :: (0, 0) :: (0, 0) :: ui52 :: ui1754 :: ui1735 :: (0, 1) :: t
def cx_496pi_1 (t : List (Int × Int)) : List (Int × Int) := ui1736 :: ui1736 :: (0, 2) :: ui1734 :: ui1734 :: ui52 :: ui302 :: (0, 6) :: t
def cx_496pi_2 (t : List (Int × Int)) : List (Int × Int) := (0, 1) :: ui48 :: (0, 5) :: ui52 :: ui68 :: ui1736 :: (0, 1) :: ui31 :: t
def cx_496pr_0 (t : List (Nat × Bool)) : List (Nat × Bool) := ur1474 :: ur1775 :: ur1488 :: ur1489 :: ur1490 :: ur1491 :: ur1524 :: ur1530 :: t
def cx_496pr_1 (t : List (Nat × Bool)) : List (Nat × Bool) := ur1531 :: ur1521 :: ur1522 :: ur1532 :: ur1533 :: ur1534 :: ur1535 :: ur1536 :: t
def cx_496pf_0 (t : List zFa) : List zFa := uF1565 :: uF1737 :: uF1585 :: uF1571 :: uF1776 :: uF1777 :: uF1778 :: uF1767 :: t
def cx_496pf_1 (t : List zFa) : List zFa := uF1159 :: uF1160 :: uF1505 :: uF1506 :: uF1892 :: uF1893 :: uF1640 :: uF1894 :: t
def cx_496pf_2 (t : List zFa) : List zFa := uF1895 :: uF1896 :: uF1897 :: uF1898 :: uF1899 :: uF1900 :: uF1901 :: uF1902 :: t
def cx_496pf_3 (t : List zFa) : List zFa := uF1903 :: uF1904 :: uF1905 :: t
def cx_496pg_0 (t : List zTg) : List zTg := uG1789 :: uG1906 :: uG1907 :: (216, [uL205, uL9, uL79, uL104, uL63, uL1228, uL63]) :: uG1908 :: t
def cx_496p : zS := ((cx_496pi_0 (cx_496pi_1 (cx_496pi_2 []))), (cx_496pr_0 (cx_496pr_1 [])), [uL1788, uL1909], [], [uV2], (cx_496pf_0 (cx_496pf_1 (cx_496pf_2 (cx_496pf_3 [])))), (cx_496pg_0 []))
def cx_496q0i_0 (t : List (Int × Int)) : List (Int × Int) := ui0 :: ui405 :: (0, 0) :: (0, 0) :: ui52 :: ui1754 :: ui1735 :: (0, 1) :: t
def cx_496q0i_1 (t : List (Int × Int)) : List (Int × Int) := ui1736 :: ui1736 :: (0, 2) :: ui1734 :: ui1734 :: ui52 :: ui302 :: (0, 6) :: t
def cx_496q0i_2 (t : List (Int × Int)) : List (Int × Int) := (0, 1) :: ui48 :: (0, 5) :: ui52 :: ui68 :: ui1736 :: (0, 1) :: ui31 :: t
def cx_496q0i_3 (t : List (Int × Int)) : List (Int × Int) := ui52 :: (1, 2) :: ui405 :: ui1734 :: ui424 :: (0, 7) :: t
def cx_496q0 : zS := ((cx_496q0i_0 (cx_496q0i_1 (cx_496q0i_2 (cx_496q0i_3 [])))), (cx_496pr_0 (cx_496pr_1 [])), [uL1910], [], [], [uF1911, uF1912, uF1913, uF1914, uF1894, uF1915, (0, (false, 12, 0, []), 0, 0, 0, [(29, 1)]), uF1894], [uG1789, uG1908, uG1916])
def cx_496q1i_0 (t : List (Int × Int)) : List (Int × Int) := ui0 :: ui405 :: (0, 0) :: (0, 0) :: ui52 :: ui1754 :: ui1735 :: (0, 1) :: t
def cx_496q1i_1 (t : List (Int × Int)) : List (Int × Int) := ui1736 :: ui1736 :: (0, 2) :: ui1734 :: ui1734 :: ui52 :: ui302 :: (0, 6) :: t
def cx_496q1i_2 (t : List (Int × Int)) : List (Int × Int) := (0, 1) :: ui48 :: (0, 5) :: ui52 :: ui68 :: ui1736 :: (0, 1) :: ui31 :: t
def cx_496q1i_3 (t : List (Int × Int)) : List (Int × Int) := (0, 0) :: ui1873 :: ui1632 :: ui1735 :: t
def cx_496q1g_0 (t : List zTg) : List zTg := uG1789 :: uG1908 :: (0, [uL104, uL65, uL1823]) :: uG1917 :: (40, [uL205, uL1825, uL206, uL65, uL67, uL207, uL211, uL275, uL352, uL407]) :: (71, [uL205, uL1825]) :: (216, [uL205, uL1825, uL79, uL1823, uL1826, uL1228, uL36]) :: t
def cx_496q1 : zS := ((cx_496q1i_0 (cx_496q1i_1 (cx_496q1i_2 (cx_496q1i_3 [])))), (cx_496pr_0 (cx_496pr_1 [])), [((-2), [(7, 420), (25, (-1)), (26, 1)]), (0, [(1, (-1)), (5, 1), (25, (-1)), (26, 1)]), ((-1), [(1, (-1)), (26, 1)]), uL1918, uL1910], [], [], [uF1919, uF1920, uF1913, uF1585, uF1571, uF1894, uF1894, uF1737], (cx_496q1g_0 []))
/-- M.expression -/
def cx_496 : zCtx := (215, cx_496p, [cx_496q0, cx_496q1], kc_75, 14189224, 3, 61)
def cq_496 : List zCtx := [cx_471, cx_422, cx_423, cx_473, cx_474, cx_477, cx_478, cx_483, cx_484, cx_485, cx_486, cx_487, cx_426, cx_431, cx_492, cx_493, cx_494, cx_495]
def cs_496 : List (Nat × List Nat) := [(26, [0]), (43, [1]), (57, [2, 3]), (85, [4, 5]), (99, [6]), (115, [7]), (139, [2]), (148, [8]), (157, [9]), (166, [10]), (175, [11]), (201, [12, 13]), (206, [7, 14, 15, 16]), (214, [10]), (223, [11]), (234, [15, 17]), (266, [2])]
def hs_496 : List (Nat × List Nat) := [(5, [5, 6]), (24, [1000246]), (42, [1000350]), (56, [1000351]), (60, [3, 1000352, 1000353]), (71, [4]), (81, [1000589]), (84, [1000338, 1000339]), (85, [3]), (97, [1000246]), (115, [1000609]), (118, [2]), (138, [1000354]), (142, [1000355, 1000356, 1000590]), (187, [1000372, 1000373, 1000374]), (200, [1000357, 1000358, 1000359]), (206, [1000609]), (234, [1000609]), (237, [3]), (255, [4]), (265, [1000360, 1000361, 1000362, 1000363]), (269, [1000364, 1000365, 1000366, 1000367, 1000368, 1000369, 1000370, 1000371, 1000591, 1000592, 1000593, 1000594])]
def nd_496_0pi_0 (t : List (Int × Int)) : List (Int × Int) := ui0 :: ui405 :: (0, 0) :: (0, 0) :: ui52 :: ui1754 :: ui1735 :: (0, 1) :: t
def nd_496_0pi_1 (t : List (Int × Int)) : List (Int × Int) := ui1736 :: ui1736 :: (0, 2) :: ui1734 :: ui1734 :: ui52 :: ui302 :: (0, 6) :: t
def nd_496_0pi_2 (t : List (Int × Int)) : List (Int × Int) := (0, 1) :: ui48 :: (0, 5) :: ui52 :: ui68 :: ui1736 :: (0, 1) :: ui31 :: t
def nd_496_0pi_3 (t : List (Int × Int)) : List (Int × Int) := ui96 :: ui405 :: (0, 6) :: (0, 822) :: (0, 3) :: t
def nd_496_0pf_0 (t : List zFa) : List zFa := uF1919 :: uF1921 :: uF1922 :: uF1585 :: uF1571 :: uF1914 :: uF1778 :: uF1767 :: t
def nd_496_0pf_1 (t : List zFa) : List zFa := uF1159 :: uF1160 :: uF1505 :: uF1506 :: uF1892 :: uF1893 :: uF1640 :: uF1894 :: t
def nd_496_0pf_2 (t : List zFa) : List zFa := uF1895 :: uF1896 :: uF1897 :: uF1898 :: uF1899 :: uF1900 :: uF1901 :: uF1902 :: t
def nd_496_0pf_3 (t : List zFa) : List zFa := uF1903 :: uF1904 :: uF1905 :: t
def nd_496_0pg_0 (t : List zTg) : List zTg := uG1789 :: uG1908 :: (1, [uL1822, uL1923, uL1832]) :: (0, [uL104, uL1924, uL1826]) :: uG1925 :: (40, [uL205, uL1823, uL206, uL63, uL1825, uL207, uL211, uL275, uL352, uL407]) :: (216, [uL205, uL1823, uL79, uL1826, uL1822, uL1228, uL63]) :: t
def nd_496_0p : zS := ((nd_496_0pi_0 (nd_496_0pi_1 (nd_496_0pi_2 (nd_496_0pi_3 [])))), (cx_496pr_0 (cx_496pr_1 [])), [uL1926, uL1927, uL1928, uL1929, uL1924, uL1923], [uV2, uV12, uV64], [], (nd_496_0pf_0 (nd_496_0pf_1 (nd_496_0pf_2 (nd_496_0pf_3 [])))), (nd_496_0pg_0 []))
def nd_496_0 : zN := (12, nd_496_0p, (14180160, [(1, 35520), (2, (-96000000000000)), (3, (-96000000000000)), (25, (-35520)), (26, 480)]))
def nd_496_1pi_0 (t : List (Int × Int)) : List (Int × Int) := ui0 :: ui405 :: (0, 0) :: (0, 0) :: ui52 :: ui1754 :: ui1735 :: (0, 1) :: t
def nd_496_1pi_1 (t : List (Int × Int)) : List (Int × Int) := ui1736 :: ui1736 :: (0, 2) :: ui1734 :: ui1734 :: ui52 :: ui302 :: (0, 6) :: t
def nd_496_1pi_2 (t : List (Int × Int)) : List (Int × Int) := (0, 1) :: ui48 :: (0, 5) :: ui52 :: ui68 :: ui1736 :: (0, 1) :: ui31 :: t
def nd_496_1pi_3 (t : List (Int × Int)) : List (Int × Int) := ui424 :: ui405 :: (0, 6) :: ui1734 :: (0, 3) :: t
def nd_496_1p : zS := ((nd_496_1pi_0 (nd_496_1pi_1 (nd_496_1pi_2 (nd_496_1pi_3 [])))), (cx_496pr_0 (cx_496pr_1 [])), [uL1926, uL1927, uL1928, uL1929, uL1924, uL1923], [uV2, uV12, uV64], [], (nd_496_0pf_0 (nd_496_0pf_1 (nd_496_0pf_2 (nd_496_0pf_3 [])))), (nd_496_0pg_0 []))
def nd_496_1 : zN := (23, nd_496_1p, (14174400, [(1, 35520), (2, (-96000000000000)), (3, (-96000000000000)), (25, (-35520)), (26, 480)]))
def nd_496_2pi_0 (t : List (Int × Int)) : List (Int × Int) := ui0 :: ui405 :: (0, 0) :: (0, 0) :: ui52 :: ui1754 :: ui1735 :: (0, 1) :: t
def nd_496_2pi_1 (t : List (Int × Int)) : List (Int × Int) := ui1736 :: ui1736 :: (0, 2) :: ui1734 :: ui1734 :: ui52 :: ui302 :: (0, 6) :: t
def nd_496_2pi_2 (t : List (Int × Int)) : List (Int × Int) := (0, 1) :: ui48 :: (0, 5) :: ui52 :: ui68 :: ui1736 :: (0, 1) :: ui31 :: t
def nd_496_2pi_3 (t : List (Int × Int)) : List (Int × Int) := ui1632 :: ui1930 :: ui424 :: (0, 6) :: (0, 3) :: t
def nd_496_2pf_0 (t : List zFa) : List zFa := uF1931 :: uF1585 :: uF1571 :: uF1920 :: uF1894 :: uF1932 :: uF1933 :: uF1778 :: t
def nd_496_2pf_1 (t : List zFa) : List zFa := uF1767 :: uF1159 :: uF1160 :: uF1505 :: uF1506 :: uF1892 :: uF1893 :: uF1640 :: t
def nd_496_2pf_2 (t : List zFa) : List zFa := uF1894 :: uF1895 :: uF1896 :: uF1897 :: uF1898 :: uF1899 :: uF1900 :: uF1901 :: t
def nd_496_2pf_3 (t : List zFa) : List zFa := uF1902 :: uF1903 :: uF1904 :: uF1905 :: t
def nd_496_2pg_0 (t : List zTg) : List zTg := uG1789 :: uG1908 :: uG1935 :: uG1936 :: uG1937 :: uG1938 :: uG1939 :: t
def nd_496_2p : zS := ((nd_496_2pi_0 (nd_496_2pi_1 (nd_496_2pi_2 (nd_496_2pi_3 [])))), (cx_496pr_0 (cx_496pr_1 [])), [uL1940, uL1941, uL1942, uL1918, uL1943, uL1934], [uV2, uV12, uV64], [], (nd_496_2pf_0 (nd_496_2pf_1 (nd_496_2pf_2 (nd_496_2pf_3 [])))), (nd_496_2pg_0 []))
def nd_496_2 : zN := (96, nd_496_2p, (14200320, [(1, 35520), (2, (-96000000000000)), (3, (-96000000000000)), (24, (-35520)), (27, 480)]))
def nd_496_3pi_0 (t : List (Int × Int)) : List (Int × Int) := ui0 :: ui405 :: (0, 0) :: (0, 0) :: ui52 :: ui1754 :: ui1735 :: (0, 1) :: t
def nd_496_3pi_1 (t : List (Int × Int)) : List (Int × Int) := ui1736 :: ui1736 :: (0, 2) :: ui1734 :: ui1734 :: ui52 :: ui302 :: (0, 6) :: t
def nd_496_3pi_2 (t : List (Int × Int)) : List (Int × Int) := (0, 1) :: ui48 :: (0, 5) :: ui52 :: ui68 :: ui1736 :: (0, 1) :: ui31 :: t
def nd_496_3pi_3 (t : List (Int × Int)) : List (Int × Int) := ui1632 :: ui424 :: (0, 6) :: (0, 3) :: ui1871 :: ui52 :: t
def nd_496_3pf_0 (t : List zFa) : List zFa := uF1931 :: uF1585 :: uF1571 :: (0, (false, 39, 0, []), 0, 0, 1, [(5, 1)]) :: uF1894 :: (0, (false, 43, 0, []), 0, 0, 0, [(25, 1)]) :: uF1922 :: uF1778 :: t
def nd_496_3pf_1 (t : List zFa) : List zFa := uF1767 :: uF1159 :: uF1160 :: uF1505 :: uF1506 :: uF1892 :: uF1893 :: uF1640 :: t
def nd_496_3pf_2 (t : List zFa) : List zFa := uF1894 :: uF1895 :: uF1896 :: uF1897 :: uF1898 :: uF1899 :: uF1900 :: uF1901 :: t
def nd_496_3pf_3 (t : List zFa) : List zFa := uF1902 :: uF1903 :: uF1904 :: uF1905 :: (3, (true, 0, 0, [(24, 1)]), 0, 0, 0, [(29, 1)]) :: (2, (true, 0, 0, [(24, 1)]), 0, 0, 0, [(28, 1)]) :: t
def nd_496_3pg_0 (t : List zTg) : List zTg := (59, [uL205, uL1822, uL1832, uL1831]) :: uG1789 :: uG1908 :: (1, [uL1823, uL1923, uL1826]) :: (0, [uL104, (1, [(2, 1), (25, 1), (26, (-1))]), uL203]) :: uG1937 :: (40, [uL205, uL1822, uL206, uL65, uL1825, uL207, uL211, uL275, uL352, uL407]) :: (216, [uL205, uL1822, uL79, uL203, uL1823, uL1228, uL63]) :: t
def nd_496_3p : zS := ((nd_496_3pi_0 (nd_496_3pi_1 (nd_496_3pi_2 (nd_496_3pi_3 [])))), (cx_496pr_0 (cx_496pr_1 [])), [uL1944, uL1945, uL1946, uL1942, uL65, uL1947, uL1923], [uV2, uV12, uV64], [], (nd_496_3pf_0 (nd_496_3pf_1 (nd_496_3pf_2 (nd_496_3pf_3 [])))), (nd_496_3pg_0 []))
def nd_496_3 : zN := (210, nd_496_3p, uL1948)
def nd_496_4pi_0 (t : List (Int × Int)) : List (Int × Int) := ui0 :: ui405 :: (0, 0) :: (0, 0) :: ui52 :: ui1754 :: ui1735 :: (0, 1) :: t
def nd_496_4pi_1 (t : List (Int × Int)) : List (Int × Int) := ui1736 :: ui1736 :: (0, 2) :: ui1734 :: ui1734 :: ui52 :: ui302 :: (0, 6) :: t
def nd_496_4pi_2 (t : List (Int × Int)) : List (Int × Int) := (0, 1) :: ui48 :: (0, 5) :: ui52 :: ui68 :: ui1736 :: (0, 1) :: ui31 :: t
def nd_496_4pi_3 (t : List (Int × Int)) : List (Int × Int) := ui1632 :: ui424 :: (0, 6) :: (0, 3) :: ui1870 :: ui52 :: t
def nd_496_4p : zS := ((nd_496_4pi_0 (nd_496_4pi_1 (nd_496_4pi_2 (nd_496_4pi_3 [])))), (cx_496pr_0 (cx_496pr_1 [])), [uL1944, uL1945, uL1946, uL1942, uL65, uL1947, uL1923], [uV2, uV12, uV64], [], (nd_496_3pf_0 (nd_496_3pf_1 (nd_496_3pf_2 (nd_496_3pf_3 [])))), (nd_496_3pg_0 []))
def nd_496_4 : zN := (210, nd_496_4p, uL1948)
def nd_496_5pi_0 (t : List (Int × Int)) : List (Int × Int) := ui0 :: ui405 :: (0, 0) :: (0, 0) :: ui52 :: ui1754 :: ui1735 :: (0, 1) :: t
def nd_496_5pi_1 (t : List (Int × Int)) : List (Int × Int) := ui1736 :: ui1736 :: (0, 2) :: ui1734 :: ui1734 :: ui52 :: ui302 :: (0, 6) :: t
def nd_496_5pi_2 (t : List (Int × Int)) : List (Int × Int) := (0, 1) :: ui48 :: (0, 5) :: ui52 :: ui68 :: ui1736 :: (0, 1) :: ui31 :: t
def nd_496_5pi_3 (t : List (Int × Int)) : List (Int × Int) := ui1632 :: ui424 :: (0, 6) :: (0, 3) :: (9, 9) :: ui52 :: t
def nd_496_5p : zS := ((nd_496_5pi_0 (nd_496_5pi_1 (nd_496_5pi_2 (nd_496_5pi_3 [])))), (cx_496pr_0 (cx_496pr_1 [])), [uL1944, uL1945, uL1946, uL1942, uL65, uL1947, uL1923], [uV2, uV12, uV64], [], (nd_496_3pf_0 (nd_496_3pf_1 (nd_496_3pf_2 (nd_496_3pf_3 [])))), (nd_496_3pg_0 []))
def nd_496_5 : zN := (210, nd_496_5p, uL1948)
def nd_496_6pi_0 (t : List (Int × Int)) : List (Int × Int) := ui0 :: ui405 :: (0, 0) :: (0, 0) :: ui52 :: ui1754 :: ui1735 :: (0, 1) :: t
def nd_496_6pi_1 (t : List (Int × Int)) : List (Int × Int) := ui1736 :: ui1736 :: (0, 2) :: ui1734 :: ui1734 :: ui52 :: ui302 :: (0, 6) :: t
def nd_496_6pi_2 (t : List (Int × Int)) : List (Int × Int) := (0, 1) :: ui48 :: (0, 5) :: ui52 :: ui68 :: ui1736 :: (0, 1) :: ui31 :: t
def nd_496_6pi_3 (t : List (Int × Int)) : List (Int × Int) := ui1632 :: ui424 :: (0, 6) :: (0, 3) :: (8, 8) :: ui52 :: t
def nd_496_6p : zS := ((nd_496_6pi_0 (nd_496_6pi_1 (nd_496_6pi_2 (nd_496_6pi_3 [])))), (cx_496pr_0 (cx_496pr_1 [])), [uL1944, uL1945, uL1946, uL1942, uL65, uL1947, uL1923], [uV2, uV12, uV64], [], (nd_496_3pf_0 (nd_496_3pf_1 (nd_496_3pf_2 (nd_496_3pf_3 [])))), (nd_496_3pg_0 []))
def nd_496_6 : zN := (210, nd_496_6p, uL1948)
def nd_496_7pi_0 (t : List (Int × Int)) : List (Int × Int) := ui0 :: ui405 :: (0, 0) :: (0, 0) :: ui52 :: ui1754 :: ui1735 :: (0, 1) :: t
def nd_496_7pi_1 (t : List (Int × Int)) : List (Int × Int) := ui1736 :: ui1736 :: (0, 2) :: ui1734 :: ui1734 :: ui52 :: ui302 :: (0, 6) :: t
def nd_496_7pi_2 (t : List (Int × Int)) : List (Int × Int) := (0, 1) :: ui48 :: (0, 5) :: ui52 :: ui68 :: ui1736 :: (0, 1) :: ui31 :: t
def nd_496_7pi_3 (t : List (Int × Int)) : List (Int × Int) := ui1632 :: ui1930 :: ui424 :: (0, 6) :: (0, 3) :: ui1871 :: ui52 :: t
def nd_496_7pf_0 (t : List zFa) : List zFa := uF1931 :: uF1585 :: uF1571 :: uF1920 :: uF1894 :: uF1932 :: uF1933 :: uF1778 :: t
def nd_496_7pf_1 (t : List zFa) : List zFa := uF1767 :: uF1159 :: uF1160 :: uF1505 :: uF1506 :: uF1892 :: uF1893 :: uF1640 :: t
def nd_496_7pf_2 (t : List zFa) : List zFa := uF1894 :: uF1895 :: uF1896 :: uF1897 :: uF1898 :: uF1899 :: uF1900 :: uF1901 :: t
def nd_496_7pf_3 (t : List zFa) : List zFa := uF1902 :: uF1903 :: uF1904 :: uF1905 :: (3, (true, 0, 0, [(24, 1)]), 0, 0, 0, [(30, 1)]) :: (2, (true, 0, 0, [(24, 1)]), 0, 0, 0, [(29, 1)]) :: t
def nd_496_7pg_0 (t : List zTg) : List zTg := (59, [uL205, uL1822, uL1831, uL1949]) :: uG1789 :: uG1908 :: uG1935 :: uG1936 :: uG1937 :: uG1938 :: uG1939 :: t
def nd_496_7p : zS := ((nd_496_7pi_0 (nd_496_7pi_1 (nd_496_7pi_2 (nd_496_7pi_3 [])))), (cx_496pr_0 (cx_496pr_1 [])), [uL1950, uL1940, uL1941, uL1942, uL1918, uL1943, uL1934], [uV2, uV12, uV64], [], (nd_496_7pf_0 (nd_496_7pf_1 (nd_496_7pf_2 (nd_496_7pf_3 [])))), (nd_496_7pg_0 []))
def nd_496_7 : zN := (210, nd_496_7p, ((-96000000000000), [(1, 35520), (2, (-96000000000000)), (3, (-96000000000000)), (24, (-35520)), (27, 480), (29, 6400000945024)]))
def nd_496_8pi_0 (t : List (Int × Int)) : List (Int × Int) := ui0 :: ui405 :: (0, 0) :: (0, 0) :: ui52 :: ui1754 :: ui1735 :: (0, 1) :: t
def nd_496_8pi_1 (t : List (Int × Int)) : List (Int × Int) := ui1736 :: ui1736 :: (0, 2) :: ui1734 :: ui1734 :: ui52 :: ui302 :: (0, 6) :: t
def nd_496_8pi_2 (t : List (Int × Int)) : List (Int × Int) := (0, 1) :: ui48 :: (0, 5) :: ui52 :: ui68 :: ui1736 :: (0, 1) :: ui31 :: t
def nd_496_8pi_3 (t : List (Int × Int)) : List (Int × Int) := ui1632 :: ui1930 :: ui424 :: (0, 6) :: (0, 3) :: ui1870 :: ui52 :: t
def nd_496_8p : zS := ((nd_496_8pi_0 (nd_496_8pi_1 (nd_496_8pi_2 (nd_496_8pi_3 [])))), (cx_496pr_0 (cx_496pr_1 [])), [uL1950, uL1940, uL1941, uL1942, uL1918, uL1943, uL1934], [uV2, uV12, uV64], [], (nd_496_7pf_0 (nd_496_7pf_1 (nd_496_7pf_2 (nd_496_7pf_3 [])))), (nd_496_7pg_0 []))
def nd_496_8 : zN := (210, nd_496_8p, ((-96000000000000), [(1, 35520), (2, (-96000000000000)), (3, (-96000000000000)), (24, (-35505)), (29, 9600001417440)]))
def nd_496_9pi_0 (t : List (Int × Int)) : List (Int × Int) := ui0 :: ui405 :: (0, 0) :: (0, 0) :: ui52 :: ui1754 :: ui1735 :: (0, 1) :: t
def nd_496_9pi_1 (t : List (Int × Int)) : List (Int × Int) := ui1736 :: ui1736 :: (0, 2) :: ui1734 :: ui1734 :: ui52 :: ui302 :: (0, 6) :: t
def nd_496_9pi_2 (t : List (Int × Int)) : List (Int × Int) := (0, 1) :: ui48 :: (0, 5) :: ui52 :: ui68 :: ui1736 :: (0, 1) :: ui31 :: t
def nd_496_9pi_3 (t : List (Int × Int)) : List (Int × Int) := ui1632 :: ui1930 :: ui424 :: (0, 6) :: (0, 3) :: (9, 9) :: ui52 :: t
def nd_496_9p : zS := ((nd_496_9pi_0 (nd_496_9pi_1 (nd_496_9pi_2 (nd_496_9pi_3 [])))), (cx_496pr_0 (cx_496pr_1 [])), [uL1950, uL1940, uL1941, uL1942, uL1918, uL1943, uL1934], [uV2, uV12, uV64], [], (nd_496_7pf_0 (nd_496_7pf_1 (nd_496_7pf_2 (nd_496_7pf_3 [])))), (nd_496_7pg_0 []))
def nd_496_9 : zN := (210, nd_496_9p, ((-96000000000000), [(1, 35520), (2, (-96000000000000)), (3, (-96000000000000)), (24, (-35505)), (29, 10666668241920)]))
def nd_496_10pi_0 (t : List (Int × Int)) : List (Int × Int) := ui0 :: ui405 :: (0, 0) :: (0, 0) :: ui52 :: ui1754 :: ui1735 :: (0, 1) :: t
def nd_496_10pi_1 (t : List (Int × Int)) : List (Int × Int) := ui1736 :: ui1736 :: (0, 2) :: ui1734 :: ui1734 :: ui52 :: ui302 :: (0, 6) :: t
def nd_496_10pi_2 (t : List (Int × Int)) : List (Int × Int) := (0, 1) :: ui48 :: (0, 5) :: ui52 :: ui68 :: ui1736 :: (0, 1) :: ui31 :: t
def nd_496_10pi_3 (t : List (Int × Int)) : List (Int × Int) := ui1632 :: ui1930 :: ui424 :: (0, 6) :: (0, 3) :: (8, 8) :: ui52 :: t
def nd_496_10p : zS := ((nd_496_10pi_0 (nd_496_10pi_1 (nd_496_10pi_2 (nd_496_10pi_3 [])))), (cx_496pr_0 (cx_496pr_1 [])), [uL1950, uL1940, uL1941, uL1942, uL1918, uL1943, uL1934], [uV2, uV12, uV64], [], (nd_496_7pf_0 (nd_496_7pf_1 (nd_496_7pf_2 (nd_496_7pf_3 [])))), (nd_496_7pg_0 []))
def nd_496_10 : zN := (210, nd_496_10p, ((-96000000000000), [(1, 35520), (2, (-96000000000000)), (3, (-96000000000000)), (24, (-35496)), (29, 12000001772145)]))
def ns_496 : List zN := [nd_496_0, nd_496_1, nd_496_2, nd_496_3, nd_496_4, nd_496_5, nd_496_6, nd_496_7, nd_496_8, nd_496_9, nd_496_10]
set_option maxRecDepth 1000000 in
theorem ca_496 : x_okA mLT1 cq_496 mTS2 mTC2 mRUp cx_496 cs_496 hs_496 ns_496 (14188800, []) 424 64 = true := by decide +kernel
set_option maxRecDepth 1000000 in
theorem cb_496_0 : x_okB mLT1 cq_496 mTS2 mTC2 mRUp cx_496 cs_496 hs_496 ns_496 (14188800, []) 424 64 nd_496_0 = true := by decide +kernel
set_option maxRecDepth 1000000 in
theorem cb_496_1 : x_okB mLT1 cq_496 mTS2 mTC2 mRUp cx_496 cs_496 hs_496 ns_496 (14188800, []) 424 64 nd_496_1 = true := by decide +kernel
set_option maxRecDepth 1000000 in
theorem cb_496_2 : x_okB mLT1 cq_496 mTS2 mTC2 mRUp cx_496 cs_496 hs_496 ns_496 (14188800, []) 424 64 nd_496_2 = true := by decide +kernel
set_option maxRecDepth 1000000 in
theorem cb_496_3 : x_okB mLT1 cq_496 mTS2 mTC2 mRUp cx_496 cs_496 hs_496 ns_496 (14188800, []) 424 64 nd_496_3 = true := by decide +kernel
set_option maxRecDepth 1000000 in
theorem cb_496_4 : x_okB mLT1 cq_496 mTS2 mTC2 mRUp cx_496 cs_496 hs_496 ns_496 (14188800, []) 424 64 nd_496_4 = true := by decide +kernel
set_option maxRecDepth 1000000 in
theorem cb_496_5 : x_okB mLT1 cq_496 mTS2 mTC2 mRUp cx_496 cs_496 hs_496 ns_496 (14188800, []) 424 64 nd_496_5 = true := by decide +kernel
set_option maxRecDepth 1000000 in
theorem cb_496_6 : x_okB mLT1 cq_496 mTS2 mTC2 mRUp cx_496 cs_496 hs_496 ns_496 (14188800, []) 424 64 nd_496_6 = true := by decide +kernel
set_option maxRecDepth 1000000 in
theorem cb_496_7 : x_okB mLT1 cq_496 mTS2 mTC2 mRUp cx_496 cs_496 hs_496 ns_496 (14188800, []) 424 64 nd_496_7 = true := by decide +kernel
set_option maxRecDepth 1000000 in
theorem cb_496_8 : x_okB mLT1 cq_496 mTS2 mTC2 mRUp cx_496 cs_496 hs_496 ns_496 (14188800, []) 424 64 nd_496_8 = true := by decide +kernel
set_option maxRecDepth 1000000 in
theorem cb_496_9 : x_okB mLT1 cq_496 mTS2 mTC2 mRUp cx_496 cs_496 hs_496 ns_496 (14188800, []) 424 64 nd_496_9 = true := by decide +kernel
set_option maxRecDepth 1000000 in
theorem cb_496_10 : x_okB mLT1 cq_496 mTS2 mTC2 mRUp cx_496 cs_496 hs_496 ns_496 (14188800, []) 424 64 nd_496_10 = true := by decide +kernel
set_option maxRecDepth 1000000 in
theorem cc_496 : x_okC mLT1 cq_496 mTS2 mTC2 mRUp cx_496 cs_496 hs_496 ns_496 (14188800, []) 424 64 = true := by decide +kernel
theorem ck_496 : x_ok mLT1 cq_496 mTS2 mTC2 mRUp cx_496 cs_496 hs_496 ns_496 (14188800, []) 424 64 = true := x_ok_of ca_496 (List.forall_mem_cons.mpr ⟨cb_496_0, List.forall_mem_cons.mpr ⟨cb_496_1, List.forall_mem_cons.mpr ⟨cb_496_2, List.forall_mem_cons.mpr ⟨cb_496_3, List.forall_mem_cons.mpr ⟨cb_496_4, List.forall_mem_cons.mpr ⟨cb_496_5, List.forall_mem_cons.mpr ⟨cb_496_6, List.forall_mem_cons.mpr ⟨cb_496_7, List.forall_mem_cons.mpr ⟨cb_496_8, List.forall_mem_cons.mpr ⟨cb_496_9, List.forall_mem_cons.mpr ⟨cb_496_10, fun _ h => absurd h List.not_mem_nil⟩⟩⟩⟩⟩⟩⟩⟩⟩⟩⟩) cc_496
theorem sn_496 {W : Bool} {X : List Int32} : y_Snd (mGw W) mLT1 (J2 W X) X cx_496 := y_ok J2_J mTS2_ok1 mTC2_ok1 mRUp_ok1 (List.forall_mem_cons.mpr ⟨sn_471, List.forall_mem_cons.mpr ⟨sn_422, List.forall_mem_cons.mpr ⟨sn_423, List.forall_mem_cons.mpr ⟨sn_473, List.forall_mem_cons.mpr ⟨sn_474, List.forall_mem_cons.mpr ⟨sn_477, List.forall_mem_cons.mpr ⟨sn_478, List.forall_mem_cons.mpr ⟨sn_483, List.forall_mem_cons.mpr ⟨sn_484, List.forall_mem_cons.mpr ⟨sn_485, List.forall_mem_cons.mpr ⟨sn_486, List.forall_mem_cons.mpr ⟨sn_487, List.forall_mem_cons.mpr ⟨sn_426, List.forall_mem_cons.mpr ⟨sn_431, List.forall_mem_cons.mpr ⟨sn_492, List.forall_mem_cons.mpr ⟨sn_493, List.forall_mem_cons.mpr ⟨sn_494, List.forall_mem_cons.mpr ⟨sn_495, fun _ h => absurd h List.not_mem_nil⟩⟩⟩⟩⟩⟩⟩⟩⟩⟩⟩⟩⟩⟩⟩⟩⟩⟩) ck_496
end
