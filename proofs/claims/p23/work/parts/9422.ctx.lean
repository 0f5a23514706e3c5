noncomputable section
/-! ===== readings, by program, checked by the kernel ===== -/
/-- M.is -/
def cx_500 : zCtx := (202, ([ui0, ui1572, (0, 2), ui1426], [ur1414, ur1428], [], [], [uV2, uV1888], [uF1505, uF1506, uF1432, uF1507], []), [([ui0, ui1572, (0, 0), ui1889], [ur1414, ur1428], [], [], [uV64], [], []), ([ui0, ui1572, (0, 0), ui1890], [ur1414, ur1428], [], [], [uV62], [], []), ([ui0, ui1572, (0, 0), (14, 41)], [ur1414, ur1428], [], [], [uV62], [], []), ([ui0, ui1572, (1, 2), ui1426], [ur1414, ur1428], [], [], [uV62], [], [])], [], 13, 0, 0)
set_option maxRecDepth 1000000 in
theorem ck_500 : x_ok mLT1 [] mTS2 mTC2 mRUp cx_500 [] [] [] (13, []) 0 16 = true := by decide +kernel
theorem sn_500 {W : Bool} {X : List Int32} : y_Snd (mGw W) mLT1 (J2 W X) X cx_500 := y_ok J2_J mTS2_ok1 mTC2_ok1 mRUp_ok1 (fun _ h => absurd h List.not_mem_nil) ck_500
/-- M.must -/
def cx_501 : zCtx := (208, ([ui0, ui1572, (1, 2), ui52, ui52], [ur1414], [], [], [uV2, uV1888], [uF1505, uF1506, uF1508, uF178], [uG1573]), [([ui0, ui1572, (1, 2), ui52, ui52], [ur1414], [], [], [], [], [])], [], 21, 1, 21)
set_option maxRecDepth 1000000 in
theorem ck_501 : x_ok mLT1 [cx_500, cx_434] mTS2 mTC2 mRUp cx_501 [(2, [0]), (17, [1])] [(15, uN1539)] [] (8, []) 13 11 = true := by decide +kernel
theorem sn_501 {W : Bool} {X : List Int32} : y_Snd (mGw W) mLT1 (J2 W X) X cx_501 := y_ok J2_J mTS2_ok1 mTC2_ok1 mRUp_ok1 (List.forall_mem_cons.mpr ⟨sn_500, List.forall_mem_cons.mpr ⟨sn_434, fun _ h => absurd h List.not_mem_nil⟩⟩) ck_501
def cx_502p : zS := ([ui0, ui1891, (0, 0), ui52, ui52, ui1426, ui52], [ur1414, ur1428, ur1429, ur1430, ur1431], [uL287], [], [uV2, uV1888], (cx_426pf_0 (cx_426pf_1 [])), [uG1517, uG1518, (62, [uL98, uL9, uL267, uL104, uL78])])
/-- M.must -/
def cx_502 : zCtx := (208, cx_502p, [([ui0, ui1891, (0, 0), ui52, ui52, ui1426, ui52, (1, 2)], [ur1414, ur1428, ur1429, ur1430, ur1431], [uL63], [], [], [uF1182, uF1535, uF1505], [uG1536]), ([ui0, (4, 399), (0, 0), ui52, ui52, ui1889, ui52], [ur1414, ur1428, ur1429, ur1430, ur1431], [uL65, ((-13), [(5, 1)]), (13, [(5, (-1))]), uL63, uL63], [], [], [uF1521, uF1506, uF1508], [uG1522, uG1519, uG1522])], [uk1523, uk1513, uk1514], 33, 2, 41)
set_option maxRecDepth 1000000 in
theorem ck_502 : x_ok mLT1 [cx_500, cx_426, cx_429] mTS2 mTC2 mRUp cx_502 [(2, [0]), (9, [1]), (17, [2])] [(9, [1000243]), (15, uN1539)] [] (8, []) 25 11 = true := by decide +kernel
theorem sn_502 {W : Bool} {X : List Int32} : y_Snd (mGw W) mLT1 (J2 W X) X cx_502 := y_ok J2_J mTS2_ok1 mTC2_ok1 mRUp_ok1 (List.forall_mem_cons.mpr ⟨sn_500, List.forall_mem_cons.mpr ⟨sn_426, List.forall_mem_cons.mpr ⟨sn_429, fun _ h => absurd h List.not_mem_nil⟩⟩⟩) ck_502
/-- M.is -/
def cx_503 : zCtx := (202, ([ui0, ui1572, (0, 2), ui1426], [ur1414, ur1428], [], [], [uV2, uV1892], [uF1505, uF1506, uF1432, uF1507], []), [([ui0, ui1572, (0, 0), ui1893], [ur1414, ur1428], [], [], [uV64], [], []), ([ui0, ui1572, (0, 0), (0, 30)], [ur1414, ur1428], [], [], [uV62], [], []), ([ui0, ui1572, (0, 0), (32, 41)], [ur1414, ur1428], [], [], [uV62], [], []), ([ui0, ui1572, (1, 2), ui1426], [ur1414, ur1428], [], [], [uV62], [], [])], [], 13, 0, 0)
set_option maxRecDepth 1000000 in
theorem ck_503 : x_ok mLT1 [] mTS2 mTC2 mRUp cx_503 [] [] [] (13, []) 0 16 = true := by decide +kernel
theorem sn_503 {W : Bool} {X : List Int32} : y_Snd (mGw W) mLT1 (J2 W X) X cx_503 := y_ok J2_J mTS2_ok1 mTC2_ok1 mRUp_ok1 (fun _ h => absurd h List.not_mem_nil) ck_503
/-- M.must -/
def cx_504 : zCtx := (208, ([ui0, ui1572, (1, 2), ui52, ui52], [ur1414], [], [], [uV2, uV1892], [uF1505, uF1506, uF1508, uF178], [uG1573]), [([ui0, ui1572, (1, 2), ui52, ui52], [ur1414], [], [], [], [], [])], [], 21, 1, 21)
set_option maxRecDepth 1000000 in
theorem ck_504 : x_ok mLT1 [cx_503, cx_434] mTS2 mTC2 mRUp cx_504 [(2, [0]), (17, [1])] [(15, uN1539)] [] (8, []) 13 11 = true := by decide +kernel
theorem sn_504 {W : Bool} {X : List Int32} : y_Snd (mGw W) mLT1 (J2 W X) X cx_504 := y_ok J2_J mTS2_ok1 mTC2_ok1 mRUp_ok1 (List.forall_mem_cons.mpr ⟨sn_503, List.forall_mem_cons.mpr ⟨sn_434, fun _ h => absurd h List.not_mem_nil⟩⟩) ck_504
def cx_505p : zS := ([ui0, ui1894, (0, 0), ui52, ui52, ui1426, ui52], [ur1414, ur1428, ur1429, ur1430, ur1431], [uL635], [], [uV2, uV1892], (cx_426pf_0 (cx_426pf_1 [])), [uG1517, uG1518, (62, [uL98, uL9, uL526, uL104, uL78])])
/-- M.must -/
def cx_505 : zCtx := (208, cx_505p, [([ui0, ui1894, (0, 0), ui52, ui52, ui1426, ui52, (1, 2)], [ur1414, ur1428, ur1429, ur1430, ur1431], [uL63], [], [], [uF1182, uF1535, uF1505], [uG1536]), ([ui0, (6, 399), (0, 0), ui52, ui52, ui1893, ui52], [ur1414, ur1428, ur1429, ur1430, ur1431], [uL65, ((-31), [(5, 1)]), (31, [(5, (-1))]), uL63, uL63], [], [], [uF1521, uF1506, uF1508], [uG1522, uG1519, uG1522])], [uk1523, uk1513, uk1514], 33, 2, 41)
set_option maxRecDepth 1000000 in
theorem ck_505 : x_ok mLT1 [cx_503, cx_426, cx_429] mTS2 mTC2 mRUp cx_505 [(2, [0]), (9, [1]), (17, [2])] [(9, [1000243]), (15, uN1539)] [] (8, []) 25 11 = true := by decide +kernel
theorem sn_505 {W : Bool} {X : List Int32} : y_Snd (mGw W) mLT1 (J2 W X) X cx_505 := y_ok J2_J mTS2_ok1 mTC2_ok1 mRUp_ok1 (List.forall_mem_cons.mpr ⟨sn_503, List.forall_mem_cons.mpr ⟨sn_426, List.forall_mem_cons.mpr ⟨sn_429, fun _ h => absurd h List.not_mem_nil⟩⟩⟩) ck_505
def cx_506pi_0 (t : List (Int × Int)) : List (Int × Int) := ui0 :: ui406 :: (0, 0) :: (0, 0) :: ui52 :: ui1673 :: ui770 :: ui1675 :: t
def cx_506pi_1 (t : List (Int × Int)) : List (Int × Int) := (0, 1) :: ui1676 :: (0, 2) :: ui1674 :: ui1674 :: ui52 :: ui304 :: (0, 6) :: t
def cx_506pi_2 (t : List (Int × Int)) : List (Int × Int) := (0, 1) :: ui48 :: (0, 5) :: ui52 :: ui68 :: (0, 1) :: ui31 :: t
def cx_506pr_0 (t : List (Nat × Bool)) : List (Nat × Bool) := ur1414 :: ur1475 :: ur1476 :: ur1428 :: ur1429 :: ur1430 :: ur1431 :: ur1464 :: t
def cx_506pr_1 (t : List (Nat × Bool)) : List (Nat × Bool) := ur1470 :: ur1471 :: ur1461 :: ur1462 :: ur1472 :: ur1473 :: ur1474 :: t
def cx_506pf_0 (t : List zFa) : List zFa := uF1505 :: uF1677 :: uF1525 :: uF1511 :: uF1678 :: uF1679 :: uF1680 :: uF1681 :: t
def cx_506pf_1 (t : List zFa) : List zFa := uF1682 :: uF1707 :: (0, (false, 5, 0, []), 2, 3, 0, []) :: (0, (false, 6, 0, []), 2, 4, 0, []) :: (0, (false, 7, 0, []), 2, 5, 0, []) :: (0, (false, 8, 0, []), 2, 6, 0, []) :: uF1829 :: uF1830 :: t
def cx_506pf_2 (t : List zFa) : List zFa := uF1895 :: uF1896 :: uF1832 :: uF1833 :: uF1708 :: uF1709 :: (0, (false, 31, 0, []), 2, 10, 0, []) :: (0, (false, 32, 0, []), 2, 11, 0, []) :: t
def cx_506pf_3 (t : List zFa) : List zFa := uF1488 :: uF1489 :: uF1490 :: t
def cx_506pg_0 (t : List zTg) : List zTg := uG1897 :: uG1843 :: uG1844 :: (216, [uL207, uL9, uL131, uL78, uL63, uL104, uL63]) :: uG1898 :: t
def cx_506p : zS := ((cx_506pi_0 (cx_506pi_1 (cx_506pi_2 []))), (cx_506pr_0 (cx_506pr_1 [])), [uL1684, uL63, ((-2), [(1, 1), (6, (-1)), (8, 420)]), uL1846], [], [uV2], (cx_506pf_0 (cx_506pf_1 (cx_506pf_2 (cx_506pf_3 [])))), (cx_506pg_0 []))
def cx_506q0i_0 (t : List (Int × Int)) : List (Int × Int) := ui0 :: ui1559 :: (0, 0) :: (0, 0) :: ui52 :: ui1673 :: ui1694 :: ui1675 :: t
def cx_506q0i_1 (t : List (Int × Int)) : List (Int × Int) := (0, 1) :: ui1676 :: (0, 2) :: ui1674 :: ui1674 :: ui52 :: ui304 :: (0, 6) :: t
def cx_506q0i_2 (t : List (Int × Int)) : List (Int × Int) := (0, 1) :: ui48 :: (0, 5) :: ui52 :: ui68 :: (0, 1) :: ui31 :: ui1810 :: t
def cx_506q0i_3 (t : List (Int × Int)) : List (Int × Int) := (0, 0) :: ui1572 :: ui1675 :: t
def cx_506q0f_0 (t : List zFa) : List zFa := uF1688 :: uF1899 :: uF1856 :: uF1900 :: uF1858 :: uF1525 :: uF1511 :: uF1896 :: t
def cx_506q0f_1 (t : List zFa) : List zFa := uF1896 :: uF1677 :: uF1689 :: uF1896 :: t
def cx_506q0g_0 (t : List zTg) : List zTg := uG1897 :: uG1898 :: (0, [uL78, uL65, uL1247]) :: uG1862 :: (40, [uL207, uL1268, uL208, uL65, uL67, uL209, uL213, uL277, uL353, uL408]) :: (71, [uL207, uL1268]) :: (216, [uL207, uL1268, uL131, uL1247, uL1761, uL104, uL36]) :: t
def cx_506q0 : zS := ((cx_506q0i_0 (cx_506q0i_1 (cx_506q0i_2 (cx_506q0i_3 [])))), (cx_506pr_0 (cx_506pr_1 [])), [((-2), [(8, 420), (23, (-1)), (25, 1)]), (0, [(1, (-1)), (6, 1), (23, (-1)), (25, 1)]), ((-1), [(1, (-1)), (25, 1)]), (0, [(6, (-1)), (23, 1)]), uL1865], [], [], (cx_506q0f_0 (cx_506q0f_1 [])), (cx_506q0g_0 []))
def cx_506q1i_0 (t : List (Int × Int)) : List (Int × Int) := ui0 :: ui406 :: (0, 0) :: (0, 0) :: ui52 :: ui1673 :: ui770 :: ui1675 :: t
def cx_506q1i_1 (t : List (Int × Int)) : List (Int × Int) := (0, 1) :: ui1676 :: (0, 2) :: ui1674 :: ui1674 :: ui52 :: ui304 :: (0, 6) :: t
def cx_506q1i_2 (t : List (Int × Int)) : List (Int × Int) := (0, 1) :: ui48 :: (0, 5) :: ui52 :: ui68 :: (0, 1) :: ui31 :: ui1674 :: t
def cx_506q1i_3 (t : List (Int × Int)) : List (Int × Int) := ui52 :: (1, 2) :: ui406 :: ui425 :: (0, 7) :: t
def cx_506q1f_0 (t : List zFa) : List zFa := uF1688 :: uF1899 :: uF1848 :: uF1849 :: uF1850 :: uF1900 :: uF1896 :: (0, (false, 43, 0, []), 0, 0, 0, [(27, 1)]) :: t
def cx_506q1f_1 (t : List zFa) : List zFa := (0, (false, 12, 0, []), 0, 0, 0, [(28, 1)]) :: uF1896 :: uF1689 :: uF1896 :: t
def cx_506q1 : zS := ((cx_506q1i_0 (cx_506q1i_1 (cx_506q1i_2 (cx_506q1i_3 [])))), (cx_506pr_0 (cx_506pr_1 [])), [uL1847], [], [], (cx_506q1f_0 (cx_506q1f_1 [])), [uG1897, uG1898, uG1853])
/-- M.term -/
def cx_506 : zCtx := (219, cx_506p, [cx_506q0, cx_506q1], kc_76, 14189250, 4, 83)
set_option maxRecDepth 1000000 in
theorem ck_506 : x_ok mLT1 [cx_499] mTS2 mTC2 mRUp cx_506 [(21, [0])] [(0, [1000610])] [] (26, []) 14189224 29 = true := by decide +kernel
theorem sn_506 {W : Bool} {X : List Int32} : y_Snd (mGw W) mLT1 (J2 W X) X cx_506 := y_ok J2_J mTS2_ok1 mTC2_ok1 mRUp_ok1 (List.forall_mem_cons.mpr ⟨sn_499, fun _ h => absurd h List.not_mem_nil⟩) ck_506
/-- M.is -/
def cx_507 : zCtx := (202, ([ui0, ui1572, (0, 2), ui1426], [ur1414, ur1428], [], [], [uV2, uV1901], [uF1505, uF1506, uF1432, uF1507], []), [([ui0, ui1572, (0, 0), ui1902], [ur1414, ur1428], [], [], [uV64], [], []), ([ui0, ui1572, (0, 0), (0, 31)], [ur1414, ur1428], [], [], [uV62], [], []), ([ui0, ui1572, (0, 0), (33, 41)], [ur1414, ur1428], [], [], [uV62], [], []), ([ui0, ui1572, (1, 2), ui1426], [ur1414, ur1428], [], [], [uV62], [], [])], [], 13, 0, 0)
set_option maxRecDepth 1000000 in
theorem ck_507 : x_ok mLT1 [] mTS2 mTC2 mRUp cx_507 [] [] [] (13, []) 0 16 = true := by decide +kernel
theorem sn_507 {W : Bool} {X : List Int32} : y_Snd (mGw W) mLT1 (J2 W X) X cx_507 := y_ok J2_J mTS2_ok1 mTC2_ok1 mRUp_ok1 (fun _ h => absurd h List.not_mem_nil) ck_507
/-- M.must -/
def cx_508 : zCtx := (208, ([ui0, ui1572, (1, 2), ui52, ui52], [ur1414], [], [], [uV2, uV1901], [uF1505, uF1506, uF1508, uF178], [uG1573]), [([ui0, ui1572, (1, 2), ui52, ui52], [ur1414], [], [], [], [], [])], [], 21, 1, 21)
set_option maxRecDepth 1000000 in
theorem ck_508 : x_ok mLT1 [cx_507, cx_434] mTS2 mTC2 mRUp cx_508 [(2, [0]), (17, [1])] [(15, uN1539)] [] (8, []) 13 11 = true := by decide +kernel
theorem sn_508 {W : Bool} {X : List Int32} : y_Snd (mGw W) mLT1 (J2 W X) X cx_508 := y_ok J2_J mTS2_ok1 mTC2_ok1 mRUp_ok1 (List.forall_mem_cons.mpr ⟨sn_507, List.forall_mem_cons.mpr ⟨sn_434, fun _ h => absurd h List.not_mem_nil⟩⟩) ck_508
def cx_509p : zS := ([ui0, ui1903, (0, 0), ui52, ui52, ui1426, ui52], [ur1414, ur1428, ur1429, ur1430, ur1431], [uL526], [], [uV2, uV1901], (cx_426pf_0 (cx_426pf_1 [])), [uG1517, uG1518, (62, [uL98, uL9, uL630, uL104, uL78])])
/-- M.must -/
def cx_509 : zCtx := (208, cx_509p, [([ui0, ui1903, (0, 0), ui52, ui52, ui1426, ui52, (1, 2)], [ur1414, ur1428, ur1429, ur1430, ur1431], [uL63], [], [], [uF1182, uF1535, uF1505], [uG1536]), ([ui0, (8, 399), (0, 0), ui52, ui52, ui1902, ui52], [ur1414, ur1428, ur1429, ur1430, ur1431], [uL65, ((-32), [(5, 1)]), (32, [(5, (-1))]), uL63, uL63], [], [], [uF1521, uF1506, uF1508], [uG1522, uG1519, uG1522])], [uk1523, uk1513, uk1514], 33, 2, 41)
set_option maxRecDepth 1000000 in
theorem ck_509 : x_ok mLT1 [cx_507, cx_426, cx_429] mTS2 mTC2 mRUp cx_509 [(2, [0]), (9, [1]), (17, [2])] [(9, [1000243]), (15, uN1539)] [] (8, []) 25 11 = true := by decide +kernel
theorem sn_509 {W : Bool} {X : List Int32} : y_Snd (mGw W) mLT1 (J2 W X) X cx_509 := y_ok J2_J mTS2_ok1 mTC2_ok1 mRUp_ok1 (List.forall_mem_cons.mpr ⟨sn_507, List.forall_mem_cons.mpr ⟨sn_426, List.forall_mem_cons.mpr ⟨sn_429, fun _ h => absurd h List.not_mem_nil⟩⟩⟩) ck_509
def cx_510pi_0 (t : List (Int × Int)) : List (Int × Int) := ui0 :: (0, 3) :: ui348 :: (0, 0) :: (0, 0) :: ui52 :: (0, 1) :: ui1693 :: t
def cx_510pi_1 (t : List (Int × Int)) : List (Int × Int) := ui1694 :: ui1675 :: (0, 2) :: ui1674 :: ui1674 :: ui52 :: (0, 6) :: ui48 :: t
def cx_510pi_2 (t : List (Int × Int)) : List (Int × Int) := (0, 5) :: ui52 :: ui68 :: ui52 :: (0, 6) :: ui48 :: (0, 5) :: ui49 :: t
def cx_510pi_3 (t : List (Int × Int)) : List (Int × Int) := (0, 1) :: ui31 :: t
def cx_510pr_0 (t : List (Nat × Bool)) : List (Nat × Bool) := ur1414 :: ur1472 :: ur1473 :: ur1474 :: ur1475 :: ur1476 :: ur1461 :: ur1462 :: t
def cx_510pr_1 (t : List (Nat × Bool)) : List (Nat × Bool) := ur1428 :: ur1429 :: ur1430 :: ur1431 :: ur1464 :: ur1574 :: ur1470 :: ur1471 :: t
def cx_510pf_0 (t : List zFa) : List zFa := uF1524 :: uF1695 :: uF1696 :: uF1151 :: uF1577 :: uF1697 :: uF1698 :: uF1699 :: t
def cx_510pf_1 (t : List zFa) : List zFa := uF1700 :: uF1701 :: uF1702 :: uF1703 :: uF1704 :: uF1705 :: uF1706 :: uF1707 :: t
def cx_510pf_2 (t : List zFa) : List zFa := uF1904 :: uF1905 :: uF1906 :: uF459 :: uF1907 :: uF1908 :: uF1909 :: uF1910 :: t
def cx_510pf_3 (t : List zFa) : List zFa := uF1911 :: uF1912 :: uF1913 :: uF1914 :: t
def cx_510pg_0 (t : List zTg) : List zTg := uG1710 :: uG1915 :: uG1916 :: uG1917 :: (216, [uL207, uL67, uL78, uL131, uL63, uL79, uL63]) :: uG1918 :: uG1919 :: uG1920 :: t
def cx_510p : zS := ((cx_510pi_0 (cx_510pi_1 (cx_510pi_2 (cx_510pi_3 [])))), (cx_510pr_0 (cx_510pr_1 [])), [((-1), [(2, 1), (6, 420), (8, (-1))]), ((-1), [(2, 1), (6, 520), (7, (-4))]), uL149], [], [uV2, uV11], (cx_510pf_0 (cx_510pf_1 (cx_510pf_2 (cx_510pf_3 [])))), (cx_510pg_0 []))
def cx_510q0i_0 (t : List (Int × Int)) : List (Int × Int) := ui0 :: (0, 3) :: ui348 :: (0, 0) :: (0, 0) :: ui52 :: (0, 1) :: ui1693 :: t
def cx_510q0i_1 (t : List (Int × Int)) : List (Int × Int) := ui1694 :: ui1675 :: (0, 2) :: ui1674 :: ui1674 :: ui52 :: (0, 6) :: ui48 :: t
def cx_510q0i_2 (t : List (Int × Int)) : List (Int × Int) := (0, 5) :: ui52 :: ui68 :: ui52 :: (0, 6) :: ui48 :: (0, 5) :: ui49 :: t
def cx_510q0i_3 (t : List (Int × Int)) : List (Int × Int) := (0, 1) :: ui31 :: ui1921 :: ui52 :: (1, 2) :: ui348 :: (0, 7) :: ui1674 :: t
def cx_510q0i_4 (t : List (Int × Int)) : List (Int × Int) := ui1675 :: ui1676 :: ui1676 :: ui1674 :: (0, 2) :: ui1674 :: ui1674 :: t
def cx_510q0 : zS := ((cx_510q0i_0 (cx_510q0i_1 (cx_510q0i_2 (cx_510q0i_3 (cx_510q0i_4 []))))), (cx_510pr_0 (cx_510pr_1 [])), [(0, [(2, (-1)), (29, 1)])], [], [], [(0, (false, 33, 0, []), 0, 0, 0, [(26, 1)]), (0, (false, 14, 0, []), 0, 0, 0, [(27, 1)]), (0, (false, 13, 0, []), 0, 0, 0, [(28, 1)]), (0, (false, 11, 0, []), 0, 0, 0, [(29, 1)]), (0, (false, 12, 0, []), 0, 0, 0, [(30, 1)]), (0, (false, 39, 0, []), 0, 0, 0, [(31, 1)]), (0, (false, 43, 0, []), 0, 0, 0, [(32, 1)]), uF1909], [uG1920, (3, [uL78, uL1922, uL1923, uL1924, uL1925, uL1926, uL1927]), (41, [uL207, uL1768, uL1762])])
def cx_510q1i_0 (t : List (Int × Int)) : List (Int × Int) := ui0 :: (0, 3) :: ui1537 :: (0, 0) :: (0, 0) :: ui52 :: (0, 1) :: ui1693 :: t
def cx_510q1i_1 (t : List (Int × Int)) : List (Int × Int) := ui1694 :: ui1675 :: (0, 2) :: ui1674 :: ui1674 :: ui52 :: (0, 6) :: ui48 :: t
def cx_510q1i_2 (t : List (Int × Int)) : List (Int × Int) := (0, 5) :: ui52 :: ui68 :: ui52 :: (0, 6) :: ui48 :: (0, 5) :: ui49 :: t
def cx_510q1i_3 (t : List (Int × Int)) : List (Int × Int) := (0, 1) :: ui31 :: ui1891 :: (1, 230) :: (0, 0) :: ui1810 :: (0, 2) :: ui1674 :: t
def cx_510q1i_4 (t : List (Int × Int)) : List (Int × Int) := ui1674 :: t
def cx_510q1f_0 (t : List zFa) : List zFa := uF1850 :: uF1696 :: uF1151 :: (0, (false, 33, 0, []), 0, 0, 0, [(27, 1)]) :: uF1852 :: uF1928 :: uF1909 :: uF1909 :: t
def cx_510q1f_1 (t : List zFa) : List zFa := uF1695 :: uF1909 :: uF1909 :: t
def cx_510q1g_0 (t : List zTg) : List zTg := uG1920 :: uG1929 :: uG1930 :: uG1931 :: (3, [uL78, uL1762, uL1762, uL1767, uL1886, uL1932, uL1933]) :: uG1854 :: (40, [uL207, uL1761, uL63, uL63, uL63, uL208, uL209, uL212, uL213, (1, [(18, 1)])]) :: (64, [uL207, uL1761, uL208]) :: t
def cx_510q1g_1 (t : List zTg) : List zTg := (216, [uL207, uL1761, uL78, uL1767, uL63, uL1762, uL63]) :: t
def cx_510q1 : zS := ((cx_510q1i_0 (cx_510q1i_1 (cx_510q1i_2 (cx_510q1i_3 (cx_510q1i_4 []))))), (cx_510pr_0 (cx_510pr_1 [])), [(0, [(6, 420), (26, 1), (29, (-1))]), (0, [(6, 520), (26, 1), (27, (-4))]), uL1860, ((-1), [(2, (-1)), (26, 1)])], [], [], (cx_510q1f_0 (cx_510q1f_1 [])), (cx_510q1g_0 (cx_510q1g_1 [])))
/-- M.tellLaw -/
def cx_510 : zCtx := (214, cx_510p, [cx_510q0, cx_510q1], kc_77, 14197530, 5, 103)
def cq_510 : List zCtx := [cx_471, cx_472, cx_425, cx_426, cx_473, cx_499, cx_501, cx_502, cx_504, cx_505, cx_469, cx_506, cx_508, cx_509, cx_443, cx_444]
def cs_510 : List (Nat × List Nat) := [(2, [0]), (22, [1]), (35, [2]), (50, [3]), (77, [4, 5]), (83, [6, 7]), (107, [5]), (113, [8, 9]), (117, [10, 11]), (123, [12, 13]), (140, [10, 11]), (145, [14, 15])]
def hs_510 : List (Nat × List Nat) := [(0, uN1712), (5, uN1713), (19, [1000246]), (33, [1000378]), (49, [1000379]), (53, [1000380, 1000381, 1000596, 35, 1000610, 1000611]), (80, [11, 740, 741, 35, 1000246, 1000382, 1000612]), (86, [1000383, 1000384, 1000597]), (110, [12, 740, 741, 35, 1000246, 1000385, 1000612]), (116, [1000386, 1000387, 1000598]), (117, [35]), (120, [13, 740, 741, 35, 1000246, 1000388, 1000612]), (126, [1000389, 1000390, 1000599]), (129, [1000600, 1000391, 1000392, 35, 1000610, 1000611]), (140, [35]), (143, [13, 740, 741, 1000246, 1000393, 1000612]), (148, uN1714), (156, [1000601]), (170, [1000602]), (187, [14, 1000302, 1000603])]
def nd_510_0pi_0 (t : List (Int × Int)) : List (Int × Int) := ui0 :: (0, 3) :: ui1537 :: (0, 0) :: (0, 0) :: ui52 :: (0, 1) :: ui1693 :: t
def nd_510_0pi_1 (t : List (Int × Int)) : List (Int × Int) := ui1694 :: ui1675 :: (0, 2) :: ui1674 :: ui1674 :: ui52 :: (0, 6) :: ui48 :: t
def nd_510_0pi_2 (t : List (Int × Int)) : List (Int × Int) := (0, 5) :: ui52 :: ui68 :: ui52 :: (0, 6) :: ui48 :: (0, 5) :: ui49 :: t
def nd_510_0pi_3 (t : List (Int × Int)) : List (Int × Int) := (0, 1) :: ui31 :: (0, 4) :: ui406 :: ui1693 :: ui1694 :: ui1675 :: (0, 2) :: t
def nd_510_0pi_4 (t : List (Int × Int)) : List (Int × Int) := ui1674 :: ui1674 :: ui68 :: ui407 :: (0, 6) :: ui48 :: (0, 5) :: ui49 :: t
def nd_510_0pf_0 (t : List zFa) : List zFa := (0, (false, 11, 0, []), 0, 0, 0, [(27, 1)]) :: uF1696 :: uF1151 :: uF1695 :: uF1577 :: (0, (false, 33, 0, []), 0, 0, 0, [(28, 1)]) :: uF1928 :: (0, (false, 43, 0, []), 0, 0, 0, [(30, 1)]) :: t
def nd_510_0pf_1 (t : List zFa) : List zFa := uF1700 :: uF1701 :: uF1702 :: uF1703 :: uF1704 :: uF1705 :: uF1706 :: uF1707 :: t
def nd_510_0pf_2 (t : List zFa) : List zFa := uF1904 :: uF1905 :: uF1906 :: uF459 :: uF1907 :: uF1908 :: uF1909 :: uF1910 :: t
def nd_510_0pf_3 (t : List zFa) : List zFa := uF1911 :: uF1912 :: uF1913 :: uF1914 :: t
def nd_510_0pg_0 (t : List zTg) : List zTg := uG1929 :: uG1930 :: uG1931 :: uG1915 :: uG1916 :: uG1917 :: uG1918 :: uG1919 :: t
def nd_510_0pg_1 (t : List zTg) : List zTg := uG1920 :: (3, [uL78, uL79, uL1768, uL1767, uL1932, uL1933, uL1922]) :: (58, [uL207, uL1762]) :: (40, [uL207, uL1762, (30, [(26, 1)]), uL63, uL63, uL208, uL209, uL212, uL213, uL277]) :: (216, [uL207, uL1762, uL78, uL1767, uL63, uL1768, uL63]) :: (222, [uL207, uL1923, uL78, uL9, uL79]) :: (40, [uL207, uL1923, uL1924, uL63, uL63, uL1925, uL1926, uL1927, uL1934, uL277]) :: t
def nd_510_0p : zS := ((nd_510_0pi_0 (nd_510_0pi_1 (nd_510_0pi_2 (nd_510_0pi_3 (nd_510_0pi_4 []))))), (cx_510pr_0 (cx_510pr_1 [])), [((-2), [(6, 420), (27, 1), (29, (-1))]), ((-2), [(6, 520), (27, 1), (28, (-4))]), uL1871], [uV2, uV11, uV142, (0, 0, 0, [(26, 1)])], [], (nd_510_0pf_0 (nd_510_0pf_1 (nd_510_0pf_2 (nd_510_0pf_3 [])))), (nd_510_0pg_0 (nd_510_0pg_1 [])))
def nd_510_0 : zN := (12, nd_510_0p, ((-3000000000000), [(3, (-3000000000000)), (4, (-3000000000000)), (26, (-1680)), (35, 100000000267)]))
def ns_510 : List zN := [nd_510_0]
set_option maxRecDepth 1000000 in
theorem ca_510 : x_okA mLT1 cq_510 mTS2 mTC2 mRUp cx_510 cs_510 hs_510 ns_510 (8280, []) 14189250 76 = true := by decide +kernel
set_option maxRecDepth 1000000 in
theorem cb_510_0 : x_okB mLT1 cq_510 mTS2 mTC2 mRUp cx_510 cs_510 hs_510 ns_510 (8280, []) 14189250 76 nd_510_0 = true := by decide +kernel
set_option maxRecDepth 1000000 in
theorem cc_510 : x_okC mLT1 cq_510 mTS2 mTC2 mRUp cx_510 cs_510 hs_510 ns_510 (8280, []) 14189250 76 = true := by decide +kernel
theorem ck_510 : x_ok mLT1 cq_510 mTS2 mTC2 mRUp cx_510 cs_510 hs_510 ns_510 (8280, []) 14189250 76 = true := x_ok_of ca_510 (List.forall_mem_cons.mpr ⟨cb_510_0, fun _ h => absurd h List.not_mem_nil⟩) cc_510
theorem sn_510 {W : Bool} {X : List Int32} : y_Snd (mGw W) mLT1 (J2 W X) X cx_510 := y_ok J2_J mTS2_ok1 mTC2_ok1 mRUp_ok1 (List.forall_mem_cons.mpr ⟨sn_471, List.forall_mem_cons.mpr ⟨sn_472, List.forall_mem_cons.mpr ⟨sn_425, List.forall_mem_cons.mpr ⟨sn_426, List.forall_mem_cons.mpr ⟨sn_473, List.forall_mem_cons.mpr ⟨sn_499, List.forall_mem_cons.mpr ⟨sn_501, List.forall_mem_cons.mpr ⟨sn_502, List.forall_mem_cons.mpr ⟨sn_504, List.forall_mem_cons.mpr ⟨sn_505, List.forall_mem_cons.mpr ⟨sn_469, List.forall_mem_cons.mpr ⟨sn_506, List.forall_mem_cons.mpr ⟨sn_508, List.forall_mem_cons.mpr ⟨sn_509, List.forall_mem_cons.mpr ⟨sn_443, List.forall_mem_cons.mpr ⟨sn_444, fun _ h => absurd h List.not_mem_nil⟩⟩⟩⟩⟩⟩⟩⟩⟩⟩⟩⟩⟩⟩⟩⟩) ck_510
def cx_511pi_0 (t : List (Int × Int)) : List (Int × Int) := ui0 :: ui68 :: (0, 0) :: (0, 0) :: ui52 :: (0, 5) :: ui52 :: (0, 1) :: t
def cx_511pi_1 (t : List (Int × Int)) : List (Int × Int) := (0, 6) :: ui1693 :: ui1694 :: ui1675 :: (0, 2) :: ui1674 :: ui1674 :: ui52 :: t
def cx_511pi_2 (t : List (Int × Int)) : List (Int × Int) := ui48 :: ui68 :: ui1426 :: ui52 :: (0, 1) :: (0, 6) :: ui196 :: ui196 :: t
def cx_511pi_3 (t : List (Int × Int)) : List (Int × Int) := ui196 :: ui196 :: ui196 :: ui196 :: ui196 :: ui196 :: (0, 1) :: (0, 6) :: t
def cx_511pi_4 (t : List (Int × Int)) : List (Int × Int) := (0, 1) :: ui31 :: t
def cx_511pr_0 (t : List (Nat × Bool)) : List (Nat × Bool) := ur1414 :: ur1463 :: ur1428 :: ur1429 :: ur1430 :: ur1431 :: ur1464 :: ur1574 :: t
def cx_511pr_1 (t : List (Nat × Bool)) : List (Nat × Bool) := ur1465 :: ur1466 :: ur1467 :: ur1468 :: ur1469 :: ur1575 :: ur1576 :: ur1470 :: t
def cx_511pr_2 (t : List (Nat × Bool)) : List (Nat × Bool) := ur1471 :: ur1461 :: ur1462 :: ur1472 :: ur1473 :: ur1474 :: ur1475 :: ur1476 :: t
def cx_511pf_0 (t : List zFa) : List zFa := uF1505 :: uF1677 :: uF1525 :: uF1511 :: (0, (false, 15, 0, []), 0, 0, 0, [(5, 1)]) :: (0, (false, 16, 0, []), 0, 0, 0, [(6, 1)]) :: (0, (false, 19, 0, []), 0, 0, 0, [(7, 1)]) :: uF1935 :: t
def cx_511pf_1 (t : List zFa) : List zFa := (0, (false, 33, 0, []), 0, 0, 0, [(9, 1)]) :: (0, (false, 39, 0, []), 0, 0, 0, [(10, 1)]) :: (0, (false, 43, 0, []), 0, 0, 0, [(11, 1)]) :: uF1578 :: uF1936 :: uF1683 :: uF1124 :: uF1125 :: t
def cx_511pf_2 (t : List zFa) : List zFa := uF1445 :: uF1446 :: uF1580 :: uF1937 :: uF1582 :: (2, (true, 0, 0, [(1, 1)]), 0, 0, 0, [(18, 1)]) :: (3, (true, 0, 0, [(1, 1)]), 0, 0, 0, [(19, 1)]) :: (0, (false, 26, 0, []), 2, 8, 0, []) :: t
def cx_511pf_3 (t : List zFa) : List zFa := (0, (false, 27, 0, []), 2, 9, 0, []) :: (9, (true, 0, 0, [(7, 1)]), 0, 0, 0, [(22, 1)]) :: (0, (false, 28, 0, []), 2, 10, 0, []) :: (10, (true, 0, 0, [(7, 1)]), 0, 0, 0, [(23, 1)]) :: (0, (false, 29, 0, []), 2, 11, 0, []) :: (11, (true, 0, 0, [(7, 1)]), 0, 0, 0, [(24, 1)]) :: (0, (false, 30, 0, []), 2, 12, 0, []) :: (12, (true, 0, 0, [(7, 1)]), 0, 0, 0, [(25, 1)]) :: t
def cx_511pf_4 (t : List zFa) : List zFa := (0, (false, 23, 0, []), 2, 13, 0, []) :: (0, (false, 24, 0, []), 2, 14, 0, []) :: (0, (false, 40, 0, []), 2, 15, 0, []) :: (0, (false, 41, 0, []), 2, 16, 0, []) :: (0, (false, 31, 0, []), 2, 17, 0, []) :: (0, (false, 32, 0, []), 2, 18, 0, []) :: (0, (false, 34, 0, []), 2, 19, 0, []) :: (0, (false, 35, 0, []), 2, 20, 0, []) :: t
def cx_511pf_5 (t : List zFa) : List zFa := (0, (false, 36, 0, []), 2, 21, 0, []) :: (0, (false, 37, 0, []), 2, 22, 0, []) :: (0, (false, 38, 0, []), 2, 23, 0, []) :: t
def cx_511pg_0 (t : List zTg) : List zTg := (3, [uL79, uL164, uL164, uL170, uL214, uL207, uL208]) :: uG1759 :: (40, [uL209, uL9, uL63, uL63, uL63, uL131, uL212, uL104, uL78, uL213]) :: (64, [uL209, uL9, uL131]) :: uG1938 :: (78, [uL209, uL9, uL79]) :: uG1939 :: (86, [uL209, uL9, uL266, uL1246]) :: t
def cx_511pg_1 (t : List zTg) : List zTg := (86, [uL209, uL9, uL283, uL1247]) :: (86, [uL209, uL9, uL285, uL1267]) :: (86, [uL209, uL9, uL287, uL1268]) :: uG1940 :: uG1941 :: uG1942 :: uG1943 :: uG1944 :: t
def cx_511pg_2 (t : List zTg) : List zTg := (95, [uL209, uL9, uL131, uL79, (0, [(7, 6), (8, 1)])]) :: (216, [uL209, uL9, uL79, uL170, uL63, uL164, uL63]) :: uG1945 :: t
def cx_511p : zS := ((cx_511pi_0 (cx_511pi_1 (cx_511pi_2 (cx_511pi_3 (cx_511pi_4 []))))), (cx_511pr_0 (cx_511pr_1 (cx_511pr_2 []))), [(0, [(1, 1), (7, 420), (10, (-1))]), (0, [(1, 1), (7, 520), (9, (-4))]), uL1192], [], [uV2], (cx_511pf_0 (cx_511pf_1 (cx_511pf_2 (cx_511pf_3 (cx_511pf_4 (cx_511pf_5 [])))))), (cx_511pg_0 (cx_511pg_1 (cx_511pg_2 []))))
def cx_511q0i_0 (t : List (Int × Int)) : List (Int × Int) := ui0 :: ui68 :: (0, 0) :: (0, 0) :: ui52 :: (0, 5) :: ui52 :: (0, 1) :: t
def cx_511q0i_1 (t : List (Int × Int)) : List (Int × Int) := (0, 6) :: ui1693 :: ui1694 :: ui1675 :: (0, 2) :: ui1674 :: ui1674 :: ui52 :: t
def cx_511q0i_2 (t : List (Int × Int)) : List (Int × Int) := ui48 :: ui68 :: ui1426 :: ui52 :: (0, 1) :: (0, 6) :: ui196 :: ui196 :: t
def cx_511q0i_3 (t : List (Int × Int)) : List (Int × Int) := ui196 :: ui196 :: ui196 :: ui196 :: ui196 :: ui196 :: (0, 1) :: (0, 6) :: t
def cx_511q0i_4 (t : List (Int × Int)) : List (Int × Int) := (0, 1) :: ui31 :: ui52 :: (1, 2) :: ui68 :: (0, 7) :: (0, 5) :: ui52 :: t
def cx_511q0i_5 (t : List (Int × Int)) : List (Int × Int) := ui1921 :: ui1674 :: ui1675 :: ui1676 :: ui1676 :: ui1674 :: (0, 2) :: ui1674 :: t
def cx_511q0i_6 (t : List (Int × Int)) : List (Int × Int) := ui1674 :: t
def cx_511q0f_0 (t : List zFa) : List zFa := (0, (false, 14, 0, []), 0, 0, 0, [(34, 1)]) :: (0, (false, 13, 0, []), 0, 0, 0, [(35, 1)]) :: uF1946 :: uF1937 :: uF1937 :: (0, (false, 12, 0, []), 0, 0, 0, [(37, 1)]) :: uF1947 :: uF1948 :: t
def cx_511q0f_1 (t : List zFa) : List zFa := uF1935 :: uF1949 :: uF1950 :: uF1951 :: uF1937 :: uF1936 :: t
def cx_511q0g_0 (t : List zTg) : List zTg := uG1952 :: uG1938 :: uG1939 :: uG1940 :: uG1941 :: uG1942 :: uG1943 :: uG1944 :: t
def cx_511q0g_1 (t : List zTg) : List zTg := uG1945 :: (3, [uL79, uL1953, uL1954, uL1955, uL1956, uL1957, uL1958]) :: (41, [uL209, uL1924, uL1923]) :: uG1938 :: uG1939 :: uG1940 :: uG1941 :: uG1942 :: t
def cx_511q0g_2 (t : List zTg) : List zTg := uG1943 :: uG1944 :: t
def cx_511q0 : zS := ((cx_511q0i_0 (cx_511q0i_1 (cx_511q0i_2 (cx_511q0i_3 (cx_511q0i_4 (cx_511q0i_5 (cx_511q0i_6 []))))))), (cx_511pr_0 (cx_511pr_1 (cx_511pr_2 []))), [(0, [(1, (-1)), (36, 1)])], [], [], (cx_511q0f_0 (cx_511q0f_1 [])), (cx_511q0g_0 (cx_511q0g_1 (cx_511q0g_2 []))))
def cx_511q1i_0 (t : List (Int × Int)) : List (Int × Int) := ui0 :: ui405 :: (0, 0) :: (0, 0) :: ui52 :: (0, 5) :: ui52 :: (0, 1) :: t
def cx_511q1i_1 (t : List (Int × Int)) : List (Int × Int) := (0, 6) :: ui1693 :: ui1694 :: ui1675 :: (0, 2) :: ui1674 :: ui1674 :: ui52 :: t
def cx_511q1i_2 (t : List (Int × Int)) : List (Int × Int) := ui48 :: ui68 :: (20, 29) :: ui52 :: (0, 1) :: (0, 6) :: ui196 :: ui196 :: t
def cx_511q1i_3 (t : List (Int × Int)) : List (Int × Int) := ui196 :: ui196 :: ui196 :: ui196 :: ui196 :: ui196 :: (0, 1) :: (0, 6) :: t
def cx_511q1i_4 (t : List (Int × Int)) : List (Int × Int) := (0, 1) :: ui31 :: ui196 :: ui1572 :: ui48 :: (0, 5) :: ui52 :: (0, 6) :: t
def cx_511q1i_5 (t : List (Int × Int)) : List (Int × Int) := ui1693 :: ui1694 :: ui1675 :: ui196 :: ui196 :: ui196 :: (0, 2) :: ui1674 :: t
def cx_511q1i_6 (t : List (Int × Int)) : List (Int × Int) := ui1674 :: t
def cx_511q1f_0 (t : List zFa) : List zFa := (12, (true, 0, 0, [(7, 1)]), 0, 0, 0, [(34, 1)]) :: (0, (false, 11, 0, []), 0, 0, 0, [(35, 1)]) :: uF1525 :: uF1511 :: uF1959 :: uF1959 :: uF1677 :: (0, (false, 15, 0, []), 0, 0, 0, [(37, 1)]) :: t
def cx_511q1f_1 (t : List zFa) : List zFa := (0, (false, 16, 0, []), 0, 0, 0, [(38, 1)]) :: uF1960 :: uF1949 :: uF1950 :: uF1951 :: uF1959 :: (9, (true, 0, 0, [(7, 1)]), 0, 0, 0, [(43, 1)]) :: (10, (true, 0, 0, [(7, 1)]), 0, 0, 0, [(44, 1)]) :: t
def cx_511q1f_2 (t : List zFa) : List zFa := (11, (true, 0, 0, [(7, 1)]), 0, 0, 0, [(45, 1)]) :: (1, (true, 0, 0, [(7, 1)]), 0, 0, 0, [(39, 1)]) :: t
def cx_511q1g_0 (t : List zTg) : List zTg := (58, [uL209, uL1603]) :: uG1765 :: (68, [uL209, uL9, uL353]) :: uG1952 :: uG1938 :: uG1939 :: uG1940 :: uG1941 :: t
def cx_511q1g_1 (t : List zTg) : List zTg := uG1942 :: uG1943 :: uG1944 :: uG1945 :: (3, [uL79, uL1961, uL1961, uL1962, uL1956, uL1957, uL1958]) :: (58, [uL209, uL1924]) :: (40, [uL209, uL1924, uL63, uL63, uL63, uL1934, uL1925, uL1926, uL1927, (1, [(17, 1)])]) :: (64, [uL209, uL1924, uL1934]) :: t
def cx_511q1g_2 (t : List zTg) : List zTg := uG1938 :: (78, [uL209, uL1924, uL79]) :: uG1939 :: (86, [uL209, uL1924, uL266, uL1953]) :: (86, [uL209, uL1924, uL283, uL1954]) :: (86, [uL209, uL1924, uL285, uL1955]) :: (86, [uL209, uL1924, uL287, uL1923]) :: uG1940 :: t
def cx_511q1g_3 (t : List zTg) : List zTg := uG1941 :: uG1942 :: uG1943 :: uG1944 :: (95, [uL209, uL1924, uL1934, uL79, (0, [(7, 6), (39, 1)])]) :: (216, [uL209, uL1924, uL79, uL1962, uL63, uL1961, uL63]) :: t
def cx_511q1 : zS := ((cx_511q1i_0 (cx_511q1i_1 (cx_511q1i_2 (cx_511q1i_3 (cx_511q1i_4 (cx_511q1i_5 (cx_511q1i_6 []))))))), (cx_511pr_0 (cx_511pr_1 (cx_511pr_2 []))), [(0, [(1, (-1)), (35, 1)]), (0, [(7, 420), (35, 1), (41, (-1))]), (0, [(7, 520), (35, 1), (40, (-4))]), ((-1000), [(1, (-1000)), (35, 1000)])], [], [], (cx_511q1f_0 (cx_511q1f_1 (cx_511q1f_2 []))), (cx_511q1g_0 (cx_511q1g_1 (cx_511q1g_2 (cx_511q1g_3 [])))))
/-- M.tellOne -/
def cx_511 : zCtx := (203, cx_511p, [cx_511q0, cx_511q1], kc_78, 14197562, 6, 126)
def cq_511 : List zCtx := [cx_427, cx_445, cx_446, cx_455, cx_457, cx_460, cx_463, cx_466, cx_429, cx_426, cx_470, cx_510]
def cs_511 : List (Nat × List Nat) := [(76, [0]), (87, [1]), (105, [2]), (116, [3]), (134, [4]), (153, [5]), (172, [6]), (192, [7]), (232, [8]), (244, [9]), (249, [10, 11])]
def hs_511 : List (Nat × List Nat) := [(0, [1000246]), (65, [1000401]), (79, [740, 1000395, 1000396, 1000302, 1000397, 1000520]), (90, [740]), (94, [1000402]), (108, [740, 1000398, 1000399, 1000302, 1000400, 1000453]), (119, [740]), (137, [740]), (156, [740]), (175, [740]), (195, [740]), (230, [1000403, 1000404]), (235, [740]), (243, [1000405, 1000610]), (247, [740, 1000406, 1000407, 1000408, 1000409, 1000410, 1000302, 1000604]), (249, [35]), (252, [740, 743, 1000453, 1000491, 1000492, 1000493, 1000494, 1000495, 1000496, 1000497, 1000498, 1000520, 1000605, 1000606])]
def ns_511 : List zN := []
set_option maxRecDepth 1000000 in
theorem ca_511 : x_okA mLT1 cq_511 mTS2 mTC2 mRUp cx_511 cs_511 hs_511 ns_511 (32, []) 14197530 35 = true := by decide +kernel
set_option maxRecDepth 1000000 in
theorem cc_511 : x_okC mLT1 cq_511 mTS2 mTC2 mRUp cx_511 cs_511 hs_511 ns_511 (32, []) 14197530 35 = true := by decide +kernel
theorem ck_511 : x_ok mLT1 cq_511 mTS2 mTC2 mRUp cx_511 cs_511 hs_511 ns_511 (32, []) 14197530 35 = true := x_ok_of ca_511 (fun _ h => absurd h List.not_mem_nil) cc_511
theorem sn_511 {W : Bool} {X : List Int32} : y_Snd (mGw W) mLT1 (J2 W X) X cx_511 := y_ok J2_J mTS2_ok1 mTC2_ok1 mRUp_ok1 (List.forall_mem_cons.mpr ⟨sn_427, List.forall_mem_cons.mpr ⟨sn_445, List.forall_mem_cons.mpr ⟨sn_446, List.forall_mem_cons.mpr ⟨sn_455, List.forall_mem_cons.mpr ⟨sn_457, List.forall_mem_cons.mpr ⟨sn_460, List.forall_mem_cons.mpr ⟨sn_463, List.forall_mem_cons.mpr ⟨sn_466, List.forall_mem_cons.mpr ⟨sn_429, List.forall_mem_cons.mpr ⟨sn_426, List.forall_mem_cons.mpr ⟨sn_470, List.forall_mem_cons.mpr ⟨sn_510, fun _ h => absurd h List.not_mem_nil⟩⟩⟩⟩⟩⟩⟩⟩⟩⟩⟩⟩) ck_511
end
