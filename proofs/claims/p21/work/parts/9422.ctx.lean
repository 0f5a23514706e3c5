noncomputable section
/-! ===== readings, by program, checked by the kernel ===== -/
/-- M.is -/
def cx_487 : zCtx := (202, ([ui0, ui1489, (0, 2), ui1343], [ur1331, ur1345], [], [], [uV2, uV1809], [uF1422, uF1423, uF1349, uF1424], []), [([ui0, ui1489, (0, 0), ui1810], [ur1331, ur1345], [], [], [uV64], [], []), ([ui0, ui1489, (0, 0), ui1811], [ur1331, ur1345], [], [], [uV62], [], []), ([ui0, ui1489, (0, 0), (14, 41)], [ur1331, ur1345], [], [], [uV62], [], []), ([ui0, ui1489, (1, 2), ui1343], [ur1331, ur1345], [], [], [uV62], [], [])], [], 13, 0, 0)
set_option maxRecDepth 1000000 in
theorem ck_487 : x_ok mLT1 [] mTS2 mTC2 mRUp cx_487 [] [] [] (13, []) 0 16 = true := by decide +kernel
theorem sn_487 {W : Bool} {X : List Int32} : y_Snd (mGw W) mLT1 (J2 W X) X cx_487 := y_ok J2_J mTS2_ok1 mTC2_ok1 mRUp_ok1 (fun _ h => absurd h List.not_mem_nil) ck_487
/-- M.must -/
def cx_488 : zCtx := (208, ([ui0, ui1489, (1, 2), ui52, ui52], [ur1331], [], [], [uV2, uV1809], [uF1422, uF1423, uF1425, uF178], [uG1490]), [([ui0, ui1489, (1, 2), ui52, ui52], [ur1331], [], [], [], [], [])], [], 21, 1, 21)
set_option maxRecDepth 1000000 in
theorem ck_488 : x_ok mLT1 [cx_487, cx_421] mTS2 mTC2 mRUp cx_488 [(2, [0]), (17, [1])] [(15, uN1456)] [] (8, []) 13 11 = true := by decide +kernel
theorem sn_488 {W : Bool} {X : List Int32} : y_Snd (mGw W) mLT1 (J2 W X) X cx_488 := y_ok J2_J mTS2_ok1 mTC2_ok1 mRUp_ok1 (List.forall_mem_cons.mpr ⟨sn_487, List.forall_mem_cons.mpr ⟨sn_421, fun _ h => absurd h List.not_mem_nil⟩⟩) ck_488
def cx_489p : zS := ([ui0, ui1812, (0, 0), ui52, ui52, ui1343, ui52], [ur1331, ur1345, ur1346, ur1347, ur1348], [uL287], [], [uV2, uV1809], (cx_413pf_0 (cx_413pf_1 [])), [uG1434, uG1435, (62, [uL98, uL9, uL267, uL104, uL78])])
/-- M.must -/
def cx_489 : zCtx := (208, cx_489p, [([ui0, ui1812, (0, 0), ui52, ui52, ui1343, ui52, (1, 2)], [ur1331, ur1345, ur1346, ur1347, ur1348], [uL63], [], [], [uF1167, uF1452, uF1422], [uG1453]), ([ui0, (4, 399), (0, 0), ui52, ui52, ui1810, ui52], [ur1331, ur1345, ur1346, ur1347, ur1348], [uL65, ((-13), [(5, 1)]), (13, [(5, (-1))]), uL63, uL63], [], [], [uF1438, uF1423, uF1425], [uG1439, uG1436, uG1439])], [uk1440, uk1430, uk1431], 33, 2, 41)
set_option maxRecDepth 1000000 in
theorem ck_489 : x_ok mLT1 [cx_487, cx_413, cx_416] mTS2 mTC2 mRUp cx_489 [(2, [0]), (9, [1]), (17, [2])] [(9, [1000243]), (15, uN1456)] [] (8, []) 25 11 = true := by decide +kernel
theorem sn_489 {W : Bool} {X : List Int32} : y_Snd (mGw W) mLT1 (J2 W X) X cx_489 := y_ok J2_J mTS2_ok1 mTC2_ok1 mRUp_ok1 (List.forall_mem_cons.mpr ⟨sn_487, List.forall_mem_cons.mpr ⟨sn_413, List.forall_mem_cons.mpr ⟨sn_416, fun _ h => absurd h List.not_mem_nil⟩⟩⟩) ck_489
/-- M.is -/
def cx_490 : zCtx := (202, ([ui0, ui1489, (0, 2), ui1343], [ur1331, ur1345], [], [], [uV2, uV1813], [uF1422, uF1423, uF1349, uF1424], []), [([ui0, ui1489, (0, 0), ui1814], [ur1331, ur1345], [], [], [uV64], [], []), ([ui0, ui1489, (0, 0), (0, 30)], [ur1331, ur1345], [], [], [uV62], [], []), ([ui0, ui1489, (0, 0), (32, 41)], [ur1331, ur1345], [], [], [uV62], [], []), ([ui0, ui1489, (1, 2), ui1343], [ur1331, ur1345], [], [], [uV62], [], [])], [], 13, 0, 0)
set_option maxRecDepth 1000000 in
theorem ck_490 : x_ok mLT1 [] mTS2 mTC2 mRUp cx_490 [] [] [] (13, []) 0 16 = true := by decide +kernel
theorem sn_490 {W : Bool} {X : List Int32} : y_Snd (mGw W) mLT1 (J2 W X) X cx_490 := y_ok J2_J mTS2_ok1 mTC2_ok1 mRUp_ok1 (fun _ h => absurd h List.not_mem_nil) ck_490
/-- M.must -/
def cx_491 : zCtx := (208, ([ui0, ui1489, (1, 2), ui52, ui52], [ur1331], [], [], [uV2, uV1813], [uF1422, uF1423, uF1425, uF178], [uG1490]), [([ui0, ui1489, (1, 2), ui52, ui52], [ur1331], [], [], [], [], [])], [], 21, 1, 21)
set_option maxRecDepth 1000000 in
theorem ck_491 : x_ok mLT1 [cx_490, cx_421] mTS2 mTC2 mRUp cx_491 [(2, [0]), (17, [1])] [(15, uN1456)] [] (8, []) 13 11 = true := by decide +kernel
theorem sn_491 {W : Bool} {X : List Int32} : y_Snd (mGw W) mLT1 (J2 W X) X cx_491 := y_ok J2_J mTS2_ok1 mTC2_ok1 mRUp_ok1 (List.forall_mem_cons.mpr ⟨sn_490, List.forall_mem_cons.mpr ⟨sn_421, fun _ h => absurd h List.not_mem_nil⟩⟩) ck_491
def cx_492p : zS := ([ui0, ui1815, (0, 0), ui52, ui52, ui1343, ui52], [ur1331, ur1345, ur1346, ur1347, ur1348], [uL632], [], [uV2, uV1813], (cx_413pf_0 (cx_413pf_1 [])), [uG1434, uG1435, (62, [uL98, uL9, uL525, uL104, uL78])])
/-- M.must -/
def cx_492 : zCtx := (208, cx_492p, [([ui0, ui1815, (0, 0), ui52, ui52, ui1343, ui52, (1, 2)], [ur1331, ur1345, ur1346, ur1347, ur1348], [uL63], [], [], [uF1167, uF1452, uF1422], [uG1453]), ([ui0, (6, 399), (0, 0), ui52, ui52, ui1814, ui52], [ur1331, ur1345, ur1346, ur1347, ur1348], [uL65, ((-31), [(5, 1)]), (31, [(5, (-1))]), uL63, uL63], [], [], [uF1438, uF1423, uF1425], [uG1439, uG1436, uG1439])], [uk1440, uk1430, uk1431], 33, 2, 41)
set_option maxRecDepth 1000000 in
theorem ck_492 : x_ok mLT1 [cx_490, cx_413, cx_416] mTS2 mTC2 mRUp cx_492 [(2, [0]), (9, [1]), (17, [2])] [(9, [1000243]), (15, uN1456)] [] (8, []) 25 11 = true := by decide +kernel
theorem sn_492 {W : Bool} {X : List Int32} : y_Snd (mGw W) mLT1 (J2 W X) X cx_492 := y_ok J2_J mTS2_ok1 mTC2_ok1 mRUp_ok1 (List.forall_mem_cons.mpr ⟨sn_490, List.forall_mem_cons.mpr ⟨sn_413, List.forall_mem_cons.mpr ⟨sn_416, fun _ h => absurd h List.not_mem_nil⟩⟩⟩) ck_492
def cx_493pi_0 (t : List (Int × Int)) : List (Int × Int) := ui0 :: ui406 :: (0, 0) :: (0, 0) :: ui52 :: ui1590 :: ui767 :: ui1592 :: t
def cx_493pi_1 (t : List (Int × Int)) : List (Int × Int) := (0, 1) :: ui1593 :: (0, 2) :: ui1591 :: ui1591 :: ui52 :: ui304 :: (0, 6) :: t
def cx_493pi_2 (t : List (Int × Int)) : List (Int × Int) := (0, 1) :: ui48 :: (0, 5) :: ui52 :: ui68 :: (0, 1) :: ui31 :: t
def cx_493pr_0 (t : List (Nat × Bool)) : List (Nat × Bool) := ur1331 :: ur1392 :: ur1393 :: ur1345 :: ur1346 :: ur1347 :: ur1348 :: ur1381 :: t
def cx_493pr_1 (t : List (Nat × Bool)) : List (Nat × Bool) := ur1387 :: ur1388 :: ur1378 :: ur1379 :: ur1389 :: ur1390 :: ur1391 :: t
def cx_493pf_0 (t : List zFa) : List zFa := uF1422 :: uF1594 :: uF1442 :: uF1428 :: uF1595 :: uF1596 :: uF1597 :: uF1598 :: t
def cx_493pf_1 (t : List zFa) : List zFa := uF1599 :: uF1624 :: (0, (false, 5, 0, []), 2, 3, 0, []) :: (0, (false, 6, 0, []), 2, 4, 0, []) :: (0, (false, 7, 0, []), 2, 5, 0, []) :: (0, (false, 8, 0, []), 2, 6, 0, []) :: uF1750 :: uF1751 :: t
def cx_493pf_2 (t : List zFa) : List zFa := uF1816 :: uF1817 :: uF1753 :: uF1754 :: uF1625 :: uF1626 :: (0, (false, 31, 0, []), 2, 10, 0, []) :: (0, (false, 32, 0, []), 2, 11, 0, []) :: t
def cx_493pf_3 (t : List zFa) : List zFa := uF1405 :: uF1406 :: uF1407 :: t
def cx_493pg_0 (t : List zTg) : List zTg := uG1818 :: uG1764 :: uG1765 :: (216, [uL207, uL9, uL131, uL78, uL63, uL104, uL63]) :: uG1819 :: t
def cx_493p : zS := ((cx_493pi_0 (cx_493pi_1 (cx_493pi_2 []))), (cx_493pr_0 (cx_493pr_1 [])), [uL1601, uL63, ((-2), [(1, 1), (6, (-1)), (8, 420)]), uL1767], [], [uV2], (cx_493pf_0 (cx_493pf_1 (cx_493pf_2 (cx_493pf_3 [])))), (cx_493pg_0 []))
def cx_493q0i_0 (t : List (Int × Int)) : List (Int × Int) := ui0 :: ui1476 :: (0, 0) :: (0, 0) :: ui52 :: ui1590 :: ui1611 :: ui1592 :: t
def cx_493q0i_1 (t : List (Int × Int)) : List (Int × Int) := (0, 1) :: ui1593 :: (0, 2) :: ui1591 :: ui1591 :: ui52 :: ui304 :: (0, 6) :: t
def cx_493q0i_2 (t : List (Int × Int)) : List (Int × Int) := (0, 1) :: ui48 :: (0, 5) :: ui52 :: ui68 :: (0, 1) :: ui31 :: ui1731 :: t
def cx_493q0i_3 (t : List (Int × Int)) : List (Int × Int) := (0, 0) :: ui1489 :: ui1592 :: t
def cx_493q0f_0 (t : List zFa) : List zFa := uF1605 :: uF1820 :: uF1777 :: uF1821 :: uF1779 :: uF1442 :: uF1428 :: uF1817 :: t
def cx_493q0f_1 (t : List zFa) : List zFa := uF1817 :: uF1594 :: uF1606 :: uF1817 :: t
def cx_493q0g_0 (t : List zTg) : List zTg := uG1818 :: uG1819 :: (0, [uL78, uL65, uL1678]) :: uG1783 :: (40, [uL207, uL1680, uL208, uL65, uL67, uL209, uL213, uL277, uL353, uL408]) :: (71, [uL207, uL1680]) :: (216, [uL207, uL1680, uL131, uL1678, uL1682, uL104, uL36]) :: t
def cx_493q0 : zS := ((cx_493q0i_0 (cx_493q0i_1 (cx_493q0i_2 (cx_493q0i_3 [])))), (cx_493pr_0 (cx_493pr_1 [])), [((-2), [(8, 420), (23, (-1)), (25, 1)]), (0, [(1, (-1)), (6, 1), (23, (-1)), (25, 1)]), ((-1), [(1, (-1)), (25, 1)]), (0, [(6, (-1)), (23, 1)]), uL1786], [], [], (cx_493q0f_0 (cx_493q0f_1 [])), (cx_493q0g_0 []))
def cx_493q1i_0 (t : List (Int × Int)) : List (Int × Int) := ui0 :: ui406 :: (0, 0) :: (0, 0) :: ui52 :: ui1590 :: ui767 :: ui1592 :: t
def cx_493q1i_1 (t : List (Int × Int)) : List (Int × Int) := (0, 1) :: ui1593 :: (0, 2) :: ui1591 :: ui1591 :: ui52 :: ui304 :: (0, 6) :: t
def cx_493q1i_2 (t : List (Int × Int)) : List (Int × Int) := (0, 1) :: ui48 :: (0, 5) :: ui52 :: ui68 :: (0, 1) :: ui31 :: ui1591 :: t
def cx_493q1i_3 (t : List (Int × Int)) : List (Int × Int) := ui52 :: (1, 2) :: ui406 :: ui425 :: (0, 7) :: t
def cx_493q1f_0 (t : List zFa) : List zFa := uF1605 :: uF1820 :: uF1769 :: uF1770 :: uF1771 :: uF1821 :: uF1817 :: (0, (false, 43, 0, []), 0, 0, 0, [(27, 1)]) :: t
def cx_493q1f_1 (t : List zFa) : List zFa := (0, (false, 12, 0, []), 0, 0, 0, [(28, 1)]) :: uF1817 :: uF1606 :: uF1817 :: t
def cx_493q1 : zS := ((cx_493q1i_0 (cx_493q1i_1 (cx_493q1i_2 (cx_493q1i_3 [])))), (cx_493pr_0 (cx_493pr_1 [])), [uL1768], [], [], (cx_493q1f_0 (cx_493q1f_1 [])), [uG1818, uG1819, uG1774])
/-- M.term -/
def cx_493 : zCtx := (219, cx_493p, [cx_493q0, cx_493q1], kc_76, 14189250, 4, 83)
set_option maxRecDepth 1000000 in
theorem ck_493 : x_ok mLT1 [cx_486] mTS2 mTC2 mRUp cx_493 [(21, [0])] [(0, [1000610])] [] (26, []) 14189224 29 = true := by decide +kernel
theorem sn_493 {W : Bool} {X : List Int32} : y_Snd (mGw W) mLT1 (J2 W X) X cx_493 := y_ok J2_J mTS2_ok1 mTC2_ok1 mRUp_ok1 (List.forall_mem_cons.mpr ⟨sn_486, fun _ h => absurd h List.not_mem_nil⟩) ck_493
/-- M.is -/
def cx_494 : zCtx := (202, ([ui0, ui1489, (0, 2), ui1343], [ur1331, ur1345], [], [], [uV2, uV1822], [uF1422, uF1423, uF1349, uF1424], []), [([ui0, ui1489, (0, 0), ui1823], [ur1331, ur1345], [], [], [uV64], [], []), ([ui0, ui1489, (0, 0), (0, 31)], [ur1331, ur1345], [], [], [uV62], [], []), ([ui0, ui1489, (0, 0), (33, 41)], [ur1331, ur1345], [], [], [uV62], [], []), ([ui0, ui1489, (1, 2), ui1343], [ur1331, ur1345], [], [], [uV62], [], [])], [], 13, 0, 0)
set_option maxRecDepth 1000000 in
theorem ck_494 : x_ok mLT1 [] mTS2 mTC2 mRUp cx_494 [] [] [] (13, []) 0 16 = true := by decide +kernel
theorem sn_494 {W : Bool} {X : List Int32} : y_Snd (mGw W) mLT1 (J2 W X) X cx_494 := y_ok J2_J mTS2_ok1 mTC2_ok1 mRUp_ok1 (fun _ h => absurd h List.not_mem_nil) ck_494
/-- M.must -/
def cx_495 : zCtx := (208, ([ui0, ui1489, (1, 2), ui52, ui52], [ur1331], [], [], [uV2, uV1822], [uF1422, uF1423, uF1425, uF178], [uG1490]), [([ui0, ui1489, (1, 2), ui52, ui52], [ur1331], [], [], [], [], [])], [], 21, 1, 21)
set_option maxRecDepth 1000000 in
theorem ck_495 : x_ok mLT1 [cx_494, cx_421] mTS2 mTC2 mRUp cx_495 [(2, [0]), (17, [1])] [(15, uN1456)] [] (8, []) 13 11 = true := by decide +kernel
theorem sn_495 {W : Bool} {X : List Int32} : y_Snd (mGw W) mLT1 (J2 W X) X cx_495 := y_ok J2_J mTS2_ok1 mTC2_ok1 mRUp_ok1 (List.forall_mem_cons.mpr ⟨sn_494, List.forall_mem_cons.mpr ⟨sn_421, fun _ h => absurd h List.not_mem_nil⟩⟩) ck_495
def cx_496p : zS := ([ui0, ui1824, (0, 0), ui52, ui52, ui1343, ui52], [ur1331, ur1345, ur1346, ur1347, ur1348], [uL525], [], [uV2, uV1822], (cx_413pf_0 (cx_413pf_1 [])), [uG1434, uG1435, (62, [uL98, uL9, uL627, uL104, uL78])])
/-- M.must -/
def cx_496 : zCtx := (208, cx_496p, [([ui0, ui1824, (0, 0), ui52, ui52, ui1343, ui52, (1, 2)], [ur1331, ur1345, ur1346, ur1347, ur1348], [uL63], [], [], [uF1167, uF1452, uF1422], [uG1453]), ([ui0, (8, 399), (0, 0), ui52, ui52, ui1823, ui52], [ur1331, ur1345, ur1346, ur1347, ur1348], [uL65, ((-32), [(5, 1)]), (32, [(5, (-1))]), uL63, uL63], [], [], [uF1438, uF1423, uF1425], [uG1439, uG1436, uG1439])], [uk1440, uk1430, uk1431], 33, 2, 41)
set_option maxRecDepth 1000000 in
theorem ck_496 : x_ok mLT1 [cx_494, cx_413, cx_416] mTS2 mTC2 mRUp cx_496 [(2, [0]), (9, [1]), (17, [2])] [(9, [1000243]), (15, uN1456)] [] (8, []) 25 11 = true := by decide +kernel
theorem sn_496 {W : Bool} {X : List Int32} : y_Snd (mGw W) mLT1 (J2 W X) X cx_496 := y_ok J2_J mTS2_ok1 mTC2_ok1 mRUp_ok1 (List.forall_mem_cons.mpr ⟨sn_494, List.forall_mem_cons.mpr ⟨sn_413, List.forall_mem_cons.mpr ⟨sn_416, fun _ h => absurd h List.not_mem_nil⟩⟩⟩) ck_496
def cx_497pi_0 (t : List (Int × Int)) : List (Int × Int) := ui0 :: (0, 3) :: ui348 :: (0, 0) :: (0, 0) :: ui52 :: (0, 1) :: ui1610 :: t
def cx_497pi_1 (t : List (Int × Int)) : List (Int × Int) := ui1611 :: ui1592 :: (0, 2) :: ui1591 :: ui1591 :: ui52 :: (0, 6) :: ui48 :: t
def cx_497pi_2 (t : List (Int × Int)) : List (Int × Int) := (0, 5) :: ui52 :: ui68 :: ui52 :: (0, 6) :: ui48 :: (0, 5) :: ui49 :: t
def cx_497pi_3 (t : List (Int × Int)) : List (Int × Int) := (0, 1) :: ui31 :: t
def cx_497pr_0 (t : List (Nat × Bool)) : List (Nat × Bool) := ur1331 :: ur1389 :: ur1390 :: ur1391 :: ur1392 :: ur1393 :: ur1378 :: ur1379 :: t
def cx_497pr_1 (t : List (Nat × Bool)) : List (Nat × Bool) := ur1345 :: ur1346 :: ur1347 :: ur1348 :: ur1381 :: ur1491 :: ur1387 :: ur1388 :: t
def cx_497pf_0 (t : List zFa) : List zFa := uF1441 :: uF1612 :: uF1613 :: uF1136 :: uF1494 :: uF1614 :: uF1615 :: uF1616 :: t
def cx_497pf_1 (t : List zFa) : List zFa := uF1617 :: uF1618 :: uF1619 :: uF1620 :: uF1621 :: uF1622 :: uF1623 :: uF1624 :: t
def cx_497pf_2 (t : List zFa) : List zFa := uF1825 :: uF1826 :: uF1827 :: uF458 :: uF1828 :: uF1829 :: uF1830 :: uF1831 :: t
def cx_497pf_3 (t : List zFa) : List zFa := uF1832 :: uF1833 :: uF1834 :: uF1835 :: t
def cx_497pg_0 (t : List zTg) : List zTg := uG1627 :: uG1836 :: uG1837 :: uG1838 :: (216, [uL207, uL67, uL78, uL131, uL63, uL79, uL63]) :: uG1839 :: uG1840 :: uG1841 :: t
def cx_497p : zS := ((cx_497pi_0 (cx_497pi_1 (cx_497pi_2 (cx_497pi_3 [])))), (cx_497pr_0 (cx_497pr_1 [])), [((-1), [(2, 1), (6, 420), (8, (-1))]), ((-1), [(2, 1), (6, 520), (7, (-4))]), uL149], [], [uV2, uV11], (cx_497pf_0 (cx_497pf_1 (cx_497pf_2 (cx_497pf_3 [])))), (cx_497pg_0 []))
def cx_497q0i_0 (t : List (Int × Int)) : List (Int × Int) := ui0 :: (0, 3) :: ui348 :: (0, 0) :: (0, 0) :: ui52 :: (0, 1) :: ui1610 :: t
def cx_497q0i_1 (t : List (Int × Int)) : List (Int × Int) := ui1611 :: ui1592 :: (0, 2) :: ui1591 :: ui1591 :: ui52 :: (0, 6) :: ui48 :: t
def cx_497q0i_2 (t : List (Int × Int)) : List (Int × Int) := (0, 5) :: ui52 :: ui68 :: ui52 :: (0, 6) :: ui48 :: (0, 5) :: ui49 :: t
def cx_497q0i_3 (t : List (Int × Int)) : List (Int × Int) := (0, 1) :: ui31 :: ui1842 :: ui52 :: (1, 2) :: ui348 :: (0, 7) :: ui1591 :: t
def cx_497q0i_4 (t : List (Int × Int)) : List (Int × Int) := ui1592 :: ui1593 :: ui1593 :: ui1591 :: (0, 2) :: ui1591 :: ui1591 :: t
def cx_497q0 : zS := ((cx_497q0i_0 (cx_497q0i_1 (cx_497q0i_2 (cx_497q0i_3 (cx_497q0i_4 []))))), (cx_497pr_0 (cx_497pr_1 [])), [(0, [(2, (-1)), (29, 1)])], [], [], [(0, (false, 33, 0, []), 0, 0, 0, [(26, 1)]), (0, (false, 14, 0, []), 0, 0, 0, [(27, 1)]), (0, (false, 13, 0, []), 0, 0, 0, [(28, 1)]), (0, (false, 11, 0, []), 0, 0, 0, [(29, 1)]), (0, (false, 12, 0, []), 0, 0, 0, [(30, 1)]), (0, (false, 39, 0, []), 0, 0, 0, [(31, 1)]), (0, (false, 43, 0, []), 0, 0, 0, [(32, 1)]), uF1830], [uG1841, (3, [uL78, uL1843, uL1844, uL1845, uL1846, uL1847, uL1848]), (41, [uL207, uL1689, uL1683])])
def cx_497q1i_0 (t : List (Int × Int)) : List (Int × Int) := ui0 :: (0, 3) :: ui1454 :: (0, 0) :: (0, 0) :: ui52 :: (0, 1) :: ui1610 :: t
def cx_497q1i_1 (t : List (Int × Int)) : List (Int × Int) := ui1611 :: ui1592 :: (0, 2) :: ui1591 :: ui1591 :: ui52 :: (0, 6) :: ui48 :: t
def cx_497q1i_2 (t : List (Int × Int)) : List (Int × Int) := (0, 5) :: ui52 :: ui68 :: ui52 :: (0, 6) :: ui48 :: (0, 5) :: ui49 :: t
def cx_497q1i_3 (t : List (Int × Int)) : List (Int × Int) := (0, 1) :: ui31 :: ui1812 :: (1, 230) :: (0, 0) :: ui1731 :: (0, 2) :: ui1591 :: t
def cx_497q1i_4 (t : List (Int × Int)) : List (Int × Int) := ui1591 :: t
def cx_497q1f_0 (t : List zFa) : List zFa := uF1771 :: uF1613 :: uF1136 :: (0, (false, 33, 0, []), 0, 0, 0, [(27, 1)]) :: uF1773 :: uF1849 :: uF1830 :: uF1830 :: t
def cx_497q1f_1 (t : List zFa) : List zFa := uF1612 :: uF1830 :: uF1830 :: t
def cx_497q1g_0 (t : List zTg) : List zTg := uG1841 :: uG1850 :: uG1851 :: uG1852 :: (3, [uL78, uL1683, uL1683, uL1688, uL1807, uL1853, uL1854]) :: uG1775 :: (40, [uL207, uL1682, uL63, uL63, uL63, uL208, uL209, uL212, uL213, (1, [(18, 1)])]) :: (64, [uL207, uL1682, uL208]) :: t
def cx_497q1g_1 (t : List zTg) : List zTg := (216, [uL207, uL1682, uL78, uL1688, uL63, uL1683, uL63]) :: t
def cx_497q1 : zS := ((cx_497q1i_0 (cx_497q1i_1 (cx_497q1i_2 (cx_497q1i_3 (cx_497q1i_4 []))))), (cx_497pr_0 (cx_497pr_1 [])), [(0, [(6, 420), (26, 1), (29, (-1))]), (0, [(6, 520), (26, 1), (27, (-4))]), uL1781, ((-1), [(2, (-1)), (26, 1)])], [], [], (cx_497q1f_0 (cx_497q1f_1 [])), (cx_497q1g_0 (cx_497q1g_1 [])))
/-- M.tellLaw -/
def cx_497 : zCtx := (214, cx_497p, [cx_497q0, cx_497q1], kc_77, 14197530, 5, 103)
def cq_497 : List zCtx := [cx_458, cx_459, cx_412, cx_413, cx_460, cx_486, cx_488, cx_489, cx_491, cx_492, cx_456, cx_493, cx_495, cx_496, cx_430, cx_431]
def cs_497 : List (Nat × List Nat) := [(2, [0]), (22, [1]), (35, [2]), (50, [3]), (77, [4, 5]), (83, [6, 7]), (107, [5]), (113, [8, 9]), (117, [10, 11]), (123, [12, 13]), (140, [10, 11]), (145, [14, 15])]
def hs_497 : List (Nat × List Nat) := [(0, uN1629), (5, uN1630), (19, [1000246]), (33, [1000378]), (49, [1000379]), (53, [1000380, 1000381, 1000596, 35, 1000610, 1000611]), (80, [11, 740, 741, 35, 1000246, 1000382, 1000612]), (86, [1000383, 1000384, 1000597]), (110, [12, 740, 741, 35, 1000246, 1000385, 1000612]), (116, [1000386, 1000387, 1000598]), (117, [35]), (120, [13, 740, 741, 35, 1000246, 1000388, 1000612]), (126, [1000389, 1000390, 1000599]), (129, [1000600, 1000391, 1000392, 35, 1000610, 1000611]), (140, [35]), (143, [13, 740, 741, 1000246, 1000393, 1000612]), (148, uN1631), (156, [1000601]), (170, [1000602]), (187, [14, 1000302, 1000603])]
def nd_497_0pi_0 (t : List (Int × Int)) : List (Int × Int) := ui0 :: (0, 3) :: ui1454 :: (0, 0) :: (0, 0) :: ui52 :: (0, 1) :: ui1610 :: t
def nd_497_0pi_1 (t : List (Int × Int)) : List (Int × Int) := ui1611 :: ui1592 :: (0, 2) :: ui1591 :: ui1591 :: ui52 :: (0, 6) :: ui48 :: t
def nd_497_0pi_2 (t : List (Int × Int)) : List (Int × Int) := (0, 5) :: ui52 :: ui68 :: ui52 :: (0, 6) :: ui48 :: (0, 5) :: ui49 :: t
def nd_497_0pi_3 (t : List (Int × Int)) : List (Int × Int) := (0, 1) :: ui31 :: (0, 4) :: ui406 :: ui1610 :: ui1611 :: ui1592 :: (0, 2) :: t
def nd_497_0pi_4 (t : List (Int × Int)) : List (Int × Int) := ui1591 :: ui1591 :: ui68 :: ui407 :: (0, 6) :: ui48 :: (0, 5) :: ui49 :: t
def nd_497_0pf_0 (t : List zFa) : List zFa := (0, (false, 11, 0, []), 0, 0, 0, [(27, 1)]) :: uF1613 :: uF1136 :: uF1612 :: uF1494 :: (0, (false, 33, 0, []), 0, 0, 0, [(28, 1)]) :: uF1849 :: (0, (false, 43, 0, []), 0, 0, 0, [(30, 1)]) :: t
def nd_497_0pf_1 (t : List zFa) : List zFa := uF1617 :: uF1618 :: uF1619 :: uF1620 :: uF1621 :: uF1622 :: uF1623 :: uF1624 :: t
def nd_497_0pf_2 (t : List zFa) : List zFa := uF1825 :: uF1826 :: uF1827 :: uF458 :: uF1828 :: uF1829 :: uF1830 :: uF1831 :: t
def nd_497_0pf_3 (t : List zFa) : List zFa := uF1832 :: uF1833 :: uF1834 :: uF1835 :: t
def nd_497_0pg_0 (t : List zTg) : List zTg := uG1850 :: uG1851 :: uG1852 :: uG1836 :: uG1837 :: uG1838 :: uG1839 :: uG1840 :: t
def nd_497_0pg_1 (t : List zTg) : List zTg := uG1841 :: (3, [uL78, uL79, uL1689, uL1688, uL1853, uL1854, uL1843]) :: (58, [uL207, uL1683]) :: (40, [uL207, uL1683, (30, [(26, 1)]), uL63, uL63, uL208, uL209, uL212, uL213, uL277]) :: (216, [uL207, uL1683, uL78, uL1688, uL63, uL1689, uL63]) :: (222, [uL207, uL1844, uL78, uL9, uL79]) :: (40, [uL207, uL1844, uL1845, uL63, uL63, uL1846, uL1847, uL1848, uL1855, uL277]) :: t
def nd_497_0p : zS := ((nd_497_0pi_0 (nd_497_0pi_1 (nd_497_0pi_2 (nd_497_0pi_3 (nd_497_0pi_4 []))))), (cx_497pr_0 (cx_497pr_1 [])), [((-2), [(6, 420), (27, 1), (29, (-1))]), ((-2), [(6, 520), (27, 1), (28, (-4))]), uL1792], [uV2, uV11, uV142, (0, 0, 0, [(26, 1)])], [], (nd_497_0pf_0 (nd_497_0pf_1 (nd_497_0pf_2 (nd_497_0pf_3 [])))), (nd_497_0pg_0 (nd_497_0pg_1 [])))
def nd_497_0 : zN := (12, nd_497_0p, ((-3000000000000), [(3, (-3000000000000)), (4, (-3000000000000)), (26, (-1680)), (35, 100000000267)]))
def ns_497 : List zN := [nd_497_0]
set_option maxRecDepth 1000000 in
theorem ca_497 : x_okA mLT1 cq_497 mTS2 mTC2 mRUp cx_497 cs_497 hs_497 ns_497 (8280, []) 14189250 76 = true := by decide +kernel
set_option maxRecDepth 1000000 in
theorem cb_497_0 : x_okB mLT1 cq_497 mTS2 mTC2 mRUp cx_497 cs_497 hs_497 ns_497 (8280, []) 14189250 76 nd_497_0 = true := by decide +kernel
set_option maxRecDepth 1000000 in
theorem cc_497 : x_okC mLT1 cq_497 mTS2 mTC2 mRUp cx_497 cs_497 hs_497 ns_497 (8280, []) 14189250 76 = true := by decide +kernel
theorem ck_497 : x_ok mLT1 cq_497 mTS2 mTC2 mRUp cx_497 cs_497 hs_497 ns_497 (8280, []) 14189250 76 = true := x_ok_of ca_497 (List.forall_mem_cons.mpr ⟨cb_497_0, fun _ h => absurd h List.not_mem_nil⟩) cc_497
theorem sn_497 {W : Bool} {X : List Int32} : y_Snd (mGw W) mLT1 (J2 W X) X cx_497 := y_ok J2_J mTS2_ok1 mTC2_ok1 mRUp_ok1 (List.forall_mem_cons.mpr ⟨sn_458, List.forall_mem_cons.mpr ⟨sn_459, List.forall_mem_cons.mpr ⟨sn_412, List.forall_mem_cons.mpr ⟨sn_413, List.forall_mem_cons.mpr ⟨sn_460, List.forall_mem_cons.mpr ⟨sn_486, List.forall_mem_cons.mpr ⟨sn_488, List.forall_mem_cons.mpr ⟨sn_489, List.forall_mem_cons.mpr ⟨sn_491, List.forall_mem_cons.mpr ⟨sn_492, List.forall_mem_cons.mpr ⟨sn_456, List.forall_mem_cons.mpr ⟨sn_493, List.forall_mem_cons.mpr ⟨sn_495, List.forall_mem_cons.mpr ⟨sn_496, List.forall_mem_cons.mpr ⟨sn_430, List.forall_mem_cons.mpr ⟨sn_431, fun _ h => absurd h List.not_mem_nil⟩⟩⟩⟩⟩⟩⟩⟩⟩⟩⟩⟩⟩⟩⟩⟩) ck_497
def cx_498pi_0 (t : List (Int × Int)) : List (Int × Int) := ui0 :: ui68 :: (0, 0) :: (0, 0) :: ui52 :: (0, 5) :: ui52 :: (0, 1) :: t
def cx_498pi_1 (t : List (Int × Int)) : List (Int × Int) := (0, 6) :: ui1610 :: ui1611 :: ui1592 :: (0, 2) :: ui1591 :: ui1591 :: ui52 :: t
def cx_498pi_2 (t : List (Int × Int)) : List (Int × Int) := ui48 :: ui68 :: ui1343 :: ui52 :: (0, 1) :: (0, 6) :: ui196 :: ui196 :: t
def cx_498pi_3 (t : List (Int × Int)) : List (Int × Int) := ui196 :: ui196 :: ui196 :: ui196 :: ui196 :: ui196 :: (0, 1) :: (0, 6) :: t
def cx_498pi_4 (t : List (Int × Int)) : List (Int × Int) := (0, 1) :: ui31 :: t
def cx_498pr_0 (t : List (Nat × Bool)) : List (Nat × Bool) := ur1331 :: ur1380 :: ur1345 :: ur1346 :: ur1347 :: ur1348 :: ur1381 :: ur1491 :: t
def cx_498pr_1 (t : List (Nat × Bool)) : List (Nat × Bool) := ur1382 :: ur1383 :: ur1384 :: ur1385 :: ur1386 :: ur1492 :: ur1493 :: ur1387 :: t
def cx_498pr_2 (t : List (Nat × Bool)) : List (Nat × Bool) := ur1388 :: ur1378 :: ur1379 :: ur1389 :: ur1390 :: ur1391 :: ur1392 :: ur1393 :: t
def cx_498pf_0 (t : List zFa) : List zFa := uF1422 :: uF1594 :: uF1442 :: uF1428 :: (0, (false, 15, 0, []), 0, 0, 0, [(5, 1)]) :: (0, (false, 16, 0, []), 0, 0, 0, [(6, 1)]) :: (0, (false, 19, 0, []), 0, 0, 0, [(7, 1)]) :: uF1856 :: t
def cx_498pf_1 (t : List zFa) : List zFa := (0, (false, 33, 0, []), 0, 0, 0, [(9, 1)]) :: (0, (false, 39, 0, []), 0, 0, 0, [(10, 1)]) :: (0, (false, 43, 0, []), 0, 0, 0, [(11, 1)]) :: uF1495 :: uF1857 :: uF1600 :: uF1109 :: uF1110 :: t
def cx_498pf_2 (t : List zFa) : List zFa := uF1362 :: uF1363 :: uF1497 :: uF1858 :: uF1499 :: (2, (true, 0, 0, [(1, 1)]), 0, 0, 0, [(18, 1)]) :: (3, (true, 0, 0, [(1, 1)]), 0, 0, 0, [(19, 1)]) :: (0, (false, 26, 0, []), 2, 8, 0, []) :: t
def cx_498pf_3 (t : List zFa) : List zFa := (0, (false, 27, 0, []), 2, 9, 0, []) :: (9, (true, 0, 0, [(7, 1)]), 0, 0, 0, [(22, 1)]) :: (0, (false, 28, 0, []), 2, 10, 0, []) :: (10, (true, 0, 0, [(7, 1)]), 0, 0, 0, [(23, 1)]) :: (0, (false, 29, 0, []), 2, 11, 0, []) :: (11, (true, 0, 0, [(7, 1)]), 0, 0, 0, [(24, 1)]) :: (0, (false, 30, 0, []), 2, 12, 0, []) :: (12, (true, 0, 0, [(7, 1)]), 0, 0, 0, [(25, 1)]) :: t
def cx_498pf_4 (t : List zFa) : List zFa := (0, (false, 23, 0, []), 2, 13, 0, []) :: (0, (false, 24, 0, []), 2, 14, 0, []) :: (0, (false, 40, 0, []), 2, 15, 0, []) :: (0, (false, 41, 0, []), 2, 16, 0, []) :: (0, (false, 31, 0, []), 2, 17, 0, []) :: (0, (false, 32, 0, []), 2, 18, 0, []) :: (0, (false, 34, 0, []), 2, 19, 0, []) :: (0, (false, 35, 0, []), 2, 20, 0, []) :: t
def cx_498pf_5 (t : List zFa) : List zFa := (0, (false, 36, 0, []), 2, 21, 0, []) :: (0, (false, 37, 0, []), 2, 22, 0, []) :: (0, (false, 38, 0, []), 2, 23, 0, []) :: t
def cx_498pg_0 (t : List zTg) : List zTg := (3, [uL79, uL164, uL164, uL170, uL214, uL207, uL208]) :: uG1676 :: (40, [uL209, uL9, uL63, uL63, uL63, uL131, uL212, uL104, uL78, uL213]) :: (64, [uL209, uL9, uL131]) :: uG1859 :: (78, [uL209, uL9, uL79]) :: uG1860 :: (86, [uL209, uL9, uL266, uL1677]) :: t
def cx_498pg_1 (t : List zTg) : List zTg := (86, [uL209, uL9, uL283, uL1678]) :: (86, [uL209, uL9, uL285, uL1679]) :: (86, [uL209, uL9, uL287, uL1680]) :: uG1861 :: uG1862 :: uG1863 :: uG1864 :: uG1865 :: t
def cx_498pg_2 (t : List zTg) : List zTg := (95, [uL209, uL9, uL131, uL79, (0, [(7, 6), (8, 1)])]) :: (216, [uL209, uL9, uL79, uL170, uL63, uL164, uL63]) :: uG1866 :: t
def cx_498p : zS := ((cx_498pi_0 (cx_498pi_1 (cx_498pi_2 (cx_498pi_3 (cx_498pi_4 []))))), (cx_498pr_0 (cx_498pr_1 (cx_498pr_2 []))), [(0, [(1, 1), (7, 420), (10, (-1))]), (0, [(1, 1), (7, 520), (9, (-4))]), uL1177], [], [uV2], (cx_498pf_0 (cx_498pf_1 (cx_498pf_2 (cx_498pf_3 (cx_498pf_4 (cx_498pf_5 [])))))), (cx_498pg_0 (cx_498pg_1 (cx_498pg_2 []))))
def cx_498q0i_0 (t : List (Int × Int)) : List (Int × Int) := ui0 :: ui68 :: (0, 0) :: (0, 0) :: ui52 :: (0, 5) :: ui52 :: (0, 1) :: t
def cx_498q0i_1 (t : List (Int × Int)) : List (Int × Int) := (0, 6) :: ui1610 :: ui1611 :: ui1592 :: (0, 2) :: ui1591 :: ui1591 :: ui52 :: t
def cx_498q0i_2 (t : List (Int × Int)) : List (Int × Int) := ui48 :: ui68 :: ui1343 :: ui52 :: (0, 1) :: (0, 6) :: ui196 :: ui196 :: t
def cx_498q0i_3 (t : List (Int × Int)) : List (Int × Int) := ui196 :: ui196 :: ui196 :: ui196 :: ui196 :: ui196 :: (0, 1) :: (0, 6) :: t
def cx_498q0i_4 (t : List (Int × Int)) : List (Int × Int) := (0, 1) :: ui31 :: ui52 :: (1, 2) :: ui68 :: (0, 7) :: (0, 5) :: ui52 :: t
def cx_498q0i_5 (t : List (Int × Int)) : List (Int × Int) := ui1842 :: ui1591 :: ui1592 :: ui1593 :: ui1593 :: ui1591 :: (0, 2) :: ui1591 :: t
def cx_498q0i_6 (t : List (Int × Int)) : List (Int × Int) := ui1591 :: t
def cx_498q0f_0 (t : List zFa) : List zFa := (0, (false, 14, 0, []), 0, 0, 0, [(34, 1)]) :: (0, (false, 13, 0, []), 0, 0, 0, [(35, 1)]) :: uF1867 :: uF1858 :: uF1858 :: (0, (false, 12, 0, []), 0, 0, 0, [(37, 1)]) :: uF1868 :: uF1869 :: t
def cx_498q0f_1 (t : List zFa) : List zFa := uF1856 :: uF1870 :: uF1871 :: uF1872 :: uF1858 :: uF1857 :: t
def cx_498q0g_0 (t : List zTg) : List zTg := uG1873 :: uG1859 :: uG1860 :: uG1861 :: uG1862 :: uG1863 :: uG1864 :: uG1865 :: t
def cx_498q0g_1 (t : List zTg) : List zTg := uG1866 :: (3, [uL79, uL1874, uL1875, uL1876, uL1877, uL1878, uL1879]) :: (41, [uL209, uL1845, uL1844]) :: uG1859 :: uG1860 :: uG1861 :: uG1862 :: uG1863 :: t
def cx_498q0g_2 (t : List zTg) : List zTg := uG1864 :: uG1865 :: t
def cx_498q0 : zS := ((cx_498q0i_0 (cx_498q0i_1 (cx_498q0i_2 (cx_498q0i_3 (cx_498q0i_4 (cx_498q0i_5 (cx_498q0i_6 []))))))), (cx_498pr_0 (cx_498pr_1 (cx_498pr_2 []))), [(0, [(1, (-1)), (36, 1)])], [], [], (cx_498q0f_0 (cx_498q0f_1 [])), (cx_498q0g_0 (cx_498q0g_1 (cx_498q0g_2 []))))
def cx_498q1i_0 (t : List (Int × Int)) : List (Int × Int) := ui0 :: ui405 :: (0, 0) :: (0, 0) :: ui52 :: (0, 5) :: ui52 :: (0, 1) :: t
def cx_498q1i_1 (t : List (Int × Int)) : List (Int × Int) := (0, 6) :: ui1610 :: ui1611 :: ui1592 :: (0, 2) :: ui1591 :: ui1591 :: ui52 :: t
def cx_498q1i_2 (t : List (Int × Int)) : List (Int × Int) := ui48 :: ui68 :: ui1880 :: ui52 :: (0, 1) :: (0, 6) :: ui196 :: ui196 :: t
def cx_498q1i_3 (t : List (Int × Int)) : List (Int × Int) := ui196 :: ui196 :: ui196 :: ui196 :: ui196 :: ui196 :: (0, 1) :: (0, 6) :: t
def cx_498q1i_4 (t : List (Int × Int)) : List (Int × Int) := (0, 1) :: ui31 :: ui196 :: ui1489 :: ui48 :: (0, 5) :: ui52 :: (0, 6) :: t
def cx_498q1i_5 (t : List (Int × Int)) : List (Int × Int) := ui1610 :: ui1611 :: ui1592 :: ui196 :: ui196 :: ui196 :: (0, 2) :: ui1591 :: t
def cx_498q1i_6 (t : List (Int × Int)) : List (Int × Int) := ui1591 :: t
def cx_498q1f_0 (t : List zFa) : List zFa := (12, (true, 0, 0, [(7, 1)]), 0, 0, 0, [(34, 1)]) :: (0, (false, 11, 0, []), 0, 0, 0, [(35, 1)]) :: uF1442 :: uF1428 :: uF1881 :: uF1881 :: uF1594 :: (0, (false, 15, 0, []), 0, 0, 0, [(37, 1)]) :: t
def cx_498q1f_1 (t : List zFa) : List zFa := (0, (false, 16, 0, []), 0, 0, 0, [(38, 1)]) :: uF1882 :: uF1870 :: uF1871 :: uF1872 :: uF1881 :: (9, (true, 0, 0, [(7, 1)]), 0, 0, 0, [(43, 1)]) :: (10, (true, 0, 0, [(7, 1)]), 0, 0, 0, [(44, 1)]) :: t
def cx_498q1f_2 (t : List zFa) : List zFa := (11, (true, 0, 0, [(7, 1)]), 0, 0, 0, [(45, 1)]) :: (1, (true, 0, 0, [(7, 1)]), 0, 0, 0, [(39, 1)]) :: t
def cx_498q1g_0 (t : List zTg) : List zTg := (58, [uL209, uL1520]) :: uG1686 :: (68, [uL209, uL9, uL353]) :: uG1873 :: uG1859 :: uG1860 :: uG1861 :: uG1862 :: t
def cx_498q1g_1 (t : List zTg) : List zTg := uG1863 :: uG1864 :: uG1865 :: uG1866 :: (3, [uL79, uL1883, uL1883, uL1884, uL1877, uL1878, uL1879]) :: (58, [uL209, uL1845]) :: (40, [uL209, uL1845, uL63, uL63, uL63, uL1855, uL1846, uL1847, uL1848, (1, [(17, 1)])]) :: (64, [uL209, uL1845, uL1855]) :: t
def cx_498q1g_2 (t : List zTg) : List zTg := uG1859 :: (78, [uL209, uL1845, uL79]) :: uG1860 :: (86, [uL209, uL1845, uL266, uL1874]) :: (86, [uL209, uL1845, uL283, uL1875]) :: (86, [uL209, uL1845, uL285, uL1876]) :: (86, [uL209, uL1845, uL287, uL1844]) :: uG1861 :: t
def cx_498q1g_3 (t : List zTg) : List zTg := uG1862 :: uG1863 :: uG1864 :: uG1865 :: (95, [uL209, uL1845, uL1855, uL79, (0, [(7, 6), (39, 1)])]) :: (216, [uL209, uL1845, uL79, uL1884, uL63, uL1883, uL63]) :: t
def cx_498q1 : zS := ((cx_498q1i_0 (cx_498q1i_1 (cx_498q1i_2 (cx_498q1i_3 (cx_498q1i_4 (cx_498q1i_5 (cx_498q1i_6 []))))))), (cx_498pr_0 (cx_498pr_1 (cx_498pr_2 []))), [(0, [(1, (-1)), (35, 1)]), (0, [(7, 420), (35, 1), (41, (-1))]), (0, [(7, 520), (35, 1), (40, (-4))]), ((-1000), [(1, (-1000)), (35, 1000)])], [], [], (cx_498q1f_0 (cx_498q1f_1 (cx_498q1f_2 []))), (cx_498q1g_0 (cx_498q1g_1 (cx_498q1g_2 (cx_498q1g_3 [])))))
/-- M.tellOne -/
def cx_498 : zCtx := (203, cx_498p, [cx_498q0, cx_498q1], kc_78, 14197562, 6, 126)
def cq_498 : List zCtx := [cx_414, cx_432, cx_433, cx_442, cx_444, cx_447, cx_450, cx_453, cx_416, cx_413, cx_457, cx_497]
def cs_498 : List (Nat × List Nat) := [(76, [0]), (87, [1]), (105, [2]), (116, [3]), (134, [4]), (153, [5]), (172, [6]), (192, [7]), (232, [8]), (244, [9]), (249, [10, 11])]
def hs_498 : List (Nat × List Nat) := [(0, [1000246]), (65, [1000401]), (79, [740, 1000395, 1000396, 1000302, 1000397, 1000520]), (90, [740]), (94, [1000402]), (108, [740, 1000398, 1000399, 1000302, 1000400, 1000453]), (119, [740]), (137, [740]), (156, [740]), (175, [740]), (195, [740]), (230, [1000403, 1000404]), (235, [740]), (243, [1000405, 1000610]), (247, [740, 1000406, 1000407, 1000408, 1000409, 1000410, 1000302, 1000604]), (249, [35]), (252, [740, 743, 1000453, 1000491, 1000492, 1000493, 1000494, 1000495, 1000496, 1000497, 1000498, 1000520, 1000605, 1000606])]
def ns_498 : List zN := []
set_option maxRecDepth 1000000 in
theorem ca_498 : x_okA mLT1 cq_498 mTS2 mTC2 mRUp cx_498 cs_498 hs_498 ns_498 (32, []) 14197530 35 = true := by decide +kernel
set_option maxRecDepth 1000000 in
theorem cc_498 : x_okC mLT1 cq_498 mTS2 mTC2 mRUp cx_498 cs_498 hs_498 ns_498 (32, []) 14197530 35 = true := by decide +kernel
theorem ck_498 : x_ok mLT1 cq_498 mTS2 mTC2 mRUp cx_498 cs_498 hs_498 ns_498 (32, []) 14197530 35 = true := x_ok_of ca_498 (fun _ h => absurd h List.not_mem_nil) cc_498
theorem sn_498 {W : Bool} {X : List Int32} : y_Snd (mGw W) mLT1 (J2 W X) X cx_498 := y_ok J2_J mTS2_ok1 mTC2_ok1 mRUp_ok1 (List.forall_mem_cons.mpr ⟨sn_414, List.forall_mem_cons.mpr ⟨sn_432, List.forall_mem_cons.mpr ⟨sn_433, List.forall_mem_cons.mpr ⟨sn_442, List.forall_mem_cons.mpr ⟨sn_444, List.forall_mem_cons.mpr ⟨sn_447, List.forall_mem_cons.mpr ⟨sn_450, List.forall_mem_cons.mpr ⟨sn_453, List.forall_mem_cons.mpr ⟨sn_416, List.forall_mem_cons.mpr ⟨sn_413, List.forall_mem_cons.mpr ⟨sn_457, List.forall_mem_cons.mpr ⟨sn_497, fun _ h => absurd h List.not_mem_nil⟩⟩⟩⟩⟩⟩⟩⟩⟩⟩⟩⟩) ck_498
end
