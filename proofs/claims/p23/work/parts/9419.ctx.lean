noncomputable section
/-! ===== readings, by program, checked by the kernel ===== -/
def cx_446p : zS := ([ui0, ui48, ui68, (0, 0), ui52, ui52, ui1426, ui52], [ur1414, ur1428, ur1429, ur1430, ur1431], [uL1526, (20, [(1, (-1))])], [], [uV2, uV11, uV192], (cx_427pf_0 (cx_427pf_1 [])), [uG1527, uG1528, (69, [uL104, uL67, uL9, uL664, uL79])])
/-- M.roomFor -/
def cx_446 : zCtx := (204, cx_446p, [([ui0, ui48, ui68, (0, 0), ui52, ui52, ui1426, ui52], [ur1414, ur1428, ur1429, ur1430, ur1431], [uL63], [], [], [uF1209, uF1512, uF1524], [uG1529, uG1529]), ([ui0, ui1335, ui147, (0, 0), ui52, ui52, ui1460, ui52], [ur1414, ur1428, ur1429, ur1430, ur1431], [uL65, uL63, uL63, (19, [(1, (-1))])], [], [], [uF1530, uF1525, uF1511], [uG1531, uG1532, uG1531])], [uk1523, uk1513, uk1514], 35, 2, 41)
set_option maxRecDepth 1000000 in
theorem ck_446 : x_ok mLT1 [cx_425, cx_426] mTS2 mTC2 mRUp cx_446 [(7, [0]), (18, [1])] [(5, [1000336]), (17, [1000337])] [] (10, []) 25 13 = true := by decide +kernel
theorem sn_446 {W : Bool} {X : List Int32} : y_Snd (mGw W) mLT1 (J2 W X) X cx_446 := y_ok J2_J mTS2_ok1 mTC2_ok1 mRUp_ok1 (List.forall_mem_cons.mpr ⟨sn_425, List.forall_mem_cons.mpr ⟨sn_426, fun _ h => absurd h List.not_mem_nil⟩⟩) ck_446
/-- M.wrong -/
def cx_447 : zCtx := (209, ([ui0, ui1537, (0, 0), (0, 0), ui52, ui52], [ur1414, ur1429], [], [], [uV2, uV381, uV11], [uF1506, uF1540, uF1541, uF1509, uF1515], []), [([ui0, ui1537, (0, 0), (0, 0), ui52, ui52], [ur1414, ur1429], [], [], [], [uF1542, uF1610], [])], [uk1544, uk1545], 18, 0, 0)
set_option maxRecDepth 1000000 in
theorem ck_447 : x_ok mLT1 [] mTS2 mTC2 mRUp cx_447 [] [] [] (18, []) 0 21 = true := by decide +kernel
theorem sn_447 {W : Bool} {X : List Int32} : y_Snd (mGw W) mLT1 (J2 W X) X cx_447 := y_ok J2_J mTS2_ok1 mTC2_ok1 mRUp_ok1 (fun _ h => absurd h List.not_mem_nil) ck_447
/-- M.wrong -/
def cx_448 : zCtx := (209, ([ui0, ui1537, (0, 0), (1, 5), ui91, ui52], [ur1414, ur1429], [uL1546], [], [uV2, uV381, uV11], [uF1506, uF1540, uF1541, uF1509, uF1515], []), [([ui0, ui1537, (0, 0), (1, 5), ui91, ui93], [ur1414, ur1429], [uL1546], [], [], [], [])], [], 16, 0, 0)
set_option maxRecDepth 1000000 in
theorem ck_448 : x_ok mLT1 [] mTS2 mTC2 mRUp cx_448 [] [] [] (16, []) 0 19 = true := by decide +kernel
theorem sn_448 {W : Bool} {X : List Int32} : y_Snd (mGw W) mLT1 (J2 W X) X cx_448 := y_ok J2_J mTS2_ok1 mTC2_ok1 mRUp_ok1 (fun _ h => absurd h List.not_mem_nil) ck_448
def cx_449pi_0 (t : List (Int × Int)) : List (Int × Int) := ui0 :: ui348 :: (0, 0) :: ui52 :: (0, 5) :: ui52 :: (0, 6) :: ui52 :: t
def cx_449pi_1 (t : List (Int × Int)) : List (Int × Int) := (0, 1) :: ui48 :: ui68 :: ui52 :: ui1426 :: t
def cx_449pf_0 (t : List zFa) : List zFa := uF1505 :: uF1506 :: uF1508 :: uF1550 :: uF1542 :: uF1611 :: uF259 :: uF1432 :: t
def cx_449pf_1 (t : List zFa) : List zFa := uF1433 :: uF1434 :: uF449 :: uF1555 :: uF1556 :: uF1557 :: uF1612 :: uF1128 :: t
def cx_449pf_2 (t : List zFa) : List zFa := (1, (true, 0, 0, [(1, 1)]), 0, 0, 0, [(12, 1)]) :: t
def cx_449p : zS := ((cx_449pi_0 (cx_449pi_1 [])), [ur1414, ur1428, ur1429, ur1430, ur1431, ur1464, ur1574], [], [], [uV2], (cx_449pf_0 (cx_449pf_1 (cx_449pf_2 []))), [uG1613, uG1614, uG1615])
def cx_449q0i_0 (t : List (Int × Int)) : List (Int × Int) := ui0 :: ui348 :: (0, 0) :: ui52 :: (0, 5) :: ui52 :: (0, 6) :: ui52 :: t
def cx_449q0i_1 (t : List (Int × Int)) : List (Int × Int) := (0, 1) :: ui48 :: ui68 :: ui52 :: ui1426 :: (1, 2) :: t
def cx_449q0 : zS := ((cx_449q0i_0 (cx_449q0i_1 [])), [ur1414, ur1428, ur1429, ur1430, ur1431, ur1464, ur1574], [uL63], [], [uV61], [uF1564, uF1616, uF1505, uF1550, uF1542, uF1557, uF1128], [uG1617, uG1618, uG1619])
def cx_449q1i_0 (t : List (Int × Int)) : List (Int × Int) := ui0 :: ui1537 :: (0, 0) :: ui52 :: (0, 5) :: ui52 :: (1, 6) :: ui52 :: t
def cx_449q1i_1 (t : List (Int × Int)) : List (Int × Int) := (0, 1) :: ui48 :: ui68 :: ui52 :: (1, 1) :: (0, 5) :: t
def cx_449q1g_0 (t : List zTg) : List zTg := uG1620 :: uG1621 :: uG1622 :: uG1623 :: uG1622 :: uG1621 :: uG1620 :: uG1624 :: t
def cx_449q1g_1 (t : List zTg) : List zTg := uG1623 :: t
def cx_449q1 : zS := ((cx_449q1i_0 (cx_449q1i_1 [])), [ur1414, ur1428, ur1429, ur1430, ur1431, ur1464, ur1574], [uL65, uL63, uL63], [], [uV409], [uF1521, uF1506, uF1508, uF1550, uF1542, uF1557, uF1128], (cx_449q1g_0 (cx_449q1g_1 [])))
def cx_449q2i_0 (t : List (Int × Int)) : List (Int × Int) := ui0 :: ui1537 :: (0, 0) :: ui52 :: (1, 5) :: ui91 :: (0, 6) :: ui52 :: t
def cx_449q2i_1 (t : List (Int × Int)) : List (Int × Int) := (0, 1) :: ui48 :: ui68 :: ui93 :: (1, 1) :: t
def cx_449q2g_0 (t : List zTg) : List zTg := uG1620 :: uG1621 :: uG1625 :: uG1622 :: uG1623 :: uG1622 :: uG1621 :: uG1620 :: t
def cx_449q2g_1 (t : List zTg) : List zTg := uG1625 :: uG1623 :: t
def cx_449q2 : zS := ((cx_449q2i_0 (cx_449q2i_1 [])), [ur1414, ur1428, ur1429, ur1430, ur1431, ur1464, ur1574], [uL65, uL63, uL63], [], [uV61], [uF1521, uF1506, uF1508, uF1550, uF1542, uF1557, uF1128], (cx_449q2g_0 (cx_449q2g_1 [])))
def cx_449q3i_0 (t : List (Int × Int)) : List (Int × Int) := ui0 :: ui1537 :: (0, 0) :: ui52 :: (0, 0) :: ui52 :: (0, 6) :: ui52 :: t
def cx_449q3i_1 (t : List (Int × Int)) : List (Int × Int) := (0, 1) :: ui48 :: ui68 :: ui52 :: (1, 1) :: t
def cx_449q3g_0 (t : List zTg) : List zTg := uG1620 :: uG1626 :: uG1625 :: uG1622 :: uG1623 :: uG1622 :: uG1626 :: uG1620 :: t
def cx_449q3g_1 (t : List zTg) : List zTg := uG1625 :: uG1623 :: t
def cx_449q3 : zS := ((cx_449q3i_0 (cx_449q3i_1 [])), [ur1414, ur1428, ur1429, ur1430, ur1431, ur1464, ur1574], [uL65, uL63, uL63], [], [uV61], [uF1609, uF1610, uF1521, uF1506, uF1508, uF1557, uF1128], (cx_449q3g_0 (cx_449q3g_1 [])))
/-- M.known -/
def cx_449 : zCtx := (212, cx_449p, [cx_449q0, cx_449q1, cx_449q2, cx_449q3], [uk1523, uk1513, uk1514, uk1544, uk1545], 157, 3, 62)
def cz_449_0i_0 (t : List (Int × Int)) : List (Int × Int) := ui0 :: ui1537 :: (0, 0) :: ui52 :: (0, 5) :: ui52 :: (0, 6) :: ui52 :: t
def cz_449_0i_1 (t : List (Int × Int)) : List (Int × Int) := (0, 1) :: ui48 :: ui68 :: ui52 :: (1, 1) :: (0, 6) :: t
def cz_449_0f_0 (t : List zFa) : List zFa := uF1521 :: uF1506 :: uF1508 :: uF1550 :: uF1542 :: uF1611 :: uF259 :: uF1432 :: t
def cz_449_0f_1 (t : List zFa) : List zFa := uF1433 :: uF1434 :: uF449 :: uF1555 :: uF1556 :: uF1557 :: uF1612 :: uF1128 :: t
def cz_449_0 : zS := ((cz_449_0i_0 (cz_449_0i_1 [])), [ur1414, ur1428, ur1429, ur1430, ur1431, ur1464, ur1574], [uL1627], [uV2, uV11, uV409], [], (cz_449_0f_0 (cz_449_0f_1 [])), [uG1613, uG1614, uG1615, uG1622, uG1628, uG1623])
set_option maxRecDepth 1000000 in
theorem ck_449 : x_ok mLT1 [cx_430, cx_447, cx_448] mTS2 mTC2 mRUp cx_449 [(7, [0]), (56, [1, 2])] [(0, uN1629), (10, [740]), (19, [1000291]), (41, [1000292]), (45, [1000293]), (46, uN1630), (47, uN1631), (53, uN1632), (59, [740]), (60, uN1630)] [(21, cz_449_0, ((-99999999888), [(2, (-100000000000)), (12, 100000000000), (13, (-17))]))] (124, []) 33 19 = true := by decide +kernel
theorem sn_449 {W : Bool} {X : List Int32} : y_Snd (mGw W) mLT1 (J2 W X) X cx_449 := y_ok J2_J mTS2_ok1 mTC2_ok1 mRUp_ok1 (List.forall_mem_cons.mpr ⟨sn_430, List.forall_mem_cons.mpr ⟨sn_447, List.forall_mem_cons.mpr ⟨sn_448, fun _ h => absurd h List.not_mem_nil⟩⟩⟩) ck_449
/-- M.must -/
def cx_450 : zCtx := (208, ([ui0, ui348, (1, 2), ui52, ui52], [ur1414], [], [], [uV2, uV64], [uF1505, uF1506, uF1508, uF178], [uG1573]), [([ui0, ui348, (1, 2), ui52, ui52], [ur1414], [], [], [], [], [])], [], 21, 1, 21)
set_option maxRecDepth 1000000 in
theorem ck_450 : x_ok mLT1 [cx_428, cx_434] mTS2 mTC2 mRUp cx_450 [(2, [0]), (17, [1])] [(15, uN1539)] [] (8, []) 13 11 = true := by decide +kernel
theorem sn_450 {W : Bool} {X : List Int32} : y_Snd (mGw W) mLT1 (J2 W X) X cx_450 := y_ok J2_J mTS2_ok1 mTC2_ok1 mRUp_ok1 (List.forall_mem_cons.mpr ⟨sn_428, List.forall_mem_cons.mpr ⟨sn_434, fun _ h => absurd h List.not_mem_nil⟩⟩) ck_450
/-- M.known -/
def cx_451 : zCtx := (212, ([ui0, ui348, (1, 2), ui52, (0, 5), ui52, (0, 6), ui52], [ur1414], [], [], [uV2], [uF1505, uF1506, uF1508, uF1550, uF1542, uF1611, uF259], [(41, [uL79, uL67, uL23])]), [([ui0, ui348, (1, 2), ui52, (0, 5), ui52, (0, 6), ui52], [ur1414], [], [], [uV61], [], [])], [], 32, 2, 42)
set_option maxRecDepth 1000000 in
theorem ck_451 : x_ok mLT1 [cx_450] mTS2 mTC2 mRUp cx_451 [(7, [0])] [(0, uN1629), (10, [740])] [] (11, []) 21 14 = true := by decide +kernel
theorem sn_451 {W : Bool} {X : List Int32} : y_Snd (mGw W) mLT1 (J2 W X) X cx_451 := y_ok J2_J mTS2_ok1 mTC2_ok1 mRUp_ok1 (List.forall_mem_cons.mpr ⟨sn_450, fun _ h => absurd h List.not_mem_nil⟩) ck_451
def cx_452pi_0 (t : List (Int × Int)) : List (Int × Int) := ui0 :: ui406 :: (0, 0) :: ui52 :: (0, 5) :: ui52 :: (0, 6) :: ui52 :: t
def cx_452pi_1 (t : List (Int × Int)) : List (Int × Int) := (0, 1) :: ui48 :: ui68 :: ui52 :: ui1426 :: t
def cx_452p : zS := ((cx_452pi_0 (cx_452pi_1 [])), [ur1414, ur1428, ur1429, ur1430, ur1431, ur1464, ur1574], [], [], [uV2], (cx_449pf_0 (cx_449pf_1 (cx_449pf_2 []))), [uG1613, uG1633, uG1615])
def cx_452q0i_0 (t : List (Int × Int)) : List (Int × Int) := ui0 :: ui406 :: (0, 0) :: ui52 :: (0, 5) :: ui52 :: (0, 6) :: ui52 :: t
def cx_452q0i_1 (t : List (Int × Int)) : List (Int × Int) := (0, 1) :: ui48 :: ui68 :: ui52 :: ui1426 :: (1, 2) :: t
def cx_452q0 : zS := ((cx_452q0i_0 (cx_452q0i_1 [])), [ur1414, ur1428, ur1429, ur1430, ur1431, ur1464, ur1574], [uL63], [], [uV61], [uF1564, uF1616, uF1505, uF1550, uF1542, uF1557, uF1128], [uG1617, uG1618, uG1619])
def cx_452q1i_0 (t : List (Int × Int)) : List (Int × Int) := ui0 :: ui1559 :: (0, 0) :: ui52 :: (0, 5) :: ui52 :: (1, 6) :: ui52 :: t
def cx_452q1i_1 (t : List (Int × Int)) : List (Int × Int) := (0, 1) :: ui48 :: ui68 :: ui52 :: (1, 1) :: (0, 5) :: t
def cx_452q1 : zS := ((cx_452q1i_0 (cx_452q1i_1 [])), [ur1414, ur1428, ur1429, ur1430, ur1431, ur1464, ur1574], [uL65, uL63, uL63], [], [uV409], [uF1521, uF1506, uF1508, uF1557, uF1128, uF1550, uF1542], [uG1622, uG1623, uG1622, uG1624, uG1623])
def cx_452q2i_0 (t : List (Int × Int)) : List (Int × Int) := ui0 :: ui1559 :: (0, 0) :: ui52 :: (1, 5) :: ui91 :: (0, 6) :: ui52 :: t
def cx_452q2i_1 (t : List (Int × Int)) : List (Int × Int) := (0, 1) :: ui48 :: ui68 :: ui93 :: (1, 1) :: t
def cx_452q2 : zS := ((cx_452q2i_0 (cx_452q2i_1 [])), [ur1414, ur1428, ur1429, ur1430, ur1431, ur1464, ur1574], [uL65, uL63, uL63], [], [uV61], [uF1521, uF1506, uF1508, uF1550, uF1542, uF1557, uF1128], [uG1625, uG1622, uG1623, uG1622, uG1625, uG1623])
def cx_452q3i_0 (t : List (Int × Int)) : List (Int × Int) := ui0 :: ui1559 :: (0, 0) :: ui52 :: (0, 0) :: ui52 :: (0, 6) :: ui52 :: t
def cx_452q3i_1 (t : List (Int × Int)) : List (Int × Int) := (0, 1) :: ui48 :: ui68 :: ui52 :: (1, 1) :: t
def cx_452q3 : zS := ((cx_452q3i_0 (cx_452q3i_1 [])), [ur1414, ur1428, ur1429, ur1430, ur1431, ur1464, ur1574], [uL65, uL63, uL63], [], [uV61], [uF1609, uF1610, uF1521, uF1506, uF1508, uF1557, uF1128], [uG1625, uG1622, uG1623, uG1622, uG1625, uG1623])
/-- M.known -/
def cx_452 : zCtx := (212, cx_452p, [cx_452q0, cx_452q1, cx_452q2, cx_452q3], [uk1523, uk1513, uk1514, uk1544, uk1545], 157, 3, 62)
def cz_452_0i_0 (t : List (Int × Int)) : List (Int × Int) := ui0 :: ui1559 :: (0, 0) :: ui52 :: (0, 5) :: ui52 :: (0, 6) :: ui52 :: t
def cz_452_0i_1 (t : List (Int × Int)) : List (Int × Int) := (0, 1) :: ui48 :: ui68 :: ui52 :: (1, 1) :: (0, 6) :: t
def cz_452_0 : zS := ((cz_452_0i_0 (cz_452_0i_1 [])), [ur1414, ur1428, ur1429, ur1430, ur1431, ur1464, ur1574], [uL1627], [uV2, uV11, uV409], [], (cz_449_0f_0 (cz_449_0f_1 [])), [uG1613, uG1633, uG1615, uG1622, uG1628, uG1623])
set_option maxRecDepth 1000000 in
theorem ck_452 : x_ok mLT1 [cx_430, cx_447, cx_448] mTS2 mTC2 mRUp cx_452 [(7, [0]), (56, [1, 2])] [(0, uN1629), (10, [740]), (19, [1000291]), (41, [1000292]), (45, [1000293]), (46, uN1630), (47, uN1631), (53, uN1632), (59, [740]), (60, uN1630)] [(21, cz_452_0, ((-99999999888), [(2, (-100000000000)), (12, 100000000000), (13, (-17))]))] (124, []) 33 19 = true := by decide +kernel
theorem sn_452 {W : Bool} {X : List Int32} : y_Snd (mGw W) mLT1 (J2 W X) X cx_452 := y_ok J2_J mTS2_ok1 mTC2_ok1 mRUp_ok1 (List.forall_mem_cons.mpr ⟨sn_430, List.forall_mem_cons.mpr ⟨sn_447, List.forall_mem_cons.mpr ⟨sn_448, fun _ h => absurd h List.not_mem_nil⟩⟩⟩) ck_452
/-- M.bounded -/
def cx_453 : zCtx := (210, ([ui0, ui348, (1, 2), ui52, (0, 5), ui52, ui52], [ur1414], [], [], [uV2, uV62, uV120], [uF1505, uF1506, uF1508, uF1550, uF1542, uF1551], [uG1552]), [([ui0, ui348, (1, 2), ui52, (0, 5), ui52, ui52], [ur1414], [], [], [uV62], [], [])], [], 12, 1, 21)
set_option maxRecDepth 1000000 in
theorem ck_453 : x_ok mLT1 [cx_434] mTS2 mTC2 mRUp cx_453 [(17, [0])] [(15, uN1553), (20, [740])] [] (8, []) 4 11 = true := by decide +kernel
theorem sn_453 {W : Bool} {X : List Int32} : y_Snd (mGw W) mLT1 (J2 W X) X cx_453 := y_ok J2_J mTS2_ok1 mTC2_ok1 mRUp_ok1 (List.forall_mem_cons.mpr ⟨sn_434, fun _ h => absurd h List.not_mem_nil⟩) ck_453
def cx_454p : zS := ((cx_441pi_0 (cx_441pi_1 [])), [ur1414, ur1428, ur1429, ur1430, ur1431, ur1464], [], [], [uV2, uV62, uV120], (cx_439pf_0 (cx_439pf_1 [])), [uG1558, (40, [uL78, uL9, uL260, uL63, uL63, uL79, uL164, uL98, uL104, uL170])])
def cx_454q1 : zS := ((cx_441q1i_0 (cx_441q1i_1 [])), [ur1414, ur1428, ur1429, ur1430, ur1431, ur1464], [uL65, uL63, uL63], [], [uV843], [uF1521, uF1506, uF1508, uF1560, uF1561, uF1557], [uG1562, uG1562, (40, [uL78, uL109, uL34, uL63, uL63, uL79, uL164, uL214, uL207, uL170]), uG1563])
/-- M.bounded -/
def cx_454 : zCtx := (210, cx_454p, [([ui0, ui1572, (0, 0), ui52, (0, 5), ui52, ui52, (0, 6), (0, 1), ui48, ui68, ui52], [ur1414, ur1428, ur1429, ur1430, ur1431, ur1464], [uL63], [], [uV62], [uF1564, uF1534, uF1505, uF1550, uF1542, uF1557], [uG1565]), cx_454q1, ([ui0, ui146, (0, 0), ui52, (0, 5), ui52, ui52, (0, 6), (0, 1), ui48, ui68, ui196, ui52, (0, 5), ui52], [ur1414, ur1428, ur1429, ur1430, ur1431, ur1464], [uL63], [], [uV843], [uF1154, uF1512, uF1505, uF1566, uF1567, uF1557], [uG1568])], [uk1523, uk1513, uk1514, uk1544, uk1545], 53, 2, 41)
set_option maxRecDepth 1000000 in
theorem ck_454 : x_ok mLT1 [cx_436, cx_429, cx_437, cx_438, cx_426] mTS2 mTC2 mRUp cx_454 [(9, [0]), (17, [1]), (48, [2, 3]), (52, [4])] [(8, uN1569), (12, [740]), (15, uN1553), (20, [740]), (31, uN1570), (42, uN1571), (51, [740]), (55, [740, 1000260, 1000261, 1000262, 1000263, 1000264, 1000265, 1000266, 1000267, 1000268, 1000269, 1000270, 1000271, 1000272, 1000273, 1000274, 1000275, 1000276, 1000277, 1000278, 1000279, 1000280, 1000281, 1000282, 1000283, 1000284, 1000285, 1000286, 1000287, 1000288])] [] (28, []) 25 31 = true := by decide +kernel
theorem sn_454 {W : Bool} {X : List Int32} : y_Snd (mGw W) mLT1 (J2 W X) X cx_454 := y_ok J2_J mTS2_ok1 mTC2_ok1 mRUp_ok1 (List.forall_mem_cons.mpr ⟨sn_436, List.forall_mem_cons.mpr ⟨sn_429, List.forall_mem_cons.mpr ⟨sn_437, List.forall_mem_cons.mpr ⟨sn_438, List.forall_mem_cons.mpr ⟨sn_426, fun _ h => absurd h List.not_mem_nil⟩⟩⟩⟩⟩) ck_454
def cx_455pi_0 (t : List (Int × Int)) : List (Int × Int) := ui0 :: ui348 :: (0, 0) :: ui52 :: (0, 5) :: ui52 :: (0, 1) :: (0, 6) :: t
def cx_455pi_1 (t : List (Int × Int)) : List (Int × Int) := ui1335 :: ui52 :: ui68 :: (0, 1) :: t
def cx_455pf_0 (t : List zFa) : List zFa := uF1505 :: uF1506 :: uF1508 :: uF1550 :: uF1542 :: uF1577 :: uF1554 :: (0, (false, 25, 0, []), 2, 1, 0, []) :: t
def cx_455pf_1 (t : List zFa) : List zFa := uF1634 :: uF307 :: uF1124 :: uF1125 :: uF1445 :: uF1446 :: uF1612 :: (0, (false, 26, 0, []), 2, 7, 0, []) :: t
def cx_455p : zS := ((cx_455pi_0 (cx_455pi_1 [])), [ur1414, ur1464, ur1428, ur1429, ur1430, ur1431, ur1574, ur1465], [], [], [uV2], (cx_455pf_0 (cx_455pf_1 [])), [(58, [uL164, uL9]), (40, [uL164, uL9, uL246, uL63, uL63, uL79, uL131, uL98, uL104, uL170]), (64, [uL164, uL9, uL79]), uG1635, uG1636])
def cx_455q0i_0 (t : List (Int × Int)) : List (Int × Int) := ui0 :: ui348 :: (0, 0) :: ui52 :: (0, 5) :: ui52 :: (0, 1) :: (0, 6) :: t
def cx_455q0i_1 (t : List (Int × Int)) : List (Int × Int) := ui1335 :: ui52 :: ui68 :: (0, 1) :: ui52 :: (1, 2) :: ui348 :: (0, 5) :: t
def cx_455q0i_2 (t : List (Int × Int)) : List (Int × Int) := ui52 :: ui52 :: ui52 :: t
def cx_455q0f_0 (t : List zFa) : List zFa := uF1154 :: uF1616 :: (0, (false, 11, 0, []), 0, 0, 0, [(14, 1)]) :: (0, (false, 15, 0, []), 0, 0, 0, [(15, 1)]) :: (0, (false, 16, 0, []), 0, 0, 0, [(16, 1)]) :: uF1634 :: uF1634 :: uF1634 :: t
def cx_455q0f_1 (t : List zFa) : List zFa := uF1637 :: uF1637 :: uF1634 :: (3, (true, 0, 0, [(14, 1)]), 0, 0, 0, [(18, 1)]) :: t
def cx_455q0 : zS := ((cx_455q0i_0 (cx_455q0i_1 (cx_455q0i_2 []))), [ur1414, ur1464, ur1428, ur1429, ur1430, ur1431, ur1574, ur1465], [(0, [(1, (-1)), (14, 1)])], [], [], (cx_455q0f_0 (cx_455q0f_1 [])), [uG1635, uG1636, (41, [uL164, uL207, uL214]), uG1635])
def cx_455q1i_0 (t : List (Int × Int)) : List (Int × Int) := ui0 :: ui1594 :: (0, 0) :: ui52 :: (0, 5) :: ui52 :: (0, 1) :: (0, 6) :: t
def cx_455q1i_1 (t : List (Int × Int)) : List (Int × Int) := ui1335 :: ui52 :: ui68 :: (0, 1) :: ui52 :: (0, 5) :: ui52 :: ui52 :: t
def cx_455q1i_2 (t : List (Int × Int)) : List (Int × Int) := ui52 :: t
def cx_455q1f_0 (t : List zFa) : List zFa := uF1595 :: uF1506 :: uF1508 :: (3, (true, 0, 3, [(1, 1)]), 0, 0, 0, [(12, 1)]) :: uF1566 :: uF1567 :: uF1638 :: uF1638 :: t
def cx_455q1f_1 (t : List zFa) : List zFa := uF1639 :: uF1639 :: (1, (true, 0, 0, [(6, 1)]), 0, 0, 1, [(8, 1)]) :: t
def cx_455q1g_0 (t : List zTg) : List zTg := uG1640 :: uG1641 :: uG1642 :: (58, [uL164, uL1602]) :: (58, [uL164, uL1603]) :: (64, [uL164, uL109, uL79]) :: (58, [uL164, uL109]) :: uG1635 :: t
def cx_455q1g_1 (t : List zTg) : List zTg := uG1642 :: (40, [uL164, uL1598, uL63, uL63, uL63, uL79, uL838, uL207, uL208, uL265]) :: uG1641 :: uG1635 :: uG1640 :: t
def cx_455q1 : zS := ((cx_455q1i_0 (cx_455q1i_1 (cx_455q1i_2 []))), [ur1414, ur1464, ur1428, ur1429, ur1430, ur1431, ur1574, ur1465], [uL36, uL211, (19, [(8, (-1))])], [], [], (cx_455q1f_0 (cx_455q1f_1 [])), (cx_455q1g_0 (cx_455q1g_1 [])))
/-- M.tellLikes -/
def cx_455 : zCtx := (211, cx_455p, [cx_455q0, cx_455q1], [uk1523, uk1513, uk1514, uk1544, uk1545, (59, true, 0), (60, true, 0)], 231, 4, 84)
def cq_455 : List zCtx := [cx_449, cx_451, cx_452, cx_431, cx_432, cx_453, cx_454, cx_443, cx_444]
def cs_455 : List (Nat × List Nat) := [(1, [0]), (11, [1, 2]), (34, [3, 4]), (41, [5, 6]), (48, [7, 8])]
def hs_455 : List (Nat × List Nat) := [(4, [740]), (14, [740]), (28, [1000012]), (31, [1000258, 1000306]), (37, [740, 1000298, 1000317, 1000318, 1000319, 1000320, 1000321]), (44, [740]), (46, [1000246, 1000322]), (51, [740, 1000314, 1000323]), (80, [1000302, 1000451, 1000452]), (101, [1000448]), (122, [1000449]), (123, [1000302, 1000450])]
def ns_455 : List zN := []
set_option maxRecDepth 1000000 in
theorem ca_455 : x_okA mLT1 cq_455 mTS2 mTC2 mRUp cx_455 cs_455 hs_455 ns_455 (74, []) 157 77 = true := by decide +kernel
set_option maxRecDepth 1000000 in
theorem cc_455 : x_okC mLT1 cq_455 mTS2 mTC2 mRUp cx_455 cs_455 hs_455 ns_455 (74, []) 157 77 = true := by decide +kernel
theorem ck_455 : x_ok mLT1 cq_455 mTS2 mTC2 mRUp cx_455 cs_455 hs_455 ns_455 (74, []) 157 77 = true := x_ok_of ca_455 (fun _ h => absurd h List.not_mem_nil) cc_455
theorem sn_455 {W : Bool} {X : List Int32} : y_Snd (mGw W) mLT1 (J2 W X) X cx_455 := y_ok J2_J mTS2_ok1 mTC2_ok1 mRUp_ok1 (List.forall_mem_cons.mpr ⟨sn_449, List.forall_mem_cons.mpr ⟨sn_451, List.forall_mem_cons.mpr ⟨sn_452, List.forall_mem_cons.mpr ⟨sn_431, List.forall_mem_cons.mpr ⟨sn_432, List.forall_mem_cons.mpr ⟨sn_453, List.forall_mem_cons.mpr ⟨sn_454, List.forall_mem_cons.mpr ⟨sn_443, List.forall_mem_cons.mpr ⟨sn_444, fun _ h => absurd h List.not_mem_nil⟩⟩⟩⟩⟩⟩⟩⟩⟩) ck_455
end
