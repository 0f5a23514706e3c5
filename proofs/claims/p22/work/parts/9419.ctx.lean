noncomputable section
/-! ===== readings, by program, checked by the kernel ===== -/
def cx_443p : zS := ([ui0, ui48, ui68, (0, 0), ui52, ui52, ui1486, ui52], [ur1474, ur1488, ur1489, ur1490, ur1491], [uL1586, (20, [(1, (-1))])], [], [uV2, uV11, uV190], (cx_424pf_0 (cx_424pf_1 [])), [uG1587, uG1588, (69, [uL104, uL67, uL9, uL679, uL79])])
/-- M.roomFor -/
def cx_443 : zCtx := (204, cx_443p, [([ui0, ui48, ui68, (0, 0), ui52, ui52, ui1486, ui52], [ur1474, ur1488, ur1489, ur1490, ur1491], [uL63], [], [], [uF1246, uF1572, uF1584], [uG1589, uG1589]), ([ui0, ui1397, ui147, (0, 0), ui52, ui52, ui1520, ui52], [ur1474, ur1488, ur1489, ur1490, ur1491], [uL65, uL63, uL63, (19, [(1, (-1))])], [], [], [uF1590, uF1585, uF1571], [uG1591, uG1592, uG1591])], [uk1583, uk1573, uk1574], 35, 2, 41)
set_option maxRecDepth 1000000 in
theorem ck_443 : x_ok mLT1 [cx_422, cx_423] mTS2 mTC2 mRUp cx_443 [(7, [0]), (18, [1])] [(5, [1000336]), (17, [1000337])] [] (10, []) 25 13 = true := by decide +kernel
theorem sn_443 {W : Bool} {X : List Int32} : y_Snd (mGw W) mLT1 (J2 W X) X cx_443 := y_ok J2_J mTS2_ok1 mTC2_ok1 mRUp_ok1 (List.forall_mem_cons.mpr ⟨sn_422, List.forall_mem_cons.mpr ⟨sn_423, fun _ h => absurd h List.not_mem_nil⟩⟩) ck_443
/-- M.wrong -/
def cx_444 : zCtx := (209, ([ui0, ui1597, (0, 0), (0, 0), ui52, ui52], [ur1474, ur1489], [], [], [uV2, uV380, uV11], [uF1566, uF1600, uF1601, uF1569, uF1575], []), [([ui0, ui1597, (0, 0), (0, 0), ui52, ui52], [ur1474, ur1489], [], [], [], [uF1602, uF1670], [])], [uk1604, uk1605], 18, 0, 0)
set_option maxRecDepth 1000000 in
theorem ck_444 : x_ok mLT1 [] mTS2 mTC2 mRUp cx_444 [] [] [] (18, []) 0 21 = true := by decide +kernel
theorem sn_444 {W : Bool} {X : List Int32} : y_Snd (mGw W) mLT1 (J2 W X) X cx_444 := y_ok J2_J mTS2_ok1 mTC2_ok1 mRUp_ok1 (fun _ h => absurd h List.not_mem_nil) ck_444
/-- M.wrong -/
def cx_445 : zCtx := (209, ([ui0, ui1597, (0, 0), (1, 5), ui91, ui52], [ur1474, ur1489], [uL1606], [], [uV2, uV380, uV11], [uF1566, uF1600, uF1601, uF1569, uF1575], []), [([ui0, ui1597, (0, 0), (1, 5), ui91, ui93], [ur1474, ur1489], [uL1606], [], [], [], [])], [], 16, 0, 0)
set_option maxRecDepth 1000000 in
theorem ck_445 : x_ok mLT1 [] mTS2 mTC2 mRUp cx_445 [] [] [] (16, []) 0 19 = true := by decide +kernel
theorem sn_445 {W : Bool} {X : List Int32} : y_Snd (mGw W) mLT1 (J2 W X) X cx_445 := y_ok J2_J mTS2_ok1 mTC2_ok1 mRUp_ok1 (fun _ h => absurd h List.not_mem_nil) ck_445
def cx_446pi_0 (t : List (Int × Int)) : List (Int × Int) := ui0 :: ui347 :: (0, 0) :: ui52 :: (0, 5) :: ui52 :: (0, 6) :: ui52 :: t
def cx_446pi_1 (t : List (Int × Int)) : List (Int × Int) := (0, 1) :: ui48 :: ui68 :: ui52 :: ui1486 :: t
def cx_446pf_0 (t : List zFa) : List zFa := uF1565 :: uF1566 :: uF1568 :: uF1610 :: uF1602 :: uF1671 :: uF257 :: uF1492 :: t
def cx_446pf_1 (t : List zFa) : List zFa := uF1493 :: uF1494 :: uF447 :: uF1615 :: uF1616 :: uF1617 :: uF1672 :: uF1163 :: t
def cx_446pf_2 (t : List zFa) : List zFa := (1, (true, 0, 0, [(1, 1)]), 0, 0, 0, [(12, 1)]) :: t
def cx_446p : zS := ((cx_446pi_0 (cx_446pi_1 [])), [ur1474, ur1488, ur1489, ur1490, ur1491, ur1524, ur1634], [], [], [uV2], (cx_446pf_0 (cx_446pf_1 (cx_446pf_2 []))), [uG1673, uG1674, uG1675])
def cx_446q0i_0 (t : List (Int × Int)) : List (Int × Int) := ui0 :: ui347 :: (0, 0) :: ui52 :: (0, 5) :: ui52 :: (0, 6) :: ui52 :: t
def cx_446q0i_1 (t : List (Int × Int)) : List (Int × Int) := (0, 1) :: ui48 :: ui68 :: ui52 :: ui1486 :: (1, 2) :: t
def cx_446q0 : zS := ((cx_446q0i_0 (cx_446q0i_1 [])), [ur1474, ur1488, ur1489, ur1490, ur1491, ur1524, ur1634], [uL63], [], [uV61], [uF1624, uF1676, uF1565, uF1610, uF1602, uF1617, uF1163], [uG1677, uG1678, uG1679])
def cx_446q1i_0 (t : List (Int × Int)) : List (Int × Int) := ui0 :: ui1597 :: (0, 0) :: ui52 :: (0, 5) :: ui52 :: (1, 6) :: ui52 :: t
def cx_446q1i_1 (t : List (Int × Int)) : List (Int × Int) := (0, 1) :: ui48 :: ui68 :: ui52 :: (1, 1) :: (0, 5) :: t
def cx_446q1g_0 (t : List zTg) : List zTg := uG1680 :: uG1681 :: uG1682 :: uG1683 :: uG1682 :: uG1681 :: uG1680 :: uG1684 :: t
def cx_446q1g_1 (t : List zTg) : List zTg := uG1683 :: t
def cx_446q1 : zS := ((cx_446q1i_0 (cx_446q1i_1 [])), [ur1474, ur1488, ur1489, ur1490, ur1491, ur1524, ur1634], [uL65, uL63, uL63], [], [uV408], [uF1581, uF1566, uF1568, uF1610, uF1602, uF1617, uF1163], (cx_446q1g_0 (cx_446q1g_1 [])))
def cx_446q2i_0 (t : List (Int × Int)) : List (Int × Int) := ui0 :: ui1597 :: (0, 0) :: ui52 :: (1, 5) :: ui91 :: (0, 6) :: ui52 :: t
def cx_446q2i_1 (t : List (Int × Int)) : List (Int × Int) := (0, 1) :: ui48 :: ui68 :: ui93 :: (1, 1) :: t
def cx_446q2g_0 (t : List zTg) : List zTg := uG1680 :: uG1681 :: uG1685 :: uG1682 :: uG1683 :: uG1682 :: uG1681 :: uG1680 :: t
def cx_446q2g_1 (t : List zTg) : List zTg := uG1685 :: uG1683 :: t
def cx_446q2 : zS := ((cx_446q2i_0 (cx_446q2i_1 [])), [ur1474, ur1488, ur1489, ur1490, ur1491, ur1524, ur1634], [uL65, uL63, uL63], [], [uV61], [uF1581, uF1566, uF1568, uF1610, uF1602, uF1617, uF1163], (cx_446q2g_0 (cx_446q2g_1 [])))
def cx_446q3i_0 (t : List (Int × Int)) : List (Int × Int) := ui0 :: ui1597 :: (0, 0) :: ui52 :: (0, 0) :: ui52 :: (0, 6) :: ui52 :: t
def cx_446q3i_1 (t : List (Int × Int)) : List (Int × Int) := (0, 1) :: ui48 :: ui68 :: ui52 :: (1, 1) :: t
def cx_446q3g_0 (t : List zTg) : List zTg := uG1680 :: uG1686 :: uG1685 :: uG1682 :: uG1683 :: uG1682 :: uG1686 :: uG1680 :: t
def cx_446q3g_1 (t : List zTg) : List zTg := uG1685 :: uG1683 :: t
def cx_446q3 : zS := ((cx_446q3i_0 (cx_446q3i_1 [])), [ur1474, ur1488, ur1489, ur1490, ur1491, ur1524, ur1634], [uL65, uL63, uL63], [], [uV61], [uF1669, uF1670, uF1581, uF1566, uF1568, uF1617, uF1163], (cx_446q3g_0 (cx_446q3g_1 [])))
/-- M.known -/
def cx_446 : zCtx := (212, cx_446p, [cx_446q0, cx_446q1, cx_446q2, cx_446q3], [uk1583, uk1573, uk1574, uk1604, uk1605], 157, 3, 62)
def cz_446_0i_0 (t : List (Int × Int)) : List (Int × Int) := ui0 :: ui1597 :: (0, 0) :: ui52 :: (0, 5) :: ui52 :: (0, 6) :: ui52 :: t
def cz_446_0i_1 (t : List (Int × Int)) : List (Int × Int) := (0, 1) :: ui48 :: ui68 :: ui52 :: (1, 1) :: (0, 6) :: t
def cz_446_0f_0 (t : List zFa) : List zFa := uF1581 :: uF1566 :: uF1568 :: uF1610 :: uF1602 :: uF1671 :: uF257 :: uF1492 :: t
def cz_446_0f_1 (t : List zFa) : List zFa := uF1493 :: uF1494 :: uF447 :: uF1615 :: uF1616 :: uF1617 :: uF1672 :: uF1163 :: t
def cz_446_0 : zS := ((cz_446_0i_0 (cz_446_0i_1 [])), [ur1474, ur1488, ur1489, ur1490, ur1491, ur1524, ur1634], [uL1687], [uV2, uV11, uV408], [], (cz_446_0f_0 (cz_446_0f_1 [])), [uG1673, uG1674, uG1675, uG1682, uG1688, uG1683])
set_option maxRecDepth 1000000 in
theorem ck_446 : x_ok mLT1 [cx_427, cx_444, cx_445] mTS2 mTC2 mRUp cx_446 [(7, [0]), (56, [1, 2])] [(0, uN1689), (10, [740]), (19, [1000291]), (41, [1000292]), (45, [1000293]), (46, uN1690), (47, uN1691), (53, uN1692), (59, [740]), (60, uN1690)] [(21, cz_446_0, ((-99999999888), [(2, (-100000000000)), (12, 100000000000), (13, (-17))]))] (124, []) 33 19 = true := by decide +kernel
theorem sn_446 {W : Bool} {X : List Int32} : y_Snd (mGw W) mLT1 (J2 W X) X cx_446 := y_ok J2_J mTS2_ok1 mTC2_ok1 mRUp_ok1 (List.forall_mem_cons.mpr ⟨sn_427, List.forall_mem_cons.mpr ⟨sn_444, List.forall_mem_cons.mpr ⟨sn_445, fun _ h => absurd h List.not_mem_nil⟩⟩⟩) ck_446
/-- M.must -/
def cx_447 : zCtx := (208, ([ui0, ui347, (1, 2), ui52, ui52], [ur1474], [], [], [uV2, uV64], [uF1565, uF1566, uF1568, uF176], [uG1633]), [([ui0, ui347, (1, 2), ui52, ui52], [ur1474], [], [], [], [], [])], [], 21, 1, 21)
set_option maxRecDepth 1000000 in
theorem ck_447 : x_ok mLT1 [cx_425, cx_431] mTS2 mTC2 mRUp cx_447 [(2, [0]), (17, [1])] [(15, uN1599)] [] (8, []) 13 11 = true := by decide +kernel
theorem sn_447 {W : Bool} {X : List Int32} : y_Snd (mGw W) mLT1 (J2 W X) X cx_447 := y_ok J2_J mTS2_ok1 mTC2_ok1 mRUp_ok1 (List.forall_mem_cons.mpr ⟨sn_425, List.forall_mem_cons.mpr ⟨sn_431, fun _ h => absurd h List.not_mem_nil⟩⟩) ck_447
/-- M.known -/
def cx_448 : zCtx := (212, ([ui0, ui347, (1, 2), ui52, (0, 5), ui52, (0, 6), ui52], [ur1474], [], [], [uV2], [uF1565, uF1566, uF1568, uF1610, uF1602, uF1671, uF257], [(41, [uL79, uL67, uL23])]), [([ui0, ui347, (1, 2), ui52, (0, 5), ui52, (0, 6), ui52], [ur1474], [], [], [uV61], [], [])], [], 32, 2, 42)
set_option maxRecDepth 1000000 in
theorem ck_448 : x_ok mLT1 [cx_447] mTS2 mTC2 mRUp cx_448 [(7, [0])] [(0, uN1689), (10, [740])] [] (11, []) 21 14 = true := by decide +kernel
theorem sn_448 {W : Bool} {X : List Int32} : y_Snd (mGw W) mLT1 (J2 W X) X cx_448 := y_ok J2_J mTS2_ok1 mTC2_ok1 mRUp_ok1 (List.forall_mem_cons.mpr ⟨sn_447, fun _ h => absurd h List.not_mem_nil⟩) ck_448
def cx_449pi_0 (t : List (Int × Int)) : List (Int × Int) := ui0 :: ui405 :: (0, 0) :: ui52 :: (0, 5) :: ui52 :: (0, 6) :: ui52 :: t
def cx_449pi_1 (t : List (Int × Int)) : List (Int × Int) := (0, 1) :: ui48 :: ui68 :: ui52 :: ui1486 :: t
def cx_449p : zS := ((cx_449pi_0 (cx_449pi_1 [])), [ur1474, ur1488, ur1489, ur1490, ur1491, ur1524, ur1634], [], [], [uV2], (cx_446pf_0 (cx_446pf_1 (cx_446pf_2 []))), [uG1673, uG1693, uG1675])
def cx_449q0i_0 (t : List (Int × Int)) : List (Int × Int) := ui0 :: ui405 :: (0, 0) :: ui52 :: (0, 5) :: ui52 :: (0, 6) :: ui52 :: t
def cx_449q0i_1 (t : List (Int × Int)) : List (Int × Int) := (0, 1) :: ui48 :: ui68 :: ui52 :: ui1486 :: (1, 2) :: t
def cx_449q0 : zS := ((cx_449q0i_0 (cx_449q0i_1 [])), [ur1474, ur1488, ur1489, ur1490, ur1491, ur1524, ur1634], [uL63], [], [uV61], [uF1624, uF1676, uF1565, uF1610, uF1602, uF1617, uF1163], [uG1677, uG1678, uG1679])
def cx_449q1i_0 (t : List (Int × Int)) : List (Int × Int) := ui0 :: ui1619 :: (0, 0) :: ui52 :: (0, 5) :: ui52 :: (1, 6) :: ui52 :: t
def cx_449q1i_1 (t : List (Int × Int)) : List (Int × Int) := (0, 1) :: ui48 :: ui68 :: ui52 :: (1, 1) :: (0, 5) :: t
def cx_449q1 : zS := ((cx_449q1i_0 (cx_449q1i_1 [])), [ur1474, ur1488, ur1489, ur1490, ur1491, ur1524, ur1634], [uL65, uL63, uL63], [], [uV408], [uF1581, uF1566, uF1568, uF1617, uF1163, uF1610, uF1602], [uG1682, uG1683, uG1682, uG1684, uG1683])
def cx_449q2i_0 (t : List (Int × Int)) : List (Int × Int) := ui0 :: ui1619 :: (0, 0) :: ui52 :: (1, 5) :: ui91 :: (0, 6) :: ui52 :: t
def cx_449q2i_1 (t : List (Int × Int)) : List (Int × Int) := (0, 1) :: ui48 :: ui68 :: ui93 :: (1, 1) :: t
def cx_449q2 : zS := ((cx_449q2i_0 (cx_449q2i_1 [])), [ur1474, ur1488, ur1489, ur1490, ur1491, ur1524, ur1634], [uL65, uL63, uL63], [], [uV61], [uF1581, uF1566, uF1568, uF1610, uF1602, uF1617, uF1163], [uG1685, uG1682, uG1683, uG1682, uG1685, uG1683])
def cx_449q3i_0 (t : List (Int × Int)) : List (Int × Int) := ui0 :: ui1619 :: (0, 0) :: ui52 :: (0, 0) :: ui52 :: (0, 6) :: ui52 :: t
def cx_449q3i_1 (t : List (Int × Int)) : List (Int × Int) := (0, 1) :: ui48 :: ui68 :: ui52 :: (1, 1) :: t
def cx_449q3 : zS := ((cx_449q3i_0 (cx_449q3i_1 [])), [ur1474, ur1488, ur1489, ur1490, ur1491, ur1524, ur1634], [uL65, uL63, uL63], [], [uV61], [uF1669, uF1670, uF1581, uF1566, uF1568, uF1617, uF1163], [uG1685, uG1682, uG1683, uG1682, uG1685, uG1683])
/-- M.known -/
def cx_449 : zCtx := (212, cx_449p, [cx_449q0, cx_449q1, cx_449q2, cx_449q3], [uk1583, uk1573, uk1574, uk1604, uk1605], 157, 3, 62)
def cz_449_0i_0 (t : List (Int × Int)) : List (Int × Int) := ui0 :: ui1619 :: (0, 0) :: ui52 :: (0, 5) :: ui52 :: (0, 6) :: ui52 :: t
def cz_449_0i_1 (t : List (Int × Int)) : List (Int × Int) := (0, 1) :: ui48 :: ui68 :: ui52 :: (1, 1) :: (0, 6) :: t
def cz_449_0 : zS := ((cz_449_0i_0 (cz_449_0i_1 [])), [ur1474, ur1488, ur1489, ur1490, ur1491, ur1524, ur1634], [uL1687], [uV2, uV11, uV408], [], (cz_446_0f_0 (cz_446_0f_1 [])), [uG1673, uG1693, uG1675, uG1682, uG1688, uG1683])
set_option maxRecDepth 1000000 in
theorem ck_449 : x_ok mLT1 [cx_427, cx_444, cx_445] mTS2 mTC2 mRUp cx_449 [(7, [0]), (56, [1, 2])] [(0, uN1689), (10, [740]), (19, [1000291]), (41, [1000292]), (45, [1000293]), (46, uN1690), (47, uN1691), (53, uN1692), (59, [740]), (60, uN1690)] [(21, cz_449_0, ((-99999999888), [(2, (-100000000000)), (12, 100000000000), (13, (-17))]))] (124, []) 33 19 = true := by decide +kernel
theorem sn_449 {W : Bool} {X : List Int32} : y_Snd (mGw W) mLT1 (J2 W X) X cx_449 := y_ok J2_J mTS2_ok1 mTC2_ok1 mRUp_ok1 (List.forall_mem_cons.mpr ⟨sn_427, List.forall_mem_cons.mpr ⟨sn_444, List.forall_mem_cons.mpr ⟨sn_445, fun _ h => absurd h List.not_mem_nil⟩⟩⟩) ck_449
/-- M.bounded -/
def cx_450 : zCtx := (210, ([ui0, ui347, (1, 2), ui52, (0, 5), ui52, ui52], [ur1474], [], [], [uV2, uV62, uV120], [uF1565, uF1566, uF1568, uF1610, uF1602, uF1611], [uG1612]), [([ui0, ui347, (1, 2), ui52, (0, 5), ui52, ui52], [ur1474], [], [], [uV62], [], [])], [], 12, 1, 21)
set_option maxRecDepth 1000000 in
theorem ck_450 : x_ok mLT1 [cx_431] mTS2 mTC2 mRUp cx_450 [(17, [0])] [(15, uN1613), (20, [740])] [] (8, []) 4 11 = true := by decide +kernel
theorem sn_450 {W : Bool} {X : List Int32} : y_Snd (mGw W) mLT1 (J2 W X) X cx_450 := y_ok J2_J mTS2_ok1 mTC2_ok1 mRUp_ok1 (List.forall_mem_cons.mpr ⟨sn_431, fun _ h => absurd h List.not_mem_nil⟩) ck_450
def cx_451p : zS := ((cx_438pi_0 (cx_438pi_1 [])), [ur1474, ur1488, ur1489, ur1490, ur1491, ur1524], [], [], [uV2, uV62, uV120], (cx_436pf_0 (cx_436pf_1 [])), [uG1618, (40, [uL78, uL9, uL258, uL63, uL63, uL79, uL163, uL98, uL104, uL169])])
def cx_451q1 : zS := ((cx_438q1i_0 (cx_438q1i_1 [])), [ur1474, ur1488, ur1489, ur1490, ur1491, ur1524], [uL65, uL63, uL63], [], [uV873], [uF1581, uF1566, uF1568, uF1620, uF1621, uF1617], [uG1622, uG1622, (40, [uL78, uL109, uL34, uL63, uL63, uL79, uL163, uL212, uL205, uL169]), uG1623])
/-- M.bounded -/
def cx_451 : zCtx := (210, cx_451p, [([ui0, ui1632, (0, 0), ui52, (0, 5), ui52, ui52, (0, 6), (0, 1), ui48, ui68, ui52], [ur1474, ur1488, ur1489, ur1490, ur1491, ur1524], [uL63], [], [uV62], [uF1624, uF1594, uF1565, uF1610, uF1602, uF1617], [uG1625]), cx_451q1, ([ui0, ui146, (0, 0), ui52, (0, 5), ui52, ui52, (0, 6), (0, 1), ui48, ui68, ui194, ui52, (0, 5), ui52], [ur1474, ur1488, ur1489, ur1490, ur1491, ur1524], [uL63], [], [uV873], [uF1191, uF1572, uF1565, uF1626, uF1627, uF1617], [uG1628])], [uk1583, uk1573, uk1574, uk1604, uk1605], 53, 2, 41)
set_option maxRecDepth 1000000 in
theorem ck_451 : x_ok mLT1 [cx_433, cx_426, cx_434, cx_435, cx_423] mTS2 mTC2 mRUp cx_451 [(9, [0]), (17, [1]), (48, [2, 3]), (52, [4])] [(8, uN1629), (12, [740]), (15, uN1613), (20, [740]), (31, uN1630), (42, uN1631), (51, [740]), (55, [740, 1000260, 1000261, 1000262, 1000263, 1000264, 1000265, 1000266, 1000267, 1000268, 1000269, 1000270, 1000271, 1000272, 1000273, 1000274, 1000275, 1000276, 1000277, 1000278, 1000279, 1000280, 1000281, 1000282, 1000283, 1000284, 1000285, 1000286, 1000287, 1000288])] [] (28, []) 25 31 = true := by decide +kernel
theorem sn_451 {W : Bool} {X : List Int32} : y_Snd (mGw W) mLT1 (J2 W X) X cx_451 := y_ok J2_J mTS2_ok1 mTC2_ok1 mRUp_ok1 (List.forall_mem_cons.mpr ⟨sn_433, List.forall_mem_cons.mpr ⟨sn_426, List.forall_mem_cons.mpr ⟨sn_434, List.forall_mem_cons.mpr ⟨sn_435, List.forall_mem_cons.mpr ⟨sn_423, fun _ h => absurd h List.not_mem_nil⟩⟩⟩⟩⟩) ck_451
def cx_452pi_0 (t : List (Int × Int)) : List (Int × Int) := ui0 :: ui347 :: (0, 0) :: ui52 :: (0, 5) :: ui52 :: (0, 1) :: (0, 6) :: t
def cx_452pi_1 (t : List (Int × Int)) : List (Int × Int) := ui1397 :: ui52 :: ui68 :: (0, 1) :: t
def cx_452pf_0 (t : List zFa) : List zFa := uF1565 :: uF1566 :: uF1568 :: uF1610 :: uF1602 :: uF1637 :: uF1614 :: (0, (false, 25, 0, []), 2, 1, 0, []) :: t
def cx_452pf_1 (t : List zFa) : List zFa := uF1694 :: uF306 :: uF1159 :: uF1160 :: uF1505 :: uF1506 :: uF1672 :: (0, (false, 26, 0, []), 2, 7, 0, []) :: t
def cx_452p : zS := ((cx_452pi_0 (cx_452pi_1 [])), [ur1474, ur1524, ur1488, ur1489, ur1490, ur1491, ur1634, ur1525], [], [], [uV2], (cx_452pf_0 (cx_452pf_1 [])), [(58, [uL163, uL9]), (40, [uL163, uL9, uL244, uL63, uL63, uL79, uL131, uL98, uL104, uL169]), (64, [uL163, uL9, uL79]), uG1695, uG1696])
def cx_452q0i_0 (t : List (Int × Int)) : List (Int × Int) := ui0 :: ui347 :: (0, 0) :: ui52 :: (0, 5) :: ui52 :: (0, 1) :: (0, 6) :: t
def cx_452q0i_1 (t : List (Int × Int)) : List (Int × Int) := ui1397 :: ui52 :: ui68 :: (0, 1) :: ui52 :: (1, 2) :: ui347 :: (0, 5) :: t
def cx_452q0i_2 (t : List (Int × Int)) : List (Int × Int) := ui52 :: ui52 :: ui52 :: t
def cx_452q0f_0 (t : List zFa) : List zFa := uF1191 :: uF1676 :: (0, (false, 11, 0, []), 0, 0, 0, [(14, 1)]) :: (0, (false, 15, 0, []), 0, 0, 0, [(15, 1)]) :: (0, (false, 16, 0, []), 0, 0, 0, [(16, 1)]) :: uF1694 :: uF1694 :: uF1694 :: t
def cx_452q0f_1 (t : List zFa) : List zFa := uF1697 :: uF1697 :: uF1694 :: (3, (true, 0, 0, [(14, 1)]), 0, 0, 0, [(18, 1)]) :: t
def cx_452q0 : zS := ((cx_452q0i_0 (cx_452q0i_1 (cx_452q0i_2 []))), [ur1474, ur1524, ur1488, ur1489, ur1490, ur1491, ur1634, ur1525], [(0, [(1, (-1)), (14, 1)])], [], [], (cx_452q0f_0 (cx_452q0f_1 [])), [uG1695, uG1696, (41, [uL163, uL205, uL212]), uG1695])
def cx_452q1i_0 (t : List (Int × Int)) : List (Int × Int) := ui0 :: ui1654 :: (0, 0) :: ui52 :: (0, 5) :: ui52 :: (0, 1) :: (0, 6) :: t
def cx_452q1i_1 (t : List (Int × Int)) : List (Int × Int) := ui1397 :: ui52 :: ui68 :: (0, 1) :: ui52 :: (0, 5) :: ui52 :: ui52 :: t
def cx_452q1i_2 (t : List (Int × Int)) : List (Int × Int) := ui52 :: t
def cx_452q1f_0 (t : List zFa) : List zFa := uF1655 :: uF1566 :: uF1568 :: (3, (true, 0, 3, [(1, 1)]), 0, 0, 0, [(12, 1)]) :: uF1626 :: uF1627 :: uF1698 :: uF1698 :: t
def cx_452q1f_1 (t : List zFa) : List zFa := uF1699 :: uF1699 :: (1, (true, 0, 0, [(6, 1)]), 0, 0, 1, [(8, 1)]) :: t
def cx_452q1g_0 (t : List zTg) : List zTg := uG1700 :: uG1701 :: uG1702 :: (58, [uL163, uL1662]) :: (58, [uL163, uL1663]) :: (64, [uL163, uL109, uL79]) :: (58, [uL163, uL109]) :: uG1695 :: t
def cx_452q1g_1 (t : List zTg) : List zTg := uG1702 :: (40, [uL163, uL1658, uL63, uL63, uL63, uL79, uL867, uL205, uL206, uL263]) :: uG1701 :: uG1695 :: uG1700 :: t
def cx_452q1 : zS := ((cx_452q1i_0 (cx_452q1i_1 (cx_452q1i_2 []))), [ur1474, ur1524, ur1488, ur1489, ur1490, ur1491, ur1634, ur1525], [uL36, uL209, (19, [(8, (-1))])], [], [], (cx_452q1f_0 (cx_452q1f_1 [])), (cx_452q1g_0 (cx_452q1g_1 [])))
/-- M.tellLikes -/
def cx_452 : zCtx := (211, cx_452p, [cx_452q0, cx_452q1], [uk1583, uk1573, uk1574, uk1604, uk1605, (59, true, 0), (60, true, 0)], 231, 4, 84)
def cq_452 : List zCtx := [cx_446, cx_448, cx_449, cx_428, cx_429, cx_450, cx_451, cx_440, cx_441]
def cs_452 : List (Nat × List Nat) := [(1, [0]), (11, [1, 2]), (34, [3, 4]), (41, [5, 6]), (48, [7, 8])]
def hs_452 : List (Nat × List Nat) := [(4, [740]), (14, [740]), (28, [1000012]), (31, [1000258, 1000306]), (37, [740, 1000298, 1000317, 1000318, 1000319, 1000320, 1000321]), (44, [740]), (46, [1000246, 1000322]), (51, [740, 1000314, 1000323]), (80, [1000302, 1000451, 1000452]), (101, [1000448]), (122, [1000449]), (123, [1000302, 1000450])]
def ns_452 : List zN := []
set_option maxRecDepth 1000000 in
theorem ca_452 : x_okA mLT1 cq_452 mTS2 mTC2 mRUp cx_452 cs_452 hs_452 ns_452 (74, []) 157 77 = true := by decide +kernel
set_option maxRecDepth 1000000 in
theorem cc_452 : x_okC mLT1 cq_452 mTS2 mTC2 mRUp cx_452 cs_452 hs_452 ns_452 (74, []) 157 77 = true := by decide +kernel
theorem ck_452 : x_ok mLT1 cq_452 mTS2 mTC2 mRUp cx_452 cs_452 hs_452 ns_452 (74, []) 157 77 = true := x_ok_of ca_452 (fun _ h => absurd h List.not_mem_nil) cc_452
theorem sn_452 {W : Bool} {X : List Int32} : y_Snd (mGw W) mLT1 (J2 W X) X cx_452 := y_ok J2_J mTS2_ok1 mTC2_ok1 mRUp_ok1 (List.forall_mem_cons.mpr ⟨sn_446, List.forall_mem_cons.mpr ⟨sn_448, List.forall_mem_cons.mpr ⟨sn_449, List.forall_mem_cons.mpr ⟨sn_428, List.forall_mem_cons.mpr ⟨sn_429, List.forall_mem_cons.mpr ⟨sn_450, List.forall_mem_cons.mpr ⟨sn_451, List.forall_mem_cons.mpr ⟨sn_440, List.forall_mem_cons.mpr ⟨sn_441, fun _ h => absurd h List.not_mem_nil⟩⟩⟩⟩⟩⟩⟩⟩⟩) ck_452
end
