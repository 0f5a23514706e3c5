noncomputable section
/-! ===== readings, by program, checked by the kernel ===== -/
def cx_453pi_0 (t : List (Int × Int)) : List (Int × Int) := ui0 :: ui347 :: (0, 0) :: ui52 :: (0, 5) :: ui52 :: ui52 :: (0, 6) :: t
def cx_453pi_1 (t : List (Int × Int)) : List (Int × Int) := (0, 1) :: ui48 :: ui68 :: t
def cx_453p : zS := ((cx_453pi_0 (cx_453pi_1 [])), [ur1474, ur1488, ur1489, ur1490, ur1491, ur1524], [], [], [uV2, uV64, uV223], (cx_436pf_0 (cx_436pf_1 [])), [uG1618, (40, [uL78, uL9, uL264, uL63, uL63, uL79, uL163, uL98, uL104, uL169])])
def cx_453q1i_0 (t : List (Int × Int)) : List (Int × Int) := ui0 :: ui1597 :: (0, 0) :: ui52 :: (0, 5) :: ui52 :: ui52 :: (0, 6) :: t
def cx_453q1i_1 (t : List (Int × Int)) : List (Int × Int) := (0, 1) :: ui48 :: ui68 :: ui194 :: (0, 5) :: ui52 :: t
def cx_453q1 : zS := ((cx_453q1i_0 (cx_453q1i_1 [])), [ur1474, ur1488, ur1489, ur1490, ur1491, ur1524], [uL65, uL63, uL63], [], [uV873], [uF1581, uF1566, uF1568, uF1620, uF1621, uF1617], [uG1622, uG1622, (40, [uL78, uL109, uL265, uL63, uL63, uL79, uL163, uL212, uL205, uL169]), uG1623])
/-- M.bounded -/
def cx_453 : zCtx := (210, cx_453p, [([ui0, ui347, (0, 0), ui52, (0, 5), ui52, ui52, (0, 6), (0, 1), ui48, ui68, ui52], [ur1474, ur1488, ur1489, ur1490, ur1491, ur1524], [uL63], [], [uV64], [uF1624, uF1594, uF1565, uF1610, uF1602, uF1617], [uG1625]), cx_453q1, ([ui0, ui146, (0, 0), ui52, (0, 5), ui52, ui52, (0, 6), (0, 1), ui48, ui68, ui194, ui52, (0, 5), ui52], [ur1474, ur1488, ur1489, ur1490, ur1491, ur1524], [uL63], [], [uV873], [uF1191, uF1572, uF1565, uF1626, uF1627, uF1617], [uG1628])], [uk1583, uk1573, uk1574, uk1604, uk1605], 53, 2, 41)
set_option maxRecDepth 1000000 in
theorem ck_453 : x_ok mLT1 [cx_433, cx_426, cx_434, cx_435, cx_423] mTS2 mTC2 mRUp cx_453 [(9, [0]), (17, [1]), (48, [2, 3]), (52, [4])] [(8, uN1629), (12, [740]), (15, uN1613), (20, [740]), (31, uN1630), (42, uN1631), (51, [740]), (55, [740, 1000260, 1000261, 1000262, 1000263, 1000264, 1000265, 1000266, 1000267, 1000268, 1000269, 1000270, 1000271, 1000272, 1000273, 1000274, 1000275, 1000276, 1000277, 1000278, 1000279, 1000280, 1000281, 1000282, 1000283, 1000284, 1000285, 1000286, 1000287, 1000288])] [] (28, []) 25 31 = true := by decide +kernel
theorem sn_453 {W : Bool} {X : List Int32} : y_Snd (mGw W) mLT1 (J2 W X) X cx_453 := y_ok J2_J mTS2_ok1 mTC2_ok1 mRUp_ok1 (List.forall_mem_cons.mpr ⟨sn_433, List.forall_mem_cons.mpr ⟨sn_426, List.forall_mem_cons.mpr ⟨sn_434, List.forall_mem_cons.mpr ⟨sn_435, List.forall_mem_cons.mpr ⟨sn_423, fun _ h => absurd h List.not_mem_nil⟩⟩⟩⟩⟩) ck_453
def cx_454pi_0 (t : List (Int × Int)) : List (Int × Int) := ui0 :: ui68 :: (0, 0) :: ui52 :: (0, 5) :: ui52 :: ui52 :: (0, 6) :: t
def cx_454pi_1 (t : List (Int × Int)) : List (Int × Int) := (0, 1) :: ui48 :: ui68 :: ui1486 :: ui52 :: t
def cx_454pf_0 (t : List zFa) : List zFa := uF1565 :: uF1566 :: uF1568 :: uF1610 :: uF1602 :: uF1611 :: uF1492 :: uF1493 :: t
def cx_454pf_1 (t : List zFa) : List zFa := uF1494 :: uF447 :: uF1614 :: uF1615 :: uF1616 :: uF1617 :: uF1672 :: (1, (true, 0, 0, [(1, 1)]), 0, 0, 0, [(11, 1)]) :: t
def cx_454pf_2 (t : List zFa) : List zFa := uF1644 :: t
def cx_454p : zS := ((cx_454pi_0 (cx_454pi_1 [])), [ur1474, ur1488, ur1489, ur1490, ur1491, ur1524, ur1634], [((-22), [(11, 1)]), (22, [(11, (-1))])], [], [uV2, uV64, uV223], (cx_454pf_0 (cx_454pf_1 (cx_454pf_2 []))), [uG1618, uG1703, uG1704])
def cx_454q0i_0 (t : List (Int × Int)) : List (Int × Int) := ui0 :: ui147 :: (0, 0) :: ui52 :: (0, 5) :: ui52 :: ui52 :: (0, 6) :: t
def cx_454q0i_1 (t : List (Int × Int)) : List (Int × Int) := (0, 1) :: ui48 :: ui68 :: ui1520 :: ui52 :: ui194 :: ui52 :: (1, 2) :: t
def cx_454q0i_2 (t : List (Int × Int)) : List (Int × Int) := ui405 :: (0, 5) :: ui52 :: t
def cx_454q0 : zS := ((cx_454q0i_0 (cx_454q0i_1 (cx_454q0i_2 []))), [ur1474, ur1488, ur1489, ur1490, ur1491, ur1524, ur1634], [uL1705], [], [uV408], [uF1706, uF1707, uF1708, uF1656, uF1657, uF1617, uF1617], [uG1709, uG1622, uG1710, uG1711, uG1712])
def cx_454q1i_0 (t : List (Int × Int)) : List (Int × Int) := ui0 :: ui1713 :: (0, 0) :: ui52 :: (0, 5) :: ui52 :: ui52 :: (0, 6) :: t
def cx_454q1i_1 (t : List (Int × Int)) : List (Int × Int) := (0, 1) :: ui48 :: ui68 :: ui1520 :: ui52 :: ui194 :: (0, 5) :: ui52 :: t
def cx_454q1g_0 (t : List zTg) : List zTg := uG1714 :: uG1715 :: uG1716 :: uG1709 :: uG1622 :: uG1710 :: uG1711 :: uG1715 :: t
def cx_454q1g_1 (t : List zTg) : List zTg := uG1717 :: uG1714 :: (86, [uL78, uL1662, uL264, uL205]) :: t
def cx_454q1 : zS := ((cx_454q1i_0 (cx_454q1i_1 [])), [ur1474, ur1488, ur1489, ur1490, ur1491, ur1524, ur1634], [uL209, uL114], [], [uV408], [uF1718, uF1566, uF1568, uF1719, uF1720, uF1617, uF1617], (cx_454q1g_0 (cx_454q1g_1 [])))
def cx_454q2i_0 (t : List (Int × Int)) : List (Int × Int) := ui0 :: ui68 :: (0, 0) :: ui52 :: (0, 5) :: ui52 :: ui52 :: (0, 6) :: t
def cx_454q2i_1 (t : List (Int × Int)) : List (Int × Int) := (0, 1) :: ui48 :: ui68 :: ui1520 :: ui52 :: ui52 :: (1, 2) :: ui347 :: t
def cx_454q2 : zS := ((cx_454q2i_0 (cx_454q2i_1 [])), [ur1474, ur1488, ur1489, ur1490, ur1491, ur1524, ur1634], [uL1721], [], [uV64], [uF1722, uF1723, uF1724, uF1610, uF1602, uF1617, uF1617], [uG1710, uG1711, uG1725])
/-- M.toldInt -/
def cx_454 : zCtx := (213, cx_454p, [cx_454q0, cx_454q1, cx_454q2], [uk1583, uk1573, uk1574, uk1604, uk1605], 65, 3, 64)
set_option maxRecDepth 1000000 in
theorem ck_454 : x_ok mLT1 [cx_423, cx_437, cx_453, cx_440, cx_441] mTS2 mTC2 mRUp cx_454 [(1, [0]), (7, [1, 2]), (13, [3, 4])] [(0, uN1726), (4, [740, 1000326, 1000327, 1000328, 1000329, 1000330, 1000331, 1000332, 1000333]), (10, [740]), (11, uN1727), (16, [740, 1000314, 1000335, 1000302, 1000487, 1000488, 1000489, 1000490])] [] (12, []) 53 15 = true := by decide +kernel
theorem sn_454 {W : Bool} {X : List Int32} : y_Snd (mGw W) mLT1 (J2 W X) X cx_454 := y_ok J2_J mTS2_ok1 mTC2_ok1 mRUp_ok1 (List.forall_mem_cons.mpr ⟨sn_423, List.forall_mem_cons.mpr ⟨sn_437, List.forall_mem_cons.mpr ⟨sn_453, List.forall_mem_cons.mpr ⟨sn_440, List.forall_mem_cons.mpr ⟨sn_441, fun _ h => absurd h List.not_mem_nil⟩⟩⟩⟩⟩) ck_454
/-- M.bounded -/
def cx_455 : zCtx := (210, ([ui0, ui146, (2, 2), ui52, (0, 5), ui52, ui52], [ur1474], [], [], [uV2, uV62, uV223], [uF1565, uF1566, uF1568, uF1610, uF1602, uF1611], [uG1612]), [([ui0, ui146, (2, 2), ui52, (0, 5), ui52, ui52], [ur1474], [], [], [uV62], [], [])], [], 12, 1, 21)
set_option maxRecDepth 1000000 in
theorem ck_455 : x_ok mLT1 [cx_431] mTS2 mTC2 mRUp cx_455 [(17, [0])] [(15, uN1613), (20, [740])] [] (8, []) 4 11 = true := by decide +kernel
theorem sn_455 {W : Bool} {X : List Int32} : y_Snd (mGw W) mLT1 (J2 W X) X cx_455 := y_ok J2_J mTS2_ok1 mTC2_ok1 mRUp_ok1 (List.forall_mem_cons.mpr ⟨sn_431, fun _ h => absurd h List.not_mem_nil⟩) ck_455
def cx_456p : zS := ((cx_453pi_0 (cx_453pi_1 [])), [ur1474, ur1488, ur1489, ur1490, ur1491, ur1524], [], [], [uV2, uV62, uV223], (cx_436pf_0 (cx_436pf_1 [])), [uG1618, (40, [uL78, uL9, uL281, uL63, uL63, uL79, uL163, uL98, uL104, uL169])])
/-- M.bounded -/
def cx_456 : zCtx := (210, cx_456p, [([ui0, ui347, (0, 0), ui52, (0, 5), ui52, ui52, (0, 6), (0, 1), ui48, ui68, ui52], [ur1474, ur1488, ur1489, ur1490, ur1491, ur1524], [uL63], [], [uV62], [uF1624, uF1594, uF1565, uF1610, uF1602, uF1617], [uG1625]), cx_453q1, ([ui0, ui146, (0, 0), ui52, (0, 5), ui52, ui52, (0, 6), (0, 1), ui48, ui68, ui194, ui52, (0, 5), ui52], [ur1474, ur1488, ur1489, ur1490, ur1491, ur1524], [uL63], [], [uV873], [uF1191, uF1572, uF1565, uF1626, uF1627, uF1617], [uG1628])], [uk1583, uk1573, uk1574, uk1604, uk1605], 53, 2, 41)
set_option maxRecDepth 1000000 in
theorem ck_456 : x_ok mLT1 [cx_433, cx_426, cx_434, cx_435, cx_423] mTS2 mTC2 mRUp cx_456 [(9, [0]), (17, [1]), (48, [2, 3]), (52, [4])] [(8, uN1629), (12, [740]), (15, uN1613), (20, [740]), (31, uN1630), (42, uN1631), (51, [740]), (55, [740, 1000260, 1000261, 1000262, 1000263, 1000264, 1000265, 1000266, 1000267, 1000268, 1000269, 1000270, 1000271, 1000272, 1000273, 1000274, 1000275, 1000276, 1000277, 1000278, 1000279, 1000280, 1000281, 1000282, 1000283, 1000284, 1000285, 1000286, 1000287, 1000288])] [] (28, []) 25 31 = true := by decide +kernel
theorem sn_456 {W : Bool} {X : List Int32} : y_Snd (mGw W) mLT1 (J2 W X) X cx_456 := y_ok J2_J mTS2_ok1 mTC2_ok1 mRUp_ok1 (List.forall_mem_cons.mpr ⟨sn_433, List.forall_mem_cons.mpr ⟨sn_426, List.forall_mem_cons.mpr ⟨sn_434, List.forall_mem_cons.mpr ⟨sn_435, List.forall_mem_cons.mpr ⟨sn_423, fun _ h => absurd h List.not_mem_nil⟩⟩⟩⟩⟩) ck_456
def cx_457p : zS := ((cx_454pi_0 (cx_454pi_1 [])), [ur1474, ur1488, ur1489, ur1490, ur1491, ur1524, ur1634], [((-23), [(11, 1)]), (23, [(11, (-1))])], [], [uV2, uV62, uV223], (cx_454pf_0 (cx_454pf_1 (cx_454pf_2 []))), [uG1618, uG1703, uG1704])
def cx_457q0 : zS := ((cx_454q0i_0 (cx_454q0i_1 (cx_454q0i_2 []))), [ur1474, ur1488, ur1489, ur1490, ur1491, ur1524, ur1634], [uL1705], [], [uV408], [uF1706, uF1707, uF1708, uF1656, uF1657, uF1617, uF1617], [uG1728, uG1622, uG1710, uG1711, uG1712])
def cx_457q1g_0 (t : List zTg) : List zTg := uG1714 :: uG1715 :: uG1716 :: uG1728 :: uG1622 :: uG1710 :: uG1711 :: uG1715 :: t
def cx_457q1g_1 (t : List zTg) : List zTg := uG1717 :: uG1714 :: (86, [uL78, uL1662, uL281, uL205]) :: t
def cx_457q1 : zS := ((cx_454q1i_0 (cx_454q1i_1 [])), [ur1474, ur1488, ur1489, ur1490, ur1491, ur1524, ur1634], [uL209, uL114], [], [uV408], [uF1718, uF1566, uF1568, uF1719, uF1720, uF1617, uF1617], (cx_457q1g_0 (cx_457q1g_1 [])))
def cx_457q2 : zS := ((cx_454q2i_0 (cx_454q2i_1 [])), [ur1474, ur1488, ur1489, ur1490, ur1491, ur1524, ur1634], [uL1721], [], [uV62], [uF1722, uF1723, uF1724, uF1610, uF1602, uF1617, uF1617], [uG1710, uG1711, uG1725])
/-- M.toldInt -/
def cx_457 : zCtx := (213, cx_457p, [cx_457q0, cx_457q1, cx_457q2], [uk1583, uk1573, uk1574, uk1604, uk1605], 65, 3, 64)
set_option maxRecDepth 1000000 in
theorem ck_457 : x_ok mLT1 [cx_423, cx_455, cx_456, cx_440, cx_441] mTS2 mTC2 mRUp cx_457 [(1, [0]), (7, [1, 2]), (13, [3, 4])] [(0, uN1726), (4, [740, 1000326, 1000327, 1000328, 1000329, 1000330, 1000331, 1000332, 1000333]), (10, [740]), (11, uN1727), (16, [740, 1000314, 1000335, 1000302, 1000487, 1000488, 1000489, 1000490])] [] (12, []) 53 15 = true := by decide +kernel
theorem sn_457 {W : Bool} {X : List Int32} : y_Snd (mGw W) mLT1 (J2 W X) X cx_457 := y_ok J2_J mTS2_ok1 mTC2_ok1 mRUp_ok1 (List.forall_mem_cons.mpr ⟨sn_423, List.forall_mem_cons.mpr ⟨sn_455, List.forall_mem_cons.mpr ⟨sn_456, List.forall_mem_cons.mpr ⟨sn_440, List.forall_mem_cons.mpr ⟨sn_441, fun _ h => absurd h List.not_mem_nil⟩⟩⟩⟩⟩) ck_457
/-- M.bounded -/
def cx_458 : zCtx := (210, ([ui0, ui146, (2, 2), ui52, (0, 5), ui52, ui52], [ur1474], [], [], [uV2, uV62, uV282], [uF1565, uF1566, uF1568, uF1610, uF1602, uF1611], [uG1612]), [([ui0, ui146, (2, 2), ui52, (0, 5), ui52, ui52], [ur1474], [], [], [uV62], [], [])], [], 12, 1, 21)
set_option maxRecDepth 1000000 in
theorem ck_458 : x_ok mLT1 [cx_431] mTS2 mTC2 mRUp cx_458 [(17, [0])] [(15, uN1613), (20, [740])] [] (8, []) 4 11 = true := by decide +kernel
theorem sn_458 {W : Bool} {X : List Int32} : y_Snd (mGw W) mLT1 (J2 W X) X cx_458 := y_ok J2_J mTS2_ok1 mTC2_ok1 mRUp_ok1 (List.forall_mem_cons.mpr ⟨sn_431, fun _ h => absurd h List.not_mem_nil⟩) ck_458
def cx_459p : zS := ((cx_453pi_0 (cx_453pi_1 [])), [ur1474, ur1488, ur1489, ur1490, ur1491, ur1524], [], [], [uV2, uV62, uV282], (cx_436pf_0 (cx_436pf_1 [])), [uG1618, (40, [uL78, uL9, uL283, uL63, uL63, uL79, uL163, uL98, uL104, uL169])])
/-- M.bounded -/
def cx_459 : zCtx := (210, cx_459p, [([ui0, ui347, (0, 0), ui52, (0, 5), ui52, ui52, (0, 6), (0, 1), ui48, ui68, ui52], [ur1474, ur1488, ur1489, ur1490, ur1491, ur1524], [uL63], [], [uV62], [uF1624, uF1594, uF1565, uF1610, uF1602, uF1617], [uG1625]), cx_453q1, ([ui0, ui146, (0, 0), ui52, (0, 5), ui52, ui52, (0, 6), (0, 1), ui48, ui68, ui194, ui52, (0, 5), ui52], [ur1474, ur1488, ur1489, ur1490, ur1491, ur1524], [uL63], [], [uV873], [uF1191, uF1572, uF1565, uF1626, uF1627, uF1617], [uG1628])], [uk1583, uk1573, uk1574, uk1604, uk1605], 53, 2, 41)
set_option maxRecDepth 1000000 in
theorem ck_459 : x_ok mLT1 [cx_433, cx_426, cx_434, cx_435, cx_423] mTS2 mTC2 mRUp cx_459 [(9, [0]), (17, [1]), (48, [2, 3]), (52, [4])] [(8, uN1629), (12, [740]), (15, uN1613), (20, [740]), (31, uN1630), (42, uN1631), (51, [740]), (55, [740, 1000260, 1000261, 1000262, 1000263, 1000264, 1000265, 1000266, 1000267, 1000268, 1000269, 1000270, 1000271, 1000272, 1000273, 1000274, 1000275, 1000276, 1000277, 1000278, 1000279, 1000280, 1000281, 1000282, 1000283, 1000284, 1000285, 1000286, 1000287, 1000288])] [] (28, []) 25 31 = true := by decide +kernel
theorem sn_459 {W : Bool} {X : List Int32} : y_Snd (mGw W) mLT1 (J2 W X) X cx_459 := y_ok J2_J mTS2_ok1 mTC2_ok1 mRUp_ok1 (List.forall_mem_cons.mpr ⟨sn_433, List.forall_mem_cons.mpr ⟨sn_426, List.forall_mem_cons.mpr ⟨sn_434, List.forall_mem_cons.mpr ⟨sn_435, List.forall_mem_cons.mpr ⟨sn_423, fun _ h => absurd h List.not_mem_nil⟩⟩⟩⟩⟩) ck_459
def cx_460p : zS := ((cx_454pi_0 (cx_454pi_1 [])), [ur1474, ur1488, ur1489, ur1490, ur1491, ur1524, ur1634], [((-28), [(11, 1)]), (28, [(11, (-1))])], [], [uV2, uV62, uV282], (cx_454pf_0 (cx_454pf_1 (cx_454pf_2 []))), [uG1618, uG1703, uG1704])
def cx_460q0 : zS := ((cx_454q0i_0 (cx_454q0i_1 (cx_454q0i_2 []))), [ur1474, ur1488, ur1489, ur1490, ur1491, ur1524, ur1634], [uL1705], [], [uV408], [uF1706, uF1707, uF1708, uF1656, uF1657, uF1617, uF1617], [uG1729, uG1622, uG1710, uG1711, uG1712])
def cx_460q1g_0 (t : List zTg) : List zTg := uG1714 :: uG1715 :: uG1716 :: uG1729 :: uG1622 :: uG1710 :: uG1711 :: uG1715 :: t
def cx_460q1g_1 (t : List zTg) : List zTg := uG1717 :: uG1714 :: (86, [uL78, uL1662, uL283, uL205]) :: t
def cx_460q1 : zS := ((cx_454q1i_0 (cx_454q1i_1 [])), [ur1474, ur1488, ur1489, ur1490, ur1491, ur1524, ur1634], [uL209, uL114], [], [uV408], [uF1718, uF1566, uF1568, uF1719, uF1720, uF1617, uF1617], (cx_460q1g_0 (cx_460q1g_1 [])))
/-- M.toldInt -/
def cx_460 : zCtx := (213, cx_460p, [cx_460q0, cx_460q1, cx_457q2], [uk1583, uk1573, uk1574, uk1604, uk1605], 65, 3, 64)
set_option maxRecDepth 1000000 in
theorem ck_460 : x_ok mLT1 [cx_423, cx_458, cx_459, cx_440, cx_441] mTS2 mTC2 mRUp cx_460 [(1, [0]), (7, [1, 2]), (13, [3, 4])] [(0, uN1726), (4, [740, 1000326, 1000327, 1000328, 1000329, 1000330, 1000331, 1000332, 1000333]), (10, [740]), (11, uN1727), (16, [740, 1000314, 1000335, 1000302, 1000487, 1000488, 1000489, 1000490])] [] (12, []) 53 15 = true := by decide +kernel
theorem sn_460 {W : Bool} {X : List Int32} : y_Snd (mGw W) mLT1 (J2 W X) X cx_460 := y_ok J2_J mTS2_ok1 mTC2_ok1 mRUp_ok1 (List.forall_mem_cons.mpr ⟨sn_423, List.forall_mem_cons.mpr ⟨sn_458, List.forall_mem_cons.mpr ⟨sn_459, List.forall_mem_cons.mpr ⟨sn_440, List.forall_mem_cons.mpr ⟨sn_441, fun _ h => absurd h List.not_mem_nil⟩⟩⟩⟩⟩) ck_460
/-- M.bounded -/
def cx_461 : zCtx := (210, ([ui0, ui146, (2, 2), ui52, (0, 5), ui52, ui52], [ur1474], [], [], [uV2, uV62, uV284], [uF1565, uF1566, uF1568, uF1610, uF1602, uF1611], [uG1612]), [([ui0, ui146, (2, 2), ui52, (0, 5), ui52, ui52], [ur1474], [], [], [uV62], [], [])], [], 12, 1, 21)
set_option maxRecDepth 1000000 in
theorem ck_461 : x_ok mLT1 [cx_431] mTS2 mTC2 mRUp cx_461 [(17, [0])] [(15, uN1613), (20, [740])] [] (8, []) 4 11 = true := by decide +kernel
theorem sn_461 {W : Bool} {X : List Int32} : y_Snd (mGw W) mLT1 (J2 W X) X cx_461 := y_ok J2_J mTS2_ok1 mTC2_ok1 mRUp_ok1 (List.forall_mem_cons.mpr ⟨sn_431, fun _ h => absurd h List.not_mem_nil⟩) ck_461
def cx_462p : zS := ((cx_453pi_0 (cx_453pi_1 [])), [ur1474, ur1488, ur1489, ur1490, ur1491, ur1524], [], [], [uV2, uV62, uV284], (cx_436pf_0 (cx_436pf_1 [])), [uG1618, (40, [uL78, uL9, uL285, uL63, uL63, uL79, uL163, uL98, uL104, uL169])])
def cx_462q1i_0 (t : List (Int × Int)) : List (Int × Int) := ui0 :: ui1597 :: (0, 0) :: ui52 :: (0, 5) :: ui52 :: ui52 :: (0, 6) :: t
def cx_462q1i_1 (t : List (Int × Int)) : List (Int × Int) := (0, 1) :: ui48 :: ui68 :: ui194 :: t
def cx_462q1g_0 (t : List zTg) : List zTg := uG1730 :: uG1622 :: uG1622 :: uG1730 :: uG1623 :: t
def cx_462q1 : zS := ((cx_462q1i_0 (cx_462q1i_1 [])), [ur1474, ur1488, ur1489, ur1490, ur1491, ur1524], [uL65, uL63, uL63], [], [uV873], [uF1581, uF1566, uF1568, uF1617], (cx_462q1g_0 []))
/-- M.bounded -/
def cx_462 : zCtx := (210, cx_462p, [([ui0, ui347, (0, 0), ui52, (0, 5), ui52, ui52, (0, 6), (0, 1), ui48, ui68, ui52], [ur1474, ur1488, ur1489, ur1490, ur1491, ur1524], [uL63], [], [uV62], [uF1624, uF1594, uF1565, uF1617], [uG1625]), cx_462q1, ([ui0, ui146, (0, 0), ui52, (0, 5), ui52, ui52, (0, 6), (0, 1), ui48, ui68, ui194, ui52], [ur1474, ur1488, ur1489, ur1490, ur1491, ur1524], [uL63], [], [uV873], [uF1191, uF1572, uF1565, uF1617], [uG1628])], [uk1583, uk1573, uk1574], 48, 2, 41)
set_option maxRecDepth 1000000 in
theorem ck_462 : x_ok mLT1 [cx_433, cx_426, cx_423] mTS2 mTC2 mRUp cx_462 [(9, [0]), (17, [1]), (52, [2])] [(8, uN1629), (12, [740]), (15, uN1613), (20, [740]), (31, uN1630), (51, [740]), (55, [740, 1000260, 1000261, 1000262, 1000263, 1000264, 1000265, 1000266, 1000267, 1000268, 1000269, 1000270, 1000271, 1000272, 1000273, 1000274, 1000275, 1000276, 1000277, 1000278, 1000279, 1000280, 1000281, 1000282, 1000283, 1000284, 1000285, 1000286, 1000287, 1000288])] [] (23, []) 25 26 = true := by decide +kernel
theorem sn_462 {W : Bool} {X : List Int32} : y_Snd (mGw W) mLT1 (J2 W X) X cx_462 := y_ok J2_J mTS2_ok1 mTC2_ok1 mRUp_ok1 (List.forall_mem_cons.mpr ⟨sn_433, List.forall_mem_cons.mpr ⟨sn_426, List.forall_mem_cons.mpr ⟨sn_423, fun _ h => absurd h List.not_mem_nil⟩⟩⟩) ck_462
def cx_463p : zS := ((cx_454pi_0 (cx_454pi_1 [])), [ur1474, ur1488, ur1489, ur1490, ur1491, ur1524, ur1634], [((-29), [(11, 1)]), (29, [(11, (-1))])], [], [uV2, uV62, uV284], (cx_454pf_0 (cx_454pf_1 (cx_454pf_2 []))), [uG1618, uG1703, uG1704])
def cx_463q0i_0 (t : List (Int × Int)) : List (Int × Int) := ui0 :: ui147 :: (0, 0) :: ui52 :: (0, 5) :: ui52 :: ui52 :: (0, 6) :: t
def cx_463q0i_1 (t : List (Int × Int)) : List (Int × Int) := (0, 1) :: ui48 :: ui68 :: ui1520 :: ui52 :: ui194 :: ui52 :: (1, 2) :: t
def cx_463q0i_2 (t : List (Int × Int)) : List (Int × Int) := ui405 :: t
def cx_463q0 : zS := ((cx_463q0i_0 (cx_463q0i_1 (cx_463q0i_2 []))), [ur1474, ur1488, ur1489, ur1490, ur1491, ur1524, ur1634], [uL1705], [], [uV408], [uF1706, uF1707, uF1708, uF1617, uF1617], [uG1731, uG1622, uG1710, uG1711, uG1712])
def cx_463q1i_0 (t : List (Int × Int)) : List (Int × Int) := ui0 :: ui1713 :: (0, 0) :: ui52 :: (0, 5) :: ui52 :: ui52 :: (0, 6) :: t
def cx_463q1i_1 (t : List (Int × Int)) : List (Int × Int) := (0, 1) :: ui48 :: ui68 :: ui1520 :: ui52 :: ui194 :: t
def cx_463q1g_0 (t : List zTg) : List zTg := uG1714 :: uG1732 :: uG1715 :: (40, [uL78, uL1663, uL265, uL63, uL63, uL79, uL163, uL98, uL104, uL169]) :: uG1716 :: uG1731 :: uG1622 :: uG1710 :: t
def cx_463q1g_1 (t : List zTg) : List zTg := uG1711 :: uG1715 :: uG1732 :: uG1714 :: (86, [uL78, uL1662, uL285, uL205]) :: t
def cx_463q1 : zS := ((cx_463q1i_0 (cx_463q1i_1 [])), [ur1474, ur1488, ur1489, ur1490, ur1491, ur1524, ur1634], [uL209, uL114], [], [uV408], [uF1718, uF1566, uF1568, uF1617, uF1617], (cx_463q1g_0 (cx_463q1g_1 [])))
def cx_463q2 : zS := ((cx_454q2i_0 (cx_454q2i_1 [])), [ur1474, ur1488, ur1489, ur1490, ur1491, ur1524, ur1634], [uL1721], [], [uV62], [uF1722, uF1723, uF1724, uF1617, uF1617], [uG1710, uG1711, uG1725])
/-- M.toldInt -/
def cx_463 : zCtx := (213, cx_463p, [cx_463q0, cx_463q1, cx_463q2], [uk1583, uk1573, uk1574], 60, 3, 64)
set_option maxRecDepth 1000000 in
theorem ck_463 : x_ok mLT1 [cx_423, cx_461, cx_462, cx_440, cx_441] mTS2 mTC2 mRUp cx_463 [(1, [0]), (7, [1, 2]), (13, [3, 4])] [(0, uN1726), (4, [740, 1000326, 1000327, 1000328, 1000329, 1000330, 1000331, 1000332, 1000333]), (10, [740]), (11, uN1727), (16, [740, 1000314, 1000335, 1000302, 1000487, 1000488, 1000489, 1000490])] [] (12, []) 48 15 = true := by decide +kernel
theorem sn_463 {W : Bool} {X : List Int32} : y_Snd (mGw W) mLT1 (J2 W X) X cx_463 := y_ok J2_J mTS2_ok1 mTC2_ok1 mRUp_ok1 (List.forall_mem_cons.mpr ⟨sn_423, List.forall_mem_cons.mpr ⟨sn_461, List.forall_mem_cons.mpr ⟨sn_462, List.forall_mem_cons.mpr ⟨sn_440, List.forall_mem_cons.mpr ⟨sn_441, fun _ h => absurd h List.not_mem_nil⟩⟩⟩⟩⟩) ck_463
/-- M.is -/
def cx_464 : zCtx := (202, ([ui0, ui347, (0, 2), ui1486], [ur1474, ur1488], [], [], [uV2, uV3], [uF1565, uF1566, uF1492, uF1567], []), [([ui0, ui347, (0, 0), (5, 5)], [ur1474, ur1488], [], [], [uV64], [], []), ([ui0, ui347, (0, 0), (0, 4)], [ur1474, ur1488], [], [], [uV62], [], []), ([ui0, ui347, (0, 0), (6, 41)], [ur1474, ur1488], [], [], [uV62], [], []), ([ui0, ui347, (1, 2), ui1486], [ur1474, ur1488], [], [], [uV62], [], [])], [], 13, 0, 0)
set_option maxRecDepth 1000000 in
theorem ck_464 : x_ok mLT1 [] mTS2 mTC2 mRUp cx_464 [] [] [] (13, []) 0 16 = true := by decide +kernel
theorem sn_464 {W : Bool} {X : List Int32} : y_Snd (mGw W) mLT1 (J2 W X) X cx_464 := y_ok J2_J mTS2_ok1 mTC2_ok1 mRUp_ok1 (fun _ h => absurd h List.not_mem_nil) ck_464
/-- M.must -/
def cx_465 : zCtx := (208, ([ui0, ui146, (2, 2), ui52, ui52], [ur1474], [], [], [uV2, uV3], [uF1565, uF1566, uF1568, uF176], [uG1633]), [([ui0, ui146, (2, 2), ui52, ui52], [ur1474], [], [], [], [], [])], [], 21, 1, 21)
set_option maxRecDepth 1000000 in
theorem ck_465 : x_ok mLT1 [cx_464, cx_431] mTS2 mTC2 mRUp cx_465 [(2, [0]), (17, [1])] [(15, uN1599)] [] (8, []) 13 11 = true := by decide +kernel
theorem sn_465 {W : Bool} {X : List Int32} : y_Snd (mGw W) mLT1 (J2 W X) X cx_465 := y_ok J2_J mTS2_ok1 mTC2_ok1 mRUp_ok1 (List.forall_mem_cons.mpr ⟨sn_464, List.forall_mem_cons.mpr ⟨sn_431, fun _ h => absurd h List.not_mem_nil⟩⟩) ck_465
def cx_466pi_0 (t : List (Int × Int)) : List (Int × Int) := ui0 :: ui347 :: (0, 7) :: (1, 2) :: ui52 :: ui1733 :: ui1734 :: ui1735 :: t
def cx_466pi_1 (t : List (Int × Int)) : List (Int × Int) := (0, 1) :: ui1736 :: ui1736 :: ui1734 :: (0, 2) :: ui1734 :: ui1734 :: ui52 :: t
def cx_466pi_2 (t : List (Int × Int)) : List (Int × Int) := (0, 1) :: ui31 :: t
def cx_466pr_0 (t : List (Nat × Bool)) : List (Nat × Bool) := ur1474 :: ur1535 :: ur1536 :: ur1530 :: ur1531 :: ur1521 :: ur1522 :: ur1532 :: t
def cx_466pr_1 (t : List (Nat × Bool)) : List (Nat × Bool) := ur1533 :: ur1534 :: t
def cx_466pf_0 (t : List zFa) : List zFa := uF1565 :: uF1737 :: uF1585 :: uF1571 :: uF1738 :: uF1739 :: uF1740 :: uF1741 :: t
def cx_466pf_1 (t : List zFa) : List zFa := uF1742 :: uF1743 :: (0, (false, 40, 0, []), 2, 3, 0, []) :: (0, (false, 41, 0, []), 2, 4, 0, []) :: (0, (false, 31, 0, []), 2, 5, 0, []) :: (0, (false, 32, 0, []), 2, 6, 0, []) :: (0, (false, 34, 0, []), 2, 7, 0, []) :: (0, (false, 35, 0, []), 2, 8, 0, []) :: t
def cx_466pf_2 (t : List zFa) : List zFa := (0, (false, 36, 0, []), 2, 9, 0, []) :: t
def cx_466p : zS := ((cx_466pi_0 (cx_466pi_1 (cx_466pi_2 []))), (cx_466pr_0 (cx_466pr_1 [])), [uL1744, (0, [(5, 1), (9, (-1))]), (0, [(5, 1), (8, (-130))])], [], [uV2], (cx_466pf_0 (cx_466pf_1 (cx_466pf_2 []))), [uG1745, (41, [uL207, uL23, uL98]), uG1747])
/-- M.term -/
def cx_466 : zCtx := (219, cx_466p, [([ui0, ui347, (0, 7), (1, 2), ui52, ui1733, ui1734, ui1735, (0, 1), ui1736, ui1736, ui1734, (0, 2), ui1734, ui1734, ui52, (0, 1), ui31], [ur1474, ur1535, ur1536, ur1530, ur1531, ur1521, ur1522, ur1532, ur1533, ur1534], [], [], [], [uF1748, (2, (true, 0, 0, [(5, 1)]), 0, 0, 0, [(6, 1)]), uF1749], [uG1745, uG1747])], [uk1750, uk1751, uk1752], 24, 0, 0)
set_option maxRecDepth 1000000 in
theorem ck_466 : x_ok mLT1 [] mTS2 mTC2 mRUp cx_466 [] [(0, [1000610])] [] (24, []) 0 27 = true := by decide +kernel
theorem sn_466 {W : Bool} {X : List Int32} : y_Snd (mGw W) mLT1 (J2 W X) X cx_466 := y_ok J2_J mTS2_ok1 mTC2_ok1 mRUp_ok1 (fun _ h => absurd h List.not_mem_nil) ck_466
def cx_467pi_0 (t : List (Int × Int)) : List (Int × Int) := ui0 :: (0, 3) :: ui146 :: (0, 0) :: (2, 2) :: ui52 :: (0, 1) :: ui1753 :: t
def cx_467pi_1 (t : List (Int × Int)) : List (Int × Int) := ui1754 :: ui1735 :: (0, 2) :: ui1734 :: ui1734 :: ui52 :: (0, 1) :: ui31 :: t
def cx_467pr_0 (t : List (Nat × Bool)) : List (Nat × Bool) := ur1474 :: ur1532 :: ur1533 :: ur1534 :: ur1535 :: ur1536 :: ur1521 :: ur1522 :: t
def cx_467pr_1 (t : List (Nat × Bool)) : List (Nat × Bool) := ur1530 :: ur1531 :: t
def cx_467pf_0 (t : List zFa) : List zFa := uF1584 :: uF1755 :: uF1756 :: uF1187 :: uF1637 :: uF1757 :: uF1758 :: uF1759 :: t
def cx_467pf_1 (t : List zFa) : List zFa := uF1760 :: uF1761 :: uF1762 :: uF1763 :: uF1764 :: uF1765 :: uF1766 :: uF1767 :: t
def cx_467pf_2 (t : List zFa) : List zFa := uF1768 :: uF1769 :: t
def cx_467p : zS := ((cx_467pi_0 (cx_467pi_1 [])), (cx_467pr_0 (cx_467pr_1 [])), [(120, [(6, 130), (7, (-1))]), (0, [(6, (-130)), (7, 1)])], [], [uV2, uV11], (cx_467pf_0 (cx_467pf_1 (cx_467pf_2 []))), [uG1770, (41, [uL205, uL98, uL104]), uG1771])
/-- M.tellLaw -/
def cx_467 : zCtx := (214, cx_467p, [([ui0, (0, 3), ui146, (0, 0), (2, 2), ui52, (0, 1), ui1753, ui1754, ui1735, (0, 2), ui1734, ui1734, ui52, (0, 1), ui31], [ur1474, ur1532, ur1533, ur1534, ur1535, ur1536, ur1521, ur1522, ur1530, ur1531], [], [], [], [(0, (false, 33, 0, []), 0, 0, 1, [(7, 1)])], [uG1770, uG1771, (225, [uL79, uL78])])], [uk1750, (67, true, 0), uk1751, uk1752], 50, 2, 42)
set_option maxRecDepth 1000000 in
theorem ck_467 : x_ok mLT1 [cx_465, cx_466, cx_440] mTS2 mTC2 mRUp cx_467 [(2, [0]), (140, [1]), (145, [2])] [(0, uN1772), (5, uN1773), (129, [1000600, 1000391, 1000392, 35, 1000610, 1000611]), (140, [35]), (143, [13, 740, 741, 1000246, 1000393, 1000612]), (148, uN1774)] [] (26, []) 24 29 = true := by decide +kernel
theorem sn_467 {W : Bool} {X : List Int32} : y_Snd (mGw W) mLT1 (J2 W X) X cx_467 := y_ok J2_J mTS2_ok1 mTC2_ok1 mRUp_ok1 (List.forall_mem_cons.mpr ⟨sn_465, List.forall_mem_cons.mpr ⟨sn_466, List.forall_mem_cons.mpr ⟨sn_440, fun _ h => absurd h List.not_mem_nil⟩⟩⟩) ck_467
def cx_468p : zS := ([ui0, ui347, (0, 0), ui52, ui52, ui1486, ui52], [ur1474, ur1488, ur1489, ur1490, ur1491], [uL36], [], [uV2, uV3], (cx_423pf_0 (cx_423pf_1 [])), [uG1577, uG1578, (62, [uL98, uL9, uL244, uL104, uL78])])
/-- M.must -/
def cx_468 : zCtx := (208, cx_468p, [([ui0, ui347, (0, 0), ui52, ui52, ui1486, ui52, (1, 2)], [ur1474, ur1488, ur1489, ur1490, ur1491], [uL63], [], [], [uF1219, uF1595, uF1565], [uG1596]), ([ui0, ui1597, (0, 0), ui52, ui52, (5, 5), ui52], [ur1474, ur1488, ur1489, ur1490, ur1491], [uL65, ((-5), [(5, 1)]), (5, [(5, (-1))]), uL63, uL63], [], [], [uF1581, uF1566, uF1568], [uG1582, uG1579, uG1582])], [uk1583, uk1573, uk1574], 33, 2, 41)
set_option maxRecDepth 1000000 in
theorem ck_468 : x_ok mLT1 [cx_464, cx_423, cx_426] mTS2 mTC2 mRUp cx_468 [(2, [0]), (9, [1]), (17, [2])] [(9, [1000243]), (15, uN1599)] [] (8, []) 25 11 = true := by decide +kernel
theorem sn_468 {W : Bool} {X : List Int32} : y_Snd (mGw W) mLT1 (J2 W X) X cx_468 := y_ok J2_J mTS2_ok1 mTC2_ok1 mRUp_ok1 (List.forall_mem_cons.mpr ⟨sn_464, List.forall_mem_cons.mpr ⟨sn_423, List.forall_mem_cons.mpr ⟨sn_426, fun _ h => absurd h List.not_mem_nil⟩⟩⟩) ck_468
/-- M.is -/
def cx_469 : zCtx := (202, ([ui0, ui405, (0, 0), ui1486], [ur1474, ur1488], [], [], [uV2, (0, 0, 30, [])], [uF1565, uF1566, uF1492, uF1567], []), [([ui0, ui405, (0, 0), (30, 30)], [ur1474, ur1488], [], [], [uV64], [], []), ([ui0, ui405, (0, 0), (0, 29)], [ur1474, ur1488], [], [], [uV62], [], []), ([ui0, ui405, (0, 0), (31, 41)], [ur1474, ur1488], [], [], [uV62], [], [])], [], 13, 0, 0)
set_option maxRecDepth 1000000 in
theorem ck_469 : x_ok mLT1 [] mTS2 mTC2 mRUp cx_469 [] [] [] (13, []) 0 16 = true := by decide +kernel
theorem sn_469 {W : Bool} {X : List Int32} : y_Snd (mGw W) mLT1 (J2 W X) X cx_469 := y_ok J2_J mTS2_ok1 mTC2_ok1 mRUp_ok1 (fun _ h => absurd h List.not_mem_nil) ck_469
def cx_470pi_0 (t : List (Int × Int)) : List (Int × Int) := ui0 :: ui146 :: (0, 0) :: (2, 2) :: ui52 :: ui1754 :: ui1735 :: (0, 1) :: t
def cx_470pi_1 (t : List (Int × Int)) : List (Int × Int) := ui1736 :: ui1736 :: (0, 2) :: ui1734 :: ui1734 :: ui52 :: (0, 1) :: ui31 :: t
def cx_470pr_0 (t : List (Nat × Bool)) : List (Nat × Bool) := ur1474 :: ur1775 :: ur1530 :: ur1531 :: ur1521 :: ur1522 :: ur1532 :: ur1533 :: t
def cx_470pr_1 (t : List (Nat × Bool)) : List (Nat × Bool) := ur1534 :: ur1535 :: ur1536 :: t
def cx_470pf_0 (t : List zFa) : List zFa := uF1565 :: uF1737 :: uF1585 :: uF1571 :: uF1776 :: uF1777 :: uF1778 :: uF1767 :: t
def cx_470pf_1 (t : List zFa) : List zFa := uF1779 :: uF1780 :: uF1781 :: uF1782 :: uF1783 :: uF1784 :: uF1785 :: uF1786 :: t
def cx_470pf_2 (t : List zFa) : List zFa := uF1787 :: t
def cx_470p : zS := ((cx_470pi_0 (cx_470pi_1 [])), (cx_470pr_0 (cx_470pr_1 [])), [uL1788], [], [uV2], (cx_470pf_0 (cx_470pf_1 (cx_470pf_2 []))), [uG1789, (41, [uL205, uL23, uL98]), (224, [uL1790, uL79, uL206, uL207])])
/-- M.expression -/
def cx_470 : zCtx := (215, cx_470p, [([ui0, ui146, (0, 0), (2, 2), ui52, ui1754, ui1735, (0, 1), ui1736, ui1736, (0, 2), ui1734, ui1734, ui52, (0, 1), ui31], [ur1474, ur1775, ur1530, ur1531, ur1521, ur1522, ur1532, ur1533, ur1534, ur1535, ur1536], [], [], [], [(0, (false, 43, 0, []), 0, 0, 0, [])], [(1, [uL63, uL63, uL63]), (0, [uL104, uL63, uL104])])], [uk1791], 14, 0, 0)
set_option maxRecDepth 1000000 in
theorem ck_470 : x_ok mLT1 [] mTS2 mTC2 mRUp cx_470 [] [(5, [5, 6])] [] (14, []) 0 17 = true := by decide +kernel
theorem sn_470 {W : Bool} {X : List Int32} : y_Snd (mGw W) mLT1 (J2 W X) X cx_470 := y_ok J2_J mTS2_ok1 mTC2_ok1 mRUp_ok1 (fun _ h => absurd h List.not_mem_nil) ck_470
/-- M.is -/
def cx_471 : zCtx := (202, ([ui0, ui405, (0, 2), ui1486], [ur1474, ur1488], [], [], [uV2, uV314], [uF1565, uF1566, uF1492, uF1567], []), [([ui0, ui405, (0, 0), (6, 6)], [ur1474, ur1488], [], [], [uV64], [], []), ([ui0, ui405, (0, 0), (0, 5)], [ur1474, ur1488], [], [], [uV62], [], []), ([ui0, ui405, (0, 0), (7, 41)], [ur1474, ur1488], [], [], [uV62], [], []), ([ui0, ui405, (1, 2), ui1486], [ur1474, ur1488], [], [], [uV62], [], [])], [], 13, 0, 0)
set_option maxRecDepth 1000000 in
theorem ck_471 : x_ok mLT1 [] mTS2 mTC2 mRUp cx_471 [] [] [] (13, []) 0 16 = true := by decide +kernel
theorem sn_471 {W : Bool} {X : List Int32} : y_Snd (mGw W) mLT1 (J2 W X) X cx_471 := y_ok J2_J mTS2_ok1 mTC2_ok1 mRUp_ok1 (fun _ h => absurd h List.not_mem_nil) ck_471
/-- M.fail -/
def cx_472 : zCtx := (205, ([ui0, ui146, (2, 2), ui52, ui52], [ur1474, ur1489], [], [], [uV2, uV388], [uF1565, uF1566, uF1568, uF1569, uF1570], []), [([ui0, ui146, (2, 2), ui52, ui52], [ur1474, ur1489], [], [], [], [], [])], [], 4, 0, 0)
set_option maxRecDepth 1000000 in
theorem ck_472 : x_ok mLT1 [] mTS2 mTC2 mRUp cx_472 [] [] [] (4, []) 0 7 = true := by decide +kernel
theorem sn_472 {W : Bool} {X : List Int32} : y_Snd (mGw W) mLT1 (J2 W X) X cx_472 := y_ok J2_J mTS2_ok1 mTC2_ok1 mRUp_ok1 (fun _ h => absurd h List.not_mem_nil) ck_472
/-- M.goesOn -/
def cx_473 : zCtx := (206, ([ui0, ui405, (2, 2), ui52, ui52], [ur1474], [], [], [uV2], [uF1565, uF1566, uF1568, uF176], [uG1633]), [([ui0, ui146, (2, 2), ui52, ui52], [ur1474], [uL63], [], [], [uF1565], [uG1633]), ([ui0, ui1619, (2, 2), ui52, ui52], [ur1474], [uL65], [], [], [uF1581], [uG1633])], [uk1583], 15, 1, 21)
set_option maxRecDepth 1000000 in
theorem ck_473 : x_ok mLT1 [cx_472] mTS2 mTC2 mRUp cx_473 [(12, [0])] [(10, [1000241]), (28, [1000242])] [] (11, []) 4 14 = true := by decide +kernel
theorem sn_473 {W : Bool} {X : List Int32} : y_Snd (mGw W) mLT1 (J2 W X) X cx_473 := y_ok J2_J mTS2_ok1 mTC2_ok1 mRUp_ok1 (List.forall_mem_cons.mpr ⟨sn_472, fun _ h => absurd h List.not_mem_nil⟩) ck_473
def cx_474pi_0 (t : List (Int × Int)) : List (Int × Int) := ui0 :: ui1632 :: (2, 2) :: ui52 :: ui788 :: ui1734 :: (0, 1) :: ui1736 :: t
def cx_474pi_1 (t : List (Int × Int)) : List (Int × Int) := ui1736 :: (0, 2) :: ui1734 :: ui1734 :: ui1734 :: ui1734 :: ui52 :: (0, 1) :: t
def cx_474pi_2 (t : List (Int × Int)) : List (Int × Int) := ui31 :: t
def cx_474pr_0 (t : List (Nat × Bool)) : List (Nat × Bool) := ur1474 :: ur1530 :: ur1531 :: ur1521 :: ur1522 :: ur1532 :: ur1533 :: ur1534 :: t
def cx_474pr_1 (t : List (Nat × Bool)) : List (Nat × Bool) := ur1535 :: ur1536 :: t
def cx_474pf_0 (t : List zFa) : List zFa := uF1565 :: uF1566 :: uF1568 :: uF1792 :: (0, (false, 4, 0, []), 0, 0, 0, [(14, 1)]) :: uF1793 :: uF1794 :: uF1795 :: t
def cx_474pf_1 (t : List zFa) : List zFa := uF1796 :: uF1797 :: uF1798 :: uF1799 :: uF1800 :: uF1801 :: t
def cx_474p : zS := ((cx_474pi_0 (cx_474pi_1 (cx_474pi_2 []))), (cx_474pr_0 (cx_474pr_1 [])), [uL1608, uL1802], [], [uV2], (cx_474pf_0 (cx_474pf_1 [])), [uG1803, uG1804, (41, [uL206, uL67, uL23]), (224, [uL1650, uL78, uL207, uL210])])
/-- M.unit -/
def cx_474 : zCtx := (216, cx_474p, [([ui0, ui1632, (2, 2), ui52, ui788, ui1734, (0, 1), ui1736, ui1736, (0, 2), ui1734, ui1734, ui1734, ui1734, ui52, (0, 1), ui31], [ur1474, ur1530, ur1531, ur1521, ur1522, ur1532, ur1533, ur1534, ur1535, ur1536], [], [], [], [], [])], [], 24, 1, 21)
set_option maxRecDepth 1000000 in
theorem ck_474 : x_ok mLT1 [cx_433, cx_431] mTS2 mTC2 mRUp cx_474 [(2, [0]), (90, [1])] [(0, [1000246]), (88, uN1805)] [] (11, []) 13 14 = true := by decide +kernel
theorem sn_474 {W : Bool} {X : List Int32} : y_Snd (mGw W) mLT1 (J2 W X) X cx_474 := y_ok J2_J mTS2_ok1 mTC2_ok1 mRUp_ok1 (List.forall_mem_cons.mpr ⟨sn_433, List.forall_mem_cons.mpr ⟨sn_431, fun _ h => absurd h List.not_mem_nil⟩⟩) ck_474
def cx_475pi_0 (t : List (Int × Int)) : List (Int × Int) := ui0 :: ui194 :: ui788 :: ui1734 :: (0, 1) :: ui1736 :: ui1736 :: (0, 2) :: t
def cx_475pi_1 (t : List (Int × Int)) : List (Int × Int) := ui1734 :: ui1734 :: ui1734 :: ui1734 :: ui52 :: ui68 :: ui1735 :: ui1736 :: t
def cx_475pi_2 (t : List (Int × Int)) : List (Int × Int) := (0, 5) :: (0, 1) :: ui31 :: t
def cx_475pf_0 (t : List zFa) : List zFa := (0, (false, 39, 0, []), 0, 0, 0, [(2, 1)]) :: uF1793 :: uF1794 :: uF1795 :: uF1796 :: uF1797 :: uF1798 :: uF1799 :: t
def cx_475pf_1 (t : List zFa) : List zFa := uF1800 :: uF1801 :: t
def cx_475p : zS := ((cx_475pi_0 (cx_475pi_1 (cx_475pi_2 []))), (cx_474pr_0 (cx_474pr_1 [])), [uL480, uL1806, uL1807], [], [uV2, uV62, uV11], (cx_475pf_0 (cx_475pf_1 [])), [uG1808, uG1809, uG1810, uG1812])
def cx_475q0g_0 (t : List zTg) : List zTg := (0, [uL169, uL239, uL527]) :: uG1808 :: uG1809 :: uG1810 :: uG1812 :: uG1810 :: t
def cx_475q0 : zS := ((cx_475pi_0 (cx_475pi_1 (cx_475pi_2 []))), (cx_474pr_0 (cx_474pr_1 [])), [], [], [], [uF1813, uF1814, (1, (true, 0, 0, [(2, 1)]), 0, 0, 0, [])], (cx_475q0g_0 []))
/-- M.emit -/
def cx_475 : zCtx := (217, cx_475p, [cx_475q0], [uk1815, uk1816, uk1817], 19, 0, 0)
set_option maxRecDepth 1000000 in
theorem ck_475 : x_ok mLT1 [] mTS2 mTC2 mRUp cx_475 [] [(30, [7])] [] (19, []) 0 22 = true := by decide +kernel
theorem sn_475 {W : Bool} {X : List Int32} : y_Snd (mGw W) mLT1 (J2 W X) X cx_475 := y_ok J2_J mTS2_ok1 mTC2_ok1 mRUp_ok1 (fun _ h => absurd h List.not_mem_nil) ck_475
def cx_476pi_0 (t : List (Int × Int)) : List (Int × Int) := ui0 :: (0, 8) :: ui788 :: ui1734 :: (0, 1) :: ui1736 :: ui1736 :: (0, 2) :: t
def cx_476pi_1 (t : List (Int × Int)) : List (Int × Int) := ui1734 :: ui1734 :: ui1734 :: ui1734 :: ui52 :: ui68 :: ui1735 :: ui1736 :: t
def cx_476pi_2 (t : List (Int × Int)) : List (Int × Int) := (0, 5) :: (0, 1) :: ui31 :: t
def cx_476p : zS := ((cx_476pi_0 (cx_476pi_1 (cx_476pi_2 []))), (cx_474pr_0 (cx_474pr_1 [])), [uL480, uL1806, uL1807], [], [uV2, uV64, uV11], (cx_475pf_0 (cx_475pf_1 [])), [uG1808, uG1809, uG1810, uG1812])
def cx_476q0 : zS := ((cx_476pi_0 (cx_476pi_1 (cx_476pi_2 []))), (cx_474pr_0 (cx_474pr_1 [])), [], [], [], [uF1813, uF1814, (1, (true, 0, 0, [(2, 1)]), 0, 0, 1, [])], (cx_475q0g_0 []))
/-- M.emit -/
def cx_476 : zCtx := (217, cx_476p, [cx_476q0], [uk1815, uk1816, uk1817], 19, 0, 0)
set_option maxRecDepth 1000000 in
theorem ck_476 : x_ok mLT1 [] mTS2 mTC2 mRUp cx_476 [] [(30, [7])] [] (19, []) 0 22 = true := by decide +kernel
theorem sn_476 {W : Bool} {X : List Int32} : y_Snd (mGw W) mLT1 (J2 W X) X cx_476 := y_ok J2_J mTS2_ok1 mTC2_ok1 mRUp_ok1 (fun _ h => absurd h List.not_mem_nil) ck_476
def cx_477pi_0 (t : List (Int × Int)) : List (Int × Int) := ui0 :: ui405 :: (0, 0) :: ui52 :: ui788 :: ui1734 :: (0, 1) :: ui1736 :: t
def cx_477pi_1 (t : List (Int × Int)) : List (Int × Int) := ui1736 :: (0, 2) :: ui1734 :: ui1734 :: ui1734 :: ui1734 :: ui1486 :: ui52 :: t
def cx_477pi_2 (t : List (Int × Int)) : List (Int × Int) := ui302 :: (0, 7) :: (0, 6) :: (0, 1) :: ui48 :: (0, 5) :: ui52 :: ui68 :: t
def cx_477pi_3 (t : List (Int × Int)) : List (Int × Int) := ui1735 :: ui1736 :: (0, 1) :: ui31 :: t
def cx_477pr_0 (t : List (Nat × Bool)) : List (Nat × Bool) := ur1474 :: ur1488 :: ur1489 :: ur1490 :: ur1491 :: ur1524 :: ur1530 :: ur1531 :: t
def cx_477pr_1 (t : List (Nat × Bool)) : List (Nat × Bool) := ur1521 :: ur1522 :: ur1532 :: ur1533 :: ur1534 :: ur1535 :: ur1536 :: t
def cx_477pf_0 (t : List zFa) : List zFa := uF1565 :: uF1566 :: uF1568 :: uF1792 :: uF1492 :: (1, (true, 0, 0, [(1, 1)]), 0, 0, 0, [(14, 1)]) :: uF1743 :: uF1493 :: t
def cx_477pf_1 (t : List zFa) : List zFa := uF1494 :: uF447 :: (0, (false, 12, 0, []), 0, 0, 0, [(17, 1)]) :: (0, (false, 20, 0, []), 0, 0, 0, [(18, 1)]) :: (0, (false, 19, 0, []), 0, 0, 0, [(19, 1)]) :: uF1616 :: uF1818 :: (0, (false, 15, 0, []), 0, 0, 0, [(21, 1)]) :: t
def cx_477pf_2 (t : List zFa) : List zFa := (0, (false, 16, 0, []), 0, 0, 0, [(22, 1)]) :: (0, (false, 40, 0, []), 2, 6, 0, []) :: (0, (false, 41, 0, []), 2, 7, 0, []) :: (0, (false, 31, 0, []), 2, 8, 0, []) :: (0, (false, 32, 0, []), 2, 9, 0, []) :: (0, (false, 34, 0, []), 2, 10, 0, []) :: (0, (false, 35, 0, []), 2, 11, 0, []) :: (0, (false, 36, 0, []), 2, 12, 0, []) :: t
def cx_477pf_3 (t : List zFa) : List zFa := (0, (false, 37, 0, []), 2, 13, 0, []) :: (0, (false, 38, 0, []), 2, 14, 0, []) :: t
def cx_477pg_0 (t : List zTg) : List zTg := uG1803 :: uG1804 :: (70, [uL206]) :: uG1819 :: (40, [uL207, uL9, uL210, uL63, uL211, uL275, uL407, uL1228, uL1820, uL1821]) :: uG1824 :: uG1827 :: t
def cx_477p : zS := ((cx_477pi_0 (cx_477pi_1 (cx_477pi_2 (cx_477pi_3 [])))), (cx_477pr_0 (cx_477pr_1 [])), [uL1608, uL1802, ((-200), [(16, 1)])], [], [uV2], (cx_477pf_0 (cx_477pf_1 (cx_477pf_2 (cx_477pf_3 [])))), (cx_477pg_0 []))
def cx_477q0i_0 (t : List (Int × Int)) : List (Int × Int) := ui0 :: ui1619 :: (0, 0) :: ui52 :: ui788 :: ui1734 :: (0, 1) :: ui1736 :: t
def cx_477q0i_1 (t : List (Int × Int)) : List (Int × Int) := ui1736 :: (0, 2) :: ui1734 :: ui1734 :: ui1734 :: ui1734 :: ui1593 :: ui52 :: t
def cx_477q0i_2 (t : List (Int × Int)) : List (Int × Int) := ui302 :: (0, 7) :: (0, 6) :: (0, 1) :: ui48 :: (0, 5) :: ui52 :: ui68 :: t
def cx_477q0i_3 (t : List (Int × Int)) : List (Int × Int) := ui1735 :: ui1736 :: (0, 1) :: ui31 :: t
def cx_477q0g_0 (t : List zTg) : List zTg := uG1828 :: uG1829 :: (0, [uL212, uL1830, uL168]) :: uG1803 :: uG1804 :: uG1827 :: uG1829 :: uG1828 :: t
def cx_477q0g_1 (t : List zTg) : List zTg := (216, [uL207, uL109, uL78, uL168, uL1822, uL1823, uL63]) :: t
def cx_477q0 : zS := ((cx_477q0i_0 (cx_477q0i_1 (cx_477q0i_2 (cx_477q0i_3 [])))), (cx_477pr_0 (cx_477pr_1 [])), [uL65], [], [], [uF1581, uF1566, uF1568, (0, (false, 39, 0, []), 0, 0, 1, [(4, 1)]), uF1818], (cx_477q0g_0 (cx_477q0g_1 [])))
def cx_477q1i_0 (t : List (Int × Int)) : List (Int × Int) := ui0 :: ui405 :: (0, 0) :: ui52 :: ui788 :: ui1734 :: (0, 1) :: ui1736 :: t
def cx_477q1i_1 (t : List (Int × Int)) : List (Int × Int) := ui1736 :: (0, 2) :: ui1734 :: ui1734 :: ui1734 :: ui1734 :: ui1486 :: ui52 :: t
def cx_477q1i_2 (t : List (Int × Int)) : List (Int × Int) := ui302 :: (0, 7) :: (0, 6) :: (0, 1) :: ui48 :: (0, 5) :: ui52 :: ui68 :: t
def cx_477q1i_3 (t : List (Int × Int)) : List (Int × Int) := ui1735 :: ui1736 :: (0, 1) :: ui31 :: ui52 :: (1, 2) :: ui1734 :: t
def cx_477q1g_0 (t : List zTg) : List zTg := uG1803 :: uG1804 :: uG1824 :: uG1827 :: (41, [uL207, uL1831, uL1832]) :: t
def cx_477q1 : zS := ((cx_477q1i_0 (cx_477q1i_1 (cx_477q1i_2 (cx_477q1i_3 [])))), (cx_477pr_0 (cx_477pr_1 [])), [uL63], [], [], [(0, (false, 14, 0, []), 0, 0, 0, [(28, 1)]), (0, (false, 13, 0, []), 0, 0, 0, [(29, 1)]), uF1565, (0, (false, 39, 0, []), 0, 0, 0, [(30, 1)]), uF1818], (cx_477q1g_0 []))
/-- M.unit -/
def cx_477 : zCtx := (216, cx_477p, [cx_477q0, cx_477q1], [uk1583, uk1573, uk1574, uk1815, uk1816, uk1817], 60, 2, 41)
set_option maxRecDepth 1000000 in
theorem ck_477 : x_ok mLT1 [cx_433, cx_475, cx_423, cx_476, cx_426] mTS2 mTC2 mRUp cx_477 [(2, [0]), (19, [1]), (23, [2]), (78, [3]), (82, [2]), (90, [4])] [(0, [1000246]), (8, [1000340]), (19, [1000609]), (22, [1000256, 1000586]), (26, [1000341, 1000342, 1000588]), (64, [1000343]), (78, [1000609]), (81, [1000587]), (85, [1000344, 1000345, 1000588]), (88, uN1805)] [] (35, []) 25 38 = true := by decide +kernel
theorem sn_477 {W : Bool} {X : List Int32} : y_Snd (mGw W) mLT1 (J2 W X) X cx_477 := y_ok J2_J mTS2_ok1 mTC2_ok1 mRUp_ok1 (List.forall_mem_cons.mpr ⟨sn_433, List.forall_mem_cons.mpr ⟨sn_475, List.forall_mem_cons.mpr ⟨sn_423, List.forall_mem_cons.mpr ⟨sn_476, List.forall_mem_cons.mpr ⟨sn_426, fun _ h => absurd h List.not_mem_nil⟩⟩⟩⟩⟩) ck_477
/-- M.is -/
def cx_478 : zCtx := (202, ([ui0, ui1632, (0, 2), ui1486], [ur1474, ur1488], [], [], [uV2, (0, 0, 7, [])], [uF1565, uF1566, uF1492, uF1567], []), [([ui0, ui1632, (0, 0), (7, 7)], [ur1474, ur1488], [], [], [uV64], [], []), ([ui0, ui1632, (0, 0), (0, 6)], [ur1474, ur1488], [], [], [uV62], [], []), ([ui0, ui1632, (0, 0), (8, 41)], [ur1474, ur1488], [], [], [uV62], [], []), ([ui0, ui1632, (1, 2), ui1486], [ur1474, ur1488], [], [], [uV62], [], [])], [], 13, 0, 0)
set_option maxRecDepth 1000000 in
theorem ck_478 : x_ok mLT1 [] mTS2 mTC2 mRUp cx_478 [] [] [] (13, []) 0 16 = true := by decide +kernel
theorem sn_478 {W : Bool} {X : List Int32} : y_Snd (mGw W) mLT1 (J2 W X) X cx_478 := y_ok J2_J mTS2_ok1 mTC2_ok1 mRUp_ok1 (fun _ h => absurd h List.not_mem_nil) ck_478
def cx_479pi_0 (t : List (Int × Int)) : List (Int × Int) := ui0 :: (0, 0) :: ui1833 :: ui1734 :: (0, 1) :: ui1736 :: ui1736 :: (0, 2) :: t
def cx_479pi_1 (t : List (Int × Int)) : List (Int × Int) := ui1734 :: ui1734 :: ui1734 :: ui1834 :: ui52 :: ui68 :: ui1735 :: ui1736 :: t
def cx_479pi_2 (t : List (Int × Int)) : List (Int × Int) := (0, 5) :: (0, 1) :: ui31 :: t
def cx_479p : zS := ((cx_479pi_0 (cx_479pi_1 (cx_479pi_2 []))), (cx_474pr_0 (cx_474pr_1 [])), [uL480, uL1806, uL1807], [], [uV2, uV388, uV11], (cx_475pf_0 (cx_475pf_1 [])), [uG1808, uG1809, uG1810, uG1812])
def cx_479q0g_0 (t : List zTg) : List zTg := uG1835 :: uG1808 :: uG1809 :: uG1810 :: uG1812 :: uG1810 :: t
def cx_479q0 : zS := ((cx_479pi_0 (cx_479pi_1 (cx_479pi_2 []))), (cx_474pr_0 (cx_474pr_1 [])), [], [], [], [uF1813, uF1814, uF1836], (cx_479q0g_0 []))
/-- M.emit -/
def cx_479 : zCtx := (217, cx_479p, [cx_479q0], [uk1815, uk1816, uk1817], 19, 0, 0)
set_option maxRecDepth 1000000 in
theorem ck_479 : x_ok mLT1 [] mTS2 mTC2 mRUp cx_479 [] [(30, [7])] [] (19, []) 0 22 = true := by decide +kernel
theorem sn_479 {W : Bool} {X : List Int32} : y_Snd (mGw W) mLT1 (J2 W X) X cx_479 := y_ok J2_J mTS2_ok1 mTC2_ok1 mRUp_ok1 (fun _ h => absurd h List.not_mem_nil) ck_479
def cx_480p : zS := ((cx_479pi_0 (cx_479pi_1 (cx_479pi_2 []))), (cx_474pr_0 (cx_474pr_1 [])), [uL480, uL1806, uL1807], [], [uV2, uV384, uV11], (cx_475pf_0 (cx_475pf_1 [])), [uG1808, uG1809, uG1810, uG1812])
def cx_480q0 : zS := ((cx_479pi_0 (cx_479pi_1 (cx_479pi_2 []))), (cx_474pr_0 (cx_474pr_1 [])), [], [], [], [uF1813, uF1814, uF1837], (cx_479q0g_0 []))
/-- M.emit -/
def cx_480 : zCtx := (217, cx_480p, [cx_480q0], [uk1815, uk1816, uk1817], 19, 0, 0)
set_option maxRecDepth 1000000 in
theorem ck_480 : x_ok mLT1 [] mTS2 mTC2 mRUp cx_480 [] [(30, [7])] [] (19, []) 0 22 = true := by decide +kernel
theorem sn_480 {W : Bool} {X : List Int32} : y_Snd (mGw W) mLT1 (J2 W X) X cx_480 := y_ok J2_J mTS2_ok1 mTC2_ok1 mRUp_ok1 (fun _ h => absurd h List.not_mem_nil) ck_480
def cx_481p : zS := ((cx_479pi_0 (cx_479pi_1 (cx_479pi_2 []))), (cx_474pr_0 (cx_474pr_1 [])), [uL480, uL1806, uL1807], [], [uV2, uV380, uV11], (cx_475pf_0 (cx_475pf_1 [])), [uG1808, uG1809, uG1810, uG1812])
def cx_481q0 : zS := ((cx_479pi_0 (cx_479pi_1 (cx_479pi_2 []))), (cx_474pr_0 (cx_474pr_1 [])), [], [], [], [uF1813, uF1814, uF1838], (cx_479q0g_0 []))
/-- M.emit -/
def cx_481 : zCtx := (217, cx_481p, [cx_481q0], [uk1815, uk1816, uk1817], 19, 0, 0)
set_option maxRecDepth 1000000 in
theorem ck_481 : x_ok mLT1 [] mTS2 mTC2 mRUp cx_481 [] [(30, [7])] [] (19, []) 0 22 = true := by decide +kernel
theorem sn_481 {W : Bool} {X : List Int32} : y_Snd (mGw W) mLT1 (J2 W X) X cx_481 := y_ok J2_J mTS2_ok1 mTC2_ok1 mRUp_ok1 (fun _ h => absurd h List.not_mem_nil) ck_481
def cx_482p : zS := ((cx_479pi_0 (cx_479pi_1 (cx_479pi_2 []))), (cx_474pr_0 (cx_474pr_1 [])), [uL480, uL1806, uL1807], [], [uV2, uV3, uV11], (cx_475pf_0 (cx_475pf_1 [])), [uG1808, uG1809, uG1810, uG1812])
def cx_482q0 : zS := ((cx_479pi_0 (cx_479pi_1 (cx_479pi_2 []))), (cx_474pr_0 (cx_474pr_1 [])), [], [], [], [uF1813, uF1814, uF1839], (cx_479q0g_0 []))
/-- M.emit -/
def cx_482 : zCtx := (217, cx_482p, [cx_482q0], [uk1815, uk1816, uk1817], 19, 0, 0)
set_option maxRecDepth 1000000 in
theorem ck_482 : x_ok mLT1 [] mTS2 mTC2 mRUp cx_482 [] [(30, [7])] [] (19, []) 0 22 = true := by decide +kernel
theorem sn_482 {W : Bool} {X : List Int32} : y_Snd (mGw W) mLT1 (J2 W X) X cx_482 := y_ok J2_J mTS2_ok1 mTC2_ok1 mRUp_ok1 (fun _ h => absurd h List.not_mem_nil) ck_482
def cx_483pi_0 (t : List (Int × Int)) : List (Int × Int) := ui0 :: ui1840 :: ui1841 :: ui1734 :: (0, 1) :: ui1736 :: ui1736 :: (0, 2) :: t
def cx_483pi_1 (t : List (Int × Int)) : List (Int × Int) := ui1734 :: ui1734 :: (1, 8) :: (0, 3) :: ui1734 :: ui52 :: ui68 :: ui1736 :: t
def cx_483pi_2 (t : List (Int × Int)) : List (Int × Int) := (0, 1) :: ui31 :: t
def cx_483pf_0 (t : List zFa) : List zFa := uF1842 :: uF1843 :: uF1778 :: uF1779 :: uF1780 :: uF1781 :: uF1782 :: uF1783 :: t
def cx_483pf_1 (t : List zFa) : List zFa := uF1784 :: uF1785 :: uF1786 :: uF1787 :: t
def cx_483pg_0 (t : List zTg) : List zTg := uG1808 :: uG1844 :: uG1845 :: (216, [uL205, uL206, uL98, uL9, uL67, uL207, uL63]) :: uG1846 :: t
def cx_483p : zS := ((cx_483pi_0 (cx_483pi_1 (cx_483pi_2 []))), (cx_470pr_0 (cx_470pr_1 [])), [uL587, uL1847, uL1376, uL1848], [], [uV2, uV62], (cx_483pf_0 (cx_483pf_1 [])), (cx_483pg_0 []))
def cx_483q0i_0 (t : List (Int × Int)) : List (Int × Int) := ui0 :: ui1840 :: ui1841 :: ui1734 :: (0, 1) :: ui1736 :: ui1736 :: (0, 2) :: t
def cx_483q0i_1 (t : List (Int × Int)) : List (Int × Int) := ui1734 :: ui1734 :: (1, 8) :: (0, 0) :: ui1734 :: ui52 :: ui68 :: ui1736 :: t
def cx_483q0i_2 (t : List (Int × Int)) : List (Int × Int) := (0, 1) :: ui31 :: t
def cx_483q0g_0 (t : List zTg) : List zTg := uG1808 :: uG1846 :: uG1849 :: uG1845 :: (216, [uL205, uL206, uL98, uL9, uL67, uL207, uL36]) :: t
def cx_483q0 : zS := ((cx_483q0i_0 (cx_483q0i_1 (cx_483q0i_2 []))), (cx_470pr_0 (cx_470pr_1 [])), [uL1376, uL63, uL587], [], [], [uF1843, uF1842], (cx_483q0g_0 []))
def cx_483q1i_0 (t : List (Int × Int)) : List (Int × Int) := ui0 :: ui1840 :: ui1850 :: ui1734 :: (0, 1) :: ui1736 :: ui1736 :: (0, 2) :: t
def cx_483q1i_1 (t : List (Int × Int)) : List (Int × Int) := ui1734 :: ui1734 :: (1, 8) :: (1, 3) :: ui1734 :: ui52 :: ui68 :: ui1736 :: t
def cx_483q1i_2 (t : List (Int × Int)) : List (Int × Int) := (0, 1) :: ui31 :: ui1851 :: t
def cx_483q1g_0 (t : List zTg) : List zTg := uG1808 :: uG1846 :: (1, [uL275, uL169, uL63]) :: uG1853 :: (216, [uL205, uL206, uL98, uL1852, uL275, uL207, uL36]) :: t
def cx_483q1 : zS := ((cx_483q1i_0 (cx_483q1i_1 (cx_483q1i_2 []))), (cx_470pr_0 (cx_470pr_1 [])), [uL1854, uL1855, uL1856], [], [], [uF1857, uF1858], (cx_483q1g_0 []))
/-- M.comesOut -/
def cx_483 : zCtx := (218, cx_483p, [cx_483q0, cx_483q1], [uk1815, uk1791, uk1816, uk1817], 107, 1, 22)
def cz_483_0i_0 (t : List (Int × Int)) : List (Int × Int) := ui0 :: ui1840 :: ui1850 :: ui1734 :: (0, 1) :: ui1736 :: ui1736 :: (0, 2) :: t
def cz_483_0i_1 (t : List (Int × Int)) : List (Int × Int) := ui1734 :: ui1734 :: (1, 8) :: (1, 3) :: ui1734 :: ui52 :: ui68 :: ui1736 :: t
def cz_483_0i_2 (t : List (Int × Int)) : List (Int × Int) := (0, 1) :: ui31 :: ui1859 :: ui1851 :: (0, 3) :: t
def cz_483_0f_0 (t : List zFa) : List zFa := (0, (false, 43, 0, []), 0, 0, 0, [(19, 1)]) :: uF1778 :: uF1779 :: uF1780 :: uF1781 :: uF1782 :: uF1783 :: uF1784 :: t
def cz_483_0f_1 (t : List zFa) : List zFa := uF1785 :: uF1786 :: uF1787 :: (0, (false, 39, 0, []), 0, 0, 0, [(1, 1), (2, 1), (19, (-1))]) :: t
def cz_483_0g_0 (t : List zTg) : List zTg := uG1808 :: uG1846 :: uG1860 :: uG1862 :: (216, [uL205, uL206, uL98, uL1861, uL352, uL207, uL114]) :: t
def cz_483_0 : zS := ((cz_483_0i_0 (cz_483_0i_1 (cz_483_0i_2 []))), (cx_470pr_0 (cx_470pr_1 [])), [uL1863, uL1864, uL1865, uL587, uL1847, uL1376, uL1848, uL1866], [uV2, uV62, uV1230], [], (cz_483_0f_0 (cz_483_0f_1 [])), (cz_483_0g_0 []))
set_option maxRecDepth 1000000 in
theorem ck_483 : x_ok mLT1 [cx_479, cx_480, cx_481, cx_482] mTS2 mTC2 mRUp cx_483 [(85, [0, 1, 2, 3])] [(0, uN1867), (4, [3]), (17, [2]), (41, uN1868), (88, uN1869)] [(0, cz_483_0, (15, [(20, 35)]))] (88, []) 19 40 = true := by decide +kernel
theorem sn_483 {W : Bool} {X : List Int32} : y_Snd (mGw W) mLT1 (J2 W X) X cx_483 := y_ok J2_J mTS2_ok1 mTC2_ok1 mRUp_ok1 (List.forall_mem_cons.mpr ⟨sn_479, List.forall_mem_cons.mpr ⟨sn_480, List.forall_mem_cons.mpr ⟨sn_481, List.forall_mem_cons.mpr ⟨sn_482, fun _ h => absurd h List.not_mem_nil⟩⟩⟩⟩) ck_483
/-- M.is -/
def cx_484 : zCtx := (202, ([ui0, ui1632, (0, 2), ui1486], [ur1474, ur1488], [], [], [uV2, (0, 0, 8, [])], [uF1565, uF1566, uF1492, uF1567], []), [([ui0, ui1632, (0, 0), (8, 8)], [ur1474, ur1488], [], [], [uV64], [], []), ([ui0, ui1632, (0, 0), (0, 7)], [ur1474, ur1488], [], [], [uV62], [], []), ([ui0, ui1632, (0, 0), (9, 41)], [ur1474, ur1488], [], [], [uV62], [], []), ([ui0, ui1632, (1, 2), ui1486], [ur1474, ur1488], [], [], [uV62], [], [])], [], 13, 0, 0)
set_option maxRecDepth 1000000 in
theorem ck_484 : x_ok mLT1 [] mTS2 mTC2 mRUp cx_484 [] [] [] (13, []) 0 16 = true := by decide +kernel
theorem sn_484 {W : Bool} {X : List Int32} : y_Snd (mGw W) mLT1 (J2 W X) X cx_484 := y_ok J2_J mTS2_ok1 mTC2_ok1 mRUp_ok1 (fun _ h => absurd h List.not_mem_nil) ck_484
/-- M.is -/
def cx_485 : zCtx := (202, ([ui0, ui1632, (0, 2), ui1486], [ur1474, ur1488], [], [], [uV2, uV120], [uF1565, uF1566, uF1492, uF1567], []), [([ui0, ui1632, (0, 0), (9, 9)], [ur1474, ur1488], [], [], [uV64], [], []), ([ui0, ui1632, (0, 0), (0, 8)], [ur1474, ur1488], [], [], [uV62], [], []), ([ui0, ui1632, (0, 0), (10, 41)], [ur1474, ur1488], [], [], [uV62], [], []), ([ui0, ui1632, (1, 2), ui1486], [ur1474, ur1488], [], [], [uV62], [], [])], [], 13, 0, 0)
set_option maxRecDepth 1000000 in
theorem ck_485 : x_ok mLT1 [] mTS2 mTC2 mRUp cx_485 [] [] [] (13, []) 0 16 = true := by decide +kernel
theorem sn_485 {W : Bool} {X : List Int32} : y_Snd (mGw W) mLT1 (J2 W X) X cx_485 := y_ok J2_J mTS2_ok1 mTC2_ok1 mRUp_ok1 (fun _ h => absurd h List.not_mem_nil) ck_485
/-- M.is -/
def cx_486 : zCtx := (202, ([ui0, ui1632, (0, 2), ui1486], [ur1474, ur1488], [], [], [uV2, (0, 0, 10, [])], [uF1565, uF1566, uF1492, uF1567], []), [([ui0, ui1632, (0, 0), ui1870], [ur1474, ur1488], [], [], [uV64], [], []), ([ui0, ui1632, (0, 0), (0, 9)], [ur1474, ur1488], [], [], [uV62], [], []), ([ui0, ui1632, (0, 0), (11, 41)], [ur1474, ur1488], [], [], [uV62], [], []), ([ui0, ui1632, (1, 2), ui1486], [ur1474, ur1488], [], [], [uV62], [], [])], [], 13, 0, 0)
set_option maxRecDepth 1000000 in
theorem ck_486 : x_ok mLT1 [] mTS2 mTC2 mRUp cx_486 [] [] [] (13, []) 0 16 = true := by decide +kernel
theorem sn_486 {W : Bool} {X : List Int32} : y_Snd (mGw W) mLT1 (J2 W X) X cx_486 := y_ok J2_J mTS2_ok1 mTC2_ok1 mRUp_ok1 (fun _ h => absurd h List.not_mem_nil) ck_486
/-- M.is -/
def cx_487 : zCtx := (202, ([ui0, ui1632, (0, 2), ui1486], [ur1474, ur1488], [], [], [uV2, (0, 0, 15, [])], [uF1565, uF1566, uF1492, uF1567], []), [([ui0, ui1632, (0, 0), ui1871], [ur1474, ur1488], [], [], [uV64], [], []), ([ui0, ui1632, (0, 0), (0, 14)], [ur1474, ur1488], [], [], [uV62], [], []), ([ui0, ui1632, (0, 0), (16, 41)], [ur1474, ur1488], [], [], [uV62], [], []), ([ui0, ui1632, (1, 2), ui1486], [ur1474, ur1488], [], [], [uV62], [], [])], [], 13, 0, 0)
set_option maxRecDepth 1000000 in
theorem ck_487 : x_ok mLT1 [] mTS2 mTC2 mRUp cx_487 [] [] [] (13, []) 0 16 = true := by decide +kernel
theorem sn_487 {W : Bool} {X : List Int32} : y_Snd (mGw W) mLT1 (J2 W X) X cx_487 := y_ok J2_J mTS2_ok1 mTC2_ok1 mRUp_ok1 (fun _ h => absurd h List.not_mem_nil) ck_487
def cx_488pi_0 (t : List (Int × Int)) : List (Int × Int) := ui0 :: (0, 0) :: ui1833 :: ui1734 :: (0, 1) :: ui1736 :: ui1736 :: (0, 2) :: t
def cx_488pi_1 (t : List (Int × Int)) : List (Int × Int) := ui1734 :: ui1734 :: ui1734 :: ui1834 :: (0, 1) :: ui31 :: t
def cx_488p : zS := ((cx_488pi_0 (cx_488pi_1 [])), (cx_474pr_0 (cx_474pr_1 [])), [uL480, uL1806, uL1807], [], [uV2, uV388, uV11], (cx_475pf_0 (cx_475pf_1 [])), [uG1808, uG1809, uG1872])
def cx_488q0 : zS := ((cx_488pi_0 (cx_488pi_1 [])), (cx_474pr_0 (cx_474pr_1 [])), [], [], [], [uF1813, uF1814, uF1836], [uG1835, uG1808, uG1809, uG1872])
/-- M.emit -/
def cx_488 : zCtx := (217, cx_488p, [cx_488q0], [uk1815, uk1816, uk1817], 19, 0, 0)
set_option maxRecDepth 1000000 in
theorem ck_488 : x_ok mLT1 [] mTS2 mTC2 mRUp cx_488 [] [(30, [7])] [] (19, []) 0 22 = true := by decide +kernel
theorem sn_488 {W : Bool} {X : List Int32} : y_Snd (mGw W) mLT1 (J2 W X) X cx_488 := y_ok J2_J mTS2_ok1 mTC2_ok1 mRUp_ok1 (fun _ h => absurd h List.not_mem_nil) ck_488
def cx_489p : zS := ((cx_488pi_0 (cx_488pi_1 [])), (cx_474pr_0 (cx_474pr_1 [])), [uL480, uL1806, uL1807], [], [uV2, uV384, uV11], (cx_475pf_0 (cx_475pf_1 [])), [uG1808, uG1809, uG1872])
def cx_489q0 : zS := ((cx_488pi_0 (cx_488pi_1 [])), (cx_474pr_0 (cx_474pr_1 [])), [], [], [], [uF1813, uF1814, uF1837], [uG1835, uG1808, uG1809, uG1872])
/-- M.emit -/
def cx_489 : zCtx := (217, cx_489p, [cx_489q0], [uk1815, uk1816, uk1817], 19, 0, 0)
set_option maxRecDepth 1000000 in
theorem ck_489 : x_ok mLT1 [] mTS2 mTC2 mRUp cx_489 [] [(30, [7])] [] (19, []) 0 22 = true := by decide +kernel
theorem sn_489 {W : Bool} {X : List Int32} : y_Snd (mGw W) mLT1 (J2 W X) X cx_489 := y_ok J2_J mTS2_ok1 mTC2_ok1 mRUp_ok1 (fun _ h => absurd h List.not_mem_nil) ck_489
def cx_490p : zS := ((cx_488pi_0 (cx_488pi_1 [])), (cx_474pr_0 (cx_474pr_1 [])), [uL480, uL1806, uL1807], [], [uV2, uV380, uV11], (cx_475pf_0 (cx_475pf_1 [])), [uG1808, uG1809, uG1872])
def cx_490q0 : zS := ((cx_488pi_0 (cx_488pi_1 [])), (cx_474pr_0 (cx_474pr_1 [])), [], [], [], [uF1813, uF1814, uF1838], [uG1835, uG1808, uG1809, uG1872])
/-- M.emit -/
def cx_490 : zCtx := (217, cx_490p, [cx_490q0], [uk1815, uk1816, uk1817], 19, 0, 0)
set_option maxRecDepth 1000000 in
theorem ck_490 : x_ok mLT1 [] mTS2 mTC2 mRUp cx_490 [] [(30, [7])] [] (19, []) 0 22 = true := by decide +kernel
theorem sn_490 {W : Bool} {X : List Int32} : y_Snd (mGw W) mLT1 (J2 W X) X cx_490 := y_ok J2_J mTS2_ok1 mTC2_ok1 mRUp_ok1 (fun _ h => absurd h List.not_mem_nil) ck_490
def cx_491p : zS := ((cx_488pi_0 (cx_488pi_1 [])), (cx_474pr_0 (cx_474pr_1 [])), [uL480, uL1806, uL1807], [], [uV2, uV3, uV11], (cx_475pf_0 (cx_475pf_1 [])), [uG1808, uG1809, uG1872])
def cx_491q0 : zS := ((cx_488pi_0 (cx_488pi_1 [])), (cx_474pr_0 (cx_474pr_1 [])), [], [], [], [uF1813, uF1814, uF1839], [uG1835, uG1808, uG1809, uG1872])
/-- M.emit -/
def cx_491 : zCtx := (217, cx_491p, [cx_491q0], [uk1815, uk1816, uk1817], 19, 0, 0)
set_option maxRecDepth 1000000 in
theorem ck_491 : x_ok mLT1 [] mTS2 mTC2 mRUp cx_491 [] [(30, [7])] [] (19, []) 0 22 = true := by decide +kernel
theorem sn_491 {W : Bool} {X : List Int32} : y_Snd (mGw W) mLT1 (J2 W X) X cx_491 := y_ok J2_J mTS2_ok1 mTC2_ok1 mRUp_ok1 (fun _ h => absurd h List.not_mem_nil) ck_491
def cx_492pi_0 (t : List (Int × Int)) : List (Int × Int) := ui0 :: ui1873 :: ui96 :: ui1734 :: (0, 1) :: ui1736 :: ui1736 :: (0, 2) :: t
def cx_492pi_1 (t : List (Int × Int)) : List (Int × Int) := ui1734 :: ui1734 :: (0, 8) :: (0, 3) :: ui1734 :: (0, 1) :: ui31 :: t
def cx_492p : zS := ((cx_492pi_0 (cx_492pi_1 [])), (cx_470pr_0 (cx_470pr_1 [])), [uL587, uL1847, uL1376, uL1848], [], [uV2, uV62], (cx_483pf_0 (cx_483pf_1 [])), [uG1808, uG1844, uG1845, uG1874])
def cx_492q0i_0 (t : List (Int × Int)) : List (Int × Int) := ui0 :: ui1873 :: ui1851 :: ui1734 :: (0, 1) :: ui1736 :: ui1736 :: (0, 2) :: t
def cx_492q0i_1 (t : List (Int × Int)) : List (Int × Int) := ui1734 :: ui1734 :: (1, 8) :: (0, 0) :: ui1734 :: (0, 1) :: ui31 :: t
def cx_492q0 : zS := ((cx_492q0i_0 (cx_492q0i_1 [])), (cx_470pr_0 (cx_470pr_1 [])), [uL1376, uL63, uL587], [], [], [uF1843, uF1842], [uG1808, uG1874, uG1849, uG1845])
def cx_492q1i_0 (t : List (Int × Int)) : List (Int × Int) := ui0 :: ui1873 :: (0, 0) :: ui1734 :: (0, 1) :: ui1736 :: ui1736 :: (0, 2) :: t
def cx_492q1i_1 (t : List (Int × Int)) : List (Int × Int) := ui1734 :: ui1734 :: (0, 8) :: (0, 3) :: ui1734 :: (0, 1) :: ui31 :: t
def cx_492q1 : zS := ((cx_492q1i_0 (cx_492q1i_1 [])), (cx_470pr_0 (cx_470pr_1 [])), [uL1376, uL63, uL587], [], [], [uF1843, uF1842], [uG1808, uG1874, uG1849, uG1845])
def cx_492q2i_0 (t : List (Int × Int)) : List (Int × Int) := ui0 :: ui1873 :: ui1851 :: ui1734 :: (0, 1) :: ui1736 :: ui1736 :: (0, 2) :: t
def cx_492q2i_1 (t : List (Int × Int)) : List (Int × Int) := ui1734 :: ui1734 :: (1, 8) :: (1, 3) :: ui1734 :: (0, 1) :: ui31 :: ui1394 :: t
def cx_492q2 : zS := ((cx_492q2i_0 (cx_492q2i_1 [])), (cx_470pr_0 (cx_470pr_1 [])), [uL1875, uL1876, uL1877], [], [], [uF1878, uF1879], [uG1808, uG1874, uG1880, uG1881])
def cx_492q3i_0 (t : List (Int × Int)) : List (Int × Int) := ui0 :: ui1873 :: ui1851 :: ui1734 :: (0, 1) :: ui1736 :: ui1736 :: (0, 2) :: t
def cx_492q3i_1 (t : List (Int × Int)) : List (Int × Int) := ui1734 :: ui1734 :: (0, 8) :: (1, 3) :: ui1734 :: (0, 1) :: ui31 :: (0, 0) :: t
def cx_492q3 : zS := ((cx_492q3i_0 (cx_492q3i_1 [])), (cx_470pr_0 (cx_470pr_1 [])), [uL1875, uL1876, uL1877], [], [], [uF1878, uF1879], [uG1808, uG1874, uG1880, uG1881])
/-- M.comesOut -/
def cx_492 : zCtx := (218, cx_492p, [cx_492q0, cx_492q1, cx_492q2, cx_492q3], [uk1815, uk1791, uk1816, uk1817], 107, 1, 22)
def cz_492_0i_0 (t : List (Int × Int)) : List (Int × Int) := ui0 :: ui1873 :: ui1851 :: ui1734 :: (0, 1) :: ui1736 :: ui1736 :: (0, 2) :: t
def cz_492_0i_1 (t : List (Int × Int)) : List (Int × Int) := ui1734 :: ui1734 :: (0, 8) :: (1, 3) :: ui1734 :: (0, 1) :: ui31 :: ui1859 :: t
def cz_492_0i_2 (t : List (Int × Int)) : List (Int × Int) := ui48 :: (0, 3) :: t
def cz_492_0f_0 (t : List zFa) : List zFa := uF1882 :: uF1778 :: uF1779 :: uF1780 :: uF1781 :: uF1782 :: uF1783 :: uF1784 :: t
def cz_492_0f_1 (t : List zFa) : List zFa := uF1785 :: uF1786 :: uF1787 :: (0, (false, 39, 0, []), 0, 0, 0, [(1, 1), (2, 1), (16, (-1))]) :: t
def cz_492_0 : zS := ((cz_492_0i_0 (cz_492_0i_1 (cz_492_0i_2 []))), (cx_470pr_0 (cx_470pr_1 [])), [uL1883, uL1884, uL1885, uL587, uL1847, uL1376, uL1848, uL1886], [uV2, uV62, uV601], [], (cz_492_0f_0 (cz_492_0f_1 [])), [uG1808, uG1874, uG1887, uG1888])
set_option maxRecDepth 1000000 in
theorem ck_492 : x_ok mLT1 [cx_488, cx_489, cx_490, cx_491] mTS2 mTC2 mRUp cx_492 [(85, [0, 1, 2, 3])] [(0, uN1867), (4, [3]), (17, [2]), (41, uN1868), (88, uN1869), (91, uN1889)] [(0, cz_492_0, (15, [(17, 35)]))] (88, []) 19 40 = true := by decide +kernel
theorem sn_492 {W : Bool} {X : List Int32} : y_Snd (mGw W) mLT1 (J2 W X) X cx_492 := y_ok J2_J mTS2_ok1 mTC2_ok1 mRUp_ok1 (List.forall_mem_cons.mpr ⟨sn_488, List.forall_mem_cons.mpr ⟨sn_489, List.forall_mem_cons.mpr ⟨sn_490, List.forall_mem_cons.mpr ⟨sn_491, fun _ h => absurd h List.not_mem_nil⟩⟩⟩⟩) ck_492
end
