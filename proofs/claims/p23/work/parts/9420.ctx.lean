noncomputable section
/-! ===== readings, by program, checked by the kernel ===== -/
def cx_456pi_0 (t : List (Int × Int)) : List (Int × Int) := ui0 :: ui348 :: (0, 0) :: ui52 :: (0, 5) :: ui52 :: ui52 :: (0, 6) :: t
def cx_456pi_1 (t : List (Int × Int)) : List (Int × Int) := (0, 1) :: ui48 :: ui68 :: t
def cx_456p : zS := ((cx_456pi_0 (cx_456pi_1 [])), [ur1414, ur1428, ur1429, ur1430, ur1431, ur1464], [], [], [uV2, uV64, uV225], (cx_439pf_0 (cx_439pf_1 [])), [uG1558, (40, [uL78, uL9, uL266, uL63, uL63, uL79, uL164, uL98, uL104, uL170])])
def cx_456q1i_0 (t : List (Int × Int)) : List (Int × Int) := ui0 :: ui1537 :: (0, 0) :: ui52 :: (0, 5) :: ui52 :: ui52 :: (0, 6) :: t
def cx_456q1i_1 (t : List (Int × Int)) : List (Int × Int) := (0, 1) :: ui48 :: ui68 :: ui196 :: (0, 5) :: ui52 :: t
def cx_456q1 : zS := ((cx_456q1i_0 (cx_456q1i_1 [])), [ur1414, ur1428, ur1429, ur1430, ur1431, ur1464], [uL65, uL63, uL63], [], [uV843], [uF1521, uF1506, uF1508, uF1560, uF1561, uF1557], [uG1562, uG1562, (40, [uL78, uL109, uL267, uL63, uL63, uL79, uL164, uL214, uL207, uL170]), uG1563])
/-- M.bounded -/
def cx_456 : zCtx := (210, cx_456p, [([ui0, ui348, (0, 0), ui52, (0, 5), ui52, ui52, (0, 6), (0, 1), ui48, ui68, ui52], [ur1414, ur1428, ur1429, ur1430, ur1431, ur1464], [uL63], [], [uV64], [uF1564, uF1534, uF1505, uF1550, uF1542, uF1557], [uG1565]), cx_456q1, ([ui0, ui146, (0, 0), ui52, (0, 5), ui52, ui52, (0, 6), (0, 1), ui48, ui68, ui196, ui52, (0, 5), ui52], [ur1414, ur1428, ur1429, ur1430, ur1431, ur1464], [uL63], [], [uV843], [uF1154, uF1512, uF1505, uF1566, uF1567, uF1557], [uG1568])], [uk1523, uk1513, uk1514, uk1544, uk1545], 53, 2, 41)
set_option maxRecDepth 1000000 in
theorem ck_456 : x_ok mLT1 [cx_436, cx_429, cx_437, cx_438, cx_426] mTS2 mTC2 mRUp cx_456 [(9, [0]), (17, [1]), (48, [2, 3]), (52, [4])] [(8, uN1569), (12, [740]), (15, uN1553), (20, [740]), (31, uN1570), (42, uN1571), (51, [740]), (55, [740, 1000260, 1000261, 1000262, 1000263, 1000264, 1000265, 1000266, 1000267, 1000268, 1000269, 1000270, 1000271, 1000272, 1000273, 1000274, 1000275, 1000276, 1000277, 1000278, 1000279, 1000280, 1000281, 1000282, 1000283, 1000284, 1000285, 1000286, 1000287, 1000288])] [] (28, []) 25 31 = true := by decide +kernel
theorem sn_456 {W : Bool} {X : List Int32} : y_Snd (mGw W) mLT1 (J2 W X) X cx_456 := y_ok J2_J mTS2_ok1 mTC2_ok1 mRUp_ok1 (List.forall_mem_cons.mpr ⟨sn_436, List.forall_mem_cons.mpr ⟨sn_429, List.forall_mem_cons.mpr ⟨sn_437, List.forall_mem_cons.mpr ⟨sn_438, List.forall_mem_cons.mpr ⟨sn_426, fun _ h => absurd h List.not_mem_nil⟩⟩⟩⟩⟩) ck_456
def cx_457pi_0 (t : List (Int × Int)) : List (Int × Int) := ui0 :: ui68 :: (0, 0) :: ui52 :: (0, 5) :: ui52 :: ui52 :: (0, 6) :: t
def cx_457pi_1 (t : List (Int × Int)) : List (Int × Int) := (0, 1) :: ui48 :: ui68 :: ui1426 :: ui52 :: t
def cx_457pf_0 (t : List zFa) : List zFa := uF1505 :: uF1506 :: uF1508 :: uF1550 :: uF1542 :: uF1551 :: uF1432 :: uF1433 :: t
def cx_457pf_1 (t : List zFa) : List zFa := uF1434 :: uF449 :: uF1554 :: uF1555 :: uF1556 :: uF1557 :: uF1612 :: (1, (true, 0, 0, [(1, 1)]), 0, 0, 0, [(11, 1)]) :: t
def cx_457pf_2 (t : List zFa) : List zFa := uF1584 :: t
def cx_457p : zS := ((cx_457pi_0 (cx_457pi_1 [])), [ur1414, ur1428, ur1429, ur1430, ur1431, ur1464, ur1574], [((-22), [(11, 1)]), (22, [(11, (-1))])], [], [uV2, uV64, uV225], (cx_457pf_0 (cx_457pf_1 (cx_457pf_2 []))), [uG1558, uG1643, uG1644])
def cx_457q0i_0 (t : List (Int × Int)) : List (Int × Int) := ui0 :: ui147 :: (0, 0) :: ui52 :: (0, 5) :: ui52 :: ui52 :: (0, 6) :: t
def cx_457q0i_1 (t : List (Int × Int)) : List (Int × Int) := (0, 1) :: ui48 :: ui68 :: ui1460 :: ui52 :: ui196 :: ui52 :: (1, 2) :: t
def cx_457q0i_2 (t : List (Int × Int)) : List (Int × Int) := ui406 :: (0, 5) :: ui52 :: t
def cx_457q0 : zS := ((cx_457q0i_0 (cx_457q0i_1 (cx_457q0i_2 []))), [ur1414, ur1428, ur1429, ur1430, ur1431, ur1464, ur1574], [uL1645], [], [uV409], [uF1646, uF1647, uF1648, uF1596, uF1597, uF1557, uF1557], [uG1649, uG1562, uG1650, uG1651, uG1652])
def cx_457q1i_0 (t : List (Int × Int)) : List (Int × Int) := ui0 :: ui1653 :: (0, 0) :: ui52 :: (0, 5) :: ui52 :: ui52 :: (0, 6) :: t
def cx_457q1i_1 (t : List (Int × Int)) : List (Int × Int) := (0, 1) :: ui48 :: ui68 :: ui1460 :: ui52 :: ui196 :: (0, 5) :: ui52 :: t
def cx_457q1g_0 (t : List zTg) : List zTg := uG1654 :: uG1655 :: uG1656 :: uG1649 :: uG1562 :: uG1650 :: uG1651 :: uG1655 :: t
def cx_457q1g_1 (t : List zTg) : List zTg := uG1657 :: uG1654 :: (86, [uL78, uL1602, uL266, uL207]) :: t
def cx_457q1 : zS := ((cx_457q1i_0 (cx_457q1i_1 [])), [ur1414, ur1428, ur1429, ur1430, ur1431, ur1464, ur1574], [uL211, uL114], [], [uV409], [uF1658, uF1506, uF1508, uF1659, uF1660, uF1557, uF1557], (cx_457q1g_0 (cx_457q1g_1 [])))
def cx_457q2i_0 (t : List (Int × Int)) : List (Int × Int) := ui0 :: ui68 :: (0, 0) :: ui52 :: (0, 5) :: ui52 :: ui52 :: (0, 6) :: t
def cx_457q2i_1 (t : List (Int × Int)) : List (Int × Int) := (0, 1) :: ui48 :: ui68 :: ui1460 :: ui52 :: ui52 :: (1, 2) :: ui348 :: t
def cx_457q2 : zS := ((cx_457q2i_0 (cx_457q2i_1 [])), [ur1414, ur1428, ur1429, ur1430, ur1431, ur1464, ur1574], [uL1661], [], [uV64], [uF1662, uF1663, uF1664, uF1550, uF1542, uF1557, uF1557], [uG1650, uG1651, uG1665])
/-- M.toldInt -/
def cx_457 : zCtx := (213, cx_457p, [cx_457q0, cx_457q1, cx_457q2], [uk1523, uk1513, uk1514, uk1544, uk1545], 65, 3, 64)
set_option maxRecDepth 1000000 in
theorem ck_457 : x_ok mLT1 [cx_426, cx_440, cx_456, cx_443, cx_444] mTS2 mTC2 mRUp cx_457 [(1, [0]), (7, [1, 2]), (13, [3, 4])] [(0, uN1666), (4, [740, 1000326, 1000327, 1000328, 1000329, 1000330, 1000331, 1000332, 1000333]), (10, [740]), (11, uN1667), (16, [740, 1000314, 1000335, 1000302, 1000487, 1000488, 1000489, 1000490])] [] (12, []) 53 15 = true := by decide +kernel
theorem sn_457 {W : Bool} {X : List Int32} : y_Snd (mGw W) mLT1 (J2 W X) X cx_457 := y_ok J2_J mTS2_ok1 mTC2_ok1 mRUp_ok1 (List.forall_mem_cons.mpr ⟨sn_426, List.forall_mem_cons.mpr ⟨sn_440, List.forall_mem_cons.mpr ⟨sn_456, List.forall_mem_cons.mpr ⟨sn_443, List.forall_mem_cons.mpr ⟨sn_444, fun _ h => absurd h List.not_mem_nil⟩⟩⟩⟩⟩) ck_457
/-- M.bounded -/
def cx_458 : zCtx := (210, ([ui0, ui146, (2, 2), ui52, (0, 5), ui52, ui52], [ur1414], [], [], [uV2, uV62, uV225], [uF1505, uF1506, uF1508, uF1550, uF1542, uF1551], [uG1552]), [([ui0, ui146, (2, 2), ui52, (0, 5), ui52, ui52], [ur1414], [], [], [uV62], [], [])], [], 12, 1, 21)
set_option maxRecDepth 1000000 in
theorem ck_458 : x_ok mLT1 [cx_434] mTS2 mTC2 mRUp cx_458 [(17, [0])] [(15, uN1553), (20, [740])] [] (8, []) 4 11 = true := by decide +kernel
theorem sn_458 {W : Bool} {X : List Int32} : y_Snd (mGw W) mLT1 (J2 W X) X cx_458 := y_ok J2_J mTS2_ok1 mTC2_ok1 mRUp_ok1 (List.forall_mem_cons.mpr ⟨sn_434, fun _ h => absurd h List.not_mem_nil⟩) ck_458
def cx_459p : zS := ((cx_456pi_0 (cx_456pi_1 [])), [ur1414, ur1428, ur1429, ur1430, ur1431, ur1464], [], [], [uV2, uV62, uV225], (cx_439pf_0 (cx_439pf_1 [])), [uG1558, (40, [uL78, uL9, uL283, uL63, uL63, uL79, uL164, uL98, uL104, uL170])])
/-- M.bounded -/
def cx_459 : zCtx := (210, cx_459p, [([ui0, ui348, (0, 0), ui52, (0, 5), ui52, ui52, (0, 6), (0, 1), ui48, ui68, ui52], [ur1414, ur1428, ur1429, ur1430, ur1431, ur1464], [uL63], [], [uV62], [uF1564, uF1534, uF1505, uF1550, uF1542, uF1557], [uG1565]), cx_456q1, ([ui0, ui146, (0, 0), ui52, (0, 5), ui52, ui52, (0, 6), (0, 1), ui48, ui68, ui196, ui52, (0, 5), ui52], [ur1414, ur1428, ur1429, ur1430, ur1431, ur1464], [uL63], [], [uV843], [uF1154, uF1512, uF1505, uF1566, uF1567, uF1557], [uG1568])], [uk1523, uk1513, uk1514, uk1544, uk1545], 53, 2, 41)
set_option maxRecDepth 1000000 in
theorem ck_459 : x_ok mLT1 [cx_436, cx_429, cx_437, cx_438, cx_426] mTS2 mTC2 mRUp cx_459 [(9, [0]), (17, [1]), (48, [2, 3]), (52, [4])] [(8, uN1569), (12, [740]), (15, uN1553), (20, [740]), (31, uN1570), (42, uN1571), (51, [740]), (55, [740, 1000260, 1000261, 1000262, 1000263, 1000264, 1000265, 1000266, 1000267, 1000268, 1000269, 1000270, 1000271, 1000272, 1000273, 1000274, 1000275, 1000276, 1000277, 1000278, 1000279, 1000280, 1000281, 1000282, 1000283, 1000284, 1000285, 1000286, 1000287, 1000288])] [] (28, []) 25 31 = true := by decide +kernel
theorem sn_459 {W : Bool} {X : List Int32} : y_Snd (mGw W) mLT1 (J2 W X) X cx_459 := y_ok J2_J mTS2_ok1 mTC2_ok1 mRUp_ok1 (List.forall_mem_cons.mpr ⟨sn_436, List.forall_mem_cons.mpr ⟨sn_429, List.forall_mem_cons.mpr ⟨sn_437, List.forall_mem_cons.mpr ⟨sn_438, List.forall_mem_cons.mpr ⟨sn_426, fun _ h => absurd h List.not_mem_nil⟩⟩⟩⟩⟩) ck_459
def cx_460p : zS := ((cx_457pi_0 (cx_457pi_1 [])), [ur1414, ur1428, ur1429, ur1430, ur1431, ur1464, ur1574], [((-23), [(11, 1)]), (23, [(11, (-1))])], [], [uV2, uV62, uV225], (cx_457pf_0 (cx_457pf_1 (cx_457pf_2 []))), [uG1558, uG1643, uG1644])
def cx_460q0 : zS := ((cx_457q0i_0 (cx_457q0i_1 (cx_457q0i_2 []))), [ur1414, ur1428, ur1429, ur1430, ur1431, ur1464, ur1574], [uL1645], [], [uV409], [uF1646, uF1647, uF1648, uF1596, uF1597, uF1557, uF1557], [uG1668, uG1562, uG1650, uG1651, uG1652])
def cx_460q1g_0 (t : List zTg) : List zTg := uG1654 :: uG1655 :: uG1656 :: uG1668 :: uG1562 :: uG1650 :: uG1651 :: uG1655 :: t
def cx_460q1g_1 (t : List zTg) : List zTg := uG1657 :: uG1654 :: (86, [uL78, uL1602, uL283, uL207]) :: t
def cx_460q1 : zS := ((cx_457q1i_0 (cx_457q1i_1 [])), [ur1414, ur1428, ur1429, ur1430, ur1431, ur1464, ur1574], [uL211, uL114], [], [uV409], [uF1658, uF1506, uF1508, uF1659, uF1660, uF1557, uF1557], (cx_460q1g_0 (cx_460q1g_1 [])))
def cx_460q2 : zS := ((cx_457q2i_0 (cx_457q2i_1 [])), [ur1414, ur1428, ur1429, ur1430, ur1431, ur1464, ur1574], [uL1661], [], [uV62], [uF1662, uF1663, uF1664, uF1550, uF1542, uF1557, uF1557], [uG1650, uG1651, uG1665])
/-- M.toldInt -/
def cx_460 : zCtx := (213, cx_460p, [cx_460q0, cx_460q1, cx_460q2], [uk1523, uk1513, uk1514, uk1544, uk1545], 65, 3, 64)
set_option maxRecDepth 1000000 in
theorem ck_460 : x_ok mLT1 [cx_426, cx_458, cx_459, cx_443, cx_444] mTS2 mTC2 mRUp cx_460 [(1, [0]), (7, [1, 2]), (13, [3, 4])] [(0, uN1666), (4, [740, 1000326, 1000327, 1000328, 1000329, 1000330, 1000331, 1000332, 1000333]), (10, [740]), (11, uN1667), (16, [740, 1000314, 1000335, 1000302, 1000487, 1000488, 1000489, 1000490])] [] (12, []) 53 15 = true := by decide +kernel
theorem sn_460 {W : Bool} {X : List Int32} : y_Snd (mGw W) mLT1 (J2 W X) X cx_460 := y_ok J2_J mTS2_ok1 mTC2_ok1 mRUp_ok1 (List.forall_mem_cons.mpr ⟨sn_426, List.forall_mem_cons.mpr ⟨sn_458, List.forall_mem_cons.mpr ⟨sn_459, List.forall_mem_cons.mpr ⟨sn_443, List.forall_mem_cons.mpr ⟨sn_444, fun _ h => absurd h List.not_mem_nil⟩⟩⟩⟩⟩) ck_460
/-- M.bounded -/
def cx_461 : zCtx := (210, ([ui0, ui146, (2, 2), ui52, (0, 5), ui52, ui52], [ur1414], [], [], [uV2, uV62, uV284], [uF1505, uF1506, uF1508, uF1550, uF1542, uF1551], [uG1552]), [([ui0, ui146, (2, 2), ui52, (0, 5), ui52, ui52], [ur1414], [], [], [uV62], [], [])], [], 12, 1, 21)
set_option maxRecDepth 1000000 in
theorem ck_461 : x_ok mLT1 [cx_434] mTS2 mTC2 mRUp cx_461 [(17, [0])] [(15, uN1553), (20, [740])] [] (8, []) 4 11 = true := by decide +kernel
theorem sn_461 {W : Bool} {X : List Int32} : y_Snd (mGw W) mLT1 (J2 W X) X cx_461 := y_ok J2_J mTS2_ok1 mTC2_ok1 mRUp_ok1 (List.forall_mem_cons.mpr ⟨sn_434, fun _ h => absurd h List.not_mem_nil⟩) ck_461
def cx_462p : zS := ((cx_456pi_0 (cx_456pi_1 [])), [ur1414, ur1428, ur1429, ur1430, ur1431, ur1464], [], [], [uV2, uV62, uV284], (cx_439pf_0 (cx_439pf_1 [])), [uG1558, (40, [uL78, uL9, uL285, uL63, uL63, uL79, uL164, uL98, uL104, uL170])])
/-- M.bounded -/
def cx_462 : zCtx := (210, cx_462p, [([ui0, ui348, (0, 0), ui52, (0, 5), ui52, ui52, (0, 6), (0, 1), ui48, ui68, ui52], [ur1414, ur1428, ur1429, ur1430, ur1431, ur1464], [uL63], [], [uV62], [uF1564, uF1534, uF1505, uF1550, uF1542, uF1557], [uG1565]), cx_456q1, ([ui0, ui146, (0, 0), ui52, (0, 5), ui52, ui52, (0, 6), (0, 1), ui48, ui68, ui196, ui52, (0, 5), ui52], [ur1414, ur1428, ur1429, ur1430, ur1431, ur1464], [uL63], [], [uV843], [uF1154, uF1512, uF1505, uF1566, uF1567, uF1557], [uG1568])], [uk1523, uk1513, uk1514, uk1544, uk1545], 53, 2, 41)
set_option maxRecDepth 1000000 in
theorem ck_462 : x_ok mLT1 [cx_436, cx_429, cx_437, cx_438, cx_426] mTS2 mTC2 mRUp cx_462 [(9, [0]), (17, [1]), (48, [2, 3]), (52, [4])] [(8, uN1569), (12, [740]), (15, uN1553), (20, [740]), (31, uN1570), (42, uN1571), (51, [740]), (55, [740, 1000260, 1000261, 1000262, 1000263, 1000264, 1000265, 1000266, 1000267, 1000268, 1000269, 1000270, 1000271, 1000272, 1000273, 1000274, 1000275, 1000276, 1000277, 1000278, 1000279, 1000280, 1000281, 1000282, 1000283, 1000284, 1000285, 1000286, 1000287, 1000288])] [] (28, []) 25 31 = true := by decide +kernel
theorem sn_462 {W : Bool} {X : List Int32} : y_Snd (mGw W) mLT1 (J2 W X) X cx_462 := y_ok J2_J mTS2_ok1 mTC2_ok1 mRUp_ok1 (List.forall_mem_cons.mpr ⟨sn_436, List.forall_mem_cons.mpr ⟨sn_429, List.forall_mem_cons.mpr ⟨sn_437, List.forall_mem_cons.mpr ⟨sn_438, List.forall_mem_cons.mpr ⟨sn_426, fun _ h => absurd h List.not_mem_nil⟩⟩⟩⟩⟩) ck_462
def cx_463p : zS := ((cx_457pi_0 (cx_457pi_1 [])), [ur1414, ur1428, ur1429, ur1430, ur1431, ur1464, ur1574], [((-28), [(11, 1)]), (28, [(11, (-1))])], [], [uV2, uV62, uV284], (cx_457pf_0 (cx_457pf_1 (cx_457pf_2 []))), [uG1558, uG1643, uG1644])
def cx_463q0 : zS := ((cx_457q0i_0 (cx_457q0i_1 (cx_457q0i_2 []))), [ur1414, ur1428, ur1429, ur1430, ur1431, ur1464, ur1574], [uL1645], [], [uV409], [uF1646, uF1647, uF1648, uF1596, uF1597, uF1557, uF1557], [uG1669, uG1562, uG1650, uG1651, uG1652])
def cx_463q1g_0 (t : List zTg) : List zTg := uG1654 :: uG1655 :: uG1656 :: uG1669 :: uG1562 :: uG1650 :: uG1651 :: uG1655 :: t
def cx_463q1g_1 (t : List zTg) : List zTg := uG1657 :: uG1654 :: (86, [uL78, uL1602, uL285, uL207]) :: t
def cx_463q1 : zS := ((cx_457q1i_0 (cx_457q1i_1 [])), [ur1414, ur1428, ur1429, ur1430, ur1431, ur1464, ur1574], [uL211, uL114], [], [uV409], [uF1658, uF1506, uF1508, uF1659, uF1660, uF1557, uF1557], (cx_463q1g_0 (cx_463q1g_1 [])))
/-- M.toldInt -/
def cx_463 : zCtx := (213, cx_463p, [cx_463q0, cx_463q1, cx_460q2], [uk1523, uk1513, uk1514, uk1544, uk1545], 65, 3, 64)
set_option maxRecDepth 1000000 in
theorem ck_463 : x_ok mLT1 [cx_426, cx_461, cx_462, cx_443, cx_444] mTS2 mTC2 mRUp cx_463 [(1, [0]), (7, [1, 2]), (13, [3, 4])] [(0, uN1666), (4, [740, 1000326, 1000327, 1000328, 1000329, 1000330, 1000331, 1000332, 1000333]), (10, [740]), (11, uN1667), (16, [740, 1000314, 1000335, 1000302, 1000487, 1000488, 1000489, 1000490])] [] (12, []) 53 15 = true := by decide +kernel
theorem sn_463 {W : Bool} {X : List Int32} : y_Snd (mGw W) mLT1 (J2 W X) X cx_463 := y_ok J2_J mTS2_ok1 mTC2_ok1 mRUp_ok1 (List.forall_mem_cons.mpr ⟨sn_426, List.forall_mem_cons.mpr ⟨sn_461, List.forall_mem_cons.mpr ⟨sn_462, List.forall_mem_cons.mpr ⟨sn_443, List.forall_mem_cons.mpr ⟨sn_444, fun _ h => absurd h List.not_mem_nil⟩⟩⟩⟩⟩) ck_463
/-- M.bounded -/
def cx_464 : zCtx := (210, ([ui0, ui146, (2, 2), ui52, (0, 5), ui52, ui52], [ur1414], [], [], [uV2, uV62, uV286], [uF1505, uF1506, uF1508, uF1550, uF1542, uF1551], [uG1552]), [([ui0, ui146, (2, 2), ui52, (0, 5), ui52, ui52], [ur1414], [], [], [uV62], [], [])], [], 12, 1, 21)
set_option maxRecDepth 1000000 in
theorem ck_464 : x_ok mLT1 [cx_434] mTS2 mTC2 mRUp cx_464 [(17, [0])] [(15, uN1553), (20, [740])] [] (8, []) 4 11 = true := by decide +kernel
theorem sn_464 {W : Bool} {X : List Int32} : y_Snd (mGw W) mLT1 (J2 W X) X cx_464 := y_ok J2_J mTS2_ok1 mTC2_ok1 mRUp_ok1 (List.forall_mem_cons.mpr ⟨sn_434, fun _ h => absurd h List.not_mem_nil⟩) ck_464
def cx_465p : zS := ((cx_456pi_0 (cx_456pi_1 [])), [ur1414, ur1428, ur1429, ur1430, ur1431, ur1464], [], [], [uV2, uV62, uV286], (cx_439pf_0 (cx_439pf_1 [])), [uG1558, (40, [uL78, uL9, uL287, uL63, uL63, uL79, uL164, uL98, uL104, uL170])])
def cx_465q1i_0 (t : List (Int × Int)) : List (Int × Int) := ui0 :: ui1537 :: (0, 0) :: ui52 :: (0, 5) :: ui52 :: ui52 :: (0, 6) :: t
def cx_465q1i_1 (t : List (Int × Int)) : List (Int × Int) := (0, 1) :: ui48 :: ui68 :: ui196 :: t
def cx_465q1g_0 (t : List zTg) : List zTg := uG1670 :: uG1562 :: uG1562 :: uG1670 :: uG1563 :: t
def cx_465q1 : zS := ((cx_465q1i_0 (cx_465q1i_1 [])), [ur1414, ur1428, ur1429, ur1430, ur1431, ur1464], [uL65, uL63, uL63], [], [uV843], [uF1521, uF1506, uF1508, uF1557], (cx_465q1g_0 []))
/-- M.bounded -/
def cx_465 : zCtx := (210, cx_465p, [([ui0, ui348, (0, 0), ui52, (0, 5), ui52, ui52, (0, 6), (0, 1), ui48, ui68, ui52], [ur1414, ur1428, ur1429, ur1430, ur1431, ur1464], [uL63], [], [uV62], [uF1564, uF1534, uF1505, uF1557], [uG1565]), cx_465q1, ([ui0, ui146, (0, 0), ui52, (0, 5), ui52, ui52, (0, 6), (0, 1), ui48, ui68, ui196, ui52], [ur1414, ur1428, ur1429, ur1430, ur1431, ur1464], [uL63], [], [uV843], [uF1154, uF1512, uF1505, uF1557], [uG1568])], [uk1523, uk1513, uk1514], 48, 2, 41)
set_option maxRecDepth 1000000 in
theorem ck_465 : x_ok mLT1 [cx_436, cx_429, cx_426] mTS2 mTC2 mRUp cx_465 [(9, [0]), (17, [1]), (52, [2])] [(8, uN1569), (12, [740]), (15, uN1553), (20, [740]), (31, uN1570), (51, [740]), (55, [740, 1000260, 1000261, 1000262, 1000263, 1000264, 1000265, 1000266, 1000267, 1000268, 1000269, 1000270, 1000271, 1000272, 1000273, 1000274, 1000275, 1000276, 1000277, 1000278, 1000279, 1000280, 1000281, 1000282, 1000283, 1000284, 1000285, 1000286, 1000287, 1000288])] [] (23, []) 25 26 = true := by decide +kernel
theorem sn_465 {W : Bool} {X : List Int32} : y_Snd (mGw W) mLT1 (J2 W X) X cx_465 := y_ok J2_J mTS2_ok1 mTC2_ok1 mRUp_ok1 (List.forall_mem_cons.mpr ⟨sn_436, List.forall_mem_cons.mpr ⟨sn_429, List.forall_mem_cons.mpr ⟨sn_426, fun _ h => absurd h List.not_mem_nil⟩⟩⟩) ck_465
def cx_466p : zS := ((cx_457pi_0 (cx_457pi_1 [])), [ur1414, ur1428, ur1429, ur1430, ur1431, ur1464, ur1574], [((-29), [(11, 1)]), (29, [(11, (-1))])], [], [uV2, uV62, uV286], (cx_457pf_0 (cx_457pf_1 (cx_457pf_2 []))), [uG1558, uG1643, uG1644])
def cx_466q0i_0 (t : List (Int × Int)) : List (Int × Int) := ui0 :: ui147 :: (0, 0) :: ui52 :: (0, 5) :: ui52 :: ui52 :: (0, 6) :: t
def cx_466q0i_1 (t : List (Int × Int)) : List (Int × Int) := (0, 1) :: ui48 :: ui68 :: ui1460 :: ui52 :: ui196 :: ui52 :: (1, 2) :: t
def cx_466q0i_2 (t : List (Int × Int)) : List (Int × Int) := ui406 :: t
def cx_466q0 : zS := ((cx_466q0i_0 (cx_466q0i_1 (cx_466q0i_2 []))), [ur1414, ur1428, ur1429, ur1430, ur1431, ur1464, ur1574], [uL1645], [], [uV409], [uF1646, uF1647, uF1648, uF1557, uF1557], [uG1671, uG1562, uG1650, uG1651, uG1652])
def cx_466q1i_0 (t : List (Int × Int)) : List (Int × Int) := ui0 :: ui1653 :: (0, 0) :: ui52 :: (0, 5) :: ui52 :: ui52 :: (0, 6) :: t
def cx_466q1i_1 (t : List (Int × Int)) : List (Int × Int) := (0, 1) :: ui48 :: ui68 :: ui1460 :: ui52 :: ui196 :: t
def cx_466q1g_0 (t : List zTg) : List zTg := uG1654 :: uG1672 :: uG1655 :: (40, [uL78, uL1603, uL267, uL63, uL63, uL79, uL164, uL98, uL104, uL170]) :: uG1656 :: uG1671 :: uG1562 :: uG1650 :: t
def cx_466q1g_1 (t : List zTg) : List zTg := uG1651 :: uG1655 :: uG1672 :: uG1654 :: (86, [uL78, uL1602, uL287, uL207]) :: t
def cx_466q1 : zS := ((cx_466q1i_0 (cx_466q1i_1 [])), [ur1414, ur1428, ur1429, ur1430, ur1431, ur1464, ur1574], [uL211, uL114], [], [uV409], [uF1658, uF1506, uF1508, uF1557, uF1557], (cx_466q1g_0 (cx_466q1g_1 [])))
def cx_466q2 : zS := ((cx_457q2i_0 (cx_457q2i_1 [])), [ur1414, ur1428, ur1429, ur1430, ur1431, ur1464, ur1574], [uL1661], [], [uV62], [uF1662, uF1663, uF1664, uF1557, uF1557], [uG1650, uG1651, uG1665])
/-- M.toldInt -/
def cx_466 : zCtx := (213, cx_466p, [cx_466q0, cx_466q1, cx_466q2], [uk1523, uk1513, uk1514], 60, 3, 64)
set_option maxRecDepth 1000000 in
theorem ck_466 : x_ok mLT1 [cx_426, cx_464, cx_465, cx_443, cx_444] mTS2 mTC2 mRUp cx_466 [(1, [0]), (7, [1, 2]), (13, [3, 4])] [(0, uN1666), (4, [740, 1000326, 1000327, 1000328, 1000329, 1000330, 1000331, 1000332, 1000333]), (10, [740]), (11, uN1667), (16, [740, 1000314, 1000335, 1000302, 1000487, 1000488, 1000489, 1000490])] [] (12, []) 48 15 = true := by decide +kernel
theorem sn_466 {W : Bool} {X : List Int32} : y_Snd (mGw W) mLT1 (J2 W X) X cx_466 := y_ok J2_J mTS2_ok1 mTC2_ok1 mRUp_ok1 (List.forall_mem_cons.mpr ⟨sn_426, List.forall_mem_cons.mpr ⟨sn_464, List.forall_mem_cons.mpr ⟨sn_465, List.forall_mem_cons.mpr ⟨sn_443, List.forall_mem_cons.mpr ⟨sn_444, fun _ h => absurd h List.not_mem_nil⟩⟩⟩⟩⟩) ck_466
/-- M.is -/
def cx_467 : zCtx := (202, ([ui0, ui348, (0, 2), ui1426], [ur1414, ur1428], [], [], [uV2, uV3], [uF1505, uF1506, uF1432, uF1507], []), [([ui0, ui348, (0, 0), (5, 5)], [ur1414, ur1428], [], [], [uV64], [], []), ([ui0, ui348, (0, 0), (0, 4)], [ur1414, ur1428], [], [], [uV62], [], []), ([ui0, ui348, (0, 0), (6, 41)], [ur1414, ur1428], [], [], [uV62], [], []), ([ui0, ui348, (1, 2), ui1426], [ur1414, ur1428], [], [], [uV62], [], [])], [], 13, 0, 0)
set_option maxRecDepth 1000000 in
theorem ck_467 : x_ok mLT1 [] mTS2 mTC2 mRUp cx_467 [] [] [] (13, []) 0 16 = true := by decide +kernel
theorem sn_467 {W : Bool} {X : List Int32} : y_Snd (mGw W) mLT1 (J2 W X) X cx_467 := y_ok J2_J mTS2_ok1 mTC2_ok1 mRUp_ok1 (fun _ h => absurd h List.not_mem_nil) ck_467
/-- M.must -/
def cx_468 : zCtx := (208, ([ui0, ui146, (2, 2), ui52, ui52], [ur1414], [], [], [uV2, uV3], [uF1505, uF1506, uF1508, uF178], [uG1573]), [([ui0, ui146, (2, 2), ui52, ui52], [ur1414], [], [], [], [], [])], [], 21, 1, 21)
set_option maxRecDepth 1000000 in
theorem ck_468 : x_ok mLT1 [cx_467, cx_434] mTS2 mTC2 mRUp cx_468 [(2, [0]), (17, [1])] [(15, uN1539)] [] (8, []) 13 11 = true := by decide +kernel
theorem sn_468 {W : Bool} {X : List Int32} : y_Snd (mGw W) mLT1 (J2 W X) X cx_468 := y_ok J2_J mTS2_ok1 mTC2_ok1 mRUp_ok1 (List.forall_mem_cons.mpr ⟨sn_467, List.forall_mem_cons.mpr ⟨sn_434, fun _ h => absurd h List.not_mem_nil⟩⟩) ck_468
def cx_469pi_0 (t : List (Int × Int)) : List (Int × Int) := ui0 :: ui348 :: (0, 7) :: (1, 2) :: ui52 :: ui1673 :: ui1674 :: ui1675 :: t
def cx_469pi_1 (t : List (Int × Int)) : List (Int × Int) := (0, 1) :: ui1676 :: ui1676 :: ui1674 :: (0, 2) :: ui1674 :: ui1674 :: ui52 :: t
def cx_469pi_2 (t : List (Int × Int)) : List (Int × Int) := (0, 1) :: ui31 :: t
def cx_469pr_0 (t : List (Nat × Bool)) : List (Nat × Bool) := ur1414 :: ur1475 :: ur1476 :: ur1470 :: ur1471 :: ur1461 :: ur1462 :: ur1472 :: t
def cx_469pr_1 (t : List (Nat × Bool)) : List (Nat × Bool) := ur1473 :: ur1474 :: t
def cx_469pf_0 (t : List zFa) : List zFa := uF1505 :: uF1677 :: uF1525 :: uF1511 :: uF1678 :: uF1679 :: uF1680 :: uF1681 :: t
def cx_469pf_1 (t : List zFa) : List zFa := uF1682 :: uF1683 :: (0, (false, 40, 0, []), 2, 3, 0, []) :: (0, (false, 41, 0, []), 2, 4, 0, []) :: (0, (false, 31, 0, []), 2, 5, 0, []) :: (0, (false, 32, 0, []), 2, 6, 0, []) :: (0, (false, 34, 0, []), 2, 7, 0, []) :: (0, (false, 35, 0, []), 2, 8, 0, []) :: t
def cx_469pf_2 (t : List zFa) : List zFa := (0, (false, 36, 0, []), 2, 9, 0, []) :: t
def cx_469p : zS := ((cx_469pi_0 (cx_469pi_1 (cx_469pi_2 []))), (cx_469pr_0 (cx_469pr_1 [])), [uL1684, (0, [(5, 1), (9, (-1))]), (0, [(5, 1), (8, (-130))])], [], [uV2], (cx_469pf_0 (cx_469pf_1 (cx_469pf_2 []))), [uG1685, (41, [uL209, uL23, uL98]), uG1687])
/-- M.term -/
def cx_469 : zCtx := (219, cx_469p, [([ui0, ui348, (0, 7), (1, 2), ui52, ui1673, ui1674, ui1675, (0, 1), ui1676, ui1676, ui1674, (0, 2), ui1674, ui1674, ui52, (0, 1), ui31], [ur1414, ur1475, ur1476, ur1470, ur1471, ur1461, ur1462, ur1472, ur1473, ur1474], [], [], [], [uF1688, (2, (true, 0, 0, [(5, 1)]), 0, 0, 0, [(6, 1)]), uF1689], [uG1685, uG1687])], [uk1690, uk1691, uk1692], 24, 0, 0)
set_option maxRecDepth 1000000 in
theorem ck_469 : x_ok mLT1 [] mTS2 mTC2 mRUp cx_469 [] [(0, [1000610])] [] (24, []) 0 27 = true := by decide +kernel
theorem sn_469 {W : Bool} {X : List Int32} : y_Snd (mGw W) mLT1 (J2 W X) X cx_469 := y_ok J2_J mTS2_ok1 mTC2_ok1 mRUp_ok1 (fun _ h => absurd h List.not_mem_nil) ck_469
def cx_470pi_0 (t : List (Int × Int)) : List (Int × Int) := ui0 :: (0, 3) :: ui146 :: (0, 0) :: (2, 2) :: ui52 :: (0, 1) :: ui1693 :: t
def cx_470pi_1 (t : List (Int × Int)) : List (Int × Int) := ui1694 :: ui1675 :: (0, 2) :: ui1674 :: ui1674 :: ui52 :: (0, 1) :: ui31 :: t
def cx_470pr_0 (t : List (Nat × Bool)) : List (Nat × Bool) := ur1414 :: ur1472 :: ur1473 :: ur1474 :: ur1475 :: ur1476 :: ur1461 :: ur1462 :: t
def cx_470pr_1 (t : List (Nat × Bool)) : List (Nat × Bool) := ur1470 :: ur1471 :: t
def cx_470pf_0 (t : List zFa) : List zFa := uF1524 :: uF1695 :: uF1696 :: uF1151 :: uF1577 :: uF1697 :: uF1698 :: uF1699 :: t
def cx_470pf_1 (t : List zFa) : List zFa := uF1700 :: uF1701 :: uF1702 :: uF1703 :: uF1704 :: uF1705 :: uF1706 :: uF1707 :: t
def cx_470pf_2 (t : List zFa) : List zFa := uF1708 :: uF1709 :: t
def cx_470p : zS := ((cx_470pi_0 (cx_470pi_1 [])), (cx_470pr_0 (cx_470pr_1 [])), [(120, [(6, 130), (7, (-1))]), (0, [(6, (-130)), (7, 1)])], [], [uV2, uV11], (cx_470pf_0 (cx_470pf_1 (cx_470pf_2 []))), [uG1710, (41, [uL207, uL98, uL104]), uG1711])
/-- M.tellLaw -/
def cx_470 : zCtx := (214, cx_470p, [([ui0, (0, 3), ui146, (0, 0), (2, 2), ui52, (0, 1), ui1693, ui1694, ui1675, (0, 2), ui1674, ui1674, ui52, (0, 1), ui31], [ur1414, ur1472, ur1473, ur1474, ur1475, ur1476, ur1461, ur1462, ur1470, ur1471], [], [], [], [(0, (false, 33, 0, []), 0, 0, 1, [(7, 1)])], [uG1710, uG1711, (225, [uL79, uL78])])], [uk1690, (67, true, 0), uk1691, uk1692], 50, 2, 42)
set_option maxRecDepth 1000000 in
theorem ck_470 : x_ok mLT1 [cx_468, cx_469, cx_443] mTS2 mTC2 mRUp cx_470 [(2, [0]), (140, [1]), (145, [2])] [(0, uN1712), (5, uN1713), (129, [1000600, 1000391, 1000392, 35, 1000610, 1000611]), (140, [35]), (143, [13, 740, 741, 1000246, 1000393, 1000612]), (148, uN1714)] [] (26, []) 24 29 = true := by decide +kernel
theorem sn_470 {W : Bool} {X : List Int32} : y_Snd (mGw W) mLT1 (J2 W X) X cx_470 := y_ok J2_J mTS2_ok1 mTC2_ok1 mRUp_ok1 (List.forall_mem_cons.mpr ⟨sn_468, List.forall_mem_cons.mpr ⟨sn_469, List.forall_mem_cons.mpr ⟨sn_443, fun _ h => absurd h List.not_mem_nil⟩⟩⟩) ck_470
def cx_471p : zS := ([ui0, ui348, (0, 0), ui52, ui52, ui1426, ui52], [ur1414, ur1428, ur1429, ur1430, ur1431], [uL36], [], [uV2, uV3], (cx_426pf_0 (cx_426pf_1 [])), [uG1517, uG1518, (62, [uL98, uL9, uL246, uL104, uL78])])
/-- M.must -/
def cx_471 : zCtx := (208, cx_471p, [([ui0, ui348, (0, 0), ui52, ui52, ui1426, ui52, (1, 2)], [ur1414, ur1428, ur1429, ur1430, ur1431], [uL63], [], [], [uF1182, uF1535, uF1505], [uG1536]), ([ui0, ui1537, (0, 0), ui52, ui52, (5, 5), ui52], [ur1414, ur1428, ur1429, ur1430, ur1431], [uL65, ((-5), [(5, 1)]), (5, [(5, (-1))]), uL63, uL63], [], [], [uF1521, uF1506, uF1508], [uG1522, uG1519, uG1522])], [uk1523, uk1513, uk1514], 33, 2, 41)
set_option maxRecDepth 1000000 in
theorem ck_471 : x_ok mLT1 [cx_467, cx_426, cx_429] mTS2 mTC2 mRUp cx_471 [(2, [0]), (9, [1]), (17, [2])] [(9, [1000243]), (15, uN1539)] [] (8, []) 25 11 = true := by decide +kernel
theorem sn_471 {W : Bool} {X : List Int32} : y_Snd (mGw W) mLT1 (J2 W X) X cx_471 := y_ok J2_J mTS2_ok1 mTC2_ok1 mRUp_ok1 (List.forall_mem_cons.mpr ⟨sn_467, List.forall_mem_cons.mpr ⟨sn_426, List.forall_mem_cons.mpr ⟨sn_429, fun _ h => absurd h List.not_mem_nil⟩⟩⟩) ck_471
/-- M.is -/
def cx_472 : zCtx := (202, ([ui0, ui406, (0, 0), ui1426], [ur1414, ur1428], [], [], [uV2, (0, 0, 30, [])], [uF1505, uF1506, uF1432, uF1507], []), [([ui0, ui406, (0, 0), (30, 30)], [ur1414, ur1428], [], [], [uV64], [], []), ([ui0, ui406, (0, 0), (0, 29)], [ur1414, ur1428], [], [], [uV62], [], []), ([ui0, ui406, (0, 0), (31, 41)], [ur1414, ur1428], [], [], [uV62], [], [])], [], 13, 0, 0)
set_option maxRecDepth 1000000 in
theorem ck_472 : x_ok mLT1 [] mTS2 mTC2 mRUp cx_472 [] [] [] (13, []) 0 16 = true := by decide +kernel
theorem sn_472 {W : Bool} {X : List Int32} : y_Snd (mGw W) mLT1 (J2 W X) X cx_472 := y_ok J2_J mTS2_ok1 mTC2_ok1 mRUp_ok1 (fun _ h => absurd h List.not_mem_nil) ck_472
def cx_473pi_0 (t : List (Int × Int)) : List (Int × Int) := ui0 :: ui146 :: (0, 0) :: (2, 2) :: ui52 :: ui1694 :: ui1675 :: (0, 1) :: t
def cx_473pi_1 (t : List (Int × Int)) : List (Int × Int) := ui1676 :: ui1676 :: (0, 2) :: ui1674 :: ui1674 :: ui52 :: (0, 1) :: ui31 :: t
def cx_473pr_0 (t : List (Nat × Bool)) : List (Nat × Bool) := ur1414 :: ur1715 :: ur1470 :: ur1471 :: ur1461 :: ur1462 :: ur1472 :: ur1473 :: t
def cx_473pr_1 (t : List (Nat × Bool)) : List (Nat × Bool) := ur1474 :: ur1475 :: ur1476 :: t
def cx_473pf_0 (t : List zFa) : List zFa := uF1505 :: uF1677 :: uF1525 :: uF1511 :: uF1716 :: uF1717 :: uF1718 :: uF1707 :: t
def cx_473pf_1 (t : List zFa) : List zFa := uF1719 :: uF1720 :: uF1721 :: uF1722 :: uF1723 :: uF1724 :: uF1725 :: uF1726 :: t
def cx_473pf_2 (t : List zFa) : List zFa := uF1727 :: t
def cx_473p : zS := ((cx_473pi_0 (cx_473pi_1 [])), (cx_473pr_0 (cx_473pr_1 [])), [uL1728], [], [uV2], (cx_473pf_0 (cx_473pf_1 (cx_473pf_2 []))), [uG1729, (41, [uL207, uL23, uL98]), (224, [uL1730, uL79, uL208, uL209])])
/-- M.expression -/
def cx_473 : zCtx := (215, cx_473p, [([ui0, ui146, (0, 0), (2, 2), ui52, ui1694, ui1675, (0, 1), ui1676, ui1676, (0, 2), ui1674, ui1674, ui52, (0, 1), ui31], [ur1414, ur1715, ur1470, ur1471, ur1461, ur1462, ur1472, ur1473, ur1474, ur1475, ur1476], [], [], [], [(0, (false, 43, 0, []), 0, 0, 0, [])], [(1, [uL63, uL63, uL63]), (0, [uL104, uL63, uL104])])], [uk1731], 14, 0, 0)
set_option maxRecDepth 1000000 in
theorem ck_473 : x_ok mLT1 [] mTS2 mTC2 mRUp cx_473 [] [(5, [5, 6])] [] (14, []) 0 17 = true := by decide +kernel
theorem sn_473 {W : Bool} {X : List Int32} : y_Snd (mGw W) mLT1 (J2 W X) X cx_473 := y_ok J2_J mTS2_ok1 mTC2_ok1 mRUp_ok1 (fun _ h => absurd h List.not_mem_nil) ck_473
/-- M.is -/
def cx_474 : zCtx := (202, ([ui0, ui406, (0, 2), ui1426], [ur1414, ur1428], [], [], [uV2, uV315], [uF1505, uF1506, uF1432, uF1507], []), [([ui0, ui406, (0, 0), (6, 6)], [ur1414, ur1428], [], [], [uV64], [], []), ([ui0, ui406, (0, 0), (0, 5)], [ur1414, ur1428], [], [], [uV62], [], []), ([ui0, ui406, (0, 0), (7, 41)], [ur1414, ur1428], [], [], [uV62], [], []), ([ui0, ui406, (1, 2), ui1426], [ur1414, ur1428], [], [], [uV62], [], [])], [], 13, 0, 0)
set_option maxRecDepth 1000000 in
theorem ck_474 : x_ok mLT1 [] mTS2 mTC2 mRUp cx_474 [] [] [] (13, []) 0 16 = true := by decide +kernel
theorem sn_474 {W : Bool} {X : List Int32} : y_Snd (mGw W) mLT1 (J2 W X) X cx_474 := y_ok J2_J mTS2_ok1 mTC2_ok1 mRUp_ok1 (fun _ h => absurd h List.not_mem_nil) ck_474
/-- M.fail -/
def cx_475 : zCtx := (205, ([ui0, ui146, (2, 2), ui52, ui52], [ur1414, ur1429], [], [], [uV2, uV389], [uF1505, uF1506, uF1508, uF1509, uF1510], []), [([ui0, ui146, (2, 2), ui52, ui52], [ur1414, ur1429], [], [], [], [], [])], [], 4, 0, 0)
set_option maxRecDepth 1000000 in
theorem ck_475 : x_ok mLT1 [] mTS2 mTC2 mRUp cx_475 [] [] [] (4, []) 0 7 = true := by decide +kernel
theorem sn_475 {W : Bool} {X : List Int32} : y_Snd (mGw W) mLT1 (J2 W X) X cx_475 := y_ok J2_J mTS2_ok1 mTC2_ok1 mRUp_ok1 (fun _ h => absurd h List.not_mem_nil) ck_475
/-- M.goesOn -/
def cx_476 : zCtx := (206, ([ui0, ui406, (2, 2), ui52, ui52], [ur1414], [], [], [uV2], [uF1505, uF1506, uF1508, uF178], [uG1573]), [([ui0, ui146, (2, 2), ui52, ui52], [ur1414], [uL63], [], [], [uF1505], [uG1573]), ([ui0, ui1559, (2, 2), ui52, ui52], [ur1414], [uL65], [], [], [uF1521], [uG1573])], [uk1523], 15, 1, 21)
set_option maxRecDepth 1000000 in
theorem ck_476 : x_ok mLT1 [cx_475] mTS2 mTC2 mRUp cx_476 [(12, [0])] [(10, [1000241]), (28, [1000242])] [] (11, []) 4 14 = true := by decide +kernel
theorem sn_476 {W : Bool} {X : List Int32} : y_Snd (mGw W) mLT1 (J2 W X) X cx_476 := y_ok J2_J mTS2_ok1 mTC2_ok1 mRUp_ok1 (List.forall_mem_cons.mpr ⟨sn_475, fun _ h => absurd h List.not_mem_nil⟩) ck_476
def cx_477pi_0 (t : List (Int × Int)) : List (Int × Int) := ui0 :: ui1572 :: (2, 2) :: ui52 :: ui770 :: ui1674 :: (0, 1) :: ui1676 :: t
def cx_477pi_1 (t : List (Int × Int)) : List (Int × Int) := ui1676 :: (0, 2) :: ui1674 :: ui1674 :: ui1674 :: ui1674 :: ui52 :: (0, 1) :: t
def cx_477pi_2 (t : List (Int × Int)) : List (Int × Int) := ui31 :: t
def cx_477pr_0 (t : List (Nat × Bool)) : List (Nat × Bool) := ur1414 :: ur1470 :: ur1471 :: ur1461 :: ur1462 :: ur1472 :: ur1473 :: ur1474 :: t
def cx_477pr_1 (t : List (Nat × Bool)) : List (Nat × Bool) := ur1475 :: ur1476 :: t
def cx_477pf_0 (t : List zFa) : List zFa := uF1505 :: uF1506 :: uF1508 :: uF1732 :: (0, (false, 4, 0, []), 0, 0, 0, [(14, 1)]) :: uF1733 :: uF1734 :: uF1735 :: t
def cx_477pf_1 (t : List zFa) : List zFa := uF1736 :: uF1737 :: uF1738 :: uF1739 :: uF1740 :: uF1741 :: t
def cx_477p : zS := ((cx_477pi_0 (cx_477pi_1 (cx_477pi_2 []))), (cx_477pr_0 (cx_477pr_1 [])), [uL1548, uL1742], [], [uV2], (cx_477pf_0 (cx_477pf_1 [])), [uG1743, uG1744, (41, [uL208, uL67, uL23]), (224, [uL1590, uL78, uL209, uL212])])
/-- M.unit -/
def cx_477 : zCtx := (216, cx_477p, [([ui0, ui1572, (2, 2), ui52, ui770, ui1674, (0, 1), ui1676, ui1676, (0, 2), ui1674, ui1674, ui1674, ui1674, ui52, (0, 1), ui31], [ur1414, ur1470, ur1471, ur1461, ur1462, ur1472, ur1473, ur1474, ur1475, ur1476], [], [], [], [], [])], [], 24, 1, 21)
set_option maxRecDepth 1000000 in
theorem ck_477 : x_ok mLT1 [cx_436, cx_434] mTS2 mTC2 mRUp cx_477 [(2, [0]), (90, [1])] [(0, [1000246]), (88, uN1745)] [] (11, []) 13 14 = true := by decide +kernel
theorem sn_477 {W : Bool} {X : List Int32} : y_Snd (mGw W) mLT1 (J2 W X) X cx_477 := y_ok J2_J mTS2_ok1 mTC2_ok1 mRUp_ok1 (List.forall_mem_cons.mpr ⟨sn_436, List.forall_mem_cons.mpr ⟨sn_434, fun _ h => absurd h List.not_mem_nil⟩⟩) ck_477
def cx_478pi_0 (t : List (Int × Int)) : List (Int × Int) := ui0 :: ui196 :: ui770 :: ui1674 :: (0, 1) :: ui1676 :: ui1676 :: (0, 2) :: t
def cx_478pi_1 (t : List (Int × Int)) : List (Int × Int) := ui1674 :: ui1674 :: ui1674 :: ui1674 :: ui52 :: ui68 :: ui1675 :: ui1676 :: t
def cx_478pi_2 (t : List (Int × Int)) : List (Int × Int) := (0, 5) :: (0, 1) :: ui31 :: t
def cx_478pf_0 (t : List zFa) : List zFa := (0, (false, 39, 0, []), 0, 0, 0, [(2, 1)]) :: uF1733 :: uF1734 :: uF1735 :: uF1736 :: uF1737 :: uF1738 :: uF1739 :: t
def cx_478pf_1 (t : List zFa) : List zFa := uF1740 :: uF1741 :: t
def cx_478p : zS := ((cx_478pi_0 (cx_478pi_1 (cx_478pi_2 []))), (cx_477pr_0 (cx_477pr_1 [])), [uL474, uL1746, uL1747], [], [uV2, uV62, uV11], (cx_478pf_0 (cx_478pf_1 [])), [uG1748, uG1749, uG1750, uG1752])
def cx_478q0g_0 (t : List zTg) : List zTg := (0, [uL170, uL241, uL516]) :: uG1748 :: uG1749 :: uG1750 :: uG1752 :: uG1750 :: t
def cx_478q0 : zS := ((cx_478pi_0 (cx_478pi_1 (cx_478pi_2 []))), (cx_477pr_0 (cx_477pr_1 [])), [], [], [], [uF1753, uF1754, (1, (true, 0, 0, [(2, 1)]), 0, 0, 0, [])], (cx_478q0g_0 []))
/-- M.emit -/
def cx_478 : zCtx := (217, cx_478p, [cx_478q0], [uk1755, uk1756, uk1757], 19, 0, 0)
set_option maxRecDepth 1000000 in
theorem ck_478 : x_ok mLT1 [] mTS2 mTC2 mRUp cx_478 [] [(30, [7])] [] (19, []) 0 22 = true := by decide +kernel
theorem sn_478 {W : Bool} {X : List Int32} : y_Snd (mGw W) mLT1 (J2 W X) X cx_478 := y_ok J2_J mTS2_ok1 mTC2_ok1 mRUp_ok1 (fun _ h => absurd h List.not_mem_nil) ck_478
def cx_479pi_0 (t : List (Int × Int)) : List (Int × Int) := ui0 :: (0, 8) :: ui770 :: ui1674 :: (0, 1) :: ui1676 :: ui1676 :: (0, 2) :: t
def cx_479pi_1 (t : List (Int × Int)) : List (Int × Int) := ui1674 :: ui1674 :: ui1674 :: ui1674 :: ui52 :: ui68 :: ui1675 :: ui1676 :: t
def cx_479pi_2 (t : List (Int × Int)) : List (Int × Int) := (0, 5) :: (0, 1) :: ui31 :: t
def cx_479p : zS := ((cx_479pi_0 (cx_479pi_1 (cx_479pi_2 []))), (cx_477pr_0 (cx_477pr_1 [])), [uL474, uL1746, uL1747], [], [uV2, uV64, uV11], (cx_478pf_0 (cx_478pf_1 [])), [uG1748, uG1749, uG1750, uG1752])
def cx_479q0 : zS := ((cx_479pi_0 (cx_479pi_1 (cx_479pi_2 []))), (cx_477pr_0 (cx_477pr_1 [])), [], [], [], [uF1753, uF1754, (1, (true, 0, 0, [(2, 1)]), 0, 0, 1, [])], (cx_478q0g_0 []))
/-- M.emit -/
def cx_479 : zCtx := (217, cx_479p, [cx_479q0], [uk1755, uk1756, uk1757], 19, 0, 0)
set_option maxRecDepth 1000000 in
theorem ck_479 : x_ok mLT1 [] mTS2 mTC2 mRUp cx_479 [] [(30, [7])] [] (19, []) 0 22 = true := by decide +kernel
theorem sn_479 {W : Bool} {X : List Int32} : y_Snd (mGw W) mLT1 (J2 W X) X cx_479 := y_ok J2_J mTS2_ok1 mTC2_ok1 mRUp_ok1 (fun _ h => absurd h List.not_mem_nil) ck_479
def cx_480pi_0 (t : List (Int × Int)) : List (Int × Int) := ui0 :: ui406 :: (0, 0) :: ui52 :: ui770 :: ui1674 :: (0, 1) :: ui1676 :: t
def cx_480pi_1 (t : List (Int × Int)) : List (Int × Int) := ui1676 :: (0, 2) :: ui1674 :: ui1674 :: ui1674 :: ui1674 :: ui1426 :: ui52 :: t
def cx_480pi_2 (t : List (Int × Int)) : List (Int × Int) := ui304 :: (0, 7) :: (0, 6) :: (0, 1) :: ui48 :: (0, 5) :: ui52 :: ui68 :: t
def cx_480pi_3 (t : List (Int × Int)) : List (Int × Int) := ui1675 :: ui1676 :: (0, 1) :: ui31 :: t
def cx_480pr_0 (t : List (Nat × Bool)) : List (Nat × Bool) := ur1414 :: ur1428 :: ur1429 :: ur1430 :: ur1431 :: ur1464 :: ur1470 :: ur1471 :: t
def cx_480pr_1 (t : List (Nat × Bool)) : List (Nat × Bool) := ur1461 :: ur1462 :: ur1472 :: ur1473 :: ur1474 :: ur1475 :: ur1476 :: t
def cx_480pf_0 (t : List zFa) : List zFa := uF1505 :: uF1506 :: uF1508 :: uF1732 :: uF1432 :: (1, (true, 0, 0, [(1, 1)]), 0, 0, 0, [(14, 1)]) :: uF1683 :: uF1433 :: t
def cx_480pf_1 (t : List zFa) : List zFa := uF1434 :: uF449 :: (0, (false, 12, 0, []), 0, 0, 0, [(17, 1)]) :: (0, (false, 20, 0, []), 0, 0, 0, [(18, 1)]) :: (0, (false, 19, 0, []), 0, 0, 0, [(19, 1)]) :: uF1556 :: uF1758 :: (0, (false, 15, 0, []), 0, 0, 0, [(21, 1)]) :: t
def cx_480pf_2 (t : List zFa) : List zFa := (0, (false, 16, 0, []), 0, 0, 0, [(22, 1)]) :: (0, (false, 40, 0, []), 2, 6, 0, []) :: (0, (false, 41, 0, []), 2, 7, 0, []) :: (0, (false, 31, 0, []), 2, 8, 0, []) :: (0, (false, 32, 0, []), 2, 9, 0, []) :: (0, (false, 34, 0, []), 2, 10, 0, []) :: (0, (false, 35, 0, []), 2, 11, 0, []) :: (0, (false, 36, 0, []), 2, 12, 0, []) :: t
def cx_480pf_3 (t : List zFa) : List zFa := (0, (false, 37, 0, []), 2, 13, 0, []) :: (0, (false, 38, 0, []), 2, 14, 0, []) :: t
def cx_480pg_0 (t : List zTg) : List zTg := uG1743 :: uG1744 :: (70, [uL208]) :: uG1759 :: (40, [uL209, uL9, uL212, uL63, uL213, uL277, uL408, uL1191, uL1246, uL1247]) :: uG1760 :: uG1763 :: t
def cx_480p : zS := ((cx_480pi_0 (cx_480pi_1 (cx_480pi_2 (cx_480pi_3 [])))), (cx_480pr_0 (cx_480pr_1 [])), [uL1548, uL1742, ((-200), [(16, 1)])], [], [uV2], (cx_480pf_0 (cx_480pf_1 (cx_480pf_2 (cx_480pf_3 [])))), (cx_480pg_0 []))
def cx_480q0i_0 (t : List (Int × Int)) : List (Int × Int) := ui0 :: ui1559 :: (0, 0) :: ui52 :: ui770 :: ui1674 :: (0, 1) :: ui1676 :: t
def cx_480q0i_1 (t : List (Int × Int)) : List (Int × Int) := ui1676 :: (0, 2) :: ui1674 :: ui1674 :: ui1674 :: ui1674 :: ui1533 :: ui52 :: t
def cx_480q0i_2 (t : List (Int × Int)) : List (Int × Int) := ui304 :: (0, 7) :: (0, 6) :: (0, 1) :: ui48 :: (0, 5) :: ui52 :: ui68 :: t
def cx_480q0i_3 (t : List (Int × Int)) : List (Int × Int) := ui1675 :: ui1676 :: (0, 1) :: ui31 :: t
def cx_480q0g_0 (t : List zTg) : List zTg := uG1764 :: uG1765 :: (0, [uL214, uL1766, uL169]) :: uG1743 :: uG1744 :: uG1763 :: uG1765 :: uG1764 :: t
def cx_480q0g_1 (t : List zTg) : List zTg := (216, [uL209, uL109, uL78, uL169, uL1267, uL1268, uL63]) :: t
def cx_480q0 : zS := ((cx_480q0i_0 (cx_480q0i_1 (cx_480q0i_2 (cx_480q0i_3 [])))), (cx_480pr_0 (cx_480pr_1 [])), [uL65], [], [], [uF1521, uF1506, uF1508, (0, (false, 39, 0, []), 0, 0, 1, [(4, 1)]), uF1758], (cx_480q0g_0 (cx_480q0g_1 [])))
def cx_480q1i_0 (t : List (Int × Int)) : List (Int × Int) := ui0 :: ui406 :: (0, 0) :: ui52 :: ui770 :: ui1674 :: (0, 1) :: ui1676 :: t
def cx_480q1i_1 (t : List (Int × Int)) : List (Int × Int) := ui1676 :: (0, 2) :: ui1674 :: ui1674 :: ui1674 :: ui1674 :: ui1426 :: ui52 :: t
def cx_480q1i_2 (t : List (Int × Int)) : List (Int × Int) := ui304 :: (0, 7) :: (0, 6) :: (0, 1) :: ui48 :: (0, 5) :: ui52 :: ui68 :: t
def cx_480q1i_3 (t : List (Int × Int)) : List (Int × Int) := ui1675 :: ui1676 :: (0, 1) :: ui31 :: ui52 :: (1, 2) :: ui1674 :: t
def cx_480q1g_0 (t : List zTg) : List zTg := uG1743 :: uG1744 :: uG1760 :: uG1763 :: (41, [uL209, uL1767, uL1768]) :: t
def cx_480q1 : zS := ((cx_480q1i_0 (cx_480q1i_1 (cx_480q1i_2 (cx_480q1i_3 [])))), (cx_480pr_0 (cx_480pr_1 [])), [uL63], [], [], [(0, (false, 14, 0, []), 0, 0, 0, [(28, 1)]), (0, (false, 13, 0, []), 0, 0, 0, [(29, 1)]), uF1505, (0, (false, 39, 0, []), 0, 0, 0, [(30, 1)]), uF1758], (cx_480q1g_0 []))
/-- M.unit -/
def cx_480 : zCtx := (216, cx_480p, [cx_480q0, cx_480q1], [uk1523, uk1513, uk1514, uk1755, uk1756, uk1757], 60, 2, 41)
set_option maxRecDepth 1000000 in
theorem ck_480 : x_ok mLT1 [cx_436, cx_478, cx_426, cx_479, cx_429] mTS2 mTC2 mRUp cx_480 [(2, [0]), (19, [1]), (23, [2]), (78, [3]), (82, [2]), (90, [4])] [(0, [1000246]), (8, [1000340]), (19, [1000609]), (22, [1000256, 1000586]), (26, [1000341, 1000342, 1000588]), (64, [1000343]), (78, [1000609]), (81, [1000587]), (85, [1000344, 1000345, 1000588]), (88, uN1745)] [] (35, []) 25 38 = true := by decide +kernel
theorem sn_480 {W : Bool} {X : List Int32} : y_Snd (mGw W) mLT1 (J2 W X) X cx_480 := y_ok J2_J mTS2_ok1 mTC2_ok1 mRUp_ok1 (List.forall_mem_cons.mpr ⟨sn_436, List.forall_mem_cons.mpr ⟨sn_478, List.forall_mem_cons.mpr ⟨sn_426, List.forall_mem_cons.mpr ⟨sn_479, List.forall_mem_cons.mpr ⟨sn_429, fun _ h => absurd h List.not_mem_nil⟩⟩⟩⟩⟩) ck_480
/-- M.is -/
def cx_481 : zCtx := (202, ([ui0, ui1572, (0, 2), ui1426], [ur1414, ur1428], [], [], [uV2, (0, 0, 7, [])], [uF1505, uF1506, uF1432, uF1507], []), [([ui0, ui1572, (0, 0), (7, 7)], [ur1414, ur1428], [], [], [uV64], [], []), ([ui0, ui1572, (0, 0), (0, 6)], [ur1414, ur1428], [], [], [uV62], [], []), ([ui0, ui1572, (0, 0), (8, 41)], [ur1414, ur1428], [], [], [uV62], [], []), ([ui0, ui1572, (1, 2), ui1426], [ur1414, ur1428], [], [], [uV62], [], [])], [], 13, 0, 0)
set_option maxRecDepth 1000000 in
theorem ck_481 : x_ok mLT1 [] mTS2 mTC2 mRUp cx_481 [] [] [] (13, []) 0 16 = true := by decide +kernel
theorem sn_481 {W : Bool} {X : List Int32} : y_Snd (mGw W) mLT1 (J2 W X) X cx_481 := y_ok J2_J mTS2_ok1 mTC2_ok1 mRUp_ok1 (fun _ h => absurd h List.not_mem_nil) ck_481
def cx_482pi_0 (t : List (Int × Int)) : List (Int × Int) := ui0 :: (0, 0) :: ui1769 :: ui1674 :: (0, 1) :: ui1676 :: ui1676 :: (0, 2) :: t
def cx_482pi_1 (t : List (Int × Int)) : List (Int × Int) := ui1674 :: ui1674 :: ui1674 :: ui1770 :: ui52 :: ui68 :: ui1675 :: ui1676 :: t
def cx_482pi_2 (t : List (Int × Int)) : List (Int × Int) := (0, 5) :: (0, 1) :: ui31 :: t
def cx_482p : zS := ((cx_482pi_0 (cx_482pi_1 (cx_482pi_2 []))), (cx_477pr_0 (cx_477pr_1 [])), [uL474, uL1746, uL1747], [], [uV2, uV389, uV11], (cx_478pf_0 (cx_478pf_1 [])), [uG1748, uG1749, uG1750, uG1752])
def cx_482q0g_0 (t : List zTg) : List zTg := uG1771 :: uG1748 :: uG1749 :: uG1750 :: uG1752 :: uG1750 :: t
def cx_482q0 : zS := ((cx_482pi_0 (cx_482pi_1 (cx_482pi_2 []))), (cx_477pr_0 (cx_477pr_1 [])), [], [], [], [uF1753, uF1754, uF1772], (cx_482q0g_0 []))
/-- M.emit -/
def cx_482 : zCtx := (217, cx_482p, [cx_482q0], [uk1755, uk1756, uk1757], 19, 0, 0)
set_option maxRecDepth 1000000 in
theorem ck_482 : x_ok mLT1 [] mTS2 mTC2 mRUp cx_482 [] [(30, [7])] [] (19, []) 0 22 = true := by decide +kernel
theorem sn_482 {W : Bool} {X : List Int32} : y_Snd (mGw W) mLT1 (J2 W X) X cx_482 := y_ok J2_J mTS2_ok1 mTC2_ok1 mRUp_ok1 (fun _ h => absurd h List.not_mem_nil) ck_482
def cx_483p : zS := ((cx_482pi_0 (cx_482pi_1 (cx_482pi_2 []))), (cx_477pr_0 (cx_477pr_1 [])), [uL474, uL1746, uL1747], [], [uV2, uV385, uV11], (cx_478pf_0 (cx_478pf_1 [])), [uG1748, uG1749, uG1750, uG1752])
def cx_483q0 : zS := ((cx_482pi_0 (cx_482pi_1 (cx_482pi_2 []))), (cx_477pr_0 (cx_477pr_1 [])), [], [], [], [uF1753, uF1754, uF1773], (cx_482q0g_0 []))
/-- M.emit -/
def cx_483 : zCtx := (217, cx_483p, [cx_483q0], [uk1755, uk1756, uk1757], 19, 0, 0)
set_option maxRecDepth 1000000 in
theorem ck_483 : x_ok mLT1 [] mTS2 mTC2 mRUp cx_483 [] [(30, [7])] [] (19, []) 0 22 = true := by decide +kernel
theorem sn_483 {W : Bool} {X : List Int32} : y_Snd (mGw W) mLT1 (J2 W X) X cx_483 := y_ok J2_J mTS2_ok1 mTC2_ok1 mRUp_ok1 (fun _ h => absurd h List.not_mem_nil) ck_483
def cx_484p : zS := ((cx_482pi_0 (cx_482pi_1 (cx_482pi_2 []))), (cx_477pr_0 (cx_477pr_1 [])), [uL474, uL1746, uL1747], [], [uV2, uV381, uV11], (cx_478pf_0 (cx_478pf_1 [])), [uG1748, uG1749, uG1750, uG1752])
def cx_484q0 : zS := ((cx_482pi_0 (cx_482pi_1 (cx_482pi_2 []))), (cx_477pr_0 (cx_477pr_1 [])), [], [], [], [uF1753, uF1754, uF1774], (cx_482q0g_0 []))
/-- M.emit -/
def cx_484 : zCtx := (217, cx_484p, [cx_484q0], [uk1755, uk1756, uk1757], 19, 0, 0)
set_option maxRecDepth 1000000 in
theorem ck_484 : x_ok mLT1 [] mTS2 mTC2 mRUp cx_484 [] [(30, [7])] [] (19, []) 0 22 = true := by decide +kernel
theorem sn_484 {W : Bool} {X : List Int32} : y_Snd (mGw W) mLT1 (J2 W X) X cx_484 := y_ok J2_J mTS2_ok1 mTC2_ok1 mRUp_ok1 (fun _ h => absurd h List.not_mem_nil) ck_484
def cx_485p : zS := ((cx_482pi_0 (cx_482pi_1 (cx_482pi_2 []))), (cx_477pr_0 (cx_477pr_1 [])), [uL474, uL1746, uL1747], [], [uV2, uV3, uV11], (cx_478pf_0 (cx_478pf_1 [])), [uG1748, uG1749, uG1750, uG1752])
def cx_485q0 : zS := ((cx_482pi_0 (cx_482pi_1 (cx_482pi_2 []))), (cx_477pr_0 (cx_477pr_1 [])), [], [], [], [uF1753, uF1754, uF1775], (cx_482q0g_0 []))
/-- M.emit -/
def cx_485 : zCtx := (217, cx_485p, [cx_485q0], [uk1755, uk1756, uk1757], 19, 0, 0)
set_option maxRecDepth 1000000 in
theorem ck_485 : x_ok mLT1 [] mTS2 mTC2 mRUp cx_485 [] [(30, [7])] [] (19, []) 0 22 = true := by decide +kernel
theorem sn_485 {W : Bool} {X : List Int32} : y_Snd (mGw W) mLT1 (J2 W X) X cx_485 := y_ok J2_J mTS2_ok1 mTC2_ok1 mRUp_ok1 (fun _ h => absurd h List.not_mem_nil) ck_485
def cx_486pi_0 (t : List (Int × Int)) : List (Int × Int) := ui0 :: ui1776 :: ui1777 :: ui1674 :: (0, 1) :: ui1676 :: ui1676 :: (0, 2) :: t
def cx_486pi_1 (t : List (Int × Int)) : List (Int × Int) := ui1674 :: ui1674 :: (1, 8) :: (0, 3) :: ui1674 :: ui52 :: ui68 :: ui1676 :: t
def cx_486pi_2 (t : List (Int × Int)) : List (Int × Int) := (0, 1) :: ui31 :: t
def cx_486pf_0 (t : List zFa) : List zFa := uF1778 :: uF1779 :: uF1718 :: uF1719 :: uF1720 :: uF1721 :: uF1722 :: uF1723 :: t
def cx_486pf_1 (t : List zFa) : List zFa := uF1724 :: uF1725 :: uF1726 :: uF1727 :: t
def cx_486pg_0 (t : List zTg) : List zTg := uG1748 :: uG1780 :: uG1781 :: (216, [uL207, uL208, uL98, uL9, uL67, uL209, uL63]) :: uG1782 :: t
def cx_486p : zS := ((cx_486pi_0 (cx_486pi_1 (cx_486pi_2 []))), (cx_473pr_0 (cx_473pr_1 [])), [uL572, uL1783, uL1784, uL1785], [], [uV2, uV62], (cx_486pf_0 (cx_486pf_1 [])), (cx_486pg_0 []))
def cx_486q0i_0 (t : List (Int × Int)) : List (Int × Int) := ui0 :: ui1776 :: ui1777 :: ui1674 :: (0, 1) :: ui1676 :: ui1676 :: (0, 2) :: t
def cx_486q0i_1 (t : List (Int × Int)) : List (Int × Int) := ui1674 :: ui1674 :: (1, 8) :: (0, 0) :: ui1674 :: ui52 :: ui68 :: ui1676 :: t
def cx_486q0i_2 (t : List (Int × Int)) : List (Int × Int) := (0, 1) :: ui31 :: t
def cx_486q0g_0 (t : List zTg) : List zTg := uG1748 :: uG1782 :: uG1786 :: uG1781 :: (216, [uL207, uL208, uL98, uL9, uL67, uL209, uL36]) :: t
def cx_486q0 : zS := ((cx_486q0i_0 (cx_486q0i_1 (cx_486q0i_2 []))), (cx_473pr_0 (cx_473pr_1 [])), [uL1784, uL63, uL572], [], [], [uF1779, uF1778], (cx_486q0g_0 []))
def cx_486q1i_0 (t : List (Int × Int)) : List (Int × Int) := ui0 :: ui1776 :: ui1787 :: ui1674 :: (0, 1) :: ui1676 :: ui1676 :: (0, 2) :: t
def cx_486q1i_1 (t : List (Int × Int)) : List (Int × Int) := ui1674 :: ui1674 :: (1, 8) :: (1, 3) :: ui1674 :: ui52 :: ui68 :: ui1676 :: t
def cx_486q1i_2 (t : List (Int × Int)) : List (Int × Int) := (0, 1) :: ui31 :: ui1788 :: t
def cx_486q1g_0 (t : List zTg) : List zTg := uG1748 :: uG1782 :: (1, [uL277, uL170, uL63]) :: uG1790 :: (216, [uL207, uL208, uL98, uL1789, uL277, uL209, uL36]) :: t
def cx_486q1 : zS := ((cx_486q1i_0 (cx_486q1i_1 (cx_486q1i_2 []))), (cx_473pr_0 (cx_473pr_1 [])), [uL1791, uL1792, uL1793], [], [], [uF1794, uF1795], (cx_486q1g_0 []))
/-- M.comesOut -/
def cx_486 : zCtx := (218, cx_486p, [cx_486q0, cx_486q1], [uk1755, uk1731, uk1756, uk1757], 107, 1, 22)
def cz_486_0i_0 (t : List (Int × Int)) : List (Int × Int) := ui0 :: ui1776 :: ui1787 :: ui1674 :: (0, 1) :: ui1676 :: ui1676 :: (0, 2) :: t
def cz_486_0i_1 (t : List (Int × Int)) : List (Int × Int) := ui1674 :: ui1674 :: (1, 8) :: (1, 3) :: ui1674 :: ui52 :: ui68 :: ui1676 :: t
def cz_486_0i_2 (t : List (Int × Int)) : List (Int × Int) := (0, 1) :: ui31 :: ui1796 :: ui1788 :: (0, 3) :: t
def cz_486_0f_0 (t : List zFa) : List zFa := (0, (false, 43, 0, []), 0, 0, 0, [(19, 1)]) :: uF1718 :: uF1719 :: uF1720 :: uF1721 :: uF1722 :: uF1723 :: uF1724 :: t
def cz_486_0f_1 (t : List zFa) : List zFa := uF1725 :: uF1726 :: uF1727 :: (0, (false, 39, 0, []), 0, 0, 0, [(1, 1), (2, 1), (19, (-1))]) :: t
def cz_486_0g_0 (t : List zTg) : List zTg := uG1748 :: uG1782 :: uG1797 :: uG1799 :: (216, [uL207, uL208, uL98, uL1798, uL353, uL209, uL114]) :: t
def cz_486_0 : zS := ((cz_486_0i_0 (cz_486_0i_1 (cz_486_0i_2 []))), (cx_473pr_0 (cx_473pr_1 [])), [uL1800, uL1801, uL1802, uL572, uL1783, uL1784, uL1785, uL1803], [uV2, uV62, uV1193], [], (cz_486_0f_0 (cz_486_0f_1 [])), (cz_486_0g_0 []))
set_option maxRecDepth 1000000 in
theorem ck_486 : x_ok mLT1 [cx_482, cx_483, cx_484, cx_485] mTS2 mTC2 mRUp cx_486 [(85, [0, 1, 2, 3])] [(0, uN1804), (4, [3]), (17, [2]), (41, uN1805), (88, uN1806)] [(0, cz_486_0, (15, [(20, 35)]))] (88, []) 19 40 = true := by decide +kernel
theorem sn_486 {W : Bool} {X : List Int32} : y_Snd (mGw W) mLT1 (J2 W X) X cx_486 := y_ok J2_J mTS2_ok1 mTC2_ok1 mRUp_ok1 (List.forall_mem_cons.mpr ⟨sn_482, List.forall_mem_cons.mpr ⟨sn_483, List.forall_mem_cons.mpr ⟨sn_484, List.forall_mem_cons.mpr ⟨sn_485, fun _ h => absurd h List.not_mem_nil⟩⟩⟩⟩) ck_486
/-- M.is -/
def cx_487 : zCtx := (202, ([ui0, ui1572, (0, 2), ui1426], [ur1414, ur1428], [], [], [uV2, (0, 0, 8, [])], [uF1505, uF1506, uF1432, uF1507], []), [([ui0, ui1572, (0, 0), (8, 8)], [ur1414, ur1428], [], [], [uV64], [], []), ([ui0, ui1572, (0, 0), (0, 7)], [ur1414, ur1428], [], [], [uV62], [], []), ([ui0, ui1572, (0, 0), (9, 41)], [ur1414, ur1428], [], [], [uV62], [], []), ([ui0, ui1572, (1, 2), ui1426], [ur1414, ur1428], [], [], [uV62], [], [])], [], 13, 0, 0)
set_option maxRecDepth 1000000 in
theorem ck_487 : x_ok mLT1 [] mTS2 mTC2 mRUp cx_487 [] [] [] (13, []) 0 16 = true := by decide +kernel
theorem sn_487 {W : Bool} {X : List Int32} : y_Snd (mGw W) mLT1 (J2 W X) X cx_487 := y_ok J2_J mTS2_ok1 mTC2_ok1 mRUp_ok1 (fun _ h => absurd h List.not_mem_nil) ck_487
/-- M.is -/
def cx_488 : zCtx := (202, ([ui0, ui1572, (0, 2), ui1426], [ur1414, ur1428], [], [], [uV2, uV120], [uF1505, uF1506, uF1432, uF1507], []), [([ui0, ui1572, (0, 0), (9, 9)], [ur1414, ur1428], [], [], [uV64], [], []), ([ui0, ui1572, (0, 0), (0, 8)], [ur1414, ur1428], [], [], [uV62], [], []), ([ui0, ui1572, (0, 0), (10, 41)], [ur1414, ur1428], [], [], [uV62], [], []), ([ui0, ui1572, (1, 2), ui1426], [ur1414, ur1428], [], [], [uV62], [], [])], [], 13, 0, 0)
set_option maxRecDepth 1000000 in
theorem ck_488 : x_ok mLT1 [] mTS2 mTC2 mRUp cx_488 [] [] [] (13, []) 0 16 = true := by decide +kernel
theorem sn_488 {W : Bool} {X : List Int32} : y_Snd (mGw W) mLT1 (J2 W X) X cx_488 := y_ok J2_J mTS2_ok1 mTC2_ok1 mRUp_ok1 (fun _ h => absurd h List.not_mem_nil) ck_488
/-- M.is -/
def cx_489 : zCtx := (202, ([ui0, ui1572, (0, 2), ui1426], [ur1414, ur1428], [], [], [uV2, (0, 0, 10, [])], [uF1505, uF1506, uF1432, uF1507], []), [([ui0, ui1572, (0, 0), ui1807], [ur1414, ur1428], [], [], [uV64], [], []), ([ui0, ui1572, (0, 0), (0, 9)], [ur1414, ur1428], [], [], [uV62], [], []), ([ui0, ui1572, (0, 0), (11, 41)], [ur1414, ur1428], [], [], [uV62], [], []), ([ui0, ui1572, (1, 2), ui1426], [ur1414, ur1428], [], [], [uV62], [], [])], [], 13, 0, 0)
set_option maxRecDepth 1000000 in
theorem ck_489 : x_ok mLT1 [] mTS2 mTC2 mRUp cx_489 [] [] [] (13, []) 0 16 = true := by decide +kernel
theorem sn_489 {W : Bool} {X : List Int32} : y_Snd (mGw W) mLT1 (J2 W X) X cx_489 := y_ok J2_J mTS2_ok1 mTC2_ok1 mRUp_ok1 (fun _ h => absurd h List.not_mem_nil) ck_489
/-- M.is -/
def cx_490 : zCtx := (202, ([ui0, ui1572, (0, 2), ui1426], [ur1414, ur1428], [], [], [uV2, (0, 0, 15, [])], [uF1505, uF1506, uF1432, uF1507], []), [([ui0, ui1572, (0, 0), ui1808], [ur1414, ur1428], [], [], [uV64], [], []), ([ui0, ui1572, (0, 0), (0, 14)], [ur1414, ur1428], [], [], [uV62], [], []), ([ui0, ui1572, (0, 0), (16, 41)], [ur1414, ur1428], [], [], [uV62], [], []), ([ui0, ui1572, (1, 2), ui1426], [ur1414, ur1428], [], [], [uV62], [], [])], [], 13, 0, 0)
set_option maxRecDepth 1000000 in
theorem ck_490 : x_ok mLT1 [] mTS2 mTC2 mRUp cx_490 [] [] [] (13, []) 0 16 = true := by decide +kernel
theorem sn_490 {W : Bool} {X : List Int32} : y_Snd (mGw W) mLT1 (J2 W X) X cx_490 := y_ok J2_J mTS2_ok1 mTC2_ok1 mRUp_ok1 (fun _ h => absurd h List.not_mem_nil) ck_490
def cx_491pi_0 (t : List (Int × Int)) : List (Int × Int) := ui0 :: (0, 0) :: ui1769 :: ui1674 :: (0, 1) :: ui1676 :: ui1676 :: (0, 2) :: t
def cx_491pi_1 (t : List (Int × Int)) : List (Int × Int) := ui1674 :: ui1674 :: ui1674 :: ui1770 :: (0, 1) :: ui31 :: t
def cx_491p : zS := ((cx_491pi_0 (cx_491pi_1 [])), (cx_477pr_0 (cx_477pr_1 [])), [uL474, uL1746, uL1747], [], [uV2, uV389, uV11], (cx_478pf_0 (cx_478pf_1 [])), [uG1748, uG1749, uG1809])
def cx_491q0 : zS := ((cx_491pi_0 (cx_491pi_1 [])), (cx_477pr_0 (cx_477pr_1 [])), [], [], [], [uF1753, uF1754, uF1772], [uG1771, uG1748, uG1749, uG1809])
/-- M.emit -/
def cx_491 : zCtx := (217, cx_491p, [cx_491q0], [uk1755, uk1756, uk1757], 19, 0, 0)
set_option maxRecDepth 1000000 in
theorem ck_491 : x_ok mLT1 [] mTS2 mTC2 mRUp cx_491 [] [(30, [7])] [] (19, []) 0 22 = true := by decide +kernel
theorem sn_491 {W : Bool} {X : List Int32} : y_Snd (mGw W) mLT1 (J2 W X) X cx_491 := y_ok J2_J mTS2_ok1 mTC2_ok1 mRUp_ok1 (fun _ h => absurd h List.not_mem_nil) ck_491
def cx_492p : zS := ((cx_491pi_0 (cx_491pi_1 [])), (cx_477pr_0 (cx_477pr_1 [])), [uL474, uL1746, uL1747], [], [uV2, uV385, uV11], (cx_478pf_0 (cx_478pf_1 [])), [uG1748, uG1749, uG1809])
def cx_492q0 : zS := ((cx_491pi_0 (cx_491pi_1 [])), (cx_477pr_0 (cx_477pr_1 [])), [], [], [], [uF1753, uF1754, uF1773], [uG1771, uG1748, uG1749, uG1809])
/-- M.emit -/
def cx_492 : zCtx := (217, cx_492p, [cx_492q0], [uk1755, uk1756, uk1757], 19, 0, 0)
set_option maxRecDepth 1000000 in
theorem ck_492 : x_ok mLT1 [] mTS2 mTC2 mRUp cx_492 [] [(30, [7])] [] (19, []) 0 22 = true := by decide +kernel
theorem sn_492 {W : Bool} {X : List Int32} : y_Snd (mGw W) mLT1 (J2 W X) X cx_492 := y_ok J2_J mTS2_ok1 mTC2_ok1 mRUp_ok1 (fun _ h => absurd h List.not_mem_nil) ck_492
def cx_493p : zS := ((cx_491pi_0 (cx_491pi_1 [])), (cx_477pr_0 (cx_477pr_1 [])), [uL474, uL1746, uL1747], [], [uV2, uV381, uV11], (cx_478pf_0 (cx_478pf_1 [])), [uG1748, uG1749, uG1809])
def cx_493q0 : zS := ((cx_491pi_0 (cx_491pi_1 [])), (cx_477pr_0 (cx_477pr_1 [])), [], [], [], [uF1753, uF1754, uF1774], [uG1771, uG1748, uG1749, uG1809])
/-- M.emit -/
def cx_493 : zCtx := (217, cx_493p, [cx_493q0], [uk1755, uk1756, uk1757], 19, 0, 0)
set_option maxRecDepth 1000000 in
theorem ck_493 : x_ok mLT1 [] mTS2 mTC2 mRUp cx_493 [] [(30, [7])] [] (19, []) 0 22 = true := by decide +kernel
theorem sn_493 {W : Bool} {X : List Int32} : y_Snd (mGw W) mLT1 (J2 W X) X cx_493 := y_ok J2_J mTS2_ok1 mTC2_ok1 mRUp_ok1 (fun _ h => absurd h List.not_mem_nil) ck_493
def cx_494p : zS := ((cx_491pi_0 (cx_491pi_1 [])), (cx_477pr_0 (cx_477pr_1 [])), [uL474, uL1746, uL1747], [], [uV2, uV3, uV11], (cx_478pf_0 (cx_478pf_1 [])), [uG1748, uG1749, uG1809])
def cx_494q0 : zS := ((cx_491pi_0 (cx_491pi_1 [])), (cx_477pr_0 (cx_477pr_1 [])), [], [], [], [uF1753, uF1754, uF1775], [uG1771, uG1748, uG1749, uG1809])
/-- M.emit -/
def cx_494 : zCtx := (217, cx_494p, [cx_494q0], [uk1755, uk1756, uk1757], 19, 0, 0)
set_option maxRecDepth 1000000 in
theorem ck_494 : x_ok mLT1 [] mTS2 mTC2 mRUp cx_494 [] [(30, [7])] [] (19, []) 0 22 = true := by decide +kernel
theorem sn_494 {W : Bool} {X : List Int32} : y_Snd (mGw W) mLT1 (J2 W X) X cx_494 := y_ok J2_J mTS2_ok1 mTC2_ok1 mRUp_ok1 (fun _ h => absurd h List.not_mem_nil) ck_494
def cx_495pi_0 (t : List (Int × Int)) : List (Int × Int) := ui0 :: ui1810 :: ui96 :: ui1674 :: (0, 1) :: ui1676 :: ui1676 :: (0, 2) :: t
def cx_495pi_1 (t : List (Int × Int)) : List (Int × Int) := ui1674 :: ui1674 :: (0, 8) :: (0, 3) :: ui1674 :: (0, 1) :: ui31 :: t
def cx_495p : zS := ((cx_495pi_0 (cx_495pi_1 [])), (cx_473pr_0 (cx_473pr_1 [])), [uL572, uL1783, uL1784, uL1785], [], [uV2, uV62], (cx_486pf_0 (cx_486pf_1 [])), [uG1748, uG1780, uG1781, uG1811])
def cx_495q0i_0 (t : List (Int × Int)) : List (Int × Int) := ui0 :: ui1810 :: ui1788 :: ui1674 :: (0, 1) :: ui1676 :: ui1676 :: (0, 2) :: t
def cx_495q0i_1 (t : List (Int × Int)) : List (Int × Int) := ui1674 :: ui1674 :: (1, 8) :: (0, 0) :: ui1674 :: (0, 1) :: ui31 :: t
def cx_495q0 : zS := ((cx_495q0i_0 (cx_495q0i_1 [])), (cx_473pr_0 (cx_473pr_1 [])), [uL1784, uL63, uL572], [], [], [uF1779, uF1778], [uG1748, uG1811, uG1786, uG1781])
def cx_495q1i_0 (t : List (Int × Int)) : List (Int × Int) := ui0 :: ui1810 :: (0, 0) :: ui1674 :: (0, 1) :: ui1676 :: ui1676 :: (0, 2) :: t
def cx_495q1i_1 (t : List (Int × Int)) : List (Int × Int) := ui1674 :: ui1674 :: (0, 8) :: (0, 3) :: ui1674 :: (0, 1) :: ui31 :: t
def cx_495q1 : zS := ((cx_495q1i_0 (cx_495q1i_1 [])), (cx_473pr_0 (cx_473pr_1 [])), [uL1784, uL63, uL572], [], [], [uF1779, uF1778], [uG1748, uG1811, uG1786, uG1781])
def cx_495q2i_0 (t : List (Int × Int)) : List (Int × Int) := ui0 :: ui1810 :: ui1788 :: ui1674 :: (0, 1) :: ui1676 :: ui1676 :: (0, 2) :: t
def cx_495q2i_1 (t : List (Int × Int)) : List (Int × Int) := ui1674 :: ui1674 :: (1, 8) :: (1, 3) :: ui1674 :: (0, 1) :: ui31 :: ui1334 :: t
def cx_495q2 : zS := ((cx_495q2i_0 (cx_495q2i_1 [])), (cx_473pr_0 (cx_473pr_1 [])), [uL1812, uL1813, uL1814], [], [], [uF1815, uF1816], [uG1748, uG1811, uG1817, uG1818])
def cx_495q3i_0 (t : List (Int × Int)) : List (Int × Int) := ui0 :: ui1810 :: ui1788 :: ui1674 :: (0, 1) :: ui1676 :: ui1676 :: (0, 2) :: t
def cx_495q3i_1 (t : List (Int × Int)) : List (Int × Int) := ui1674 :: ui1674 :: (0, 8) :: (1, 3) :: ui1674 :: (0, 1) :: ui31 :: (0, 0) :: t
def cx_495q3 : zS := ((cx_495q3i_0 (cx_495q3i_1 [])), (cx_473pr_0 (cx_473pr_1 [])), [uL1812, uL1813, uL1814], [], [], [uF1815, uF1816], [uG1748, uG1811, uG1817, uG1818])
/-- M.comesOut -/
def cx_495 : zCtx := (218, cx_495p, [cx_495q0, cx_495q1, cx_495q2, cx_495q3], [uk1755, uk1731, uk1756, uk1757], 107, 1, 22)
def cz_495_0i_0 (t : List (Int × Int)) : List (Int × Int) := ui0 :: ui1810 :: ui1788 :: ui1674 :: (0, 1) :: ui1676 :: ui1676 :: (0, 2) :: t
def cz_495_0i_1 (t : List (Int × Int)) : List (Int × Int) := ui1674 :: ui1674 :: (0, 8) :: (1, 3) :: ui1674 :: (0, 1) :: ui31 :: ui1796 :: t
def cz_495_0i_2 (t : List (Int × Int)) : List (Int × Int) := ui48 :: (0, 3) :: t
def cz_495_0f_0 (t : List zFa) : List zFa := uF1819 :: uF1718 :: uF1719 :: uF1720 :: uF1721 :: uF1722 :: uF1723 :: uF1724 :: t
def cz_495_0f_1 (t : List zFa) : List zFa := uF1725 :: uF1726 :: uF1727 :: (0, (false, 39, 0, []), 0, 0, 0, [(1, 1), (2, 1), (16, (-1))]) :: t
def cz_495_0 : zS := ((cz_495_0i_0 (cz_495_0i_1 (cz_495_0i_2 []))), (cx_473pr_0 (cx_473pr_1 [])), [uL1820, uL1821, uL1822, uL572, uL1783, uL1784, uL1785, uL1823], [uV2, uV62, uV587], [], (cz_495_0f_0 (cz_495_0f_1 [])), [uG1748, uG1811, uG1824, uG1825])
set_option maxRecDepth 1000000 in
theorem ck_495 : x_ok mLT1 [cx_491, cx_492, cx_493, cx_494] mTS2 mTC2 mRUp cx_495 [(85, [0, 1, 2, 3])] [(0, uN1804), (4, [3]), (17, [2]), (41, uN1805), (88, uN1806), (91, uN1826)] [(0, cz_495_0, (15, [(17, 35)]))] (88, []) 19 40 = true := by decide +kernel
theorem sn_495 {W : Bool} {X : List Int32} : y_Snd (mGw W) mLT1 (J2 W X) X cx_495 := y_ok J2_J mTS2_ok1 mTC2_ok1 mRUp_ok1 (List.forall_mem_cons.mpr ⟨sn_491, List.forall_mem_cons.mpr ⟨sn_492, List.forall_mem_cons.mpr ⟨sn_493, List.forall_mem_cons.mpr ⟨sn_494, fun _ h => absurd h List.not_mem_nil⟩⟩⟩⟩) ck_495
end
