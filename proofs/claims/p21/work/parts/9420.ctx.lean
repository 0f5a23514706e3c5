noncomputable section
/-! ===== readings, by program, checked by the kernel ===== -/
def cx_443pi_0 (t : List (Int × Int)) : List (Int × Int) := ui0 :: ui348 :: (0, 0) :: ui52 :: (0, 5) :: ui52 :: ui52 :: (0, 6) :: t
def cx_443pi_1 (t : List (Int × Int)) : List (Int × Int) := (0, 1) :: ui48 :: ui68 :: t
def cx_443p : zS := ((cx_443pi_0 (cx_443pi_1 [])), [ur1331, ur1345, ur1346, ur1347, ur1348, ur1381], [], [], [uV2, uV64, uV225], (cx_426pf_0 (cx_426pf_1 [])), [uG1475, (40, [uL78, uL9, uL266, uL63, uL63, uL79, uL164, uL98, uL104, uL170])])
def cx_443q1i_0 (t : List (Int × Int)) : List (Int × Int) := ui0 :: ui1454 :: (0, 0) :: ui52 :: (0, 5) :: ui52 :: ui52 :: (0, 6) :: t
def cx_443q1i_1 (t : List (Int × Int)) : List (Int × Int) := (0, 1) :: ui48 :: ui68 :: ui196 :: (0, 5) :: ui52 :: t
def cx_443q1 : zS := ((cx_443q1i_0 (cx_443q1i_1 [])), [ur1331, ur1345, ur1346, ur1347, ur1348, ur1381], [uL65, uL63, uL63], [], [uV840], [uF1438, uF1423, uF1425, uF1477, uF1478, uF1474], [uG1479, uG1479, (40, [uL78, uL109, uL267, uL63, uL63, uL79, uL164, uL214, uL207, uL170]), uG1480])
/-- M.bounded -/
def cx_443 : zCtx := (210, cx_443p, [([ui0, ui348, (0, 0), ui52, (0, 5), ui52, ui52, (0, 6), (0, 1), ui48, ui68, ui52], [ur1331, ur1345, ur1346, ur1347, ur1348, ur1381], [uL63], [], [uV64], [uF1481, uF1451, uF1422, uF1467, uF1459, uF1474], [uG1482]), cx_443q1, ([ui0, ui146, (0, 0), ui52, (0, 5), ui52, ui52, (0, 6), (0, 1), ui48, ui68, ui196, ui52, (0, 5), ui52], [ur1331, ur1345, ur1346, ur1347, ur1348, ur1381], [uL63], [], [uV840], [uF1140, uF1429, uF1422, uF1483, uF1484, uF1474], [uG1485])], [uk1440, uk1430, uk1431, uk1461, uk1462], 53, 2, 41)
set_option maxRecDepth 1000000 in
theorem ck_443 : x_ok mLT1 [cx_423, cx_416, cx_424, cx_425, cx_413] mTS2 mTC2 mRUp cx_443 [(9, [0]), (17, [1]), (48, [2, 3]), (52, [4])] [(8, uN1486), (12, [740]), (15, uN1470), (20, [740]), (31, uN1487), (42, uN1488), (51, [740]), (55, [740, 1000260, 1000261, 1000262, 1000263, 1000264, 1000265, 1000266, 1000267, 1000268, 1000269, 1000270, 1000271, 1000272, 1000273, 1000274, 1000275, 1000276, 1000277, 1000278, 1000279, 1000280, 1000281, 1000282, 1000283, 1000284, 1000285, 1000286, 1000287, 1000288])] [] (28, []) 25 31 = true := by decide +kernel
theorem sn_443 {W : Bool} {X : List Int32} : y_Snd (mGw W) mLT1 (J2 W X) X cx_443 := y_ok J2_J mTS2_ok1 mTC2_ok1 mRUp_ok1 (List.forall_mem_cons.mpr ⟨sn_423, List.forall_mem_cons.mpr ⟨sn_416, List.forall_mem_cons.mpr ⟨sn_424, List.forall_mem_cons.mpr ⟨sn_425, List.forall_mem_cons.mpr ⟨sn_413, fun _ h => absurd h List.not_mem_nil⟩⟩⟩⟩⟩) ck_443
def cx_444pi_0 (t : List (Int × Int)) : List (Int × Int) := ui0 :: ui68 :: (0, 0) :: ui52 :: (0, 5) :: ui52 :: ui52 :: (0, 6) :: t
def cx_444pi_1 (t : List (Int × Int)) : List (Int × Int) := (0, 1) :: ui48 :: ui68 :: ui1343 :: ui52 :: t
def cx_444pf_0 (t : List zFa) : List zFa := uF1422 :: uF1423 :: uF1425 :: uF1467 :: uF1459 :: uF1468 :: uF1349 :: uF1350 :: t
def cx_444pf_1 (t : List zFa) : List zFa := uF1351 :: uF448 :: uF1471 :: uF1472 :: uF1473 :: uF1474 :: uF1529 :: (1, (true, 0, 0, [(1, 1)]), 0, 0, 0, [(11, 1)]) :: t
def cx_444pf_2 (t : List zFa) : List zFa := uF1501 :: t
def cx_444p : zS := ((cx_444pi_0 (cx_444pi_1 [])), [ur1331, ur1345, ur1346, ur1347, ur1348, ur1381, ur1491], [((-22), [(11, 1)]), (22, [(11, (-1))])], [], [uV2, uV64, uV225], (cx_444pf_0 (cx_444pf_1 (cx_444pf_2 []))), [uG1475, uG1560, uG1561])
def cx_444q0i_0 (t : List (Int × Int)) : List (Int × Int) := ui0 :: ui147 :: (0, 0) :: ui52 :: (0, 5) :: ui52 :: ui52 :: (0, 6) :: t
def cx_444q0i_1 (t : List (Int × Int)) : List (Int × Int) := (0, 1) :: ui48 :: ui68 :: ui1377 :: ui52 :: ui196 :: ui52 :: (1, 2) :: t
def cx_444q0i_2 (t : List (Int × Int)) : List (Int × Int) := ui406 :: (0, 5) :: ui52 :: t
def cx_444q0 : zS := ((cx_444q0i_0 (cx_444q0i_1 (cx_444q0i_2 []))), [ur1331, ur1345, ur1346, ur1347, ur1348, ur1381, ur1491], [uL1562], [], [uV409], [uF1563, uF1564, uF1565, uF1513, uF1514, uF1474, uF1474], [uG1566, uG1479, uG1567, uG1568, uG1569])
def cx_444q1i_0 (t : List (Int × Int)) : List (Int × Int) := ui0 :: ui1570 :: (0, 0) :: ui52 :: (0, 5) :: ui52 :: ui52 :: (0, 6) :: t
def cx_444q1i_1 (t : List (Int × Int)) : List (Int × Int) := (0, 1) :: ui48 :: ui68 :: ui1377 :: ui52 :: ui196 :: (0, 5) :: ui52 :: t
def cx_444q1g_0 (t : List zTg) : List zTg := uG1571 :: uG1572 :: uG1573 :: uG1566 :: uG1479 :: uG1567 :: uG1568 :: uG1572 :: t
def cx_444q1g_1 (t : List zTg) : List zTg := uG1574 :: uG1571 :: (86, [uL78, uL1519, uL266, uL207]) :: t
def cx_444q1 : zS := ((cx_444q1i_0 (cx_444q1i_1 [])), [ur1331, ur1345, ur1346, ur1347, ur1348, ur1381, ur1491], [uL211, uL114], [], [uV409], [uF1575, uF1423, uF1425, uF1576, uF1577, uF1474, uF1474], (cx_444q1g_0 (cx_444q1g_1 [])))
def cx_444q2i_0 (t : List (Int × Int)) : List (Int × Int) := ui0 :: ui68 :: (0, 0) :: ui52 :: (0, 5) :: ui52 :: ui52 :: (0, 6) :: t
def cx_444q2i_1 (t : List (Int × Int)) : List (Int × Int) := (0, 1) :: ui48 :: ui68 :: ui1377 :: ui52 :: ui52 :: (1, 2) :: ui348 :: t
def cx_444q2 : zS := ((cx_444q2i_0 (cx_444q2i_1 [])), [ur1331, ur1345, ur1346, ur1347, ur1348, ur1381, ur1491], [uL1578], [], [uV64], [uF1579, uF1580, uF1581, uF1467, uF1459, uF1474, uF1474], [uG1567, uG1568, uG1582])
/-- M.toldInt -/
def cx_444 : zCtx := (213, cx_444p, [cx_444q0, cx_444q1, cx_444q2], [uk1440, uk1430, uk1431, uk1461, uk1462], 65, 3, 64)
set_option maxRecDepth 1000000 in
theorem ck_444 : x_ok mLT1 [cx_413, cx_427, cx_443, cx_430, cx_431] mTS2 mTC2 mRUp cx_444 [(1, [0]), (7, [1, 2]), (13, [3, 4])] [(0, uN1583), (4, [740, 1000326, 1000327, 1000328, 1000329, 1000330, 1000331, 1000332, 1000333]), (10, [740]), (11, uN1584), (16, [740, 1000314, 1000335, 1000302, 1000487, 1000488, 1000489, 1000490])] [] (12, []) 53 15 = true := by decide +kernel
theorem sn_444 {W : Bool} {X : List Int32} : y_Snd (mGw W) mLT1 (J2 W X) X cx_444 := y_ok J2_J mTS2_ok1 mTC2_ok1 mRUp_ok1 (List.forall_mem_cons.mpr ⟨sn_413, List.forall_mem_cons.mpr ⟨sn_427, List.forall_mem_cons.mpr ⟨sn_443, List.forall_mem_cons.mpr ⟨sn_430, List.forall_mem_cons.mpr ⟨sn_431, fun _ h => absurd h List.not_mem_nil⟩⟩⟩⟩⟩) ck_444
/-- M.bounded -/
def cx_445 : zCtx := (210, ([ui0, ui146, (2, 2), ui52, (0, 5), ui52, ui52], [ur1331], [], [], [uV2, uV62, uV225], [uF1422, uF1423, uF1425, uF1467, uF1459, uF1468], [uG1469]), [([ui0, ui146, (2, 2), ui52, (0, 5), ui52, ui52], [ur1331], [], [], [uV62], [], [])], [], 12, 1, 21)
set_option maxRecDepth 1000000 in
theorem ck_445 : x_ok mLT1 [cx_421] mTS2 mTC2 mRUp cx_445 [(17, [0])] [(15, uN1470), (20, [740])] [] (8, []) 4 11 = true := by decide +kernel
theorem sn_445 {W : Bool} {X : List Int32} : y_Snd (mGw W) mLT1 (J2 W X) X cx_445 := y_ok J2_J mTS2_ok1 mTC2_ok1 mRUp_ok1 (List.forall_mem_cons.mpr ⟨sn_421, fun _ h => absurd h List.not_mem_nil⟩) ck_445
def cx_446p : zS := ((cx_443pi_0 (cx_443pi_1 [])), [ur1331, ur1345, ur1346, ur1347, ur1348, ur1381], [], [], [uV2, uV62, uV225], (cx_426pf_0 (cx_426pf_1 [])), [uG1475, (40, [uL78, uL9, uL283, uL63, uL63, uL79, uL164, uL98, uL104, uL170])])
/-- M.bounded -/
def cx_446 : zCtx := (210, cx_446p, [([ui0, ui348, (0, 0), ui52, (0, 5), ui52, ui52, (0, 6), (0, 1), ui48, ui68, ui52], [ur1331, ur1345, ur1346, ur1347, ur1348, ur1381], [uL63], [], [uV62], [uF1481, uF1451, uF1422, uF1467, uF1459, uF1474], [uG1482]), cx_443q1, ([ui0, ui146, (0, 0), ui52, (0, 5), ui52, ui52, (0, 6), (0, 1), ui48, ui68, ui196, ui52, (0, 5), ui52], [ur1331, ur1345, ur1346, ur1347, ur1348, ur1381], [uL63], [], [uV840], [uF1140, uF1429, uF1422, uF1483, uF1484, uF1474], [uG1485])], [uk1440, uk1430, uk1431, uk1461, uk1462], 53, 2, 41)
set_option maxRecDepth 1000000 in
theorem ck_446 : x_ok mLT1 [cx_423, cx_416, cx_424, cx_425, cx_413] mTS2 mTC2 mRUp cx_446 [(9, [0]), (17, [1]), (48, [2, 3]), (52, [4])] [(8, uN1486), (12, [740]), (15, uN1470), (20, [740]), (31, uN1487), (42, uN1488), (51, [740]), (55, [740, 1000260, 1000261, 1000262, 1000263, 1000264, 1000265, 1000266, 1000267, 1000268, 1000269, 1000270, 1000271, 1000272, 1000273, 1000274, 1000275, 1000276, 1000277, 1000278, 1000279, 1000280, 1000281, 1000282, 1000283, 1000284, 1000285, 1000286, 1000287, 1000288])] [] (28, []) 25 31 = true := by decide +kernel
theorem sn_446 {W : Bool} {X : List Int32} : y_Snd (mGw W) mLT1 (J2 W X) X cx_446 := y_ok J2_J mTS2_ok1 mTC2_ok1 mRUp_ok1 (List.forall_mem_cons.mpr ⟨sn_423, List.forall_mem_cons.mpr ⟨sn_416, List.forall_mem_cons.mpr ⟨sn_424, List.forall_mem_cons.mpr ⟨sn_425, List.forall_mem_cons.mpr ⟨sn_413, fun _ h => absurd h List.not_mem_nil⟩⟩⟩⟩⟩) ck_446
def cx_447p : zS := ((cx_444pi_0 (cx_444pi_1 [])), [ur1331, ur1345, ur1346, ur1347, ur1348, ur1381, ur1491], [((-23), [(11, 1)]), (23, [(11, (-1))])], [], [uV2, uV62, uV225], (cx_444pf_0 (cx_444pf_1 (cx_444pf_2 []))), [uG1475, uG1560, uG1561])
def cx_447q0 : zS := ((cx_444q0i_0 (cx_444q0i_1 (cx_444q0i_2 []))), [ur1331, ur1345, ur1346, ur1347, ur1348, ur1381, ur1491], [uL1562], [], [uV409], [uF1563, uF1564, uF1565, uF1513, uF1514, uF1474, uF1474], [uG1585, uG1479, uG1567, uG1568, uG1569])
def cx_447q1g_0 (t : List zTg) : List zTg := uG1571 :: uG1572 :: uG1573 :: uG1585 :: uG1479 :: uG1567 :: uG1568 :: uG1572 :: t
def cx_447q1g_1 (t : List zTg) : List zTg := uG1574 :: uG1571 :: (86, [uL78, uL1519, uL283, uL207]) :: t
def cx_447q1 : zS := ((cx_444q1i_0 (cx_444q1i_1 [])), [ur1331, ur1345, ur1346, ur1347, ur1348, ur1381, ur1491], [uL211, uL114], [], [uV409], [uF1575, uF1423, uF1425, uF1576, uF1577, uF1474, uF1474], (cx_447q1g_0 (cx_447q1g_1 [])))
def cx_447q2 : zS := ((cx_444q2i_0 (cx_444q2i_1 [])), [ur1331, ur1345, ur1346, ur1347, ur1348, ur1381, ur1491], [uL1578], [], [uV62], [uF1579, uF1580, uF1581, uF1467, uF1459, uF1474, uF1474], [uG1567, uG1568, uG1582])
/-- M.toldInt -/
def cx_447 : zCtx := (213, cx_447p, [cx_447q0, cx_447q1, cx_447q2], [uk1440, uk1430, uk1431, uk1461, uk1462], 65, 3, 64)
set_option maxRecDepth 1000000 in
theorem ck_447 : x_ok mLT1 [cx_413, cx_445, cx_446, cx_430, cx_431] mTS2 mTC2 mRUp cx_447 [(1, [0]), (7, [1, 2]), (13, [3, 4])] [(0, uN1583), (4, [740, 1000326, 1000327, 1000328, 1000329, 1000330, 1000331, 1000332, 1000333]), (10, [740]), (11, uN1584), (16, [740, 1000314, 1000335, 1000302, 1000487, 1000488, 1000489, 1000490])] [] (12, []) 53 15 = true := by decide +kernel
theorem sn_447 {W : Bool} {X : List Int32} : y_Snd (mGw W) mLT1 (J2 W X) X cx_447 := y_ok J2_J mTS2_ok1 mTC2_ok1 mRUp_ok1 (List.forall_mem_cons.mpr ⟨sn_413, List.forall_mem_cons.mpr ⟨sn_445, List.forall_mem_cons.mpr ⟨sn_446, List.forall_mem_cons.mpr ⟨sn_430, List.forall_mem_cons.mpr ⟨sn_431, fun _ h => absurd h List.not_mem_nil⟩⟩⟩⟩⟩) ck_447
/-- M.bounded -/
def cx_448 : zCtx := (210, ([ui0, ui146, (2, 2), ui52, (0, 5), ui52, ui52], [ur1331], [], [], [uV2, uV62, uV284], [uF1422, uF1423, uF1425, uF1467, uF1459, uF1468], [uG1469]), [([ui0, ui146, (2, 2), ui52, (0, 5), ui52, ui52], [ur1331], [], [], [uV62], [], [])], [], 12, 1, 21)
set_option maxRecDepth 1000000 in
theorem ck_448 : x_ok mLT1 [cx_421] mTS2 mTC2 mRUp cx_448 [(17, [0])] [(15, uN1470), (20, [740])] [] (8, []) 4 11 = true := by decide +kernel
theorem sn_448 {W : Bool} {X : List Int32} : y_Snd (mGw W) mLT1 (J2 W X) X cx_448 := y_ok J2_J mTS2_ok1 mTC2_ok1 mRUp_ok1 (List.forall_mem_cons.mpr ⟨sn_421, fun _ h => absurd h List.not_mem_nil⟩) ck_448
def cx_449p : zS := ((cx_443pi_0 (cx_443pi_1 [])), [ur1331, ur1345, ur1346, ur1347, ur1348, ur1381], [], [], [uV2, uV62, uV284], (cx_426pf_0 (cx_426pf_1 [])), [uG1475, (40, [uL78, uL9, uL285, uL63, uL63, uL79, uL164, uL98, uL104, uL170])])
/-- M.bounded -/
def cx_449 : zCtx := (210, cx_449p, [([ui0, ui348, (0, 0), ui52, (0, 5), ui52, ui52, (0, 6), (0, 1), ui48, ui68, ui52], [ur1331, ur1345, ur1346, ur1347, ur1348, ur1381], [uL63], [], [uV62], [uF1481, uF1451, uF1422, uF1467, uF1459, uF1474], [uG1482]), cx_443q1, ([ui0, ui146, (0, 0), ui52, (0, 5), ui52, ui52, (0, 6), (0, 1), ui48, ui68, ui196, ui52, (0, 5), ui52], [ur1331, ur1345, ur1346, ur1347, ur1348, ur1381], [uL63], [], [uV840], [uF1140, uF1429, uF1422, uF1483, uF1484, uF1474], [uG1485])], [uk1440, uk1430, uk1431, uk1461, uk1462], 53, 2, 41)
set_option maxRecDepth 1000000 in
theorem ck_449 : x_ok mLT1 [cx_423, cx_416, cx_424, cx_425, cx_413] mTS2 mTC2 mRUp cx_449 [(9, [0]), (17, [1]), (48, [2, 3]), (52, [4])] [(8, uN1486), (12, [740]), (15, uN1470), (20, [740]), (31, uN1487), (42, uN1488), (51, [740]), (55, [740, 1000260, 1000261, 1000262, 1000263, 1000264, 1000265, 1000266, 1000267, 1000268, 1000269, 1000270, 1000271, 1000272, 1000273, 1000274, 1000275, 1000276, 1000277, 1000278, 1000279, 1000280, 1000281, 1000282, 1000283, 1000284, 1000285, 1000286, 1000287, 1000288])] [] (28, []) 25 31 = true := by decide +kernel
theorem sn_449 {W : Bool} {X : List Int32} : y_Snd (mGw W) mLT1 (J2 W X) X cx_449 := y_ok J2_J mTS2_ok1 mTC2_ok1 mRUp_ok1 (List.forall_mem_cons.mpr ⟨sn_423, List.forall_mem_cons.mpr ⟨sn_416, List.forall_mem_cons.mpr ⟨sn_424, List.forall_mem_cons.mpr ⟨sn_425, List.forall_mem_cons.mpr ⟨sn_413, fun _ h => absurd h List.not_mem_nil⟩⟩⟩⟩⟩) ck_449
def cx_450p : zS := ((cx_444pi_0 (cx_444pi_1 [])), [ur1331, ur1345, ur1346, ur1347, ur1348, ur1381, ur1491], [((-28), [(11, 1)]), (28, [(11, (-1))])], [], [uV2, uV62, uV284], (cx_444pf_0 (cx_444pf_1 (cx_444pf_2 []))), [uG1475, uG1560, uG1561])
def cx_450q0 : zS := ((cx_444q0i_0 (cx_444q0i_1 (cx_444q0i_2 []))), [ur1331, ur1345, ur1346, ur1347, ur1348, ur1381, ur1491], [uL1562], [], [uV409], [uF1563, uF1564, uF1565, uF1513, uF1514, uF1474, uF1474], [uG1586, uG1479, uG1567, uG1568, uG1569])
def cx_450q1g_0 (t : List zTg) : List zTg := uG1571 :: uG1572 :: uG1573 :: uG1586 :: uG1479 :: uG1567 :: uG1568 :: uG1572 :: t
def cx_450q1g_1 (t : List zTg) : List zTg := uG1574 :: uG1571 :: (86, [uL78, uL1519, uL285, uL207]) :: t
def cx_450q1 : zS := ((cx_444q1i_0 (cx_444q1i_1 [])), [ur1331, ur1345, ur1346, ur1347, ur1348, ur1381, ur1491], [uL211, uL114], [], [uV409], [uF1575, uF1423, uF1425, uF1576, uF1577, uF1474, uF1474], (cx_450q1g_0 (cx_450q1g_1 [])))
/-- M.toldInt -/
def cx_450 : zCtx := (213, cx_450p, [cx_450q0, cx_450q1, cx_447q2], [uk1440, uk1430, uk1431, uk1461, uk1462], 65, 3, 64)
set_option maxRecDepth 1000000 in
theorem ck_450 : x_ok mLT1 [cx_413, cx_448, cx_449, cx_430, cx_431] mTS2 mTC2 mRUp cx_450 [(1, [0]), (7, [1, 2]), (13, [3, 4])] [(0, uN1583), (4, [740, 1000326, 1000327, 1000328, 1000329, 1000330, 1000331, 1000332, 1000333]), (10, [740]), (11, uN1584), (16, [740, 1000314, 1000335, 1000302, 1000487, 1000488, 1000489, 1000490])] [] (12, []) 53 15 = true := by decide +kernel
theorem sn_450 {W : Bool} {X : List Int32} : y_Snd (mGw W) mLT1 (J2 W X) X cx_450 := y_ok J2_J mTS2_ok1 mTC2_ok1 mRUp_ok1 (List.forall_mem_cons.mpr ⟨sn_413, List.forall_mem_cons.mpr ⟨sn_448, List.forall_mem_cons.mpr ⟨sn_449, List.forall_mem_cons.mpr ⟨sn_430, List.forall_mem_cons.mpr ⟨sn_431, fun _ h => absurd h List.not_mem_nil⟩⟩⟩⟩⟩) ck_450
/-- M.bounded -/
def cx_451 : zCtx := (210, ([ui0, ui146, (2, 2), ui52, (0, 5), ui52, ui52], [ur1331], [], [], [uV2, uV62, uV286], [uF1422, uF1423, uF1425, uF1467, uF1459, uF1468], [uG1469]), [([ui0, ui146, (2, 2), ui52, (0, 5), ui52, ui52], [ur1331], [], [], [uV62], [], [])], [], 12, 1, 21)
set_option maxRecDepth 1000000 in
theorem ck_451 : x_ok mLT1 [cx_421] mTS2 mTC2 mRUp cx_451 [(17, [0])] [(15, uN1470), (20, [740])] [] (8, []) 4 11 = true := by decide +kernel
theorem sn_451 {W : Bool} {X : List Int32} : y_Snd (mGw W) mLT1 (J2 W X) X cx_451 := y_ok J2_J mTS2_ok1 mTC2_ok1 mRUp_ok1 (List.forall_mem_cons.mpr ⟨sn_421, fun _ h => absurd h List.not_mem_nil⟩) ck_451
def cx_452p : zS := ((cx_443pi_0 (cx_443pi_1 [])), [ur1331, ur1345, ur1346, ur1347, ur1348, ur1381], [], [], [uV2, uV62, uV286], (cx_426pf_0 (cx_426pf_1 [])), [uG1475, (40, [uL78, uL9, uL287, uL63, uL63, uL79, uL164, uL98, uL104, uL170])])
def cx_452q1i_0 (t : List (Int × Int)) : List (Int × Int) := ui0 :: ui1454 :: (0, 0) :: ui52 :: (0, 5) :: ui52 :: ui52 :: (0, 6) :: t
def cx_452q1i_1 (t : List (Int × Int)) : List (Int × Int) := (0, 1) :: ui48 :: ui68 :: ui196 :: t
def cx_452q1g_0 (t : List zTg) : List zTg := uG1587 :: uG1479 :: uG1479 :: uG1587 :: uG1480 :: t
def cx_452q1 : zS := ((cx_452q1i_0 (cx_452q1i_1 [])), [ur1331, ur1345, ur1346, ur1347, ur1348, ur1381], [uL65, uL63, uL63], [], [uV840], [uF1438, uF1423, uF1425, uF1474], (cx_452q1g_0 []))
/-- M.bounded -/
def cx_452 : zCtx := (210, cx_452p, [([ui0, ui348, (0, 0), ui52, (0, 5), ui52, ui52, (0, 6), (0, 1), ui48, ui68, ui52], [ur1331, ur1345, ur1346, ur1347, ur1348, ur1381], [uL63], [], [uV62], [uF1481, uF1451, uF1422, uF1474], [uG1482]), cx_452q1, ([ui0, ui146, (0, 0), ui52, (0, 5), ui52, ui52, (0, 6), (0, 1), ui48, ui68, ui196, ui52], [ur1331, ur1345, ur1346, ur1347, ur1348, ur1381], [uL63], [], [uV840], [uF1140, uF1429, uF1422, uF1474], [uG1485])], [uk1440, uk1430, uk1431], 48, 2, 41)
set_option maxRecDepth 1000000 in
theorem ck_452 : x_ok mLT1 [cx_423, cx_416, cx_413] mTS2 mTC2 mRUp cx_452 [(9, [0]), (17, [1]), (52, [2])] [(8, uN1486), (12, [740]), (15, uN1470), (20, [740]), (31, uN1487), (51, [740]), (55, [740, 1000260, 1000261, 1000262, 1000263, 1000264, 1000265, 1000266, 1000267, 1000268, 1000269, 1000270, 1000271, 1000272, 1000273, 1000274, 1000275, 1000276, 1000277, 1000278, 1000279, 1000280, 1000281, 1000282, 1000283, 1000284, 1000285, 1000286, 1000287, 1000288])] [] (23, []) 25 26 = true := by decide +kernel
theorem sn_452 {W : Bool} {X : List Int32} : y_Snd (mGw W) mLT1 (J2 W X) X cx_452 := y_ok J2_J mTS2_ok1 mTC2_ok1 mRUp_ok1 (List.forall_mem_cons.mpr ⟨sn_423, List.forall_mem_cons.mpr ⟨sn_416, List.forall_mem_cons.mpr ⟨sn_413, fun _ h => absurd h List.not_mem_nil⟩⟩⟩) ck_452
def cx_453p : zS := ((cx_444pi_0 (cx_444pi_1 [])), [ur1331, ur1345, ur1346, ur1347, ur1348, ur1381, ur1491], [((-29), [(11, 1)]), (29, [(11, (-1))])], [], [uV2, uV62, uV286], (cx_444pf_0 (cx_444pf_1 (cx_444pf_2 []))), [uG1475, uG1560, uG1561])
def cx_453q0i_0 (t : List (Int × Int)) : List (Int × Int) := ui0 :: ui147 :: (0, 0) :: ui52 :: (0, 5) :: ui52 :: ui52 :: (0, 6) :: t
def cx_453q0i_1 (t : List (Int × Int)) : List (Int × Int) := (0, 1) :: ui48 :: ui68 :: ui1377 :: ui52 :: ui196 :: ui52 :: (1, 2) :: t
def cx_453q0i_2 (t : List (Int × Int)) : List (Int × Int) := ui406 :: t
def cx_453q0 : zS := ((cx_453q0i_0 (cx_453q0i_1 (cx_453q0i_2 []))), [ur1331, ur1345, ur1346, ur1347, ur1348, ur1381, ur1491], [uL1562], [], [uV409], [uF1563, uF1564, uF1565, uF1474, uF1474], [uG1588, uG1479, uG1567, uG1568, uG1569])
def cx_453q1i_0 (t : List (Int × Int)) : List (Int × Int) := ui0 :: ui1570 :: (0, 0) :: ui52 :: (0, 5) :: ui52 :: ui52 :: (0, 6) :: t
def cx_453q1i_1 (t : List (Int × Int)) : List (Int × Int) := (0, 1) :: ui48 :: ui68 :: ui1377 :: ui52 :: ui196 :: t
def cx_453q1g_0 (t : List zTg) : List zTg := uG1571 :: uG1589 :: uG1572 :: (40, [uL78, uL1520, uL267, uL63, uL63, uL79, uL164, uL98, uL104, uL170]) :: uG1573 :: uG1588 :: uG1479 :: uG1567 :: t
def cx_453q1g_1 (t : List zTg) : List zTg := uG1568 :: uG1572 :: uG1589 :: uG1571 :: (86, [uL78, uL1519, uL287, uL207]) :: t
def cx_453q1 : zS := ((cx_453q1i_0 (cx_453q1i_1 [])), [ur1331, ur1345, ur1346, ur1347, ur1348, ur1381, ur1491], [uL211, uL114], [], [uV409], [uF1575, uF1423, uF1425, uF1474, uF1474], (cx_453q1g_0 (cx_453q1g_1 [])))
def cx_453q2 : zS := ((cx_444q2i_0 (cx_444q2i_1 [])), [ur1331, ur1345, ur1346, ur1347, ur1348, ur1381, ur1491], [uL1578], [], [uV62], [uF1579, uF1580, uF1581, uF1474, uF1474], [uG1567, uG1568, uG1582])
/-- M.toldInt -/
def cx_453 : zCtx := (213, cx_453p, [cx_453q0, cx_453q1, cx_453q2], [uk1440, uk1430, uk1431], 60, 3, 64)
set_option maxRecDepth 1000000 in
theorem ck_453 : x_ok mLT1 [cx_413, cx_451, cx_452, cx_430, cx_431] mTS2 mTC2 mRUp cx_453 [(1, [0]), (7, [1, 2]), (13, [3, 4])] [(0, uN1583), (4, [740, 1000326, 1000327, 1000328, 1000329, 1000330, 1000331, 1000332, 1000333]), (10, [740]), (11, uN1584), (16, [740, 1000314, 1000335, 1000302, 1000487, 1000488, 1000489, 1000490])] [] (12, []) 48 15 = true := by decide +kernel
theorem sn_453 {W : Bool} {X : List Int32} : y_Snd (mGw W) mLT1 (J2 W X) X cx_453 := y_ok J2_J mTS2_ok1 mTC2_ok1 mRUp_ok1 (List.forall_mem_cons.mpr ⟨sn_413, List.forall_mem_cons.mpr ⟨sn_451, List.forall_mem_cons.mpr ⟨sn_452, List.forall_mem_cons.mpr ⟨sn_430, List.forall_mem_cons.mpr ⟨sn_431, fun _ h => absurd h List.not_mem_nil⟩⟩⟩⟩⟩) ck_453
/-- M.is -/
def cx_454 : zCtx := (202, ([ui0, ui348, (0, 2), ui1343], [ur1331, ur1345], [], [], [uV2, uV3], [uF1422, uF1423, uF1349, uF1424], []), [([ui0, ui348, (0, 0), (5, 5)], [ur1331, ur1345], [], [], [uV64], [], []), ([ui0, ui348, (0, 0), (0, 4)], [ur1331, ur1345], [], [], [uV62], [], []), ([ui0, ui348, (0, 0), (6, 41)], [ur1331, ur1345], [], [], [uV62], [], []), ([ui0, ui348, (1, 2), ui1343], [ur1331, ur1345], [], [], [uV62], [], [])], [], 13, 0, 0)
set_option maxRecDepth 1000000 in
theorem ck_454 : x_ok mLT1 [] mTS2 mTC2 mRUp cx_454 [] [] [] (13, []) 0 16 = true := by decide +kernel
theorem sn_454 {W : Bool} {X : List Int32} : y_Snd (mGw W) mLT1 (J2 W X) X cx_454 := y_ok J2_J mTS2_ok1 mTC2_ok1 mRUp_ok1 (fun _ h => absurd h List.not_mem_nil) ck_454
/-- M.must -/
def cx_455 : zCtx := (208, ([ui0, ui146, (2, 2), ui52, ui52], [ur1331], [], [], [uV2, uV3], [uF1422, uF1423, uF1425, uF178], [uG1490]), [([ui0, ui146, (2, 2), ui52, ui52], [ur1331], [], [], [], [], [])], [], 21, 1, 21)
set_option maxRecDepth 1000000 in
theorem ck_455 : x_ok mLT1 [cx_454, cx_421] mTS2 mTC2 mRUp cx_455 [(2, [0]), (17, [1])] [(15, uN1456)] [] (8, []) 13 11 = true := by decide +kernel
theorem sn_455 {W : Bool} {X : List Int32} : y_Snd (mGw W) mLT1 (J2 W X) X cx_455 := y_ok J2_J mTS2_ok1 mTC2_ok1 mRUp_ok1 (List.forall_mem_cons.mpr ⟨sn_454, List.forall_mem_cons.mpr ⟨sn_421, fun _ h => absurd h List.not_mem_nil⟩⟩) ck_455
def cx_456pi_0 (t : List (Int × Int)) : List (Int × Int) := ui0 :: ui348 :: (0, 7) :: (1, 2) :: ui52 :: ui1590 :: ui1591 :: ui1592 :: t
def cx_456pi_1 (t : List (Int × Int)) : List (Int × Int) := (0, 1) :: ui1593 :: ui1593 :: ui1591 :: (0, 2) :: ui1591 :: ui1591 :: ui52 :: t
def cx_456pi_2 (t : List (Int × Int)) : List (Int × Int) := (0, 1) :: ui31 :: t
def cx_456pr_0 (t : List (Nat × Bool)) : List (Nat × Bool) := ur1331 :: ur1392 :: ur1393 :: ur1387 :: ur1388 :: ur1378 :: ur1379 :: ur1389 :: t
def cx_456pr_1 (t : List (Nat × Bool)) : List (Nat × Bool) := ur1390 :: ur1391 :: t
def cx_456pf_0 (t : List zFa) : List zFa := uF1422 :: uF1594 :: uF1442 :: uF1428 :: uF1595 :: uF1596 :: uF1597 :: uF1598 :: t
def cx_456pf_1 (t : List zFa) : List zFa := uF1599 :: uF1600 :: (0, (false, 40, 0, []), 2, 3, 0, []) :: (0, (false, 41, 0, []), 2, 4, 0, []) :: (0, (false, 31, 0, []), 2, 5, 0, []) :: (0, (false, 32, 0, []), 2, 6, 0, []) :: (0, (false, 34, 0, []), 2, 7, 0, []) :: (0, (false, 35, 0, []), 2, 8, 0, []) :: t
def cx_456pf_2 (t : List zFa) : List zFa := (0, (false, 36, 0, []), 2, 9, 0, []) :: t
def cx_456p : zS := ((cx_456pi_0 (cx_456pi_1 (cx_456pi_2 []))), (cx_456pr_0 (cx_456pr_1 [])), [uL1601, (0, [(5, 1), (9, (-1))]), (0, [(5, 1), (8, (-130))])], [], [uV2], (cx_456pf_0 (cx_456pf_1 (cx_456pf_2 []))), [uG1602, (41, [uL209, uL23, uL98]), uG1604])
/-- M.term -/
def cx_456 : zCtx := (219, cx_456p, [([ui0, ui348, (0, 7), (1, 2), ui52, ui1590, ui1591, ui1592, (0, 1), ui1593, ui1593, ui1591, (0, 2), ui1591, ui1591, ui52, (0, 1), ui31], [ur1331, ur1392, ur1393, ur1387, ur1388, ur1378, ur1379, ur1389, ur1390, ur1391], [], [], [], [uF1605, (2, (true, 0, 0, [(5, 1)]), 0, 0, 0, [(6, 1)]), uF1606], [uG1602, uG1604])], [uk1607, uk1608, uk1609], 24, 0, 0)
set_option maxRecDepth 1000000 in
theorem ck_456 : x_ok mLT1 [] mTS2 mTC2 mRUp cx_456 [] [(0, [1000610])] [] (24, []) 0 27 = true := by decide +kernel
theorem sn_456 {W : Bool} {X : List Int32} : y_Snd (mGw W) mLT1 (J2 W X) X cx_456 := y_ok J2_J mTS2_ok1 mTC2_ok1 mRUp_ok1 (fun _ h => absurd h List.not_mem_nil) ck_456
def cx_457pi_0 (t : List (Int × Int)) : List (Int × Int) := ui0 :: (0, 3) :: ui146 :: (0, 0) :: (2, 2) :: ui52 :: (0, 1) :: ui1610 :: t
def cx_457pi_1 (t : List (Int × Int)) : List (Int × Int) := ui1611 :: ui1592 :: (0, 2) :: ui1591 :: ui1591 :: ui52 :: (0, 1) :: ui31 :: t
def cx_457pr_0 (t : List (Nat × Bool)) : List (Nat × Bool) := ur1331 :: ur1389 :: ur1390 :: ur1391 :: ur1392 :: ur1393 :: ur1378 :: ur1379 :: t
def cx_457pr_1 (t : List (Nat × Bool)) : List (Nat × Bool) := ur1387 :: ur1388 :: t
def cx_457pf_0 (t : List zFa) : List zFa := uF1441 :: uF1612 :: uF1613 :: uF1136 :: uF1494 :: uF1614 :: uF1615 :: uF1616 :: t
def cx_457pf_1 (t : List zFa) : List zFa := uF1617 :: uF1618 :: uF1619 :: uF1620 :: uF1621 :: uF1622 :: uF1623 :: uF1624 :: t
def cx_457pf_2 (t : List zFa) : List zFa := uF1625 :: uF1626 :: t
def cx_457p : zS := ((cx_457pi_0 (cx_457pi_1 [])), (cx_457pr_0 (cx_457pr_1 [])), [(120, [(6, 130), (7, (-1))]), (0, [(6, (-130)), (7, 1)])], [], [uV2, uV11], (cx_457pf_0 (cx_457pf_1 (cx_457pf_2 []))), [uG1627, (41, [uL207, uL98, uL104]), uG1628])
/-- M.tellLaw -/
def cx_457 : zCtx := (214, cx_457p, [([ui0, (0, 3), ui146, (0, 0), (2, 2), ui52, (0, 1), ui1610, ui1611, ui1592, (0, 2), ui1591, ui1591, ui52, (0, 1), ui31], [ur1331, ur1389, ur1390, ur1391, ur1392, ur1393, ur1378, ur1379, ur1387, ur1388], [], [], [], [(0, (false, 33, 0, []), 0, 0, 1, [(7, 1)])], [uG1627, uG1628, (225, [uL79, uL78])])], [uk1607, (67, true, 0), uk1608, uk1609], 50, 2, 42)
set_option maxRecDepth 1000000 in
theorem ck_457 : x_ok mLT1 [cx_455, cx_456, cx_430] mTS2 mTC2 mRUp cx_457 [(2, [0]), (140, [1]), (145, [2])] [(0, uN1629), (5, uN1630), (129, [1000600, 1000391, 1000392, 35, 1000610, 1000611]), (140, [35]), (143, [13, 740, 741, 1000246, 1000393, 1000612]), (148, uN1631)] [] (26, []) 24 29 = true := by decide +kernel
theorem sn_457 {W : Bool} {X : List Int32} : y_Snd (mGw W) mLT1 (J2 W X) X cx_457 := y_ok J2_J mTS2_ok1 mTC2_ok1 mRUp_ok1 (List.forall_mem_cons.mpr ⟨sn_455, List.forall_mem_cons.mpr ⟨sn_456, List.forall_mem_cons.mpr ⟨sn_430, fun _ h => absurd h List.not_mem_nil⟩⟩⟩) ck_457
def cx_458p : zS := ([ui0, ui348, (0, 0), ui52, ui52, ui1343, ui52], [ur1331, ur1345, ur1346, ur1347, ur1348], [uL36], [], [uV2, uV3], (cx_413pf_0 (cx_413pf_1 [])), [uG1434, uG1435, (62, [uL98, uL9, uL246, uL104, uL78])])
/-- M.must -/
def cx_458 : zCtx := (208, cx_458p, [([ui0, ui348, (0, 0), ui52, ui52, ui1343, ui52, (1, 2)], [ur1331, ur1345, ur1346, ur1347, ur1348], [uL63], [], [], [uF1167, uF1452, uF1422], [uG1453]), ([ui0, ui1454, (0, 0), ui52, ui52, (5, 5), ui52], [ur1331, ur1345, ur1346, ur1347, ur1348], [uL65, ((-5), [(5, 1)]), (5, [(5, (-1))]), uL63, uL63], [], [], [uF1438, uF1423, uF1425], [uG1439, uG1436, uG1439])], [uk1440, uk1430, uk1431], 33, 2, 41)
set_option maxRecDepth 1000000 in
theorem ck_458 : x_ok mLT1 [cx_454, cx_413, cx_416] mTS2 mTC2 mRUp cx_458 [(2, [0]), (9, [1]), (17, [2])] [(9, [1000243]), (15, uN1456)] [] (8, []) 25 11 = true := by decide +kernel
theorem sn_458 {W : Bool} {X : List Int32} : y_Snd (mGw W) mLT1 (J2 W X) X cx_458 := y_ok J2_J mTS2_ok1 mTC2_ok1 mRUp_ok1 (List.forall_mem_cons.mpr ⟨sn_454, List.forall_mem_cons.mpr ⟨sn_413, List.forall_mem_cons.mpr ⟨sn_416, fun _ h => absurd h List.not_mem_nil⟩⟩⟩) ck_458
/-- M.is -/
def cx_459 : zCtx := (202, ([ui0, ui406, (0, 0), ui1343], [ur1331, ur1345], [], [], [uV2, (0, 0, 30, [])], [uF1422, uF1423, uF1349, uF1424], []), [([ui0, ui406, (0, 0), (30, 30)], [ur1331, ur1345], [], [], [uV64], [], []), ([ui0, ui406, (0, 0), (0, 29)], [ur1331, ur1345], [], [], [uV62], [], []), ([ui0, ui406, (0, 0), (31, 41)], [ur1331, ur1345], [], [], [uV62], [], [])], [], 13, 0, 0)
set_option maxRecDepth 1000000 in
theorem ck_459 : x_ok mLT1 [] mTS2 mTC2 mRUp cx_459 [] [] [] (13, []) 0 16 = true := by decide +kernel
theorem sn_459 {W : Bool} {X : List Int32} : y_Snd (mGw W) mLT1 (J2 W X) X cx_459 := y_ok J2_J mTS2_ok1 mTC2_ok1 mRUp_ok1 (fun _ h => absurd h List.not_mem_nil) ck_459
def cx_460pi_0 (t : List (Int × Int)) : List (Int × Int) := ui0 :: ui146 :: (0, 0) :: (2, 2) :: ui52 :: ui1611 :: ui1592 :: (0, 1) :: t
def cx_460pi_1 (t : List (Int × Int)) : List (Int × Int) := ui1593 :: ui1593 :: (0, 2) :: ui1591 :: ui1591 :: ui52 :: (0, 1) :: ui31 :: t
def cx_460pr_0 (t : List (Nat × Bool)) : List (Nat × Bool) := ur1331 :: ur1632 :: ur1387 :: ur1388 :: ur1378 :: ur1379 :: ur1389 :: ur1390 :: t
def cx_460pr_1 (t : List (Nat × Bool)) : List (Nat × Bool) := ur1391 :: ur1392 :: ur1393 :: t
def cx_460pf_0 (t : List zFa) : List zFa := uF1422 :: uF1594 :: uF1442 :: uF1428 :: uF1633 :: uF1634 :: uF1635 :: uF1624 :: t
def cx_460pf_1 (t : List zFa) : List zFa := uF1636 :: uF1637 :: uF1638 :: uF1639 :: uF1640 :: uF1641 :: uF1642 :: uF1643 :: t
def cx_460pf_2 (t : List zFa) : List zFa := uF1644 :: t
def cx_460p : zS := ((cx_460pi_0 (cx_460pi_1 [])), (cx_460pr_0 (cx_460pr_1 [])), [uL1645], [], [uV2], (cx_460pf_0 (cx_460pf_1 (cx_460pf_2 []))), [uG1646, (41, [uL207, uL23, uL98]), (224, [uL1647, uL79, uL208, uL209])])
/-- M.expression -/
def cx_460 : zCtx := (215, cx_460p, [([ui0, ui146, (0, 0), (2, 2), ui52, ui1611, ui1592, (0, 1), ui1593, ui1593, (0, 2), ui1591, ui1591, ui52, (0, 1), ui31], [ur1331, ur1632, ur1387, ur1388, ur1378, ur1379, ur1389, ur1390, ur1391, ur1392, ur1393], [], [], [], [(0, (false, 43, 0, []), 0, 0, 0, [])], [(1, [uL63, uL63, uL63]), (0, [uL104, uL63, uL104])])], [uk1648], 14, 0, 0)
set_option maxRecDepth 1000000 in
theorem ck_460 : x_ok mLT1 [] mTS2 mTC2 mRUp cx_460 [] [(5, [5, 6])] [] (14, []) 0 17 = true := by decide +kernel
theorem sn_460 {W : Bool} {X : List Int32} : y_Snd (mGw W) mLT1 (J2 W X) X cx_460 := y_ok J2_J mTS2_ok1 mTC2_ok1 mRUp_ok1 (fun _ h => absurd h List.not_mem_nil) ck_460
/-- M.is -/
def cx_461 : zCtx := (202, ([ui0, ui406, (0, 2), ui1343], [ur1331, ur1345], [], [], [uV2, uV315], [uF1422, uF1423, uF1349, uF1424], []), [([ui0, ui406, (0, 0), (6, 6)], [ur1331, ur1345], [], [], [uV64], [], []), ([ui0, ui406, (0, 0), (0, 5)], [ur1331, ur1345], [], [], [uV62], [], []), ([ui0, ui406, (0, 0), (7, 41)], [ur1331, ur1345], [], [], [uV62], [], []), ([ui0, ui406, (1, 2), ui1343], [ur1331, ur1345], [], [], [uV62], [], [])], [], 13, 0, 0)
set_option maxRecDepth 1000000 in
theorem ck_461 : x_ok mLT1 [] mTS2 mTC2 mRUp cx_461 [] [] [] (13, []) 0 16 = true := by decide +kernel
theorem sn_461 {W : Bool} {X : List Int32} : y_Snd (mGw W) mLT1 (J2 W X) X cx_461 := y_ok J2_J mTS2_ok1 mTC2_ok1 mRUp_ok1 (fun _ h => absurd h List.not_mem_nil) ck_461
/-- M.fail -/
def cx_462 : zCtx := (205, ([ui0, ui146, (2, 2), ui52, ui52], [ur1331, ur1346], [], [], [uV2, uV389], [uF1422, uF1423, uF1425, uF1426, uF1427], []), [([ui0, ui146, (2, 2), ui52, ui52], [ur1331, ur1346], [], [], [], [], [])], [], 4, 0, 0)
set_option maxRecDepth 1000000 in
theorem ck_462 : x_ok mLT1 [] mTS2 mTC2 mRUp cx_462 [] [] [] (4, []) 0 7 = true := by decide +kernel
theorem sn_462 {W : Bool} {X : List Int32} : y_Snd (mGw W) mLT1 (J2 W X) X cx_462 := y_ok J2_J mTS2_ok1 mTC2_ok1 mRUp_ok1 (fun _ h => absurd h List.not_mem_nil) ck_462
/-- M.goesOn -/
def cx_463 : zCtx := (206, ([ui0, ui406, (2, 2), ui52, ui52], [ur1331], [], [], [uV2], [uF1422, uF1423, uF1425, uF178], [uG1490]), [([ui0, ui146, (2, 2), ui52, ui52], [ur1331], [uL63], [], [], [uF1422], [uG1490]), ([ui0, ui1476, (2, 2), ui52, ui52], [ur1331], [uL65], [], [], [uF1438], [uG1490])], [uk1440], 15, 1, 21)
set_option maxRecDepth 1000000 in
theorem ck_463 : x_ok mLT1 [cx_462] mTS2 mTC2 mRUp cx_463 [(12, [0])] [(10, [1000241]), (28, [1000242])] [] (11, []) 4 14 = true := by decide +kernel
theorem sn_463 {W : Bool} {X : List Int32} : y_Snd (mGw W) mLT1 (J2 W X) X cx_463 := y_ok J2_J mTS2_ok1 mTC2_ok1 mRUp_ok1 (List.forall_mem_cons.mpr ⟨sn_462, fun _ h => absurd h List.not_mem_nil⟩) ck_463
def cx_464pi_0 (t : List (Int × Int)) : List (Int × Int) := ui0 :: ui1489 :: (2, 2) :: ui52 :: ui767 :: ui1591 :: (0, 1) :: ui1593 :: t
def cx_464pi_1 (t : List (Int × Int)) : List (Int × Int) := ui1593 :: (0, 2) :: ui1591 :: ui1591 :: ui1591 :: ui1591 :: ui52 :: (0, 1) :: t
def cx_464pi_2 (t : List (Int × Int)) : List (Int × Int) := ui31 :: t
def cx_464pr_0 (t : List (Nat × Bool)) : List (Nat × Bool) := ur1331 :: ur1387 :: ur1388 :: ur1378 :: ur1379 :: ur1389 :: ur1390 :: ur1391 :: t
def cx_464pr_1 (t : List (Nat × Bool)) : List (Nat × Bool) := ur1392 :: ur1393 :: t
def cx_464pf_0 (t : List zFa) : List zFa := uF1422 :: uF1423 :: uF1425 :: uF1649 :: (0, (false, 4, 0, []), 0, 0, 0, [(14, 1)]) :: uF1650 :: uF1651 :: uF1652 :: t
def cx_464pf_1 (t : List zFa) : List zFa := uF1653 :: uF1654 :: uF1655 :: uF1656 :: uF1657 :: uF1658 :: t
def cx_464p : zS := ((cx_464pi_0 (cx_464pi_1 (cx_464pi_2 []))), (cx_464pr_0 (cx_464pr_1 [])), [uL1465, uL1659], [], [uV2], (cx_464pf_0 (cx_464pf_1 [])), [uG1660, uG1661, (41, [uL208, uL67, uL23]), (224, [uL1507, uL78, uL209, uL212])])
/-- M.unit -/
def cx_464 : zCtx := (216, cx_464p, [([ui0, ui1489, (2, 2), ui52, ui767, ui1591, (0, 1), ui1593, ui1593, (0, 2), ui1591, ui1591, ui1591, ui1591, ui52, (0, 1), ui31], [ur1331, ur1387, ur1388, ur1378, ur1379, ur1389, ur1390, ur1391, ur1392, ur1393], [], [], [], [], [])], [], 24, 1, 21)
set_option maxRecDepth 1000000 in
theorem ck_464 : x_ok mLT1 [cx_423, cx_421] mTS2 mTC2 mRUp cx_464 [(2, [0]), (90, [1])] [(0, [1000246]), (88, uN1662)] [] (11, []) 13 14 = true := by decide +kernel
theorem sn_464 {W : Bool} {X : List Int32} : y_Snd (mGw W) mLT1 (J2 W X) X cx_464 := y_ok J2_J mTS2_ok1 mTC2_ok1 mRUp_ok1 (List.forall_mem_cons.mpr ⟨sn_423, List.forall_mem_cons.mpr ⟨sn_421, fun _ h => absurd h List.not_mem_nil⟩⟩) ck_464
def cx_465pi_0 (t : List (Int × Int)) : List (Int × Int) := ui0 :: ui196 :: ui767 :: ui1591 :: (0, 1) :: ui1593 :: ui1593 :: (0, 2) :: t
def cx_465pi_1 (t : List (Int × Int)) : List (Int × Int) := ui1591 :: ui1591 :: ui1591 :: ui1591 :: ui52 :: ui68 :: ui1592 :: ui1593 :: t
def cx_465pi_2 (t : List (Int × Int)) : List (Int × Int) := (0, 5) :: (0, 1) :: ui31 :: t
def cx_465pf_0 (t : List zFa) : List zFa := (0, (false, 39, 0, []), 0, 0, 0, [(2, 1)]) :: uF1650 :: uF1651 :: uF1652 :: uF1653 :: uF1654 :: uF1655 :: uF1656 :: t
def cx_465pf_1 (t : List zFa) : List zFa := uF1657 :: uF1658 :: t
def cx_465p : zS := ((cx_465pi_0 (cx_465pi_1 (cx_465pi_2 []))), (cx_464pr_0 (cx_464pr_1 [])), [uL473, uL1663, uL1664], [], [uV2, uV62, uV11], (cx_465pf_0 (cx_465pf_1 [])), [uG1665, uG1666, uG1667, uG1669])
def cx_465q0g_0 (t : List zTg) : List zTg := (0, [uL170, uL241, uL515]) :: uG1665 :: uG1666 :: uG1667 :: uG1669 :: uG1667 :: t
def cx_465q0 : zS := ((cx_465pi_0 (cx_465pi_1 (cx_465pi_2 []))), (cx_464pr_0 (cx_464pr_1 [])), [], [], [], [uF1670, uF1671, (1, (true, 0, 0, [(2, 1)]), 0, 0, 0, [])], (cx_465q0g_0 []))
/-- M.emit -/
def cx_465 : zCtx := (217, cx_465p, [cx_465q0], [uk1672, uk1673, uk1674], 19, 0, 0)
set_option maxRecDepth 1000000 in
theorem ck_465 : x_ok mLT1 [] mTS2 mTC2 mRUp cx_465 [] [(30, [7])] [] (19, []) 0 22 = true := by decide +kernel
theorem sn_465 {W : Bool} {X : List Int32} : y_Snd (mGw W) mLT1 (J2 W X) X cx_465 := y_ok J2_J mTS2_ok1 mTC2_ok1 mRUp_ok1 (fun _ h => absurd h List.not_mem_nil) ck_465
def cx_466pi_0 (t : List (Int × Int)) : List (Int × Int) := ui0 :: (0, 8) :: ui767 :: ui1591 :: (0, 1) :: ui1593 :: ui1593 :: (0, 2) :: t
def cx_466pi_1 (t : List (Int × Int)) : List (Int × Int) := ui1591 :: ui1591 :: ui1591 :: ui1591 :: ui52 :: ui68 :: ui1592 :: ui1593 :: t
def cx_466pi_2 (t : List (Int × Int)) : List (Int × Int) := (0, 5) :: (0, 1) :: ui31 :: t
def cx_466p : zS := ((cx_466pi_0 (cx_466pi_1 (cx_466pi_2 []))), (cx_464pr_0 (cx_464pr_1 [])), [uL473, uL1663, uL1664], [], [uV2, uV64, uV11], (cx_465pf_0 (cx_465pf_1 [])), [uG1665, uG1666, uG1667, uG1669])
def cx_466q0 : zS := ((cx_466pi_0 (cx_466pi_1 (cx_466pi_2 []))), (cx_464pr_0 (cx_464pr_1 [])), [], [], [], [uF1670, uF1671, (1, (true, 0, 0, [(2, 1)]), 0, 0, 1, [])], (cx_465q0g_0 []))
/-- M.emit -/
def cx_466 : zCtx := (217, cx_466p, [cx_466q0], [uk1672, uk1673, uk1674], 19, 0, 0)
set_option maxRecDepth 1000000 in
theorem ck_466 : x_ok mLT1 [] mTS2 mTC2 mRUp cx_466 [] [(30, [7])] [] (19, []) 0 22 = true := by decide +kernel
theorem sn_466 {W : Bool} {X : List Int32} : y_Snd (mGw W) mLT1 (J2 W X) X cx_466 := y_ok J2_J mTS2_ok1 mTC2_ok1 mRUp_ok1 (fun _ h => absurd h List.not_mem_nil) ck_466
def cx_467pi_0 (t : List (Int × Int)) : List (Int × Int) := ui0 :: ui406 :: (0, 0) :: ui52 :: ui767 :: ui1591 :: (0, 1) :: ui1593 :: t
def cx_467pi_1 (t : List (Int × Int)) : List (Int × Int) := ui1593 :: (0, 2) :: ui1591 :: ui1591 :: ui1591 :: ui1591 :: ui1343 :: ui52 :: t
def cx_467pi_2 (t : List (Int × Int)) : List (Int × Int) := ui304 :: (0, 7) :: (0, 6) :: (0, 1) :: ui48 :: (0, 5) :: ui52 :: ui68 :: t
def cx_467pi_3 (t : List (Int × Int)) : List (Int × Int) := ui1592 :: ui1593 :: (0, 1) :: ui31 :: t
def cx_467pr_0 (t : List (Nat × Bool)) : List (Nat × Bool) := ur1331 :: ur1345 :: ur1346 :: ur1347 :: ur1348 :: ur1381 :: ur1387 :: ur1388 :: t
def cx_467pr_1 (t : List (Nat × Bool)) : List (Nat × Bool) := ur1378 :: ur1379 :: ur1389 :: ur1390 :: ur1391 :: ur1392 :: ur1393 :: t
def cx_467pf_0 (t : List zFa) : List zFa := uF1422 :: uF1423 :: uF1425 :: uF1649 :: uF1349 :: (1, (true, 0, 0, [(1, 1)]), 0, 0, 0, [(14, 1)]) :: uF1600 :: uF1350 :: t
def cx_467pf_1 (t : List zFa) : List zFa := uF1351 :: uF448 :: (0, (false, 12, 0, []), 0, 0, 0, [(17, 1)]) :: (0, (false, 20, 0, []), 0, 0, 0, [(18, 1)]) :: (0, (false, 19, 0, []), 0, 0, 0, [(19, 1)]) :: uF1473 :: uF1675 :: (0, (false, 15, 0, []), 0, 0, 0, [(21, 1)]) :: t
def cx_467pf_2 (t : List zFa) : List zFa := (0, (false, 16, 0, []), 0, 0, 0, [(22, 1)]) :: (0, (false, 40, 0, []), 2, 6, 0, []) :: (0, (false, 41, 0, []), 2, 7, 0, []) :: (0, (false, 31, 0, []), 2, 8, 0, []) :: (0, (false, 32, 0, []), 2, 9, 0, []) :: (0, (false, 34, 0, []), 2, 10, 0, []) :: (0, (false, 35, 0, []), 2, 11, 0, []) :: (0, (false, 36, 0, []), 2, 12, 0, []) :: t
def cx_467pf_3 (t : List zFa) : List zFa := (0, (false, 37, 0, []), 2, 13, 0, []) :: (0, (false, 38, 0, []), 2, 14, 0, []) :: t
def cx_467pg_0 (t : List zTg) : List zTg := uG1660 :: uG1661 :: (70, [uL208]) :: uG1676 :: (40, [uL209, uL9, uL212, uL63, uL213, uL277, uL408, uL1176, uL1677, uL1678]) :: uG1681 :: uG1684 :: t
def cx_467p : zS := ((cx_467pi_0 (cx_467pi_1 (cx_467pi_2 (cx_467pi_3 [])))), (cx_467pr_0 (cx_467pr_1 [])), [uL1465, uL1659, ((-200), [(16, 1)])], [], [uV2], (cx_467pf_0 (cx_467pf_1 (cx_467pf_2 (cx_467pf_3 [])))), (cx_467pg_0 []))
def cx_467q0i_0 (t : List (Int × Int)) : List (Int × Int) := ui0 :: ui1476 :: (0, 0) :: ui52 :: ui767 :: ui1591 :: (0, 1) :: ui1593 :: t
def cx_467q0i_1 (t : List (Int × Int)) : List (Int × Int) := ui1593 :: (0, 2) :: ui1591 :: ui1591 :: ui1591 :: ui1591 :: ui1450 :: ui52 :: t
def cx_467q0i_2 (t : List (Int × Int)) : List (Int × Int) := ui304 :: (0, 7) :: (0, 6) :: (0, 1) :: ui48 :: (0, 5) :: ui52 :: ui68 :: t
def cx_467q0i_3 (t : List (Int × Int)) : List (Int × Int) := ui1592 :: ui1593 :: (0, 1) :: ui31 :: t
def cx_467q0g_0 (t : List zTg) : List zTg := uG1685 :: uG1686 :: (0, [uL214, uL1687, uL169]) :: uG1660 :: uG1661 :: uG1684 :: uG1686 :: uG1685 :: t
def cx_467q0g_1 (t : List zTg) : List zTg := (216, [uL209, uL109, uL78, uL169, uL1679, uL1680, uL63]) :: t
def cx_467q0 : zS := ((cx_467q0i_0 (cx_467q0i_1 (cx_467q0i_2 (cx_467q0i_3 [])))), (cx_467pr_0 (cx_467pr_1 [])), [uL65], [], [], [uF1438, uF1423, uF1425, (0, (false, 39, 0, []), 0, 0, 1, [(4, 1)]), uF1675], (cx_467q0g_0 (cx_467q0g_1 [])))
def cx_467q1i_0 (t : List (Int × Int)) : List (Int × Int) := ui0 :: ui406 :: (0, 0) :: ui52 :: ui767 :: ui1591 :: (0, 1) :: ui1593 :: t
def cx_467q1i_1 (t : List (Int × Int)) : List (Int × Int) := ui1593 :: (0, 2) :: ui1591 :: ui1591 :: ui1591 :: ui1591 :: ui1343 :: ui52 :: t
def cx_467q1i_2 (t : List (Int × Int)) : List (Int × Int) := ui304 :: (0, 7) :: (0, 6) :: (0, 1) :: ui48 :: (0, 5) :: ui52 :: ui68 :: t
def cx_467q1i_3 (t : List (Int × Int)) : List (Int × Int) := ui1592 :: ui1593 :: (0, 1) :: ui31 :: ui52 :: (1, 2) :: ui1591 :: t
def cx_467q1g_0 (t : List zTg) : List zTg := uG1660 :: uG1661 :: uG1681 :: uG1684 :: (41, [uL209, uL1688, uL1689]) :: t
def cx_467q1 : zS := ((cx_467q1i_0 (cx_467q1i_1 (cx_467q1i_2 (cx_467q1i_3 [])))), (cx_467pr_0 (cx_467pr_1 [])), [uL63], [], [], [(0, (false, 14, 0, []), 0, 0, 0, [(28, 1)]), (0, (false, 13, 0, []), 0, 0, 0, [(29, 1)]), uF1422, (0, (false, 39, 0, []), 0, 0, 0, [(30, 1)]), uF1675], (cx_467q1g_0 []))
/-- M.unit -/
def cx_467 : zCtx := (216, cx_467p, [cx_467q0, cx_467q1], [uk1440, uk1430, uk1431, uk1672, uk1673, uk1674], 60, 2, 41)
set_option maxRecDepth 1000000 in
theorem ck_467 : x_ok mLT1 [cx_423, cx_465, cx_413, cx_466, cx_416] mTS2 mTC2 mRUp cx_467 [(2, [0]), (19, [1]), (23, [2]), (78, [3]), (82, [2]), (90, [4])] [(0, [1000246]), (8, [1000340]), (19, [1000609]), (22, [1000256, 1000586]), (26, [1000341, 1000342, 1000588]), (64, [1000343]), (78, [1000609]), (81, [1000587]), (85, [1000344, 1000345, 1000588]), (88, uN1662)] [] (35, []) 25 38 = true := by decide +kernel
theorem sn_467 {W : Bool} {X : List Int32} : y_Snd (mGw W) mLT1 (J2 W X) X cx_467 := y_ok J2_J mTS2_ok1 mTC2_ok1 mRUp_ok1 (List.forall_mem_cons.mpr ⟨sn_423, List.forall_mem_cons.mpr ⟨sn_465, List.forall_mem_cons.mpr ⟨sn_413, List.forall_mem_cons.mpr ⟨sn_466, List.forall_mem_cons.mpr ⟨sn_416, fun _ h => absurd h List.not_mem_nil⟩⟩⟩⟩⟩) ck_467
/-- M.is -/
def cx_468 : zCtx := (202, ([ui0, ui1489, (0, 2), ui1343], [ur1331, ur1345], [], [], [uV2, (0, 0, 7, [])], [uF1422, uF1423, uF1349, uF1424], []), [([ui0, ui1489, (0, 0), (7, 7)], [ur1331, ur1345], [], [], [uV64], [], []), ([ui0, ui1489, (0, 0), (0, 6)], [ur1331, ur1345], [], [], [uV62], [], []), ([ui0, ui1489, (0, 0), (8, 41)], [ur1331, ur1345], [], [], [uV62], [], []), ([ui0, ui1489, (1, 2), ui1343], [ur1331, ur1345], [], [], [uV62], [], [])], [], 13, 0, 0)
set_option maxRecDepth 1000000 in
theorem ck_468 : x_ok mLT1 [] mTS2 mTC2 mRUp cx_468 [] [] [] (13, []) 0 16 = true := by decide +kernel
theorem sn_468 {W : Bool} {X : List Int32} : y_Snd (mGw W) mLT1 (J2 W X) X cx_468 := y_ok J2_J mTS2_ok1 mTC2_ok1 mRUp_ok1 (fun _ h => absurd h List.not_mem_nil) ck_468
def cx_469pi_0 (t : List (Int × Int)) : List (Int × Int) := ui0 :: (0, 0) :: ui1690 :: ui1591 :: (0, 1) :: ui1593 :: ui1593 :: (0, 2) :: t
def cx_469pi_1 (t : List (Int × Int)) : List (Int × Int) := ui1591 :: ui1591 :: ui1591 :: ui1691 :: ui52 :: ui68 :: ui1592 :: ui1593 :: t
def cx_469pi_2 (t : List (Int × Int)) : List (Int × Int) := (0, 5) :: (0, 1) :: ui31 :: t
def cx_469p : zS := ((cx_469pi_0 (cx_469pi_1 (cx_469pi_2 []))), (cx_464pr_0 (cx_464pr_1 [])), [uL473, uL1663, uL1664], [], [uV2, uV389, uV11], (cx_465pf_0 (cx_465pf_1 [])), [uG1665, uG1666, uG1667, uG1669])
def cx_469q0g_0 (t : List zTg) : List zTg := uG1692 :: uG1665 :: uG1666 :: uG1667 :: uG1669 :: uG1667 :: t
def cx_469q0 : zS := ((cx_469pi_0 (cx_469pi_1 (cx_469pi_2 []))), (cx_464pr_0 (cx_464pr_1 [])), [], [], [], [uF1670, uF1671, uF1693], (cx_469q0g_0 []))
/-- M.emit -/
def cx_469 : zCtx := (217, cx_469p, [cx_469q0], [uk1672, uk1673, uk1674], 19, 0, 0)
set_option maxRecDepth 1000000 in
theorem ck_469 : x_ok mLT1 [] mTS2 mTC2 mRUp cx_469 [] [(30, [7])] [] (19, []) 0 22 = true := by decide +kernel
theorem sn_469 {W : Bool} {X : List Int32} : y_Snd (mGw W) mLT1 (J2 W X) X cx_469 := y_ok J2_J mTS2_ok1 mTC2_ok1 mRUp_ok1 (fun _ h => absurd h List.not_mem_nil) ck_469
def cx_470p : zS := ((cx_469pi_0 (cx_469pi_1 (cx_469pi_2 []))), (cx_464pr_0 (cx_464pr_1 [])), [uL473, uL1663, uL1664], [], [uV2, uV385, uV11], (cx_465pf_0 (cx_465pf_1 [])), [uG1665, uG1666, uG1667, uG1669])
def cx_470q0 : zS := ((cx_469pi_0 (cx_469pi_1 (cx_469pi_2 []))), (cx_464pr_0 (cx_464pr_1 [])), [], [], [], [uF1670, uF1671, uF1694], (cx_469q0g_0 []))
/-- M.emit -/
def cx_470 : zCtx := (217, cx_470p, [cx_470q0], [uk1672, uk1673, uk1674], 19, 0, 0)
set_option maxRecDepth 1000000 in
theorem ck_470 : x_ok mLT1 [] mTS2 mTC2 mRUp cx_470 [] [(30, [7])] [] (19, []) 0 22 = true := by decide +kernel
theorem sn_470 {W : Bool} {X : List Int32} : y_Snd (mGw W) mLT1 (J2 W X) X cx_470 := y_ok J2_J mTS2_ok1 mTC2_ok1 mRUp_ok1 (fun _ h => absurd h List.not_mem_nil) ck_470
def cx_471p : zS := ((cx_469pi_0 (cx_469pi_1 (cx_469pi_2 []))), (cx_464pr_0 (cx_464pr_1 [])), [uL473, uL1663, uL1664], [], [uV2, uV381, uV11], (cx_465pf_0 (cx_465pf_1 [])), [uG1665, uG1666, uG1667, uG1669])
def cx_471q0 : zS := ((cx_469pi_0 (cx_469pi_1 (cx_469pi_2 []))), (cx_464pr_0 (cx_464pr_1 [])), [], [], [], [uF1670, uF1671, uF1695], (cx_469q0g_0 []))
/-- M.emit -/
def cx_471 : zCtx := (217, cx_471p, [cx_471q0], [uk1672, uk1673, uk1674], 19, 0, 0)
set_option maxRecDepth 1000000 in
theorem ck_471 : x_ok mLT1 [] mTS2 mTC2 mRUp cx_471 [] [(30, [7])] [] (19, []) 0 22 = true := by decide +kernel
theorem sn_471 {W : Bool} {X : List Int32} : y_Snd (mGw W) mLT1 (J2 W X) X cx_471 := y_ok J2_J mTS2_ok1 mTC2_ok1 mRUp_ok1 (fun _ h => absurd h List.not_mem_nil) ck_471
def cx_472p : zS := ((cx_469pi_0 (cx_469pi_1 (cx_469pi_2 []))), (cx_464pr_0 (cx_464pr_1 [])), [uL473, uL1663, uL1664], [], [uV2, uV3, uV11], (cx_465pf_0 (cx_465pf_1 [])), [uG1665, uG1666, uG1667, uG1669])
def cx_472q0 : zS := ((cx_469pi_0 (cx_469pi_1 (cx_469pi_2 []))), (cx_464pr_0 (cx_464pr_1 [])), [], [], [], [uF1670, uF1671, uF1696], (cx_469q0g_0 []))
/-- M.emit -/
def cx_472 : zCtx := (217, cx_472p, [cx_472q0], [uk1672, uk1673, uk1674], 19, 0, 0)
set_option maxRecDepth 1000000 in
theorem ck_472 : x_ok mLT1 [] mTS2 mTC2 mRUp cx_472 [] [(30, [7])] [] (19, []) 0 22 = true := by decide +kernel
theorem sn_472 {W : Bool} {X : List Int32} : y_Snd (mGw W) mLT1 (J2 W X) X cx_472 := y_ok J2_J mTS2_ok1 mTC2_ok1 mRUp_ok1 (fun _ h => absurd h List.not_mem_nil) ck_472
def cx_473pi_0 (t : List (Int × Int)) : List (Int × Int) := ui0 :: ui1697 :: ui1698 :: ui1591 :: (0, 1) :: ui1593 :: ui1593 :: (0, 2) :: t
def cx_473pi_1 (t : List (Int × Int)) : List (Int × Int) := ui1591 :: ui1591 :: (1, 8) :: (0, 3) :: ui1591 :: ui52 :: ui68 :: ui1593 :: t
def cx_473pi_2 (t : List (Int × Int)) : List (Int × Int) := (0, 1) :: ui31 :: t
def cx_473pf_0 (t : List zFa) : List zFa := uF1699 :: uF1700 :: uF1635 :: uF1636 :: uF1637 :: uF1638 :: uF1639 :: uF1640 :: t
def cx_473pf_1 (t : List zFa) : List zFa := uF1641 :: uF1642 :: uF1643 :: uF1644 :: t
def cx_473pg_0 (t : List zTg) : List zTg := uG1665 :: uG1701 :: uG1702 :: (216, [uL207, uL208, uL98, uL9, uL67, uL209, uL63]) :: uG1703 :: t
def cx_473p : zS := ((cx_473pi_0 (cx_473pi_1 (cx_473pi_2 []))), (cx_460pr_0 (cx_460pr_1 [])), [uL571, uL1704, uL1705, uL1706], [], [uV2, uV62], (cx_473pf_0 (cx_473pf_1 [])), (cx_473pg_0 []))
def cx_473q0i_0 (t : List (Int × Int)) : List (Int × Int) := ui0 :: ui1697 :: ui1698 :: ui1591 :: (0, 1) :: ui1593 :: ui1593 :: (0, 2) :: t
def cx_473q0i_1 (t : List (Int × Int)) : List (Int × Int) := ui1591 :: ui1591 :: (1, 8) :: (0, 0) :: ui1591 :: ui52 :: ui68 :: ui1593 :: t
def cx_473q0i_2 (t : List (Int × Int)) : List (Int × Int) := (0, 1) :: ui31 :: t
def cx_473q0g_0 (t : List zTg) : List zTg := uG1665 :: uG1703 :: uG1707 :: uG1702 :: (216, [uL207, uL208, uL98, uL9, uL67, uL209, uL36]) :: t
def cx_473q0 : zS := ((cx_473q0i_0 (cx_473q0i_1 (cx_473q0i_2 []))), (cx_460pr_0 (cx_460pr_1 [])), [uL1705, uL63, uL571], [], [], [uF1700, uF1699], (cx_473q0g_0 []))
def cx_473q1i_0 (t : List (Int × Int)) : List (Int × Int) := ui0 :: ui1697 :: ui1708 :: ui1591 :: (0, 1) :: ui1593 :: ui1593 :: (0, 2) :: t
def cx_473q1i_1 (t : List (Int × Int)) : List (Int × Int) := ui1591 :: ui1591 :: (1, 8) :: (1, 3) :: ui1591 :: ui52 :: ui68 :: ui1593 :: t
def cx_473q1i_2 (t : List (Int × Int)) : List (Int × Int) := (0, 1) :: ui31 :: ui1709 :: t
def cx_473q1g_0 (t : List zTg) : List zTg := uG1665 :: uG1703 :: (1, [uL277, uL170, uL63]) :: uG1711 :: (216, [uL207, uL208, uL98, uL1710, uL277, uL209, uL36]) :: t
def cx_473q1 : zS := ((cx_473q1i_0 (cx_473q1i_1 (cx_473q1i_2 []))), (cx_460pr_0 (cx_460pr_1 [])), [uL1712, uL1713, uL1714], [], [], [uF1715, uF1716], (cx_473q1g_0 []))
/-- M.comesOut -/
def cx_473 : zCtx := (218, cx_473p, [cx_473q0, cx_473q1], [uk1672, uk1648, uk1673, uk1674], 107, 1, 22)
def cz_473_0i_0 (t : List (Int × Int)) : List (Int × Int) := ui0 :: ui1697 :: ui1708 :: ui1591 :: (0, 1) :: ui1593 :: ui1593 :: (0, 2) :: t
def cz_473_0i_1 (t : List (Int × Int)) : List (Int × Int) := ui1591 :: ui1591 :: (1, 8) :: (1, 3) :: ui1591 :: ui52 :: ui68 :: ui1593 :: t
def cz_473_0i_2 (t : List (Int × Int)) : List (Int × Int) := (0, 1) :: ui31 :: ui1717 :: ui1709 :: (0, 3) :: t
def cz_473_0f_0 (t : List zFa) : List zFa := (0, (false, 43, 0, []), 0, 0, 0, [(19, 1)]) :: uF1635 :: uF1636 :: uF1637 :: uF1638 :: uF1639 :: uF1640 :: uF1641 :: t
def cz_473_0f_1 (t : List zFa) : List zFa := uF1642 :: uF1643 :: uF1644 :: (0, (false, 39, 0, []), 0, 0, 0, [(1, 1), (2, 1), (19, (-1))]) :: t
def cz_473_0g_0 (t : List zTg) : List zTg := uG1665 :: uG1703 :: uG1718 :: uG1720 :: (216, [uL207, uL208, uL98, uL1719, uL353, uL209, uL114]) :: t
def cz_473_0 : zS := ((cz_473_0i_0 (cz_473_0i_1 (cz_473_0i_2 []))), (cx_460pr_0 (cx_460pr_1 [])), [uL1721, uL1722, uL1723, uL571, uL1704, uL1705, uL1706, uL1724], [uV2, uV62, uV1178], [], (cz_473_0f_0 (cz_473_0f_1 [])), (cz_473_0g_0 []))
set_option maxRecDepth 1000000 in
theorem ck_473 : x_ok mLT1 [cx_469, cx_470, cx_471, cx_472] mTS2 mTC2 mRUp cx_473 [(85, [0, 1, 2, 3])] [(0, uN1725), (4, [3]), (17, [2]), (41, uN1726), (88, uN1727)] [(0, cz_473_0, (15, [(20, 35)]))] (88, []) 19 40 = true := by decide +kernel
theorem sn_473 {W : Bool} {X : List Int32} : y_Snd (mGw W) mLT1 (J2 W X) X cx_473 := y_ok J2_J mTS2_ok1 mTC2_ok1 mRUp_ok1 (List.forall_mem_cons.mpr ⟨sn_469, List.forall_mem_cons.mpr ⟨sn_470, List.forall_mem_cons.mpr ⟨sn_471, List.forall_mem_cons.mpr ⟨sn_472, fun _ h => absurd h List.not_mem_nil⟩⟩⟩⟩) ck_473
/-- M.is -/
def cx_474 : zCtx := (202, ([ui0, ui1489, (0, 2), ui1343], [ur1331, ur1345], [], [], [uV2, (0, 0, 8, [])], [uF1422, uF1423, uF1349, uF1424], []), [([ui0, ui1489, (0, 0), (8, 8)], [ur1331, ur1345], [], [], [uV64], [], []), ([ui0, ui1489, (0, 0), (0, 7)], [ur1331, ur1345], [], [], [uV62], [], []), ([ui0, ui1489, (0, 0), (9, 41)], [ur1331, ur1345], [], [], [uV62], [], []), ([ui0, ui1489, (1, 2), ui1343], [ur1331, ur1345], [], [], [uV62], [], [])], [], 13, 0, 0)
set_option maxRecDepth 1000000 in
theorem ck_474 : x_ok mLT1 [] mTS2 mTC2 mRUp cx_474 [] [] [] (13, []) 0 16 = true := by decide +kernel
theorem sn_474 {W : Bool} {X : List Int32} : y_Snd (mGw W) mLT1 (J2 W X) X cx_474 := y_ok J2_J mTS2_ok1 mTC2_ok1 mRUp_ok1 (fun _ h => absurd h List.not_mem_nil) ck_474
/-- M.is -/
def cx_475 : zCtx := (202, ([ui0, ui1489, (0, 2), ui1343], [ur1331, ur1345], [], [], [uV2, uV120], [uF1422, uF1423, uF1349, uF1424], []), [([ui0, ui1489, (0, 0), (9, 9)], [ur1331, ur1345], [], [], [uV64], [], []), ([ui0, ui1489, (0, 0), (0, 8)], [ur1331, ur1345], [], [], [uV62], [], []), ([ui0, ui1489, (0, 0), (10, 41)], [ur1331, ur1345], [], [], [uV62], [], []), ([ui0, ui1489, (1, 2), ui1343], [ur1331, ur1345], [], [], [uV62], [], [])], [], 13, 0, 0)
set_option maxRecDepth 1000000 in
theorem ck_475 : x_ok mLT1 [] mTS2 mTC2 mRUp cx_475 [] [] [] (13, []) 0 16 = true := by decide +kernel
theorem sn_475 {W : Bool} {X : List Int32} : y_Snd (mGw W) mLT1 (J2 W X) X cx_475 := y_ok J2_J mTS2_ok1 mTC2_ok1 mRUp_ok1 (fun _ h => absurd h List.not_mem_nil) ck_475
/-- M.is -/
def cx_476 : zCtx := (202, ([ui0, ui1489, (0, 2), ui1343], [ur1331, ur1345], [], [], [uV2, (0, 0, 10, [])], [uF1422, uF1423, uF1349, uF1424], []), [([ui0, ui1489, (0, 0), ui1728], [ur1331, ur1345], [], [], [uV64], [], []), ([ui0, ui1489, (0, 0), (0, 9)], [ur1331, ur1345], [], [], [uV62], [], []), ([ui0, ui1489, (0, 0), (11, 41)], [ur1331, ur1345], [], [], [uV62], [], []), ([ui0, ui1489, (1, 2), ui1343], [ur1331, ur1345], [], [], [uV62], [], [])], [], 13, 0, 0)
set_option maxRecDepth 1000000 in
theorem ck_476 : x_ok mLT1 [] mTS2 mTC2 mRUp cx_476 [] [] [] (13, []) 0 16 = true := by decide +kernel
theorem sn_476 {W : Bool} {X : List Int32} : y_Snd (mGw W) mLT1 (J2 W X) X cx_476 := y_ok J2_J mTS2_ok1 mTC2_ok1 mRUp_ok1 (fun _ h => absurd h List.not_mem_nil) ck_476
/-- M.is -/
def cx_477 : zCtx := (202, ([ui0, ui1489, (0, 2), ui1343], [ur1331, ur1345], [], [], [uV2, (0, 0, 15, [])], [uF1422, uF1423, uF1349, uF1424], []), [([ui0, ui1489, (0, 0), ui1729], [ur1331, ur1345], [], [], [uV64], [], []), ([ui0, ui1489, (0, 0), (0, 14)], [ur1331, ur1345], [], [], [uV62], [], []), ([ui0, ui1489, (0, 0), (16, 41)], [ur1331, ur1345], [], [], [uV62], [], []), ([ui0, ui1489, (1, 2), ui1343], [ur1331, ur1345], [], [], [uV62], [], [])], [], 13, 0, 0)
set_option maxRecDepth 1000000 in
theorem ck_477 : x_ok mLT1 [] mTS2 mTC2 mRUp cx_477 [] [] [] (13, []) 0 16 = true := by decide +kernel
theorem sn_477 {W : Bool} {X : List Int32} : y_Snd (mGw W) mLT1 (J2 W X) X cx_477 := y_ok J2_J mTS2_ok1 mTC2_ok1 mRUp_ok1 (fun _ h => absurd h List.not_mem_nil) ck_477
def cx_478pi_0 (t : List (Int × Int)) : List (Int × Int) := ui0 :: (0, 0) :: ui1690 :: ui1591 :: (0, 1) :: ui1593 :: ui1593 :: (0, 2) :: t
def cx_478pi_1 (t : List (Int × Int)) : List (Int × Int) := ui1591 :: ui1591 :: ui1591 :: ui1691 :: (0, 1) :: ui31 :: t
def cx_478p : zS := ((cx_478pi_0 (cx_478pi_1 [])), (cx_464pr_0 (cx_464pr_1 [])), [uL473, uL1663, uL1664], [], [uV2, uV389, uV11], (cx_465pf_0 (cx_465pf_1 [])), [uG1665, uG1666, uG1730])
def cx_478q0 : zS := ((cx_478pi_0 (cx_478pi_1 [])), (cx_464pr_0 (cx_464pr_1 [])), [], [], [], [uF1670, uF1671, uF1693], [uG1692, uG1665, uG1666, uG1730])
/-- M.emit -/
def cx_478 : zCtx := (217, cx_478p, [cx_478q0], [uk1672, uk1673, uk1674], 19, 0, 0)
set_option maxRecDepth 1000000 in
theorem ck_478 : x_ok mLT1 [] mTS2 mTC2 mRUp cx_478 [] [(30, [7])] [] (19, []) 0 22 = true := by decide +kernel
theorem sn_478 {W : Bool} {X : List Int32} : y_Snd (mGw W) mLT1 (J2 W X) X cx_478 := y_ok J2_J mTS2_ok1 mTC2_ok1 mRUp_ok1 (fun _ h => absurd h List.not_mem_nil) ck_478
def cx_479p : zS := ((cx_478pi_0 (cx_478pi_1 [])), (cx_464pr_0 (cx_464pr_1 [])), [uL473, uL1663, uL1664], [], [uV2, uV385, uV11], (cx_465pf_0 (cx_465pf_1 [])), [uG1665, uG1666, uG1730])
def cx_479q0 : zS := ((cx_478pi_0 (cx_478pi_1 [])), (cx_464pr_0 (cx_464pr_1 [])), [], [], [], [uF1670, uF1671, uF1694], [uG1692, uG1665, uG1666, uG1730])
/-- M.emit -/
def cx_479 : zCtx := (217, cx_479p, [cx_479q0], [uk1672, uk1673, uk1674], 19, 0, 0)
set_option maxRecDepth 1000000 in
theorem ck_479 : x_ok mLT1 [] mTS2 mTC2 mRUp cx_479 [] [(30, [7])] [] (19, []) 0 22 = true := by decide +kernel
theorem sn_479 {W : Bool} {X : List Int32} : y_Snd (mGw W) mLT1 (J2 W X) X cx_479 := y_ok J2_J mTS2_ok1 mTC2_ok1 mRUp_ok1 (fun _ h => absurd h List.not_mem_nil) ck_479
def cx_480p : zS := ((cx_478pi_0 (cx_478pi_1 [])), (cx_464pr_0 (cx_464pr_1 [])), [uL473, uL1663, uL1664], [], [uV2, uV381, uV11], (cx_465pf_0 (cx_465pf_1 [])), [uG1665, uG1666, uG1730])
def cx_480q0 : zS := ((cx_478pi_0 (cx_478pi_1 [])), (cx_464pr_0 (cx_464pr_1 [])), [], [], [], [uF1670, uF1671, uF1695], [uG1692, uG1665, uG1666, uG1730])
/-- M.emit -/
def cx_480 : zCtx := (217, cx_480p, [cx_480q0], [uk1672, uk1673, uk1674], 19, 0, 0)
set_option maxRecDepth 1000000 in
theorem ck_480 : x_ok mLT1 [] mTS2 mTC2 mRUp cx_480 [] [(30, [7])] [] (19, []) 0 22 = true := by decide +kernel
theorem sn_480 {W : Bool} {X : List Int32} : y_Snd (mGw W) mLT1 (J2 W X) X cx_480 := y_ok J2_J mTS2_ok1 mTC2_ok1 mRUp_ok1 (fun _ h => absurd h List.not_mem_nil) ck_480
def cx_481p : zS := ((cx_478pi_0 (cx_478pi_1 [])), (cx_464pr_0 (cx_464pr_1 [])), [uL473, uL1663, uL1664], [], [uV2, uV3, uV11], (cx_465pf_0 (cx_465pf_1 [])), [uG1665, uG1666, uG1730])
def cx_481q0 : zS := ((cx_478pi_0 (cx_478pi_1 [])), (cx_464pr_0 (cx_464pr_1 [])), [], [], [], [uF1670, uF1671, uF1696], [uG1692, uG1665, uG1666, uG1730])
/-- M.emit -/
def cx_481 : zCtx := (217, cx_481p, [cx_481q0], [uk1672, uk1673, uk1674], 19, 0, 0)
set_option maxRecDepth 1000000 in
theorem ck_481 : x_ok mLT1 [] mTS2 mTC2 mRUp cx_481 [] [(30, [7])] [] (19, []) 0 22 = true := by decide +kernel
theorem sn_481 {W : Bool} {X : List Int32} : y_Snd (mGw W) mLT1 (J2 W X) X cx_481 := y_ok J2_J mTS2_ok1 mTC2_ok1 mRUp_ok1 (fun _ h => absurd h List.not_mem_nil) ck_481
def cx_482pi_0 (t : List (Int × Int)) : List (Int × Int) := ui0 :: ui1731 :: ui96 :: ui1591 :: (0, 1) :: ui1593 :: ui1593 :: (0, 2) :: t
def cx_482pi_1 (t : List (Int × Int)) : List (Int × Int) := ui1591 :: ui1591 :: (0, 8) :: (0, 3) :: ui1591 :: (0, 1) :: ui31 :: t
def cx_482p : zS := ((cx_482pi_0 (cx_482pi_1 [])), (cx_460pr_0 (cx_460pr_1 [])), [uL571, uL1704, uL1705, uL1706], [], [uV2, uV62], (cx_473pf_0 (cx_473pf_1 [])), [uG1665, uG1701, uG1702, uG1732])
def cx_482q0i_0 (t : List (Int × Int)) : List (Int × Int) := ui0 :: ui1731 :: ui1709 :: ui1591 :: (0, 1) :: ui1593 :: ui1593 :: (0, 2) :: t
def cx_482q0i_1 (t : List (Int × Int)) : List (Int × Int) := ui1591 :: ui1591 :: (1, 8) :: (0, 0) :: ui1591 :: (0, 1) :: ui31 :: t
def cx_482q0 : zS := ((cx_482q0i_0 (cx_482q0i_1 [])), (cx_460pr_0 (cx_460pr_1 [])), [uL1705, uL63, uL571], [], [], [uF1700, uF1699], [uG1665, uG1732, uG1707, uG1702])
def cx_482q1i_0 (t : List (Int × Int)) : List (Int × Int) := ui0 :: ui1731 :: (0, 0) :: ui1591 :: (0, 1) :: ui1593 :: ui1593 :: (0, 2) :: t
def cx_482q1i_1 (t : List (Int × Int)) : List (Int × Int) := ui1591 :: ui1591 :: (0, 8) :: (0, 3) :: ui1591 :: (0, 1) :: ui31 :: t
def cx_482q1 : zS := ((cx_482q1i_0 (cx_482q1i_1 [])), (cx_460pr_0 (cx_460pr_1 [])), [uL1705, uL63, uL571], [], [], [uF1700, uF1699], [uG1665, uG1732, uG1707, uG1702])
def cx_482q2i_0 (t : List (Int × Int)) : List (Int × Int) := ui0 :: ui1731 :: ui1709 :: ui1591 :: (0, 1) :: ui1593 :: ui1593 :: (0, 2) :: t
def cx_482q2i_1 (t : List (Int × Int)) : List (Int × Int) := ui1591 :: ui1591 :: (1, 8) :: (1, 3) :: ui1591 :: (0, 1) :: ui31 :: ui1251 :: t
def cx_482q2 : zS := ((cx_482q2i_0 (cx_482q2i_1 [])), (cx_460pr_0 (cx_460pr_1 [])), [uL1733, uL1734, uL1735], [], [], [uF1736, uF1737], [uG1665, uG1732, uG1738, uG1739])
def cx_482q3i_0 (t : List (Int × Int)) : List (Int × Int) := ui0 :: ui1731 :: ui1709 :: ui1591 :: (0, 1) :: ui1593 :: ui1593 :: (0, 2) :: t
def cx_482q3i_1 (t : List (Int × Int)) : List (Int × Int) := ui1591 :: ui1591 :: (0, 8) :: (1, 3) :: ui1591 :: (0, 1) :: ui31 :: (0, 0) :: t
def cx_482q3 : zS := ((cx_482q3i_0 (cx_482q3i_1 [])), (cx_460pr_0 (cx_460pr_1 [])), [uL1733, uL1734, uL1735], [], [], [uF1736, uF1737], [uG1665, uG1732, uG1738, uG1739])
/-- M.comesOut -/
def cx_482 : zCtx := (218, cx_482p, [cx_482q0, cx_482q1, cx_482q2, cx_482q3], [uk1672, uk1648, uk1673, uk1674], 107, 1, 22)
def cz_482_0i_0 (t : List (Int × Int)) : List (Int × Int) := ui0 :: ui1731 :: ui1709 :: ui1591 :: (0, 1) :: ui1593 :: ui1593 :: (0, 2) :: t
def cz_482_0i_1 (t : List (Int × Int)) : List (Int × Int) := ui1591 :: ui1591 :: (0, 8) :: (1, 3) :: ui1591 :: (0, 1) :: ui31 :: ui1717 :: t
def cz_482_0i_2 (t : List (Int × Int)) : List (Int × Int) := ui48 :: (0, 3) :: t
def cz_482_0f_0 (t : List zFa) : List zFa := uF1740 :: uF1635 :: uF1636 :: uF1637 :: uF1638 :: uF1639 :: uF1640 :: uF1641 :: t
def cz_482_0f_1 (t : List zFa) : List zFa := uF1642 :: uF1643 :: uF1644 :: (0, (false, 39, 0, []), 0, 0, 0, [(1, 1), (2, 1), (16, (-1))]) :: t
def cz_482_0 : zS := ((cz_482_0i_0 (cz_482_0i_1 (cz_482_0i_2 []))), (cx_460pr_0 (cx_460pr_1 [])), [uL1741, uL1742, uL1743, uL571, uL1704, uL1705, uL1706, uL1744], [uV2, uV62, uV585], [], (cz_482_0f_0 (cz_482_0f_1 [])), [uG1665, uG1732, uG1745, uG1746])
set_option maxRecDepth 1000000 in
theorem ck_482 : x_ok mLT1 [cx_478, cx_479, cx_480, cx_481] mTS2 mTC2 mRUp cx_482 [(85, [0, 1, 2, 3])] [(0, uN1725), (4, [3]), (17, [2]), (41, uN1726), (88, uN1727), (91, uN1747)] [(0, cz_482_0, (15, [(17, 35)]))] (88, []) 19 40 = true := by decide +kernel
theorem sn_482 {W : Bool} {X : List Int32} : y_Snd (mGw W) mLT1 (J2 W X) X cx_482 := y_ok J2_J mTS2_ok1 mTC2_ok1 mRUp_ok1 (List.forall_mem_cons.mpr ⟨sn_478, List.forall_mem_cons.mpr ⟨sn_479, List.forall_mem_cons.mpr ⟨sn_480, List.forall_mem_cons.mpr ⟨sn_481, fun _ h => absurd h List.not_mem_nil⟩⟩⟩⟩) ck_482
end
