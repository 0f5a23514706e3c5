noncomputable section
/-! ===== readings, by program, checked by the kernel ===== -/
def cx_436pi_0 (t : List (Int × Int)) : List (Int × Int) := ui0 :: ui350 :: (0, 0) :: ui54 :: (0, 5) :: ui54 :: ui54 :: (0, 6) :: t
def cx_436pi_1 (t : List (Int × Int)) : List (Int × Int) := (0, 1) :: ui50 :: ui70 :: t
def cx_436p : zS := ((cx_436pi_0 (cx_436pi_1 [])), [ur1299, ur1313, ur1314, ur1315, ur1316, ur1348], [], [], [uV2, uV66, uV228], (cx_419pf_0 (cx_419pf_1 [])), [uG1444, (40, [uL80, uL9, uL268, uL65, uL65, uL81, uL166, uL100, uL106, uL173])])
def cx_436q1i_0 (t : List (Int × Int)) : List (Int × Int) := ui0 :: ui1423 :: (0, 0) :: ui54 :: (0, 5) :: ui54 :: ui54 :: (0, 6) :: t
def cx_436q1i_1 (t : List (Int × Int)) : List (Int × Int) := (0, 1) :: ui50 :: ui70 :: ui199 :: (0, 5) :: ui54 :: t
def cx_436q1 : zS := ((cx_436q1i_0 (cx_436q1i_1 [])), [ur1299, ur1313, ur1314, ur1315, ur1316, ur1348], [uL67, uL65, uL65], [], [uV841], [uF1406, uF1390, uF1392, uF1446, uF1447, uF1443], [uG1448, uG1448, (40, [uL80, uL111, uL269, uL65, uL65, uL81, uL166, uL217, uL210, uL173]), uG1449])
/-- M.bounded -/
def cx_436 : zCtx := (210, cx_436p, [([ui0, ui350, (0, 0), ui54, (0, 5), ui54, ui54, (0, 6), (0, 1), ui50, ui70, ui54], [ur1299, ur1313, ur1314, ur1315, ur1316, ur1348], [uL65], [], [uV66], [uF1450, uF1420, uF1389, uF1436, uF1428, uF1443], [uG1451]), cx_436q1, ([ui0, ui148, (0, 0), ui54, (0, 5), ui54, ui54, (0, 6), (0, 1), ui50, ui70, ui199, ui54, (0, 5), ui54], [ur1299, ur1313, ur1314, ur1315, ur1316, ur1348], [uL65], [], [uV841], [uF1452, uF1396, uF1389, uF1453, uF1454, uF1443], [uG1455])], [uk1408, uk1397, uk1398, uk1430, uk1431], 53, 2, 41)
set_option maxRecDepth 1000000 in
theorem ck_436 : x_ok mLT1 [cx_416, cx_409, cx_417, cx_418, cx_406] mTS2 mTC2 mRUp cx_436 [(9, [0]), (17, [1]), (48, [2, 3]), (52, [4])] [(8, uN1456), (12, [740]), (15, uN1439), (20, [740]), (31, uN1457), (42, uN1458), (51, [740]), (55, [740, 1000260, 1000261, 1000262, 1000263, 1000264, 1000265, 1000266, 1000267, 1000268, 1000269, 1000270, 1000271, 1000272, 1000273, 1000274, 1000275, 1000276, 1000277, 1000278, 1000279, 1000280, 1000281, 1000282, 1000283, 1000284, 1000285, 1000286, 1000287, 1000288])] [] (28, []) 25 31 = true := by decide +kernel
theorem sn_436 {W : Bool} {X : List Int32} : y_Snd (mGw W) mLT1 (J2 W X) X cx_436 := y_ok J2_J mTS2_ok1 mTC2_ok1 mRUp_ok1 (List.forall_mem_cons.mpr ⟨sn_416, List.forall_mem_cons.mpr ⟨sn_409, List.forall_mem_cons.mpr ⟨sn_417, List.forall_mem_cons.mpr ⟨sn_418, List.forall_mem_cons.mpr ⟨sn_406, fun _ h => absurd h List.not_mem_nil⟩⟩⟩⟩⟩) ck_436
def cx_437pi_0 (t : List (Int × Int)) : List (Int × Int) := ui0 :: ui70 :: (0, 0) :: ui54 :: (0, 5) :: ui54 :: ui54 :: (0, 6) :: t
def cx_437pi_1 (t : List (Int × Int)) : List (Int × Int) := (0, 1) :: ui50 :: ui70 :: ui1311 :: ui54 :: t
def cx_437pf_0 (t : List zFa) : List zFa := uF1389 :: uF1390 :: uF1392 :: uF1436 :: uF1428 :: uF1437 :: uF1239 :: uF1317 :: t
def cx_437pf_1 (t : List zFa) : List zFa := uF1318 :: uF450 :: uF1440 :: uF1441 :: uF1442 :: uF1443 :: uF1499 :: (1, (true, 0, 0, [(1, 1)]), 0, 0, 0, [(11, 1)]) :: t
def cx_437pf_2 (t : List zFa) : List zFa := uF1471 :: t
def cx_437p : zS := ((cx_437pi_0 (cx_437pi_1 [])), [ur1299, ur1313, ur1314, ur1315, ur1316, ur1348, ur1461], [((-22), [(11, 1)]), (22, [(11, (-1))])], [], [uV2, uV66, uV228], (cx_437pf_0 (cx_437pf_1 (cx_437pf_2 []))), [uG1444, uG1531, uG1532])
def cx_437q0i_0 (t : List (Int × Int)) : List (Int × Int) := ui0 :: ui149 :: (0, 0) :: ui54 :: (0, 5) :: ui54 :: ui54 :: (0, 6) :: t
def cx_437q0i_1 (t : List (Int × Int)) : List (Int × Int) := (0, 1) :: ui50 :: ui70 :: ui1344 :: ui54 :: ui199 :: ui54 :: (1, 2) :: t
def cx_437q0i_2 (t : List (Int × Int)) : List (Int × Int) := ui408 :: (0, 5) :: ui54 :: t
def cx_437q0 : zS := ((cx_437q0i_0 (cx_437q0i_1 (cx_437q0i_2 []))), [ur1299, ur1313, ur1314, ur1315, ur1316, ur1348, ur1461], [uL1533], [], [uV411], [uF1534, uF1535, uF1536, uF1483, uF1484, uF1443, uF1443], [uG1537, uG1448, uG1538, uG1539, uG1540])
def cx_437q1i_0 (t : List (Int × Int)) : List (Int × Int) := ui0 :: ui1541 :: (0, 0) :: ui54 :: (0, 5) :: ui54 :: ui54 :: (0, 6) :: t
def cx_437q1i_1 (t : List (Int × Int)) : List (Int × Int) := (0, 1) :: ui50 :: ui70 :: ui1344 :: ui54 :: ui199 :: (0, 5) :: ui54 :: t
def cx_437q1g_0 (t : List zTg) : List zTg := uG1542 :: uG1543 :: uG1544 :: uG1537 :: uG1448 :: uG1538 :: uG1539 :: uG1543 :: t
def cx_437q1g_1 (t : List zTg) : List zTg := uG1545 :: uG1542 :: (86, [uL80, uL1489, uL268, uL210]) :: t
def cx_437q1 : zS := ((cx_437q1i_0 (cx_437q1i_1 [])), [ur1299, ur1313, ur1314, ur1315, ur1316, ur1348, ur1461], [uL214, uL116], [], [uV411], [uF1546, uF1390, uF1392, uF1547, uF1548, uF1443, uF1443], (cx_437q1g_0 (cx_437q1g_1 [])))
def cx_437q2i_0 (t : List (Int × Int)) : List (Int × Int) := ui0 :: ui70 :: (0, 0) :: ui54 :: (0, 5) :: ui54 :: ui54 :: (0, 6) :: t
def cx_437q2i_1 (t : List (Int × Int)) : List (Int × Int) := (0, 1) :: ui50 :: ui70 :: ui1344 :: ui54 :: ui54 :: (1, 2) :: ui350 :: t
def cx_437q2 : zS := ((cx_437q2i_0 (cx_437q2i_1 [])), [ur1299, ur1313, ur1314, ur1315, ur1316, ur1348, ur1461], [uL1549], [], [uV66], [uF1550, uF1551, uF1552, uF1436, uF1428, uF1443, uF1443], [uG1538, uG1539, uG1553])
/-- M.toldInt -/
def cx_437 : zCtx := (213, cx_437p, [cx_437q0, cx_437q1, cx_437q2], [uk1408, uk1397, uk1398, uk1430, uk1431], 65, 3, 64)
set_option maxRecDepth 1000000 in
theorem ck_437 : x_ok mLT1 [cx_406, cx_420, cx_436, cx_423, cx_424] mTS2 mTC2 mRUp cx_437 [(1, [0]), (7, [1, 2]), (13, [3, 4])] [(0, uN1554), (4, [740, 1000326, 1000327, 1000328, 1000329, 1000330, 1000331, 1000332, 1000333]), (10, [740]), (11, uN1555), (16, [740, 1000314, 1000335, 1000302, 1000487, 1000488, 1000489, 1000490])] [] (12, []) 53 15 = true := by decide +kernel
theorem sn_437 {W : Bool} {X : List Int32} : y_Snd (mGw W) mLT1 (J2 W X) X cx_437 := y_ok J2_J mTS2_ok1 mTC2_ok1 mRUp_ok1 (List.forall_mem_cons.mpr ⟨sn_406, List.forall_mem_cons.mpr ⟨sn_420, List.forall_mem_cons.mpr ⟨sn_436, List.forall_mem_cons.mpr ⟨sn_423, List.forall_mem_cons.mpr ⟨sn_424, fun _ h => absurd h List.not_mem_nil⟩⟩⟩⟩⟩) ck_437
/-- M.bounded -/
def cx_438 : zCtx := (210, ([ui0, ui148, (2, 2), ui54, (0, 5), ui54, ui54], [ur1299], [], [], [uV2, uV64, uV228], [uF1389, uF1390, uF1392, uF1436, uF1428, uF1437], [uG1438]), [([ui0, ui148, (2, 2), ui54, (0, 5), ui54, ui54], [ur1299], [], [], [uV64], [], [])], [], 12, 1, 21)
set_option maxRecDepth 1000000 in
theorem ck_438 : x_ok mLT1 [cx_414] mTS2 mTC2 mRUp cx_438 [(17, [0])] [(15, uN1439), (20, [740])] [] (8, []) 4 11 = true := by decide +kernel
theorem sn_438 {W : Bool} {X : List Int32} : y_Snd (mGw W) mLT1 (J2 W X) X cx_438 := y_ok J2_J mTS2_ok1 mTC2_ok1 mRUp_ok1 (List.forall_mem_cons.mpr ⟨sn_414, fun _ h => absurd h List.not_mem_nil⟩) ck_438
def cx_439p : zS := ((cx_436pi_0 (cx_436pi_1 [])), [ur1299, ur1313, ur1314, ur1315, ur1316, ur1348], [], [], [uV2, uV64, uV228], (cx_419pf_0 (cx_419pf_1 [])), [uG1444, (40, [uL80, uL9, uL285, uL65, uL65, uL81, uL166, uL100, uL106, uL173])])
/-- M.bounded -/
def cx_439 : zCtx := (210, cx_439p, [([ui0, ui350, (0, 0), ui54, (0, 5), ui54, ui54, (0, 6), (0, 1), ui50, ui70, ui54], [ur1299, ur1313, ur1314, ur1315, ur1316, ur1348], [uL65], [], [uV64], [uF1450, uF1420, uF1389, uF1436, uF1428, uF1443], [uG1451]), cx_436q1, ([ui0, ui148, (0, 0), ui54, (0, 5), ui54, ui54, (0, 6), (0, 1), ui50, ui70, ui199, ui54, (0, 5), ui54], [ur1299, ur1313, ur1314, ur1315, ur1316, ur1348], [uL65], [], [uV841], [uF1452, uF1396, uF1389, uF1453, uF1454, uF1443], [uG1455])], [uk1408, uk1397, uk1398, uk1430, uk1431], 53, 2, 41)
set_option maxRecDepth 1000000 in
theorem ck_439 : x_ok mLT1 [cx_416, cx_409, cx_417, cx_418, cx_406] mTS2 mTC2 mRUp cx_439 [(9, [0]), (17, [1]), (48, [2, 3]), (52, [4])] [(8, uN1456), (12, [740]), (15, uN1439), (20, [740]), (31, uN1457), (42, uN1458), (51, [740]), (55, [740, 1000260, 1000261, 1000262, 1000263, 1000264, 1000265, 1000266, 1000267, 1000268, 1000269, 1000270, 1000271, 1000272, 1000273, 1000274, 1000275, 1000276, 1000277, 1000278, 1000279, 1000280, 1000281, 1000282, 1000283, 1000284, 1000285, 1000286, 1000287, 1000288])] [] (28, []) 25 31 = true := by decide +kernel
theorem sn_439 {W : Bool} {X : List Int32} : y_Snd (mGw W) mLT1 (J2 W X) X cx_439 := y_ok J2_J mTS2_ok1 mTC2_ok1 mRUp_ok1 (List.forall_mem_cons.mpr ⟨sn_416, List.forall_mem_cons.mpr ⟨sn_409, List.forall_mem_cons.mpr ⟨sn_417, List.forall_mem_cons.mpr ⟨sn_418, List.forall_mem_cons.mpr ⟨sn_406, fun _ h => absurd h List.not_mem_nil⟩⟩⟩⟩⟩) ck_439
def cx_440p : zS := ((cx_437pi_0 (cx_437pi_1 [])), [ur1299, ur1313, ur1314, ur1315, ur1316, ur1348, ur1461], [((-23), [(11, 1)]), (23, [(11, (-1))])], [], [uV2, uV64, uV228], (cx_437pf_0 (cx_437pf_1 (cx_437pf_2 []))), [uG1444, uG1531, uG1532])
def cx_440q0 : zS := ((cx_437q0i_0 (cx_437q0i_1 (cx_437q0i_2 []))), [ur1299, ur1313, ur1314, ur1315, ur1316, ur1348, ur1461], [uL1533], [], [uV411], [uF1534, uF1535, uF1536, uF1483, uF1484, uF1443, uF1443], [uG1556, uG1448, uG1538, uG1539, uG1540])
def cx_440q1g_0 (t : List zTg) : List zTg := uG1542 :: uG1543 :: uG1544 :: uG1556 :: uG1448 :: uG1538 :: uG1539 :: uG1543 :: t
def cx_440q1g_1 (t : List zTg) : List zTg := uG1545 :: uG1542 :: (86, [uL80, uL1489, uL285, uL210]) :: t
def cx_440q1 : zS := ((cx_437q1i_0 (cx_437q1i_1 [])), [ur1299, ur1313, ur1314, ur1315, ur1316, ur1348, ur1461], [uL214, uL116], [], [uV411], [uF1546, uF1390, uF1392, uF1547, uF1548, uF1443, uF1443], (cx_440q1g_0 (cx_440q1g_1 [])))
def cx_440q2 : zS := ((cx_437q2i_0 (cx_437q2i_1 [])), [ur1299, ur1313, ur1314, ur1315, ur1316, ur1348, ur1461], [uL1549], [], [uV64], [uF1550, uF1551, uF1552, uF1436, uF1428, uF1443, uF1443], [uG1538, uG1539, uG1553])
/-- M.toldInt -/
def cx_440 : zCtx := (213, cx_440p, [cx_440q0, cx_440q1, cx_440q2], [uk1408, uk1397, uk1398, uk1430, uk1431], 65, 3, 64)
set_option maxRecDepth 1000000 in
theorem ck_440 : x_ok mLT1 [cx_406, cx_438, cx_439, cx_423, cx_424] mTS2 mTC2 mRUp cx_440 [(1, [0]), (7, [1, 2]), (13, [3, 4])] [(0, uN1554), (4, [740, 1000326, 1000327, 1000328, 1000329, 1000330, 1000331, 1000332, 1000333]), (10, [740]), (11, uN1555), (16, [740, 1000314, 1000335, 1000302, 1000487, 1000488, 1000489, 1000490])] [] (12, []) 53 15 = true := by decide +kernel
theorem sn_440 {W : Bool} {X : List Int32} : y_Snd (mGw W) mLT1 (J2 W X) X cx_440 := y_ok J2_J mTS2_ok1 mTC2_ok1 mRUp_ok1 (List.forall_mem_cons.mpr ⟨sn_406, List.forall_mem_cons.mpr ⟨sn_438, List.forall_mem_cons.mpr ⟨sn_439, List.forall_mem_cons.mpr ⟨sn_423, List.forall_mem_cons.mpr ⟨sn_424, fun _ h => absurd h List.not_mem_nil⟩⟩⟩⟩⟩) ck_440
/-- M.bounded -/
def cx_441 : zCtx := (210, ([ui0, ui148, (2, 2), ui54, (0, 5), ui54, ui54], [ur1299], [], [], [uV2, uV64, uV286], [uF1389, uF1390, uF1392, uF1436, uF1428, uF1437], [uG1438]), [([ui0, ui148, (2, 2), ui54, (0, 5), ui54, ui54], [ur1299], [], [], [uV64], [], [])], [], 12, 1, 21)
set_option maxRecDepth 1000000 in
theorem ck_441 : x_ok mLT1 [cx_414] mTS2 mTC2 mRUp cx_441 [(17, [0])] [(15, uN1439), (20, [740])] [] (8, []) 4 11 = true := by decide +kernel
theorem sn_441 {W : Bool} {X : List Int32} : y_Snd (mGw W) mLT1 (J2 W X) X cx_441 := y_ok J2_J mTS2_ok1 mTC2_ok1 mRUp_ok1 (List.forall_mem_cons.mpr ⟨sn_414, fun _ h => absurd h List.not_mem_nil⟩) ck_441
def cx_442p : zS := ((cx_436pi_0 (cx_436pi_1 [])), [ur1299, ur1313, ur1314, ur1315, ur1316, ur1348], [], [], [uV2, uV64, uV286], (cx_419pf_0 (cx_419pf_1 [])), [uG1444, (40, [uL80, uL9, uL287, uL65, uL65, uL81, uL166, uL100, uL106, uL173])])
/-- M.bounded -/
def cx_442 : zCtx := (210, cx_442p, [([ui0, ui350, (0, 0), ui54, (0, 5), ui54, ui54, (0, 6), (0, 1), ui50, ui70, ui54], [ur1299, ur1313, ur1314, ur1315, ur1316, ur1348], [uL65], [], [uV64], [uF1450, uF1420, uF1389, uF1436, uF1428, uF1443], [uG1451]), cx_436q1, ([ui0, ui148, (0, 0), ui54, (0, 5), ui54, ui54, (0, 6), (0, 1), ui50, ui70, ui199, ui54, (0, 5), ui54], [ur1299, ur1313, ur1314, ur1315, ur1316, ur1348], [uL65], [], [uV841], [uF1452, uF1396, uF1389, uF1453, uF1454, uF1443], [uG1455])], [uk1408, uk1397, uk1398, uk1430, uk1431], 53, 2, 41)
set_option maxRecDepth 1000000 in
theorem ck_442 : x_ok mLT1 [cx_416, cx_409, cx_417, cx_418, cx_406] mTS2 mTC2 mRUp cx_442 [(9, [0]), (17, [1]), (48, [2, 3]), (52, [4])] [(8, uN1456), (12, [740]), (15, uN1439), (20, [740]), (31, uN1457), (42, uN1458), (51, [740]), (55, [740, 1000260, 1000261, 1000262, 1000263, 1000264, 1000265, 1000266, 1000267, 1000268, 1000269, 1000270, 1000271, 1000272, 1000273, 1000274, 1000275, 1000276, 1000277, 1000278, 1000279, 1000280, 1000281, 1000282, 1000283, 1000284, 1000285, 1000286, 1000287, 1000288])] [] (28, []) 25 31 = true := by decide +kernel
theorem sn_442 {W : Bool} {X : List Int32} : y_Snd (mGw W) mLT1 (J2 W X) X cx_442 := y_ok J2_J mTS2_ok1 mTC2_ok1 mRUp_ok1 (List.forall_mem_cons.mpr ⟨sn_416, List.forall_mem_cons.mpr ⟨sn_409, List.forall_mem_cons.mpr ⟨sn_417, List.forall_mem_cons.mpr ⟨sn_418, List.forall_mem_cons.mpr ⟨sn_406, fun _ h => absurd h List.not_mem_nil⟩⟩⟩⟩⟩) ck_442
def cx_443p : zS := ((cx_437pi_0 (cx_437pi_1 [])), [ur1299, ur1313, ur1314, ur1315, ur1316, ur1348, ur1461], [((-28), [(11, 1)]), (28, [(11, (-1))])], [], [uV2, uV64, uV286], (cx_437pf_0 (cx_437pf_1 (cx_437pf_2 []))), [uG1444, uG1531, uG1532])
def cx_443q0 : zS := ((cx_437q0i_0 (cx_437q0i_1 (cx_437q0i_2 []))), [ur1299, ur1313, ur1314, ur1315, ur1316, ur1348, ur1461], [uL1533], [], [uV411], [uF1534, uF1535, uF1536, uF1483, uF1484, uF1443, uF1443], [uG1557, uG1448, uG1538, uG1539, uG1540])
def cx_443q1g_0 (t : List zTg) : List zTg := uG1542 :: uG1543 :: uG1544 :: uG1557 :: uG1448 :: uG1538 :: uG1539 :: uG1543 :: t
def cx_443q1g_1 (t : List zTg) : List zTg := uG1545 :: uG1542 :: (86, [uL80, uL1489, uL287, uL210]) :: t
def cx_443q1 : zS := ((cx_437q1i_0 (cx_437q1i_1 [])), [ur1299, ur1313, ur1314, ur1315, ur1316, ur1348, ur1461], [uL214, uL116], [], [uV411], [uF1546, uF1390, uF1392, uF1547, uF1548, uF1443, uF1443], (cx_443q1g_0 (cx_443q1g_1 [])))
/-- M.toldInt -/
def cx_443 : zCtx := (213, cx_443p, [cx_443q0, cx_443q1, cx_440q2], [uk1408, uk1397, uk1398, uk1430, uk1431], 65, 3, 64)
set_option maxRecDepth 1000000 in
theorem ck_443 : x_ok mLT1 [cx_406, cx_441, cx_442, cx_423, cx_424] mTS2 mTC2 mRUp cx_443 [(1, [0]), (7, [1, 2]), (13, [3, 4])] [(0, uN1554), (4, [740, 1000326, 1000327, 1000328, 1000329, 1000330, 1000331, 1000332, 1000333]), (10, [740]), (11, uN1555), (16, [740, 1000314, 1000335, 1000302, 1000487, 1000488, 1000489, 1000490])] [] (12, []) 53 15 = true := by decide +kernel
theorem sn_443 {W : Bool} {X : List Int32} : y_Snd (mGw W) mLT1 (J2 W X) X cx_443 := y_ok J2_J mTS2_ok1 mTC2_ok1 mRUp_ok1 (List.forall_mem_cons.mpr ⟨sn_406, List.forall_mem_cons.mpr ⟨sn_441, List.forall_mem_cons.mpr ⟨sn_442, List.forall_mem_cons.mpr ⟨sn_423, List.forall_mem_cons.mpr ⟨sn_424, fun _ h => absurd h List.not_mem_nil⟩⟩⟩⟩⟩) ck_443
/-- M.bounded -/
def cx_444 : zCtx := (210, ([ui0, ui148, (2, 2), ui54, (0, 5), ui54, ui54], [ur1299], [], [], [uV2, uV64, uV288], [uF1389, uF1390, uF1392, uF1436, uF1428, uF1437], [uG1438]), [([ui0, ui148, (2, 2), ui54, (0, 5), ui54, ui54], [ur1299], [], [], [uV64], [], [])], [], 12, 1, 21)
set_option maxRecDepth 1000000 in
theorem ck_444 : x_ok mLT1 [cx_414] mTS2 mTC2 mRUp cx_444 [(17, [0])] [(15, uN1439), (20, [740])] [] (8, []) 4 11 = true := by decide +kernel
theorem sn_444 {W : Bool} {X : List Int32} : y_Snd (mGw W) mLT1 (J2 W X) X cx_444 := y_ok J2_J mTS2_ok1 mTC2_ok1 mRUp_ok1 (List.forall_mem_cons.mpr ⟨sn_414, fun _ h => absurd h List.not_mem_nil⟩) ck_444
def cx_445p : zS := ((cx_436pi_0 (cx_436pi_1 [])), [ur1299, ur1313, ur1314, ur1315, ur1316, ur1348], [], [], [uV2, uV64, uV288], (cx_419pf_0 (cx_419pf_1 [])), [uG1444, (40, [uL80, uL9, uL289, uL65, uL65, uL81, uL166, uL100, uL106, uL173])])
def cx_445q1i_0 (t : List (Int × Int)) : List (Int × Int) := ui0 :: ui1423 :: (0, 0) :: ui54 :: (0, 5) :: ui54 :: ui54 :: (0, 6) :: t
def cx_445q1i_1 (t : List (Int × Int)) : List (Int × Int) := (0, 1) :: ui50 :: ui70 :: ui199 :: t
def cx_445q1g_0 (t : List zTg) : List zTg := uG1558 :: uG1448 :: uG1448 :: uG1558 :: uG1449 :: t
def cx_445q1 : zS := ((cx_445q1i_0 (cx_445q1i_1 [])), [ur1299, ur1313, ur1314, ur1315, ur1316, ur1348], [uL67, uL65, uL65], [], [uV841], [uF1406, uF1390, uF1392, uF1443], (cx_445q1g_0 []))
/-- M.bounded -/
def cx_445 : zCtx := (210, cx_445p, [([ui0, ui350, (0, 0), ui54, (0, 5), ui54, ui54, (0, 6), (0, 1), ui50, ui70, ui54], [ur1299, ur1313, ur1314, ur1315, ur1316, ur1348], [uL65], [], [uV64], [uF1450, uF1420, uF1389, uF1443], [uG1451]), cx_445q1, ([ui0, ui148, (0, 0), ui54, (0, 5), ui54, ui54, (0, 6), (0, 1), ui50, ui70, ui199, ui54], [ur1299, ur1313, ur1314, ur1315, ur1316, ur1348], [uL65], [], [uV841], [uF1452, uF1396, uF1389, uF1443], [uG1455])], [uk1408, uk1397, uk1398], 48, 2, 41)
set_option maxRecDepth 1000000 in
theorem ck_445 : x_ok mLT1 [cx_416, cx_409, cx_406] mTS2 mTC2 mRUp cx_445 [(9, [0]), (17, [1]), (52, [2])] [(8, uN1456), (12, [740]), (15, uN1439), (20, [740]), (31, uN1457), (51, [740]), (55, [740, 1000260, 1000261, 1000262, 1000263, 1000264, 1000265, 1000266, 1000267, 1000268, 1000269, 1000270, 1000271, 1000272, 1000273, 1000274, 1000275, 1000276, 1000277, 1000278, 1000279, 1000280, 1000281, 1000282, 1000283, 1000284, 1000285, 1000286, 1000287, 1000288])] [] (23, []) 25 26 = true := by decide +kernel
theorem sn_445 {W : Bool} {X : List Int32} : y_Snd (mGw W) mLT1 (J2 W X) X cx_445 := y_ok J2_J mTS2_ok1 mTC2_ok1 mRUp_ok1 (List.forall_mem_cons.mpr ⟨sn_416, List.forall_mem_cons.mpr ⟨sn_409, List.forall_mem_cons.mpr ⟨sn_406, fun _ h => absurd h List.not_mem_nil⟩⟩⟩) ck_445
def cx_446p : zS := ((cx_437pi_0 (cx_437pi_1 [])), [ur1299, ur1313, ur1314, ur1315, ur1316, ur1348, ur1461], [((-29), [(11, 1)]), (29, [(11, (-1))])], [], [uV2, uV64, uV288], (cx_437pf_0 (cx_437pf_1 (cx_437pf_2 []))), [uG1444, uG1531, uG1532])
def cx_446q0i_0 (t : List (Int × Int)) : List (Int × Int) := ui0 :: ui149 :: (0, 0) :: ui54 :: (0, 5) :: ui54 :: ui54 :: (0, 6) :: t
def cx_446q0i_1 (t : List (Int × Int)) : List (Int × Int) := (0, 1) :: ui50 :: ui70 :: ui1344 :: ui54 :: ui199 :: ui54 :: (1, 2) :: t
def cx_446q0i_2 (t : List (Int × Int)) : List (Int × Int) := ui408 :: t
def cx_446q0 : zS := ((cx_446q0i_0 (cx_446q0i_1 (cx_446q0i_2 []))), [ur1299, ur1313, ur1314, ur1315, ur1316, ur1348, ur1461], [uL1533], [], [uV411], [uF1534, uF1535, uF1536, uF1443, uF1443], [uG1559, uG1448, uG1538, uG1539, uG1540])
def cx_446q1i_0 (t : List (Int × Int)) : List (Int × Int) := ui0 :: ui1541 :: (0, 0) :: ui54 :: (0, 5) :: ui54 :: ui54 :: (0, 6) :: t
def cx_446q1i_1 (t : List (Int × Int)) : List (Int × Int) := (0, 1) :: ui50 :: ui70 :: ui1344 :: ui54 :: ui199 :: t
def cx_446q1g_0 (t : List zTg) : List zTg := uG1542 :: uG1560 :: uG1543 :: (40, [uL80, uL1490, uL269, uL65, uL65, uL81, uL166, uL100, uL106, uL173]) :: uG1544 :: uG1559 :: uG1448 :: uG1538 :: t
def cx_446q1g_1 (t : List zTg) : List zTg := uG1539 :: uG1543 :: uG1560 :: uG1542 :: (86, [uL80, uL1489, uL289, uL210]) :: t
def cx_446q1 : zS := ((cx_446q1i_0 (cx_446q1i_1 [])), [ur1299, ur1313, ur1314, ur1315, ur1316, ur1348, ur1461], [uL214, uL116], [], [uV411], [uF1546, uF1390, uF1392, uF1443, uF1443], (cx_446q1g_0 (cx_446q1g_1 [])))
def cx_446q2 : zS := ((cx_437q2i_0 (cx_437q2i_1 [])), [ur1299, ur1313, ur1314, ur1315, ur1316, ur1348, ur1461], [uL1549], [], [uV64], [uF1550, uF1551, uF1552, uF1443, uF1443], [uG1538, uG1539, uG1553])
/-- M.toldInt -/
def cx_446 : zCtx := (213, cx_446p, [cx_446q0, cx_446q1, cx_446q2], [uk1408, uk1397, uk1398], 60, 3, 64)
set_option maxRecDepth 1000000 in
theorem ck_446 : x_ok mLT1 [cx_406, cx_444, cx_445, cx_423, cx_424] mTS2 mTC2 mRUp cx_446 [(1, [0]), (7, [1, 2]), (13, [3, 4])] [(0, uN1554), (4, [740, 1000326, 1000327, 1000328, 1000329, 1000330, 1000331, 1000332, 1000333]), (10, [740]), (11, uN1555), (16, [740, 1000314, 1000335, 1000302, 1000487, 1000488, 1000489, 1000490])] [] (12, []) 48 15 = true := by decide +kernel
theorem sn_446 {W : Bool} {X : List Int32} : y_Snd (mGw W) mLT1 (J2 W X) X cx_446 := y_ok J2_J mTS2_ok1 mTC2_ok1 mRUp_ok1 (List.forall_mem_cons.mpr ⟨sn_406, List.forall_mem_cons.mpr ⟨sn_444, List.forall_mem_cons.mpr ⟨sn_445, List.forall_mem_cons.mpr ⟨sn_423, List.forall_mem_cons.mpr ⟨sn_424, fun _ h => absurd h List.not_mem_nil⟩⟩⟩⟩⟩) ck_446
/-- M.is -/
def cx_447 : zCtx := (202, ([ui0, ui350, (0, 2), ui1311], [ur1299, ur1313], [], [], [uV2, uV3], [uF1389, uF1390, uF1239, uF1391], []), [([ui0, ui350, (0, 0), (5, 5)], [ur1299, ur1313], [], [], [uV66], [], []), ([ui0, ui350, (0, 0), (0, 4)], [ur1299, ur1313], [], [], [uV64], [], []), ([ui0, ui350, (0, 0), (6, 41)], [ur1299, ur1313], [], [], [uV64], [], []), ([ui0, ui350, (1, 2), ui1311], [ur1299, ur1313], [], [], [uV64], [], [])], [], 13, 0, 0)
set_option maxRecDepth 1000000 in
theorem ck_447 : x_ok mLT1 [] mTS2 mTC2 mRUp cx_447 [] [] [] (13, []) 0 16 = true := by decide +kernel
theorem sn_447 {W : Bool} {X : List Int32} : y_Snd (mGw W) mLT1 (J2 W X) X cx_447 := y_ok J2_J mTS2_ok1 mTC2_ok1 mRUp_ok1 (fun _ h => absurd h List.not_mem_nil) ck_447
/-- M.must -/
def cx_448 : zCtx := (208, ([ui0, ui148, (2, 2), ui54, ui54], [ur1299], [], [], [uV2, uV3], [uF1389, uF1390, uF1392, uF181], [uG1460]), [([ui0, ui148, (2, 2), ui54, ui54], [ur1299], [], [], [], [], [])], [], 21, 1, 21)
set_option maxRecDepth 1000000 in
theorem ck_448 : x_ok mLT1 [cx_447, cx_414] mTS2 mTC2 mRUp cx_448 [(2, [0]), (17, [1])] [(15, uN1425)] [] (8, []) 13 11 = true := by decide +kernel
theorem sn_448 {W : Bool} {X : List Int32} : y_Snd (mGw W) mLT1 (J2 W X) X cx_448 := y_ok J2_J mTS2_ok1 mTC2_ok1 mRUp_ok1 (List.forall_mem_cons.mpr ⟨sn_447, List.forall_mem_cons.mpr ⟨sn_414, fun _ h => absurd h List.not_mem_nil⟩⟩) ck_448
def cx_449pi_0 (t : List (Int × Int)) : List (Int × Int) := ui0 :: ui350 :: (0, 7) :: (1, 2) :: ui54 :: ui1561 :: ui1562 :: ui1563 :: t
def cx_449pi_1 (t : List (Int × Int)) : List (Int × Int) := (0, 1) :: ui1564 :: ui1564 :: ui1562 :: (0, 2) :: ui1562 :: ui1562 :: ui54 :: t
def cx_449pi_2 (t : List (Int × Int)) : List (Int × Int) := (0, 1) :: ui31 :: t
def cx_449pr_0 (t : List (Nat × Bool)) : List (Nat × Bool) := ur1299 :: ur1359 :: ur1360 :: ur1354 :: ur1355 :: ur1345 :: ur1346 :: ur1356 :: t
def cx_449pr_1 (t : List (Nat × Bool)) : List (Nat × Bool) := ur1357 :: ur1358 :: t
def cx_449pf_0 (t : List zFa) : List zFa := uF1389 :: uF1565 :: uF1410 :: uF1395 :: uF1566 :: uF1567 :: uF1568 :: uF1569 :: t
def cx_449pf_1 (t : List zFa) : List zFa := uF1570 :: uF1571 :: (0, (false, 40, 0, []), 2, 3, 0, []) :: (0, (false, 41, 0, []), 2, 4, 0, []) :: (0, (false, 31, 0, []), 2, 5, 0, []) :: (0, (false, 32, 0, []), 2, 6, 0, []) :: (0, (false, 34, 0, []), 2, 7, 0, []) :: (0, (false, 35, 0, []), 2, 8, 0, []) :: t
def cx_449pf_2 (t : List zFa) : List zFa := (0, (false, 36, 0, []), 2, 9, 0, []) :: t
def cx_449p : zS := ((cx_449pi_0 (cx_449pi_1 (cx_449pi_2 []))), (cx_449pr_0 (cx_449pr_1 [])), [uL1572, (0, [(5, 1), (9, (-1))]), (0, [(5, 1), (8, (-130))])], [], [uV2], (cx_449pf_0 (cx_449pf_1 (cx_449pf_2 []))), [uG1573, (41, [uL212, uL23, uL100]), uG1575])
/-- M.term -/
def cx_449 : zCtx := (219, cx_449p, [([ui0, ui350, (0, 7), (1, 2), ui54, ui1561, ui1562, ui1563, (0, 1), ui1564, ui1564, ui1562, (0, 2), ui1562, ui1562, ui54, (0, 1), ui31], [ur1299, ur1359, ur1360, ur1354, ur1355, ur1345, ur1346, ur1356, ur1357, ur1358], [], [], [], [uF1576, (2, (true, 0, 0, [(5, 1)]), 0, 0, 0, [(6, 1)]), uF1577], [uG1573, uG1575])], [uk1578, uk1579, uk1580], 24, 0, 0)
set_option maxRecDepth 1000000 in
theorem ck_449 : x_ok mLT1 [] mTS2 mTC2 mRUp cx_449 [] [(0, [1000610])] [] (24, []) 0 27 = true := by decide +kernel
theorem sn_449 {W : Bool} {X : List Int32} : y_Snd (mGw W) mLT1 (J2 W X) X cx_449 := y_ok J2_J mTS2_ok1 mTC2_ok1 mRUp_ok1 (fun _ h => absurd h List.not_mem_nil) ck_449
def cx_450pi_0 (t : List (Int × Int)) : List (Int × Int) := ui0 :: (0, 3) :: ui148 :: (0, 0) :: (2, 2) :: ui54 :: (0, 1) :: ui1581 :: t
def cx_450pi_1 (t : List (Int × Int)) : List (Int × Int) := ui1582 :: ui1563 :: (0, 2) :: ui1562 :: ui1562 :: ui54 :: (0, 1) :: ui31 :: t
def cx_450pr_0 (t : List (Nat × Bool)) : List (Nat × Bool) := ur1299 :: ur1356 :: ur1357 :: ur1358 :: ur1359 :: ur1360 :: ur1345 :: ur1346 :: t
def cx_450pr_1 (t : List (Nat × Bool)) : List (Nat × Bool) := ur1354 :: ur1355 :: t
def cx_450pf_0 (t : List zFa) : List zFa := uF1409 :: uF1583 :: uF1584 :: uF1585 :: uF1464 :: uF1586 :: uF1587 :: uF1588 :: t
def cx_450pf_1 (t : List zFa) : List zFa := uF1589 :: uF1590 :: uF1591 :: uF1592 :: uF1593 :: uF1594 :: uF1595 :: uF1596 :: t
def cx_450pf_2 (t : List zFa) : List zFa := uF1597 :: uF1598 :: t
def cx_450p : zS := ((cx_450pi_0 (cx_450pi_1 [])), (cx_450pr_0 (cx_450pr_1 [])), [(120, [(6, 130), (7, (-1))]), (0, [(6, (-130)), (7, 1)])], [], [uV2, uV11], (cx_450pf_0 (cx_450pf_1 (cx_450pf_2 []))), [uG1599, (41, [uL210, uL100, uL106]), uG1600])
/-- M.tellLaw -/
def cx_450 : zCtx := (214, cx_450p, [([ui0, (0, 3), ui148, (0, 0), (2, 2), ui54, (0, 1), ui1581, ui1582, ui1563, (0, 2), ui1562, ui1562, ui54, (0, 1), ui31], [ur1299, ur1356, ur1357, ur1358, ur1359, ur1360, ur1345, ur1346, ur1354, ur1355], [], [], [], [(0, (false, 33, 0, []), 0, 0, 1, [(7, 1)])], [uG1599, uG1600, (225, [uL81, uL80])])], [uk1578, (67, true, 0), uk1579, uk1580], 50, 2, 42)
set_option maxRecDepth 1000000 in
theorem ck_450 : x_ok mLT1 [cx_448, cx_449, cx_423] mTS2 mTC2 mRUp cx_450 [(2, [0]), (140, [1]), (145, [2])] [(0, uN1601), (5, uN1602), (129, [1000600, 1000391, 1000392, 35, 1000610, 1000611]), (140, [35]), (143, [13, 740, 741, 1000246, 1000393, 1000612]), (148, uN1603)] [] (26, []) 24 29 = true := by decide +kernel
theorem sn_450 {W : Bool} {X : List Int32} : y_Snd (mGw W) mLT1 (J2 W X) X cx_450 := y_ok J2_J mTS2_ok1 mTC2_ok1 mRUp_ok1 (List.forall_mem_cons.mpr ⟨sn_448, List.forall_mem_cons.mpr ⟨sn_449, List.forall_mem_cons.mpr ⟨sn_423, fun _ h => absurd h List.not_mem_nil⟩⟩⟩) ck_450
def cx_451p : zS := ([ui0, ui350, (0, 0), ui54, ui54, ui1311, ui54], [ur1299, ur1313, ur1314, ur1315, ur1316], [uL36], [], [uV2, uV3], (cx_406pf_0 (cx_406pf_1 [])), [uG1401, uG1402, (62, [uL100, uL9, uL249, uL106, uL80])])
/-- M.must -/
def cx_451 : zCtx := (208, cx_451p, [([ui0, ui350, (0, 0), ui54, ui54, ui1311, ui54, (1, 2)], [ur1299, ur1313, ur1314, ur1315, ur1316], [uL65], [], [], [uF1404, uF1421, uF1389], [uG1422]), ([ui0, ui1423, (0, 0), ui54, ui54, (5, 5), ui54], [ur1299, ur1313, ur1314, ur1315, ur1316], [uL67, ((-5), [(5, 1)]), (5, [(5, (-1))]), uL65, uL65], [], [], [uF1406, uF1390, uF1392], [uG1407, uG1403, uG1407])], [uk1408, uk1397, uk1398], 33, 2, 41)
set_option maxRecDepth 1000000 in
theorem ck_451 : x_ok mLT1 [cx_447, cx_406, cx_409] mTS2 mTC2 mRUp cx_451 [(2, [0]), (9, [1]), (17, [2])] [(9, [1000243]), (15, uN1425)] [] (8, []) 25 11 = true := by decide +kernel
theorem sn_451 {W : Bool} {X : List Int32} : y_Snd (mGw W) mLT1 (J2 W X) X cx_451 := y_ok J2_J mTS2_ok1 mTC2_ok1 mRUp_ok1 (List.forall_mem_cons.mpr ⟨sn_447, List.forall_mem_cons.mpr ⟨sn_406, List.forall_mem_cons.mpr ⟨sn_409, fun _ h => absurd h List.not_mem_nil⟩⟩⟩) ck_451
/-- M.is -/
def cx_452 : zCtx := (202, ([ui0, ui408, (0, 0), ui1311], [ur1299, ur1313], [], [], [uV2, (0, 0, 30, [])], [uF1389, uF1390, uF1239, uF1391], []), [([ui0, ui408, (0, 0), (30, 30)], [ur1299, ur1313], [], [], [uV66], [], []), ([ui0, ui408, (0, 0), (0, 29)], [ur1299, ur1313], [], [], [uV64], [], []), ([ui0, ui408, (0, 0), (31, 41)], [ur1299, ur1313], [], [], [uV64], [], [])], [], 13, 0, 0)
set_option maxRecDepth 1000000 in
theorem ck_452 : x_ok mLT1 [] mTS2 mTC2 mRUp cx_452 [] [] [] (13, []) 0 16 = true := by decide +kernel
theorem sn_452 {W : Bool} {X : List Int32} : y_Snd (mGw W) mLT1 (J2 W X) X cx_452 := y_ok J2_J mTS2_ok1 mTC2_ok1 mRUp_ok1 (fun _ h => absurd h List.not_mem_nil) ck_452
def cx_453pi_0 (t : List (Int × Int)) : List (Int × Int) := ui0 :: ui148 :: (0, 0) :: (2, 2) :: ui54 :: ui1582 :: ui1563 :: (0, 1) :: t
def cx_453pi_1 (t : List (Int × Int)) : List (Int × Int) := ui1564 :: ui1564 :: (0, 2) :: ui1562 :: ui1562 :: ui54 :: (0, 1) :: ui31 :: t
def cx_453pr_0 (t : List (Nat × Bool)) : List (Nat × Bool) := ur1299 :: ur1604 :: ur1354 :: ur1355 :: ur1345 :: ur1346 :: ur1356 :: ur1357 :: t
def cx_453pr_1 (t : List (Nat × Bool)) : List (Nat × Bool) := ur1358 :: ur1359 :: ur1360 :: t
def cx_453pf_0 (t : List zFa) : List zFa := uF1389 :: uF1565 :: uF1410 :: uF1395 :: uF1605 :: uF1606 :: uF1607 :: uF1596 :: t
def cx_453pf_1 (t : List zFa) : List zFa := uF1608 :: uF1609 :: uF1610 :: uF1611 :: uF1612 :: uF1613 :: uF1614 :: uF1615 :: t
def cx_453pf_2 (t : List zFa) : List zFa := uF1616 :: t
def cx_453p : zS := ((cx_453pi_0 (cx_453pi_1 [])), (cx_453pr_0 (cx_453pr_1 [])), [uL1617], [], [uV2], (cx_453pf_0 (cx_453pf_1 (cx_453pf_2 []))), [uG1618, (41, [uL210, uL23, uL100]), (224, [uL1619, uL81, uL211, uL212])])
/-- M.expression -/
def cx_453 : zCtx := (215, cx_453p, [([ui0, ui148, (0, 0), (2, 2), ui54, ui1582, ui1563, (0, 1), ui1564, ui1564, (0, 2), ui1562, ui1562, ui54, (0, 1), ui31], [ur1299, ur1604, ur1354, ur1355, ur1345, ur1346, ur1356, ur1357, ur1358, ur1359, ur1360], [], [], [], [(0, (false, 43, 0, []), 0, 0, 0, [])], [(1, [uL65, uL65, uL65]), (0, [uL106, uL65, uL106])])], [uk1620], 14, 0, 0)
set_option maxRecDepth 1000000 in
theorem ck_453 : x_ok mLT1 [] mTS2 mTC2 mRUp cx_453 [] [(5, [5, 6])] [] (14, []) 0 17 = true := by decide +kernel
theorem sn_453 {W : Bool} {X : List Int32} : y_Snd (mGw W) mLT1 (J2 W X) X cx_453 := y_ok J2_J mTS2_ok1 mTC2_ok1 mRUp_ok1 (fun _ h => absurd h List.not_mem_nil) ck_453
/-- M.is -/
def cx_454 : zCtx := (202, ([ui0, ui408, (0, 2), ui1311], [ur1299, ur1313], [], [], [uV2, uV317], [uF1389, uF1390, uF1239, uF1391], []), [([ui0, ui408, (0, 0), (6, 6)], [ur1299, ur1313], [], [], [uV66], [], []), ([ui0, ui408, (0, 0), (0, 5)], [ur1299, ur1313], [], [], [uV64], [], []), ([ui0, ui408, (0, 0), (7, 41)], [ur1299, ur1313], [], [], [uV64], [], []), ([ui0, ui408, (1, 2), ui1311], [ur1299, ur1313], [], [], [uV64], [], [])], [], 13, 0, 0)
set_option maxRecDepth 1000000 in
theorem ck_454 : x_ok mLT1 [] mTS2 mTC2 mRUp cx_454 [] [] [] (13, []) 0 16 = true := by decide +kernel
theorem sn_454 {W : Bool} {X : List Int32} : y_Snd (mGw W) mLT1 (J2 W X) X cx_454 := y_ok J2_J mTS2_ok1 mTC2_ok1 mRUp_ok1 (fun _ h => absurd h List.not_mem_nil) ck_454
/-- M.fail -/
def cx_455 : zCtx := (205, ([ui0, ui148, (2, 2), ui54, ui54], [ur1299, ur1314], [], [], [uV2, uV391], [uF1389, uF1390, uF1392, uF1393, uF1394], []), [([ui0, ui148, (2, 2), ui54, ui54], [ur1299, ur1314], [], [], [], [], [])], [], 4, 0, 0)
set_option maxRecDepth 1000000 in
theorem ck_455 : x_ok mLT1 [] mTS2 mTC2 mRUp cx_455 [] [] [] (4, []) 0 7 = true := by decide +kernel
theorem sn_455 {W : Bool} {X : List Int32} : y_Snd (mGw W) mLT1 (J2 W X) X cx_455 := y_ok J2_J mTS2_ok1 mTC2_ok1 mRUp_ok1 (fun _ h => absurd h List.not_mem_nil) ck_455
/-- M.goesOn -/
def cx_456 : zCtx := (206, ([ui0, ui408, (2, 2), ui54, ui54], [ur1299], [], [], [uV2], [uF1389, uF1390, uF1392, uF181], [uG1460]), [([ui0, ui148, (2, 2), ui54, ui54], [ur1299], [uL65], [], [], [uF1389], [uG1460]), ([ui0, ui1445, (2, 2), ui54, ui54], [ur1299], [uL67], [], [], [uF1406], [uG1460])], [uk1408], 15, 1, 21)
set_option maxRecDepth 1000000 in
theorem ck_456 : x_ok mLT1 [cx_455] mTS2 mTC2 mRUp cx_456 [(12, [0])] [(10, [1000241]), (28, [1000242])] [] (11, []) 4 14 = true := by decide +kernel
theorem sn_456 {W : Bool} {X : List Int32} : y_Snd (mGw W) mLT1 (J2 W X) X cx_456 := y_ok J2_J mTS2_ok1 mTC2_ok1 mRUp_ok1 (List.forall_mem_cons.mpr ⟨sn_455, fun _ h => absurd h List.not_mem_nil⟩) ck_456
def cx_457pi_0 (t : List (Int × Int)) : List (Int × Int) := ui0 :: ui1459 :: (2, 2) :: ui54 :: ui768 :: ui1562 :: (0, 1) :: ui1564 :: t
def cx_457pi_1 (t : List (Int × Int)) : List (Int × Int) := ui1564 :: (0, 2) :: ui1562 :: ui1562 :: ui1562 :: ui1562 :: ui54 :: (0, 1) :: t
def cx_457pi_2 (t : List (Int × Int)) : List (Int × Int) := ui31 :: t
def cx_457pr_0 (t : List (Nat × Bool)) : List (Nat × Bool) := ur1299 :: ur1354 :: ur1355 :: ur1345 :: ur1346 :: ur1356 :: ur1357 :: ur1358 :: t
def cx_457pr_1 (t : List (Nat × Bool)) : List (Nat × Bool) := ur1359 :: ur1360 :: t
def cx_457pf_0 (t : List zFa) : List zFa := uF1389 :: uF1390 :: uF1392 :: uF1621 :: (0, (false, 4, 0, []), 0, 0, 0, [(14, 1)]) :: uF1622 :: uF1623 :: uF1624 :: t
def cx_457pf_1 (t : List zFa) : List zFa := uF1625 :: uF1626 :: uF1627 :: uF1628 :: uF1629 :: uF1630 :: t
def cx_457p : zS := ((cx_457pi_0 (cx_457pi_1 (cx_457pi_2 []))), (cx_457pr_0 (cx_457pr_1 [])), [uL1434, uL1631], [], [uV2], (cx_457pf_0 (cx_457pf_1 [])), [uG1632, uG1633, (41, [uL211, uL69, uL23]), (224, [uL1477, uL80, uL212, uL215])])
/-- M.unit -/
def cx_457 : zCtx := (216, cx_457p, [([ui0, ui1459, (2, 2), ui54, ui768, ui1562, (0, 1), ui1564, ui1564, (0, 2), ui1562, ui1562, ui1562, ui1562, ui54, (0, 1), ui31], [ur1299, ur1354, ur1355, ur1345, ur1346, ur1356, ur1357, ur1358, ur1359, ur1360], [], [], [], [], [])], [], 24, 1, 21)
set_option maxRecDepth 1000000 in
theorem ck_457 : x_ok mLT1 [cx_416, cx_414] mTS2 mTC2 mRUp cx_457 [(2, [0]), (90, [1])] [(0, [1000246]), (88, uN1634)] [] (11, []) 13 14 = true := by decide +kernel
theorem sn_457 {W : Bool} {X : List Int32} : y_Snd (mGw W) mLT1 (J2 W X) X cx_457 := y_ok J2_J mTS2_ok1 mTC2_ok1 mRUp_ok1 (List.forall_mem_cons.mpr ⟨sn_416, List.forall_mem_cons.mpr ⟨sn_414, fun _ h => absurd h List.not_mem_nil⟩⟩) ck_457
def cx_458pi_0 (t : List (Int × Int)) : List (Int × Int) := ui0 :: ui199 :: ui768 :: ui1562 :: (0, 1) :: ui1564 :: ui1564 :: (0, 2) :: t
def cx_458pi_1 (t : List (Int × Int)) : List (Int × Int) := ui1562 :: ui1562 :: ui1562 :: ui1562 :: ui54 :: ui70 :: ui1563 :: ui1564 :: t
def cx_458pi_2 (t : List (Int × Int)) : List (Int × Int) := (0, 5) :: (0, 1) :: ui31 :: t
def cx_458pf_0 (t : List zFa) : List zFa := (0, (false, 39, 0, []), 0, 0, 0, [(2, 1)]) :: uF1622 :: uF1623 :: uF1624 :: uF1625 :: uF1626 :: uF1627 :: uF1628 :: t
def cx_458pf_1 (t : List zFa) : List zFa := uF1629 :: uF1630 :: t
def cx_458p : zS := ((cx_458pi_0 (cx_458pi_1 (cx_458pi_2 []))), (cx_457pr_0 (cx_457pr_1 [])), [uL475, uL1635, uL1636], [], [uV2, uV64, uV11], (cx_458pf_0 (cx_458pf_1 [])), [uG1637, uG1638, uG1639, uG1641])
def cx_458q0g_0 (t : List zTg) : List zTg := (0, [uL173, uL244, uL517]) :: uG1637 :: uG1638 :: uG1639 :: uG1641 :: uG1639 :: t
def cx_458q0 : zS := ((cx_458pi_0 (cx_458pi_1 (cx_458pi_2 []))), (cx_457pr_0 (cx_457pr_1 [])), [], [], [], [uF1642, uF1643, (1, (true, 0, 0, [(2, 1)]), 0, 0, 0, [])], (cx_458q0g_0 []))
/-- M.emit -/
def cx_458 : zCtx := (217, cx_458p, [cx_458q0], [uk1644, uk1645, uk1646], 19, 0, 0)
set_option maxRecDepth 1000000 in
theorem ck_458 : x_ok mLT1 [] mTS2 mTC2 mRUp cx_458 [] [(30, [7])] [] (19, []) 0 22 = true := by decide +kernel
theorem sn_458 {W : Bool} {X : List Int32} : y_Snd (mGw W) mLT1 (J2 W X) X cx_458 := y_ok J2_J mTS2_ok1 mTC2_ok1 mRUp_ok1 (fun _ h => absurd h List.not_mem_nil) ck_458
def cx_459pi_0 (t : List (Int × Int)) : List (Int × Int) := ui0 :: (0, 8) :: ui768 :: ui1562 :: (0, 1) :: ui1564 :: ui1564 :: (0, 2) :: t
def cx_459pi_1 (t : List (Int × Int)) : List (Int × Int) := ui1562 :: ui1562 :: ui1562 :: ui1562 :: ui54 :: ui70 :: ui1563 :: ui1564 :: t
def cx_459pi_2 (t : List (Int × Int)) : List (Int × Int) := (0, 5) :: (0, 1) :: ui31 :: t
def cx_459p : zS := ((cx_459pi_0 (cx_459pi_1 (cx_459pi_2 []))), (cx_457pr_0 (cx_457pr_1 [])), [uL475, uL1635, uL1636], [], [uV2, uV66, uV11], (cx_458pf_0 (cx_458pf_1 [])), [uG1637, uG1638, uG1639, uG1641])
def cx_459q0 : zS := ((cx_459pi_0 (cx_459pi_1 (cx_459pi_2 []))), (cx_457pr_0 (cx_457pr_1 [])), [], [], [], [uF1642, uF1643, (1, (true, 0, 0, [(2, 1)]), 0, 0, 1, [])], (cx_458q0g_0 []))
/-- M.emit -/
def cx_459 : zCtx := (217, cx_459p, [cx_459q0], [uk1644, uk1645, uk1646], 19, 0, 0)
set_option maxRecDepth 1000000 in
theorem ck_459 : x_ok mLT1 [] mTS2 mTC2 mRUp cx_459 [] [(30, [7])] [] (19, []) 0 22 = true := by decide +kernel
theorem sn_459 {W : Bool} {X : List Int32} : y_Snd (mGw W) mLT1 (J2 W X) X cx_459 := y_ok J2_J mTS2_ok1 mTC2_ok1 mRUp_ok1 (fun _ h => absurd h List.not_mem_nil) ck_459
def cx_460pi_0 (t : List (Int × Int)) : List (Int × Int) := ui0 :: ui408 :: (0, 0) :: ui54 :: ui768 :: ui1562 :: (0, 1) :: ui1564 :: t
def cx_460pi_1 (t : List (Int × Int)) : List (Int × Int) := ui1564 :: (0, 2) :: ui1562 :: ui1562 :: ui1562 :: ui1562 :: ui1311 :: ui54 :: t
def cx_460pi_2 (t : List (Int × Int)) : List (Int × Int) := ui306 :: (0, 7) :: (0, 6) :: (0, 1) :: ui50 :: (0, 5) :: ui54 :: ui70 :: t
def cx_460pi_3 (t : List (Int × Int)) : List (Int × Int) := ui1563 :: ui1564 :: (0, 1) :: ui31 :: t
def cx_460pr_0 (t : List (Nat × Bool)) : List (Nat × Bool) := ur1299 :: ur1313 :: ur1314 :: ur1315 :: ur1316 :: ur1348 :: ur1354 :: ur1355 :: t
def cx_460pr_1 (t : List (Nat × Bool)) : List (Nat × Bool) := ur1345 :: ur1346 :: ur1356 :: ur1357 :: ur1358 :: ur1359 :: ur1360 :: t
def cx_460pf_0 (t : List zFa) : List zFa := uF1389 :: uF1390 :: uF1392 :: uF1621 :: uF1239 :: (1, (true, 0, 0, [(1, 1)]), 0, 0, 0, [(14, 1)]) :: uF1571 :: uF1317 :: t
def cx_460pf_1 (t : List zFa) : List zFa := uF1318 :: uF450 :: (0, (false, 12, 0, []), 0, 0, 0, [(17, 1)]) :: (0, (false, 20, 0, []), 0, 0, 0, [(18, 1)]) :: (0, (false, 19, 0, []), 0, 0, 0, [(19, 1)]) :: uF1442 :: uF1647 :: (0, (false, 15, 0, []), 0, 0, 0, [(21, 1)]) :: t
def cx_460pf_2 (t : List zFa) : List zFa := (0, (false, 16, 0, []), 0, 0, 0, [(22, 1)]) :: (0, (false, 40, 0, []), 2, 6, 0, []) :: (0, (false, 41, 0, []), 2, 7, 0, []) :: (0, (false, 31, 0, []), 2, 8, 0, []) :: (0, (false, 32, 0, []), 2, 9, 0, []) :: (0, (false, 34, 0, []), 2, 10, 0, []) :: (0, (false, 35, 0, []), 2, 11, 0, []) :: (0, (false, 36, 0, []), 2, 12, 0, []) :: t
def cx_460pf_3 (t : List zFa) : List zFa := (0, (false, 37, 0, []), 2, 13, 0, []) :: (0, (false, 38, 0, []), 2, 14, 0, []) :: t
def cx_460pg_0 (t : List zTg) : List zTg := uG1632 :: uG1633 :: (70, [uL211]) :: uG1648 :: (40, [uL212, uL9, uL215, uL65, uL216, uL279, uL410, uL1649, uL1650, uL1651]) :: uG1654 :: uG1657 :: t
def cx_460p : zS := ((cx_460pi_0 (cx_460pi_1 (cx_460pi_2 (cx_460pi_3 [])))), (cx_460pr_0 (cx_460pr_1 [])), [uL1434, uL1631, ((-200), [(16, 1)])], [], [uV2], (cx_460pf_0 (cx_460pf_1 (cx_460pf_2 (cx_460pf_3 [])))), (cx_460pg_0 []))
def cx_460q0i_0 (t : List (Int × Int)) : List (Int × Int) := ui0 :: ui1445 :: (0, 0) :: ui54 :: ui768 :: ui1562 :: (0, 1) :: ui1564 :: t
def cx_460q0i_1 (t : List (Int × Int)) : List (Int × Int) := ui1564 :: (0, 2) :: ui1562 :: ui1562 :: ui1562 :: ui1562 :: ui1419 :: ui54 :: t
def cx_460q0i_2 (t : List (Int × Int)) : List (Int × Int) := ui306 :: (0, 7) :: (0, 6) :: (0, 1) :: ui50 :: (0, 5) :: ui54 :: ui70 :: t
def cx_460q0i_3 (t : List (Int × Int)) : List (Int × Int) := ui1563 :: ui1564 :: (0, 1) :: ui31 :: t
def cx_460q0g_0 (t : List zTg) : List zTg := uG1658 :: uG1659 :: (0, [uL217, (1, [(13, 1)]), uL172]) :: uG1632 :: uG1633 :: uG1657 :: uG1659 :: uG1658 :: t
def cx_460q0g_1 (t : List zTg) : List zTg := (216, [uL212, uL111, uL80, uL172, uL1652, uL1653, uL65]) :: t
def cx_460q0 : zS := ((cx_460q0i_0 (cx_460q0i_1 (cx_460q0i_2 (cx_460q0i_3 [])))), (cx_460pr_0 (cx_460pr_1 [])), [uL67], [], [], [uF1406, uF1390, uF1392, (0, (false, 39, 0, []), 0, 0, 1, [(4, 1)]), uF1647], (cx_460q0g_0 (cx_460q0g_1 [])))
def cx_460q1i_0 (t : List (Int × Int)) : List (Int × Int) := ui0 :: ui408 :: (0, 0) :: ui54 :: ui768 :: ui1562 :: (0, 1) :: ui1564 :: t
def cx_460q1i_1 (t : List (Int × Int)) : List (Int × Int) := ui1564 :: (0, 2) :: ui1562 :: ui1562 :: ui1562 :: ui1562 :: ui1311 :: ui54 :: t
def cx_460q1i_2 (t : List (Int × Int)) : List (Int × Int) := ui306 :: (0, 7) :: (0, 6) :: (0, 1) :: ui50 :: (0, 5) :: ui54 :: ui70 :: t
def cx_460q1i_3 (t : List (Int × Int)) : List (Int × Int) := ui1563 :: ui1564 :: (0, 1) :: ui31 :: ui54 :: (1, 2) :: ui1562 :: t
def cx_460q1g_0 (t : List zTg) : List zTg := uG1632 :: uG1633 :: uG1654 :: uG1657 :: (41, [uL212, uL1660, uL1661]) :: t
def cx_460q1 : zS := ((cx_460q1i_0 (cx_460q1i_1 (cx_460q1i_2 (cx_460q1i_3 [])))), (cx_460pr_0 (cx_460pr_1 [])), [uL65], [], [], [(0, (false, 14, 0, []), 0, 0, 0, [(28, 1)]), (0, (false, 13, 0, []), 0, 0, 0, [(29, 1)]), uF1389, (0, (false, 39, 0, []), 0, 0, 0, [(30, 1)]), uF1647], (cx_460q1g_0 []))
/-- M.unit -/
def cx_460 : zCtx := (216, cx_460p, [cx_460q0, cx_460q1], [uk1408, uk1397, uk1398, uk1644, uk1645, uk1646], 60, 2, 41)
set_option maxRecDepth 1000000 in
theorem ck_460 : x_ok mLT1 [cx_416, cx_458, cx_406, cx_459, cx_409] mTS2 mTC2 mRUp cx_460 [(2, [0]), (19, [1]), (23, [2]), (78, [3]), (82, [2]), (90, [4])] [(0, [1000246]), (8, [1000340]), (19, [1000609]), (22, [1000256, 1000586]), (26, [1000341, 1000342, 1000588]), (64, [1000343]), (78, [1000609]), (81, [1000587]), (85, [1000344, 1000345, 1000588]), (88, uN1634)] [] (35, []) 25 38 = true := by decide +kernel
theorem sn_460 {W : Bool} {X : List Int32} : y_Snd (mGw W) mLT1 (J2 W X) X cx_460 := y_ok J2_J mTS2_ok1 mTC2_ok1 mRUp_ok1 (List.forall_mem_cons.mpr ⟨sn_416, List.forall_mem_cons.mpr ⟨sn_458, List.forall_mem_cons.mpr ⟨sn_406, List.forall_mem_cons.mpr ⟨sn_459, List.forall_mem_cons.mpr ⟨sn_409, fun _ h => absurd h List.not_mem_nil⟩⟩⟩⟩⟩) ck_460
/-- M.is -/
def cx_461 : zCtx := (202, ([ui0, ui1459, (0, 2), ui1311], [ur1299, ur1313], [], [], [uV2, (0, 0, 7, [])], [uF1389, uF1390, uF1239, uF1391], []), [([ui0, ui1459, (0, 0), (7, 7)], [ur1299, ur1313], [], [], [uV66], [], []), ([ui0, ui1459, (0, 0), (0, 6)], [ur1299, ur1313], [], [], [uV64], [], []), ([ui0, ui1459, (0, 0), (8, 41)], [ur1299, ur1313], [], [], [uV64], [], []), ([ui0, ui1459, (1, 2), ui1311], [ur1299, ur1313], [], [], [uV64], [], [])], [], 13, 0, 0)
set_option maxRecDepth 1000000 in
theorem ck_461 : x_ok mLT1 [] mTS2 mTC2 mRUp cx_461 [] [] [] (13, []) 0 16 = true := by decide +kernel
theorem sn_461 {W : Bool} {X : List Int32} : y_Snd (mGw W) mLT1 (J2 W X) X cx_461 := y_ok J2_J mTS2_ok1 mTC2_ok1 mRUp_ok1 (fun _ h => absurd h List.not_mem_nil) ck_461
def cx_462pi_0 (t : List (Int × Int)) : List (Int × Int) := ui0 :: (0, 0) :: ui1662 :: ui1562 :: (0, 1) :: ui1564 :: ui1564 :: (0, 2) :: t
def cx_462pi_1 (t : List (Int × Int)) : List (Int × Int) := ui1562 :: ui1562 :: ui1562 :: ui1663 :: ui54 :: ui70 :: ui1563 :: ui1564 :: t
def cx_462pi_2 (t : List (Int × Int)) : List (Int × Int) := (0, 5) :: (0, 1) :: ui31 :: t
def cx_462p : zS := ((cx_462pi_0 (cx_462pi_1 (cx_462pi_2 []))), (cx_457pr_0 (cx_457pr_1 [])), [uL475, uL1635, uL1636], [], [uV2, uV391, uV11], (cx_458pf_0 (cx_458pf_1 [])), [uG1637, uG1638, uG1639, uG1641])
def cx_462q0g_0 (t : List zTg) : List zTg := uG1664 :: uG1637 :: uG1638 :: uG1639 :: uG1641 :: uG1639 :: t
def cx_462q0 : zS := ((cx_462pi_0 (cx_462pi_1 (cx_462pi_2 []))), (cx_457pr_0 (cx_457pr_1 [])), [], [], [], [uF1642, uF1643, uF1665], (cx_462q0g_0 []))
/-- M.emit -/
def cx_462 : zCtx := (217, cx_462p, [cx_462q0], [uk1644, uk1645, uk1646], 19, 0, 0)
set_option maxRecDepth 1000000 in
theorem ck_462 : x_ok mLT1 [] mTS2 mTC2 mRUp cx_462 [] [(30, [7])] [] (19, []) 0 22 = true := by decide +kernel
theorem sn_462 {W : Bool} {X : List Int32} : y_Snd (mGw W) mLT1 (J2 W X) X cx_462 := y_ok J2_J mTS2_ok1 mTC2_ok1 mRUp_ok1 (fun _ h => absurd h List.not_mem_nil) ck_462
def cx_463p : zS := ((cx_462pi_0 (cx_462pi_1 (cx_462pi_2 []))), (cx_457pr_0 (cx_457pr_1 [])), [uL475, uL1635, uL1636], [], [uV2, uV387, uV11], (cx_458pf_0 (cx_458pf_1 [])), [uG1637, uG1638, uG1639, uG1641])
def cx_463q0 : zS := ((cx_462pi_0 (cx_462pi_1 (cx_462pi_2 []))), (cx_457pr_0 (cx_457pr_1 [])), [], [], [], [uF1642, uF1643, uF1666], (cx_462q0g_0 []))
/-- M.emit -/
def cx_463 : zCtx := (217, cx_463p, [cx_463q0], [uk1644, uk1645, uk1646], 19, 0, 0)
set_option maxRecDepth 1000000 in
theorem ck_463 : x_ok mLT1 [] mTS2 mTC2 mRUp cx_463 [] [(30, [7])] [] (19, []) 0 22 = true := by decide +kernel
theorem sn_463 {W : Bool} {X : List Int32} : y_Snd (mGw W) mLT1 (J2 W X) X cx_463 := y_ok J2_J mTS2_ok1 mTC2_ok1 mRUp_ok1 (fun _ h => absurd h List.not_mem_nil) ck_463
def cx_464p : zS := ((cx_462pi_0 (cx_462pi_1 (cx_462pi_2 []))), (cx_457pr_0 (cx_457pr_1 [])), [uL475, uL1635, uL1636], [], [uV2, uV383, uV11], (cx_458pf_0 (cx_458pf_1 [])), [uG1637, uG1638, uG1639, uG1641])
def cx_464q0 : zS := ((cx_462pi_0 (cx_462pi_1 (cx_462pi_2 []))), (cx_457pr_0 (cx_457pr_1 [])), [], [], [], [uF1642, uF1643, uF1667], (cx_462q0g_0 []))
/-- M.emit -/
def cx_464 : zCtx := (217, cx_464p, [cx_464q0], [uk1644, uk1645, uk1646], 19, 0, 0)
set_option maxRecDepth 1000000 in
theorem ck_464 : x_ok mLT1 [] mTS2 mTC2 mRUp cx_464 [] [(30, [7])] [] (19, []) 0 22 = true := by decide +kernel
theorem sn_464 {W : Bool} {X : List Int32} : y_Snd (mGw W) mLT1 (J2 W X) X cx_464 := y_ok J2_J mTS2_ok1 mTC2_ok1 mRUp_ok1 (fun _ h => absurd h List.not_mem_nil) ck_464
def cx_465p : zS := ((cx_462pi_0 (cx_462pi_1 (cx_462pi_2 []))), (cx_457pr_0 (cx_457pr_1 [])), [uL475, uL1635, uL1636], [], [uV2, uV3, uV11], (cx_458pf_0 (cx_458pf_1 [])), [uG1637, uG1638, uG1639, uG1641])
def cx_465q0 : zS := ((cx_462pi_0 (cx_462pi_1 (cx_462pi_2 []))), (cx_457pr_0 (cx_457pr_1 [])), [], [], [], [uF1642, uF1643, uF1668], (cx_462q0g_0 []))
/-- M.emit -/
def cx_465 : zCtx := (217, cx_465p, [cx_465q0], [uk1644, uk1645, uk1646], 19, 0, 0)
set_option maxRecDepth 1000000 in
theorem ck_465 : x_ok mLT1 [] mTS2 mTC2 mRUp cx_465 [] [(30, [7])] [] (19, []) 0 22 = true := by decide +kernel
theorem sn_465 {W : Bool} {X : List Int32} : y_Snd (mGw W) mLT1 (J2 W X) X cx_465 := y_ok J2_J mTS2_ok1 mTC2_ok1 mRUp_ok1 (fun _ h => absurd h List.not_mem_nil) ck_465
def cx_466pi_0 (t : List (Int × Int)) : List (Int × Int) := ui0 :: ui1669 :: ui1670 :: ui1562 :: (0, 1) :: ui1564 :: ui1564 :: (0, 2) :: t
def cx_466pi_1 (t : List (Int × Int)) : List (Int × Int) := ui1562 :: ui1562 :: (1, 8) :: (0, 3) :: ui1562 :: ui54 :: ui70 :: ui1564 :: t
def cx_466pi_2 (t : List (Int × Int)) : List (Int × Int) := (0, 1) :: ui31 :: t
def cx_466pf_0 (t : List zFa) : List zFa := uF1671 :: uF1672 :: uF1607 :: uF1608 :: uF1609 :: uF1610 :: uF1611 :: uF1612 :: t
def cx_466pf_1 (t : List zFa) : List zFa := uF1613 :: uF1614 :: uF1615 :: uF1616 :: t
def cx_466pg_0 (t : List zTg) : List zTg := uG1637 :: uG1673 :: uG1674 :: (216, [uL210, uL211, uL100, uL9, uL69, uL212, uL65]) :: uG1675 :: t
def cx_466p : zS := ((cx_466pi_0 (cx_466pi_1 (cx_466pi_2 []))), (cx_453pr_0 (cx_453pr_1 [])), [uL573, uL1676, uL1677, uL1678], [], [uV2, uV64], (cx_466pf_0 (cx_466pf_1 [])), (cx_466pg_0 []))
def cx_466q0i_0 (t : List (Int × Int)) : List (Int × Int) := ui0 :: ui1669 :: ui1670 :: ui1562 :: (0, 1) :: ui1564 :: ui1564 :: (0, 2) :: t
def cx_466q0i_1 (t : List (Int × Int)) : List (Int × Int) := ui1562 :: ui1562 :: (1, 8) :: (0, 0) :: ui1562 :: ui54 :: ui70 :: ui1564 :: t
def cx_466q0i_2 (t : List (Int × Int)) : List (Int × Int) := (0, 1) :: ui31 :: t
def cx_466q0g_0 (t : List zTg) : List zTg := uG1637 :: uG1675 :: uG1679 :: uG1674 :: (216, [uL210, uL211, uL100, uL9, uL69, uL212, uL36]) :: t
def cx_466q0 : zS := ((cx_466q0i_0 (cx_466q0i_1 (cx_466q0i_2 []))), (cx_453pr_0 (cx_453pr_1 [])), [uL1677, uL65, uL573], [], [], [uF1672, uF1671], (cx_466q0g_0 []))
def cx_466q1i_0 (t : List (Int × Int)) : List (Int × Int) := ui0 :: ui1669 :: ui1680 :: ui1562 :: (0, 1) :: ui1564 :: ui1564 :: (0, 2) :: t
def cx_466q1i_1 (t : List (Int × Int)) : List (Int × Int) := ui1562 :: ui1562 :: (1, 8) :: (1, 3) :: ui1562 :: ui54 :: ui70 :: ui1564 :: t
def cx_466q1i_2 (t : List (Int × Int)) : List (Int × Int) := (0, 1) :: ui31 :: ui1681 :: t
def cx_466q1g_0 (t : List zTg) : List zTg := uG1637 :: uG1675 :: (1, [uL279, uL173, uL65]) :: uG1683 :: (216, [uL210, uL211, uL100, uL1682, uL279, uL212, uL36]) :: t
def cx_466q1 : zS := ((cx_466q1i_0 (cx_466q1i_1 (cx_466q1i_2 []))), (cx_453pr_0 (cx_453pr_1 [])), [uL1684, uL1685, uL1686], [], [], [uF1687, uF1688], (cx_466q1g_0 []))
/-- M.comesOut -/
def cx_466 : zCtx := (218, cx_466p, [cx_466q0, cx_466q1], [uk1644, uk1620, uk1645, uk1646], 107, 1, 22)
def cz_466_0i_0 (t : List (Int × Int)) : List (Int × Int) := ui0 :: ui1669 :: ui1680 :: ui1562 :: (0, 1) :: ui1564 :: ui1564 :: (0, 2) :: t
def cz_466_0i_1 (t : List (Int × Int)) : List (Int × Int) := ui1562 :: ui1562 :: (1, 8) :: (1, 3) :: ui1562 :: ui54 :: ui70 :: ui1564 :: t
def cz_466_0i_2 (t : List (Int × Int)) : List (Int × Int) := (0, 1) :: ui31 :: ui1689 :: ui1681 :: (0, 3) :: t
def cz_466_0f_0 (t : List zFa) : List zFa := (0, (false, 43, 0, []), 0, 0, 0, [(19, 1)]) :: uF1607 :: uF1608 :: uF1609 :: uF1610 :: uF1611 :: uF1612 :: uF1613 :: t
def cz_466_0f_1 (t : List zFa) : List zFa := uF1614 :: uF1615 :: uF1616 :: (0, (false, 39, 0, []), 0, 0, 0, [(1, 1), (2, 1), (19, (-1))]) :: t
def cz_466_0g_0 (t : List zTg) : List zTg := uG1637 :: uG1675 :: uG1690 :: uG1692 :: (216, [uL210, uL211, uL100, uL1691, uL355, uL212, uL116]) :: t
def cz_466_0 : zS := ((cz_466_0i_0 (cz_466_0i_1 (cz_466_0i_2 []))), (cx_453pr_0 (cx_453pr_1 [])), [uL1693, uL1694, uL1695, uL573, uL1676, uL1677, uL1678, uL1696], [uV2, uV64, uV1697], [], (cz_466_0f_0 (cz_466_0f_1 [])), (cz_466_0g_0 []))
set_option maxRecDepth 1000000 in
theorem ck_466 : x_ok mLT1 [cx_462, cx_463, cx_464, cx_465] mTS2 mTC2 mRUp cx_466 [(85, [0, 1, 2, 3])] [(0, uN1698), (4, [3]), (17, [2]), (41, uN1699), (88, uN1700)] [(0, cz_466_0, (15, [(20, 35)]))] (88, []) 19 40 = true := by decide +kernel
theorem sn_466 {W : Bool} {X : List Int32} : y_Snd (mGw W) mLT1 (J2 W X) X cx_466 := y_ok J2_J mTS2_ok1 mTC2_ok1 mRUp_ok1 (List.forall_mem_cons.mpr ⟨sn_462, List.forall_mem_cons.mpr ⟨sn_463, List.forall_mem_cons.mpr ⟨sn_464, List.forall_mem_cons.mpr ⟨sn_465, fun _ h => absurd h List.not_mem_nil⟩⟩⟩⟩) ck_466
/-- M.is -/
def cx_467 : zCtx := (202, ([ui0, ui1459, (0, 2), ui1311], [ur1299, ur1313], [], [], [uV2, (0, 0, 8, [])], [uF1389, uF1390, uF1239, uF1391], []), [([ui0, ui1459, (0, 0), (8, 8)], [ur1299, ur1313], [], [], [uV66], [], []), ([ui0, ui1459, (0, 0), (0, 7)], [ur1299, ur1313], [], [], [uV64], [], []), ([ui0, ui1459, (0, 0), (9, 41)], [ur1299, ur1313], [], [], [uV64], [], []), ([ui0, ui1459, (1, 2), ui1311], [ur1299, ur1313], [], [], [uV64], [], [])], [], 13, 0, 0)
set_option maxRecDepth 1000000 in
theorem ck_467 : x_ok mLT1 [] mTS2 mTC2 mRUp cx_467 [] [] [] (13, []) 0 16 = true := by decide +kernel
theorem sn_467 {W : Bool} {X : List Int32} : y_Snd (mGw W) mLT1 (J2 W X) X cx_467 := y_ok J2_J mTS2_ok1 mTC2_ok1 mRUp_ok1 (fun _ h => absurd h List.not_mem_nil) ck_467
/-- M.is -/
def cx_468 : zCtx := (202, ([ui0, ui1459, (0, 2), ui1311], [ur1299, ur1313], [], [], [uV2, uV122], [uF1389, uF1390, uF1239, uF1391], []), [([ui0, ui1459, (0, 0), (9, 9)], [ur1299, ur1313], [], [], [uV66], [], []), ([ui0, ui1459, (0, 0), (0, 8)], [ur1299, ur1313], [], [], [uV64], [], []), ([ui0, ui1459, (0, 0), (10, 41)], [ur1299, ur1313], [], [], [uV64], [], []), ([ui0, ui1459, (1, 2), ui1311], [ur1299, ur1313], [], [], [uV64], [], [])], [], 13, 0, 0)
set_option maxRecDepth 1000000 in
theorem ck_468 : x_ok mLT1 [] mTS2 mTC2 mRUp cx_468 [] [] [] (13, []) 0 16 = true := by decide +kernel
theorem sn_468 {W : Bool} {X : List Int32} : y_Snd (mGw W) mLT1 (J2 W X) X cx_468 := y_ok J2_J mTS2_ok1 mTC2_ok1 mRUp_ok1 (fun _ h => absurd h List.not_mem_nil) ck_468
/-- M.is -/
def cx_469 : zCtx := (202, ([ui0, ui1459, (0, 2), ui1311], [ur1299, ur1313], [], [], [uV2, (0, 0, 10, [])], [uF1389, uF1390, uF1239, uF1391], []), [([ui0, ui1459, (0, 0), ui1701], [ur1299, ur1313], [], [], [uV66], [], []), ([ui0, ui1459, (0, 0), (0, 9)], [ur1299, ur1313], [], [], [uV64], [], []), ([ui0, ui1459, (0, 0), (11, 41)], [ur1299, ur1313], [], [], [uV64], [], []), ([ui0, ui1459, (1, 2), ui1311], [ur1299, ur1313], [], [], [uV64], [], [])], [], 13, 0, 0)
set_option maxRecDepth 1000000 in
theorem ck_469 : x_ok mLT1 [] mTS2 mTC2 mRUp cx_469 [] [] [] (13, []) 0 16 = true := by decide +kernel
theorem sn_469 {W : Bool} {X : List Int32} : y_Snd (mGw W) mLT1 (J2 W X) X cx_469 := y_ok J2_J mTS2_ok1 mTC2_ok1 mRUp_ok1 (fun _ h => absurd h List.not_mem_nil) ck_469
/-- M.is -/
def cx_470 : zCtx := (202, ([ui0, ui1459, (0, 2), ui1311], [ur1299, ur1313], [], [], [uV2, (0, 0, 15, [])], [uF1389, uF1390, uF1239, uF1391], []), [([ui0, ui1459, (0, 0), ui1702], [ur1299, ur1313], [], [], [uV66], [], []), ([ui0, ui1459, (0, 0), (0, 14)], [ur1299, ur1313], [], [], [uV64], [], []), ([ui0, ui1459, (0, 0), (16, 41)], [ur1299, ur1313], [], [], [uV64], [], []), ([ui0, ui1459, (1, 2), ui1311], [ur1299, ur1313], [], [], [uV64], [], [])], [], 13, 0, 0)
set_option maxRecDepth 1000000 in
theorem ck_470 : x_ok mLT1 [] mTS2 mTC2 mRUp cx_470 [] [] [] (13, []) 0 16 = true := by decide +kernel
theorem sn_470 {W : Bool} {X : List Int32} : y_Snd (mGw W) mLT1 (J2 W X) X cx_470 := y_ok J2_J mTS2_ok1 mTC2_ok1 mRUp_ok1 (fun _ h => absurd h List.not_mem_nil) ck_470
def cx_471pi_0 (t : List (Int × Int)) : List (Int × Int) := ui0 :: (0, 0) :: ui1662 :: ui1562 :: (0, 1) :: ui1564 :: ui1564 :: (0, 2) :: t
def cx_471pi_1 (t : List (Int × Int)) : List (Int × Int) := ui1562 :: ui1562 :: ui1562 :: ui1663 :: (0, 1) :: ui31 :: t
def cx_471p : zS := ((cx_471pi_0 (cx_471pi_1 [])), (cx_457pr_0 (cx_457pr_1 [])), [uL475, uL1635, uL1636], [], [uV2, uV391, uV11], (cx_458pf_0 (cx_458pf_1 [])), [uG1637, uG1638, uG1703])
def cx_471q0 : zS := ((cx_471pi_0 (cx_471pi_1 [])), (cx_457pr_0 (cx_457pr_1 [])), [], [], [], [uF1642, uF1643, uF1665], [uG1664, uG1637, uG1638, uG1703])
/-- M.emit -/
def cx_471 : zCtx := (217, cx_471p, [cx_471q0], [uk1644, uk1645, uk1646], 19, 0, 0)
set_option maxRecDepth 1000000 in
theorem ck_471 : x_ok mLT1 [] mTS2 mTC2 mRUp cx_471 [] [(30, [7])] [] (19, []) 0 22 = true := by decide +kernel
theorem sn_471 {W : Bool} {X : List Int32} : y_Snd (mGw W) mLT1 (J2 W X) X cx_471 := y_ok J2_J mTS2_ok1 mTC2_ok1 mRUp_ok1 (fun _ h => absurd h List.not_mem_nil) ck_471
def cx_472p : zS := ((cx_471pi_0 (cx_471pi_1 [])), (cx_457pr_0 (cx_457pr_1 [])), [uL475, uL1635, uL1636], [], [uV2, uV387, uV11], (cx_458pf_0 (cx_458pf_1 [])), [uG1637, uG1638, uG1703])
def cx_472q0 : zS := ((cx_471pi_0 (cx_471pi_1 [])), (cx_457pr_0 (cx_457pr_1 [])), [], [], [], [uF1642, uF1643, uF1666], [uG1664, uG1637, uG1638, uG1703])
/-- M.emit -/
def cx_472 : zCtx := (217, cx_472p, [cx_472q0], [uk1644, uk1645, uk1646], 19, 0, 0)
set_option maxRecDepth 1000000 in
theorem ck_472 : x_ok mLT1 [] mTS2 mTC2 mRUp cx_472 [] [(30, [7])] [] (19, []) 0 22 = true := by decide +kernel
theorem sn_472 {W : Bool} {X : List Int32} : y_Snd (mGw W) mLT1 (J2 W X) X cx_472 := y_ok J2_J mTS2_ok1 mTC2_ok1 mRUp_ok1 (fun _ h => absurd h List.not_mem_nil) ck_472
def cx_473p : zS := ((cx_471pi_0 (cx_471pi_1 [])), (cx_457pr_0 (cx_457pr_1 [])), [uL475, uL1635, uL1636], [], [uV2, uV383, uV11], (cx_458pf_0 (cx_458pf_1 [])), [uG1637, uG1638, uG1703])
def cx_473q0 : zS := ((cx_471pi_0 (cx_471pi_1 [])), (cx_457pr_0 (cx_457pr_1 [])), [], [], [], [uF1642, uF1643, uF1667], [uG1664, uG1637, uG1638, uG1703])
/-- M.emit -/
def cx_473 : zCtx := (217, cx_473p, [cx_473q0], [uk1644, uk1645, uk1646], 19, 0, 0)
set_option maxRecDepth 1000000 in
theorem ck_473 : x_ok mLT1 [] mTS2 mTC2 mRUp cx_473 [] [(30, [7])] [] (19, []) 0 22 = true := by decide +kernel
theorem sn_473 {W : Bool} {X : List Int32} : y_Snd (mGw W) mLT1 (J2 W X) X cx_473 := y_ok J2_J mTS2_ok1 mTC2_ok1 mRUp_ok1 (fun _ h => absurd h List.not_mem_nil) ck_473
def cx_474p : zS := ((cx_471pi_0 (cx_471pi_1 [])), (cx_457pr_0 (cx_457pr_1 [])), [uL475, uL1635, uL1636], [], [uV2, uV3, uV11], (cx_458pf_0 (cx_458pf_1 [])), [uG1637, uG1638, uG1703])
def cx_474q0 : zS := ((cx_471pi_0 (cx_471pi_1 [])), (cx_457pr_0 (cx_457pr_1 [])), [], [], [], [uF1642, uF1643, uF1668], [uG1664, uG1637, uG1638, uG1703])
/-- M.emit -/
def cx_474 : zCtx := (217, cx_474p, [cx_474q0], [uk1644, uk1645, uk1646], 19, 0, 0)
set_option maxRecDepth 1000000 in
theorem ck_474 : x_ok mLT1 [] mTS2 mTC2 mRUp cx_474 [] [(30, [7])] [] (19, []) 0 22 = true := by decide +kernel
theorem sn_474 {W : Bool} {X : List Int32} : y_Snd (mGw W) mLT1 (J2 W X) X cx_474 := y_ok J2_J mTS2_ok1 mTC2_ok1 mRUp_ok1 (fun _ h => absurd h List.not_mem_nil) ck_474
def cx_475pi_0 (t : List (Int × Int)) : List (Int × Int) := ui0 :: ui1704 :: ui98 :: ui1562 :: (0, 1) :: ui1564 :: ui1564 :: (0, 2) :: t
def cx_475pi_1 (t : List (Int × Int)) : List (Int × Int) := ui1562 :: ui1562 :: (0, 8) :: (0, 3) :: ui1562 :: (0, 1) :: ui31 :: t
def cx_475p : zS := ((cx_475pi_0 (cx_475pi_1 [])), (cx_453pr_0 (cx_453pr_1 [])), [uL573, uL1676, uL1677, uL1678], [], [uV2, uV64], (cx_466pf_0 (cx_466pf_1 [])), [uG1637, uG1673, uG1674, uG1705])
def cx_475q0i_0 (t : List (Int × Int)) : List (Int × Int) := ui0 :: ui1704 :: ui1681 :: ui1562 :: (0, 1) :: ui1564 :: ui1564 :: (0, 2) :: t
def cx_475q0i_1 (t : List (Int × Int)) : List (Int × Int) := ui1562 :: ui1562 :: (1, 8) :: (0, 0) :: ui1562 :: (0, 1) :: ui31 :: t
def cx_475q0 : zS := ((cx_475q0i_0 (cx_475q0i_1 [])), (cx_453pr_0 (cx_453pr_1 [])), [uL1677, uL65, uL573], [], [], [uF1672, uF1671], [uG1637, uG1705, uG1679, uG1674])
def cx_475q1i_0 (t : List (Int × Int)) : List (Int × Int) := ui0 :: ui1704 :: (0, 0) :: ui1562 :: (0, 1) :: ui1564 :: ui1564 :: (0, 2) :: t
def cx_475q1i_1 (t : List (Int × Int)) : List (Int × Int) := ui1562 :: ui1562 :: (0, 8) :: (0, 3) :: ui1562 :: (0, 1) :: ui31 :: t
def cx_475q1 : zS := ((cx_475q1i_0 (cx_475q1i_1 [])), (cx_453pr_0 (cx_453pr_1 [])), [uL1677, uL65, uL573], [], [], [uF1672, uF1671], [uG1637, uG1705, uG1679, uG1674])
def cx_475q2i_0 (t : List (Int × Int)) : List (Int × Int) := ui0 :: ui1704 :: ui1681 :: ui1562 :: (0, 1) :: ui1564 :: ui1564 :: (0, 2) :: t
def cx_475q2i_1 (t : List (Int × Int)) : List (Int × Int) := ui1562 :: ui1562 :: (1, 8) :: (1, 3) :: ui1562 :: (0, 1) :: ui31 :: ui1160 :: t
def cx_475q2 : zS := ((cx_475q2i_0 (cx_475q2i_1 [])), (cx_453pr_0 (cx_453pr_1 [])), [uL1706, uL1707, uL1708], [], [], [uF1709, uF1710], [uG1637, uG1705, uG1711, uG1712])
def cx_475q3i_0 (t : List (Int × Int)) : List (Int × Int) := ui0 :: ui1704 :: ui1681 :: ui1562 :: (0, 1) :: ui1564 :: ui1564 :: (0, 2) :: t
def cx_475q3i_1 (t : List (Int × Int)) : List (Int × Int) := ui1562 :: ui1562 :: (0, 8) :: (1, 3) :: ui1562 :: (0, 1) :: ui31 :: (0, 0) :: t
def cx_475q3 : zS := ((cx_475q3i_0 (cx_475q3i_1 [])), (cx_453pr_0 (cx_453pr_1 [])), [uL1706, uL1707, uL1708], [], [], [uF1709, uF1710], [uG1637, uG1705, uG1711, uG1712])
/-- M.comesOut -/
def cx_475 : zCtx := (218, cx_475p, [cx_475q0, cx_475q1, cx_475q2, cx_475q3], [uk1644, uk1620, uk1645, uk1646], 107, 1, 22)
def cz_475_0i_0 (t : List (Int × Int)) : List (Int × Int) := ui0 :: ui1704 :: ui1681 :: ui1562 :: (0, 1) :: ui1564 :: ui1564 :: (0, 2) :: t
def cz_475_0i_1 (t : List (Int × Int)) : List (Int × Int) := ui1562 :: ui1562 :: (0, 8) :: (1, 3) :: ui1562 :: (0, 1) :: ui31 :: ui1689 :: t
def cz_475_0i_2 (t : List (Int × Int)) : List (Int × Int) := ui50 :: (0, 3) :: t
def cz_475_0f_0 (t : List zFa) : List zFa := uF1713 :: uF1607 :: uF1608 :: uF1609 :: uF1610 :: uF1611 :: uF1612 :: uF1613 :: t
def cz_475_0f_1 (t : List zFa) : List zFa := uF1614 :: uF1615 :: uF1616 :: (0, (false, 39, 0, []), 0, 0, 0, [(1, 1), (2, 1), (16, (-1))]) :: t
def cz_475_0 : zS := ((cz_475_0i_0 (cz_475_0i_1 (cz_475_0i_2 []))), (cx_453pr_0 (cx_453pr_1 [])), [uL1714, uL1715, uL1716, uL573, uL1676, uL1677, uL1678, uL1717], [uV2, uV64, uV587], [], (cz_475_0f_0 (cz_475_0f_1 [])), [uG1637, uG1705, uG1718, uG1719])
set_option maxRecDepth 1000000 in
theorem ck_475 : x_ok mLT1 [cx_471, cx_472, cx_473, cx_474] mTS2 mTC2 mRUp cx_475 [(85, [0, 1, 2, 3])] [(0, uN1698), (4, [3]), (17, [2]), (41, uN1699), (88, uN1700), (91, uN1720)] [(0, cz_475_0, (15, [(17, 35)]))] (88, []) 19 40 = true := by decide +kernel
theorem sn_475 {W : Bool} {X : List Int32} : y_Snd (mGw W) mLT1 (J2 W X) X cx_475 := y_ok J2_J mTS2_ok1 mTC2_ok1 mRUp_ok1 (List.forall_mem_cons.mpr ⟨sn_471, List.forall_mem_cons.mpr ⟨sn_472, List.forall_mem_cons.mpr ⟨sn_473, List.forall_mem_cons.mpr ⟨sn_474, fun _ h => absurd h List.not_mem_nil⟩⟩⟩⟩) ck_475
end
