noncomputable section
/-! ===== readings, by program, checked by the kernel ===== -/
def cx_433p : zS := ([ui0, ui48, ui68, (0, 0), ui52, ui52, ui1343, ui52], [ur1331, ur1345, ur1346, ur1347, ur1348], [uL1443, (20, [(1, (-1))])], [], [uV2, uV11, uV192], (cx_414pf_0 (cx_414pf_1 [])), [uG1444, uG1445, (69, [uL104, uL67, uL9, uL661, uL79])])
/-- M.roomFor -/
def cx_433 : zCtx := (204, cx_433p, [([ui0, ui48, ui68, (0, 0), ui52, ui52, ui1343, ui52], [ur1331, ur1345, ur1346, ur1347, ur1348], [uL63], [], [], [uF1194, uF1429, uF1441], [uG1446, uG1446]), ([ui0, ui1252, ui147, (0, 0), ui52, ui52, ui1377, ui52], [ur1331, ur1345, ur1346, ur1347, ur1348], [uL65, uL63, uL63, (19, [(1, (-1))])], [], [], [uF1447, uF1442, uF1428], [uG1448, uG1449, uG1448])], [uk1440, uk1430, uk1431], 35, 2, 41)
set_option maxRecDepth 1000000 in
theorem ck_433 : x_ok mLT1 [cx_412, cx_413] mTS2 mTC2 mRUp cx_433 [(7, [0]), (18, [1])] [(5, [1000336]), (17, [1000337])] [] (10, []) 25 13 = true := by decide +kernel
theorem sn_433 {W : Bool} {X : List Int32} : y_Snd (mGw W) mLT1 (J2 W X) X cx_433 := y_ok J2_J mTS2_ok1 mTC2_ok1 mRUp_ok1 (List.forall_mem_cons.mpr ⟨sn_412, List.forall_mem_cons.mpr ⟨sn_413, fun _ h => absurd h List.not_mem_nil⟩⟩) ck_433
/-- M.wrong -/
def cx_434 : zCtx := (209, ([ui0, ui1454, (0, 0), (0, 0), ui52, ui52], [ur1331, ur1346], [], [], [uV2, uV381, uV11], [uF1423, uF1457, uF1458, uF1426, uF1432], []), [([ui0, ui1454, (0, 0), (0, 0), ui52, ui52], [ur1331, ur1346], [], [], [], [uF1459, uF1527], [])], [uk1461, uk1462], 18, 0, 0)
set_option maxRecDepth 1000000 in
theorem ck_434 : x_ok mLT1 [] mTS2 mTC2 mRUp cx_434 [] [] [] (18, []) 0 21 = true := by decide +kernel
theorem sn_434 {W : Bool} {X : List Int32} : y_Snd (mGw W) mLT1 (J2 W X) X cx_434 := y_ok J2_J mTS2_ok1 mTC2_ok1 mRUp_ok1 (fun _ h => absurd h List.not_mem_nil) ck_434
/-- M.wrong -/
def cx_435 : zCtx := (209, ([ui0, ui1454, (0, 0), (1, 5), ui91, ui52], [ur1331, ur1346], [uL1463], [], [uV2, uV381, uV11], [uF1423, uF1457, uF1458, uF1426, uF1432], []), [([ui0, ui1454, (0, 0), (1, 5), ui91, ui93], [ur1331, ur1346], [uL1463], [], [], [], [])], [], 16, 0, 0)
set_option maxRecDepth 1000000 in
theorem ck_435 : x_ok mLT1 [] mTS2 mTC2 mRUp cx_435 [] [] [] (16, []) 0 19 = true := by decide +kernel
theorem sn_435 {W : Bool} {X : List Int32} : y_Snd (mGw W) mLT1 (J2 W X) X cx_435 := y_ok J2_J mTS2_ok1 mTC2_ok1 mRUp_ok1 (fun _ h => absurd h List.not_mem_nil) ck_435
def cx_436pi_0 (t : List (Int × Int)) : List (Int × Int) := ui0 :: ui348 :: (0, 0) :: ui52 :: (0, 5) :: ui52 :: (0, 6) :: ui52 :: t
def cx_436pi_1 (t : List (Int × Int)) : List (Int × Int) := (0, 1) :: ui48 :: ui68 :: ui52 :: ui1343 :: t
def cx_436pf_0 (t : List zFa) : List zFa := uF1422 :: uF1423 :: uF1425 :: uF1467 :: uF1459 :: uF1528 :: uF259 :: uF1349 :: t
def cx_436pf_1 (t : List zFa) : List zFa := uF1350 :: uF1351 :: uF448 :: uF1472 :: uF1473 :: uF1474 :: uF1529 :: uF1113 :: t
def cx_436pf_2 (t : List zFa) : List zFa := (1, (true, 0, 0, [(1, 1)]), 0, 0, 0, [(12, 1)]) :: t
def cx_436p : zS := ((cx_436pi_0 (cx_436pi_1 [])), [ur1331, ur1345, ur1346, ur1347, ur1348, ur1381, ur1491], [], [], [uV2], (cx_436pf_0 (cx_436pf_1 (cx_436pf_2 []))), [uG1530, uG1531, uG1532])
def cx_436q0i_0 (t : List (Int × Int)) : List (Int × Int) := ui0 :: ui348 :: (0, 0) :: ui52 :: (0, 5) :: ui52 :: (0, 6) :: ui52 :: t
def cx_436q0i_1 (t : List (Int × Int)) : List (Int × Int) := (0, 1) :: ui48 :: ui68 :: ui52 :: ui1343 :: (1, 2) :: t
def cx_436q0 : zS := ((cx_436q0i_0 (cx_436q0i_1 [])), [ur1331, ur1345, ur1346, ur1347, ur1348, ur1381, ur1491], [uL63], [], [uV61], [uF1481, uF1533, uF1422, uF1467, uF1459, uF1474, uF1113], [uG1534, uG1535, uG1536])
def cx_436q1i_0 (t : List (Int × Int)) : List (Int × Int) := ui0 :: ui1454 :: (0, 0) :: ui52 :: (0, 5) :: ui52 :: (1, 6) :: ui52 :: t
def cx_436q1i_1 (t : List (Int × Int)) : List (Int × Int) := (0, 1) :: ui48 :: ui68 :: ui52 :: (1, 1) :: (0, 5) :: t
def cx_436q1g_0 (t : List zTg) : List zTg := uG1537 :: uG1538 :: uG1539 :: uG1540 :: uG1539 :: uG1538 :: uG1537 :: uG1541 :: t
def cx_436q1g_1 (t : List zTg) : List zTg := uG1540 :: t
def cx_436q1 : zS := ((cx_436q1i_0 (cx_436q1i_1 [])), [ur1331, ur1345, ur1346, ur1347, ur1348, ur1381, ur1491], [uL65, uL63, uL63], [], [uV409], [uF1438, uF1423, uF1425, uF1467, uF1459, uF1474, uF1113], (cx_436q1g_0 (cx_436q1g_1 [])))
def cx_436q2i_0 (t : List (Int × Int)) : List (Int × Int) := ui0 :: ui1454 :: (0, 0) :: ui52 :: (1, 5) :: ui91 :: (0, 6) :: ui52 :: t
def cx_436q2i_1 (t : List (Int × Int)) : List (Int × Int) := (0, 1) :: ui48 :: ui68 :: ui93 :: (1, 1) :: t
def cx_436q2g_0 (t : List zTg) : List zTg := uG1537 :: uG1538 :: uG1542 :: uG1539 :: uG1540 :: uG1539 :: uG1538 :: uG1537 :: t
def cx_436q2g_1 (t : List zTg) : List zTg := uG1542 :: uG1540 :: t
def cx_436q2 : zS := ((cx_436q2i_0 (cx_436q2i_1 [])), [ur1331, ur1345, ur1346, ur1347, ur1348, ur1381, ur1491], [uL65, uL63, uL63], [], [uV61], [uF1438, uF1423, uF1425, uF1467, uF1459, uF1474, uF1113], (cx_436q2g_0 (cx_436q2g_1 [])))
def cx_436q3i_0 (t : List (Int × Int)) : List (Int × Int) := ui0 :: ui1454 :: (0, 0) :: ui52 :: (0, 0) :: ui52 :: (0, 6) :: ui52 :: t
def cx_436q3i_1 (t : List (Int × Int)) : List (Int × Int) := (0, 1) :: ui48 :: ui68 :: ui52 :: (1, 1) :: t
def cx_436q3g_0 (t : List zTg) : List zTg := uG1537 :: uG1543 :: uG1542 :: uG1539 :: uG1540 :: uG1539 :: uG1543 :: uG1537 :: t
def cx_436q3g_1 (t : List zTg) : List zTg := uG1542 :: uG1540 :: t
def cx_436q3 : zS := ((cx_436q3i_0 (cx_436q3i_1 [])), [ur1331, ur1345, ur1346, ur1347, ur1348, ur1381, ur1491], [uL65, uL63, uL63], [], [uV61], [uF1526, uF1527, uF1438, uF1423, uF1425, uF1474, uF1113], (cx_436q3g_0 (cx_436q3g_1 [])))
/-- M.known -/
def cx_436 : zCtx := (212, cx_436p, [cx_436q0, cx_436q1, cx_436q2, cx_436q3], [uk1440, uk1430, uk1431, uk1461, uk1462], 157, 3, 62)
def cz_436_0i_0 (t : List (Int × Int)) : List (Int × Int) := ui0 :: ui1454 :: (0, 0) :: ui52 :: (0, 5) :: ui52 :: (0, 6) :: ui52 :: t
def cz_436_0i_1 (t : List (Int × Int)) : List (Int × Int) := (0, 1) :: ui48 :: ui68 :: ui52 :: (1, 1) :: (0, 6) :: t
def cz_436_0f_0 (t : List zFa) : List zFa := uF1438 :: uF1423 :: uF1425 :: uF1467 :: uF1459 :: uF1528 :: uF259 :: uF1349 :: t
def cz_436_0f_1 (t : List zFa) : List zFa := uF1350 :: uF1351 :: uF448 :: uF1472 :: uF1473 :: uF1474 :: uF1529 :: uF1113 :: t
def cz_436_0 : zS := ((cz_436_0i_0 (cz_436_0i_1 [])), [ur1331, ur1345, ur1346, ur1347, ur1348, ur1381, ur1491], [uL1544], [uV2, uV11, uV409], [], (cz_436_0f_0 (cz_436_0f_1 [])), [uG1530, uG1531, uG1532, uG1539, uG1545, uG1540])
set_option maxRecDepth 1000000 in
theorem ck_436 : x_ok mLT1 [cx_417, cx_434, cx_435] mTS2 mTC2 mRUp cx_436 [(7, [0]), (56, [1, 2])] [(0, uN1546), (10, [740]), (19, [1000291]), (41, [1000292]), (45, [1000293]), (46, uN1547), (47, uN1548), (53, uN1549), (59, [740]), (60, uN1547)] [(21, cz_436_0, ((-99999999888), [(2, (-100000000000)), (12, 100000000000), (13, (-17))]))] (124, []) 33 19 = true := by decide +kernel
theorem sn_436 {W : Bool} {X : List Int32} : y_Snd (mGw W) mLT1 (J2 W X) X cx_436 := y_ok J2_J mTS2_ok1 mTC2_ok1 mRUp_ok1 (List.forall_mem_cons.mpr ⟨sn_417, List.forall_mem_cons.mpr ⟨sn_434, List.forall_mem_cons.mpr ⟨sn_435, fun _ h => absurd h List.not_mem_nil⟩⟩⟩) ck_436
/-- M.must -/
def cx_437 : zCtx := (208, ([ui0, ui348, (1, 2), ui52, ui52], [ur1331], [], [], [uV2, uV64], [uF1422, uF1423, uF1425, uF178], [uG1490]), [([ui0, ui348, (1, 2), ui52, ui52], [ur1331], [], [], [], [], [])], [], 21, 1, 21)
set_option maxRecDepth 1000000 in
theorem ck_437 : x_ok mLT1 [cx_415, cx_421] mTS2 mTC2 mRUp cx_437 [(2, [0]), (17, [1])] [(15, uN1456)] [] (8, []) 13 11 = true := by decide +kernel
theorem sn_437 {W : Bool} {X : List Int32} : y_Snd (mGw W) mLT1 (J2 W X) X cx_437 := y_ok J2_J mTS2_ok1 mTC2_ok1 mRUp_ok1 (List.forall_mem_cons.mpr ⟨sn_415, List.forall_mem_cons.mpr ⟨sn_421, fun _ h => absurd h List.not_mem_nil⟩⟩) ck_437
/-- M.known -/
def cx_438 : zCtx := (212, ([ui0, ui348, (1, 2), ui52, (0, 5), ui52, (0, 6), ui52], [ur1331], [], [], [uV2], [uF1422, uF1423, uF1425, uF1467, uF1459, uF1528, uF259], [(41, [uL79, uL67, uL23])]), [([ui0, ui348, (1, 2), ui52, (0, 5), ui52, (0, 6), ui52], [ur1331], [], [], [uV61], [], [])], [], 32, 2, 42)
set_option maxRecDepth 1000000 in
theorem ck_438 : x_ok mLT1 [cx_437] mTS2 mTC2 mRUp cx_438 [(7, [0])] [(0, uN1546), (10, [740])] [] (11, []) 21 14 = true := by decide +kernel
theorem sn_438 {W : Bool} {X : List Int32} : y_Snd (mGw W) mLT1 (J2 W X) X cx_438 := y_ok J2_J mTS2_ok1 mTC2_ok1 mRUp_ok1 (List.forall_mem_cons.mpr ⟨sn_437, fun _ h => absurd h List.not_mem_nil⟩) ck_438
def cx_439pi_0 (t : List (Int × Int)) : List (Int × Int) := ui0 :: ui406 :: (0, 0) :: ui52 :: (0, 5) :: ui52 :: (0, 6) :: ui52 :: t
def cx_439pi_1 (t : List (Int × Int)) : List (Int × Int) := (0, 1) :: ui48 :: ui68 :: ui52 :: ui1343 :: t
def cx_439p : zS := ((cx_439pi_0 (cx_439pi_1 [])), [ur1331, ur1345, ur1346, ur1347, ur1348, ur1381, ur1491], [], [], [uV2], (cx_436pf_0 (cx_436pf_1 (cx_436pf_2 []))), [uG1530, uG1550, uG1532])
def cx_439q0i_0 (t : List (Int × Int)) : List (Int × Int) := ui0 :: ui406 :: (0, 0) :: ui52 :: (0, 5) :: ui52 :: (0, 6) :: ui52 :: t
def cx_439q0i_1 (t : List (Int × Int)) : List (Int × Int) := (0, 1) :: ui48 :: ui68 :: ui52 :: ui1343 :: (1, 2) :: t
def cx_439q0 : zS := ((cx_439q0i_0 (cx_439q0i_1 [])), [ur1331, ur1345, ur1346, ur1347, ur1348, ur1381, ur1491], [uL63], [], [uV61], [uF1481, uF1533, uF1422, uF1467, uF1459, uF1474, uF1113], [uG1534, uG1535, uG1536])
def cx_439q1i_0 (t : List (Int × Int)) : List (Int × Int) := ui0 :: ui1476 :: (0, 0) :: ui52 :: (0, 5) :: ui52 :: (1, 6) :: ui52 :: t
def cx_439q1i_1 (t : List (Int × Int)) : List (Int × Int) := (0, 1) :: ui48 :: ui68 :: ui52 :: (1, 1) :: (0, 5) :: t
def cx_439q1 : zS := ((cx_439q1i_0 (cx_439q1i_1 [])), [ur1331, ur1345, ur1346, ur1347, ur1348, ur1381, ur1491], [uL65, uL63, uL63], [], [uV409], [uF1438, uF1423, uF1425, uF1474, uF1113, uF1467, uF1459], [uG1539, uG1540, uG1539, uG1541, uG1540])
def cx_439q2i_0 (t : List (Int × Int)) : List (Int × Int) := ui0 :: ui1476 :: (0, 0) :: ui52 :: (1, 5) :: ui91 :: (0, 6) :: ui52 :: t
def cx_439q2i_1 (t : List (Int × Int)) : List (Int × Int) := (0, 1) :: ui48 :: ui68 :: ui93 :: (1, 1) :: t
def cx_439q2 : zS := ((cx_439q2i_0 (cx_439q2i_1 [])), [ur1331, ur1345, ur1346, ur1347, ur1348, ur1381, ur1491], [uL65, uL63, uL63], [], [uV61], [uF1438, uF1423, uF1425, uF1467, uF1459, uF1474, uF1113], [uG1542, uG1539, uG1540, uG1539, uG1542, uG1540])
def cx_439q3i_0 (t : List (Int × Int)) : List (Int × Int) := ui0 :: ui1476 :: (0, 0) :: ui52 :: (0, 0) :: ui52 :: (0, 6) :: ui52 :: t
def cx_439q3i_1 (t : List (Int × Int)) : List (Int × Int) := (0, 1) :: ui48 :: ui68 :: ui52 :: (1, 1) :: t
def cx_439q3 : zS := ((cx_439q3i_0 (cx_439q3i_1 [])), [ur1331, ur1345, ur1346, ur1347, ur1348, ur1381, ur1491], [uL65, uL63, uL63], [], [uV61], [uF1526, uF1527, uF1438, uF1423, uF1425, uF1474, uF1113], [uG1542, uG1539, uG1540, uG1539, uG1542, uG1540])
/-- M.known -/
def cx_439 : zCtx := (212, cx_439p, [cx_439q0, cx_439q1, cx_439q2, cx_439q3], [uk1440, uk1430, uk1431, uk1461, uk1462], 157, 3, 62)
def cz_439_0i_0 (t : List (Int × Int)) : List (Int × Int) := ui0 :: ui1476 :: (0, 0) :: ui52 :: (0, 5) :: ui52 :: (0, 6) :: ui52 :: t
def cz_439_0i_1 (t : List (Int × Int)) : List (Int × Int) := (0, 1) :: ui48 :: ui68 :: ui52 :: (1, 1) :: (0, 6) :: t
def cz_439_0 : zS := ((cz_439_0i_0 (cz_439_0i_1 [])), [ur1331, ur1345, ur1346, ur1347, ur1348, ur1381, ur1491], [uL1544], [uV2, uV11, uV409], [], (cz_436_0f_0 (cz_436_0f_1 [])), [uG1530, uG1550, uG1532, uG1539, uG1545, uG1540])
set_option maxRecDepth 1000000 in
theorem ck_439 : x_ok mLT1 [cx_417, cx_434, cx_435] mTS2 mTC2 mRUp cx_439 [(7, [0]), (56, [1, 2])] [(0, uN1546), (10, [740]), (19, [1000291]), (41, [1000292]), (45, [1000293]), (46, uN1547), (47, uN1548), (53, uN1549), (59, [740]), (60, uN1547)] [(21, cz_439_0, ((-99999999888), [(2, (-100000000000)), (12, 100000000000), (13, (-17))]))] (124, []) 33 19 = true := by decide +kernel
theorem sn_439 {W : Bool} {X : List Int32} : y_Snd (mGw W) mLT1 (J2 W X) X cx_439 := y_ok J2_J mTS2_ok1 mTC2_ok1 mRUp_ok1 (List.forall_mem_cons.mpr ⟨sn_417, List.forall_mem_cons.mpr ⟨sn_434, List.forall_mem_cons.mpr ⟨sn_435, fun _ h => absurd h List.not_mem_nil⟩⟩⟩) ck_439
/-- M.bounded -/
def cx_440 : zCtx := (210, ([ui0, ui348, (1, 2), ui52, (0, 5), ui52, ui52], [ur1331], [], [], [uV2, uV62, uV120], [uF1422, uF1423, uF1425, uF1467, uF1459, uF1468], [uG1469]), [([ui0, ui348, (1, 2), ui52, (0, 5), ui52, ui52], [ur1331], [], [], [uV62], [], [])], [], 12, 1, 21)
set_option maxRecDepth 1000000 in
theorem ck_440 : x_ok mLT1 [cx_421] mTS2 mTC2 mRUp cx_440 [(17, [0])] [(15, uN1470), (20, [740])] [] (8, []) 4 11 = true := by decide +kernel
theorem sn_440 {W : Bool} {X : List Int32} : y_Snd (mGw W) mLT1 (J2 W X) X cx_440 := y_ok J2_J mTS2_ok1 mTC2_ok1 mRUp_ok1 (List.forall_mem_cons.mpr ⟨sn_421, fun _ h => absurd h List.not_mem_nil⟩) ck_440
def cx_441p : zS := ((cx_428pi_0 (cx_428pi_1 [])), [ur1331, ur1345, ur1346, ur1347, ur1348, ur1381], [], [], [uV2, uV62, uV120], (cx_426pf_0 (cx_426pf_1 [])), [uG1475, (40, [uL78, uL9, uL260, uL63, uL63, uL79, uL164, uL98, uL104, uL170])])
def cx_441q1 : zS := ((cx_428q1i_0 (cx_428q1i_1 [])), [ur1331, ur1345, ur1346, ur1347, ur1348, ur1381], [uL65, uL63, uL63], [], [uV840], [uF1438, uF1423, uF1425, uF1477, uF1478, uF1474], [uG1479, uG1479, (40, [uL78, uL109, uL34, uL63, uL63, uL79, uL164, uL214, uL207, uL170]), uG1480])
/-- M.bounded -/
def cx_441 : zCtx := (210, cx_441p, [([ui0, ui1489, (0, 0), ui52, (0, 5), ui52, ui52, (0, 6), (0, 1), ui48, ui68, ui52], [ur1331, ur1345, ur1346, ur1347, ur1348, ur1381], [uL63], [], [uV62], [uF1481, uF1451, uF1422, uF1467, uF1459, uF1474], [uG1482]), cx_441q1, ([ui0, ui146, (0, 0), ui52, (0, 5), ui52, ui52, (0, 6), (0, 1), ui48, ui68, ui196, ui52, (0, 5), ui52], [ur1331, ur1345, ur1346, ur1347, ur1348, ur1381], [uL63], [], [uV840], [uF1140, uF1429, uF1422, uF1483, uF1484, uF1474], [uG1485])], [uk1440, uk1430, uk1431, uk1461, uk1462], 53, 2, 41)
set_option maxRecDepth 1000000 in
theorem ck_441 : x_ok mLT1 [cx_423, cx_416, cx_424, cx_425, cx_413] mTS2 mTC2 mRUp cx_441 [(9, [0]), (17, [1]), (48, [2, 3]), (52, [4])] [(8, uN1486), (12, [740]), (15, uN1470), (20, [740]), (31, uN1487), (42, uN1488), (51, [740]), (55, [740, 1000260, 1000261, 1000262, 1000263, 1000264, 1000265, 1000266, 1000267, 1000268, 1000269, 1000270, 1000271, 1000272, 1000273, 1000274, 1000275, 1000276, 1000277, 1000278, 1000279, 1000280, 1000281, 1000282, 1000283, 1000284, 1000285, 1000286, 1000287, 1000288])] [] (28, []) 25 31 = true := by decide +kernel
theorem sn_441 {W : Bool} {X : List Int32} : y_Snd (mGw W) mLT1 (J2 W X) X cx_441 := y_ok J2_J mTS2_ok1 mTC2_ok1 mRUp_ok1 (List.forall_mem_cons.mpr ⟨sn_423, List.forall_mem_cons.mpr ⟨sn_416, List.forall_mem_cons.mpr ⟨sn_424, List.forall_mem_cons.mpr ⟨sn_425, List.forall_mem_cons.mpr ⟨sn_413, fun _ h => absurd h List.not_mem_nil⟩⟩⟩⟩⟩) ck_441
def cx_442pi_0 (t : List (Int × Int)) : List (Int × Int) := ui0 :: ui348 :: (0, 0) :: ui52 :: (0, 5) :: ui52 :: (0, 1) :: (0, 6) :: t
def cx_442pi_1 (t : List (Int × Int)) : List (Int × Int) := ui1252 :: ui52 :: ui68 :: (0, 1) :: t
def cx_442pf_0 (t : List zFa) : List zFa := uF1422 :: uF1423 :: uF1425 :: uF1467 :: uF1459 :: uF1494 :: uF1471 :: (0, (false, 25, 0, []), 2, 1, 0, []) :: t
def cx_442pf_1 (t : List zFa) : List zFa := uF1551 :: uF307 :: uF1109 :: uF1110 :: uF1362 :: uF1363 :: uF1529 :: (0, (false, 26, 0, []), 2, 7, 0, []) :: t
def cx_442p : zS := ((cx_442pi_0 (cx_442pi_1 [])), [ur1331, ur1381, ur1345, ur1346, ur1347, ur1348, ur1491, ur1382], [], [], [uV2], (cx_442pf_0 (cx_442pf_1 [])), [(58, [uL164, uL9]), (40, [uL164, uL9, uL246, uL63, uL63, uL79, uL131, uL98, uL104, uL170]), (64, [uL164, uL9, uL79]), uG1552, uG1553])
def cx_442q0i_0 (t : List (Int × Int)) : List (Int × Int) := ui0 :: ui348 :: (0, 0) :: ui52 :: (0, 5) :: ui52 :: (0, 1) :: (0, 6) :: t
def cx_442q0i_1 (t : List (Int × Int)) : List (Int × Int) := ui1252 :: ui52 :: ui68 :: (0, 1) :: ui52 :: (1, 2) :: ui348 :: (0, 5) :: t
def cx_442q0i_2 (t : List (Int × Int)) : List (Int × Int) := ui52 :: ui52 :: ui52 :: t
def cx_442q0f_0 (t : List zFa) : List zFa := uF1140 :: uF1533 :: (0, (false, 11, 0, []), 0, 0, 0, [(14, 1)]) :: (0, (false, 15, 0, []), 0, 0, 0, [(15, 1)]) :: (0, (false, 16, 0, []), 0, 0, 0, [(16, 1)]) :: uF1551 :: uF1551 :: uF1551 :: t
def cx_442q0f_1 (t : List zFa) : List zFa := uF1554 :: uF1554 :: uF1551 :: (3, (true, 0, 0, [(14, 1)]), 0, 0, 0, [(18, 1)]) :: t
def cx_442q0 : zS := ((cx_442q0i_0 (cx_442q0i_1 (cx_442q0i_2 []))), [ur1331, ur1381, ur1345, ur1346, ur1347, ur1348, ur1491, ur1382], [(0, [(1, (-1)), (14, 1)])], [], [], (cx_442q0f_0 (cx_442q0f_1 [])), [uG1552, uG1553, (41, [uL164, uL207, uL214]), uG1552])
def cx_442q1i_0 (t : List (Int × Int)) : List (Int × Int) := ui0 :: ui1511 :: (0, 0) :: ui52 :: (0, 5) :: ui52 :: (0, 1) :: (0, 6) :: t
def cx_442q1i_1 (t : List (Int × Int)) : List (Int × Int) := ui1252 :: ui52 :: ui68 :: (0, 1) :: ui52 :: (0, 5) :: ui52 :: ui52 :: t
def cx_442q1i_2 (t : List (Int × Int)) : List (Int × Int) := ui52 :: t
def cx_442q1f_0 (t : List zFa) : List zFa := uF1512 :: uF1423 :: uF1425 :: (3, (true, 0, 3, [(1, 1)]), 0, 0, 0, [(12, 1)]) :: uF1483 :: uF1484 :: uF1555 :: uF1555 :: t
def cx_442q1f_1 (t : List zFa) : List zFa := uF1556 :: uF1556 :: (1, (true, 0, 0, [(6, 1)]), 0, 0, 1, [(8, 1)]) :: t
def cx_442q1g_0 (t : List zTg) : List zTg := uG1557 :: uG1558 :: uG1559 :: (58, [uL164, uL1519]) :: (58, [uL164, uL1520]) :: (64, [uL164, uL109, uL79]) :: (58, [uL164, uL109]) :: uG1552 :: t
def cx_442q1g_1 (t : List zTg) : List zTg := uG1559 :: (40, [uL164, uL1515, uL63, uL63, uL63, uL79, uL835, uL207, uL208, uL265]) :: uG1558 :: uG1552 :: uG1557 :: t
def cx_442q1 : zS := ((cx_442q1i_0 (cx_442q1i_1 (cx_442q1i_2 []))), [ur1331, ur1381, ur1345, ur1346, ur1347, ur1348, ur1491, ur1382], [uL36, uL211, (19, [(8, (-1))])], [], [], (cx_442q1f_0 (cx_442q1f_1 [])), (cx_442q1g_0 (cx_442q1g_1 [])))
/-- M.tellLikes -/
def cx_442 : zCtx := (211, cx_442p, [cx_442q0, cx_442q1], [uk1440, uk1430, uk1431, uk1461, uk1462, (59, true, 0), (60, true, 0)], 231, 4, 84)
def cq_442 : List zCtx := [cx_436, cx_438, cx_439, cx_418, cx_419, cx_440, cx_441, cx_430, cx_431]
def cs_442 : List (Nat × List Nat) := [(1, [0]), (11, [1, 2]), (34, [3, 4]), (41, [5, 6]), (48, [7, 8])]
def hs_442 : List (Nat × List Nat) := [(4, [740]), (14, [740]), (28, [1000012]), (31, [1000258, 1000306]), (37, [740, 1000298, 1000317, 1000318, 1000319, 1000320, 1000321]), (44, [740]), (46, [1000246, 1000322]), (51, [740, 1000314, 1000323]), (80, [1000302, 1000451, 1000452]), (101, [1000448]), (122, [1000449]), (123, [1000302, 1000450])]
def ns_442 : List zN := []
set_option maxRecDepth 1000000 in
theorem ca_442 : x_okA mLT1 cq_442 mTS2 mTC2 mRUp cx_442 cs_442 hs_442 ns_442 (74, []) 157 77 = true := by decide +kernel
set_option maxRecDepth 1000000 in
theorem cc_442 : x_okC mLT1 cq_442 mTS2 mTC2 mRUp cx_442 cs_442 hs_442 ns_442 (74, []) 157 77 = true := by decide +kernel
theorem ck_442 : x_ok mLT1 cq_442 mTS2 mTC2 mRUp cx_442 cs_442 hs_442 ns_442 (74, []) 157 77 = true := x_ok_of ca_442 (fun _ h => absurd h List.not_mem_nil) cc_442
theorem sn_442 {W : Bool} {X : List Int32} : y_Snd (mGw W) mLT1 (J2 W X) X cx_442 := y_ok J2_J mTS2_ok1 mTC2_ok1 mRUp_ok1 (List.forall_mem_cons.mpr ⟨sn_436, List.forall_mem_cons.mpr ⟨sn_438, List.forall_mem_cons.mpr ⟨sn_439, List.forall_mem_cons.mpr ⟨sn_418, List.forall_mem_cons.mpr ⟨sn_419, List.forall_mem_cons.mpr ⟨sn_440, List.forall_mem_cons.mpr ⟨sn_441, List.forall_mem_cons.mpr ⟨sn_430, List.forall_mem_cons.mpr ⟨sn_431, fun _ h => absurd h List.not_mem_nil⟩⟩⟩⟩⟩⟩⟩⟩⟩) ck_442
end
