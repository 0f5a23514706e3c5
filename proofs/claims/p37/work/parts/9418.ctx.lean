noncomputable section
/-! ===== readings, by program, checked by the kernel ===== -/
def cx_407pf_0 (t : List zFa) : List zFa := uF1409 :: uF1410 :: uF1395 :: uF1327 :: uF1239 :: uF1317 :: uF1318 :: uF450 :: t
def cx_407pf_1 (t : List zFa) : List zFa := (1, (true, 0, 0, [(2, 1)]), 0, 0, 0, [(6, 1)]) :: (2, (true, 0, 0, [(2, 1)]), 0, 0, 0, [(7, 1)]) :: t
def cx_407p : zS := ([ui0, (0, 6), ui70, (0, 0), ui54, ui54, ui1311, ui54], [ur1299, ur1313, ur1314, ur1315, ur1316], [uL1411, uL1129], [], [uV2, uV11, uV317], (cx_407pf_0 (cx_407pf_1 [])), [uG1412, uG1413, (69, [uL106, uL69, uL9, uL255, uL81])])
/-- M.roomFor -/
def cx_407 : zCtx := (204, cx_407p, [([ui0, (0, 6), ui70, (0, 0), ui54, ui54, ui1311, ui54], [ur1299, ur1313, ur1314, ur1315, ur1316], [uL65], [], [], [uF1414, uF1396, uF1409], [uG1415, uG1415]), ([ui0, (0, 5), ui149, (0, 0), ui54, ui54, ui1344, ui54], [ur1299, ur1313, ur1314, ur1315, ur1316], [uL67, uL65, uL65, (5, [(1, (-1))])], [], [], [uF1416, uF1410, uF1395], [uG1417, uG1418, uG1417])], [uk1408, uk1397, uk1398], 35, 2, 41)
set_option maxRecDepth 1000000 in
theorem ck_407 : x_ok mLT1 [cx_405, cx_406] mTS2 mTC2 mRUp cx_407 [(7, [0]), (18, [1])] [(5, [1000336]), (17, [1000337])] [] (10, []) 25 13 = true := by decide +kernel
theorem sn_407 {W : Bool} {X : List Int32} : y_Snd (mGw W) mLT1 (J2 W X) X cx_407 := y_ok J2_J mTS2_ok1 mTC2_ok1 mRUp_ok1 (List.forall_mem_cons.mpr ⟨sn_405, List.forall_mem_cons.mpr ⟨sn_406, fun _ h => absurd h List.not_mem_nil⟩⟩) ck_407
/-- M.is -/
def cx_408 : zCtx := (202, ([ui0, ui350, (0, 2), ui1311], [ur1299, ur1313], [], [], [uV2, uV66], [uF1389, uF1390, uF1239, uF1391], []), [([ui0, ui350, (0, 0), (1, 1)], [ur1299, ur1313], [], [], [uV66], [], []), ([ui0, ui350, (0, 0), (0, 0)], [ur1299, ur1313], [], [], [uV64], [], []), ([ui0, ui350, (0, 0), ui1419], [ur1299, ur1313], [], [], [uV64], [], []), ([ui0, ui350, (1, 2), ui1311], [ur1299, ur1313], [], [], [uV64], [], [])], [], 13, 0, 0)
set_option maxRecDepth 1000000 in
theorem ck_408 : x_ok mLT1 [] mTS2 mTC2 mRUp cx_408 [] [] [] (13, []) 0 16 = true := by decide +kernel
theorem sn_408 {W : Bool} {X : List Int32} : y_Snd (mGw W) mLT1 (J2 W X) X cx_408 := y_ok J2_J mTS2_ok1 mTC2_ok1 mRUp_ok1 (fun _ h => absurd h List.not_mem_nil) ck_408
/-- M.fail -/
def cx_409 : zCtx := (205, ([ui0, ui70, (0, 0), ui54, ui54], [ur1299, ur1314], [], [], [uV2, uV66], [uF1389, uF1390, uF1392, uF1393, uF1394], []), [([ui0, ui70, (0, 0), ui54, ui54], [ur1299, ur1314], [], [], [], [uF1395, uF1420], [])], [uk1397, uk1398], 14, 0, 0)
set_option maxRecDepth 1000000 in
theorem ck_409 : x_ok mLT1 [] mTS2 mTC2 mRUp cx_409 [] [] [] (14, []) 0 17 = true := by decide +kernel
theorem sn_409 {W : Bool} {X : List Int32} : y_Snd (mGw W) mLT1 (J2 W X) X cx_409 := y_ok J2_J mTS2_ok1 mTC2_ok1 mRUp_ok1 (fun _ h => absurd h List.not_mem_nil) ck_409
def cx_410p : zS := ([ui0, ui350, (0, 0), ui54, ui54, ui1311, ui54], [ur1299, ur1313, ur1314, ur1315, ur1316], [uL65], [], [uV2, uV66], (cx_406pf_0 (cx_406pf_1 [])), [uG1401, uG1402, (62, [uL100, uL9, uL67, uL106, uL80])])
/-- M.must -/
def cx_410 : zCtx := (208, cx_410p, [([ui0, ui350, (0, 0), ui54, ui54, ui1311, ui54, (1, 2)], [ur1299, ur1313, ur1314, ur1315, ur1316], [uL65], [], [], [uF1404, uF1421, uF1389], [uG1422]), ([ui0, ui1423, (0, 0), ui54, ui54, (1, 1), ui54], [ur1299, ur1313, ur1314, ur1315, ur1316], [uL67, uL1400, uL1424, uL65, uL65], [], [], [uF1406, uF1390, uF1392], [uG1407, uG1403, uG1407])], [uk1408, uk1397, uk1398], 33, 2, 41)
set_option maxRecDepth 1000000 in
theorem ck_410 : x_ok mLT1 [cx_408, cx_406, cx_409] mTS2 mTC2 mRUp cx_410 [(2, [0]), (9, [1]), (17, [2])] [(9, [1000243]), (15, uN1425)] [] (8, []) 25 11 = true := by decide +kernel
theorem sn_410 {W : Bool} {X : List Int32} : y_Snd (mGw W) mLT1 (J2 W X) X cx_410 := y_ok J2_J mTS2_ok1 mTC2_ok1 mRUp_ok1 (List.forall_mem_cons.mpr ⟨sn_408, List.forall_mem_cons.mpr ⟨sn_406, List.forall_mem_cons.mpr ⟨sn_409, fun _ h => absurd h List.not_mem_nil⟩⟩⟩) ck_410
/-- M.wrong -/
def cx_411 : zCtx := (209, ([ui0, ui1423, (0, 0), (0, 0), ui54, ui54], [ur1299, ur1314], [], [], [uV2, uV387, uV11], [uF1390, uF1426, uF1427, uF1393, uF1399], []), [([ui0, ui1423, (0, 0), (0, 0), ui54, ui54], [ur1299, ur1314], [], [], [], [uF1428, uF1429], [])], [uk1430, uk1431], 18, 0, 0)
set_option maxRecDepth 1000000 in
theorem ck_411 : x_ok mLT1 [] mTS2 mTC2 mRUp cx_411 [] [] [] (18, []) 0 21 = true := by decide +kernel
theorem sn_411 {W : Bool} {X : List Int32} : y_Snd (mGw W) mLT1 (J2 W X) X cx_411 := y_ok J2_J mTS2_ok1 mTC2_ok1 mRUp_ok1 (fun _ h => absurd h List.not_mem_nil) ck_411
/-- M.wrong -/
def cx_412 : zCtx := (209, ([ui0, ui1423, (0, 0), (1, 5), ui93, ui54], [ur1299, ur1314], [uL1432], [], [uV2, uV387, uV11], [uF1390, uF1426, uF1427, uF1393, uF1399], []), [([ui0, ui1423, (0, 0), (1, 5), ui93, ui95], [ur1299, ur1314], [uL1432], [], [], [], [])], [], 16, 0, 0)
set_option maxRecDepth 1000000 in
theorem ck_412 : x_ok mLT1 [] mTS2 mTC2 mRUp cx_412 [] [] [] (16, []) 0 19 = true := by decide +kernel
theorem sn_412 {W : Bool} {X : List Int32} : y_Snd (mGw W) mLT1 (J2 W X) X cx_412 := y_ok J2_J mTS2_ok1 mTC2_ok1 mRUp_ok1 (fun _ h => absurd h List.not_mem_nil) ck_412
/-- M.wrong -/
def cx_413 : zCtx := (209, ([ui0, ui1423, (0, 0), (3, 3), ui54, ui54], [ur1299, ur1314], [uL1433, uL1434, uL1435], [], [uV2, uV387, uV11], [uF1390, uF1426, uF1427, uF1393, uF1399], []), [([ui0, ui1423, (0, 0), (3, 3), ui54, ui54], [ur1299, ur1314], [uL1434, uL1433, uL1435], [], [], [], [])], [], 24, 0, 0)
set_option maxRecDepth 1000000 in
theorem ck_413 : x_ok mLT1 [] mTS2 mTC2 mRUp cx_413 [] [] [] (24, []) 0 27 = true := by decide +kernel
theorem sn_413 {W : Bool} {X : List Int32} : y_Snd (mGw W) mLT1 (J2 W X) X cx_413 := y_ok J2_J mTS2_ok1 mTC2_ok1 mRUp_ok1 (fun _ h => absurd h List.not_mem_nil) ck_413
/-- M.fail -/
def cx_414 : zCtx := (205, ([ui0, ui350, (1, 2), ui54, ui54], [ur1299, ur1314], [], [], [uV2, uV66], [uF1389, uF1390, uF1392, uF1393, uF1394], []), [([ui0, ui350, (1, 2), ui54, ui54], [ur1299, ur1314], [], [], [], [], [])], [], 4, 0, 0)
set_option maxRecDepth 1000000 in
theorem ck_414 : x_ok mLT1 [] mTS2 mTC2 mRUp cx_414 [] [] [] (4, []) 0 7 = true := by decide +kernel
theorem sn_414 {W : Bool} {X : List Int32} : y_Snd (mGw W) mLT1 (J2 W X) X cx_414 := y_ok J2_J mTS2_ok1 mTC2_ok1 mRUp_ok1 (fun _ h => absurd h List.not_mem_nil) ck_414
/-- M.bounded -/
def cx_415 : zCtx := (210, ([ui0, ui350, (1, 2), ui54, (0, 5), ui54, ui54], [ur1299], [], [], [uV2, uV64, uV195], [uF1389, uF1390, uF1392, uF1436, uF1428, uF1437], [uG1438]), [([ui0, ui350, (1, 2), ui54, (0, 5), ui54, ui54], [ur1299], [], [], [uV64], [], [])], [], 12, 1, 21)
set_option maxRecDepth 1000000 in
theorem ck_415 : x_ok mLT1 [cx_414] mTS2 mTC2 mRUp cx_415 [(17, [0])] [(15, uN1439), (20, [740])] [] (8, []) 4 11 = true := by decide +kernel
theorem sn_415 {W : Bool} {X : List Int32} : y_Snd (mGw W) mLT1 (J2 W X) X cx_415 := y_ok J2_J mTS2_ok1 mTC2_ok1 mRUp_ok1 (List.forall_mem_cons.mpr ⟨sn_414, fun _ h => absurd h List.not_mem_nil⟩) ck_415
/-- M.is -/
def cx_416 : zCtx := (202, ([ui0, ui350, (0, 2), ui1311], [ur1299, ur1313], [], [], [uV2, uV391], [uF1389, uF1390, uF1239, uF1391], []), [([ui0, ui350, (0, 0), (2, 2)], [ur1299, ur1313], [], [], [uV66], [], []), ([ui0, ui350, (0, 0), (0, 1)], [ur1299, ur1313], [], [], [uV64], [], []), ([ui0, ui350, (0, 0), (3, 41)], [ur1299, ur1313], [], [], [uV64], [], []), ([ui0, ui350, (1, 2), ui1311], [ur1299, ur1313], [], [], [uV64], [], [])], [], 13, 0, 0)
set_option maxRecDepth 1000000 in
theorem ck_416 : x_ok mLT1 [] mTS2 mTC2 mRUp cx_416 [] [] [] (13, []) 0 16 = true := by decide +kernel
theorem sn_416 {W : Bool} {X : List Int32} : y_Snd (mGw W) mLT1 (J2 W X) X cx_416 := y_ok J2_J mTS2_ok1 mTC2_ok1 mRUp_ok1 (fun _ h => absurd h List.not_mem_nil) ck_416
/-- M.wrong -/
def cx_417 : zCtx := (209, ([ui0, ui350, (0, 0), (0, 0), ui54, ui54], [ur1299, ur1314], [], [], [uV2, uV3, uV11], [uF1390, uF1426, uF1427, uF1393, uF1399], []), [([ui0, ui350, (0, 0), (0, 0), ui54, ui54], [ur1299, ur1314], [], [], [], [uF1428, (0, (false, 15, 0, []), 0, 0, 5, [])], [])], [uk1430, uk1431], 18, 0, 0)
set_option maxRecDepth 1000000 in
theorem ck_417 : x_ok mLT1 [] mTS2 mTC2 mRUp cx_417 [] [] [] (18, []) 0 21 = true := by decide +kernel
theorem sn_417 {W : Bool} {X : List Int32} : y_Snd (mGw W) mLT1 (J2 W X) X cx_417 := y_ok J2_J mTS2_ok1 mTC2_ok1 mRUp_ok1 (fun _ h => absurd h List.not_mem_nil) ck_417
/-- M.wrong -/
def cx_418 : zCtx := (209, ([ui0, ui350, (0, 0), (1, 5), ui93, ui54], [ur1299, ur1314], [uL1432], [], [uV2, uV3, uV11], [uF1390, uF1426, uF1427, uF1393, uF1399], []), [([ui0, ui350, (0, 0), (1, 5), ui93, ui95], [ur1299, ur1314], [uL1432], [], [], [], [])], [], 16, 0, 0)
set_option maxRecDepth 1000000 in
theorem ck_418 : x_ok mLT1 [] mTS2 mTC2 mRUp cx_418 [] [] [] (16, []) 0 19 = true := by decide +kernel
theorem sn_418 {W : Bool} {X : List Int32} : y_Snd (mGw W) mLT1 (J2 W X) X cx_418 := y_ok J2_J mTS2_ok1 mTC2_ok1 mRUp_ok1 (fun _ h => absurd h List.not_mem_nil) ck_418
def cx_419pi_0 (t : List (Int × Int)) : List (Int × Int) := ui0 :: ui408 :: (0, 0) :: ui54 :: (0, 5) :: ui54 :: ui54 :: (0, 6) :: t
def cx_419pi_1 (t : List (Int × Int)) : List (Int × Int) := (0, 1) :: ui50 :: ui70 :: t
def cx_419pf_0 (t : List zFa) : List zFa := uF1389 :: uF1390 :: uF1392 :: uF1436 :: uF1428 :: uF1437 :: uF1239 :: uF1317 :: t
def cx_419pf_1 (t : List zFa) : List zFa := uF1318 :: uF450 :: uF1440 :: uF1441 :: uF1442 :: uF1443 :: t
def cx_419p : zS := ((cx_419pi_0 (cx_419pi_1 [])), [ur1299, ur1313, ur1314, ur1315, ur1316, ur1348], [], [], [uV2, uV64, uV195], (cx_419pf_0 (cx_419pf_1 [])), [uG1444, (40, [uL80, uL9, uL116, uL65, uL65, uL81, uL166, uL100, uL106, uL173])])
def cx_419q1i_0 (t : List (Int × Int)) : List (Int × Int) := ui0 :: ui1445 :: (0, 0) :: ui54 :: (0, 5) :: ui54 :: ui54 :: (0, 6) :: t
def cx_419q1i_1 (t : List (Int × Int)) : List (Int × Int) := (0, 1) :: ui50 :: ui70 :: ui199 :: (0, 5) :: ui54 :: t
def cx_419q1 : zS := ((cx_419q1i_0 (cx_419q1i_1 [])), [ur1299, ur1313, ur1314, ur1315, ur1316, ur1348], [uL67, uL65, uL65], [], [uV841], [uF1406, uF1390, uF1392, uF1446, uF1447, uF1443], [uG1448, uG1448, (40, [uL80, uL111, uL214, uL65, uL65, uL81, uL166, uL217, uL210, uL173]), uG1449])
/-- M.bounded -/
def cx_419 : zCtx := (210, cx_419p, [([ui0, ui408, (0, 0), ui54, (0, 5), ui54, ui54, (0, 6), (0, 1), ui50, ui70, ui54], [ur1299, ur1313, ur1314, ur1315, ur1316, ur1348], [uL65], [], [uV64], [uF1450, uF1420, uF1389, uF1436, uF1428, uF1443], [uG1451]), cx_419q1, ([ui0, ui148, (0, 0), ui54, (0, 5), ui54, ui54, (0, 6), (0, 1), ui50, ui70, ui199, ui54, (0, 5), ui54], [ur1299, ur1313, ur1314, ur1315, ur1316, ur1348], [uL65], [], [uV841], [uF1452, uF1396, uF1389, uF1453, uF1454, uF1443], [uG1455])], [uk1408, uk1397, uk1398, uk1430, uk1431], 53, 2, 41)
set_option maxRecDepth 1000000 in
theorem ck_419 : x_ok mLT1 [cx_416, cx_409, cx_417, cx_418, cx_406] mTS2 mTC2 mRUp cx_419 [(9, [0]), (17, [1]), (48, [2, 3]), (52, [4])] [(8, uN1456), (12, [740]), (15, uN1439), (20, [740]), (31, uN1457), (42, uN1458), (51, [740]), (55, [740, 1000260, 1000261, 1000262, 1000263, 1000264, 1000265, 1000266, 1000267, 1000268, 1000269, 1000270, 1000271, 1000272, 1000273, 1000274, 1000275, 1000276, 1000277, 1000278, 1000279, 1000280, 1000281, 1000282, 1000283, 1000284, 1000285, 1000286, 1000287, 1000288])] [] (28, []) 25 31 = true := by decide +kernel
theorem sn_419 {W : Bool} {X : List Int32} : y_Snd (mGw W) mLT1 (J2 W X) X cx_419 := y_ok J2_J mTS2_ok1 mTC2_ok1 mRUp_ok1 (List.forall_mem_cons.mpr ⟨sn_416, List.forall_mem_cons.mpr ⟨sn_409, List.forall_mem_cons.mpr ⟨sn_417, List.forall_mem_cons.mpr ⟨sn_418, List.forall_mem_cons.mpr ⟨sn_406, fun _ h => absurd h List.not_mem_nil⟩⟩⟩⟩⟩) ck_419
/-- M.bounded -/
def cx_420 : zCtx := (210, ([ui0, ui350, (1, 2), ui54, (0, 5), ui54, ui54], [ur1299], [], [], [uV2, uV66, uV228], [uF1389, uF1390, uF1392, uF1436, uF1428, uF1437], [uG1438]), [([ui0, ui350, (1, 2), ui54, (0, 5), ui54, ui54], [ur1299], [], [], [uV66], [], [])], [], 12, 1, 21)
set_option maxRecDepth 1000000 in
theorem ck_420 : x_ok mLT1 [cx_414] mTS2 mTC2 mRUp cx_420 [(17, [0])] [(15, uN1439), (20, [740])] [] (8, []) 4 11 = true := by decide +kernel
theorem sn_420 {W : Bool} {X : List Int32} : y_Snd (mGw W) mLT1 (J2 W X) X cx_420 := y_ok J2_J mTS2_ok1 mTC2_ok1 mRUp_ok1 (List.forall_mem_cons.mpr ⟨sn_414, fun _ h => absurd h List.not_mem_nil⟩) ck_420
def cx_421pi_0 (t : List (Int × Int)) : List (Int × Int) := ui0 :: ui1459 :: (0, 0) :: ui54 :: (0, 5) :: ui54 :: ui54 :: (0, 6) :: t
def cx_421pi_1 (t : List (Int × Int)) : List (Int × Int) := (0, 1) :: ui50 :: ui70 :: t
def cx_421p : zS := ((cx_421pi_0 (cx_421pi_1 [])), [ur1299, ur1313, ur1314, ur1315, ur1316, ur1348], [], [], [uV2, uV66, uV228], (cx_419pf_0 (cx_419pf_1 [])), [uG1444, (40, [uL80, uL9, uL214, uL65, uL65, uL81, uL166, uL100, uL106, uL173])])
def cx_421q1i_0 (t : List (Int × Int)) : List (Int × Int) := ui0 :: (3, 399) :: (0, 0) :: ui54 :: (0, 5) :: ui54 :: ui54 :: (0, 6) :: t
def cx_421q1i_1 (t : List (Int × Int)) : List (Int × Int) := (0, 1) :: ui50 :: ui70 :: ui199 :: (0, 5) :: ui54 :: t
def cx_421q1 : zS := ((cx_421q1i_0 (cx_421q1i_1 [])), [ur1299, ur1313, ur1314, ur1315, ur1316, ur1348], [uL67, uL65, uL65], [], [uV841], [uF1406, uF1390, uF1392, uF1446, uF1447, uF1443], [uG1448, uG1448, (40, [uL80, uL111, uL36, uL65, uL65, uL81, uL166, uL217, uL210, uL173]), uG1449])
/-- M.bounded -/
def cx_421 : zCtx := (210, cx_421p, [([ui0, ui1459, (0, 0), ui54, (0, 5), ui54, ui54, (0, 6), (0, 1), ui50, ui70, ui54], [ur1299, ur1313, ur1314, ur1315, ur1316, ur1348], [uL65], [], [uV66], [uF1450, uF1420, uF1389, uF1436, uF1428, uF1443], [uG1451]), cx_421q1, ([ui0, ui148, (0, 0), ui54, (0, 5), ui54, ui54, (0, 6), (0, 1), ui50, ui70, ui199, ui54, (0, 5), ui54], [ur1299, ur1313, ur1314, ur1315, ur1316, ur1348], [uL65], [], [uV841], [uF1452, uF1396, uF1389, uF1453, uF1454, uF1443], [uG1455])], [uk1408, uk1397, uk1398, uk1430, uk1431], 53, 2, 41)
set_option maxRecDepth 1000000 in
theorem ck_421 : x_ok mLT1 [cx_416, cx_409, cx_417, cx_418, cx_406] mTS2 mTC2 mRUp cx_421 [(9, [0]), (17, [1]), (48, [2, 3]), (52, [4])] [(8, uN1456), (12, [740]), (15, uN1439), (20, [740]), (31, uN1457), (42, uN1458), (51, [740]), (55, [740, 1000260, 1000261, 1000262, 1000263, 1000264, 1000265, 1000266, 1000267, 1000268, 1000269, 1000270, 1000271, 1000272, 1000273, 1000274, 1000275, 1000276, 1000277, 1000278, 1000279, 1000280, 1000281, 1000282, 1000283, 1000284, 1000285, 1000286, 1000287, 1000288])] [] (28, []) 25 31 = true := by decide +kernel
theorem sn_421 {W : Bool} {X : List Int32} : y_Snd (mGw W) mLT1 (J2 W X) X cx_421 := y_ok J2_J mTS2_ok1 mTC2_ok1 mRUp_ok1 (List.forall_mem_cons.mpr ⟨sn_416, List.forall_mem_cons.mpr ⟨sn_409, List.forall_mem_cons.mpr ⟨sn_417, List.forall_mem_cons.mpr ⟨sn_418, List.forall_mem_cons.mpr ⟨sn_406, fun _ h => absurd h List.not_mem_nil⟩⟩⟩⟩⟩) ck_421
/-- M.is -/
def cx_422 : zCtx := (202, ([ui0, ui350, (0, 2), ui1311], [ur1299, ur1313], [], [], [uV2, uV383], [uF1389, uF1390, uF1239, uF1391], []), [([ui0, ui350, (0, 0), (4, 4)], [ur1299, ur1313], [], [], [uV66], [], []), ([ui0, ui350, (0, 0), (0, 3)], [ur1299, ur1313], [], [], [uV64], [], []), ([ui0, ui350, (0, 0), (5, 41)], [ur1299, ur1313], [], [], [uV64], [], []), ([ui0, ui350, (1, 2), ui1311], [ur1299, ur1313], [], [], [uV64], [], [])], [], 13, 0, 0)
set_option maxRecDepth 1000000 in
theorem ck_422 : x_ok mLT1 [] mTS2 mTC2 mRUp cx_422 [] [] [] (13, []) 0 16 = true := by decide +kernel
theorem sn_422 {W : Bool} {X : List Int32} : y_Snd (mGw W) mLT1 (J2 W X) X cx_422 := y_ok J2_J mTS2_ok1 mTC2_ok1 mRUp_ok1 (fun _ h => absurd h List.not_mem_nil) ck_422
/-- M.must -/
def cx_423 : zCtx := (208, ([ui0, ui350, (1, 2), ui54, ui54], [ur1299], [], [], [uV2, uV383], [uF1389, uF1390, uF1392, uF181], [uG1460]), [([ui0, ui350, (1, 2), ui54, ui54], [ur1299], [], [], [], [], [])], [], 21, 1, 21)
set_option maxRecDepth 1000000 in
theorem ck_423 : x_ok mLT1 [cx_422, cx_414] mTS2 mTC2 mRUp cx_423 [(2, [0]), (17, [1])] [(15, uN1425)] [] (8, []) 13 11 = true := by decide +kernel
theorem sn_423 {W : Bool} {X : List Int32} : y_Snd (mGw W) mLT1 (J2 W X) X cx_423 := y_ok J2_J mTS2_ok1 mTC2_ok1 mRUp_ok1 (List.forall_mem_cons.mpr ⟨sn_422, List.forall_mem_cons.mpr ⟨sn_414, fun _ h => absurd h List.not_mem_nil⟩⟩) ck_423
def cx_424p : zS := ([ui0, ui408, (0, 0), ui54, ui54, ui1311, ui54], [ur1299, ur1313, ur1314, ur1315, ur1316], [uL214], [], [uV2, uV383], (cx_406pf_0 (cx_406pf_1 [])), [uG1401, uG1402, (62, [uL100, uL9, uL36, uL106, uL80])])
/-- M.must -/
def cx_424 : zCtx := (208, cx_424p, [([ui0, ui408, (0, 0), ui54, ui54, ui1311, ui54, (1, 2)], [ur1299, ur1313, ur1314, ur1315, ur1316], [uL65], [], [], [uF1404, uF1421, uF1389], [uG1422]), ([ui0, ui1445, (0, 0), ui54, ui54, (4, 4), ui54], [ur1299, ur1313, ur1314, ur1315, ur1316], [uL67, ((-4), [(5, 1)]), (4, [(5, (-1))]), uL65, uL65], [], [], [uF1406, uF1390, uF1392], [uG1407, uG1403, uG1407])], [uk1408, uk1397, uk1398], 33, 2, 41)
set_option maxRecDepth 1000000 in
theorem ck_424 : x_ok mLT1 [cx_422, cx_406, cx_409] mTS2 mTC2 mRUp cx_424 [(2, [0]), (9, [1]), (17, [2])] [(9, [1000243]), (15, uN1425)] [] (8, []) 25 11 = true := by decide +kernel
theorem sn_424 {W : Bool} {X : List Int32} : y_Snd (mGw W) mLT1 (J2 W X) X cx_424 := y_ok J2_J mTS2_ok1 mTC2_ok1 mRUp_ok1 (List.forall_mem_cons.mpr ⟨sn_422, List.forall_mem_cons.mpr ⟨sn_406, List.forall_mem_cons.mpr ⟨sn_409, fun _ h => absurd h List.not_mem_nil⟩⟩⟩) ck_424
def cx_425pi_0 (t : List (Int × Int)) : List (Int × Int) := ui0 :: ui350 :: (0, 0) :: ui54 :: (0, 5) :: ui54 :: (0, 1) :: (0, 5) :: t
def cx_425pi_1 (t : List (Int × Int)) : List (Int × Int) := ui54 :: ui50 :: ui70 :: ui54 :: ui1311 :: (0, 6) :: (0, 1) :: (0, 6) :: t
def cx_425pr_0 (t : List (Nat × Bool)) : List (Nat × Bool) := ur1299 :: ur1347 :: ur1313 :: ur1314 :: ur1315 :: ur1316 :: ur1348 :: ur1461 :: t
def cx_425pr_1 (t : List (Nat × Bool)) : List (Nat × Bool) := ur1462 :: ur1463 :: t
def cx_425pf_0 (t : List zFa) : List zFa := uF1389 :: uF1390 :: uF1392 :: uF1436 :: uF1428 :: uF1464 :: uF1440 :: uF1465 :: t
def cx_425pf_1 (t : List zFa) : List zFa := uF1466 :: uF293 :: uF1191 :: uF1192 :: uF1329 :: uF1330 :: uF1467 :: uF1468 :: t
def cx_425pf_2 (t : List zFa) : List zFa := uF1469 :: uF1470 :: uF1471 :: uF1472 :: uF1473 :: t
def cx_425pg_0 (t : List zTg) : List zTg := uG1474 :: uG1475 :: uG1476 :: uG1478 :: uG1479 :: uG1480 :: t
def cx_425p : zS := ((cx_425pi_0 (cx_425pi_1 [])), (cx_425pr_0 (cx_425pr_1 [])), [], [], [uV2], (cx_425pf_0 (cx_425pf_1 (cx_425pf_2 []))), (cx_425pg_0 []))
def cx_425q0i_0 (t : List (Int × Int)) : List (Int × Int) := ui0 :: ui350 :: (0, 0) :: ui54 :: (0, 5) :: ui54 :: (0, 1) :: (0, 5) :: t
def cx_425q0i_1 (t : List (Int × Int)) : List (Int × Int) := ui54 :: ui50 :: ui70 :: ui54 :: ui1311 :: (0, 6) :: (0, 1) :: (0, 6) :: t
def cx_425q0i_2 (t : List (Int × Int)) : List (Int × Int) := ui54 :: (1, 2) :: ui350 :: (0, 5) :: ui54 :: ui54 :: t
def cx_425q0f_0 (t : List zFa) : List zFa := (0, (false, 14, 0, []), 0, 0, 0, [(16, 1)]) :: (0, (false, 13, 0, []), 0, 0, 0, [(17, 1)]) :: (0, (false, 11, 0, []), 0, 0, 0, [(18, 1)]) :: (0, (false, 15, 0, []), 0, 0, 0, [(19, 1)]) :: (0, (false, 16, 0, []), 0, 0, 0, [(20, 1)]) :: uF1468 :: uF1440 :: uF1468 :: t
def cx_425q0f_1 (t : List zFa) : List zFa := uF1470 :: (3, (true, 0, 0, [(18, 1)]), 0, 0, 0, [(21, 1)]) :: uF1466 :: t
def cx_425q0 : zS := ((cx_425q0i_0 (cx_425q0i_1 (cx_425q0i_2 []))), (cx_425pr_0 (cx_425pr_1 [])), [(0, [(1, (-1)), (18, 1)])], [], [], (cx_425q0f_0 (cx_425q0f_1 [])), [uG1478, uG1479, (41, [uL133, uL216, uL215]), uG1478, uG1479])
def cx_425q1i_0 (t : List (Int × Int)) : List (Int × Int) := ui0 :: ui1481 :: (0, 0) :: ui54 :: (0, 5) :: ui54 :: (0, 1) :: (0, 5) :: t
def cx_425q1i_1 (t : List (Int × Int)) : List (Int × Int) := ui54 :: ui50 :: ui70 :: ui54 :: (1, 1) :: (0, 6) :: (0, 1) :: (0, 6) :: t
def cx_425q1i_2 (t : List (Int × Int)) : List (Int × Int) := ui54 :: (0, 5) :: ui54 :: t
def cx_425q1f_0 (t : List zFa) : List zFa := (0, (false, 20, 0, []), 0, 0, 1, [(7, 1)]) :: uF1482 :: uF1390 :: uF1392 :: (3, (true, 0, 3, [(1, 1)]), 0, 0, 0, [(16, 1)]) :: uF1483 :: uF1484 :: uF1468 :: t
def cx_425q1f_1 (t : List zFa) : List zFa := uF1468 :: uF1468 :: uF1470 :: (1, (true, 0, 0, [(6, 1)]), 0, 0, 1, [(7, 1)]) :: t
def cx_425q1g_0 (t : List zTg) : List zTg := uG1486 :: uG1487 :: uG1488 :: (58, [uL133, uL1489]) :: (58, [uL133, uL1490]) :: uG1476 :: uG1478 :: uG1479 :: t
def cx_425q1g_1 (t : List zTg) : List zTg := uG1480 :: uG1491 :: uG1492 :: uG1488 :: (40, [uL133, uL1485, uL65, uL65, uL65, uL1056, uL166, uL216, uL279, uL267]) :: uG1487 :: uG1478 :: uG1479 :: t
def cx_425q1g_2 (t : List zTg) : List zTg := uG1486 :: t
def cx_425q1 : zS := ((cx_425q1i_0 (cx_425q1i_1 (cx_425q1i_2 []))), (cx_425pr_0 (cx_425pr_1 [])), [uL36, uL214], [], [], (cx_425q1f_0 (cx_425q1f_1 [])), (cx_425q1g_0 (cx_425q1g_1 (cx_425q1g_2 []))))
/-- M.tellHouse -/
def cx_425 : zCtx := (207, cx_425p, [cx_425q0, cx_425q1], kc_74, 244, 3, 64)
def cq_425 : List zCtx := [cx_410, cx_411, cx_412, cx_413, cx_415, cx_419, cx_420, cx_421, cx_423, cx_424]
def cs_425 : List (Nat × List Nat) := [(25, [0]), (64, [1, 2, 3]), (82, [4, 5]), (95, [6, 7]), (101, [8, 9])]
def hs_425 : List (Nat × List Nat) := [(19, [1000246, 1000303]), (28, [740, 1000291]), (57, [1000304]), (61, [1000305, 1000258, 1000306]), (67, [740, 1000307, 1000308]), (73, [1000309, 1000298, 1000310, 1000311, 1000312]), (85, [740]), (98, [740]), (99, [1000246, 1000313]), (104, [740, 1000314, 1000315]), (126, [1000304]), (150, [1000316, 1000519])]
def nd_425_0pi_0 (t : List (Int × Int)) : List (Int × Int) := ui0 :: ui1423 :: (0, 0) :: ui54 :: (0, 5) :: ui54 :: (0, 1) :: (0, 5) :: t
def nd_425_0pi_1 (t : List (Int × Int)) : List (Int × Int) := ui54 :: ui50 :: ui70 :: ui54 :: (1, 1) :: (0, 6) :: (0, 1) :: (0, 6) :: t
def nd_425_0pi_2 (t : List (Int × Int)) : List (Int × Int) := (0, 5) :: t
def nd_425_0pf_0 (t : List zFa) : List zFa := uF1406 :: uF1390 :: uF1392 :: uF1436 :: uF1428 :: uF1464 :: uF1440 :: uF1465 :: t
def nd_425_0pf_1 (t : List zFa) : List zFa := uF1466 :: uF293 :: uF1191 :: uF1192 :: uF1329 :: uF1330 :: uF1467 :: uF1468 :: t
def nd_425_0pf_2 (t : List zFa) : List zFa := uF1469 :: uF1470 :: uF1472 :: uF1473 :: t
def nd_425_0pg_0 (t : List zTg) : List zTg := uG1474 :: uG1475 :: uG1476 :: uG1478 :: uG1479 :: uG1480 :: uG1491 :: uG1492 :: t
def nd_425_0pg_1 (t : List zTg) : List zTg := (66, [uL133, uL9, uL215]) :: t
def nd_425_0p : zS := ((nd_425_0pi_0 (nd_425_0pi_1 (nd_425_0pi_2 []))), (cx_425pr_0 (cx_425pr_1 [])), [uL67, uL1493], [uV2, uV1494, uV11, uV1495], [], (nd_425_0pf_0 (nd_425_0pf_1 (nd_425_0pf_2 []))), (nd_425_0pg_0 (nd_425_0pg_1 [])))
def nd_425_0 : zN := (30, nd_425_0p, ((-99999999829), [(2, (-100000000000)), (12, 100000000000), (16, (-20))]))
def nd_425_1pi_0 (t : List (Int × Int)) : List (Int × Int) := ui0 :: ui350 :: (0, 0) :: ui54 :: (0, 5) :: ui54 :: (0, 1) :: (0, 5) :: t
def nd_425_1pi_1 (t : List (Int × Int)) : List (Int × Int) := ui54 :: ui50 :: ui70 :: ui54 :: ui1311 :: (0, 6) :: (0, 1) :: (0, 6) :: t
def nd_425_1pi_2 (t : List (Int × Int)) : List (Int × Int) := (1, 2) :: t
def nd_425_1pf_0 (t : List zFa) : List zFa := uF1450 :: (0, (false, 13, 0, []), 0, 0, 0, [(16, 1)]) :: uF1389 :: uF1436 :: uF1428 :: uF1464 :: uF1440 :: uF1465 :: t
def nd_425_1pf_1 (t : List zFa) : List zFa := uF1466 :: uF293 :: uF1191 :: uF1192 :: uF1329 :: uF1330 :: uF1467 :: uF1468 :: t
def nd_425_1pf_2 (t : List zFa) : List zFa := uF1469 :: uF1470 :: uF1472 :: uF1473 :: t
def nd_425_1p : zS := ((nd_425_1pi_0 (nd_425_1pi_1 (nd_425_1pi_2 []))), (cx_425pr_0 (cx_425pr_1 [])), [uL65], [uV2, uV1494, uV11, uV64], [], (nd_425_1pf_0 (nd_425_1pf_1 (nd_425_1pf_2 []))), [(41, [uL133, uL215, uL198]), uG1478, uG1479])
def nd_425_1 : zN := (30, nd_425_1p, ((-111), [(2, (-100000000000)), (16, 141)]))
def nd_425_2pi_0 (t : List (Int × Int)) : List (Int × Int) := ui0 :: ui1423 :: (0, 0) :: ui54 :: (1, 5) :: ui93 :: (0, 1) :: (1, 5) :: t
def nd_425_2pi_1 (t : List (Int × Int)) : List (Int × Int) := ui54 :: ui50 :: ui70 :: ui95 :: (1, 1) :: (0, 6) :: (0, 1) :: (0, 6) :: t
def nd_425_2pi_2 (t : List (Int × Int)) : List (Int × Int) := (1, 5) :: t
def nd_425_2pg_0 (t : List zTg) : List zTg := uG1474 :: uG1475 :: uG1476 :: uG1478 :: uG1479 :: uG1480 :: uG1491 :: uG1492 :: t
def nd_425_2pg_1 (t : List zTg) : List zTg := (67, [uL133, uL9]) :: t
def nd_425_2p : zS := ((nd_425_2pi_0 (nd_425_2pi_1 (nd_425_2pi_2 []))), (cx_425pr_0 (cx_425pr_1 [])), [uL67, uL1493], [uV2, uV1494, uV11, uV1495], [], (nd_425_0pf_0 (nd_425_0pf_1 (nd_425_0pf_2 []))), (nd_425_2pg_0 (nd_425_2pg_1 [])))
def nd_425_2 : zN := (30, nd_425_2p, ((-99999999829), [(2, (-100000000000)), (12, 100000000000), (16, (-24))]))
def nd_425_3pi_0 (t : List (Int × Int)) : List (Int × Int) := ui0 :: ui1423 :: (0, 0) :: ui54 :: (0, 0) :: ui54 :: (0, 1) :: (1, 5) :: t
def nd_425_3pi_1 (t : List (Int × Int)) : List (Int × Int) := ui54 :: ui50 :: ui70 :: ui54 :: (1, 1) :: (0, 6) :: (0, 1) :: (0, 6) :: t
def nd_425_3pi_2 (t : List (Int × Int)) : List (Int × Int) := (1, 5) :: t
def nd_425_3pf_0 (t : List zFa) : List zFa := uF1496 :: uF1429 :: uF1406 :: uF1390 :: uF1392 :: uF1464 :: uF1440 :: uF1465 :: t
def nd_425_3pf_1 (t : List zFa) : List zFa := uF1466 :: uF293 :: uF1191 :: uF1192 :: uF1329 :: uF1330 :: uF1467 :: uF1468 :: t
def nd_425_3pf_2 (t : List zFa) : List zFa := uF1469 :: uF1470 :: uF1472 :: uF1473 :: t
def nd_425_3p : zS := ((nd_425_3pi_0 (nd_425_3pi_1 (nd_425_3pi_2 []))), (cx_425pr_0 (cx_425pr_1 [])), [uL67, uL1493], [uV2, uV1494, uV11, uV1495], [], (nd_425_3pf_0 (nd_425_3pf_1 (nd_425_3pf_2 []))), (nd_425_2pg_0 (nd_425_2pg_1 [])))
def nd_425_3 : zN := (30, nd_425_3p, ((-99999999829), [(2, (-100000000000)), (4, (-100000000000)), (12, 100000000000), (16, (-24))]))
def ns_425 : List zN := [nd_425_0, nd_425_1, nd_425_2, nd_425_3]
set_option maxRecDepth 1000000 in
theorem ca_425 : x_okA mLT1 cq_425 mTS2 mTC2 mRUp cx_425 cs_425 hs_425 ns_425 (191, []) 53 54 = true := by decide +kernel
set_option maxRecDepth 1000000 in
theorem cb_425_0 : x_okB mLT1 cq_425 mTS2 mTC2 mRUp cx_425 cs_425 hs_425 ns_425 (191, []) 53 54 nd_425_0 = true := by decide +kernel
set_option maxRecDepth 1000000 in
theorem cb_425_1 : x_okB mLT1 cq_425 mTS2 mTC2 mRUp cx_425 cs_425 hs_425 ns_425 (191, []) 53 54 nd_425_1 = true := by decide +kernel
set_option maxRecDepth 1000000 in
theorem cb_425_2 : x_okB mLT1 cq_425 mTS2 mTC2 mRUp cx_425 cs_425 hs_425 ns_425 (191, []) 53 54 nd_425_2 = true := by decide +kernel
set_option maxRecDepth 1000000 in
theorem cb_425_3 : x_okB mLT1 cq_425 mTS2 mTC2 mRUp cx_425 cs_425 hs_425 ns_425 (191, []) 53 54 nd_425_3 = true := by decide +kernel
set_option maxRecDepth 1000000 in
theorem cc_425 : x_okC mLT1 cq_425 mTS2 mTC2 mRUp cx_425 cs_425 hs_425 ns_425 (191, []) 53 54 = true := by decide +kernel
theorem ck_425 : x_ok mLT1 cq_425 mTS2 mTC2 mRUp cx_425 cs_425 hs_425 ns_425 (191, []) 53 54 = true := x_ok_of ca_425 (List.forall_mem_cons.mpr ⟨cb_425_0, List.forall_mem_cons.mpr ⟨cb_425_1, List.forall_mem_cons.mpr ⟨cb_425_2, List.forall_mem_cons.mpr ⟨cb_425_3, fun _ h => absurd h List.not_mem_nil⟩⟩⟩⟩) cc_425
theorem sn_425 {W : Bool} {X : List Int32} : y_Snd (mGw W) mLT1 (J2 W X) X cx_425 := y_ok J2_J mTS2_ok1 mTC2_ok1 mRUp_ok1 (List.forall_mem_cons.mpr ⟨sn_410, List.forall_mem_cons.mpr ⟨sn_411, List.forall_mem_cons.mpr ⟨sn_412, List.forall_mem_cons.mpr ⟨sn_413, List.forall_mem_cons.mpr ⟨sn_415, List.forall_mem_cons.mpr ⟨sn_419, List.forall_mem_cons.mpr ⟨sn_420, List.forall_mem_cons.mpr ⟨sn_421, List.forall_mem_cons.mpr ⟨sn_423, List.forall_mem_cons.mpr ⟨sn_424, fun _ h => absurd h List.not_mem_nil⟩⟩⟩⟩⟩⟩⟩⟩⟩⟩) ck_425
def cx_426p : zS := ([ui0, ui50, ui70, (0, 0), ui54, ui54, ui1311, ui54], [ur1299, ur1313, ur1314, ur1315, ur1316], [uL1411, (20, [(1, (-1))])], [], [uV2, uV11, uV195], (cx_407pf_0 (cx_407pf_1 [])), [uG1412, uG1413, (69, [uL106, uL69, uL9, uL663, uL81])])
/-- M.roomFor -/
def cx_426 : zCtx := (204, cx_426p, [([ui0, ui50, ui70, (0, 0), ui54, ui54, ui1311, ui54], [ur1299, ur1313, ur1314, ur1315, ur1316], [uL65], [], [], [uF1414, uF1396, uF1409], [uG1415, uG1415]), ([ui0, ui1161, ui149, (0, 0), ui54, ui54, ui1344, ui54], [ur1299, ur1313, ur1314, ur1315, ur1316], [uL67, uL65, uL65, (19, [(1, (-1))])], [], [], [uF1416, uF1410, uF1395], [uG1417, uG1418, uG1417])], [uk1408, uk1397, uk1398], 35, 2, 41)
set_option maxRecDepth 1000000 in
theorem ck_426 : x_ok mLT1 [cx_405, cx_406] mTS2 mTC2 mRUp cx_426 [(7, [0]), (18, [1])] [(5, [1000336]), (17, [1000337])] [] (10, []) 25 13 = true := by decide +kernel
theorem sn_426 {W : Bool} {X : List Int32} : y_Snd (mGw W) mLT1 (J2 W X) X cx_426 := y_ok J2_J mTS2_ok1 mTC2_ok1 mRUp_ok1 (List.forall_mem_cons.mpr ⟨sn_405, List.forall_mem_cons.mpr ⟨sn_406, fun _ h => absurd h List.not_mem_nil⟩⟩) ck_426
/-- M.wrong -/
def cx_427 : zCtx := (209, ([ui0, ui1423, (0, 0), (0, 0), ui54, ui54], [ur1299, ur1314], [], [], [uV2, uV383, uV11], [uF1390, uF1426, uF1427, uF1393, uF1399], []), [([ui0, ui1423, (0, 0), (0, 0), ui54, ui54], [ur1299, ur1314], [], [], [], [uF1428, uF1497], [])], [uk1430, uk1431], 18, 0, 0)
set_option maxRecDepth 1000000 in
theorem ck_427 : x_ok mLT1 [] mTS2 mTC2 mRUp cx_427 [] [] [] (18, []) 0 21 = true := by decide +kernel
theorem sn_427 {W : Bool} {X : List Int32} : y_Snd (mGw W) mLT1 (J2 W X) X cx_427 := y_ok J2_J mTS2_ok1 mTC2_ok1 mRUp_ok1 (fun _ h => absurd h List.not_mem_nil) ck_427
/-- M.wrong -/
def cx_428 : zCtx := (209, ([ui0, ui1423, (0, 0), (1, 5), ui93, ui54], [ur1299, ur1314], [uL1432], [], [uV2, uV383, uV11], [uF1390, uF1426, uF1427, uF1393, uF1399], []), [([ui0, ui1423, (0, 0), (1, 5), ui93, ui95], [ur1299, ur1314], [uL1432], [], [], [], [])], [], 16, 0, 0)
set_option maxRecDepth 1000000 in
theorem ck_428 : x_ok mLT1 [] mTS2 mTC2 mRUp cx_428 [] [] [] (16, []) 0 19 = true := by decide +kernel
theorem sn_428 {W : Bool} {X : List Int32} : y_Snd (mGw W) mLT1 (J2 W X) X cx_428 := y_ok J2_J mTS2_ok1 mTC2_ok1 mRUp_ok1 (fun _ h => absurd h List.not_mem_nil) ck_428
def cx_429pi_0 (t : List (Int × Int)) : List (Int × Int) := ui0 :: ui350 :: (0, 0) :: ui54 :: (0, 5) :: ui54 :: (0, 6) :: ui54 :: t
def cx_429pi_1 (t : List (Int × Int)) : List (Int × Int) := (0, 1) :: ui50 :: ui70 :: ui54 :: ui1311 :: t
def cx_429pf_0 (t : List zFa) : List zFa := uF1389 :: uF1390 :: uF1392 :: uF1436 :: uF1428 :: uF1498 :: uF262 :: uF1239 :: t
def cx_429pf_1 (t : List zFa) : List zFa := uF1317 :: uF1318 :: uF450 :: uF1441 :: uF1442 :: uF1443 :: uF1499 :: uF1500 :: t
def cx_429pf_2 (t : List zFa) : List zFa := (1, (true, 0, 0, [(1, 1)]), 0, 0, 0, [(12, 1)]) :: t
def cx_429p : zS := ((cx_429pi_0 (cx_429pi_1 [])), [ur1299, ur1313, ur1314, ur1315, ur1316, ur1348, ur1461], [], [], [uV2], (cx_429pf_0 (cx_429pf_1 (cx_429pf_2 []))), [uG1501, uG1502, uG1503])
def cx_429q0i_0 (t : List (Int × Int)) : List (Int × Int) := ui0 :: ui350 :: (0, 0) :: ui54 :: (0, 5) :: ui54 :: (0, 6) :: ui54 :: t
def cx_429q0i_1 (t : List (Int × Int)) : List (Int × Int) := (0, 1) :: ui50 :: ui70 :: ui54 :: ui1311 :: (1, 2) :: t
def cx_429q0 : zS := ((cx_429q0i_0 (cx_429q0i_1 [])), [ur1299, ur1313, ur1314, ur1315, ur1316, ur1348, ur1461], [uL65], [], [uV63], [uF1450, uF1504, uF1389, uF1436, uF1428, uF1443, uF1500], [uG1505, uG1506, uG1507])
def cx_429q1i_0 (t : List (Int × Int)) : List (Int × Int) := ui0 :: ui1423 :: (0, 0) :: ui54 :: (0, 5) :: ui54 :: (1, 6) :: ui54 :: t
def cx_429q1i_1 (t : List (Int × Int)) : List (Int × Int) := (0, 1) :: ui50 :: ui70 :: ui54 :: (1, 1) :: (0, 5) :: t
def cx_429q1g_0 (t : List zTg) : List zTg := uG1508 :: uG1509 :: uG1510 :: uG1511 :: uG1510 :: uG1509 :: uG1508 :: uG1512 :: t
def cx_429q1g_1 (t : List zTg) : List zTg := uG1511 :: t
def cx_429q1 : zS := ((cx_429q1i_0 (cx_429q1i_1 [])), [ur1299, ur1313, ur1314, ur1315, ur1316, ur1348, ur1461], [uL67, uL65, uL65], [], [uV411], [uF1406, uF1390, uF1392, uF1436, uF1428, uF1443, uF1500], (cx_429q1g_0 (cx_429q1g_1 [])))
def cx_429q2i_0 (t : List (Int × Int)) : List (Int × Int) := ui0 :: ui1423 :: (0, 0) :: ui54 :: (1, 5) :: ui93 :: (0, 6) :: ui54 :: t
def cx_429q2i_1 (t : List (Int × Int)) : List (Int × Int) := (0, 1) :: ui50 :: ui70 :: ui95 :: (1, 1) :: t
def cx_429q2g_0 (t : List zTg) : List zTg := uG1508 :: uG1509 :: uG1513 :: uG1510 :: uG1511 :: uG1510 :: uG1509 :: uG1508 :: t
def cx_429q2g_1 (t : List zTg) : List zTg := uG1513 :: uG1511 :: t
def cx_429q2 : zS := ((cx_429q2i_0 (cx_429q2i_1 [])), [ur1299, ur1313, ur1314, ur1315, ur1316, ur1348, ur1461], [uL67, uL65, uL65], [], [uV63], [uF1406, uF1390, uF1392, uF1436, uF1428, uF1443, uF1500], (cx_429q2g_0 (cx_429q2g_1 [])))
def cx_429q3i_0 (t : List (Int × Int)) : List (Int × Int) := ui0 :: ui1423 :: (0, 0) :: ui54 :: (0, 0) :: ui54 :: (0, 6) :: ui54 :: t
def cx_429q3i_1 (t : List (Int × Int)) : List (Int × Int) := (0, 1) :: ui50 :: ui70 :: ui54 :: (1, 1) :: t
def cx_429q3g_0 (t : List zTg) : List zTg := uG1508 :: uG1514 :: uG1513 :: uG1510 :: uG1511 :: uG1510 :: uG1514 :: uG1508 :: t
def cx_429q3g_1 (t : List zTg) : List zTg := uG1513 :: uG1511 :: t
def cx_429q3 : zS := ((cx_429q3i_0 (cx_429q3i_1 [])), [ur1299, ur1313, ur1314, ur1315, ur1316, ur1348, ur1461], [uL67, uL65, uL65], [], [uV63], [uF1496, uF1497, uF1406, uF1390, uF1392, uF1443, uF1500], (cx_429q3g_0 (cx_429q3g_1 [])))
/-- M.known -/
def cx_429 : zCtx := (212, cx_429p, [cx_429q0, cx_429q1, cx_429q2, cx_429q3], [uk1408, uk1397, uk1398, uk1430, uk1431], 157, 3, 62)
def cz_429_0i_0 (t : List (Int × Int)) : List (Int × Int) := ui0 :: ui1423 :: (0, 0) :: ui54 :: (0, 5) :: ui54 :: (0, 6) :: ui54 :: t
def cz_429_0i_1 (t : List (Int × Int)) : List (Int × Int) := (0, 1) :: ui50 :: ui70 :: ui54 :: (1, 1) :: (0, 6) :: t
def cz_429_0f_0 (t : List zFa) : List zFa := uF1406 :: uF1390 :: uF1392 :: uF1436 :: uF1428 :: uF1498 :: uF262 :: uF1239 :: t
def cz_429_0f_1 (t : List zFa) : List zFa := uF1317 :: uF1318 :: uF450 :: uF1441 :: uF1442 :: uF1443 :: uF1499 :: uF1500 :: t
def cz_429_0 : zS := ((cz_429_0i_0 (cz_429_0i_1 [])), [ur1299, ur1313, ur1314, ur1315, ur1316, ur1348, ur1461], [uL1515], [uV2, uV11, uV411], [], (cz_429_0f_0 (cz_429_0f_1 [])), [uG1501, uG1502, uG1503, uG1510, uG1516, uG1511])
set_option maxRecDepth 1000000 in
theorem ck_429 : x_ok mLT1 [cx_410, cx_427, cx_428] mTS2 mTC2 mRUp cx_429 [(7, [0]), (56, [1, 2])] [(0, uN1517), (10, [740]), (19, [1000291]), (41, [1000292]), (45, [1000293]), (46, uN1518), (47, uN1519), (53, uN1520), (59, [740]), (60, uN1518)] [(21, cz_429_0, ((-99999999888), [(2, (-100000000000)), (12, 100000000000), (13, (-17))]))] (124, []) 33 19 = true := by decide +kernel
theorem sn_429 {W : Bool} {X : List Int32} : y_Snd (mGw W) mLT1 (J2 W X) X cx_429 := y_ok J2_J mTS2_ok1 mTC2_ok1 mRUp_ok1 (List.forall_mem_cons.mpr ⟨sn_410, List.forall_mem_cons.mpr ⟨sn_427, List.forall_mem_cons.mpr ⟨sn_428, fun _ h => absurd h List.not_mem_nil⟩⟩⟩) ck_429
/-- M.must -/
def cx_430 : zCtx := (208, ([ui0, ui350, (1, 2), ui54, ui54], [ur1299], [], [], [uV2, uV66], [uF1389, uF1390, uF1392, uF181], [uG1460]), [([ui0, ui350, (1, 2), ui54, ui54], [ur1299], [], [], [], [], [])], [], 21, 1, 21)
set_option maxRecDepth 1000000 in
theorem ck_430 : x_ok mLT1 [cx_408, cx_414] mTS2 mTC2 mRUp cx_430 [(2, [0]), (17, [1])] [(15, uN1425)] [] (8, []) 13 11 = true := by decide +kernel
theorem sn_430 {W : Bool} {X : List Int32} : y_Snd (mGw W) mLT1 (J2 W X) X cx_430 := y_ok J2_J mTS2_ok1 mTC2_ok1 mRUp_ok1 (List.forall_mem_cons.mpr ⟨sn_408, List.forall_mem_cons.mpr ⟨sn_414, fun _ h => absurd h List.not_mem_nil⟩⟩) ck_430
/-- M.known -/
def cx_431 : zCtx := (212, ([ui0, ui350, (1, 2), ui54, (0, 5), ui54, (0, 6), ui54], [ur1299], [], [], [uV2], [uF1389, uF1390, uF1392, uF1436, uF1428, uF1498, uF262], [(41, [uL81, uL69, uL23])]), [([ui0, ui350, (1, 2), ui54, (0, 5), ui54, (0, 6), ui54], [ur1299], [], [], [uV63], [], [])], [], 32, 2, 42)
set_option maxRecDepth 1000000 in
theorem ck_431 : x_ok mLT1 [cx_430] mTS2 mTC2 mRUp cx_431 [(7, [0])] [(0, uN1517), (10, [740])] [] (11, []) 21 14 = true := by decide +kernel
theorem sn_431 {W : Bool} {X : List Int32} : y_Snd (mGw W) mLT1 (J2 W X) X cx_431 := y_ok J2_J mTS2_ok1 mTC2_ok1 mRUp_ok1 (List.forall_mem_cons.mpr ⟨sn_430, fun _ h => absurd h List.not_mem_nil⟩) ck_431
def cx_432pi_0 (t : List (Int × Int)) : List (Int × Int) := ui0 :: ui408 :: (0, 0) :: ui54 :: (0, 5) :: ui54 :: (0, 6) :: ui54 :: t
def cx_432pi_1 (t : List (Int × Int)) : List (Int × Int) := (0, 1) :: ui50 :: ui70 :: ui54 :: ui1311 :: t
def cx_432p : zS := ((cx_432pi_0 (cx_432pi_1 [])), [ur1299, ur1313, ur1314, ur1315, ur1316, ur1348, ur1461], [], [], [uV2], (cx_429pf_0 (cx_429pf_1 (cx_429pf_2 []))), [uG1501, uG1521, uG1503])
def cx_432q0i_0 (t : List (Int × Int)) : List (Int × Int) := ui0 :: ui408 :: (0, 0) :: ui54 :: (0, 5) :: ui54 :: (0, 6) :: ui54 :: t
def cx_432q0i_1 (t : List (Int × Int)) : List (Int × Int) := (0, 1) :: ui50 :: ui70 :: ui54 :: ui1311 :: (1, 2) :: t
def cx_432q0 : zS := ((cx_432q0i_0 (cx_432q0i_1 [])), [ur1299, ur1313, ur1314, ur1315, ur1316, ur1348, ur1461], [uL65], [], [uV63], [uF1450, uF1504, uF1389, uF1436, uF1428, uF1443, uF1500], [uG1505, uG1506, uG1507])
def cx_432q1i_0 (t : List (Int × Int)) : List (Int × Int) := ui0 :: ui1445 :: (0, 0) :: ui54 :: (0, 5) :: ui54 :: (1, 6) :: ui54 :: t
def cx_432q1i_1 (t : List (Int × Int)) : List (Int × Int) := (0, 1) :: ui50 :: ui70 :: ui54 :: (1, 1) :: (0, 5) :: t
def cx_432q1 : zS := ((cx_432q1i_0 (cx_432q1i_1 [])), [ur1299, ur1313, ur1314, ur1315, ur1316, ur1348, ur1461], [uL67, uL65, uL65], [], [uV411], [uF1406, uF1390, uF1392, uF1443, uF1500, uF1436, uF1428], [uG1510, uG1511, uG1510, uG1512, uG1511])
def cx_432q2i_0 (t : List (Int × Int)) : List (Int × Int) := ui0 :: ui1445 :: (0, 0) :: ui54 :: (1, 5) :: ui93 :: (0, 6) :: ui54 :: t
def cx_432q2i_1 (t : List (Int × Int)) : List (Int × Int) := (0, 1) :: ui50 :: ui70 :: ui95 :: (1, 1) :: t
def cx_432q2 : zS := ((cx_432q2i_0 (cx_432q2i_1 [])), [ur1299, ur1313, ur1314, ur1315, ur1316, ur1348, ur1461], [uL67, uL65, uL65], [], [uV63], [uF1406, uF1390, uF1392, uF1436, uF1428, uF1443, uF1500], [uG1513, uG1510, uG1511, uG1510, uG1513, uG1511])
def cx_432q3i_0 (t : List (Int × Int)) : List (Int × Int) := ui0 :: ui1445 :: (0, 0) :: ui54 :: (0, 0) :: ui54 :: (0, 6) :: ui54 :: t
def cx_432q3i_1 (t : List (Int × Int)) : List (Int × Int) := (0, 1) :: ui50 :: ui70 :: ui54 :: (1, 1) :: t
def cx_432q3 : zS := ((cx_432q3i_0 (cx_432q3i_1 [])), [ur1299, ur1313, ur1314, ur1315, ur1316, ur1348, ur1461], [uL67, uL65, uL65], [], [uV63], [uF1496, uF1497, uF1406, uF1390, uF1392, uF1443, uF1500], [uG1513, uG1510, uG1511, uG1510, uG1513, uG1511])
/-- M.known -/
def cx_432 : zCtx := (212, cx_432p, [cx_432q0, cx_432q1, cx_432q2, cx_432q3], [uk1408, uk1397, uk1398, uk1430, uk1431], 157, 3, 62)
def cz_432_0i_0 (t : List (Int × Int)) : List (Int × Int) := ui0 :: ui1445 :: (0, 0) :: ui54 :: (0, 5) :: ui54 :: (0, 6) :: ui54 :: t
def cz_432_0i_1 (t : List (Int × Int)) : List (Int × Int) := (0, 1) :: ui50 :: ui70 :: ui54 :: (1, 1) :: (0, 6) :: t
def cz_432_0 : zS := ((cz_432_0i_0 (cz_432_0i_1 [])), [ur1299, ur1313, ur1314, ur1315, ur1316, ur1348, ur1461], [uL1515], [uV2, uV11, uV411], [], (cz_429_0f_0 (cz_429_0f_1 [])), [uG1501, uG1521, uG1503, uG1510, uG1516, uG1511])
set_option maxRecDepth 1000000 in
theorem ck_432 : x_ok mLT1 [cx_410, cx_427, cx_428] mTS2 mTC2 mRUp cx_432 [(7, [0]), (56, [1, 2])] [(0, uN1517), (10, [740]), (19, [1000291]), (41, [1000292]), (45, [1000293]), (46, uN1518), (47, uN1519), (53, uN1520), (59, [740]), (60, uN1518)] [(21, cz_432_0, ((-99999999888), [(2, (-100000000000)), (12, 100000000000), (13, (-17))]))] (124, []) 33 19 = true := by decide +kernel
theorem sn_432 {W : Bool} {X : List Int32} : y_Snd (mGw W) mLT1 (J2 W X) X cx_432 := y_ok J2_J mTS2_ok1 mTC2_ok1 mRUp_ok1 (List.forall_mem_cons.mpr ⟨sn_410, List.forall_mem_cons.mpr ⟨sn_427, List.forall_mem_cons.mpr ⟨sn_428, fun _ h => absurd h List.not_mem_nil⟩⟩⟩) ck_432
/-- M.bounded -/
def cx_433 : zCtx := (210, ([ui0, ui350, (1, 2), ui54, (0, 5), ui54, ui54], [ur1299], [], [], [uV2, uV64, uV122], [uF1389, uF1390, uF1392, uF1436, uF1428, uF1437], [uG1438]), [([ui0, ui350, (1, 2), ui54, (0, 5), ui54, ui54], [ur1299], [], [], [uV64], [], [])], [], 12, 1, 21)
set_option maxRecDepth 1000000 in
theorem ck_433 : x_ok mLT1 [cx_414] mTS2 mTC2 mRUp cx_433 [(17, [0])] [(15, uN1439), (20, [740])] [] (8, []) 4 11 = true := by decide +kernel
theorem sn_433 {W : Bool} {X : List Int32} : y_Snd (mGw W) mLT1 (J2 W X) X cx_433 := y_ok J2_J mTS2_ok1 mTC2_ok1 mRUp_ok1 (List.forall_mem_cons.mpr ⟨sn_414, fun _ h => absurd h List.not_mem_nil⟩) ck_433
def cx_434p : zS := ((cx_421pi_0 (cx_421pi_1 [])), [ur1299, ur1313, ur1314, ur1315, ur1316, ur1348], [], [], [uV2, uV64, uV122], (cx_419pf_0 (cx_419pf_1 [])), [uG1444, (40, [uL80, uL9, uL263, uL65, uL65, uL81, uL166, uL100, uL106, uL173])])
def cx_434q1 : zS := ((cx_421q1i_0 (cx_421q1i_1 [])), [ur1299, ur1313, ur1314, ur1315, ur1316, ur1348], [uL67, uL65, uL65], [], [uV841], [uF1406, uF1390, uF1392, uF1446, uF1447, uF1443], [uG1448, uG1448, (40, [uL80, uL111, uL34, uL65, uL65, uL81, uL166, uL217, uL210, uL173]), uG1449])
/-- M.bounded -/
def cx_434 : zCtx := (210, cx_434p, [([ui0, ui1459, (0, 0), ui54, (0, 5), ui54, ui54, (0, 6), (0, 1), ui50, ui70, ui54], [ur1299, ur1313, ur1314, ur1315, ur1316, ur1348], [uL65], [], [uV64], [uF1450, uF1420, uF1389, uF1436, uF1428, uF1443], [uG1451]), cx_434q1, ([ui0, ui148, (0, 0), ui54, (0, 5), ui54, ui54, (0, 6), (0, 1), ui50, ui70, ui199, ui54, (0, 5), ui54], [ur1299, ur1313, ur1314, ur1315, ur1316, ur1348], [uL65], [], [uV841], [uF1452, uF1396, uF1389, uF1453, uF1454, uF1443], [uG1455])], [uk1408, uk1397, uk1398, uk1430, uk1431], 53, 2, 41)
set_option maxRecDepth 1000000 in
theorem ck_434 : x_ok mLT1 [cx_416, cx_409, cx_417, cx_418, cx_406] mTS2 mTC2 mRUp cx_434 [(9, [0]), (17, [1]), (48, [2, 3]), (52, [4])] [(8, uN1456), (12, [740]), (15, uN1439), (20, [740]), (31, uN1457), (42, uN1458), (51, [740]), (55, [740, 1000260, 1000261, 1000262, 1000263, 1000264, 1000265, 1000266, 1000267, 1000268, 1000269, 1000270, 1000271, 1000272, 1000273, 1000274, 1000275, 1000276, 1000277, 1000278, 1000279, 1000280, 1000281, 1000282, 1000283, 1000284, 1000285, 1000286, 1000287, 1000288])] [] (28, []) 25 31 = true := by decide +kernel
theorem sn_434 {W : Bool} {X : List Int32} : y_Snd (mGw W) mLT1 (J2 W X) X cx_434 := y_ok J2_J mTS2_ok1 mTC2_ok1 mRUp_ok1 (List.forall_mem_cons.mpr ⟨sn_416, List.forall_mem_cons.mpr ⟨sn_409, List.forall_mem_cons.mpr ⟨sn_417, List.forall_mem_cons.mpr ⟨sn_418, List.forall_mem_cons.mpr ⟨sn_406, fun _ h => absurd h List.not_mem_nil⟩⟩⟩⟩⟩) ck_434
def cx_435pi_0 (t : List (Int × Int)) : List (Int × Int) := ui0 :: ui350 :: (0, 0) :: ui54 :: (0, 5) :: ui54 :: (0, 1) :: (0, 6) :: t
def cx_435pi_1 (t : List (Int × Int)) : List (Int × Int) := ui1161 :: ui54 :: ui70 :: (0, 1) :: t
def cx_435pf_0 (t : List zFa) : List zFa := uF1389 :: uF1390 :: uF1392 :: uF1436 :: uF1428 :: uF1464 :: uF1440 :: (0, (false, 25, 0, []), 2, 1, 0, []) :: t
def cx_435pf_1 (t : List zFa) : List zFa := uF1522 :: uF309 :: uF1191 :: uF1192 :: uF1329 :: uF1330 :: uF1499 :: (0, (false, 26, 0, []), 2, 7, 0, []) :: t
def cx_435p : zS := ((cx_435pi_0 (cx_435pi_1 [])), [ur1299, ur1348, ur1313, ur1314, ur1315, ur1316, ur1461, ur1349], [], [], [uV2], (cx_435pf_0 (cx_435pf_1 [])), [(58, [uL166, uL9]), (40, [uL166, uL9, uL249, uL65, uL65, uL81, uL133, uL100, uL106, uL173]), (64, [uL166, uL9, uL81]), uG1523, uG1524])
def cx_435q0i_0 (t : List (Int × Int)) : List (Int × Int) := ui0 :: ui350 :: (0, 0) :: ui54 :: (0, 5) :: ui54 :: (0, 1) :: (0, 6) :: t
def cx_435q0i_1 (t : List (Int × Int)) : List (Int × Int) := ui1161 :: ui54 :: ui70 :: (0, 1) :: ui54 :: (1, 2) :: ui350 :: (0, 5) :: t
def cx_435q0i_2 (t : List (Int × Int)) : List (Int × Int) := ui54 :: ui54 :: ui54 :: t
def cx_435q0f_0 (t : List zFa) : List zFa := uF1452 :: uF1504 :: (0, (false, 11, 0, []), 0, 0, 0, [(14, 1)]) :: (0, (false, 15, 0, []), 0, 0, 0, [(15, 1)]) :: (0, (false, 16, 0, []), 0, 0, 0, [(16, 1)]) :: uF1522 :: uF1522 :: uF1522 :: t
def cx_435q0f_1 (t : List zFa) : List zFa := uF1525 :: uF1525 :: uF1522 :: (3, (true, 0, 0, [(14, 1)]), 0, 0, 0, [(18, 1)]) :: t
def cx_435q0 : zS := ((cx_435q0i_0 (cx_435q0i_1 (cx_435q0i_2 []))), [ur1299, ur1348, ur1313, ur1314, ur1315, ur1316, ur1461, ur1349], [(0, [(1, (-1)), (14, 1)])], [], [], (cx_435q0f_0 (cx_435q0f_1 [])), [uG1523, uG1524, (41, [uL166, uL210, uL217]), uG1523])
def cx_435q1i_0 (t : List (Int × Int)) : List (Int × Int) := ui0 :: ui1481 :: (0, 0) :: ui54 :: (0, 5) :: ui54 :: (0, 1) :: (0, 6) :: t
def cx_435q1i_1 (t : List (Int × Int)) : List (Int × Int) := ui1161 :: ui54 :: ui70 :: (0, 1) :: ui54 :: (0, 5) :: ui54 :: ui54 :: t
def cx_435q1i_2 (t : List (Int × Int)) : List (Int × Int) := ui54 :: t
def cx_435q1f_0 (t : List zFa) : List zFa := uF1482 :: uF1390 :: uF1392 :: (3, (true, 0, 3, [(1, 1)]), 0, 0, 0, [(12, 1)]) :: uF1453 :: uF1454 :: uF1526 :: uF1526 :: t
def cx_435q1f_1 (t : List zFa) : List zFa := uF1527 :: uF1527 :: (1, (true, 0, 0, [(6, 1)]), 0, 0, 1, [(8, 1)]) :: t
def cx_435q1g_0 (t : List zTg) : List zTg := uG1528 :: uG1529 :: uG1530 :: (58, [uL166, uL1489]) :: (58, [uL166, uL1490]) :: (64, [uL166, uL111, uL81]) :: (58, [uL166, uL111]) :: uG1523 :: t
def cx_435q1g_1 (t : List zTg) : List zTg := uG1530 :: (40, [uL166, uL1485, uL65, uL65, uL65, uL81, uL836, uL210, uL211, uL267]) :: uG1529 :: uG1523 :: uG1528 :: t
def cx_435q1 : zS := ((cx_435q1i_0 (cx_435q1i_1 (cx_435q1i_2 []))), [ur1299, ur1348, ur1313, ur1314, ur1315, ur1316, ur1461, ur1349], [uL36, uL214, (19, [(8, (-1))])], [], [], (cx_435q1f_0 (cx_435q1f_1 [])), (cx_435q1g_0 (cx_435q1g_1 [])))
/-- M.tellLikes -/
def cx_435 : zCtx := (211, cx_435p, [cx_435q0, cx_435q1], [uk1408, uk1397, uk1398, uk1430, uk1431, (59, true, 0), (60, true, 0)], 231, 4, 84)
def cq_435 : List zCtx := [cx_429, cx_431, cx_432, cx_411, cx_412, cx_433, cx_434, cx_423, cx_424]
def cs_435 : List (Nat × List Nat) := [(1, [0]), (11, [1, 2]), (34, [3, 4]), (41, [5, 6]), (48, [7, 8])]
def hs_435 : List (Nat × List Nat) := [(4, [740]), (14, [740]), (28, [1000012]), (31, [1000258, 1000306]), (37, [740, 1000298, 1000317, 1000318, 1000319, 1000320, 1000321]), (44, [740]), (46, [1000246, 1000322]), (51, [740, 1000314, 1000323]), (80, [1000302, 1000451, 1000452]), (101, [1000448]), (122, [1000449]), (123, [1000302, 1000450])]
def ns_435 : List zN := []
set_option maxRecDepth 1000000 in
theorem ca_435 : x_okA mLT1 cq_435 mTS2 mTC2 mRUp cx_435 cs_435 hs_435 ns_435 (74, []) 157 77 = true := by decide +kernel
set_option maxRecDepth 1000000 in
theorem cc_435 : x_okC mLT1 cq_435 mTS2 mTC2 mRUp cx_435 cs_435 hs_435 ns_435 (74, []) 157 77 = true := by decide +kernel
theorem ck_435 : x_ok mLT1 cq_435 mTS2 mTC2 mRUp cx_435 cs_435 hs_435 ns_435 (74, []) 157 77 = true := x_ok_of ca_435 (fun _ h => absurd h List.not_mem_nil) cc_435
theorem sn_435 {W : Bool} {X : List Int32} : y_Snd (mGw W) mLT1 (J2 W X) X cx_435 := y_ok J2_J mTS2_ok1 mTC2_ok1 mRUp_ok1 (List.forall_mem_cons.mpr ⟨sn_429, List.forall_mem_cons.mpr ⟨sn_431, List.forall_mem_cons.mpr ⟨sn_432, List.forall_mem_cons.mpr ⟨sn_411, List.forall_mem_cons.mpr ⟨sn_412, List.forall_mem_cons.mpr ⟨sn_433, List.forall_mem_cons.mpr ⟨sn_434, List.forall_mem_cons.mpr ⟨sn_423, List.forall_mem_cons.mpr ⟨sn_424, fun _ h => absurd h List.not_mem_nil⟩⟩⟩⟩⟩⟩⟩⟩⟩) ck_435
end
