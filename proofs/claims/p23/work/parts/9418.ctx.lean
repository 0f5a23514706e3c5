noncomputable section
/-! ===== readings, by program, checked by the kernel ===== -/
/-- State.sumOfStrength -/
def cx_407 : zCtx := (112, ([ui0, (0, 6)], [ur433], [], [], [uV2], [uF772], []), [([ui0, (0, 6), ui49], [ur433], [], [], [uV12], [], [])], [], 113, 0, 0)
set_option maxRecDepth 1000000 in
theorem ck_407 : x_ok mLT1 [] mTS2 mTC2 mRUp cx_407 [] [] [(4, ([(0, 3072), (0, 6), ((-2147483648), 2147483647), (0, 6)], [(6, false)], [], [(2, 0, 0, []), (0, 0, 0, [(2, 1)]), (0, 0, 0, [(3, 1)])], [], [(0, (false, 6, 0, []), 0, 0, 0, [(1, 1)])], []), (108, [(3, (-17))]))] (113, []) 0 19 = true := by decide +kernel
theorem sn_407 {W : Bool} {X : List Int32} : y_Snd (mGw W) mLT1 (J2 W X) X cx_407 := y_ok J2_J mTS2_ok1 mTC2_ok1 mRUp_ok1 (fun _ h => absurd h List.not_mem_nil) ck_407
/-- HairRope.count -/
def cx_408 : zCtx := (185, ([ui0, ui49], [ur443], [], [], [uV2, uV11], [], []), [([ui0, ui1412, ui49], [ur443], [], [], [uV12], [], []), ([ui0, ui1413], [ur443], [], [], [uV64], [], []), ([ui0, ui1413], [ur443], [], [], [uV62], [], []), ([ui0, ui49], [ur443], [], [], [uV61], [], [])], [], 150, 3, 107)
set_option maxRecDepth 1000000 in
theorem ck_408 : x_ok mLT1 [cx_402, cx_403, cx_404, cx_257, cx_405, cx_406, cx_407] mTS2 mTC2 mRUp cx_408 [(126, [0]), (142, [1]), (150, [2]), (185, [3]), (193, [0]), (230, [4]), (238, [5]), (246, [6])] [] [] (13, []) 137 16 = true := by decide +kernel
theorem sn_408 {W : Bool} {X : List Int32} : y_Snd (mGw W) mLT1 (J2 W X) X cx_408 := y_ok J2_J mTS2_ok1 mTC2_ok1 mRUp_ok1 (List.forall_mem_cons.mpr ⟨sn_402, List.forall_mem_cons.mpr ⟨sn_403, List.forall_mem_cons.mpr ⟨sn_404, List.forall_mem_cons.mpr ⟨sn_257, List.forall_mem_cons.mpr ⟨sn_405, List.forall_mem_cons.mpr ⟨sn_406, List.forall_mem_cons.mpr ⟨sn_407, fun _ h => absurd h List.not_mem_nil⟩⟩⟩⟩⟩⟩⟩) ck_408
/-- M.lays -/
def cx_409 : zCtx := (193, ([ui0, ui49, ui473, ui52], [ur1414, ur1415], [uL474], [], [uV2, uV11], [uF150, uF42], [uG475]), [([ui0, ui49, ui473, ui52], [ur1414, ur1415], [], [], [], [uF1416], [uG475, uG1417])], [uk1418, uk1419], 81, 0, 0)
set_option maxRecDepth 1000000 in
theorem ck_409 : x_ok mLT1 [] mTS2 mTC2 mRUp cx_409 [] [(17, [1000424]), (18, [1000422]), (36, [1000425])] [] (81, []) 0 84 = true := by decide +kernel
theorem sn_409 {W : Bool} {X : List Int32} : y_Snd (mGw W) mLT1 (J2 W X) X cx_409 := y_ok J2_J mTS2_ok1 mTC2_ok1 mRUp_ok1 (fun _ h => absurd h List.not_mem_nil) ck_409
/-- M.lays -/
def cx_410 : zCtx := (193, ([ui0, ui49, ui481, ui52, ui49], [ur1414, ur1415], [uL474], [], [uV2, uV11], [uF150, uF42], [uG475, uG1420]), [([ui0, ui49, ui481, ui52, ui49], [ur1414, ur1415], [], [], [], [uF1416], [uG475, uG1420, uG1417])], [uk1418, uk1419], 81, 0, 0)
set_option maxRecDepth 1000000 in
theorem ck_410 : x_ok mLT1 [] mTS2 mTC2 mRUp cx_410 [] [(17, [1000424]), (18, [1000422]), (36, [1000425])] [] (81, []) 0 84 = true := by decide +kernel
theorem sn_410 {W : Bool} {X : List Int32} : y_Snd (mGw W) mLT1 (J2 W X) X cx_410 := y_ok J2_J mTS2_ok1 mTC2_ok1 mRUp_ok1 (fun _ h => absurd h List.not_mem_nil) ck_410
/-- M.lays -/
def cx_411 : zCtx := (193, ([ui0, ui49, ui484, ui52, ui49, ui49], [ur1414, ur1415], [uL474], [], [uV2, uV11], [uF150, uF42], [uG475, uG1420, uG1421]), [([ui0, ui49, ui484, ui52, ui49, ui49], [ur1414, ur1415], [], [], [], [uF1416], [uG475, uG1420, uG1421, uG1417])], [uk1418, uk1419], 81, 0, 0)
set_option maxRecDepth 1000000 in
theorem ck_411 : x_ok mLT1 [] mTS2 mTC2 mRUp cx_411 [] [(17, [1000424]), (18, [1000422]), (36, [1000425])] [] (81, []) 0 84 = true := by decide +kernel
theorem sn_411 {W : Bool} {X : List Int32} : y_Snd (mGw W) mLT1 (J2 W X) X cx_411 := y_ok J2_J mTS2_ok1 mTC2_ok1 mRUp_ok1 (fun _ h => absurd h List.not_mem_nil) ck_411
/-- M.lays -/
def cx_412 : zCtx := (193, ([ui0, ui49, ui487, ui52, ui49, ui49, ui49], [ur1414, ur1415], [uL474], [], [uV2, uV11], [uF150, uF42], [uG475, uG1420, uG1421, uG1422]), [([ui0, ui49, ui487, ui52, ui49, ui49, ui49], [ur1414, ur1415], [], [], [], [uF1416], [uG475, uG1420, uG1421, uG1422, uG1417])], [uk1418, uk1419], 81, 0, 0)
set_option maxRecDepth 1000000 in
theorem ck_412 : x_ok mLT1 [] mTS2 mTC2 mRUp cx_412 [] [(17, [1000424]), (18, [1000422]), (36, [1000425])] [] (81, []) 0 84 = true := by decide +kernel
theorem sn_412 {W : Bool} {X : List Int32} : y_Snd (mGw W) mLT1 (J2 W X) X cx_412 := y_ok J2_J mTS2_ok1 mTC2_ok1 mRUp_ok1 (fun _ h => absurd h List.not_mem_nil) ck_412
/-- M.lays -/
def cx_413 : zCtx := (193, ([ui0, ui49, ui490, ui52, ui49, ui49, ui49, ui49], [ur1414, ur1415], [uL474], [], [uV2, uV11], [uF150, uF42], [uG475, uG1420, uG1421, uG1422, uG1423]), [([ui0, ui49, ui490, ui52, ui49, ui49, ui49, ui49], [ur1414, ur1415], [], [], [], [uF1416], [uG475, uG1420, uG1421, uG1422, uG1423, uG1417])], [uk1418, uk1419], 81, 0, 0)
set_option maxRecDepth 1000000 in
theorem ck_413 : x_ok mLT1 [] mTS2 mTC2 mRUp cx_413 [] [(17, [1000424]), (18, [1000422]), (36, [1000425])] [] (81, []) 0 84 = true := by decide +kernel
theorem sn_413 {W : Bool} {X : List Int32} : y_Snd (mGw W) mLT1 (J2 W X) X cx_413 := y_ok J2_J mTS2_ok1 mTC2_ok1 mRUp_ok1 (fun _ h => absurd h List.not_mem_nil) ck_413
/-- M.feed -/
def cx_414 : zCtx := (192, ([ui0, ui49, ui49, ui49, ui49, ui49, ui52, ui52], [ur1414, ur1415], [uL493], [], [uV2, uV11, uV12, uV58, uV97, uV75], [uF1424, uF42], [uG496]), [([ui0, ui49, ui49, ui49, ui49, ui49, ui52, ui52], [ur1414, ur1415], [uL497], [], [uV61], [uF1424], [uG496]), ([ui0, ui49, ui49, ui49, ui49, ui49, ui52, ui52], [ur1414, ur1415], [uL498], [], [uV499], [(0, (false, 2, 0, []), 0, 0, 20, [(6, 1)])], [uG496, (73, [uL78, uL9, uL500]), (73, [uL500, uL67, uL501]), (73, [uL501, uL23, uL502]), (73, [uL502, uL98, uL503]), (73, [uL503, uL104, uL504])])], [uk1418, uk1419], 105, 1, 22)
set_option maxRecDepth 1000000 in
theorem ck_414 : x_ok mLT1 [cx_409, cx_410, cx_411, cx_412, cx_413] mTS2 mTC2 mRUp cx_414 [(17, [0]), (22, [1]), (27, [2]), (33, [3]), (39, [4])] [] [] (24, []) 81 27 = true := by decide +kernel
theorem sn_414 {W : Bool} {X : List Int32} : y_Snd (mGw W) mLT1 (J2 W X) X cx_414 := y_ok J2_J mTS2_ok1 mTC2_ok1 mRUp_ok1 (List.forall_mem_cons.mpr ⟨sn_409, List.forall_mem_cons.mpr ⟨sn_410, List.forall_mem_cons.mpr ⟨sn_411, List.forall_mem_cons.mpr ⟨sn_412, List.forall_mem_cons.mpr ⟨sn_413, fun _ h => absurd h List.not_mem_nil⟩⟩⟩⟩⟩) ck_414
/-- M.back -/
def cx_415 : zCtx := (194, ([ui0, ui49, ui52], [ur1414], [], [], [uV2, uV11], [uF150], []), [([ui0, ui506, ui52], [ur1414], [uL507], [], [uV61], [uF150], []), ([ui0, ui52, ui52], [ur1414], [uL508], [], [uV509], [(0, (false, 2, 0, []), 0, 0, 0, [(1, (-1)), (2, 1)])], []), ([ui0, ui262, ui52], [ur1414], [], [], [uV61], [uF150], [])], [uk1418], 15, 0, 0)
set_option maxRecDepth 1000000 in
theorem ck_415 : x_ok mLT1 [] mTS2 mTC2 mRUp cx_415 [] [] [] (15, []) 0 18 = true := by decide +kernel
theorem sn_415 {W : Bool} {X : List Int32} : y_Snd (mGw W) mLT1 (J2 W X) X cx_415 := y_ok J2_J mTS2_ok1 mTC2_ok1 mRUp_ok1 (fun _ h => absurd h List.not_mem_nil) ck_415
/-- M.byteAt -/
def cx_416 : zCtx := (197, ([ui0, ui52, ui52], [ur1414, ur1425], [uL9], [], [uV2, uV11], [uF179, uF599], [(52, [uL67])]), [([ui0, ui52, ui52, ui56], [ur1414, ur1425], [uL57], [], [uV58], [], [uG59]), ([ui0, ui52, ui52], [ur1414, ur1425], [uL60], [], [uV62], [], [])], [], 12, 0, 0)
set_option maxRecDepth 1000000 in
theorem ck_416 : x_ok mLT1 [] mTS2 mTC2 mRUp cx_416 [] [(18, [1000199, 1000200])] [] (12, []) 0 15 = true := by decide +kernel
theorem sn_416 {W : Bool} {X : List Int32} : y_Snd (mGw W) mLT1 (J2 W X) X cx_416 := y_ok J2_J mTS2_ok1 mTC2_ok1 mRUp_ok1 (fun _ h => absurd h List.not_mem_nil) ck_416
/-- M.token -/
def cx_417 : zCtx := (198, ([ui0, ui1426, ui52, ui196, ui1427, ui68, ui52, ui52], [ur1414, ur1428, ur1429, ur1430, ur1431], [], [], [uV2, uV11, uV12, uV58, uV74], [uF1239, uF1432, uF1433, uF1434, uF449], [uG1435]), [([ui0, ui1426, ui52, ui196, ui1427, ui68, ui52, ui52], [ur1414, ur1428, ur1429, ur1430, ur1431], [], [], [], [(1, (true, 0, 0, [(5, 1)]), 0, 0, 0, [(1, 1)]), (2, (true, 0, 0, [(5, 1)]), 0, 0, 0, [(2, 1)]), (3, (true, 0, 0, [(5, 1)]), 0, 0, 0, [(3, 1)]), (4, (true, 0, 0, [(5, 1)]), 1, 0, 0, [(4, 1)]), (0, (false, 10, 0, []), 0, 0, 1, [(5, 1)])], [uG1435])], [uk1436, uk1437, uk1438, uk1439, uk1440], 31, 0, 0)
set_option maxRecDepth 1000000 in
theorem ck_417 : x_ok mLT1 [] mTS2 mTC2 mRUp cx_417 [] [] [] (31, []) 0 34 = true := by decide +kernel
theorem sn_417 {W : Bool} {X : List Int32} : y_Snd (mGw W) mLT1 (J2 W X) X cx_417 := y_ok J2_J mTS2_ok1 mTC2_ok1 mRUp_ok1 (fun _ h => absurd h List.not_mem_nil) ck_417
/-- M.isLetter -/
def cx_418 : zCtx := (199, ([ui0, ui56], [], [], [], [uV11], [], []), [([ui0, ui56], [], [], [], [uV64], [], [uG84]), ([ui0, ui56], [], [], [], [uV62], [], [uG85])], [], 9, 0, 0)
set_option maxRecDepth 1000000 in
theorem ck_418 : x_ok mLT1 [] mTS2 mTC2 mRUp cx_418 [] [(17, [1000001])] [] (9, []) 0 12 = true := by decide +kernel
theorem sn_418 {W : Bool} {X : List Int32} : y_Snd (mGw W) mLT1 (J2 W X) X cx_418 := y_ok J2_J mTS2_ok1 mTC2_ok1 mRUp_ok1 (fun _ h => absurd h List.not_mem_nil) ck_418
/-- M.appends -/
def cx_419 : zCtx := (189, ([ui0, ui1441, ui1442], [], [], [], [uV175, uV12], [], []), [([ui0, ui1441, ui1442], [], [], [], [(1, 0, (-96), [(1, 27), (2, 1)])], [], [])], [], 13, 0, 0)
set_option maxRecDepth 1000000 in
theorem ck_419 : x_ok mLT1 [] mTS2 mTC2 mRUp cx_419 [] [] [] (13, []) 0 16 = true := by decide +kernel
theorem sn_419 {W : Bool} {X : List Int32} : y_Snd (mGw W) mLT1 (J2 W X) X cx_419 := y_ok J2_J mTS2_ok1 mTC2_ok1 mRUp_ok1 (fun _ h => absurd h List.not_mem_nil) ck_419
/-- M.isDigit -/
def cx_420 : zCtx := (200, ([ui0, ui56], [], [], [], [uV11], [], []), [([ui0, ui56], [], [], [], [uV64], [], [uG115]), ([ui0, ui56], [], [], [], [uV62], [], [uG116])], [], 9, 0, 0)
set_option maxRecDepth 1000000 in
theorem ck_420 : x_ok mLT1 [] mTS2 mTC2 mRUp cx_420 [] [(17, [1000002])] [] (9, []) 0 12 = true := by decide +kernel
theorem sn_420 {W : Bool} {X : List Int32} : y_Snd (mGw W) mLT1 (J2 W X) X cx_420 := y_ok J2_J mTS2_ok1 mTC2_ok1 mRUp_ok1 (fun _ h => absurd h List.not_mem_nil) ck_420
def cx_421p : zS := ([ui0, ui91, ui56, ui56, ui68, ui52], [ur1414, ur1428, ur1429, ur1430, ur1431], [uL578], [], [uV2, uV11, uV12, uV58], [uF1271, uF1443, uF1432, uF1433, uF1434, uF449], [(56, [uL104, uL98, uL9]), (20, [uL9, uL67]), (21, [uL63, uL67, uL63]), (21, [uL65, uL67, uL63]), (21, [uL114, uL67, uL63])])
/-- M.sign -/
def cx_421 : zCtx := (201, cx_421p, [([ui0, ui91, ui56, ui56, ui68, ui52], [ur1414, ur1428, ur1429, ur1430, ur1431], [], [], [uV64], [(0, (false, 10, 0, []), 0, 0, 1, [(4, 1)])], [(56, [uL104, uL169, uL109])])], [uk1436, uk1437, uk1438, uk1439, uk1440], 70, 1, 25)
set_option maxRecDepth 1000000 in
theorem ck_421 : x_ok mLT1 [cx_417] mTS2 mTC2 mRUp cx_421 [(101, [0])] [(104, [1000205, 1000206, 1000207])] [] (39, []) 31 42 = true := by decide +kernel
theorem sn_421 {W : Bool} {X : List Int32} : y_Snd (mGw W) mLT1 (J2 W X) X cx_421 := y_ok J2_J mTS2_ok1 mTC2_ok1 mRUp_ok1 (List.forall_mem_cons.mpr ⟨sn_417, fun _ h => absurd h List.not_mem_nil⟩) ck_421
/-- M.cut -/
def cx_422 : zCtx := (196, ([ui0, ui52, ui141], [ur1414, ur1425, ur1428, ur1429, ur1430, ur1431, ur1444], [], [], [uV2], [uF32, uF1097, uF599, uF1124, uF1125, uF1445, uF1446, uF1127], [uG1447, uG1448]), [([ui0, ui52, ui141], [ur1414, ur1425, ur1428, ur1429, ur1430, ur1431, ur1444], [], [], [], [], [uG1449])], [uk1436, uk1437, uk1438, uk1439, uk1440], 67778300, 2, 49)
def cq_422 : List zCtx := [cx_416, cx_417, cx_418, cx_419, cx_420, cx_421]
def cs_422 : List (Nat × List Nat) := [(19, [0]), (39, [1]), (74, [2]), (89, [0]), (92, [2]), (110, [0]), (113, [3]), (186, [1]), (197, [4]), (212, [0]), (215, [4]), (235, [0]), (265, [1]), (283, [0]), (286, [5])]
def hs_422 : List (Nat × List Nat) := [(6, [1000208]), (42, [1000209]), (67, [1000210, 1000211]), (73, [1000210]), (83, [1000212, 1000213]), (98, [1000238, 1000214, 1000215, 1000216]), (113, [1000204]), (118, [1000217, 1000218]), (124, [1000201, 1000219, 1000220]), (144, [1000221]), (173, [1000222, 1000223, 1000224]), (189, [1000225, 1000226]), (206, [1000227, 1000228]), (221, [1000239, 1000229, 1000230, 1000231]), (238, [1000203]), (244, [1000232, 1000233]), (250, [1000202, 1000234, 1000235]), (268, [1000236, 1000237]), (294, [1000240])]
def nd_422_0p : zS := ([ui0, ui52, ui141, ui52, ui141], [ur1414, ur1425, ur1428, ur1429, ur1430, ur1431, ur1444], [uL572], [uV2, uV58, uV113, uV113, uV113, uV113, uV113, uV113], [], [uF1271, uF32, uF599, uF1124, uF1125, uF1445, uF1446, uF1127], [uG1447, uG1448, (56, [uL9, uL98, uL23])])
def nd_422_0 : zN := (7, nd_422_0p, (67776820, [(3, (-6580)), (4, (-103400))]))
def nd_422_1p : zS := ([ui0, ui93, ui141, ui91, ui56, ui52, ui1427, ui68], [ur1414, ur1425, ur1428, ur1429, ur1430, ur1431, ur1444], [uL1450, uL572, uL1450, uL1451], [uV2, uV58, uV97, uV75, uV1452, uV113, uV113, uV113], [], [uF1453, uF32, uF599, uF1124, uF1125, uF1445, uF1446, uF1127], [uG1447, uG1448, uG1454, uG1455, uG1456, uG1457, (22, [uL65, uL9, uL23, uL1458]), uG1459])
def nd_422_1 : zN := (85, nd_422_1p, (67769300, [(3, (-6580)), (5, (-4935)), (7, (-103400))]))
def nd_422_2pi_0 (t : List (Int × Int)) : List (Int × Int) := ui0 :: ui93 :: ui141 :: ui91 :: ui56 :: (0, 8) :: ui1427 :: ui1460 :: t
def nd_422_2pi_1 (t : List (Int × Int)) : List (Int × Int) := ui425 :: ui68 :: t
def nd_422_2pg_0 (t : List zTg) : List zTg := uG1447 :: uG1448 :: (56, [uL9, uL164, uL23]) :: uG1455 :: uG1456 :: uG1457 :: (23, [uL65, uL9, uL23, uL1458]) :: uG1459 :: t
def nd_422_2pg_1 (t : List zTg) : List zTg := (60, [uL78, uL131, uL79]) :: t
def nd_422_2p : zS := ((nd_422_2pi_0 (nd_422_2pi_1 [])), [ur1414, ur1425, ur1428, ur1429, ur1430, ur1431, ur1444], [uL1450, uL572, uL1451, uL1450, uL1451], [uV2, uV58, uV97, uV75, uV1452, uV113, uV142, uV144], [], [(0, (false, 10, 0, []), 0, 0, 0, [(9, 1)]), uF32, uF599, uF1124, uF1125, uF1445, uF1446, uF1127], (nd_422_2pg_0 (nd_422_2pg_1 [])))
def nd_422_2 : zN := (146, nd_422_2p, (67765070, [(3, (-6580)), (5, (-6580)), (8, (-3995)), (9, (-103400))]))
def nd_422_3pg_0 (t : List zTg) : List zTg := uG1447 :: uG1448 :: uG1454 :: uG1455 :: uG1456 :: (21, [uL65, uL98, uL63]) :: (21, [uL114, uL98, uL65]) :: (22, [uL114, uL9, uL23, uL1458]) :: t
def nd_422_3pg_1 (t : List zTg) : List zTg := (24, [uL23, uL1458, uL78]) :: t
def nd_422_3p : zS := ([ui0, ui93, ui141, ui91, ui56, ui52, ui196, ui68], [ur1414, ur1425, ur1428, ur1429, ur1430, ur1431, ur1444], [uL1450, uL572, uL1450, uL1451], [uV2, uV58, uV97, uV75, uV108, uV113, uV113, uV113], [], [uF1453, uF32, uF599, uF1124, uF1125, uF1445, uF1446, uF1127], (nd_422_3pg_0 (nd_422_3pg_1 [])))
def nd_422_3 : zN := (208, nd_422_3p, (67678780, [(1, 45), (3, (-6580)), (5, (-6533)), (7, (-103400))]))
def ns_422 : List zN := [nd_422_0, nd_422_1, nd_422_2, nd_422_3]
set_option maxRecDepth 1000000 in
theorem ca_422 : x_okA mLT1 cq_422 mTS2 mTC2 mRUp cx_422 cs_422 hs_422 ns_422 (67778230, []) 70 46 = true := by decide +kernel
set_option maxRecDepth 1000000 in
theorem cb_422_0 : x_okB mLT1 cq_422 mTS2 mTC2 mRUp cx_422 cs_422 hs_422 ns_422 (67778230, []) 70 46 nd_422_0 = true := by decide +kernel
set_option maxRecDepth 1000000 in
theorem cb_422_1 : x_okB mLT1 cq_422 mTS2 mTC2 mRUp cx_422 cs_422 hs_422 ns_422 (67778230, []) 70 46 nd_422_1 = true := by decide +kernel
set_option maxRecDepth 1000000 in
theorem cb_422_2 : x_okB mLT1 cq_422 mTS2 mTC2 mRUp cx_422 cs_422 hs_422 ns_422 (67778230, []) 70 46 nd_422_2 = true := by decide +kernel
set_option maxRecDepth 1000000 in
theorem cb_422_3 : x_okB mLT1 cq_422 mTS2 mTC2 mRUp cx_422 cs_422 hs_422 ns_422 (67778230, []) 70 46 nd_422_3 = true := by decide +kernel
set_option maxRecDepth 1000000 in
theorem cc_422 : x_okC mLT1 cq_422 mTS2 mTC2 mRUp cx_422 cs_422 hs_422 ns_422 (67778230, []) 70 46 = true := by decide +kernel
theorem ck_422 : x_ok mLT1 cq_422 mTS2 mTC2 mRUp cx_422 cs_422 hs_422 ns_422 (67778230, []) 70 46 = true := x_ok_of ca_422 (List.forall_mem_cons.mpr ⟨cb_422_0, List.forall_mem_cons.mpr ⟨cb_422_1, List.forall_mem_cons.mpr ⟨cb_422_2, List.forall_mem_cons.mpr ⟨cb_422_3, fun _ h => absurd h List.not_mem_nil⟩⟩⟩⟩) cc_422
theorem sn_422 {W : Bool} {X : List Int32} : y_Snd (mGw W) mLT1 (J2 W X) X cx_422 := y_ok J2_J mTS2_ok1 mTC2_ok1 mRUp_ok1 (List.forall_mem_cons.mpr ⟨sn_416, List.forall_mem_cons.mpr ⟨sn_417, List.forall_mem_cons.mpr ⟨sn_418, List.forall_mem_cons.mpr ⟨sn_419, List.forall_mem_cons.mpr ⟨sn_420, List.forall_mem_cons.mpr ⟨sn_421, fun _ h => absurd h List.not_mem_nil⟩⟩⟩⟩⟩⟩) ck_422
def cx_423pi_0 (t : List (Int × Int)) : List (Int × Int) := ui0 :: (0, 1) :: (0, 1) :: (0, 6) :: ui196 :: ui196 :: ui196 :: ui196 :: t
def cx_423pi_1 (t : List (Int × Int)) : List (Int × Int) := (0, 1) :: ui31 :: t
def cx_423pr_0 (t : List (Nat × Bool)) : List (Nat × Bool) := ur1414 :: ur1461 :: ur1462 :: ur1463 :: ur1464 :: ur1465 :: ur1466 :: ur1467 :: t
def cx_423pr_1 (t : List (Nat × Bool)) : List (Nat × Bool) := ur1468 :: ur1469 :: ur1470 :: ur1471 :: ur1472 :: ur1473 :: ur1474 :: ur1475 :: t
def cx_423pr_2 (t : List (Nat × Bool)) : List (Nat × Bool) := ur1476 :: t
def cx_423pf_0 (t : List zFa) : List zFa := uF1477 :: uF1478 :: uF1479 :: uF1480 :: uF1481 :: uF1482 :: uF1483 :: uF1484 :: t
def cx_423pf_1 (t : List zFa) : List zFa := uF1485 :: uF1486 :: uF1487 :: uF1488 :: uF1489 :: uF1490 :: uF1491 :: uF1492 :: t
def cx_423pg_0 (t : List zTg) : List zTg := uG1494 :: uG1495 :: uG1496 :: uG1497 :: uG1498 :: uG1499 :: uG1500 :: uG1501 :: t
def cx_423p : zS := ((cx_423pi_0 (cx_423pi_1 [])), (cx_423pr_0 (cx_423pr_1 (cx_423pr_2 []))), [], [], [uV2, uV11], (cx_423pf_0 (cx_423pf_1 [])), (cx_423pg_0 []))
def cx_423q0f_0 (t : List zFa) : List zFa := (2, (true, 0, 3, [(1, 4)]), 0, 0, 0, []) :: (1, (true, 0, 3, [(1, 4)]), 0, 0, 0, []) :: (2, (true, 0, 2, [(1, 4)]), 0, 0, 0, []) :: (1, (true, 0, 2, [(1, 4)]), 0, 0, 0, []) :: (2, (true, 0, 1, [(1, 4)]), 0, 0, 0, []) :: (1, (true, 0, 1, [(1, 4)]), 0, 0, 0, []) :: (2, (true, 0, 0, [(1, 4)]), 0, 0, 0, []) :: (1, (true, 0, 0, [(1, 4)]), 0, 0, 0, []) :: t
def cx_423q0f_1 (t : List zFa) : List zFa := (9, (true, 0, 0, [(1, 1)]), 0, 0, 0, []) :: (8, (true, 0, 0, [(1, 1)]), 0, 0, 0, []) :: (7, (true, 0, 0, [(1, 1)]), 0, 0, 10, []) :: (6, (true, 0, 0, [(1, 1)]), 0, 0, 20, []) :: uF1502 :: uF1503 :: t
def cx_423q0g_0 (t : List zTg) : List zTg := uG1504 :: uG1494 :: uG1495 :: uG1496 :: uG1497 :: uG1498 :: uG1499 :: uG1500 :: t
def cx_423q0g_1 (t : List zTg) : List zTg := uG1501 :: (77, [uL9, (36, [(1, 36)])]) :: uG1495 :: uG1496 :: uG1497 :: uG1498 :: uG1499 :: uG1500 :: t
def cx_423q0 : zS := ((cx_423pi_0 (cx_423pi_1 [])), (cx_423pr_0 (cx_423pr_1 (cx_423pr_2 []))), [], [], [], (cx_423q0f_0 (cx_423q0f_1 [])), (cx_423q0g_0 (cx_423q0g_1 [])))
/-- M.plain -/
def cx_423 : zCtx := (187, cx_423p, [cx_423q0], kc_73, 734, 0, 0)
def cz_423_0i_0 (t : List (Int × Int)) : List (Int × Int) := ui0 :: (0, 1) :: (0, 1) :: (0, 6) :: ui196 :: ui196 :: ui196 :: ui196 :: t
def cz_423_0i_1 (t : List (Int × Int)) : List (Int × Int) := (0, 1) :: ui31 :: ui440 :: t
def cz_423_0f_0 (t : List zFa) : List zFa := uF1502 :: uF1503 :: uF1477 :: uF1478 :: uF1479 :: uF1480 :: uF1481 :: uF1482 :: t
def cz_423_0f_1 (t : List zFa) : List zFa := uF1483 :: uF1484 :: uF1485 :: uF1486 :: uF1487 :: uF1488 :: uF1489 :: uF1490 :: t
def cz_423_0f_2 (t : List zFa) : List zFa := uF1491 :: uF1492 :: t
def cz_423_0g_0 (t : List zTg) : List zTg := uG1504 :: uG1494 :: uG1495 :: uG1496 :: uG1497 :: uG1498 :: uG1499 :: uG1500 :: t
def cz_423_0g_1 (t : List zTg) : List zTg := uG1501 :: (77, [uL9, (0, [(1, 36), (10, 1)])]) :: t
def cz_423_0 : zS := ((cz_423_0i_0 (cz_423_0i_1 [])), (cx_423pr_0 (cx_423pr_1 (cx_423pr_2 []))), [(36, [(10, (-1))])], [uV2, uV11, uV828], [], (cz_423_0f_0 (cz_423_0f_1 (cz_423_0f_2 []))), (cz_423_0g_0 (cz_423_0g_1 [])))
set_option maxRecDepth 1000000 in
theorem ck_423 : x_ok mLT1 [] mTS2 mTC2 mRUp cx_423 [] [(14, [1000446]), (34, [1000447])] [(16, cz_423_0, (721, [(10, (-15))]))] (734, []) 0 124 = true := by decide +kernel
theorem sn_423 {W : Bool} {X : List Int32} : y_Snd (mGw W) mLT1 (J2 W X) X cx_423 := y_ok J2_J mTS2_ok1 mTC2_ok1 mRUp_ok1 (fun _ h => absurd h List.not_mem_nil) ck_423
/-- M.is -/
def cx_424 : zCtx := (202, ([ui0, ui68, (0, 0), ui1426], [ur1414, ur1428], [], [], [uV2, uV62], [uF1505, uF1506, uF1432, uF1507], []), [([ui0, ui68, (0, 0), (0, 0)], [ur1414, ur1428], [], [], [uV64], [], []), ([ui0, ui68, (0, 0), ui1460], [ur1414, ur1428], [], [], [uV62], [], [])], [], 13, 0, 0)
set_option maxRecDepth 1000000 in
theorem ck_424 : x_ok mLT1 [] mTS2 mTC2 mRUp cx_424 [] [] [] (13, []) 0 16 = true := by decide +kernel
theorem sn_424 {W : Bool} {X : List Int32} : y_Snd (mGw W) mLT1 (J2 W X) X cx_424 := y_ok J2_J mTS2_ok1 mTC2_ok1 mRUp_ok1 (fun _ h => absurd h List.not_mem_nil) ck_424
/-- M.fail -/
def cx_425 : zCtx := (205, ([ui0, ui68, (0, 0), ui52, ui52], [ur1414, ur1429], [], [], [uV2, uV389], [uF1505, uF1506, uF1508, uF1509, uF1510], []), [([ui0, ui68, (0, 0), ui52, ui52], [ur1414, ur1429], [], [], [], [uF1511, uF1512], [])], [uk1513, uk1514], 14, 0, 0)
set_option maxRecDepth 1000000 in
theorem ck_425 : x_ok mLT1 [] mTS2 mTC2 mRUp cx_425 [] [] [] (14, []) 0 17 = true := by decide +kernel
theorem sn_425 {W : Bool} {X : List Int32} : y_Snd (mGw W) mLT1 (J2 W X) X cx_425 := y_ok J2_J mTS2_ok1 mTC2_ok1 mRUp_ok1 (fun _ h => absurd h List.not_mem_nil) ck_425
def cx_426pf_0 (t : List zFa) : List zFa := uF1505 :: uF1506 :: uF1508 :: uF178 :: uF1432 :: uF1433 :: uF1434 :: uF449 :: t
def cx_426pf_1 (t : List zFa) : List zFa := uF1515 :: (2, (true, 0, 0, [(1, 1)]), 0, 0, 0, [(6, 1)]) :: t
def cx_426p : zS := ([ui0, ui68, (0, 0), ui52, ui52, ui1426, ui52], [ur1414, ur1428, ur1429, ur1430, ur1431], [uL1516], [], [uV2], (cx_426pf_0 (cx_426pf_1 [])), [uG1517, uG1518, uG1519])
/-- M.goesOn -/
def cx_426 : zCtx := (206, cx_426p, [([ui0, ui146, (0, 0), ui52, ui52, ui1426, ui52], [ur1414, ur1428, ur1429, ur1430, ur1431], [uL1516, uL63], [], [], [uF1182, uF1512, uF1505], [uG1520, uG1520]), ([ui0, ui147, (0, 0), ui52, ui52, ui1426, ui52], [ur1414, ur1428, ur1429, ur1430, ur1431], [uL1516, uL65], [], [], [uF1521, uF1506, uF1508], [uG1522, uG1522])], [uk1523, uk1513, uk1514], 25, 1, 21)
set_option maxRecDepth 1000000 in
theorem ck_426 : x_ok mLT1 [cx_425] mTS2 mTC2 mRUp cx_426 [(12, [0])] [(10, [1000241]), (28, [1000242])] [] (11, []) 14 14 = true := by decide +kernel
theorem sn_426 {W : Bool} {X : List Int32} : y_Snd (mGw W) mLT1 (J2 W X) X cx_426 := y_ok J2_J mTS2_ok1 mTC2_ok1 mRUp_ok1 (List.forall_mem_cons.mpr ⟨sn_425, fun _ h => absurd h List.not_mem_nil⟩) ck_426
def cx_427pf_0 (t : List zFa) : List zFa := uF1524 :: uF1525 :: uF1511 :: uF1443 :: uF1432 :: uF1433 :: uF1434 :: uF449 :: t
def cx_427pf_1 (t : List zFa) : List zFa := (1, (true, 0, 0, [(2, 1)]), 0, 0, 0, [(6, 1)]) :: (2, (true, 0, 0, [(2, 1)]), 0, 0, 0, [(7, 1)]) :: t
def cx_427p : zS := ([ui0, (0, 6), ui68, (0, 0), ui52, ui52, ui1426, ui52], [ur1414, ur1428, ur1429, ur1430, ur1431], [uL1526, uL1310], [], [uV2, uV11, uV315], (cx_427pf_0 (cx_427pf_1 [])), [uG1527, uG1528, (69, [uL104, uL67, uL9, uL252, uL79])])
/-- M.roomFor -/
def cx_427 : zCtx := (204, cx_427p, [([ui0, (0, 6), ui68, (0, 0), ui52, ui52, ui1426, ui52], [ur1414, ur1428, ur1429, ur1430, ur1431], [uL63], [], [], [uF1209, uF1512, uF1524], [uG1529, uG1529]), ([ui0, (0, 5), ui147, (0, 0), ui52, ui52, ui1460, ui52], [ur1414, ur1428, ur1429, ur1430, ur1431], [uL65, uL63, uL63, (5, [(1, (-1))])], [], [], [uF1530, uF1525, uF1511], [uG1531, uG1532, uG1531])], [uk1523, uk1513, uk1514], 35, 2, 41)
set_option maxRecDepth 1000000 in
theorem ck_427 : x_ok mLT1 [cx_425, cx_426] mTS2 mTC2 mRUp cx_427 [(7, [0]), (18, [1])] [(5, [1000336]), (17, [1000337])] [] (10, []) 25 13 = true := by decide +kernel
theorem sn_427 {W : Bool} {X : List Int32} : y_Snd (mGw W) mLT1 (J2 W X) X cx_427 := y_ok J2_J mTS2_ok1 mTC2_ok1 mRUp_ok1 (List.forall_mem_cons.mpr ⟨sn_425, List.forall_mem_cons.mpr ⟨sn_426, fun _ h => absurd h List.not_mem_nil⟩⟩) ck_427
/-- M.is -/
def cx_428 : zCtx := (202, ([ui0, ui348, (0, 2), ui1426], [ur1414, ur1428], [], [], [uV2, uV64], [uF1505, uF1506, uF1432, uF1507], []), [([ui0, ui348, (0, 0), (1, 1)], [ur1414, ur1428], [], [], [uV64], [], []), ([ui0, ui348, (0, 0), (0, 0)], [ur1414, ur1428], [], [], [uV62], [], []), ([ui0, ui348, (0, 0), ui1533], [ur1414, ur1428], [], [], [uV62], [], []), ([ui0, ui348, (1, 2), ui1426], [ur1414, ur1428], [], [], [uV62], [], [])], [], 13, 0, 0)
set_option maxRecDepth 1000000 in
theorem ck_428 : x_ok mLT1 [] mTS2 mTC2 mRUp cx_428 [] [] [] (13, []) 0 16 = true := by decide +kernel
theorem sn_428 {W : Bool} {X : List Int32} : y_Snd (mGw W) mLT1 (J2 W X) X cx_428 := y_ok J2_J mTS2_ok1 mTC2_ok1 mRUp_ok1 (fun _ h => absurd h List.not_mem_nil) ck_428
/-- M.fail -/
def cx_429 : zCtx := (205, ([ui0, ui68, (0, 0), ui52, ui52], [ur1414, ur1429], [], [], [uV2, uV64], [uF1505, uF1506, uF1508, uF1509, uF1510], []), [([ui0, ui68, (0, 0), ui52, ui52], [ur1414, ur1429], [], [], [], [uF1511, uF1534], [])], [uk1513, uk1514], 14, 0, 0)
set_option maxRecDepth 1000000 in
theorem ck_429 : x_ok mLT1 [] mTS2 mTC2 mRUp cx_429 [] [] [] (14, []) 0 17 = true := by decide +kernel
theorem sn_429 {W : Bool} {X : List Int32} : y_Snd (mGw W) mLT1 (J2 W X) X cx_429 := y_ok J2_J mTS2_ok1 mTC2_ok1 mRUp_ok1 (fun _ h => absurd h List.not_mem_nil) ck_429
def cx_430p : zS := ([ui0, ui348, (0, 0), ui52, ui52, ui1426, ui52], [ur1414, ur1428, ur1429, ur1430, ur1431], [uL63], [], [uV2, uV64], (cx_426pf_0 (cx_426pf_1 [])), [uG1517, uG1518, (62, [uL98, uL9, uL65, uL104, uL78])])
/-- M.must -/
def cx_430 : zCtx := (208, cx_430p, [([ui0, ui348, (0, 0), ui52, ui52, ui1426, ui52, (1, 2)], [ur1414, ur1428, ur1429, ur1430, ur1431], [uL63], [], [], [uF1182, uF1535, uF1505], [uG1536]), ([ui0, ui1537, (0, 0), ui52, ui52, (1, 1), ui52], [ur1414, ur1428, ur1429, ur1430, ur1431], [uL65, uL1516, uL1538, uL63, uL63], [], [], [uF1521, uF1506, uF1508], [uG1522, uG1519, uG1522])], [uk1523, uk1513, uk1514], 33, 2, 41)
set_option maxRecDepth 1000000 in
theorem ck_430 : x_ok mLT1 [cx_428, cx_426, cx_429] mTS2 mTC2 mRUp cx_430 [(2, [0]), (9, [1]), (17, [2])] [(9, [1000243]), (15, uN1539)] [] (8, []) 25 11 = true := by decide +kernel
theorem sn_430 {W : Bool} {X : List Int32} : y_Snd (mGw W) mLT1 (J2 W X) X cx_430 := y_ok J2_J mTS2_ok1 mTC2_ok1 mRUp_ok1 (List.forall_mem_cons.mpr ⟨sn_428, List.forall_mem_cons.mpr ⟨sn_426, List.forall_mem_cons.mpr ⟨sn_429, fun _ h => absurd h List.not_mem_nil⟩⟩⟩) ck_430
/-- M.wrong -/
def cx_431 : zCtx := (209, ([ui0, ui1537, (0, 0), (0, 0), ui52, ui52], [ur1414, ur1429], [], [], [uV2, uV385, uV11], [uF1506, uF1540, uF1541, uF1509, uF1515], []), [([ui0, ui1537, (0, 0), (0, 0), ui52, ui52], [ur1414, ur1429], [], [], [], [uF1542, uF1543], [])], [uk1544, uk1545], 18, 0, 0)
set_option maxRecDepth 1000000 in
theorem ck_431 : x_ok mLT1 [] mTS2 mTC2 mRUp cx_431 [] [] [] (18, []) 0 21 = true := by decide +kernel
theorem sn_431 {W : Bool} {X : List Int32} : y_Snd (mGw W) mLT1 (J2 W X) X cx_431 := y_ok J2_J mTS2_ok1 mTC2_ok1 mRUp_ok1 (fun _ h => absurd h List.not_mem_nil) ck_431
/-- M.wrong -/
def cx_432 : zCtx := (209, ([ui0, ui1537, (0, 0), (1, 5), ui91, ui52], [ur1414, ur1429], [uL1546], [], [uV2, uV385, uV11], [uF1506, uF1540, uF1541, uF1509, uF1515], []), [([ui0, ui1537, (0, 0), (1, 5), ui91, ui93], [ur1414, ur1429], [uL1546], [], [], [], [])], [], 16, 0, 0)
set_option maxRecDepth 1000000 in
theorem ck_432 : x_ok mLT1 [] mTS2 mTC2 mRUp cx_432 [] [] [] (16, []) 0 19 = true := by decide +kernel
theorem sn_432 {W : Bool} {X : List Int32} : y_Snd (mGw W) mLT1 (J2 W X) X cx_432 := y_ok J2_J mTS2_ok1 mTC2_ok1 mRUp_ok1 (fun _ h => absurd h List.not_mem_nil) ck_432
/-- M.wrong -/
def cx_433 : zCtx := (209, ([ui0, ui1537, (0, 0), (3, 3), ui52, ui52], [ur1414, ur1429], [uL1547, uL1548, uL1549], [], [uV2, uV385, uV11], [uF1506, uF1540, uF1541, uF1509, uF1515], []), [([ui0, ui1537, (0, 0), (3, 3), ui52, ui52], [ur1414, ur1429], [uL1548, uL1547, uL1549], [], [], [], [])], [], 24, 0, 0)
set_option maxRecDepth 1000000 in
theorem ck_433 : x_ok mLT1 [] mTS2 mTC2 mRUp cx_433 [] [] [] (24, []) 0 27 = true := by decide +kernel
theorem sn_433 {W : Bool} {X : List Int32} : y_Snd (mGw W) mLT1 (J2 W X) X cx_433 := y_ok J2_J mTS2_ok1 mTC2_ok1 mRUp_ok1 (fun _ h => absurd h List.not_mem_nil) ck_433
/-- M.fail -/
def cx_434 : zCtx := (205, ([ui0, ui348, (1, 2), ui52, ui52], [ur1414, ur1429], [], [], [uV2, uV64], [uF1505, uF1506, uF1508, uF1509, uF1510], []), [([ui0, ui348, (1, 2), ui52, ui52], [ur1414, ur1429], [], [], [], [], [])], [], 4, 0, 0)
set_option maxRecDepth 1000000 in
theorem ck_434 : x_ok mLT1 [] mTS2 mTC2 mRUp cx_434 [] [] [] (4, []) 0 7 = true := by decide +kernel
theorem sn_434 {W : Bool} {X : List Int32} : y_Snd (mGw W) mLT1 (J2 W X) X cx_434 := y_ok J2_J mTS2_ok1 mTC2_ok1 mRUp_ok1 (fun _ h => absurd h List.not_mem_nil) ck_434
/-- M.bounded -/
def cx_435 : zCtx := (210, ([ui0, ui348, (1, 2), ui52, (0, 5), ui52, ui52], [ur1414], [], [], [uV2, uV62, uV192], [uF1505, uF1506, uF1508, uF1550, uF1542, uF1551], [uG1552]), [([ui0, ui348, (1, 2), ui52, (0, 5), ui52, ui52], [ur1414], [], [], [uV62], [], [])], [], 12, 1, 21)
set_option maxRecDepth 1000000 in
theorem ck_435 : x_ok mLT1 [cx_434] mTS2 mTC2 mRUp cx_435 [(17, [0])] [(15, uN1553), (20, [740])] [] (8, []) 4 11 = true := by decide +kernel
theorem sn_435 {W : Bool} {X : List Int32} : y_Snd (mGw W) mLT1 (J2 W X) X cx_435 := y_ok J2_J mTS2_ok1 mTC2_ok1 mRUp_ok1 (List.forall_mem_cons.mpr ⟨sn_434, fun _ h => absurd h List.not_mem_nil⟩) ck_435
/-- M.is -/
def cx_436 : zCtx := (202, ([ui0, ui348, (0, 2), ui1426], [ur1414, ur1428], [], [], [uV2, uV389], [uF1505, uF1506, uF1432, uF1507], []), [([ui0, ui348, (0, 0), (2, 2)], [ur1414, ur1428], [], [], [uV64], [], []), ([ui0, ui348, (0, 0), (0, 1)], [ur1414, ur1428], [], [], [uV62], [], []), ([ui0, ui348, (0, 0), (3, 41)], [ur1414, ur1428], [], [], [uV62], [], []), ([ui0, ui348, (1, 2), ui1426], [ur1414, ur1428], [], [], [uV62], [], [])], [], 13, 0, 0)
set_option maxRecDepth 1000000 in
theorem ck_436 : x_ok mLT1 [] mTS2 mTC2 mRUp cx_436 [] [] [] (13, []) 0 16 = true := by decide +kernel
theorem sn_436 {W : Bool} {X : List Int32} : y_Snd (mGw W) mLT1 (J2 W X) X cx_436 := y_ok J2_J mTS2_ok1 mTC2_ok1 mRUp_ok1 (fun _ h => absurd h List.not_mem_nil) ck_436
/-- M.wrong -/
def cx_437 : zCtx := (209, ([ui0, ui348, (0, 0), (0, 0), ui52, ui52], [ur1414, ur1429], [], [], [uV2, uV3, uV11], [uF1506, uF1540, uF1541, uF1509, uF1515], []), [([ui0, ui348, (0, 0), (0, 0), ui52, ui52], [ur1414, ur1429], [], [], [], [uF1542, (0, (false, 15, 0, []), 0, 0, 5, [])], [])], [uk1544, uk1545], 18, 0, 0)
set_option maxRecDepth 1000000 in
theorem ck_437 : x_ok mLT1 [] mTS2 mTC2 mRUp cx_437 [] [] [] (18, []) 0 21 = true := by decide +kernel
theorem sn_437 {W : Bool} {X : List Int32} : y_Snd (mGw W) mLT1 (J2 W X) X cx_437 := y_ok J2_J mTS2_ok1 mTC2_ok1 mRUp_ok1 (fun _ h => absurd h List.not_mem_nil) ck_437
/-- M.wrong -/
def cx_438 : zCtx := (209, ([ui0, ui348, (0, 0), (1, 5), ui91, ui52], [ur1414, ur1429], [uL1546], [], [uV2, uV3, uV11], [uF1506, uF1540, uF1541, uF1509, uF1515], []), [([ui0, ui348, (0, 0), (1, 5), ui91, ui93], [ur1414, ur1429], [uL1546], [], [], [], [])], [], 16, 0, 0)
set_option maxRecDepth 1000000 in
theorem ck_438 : x_ok mLT1 [] mTS2 mTC2 mRUp cx_438 [] [] [] (16, []) 0 19 = true := by decide +kernel
theorem sn_438 {W : Bool} {X : List Int32} : y_Snd (mGw W) mLT1 (J2 W X) X cx_438 := y_ok J2_J mTS2_ok1 mTC2_ok1 mRUp_ok1 (fun _ h => absurd h List.not_mem_nil) ck_438
def cx_439pi_0 (t : List (Int × Int)) : List (Int × Int) := ui0 :: ui406 :: (0, 0) :: ui52 :: (0, 5) :: ui52 :: ui52 :: (0, 6) :: t
def cx_439pi_1 (t : List (Int × Int)) : List (Int × Int) := (0, 1) :: ui48 :: ui68 :: t
def cx_439pf_0 (t : List zFa) : List zFa := uF1505 :: uF1506 :: uF1508 :: uF1550 :: uF1542 :: uF1551 :: uF1432 :: uF1433 :: t
def cx_439pf_1 (t : List zFa) : List zFa := uF1434 :: uF449 :: uF1554 :: uF1555 :: uF1556 :: uF1557 :: t
def cx_439p : zS := ((cx_439pi_0 (cx_439pi_1 [])), [ur1414, ur1428, ur1429, ur1430, ur1431, ur1464], [], [], [uV2, uV62, uV192], (cx_439pf_0 (cx_439pf_1 [])), [uG1558, (40, [uL78, uL9, uL114, uL63, uL63, uL79, uL164, uL98, uL104, uL170])])
def cx_439q1i_0 (t : List (Int × Int)) : List (Int × Int) := ui0 :: ui1559 :: (0, 0) :: ui52 :: (0, 5) :: ui52 :: ui52 :: (0, 6) :: t
def cx_439q1i_1 (t : List (Int × Int)) : List (Int × Int) := (0, 1) :: ui48 :: ui68 :: ui196 :: (0, 5) :: ui52 :: t
def cx_439q1 : zS := ((cx_439q1i_0 (cx_439q1i_1 [])), [ur1414, ur1428, ur1429, ur1430, ur1431, ur1464], [uL65, uL63, uL63], [], [uV843], [uF1521, uF1506, uF1508, uF1560, uF1561, uF1557], [uG1562, uG1562, (40, [uL78, uL109, uL211, uL63, uL63, uL79, uL164, uL214, uL207, uL170]), uG1563])
/-- M.bounded -/
def cx_439 : zCtx := (210, cx_439p, [([ui0, ui406, (0, 0), ui52, (0, 5), ui52, ui52, (0, 6), (0, 1), ui48, ui68, ui52], [ur1414, ur1428, ur1429, ur1430, ur1431, ur1464], [uL63], [], [uV62], [uF1564, uF1534, uF1505, uF1550, uF1542, uF1557], [uG1565]), cx_439q1, ([ui0, ui146, (0, 0), ui52, (0, 5), ui52, ui52, (0, 6), (0, 1), ui48, ui68, ui196, ui52, (0, 5), ui52], [ur1414, ur1428, ur1429, ur1430, ur1431, ur1464], [uL63], [], [uV843], [uF1154, uF1512, uF1505, uF1566, uF1567, uF1557], [uG1568])], [uk1523, uk1513, uk1514, uk1544, uk1545], 53, 2, 41)
set_option maxRecDepth 1000000 in
theorem ck_439 : x_ok mLT1 [cx_436, cx_429, cx_437, cx_438, cx_426] mTS2 mTC2 mRUp cx_439 [(9, [0]), (17, [1]), (48, [2, 3]), (52, [4])] [(8, uN1569), (12, [740]), (15, uN1553), (20, [740]), (31, uN1570), (42, uN1571), (51, [740]), (55, [740, 1000260, 1000261, 1000262, 1000263, 1000264, 1000265, 1000266, 1000267, 1000268, 1000269, 1000270, 1000271, 1000272, 1000273, 1000274, 1000275, 1000276, 1000277, 1000278, 1000279, 1000280, 1000281, 1000282, 1000283, 1000284, 1000285, 1000286, 1000287, 1000288])] [] (28, []) 25 31 = true := by decide +kernel
theorem sn_439 {W : Bool} {X : List Int32} : y_Snd (mGw W) mLT1 (J2 W X) X cx_439 := y_ok J2_J mTS2_ok1 mTC2_ok1 mRUp_ok1 (List.forall_mem_cons.mpr ⟨sn_436, List.forall_mem_cons.mpr ⟨sn_429, List.forall_mem_cons.mpr ⟨sn_437, List.forall_mem_cons.mpr ⟨sn_438, List.forall_mem_cons.mpr ⟨sn_426, fun _ h => absurd h List.not_mem_nil⟩⟩⟩⟩⟩) ck_439
/-- M.bounded -/
def cx_440 : zCtx := (210, ([ui0, ui348, (1, 2), ui52, (0, 5), ui52, ui52], [ur1414], [], [], [uV2, uV64, uV225], [uF1505, uF1506, uF1508, uF1550, uF1542, uF1551], [uG1552]), [([ui0, ui348, (1, 2), ui52, (0, 5), ui52, ui52], [ur1414], [], [], [uV64], [], [])], [], 12, 1, 21)
set_option maxRecDepth 1000000 in
theorem ck_440 : x_ok mLT1 [cx_434] mTS2 mTC2 mRUp cx_440 [(17, [0])] [(15, uN1553), (20, [740])] [] (8, []) 4 11 = true := by decide +kernel
theorem sn_440 {W : Bool} {X : List Int32} : y_Snd (mGw W) mLT1 (J2 W X) X cx_440 := y_ok J2_J mTS2_ok1 mTC2_ok1 mRUp_ok1 (List.forall_mem_cons.mpr ⟨sn_434, fun _ h => absurd h List.not_mem_nil⟩) ck_440
def cx_441pi_0 (t : List (Int × Int)) : List (Int × Int) := ui0 :: ui1572 :: (0, 0) :: ui52 :: (0, 5) :: ui52 :: ui52 :: (0, 6) :: t
def cx_441pi_1 (t : List (Int × Int)) : List (Int × Int) := (0, 1) :: ui48 :: ui68 :: t
def cx_441p : zS := ((cx_441pi_0 (cx_441pi_1 [])), [ur1414, ur1428, ur1429, ur1430, ur1431, ur1464], [], [], [uV2, uV64, uV225], (cx_439pf_0 (cx_439pf_1 [])), [uG1558, (40, [uL78, uL9, uL211, uL63, uL63, uL79, uL164, uL98, uL104, uL170])])
def cx_441q1i_0 (t : List (Int × Int)) : List (Int × Int) := ui0 :: (3, 399) :: (0, 0) :: ui52 :: (0, 5) :: ui52 :: ui52 :: (0, 6) :: t
def cx_441q1i_1 (t : List (Int × Int)) : List (Int × Int) := (0, 1) :: ui48 :: ui68 :: ui196 :: (0, 5) :: ui52 :: t
def cx_441q1 : zS := ((cx_441q1i_0 (cx_441q1i_1 [])), [ur1414, ur1428, ur1429, ur1430, ur1431, ur1464], [uL65, uL63, uL63], [], [uV843], [uF1521, uF1506, uF1508, uF1560, uF1561, uF1557], [uG1562, uG1562, (40, [uL78, uL109, uL36, uL63, uL63, uL79, uL164, uL214, uL207, uL170]), uG1563])
/-- M.bounded -/
def cx_441 : zCtx := (210, cx_441p, [([ui0, ui1572, (0, 0), ui52, (0, 5), ui52, ui52, (0, 6), (0, 1), ui48, ui68, ui52], [ur1414, ur1428, ur1429, ur1430, ur1431, ur1464], [uL63], [], [uV64], [uF1564, uF1534, uF1505, uF1550, uF1542, uF1557], [uG1565]), cx_441q1, ([ui0, ui146, (0, 0), ui52, (0, 5), ui52, ui52, (0, 6), (0, 1), ui48, ui68, ui196, ui52, (0, 5), ui52], [ur1414, ur1428, ur1429, ur1430, ur1431, ur1464], [uL63], [], [uV843], [uF1154, uF1512, uF1505, uF1566, uF1567, uF1557], [uG1568])], [uk1523, uk1513, uk1514, uk1544, uk1545], 53, 2, 41)
set_option maxRecDepth 1000000 in
theorem ck_441 : x_ok mLT1 [cx_436, cx_429, cx_437, cx_438, cx_426] mTS2 mTC2 mRUp cx_441 [(9, [0]), (17, [1]), (48, [2, 3]), (52, [4])] [(8, uN1569), (12, [740]), (15, uN1553), (20, [740]), (31, uN1570), (42, uN1571), (51, [740]), (55, [740, 1000260, 1000261, 1000262, 1000263, 1000264, 1000265, 1000266, 1000267, 1000268, 1000269, 1000270, 1000271, 1000272, 1000273, 1000274, 1000275, 1000276, 1000277, 1000278, 1000279, 1000280, 1000281, 1000282, 1000283, 1000284, 1000285, 1000286, 1000287, 1000288])] [] (28, []) 25 31 = true := by decide +kernel
theorem sn_441 {W : Bool} {X : List Int32} : y_Snd (mGw W) mLT1 (J2 W X) X cx_441 := y_ok J2_J mTS2_ok1 mTC2_ok1 mRUp_ok1 (List.forall_mem_cons.mpr ⟨sn_436, List.forall_mem_cons.mpr ⟨sn_429, List.forall_mem_cons.mpr ⟨sn_437, List.forall_mem_cons.mpr ⟨sn_438, List.forall_mem_cons.mpr ⟨sn_426, fun _ h => absurd h List.not_mem_nil⟩⟩⟩⟩⟩) ck_441
/-- M.is -/
def cx_442 : zCtx := (202, ([ui0, ui348, (0, 2), ui1426], [ur1414, ur1428], [], [], [uV2, uV381], [uF1505, uF1506, uF1432, uF1507], []), [([ui0, ui348, (0, 0), (4, 4)], [ur1414, ur1428], [], [], [uV64], [], []), ([ui0, ui348, (0, 0), (0, 3)], [ur1414, ur1428], [], [], [uV62], [], []), ([ui0, ui348, (0, 0), (5, 41)], [ur1414, ur1428], [], [], [uV62], [], []), ([ui0, ui348, (1, 2), ui1426], [ur1414, ur1428], [], [], [uV62], [], [])], [], 13, 0, 0)
set_option maxRecDepth 1000000 in
theorem ck_442 : x_ok mLT1 [] mTS2 mTC2 mRUp cx_442 [] [] [] (13, []) 0 16 = true := by decide +kernel
theorem sn_442 {W : Bool} {X : List Int32} : y_Snd (mGw W) mLT1 (J2 W X) X cx_442 := y_ok J2_J mTS2_ok1 mTC2_ok1 mRUp_ok1 (fun _ h => absurd h List.not_mem_nil) ck_442
/-- M.must -/
def cx_443 : zCtx := (208, ([ui0, ui348, (1, 2), ui52, ui52], [ur1414], [], [], [uV2, uV381], [uF1505, uF1506, uF1508, uF178], [uG1573]), [([ui0, ui348, (1, 2), ui52, ui52], [ur1414], [], [], [], [], [])], [], 21, 1, 21)
set_option maxRecDepth 1000000 in
theorem ck_443 : x_ok mLT1 [cx_442, cx_434] mTS2 mTC2 mRUp cx_443 [(2, [0]), (17, [1])] [(15, uN1539)] [] (8, []) 13 11 = true := by decide +kernel
theorem sn_443 {W : Bool} {X : List Int32} : y_Snd (mGw W) mLT1 (J2 W X) X cx_443 := y_ok J2_J mTS2_ok1 mTC2_ok1 mRUp_ok1 (List.forall_mem_cons.mpr ⟨sn_442, List.forall_mem_cons.mpr ⟨sn_434, fun _ h => absurd h List.not_mem_nil⟩⟩) ck_443
def cx_444p : zS := ([ui0, ui406, (0, 0), ui52, ui52, ui1426, ui52], [ur1414, ur1428, ur1429, ur1430, ur1431], [uL211], [], [uV2, uV381], (cx_426pf_0 (cx_426pf_1 [])), [uG1517, uG1518, (62, [uL98, uL9, uL36, uL104, uL78])])
/-- M.must -/
def cx_444 : zCtx := (208, cx_444p, [([ui0, ui406, (0, 0), ui52, ui52, ui1426, ui52, (1, 2)], [ur1414, ur1428, ur1429, ur1430, ur1431], [uL63], [], [], [uF1182, uF1535, uF1505], [uG1536]), ([ui0, ui1559, (0, 0), ui52, ui52, (4, 4), ui52], [ur1414, ur1428, ur1429, ur1430, ur1431], [uL65, ((-4), [(5, 1)]), (4, [(5, (-1))]), uL63, uL63], [], [], [uF1521, uF1506, uF1508], [uG1522, uG1519, uG1522])], [uk1523, uk1513, uk1514], 33, 2, 41)
set_option maxRecDepth 1000000 in
theorem ck_444 : x_ok mLT1 [cx_442, cx_426, cx_429] mTS2 mTC2 mRUp cx_444 [(2, [0]), (9, [1]), (17, [2])] [(9, [1000243]), (15, uN1539)] [] (8, []) 25 11 = true := by decide +kernel
theorem sn_444 {W : Bool} {X : List Int32} : y_Snd (mGw W) mLT1 (J2 W X) X cx_444 := y_ok J2_J mTS2_ok1 mTC2_ok1 mRUp_ok1 (List.forall_mem_cons.mpr ⟨sn_442, List.forall_mem_cons.mpr ⟨sn_426, List.forall_mem_cons.mpr ⟨sn_429, fun _ h => absurd h List.not_mem_nil⟩⟩⟩) ck_444
def cx_445pi_0 (t : List (Int × Int)) : List (Int × Int) := ui0 :: ui348 :: (0, 0) :: ui52 :: (0, 5) :: ui52 :: (0, 1) :: (0, 5) :: t
def cx_445pi_1 (t : List (Int × Int)) : List (Int × Int) := ui52 :: ui48 :: ui68 :: ui52 :: ui1426 :: (0, 6) :: (0, 1) :: (0, 6) :: t
def cx_445pr_0 (t : List (Nat × Bool)) : List (Nat × Bool) := ur1414 :: ur1463 :: ur1428 :: ur1429 :: ur1430 :: ur1431 :: ur1464 :: ur1574 :: t
def cx_445pr_1 (t : List (Nat × Bool)) : List (Nat × Bool) := ur1575 :: ur1576 :: t
def cx_445pf_0 (t : List zFa) : List zFa := uF1505 :: uF1506 :: uF1508 :: uF1550 :: uF1542 :: uF1577 :: uF1554 :: uF1578 :: t
def cx_445pf_1 (t : List zFa) : List zFa := uF1579 :: uF291 :: uF1124 :: uF1125 :: uF1445 :: uF1446 :: uF1580 :: uF1581 :: t
def cx_445pf_2 (t : List zFa) : List zFa := uF1582 :: uF1583 :: uF1584 :: uF1585 :: uF1586 :: t
def cx_445pg_0 (t : List zTg) : List zTg := uG1587 :: uG1588 :: uG1589 :: uG1591 :: uG1592 :: uG1593 :: t
def cx_445p : zS := ((cx_445pi_0 (cx_445pi_1 [])), (cx_445pr_0 (cx_445pr_1 [])), [], [], [uV2], (cx_445pf_0 (cx_445pf_1 (cx_445pf_2 []))), (cx_445pg_0 []))
def cx_445q0i_0 (t : List (Int × Int)) : List (Int × Int) := ui0 :: ui348 :: (0, 0) :: ui52 :: (0, 5) :: ui52 :: (0, 1) :: (0, 5) :: t
def cx_445q0i_1 (t : List (Int × Int)) : List (Int × Int) := ui52 :: ui48 :: ui68 :: ui52 :: ui1426 :: (0, 6) :: (0, 1) :: (0, 6) :: t
def cx_445q0i_2 (t : List (Int × Int)) : List (Int × Int) := ui52 :: (1, 2) :: ui348 :: (0, 5) :: ui52 :: ui52 :: t
def cx_445q0f_0 (t : List zFa) : List zFa := (0, (false, 14, 0, []), 0, 0, 0, [(16, 1)]) :: (0, (false, 13, 0, []), 0, 0, 0, [(17, 1)]) :: uF1173 :: (0, (false, 15, 0, []), 0, 0, 0, [(19, 1)]) :: (0, (false, 16, 0, []), 0, 0, 0, [(20, 1)]) :: uF1581 :: uF1554 :: uF1581 :: t
def cx_445q0f_1 (t : List zFa) : List zFa := uF1583 :: (3, (true, 0, 0, [(18, 1)]), 0, 0, 0, [(21, 1)]) :: uF1579 :: t
def cx_445q0 : zS := ((cx_445q0i_0 (cx_445q0i_1 (cx_445q0i_2 []))), (cx_445pr_0 (cx_445pr_1 [])), [(0, [(1, (-1)), (18, 1)])], [], [], (cx_445q0f_0 (cx_445q0f_1 [])), [uG1591, uG1592, (41, [uL131, uL213, uL212]), uG1591, uG1592])
def cx_445q1i_0 (t : List (Int × Int)) : List (Int × Int) := ui0 :: ui1594 :: (0, 0) :: ui52 :: (0, 5) :: ui52 :: (0, 1) :: (0, 5) :: t
def cx_445q1i_1 (t : List (Int × Int)) : List (Int × Int) := ui52 :: ui48 :: ui68 :: ui52 :: (1, 1) :: (0, 6) :: (0, 1) :: (0, 6) :: t
def cx_445q1i_2 (t : List (Int × Int)) : List (Int × Int) := ui52 :: (0, 5) :: ui52 :: t
def cx_445q1f_0 (t : List zFa) : List zFa := (0, (false, 20, 0, []), 0, 0, 1, [(7, 1)]) :: uF1595 :: uF1506 :: uF1508 :: (3, (true, 0, 3, [(1, 1)]), 0, 0, 0, [(16, 1)]) :: uF1596 :: uF1597 :: uF1581 :: t
def cx_445q1f_1 (t : List zFa) : List zFa := uF1581 :: uF1581 :: uF1583 :: (1, (true, 0, 0, [(6, 1)]), 0, 0, 1, [(7, 1)]) :: t
def cx_445q1g_0 (t : List zTg) : List zTg := uG1599 :: uG1600 :: uG1601 :: (58, [uL131, uL1602]) :: (58, [uL131, uL1603]) :: uG1589 :: uG1591 :: uG1592 :: t
def cx_445q1g_1 (t : List zTg) : List zTg := uG1593 :: uG1604 :: uG1605 :: uG1601 :: (40, [uL131, uL1598, uL63, uL63, uL63, uL1059, uL164, uL213, uL277, uL265]) :: uG1600 :: uG1591 :: uG1592 :: t
def cx_445q1g_2 (t : List zTg) : List zTg := uG1599 :: t
def cx_445q1 : zS := ((cx_445q1i_0 (cx_445q1i_1 (cx_445q1i_2 []))), (cx_445pr_0 (cx_445pr_1 [])), [uL36, uL211], [], [], (cx_445q1f_0 (cx_445q1f_1 [])), (cx_445q1g_0 (cx_445q1g_1 (cx_445q1g_2 []))))
/-- M.tellHouse -/
def cx_445 : zCtx := (207, cx_445p, [cx_445q0, cx_445q1], kc_74, 244, 3, 64)
def cq_445 : List zCtx := [cx_430, cx_431, cx_432, cx_433, cx_435, cx_439, cx_440, cx_441, cx_443, cx_444]
def cs_445 : List (Nat × List Nat) := [(25, [0]), (64, [1, 2, 3]), (82, [4, 5]), (95, [6, 7]), (101, [8, 9])]
def hs_445 : List (Nat × List Nat) := [(19, [1000246, 1000303]), (28, [740, 1000291]), (57, [1000304]), (61, [1000305, 1000258, 1000306]), (67, [740, 1000307, 1000308]), (73, [1000309, 1000298, 1000310, 1000311, 1000312]), (85, [740]), (98, [740]), (99, [1000246, 1000313]), (104, [740, 1000314, 1000315]), (126, [1000304]), (150, [1000316, 1000519])]
def nd_445_0pi_0 (t : List (Int × Int)) : List (Int × Int) := ui0 :: ui1537 :: (0, 0) :: ui52 :: (0, 5) :: ui52 :: (0, 1) :: (0, 5) :: t
def nd_445_0pi_1 (t : List (Int × Int)) : List (Int × Int) := ui52 :: ui48 :: ui68 :: ui52 :: (1, 1) :: (0, 6) :: (0, 1) :: (0, 6) :: t
def nd_445_0pi_2 (t : List (Int × Int)) : List (Int × Int) := (0, 5) :: t
def nd_445_0pf_0 (t : List zFa) : List zFa := uF1521 :: uF1506 :: uF1508 :: uF1550 :: uF1542 :: uF1577 :: uF1554 :: uF1578 :: t
def nd_445_0pf_1 (t : List zFa) : List zFa := uF1579 :: uF291 :: uF1124 :: uF1125 :: uF1445 :: uF1446 :: uF1580 :: uF1581 :: t
def nd_445_0pf_2 (t : List zFa) : List zFa := uF1582 :: uF1583 :: uF1585 :: uF1586 :: t
def nd_445_0pg_0 (t : List zTg) : List zTg := uG1587 :: uG1588 :: uG1589 :: uG1591 :: uG1592 :: uG1593 :: uG1604 :: uG1605 :: t
def nd_445_0pg_1 (t : List zTg) : List zTg := (66, [uL131, uL9, uL212]) :: t
def nd_445_0p : zS := ((nd_445_0pi_0 (nd_445_0pi_1 (nd_445_0pi_2 []))), (cx_445pr_0 (cx_445pr_1 [])), [uL65, uL1606], [uV2, uV1607, uV11, uV1608], [], (nd_445_0pf_0 (nd_445_0pf_1 (nd_445_0pf_2 []))), (nd_445_0pg_0 (nd_445_0pg_1 [])))
def nd_445_0 : zN := (30, nd_445_0p, ((-99999999829), [(2, (-100000000000)), (12, 100000000000), (16, (-20))]))
def nd_445_1pi_0 (t : List (Int × Int)) : List (Int × Int) := ui0 :: ui348 :: (0, 0) :: ui52 :: (0, 5) :: ui52 :: (0, 1) :: (0, 5) :: t
def nd_445_1pi_1 (t : List (Int × Int)) : List (Int × Int) := ui52 :: ui48 :: ui68 :: ui52 :: ui1426 :: (0, 6) :: (0, 1) :: (0, 6) :: t
def nd_445_1pi_2 (t : List (Int × Int)) : List (Int × Int) := (1, 2) :: t
def nd_445_1pf_0 (t : List zFa) : List zFa := uF1564 :: (0, (false, 13, 0, []), 0, 0, 0, [(16, 1)]) :: uF1505 :: uF1550 :: uF1542 :: uF1577 :: uF1554 :: uF1578 :: t
def nd_445_1pf_1 (t : List zFa) : List zFa := uF1579 :: uF291 :: uF1124 :: uF1125 :: uF1445 :: uF1446 :: uF1580 :: uF1581 :: t
def nd_445_1pf_2 (t : List zFa) : List zFa := uF1582 :: uF1583 :: uF1585 :: uF1586 :: t
def nd_445_1p : zS := ((nd_445_1pi_0 (nd_445_1pi_1 (nd_445_1pi_2 []))), (cx_445pr_0 (cx_445pr_1 [])), [uL63], [uV2, uV1607, uV11, uV62], [], (nd_445_1pf_0 (nd_445_1pf_1 (nd_445_1pf_2 []))), [(41, [uL131, uL212, uL195]), uG1591, uG1592])
def nd_445_1 : zN := (30, nd_445_1p, ((-111), [(2, (-100000000000)), (16, 141)]))
def nd_445_2pi_0 (t : List (Int × Int)) : List (Int × Int) := ui0 :: ui1537 :: (0, 0) :: ui52 :: (1, 5) :: ui91 :: (0, 1) :: (1, 5) :: t
def nd_445_2pi_1 (t : List (Int × Int)) : List (Int × Int) := ui52 :: ui48 :: ui68 :: ui93 :: (1, 1) :: (0, 6) :: (0, 1) :: (0, 6) :: t
def nd_445_2pi_2 (t : List (Int × Int)) : List (Int × Int) := (1, 5) :: t
def nd_445_2pg_0 (t : List zTg) : List zTg := uG1587 :: uG1588 :: uG1589 :: uG1591 :: uG1592 :: uG1593 :: uG1604 :: uG1605 :: t
def nd_445_2pg_1 (t : List zTg) : List zTg := (67, [uL131, uL9]) :: t
def nd_445_2p : zS := ((nd_445_2pi_0 (nd_445_2pi_1 (nd_445_2pi_2 []))), (cx_445pr_0 (cx_445pr_1 [])), [uL65, uL1606], [uV2, uV1607, uV11, uV1608], [], (nd_445_0pf_0 (nd_445_0pf_1 (nd_445_0pf_2 []))), (nd_445_2pg_0 (nd_445_2pg_1 [])))
def nd_445_2 : zN := (30, nd_445_2p, ((-99999999829), [(2, (-100000000000)), (12, 100000000000), (16, (-24))]))
def nd_445_3pi_0 (t : List (Int × Int)) : List (Int × Int) := ui0 :: ui1537 :: (0, 0) :: ui52 :: (0, 0) :: ui52 :: (0, 1) :: (1, 5) :: t
def nd_445_3pi_1 (t : List (Int × Int)) : List (Int × Int) := ui52 :: ui48 :: ui68 :: ui52 :: (1, 1) :: (0, 6) :: (0, 1) :: (0, 6) :: t
def nd_445_3pi_2 (t : List (Int × Int)) : List (Int × Int) := (1, 5) :: t
def nd_445_3pf_0 (t : List zFa) : List zFa := uF1609 :: uF1543 :: uF1521 :: uF1506 :: uF1508 :: uF1577 :: uF1554 :: uF1578 :: t
def nd_445_3pf_1 (t : List zFa) : List zFa := uF1579 :: uF291 :: uF1124 :: uF1125 :: uF1445 :: uF1446 :: uF1580 :: uF1581 :: t
def nd_445_3pf_2 (t : List zFa) : List zFa := uF1582 :: uF1583 :: uF1585 :: uF1586 :: t
def nd_445_3p : zS := ((nd_445_3pi_0 (nd_445_3pi_1 (nd_445_3pi_2 []))), (cx_445pr_0 (cx_445pr_1 [])), [uL65, uL1606], [uV2, uV1607, uV11, uV1608], [], (nd_445_3pf_0 (nd_445_3pf_1 (nd_445_3pf_2 []))), (nd_445_2pg_0 (nd_445_2pg_1 [])))
def nd_445_3 : zN := (30, nd_445_3p, ((-99999999829), [(2, (-100000000000)), (4, (-100000000000)), (12, 100000000000), (16, (-24))]))
def ns_445 : List zN := [nd_445_0, nd_445_1, nd_445_2, nd_445_3]
set_option maxRecDepth 1000000 in
theorem ca_445 : x_okA mLT1 cq_445 mTS2 mTC2 mRUp cx_445 cs_445 hs_445 ns_445 (191, []) 53 54 = true := by decide +kernel
set_option maxRecDepth 1000000 in
theorem cb_445_0 : x_okB mLT1 cq_445 mTS2 mTC2 mRUp cx_445 cs_445 hs_445 ns_445 (191, []) 53 54 nd_445_0 = true := by decide +kernel
set_option maxRecDepth 1000000 in
theorem cb_445_1 : x_okB mLT1 cq_445 mTS2 mTC2 mRUp cx_445 cs_445 hs_445 ns_445 (191, []) 53 54 nd_445_1 = true := by decide +kernel
set_option maxRecDepth 1000000 in
theorem cb_445_2 : x_okB mLT1 cq_445 mTS2 mTC2 mRUp cx_445 cs_445 hs_445 ns_445 (191, []) 53 54 nd_445_2 = true := by decide +kernel
set_option maxRecDepth 1000000 in
theorem cb_445_3 : x_okB mLT1 cq_445 mTS2 mTC2 mRUp cx_445 cs_445 hs_445 ns_445 (191, []) 53 54 nd_445_3 = true := by decide +kernel
set_option maxRecDepth 1000000 in
theorem cc_445 : x_okC mLT1 cq_445 mTS2 mTC2 mRUp cx_445 cs_445 hs_445 ns_445 (191, []) 53 54 = true := by decide +kernel
theorem ck_445 : x_ok mLT1 cq_445 mTS2 mTC2 mRUp cx_445 cs_445 hs_445 ns_445 (191, []) 53 54 = true := x_ok_of ca_445 (List.forall_mem_cons.mpr ⟨cb_445_0, List.forall_mem_cons.mpr ⟨cb_445_1, List.forall_mem_cons.mpr ⟨cb_445_2, List.forall_mem_cons.mpr ⟨cb_445_3, fun _ h => absurd h List.not_mem_nil⟩⟩⟩⟩) cc_445
theorem sn_445 {W : Bool} {X : List Int32} : y_Snd (mGw W) mLT1 (J2 W X) X cx_445 := y_ok J2_J mTS2_ok1 mTC2_ok1 mRUp_ok1 (List.forall_mem_cons.mpr ⟨sn_430, List.forall_mem_cons.mpr ⟨sn_431, List.forall_mem_cons.mpr ⟨sn_432, List.forall_mem_cons.mpr ⟨sn_433, List.forall_mem_cons.mpr ⟨sn_435, List.forall_mem_cons.mpr ⟨sn_439, List.forall_mem_cons.mpr ⟨sn_440, List.forall_mem_cons.mpr ⟨sn_441, List.forall_mem_cons.mpr ⟨sn_443, List.forall_mem_cons.mpr ⟨sn_444, fun _ h => absurd h List.not_mem_nil⟩⟩⟩⟩⟩⟩⟩⟩⟩⟩) ck_445
end
