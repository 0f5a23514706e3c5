noncomputable section
/-! ===== readings, by program, checked by the kernel ===== -/
/-- M.lays -/
def cx_407 : zCtx := (193, ([ui0, ui49, ui487, ui52, ui49], [ur1474, ur1475], [uL480], [], [uV2, uV11], [uF150, uF42], [uG481, uG1480]), [([ui0, ui49, ui487, ui52, ui49], [ur1474, ur1475], [], [], [], [uF1476], [uG481, uG1480, uG1477])], [uk1478, uk1479], 81, 0, 0)
set_option maxRecDepth 1000000 in
theorem ck_407 : x_ok mLT1 [] mTS2 mTC2 mRUp cx_407 [] [(17, [1000424]), (18, [1000422]), (36, [1000425])] [] (81, []) 0 84 = true := by decide +kernel
theorem sn_407 {W : Bool} {X : List Int32} : y_Snd (mGw W) mLT1 (J2 W X) X cx_407 := y_ok J2_J mTS2_ok1 mTC2_ok1 mRUp_ok1 (fun _ h => absurd h List.not_mem_nil) ck_407
/-- M.lays -/
def cx_408 : zCtx := (193, ([ui0, ui49, ui490, ui52, ui49, ui49], [ur1474, ur1475], [uL480], [], [uV2, uV11], [uF150, uF42], [uG481, uG1480, uG1481]), [([ui0, ui49, ui490, ui52, ui49, ui49], [ur1474, ur1475], [], [], [], [uF1476], [uG481, uG1480, uG1481, uG1477])], [uk1478, uk1479], 81, 0, 0)
set_option maxRecDepth 1000000 in
theorem ck_408 : x_ok mLT1 [] mTS2 mTC2 mRUp cx_408 [] [(17, [1000424]), (18, [1000422]), (36, [1000425])] [] (81, []) 0 84 = true := by decide +kernel
theorem sn_408 {W : Bool} {X : List Int32} : y_Snd (mGw W) mLT1 (J2 W X) X cx_408 := y_ok J2_J mTS2_ok1 mTC2_ok1 mRUp_ok1 (fun _ h => absurd h List.not_mem_nil) ck_408
/-- M.lays -/
def cx_409 : zCtx := (193, ([ui0, ui49, ui493, ui52, ui49, ui49, ui49], [ur1474, ur1475], [uL480], [], [uV2, uV11], [uF150, uF42], [uG481, uG1480, uG1481, uG1482]), [([ui0, ui49, ui493, ui52, ui49, ui49, ui49], [ur1474, ur1475], [], [], [], [uF1476], [uG481, uG1480, uG1481, uG1482, uG1477])], [uk1478, uk1479], 81, 0, 0)
set_option maxRecDepth 1000000 in
theorem ck_409 : x_ok mLT1 [] mTS2 mTC2 mRUp cx_409 [] [(17, [1000424]), (18, [1000422]), (36, [1000425])] [] (81, []) 0 84 = true := by decide +kernel
theorem sn_409 {W : Bool} {X : List Int32} : y_Snd (mGw W) mLT1 (J2 W X) X cx_409 := y_ok J2_J mTS2_ok1 mTC2_ok1 mRUp_ok1 (fun _ h => absurd h List.not_mem_nil) ck_409
/-- M.lays -/
def cx_410 : zCtx := (193, ([ui0, ui49, ui496, ui52, ui49, ui49, ui49, ui49], [ur1474, ur1475], [uL480], [], [uV2, uV11], [uF150, uF42], [uG481, uG1480, uG1481, uG1482, uG1483]), [([ui0, ui49, ui496, ui52, ui49, ui49, ui49, ui49], [ur1474, ur1475], [], [], [], [uF1476], [uG481, uG1480, uG1481, uG1482, uG1483, uG1477])], [uk1478, uk1479], 81, 0, 0)
set_option maxRecDepth 1000000 in
theorem ck_410 : x_ok mLT1 [] mTS2 mTC2 mRUp cx_410 [] [(17, [1000424]), (18, [1000422]), (36, [1000425])] [] (81, []) 0 84 = true := by decide +kernel
theorem sn_410 {W : Bool} {X : List Int32} : y_Snd (mGw W) mLT1 (J2 W X) X cx_410 := y_ok J2_J mTS2_ok1 mTC2_ok1 mRUp_ok1 (fun _ h => absurd h List.not_mem_nil) ck_410
/-- M.feed -/
def cx_411 : zCtx := (192, ([ui0, ui49, ui49, ui49, ui49, ui49, ui52, ui52], [ur1474, ur1475], [uL499], [], [uV2, uV11, uV12, uV58, uV97, uV75], [uF1484, uF42], [uG502]), [([ui0, ui49, ui49, ui49, ui49, ui49, ui52, ui52], [ur1474, ur1475], [uL503], [], [uV61], [uF1484], [uG502]), ([ui0, ui49, ui49, ui49, ui49, ui49, ui52, ui52], [ur1474, ur1475], [uL504], [], [uV505], [(0, (false, 2, 0, []), 0, 0, 20, [(6, 1)])], [uG502, (73, [uL78, uL9, uL506]), (73, [uL506, uL67, uL507]), (73, [uL507, uL23, uL508]), (73, [uL508, uL98, uL509]), (73, [uL509, uL104, uL510])])], [uk1478, uk1479], 105, 1, 22)
set_option maxRecDepth 1000000 in
theorem ck_411 : x_ok mLT1 [cx_406, cx_407, cx_408, cx_409, cx_410] mTS2 mTC2 mRUp cx_411 [(17, [0]), (22, [1]), (27, [2]), (33, [3]), (39, [4])] [] [] (24, []) 81 27 = true := by decide +kernel
theorem sn_411 {W : Bool} {X : List Int32} : y_Snd (mGw W) mLT1 (J2 W X) X cx_411 := y_ok J2_J mTS2_ok1 mTC2_ok1 mRUp_ok1 (List.forall_mem_cons.mpr ⟨sn_406, List.forall_mem_cons.mpr ⟨sn_407, List.forall_mem_cons.mpr ⟨sn_408, List.forall_mem_cons.mpr ⟨sn_409, List.forall_mem_cons.mpr ⟨sn_410, fun _ h => absurd h List.not_mem_nil⟩⟩⟩⟩⟩) ck_411
/-- M.back -/
def cx_412 : zCtx := (194, ([ui0, ui49, ui52], [ur1474], [], [], [uV2, uV11], [uF150], []), [([ui0, ui512, ui52], [ur1474], [uL513], [], [uV61], [uF150], []), ([ui0, ui52, ui52], [ur1474], [uL514], [], [uV515], [(0, (false, 2, 0, []), 0, 0, 0, [(1, (-1)), (2, 1)])], []), ([ui0, ui260, ui52], [ur1474], [], [], [uV61], [uF150], [])], [uk1478], 15, 0, 0)
set_option maxRecDepth 1000000 in
theorem ck_412 : x_ok mLT1 [] mTS2 mTC2 mRUp cx_412 [] [] [] (15, []) 0 18 = true := by decide +kernel
theorem sn_412 {W : Bool} {X : List Int32} : y_Snd (mGw W) mLT1 (J2 W X) X cx_412 := y_ok J2_J mTS2_ok1 mTC2_ok1 mRUp_ok1 (fun _ h => absurd h List.not_mem_nil) ck_412
/-- M.byteAt -/
def cx_413 : zCtx := (197, ([ui0, ui52, ui52], [ur1474, ur1485], [uL9], [], [uV2, uV11], [uF177, uF614], [(52, [uL67])]), [([ui0, ui52, ui52, ui56], [ur1474, ur1485], [uL57], [], [uV58], [], [uG59]), ([ui0, ui52, ui52], [ur1474, ur1485], [uL60], [], [uV62], [], [])], [], 12, 0, 0)
set_option maxRecDepth 1000000 in
theorem ck_413 : x_ok mLT1 [] mTS2 mTC2 mRUp cx_413 [] [(18, [1000199, 1000200])] [] (12, []) 0 15 = true := by decide +kernel
theorem sn_413 {W : Bool} {X : List Int32} : y_Snd (mGw W) mLT1 (J2 W X) X cx_413 := y_ok J2_J mTS2_ok1 mTC2_ok1 mRUp_ok1 (fun _ h => absurd h List.not_mem_nil) ck_413
/-- M.token -/
def cx_414 : zCtx := (198, ([ui0, ui1486, ui52, ui194, ui1487, ui68, ui52, ui52], [ur1474, ur1488, ur1489, ur1490, ur1491], [], [], [uV2, uV11, uV12, uV58, uV74], [uF1307, uF1492, uF1493, uF1494, uF447], [uG1495]), [([ui0, ui1486, ui52, ui194, ui1487, ui68, ui52, ui52], [ur1474, ur1488, ur1489, ur1490, ur1491], [], [], [], [(1, (true, 0, 0, [(5, 1)]), 0, 0, 0, [(1, 1)]), (2, (true, 0, 0, [(5, 1)]), 0, 0, 0, [(2, 1)]), (3, (true, 0, 0, [(5, 1)]), 0, 0, 0, [(3, 1)]), (4, (true, 0, 0, [(5, 1)]), 1, 0, 0, [(4, 1)]), (0, (false, 10, 0, []), 0, 0, 1, [(5, 1)])], [uG1495])], [uk1496, uk1497, uk1498, uk1499, uk1500], 31, 0, 0)
set_option maxRecDepth 1000000 in
theorem ck_414 : x_ok mLT1 [] mTS2 mTC2 mRUp cx_414 [] [] [] (31, []) 0 34 = true := by decide +kernel
theorem sn_414 {W : Bool} {X : List Int32} : y_Snd (mGw W) mLT1 (J2 W X) X cx_414 := y_ok J2_J mTS2_ok1 mTC2_ok1 mRUp_ok1 (fun _ h => absurd h List.not_mem_nil) ck_414
/-- M.isLetter -/
def cx_415 : zCtx := (199, ([ui0, ui56], [], [], [], [uV11], [], []), [([ui0, ui56], [], [], [], [uV64], [], [uG84]), ([ui0, ui56], [], [], [], [uV62], [], [uG85])], [], 9, 0, 0)
set_option maxRecDepth 1000000 in
theorem ck_415 : x_ok mLT1 [] mTS2 mTC2 mRUp cx_415 [] [(17, [1000001])] [] (9, []) 0 12 = true := by decide +kernel
theorem sn_415 {W : Bool} {X : List Int32} : y_Snd (mGw W) mLT1 (J2 W X) X cx_415 := y_ok J2_J mTS2_ok1 mTC2_ok1 mRUp_ok1 (fun _ h => absurd h List.not_mem_nil) ck_415
/-- M.appends -/
def cx_416 : zCtx := (189, ([ui0, ui1501, ui1502], [], [], [], [uV173, uV12], [], []), [([ui0, ui1501, ui1502], [], [], [], [(1, 0, (-96), [(1, 27), (2, 1)])], [], [])], [], 13, 0, 0)
set_option maxRecDepth 1000000 in
theorem ck_416 : x_ok mLT1 [] mTS2 mTC2 mRUp cx_416 [] [] [] (13, []) 0 16 = true := by decide +kernel
theorem sn_416 {W : Bool} {X : List Int32} : y_Snd (mGw W) mLT1 (J2 W X) X cx_416 := y_ok J2_J mTS2_ok1 mTC2_ok1 mRUp_ok1 (fun _ h => absurd h List.not_mem_nil) ck_416
/-- M.isDigit -/
def cx_417 : zCtx := (200, ([ui0, ui56], [], [], [], [uV11], [], []), [([ui0, ui56], [], [], [], [uV64], [], [uG115]), ([ui0, ui56], [], [], [], [uV62], [], [uG116])], [], 9, 0, 0)
set_option maxRecDepth 1000000 in
theorem ck_417 : x_ok mLT1 [] mTS2 mTC2 mRUp cx_417 [] [(17, [1000002])] [] (9, []) 0 12 = true := by decide +kernel
theorem sn_417 {W : Bool} {X : List Int32} : y_Snd (mGw W) mLT1 (J2 W X) X cx_417 := y_ok J2_J mTS2_ok1 mTC2_ok1 mRUp_ok1 (fun _ h => absurd h List.not_mem_nil) ck_417
def cx_418p : zS := ([ui0, ui91, ui56, ui56, ui68, ui52], [ur1474, ur1488, ur1489, ur1490, ur1491], [uL593], [], [uV2, uV11, uV12, uV58], [uF1314, uF1503, uF1492, uF1493, uF1494, uF447], [(56, [uL104, uL98, uL9]), (20, [uL9, uL67]), (21, [uL63, uL67, uL63]), (21, [uL65, uL67, uL63]), (21, [uL114, uL67, uL63])])
/-- M.sign -/
def cx_418 : zCtx := (201, cx_418p, [([ui0, ui91, ui56, ui56, ui68, ui52], [ur1474, ur1488, ur1489, ur1490, ur1491], [], [], [uV64], [(0, (false, 10, 0, []), 0, 0, 1, [(4, 1)])], [(56, [uL104, uL168, uL109])])], [uk1496, uk1497, uk1498, uk1499, uk1500], 70, 1, 25)
set_option maxRecDepth 1000000 in
theorem ck_418 : x_ok mLT1 [cx_414] mTS2 mTC2 mRUp cx_418 [(101, [0])] [(104, [1000205, 1000206, 1000207])] [] (39, []) 31 42 = true := by decide +kernel
theorem sn_418 {W : Bool} {X : List Int32} : y_Snd (mGw W) mLT1 (J2 W X) X cx_418 := y_ok J2_J mTS2_ok1 mTC2_ok1 mRUp_ok1 (List.forall_mem_cons.mpr ⟨sn_414, fun _ h => absurd h List.not_mem_nil⟩) ck_418
/-- M.cut -/
def cx_419 : zCtx := (196, ([ui0, ui52, ui141], [ur1474, ur1485, ur1488, ur1489, ur1490, ur1491, ur1504], [], [], [uV2], [uF32, uF1133, uF614, uF1159, uF1160, uF1505, uF1506, uF1162], [uG1507, uG1508]), [([ui0, ui52, ui141], [ur1474, ur1485, ur1488, ur1489, ur1490, ur1491, ur1504], [], [], [], [], [uG1509])], [uk1496, uk1497, uk1498, uk1499, uk1500], 67778300, 2, 49)
def cq_419 : List zCtx := [cx_413, cx_414, cx_415, cx_416, cx_417, cx_418]
def cs_419 : List (Nat × List Nat) := [(19, [0]), (39, [1]), (74, [2]), (89, [0]), (92, [2]), (110, [0]), (113, [3]), (186, [1]), (197, [4]), (212, [0]), (215, [4]), (235, [0]), (265, [1]), (283, [0]), (286, [5])]
def hs_419 : List (Nat × List Nat) := [(6, [1000208]), (42, [1000209]), (67, [1000210, 1000211]), (73, [1000210]), (83, [1000212, 1000213]), (98, [1000238, 1000214, 1000215, 1000216]), (113, [1000204]), (118, [1000217, 1000218]), (124, [1000201, 1000219, 1000220]), (144, [1000221]), (173, [1000222, 1000223, 1000224]), (189, [1000225, 1000226]), (206, [1000227, 1000228]), (221, [1000239, 1000229, 1000230, 1000231]), (238, [1000203]), (244, [1000232, 1000233]), (250, [1000202, 1000234, 1000235]), (268, [1000236, 1000237]), (294, [1000240])]
def nd_419_0p : zS := ([ui0, ui52, ui141, ui52, ui141], [ur1474, ur1485, ur1488, ur1489, ur1490, ur1491, ur1504], [uL587], [uV2, uV58, uV113, uV113, uV113, uV113, uV113, uV113], [], [uF1314, uF32, uF614, uF1159, uF1160, uF1505, uF1506, uF1162], [uG1507, uG1508, (56, [uL9, uL98, uL23])])
def nd_419_0 : zN := (7, nd_419_0p, (67776820, [(3, (-6580)), (4, (-103400))]))
def nd_419_1p : zS := ([ui0, ui93, ui141, ui91, ui56, ui52, ui1487, ui68], [ur1474, ur1485, ur1488, ur1489, ur1490, ur1491, ur1504], [uL1510, uL587, uL1510, uL1511], [uV2, uV58, uV97, uV75, uV1512, uV113, uV113, uV113], [], [uF1513, uF32, uF614, uF1159, uF1160, uF1505, uF1506, uF1162], [uG1507, uG1508, uG1514, uG1515, uG1516, uG1517, (22, [uL65, uL9, uL23, uL1518]), uG1519])
def nd_419_1 : zN := (85, nd_419_1p, (67769300, [(3, (-6580)), (5, (-4935)), (7, (-103400))]))
def nd_419_2pi_0 (t : List (Int × Int)) : List (Int × Int) := ui0 :: ui93 :: ui141 :: ui91 :: ui56 :: (0, 8) :: ui1487 :: ui1520 :: t
def nd_419_2pi_1 (t : List (Int × Int)) : List (Int × Int) := ui424 :: ui68 :: t
def nd_419_2pg_0 (t : List zTg) : List zTg := uG1507 :: uG1508 :: (56, [uL9, uL163, uL23]) :: uG1515 :: uG1516 :: uG1517 :: (23, [uL65, uL9, uL23, uL1518]) :: uG1519 :: t
def nd_419_2pg_1 (t : List zTg) : List zTg := (60, [uL78, uL131, uL79]) :: t
def nd_419_2p : zS := ((nd_419_2pi_0 (nd_419_2pi_1 [])), [ur1474, ur1485, ur1488, ur1489, ur1490, ur1491, ur1504], [uL1510, uL587, uL1511, uL1510, uL1511], [uV2, uV58, uV97, uV75, uV1512, uV113, uV142, uV144], [], [(0, (false, 10, 0, []), 0, 0, 0, [(9, 1)]), uF32, uF614, uF1159, uF1160, uF1505, uF1506, uF1162], (nd_419_2pg_0 (nd_419_2pg_1 [])))
def nd_419_2 : zN := (146, nd_419_2p, (67765070, [(3, (-6580)), (5, (-6580)), (8, (-3995)), (9, (-103400))]))
def nd_419_3pg_0 (t : List zTg) : List zTg := uG1507 :: uG1508 :: uG1514 :: uG1515 :: uG1516 :: (21, [uL65, uL98, uL63]) :: (21, [uL114, uL98, uL65]) :: (22, [uL114, uL9, uL23, uL1518]) :: t
def nd_419_3pg_1 (t : List zTg) : List zTg := (24, [uL23, uL1518, uL78]) :: t
def nd_419_3p : zS := ([ui0, ui93, ui141, ui91, ui56, ui52, ui194, ui68], [ur1474, ur1485, ur1488, ur1489, ur1490, ur1491, ur1504], [uL1510, uL587, uL1510, uL1511], [uV2, uV58, uV97, uV75, uV108, uV113, uV113, uV113], [], [uF1513, uF32, uF614, uF1159, uF1160, uF1505, uF1506, uF1162], (nd_419_3pg_0 (nd_419_3pg_1 [])))
def nd_419_3 : zN := (208, nd_419_3p, (67678780, [(1, 45), (3, (-6580)), (5, (-6533)), (7, (-103400))]))
def ns_419 : List zN := [nd_419_0, nd_419_1, nd_419_2, nd_419_3]
set_option maxRecDepth 1000000 in
theorem ca_419 : x_okA mLT1 cq_419 mTS2 mTC2 mRUp cx_419 cs_419 hs_419 ns_419 (67778230, []) 70 46 = true := by decide +kernel
set_option maxRecDepth 1000000 in
theorem cb_419_0 : x_okB mLT1 cq_419 mTS2 mTC2 mRUp cx_419 cs_419 hs_419 ns_419 (67778230, []) 70 46 nd_419_0 = true := by decide +kernel
set_option maxRecDepth 1000000 in
theorem cb_419_1 : x_okB mLT1 cq_419 mTS2 mTC2 mRUp cx_419 cs_419 hs_419 ns_419 (67778230, []) 70 46 nd_419_1 = true := by decide +kernel
set_option maxRecDepth 1000000 in
theorem cb_419_2 : x_okB mLT1 cq_419 mTS2 mTC2 mRUp cx_419 cs_419 hs_419 ns_419 (67778230, []) 70 46 nd_419_2 = true := by decide +kernel
set_option maxRecDepth 1000000 in
theorem cb_419_3 : x_okB mLT1 cq_419 mTS2 mTC2 mRUp cx_419 cs_419 hs_419 ns_419 (67778230, []) 70 46 nd_419_3 = true := by decide +kernel
set_option maxRecDepth 1000000 in
theorem cc_419 : x_okC mLT1 cq_419 mTS2 mTC2 mRUp cx_419 cs_419 hs_419 ns_419 (67778230, []) 70 46 = true := by decide +kernel
theorem ck_419 : x_ok mLT1 cq_419 mTS2 mTC2 mRUp cx_419 cs_419 hs_419 ns_419 (67778230, []) 70 46 = true := x_ok_of ca_419 (List.forall_mem_cons.mpr ⟨cb_419_0, List.forall_mem_cons.mpr ⟨cb_419_1, List.forall_mem_cons.mpr ⟨cb_419_2, List.forall_mem_cons.mpr ⟨cb_419_3, fun _ h => absurd h List.not_mem_nil⟩⟩⟩⟩) cc_419
theorem sn_419 {W : Bool} {X : List Int32} : y_Snd (mGw W) mLT1 (J2 W X) X cx_419 := y_ok J2_J mTS2_ok1 mTC2_ok1 mRUp_ok1 (List.forall_mem_cons.mpr ⟨sn_413, List.forall_mem_cons.mpr ⟨sn_414, List.forall_mem_cons.mpr ⟨sn_415, List.forall_mem_cons.mpr ⟨sn_416, List.forall_mem_cons.mpr ⟨sn_417, List.forall_mem_cons.mpr ⟨sn_418, fun _ h => absurd h List.not_mem_nil⟩⟩⟩⟩⟩⟩) ck_419
def cx_420pi_0 (t : List (Int × Int)) : List (Int × Int) := ui0 :: (0, 1) :: (0, 1) :: (0, 6) :: ui194 :: ui194 :: ui194 :: ui194 :: t
def cx_420pi_1 (t : List (Int × Int)) : List (Int × Int) := (0, 1) :: ui31 :: t
def cx_420pr_0 (t : List (Nat × Bool)) : List (Nat × Bool) := ur1474 :: ur1521 :: ur1522 :: ur1523 :: ur1524 :: ur1525 :: ur1526 :: ur1527 :: t
def cx_420pr_1 (t : List (Nat × Bool)) : List (Nat × Bool) := ur1528 :: ur1529 :: ur1530 :: ur1531 :: ur1532 :: ur1533 :: ur1534 :: ur1535 :: t
def cx_420pr_2 (t : List (Nat × Bool)) : List (Nat × Bool) := ur1536 :: t
def cx_420pf_0 (t : List zFa) : List zFa := uF1537 :: uF1538 :: uF1539 :: uF1540 :: uF1541 :: uF1542 :: uF1543 :: uF1544 :: t
def cx_420pf_1 (t : List zFa) : List zFa := uF1545 :: uF1546 :: uF1547 :: uF1548 :: uF1549 :: uF1550 :: uF1551 :: uF1552 :: t
def cx_420pg_0 (t : List zTg) : List zTg := uG1554 :: uG1555 :: uG1556 :: uG1557 :: uG1558 :: uG1559 :: uG1560 :: uG1561 :: t
def cx_420p : zS := ((cx_420pi_0 (cx_420pi_1 [])), (cx_420pr_0 (cx_420pr_1 (cx_420pr_2 []))), [], [], [uV2, uV11], (cx_420pf_0 (cx_420pf_1 [])), (cx_420pg_0 []))
def cx_420q0f_0 (t : List zFa) : List zFa := (2, (true, 0, 3, [(1, 4)]), 0, 0, 0, []) :: (1, (true, 0, 3, [(1, 4)]), 0, 0, 0, []) :: (2, (true, 0, 2, [(1, 4)]), 0, 0, 0, []) :: (1, (true, 0, 2, [(1, 4)]), 0, 0, 0, []) :: (2, (true, 0, 1, [(1, 4)]), 0, 0, 0, []) :: (1, (true, 0, 1, [(1, 4)]), 0, 0, 0, []) :: (2, (true, 0, 0, [(1, 4)]), 0, 0, 0, []) :: (1, (true, 0, 0, [(1, 4)]), 0, 0, 0, []) :: t
def cx_420q0f_1 (t : List zFa) : List zFa := (9, (true, 0, 0, [(1, 1)]), 0, 0, 0, []) :: (8, (true, 0, 0, [(1, 1)]), 0, 0, 0, []) :: (7, (true, 0, 0, [(1, 1)]), 0, 0, 10, []) :: (6, (true, 0, 0, [(1, 1)]), 0, 0, 20, []) :: uF1562 :: uF1563 :: t
def cx_420q0g_0 (t : List zTg) : List zTg := uG1564 :: uG1554 :: uG1555 :: uG1556 :: uG1557 :: uG1558 :: uG1559 :: uG1560 :: t
def cx_420q0g_1 (t : List zTg) : List zTg := uG1561 :: (77, [uL9, (36, [(1, 36)])]) :: uG1555 :: uG1556 :: uG1557 :: uG1558 :: uG1559 :: uG1560 :: t
def cx_420q0 : zS := ((cx_420pi_0 (cx_420pi_1 [])), (cx_420pr_0 (cx_420pr_1 (cx_420pr_2 []))), [], [], [], (cx_420q0f_0 (cx_420q0f_1 [])), (cx_420q0g_0 (cx_420q0g_1 [])))
/-- M.plain -/
def cx_420 : zCtx := (187, cx_420p, [cx_420q0], kc_73, 734, 0, 0)
def cz_420_0i_0 (t : List (Int × Int)) : List (Int × Int) := ui0 :: (0, 1) :: (0, 1) :: (0, 6) :: ui194 :: ui194 :: ui194 :: ui194 :: t
def cz_420_0i_1 (t : List (Int × Int)) : List (Int × Int) := (0, 1) :: ui31 :: ui438 :: t
def cz_420_0f_0 (t : List zFa) : List zFa := uF1562 :: uF1563 :: uF1537 :: uF1538 :: uF1539 :: uF1540 :: uF1541 :: uF1542 :: t
def cz_420_0f_1 (t : List zFa) : List zFa := uF1543 :: uF1544 :: uF1545 :: uF1546 :: uF1547 :: uF1548 :: uF1549 :: uF1550 :: t
def cz_420_0f_2 (t : List zFa) : List zFa := uF1551 :: uF1552 :: t
def cz_420_0g_0 (t : List zTg) : List zTg := uG1564 :: uG1554 :: uG1555 :: uG1556 :: uG1557 :: uG1558 :: uG1559 :: uG1560 :: t
def cz_420_0g_1 (t : List zTg) : List zTg := uG1561 :: (77, [uL9, (0, [(1, 36), (10, 1)])]) :: t
def cz_420_0 : zS := ((cz_420_0i_0 (cz_420_0i_1 [])), (cx_420pr_0 (cx_420pr_1 (cx_420pr_2 []))), [(36, [(10, (-1))])], [uV2, uV11, uV854], [], (cz_420_0f_0 (cz_420_0f_1 (cz_420_0f_2 []))), (cz_420_0g_0 (cz_420_0g_1 [])))
set_option maxRecDepth 1000000 in
theorem ck_420 : x_ok mLT1 [] mTS2 mTC2 mRUp cx_420 [] [(14, [1000446]), (34, [1000447])] [(16, cz_420_0, (721, [(10, (-15))]))] (734, []) 0 124 = true := by decide +kernel
theorem sn_420 {W : Bool} {X : List Int32} : y_Snd (mGw W) mLT1 (J2 W X) X cx_420 := y_ok J2_J mTS2_ok1 mTC2_ok1 mRUp_ok1 (fun _ h => absurd h List.not_mem_nil) ck_420
/-- M.is -/
def cx_421 : zCtx := (202, ([ui0, ui68, (0, 0), ui1486], [ur1474, ur1488], [], [], [uV2, uV62], [uF1565, uF1566, uF1492, uF1567], []), [([ui0, ui68, (0, 0), (0, 0)], [ur1474, ur1488], [], [], [uV64], [], []), ([ui0, ui68, (0, 0), ui1520], [ur1474, ur1488], [], [], [uV62], [], [])], [], 13, 0, 0)
set_option maxRecDepth 1000000 in
theorem ck_421 : x_ok mLT1 [] mTS2 mTC2 mRUp cx_421 [] [] [] (13, []) 0 16 = true := by decide +kernel
theorem sn_421 {W : Bool} {X : List Int32} : y_Snd (mGw W) mLT1 (J2 W X) X cx_421 := y_ok J2_J mTS2_ok1 mTC2_ok1 mRUp_ok1 (fun _ h => absurd h List.not_mem_nil) ck_421
/-- M.fail -/
def cx_422 : zCtx := (205, ([ui0, ui68, (0, 0), ui52, ui52], [ur1474, ur1489], [], [], [uV2, uV388], [uF1565, uF1566, uF1568, uF1569, uF1570], []), [([ui0, ui68, (0, 0), ui52, ui52], [ur1474, ur1489], [], [], [], [uF1571, uF1572], [])], [uk1573, uk1574], 14, 0, 0)
set_option maxRecDepth 1000000 in
theorem ck_422 : x_ok mLT1 [] mTS2 mTC2 mRUp cx_422 [] [] [] (14, []) 0 17 = true := by decide +kernel
theorem sn_422 {W : Bool} {X : List Int32} : y_Snd (mGw W) mLT1 (J2 W X) X cx_422 := y_ok J2_J mTS2_ok1 mTC2_ok1 mRUp_ok1 (fun _ h => absurd h List.not_mem_nil) ck_422
def cx_423pf_0 (t : List zFa) : List zFa := uF1565 :: uF1566 :: uF1568 :: uF176 :: uF1492 :: uF1493 :: uF1494 :: uF447 :: t
def cx_423pf_1 (t : List zFa) : List zFa := uF1575 :: (2, (true, 0, 0, [(1, 1)]), 0, 0, 0, [(6, 1)]) :: t
def cx_423p : zS := ([ui0, ui68, (0, 0), ui52, ui52, ui1486, ui52], [ur1474, ur1488, ur1489, ur1490, ur1491], [uL1576], [], [uV2], (cx_423pf_0 (cx_423pf_1 [])), [uG1577, uG1578, uG1579])
/-- M.goesOn -/
def cx_423 : zCtx := (206, cx_423p, [([ui0, ui146, (0, 0), ui52, ui52, ui1486, ui52], [ur1474, ur1488, ur1489, ur1490, ur1491], [uL1576, uL63], [], [], [uF1219, uF1572, uF1565], [uG1580, uG1580]), ([ui0, ui147, (0, 0), ui52, ui52, ui1486, ui52], [ur1474, ur1488, ur1489, ur1490, ur1491], [uL1576, uL65], [], [], [uF1581, uF1566, uF1568], [uG1582, uG1582])], [uk1583, uk1573, uk1574], 25, 1, 21)
set_option maxRecDepth 1000000 in
theorem ck_423 : x_ok mLT1 [cx_422] mTS2 mTC2 mRUp cx_423 [(12, [0])] [(10, [1000241]), (28, [1000242])] [] (11, []) 14 14 = true := by decide +kernel
theorem sn_423 {W : Bool} {X : List Int32} : y_Snd (mGw W) mLT1 (J2 W X) X cx_423 := y_ok J2_J mTS2_ok1 mTC2_ok1 mRUp_ok1 (List.forall_mem_cons.mpr ⟨sn_422, fun _ h => absurd h List.not_mem_nil⟩) ck_423
def cx_424pf_0 (t : List zFa) : List zFa := uF1584 :: uF1585 :: uF1571 :: uF1503 :: uF1492 :: uF1493 :: uF1494 :: uF447 :: t
def cx_424pf_1 (t : List zFa) : List zFa := (1, (true, 0, 0, [(2, 1)]), 0, 0, 0, [(6, 1)]) :: (2, (true, 0, 0, [(2, 1)]), 0, 0, 0, [(7, 1)]) :: t
def cx_424p : zS := ([ui0, (0, 6), ui68, (0, 0), ui52, ui52, ui1486, ui52], [ur1474, ur1488, ur1489, ur1490, ur1491], [uL1586, uL1325], [], [uV2, uV11, uV314], (cx_424pf_0 (cx_424pf_1 [])), [uG1587, uG1588, (69, [uL104, uL67, uL9, uL250, uL79])])
/-- M.roomFor -/
def cx_424 : zCtx := (204, cx_424p, [([ui0, (0, 6), ui68, (0, 0), ui52, ui52, ui1486, ui52], [ur1474, ur1488, ur1489, ur1490, ur1491], [uL63], [], [], [uF1246, uF1572, uF1584], [uG1589, uG1589]), ([ui0, (0, 5), ui147, (0, 0), ui52, ui52, ui1520, ui52], [ur1474, ur1488, ur1489, ur1490, ur1491], [uL65, uL63, uL63, (5, [(1, (-1))])], [], [], [uF1590, uF1585, uF1571], [uG1591, uG1592, uG1591])], [uk1583, uk1573, uk1574], 35, 2, 41)
set_option maxRecDepth 1000000 in
theorem ck_424 : x_ok mLT1 [cx_422, cx_423] mTS2 mTC2 mRUp cx_424 [(7, [0]), (18, [1])] [(5, [1000336]), (17, [1000337])] [] (10, []) 25 13 = true := by decide +kernel
theorem sn_424 {W : Bool} {X : List Int32} : y_Snd (mGw W) mLT1 (J2 W X) X cx_424 := y_ok J2_J mTS2_ok1 mTC2_ok1 mRUp_ok1 (List.forall_mem_cons.mpr ⟨sn_422, List.forall_mem_cons.mpr ⟨sn_423, fun _ h => absurd h List.not_mem_nil⟩⟩) ck_424
/-- M.is -/
def cx_425 : zCtx := (202, ([ui0, ui347, (0, 2), ui1486], [ur1474, ur1488], [], [], [uV2, uV64], [uF1565, uF1566, uF1492, uF1567], []), [([ui0, ui347, (0, 0), (1, 1)], [ur1474, ur1488], [], [], [uV64], [], []), ([ui0, ui347, (0, 0), (0, 0)], [ur1474, ur1488], [], [], [uV62], [], []), ([ui0, ui347, (0, 0), ui1593], [ur1474, ur1488], [], [], [uV62], [], []), ([ui0, ui347, (1, 2), ui1486], [ur1474, ur1488], [], [], [uV62], [], [])], [], 13, 0, 0)
set_option maxRecDepth 1000000 in
theorem ck_425 : x_ok mLT1 [] mTS2 mTC2 mRUp cx_425 [] [] [] (13, []) 0 16 = true := by decide +kernel
theorem sn_425 {W : Bool} {X : List Int32} : y_Snd (mGw W) mLT1 (J2 W X) X cx_425 := y_ok J2_J mTS2_ok1 mTC2_ok1 mRUp_ok1 (fun _ h => absurd h List.not_mem_nil) ck_425
/-- M.fail -/
def cx_426 : zCtx := (205, ([ui0, ui68, (0, 0), ui52, ui52], [ur1474, ur1489], [], [], [uV2, uV64], [uF1565, uF1566, uF1568, uF1569, uF1570], []), [([ui0, ui68, (0, 0), ui52, ui52], [ur1474, ur1489], [], [], [], [uF1571, uF1594], [])], [uk1573, uk1574], 14, 0, 0)
set_option maxRecDepth 1000000 in
theorem ck_426 : x_ok mLT1 [] mTS2 mTC2 mRUp cx_426 [] [] [] (14, []) 0 17 = true := by decide +kernel
theorem sn_426 {W : Bool} {X : List Int32} : y_Snd (mGw W) mLT1 (J2 W X) X cx_426 := y_ok J2_J mTS2_ok1 mTC2_ok1 mRUp_ok1 (fun _ h => absurd h List.not_mem_nil) ck_426
def cx_427p : zS := ([ui0, ui347, (0, 0), ui52, ui52, ui1486, ui52], [ur1474, ur1488, ur1489, ur1490, ur1491], [uL63], [], [uV2, uV64], (cx_423pf_0 (cx_423pf_1 [])), [uG1577, uG1578, (62, [uL98, uL9, uL65, uL104, uL78])])
/-- M.must -/
def cx_427 : zCtx := (208, cx_427p, [([ui0, ui347, (0, 0), ui52, ui52, ui1486, ui52, (1, 2)], [ur1474, ur1488, ur1489, ur1490, ur1491], [uL63], [], [], [uF1219, uF1595, uF1565], [uG1596]), ([ui0, ui1597, (0, 0), ui52, ui52, (1, 1), ui52], [ur1474, ur1488, ur1489, ur1490, ur1491], [uL65, uL1576, uL1598, uL63, uL63], [], [], [uF1581, uF1566, uF1568], [uG1582, uG1579, uG1582])], [uk1583, uk1573, uk1574], 33, 2, 41)
set_option maxRecDepth 1000000 in
theorem ck_427 : x_ok mLT1 [cx_425, cx_423, cx_426] mTS2 mTC2 mRUp cx_427 [(2, [0]), (9, [1]), (17, [2])] [(9, [1000243]), (15, uN1599)] [] (8, []) 25 11 = true := by decide +kernel
theorem sn_427 {W : Bool} {X : List Int32} : y_Snd (mGw W) mLT1 (J2 W X) X cx_427 := y_ok J2_J mTS2_ok1 mTC2_ok1 mRUp_ok1 (List.forall_mem_cons.mpr ⟨sn_425, List.forall_mem_cons.mpr ⟨sn_423, List.forall_mem_cons.mpr ⟨sn_426, fun _ h => absurd h List.not_mem_nil⟩⟩⟩) ck_427
/-- M.wrong -/
def cx_428 : zCtx := (209, ([ui0, ui1597, (0, 0), (0, 0), ui52, ui52], [ur1474, ur1489], [], [], [uV2, uV384, uV11], [uF1566, uF1600, uF1601, uF1569, uF1575], []), [([ui0, ui1597, (0, 0), (0, 0), ui52, ui52], [ur1474, ur1489], [], [], [], [uF1602, uF1603], [])], [uk1604, uk1605], 18, 0, 0)
set_option maxRecDepth 1000000 in
theorem ck_428 : x_ok mLT1 [] mTS2 mTC2 mRUp cx_428 [] [] [] (18, []) 0 21 = true := by decide +kernel
theorem sn_428 {W : Bool} {X : List Int32} : y_Snd (mGw W) mLT1 (J2 W X) X cx_428 := y_ok J2_J mTS2_ok1 mTC2_ok1 mRUp_ok1 (fun _ h => absurd h List.not_mem_nil) ck_428
/-- M.wrong -/
def cx_429 : zCtx := (209, ([ui0, ui1597, (0, 0), (1, 5), ui91, ui52], [ur1474, ur1489], [uL1606], [], [uV2, uV384, uV11], [uF1566, uF1600, uF1601, uF1569, uF1575], []), [([ui0, ui1597, (0, 0), (1, 5), ui91, ui93], [ur1474, ur1489], [uL1606], [], [], [], [])], [], 16, 0, 0)
set_option maxRecDepth 1000000 in
theorem ck_429 : x_ok mLT1 [] mTS2 mTC2 mRUp cx_429 [] [] [] (16, []) 0 19 = true := by decide +kernel
theorem sn_429 {W : Bool} {X : List Int32} : y_Snd (mGw W) mLT1 (J2 W X) X cx_429 := y_ok J2_J mTS2_ok1 mTC2_ok1 mRUp_ok1 (fun _ h => absurd h List.not_mem_nil) ck_429
/-- M.wrong -/
def cx_430 : zCtx := (209, ([ui0, ui1597, (0, 0), (3, 3), ui52, ui52], [ur1474, ur1489], [uL1607, uL1608, uL1609], [], [uV2, uV384, uV11], [uF1566, uF1600, uF1601, uF1569, uF1575], []), [([ui0, ui1597, (0, 0), (3, 3), ui52, ui52], [ur1474, ur1489], [uL1608, uL1607, uL1609], [], [], [], [])], [], 24, 0, 0)
set_option maxRecDepth 1000000 in
theorem ck_430 : x_ok mLT1 [] mTS2 mTC2 mRUp cx_430 [] [] [] (24, []) 0 27 = true := by decide +kernel
theorem sn_430 {W : Bool} {X : List Int32} : y_Snd (mGw W) mLT1 (J2 W X) X cx_430 := y_ok J2_J mTS2_ok1 mTC2_ok1 mRUp_ok1 (fun _ h => absurd h List.not_mem_nil) ck_430
/-- M.fail -/
def cx_431 : zCtx := (205, ([ui0, ui347, (1, 2), ui52, ui52], [ur1474, ur1489], [], [], [uV2, uV64], [uF1565, uF1566, uF1568, uF1569, uF1570], []), [([ui0, ui347, (1, 2), ui52, ui52], [ur1474, ur1489], [], [], [], [], [])], [], 4, 0, 0)
set_option maxRecDepth 1000000 in
theorem ck_431 : x_ok mLT1 [] mTS2 mTC2 mRUp cx_431 [] [] [] (4, []) 0 7 = true := by decide +kernel
theorem sn_431 {W : Bool} {X : List Int32} : y_Snd (mGw W) mLT1 (J2 W X) X cx_431 := y_ok J2_J mTS2_ok1 mTC2_ok1 mRUp_ok1 (fun _ h => absurd h List.not_mem_nil) ck_431
/-- M.bounded -/
def cx_432 : zCtx := (210, ([ui0, ui347, (1, 2), ui52, (0, 5), ui52, ui52], [ur1474], [], [], [uV2, uV62, uV190], [uF1565, uF1566, uF1568, uF1610, uF1602, uF1611], [uG1612]), [([ui0, ui347, (1, 2), ui52, (0, 5), ui52, ui52], [ur1474], [], [], [uV62], [], [])], [], 12, 1, 21)
set_option maxRecDepth 1000000 in
theorem ck_432 : x_ok mLT1 [cx_431] mTS2 mTC2 mRUp cx_432 [(17, [0])] [(15, uN1613), (20, [740])] [] (8, []) 4 11 = true := by decide +kernel
theorem sn_432 {W : Bool} {X : List Int32} : y_Snd (mGw W) mLT1 (J2 W X) X cx_432 := y_ok J2_J mTS2_ok1 mTC2_ok1 mRUp_ok1 (List.forall_mem_cons.mpr ⟨sn_431, fun _ h => absurd h List.not_mem_nil⟩) ck_432
/-- M.is -/
def cx_433 : zCtx := (202, ([ui0, ui347, (0, 2), ui1486], [ur1474, ur1488], [], [], [uV2, uV388], [uF1565, uF1566, uF1492, uF1567], []), [([ui0, ui347, (0, 0), (2, 2)], [ur1474, ur1488], [], [], [uV64], [], []), ([ui0, ui347, (0, 0), (0, 1)], [ur1474, ur1488], [], [], [uV62], [], []), ([ui0, ui347, (0, 0), (3, 41)], [ur1474, ur1488], [], [], [uV62], [], []), ([ui0, ui347, (1, 2), ui1486], [ur1474, ur1488], [], [], [uV62], [], [])], [], 13, 0, 0)
set_option maxRecDepth 1000000 in
theorem ck_433 : x_ok mLT1 [] mTS2 mTC2 mRUp cx_433 [] [] [] (13, []) 0 16 = true := by decide +kernel
theorem sn_433 {W : Bool} {X : List Int32} : y_Snd (mGw W) mLT1 (J2 W X) X cx_433 := y_ok J2_J mTS2_ok1 mTC2_ok1 mRUp_ok1 (fun _ h => absurd h List.not_mem_nil) ck_433
/-- M.wrong -/
def cx_434 : zCtx := (209, ([ui0, ui347, (0, 0), (0, 0), ui52, ui52], [ur1474, ur1489], [], [], [uV2, uV3, uV11], [uF1566, uF1600, uF1601, uF1569, uF1575], []), [([ui0, ui347, (0, 0), (0, 0), ui52, ui52], [ur1474, ur1489], [], [], [], [uF1602, (0, (false, 15, 0, []), 0, 0, 5, [])], [])], [uk1604, uk1605], 18, 0, 0)
set_option maxRecDepth 1000000 in
theorem ck_434 : x_ok mLT1 [] mTS2 mTC2 mRUp cx_434 [] [] [] (18, []) 0 21 = true := by decide +kernel
theorem sn_434 {W : Bool} {X : List Int32} : y_Snd (mGw W) mLT1 (J2 W X) X cx_434 := y_ok J2_J mTS2_ok1 mTC2_ok1 mRUp_ok1 (fun _ h => absurd h List.not_mem_nil) ck_434
/-- M.wrong -/
def cx_435 : zCtx := (209, ([ui0, ui347, (0, 0), (1, 5), ui91, ui52], [ur1474, ur1489], [uL1606], [], [uV2, uV3, uV11], [uF1566, uF1600, uF1601, uF1569, uF1575], []), [([ui0, ui347, (0, 0), (1, 5), ui91, ui93], [ur1474, ur1489], [uL1606], [], [], [], [])], [], 16, 0, 0)
set_option maxRecDepth 1000000 in
theorem ck_435 : x_ok mLT1 [] mTS2 mTC2 mRUp cx_435 [] [] [] (16, []) 0 19 = true := by decide +kernel
theorem sn_435 {W : Bool} {X : List Int32} : y_Snd (mGw W) mLT1 (J2 W X) X cx_435 := y_ok J2_J mTS2_ok1 mTC2_ok1 mRUp_ok1 (fun _ h => absurd h List.not_mem_nil) ck_435
def cx_436pi_0 (t : List (Int × Int)) : List (Int × Int) := ui0 :: ui405 :: (0, 0) :: ui52 :: (0, 5) :: ui52 :: ui52 :: (0, 6) :: t
def cx_436pi_1 (t : List (Int × Int)) : List (Int × Int) := (0, 1) :: ui48 :: ui68 :: t
def cx_436pf_0 (t : List zFa) : List zFa := uF1565 :: uF1566 :: uF1568 :: uF1610 :: uF1602 :: uF1611 :: uF1492 :: uF1493 :: t
def cx_436pf_1 (t : List zFa) : List zFa := uF1494 :: uF447 :: uF1614 :: uF1615 :: uF1616 :: uF1617 :: t
def cx_436p : zS := ((cx_436pi_0 (cx_436pi_1 [])), [ur1474, ur1488, ur1489, ur1490, ur1491, ur1524], [], [], [uV2, uV62, uV190], (cx_436pf_0 (cx_436pf_1 [])), [uG1618, (40, [uL78, uL9, uL114, uL63, uL63, uL79, uL163, uL98, uL104, uL169])])
def cx_436q1i_0 (t : List (Int × Int)) : List (Int × Int) := ui0 :: ui1619 :: (0, 0) :: ui52 :: (0, 5) :: ui52 :: ui52 :: (0, 6) :: t
def cx_436q1i_1 (t : List (Int × Int)) : List (Int × Int) := (0, 1) :: ui48 :: ui68 :: ui194 :: (0, 5) :: ui52 :: t
def cx_436q1 : zS := ((cx_436q1i_0 (cx_436q1i_1 [])), [ur1474, ur1488, ur1489, ur1490, ur1491, ur1524], [uL65, uL63, uL63], [], [uV873], [uF1581, uF1566, uF1568, uF1620, uF1621, uF1617], [uG1622, uG1622, (40, [uL78, uL109, uL209, uL63, uL63, uL79, uL163, uL212, uL205, uL169]), uG1623])
/-- M.bounded -/
def cx_436 : zCtx := (210, cx_436p, [([ui0, ui405, (0, 0), ui52, (0, 5), ui52, ui52, (0, 6), (0, 1), ui48, ui68, ui52], [ur1474, ur1488, ur1489, ur1490, ur1491, ur1524], [uL63], [], [uV62], [uF1624, uF1594, uF1565, uF1610, uF1602, uF1617], [uG1625]), cx_436q1, ([ui0, ui146, (0, 0), ui52, (0, 5), ui52, ui52, (0, 6), (0, 1), ui48, ui68, ui194, ui52, (0, 5), ui52], [ur1474, ur1488, ur1489, ur1490, ur1491, ur1524], [uL63], [], [uV873], [uF1191, uF1572, uF1565, uF1626, uF1627, uF1617], [uG1628])], [uk1583, uk1573, uk1574, uk1604, uk1605], 53, 2, 41)
set_option maxRecDepth 1000000 in
theorem ck_436 : x_ok mLT1 [cx_433, cx_426, cx_434, cx_435, cx_423] mTS2 mTC2 mRUp cx_436 [(9, [0]), (17, [1]), (48, [2, 3]), (52, [4])] [(8, uN1629), (12, [740]), (15, uN1613), (20, [740]), (31, uN1630), (42, uN1631), (51, [740]), (55, [740, 1000260, 1000261, 1000262, 1000263, 1000264, 1000265, 1000266, 1000267, 1000268, 1000269, 1000270, 1000271, 1000272, 1000273, 1000274, 1000275, 1000276, 1000277, 1000278, 1000279, 1000280, 1000281, 1000282, 1000283, 1000284, 1000285, 1000286, 1000287, 1000288])] [] (28, []) 25 31 = true := by decide +kernel
theorem sn_436 {W : Bool} {X : List Int32} : y_Snd (mGw W) mLT1 (J2 W X) X cx_436 := y_ok J2_J mTS2_ok1 mTC2_ok1 mRUp_ok1 (List.forall_mem_cons.mpr ⟨sn_433, List.forall_mem_cons.mpr ⟨sn_426, List.forall_mem_cons.mpr ⟨sn_434, List.forall_mem_cons.mpr ⟨sn_435, List.forall_mem_cons.mpr ⟨sn_423, fun _ h => absurd h List.not_mem_nil⟩⟩⟩⟩⟩) ck_436
/-- M.bounded -/
def cx_437 : zCtx := (210, ([ui0, ui347, (1, 2), ui52, (0, 5), ui52, ui52], [ur1474], [], [], [uV2, uV64, uV223], [uF1565, uF1566, uF1568, uF1610, uF1602, uF1611], [uG1612]), [([ui0, ui347, (1, 2), ui52, (0, 5), ui52, ui52], [ur1474], [], [], [uV64], [], [])], [], 12, 1, 21)
set_option maxRecDepth 1000000 in
theorem ck_437 : x_ok mLT1 [cx_431] mTS2 mTC2 mRUp cx_437 [(17, [0])] [(15, uN1613), (20, [740])] [] (8, []) 4 11 = true := by decide +kernel
theorem sn_437 {W : Bool} {X : List Int32} : y_Snd (mGw W) mLT1 (J2 W X) X cx_437 := y_ok J2_J mTS2_ok1 mTC2_ok1 mRUp_ok1 (List.forall_mem_cons.mpr ⟨sn_431, fun _ h => absurd h List.not_mem_nil⟩) ck_437
def cx_438pi_0 (t : List (Int × Int)) : List (Int × Int) := ui0 :: ui1632 :: (0, 0) :: ui52 :: (0, 5) :: ui52 :: ui52 :: (0, 6) :: t
def cx_438pi_1 (t : List (Int × Int)) : List (Int × Int) := (0, 1) :: ui48 :: ui68 :: t
def cx_438p : zS := ((cx_438pi_0 (cx_438pi_1 [])), [ur1474, ur1488, ur1489, ur1490, ur1491, ur1524], [], [], [uV2, uV64, uV223], (cx_436pf_0 (cx_436pf_1 [])), [uG1618, (40, [uL78, uL9, uL209, uL63, uL63, uL79, uL163, uL98, uL104, uL169])])
def cx_438q1i_0 (t : List (Int × Int)) : List (Int × Int) := ui0 :: (3, 399) :: (0, 0) :: ui52 :: (0, 5) :: ui52 :: ui52 :: (0, 6) :: t
def cx_438q1i_1 (t : List (Int × Int)) : List (Int × Int) := (0, 1) :: ui48 :: ui68 :: ui194 :: (0, 5) :: ui52 :: t
def cx_438q1 : zS := ((cx_438q1i_0 (cx_438q1i_1 [])), [ur1474, ur1488, ur1489, ur1490, ur1491, ur1524], [uL65, uL63, uL63], [], [uV873], [uF1581, uF1566, uF1568, uF1620, uF1621, uF1617], [uG1622, uG1622, (40, [uL78, uL109, uL36, uL63, uL63, uL79, uL163, uL212, uL205, uL169]), uG1623])
/-- M.bounded -/
def cx_438 : zCtx := (210, cx_438p, [([ui0, ui1632, (0, 0), ui52, (0, 5), ui52, ui52, (0, 6), (0, 1), ui48, ui68, ui52], [ur1474, ur1488, ur1489, ur1490, ur1491, ur1524], [uL63], [], [uV64], [uF1624, uF1594, uF1565, uF1610, uF1602, uF1617], [uG1625]), cx_438q1, ([ui0, ui146, (0, 0), ui52, (0, 5), ui52, ui52, (0, 6), (0, 1), ui48, ui68, ui194, ui52, (0, 5), ui52], [ur1474, ur1488, ur1489, ur1490, ur1491, ur1524], [uL63], [], [uV873], [uF1191, uF1572, uF1565, uF1626, uF1627, uF1617], [uG1628])], [uk1583, uk1573, uk1574, uk1604, uk1605], 53, 2, 41)
set_option maxRecDepth 1000000 in
theorem ck_438 : x_ok mLT1 [cx_433, cx_426, cx_434, cx_435, cx_423] mTS2 mTC2 mRUp cx_438 [(9, [0]), (17, [1]), (48, [2, 3]), (52, [4])] [(8, uN1629), (12, [740]), (15, uN1613), (20, [740]), (31, uN1630), (42, uN1631), (51, [740]), (55, [740, 1000260, 1000261, 1000262, 1000263, 1000264, 1000265, 1000266, 1000267, 1000268, 1000269, 1000270, 1000271, 1000272, 1000273, 1000274, 1000275, 1000276, 1000277, 1000278, 1000279, 1000280, 1000281, 1000282, 1000283, 1000284, 1000285, 1000286, 1000287, 1000288])] [] (28, []) 25 31 = true := by decide +kernel
theorem sn_438 {W : Bool} {X : List Int32} : y_Snd (mGw W) mLT1 (J2 W X) X cx_438 := y_ok J2_J mTS2_ok1 mTC2_ok1 mRUp_ok1 (List.forall_mem_cons.mpr ⟨sn_433, List.forall_mem_cons.mpr ⟨sn_426, List.forall_mem_cons.mpr ⟨sn_434, List.forall_mem_cons.mpr ⟨sn_435, List.forall_mem_cons.mpr ⟨sn_423, fun _ h => absurd h List.not_mem_nil⟩⟩⟩⟩⟩) ck_438
/-- M.is -/
def cx_439 : zCtx := (202, ([ui0, ui347, (0, 2), ui1486], [ur1474, ur1488], [], [], [uV2, uV380], [uF1565, uF1566, uF1492, uF1567], []), [([ui0, ui347, (0, 0), (4, 4)], [ur1474, ur1488], [], [], [uV64], [], []), ([ui0, ui347, (0, 0), (0, 3)], [ur1474, ur1488], [], [], [uV62], [], []), ([ui0, ui347, (0, 0), (5, 41)], [ur1474, ur1488], [], [], [uV62], [], []), ([ui0, ui347, (1, 2), ui1486], [ur1474, ur1488], [], [], [uV62], [], [])], [], 13, 0, 0)
set_option maxRecDepth 1000000 in
theorem ck_439 : x_ok mLT1 [] mTS2 mTC2 mRUp cx_439 [] [] [] (13, []) 0 16 = true := by decide +kernel
theorem sn_439 {W : Bool} {X : List Int32} : y_Snd (mGw W) mLT1 (J2 W X) X cx_439 := y_ok J2_J mTS2_ok1 mTC2_ok1 mRUp_ok1 (fun _ h => absurd h List.not_mem_nil) ck_439
/-- M.must -/
def cx_440 : zCtx := (208, ([ui0, ui347, (1, 2), ui52, ui52], [ur1474], [], [], [uV2, uV380], [uF1565, uF1566, uF1568, uF176], [uG1633]), [([ui0, ui347, (1, 2), ui52, ui52], [ur1474], [], [], [], [], [])], [], 21, 1, 21)
set_option maxRecDepth 1000000 in
theorem ck_440 : x_ok mLT1 [cx_439, cx_431] mTS2 mTC2 mRUp cx_440 [(2, [0]), (17, [1])] [(15, uN1599)] [] (8, []) 13 11 = true := by decide +kernel
theorem sn_440 {W : Bool} {X : List Int32} : y_Snd (mGw W) mLT1 (J2 W X) X cx_440 := y_ok J2_J mTS2_ok1 mTC2_ok1 mRUp_ok1 (List.forall_mem_cons.mpr ⟨sn_439, List.forall_mem_cons.mpr ⟨sn_431, fun _ h => absurd h List.not_mem_nil⟩⟩) ck_440
def cx_441p : zS := ([ui0, ui405, (0, 0), ui52, ui52, ui1486, ui52], [ur1474, ur1488, ur1489, ur1490, ur1491], [uL209], [], [uV2, uV380], (cx_423pf_0 (cx_423pf_1 [])), [uG1577, uG1578, (62, [uL98, uL9, uL36, uL104, uL78])])
/-- M.must -/
def cx_441 : zCtx := (208, cx_441p, [([ui0, ui405, (0, 0), ui52, ui52, ui1486, ui52, (1, 2)], [ur1474, ur1488, ur1489, ur1490, ur1491], [uL63], [], [], [uF1219, uF1595, uF1565], [uG1596]), ([ui0, ui1619, (0, 0), ui52, ui52, (4, 4), ui52], [ur1474, ur1488, ur1489, ur1490, ur1491], [uL65, ((-4), [(5, 1)]), (4, [(5, (-1))]), uL63, uL63], [], [], [uF1581, uF1566, uF1568], [uG1582, uG1579, uG1582])], [uk1583, uk1573, uk1574], 33, 2, 41)
set_option maxRecDepth 1000000 in
theorem ck_441 : x_ok mLT1 [cx_439, cx_423, cx_426] mTS2 mTC2 mRUp cx_441 [(2, [0]), (9, [1]), (17, [2])] [(9, [1000243]), (15, uN1599)] [] (8, []) 25 11 = true := by decide +kernel
theorem sn_441 {W : Bool} {X : List Int32} : y_Snd (mGw W) mLT1 (J2 W X) X cx_441 := y_ok J2_J mTS2_ok1 mTC2_ok1 mRUp_ok1 (List.forall_mem_cons.mpr ⟨sn_439, List.forall_mem_cons.mpr ⟨sn_423, List.forall_mem_cons.mpr ⟨sn_426, fun _ h => absurd h List.not_mem_nil⟩⟩⟩) ck_441
def cx_442pi_0 (t : List (Int × Int)) : List (Int × Int) := ui0 :: ui347 :: (0, 0) :: ui52 :: (0, 5) :: ui52 :: (0, 1) :: (0, 5) :: t
def cx_442pi_1 (t : List (Int × Int)) : List (Int × Int) := ui52 :: ui48 :: ui68 :: ui52 :: ui1486 :: (0, 6) :: (0, 1) :: (0, 6) :: t
def cx_442pr_0 (t : List (Nat × Bool)) : List (Nat × Bool) := ur1474 :: ur1523 :: ur1488 :: ur1489 :: ur1490 :: ur1491 :: ur1524 :: ur1634 :: t
def cx_442pr_1 (t : List (Nat × Bool)) : List (Nat × Bool) := ur1635 :: ur1636 :: t
def cx_442pf_0 (t : List zFa) : List zFa := uF1565 :: uF1566 :: uF1568 :: uF1610 :: uF1602 :: uF1637 :: uF1614 :: uF1638 :: t
def cx_442pf_1 (t : List zFa) : List zFa := uF1639 :: uF289 :: uF1159 :: uF1160 :: uF1505 :: uF1506 :: uF1640 :: uF1641 :: t
def cx_442pf_2 (t : List zFa) : List zFa := uF1642 :: uF1643 :: uF1644 :: uF1645 :: uF1646 :: t
def cx_442pg_0 (t : List zTg) : List zTg := uG1647 :: uG1648 :: uG1649 :: uG1651 :: uG1652 :: uG1653 :: t
def cx_442p : zS := ((cx_442pi_0 (cx_442pi_1 [])), (cx_442pr_0 (cx_442pr_1 [])), [], [], [uV2], (cx_442pf_0 (cx_442pf_1 (cx_442pf_2 []))), (cx_442pg_0 []))
def cx_442q0i_0 (t : List (Int × Int)) : List (Int × Int) := ui0 :: ui347 :: (0, 0) :: ui52 :: (0, 5) :: ui52 :: (0, 1) :: (0, 5) :: t
def cx_442q0i_1 (t : List (Int × Int)) : List (Int × Int) := ui52 :: ui48 :: ui68 :: ui52 :: ui1486 :: (0, 6) :: (0, 1) :: (0, 6) :: t
def cx_442q0i_2 (t : List (Int × Int)) : List (Int × Int) := ui52 :: (1, 2) :: ui347 :: (0, 5) :: ui52 :: ui52 :: t
def cx_442q0f_0 (t : List zFa) : List zFa := (0, (false, 14, 0, []), 0, 0, 0, [(16, 1)]) :: (0, (false, 13, 0, []), 0, 0, 0, [(17, 1)]) :: uF1210 :: (0, (false, 15, 0, []), 0, 0, 0, [(19, 1)]) :: (0, (false, 16, 0, []), 0, 0, 0, [(20, 1)]) :: uF1641 :: uF1614 :: uF1641 :: t
def cx_442q0f_1 (t : List zFa) : List zFa := uF1643 :: (3, (true, 0, 0, [(18, 1)]), 0, 0, 0, [(21, 1)]) :: uF1639 :: t
def cx_442q0 : zS := ((cx_442q0i_0 (cx_442q0i_1 (cx_442q0i_2 []))), (cx_442pr_0 (cx_442pr_1 [])), [(0, [(1, (-1)), (18, 1)])], [], [], (cx_442q0f_0 (cx_442q0f_1 [])), [uG1651, uG1652, (41, [uL131, uL211, uL210]), uG1651, uG1652])
def cx_442q1i_0 (t : List (Int × Int)) : List (Int × Int) := ui0 :: ui1654 :: (0, 0) :: ui52 :: (0, 5) :: ui52 :: (0, 1) :: (0, 5) :: t
def cx_442q1i_1 (t : List (Int × Int)) : List (Int × Int) := ui52 :: ui48 :: ui68 :: ui52 :: (1, 1) :: (0, 6) :: (0, 1) :: (0, 6) :: t
def cx_442q1i_2 (t : List (Int × Int)) : List (Int × Int) := ui52 :: (0, 5) :: ui52 :: t
def cx_442q1f_0 (t : List zFa) : List zFa := (0, (false, 20, 0, []), 0, 0, 1, [(7, 1)]) :: uF1655 :: uF1566 :: uF1568 :: (3, (true, 0, 3, [(1, 1)]), 0, 0, 0, [(16, 1)]) :: uF1656 :: uF1657 :: uF1641 :: t
def cx_442q1f_1 (t : List zFa) : List zFa := uF1641 :: uF1641 :: uF1643 :: (1, (true, 0, 0, [(6, 1)]), 0, 0, 1, [(7, 1)]) :: t
def cx_442q1g_0 (t : List zTg) : List zTg := uG1659 :: uG1660 :: uG1661 :: (58, [uL131, uL1662]) :: (58, [uL131, uL1663]) :: uG1649 :: uG1651 :: uG1652 :: t
def cx_442q1g_1 (t : List zTg) : List zTg := uG1653 :: uG1664 :: uG1665 :: uG1661 :: (40, [uL131, uL1658, uL63, uL63, uL63, uL1089, uL163, uL211, uL275, uL263]) :: uG1660 :: uG1651 :: uG1652 :: t
def cx_442q1g_2 (t : List zTg) : List zTg := uG1659 :: t
def cx_442q1 : zS := ((cx_442q1i_0 (cx_442q1i_1 (cx_442q1i_2 []))), (cx_442pr_0 (cx_442pr_1 [])), [uL36, uL209], [], [], (cx_442q1f_0 (cx_442q1f_1 [])), (cx_442q1g_0 (cx_442q1g_1 (cx_442q1g_2 []))))
/-- M.tellHouse -/
def cx_442 : zCtx := (207, cx_442p, [cx_442q0, cx_442q1], kc_74, 244, 3, 64)
def cq_442 : List zCtx := [cx_427, cx_428, cx_429, cx_430, cx_432, cx_436, cx_437, cx_438, cx_440, cx_441]
def cs_442 : List (Nat × List Nat) := [(25, [0]), (64, [1, 2, 3]), (82, [4, 5]), (95, [6, 7]), (101, [8, 9])]
def hs_442 : List (Nat × List Nat) := [(19, [1000246, 1000303]), (28, [740, 1000291]), (57, [1000304]), (61, [1000305, 1000258, 1000306]), (67, [740, 1000307, 1000308]), (73, [1000309, 1000298, 1000310, 1000311, 1000312]), (85, [740]), (98, [740]), (99, [1000246, 1000313]), (104, [740, 1000314, 1000315]), (126, [1000304]), (150, [1000316, 1000519])]
def nd_442_0pi_0 (t : List (Int × Int)) : List (Int × Int) := ui0 :: ui1597 :: (0, 0) :: ui52 :: (0, 5) :: ui52 :: (0, 1) :: (0, 5) :: t
def nd_442_0pi_1 (t : List (Int × Int)) : List (Int × Int) := ui52 :: ui48 :: ui68 :: ui52 :: (1, 1) :: (0, 6) :: (0, 1) :: (0, 6) :: t
def nd_442_0pi_2 (t : List (Int × Int)) : List (Int × Int) := (0, 5) :: t
def nd_442_0pf_0 (t : List zFa) : List zFa := uF1581 :: uF1566 :: uF1568 :: uF1610 :: uF1602 :: uF1637 :: uF1614 :: uF1638 :: t
def nd_442_0pf_1 (t : List zFa) : List zFa := uF1639 :: uF289 :: uF1159 :: uF1160 :: uF1505 :: uF1506 :: uF1640 :: uF1641 :: t
def nd_442_0pf_2 (t : List zFa) : List zFa := uF1642 :: uF1643 :: uF1645 :: uF1646 :: t
def nd_442_0pg_0 (t : List zTg) : List zTg := uG1647 :: uG1648 :: uG1649 :: uG1651 :: uG1652 :: uG1653 :: uG1664 :: uG1665 :: t
def nd_442_0pg_1 (t : List zTg) : List zTg := (66, [uL131, uL9, uL210]) :: t
def nd_442_0p : zS := ((nd_442_0pi_0 (nd_442_0pi_1 (nd_442_0pi_2 []))), (cx_442pr_0 (cx_442pr_1 [])), [uL65, uL1666], [uV2, uV1667, uV11, uV1668], [], (nd_442_0pf_0 (nd_442_0pf_1 (nd_442_0pf_2 []))), (nd_442_0pg_0 (nd_442_0pg_1 [])))
def nd_442_0 : zN := (30, nd_442_0p, ((-99999999829), [(2, (-100000000000)), (12, 100000000000), (16, (-20))]))
def nd_442_1pi_0 (t : List (Int × Int)) : List (Int × Int) := ui0 :: ui347 :: (0, 0) :: ui52 :: (0, 5) :: ui52 :: (0, 1) :: (0, 5) :: t
def nd_442_1pi_1 (t : List (Int × Int)) : List (Int × Int) := ui52 :: ui48 :: ui68 :: ui52 :: ui1486 :: (0, 6) :: (0, 1) :: (0, 6) :: t
def nd_442_1pi_2 (t : List (Int × Int)) : List (Int × Int) := (1, 2) :: t
def nd_442_1pf_0 (t : List zFa) : List zFa := uF1624 :: (0, (false, 13, 0, []), 0, 0, 0, [(16, 1)]) :: uF1565 :: uF1610 :: uF1602 :: uF1637 :: uF1614 :: uF1638 :: t
def nd_442_1pf_1 (t : List zFa) : List zFa := uF1639 :: uF289 :: uF1159 :: uF1160 :: uF1505 :: uF1506 :: uF1640 :: uF1641 :: t
def nd_442_1pf_2 (t : List zFa) : List zFa := uF1642 :: uF1643 :: uF1645 :: uF1646 :: t
def nd_442_1p : zS := ((nd_442_1pi_0 (nd_442_1pi_1 (nd_442_1pi_2 []))), (cx_442pr_0 (cx_442pr_1 [])), [uL63], [uV2, uV1667, uV11, uV62], [], (nd_442_1pf_0 (nd_442_1pf_1 (nd_442_1pf_2 []))), [(41, [uL131, uL210, uL193]), uG1651, uG1652])
def nd_442_1 : zN := (30, nd_442_1p, ((-111), [(2, (-100000000000)), (16, 141)]))
def nd_442_2pi_0 (t : List (Int × Int)) : List (Int × Int) := ui0 :: ui1597 :: (0, 0) :: ui52 :: (1, 5) :: ui91 :: (0, 1) :: (1, 5) :: t
def nd_442_2pi_1 (t : List (Int × Int)) : List (Int × Int) := ui52 :: ui48 :: ui68 :: ui93 :: (1, 1) :: (0, 6) :: (0, 1) :: (0, 6) :: t
def nd_442_2pi_2 (t : List (Int × Int)) : List (Int × Int) := (1, 5) :: t
def nd_442_2pg_0 (t : List zTg) : List zTg := uG1647 :: uG1648 :: uG1649 :: uG1651 :: uG1652 :: uG1653 :: uG1664 :: uG1665 :: t
def nd_442_2pg_1 (t : List zTg) : List zTg := (67, [uL131, uL9]) :: t
def nd_442_2p : zS := ((nd_442_2pi_0 (nd_442_2pi_1 (nd_442_2pi_2 []))), (cx_442pr_0 (cx_442pr_1 [])), [uL65, uL1666], [uV2, uV1667, uV11, uV1668], [], (nd_442_0pf_0 (nd_442_0pf_1 (nd_442_0pf_2 []))), (nd_442_2pg_0 (nd_442_2pg_1 [])))
def nd_442_2 : zN := (30, nd_442_2p, ((-99999999829), [(2, (-100000000000)), (12, 100000000000), (16, (-24))]))
def nd_442_3pi_0 (t : List (Int × Int)) : List (Int × Int) := ui0 :: ui1597 :: (0, 0) :: ui52 :: (0, 0) :: ui52 :: (0, 1) :: (1, 5) :: t
def nd_442_3pi_1 (t : List (Int × Int)) : List (Int × Int) := ui52 :: ui48 :: ui68 :: ui52 :: (1, 1) :: (0, 6) :: (0, 1) :: (0, 6) :: t
def nd_442_3pi_2 (t : List (Int × Int)) : List (Int × Int) := (1, 5) :: t
def nd_442_3pf_0 (t : List zFa) : List zFa := uF1669 :: uF1603 :: uF1581 :: uF1566 :: uF1568 :: uF1637 :: uF1614 :: uF1638 :: t
def nd_442_3pf_1 (t : List zFa) : List zFa := uF1639 :: uF289 :: uF1159 :: uF1160 :: uF1505 :: uF1506 :: uF1640 :: uF1641 :: t
def nd_442_3pf_2 (t : List zFa) : List zFa := uF1642 :: uF1643 :: uF1645 :: uF1646 :: t
def nd_442_3p : zS := ((nd_442_3pi_0 (nd_442_3pi_1 (nd_442_3pi_2 []))), (cx_442pr_0 (cx_442pr_1 [])), [uL65, uL1666], [uV2, uV1667, uV11, uV1668], [], (nd_442_3pf_0 (nd_442_3pf_1 (nd_442_3pf_2 []))), (nd_442_2pg_0 (nd_442_2pg_1 [])))
def nd_442_3 : zN := (30, nd_442_3p, ((-99999999829), [(2, (-100000000000)), (4, (-100000000000)), (12, 100000000000), (16, (-24))]))
def ns_442 : List zN := [nd_442_0, nd_442_1, nd_442_2, nd_442_3]
set_option maxRecDepth 1000000 in
theorem ca_442 : x_okA mLT1 cq_442 mTS2 mTC2 mRUp cx_442 cs_442 hs_442 ns_442 (191, []) 53 54 = true := by decide +kernel
set_option maxRecDepth 1000000 in
theorem cb_442_0 : x_okB mLT1 cq_442 mTS2 mTC2 mRUp cx_442 cs_442 hs_442 ns_442 (191, []) 53 54 nd_442_0 = true := by decide +kernel
set_option maxRecDepth 1000000 in
theorem cb_442_1 : x_okB mLT1 cq_442 mTS2 mTC2 mRUp cx_442 cs_442 hs_442 ns_442 (191, []) 53 54 nd_442_1 = true := by decide +kernel
set_option maxRecDepth 1000000 in
theorem cb_442_2 : x_okB mLT1 cq_442 mTS2 mTC2 mRUp cx_442 cs_442 hs_442 ns_442 (191, []) 53 54 nd_442_2 = true := by decide +kernel
set_option maxRecDepth 1000000 in
theorem cb_442_3 : x_okB mLT1 cq_442 mTS2 mTC2 mRUp cx_442 cs_442 hs_442 ns_442 (191, []) 53 54 nd_442_3 = true := by decide +kernel
set_option maxRecDepth 1000000 in
theorem cc_442 : x_okC mLT1 cq_442 mTS2 mTC2 mRUp cx_442 cs_442 hs_442 ns_442 (191, []) 53 54 = true := by decide +kernel
theorem ck_442 : x_ok mLT1 cq_442 mTS2 mTC2 mRUp cx_442 cs_442 hs_442 ns_442 (191, []) 53 54 = true := x_ok_of ca_442 (List.forall_mem_cons.mpr ⟨cb_442_0, List.forall_mem_cons.mpr ⟨cb_442_1, List.forall_mem_cons.mpr ⟨cb_442_2, List.forall_mem_cons.mpr ⟨cb_442_3, fun _ h => absurd h List.not_mem_nil⟩⟩⟩⟩) cc_442
theorem sn_442 {W : Bool} {X : List Int32} : y_Snd (mGw W) mLT1 (J2 W X) X cx_442 := y_ok J2_J mTS2_ok1 mTC2_ok1 mRUp_ok1 (List.forall_mem_cons.mpr ⟨sn_427, List.forall_mem_cons.mpr ⟨sn_428, List.forall_mem_cons.mpr ⟨sn_429, List.forall_mem_cons.mpr ⟨sn_430, List.forall_mem_cons.mpr ⟨sn_432, List.forall_mem_cons.mpr ⟨sn_436, List.forall_mem_cons.mpr ⟨sn_437, List.forall_mem_cons.mpr ⟨sn_438, List.forall_mem_cons.mpr ⟨sn_440, List.forall_mem_cons.mpr ⟨sn_441, fun _ h => absurd h List.not_mem_nil⟩⟩⟩⟩⟩⟩⟩⟩⟩⟩) ck_442
end
