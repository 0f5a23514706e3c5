noncomputable section
/-! ===== readings, by program, checked by the kernel ===== -/
/-- M.isDigit -/
def cx_407 : zCtx := (200, ([ui0, ui56], [], [], [], [uV11], [], []), [([ui0, ui56], [], [], [], [uV64], [], [uG115]), ([ui0, ui56], [], [], [], [uV62], [], [uG116])], [], 9, 0, 0)
set_option maxRecDepth 1000000 in
theorem ck_407 : x_ok mLT1 [] mTS2 mTC2 mRUp cx_407 [] [(17, [1000002])] [] (9, []) 0 12 = true := by decide +kernel
theorem sn_407 {W : Bool} {X : List Int32} : y_Snd (mGw W) mLT1 (J2 W X) X cx_407 := y_ok J2_J mTS2_ok1 mTC2_ok1 mRUp_ok1 (fun _ h => absurd h List.not_mem_nil) ck_407
def cx_408p : zS := ([ui0, ui91, ui56, ui56, ui68, ui52], [ur1331, ur1345, ur1346, ur1347, ur1348], [uL577], [], [uV2, uV11, uV12, uV58], [uF1217, uF1360, uF1349, uF1350, uF1351, uF448], [(56, [uL104, uL98, uL9]), (20, [uL9, uL67]), (21, [uL63, uL67, uL63]), (21, [uL65, uL67, uL63]), (21, [uL114, uL67, uL63])])
/-- M.sign -/
def cx_408 : zCtx := (201, cx_408p, [([ui0, ui91, ui56, ui56, ui68, ui52], [ur1331, ur1345, ur1346, ur1347, ur1348], [], [], [uV64], [(0, (false, 10, 0, []), 0, 0, 1, [(4, 1)])], [(56, [uL104, uL169, uL109])])], [uk1353, uk1354, uk1355, uk1356, uk1357], 70, 1, 25)
set_option maxRecDepth 1000000 in
theorem ck_408 : x_ok mLT1 [cx_404] mTS2 mTC2 mRUp cx_408 [(101, [0])] [(104, [1000205, 1000206, 1000207])] [] (39, []) 31 42 = true := by decide +kernel
theorem sn_408 {W : Bool} {X : List Int32} : y_Snd (mGw W) mLT1 (J2 W X) X cx_408 := y_ok J2_J mTS2_ok1 mTC2_ok1 mRUp_ok1 (List.forall_mem_cons.mpr ⟨sn_404, fun _ h => absurd h List.not_mem_nil⟩) ck_408
/-- M.cut -/
def cx_409 : zCtx := (196, ([ui0, ui52, ui141], [ur1331, ur1342, ur1345, ur1346, ur1347, ur1348, ur1361], [], [], [uV2], [uF32, uF1094, uF596, uF1109, uF1110, uF1362, uF1363, uF1112], [uG1364, uG1365]), [([ui0, ui52, ui141], [ur1331, ur1342, ur1345, ur1346, ur1347, ur1348, ur1361], [], [], [], [], [uG1366])], [uk1353, uk1354, uk1355, uk1356, uk1357], 67778300, 2, 49)
def cq_409 : List zCtx := [cx_403, cx_404, cx_405, cx_406, cx_407, cx_408]
def cs_409 : List (Nat × List Nat) := [(19, [0]), (39, [1]), (74, [2]), (89, [0]), (92, [2]), (110, [0]), (113, [3]), (186, [1]), (197, [4]), (212, [0]), (215, [4]), (235, [0]), (265, [1]), (283, [0]), (286, [5])]
def hs_409 : List (Nat × List Nat) := [(6, [1000208]), (42, [1000209]), (67, [1000210, 1000211]), (73, [1000210]), (83, [1000212, 1000213]), (98, [1000238, 1000214, 1000215, 1000216]), (113, [1000204]), (118, [1000217, 1000218]), (124, [1000201, 1000219, 1000220]), (144, [1000221]), (173, [1000222, 1000223, 1000224]), (189, [1000225, 1000226]), (206, [1000227, 1000228]), (221, [1000239, 1000229, 1000230, 1000231]), (238, [1000203]), (244, [1000232, 1000233]), (250, [1000202, 1000234, 1000235]), (268, [1000236, 1000237]), (294, [1000240])]
def nd_409_0p : zS := ([ui0, ui52, ui141, ui52, ui141], [ur1331, ur1342, ur1345, ur1346, ur1347, ur1348, ur1361], [uL571], [uV2, uV58, uV113, uV113, uV113, uV113, uV113, uV113], [], [uF1217, uF32, uF596, uF1109, uF1110, uF1362, uF1363, uF1112], [uG1364, uG1365, (56, [uL9, uL98, uL23])])
def nd_409_0 : zN := (7, nd_409_0p, (67776820, [(3, (-6580)), (4, (-103400))]))
def nd_409_1p : zS := ([ui0, ui93, ui141, ui91, ui56, ui52, ui1344, ui68], [ur1331, ur1342, ur1345, ur1346, ur1347, ur1348, ur1361], [uL1367, uL571, uL1367, uL1368], [uV2, uV58, uV97, uV75, uV1369, uV113, uV113, uV113], [], [uF1370, uF32, uF596, uF1109, uF1110, uF1362, uF1363, uF1112], [uG1364, uG1365, uG1371, uG1372, uG1373, uG1374, (22, [uL65, uL9, uL23, uL1375]), uG1376])
def nd_409_1 : zN := (85, nd_409_1p, (67769300, [(3, (-6580)), (5, (-4935)), (7, (-103400))]))
def nd_409_2pi_0 (t : List (Int × Int)) : List (Int × Int) := ui0 :: ui93 :: ui141 :: ui91 :: ui56 :: (0, 8) :: ui1344 :: ui1377 :: t
def nd_409_2pi_1 (t : List (Int × Int)) : List (Int × Int) := ui425 :: ui68 :: t
def nd_409_2pg_0 (t : List zTg) : List zTg := uG1364 :: uG1365 :: (56, [uL9, uL164, uL23]) :: uG1372 :: uG1373 :: uG1374 :: (23, [uL65, uL9, uL23, uL1375]) :: uG1376 :: t
def nd_409_2pg_1 (t : List zTg) : List zTg := (60, [uL78, uL131, uL79]) :: t
def nd_409_2p : zS := ((nd_409_2pi_0 (nd_409_2pi_1 [])), [ur1331, ur1342, ur1345, ur1346, ur1347, ur1348, ur1361], [uL1367, uL571, uL1368, uL1367, uL1368], [uV2, uV58, uV97, uV75, uV1369, uV113, uV142, uV144], [], [(0, (false, 10, 0, []), 0, 0, 0, [(9, 1)]), uF32, uF596, uF1109, uF1110, uF1362, uF1363, uF1112], (nd_409_2pg_0 (nd_409_2pg_1 [])))
def nd_409_2 : zN := (146, nd_409_2p, (67765070, [(3, (-6580)), (5, (-6580)), (8, (-3995)), (9, (-103400))]))
def nd_409_3pg_0 (t : List zTg) : List zTg := uG1364 :: uG1365 :: uG1371 :: uG1372 :: uG1373 :: (21, [uL65, uL98, uL63]) :: (21, [uL114, uL98, uL65]) :: (22, [uL114, uL9, uL23, uL1375]) :: t
def nd_409_3pg_1 (t : List zTg) : List zTg := (24, [uL23, uL1375, uL78]) :: t
def nd_409_3p : zS := ([ui0, ui93, ui141, ui91, ui56, ui52, ui196, ui68], [ur1331, ur1342, ur1345, ur1346, ur1347, ur1348, ur1361], [uL1367, uL571, uL1367, uL1368], [uV2, uV58, uV97, uV75, uV108, uV113, uV113, uV113], [], [uF1370, uF32, uF596, uF1109, uF1110, uF1362, uF1363, uF1112], (nd_409_3pg_0 (nd_409_3pg_1 [])))
def nd_409_3 : zN := (208, nd_409_3p, (67678780, [(1, 45), (3, (-6580)), (5, (-6533)), (7, (-103400))]))
def ns_409 : List zN := [nd_409_0, nd_409_1, nd_409_2, nd_409_3]
set_option maxRecDepth 1000000 in
theorem ca_409 : x_okA mLT1 cq_409 mTS2 mTC2 mRUp cx_409 cs_409 hs_409 ns_409 (67778230, []) 70 46 = true := by decide +kernel
set_option maxRecDepth 1000000 in
theorem cb_409_0 : x_okB mLT1 cq_409 mTS2 mTC2 mRUp cx_409 cs_409 hs_409 ns_409 (67778230, []) 70 46 nd_409_0 = true := by decide +kernel
set_option maxRecDepth 1000000 in
theorem cb_409_1 : x_okB mLT1 cq_409 mTS2 mTC2 mRUp cx_409 cs_409 hs_409 ns_409 (67778230, []) 70 46 nd_409_1 = true := by decide +kernel
set_option maxRecDepth 1000000 in
theorem cb_409_2 : x_okB mLT1 cq_409 mTS2 mTC2 mRUp cx_409 cs_409 hs_409 ns_409 (67778230, []) 70 46 nd_409_2 = true := by decide +kernel
set_option maxRecDepth 1000000 in
theorem cb_409_3 : x_okB mLT1 cq_409 mTS2 mTC2 mRUp cx_409 cs_409 hs_409 ns_409 (67778230, []) 70 46 nd_409_3 = true := by decide +kernel
set_option maxRecDepth 1000000 in
theorem cc_409 : x_okC mLT1 cq_409 mTS2 mTC2 mRUp cx_409 cs_409 hs_409 ns_409 (67778230, []) 70 46 = true := by decide +kernel
theorem ck_409 : x_ok mLT1 cq_409 mTS2 mTC2 mRUp cx_409 cs_409 hs_409 ns_409 (67778230, []) 70 46 = true := x_ok_of ca_409 (List.forall_mem_cons.mpr ⟨cb_409_0, List.forall_mem_cons.mpr ⟨cb_409_1, List.forall_mem_cons.mpr ⟨cb_409_2, List.forall_mem_cons.mpr ⟨cb_409_3, fun _ h => absurd h List.not_mem_nil⟩⟩⟩⟩) cc_409
theorem sn_409 {W : Bool} {X : List Int32} : y_Snd (mGw W) mLT1 (J2 W X) X cx_409 := y_ok J2_J mTS2_ok1 mTC2_ok1 mRUp_ok1 (List.forall_mem_cons.mpr ⟨sn_403, List.forall_mem_cons.mpr ⟨sn_404, List.forall_mem_cons.mpr ⟨sn_405, List.forall_mem_cons.mpr ⟨sn_406, List.forall_mem_cons.mpr ⟨sn_407, List.forall_mem_cons.mpr ⟨sn_408, fun _ h => absurd h List.not_mem_nil⟩⟩⟩⟩⟩⟩) ck_409
def cx_410pi_0 (t : List (Int × Int)) : List (Int × Int) := ui0 :: (0, 1) :: (0, 1) :: (0, 6) :: ui196 :: ui196 :: ui196 :: ui196 :: t
def cx_410pi_1 (t : List (Int × Int)) : List (Int × Int) := (0, 1) :: ui31 :: t
def cx_410pr_0 (t : List (Nat × Bool)) : List (Nat × Bool) := ur1331 :: ur1378 :: ur1379 :: ur1380 :: ur1381 :: ur1382 :: ur1383 :: ur1384 :: t
def cx_410pr_1 (t : List (Nat × Bool)) : List (Nat × Bool) := ur1385 :: ur1386 :: ur1387 :: ur1388 :: ur1389 :: ur1390 :: ur1391 :: ur1392 :: t
def cx_410pr_2 (t : List (Nat × Bool)) : List (Nat × Bool) := ur1393 :: t
def cx_410pf_0 (t : List zFa) : List zFa := uF1394 :: uF1395 :: uF1396 :: uF1397 :: uF1398 :: uF1399 :: uF1400 :: uF1401 :: t
def cx_410pf_1 (t : List zFa) : List zFa := uF1402 :: uF1403 :: uF1404 :: uF1405 :: uF1406 :: uF1407 :: uF1408 :: uF1409 :: t
def cx_410pg_0 (t : List zTg) : List zTg := uG1411 :: uG1412 :: uG1413 :: uG1414 :: uG1415 :: uG1416 :: uG1417 :: uG1418 :: t
def cx_410p : zS := ((cx_410pi_0 (cx_410pi_1 [])), (cx_410pr_0 (cx_410pr_1 (cx_410pr_2 []))), [], [], [uV2, uV11], (cx_410pf_0 (cx_410pf_1 [])), (cx_410pg_0 []))
def cx_410q0f_0 (t : List zFa) : List zFa := (2, (true, 0, 3, [(1, 4)]), 0, 0, 0, []) :: (1, (true, 0, 3, [(1, 4)]), 0, 0, 0, []) :: (2, (true, 0, 2, [(1, 4)]), 0, 0, 0, []) :: (1, (true, 0, 2, [(1, 4)]), 0, 0, 0, []) :: (2, (true, 0, 1, [(1, 4)]), 0, 0, 0, []) :: (1, (true, 0, 1, [(1, 4)]), 0, 0, 0, []) :: (2, (true, 0, 0, [(1, 4)]), 0, 0, 0, []) :: (1, (true, 0, 0, [(1, 4)]), 0, 0, 0, []) :: t
def cx_410q0f_1 (t : List zFa) : List zFa := (9, (true, 0, 0, [(1, 1)]), 0, 0, 0, []) :: (8, (true, 0, 0, [(1, 1)]), 0, 0, 0, []) :: (7, (true, 0, 0, [(1, 1)]), 0, 0, 10, []) :: (6, (true, 0, 0, [(1, 1)]), 0, 0, 20, []) :: uF1419 :: uF1420 :: t
def cx_410q0g_0 (t : List zTg) : List zTg := uG1421 :: uG1411 :: uG1412 :: uG1413 :: uG1414 :: uG1415 :: uG1416 :: uG1417 :: t
def cx_410q0g_1 (t : List zTg) : List zTg := uG1418 :: (77, [uL9, (36, [(1, 36)])]) :: uG1412 :: uG1413 :: uG1414 :: uG1415 :: uG1416 :: uG1417 :: t
def cx_410q0 : zS := ((cx_410pi_0 (cx_410pi_1 [])), (cx_410pr_0 (cx_410pr_1 (cx_410pr_2 []))), [], [], [], (cx_410q0f_0 (cx_410q0f_1 [])), (cx_410q0g_0 (cx_410q0g_1 [])))
/-- M.plain -/
def cx_410 : zCtx := (187, cx_410p, [cx_410q0], kc_73, 734, 0, 0)
def cz_410_0i_0 (t : List (Int × Int)) : List (Int × Int) := ui0 :: (0, 1) :: (0, 1) :: (0, 6) :: ui196 :: ui196 :: ui196 :: ui196 :: t
def cz_410_0i_1 (t : List (Int × Int)) : List (Int × Int) := (0, 1) :: ui31 :: ui439 :: t
def cz_410_0f_0 (t : List zFa) : List zFa := uF1419 :: uF1420 :: uF1394 :: uF1395 :: uF1396 :: uF1397 :: uF1398 :: uF1399 :: t
def cz_410_0f_1 (t : List zFa) : List zFa := uF1400 :: uF1401 :: uF1402 :: uF1403 :: uF1404 :: uF1405 :: uF1406 :: uF1407 :: t
def cz_410_0f_2 (t : List zFa) : List zFa := uF1408 :: uF1409 :: t
def cz_410_0g_0 (t : List zTg) : List zTg := uG1421 :: uG1411 :: uG1412 :: uG1413 :: uG1414 :: uG1415 :: uG1416 :: uG1417 :: t
def cz_410_0g_1 (t : List zTg) : List zTg := uG1418 :: (77, [uL9, (0, [(1, 36), (10, 1)])]) :: t
def cz_410_0 : zS := ((cz_410_0i_0 (cz_410_0i_1 [])), (cx_410pr_0 (cx_410pr_1 (cx_410pr_2 []))), [(36, [(10, (-1))])], [uV2, uV11, uV825], [], (cz_410_0f_0 (cz_410_0f_1 (cz_410_0f_2 []))), (cz_410_0g_0 (cz_410_0g_1 [])))
set_option maxRecDepth 1000000 in
theorem ck_410 : x_ok mLT1 [] mTS2 mTC2 mRUp cx_410 [] [(14, [1000446]), (34, [1000447])] [(16, cz_410_0, (721, [(10, (-15))]))] (734, []) 0 124 = true := by decide +kernel
theorem sn_410 {W : Bool} {X : List Int32} : y_Snd (mGw W) mLT1 (J2 W X) X cx_410 := y_ok J2_J mTS2_ok1 mTC2_ok1 mRUp_ok1 (fun _ h => absurd h List.not_mem_nil) ck_410
/-- M.is -/
def cx_411 : zCtx := (202, ([ui0, ui68, (0, 0), ui1343], [ur1331, ur1345], [], [], [uV2, uV62], [uF1422, uF1423, uF1349, uF1424], []), [([ui0, ui68, (0, 0), (0, 0)], [ur1331, ur1345], [], [], [uV64], [], []), ([ui0, ui68, (0, 0), ui1377], [ur1331, ur1345], [], [], [uV62], [], [])], [], 13, 0, 0)
set_option maxRecDepth 1000000 in
theorem ck_411 : x_ok mLT1 [] mTS2 mTC2 mRUp cx_411 [] [] [] (13, []) 0 16 = true := by decide +kernel
theorem sn_411 {W : Bool} {X : List Int32} : y_Snd (mGw W) mLT1 (J2 W X) X cx_411 := y_ok J2_J mTS2_ok1 mTC2_ok1 mRUp_ok1 (fun _ h => absurd h List.not_mem_nil) ck_411
/-- M.fail -/
def cx_412 : zCtx := (205, ([ui0, ui68, (0, 0), ui52, ui52], [ur1331, ur1346], [], [], [uV2, uV389], [uF1422, uF1423, uF1425, uF1426, uF1427], []), [([ui0, ui68, (0, 0), ui52, ui52], [ur1331, ur1346], [], [], [], [uF1428, uF1429], [])], [uk1430, uk1431], 14, 0, 0)
set_option maxRecDepth 1000000 in
theorem ck_412 : x_ok mLT1 [] mTS2 mTC2 mRUp cx_412 [] [] [] (14, []) 0 17 = true := by decide +kernel
theorem sn_412 {W : Bool} {X : List Int32} : y_Snd (mGw W) mLT1 (J2 W X) X cx_412 := y_ok J2_J mTS2_ok1 mTC2_ok1 mRUp_ok1 (fun _ h => absurd h List.not_mem_nil) ck_412
def cx_413pf_0 (t : List zFa) : List zFa := uF1422 :: uF1423 :: uF1425 :: uF178 :: uF1349 :: uF1350 :: uF1351 :: uF448 :: t
def cx_413pf_1 (t : List zFa) : List zFa := uF1432 :: (2, (true, 0, 0, [(1, 1)]), 0, 0, 0, [(6, 1)]) :: t
def cx_413p : zS := ([ui0, ui68, (0, 0), ui52, ui52, ui1343, ui52], [ur1331, ur1345, ur1346, ur1347, ur1348], [uL1433], [], [uV2], (cx_413pf_0 (cx_413pf_1 [])), [uG1434, uG1435, uG1436])
/-- M.goesOn -/
def cx_413 : zCtx := (206, cx_413p, [([ui0, ui146, (0, 0), ui52, ui52, ui1343, ui52], [ur1331, ur1345, ur1346, ur1347, ur1348], [uL1433, uL63], [], [], [uF1167, uF1429, uF1422], [uG1437, uG1437]), ([ui0, ui147, (0, 0), ui52, ui52, ui1343, ui52], [ur1331, ur1345, ur1346, ur1347, ur1348], [uL1433, uL65], [], [], [uF1438, uF1423, uF1425], [uG1439, uG1439])], [uk1440, uk1430, uk1431], 25, 1, 21)
set_option maxRecDepth 1000000 in
theorem ck_413 : x_ok mLT1 [cx_412] mTS2 mTC2 mRUp cx_413 [(12, [0])] [(10, [1000241]), (28, [1000242])] [] (11, []) 14 14 = true := by decide +kernel
theorem sn_413 {W : Bool} {X : List Int32} : y_Snd (mGw W) mLT1 (J2 W X) X cx_413 := y_ok J2_J mTS2_ok1 mTC2_ok1 mRUp_ok1 (List.forall_mem_cons.mpr ⟨sn_412, fun _ h => absurd h List.not_mem_nil⟩) ck_413
def cx_414pf_0 (t : List zFa) : List zFa := uF1441 :: uF1442 :: uF1428 :: uF1360 :: uF1349 :: uF1350 :: uF1351 :: uF448 :: t
def cx_414pf_1 (t : List zFa) : List zFa := (1, (true, 0, 0, [(2, 1)]), 0, 0, 0, [(6, 1)]) :: (2, (true, 0, 0, [(2, 1)]), 0, 0, 0, [(7, 1)]) :: t
def cx_414p : zS := ([ui0, (0, 6), ui68, (0, 0), ui52, ui52, ui1343, ui52], [ur1331, ur1345, ur1346, ur1347, ur1348], [uL1443, uL1227], [], [uV2, uV11, uV315], (cx_414pf_0 (cx_414pf_1 [])), [uG1444, uG1445, (69, [uL104, uL67, uL9, uL252, uL79])])
/-- M.roomFor -/
def cx_414 : zCtx := (204, cx_414p, [([ui0, (0, 6), ui68, (0, 0), ui52, ui52, ui1343, ui52], [ur1331, ur1345, ur1346, ur1347, ur1348], [uL63], [], [], [uF1194, uF1429, uF1441], [uG1446, uG1446]), ([ui0, (0, 5), ui147, (0, 0), ui52, ui52, ui1377, ui52], [ur1331, ur1345, ur1346, ur1347, ur1348], [uL65, uL63, uL63, (5, [(1, (-1))])], [], [], [uF1447, uF1442, uF1428], [uG1448, uG1449, uG1448])], [uk1440, uk1430, uk1431], 35, 2, 41)
set_option maxRecDepth 1000000 in
theorem ck_414 : x_ok mLT1 [cx_412, cx_413] mTS2 mTC2 mRUp cx_414 [(7, [0]), (18, [1])] [(5, [1000336]), (17, [1000337])] [] (10, []) 25 13 = true := by decide +kernel
theorem sn_414 {W : Bool} {X : List Int32} : y_Snd (mGw W) mLT1 (J2 W X) X cx_414 := y_ok J2_J mTS2_ok1 mTC2_ok1 mRUp_ok1 (List.forall_mem_cons.mpr ⟨sn_412, List.forall_mem_cons.mpr ⟨sn_413, fun _ h => absurd h List.not_mem_nil⟩⟩) ck_414
/-- M.is -/
def cx_415 : zCtx := (202, ([ui0, ui348, (0, 2), ui1343], [ur1331, ur1345], [], [], [uV2, uV64], [uF1422, uF1423, uF1349, uF1424], []), [([ui0, ui348, (0, 0), (1, 1)], [ur1331, ur1345], [], [], [uV64], [], []), ([ui0, ui348, (0, 0), (0, 0)], [ur1331, ur1345], [], [], [uV62], [], []), ([ui0, ui348, (0, 0), ui1450], [ur1331, ur1345], [], [], [uV62], [], []), ([ui0, ui348, (1, 2), ui1343], [ur1331, ur1345], [], [], [uV62], [], [])], [], 13, 0, 0)
set_option maxRecDepth 1000000 in
theorem ck_415 : x_ok mLT1 [] mTS2 mTC2 mRUp cx_415 [] [] [] (13, []) 0 16 = true := by decide +kernel
theorem sn_415 {W : Bool} {X : List Int32} : y_Snd (mGw W) mLT1 (J2 W X) X cx_415 := y_ok J2_J mTS2_ok1 mTC2_ok1 mRUp_ok1 (fun _ h => absurd h List.not_mem_nil) ck_415
/-- M.fail -/
def cx_416 : zCtx := (205, ([ui0, ui68, (0, 0), ui52, ui52], [ur1331, ur1346], [], [], [uV2, uV64], [uF1422, uF1423, uF1425, uF1426, uF1427], []), [([ui0, ui68, (0, 0), ui52, ui52], [ur1331, ur1346], [], [], [], [uF1428, uF1451], [])], [uk1430, uk1431], 14, 0, 0)
set_option maxRecDepth 1000000 in
theorem ck_416 : x_ok mLT1 [] mTS2 mTC2 mRUp cx_416 [] [] [] (14, []) 0 17 = true := by decide +kernel
theorem sn_416 {W : Bool} {X : List Int32} : y_Snd (mGw W) mLT1 (J2 W X) X cx_416 := y_ok J2_J mTS2_ok1 mTC2_ok1 mRUp_ok1 (fun _ h => absurd h List.not_mem_nil) ck_416
def cx_417p : zS := ([ui0, ui348, (0, 0), ui52, ui52, ui1343, ui52], [ur1331, ur1345, ur1346, ur1347, ur1348], [uL63], [], [uV2, uV64], (cx_413pf_0 (cx_413pf_1 [])), [uG1434, uG1435, (62, [uL98, uL9, uL65, uL104, uL78])])
/-- M.must -/
def cx_417 : zCtx := (208, cx_417p, [([ui0, ui348, (0, 0), ui52, ui52, ui1343, ui52, (1, 2)], [ur1331, ur1345, ur1346, ur1347, ur1348], [uL63], [], [], [uF1167, uF1452, uF1422], [uG1453]), ([ui0, ui1454, (0, 0), ui52, ui52, (1, 1), ui52], [ur1331, ur1345, ur1346, ur1347, ur1348], [uL65, uL1433, uL1455, uL63, uL63], [], [], [uF1438, uF1423, uF1425], [uG1439, uG1436, uG1439])], [uk1440, uk1430, uk1431], 33, 2, 41)
set_option maxRecDepth 1000000 in
theorem ck_417 : x_ok mLT1 [cx_415, cx_413, cx_416] mTS2 mTC2 mRUp cx_417 [(2, [0]), (9, [1]), (17, [2])] [(9, [1000243]), (15, uN1456)] [] (8, []) 25 11 = true := by decide +kernel
theorem sn_417 {W : Bool} {X : List Int32} : y_Snd (mGw W) mLT1 (J2 W X) X cx_417 := y_ok J2_J mTS2_ok1 mTC2_ok1 mRUp_ok1 (List.forall_mem_cons.mpr ⟨sn_415, List.forall_mem_cons.mpr ⟨sn_413, List.forall_mem_cons.mpr ⟨sn_416, fun _ h => absurd h List.not_mem_nil⟩⟩⟩) ck_417
/-- M.wrong -/
def cx_418 : zCtx := (209, ([ui0, ui1454, (0, 0), (0, 0), ui52, ui52], [ur1331, ur1346], [], [], [uV2, uV385, uV11], [uF1423, uF1457, uF1458, uF1426, uF1432], []), [([ui0, ui1454, (0, 0), (0, 0), ui52, ui52], [ur1331, ur1346], [], [], [], [uF1459, uF1460], [])], [uk1461, uk1462], 18, 0, 0)
set_option maxRecDepth 1000000 in
theorem ck_418 : x_ok mLT1 [] mTS2 mTC2 mRUp cx_418 [] [] [] (18, []) 0 21 = true := by decide +kernel
theorem sn_418 {W : Bool} {X : List Int32} : y_Snd (mGw W) mLT1 (J2 W X) X cx_418 := y_ok J2_J mTS2_ok1 mTC2_ok1 mRUp_ok1 (fun _ h => absurd h List.not_mem_nil) ck_418
/-- M.wrong -/
def cx_419 : zCtx := (209, ([ui0, ui1454, (0, 0), (1, 5), ui91, ui52], [ur1331, ur1346], [uL1463], [], [uV2, uV385, uV11], [uF1423, uF1457, uF1458, uF1426, uF1432], []), [([ui0, ui1454, (0, 0), (1, 5), ui91, ui93], [ur1331, ur1346], [uL1463], [], [], [], [])], [], 16, 0, 0)
set_option maxRecDepth 1000000 in
theorem ck_419 : x_ok mLT1 [] mTS2 mTC2 mRUp cx_419 [] [] [] (16, []) 0 19 = true := by decide +kernel
theorem sn_419 {W : Bool} {X : List Int32} : y_Snd (mGw W) mLT1 (J2 W X) X cx_419 := y_ok J2_J mTS2_ok1 mTC2_ok1 mRUp_ok1 (fun _ h => absurd h List.not_mem_nil) ck_419
/-- M.wrong -/
def cx_420 : zCtx := (209, ([ui0, ui1454, (0, 0), (3, 3), ui52, ui52], [ur1331, ur1346], [uL1464, uL1465, uL1466], [], [uV2, uV385, uV11], [uF1423, uF1457, uF1458, uF1426, uF1432], []), [([ui0, ui1454, (0, 0), (3, 3), ui52, ui52], [ur1331, ur1346], [uL1465, uL1464, uL1466], [], [], [], [])], [], 24, 0, 0)
set_option maxRecDepth 1000000 in
theorem ck_420 : x_ok mLT1 [] mTS2 mTC2 mRUp cx_420 [] [] [] (24, []) 0 27 = true := by decide +kernel
theorem sn_420 {W : Bool} {X : List Int32} : y_Snd (mGw W) mLT1 (J2 W X) X cx_420 := y_ok J2_J mTS2_ok1 mTC2_ok1 mRUp_ok1 (fun _ h => absurd h List.not_mem_nil) ck_420
/-- M.fail -/
def cx_421 : zCtx := (205, ([ui0, ui348, (1, 2), ui52, ui52], [ur1331, ur1346], [], [], [uV2, uV64], [uF1422, uF1423, uF1425, uF1426, uF1427], []), [([ui0, ui348, (1, 2), ui52, ui52], [ur1331, ur1346], [], [], [], [], [])], [], 4, 0, 0)
set_option maxRecDepth 1000000 in
theorem ck_421 : x_ok mLT1 [] mTS2 mTC2 mRUp cx_421 [] [] [] (4, []) 0 7 = true := by decide +kernel
theorem sn_421 {W : Bool} {X : List Int32} : y_Snd (mGw W) mLT1 (J2 W X) X cx_421 := y_ok J2_J mTS2_ok1 mTC2_ok1 mRUp_ok1 (fun _ h => absurd h List.not_mem_nil) ck_421
/-- M.bounded -/
def cx_422 : zCtx := (210, ([ui0, ui348, (1, 2), ui52, (0, 5), ui52, ui52], [ur1331], [], [], [uV2, uV62, uV192], [uF1422, uF1423, uF1425, uF1467, uF1459, uF1468], [uG1469]), [([ui0, ui348, (1, 2), ui52, (0, 5), ui52, ui52], [ur1331], [], [], [uV62], [], [])], [], 12, 1, 21)
set_option maxRecDepth 1000000 in
theorem ck_422 : x_ok mLT1 [cx_421] mTS2 mTC2 mRUp cx_422 [(17, [0])] [(15, uN1470), (20, [740])] [] (8, []) 4 11 = true := by decide +kernel
theorem sn_422 {W : Bool} {X : List Int32} : y_Snd (mGw W) mLT1 (J2 W X) X cx_422 := y_ok J2_J mTS2_ok1 mTC2_ok1 mRUp_ok1 (List.forall_mem_cons.mpr ⟨sn_421, fun _ h => absurd h List.not_mem_nil⟩) ck_422
/-- M.is -/
def cx_423 : zCtx := (202, ([ui0, ui348, (0, 2), ui1343], [ur1331, ur1345], [], [], [uV2, uV389], [uF1422, uF1423, uF1349, uF1424], []), [([ui0, ui348, (0, 0), (2, 2)], [ur1331, ur1345], [], [], [uV64], [], []), ([ui0, ui348, (0, 0), (0, 1)], [ur1331, ur1345], [], [], [uV62], [], []), ([ui0, ui348, (0, 0), (3, 41)], [ur1331, ur1345], [], [], [uV62], [], []), ([ui0, ui348, (1, 2), ui1343], [ur1331, ur1345], [], [], [uV62], [], [])], [], 13, 0, 0)
set_option maxRecDepth 1000000 in
theorem ck_423 : x_ok mLT1 [] mTS2 mTC2 mRUp cx_423 [] [] [] (13, []) 0 16 = true := by decide +kernel
theorem sn_423 {W : Bool} {X : List Int32} : y_Snd (mGw W) mLT1 (J2 W X) X cx_423 := y_ok J2_J mTS2_ok1 mTC2_ok1 mRUp_ok1 (fun _ h => absurd h List.not_mem_nil) ck_423
/-- M.wrong -/
def cx_424 : zCtx := (209, ([ui0, ui348, (0, 0), (0, 0), ui52, ui52], [ur1331, ur1346], [], [], [uV2, uV3, uV11], [uF1423, uF1457, uF1458, uF1426, uF1432], []), [([ui0, ui348, (0, 0), (0, 0), ui52, ui52], [ur1331, ur1346], [], [], [], [uF1459, (0, (false, 15, 0, []), 0, 0, 5, [])], [])], [uk1461, uk1462], 18, 0, 0)
set_option maxRecDepth 1000000 in
theorem ck_424 : x_ok mLT1 [] mTS2 mTC2 mRUp cx_424 [] [] [] (18, []) 0 21 = true := by decide +kernel
theorem sn_424 {W : Bool} {X : List Int32} : y_Snd (mGw W) mLT1 (J2 W X) X cx_424 := y_ok J2_J mTS2_ok1 mTC2_ok1 mRUp_ok1 (fun _ h => absurd h List.not_mem_nil) ck_424
/-- M.wrong -/
def cx_425 : zCtx := (209, ([ui0, ui348, (0, 0), (1, 5), ui91, ui52], [ur1331, ur1346], [uL1463], [], [uV2, uV3, uV11], [uF1423, uF1457, uF1458, uF1426, uF1432], []), [([ui0, ui348, (0, 0), (1, 5), ui91, ui93], [ur1331, ur1346], [uL1463], [], [], [], [])], [], 16, 0, 0)
set_option maxRecDepth 1000000 in
theorem ck_425 : x_ok mLT1 [] mTS2 mTC2 mRUp cx_425 [] [] [] (16, []) 0 19 = true := by decide +kernel
theorem sn_425 {W : Bool} {X : List Int32} : y_Snd (mGw W) mLT1 (J2 W X) X cx_425 := y_ok J2_J mTS2_ok1 mTC2_ok1 mRUp_ok1 (fun _ h => absurd h List.not_mem_nil) ck_425
def cx_426pi_0 (t : List (Int × Int)) : List (Int × Int) := ui0 :: ui406 :: (0, 0) :: ui52 :: (0, 5) :: ui52 :: ui52 :: (0, 6) :: t
def cx_426pi_1 (t : List (Int × Int)) : List (Int × Int) := (0, 1) :: ui48 :: ui68 :: t
def cx_426pf_0 (t : List zFa) : List zFa := uF1422 :: uF1423 :: uF1425 :: uF1467 :: uF1459 :: uF1468 :: uF1349 :: uF1350 :: t
def cx_426pf_1 (t : List zFa) : List zFa := uF1351 :: uF448 :: uF1471 :: uF1472 :: uF1473 :: uF1474 :: t
def cx_426p : zS := ((cx_426pi_0 (cx_426pi_1 [])), [ur1331, ur1345, ur1346, ur1347, ur1348, ur1381], [], [], [uV2, uV62, uV192], (cx_426pf_0 (cx_426pf_1 [])), [uG1475, (40, [uL78, uL9, uL114, uL63, uL63, uL79, uL164, uL98, uL104, uL170])])
def cx_426q1i_0 (t : List (Int × Int)) : List (Int × Int) := ui0 :: ui1476 :: (0, 0) :: ui52 :: (0, 5) :: ui52 :: ui52 :: (0, 6) :: t
def cx_426q1i_1 (t : List (Int × Int)) : List (Int × Int) := (0, 1) :: ui48 :: ui68 :: ui196 :: (0, 5) :: ui52 :: t
def cx_426q1 : zS := ((cx_426q1i_0 (cx_426q1i_1 [])), [ur1331, ur1345, ur1346, ur1347, ur1348, ur1381], [uL65, uL63, uL63], [], [uV840], [uF1438, uF1423, uF1425, uF1477, uF1478, uF1474], [uG1479, uG1479, (40, [uL78, uL109, uL211, uL63, uL63, uL79, uL164, uL214, uL207, uL170]), uG1480])
/-- M.bounded -/
def cx_426 : zCtx := (210, cx_426p, [([ui0, ui406, (0, 0), ui52, (0, 5), ui52, ui52, (0, 6), (0, 1), ui48, ui68, ui52], [ur1331, ur1345, ur1346, ur1347, ur1348, ur1381], [uL63], [], [uV62], [uF1481, uF1451, uF1422, uF1467, uF1459, uF1474], [uG1482]), cx_426q1, ([ui0, ui146, (0, 0), ui52, (0, 5), ui52, ui52, (0, 6), (0, 1), ui48, ui68, ui196, ui52, (0, 5), ui52], [ur1331, ur1345, ur1346, ur1347, ur1348, ur1381], [uL63], [], [uV840], [uF1140, uF1429, uF1422, uF1483, uF1484, uF1474], [uG1485])], [uk1440, uk1430, uk1431, uk1461, uk1462], 53, 2, 41)
set_option maxRecDepth 1000000 in
theorem ck_426 : x_ok mLT1 [cx_423, cx_416, cx_424, cx_425, cx_413] mTS2 mTC2 mRUp cx_426 [(9, [0]), (17, [1]), (48, [2, 3]), (52, [4])] [(8, uN1486), (12, [740]), (15, uN1470), (20, [740]), (31, uN1487), (42, uN1488), (51, [740]), (55, [740, 1000260, 1000261, 1000262, 1000263, 1000264, 1000265, 1000266, 1000267, 1000268, 1000269, 1000270, 1000271, 1000272, 1000273, 1000274, 1000275, 1000276, 1000277, 1000278, 1000279, 1000280, 1000281, 1000282, 1000283, 1000284, 1000285, 1000286, 1000287, 1000288])] [] (28, []) 25 31 = true := by decide +kernel
theorem sn_426 {W : Bool} {X : List Int32} : y_Snd (mGw W) mLT1 (J2 W X) X cx_426 := y_ok J2_J mTS2_ok1 mTC2_ok1 mRUp_ok1 (List.forall_mem_cons.mpr ⟨sn_423, List.forall_mem_cons.mpr ⟨sn_416, List.forall_mem_cons.mpr ⟨sn_424, List.forall_mem_cons.mpr ⟨sn_425, List.forall_mem_cons.mpr ⟨sn_413, fun _ h => absurd h List.not_mem_nil⟩⟩⟩⟩⟩) ck_426
/-- M.bounded -/
def cx_427 : zCtx := (210, ([ui0, ui348, (1, 2), ui52, (0, 5), ui52, ui52], [ur1331], [], [], [uV2, uV64, uV225], [uF1422, uF1423, uF1425, uF1467, uF1459, uF1468], [uG1469]), [([ui0, ui348, (1, 2), ui52, (0, 5), ui52, ui52], [ur1331], [], [], [uV64], [], [])], [], 12, 1, 21)
set_option maxRecDepth 1000000 in
theorem ck_427 : x_ok mLT1 [cx_421] mTS2 mTC2 mRUp cx_427 [(17, [0])] [(15, uN1470), (20, [740])] [] (8, []) 4 11 = true := by decide +kernel
theorem sn_427 {W : Bool} {X : List Int32} : y_Snd (mGw W) mLT1 (J2 W X) X cx_427 := y_ok J2_J mTS2_ok1 mTC2_ok1 mRUp_ok1 (List.forall_mem_cons.mpr ⟨sn_421, fun _ h => absurd h List.not_mem_nil⟩) ck_427
def cx_428pi_0 (t : List (Int × Int)) : List (Int × Int) := ui0 :: ui1489 :: (0, 0) :: ui52 :: (0, 5) :: ui52 :: ui52 :: (0, 6) :: t
def cx_428pi_1 (t : List (Int × Int)) : List (Int × Int) := (0, 1) :: ui48 :: ui68 :: t
def cx_428p : zS := ((cx_428pi_0 (cx_428pi_1 [])), [ur1331, ur1345, ur1346, ur1347, ur1348, ur1381], [], [], [uV2, uV64, uV225], (cx_426pf_0 (cx_426pf_1 [])), [uG1475, (40, [uL78, uL9, uL211, uL63, uL63, uL79, uL164, uL98, uL104, uL170])])
def cx_428q1i_0 (t : List (Int × Int)) : List (Int × Int) := ui0 :: (3, 399) :: (0, 0) :: ui52 :: (0, 5) :: ui52 :: ui52 :: (0, 6) :: t
def cx_428q1i_1 (t : List (Int × Int)) : List (Int × Int) := (0, 1) :: ui48 :: ui68 :: ui196 :: (0, 5) :: ui52 :: t
def cx_428q1 : zS := ((cx_428q1i_0 (cx_428q1i_1 [])), [ur1331, ur1345, ur1346, ur1347, ur1348, ur1381], [uL65, uL63, uL63], [], [uV840], [uF1438, uF1423, uF1425, uF1477, uF1478, uF1474], [uG1479, uG1479, (40, [uL78, uL109, uL36, uL63, uL63, uL79, uL164, uL214, uL207, uL170]), uG1480])
/-- M.bounded -/
def cx_428 : zCtx := (210, cx_428p, [([ui0, ui1489, (0, 0), ui52, (0, 5), ui52, ui52, (0, 6), (0, 1), ui48, ui68, ui52], [ur1331, ur1345, ur1346, ur1347, ur1348, ur1381], [uL63], [], [uV64], [uF1481, uF1451, uF1422, uF1467, uF1459, uF1474], [uG1482]), cx_428q1, ([ui0, ui146, (0, 0), ui52, (0, 5), ui52, ui52, (0, 6), (0, 1), ui48, ui68, ui196, ui52, (0, 5), ui52], [ur1331, ur1345, ur1346, ur1347, ur1348, ur1381], [uL63], [], [uV840], [uF1140, uF1429, uF1422, uF1483, uF1484, uF1474], [uG1485])], [uk1440, uk1430, uk1431, uk1461, uk1462], 53, 2, 41)
set_option maxRecDepth 1000000 in
theorem ck_428 : x_ok mLT1 [cx_423, cx_416, cx_424, cx_425, cx_413] mTS2 mTC2 mRUp cx_428 [(9, [0]), (17, [1]), (48, [2, 3]), (52, [4])] [(8, uN1486), (12, [740]), (15, uN1470), (20, [740]), (31, uN1487), (42, uN1488), (51, [740]), (55, [740, 1000260, 1000261, 1000262, 1000263, 1000264, 1000265, 1000266, 1000267, 1000268, 1000269, 1000270, 1000271, 1000272, 1000273, 1000274, 1000275, 1000276, 1000277, 1000278, 1000279, 1000280, 1000281, 1000282, 1000283, 1000284, 1000285, 1000286, 1000287, 1000288])] [] (28, []) 25 31 = true := by decide +kernel
theorem sn_428 {W : Bool} {X : List Int32} : y_Snd (mGw W) mLT1 (J2 W X) X cx_428 := y_ok J2_J mTS2_ok1 mTC2_ok1 mRUp_ok1 (List.forall_mem_cons.mpr ⟨sn_423, List.forall_mem_cons.mpr ⟨sn_416, List.forall_mem_cons.mpr ⟨sn_424, List.forall_mem_cons.mpr ⟨sn_425, List.forall_mem_cons.mpr ⟨sn_413, fun _ h => absurd h List.not_mem_nil⟩⟩⟩⟩⟩) ck_428
/-- M.is -/
def cx_429 : zCtx := (202, ([ui0, ui348, (0, 2), ui1343], [ur1331, ur1345], [], [], [uV2, uV381], [uF1422, uF1423, uF1349, uF1424], []), [([ui0, ui348, (0, 0), (4, 4)], [ur1331, ur1345], [], [], [uV64], [], []), ([ui0, ui348, (0, 0), (0, 3)], [ur1331, ur1345], [], [], [uV62], [], []), ([ui0, ui348, (0, 0), (5, 41)], [ur1331, ur1345], [], [], [uV62], [], []), ([ui0, ui348, (1, 2), ui1343], [ur1331, ur1345], [], [], [uV62], [], [])], [], 13, 0, 0)
set_option maxRecDepth 1000000 in
theorem ck_429 : x_ok mLT1 [] mTS2 mTC2 mRUp cx_429 [] [] [] (13, []) 0 16 = true := by decide +kernel
theorem sn_429 {W : Bool} {X : List Int32} : y_Snd (mGw W) mLT1 (J2 W X) X cx_429 := y_ok J2_J mTS2_ok1 mTC2_ok1 mRUp_ok1 (fun _ h => absurd h List.not_mem_nil) ck_429
/-- M.must -/
def cx_430 : zCtx := (208, ([ui0, ui348, (1, 2), ui52, ui52], [ur1331], [], [], [uV2, uV381], [uF1422, uF1423, uF1425, uF178], [uG1490]), [([ui0, ui348, (1, 2), ui52, ui52], [ur1331], [], [], [], [], [])], [], 21, 1, 21)
set_option maxRecDepth 1000000 in
theorem ck_430 : x_ok mLT1 [cx_429, cx_421] mTS2 mTC2 mRUp cx_430 [(2, [0]), (17, [1])] [(15, uN1456)] [] (8, []) 13 11 = true := by decide +kernel
theorem sn_430 {W : Bool} {X : List Int32} : y_Snd (mGw W) mLT1 (J2 W X) X cx_430 := y_ok J2_J mTS2_ok1 mTC2_ok1 mRUp_ok1 (List.forall_mem_cons.mpr ⟨sn_429, List.forall_mem_cons.mpr ⟨sn_421, fun _ h => absurd h List.not_mem_nil⟩⟩) ck_430
def cx_431p : zS := ([ui0, ui406, (0, 0), ui52, ui52, ui1343, ui52], [ur1331, ur1345, ur1346, ur1347, ur1348], [uL211], [], [uV2, uV381], (cx_413pf_0 (cx_413pf_1 [])), [uG1434, uG1435, (62, [uL98, uL9, uL36, uL104, uL78])])
/-- M.must -/
def cx_431 : zCtx := (208, cx_431p, [([ui0, ui406, (0, 0), ui52, ui52, ui1343, ui52, (1, 2)], [ur1331, ur1345, ur1346, ur1347, ur1348], [uL63], [], [], [uF1167, uF1452, uF1422], [uG1453]), ([ui0, ui1476, (0, 0), ui52, ui52, (4, 4), ui52], [ur1331, ur1345, ur1346, ur1347, ur1348], [uL65, ((-4), [(5, 1)]), (4, [(5, (-1))]), uL63, uL63], [], [], [uF1438, uF1423, uF1425], [uG1439, uG1436, uG1439])], [uk1440, uk1430, uk1431], 33, 2, 41)
set_option maxRecDepth 1000000 in
theorem ck_431 : x_ok mLT1 [cx_429, cx_413, cx_416] mTS2 mTC2 mRUp cx_431 [(2, [0]), (9, [1]), (17, [2])] [(9, [1000243]), (15, uN1456)] [] (8, []) 25 11 = true := by decide +kernel
theorem sn_431 {W : Bool} {X : List Int32} : y_Snd (mGw W) mLT1 (J2 W X) X cx_431 := y_ok J2_J mTS2_ok1 mTC2_ok1 mRUp_ok1 (List.forall_mem_cons.mpr ⟨sn_429, List.forall_mem_cons.mpr ⟨sn_413, List.forall_mem_cons.mpr ⟨sn_416, fun _ h => absurd h List.not_mem_nil⟩⟩⟩) ck_431
def cx_432pi_0 (t : List (Int × Int)) : List (Int × Int) := ui0 :: ui348 :: (0, 0) :: ui52 :: (0, 5) :: ui52 :: (0, 1) :: (0, 5) :: t
def cx_432pi_1 (t : List (Int × Int)) : List (Int × Int) := ui52 :: ui48 :: ui68 :: ui52 :: ui1343 :: (0, 6) :: (0, 1) :: (0, 6) :: t
def cx_432pr_0 (t : List (Nat × Bool)) : List (Nat × Bool) := ur1331 :: ur1380 :: ur1345 :: ur1346 :: ur1347 :: ur1348 :: ur1381 :: ur1491 :: t
def cx_432pr_1 (t : List (Nat × Bool)) : List (Nat × Bool) := ur1492 :: ur1493 :: t
def cx_432pf_0 (t : List zFa) : List zFa := uF1422 :: uF1423 :: uF1425 :: uF1467 :: uF1459 :: uF1494 :: uF1471 :: uF1495 :: t
def cx_432pf_1 (t : List zFa) : List zFa := uF1496 :: uF291 :: uF1109 :: uF1110 :: uF1362 :: uF1363 :: uF1497 :: uF1498 :: t
def cx_432pf_2 (t : List zFa) : List zFa := uF1499 :: uF1500 :: uF1501 :: uF1502 :: uF1503 :: t
def cx_432pg_0 (t : List zTg) : List zTg := uG1504 :: uG1505 :: uG1506 :: uG1508 :: uG1509 :: uG1510 :: t
def cx_432p : zS := ((cx_432pi_0 (cx_432pi_1 [])), (cx_432pr_0 (cx_432pr_1 [])), [], [], [uV2], (cx_432pf_0 (cx_432pf_1 (cx_432pf_2 []))), (cx_432pg_0 []))
def cx_432q0i_0 (t : List (Int × Int)) : List (Int × Int) := ui0 :: ui348 :: (0, 0) :: ui52 :: (0, 5) :: ui52 :: (0, 1) :: (0, 5) :: t
def cx_432q0i_1 (t : List (Int × Int)) : List (Int × Int) := ui52 :: ui48 :: ui68 :: ui52 :: ui1343 :: (0, 6) :: (0, 1) :: (0, 6) :: t
def cx_432q0i_2 (t : List (Int × Int)) : List (Int × Int) := ui52 :: (1, 2) :: ui348 :: (0, 5) :: ui52 :: ui52 :: t
def cx_432q0f_0 (t : List zFa) : List zFa := (0, (false, 14, 0, []), 0, 0, 0, [(16, 1)]) :: (0, (false, 13, 0, []), 0, 0, 0, [(17, 1)]) :: uF1159 :: (0, (false, 15, 0, []), 0, 0, 0, [(19, 1)]) :: (0, (false, 16, 0, []), 0, 0, 0, [(20, 1)]) :: uF1498 :: uF1471 :: uF1498 :: t
def cx_432q0f_1 (t : List zFa) : List zFa := uF1500 :: (3, (true, 0, 0, [(18, 1)]), 0, 0, 0, [(21, 1)]) :: uF1496 :: t
def cx_432q0 : zS := ((cx_432q0i_0 (cx_432q0i_1 (cx_432q0i_2 []))), (cx_432pr_0 (cx_432pr_1 [])), [(0, [(1, (-1)), (18, 1)])], [], [], (cx_432q0f_0 (cx_432q0f_1 [])), [uG1508, uG1509, (41, [uL131, uL213, uL212]), uG1508, uG1509])
def cx_432q1i_0 (t : List (Int × Int)) : List (Int × Int) := ui0 :: ui1511 :: (0, 0) :: ui52 :: (0, 5) :: ui52 :: (0, 1) :: (0, 5) :: t
def cx_432q1i_1 (t : List (Int × Int)) : List (Int × Int) := ui52 :: ui48 :: ui68 :: ui52 :: (1, 1) :: (0, 6) :: (0, 1) :: (0, 6) :: t
def cx_432q1i_2 (t : List (Int × Int)) : List (Int × Int) := ui52 :: (0, 5) :: ui52 :: t
def cx_432q1f_0 (t : List zFa) : List zFa := (0, (false, 20, 0, []), 0, 0, 1, [(7, 1)]) :: uF1512 :: uF1423 :: uF1425 :: (3, (true, 0, 3, [(1, 1)]), 0, 0, 0, [(16, 1)]) :: uF1513 :: uF1514 :: uF1498 :: t
def cx_432q1f_1 (t : List zFa) : List zFa := uF1498 :: uF1498 :: uF1500 :: (1, (true, 0, 0, [(6, 1)]), 0, 0, 1, [(7, 1)]) :: t
def cx_432q1g_0 (t : List zTg) : List zTg := uG1516 :: uG1517 :: uG1518 :: (58, [uL131, uL1519]) :: (58, [uL131, uL1520]) :: uG1506 :: uG1508 :: uG1509 :: t
def cx_432q1g_1 (t : List zTg) : List zTg := uG1510 :: uG1521 :: uG1522 :: uG1518 :: (40, [uL131, uL1515, uL63, uL63, uL63, uL1056, uL164, uL213, uL277, uL265]) :: uG1517 :: uG1508 :: uG1509 :: t
def cx_432q1g_2 (t : List zTg) : List zTg := uG1516 :: t
def cx_432q1 : zS := ((cx_432q1i_0 (cx_432q1i_1 (cx_432q1i_2 []))), (cx_432pr_0 (cx_432pr_1 [])), [uL36, uL211], [], [], (cx_432q1f_0 (cx_432q1f_1 [])), (cx_432q1g_0 (cx_432q1g_1 (cx_432q1g_2 []))))
/-- M.tellHouse -/
def cx_432 : zCtx := (207, cx_432p, [cx_432q0, cx_432q1], kc_74, 244, 3, 64)
def cq_432 : List zCtx := [cx_417, cx_418, cx_419, cx_420, cx_422, cx_426, cx_427, cx_428, cx_430, cx_431]
def cs_432 : List (Nat × List Nat) := [(25, [0]), (64, [1, 2, 3]), (82, [4, 5]), (95, [6, 7]), (101, [8, 9])]
def hs_432 : List (Nat × List Nat) := [(19, [1000246, 1000303]), (28, [740, 1000291]), (57, [1000304]), (61, [1000305, 1000258, 1000306]), (67, [740, 1000307, 1000308]), (73, [1000309, 1000298, 1000310, 1000311, 1000312]), (85, [740]), (98, [740]), (99, [1000246, 1000313]), (104, [740, 1000314, 1000315]), (126, [1000304]), (150, [1000316, 1000519])]
def nd_432_0pi_0 (t : List (Int × Int)) : List (Int × Int) := ui0 :: ui1454 :: (0, 0) :: ui52 :: (0, 5) :: ui52 :: (0, 1) :: (0, 5) :: t
def nd_432_0pi_1 (t : List (Int × Int)) : List (Int × Int) := ui52 :: ui48 :: ui68 :: ui52 :: (1, 1) :: (0, 6) :: (0, 1) :: (0, 6) :: t
def nd_432_0pi_2 (t : List (Int × Int)) : List (Int × Int) := (0, 5) :: t
def nd_432_0pf_0 (t : List zFa) : List zFa := uF1438 :: uF1423 :: uF1425 :: uF1467 :: uF1459 :: uF1494 :: uF1471 :: uF1495 :: t
def nd_432_0pf_1 (t : List zFa) : List zFa := uF1496 :: uF291 :: uF1109 :: uF1110 :: uF1362 :: uF1363 :: uF1497 :: uF1498 :: t
def nd_432_0pf_2 (t : List zFa) : List zFa := uF1499 :: uF1500 :: uF1502 :: uF1503 :: t
def nd_432_0pg_0 (t : List zTg) : List zTg := uG1504 :: uG1505 :: uG1506 :: uG1508 :: uG1509 :: uG1510 :: uG1521 :: uG1522 :: t
def nd_432_0pg_1 (t : List zTg) : List zTg := (66, [uL131, uL9, uL212]) :: t
def nd_432_0p : zS := ((nd_432_0pi_0 (nd_432_0pi_1 (nd_432_0pi_2 []))), (cx_432pr_0 (cx_432pr_1 [])), [uL65, uL1523], [uV2, uV1524, uV11, uV1525], [], (nd_432_0pf_0 (nd_432_0pf_1 (nd_432_0pf_2 []))), (nd_432_0pg_0 (nd_432_0pg_1 [])))
def nd_432_0 : zN := (30, nd_432_0p, ((-99999999829), [(2, (-100000000000)), (12, 100000000000), (16, (-20))]))
def nd_432_1pi_0 (t : List (Int × Int)) : List (Int × Int) := ui0 :: ui348 :: (0, 0) :: ui52 :: (0, 5) :: ui52 :: (0, 1) :: (0, 5) :: t
def nd_432_1pi_1 (t : List (Int × Int)) : List (Int × Int) := ui52 :: ui48 :: ui68 :: ui52 :: ui1343 :: (0, 6) :: (0, 1) :: (0, 6) :: t
def nd_432_1pi_2 (t : List (Int × Int)) : List (Int × Int) := (1, 2) :: t
def nd_432_1pf_0 (t : List zFa) : List zFa := uF1481 :: (0, (false, 13, 0, []), 0, 0, 0, [(16, 1)]) :: uF1422 :: uF1467 :: uF1459 :: uF1494 :: uF1471 :: uF1495 :: t
def nd_432_1pf_1 (t : List zFa) : List zFa := uF1496 :: uF291 :: uF1109 :: uF1110 :: uF1362 :: uF1363 :: uF1497 :: uF1498 :: t
def nd_432_1pf_2 (t : List zFa) : List zFa := uF1499 :: uF1500 :: uF1502 :: uF1503 :: t
def nd_432_1p : zS := ((nd_432_1pi_0 (nd_432_1pi_1 (nd_432_1pi_2 []))), (cx_432pr_0 (cx_432pr_1 [])), [uL63], [uV2, uV1524, uV11, uV62], [], (nd_432_1pf_0 (nd_432_1pf_1 (nd_432_1pf_2 []))), [(41, [uL131, uL212, uL195]), uG1508, uG1509])
def nd_432_1 : zN := (30, nd_432_1p, ((-111), [(2, (-100000000000)), (16, 141)]))
def nd_432_2pi_0 (t : List (Int × Int)) : List (Int × Int) := ui0 :: ui1454 :: (0, 0) :: ui52 :: (1, 5) :: ui91 :: (0, 1) :: (1, 5) :: t
def nd_432_2pi_1 (t : List (Int × Int)) : List (Int × Int) := ui52 :: ui48 :: ui68 :: ui93 :: (1, 1) :: (0, 6) :: (0, 1) :: (0, 6) :: t
def nd_432_2pi_2 (t : List (Int × Int)) : List (Int × Int) := (1, 5) :: t
def nd_432_2pg_0 (t : List zTg) : List zTg := uG1504 :: uG1505 :: uG1506 :: uG1508 :: uG1509 :: uG1510 :: uG1521 :: uG1522 :: t
def nd_432_2pg_1 (t : List zTg) : List zTg := (67, [uL131, uL9]) :: t
def nd_432_2p : zS := ((nd_432_2pi_0 (nd_432_2pi_1 (nd_432_2pi_2 []))), (cx_432pr_0 (cx_432pr_1 [])), [uL65, uL1523], [uV2, uV1524, uV11, uV1525], [], (nd_432_0pf_0 (nd_432_0pf_1 (nd_432_0pf_2 []))), (nd_432_2pg_0 (nd_432_2pg_1 [])))
def nd_432_2 : zN := (30, nd_432_2p, ((-99999999829), [(2, (-100000000000)), (12, 100000000000), (16, (-24))]))
def nd_432_3pi_0 (t : List (Int × Int)) : List (Int × Int) := ui0 :: ui1454 :: (0, 0) :: ui52 :: (0, 0) :: ui52 :: (0, 1) :: (1, 5) :: t
def nd_432_3pi_1 (t : List (Int × Int)) : List (Int × Int) := ui52 :: ui48 :: ui68 :: ui52 :: (1, 1) :: (0, 6) :: (0, 1) :: (0, 6) :: t
def nd_432_3pi_2 (t : List (Int × Int)) : List (Int × Int) := (1, 5) :: t
def nd_432_3pf_0 (t : List zFa) : List zFa := uF1526 :: uF1460 :: uF1438 :: uF1423 :: uF1425 :: uF1494 :: uF1471 :: uF1495 :: t
def nd_432_3pf_1 (t : List zFa) : List zFa := uF1496 :: uF291 :: uF1109 :: uF1110 :: uF1362 :: uF1363 :: uF1497 :: uF1498 :: t
def nd_432_3pf_2 (t : List zFa) : List zFa := uF1499 :: uF1500 :: uF1502 :: uF1503 :: t
def nd_432_3p : zS := ((nd_432_3pi_0 (nd_432_3pi_1 (nd_432_3pi_2 []))), (cx_432pr_0 (cx_432pr_1 [])), [uL65, uL1523], [uV2, uV1524, uV11, uV1525], [], (nd_432_3pf_0 (nd_432_3pf_1 (nd_432_3pf_2 []))), (nd_432_2pg_0 (nd_432_2pg_1 [])))
def nd_432_3 : zN := (30, nd_432_3p, ((-99999999829), [(2, (-100000000000)), (4, (-100000000000)), (12, 100000000000), (16, (-24))]))
def ns_432 : List zN := [nd_432_0, nd_432_1, nd_432_2, nd_432_3]
set_option maxRecDepth 1000000 in
theorem ca_432 : x_okA mLT1 cq_432 mTS2 mTC2 mRUp cx_432 cs_432 hs_432 ns_432 (191, []) 53 54 = true := by decide +kernel
set_option maxRecDepth 1000000 in
theorem cb_432_0 : x_okB mLT1 cq_432 mTS2 mTC2 mRUp cx_432 cs_432 hs_432 ns_432 (191, []) 53 54 nd_432_0 = true := by decide +kernel
set_option maxRecDepth 1000000 in
theorem cb_432_1 : x_okB mLT1 cq_432 mTS2 mTC2 mRUp cx_432 cs_432 hs_432 ns_432 (191, []) 53 54 nd_432_1 = true := by decide +kernel
set_option maxRecDepth 1000000 in
theorem cb_432_2 : x_okB mLT1 cq_432 mTS2 mTC2 mRUp cx_432 cs_432 hs_432 ns_432 (191, []) 53 54 nd_432_2 = true := by decide +kernel
set_option maxRecDepth 1000000 in
theorem cb_432_3 : x_okB mLT1 cq_432 mTS2 mTC2 mRUp cx_432 cs_432 hs_432 ns_432 (191, []) 53 54 nd_432_3 = true := by decide +kernel
set_option maxRecDepth 1000000 in
theorem cc_432 : x_okC mLT1 cq_432 mTS2 mTC2 mRUp cx_432 cs_432 hs_432 ns_432 (191, []) 53 54 = true := by decide +kernel
theorem ck_432 : x_ok mLT1 cq_432 mTS2 mTC2 mRUp cx_432 cs_432 hs_432 ns_432 (191, []) 53 54 = true := x_ok_of ca_432 (List.forall_mem_cons.mpr ⟨cb_432_0, List.forall_mem_cons.mpr ⟨cb_432_1, List.forall_mem_cons.mpr ⟨cb_432_2, List.forall_mem_cons.mpr ⟨cb_432_3, fun _ h => absurd h List.not_mem_nil⟩⟩⟩⟩) cc_432
theorem sn_432 {W : Bool} {X : List Int32} : y_Snd (mGw W) mLT1 (J2 W X) X cx_432 := y_ok J2_J mTS2_ok1 mTC2_ok1 mRUp_ok1 (List.forall_mem_cons.mpr ⟨sn_417, List.forall_mem_cons.mpr ⟨sn_418, List.forall_mem_cons.mpr ⟨sn_419, List.forall_mem_cons.mpr ⟨sn_420, List.forall_mem_cons.mpr ⟨sn_422, List.forall_mem_cons.mpr ⟨sn_426, List.forall_mem_cons.mpr ⟨sn_427, List.forall_mem_cons.mpr ⟨sn_428, List.forall_mem_cons.mpr ⟨sn_430, List.forall_mem_cons.mpr ⟨sn_431, fun _ h => absurd h List.not_mem_nil⟩⟩⟩⟩⟩⟩⟩⟩⟩⟩) ck_432
end
