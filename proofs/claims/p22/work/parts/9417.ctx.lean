noncomputable section
/-! ===== readings, by program, checked by the kernel ===== -/
/-- Feeler.fill -/
def cx_367 : zCtx := (20, ([ui0, (1, 6), (0, 0), (0, 0), (0, 0)], [ur444], [], [], [uV2, uV11, uV12, uV58, uV97], [], []), [([ui0, (1, 6), (0, 0), (0, 0), (0, 0)], [ur444], [uL513], [], [], [], [])], [uk1411, uk1412, uk1407, uk1414], 2213, 7, 173)
set_option maxRecDepth 1000000 in
theorem ck_367 : x_ok mLT1 [cx_366] mTS2 mTC2 mRUp cx_367 [(74, [0])] [] [(22, ([(0, 3072), (1, 6), (0, 0), (0, 0), (0, 0), (0, 6)], [(11, false)], [((-1), [(1, 1), (2, (-1))])], [(2, 0, 0, []), (0, 0, 0, [(1, 1)]), (0, 0, 0, [(2, 1)]), (0, 0, 0, [(3, 1)]), (0, 0, 0, [(4, 1)]), (0, 0, 0, [(5, 1)])], [], [], []), (244, [(2, (-100000000000)), (3, (-100000000000)), (4, (-100000000000)), (5, (-40))]))] (253, []) 1960 42 = true := by decide +kernel
theorem sn_367 {W : Bool} {X : List Int32} : y_Snd (mGw W) mLT1 (J2 W X) X cx_367 := y_ok J2_J mTS2_ok1 mTC2_ok1 mRUp_ok1 (List.forall_mem_cons.mpr ⟨sn_366, fun _ h => absurd h List.not_mem_nil⟩) ck_367
/-- Feeler.findRows -/
def cx_368 : zCtx := (17, ([ui0, ui48, (1, 6), ui537, ui48], [ur444, ur431], [], [], [uV2, uV419, uV11, uV12, uV58], [uF41], []), [([ui0, ui48, (1, 6), ui537, ui48], [ur444, ur431], [], [], [], [], [uG1406])], [uk1417, uk1411, uk1412, uk1409, uk1407, uk1414], 2242, 8, 198)
set_option maxRecDepth 1000000 in
theorem ck_368 : x_ok mLT1 [cx_356, cx_357, cx_359, cx_367] mTS2 mTC2 mRUp cx_368 [(16, [0]), (27, [1]), (34, [2]), (45, [3])] [] [] (29, []) 2213 32 = true := by decide +kernel
theorem sn_368 {W : Bool} {X : List Int32} : y_Snd (mGw W) mLT1 (J2 W X) X cx_368 := y_ok J2_J mTS2_ok1 mTC2_ok1 mRUp_ok1 (List.forall_mem_cons.mpr ⟨sn_356, List.forall_mem_cons.mpr ⟨sn_357, List.forall_mem_cons.mpr ⟨sn_359, List.forall_mem_cons.mpr ⟨sn_367, fun _ h => absurd h List.not_mem_nil⟩⟩⟩⟩) ck_368
/-- HairRope.rows -/
def cx_369 : zCtx := (178, ([ui0, ui49, ui49, ui49], [ur441], [], [], [uV2, uV11, uV12, uV58], [], []), [([ui0, ui260, ui49, ui49], [ur441], [], [], [uV61], [], []), ([ui0, ui512, ui49, ui49], [ur441], [], [], [uV61], [], []), ([ui0, ui48, ui1306, ui49], [ur441], [], [], [uV61], [], []), ([ui0, ui48, ui1404, ui49], [ur441], [], [], [uV61], [], []), ([ui0, ui48, (1, 6), ui1096], [ur441], [], [], [uV61], [], []), ([ui0, ui48, (1, 6), (0, 0), ui49], [ur441], [], [], [uV97], [], [uG1406]), ([ui0, ui48, (1, 6), (1, 1), ui49], [ur441], [], [], [uV97], [], [uG1406]), ([ui0, ui48, (1, 6), ui260], [ur441], [], [], [uV61], [], [])], [uk1417, uk1411, uk1412, uk1409, uk1407, uk1414], 2269, 9, 222)
set_option maxRecDepth 1000000 in
theorem ck_369 : x_ok mLT1 [cx_354, cx_355, cx_368] mTS2 mTC2 mRUp cx_369 [(2, [0]), (9, [1]), (37, [2])] [] [] (27, []) 2242 30 = true := by decide +kernel
theorem sn_369 {W : Bool} {X : List Int32} : y_Snd (mGw W) mLT1 (J2 W X) X cx_369 := y_ok J2_J mTS2_ok1 mTC2_ok1 mRUp_ok1 (List.forall_mem_cons.mpr ⟨sn_354, List.forall_mem_cons.mpr ⟨sn_355, List.forall_mem_cons.mpr ⟨sn_368, fun _ h => absurd h List.not_mem_nil⟩⟩⟩) ck_369
/-- Feeler.bestPlace -/
def cx_370 : zCtx := (22, ([ui0, (1, 6)], [ur444], [], [], [uV2, uV11], [], []), [([ui0, (1, 6), ui1358], [ur444], [], [], [uV12], [], [])], [], 210, 1, 64)
set_option maxRecDepth 1000000 in
theorem ck_370 : x_ok mLT1 [] mTS2 mTC2 mRUp cx_370 [] [] [(13, ([(0, 3072), (1, 6), ((-2), 5), ((-2147483648), 2147483647), (0, 6)], [(11, false)], [], [(2, 0, 0, []), (0, 0, 0, [(1, 1)]), (0, 0, 0, [(2, 1)]), (0, 0, 0, [(3, 1)]), (0, 0, 0, [(4, 1)]), (5, 0, 0, [])], [], [], []), (200, [(4, (-32))]))] (210, []) 0 34 = true := by decide +kernel
theorem sn_370 {W : Bool} {X : List Int32} : y_Snd (mGw W) mLT1 (J2 W X) X cx_370 := y_ok J2_J mTS2_ok1 mTC2_ok1 mRUp_ok1 (fun _ h => absurd h List.not_mem_nil) ck_370
/-- HairRope.feel -/
def cx_371 : zCtx := (181, ([ui0, ui49, ui49, ui49], [ur441], [], [], [uV2, uV11, uV12, uV58], [], []), [([ui0, ui260, ui49, ui49], [ur441], [], [], [uV61], [], []), ([ui0, ui512, ui49, ui49], [ur441], [], [], [uV61], [], []), ([ui0, ui48, ui1306, ui49], [ur441], [], [], [uV61], [], []), ([ui0, ui48, ui1404, ui49], [ur441], [], [], [uV61], [], []), ([ui0, ui48, (1, 6), ui260], [ur441], [], [], [uV61], [], []), ([ui0, ui48, (1, 6), ui1385], [ur441], [], [], [uV61], [], []), ([ui0, ui48, (1, 6), ui537, ui1358], [ur441], [], [], [uV97], [], [uG1406])], [uk1417, uk1411, uk1412, uk1409, uk1407, uk1414], 2265, 9, 222)
set_option maxRecDepth 1000000 in
theorem ck_371 : x_ok mLT1 [cx_354, cx_355, cx_349, cx_368, cx_370] mTS2 mTC2 mRUp cx_371 [(2, [0]), (9, [1]), (16, [2]), (35, [3]), (43, [4])] [] [] (23, []) 2242 26 = true := by decide +kernel
theorem sn_371 {W : Bool} {X : List Int32} : y_Snd (mGw W) mLT1 (J2 W X) X cx_371 := y_ok J2_J mTS2_ok1 mTC2_ok1 mRUp_ok1 (List.forall_mem_cons.mpr ⟨sn_354, List.forall_mem_cons.mpr ⟨sn_355, List.forall_mem_cons.mpr ⟨sn_349, List.forall_mem_cons.mpr ⟨sn_368, List.forall_mem_cons.mpr ⟨sn_370, fun _ h => absurd h List.not_mem_nil⟩⟩⟩⟩⟩) ck_371
/-- HairRope.isSlot -/
def cx_372 : zCtx := (183, ([ui0, ui49], [], [], [], [uV11], [], []), [([ui0, (0, 2)], [], [], [], [uV64], [], []), ([ui0, ui1418], [], [], [], [uV62], [], []), ([ui0, ui260], [], [], [], [uV62], [], [])], [], 8, 0, 0)
set_option maxRecDepth 1000000 in
theorem ck_372 : x_ok mLT1 [] mTS2 mTC2 mRUp cx_372 [] [] [] (8, []) 0 11 = true := by decide +kernel
theorem sn_372 {W : Bool} {X : List Int32} : y_Snd (mGw W) mLT1 (J2 W X) X cx_372 := y_ok J2_J mTS2_ok1 mTC2_ok1 mRUp_ok1 (fun _ h => absurd h List.not_mem_nil) ck_372
def cx_373pi_0 (t : List (Int × Int)) : List (Int × Int) := ui0 :: ui1418 :: (0, 7) :: (0, 1) :: (0, 1) :: (0, 1) :: (0, 6) :: (0, 6) :: t
def cx_373pi_1 (t : List (Int × Int)) : List (Int × Int) := ui49 :: ui49 :: t
def cx_373p : zS := ((cx_373pi_0 (cx_373pi_1 [])), [ur441, ur439, ur431], [uL1419, uL1420], [], [uV2, uV11], [uF1158, uF1421, uF554, uF1198, uF1422, uF221, uF1423], [uG1424, uG1390])
/-- HairRope.hold -/
def cx_373 : zCtx := (182, cx_373p, [([ui0, ui1418, (0, 7), (0, 1), (0, 1), (0, 1), (0, 6), (0, 6), ui49, ui49], [ur441, ur439, ur431], [], [], [uV62], [uF1421], [])], [], 13, 1, 20)
set_option maxRecDepth 1000000 in
theorem ck_373 : x_ok mLT1 [cx_372] mTS2 mTC2 mRUp cx_373 [(1, [0])] [] [] (5, []) 8 8 = true := by decide +kernel
theorem sn_373 {W : Bool} {X : List Int32} : y_Snd (mGw W) mLT1 (J2 W X) X cx_373 := y_ok J2_J mTS2_ok1 mTC2_ok1 mRUp_ok1 (List.forall_mem_cons.mpr ⟨sn_372, fun _ h => absurd h List.not_mem_nil⟩) ck_373
/-- History.slotAt -/
def cx_374 : zCtx := (44, ([ui0], [ur439], [], [], [uV2, uV62], [], []), [([ui0], [ur439, ur1425], [], [], [uV419], [], [])], [], 11, 0, 0)
set_option maxRecDepth 1000000 in
theorem ck_374 : x_ok mLT1 [] mTS2 mTC2 mRUp cx_374 [] [] [] (11, []) 0 14 = true := by decide +kernel
theorem sn_374 {W : Bool} {X : List Int32} : y_Snd (mGw W) mLT1 (J2 W X) X cx_374 := y_ok J2_J mTS2_ok1 mTC2_ok1 mRUp_ok1 (fun _ h => absurd h List.not_mem_nil) ck_374
def cx_375p : zS := ((cx_149pi_0 (cx_149pi_1 (cx_149pi_2 (cx_149pi_3 (cx_149pi_4 []))))), [ur1425, ur431, ur432, ur426, ur563, ur564, ur565], [], [], [uV2, uV419], (cx_149pf_0 (cx_149pf_1 (cx_149pf_2 (cx_149pf_3 (cx_149pf_4 (cx_149pf_5 [])))))), [])
def cx_375q0 : zS := ((cx_149pi_0 (cx_149pi_1 (cx_149pi_2 (cx_149pi_3 (cx_149pi_4 []))))), [ur1425, ur431, ur432, ur426, ur563, ur564, ur565], [], [], [], [uF126, uF128, uF129, uF729], [uG1426])
/-- State.copyFrom -/
def cx_375 : zCtx := (102, cx_375p, [cx_375q0], kc_67, 57, 1, 64)
set_option maxRecDepth 1000000 in
theorem ck_375 : x_ok mLT1 [] mTS2 mTC2 mRUp cx_375 [] [(107, [1001263])] [] (57, []) 0 60 = true := by decide +kernel
theorem sn_375 {W : Bool} {X : List Int32} : y_Snd (mGw W) mLT1 (J2 W X) X cx_375 := y_ok J2_J mTS2_ok1 mTC2_ok1 mRUp_ok1 (fun _ h => absurd h List.not_mem_nil) ck_375
def cx_376pi_0 (t : List (Int × Int)) : List (Int × Int) := ui0 :: (0, 7) :: (0, 1) :: (0, 1) :: (0, 1) :: (0, 6) :: (0, 6) :: ui49 :: t
def cx_376pi_1 (t : List (Int × Int)) : List (Int × Int) := ui49 :: t
def cx_376p : zS := ((cx_376pi_0 (cx_376pi_1 [])), [ur439, ur431], [uL1427, uL1428], [], [uV2, uV62, uV419], [uF32, uF596, uF597, uF598, uF599], [uG1429, uG475])
/-- History.fillSlot -/
def cx_376 : zCtx := (43, cx_376p, [([ui0, (0, 7), (0, 1), (0, 1), (0, 1), (0, 6), (0, 6), ui49, ui49, ui49], [ur439, ur431], [], [], [uV64], [uF306], [uG1430, uG1431, uG1432])], kc_68, 76, 2, 85)
set_option maxRecDepth 1000000 in
theorem ck_376 : x_ok mLT1 [cx_374, cx_375] mTS2 mTC2 mRUp cx_376 [(2, [0]), (14, [1])] [(14, uN1433), (17, [1000691]), (25, [1000667])] [] (19, []) 57 22 = true := by decide +kernel
theorem sn_376 {W : Bool} {X : List Int32} : y_Snd (mGw W) mLT1 (J2 W X) X cx_376 := y_ok J2_J mTS2_ok1 mTC2_ok1 mRUp_ok1 (List.forall_mem_cons.mpr ⟨sn_374, List.forall_mem_cons.mpr ⟨sn_375, fun _ h => absurd h List.not_mem_nil⟩⟩) ck_376
def cx_377p : zS := ((cx_376pi_0 (cx_376pi_1 [])), [ur441, ur439, ur431], [uL1427, uL1428], [], [uV2, uV62], [uF1158, uF1434, uF554, uF1377, uF185, uF186, uF1435], [uG1429, uG475])
/-- HairRope.hold -/
def cx_377 : zCtx := (182, cx_377p, [([ui0, (0, 7), (0, 1), (0, 1), (0, 1), (0, 6), (0, 6), ui49, ui49, ui49], [ur441, ur439, ur431], [], [], [uV64], [uF1436], [uG1430, uG1431, uG1432])], kc_68, 89, 3, 108)
set_option maxRecDepth 1000000 in
theorem ck_377 : x_ok mLT1 [cx_372, cx_376] mTS2 mTC2 mRUp cx_377 [(1, [0]), (16, [1])] [] [] (13, []) 76 16 = true := by decide +kernel
theorem sn_377 {W : Bool} {X : List Int32} : y_Snd (mGw W) mLT1 (J2 W X) X cx_377 := y_ok J2_J mTS2_ok1 mTC2_ok1 mRUp_ok1 (List.forall_mem_cons.mpr ⟨sn_372, List.forall_mem_cons.mpr ⟨sn_376, fun _ h => absurd h List.not_mem_nil⟩⟩) ck_377
/-- History.slotAt -/
def cx_378 : zCtx := (44, ([ui0], [ur439], [], [], [uV2, uV64], [], []), [([ui0], [ur439, ur1437], [], [], [uV419], [], [])], [], 11, 0, 0)
set_option maxRecDepth 1000000 in
theorem ck_378 : x_ok mLT1 [] mTS2 mTC2 mRUp cx_378 [] [] [] (11, []) 0 14 = true := by decide +kernel
theorem sn_378 {W : Bool} {X : List Int32} : y_Snd (mGw W) mLT1 (J2 W X) X cx_378 := y_ok J2_J mTS2_ok1 mTC2_ok1 mRUp_ok1 (fun _ h => absurd h List.not_mem_nil) ck_378
def cx_379p : zS := ((cx_149pi_0 (cx_149pi_1 (cx_149pi_2 (cx_149pi_3 (cx_149pi_4 []))))), [ur1437, ur431, ur432, ur426, ur563, ur564, ur565], [], [], [uV2, uV419], (cx_149pf_0 (cx_149pf_1 (cx_149pf_2 (cx_149pf_3 (cx_149pf_4 (cx_149pf_5 [])))))), [])
def cx_379q0 : zS := ((cx_149pi_0 (cx_149pi_1 (cx_149pi_2 (cx_149pi_3 (cx_149pi_4 []))))), [ur1437, ur431, ur432, ur426, ur563, ur564, ur565], [], [], [], [uF126, uF128, uF129, uF729], [uG1438])
/-- State.copyFrom -/
def cx_379 : zCtx := (102, cx_379p, [cx_379q0], kc_69, 57, 1, 64)
set_option maxRecDepth 1000000 in
theorem ck_379 : x_ok mLT1 [] mTS2 mTC2 mRUp cx_379 [] [(107, [1001262])] [] (57, []) 0 60 = true := by decide +kernel
theorem sn_379 {W : Bool} {X : List Int32} : y_Snd (mGw W) mLT1 (J2 W X) X cx_379 := y_ok J2_J mTS2_ok1 mTC2_ok1 mRUp_ok1 (fun _ h => absurd h List.not_mem_nil) ck_379
def cx_380p : zS := ((cx_376pi_0 (cx_376pi_1 [])), [ur439, ur431], [uL1427, uL1428], [], [uV2, uV64, uV419], [uF32, uF596, uF597, uF598, uF599], [uG1429, uG475])
/-- History.fillSlot -/
def cx_380 : zCtx := (43, cx_380p, [([ui0, (0, 7), (0, 1), (0, 1), (0, 1), (0, 6), (0, 6), ui49, ui49, ui49], [ur439, ur431], [], [], [uV64], [uF306], [uG1439, uG1440, uG1441])], kc_70, 76, 2, 85)
set_option maxRecDepth 1000000 in
theorem ck_380 : x_ok mLT1 [cx_378, cx_379] mTS2 mTC2 mRUp cx_380 [(2, [0]), (14, [1])] [(14, uN1433), (17, [1000691]), (25, [1000667])] [] (19, []) 57 22 = true := by decide +kernel
theorem sn_380 {W : Bool} {X : List Int32} : y_Snd (mGw W) mLT1 (J2 W X) X cx_380 := y_ok J2_J mTS2_ok1 mTC2_ok1 mRUp_ok1 (List.forall_mem_cons.mpr ⟨sn_378, List.forall_mem_cons.mpr ⟨sn_379, fun _ h => absurd h List.not_mem_nil⟩⟩) ck_380
def cx_381p : zS := ((cx_376pi_0 (cx_376pi_1 [])), [ur441, ur439, ur431], [uL1427, uL1428], [], [uV2, uV64], [uF1158, uF1434, uF554, uF1377, uF185, uF186, uF1435], [uG1429, uG475])
/-- HairRope.hold -/
def cx_381 : zCtx := (182, cx_381p, [([ui0, (0, 7), (0, 1), (0, 1), (0, 1), (0, 6), (0, 6), ui49, ui49, ui49], [ur441, ur439, ur431], [], [], [uV64], [uF1436], [uG1439, uG1440, uG1441])], kc_70, 89, 3, 108)
set_option maxRecDepth 1000000 in
theorem ck_381 : x_ok mLT1 [cx_372, cx_380] mTS2 mTC2 mRUp cx_381 [(1, [0]), (16, [1])] [] [] (13, []) 76 16 = true := by decide +kernel
theorem sn_381 {W : Bool} {X : List Int32} : y_Snd (mGw W) mLT1 (J2 W X) X cx_381 := y_ok J2_J mTS2_ok1 mTC2_ok1 mRUp_ok1 (List.forall_mem_cons.mpr ⟨sn_372, List.forall_mem_cons.mpr ⟨sn_380, fun _ h => absurd h List.not_mem_nil⟩⟩) ck_381
/-- History.slotAt -/
def cx_382 : zCtx := (44, ([ui0], [ur439], [], [], [uV2, uV388], [], []), [([ui0], [ur439, ur1442], [], [], [uV419], [], [])], [], 11, 0, 0)
set_option maxRecDepth 1000000 in
theorem ck_382 : x_ok mLT1 [] mTS2 mTC2 mRUp cx_382 [] [] [] (11, []) 0 14 = true := by decide +kernel
theorem sn_382 {W : Bool} {X : List Int32} : y_Snd (mGw W) mLT1 (J2 W X) X cx_382 := y_ok J2_J mTS2_ok1 mTC2_ok1 mRUp_ok1 (fun _ h => absurd h List.not_mem_nil) ck_382
def cx_383p : zS := ((cx_149pi_0 (cx_149pi_1 (cx_149pi_2 (cx_149pi_3 (cx_149pi_4 []))))), [ur1442, ur431, ur432, ur426, ur563, ur564, ur565], [], [], [uV2, uV419], (cx_149pf_0 (cx_149pf_1 (cx_149pf_2 (cx_149pf_3 (cx_149pf_4 (cx_149pf_5 [])))))), [])
def cx_383q0 : zS := ((cx_149pi_0 (cx_149pi_1 (cx_149pi_2 (cx_149pi_3 (cx_149pi_4 []))))), [ur1442, ur431, ur432, ur426, ur563, ur564, ur565], [], [], [], [uF126, uF128, uF129, uF729], [uG1443])
/-- State.copyFrom -/
def cx_383 : zCtx := (102, cx_383p, [cx_383q0], kc_71, 57, 1, 64)
set_option maxRecDepth 1000000 in
theorem ck_383 : x_ok mLT1 [] mTS2 mTC2 mRUp cx_383 [] [(107, [1001261])] [] (57, []) 0 60 = true := by decide +kernel
theorem sn_383 {W : Bool} {X : List Int32} : y_Snd (mGw W) mLT1 (J2 W X) X cx_383 := y_ok J2_J mTS2_ok1 mTC2_ok1 mRUp_ok1 (fun _ h => absurd h List.not_mem_nil) ck_383
def cx_384p : zS := ((cx_376pi_0 (cx_376pi_1 [])), [ur439, ur431], [uL1427, uL1428], [], [uV2, uV388, uV419], [uF32, uF596, uF597, uF598, uF599], [uG1429, uG475])
/-- History.fillSlot -/
def cx_384 : zCtx := (43, cx_384p, [([ui0, (0, 7), (0, 1), (0, 1), (0, 1), (0, 6), (0, 6), ui49, ui49, ui49], [ur439, ur431], [], [], [uV64], [uF306], [uG1444, uG1445, uG1446])], kc_72, 76, 2, 85)
set_option maxRecDepth 1000000 in
theorem ck_384 : x_ok mLT1 [cx_382, cx_383] mTS2 mTC2 mRUp cx_384 [(2, [0]), (14, [1])] [(14, uN1433), (17, [1000691]), (25, [1000667])] [] (19, []) 57 22 = true := by decide +kernel
theorem sn_384 {W : Bool} {X : List Int32} : y_Snd (mGw W) mLT1 (J2 W X) X cx_384 := y_ok J2_J mTS2_ok1 mTC2_ok1 mRUp_ok1 (List.forall_mem_cons.mpr ⟨sn_382, List.forall_mem_cons.mpr ⟨sn_383, fun _ h => absurd h List.not_mem_nil⟩⟩) ck_384
def cx_385p : zS := ((cx_376pi_0 (cx_376pi_1 [])), [ur441, ur439, ur431], [uL1427, uL1428], [], [uV2, uV388], [uF1158, uF1434, uF554, uF1377, uF185, uF186, uF1435], [uG1429, uG475])
/-- HairRope.hold -/
def cx_385 : zCtx := (182, cx_385p, [([ui0, (0, 7), (0, 1), (0, 1), (0, 1), (0, 6), (0, 6), ui49, ui49, ui49], [ur441, ur439, ur431], [], [], [uV64], [uF1436], [uG1444, uG1445, uG1446])], kc_72, 89, 3, 108)
set_option maxRecDepth 1000000 in
theorem ck_385 : x_ok mLT1 [cx_372, cx_384] mTS2 mTC2 mRUp cx_385 [(1, [0]), (16, [1])] [] [] (13, []) 76 16 = true := by decide +kernel
theorem sn_385 {W : Bool} {X : List Int32} : y_Snd (mGw W) mLT1 (J2 W X) X cx_385 := y_ok J2_J mTS2_ok1 mTC2_ok1 mRUp_ok1 (List.forall_mem_cons.mpr ⟨sn_372, List.forall_mem_cons.mpr ⟨sn_384, fun _ h => absurd h List.not_mem_nil⟩⟩) ck_385
def cx_386pi_0 (t : List (Int × Int)) : List (Int × Int) := ui0 :: ui260 :: (0, 7) :: (0, 1) :: (0, 1) :: (0, 1) :: (0, 6) :: (0, 6) :: t
def cx_386pi_1 (t : List (Int × Int)) : List (Int × Int) := ui49 :: ui49 :: t
def cx_386p : zS := ((cx_386pi_0 (cx_386pi_1 [])), [ur441, ur439, ur431], [uL1419, uL1420], [], [uV2, uV11], [uF1158, uF1421, uF554, uF1198, uF1422, uF221, uF1423], [uG1424, uG1390])
/-- HairRope.hold -/
def cx_386 : zCtx := (182, cx_386p, [([ui0, ui260, (0, 7), (0, 1), (0, 1), (0, 1), (0, 6), (0, 6), ui49, ui49], [ur441, ur439, ur431], [], [], [uV62], [uF1421], [])], [], 13, 1, 20)
set_option maxRecDepth 1000000 in
theorem ck_386 : x_ok mLT1 [cx_372] mTS2 mTC2 mRUp cx_386 [(1, [0])] [] [] (5, []) 8 8 = true := by decide +kernel
theorem sn_386 {W : Bool} {X : List Int32} : y_Snd (mGw W) mLT1 (J2 W X) X cx_386 := y_ok J2_J mTS2_ok1 mTC2_ok1 mRUp_ok1 (List.forall_mem_cons.mpr ⟨sn_372, fun _ h => absurd h List.not_mem_nil⟩) ck_386
def cx_387pi_0 (t : List (Int × Int)) : List (Int × Int) := ui0 :: ui1418 :: (0, 7) :: (0, 1) :: (0, 1) :: (0, 1) :: (0, 6) :: (0, 6) :: t
def cx_387pi_1 (t : List (Int × Int)) : List (Int × Int) := ui49 :: ui49 :: ui438 :: t
def cx_387p : zS := ((cx_387pi_0 (cx_387pi_1 [])), [ur441, ur439, ur431], [uL1419, uL1420], [], [uV2, uV11], [uF1158, uF1421, uF554, uF1198, uF1422, uF221, uF1423, uF1447], [uG1424, uG1390])
/-- HairRope.restore -/
def cx_387 : zCtx := (184, cx_387p, [([ui0, ui1418, (0, 7), (0, 1), (0, 1), (0, 1), (0, 6), (0, 6), ui49, ui49, ui438], [ur441, ur439, ur431], [], [], [uV62], [uF1198, uF1422, uF221, uF1423, uF1447], [uG1390])], [], 13, 1, 20)
set_option maxRecDepth 1000000 in
theorem ck_387 : x_ok mLT1 [cx_372] mTS2 mTC2 mRUp cx_387 [(1, [0])] [] [] (5, []) 8 8 = true := by decide +kernel
theorem sn_387 {W : Bool} {X : List Int32} : y_Snd (mGw W) mLT1 (J2 W X) X cx_387 := y_ok J2_J mTS2_ok1 mTC2_ok1 mRUp_ok1 (List.forall_mem_cons.mpr ⟨sn_372, fun _ h => absurd h List.not_mem_nil⟩) ck_387
def cx_388p : zS := ((cx_149pi_0 (cx_149pi_1 (cx_149pi_2 (cx_149pi_3 (cx_149pi_4 []))))), [ur431, ur1425, ur1448, ur1449, ur1450, ur1451, ur1452], [], [], [uV2, uV419], (cx_149pf_0 (cx_149pf_1 (cx_149pf_2 (cx_149pf_3 (cx_149pf_4 (cx_149pf_5 [])))))), [])
def cx_388q0 : zS := ((cx_149pi_0 (cx_149pi_1 (cx_149pi_2 (cx_149pi_3 (cx_149pi_4 []))))), [ur431, ur1425, ur1448, ur1449, ur1450, ur1451, ur1452], [], [], [], [uF126, uF128, uF129, uF729], [uG1426])
/-- State.copyFrom -/
def cx_388 : zCtx := (102, cx_388p, [cx_388q0], kc_53, 57, 1, 64)
set_option maxRecDepth 1000000 in
theorem ck_388 : x_ok mLT1 [] mTS2 mTC2 mRUp cx_388 [] [(107, [1001263])] [] (57, []) 0 60 = true := by decide +kernel
theorem sn_388 {W : Bool} {X : List Int32} : y_Snd (mGw W) mLT1 (J2 W X) X cx_388 := y_ok J2_J mTS2_ok1 mTC2_ok1 mRUp_ok1 (fun _ h => absurd h List.not_mem_nil) ck_388
def cx_389pi_0 (t : List (Int × Int)) : List (Int × Int) := ui0 :: ui438 :: (0, 7) :: (0, 1) :: (0, 1) :: (0, 1) :: (0, 6) :: (0, 6) :: t
def cx_389pi_1 (t : List (Int × Int)) : List (Int × Int) := ui49 :: ui49 :: t
def cx_389p : zS := ((cx_389pi_0 (cx_389pi_1 [])), [ur439, ur431], [uL1419, uL1420], [], [uV2, uV62, uV419], [uF178, uF177, uF500, uF1079, uF420, uF421], [uG1424, uG1390])
/-- History.takeSlot -/
def cx_389 : zCtx := (45, cx_389p, [([ui0, ui438, (0, 7), (0, 1), (0, 1), (0, 1), (0, 6), (0, 6), ui49, ui49], [ur439, ur431], [], [], [uV62], [uF500, uF1079, uF420, uF421, uF178], [(101, [uL67, uL65, uL63]), uG1390]), ([ui0, ui438, (0, 7), (0, 1), (0, 1), (0, 1), (0, 6), (0, 6), ui49, ui49, ui512, (0, 6), ui49, ui49], [ur439, ur431], [], [], [uV64], [uF500, uF308, uF425, uF1453, uF440], [(101, [uL67, uL65, uL169]), (249, [uL78, uL193, uL212, uL205, uL63])])], kc_54, 78, 2, 85)
set_option maxRecDepth 1000000 in
theorem ck_389 : x_ok mLT1 [cx_374, cx_388] mTS2 mTC2 mRUp cx_389 [(2, [0]), (25, [1])] [(17, [1000668]), (18, uN1454), (23, uN1455), (28, uN1456)] [] (21, []) 57 24 = true := by decide +kernel
theorem sn_389 {W : Bool} {X : List Int32} : y_Snd (mGw W) mLT1 (J2 W X) X cx_389 := y_ok J2_J mTS2_ok1 mTC2_ok1 mRUp_ok1 (List.forall_mem_cons.mpr ⟨sn_374, List.forall_mem_cons.mpr ⟨sn_388, fun _ h => absurd h List.not_mem_nil⟩⟩) ck_389
def cx_390pi_0 (t : List (Int × Int)) : List (Int × Int) := ui0 :: (0, 7) :: (0, 1) :: (0, 1) :: (0, 1) :: (0, 6) :: (0, 6) :: ui49 :: t
def cx_390pi_1 (t : List (Int × Int)) : List (Int × Int) := ui49 :: ui438 :: t
def cx_390p : zS := ((cx_390pi_0 (cx_390pi_1 [])), [ur441, ur439, ur431], [uL1427, uL1428], [], [uV2, uV62], [uF1158, uF1434, uF554, uF1377, uF185, uF186, uF1435, uF1457], [uG1429, uG475])
/-- HairRope.restore -/
def cx_390 : zCtx := (184, cx_390p, [([ui0, (0, 7), (0, 1), (0, 1), (0, 1), (0, 6), (0, 6), ui49, ui49, ui438, ui512, (0, 6), ui49, ui49], [ur441, ur439, ur431], [], [], [uV64], [uF1377, uF1458, uF1459, uF1460, uF1461], [(101, [uL9, uL65, uL169]), (249, [uL104, uL193, uL212, uL205, uL63])]), ([ui0, (0, 7), (0, 1), (0, 1), (0, 1), (0, 6), (0, 6), ui49, ui49, ui438], [ur441, ur439, ur431], [], [], [uV62], [uF1377, uF185, uF186, uF1435, uF1457], [(101, [uL9, uL65, uL63]), uG475])], kc_54, 91, 3, 108)
set_option maxRecDepth 1000000 in
theorem ck_390 : x_ok mLT1 [cx_372, cx_389] mTS2 mTC2 mRUp cx_390 [(1, [0]), (16, [1])] [] [] (13, []) 78 16 = true := by decide +kernel
theorem sn_390 {W : Bool} {X : List Int32} : y_Snd (mGw W) mLT1 (J2 W X) X cx_390 := y_ok J2_J mTS2_ok1 mTC2_ok1 mRUp_ok1 (List.forall_mem_cons.mpr ⟨sn_372, List.forall_mem_cons.mpr ⟨sn_389, fun _ h => absurd h List.not_mem_nil⟩⟩) ck_390
def cx_391p : zS := ((cx_149pi_0 (cx_149pi_1 (cx_149pi_2 (cx_149pi_3 (cx_149pi_4 []))))), [ur431, ur1437, ur1462, ur1463, ur1464, ur1465, ur1466], [], [], [uV2, uV419], (cx_149pf_0 (cx_149pf_1 (cx_149pf_2 (cx_149pf_3 (cx_149pf_4 (cx_149pf_5 [])))))), [])
def cx_391q0 : zS := ((cx_149pi_0 (cx_149pi_1 (cx_149pi_2 (cx_149pi_3 (cx_149pi_4 []))))), [ur431, ur1437, ur1462, ur1463, ur1464, ur1465, ur1466], [], [], [], [uF126, uF128, uF129, uF729], [uG1438])
/-- State.copyFrom -/
def cx_391 : zCtx := (102, cx_391p, [cx_391q0], kc_53, 57, 1, 64)
set_option maxRecDepth 1000000 in
theorem ck_391 : x_ok mLT1 [] mTS2 mTC2 mRUp cx_391 [] [(107, [1001262])] [] (57, []) 0 60 = true := by decide +kernel
theorem sn_391 {W : Bool} {X : List Int32} : y_Snd (mGw W) mLT1 (J2 W X) X cx_391 := y_ok J2_J mTS2_ok1 mTC2_ok1 mRUp_ok1 (fun _ h => absurd h List.not_mem_nil) ck_391
def cx_392p : zS := ((cx_389pi_0 (cx_389pi_1 [])), [ur439, ur431], [uL1419, uL1420], [], [uV2, uV64, uV419], [uF178, uF177, uF500, uF1079, uF420, uF421], [uG1424, uG1390])
/-- History.takeSlot -/
def cx_392 : zCtx := (45, cx_392p, [([ui0, ui438, (0, 7), (0, 1), (0, 1), (0, 1), (0, 6), (0, 6), ui49, ui49], [ur439, ur431], [], [], [uV62], [uF500, uF1079, uF420, uF421, uF178], [(101, [uL67, uL114, uL63]), uG1390]), ([ui0, ui438, (0, 7), (0, 1), (0, 1), (0, 1), (0, 6), (0, 6), ui49, ui49, ui512, (0, 6), ui49, ui49], [ur439, ur431], [], [], [uV64], [uF500, uF308, uF425, uF1453, uF440], [(101, [uL67, uL114, uL169]), (249, [uL78, uL193, uL212, uL205, uL65])])], kc_54, 78, 2, 85)
set_option maxRecDepth 1000000 in
theorem ck_392 : x_ok mLT1 [cx_378, cx_391] mTS2 mTC2 mRUp cx_392 [(2, [0]), (25, [1])] [(17, [1000668]), (18, uN1454), (23, uN1455), (28, uN1456)] [] (21, []) 57 24 = true := by decide +kernel
theorem sn_392 {W : Bool} {X : List Int32} : y_Snd (mGw W) mLT1 (J2 W X) X cx_392 := y_ok J2_J mTS2_ok1 mTC2_ok1 mRUp_ok1 (List.forall_mem_cons.mpr ⟨sn_378, List.forall_mem_cons.mpr ⟨sn_391, fun _ h => absurd h List.not_mem_nil⟩⟩) ck_392
def cx_393p : zS := ((cx_390pi_0 (cx_390pi_1 [])), [ur441, ur439, ur431], [uL1427, uL1428], [], [uV2, uV64], [uF1158, uF1434, uF554, uF1377, uF185, uF186, uF1435, uF1457], [uG1429, uG475])
/-- HairRope.restore -/
def cx_393 : zCtx := (184, cx_393p, [([ui0, (0, 7), (0, 1), (0, 1), (0, 1), (0, 6), (0, 6), ui49, ui49, ui438, ui512, (0, 6), ui49, ui49], [ur441, ur439, ur431], [], [], [uV64], [uF1377, uF1458, uF1459, uF1460, uF1461], [(101, [uL9, uL114, uL169]), (249, [uL104, uL193, uL212, uL205, uL65])]), ([ui0, (0, 7), (0, 1), (0, 1), (0, 1), (0, 6), (0, 6), ui49, ui49, ui438], [ur441, ur439, ur431], [], [], [uV62], [uF1377, uF185, uF186, uF1435, uF1457], [(101, [uL9, uL114, uL63]), uG475])], kc_54, 91, 3, 108)
set_option maxRecDepth 1000000 in
theorem ck_393 : x_ok mLT1 [cx_372, cx_392] mTS2 mTC2 mRUp cx_393 [(1, [0]), (16, [1])] [] [] (13, []) 78 16 = true := by decide +kernel
theorem sn_393 {W : Bool} {X : List Int32} : y_Snd (mGw W) mLT1 (J2 W X) X cx_393 := y_ok J2_J mTS2_ok1 mTC2_ok1 mRUp_ok1 (List.forall_mem_cons.mpr ⟨sn_372, List.forall_mem_cons.mpr ⟨sn_392, fun _ h => absurd h List.not_mem_nil⟩⟩) ck_393
def cx_394p : zS := ((cx_149pi_0 (cx_149pi_1 (cx_149pi_2 (cx_149pi_3 (cx_149pi_4 []))))), [ur431, ur1442, ur1467, ur1468, ur1469, ur1470, ur1471], [], [], [uV2, uV419], (cx_149pf_0 (cx_149pf_1 (cx_149pf_2 (cx_149pf_3 (cx_149pf_4 (cx_149pf_5 [])))))), [])
def cx_394q0 : zS := ((cx_149pi_0 (cx_149pi_1 (cx_149pi_2 (cx_149pi_3 (cx_149pi_4 []))))), [ur431, ur1442, ur1467, ur1468, ur1469, ur1470, ur1471], [], [], [], [uF126, uF128, uF129, uF729], [uG1443])
/-- State.copyFrom -/
def cx_394 : zCtx := (102, cx_394p, [cx_394q0], kc_53, 57, 1, 64)
set_option maxRecDepth 1000000 in
theorem ck_394 : x_ok mLT1 [] mTS2 mTC2 mRUp cx_394 [] [(107, [1001261])] [] (57, []) 0 60 = true := by decide +kernel
theorem sn_394 {W : Bool} {X : List Int32} : y_Snd (mGw W) mLT1 (J2 W X) X cx_394 := y_ok J2_J mTS2_ok1 mTC2_ok1 mRUp_ok1 (fun _ h => absurd h List.not_mem_nil) ck_394
def cx_395p : zS := ((cx_389pi_0 (cx_389pi_1 [])), [ur439, ur431], [uL1419, uL1420], [], [uV2, uV388, uV419], [uF178, uF177, uF500, uF1079, uF420, uF421], [uG1424, uG1390])
/-- History.takeSlot -/
def cx_395 : zCtx := (45, cx_395p, [([ui0, ui438, (0, 7), (0, 1), (0, 1), (0, 1), (0, 6), (0, 6), ui49, ui49], [ur439, ur431], [], [], [uV62], [uF500, uF1079, uF420, uF421, uF178], [(101, [uL67, uL36, uL63]), uG1390]), ([ui0, ui438, (0, 7), (0, 1), (0, 1), (0, 1), (0, 6), (0, 6), ui49, ui49, ui512, (0, 6), ui49, ui49], [ur439, ur431], [], [], [uV64], [uF500, uF308, uF425, uF1453, uF440], [(101, [uL67, uL36, uL169]), (249, [uL78, uL193, uL212, uL205, uL114])])], kc_54, 78, 2, 85)
set_option maxRecDepth 1000000 in
theorem ck_395 : x_ok mLT1 [cx_382, cx_394] mTS2 mTC2 mRUp cx_395 [(2, [0]), (25, [1])] [(17, [1000668]), (18, uN1454), (23, uN1455), (28, uN1456)] [] (21, []) 57 24 = true := by decide +kernel
theorem sn_395 {W : Bool} {X : List Int32} : y_Snd (mGw W) mLT1 (J2 W X) X cx_395 := y_ok J2_J mTS2_ok1 mTC2_ok1 mRUp_ok1 (List.forall_mem_cons.mpr ⟨sn_382, List.forall_mem_cons.mpr ⟨sn_394, fun _ h => absurd h List.not_mem_nil⟩⟩) ck_395
def cx_396p : zS := ((cx_390pi_0 (cx_390pi_1 [])), [ur441, ur439, ur431], [uL1427, uL1428], [], [uV2, uV388], [uF1158, uF1434, uF554, uF1377, uF185, uF186, uF1435, uF1457], [uG1429, uG475])
/-- HairRope.restore -/
def cx_396 : zCtx := (184, cx_396p, [([ui0, (0, 7), (0, 1), (0, 1), (0, 1), (0, 6), (0, 6), ui49, ui49, ui438, ui512, (0, 6), ui49, ui49], [ur441, ur439, ur431], [], [], [uV64], [uF1377, uF1458, uF1459, uF1460, uF1461], [(101, [uL9, uL36, uL169]), (249, [uL104, uL193, uL212, uL205, uL114])]), ([ui0, (0, 7), (0, 1), (0, 1), (0, 1), (0, 6), (0, 6), ui49, ui49, ui438], [ur441, ur439, ur431], [], [], [uV62], [uF1377, uF185, uF186, uF1435, uF1457], [(101, [uL9, uL36, uL63]), uG475])], kc_54, 91, 3, 108)
set_option maxRecDepth 1000000 in
theorem ck_396 : x_ok mLT1 [cx_372, cx_395] mTS2 mTC2 mRUp cx_396 [(1, [0]), (16, [1])] [] [] (13, []) 78 16 = true := by decide +kernel
theorem sn_396 {W : Bool} {X : List Int32} : y_Snd (mGw W) mLT1 (J2 W X) X cx_396 := y_ok J2_J mTS2_ok1 mTC2_ok1 mRUp_ok1 (List.forall_mem_cons.mpr ⟨sn_372, List.forall_mem_cons.mpr ⟨sn_395, fun _ h => absurd h List.not_mem_nil⟩⟩) ck_396
def cx_397pi_0 (t : List (Int × Int)) : List (Int × Int) := ui0 :: ui260 :: (0, 7) :: (0, 1) :: (0, 1) :: (0, 1) :: (0, 6) :: (0, 6) :: t
def cx_397pi_1 (t : List (Int × Int)) : List (Int × Int) := ui49 :: ui49 :: ui438 :: t
def cx_397p : zS := ((cx_397pi_0 (cx_397pi_1 [])), [ur441, ur439, ur431], [uL1419, uL1420], [], [uV2, uV11], [uF1158, uF1421, uF554, uF1198, uF1422, uF221, uF1423, uF1447], [uG1424, uG1390])
/-- HairRope.restore -/
def cx_397 : zCtx := (184, cx_397p, [([ui0, ui260, (0, 7), (0, 1), (0, 1), (0, 1), (0, 6), (0, 6), ui49, ui49, ui438], [ur441, ur439, ur431], [], [], [uV62], [uF1198, uF1422, uF221, uF1423, uF1447], [uG1390])], [], 13, 1, 20)
set_option maxRecDepth 1000000 in
theorem ck_397 : x_ok mLT1 [cx_372] mTS2 mTC2 mRUp cx_397 [(1, [0])] [] [] (5, []) 8 8 = true := by decide +kernel
theorem sn_397 {W : Bool} {X : List Int32} : y_Snd (mGw W) mLT1 (J2 W X) X cx_397 := y_ok J2_J mTS2_ok1 mTC2_ok1 mRUp_ok1 (List.forall_mem_cons.mpr ⟨sn_372, fun _ h => absurd h List.not_mem_nil⟩) ck_397
/-- State.lengthBelow -/
def cx_398 : zCtx := (105, ([ui0, ui124, (0, 6)], [ur431], [], [], [uV2, uV11], [uF39], []), [([ui0, ui124, (0, 6), ui49], [ur431], [], [], [uV58], [], [])], [], 117, 1, 64)
set_option maxRecDepth 1000000 in
theorem ck_398 : x_ok mLT1 [] mTS2 mTC2 mRUp cx_398 [] [] [(10, ([(0, 3072), ((-1), (-1)), (0, 6), ((-2147483648), 2147483647), (0, 6)], [(6, false)], [], [(2, 0, 0, []), (0, 0, 0, [(1, 1)]), (0, 0, 0, [(3, 1)]), (0, 0, 0, [(4, 1)])], [], [(0, (false, 6, 0, []), 0, 0, 0, [(2, 1)])], []), ((-99999999892), [(1, (-100000000000)), (4, (-17))]))] (117, []) 0 19 = true := by decide +kernel
theorem sn_398 {W : Bool} {X : List Int32} : y_Snd (mGw W) mLT1 (J2 W X) X cx_398 := y_ok J2_J mTS2_ok1 mTC2_ok1 mRUp_ok1 (fun _ h => absurd h List.not_mem_nil) ck_398
/-- State.ropeLength -/
def cx_399 : zCtx := (104, ([ui0, (0, 6)], [ur431], [], [], [uV2], [uF790], []), [([ui0, (0, 6), ui49], [ur431], [], [], [uV12], [], [])], [], 121, 2, 87)
set_option maxRecDepth 1000000 in
theorem ck_399 : x_ok mLT1 [cx_398] mTS2 mTC2 mRUp cx_399 [(2, [0])] [] [] (4, []) 117 7 = true := by decide +kernel
theorem sn_399 {W : Bool} {X : List Int32} : y_Snd (mGw W) mLT1 (J2 W X) X cx_399 := y_ok J2_J mTS2_ok1 mTC2_ok1 mRUp_ok1 (List.forall_mem_cons.mpr ⟨sn_398, fun _ h => absurd h List.not_mem_nil⟩) ck_399
/-- State.sumOfHair -/
def cx_400 : zCtx := (108, ([ui0, (0, 6)], [ur431], [], [], [uV2], [uF38], []), [([ui0, (0, 6), ui49], [ur431], [], [], [uV12], [], [])], [], 113, 0, 0)
set_option maxRecDepth 1000000 in
theorem ck_400 : x_ok mLT1 [] mTS2 mTC2 mRUp cx_400 [] [] [(4, ([(0, 3072), (0, 6), ((-2147483648), 2147483647), (0, 6)], [(6, false)], [], [(2, 0, 0, []), (0, 0, 0, [(2, 1)]), (0, 0, 0, [(3, 1)])], [], [(0, (false, 5, 0, []), 0, 0, 0, [(1, 1)])], []), (108, [(3, (-17))]))] (113, []) 0 19 = true := by decide +kernel
theorem sn_400 {W : Bool} {X : List Int32} : y_Snd (mGw W) mLT1 (J2 W X) X cx_400 := y_ok J2_J mTS2_ok1 mTC2_ok1 mRUp_ok1 (fun _ h => absurd h List.not_mem_nil) ck_400
/-- State.housesInRope -/
def cx_401 : zCtx := (109, ([ui0, (0, 6)], [ur431], [], [], [uV2], [uF790], []), [([ui0, (0, 6), ui49], [ur431], [], [], [uV12], [], [])], [], 125, 0, 0)
set_option maxRecDepth 1000000 in
theorem ck_401 : x_ok mLT1 [] mTS2 mTC2 mRUp cx_401 [] [] [(4, ([(0, 3072), (0, 6), ((-2147483648), 2147483647), (0, 6)], [(6, false)], [], [(2, 0, 0, []), (0, 0, 0, [(2, 1)]), (0, 0, 0, [(3, 1)])], [], [(0, (false, 6, 0, []), 0, 0, 0, [(1, 1)])], []), (120, [(3, (-19))]))] (125, []) 0 21 = true := by decide +kernel
theorem sn_401 {W : Bool} {X : List Int32} : y_Snd (mGw W) mLT1 (J2 W X) X cx_401 := y_ok J2_J mTS2_ok1 mTC2_ok1 mRUp_ok1 (fun _ h => absurd h List.not_mem_nil) ck_401
/-- State.sumOfGiven -/
def cx_402 : zCtx := (110, ([ui0, (0, 6)], [ur431], [], [], [uV2], [uF38], []), [([ui0, (0, 6), ui49], [ur431], [], [], [uV12], [], [])], [], 113, 0, 0)
set_option maxRecDepth 1000000 in
theorem ck_402 : x_ok mLT1 [] mTS2 mTC2 mRUp cx_402 [] [] [(4, ([(0, 3072), (0, 6), ((-2147483648), 2147483647), (0, 6)], [(6, false)], [], [(2, 0, 0, []), (0, 0, 0, [(2, 1)]), (0, 0, 0, [(3, 1)])], [], [(0, (false, 5, 0, []), 0, 0, 0, [(1, 1)])], []), (108, [(3, (-17))]))] (113, []) 0 19 = true := by decide +kernel
theorem sn_402 {W : Bool} {X : List Int32} : y_Snd (mGw W) mLT1 (J2 W X) X cx_402 := y_ok J2_J mTS2_ok1 mTC2_ok1 mRUp_ok1 (fun _ h => absurd h List.not_mem_nil) ck_402
/-- State.housesWithoutHair -/
def cx_403 : zCtx := (111, ([ui0, (0, 6)], [ur431], [], [], [uV2], [uF38], []), [([ui0, (0, 6), ui877], [ur431], [], [], [uV12], [], [])], [], 137, 0, 0)
set_option maxRecDepth 1000000 in
theorem ck_403 : x_ok mLT1 [] mTS2 mTC2 mRUp cx_403 [] [] [(4, ([(0, 3072), (0, 6), (0, 63), (0, 6)], [(6, false)], [], [(2, 0, 0, []), (0, 0, 0, [(2, 1)]), (0, 0, 0, [(3, 1)])], [], [(0, (false, 5, 0, []), 0, 0, 0, [(1, 1)])], []), (132, [(3, (-21))]))] (137, []) 0 23 = true := by decide +kernel
theorem sn_403 {W : Bool} {X : List Int32} : y_Snd (mGw W) mLT1 (J2 W X) X cx_403 := y_ok J2_J mTS2_ok1 mTC2_ok1 mRUp_ok1 (fun _ h => absurd h List.not_mem_nil) ck_403
/-- State.sumOfStrength -/
def cx_404 : zCtx := (112, ([ui0, (0, 6)], [ur431], [], [], [uV2], [uF790], []), [([ui0, (0, 6), ui49], [ur431], [], [], [uV12], [], [])], [], 113, 0, 0)
set_option maxRecDepth 1000000 in
theorem ck_404 : x_ok mLT1 [] mTS2 mTC2 mRUp cx_404 [] [] [(4, ([(0, 3072), (0, 6), ((-2147483648), 2147483647), (0, 6)], [(6, false)], [], [(2, 0, 0, []), (0, 0, 0, [(2, 1)]), (0, 0, 0, [(3, 1)])], [], [(0, (false, 6, 0, []), 0, 0, 0, [(1, 1)])], []), (108, [(3, (-17))]))] (113, []) 0 19 = true := by decide +kernel
theorem sn_404 {W : Bool} {X : List Int32} : y_Snd (mGw W) mLT1 (J2 W X) X cx_404 := y_ok J2_J mTS2_ok1 mTC2_ok1 mRUp_ok1 (fun _ h => absurd h List.not_mem_nil) ck_404
/-- HairRope.count -/
def cx_405 : zCtx := (185, ([ui0, ui49], [ur441], [], [], [uV2, uV11], [], []), [([ui0, ui1472, ui49], [ur441], [], [], [uV12], [], []), ([ui0, ui1473], [ur441], [], [], [uV64], [], []), ([ui0, ui1473], [ur441], [], [], [uV62], [], []), ([ui0, ui49], [ur441], [], [], [uV61], [], [])], [], 150, 3, 107)
set_option maxRecDepth 1000000 in
theorem ck_405 : x_ok mLT1 [cx_399, cx_400, cx_401, cx_257, cx_402, cx_403, cx_404] mTS2 mTC2 mRUp cx_405 [(126, [0]), (142, [1]), (150, [2]), (185, [3]), (193, [0]), (230, [4]), (238, [5]), (246, [6])] [] [] (13, []) 137 16 = true := by decide +kernel
theorem sn_405 {W : Bool} {X : List Int32} : y_Snd (mGw W) mLT1 (J2 W X) X cx_405 := y_ok J2_J mTS2_ok1 mTC2_ok1 mRUp_ok1 (List.forall_mem_cons.mpr ⟨sn_399, List.forall_mem_cons.mpr ⟨sn_400, List.forall_mem_cons.mpr ⟨sn_401, List.forall_mem_cons.mpr ⟨sn_257, List.forall_mem_cons.mpr ⟨sn_402, List.forall_mem_cons.mpr ⟨sn_403, List.forall_mem_cons.mpr ⟨sn_404, fun _ h => absurd h List.not_mem_nil⟩⟩⟩⟩⟩⟩⟩) ck_405
/-- M.lays -/
def cx_406 : zCtx := (193, ([ui0, ui49, ui479, ui52], [ur1474, ur1475], [uL480], [], [uV2, uV11], [uF150, uF42], [uG481]), [([ui0, ui49, ui479, ui52], [ur1474, ur1475], [], [], [], [uF1476], [uG481, uG1477])], [uk1478, uk1479], 81, 0, 0)
set_option maxRecDepth 1000000 in
theorem ck_406 : x_ok mLT1 [] mTS2 mTC2 mRUp cx_406 [] [(17, [1000424]), (18, [1000422]), (36, [1000425])] [] (81, []) 0 84 = true := by decide +kernel
theorem sn_406 {W : Bool} {X : List Int32} : y_Snd (mGw W) mLT1 (J2 W X) X cx_406 := y_ok J2_J mTS2_ok1 mTC2_ok1 mRUp_ok1 (fun _ h => absurd h List.not_mem_nil) ck_406
end
