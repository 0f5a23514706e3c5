noncomputable section
/-! ===== readings, by program, checked by the kernel ===== -/
/-- Feeler.fill -/
def cx_367 : zCtx := (20, ([ui0, (3, 6), (3, 3), ui847, ui1355], [ur446], [], [], [uV2, uV11, uV12, uV58, uV97], [], []), [([ui0, (3, 3), (3, 3), ui847, ui1355], [ur446], [uL508], [], [], [], []), ([ui0, (4, 6), (3, 3), ui847, ui1355], [ur446], [uL507], [], [], [], [])], [uk1350, uk1351, uk1346, uk1353], 1454, 4, 98)
set_option maxRecDepth 1000000 in
theorem ck_367 : x_ok mLT1 [cx_363, cx_366] mTS2 mTC2 mRUp cx_367 [(15, [0]), (74, [1])] [] [(22, ([(0, 3072), (4, 6), (3, 3), (0, 63), (0, 218), (0, 6)], [(11, false)], [((-1), [(1, 1), (2, (-1))])], [(2, 0, 0, []), (0, 0, 0, [(1, 1)]), (0, 0, 0, [(2, 1)]), (0, 0, 0, [(3, 1)]), (0, 0, 0, [(4, 1)]), (0, 0, 0, [(5, 1)])], [], [], []), ((-300000000000), [(2, 100000000244), (5, (-120))]))] (759, []) 695 42 = true := by decide +kernel
theorem sn_367 {W : Bool} {X : List Int32} : y_Snd (mGw W) mLT1 (J2 W X) X cx_367 := y_ok J2_J mTS2_ok1 mTC2_ok1 mRUp_ok1 (List.forall_mem_cons.mpr ⟨sn_363, List.forall_mem_cons.mpr ⟨sn_366, fun _ h => absurd h List.not_mem_nil⟩⟩) ck_367
/-- Feeler.fill -/
def cx_368 : zCtx := (20, ([ui0, (2, 6), (2, 2), ui847, ui1223], [ur446], [], [], [uV2, uV11, uV12, uV58, uV97], [], []), [([ui0, (2, 2), (2, 2), ui847, ui1223], [ur446], [uL508], [], [], [], []), ([ui0, (3, 6), (2, 2), ui847, ui1223], [ur446], [uL507], [], [], [], [])], [uk1350, uk1351, uk1346, uk1353], 1707, 5, 123)
set_option maxRecDepth 1000000 in
theorem ck_368 : x_ok mLT1 [cx_363, cx_367] mTS2 mTC2 mRUp cx_368 [(15, [0]), (74, [1])] [] [(22, ([(0, 3072), (3, 6), (2, 2), (0, 63), (0, 35), (0, 6)], [(11, false)], [((-1), [(1, 1), (2, (-1))])], [(2, 0, 0, []), (0, 0, 0, [(1, 1)]), (0, 0, 0, [(2, 1)]), (0, 0, 0, [(3, 1)]), (0, 0, 0, [(4, 1)]), (0, 0, 0, [(5, 1)])], [], [], []), ((-100000000000), [(2, 50000000122), (5, (-40))]))] (253, []) 1454 42 = true := by decide +kernel
theorem sn_368 {W : Bool} {X : List Int32} : y_Snd (mGw W) mLT1 (J2 W X) X cx_368 := y_ok J2_J mTS2_ok1 mTC2_ok1 mRUp_ok1 (List.forall_mem_cons.mpr ⟨sn_363, List.forall_mem_cons.mpr ⟨sn_367, fun _ h => absurd h List.not_mem_nil⟩⟩) ck_368
/-- Feeler.fill -/
def cx_369 : zCtx := (20, ([ui0, (1, 6), (1, 1), ui847, (0, 5)], [ur446], [], [], [uV2, uV11, uV12, uV58, uV97], [], []), [([ui0, (1, 1), (1, 1), ui847, (0, 5)], [ur446], [uL508], [], [], [], []), ([ui0, (2, 6), (1, 1), ui847, (0, 5)], [ur446], [uL507], [], [], [], [])], [uk1350, uk1351, uk1346, uk1353], 1960, 6, 148)
set_option maxRecDepth 1000000 in
theorem ck_369 : x_ok mLT1 [cx_363, cx_368] mTS2 mTC2 mRUp cx_369 [(15, [0]), (74, [1])] [] [(22, ([(0, 3072), (2, 6), (1, 1), (0, 63), (0, 5), (0, 6)], [(11, false)], [((-1), [(1, 1), (2, (-1))])], [(2, 0, 0, []), (0, 0, 0, [(1, 1)]), (0, 0, 0, [(2, 1)]), (0, 0, 0, [(3, 1)]), (0, 0, 0, [(4, 1)]), (0, 0, 0, [(5, 1)])], [], [], []), ((-99999999756), [(2, 100000000000), (5, (-40))]))] (253, []) 1707 42 = true := by decide +kernel
theorem sn_369 {W : Bool} {X : List Int32} : y_Snd (mGw W) mLT1 (J2 W X) X cx_369 := y_ok J2_J mTS2_ok1 mTC2_ok1 mRUp_ok1 (List.forall_mem_cons.mpr ⟨sn_363, List.forall_mem_cons.mpr ⟨sn_368, fun _ h => absurd h List.not_mem_nil⟩⟩) ck_369
/-- Feeler.fill -/
def cx_370 : zCtx := (20, ([ui0, (1, 6), (0, 0), (0, 0), (0, 0)], [ur446], [], [], [uV2, uV11, uV12, uV58, uV97], [], []), [([ui0, (1, 6), (0, 0), (0, 0), (0, 0)], [ur446], [uL507], [], [], [], [])], [uk1350, uk1351, uk1346, uk1353], 2213, 7, 173)
set_option maxRecDepth 1000000 in
theorem ck_370 : x_ok mLT1 [cx_369] mTS2 mTC2 mRUp cx_370 [(74, [0])] [] [(22, ([(0, 3072), (1, 6), (0, 0), (0, 0), (0, 0), (0, 6)], [(11, false)], [((-1), [(1, 1), (2, (-1))])], [(2, 0, 0, []), (0, 0, 0, [(1, 1)]), (0, 0, 0, [(2, 1)]), (0, 0, 0, [(3, 1)]), (0, 0, 0, [(4, 1)]), (0, 0, 0, [(5, 1)])], [], [], []), (244, [(2, (-100000000000)), (3, (-100000000000)), (4, (-100000000000)), (5, (-40))]))] (253, []) 1960 42 = true := by decide +kernel
theorem sn_370 {W : Bool} {X : List Int32} : y_Snd (mGw W) mLT1 (J2 W X) X cx_370 := y_ok J2_J mTS2_ok1 mTC2_ok1 mRUp_ok1 (List.forall_mem_cons.mpr ⟨sn_369, fun _ h => absurd h List.not_mem_nil⟩) ck_370
/-- Feeler.findRows -/
def cx_371 : zCtx := (17, ([ui0, ui48, (1, 6), ui525, ui48], [ur446, ur433], [], [], [uV2, uV420, uV11, uV12, uV58], [uF41], []), [([ui0, ui48, (1, 6), ui525, ui48], [ur446, ur433], [], [], [], [], [uG1345])], [uk1356, uk1350, uk1351, uk1348, uk1346, uk1353], 2242, 8, 198)
set_option maxRecDepth 1000000 in
theorem ck_371 : x_ok mLT1 [cx_359, cx_360, cx_362, cx_370] mTS2 mTC2 mRUp cx_371 [(16, [0]), (27, [1]), (34, [2]), (45, [3])] [] [] (29, []) 2213 32 = true := by decide +kernel
theorem sn_371 {W : Bool} {X : List Int32} : y_Snd (mGw W) mLT1 (J2 W X) X cx_371 := y_ok J2_J mTS2_ok1 mTC2_ok1 mRUp_ok1 (List.forall_mem_cons.mpr ⟨sn_359, List.forall_mem_cons.mpr ⟨sn_360, List.forall_mem_cons.mpr ⟨sn_362, List.forall_mem_cons.mpr ⟨sn_370, fun _ h => absurd h List.not_mem_nil⟩⟩⟩⟩) ck_371
/-- HairRope.rows -/
def cx_372 : zCtx := (178, ([ui0, ui49, ui49, ui49], [ur443], [], [], [uV2, uV11, uV12, uV58], [], []), [([ui0, ui262, ui49, ui49], [ur443], [], [], [uV61], [], []), ([ui0, ui506, ui49, ui49], [ur443], [], [], [uV61], [], []), ([ui0, ui48, ui1343, ui49], [ur443], [], [], [uV61], [], []), ([ui0, ui48, ui1342, ui49], [ur443], [], [], [uV61], [], []), ([ui0, ui48, (1, 6), ui1066], [ur443], [], [], [uV61], [], []), ([ui0, ui48, (1, 6), (0, 0), ui49], [ur443], [], [], [uV97], [], [uG1345]), ([ui0, ui48, (1, 6), (1, 1), ui49], [ur443], [], [], [uV97], [], [uG1345]), ([ui0, ui48, (1, 6), ui262], [ur443], [], [], [uV61], [], [])], [uk1356, uk1350, uk1351, uk1348, uk1346, uk1353], 2269, 9, 222)
set_option maxRecDepth 1000000 in
theorem ck_372 : x_ok mLT1 [cx_357, cx_358, cx_371] mTS2 mTC2 mRUp cx_372 [(2, [0]), (9, [1]), (37, [2])] [] [] (27, []) 2242 30 = true := by decide +kernel
theorem sn_372 {W : Bool} {X : List Int32} : y_Snd (mGw W) mLT1 (J2 W X) X cx_372 := y_ok J2_J mTS2_ok1 mTC2_ok1 mRUp_ok1 (List.forall_mem_cons.mpr ⟨sn_357, List.forall_mem_cons.mpr ⟨sn_358, List.forall_mem_cons.mpr ⟨sn_371, fun _ h => absurd h List.not_mem_nil⟩⟩⟩) ck_372
/-- Feeler.bestPlace -/
def cx_373 : zCtx := (22, ([ui0, (1, 6)], [ur446], [], [], [uV2, uV11], [], []), [([ui0, (1, 6), ui1332], [ur446], [], [], [uV12], [], [])], [], 210, 1, 64)
set_option maxRecDepth 1000000 in
theorem ck_373 : x_ok mLT1 [] mTS2 mTC2 mRUp cx_373 [] [] [(13, ([(0, 3072), (1, 6), ((-2), 5), ((-2147483648), 2147483647), (0, 6)], [(11, false)], [], [(2, 0, 0, []), (0, 0, 0, [(1, 1)]), (0, 0, 0, [(2, 1)]), (0, 0, 0, [(3, 1)]), (0, 0, 0, [(4, 1)]), (5, 0, 0, [])], [], [], []), (200, [(4, (-32))]))] (210, []) 0 34 = true := by decide +kernel
theorem sn_373 {W : Bool} {X : List Int32} : y_Snd (mGw W) mLT1 (J2 W X) X cx_373 := y_ok J2_J mTS2_ok1 mTC2_ok1 mRUp_ok1 (fun _ h => absurd h List.not_mem_nil) ck_373
/-- HairRope.feel -/
def cx_374 : zCtx := (181, ([ui0, ui49, ui49, ui49], [ur443], [], [], [uV2, uV11, uV12, uV58], [], []), [([ui0, ui262, ui49, ui49], [ur443], [], [], [uV61], [], []), ([ui0, ui506, ui49, ui49], [ur443], [], [], [uV61], [], []), ([ui0, ui48, ui1343, ui49], [ur443], [], [], [uV61], [], []), ([ui0, ui48, ui1342, ui49], [ur443], [], [], [uV61], [], []), ([ui0, ui48, (1, 6), ui262], [ur443], [], [], [uV61], [], []), ([ui0, ui48, (1, 6), ui1333], [ur443], [], [], [uV61], [], []), ([ui0, ui48, (1, 6), ui525, ui1332], [ur443], [], [], [uV97], [], [uG1345])], [uk1356, uk1350, uk1351, uk1348, uk1346, uk1353], 2265, 9, 222)
set_option maxRecDepth 1000000 in
theorem ck_374 : x_ok mLT1 [cx_357, cx_358, cx_352, cx_371, cx_373] mTS2 mTC2 mRUp cx_374 [(2, [0]), (9, [1]), (16, [2]), (35, [3]), (43, [4])] [] [] (23, []) 2242 26 = true := by decide +kernel
theorem sn_374 {W : Bool} {X : List Int32} : y_Snd (mGw W) mLT1 (J2 W X) X cx_374 := y_ok J2_J mTS2_ok1 mTC2_ok1 mRUp_ok1 (List.forall_mem_cons.mpr ⟨sn_357, List.forall_mem_cons.mpr ⟨sn_358, List.forall_mem_cons.mpr ⟨sn_352, List.forall_mem_cons.mpr ⟨sn_371, List.forall_mem_cons.mpr ⟨sn_373, fun _ h => absurd h List.not_mem_nil⟩⟩⟩⟩⟩) ck_374
/-- HairRope.isSlot -/
def cx_375 : zCtx := (183, ([ui0, ui49], [], [], [], [uV11], [], []), [([ui0, (0, 2)], [], [], [], [uV64], [], []), ([ui0, ui1301], [], [], [], [uV62], [], []), ([ui0, ui262], [], [], [], [uV62], [], [])], [], 8, 0, 0)
set_option maxRecDepth 1000000 in
theorem ck_375 : x_ok mLT1 [] mTS2 mTC2 mRUp cx_375 [] [] [] (8, []) 0 11 = true := by decide +kernel
theorem sn_375 {W : Bool} {X : List Int32} : y_Snd (mGw W) mLT1 (J2 W X) X cx_375 := y_ok J2_J mTS2_ok1 mTC2_ok1 mRUp_ok1 (fun _ h => absurd h List.not_mem_nil) ck_375
def cx_376pi_0 (t : List (Int × Int)) : List (Int × Int) := ui0 :: ui1301 :: (0, 7) :: (0, 1) :: (0, 1) :: (0, 1) :: (0, 6) :: (0, 6) :: t
def cx_376pi_1 (t : List (Int × Int)) : List (Int × Int) := ui49 :: ui49 :: t
def cx_376p : zS := ((cx_376pi_0 (cx_376pi_1 [])), [ur443, ur441, ur433], [uL1357, uL1358], [], [uV2, uV11], [uF1123, uF1359, uF541, uF1161, uF1360, uF223, uF1361], [uG1362, uG1363])
/-- HairRope.hold -/
def cx_376 : zCtx := (182, cx_376p, [([ui0, ui1301, (0, 7), (0, 1), (0, 1), (0, 1), (0, 6), (0, 6), ui49, ui49], [ur443, ur441, ur433], [], [], [uV62], [uF1359], [])], [], 13, 1, 20)
set_option maxRecDepth 1000000 in
theorem ck_376 : x_ok mLT1 [cx_375] mTS2 mTC2 mRUp cx_376 [(1, [0])] [] [] (5, []) 8 8 = true := by decide +kernel
theorem sn_376 {W : Bool} {X : List Int32} : y_Snd (mGw W) mLT1 (J2 W X) X cx_376 := y_ok J2_J mTS2_ok1 mTC2_ok1 mRUp_ok1 (List.forall_mem_cons.mpr ⟨sn_375, fun _ h => absurd h List.not_mem_nil⟩) ck_376
/-- History.slotAt -/
def cx_377 : zCtx := (44, ([ui0], [ur441], [], [], [uV2, uV62], [], []), [([ui0], [ur441, ur1364], [], [], [uV420], [], [])], [], 11, 0, 0)
set_option maxRecDepth 1000000 in
theorem ck_377 : x_ok mLT1 [] mTS2 mTC2 mRUp cx_377 [] [] [] (11, []) 0 14 = true := by decide +kernel
theorem sn_377 {W : Bool} {X : List Int32} : y_Snd (mGw W) mLT1 (J2 W X) X cx_377 := y_ok J2_J mTS2_ok1 mTC2_ok1 mRUp_ok1 (fun _ h => absurd h List.not_mem_nil) ck_377
def cx_378p : zS := ((cx_149pi_0 (cx_149pi_1 (cx_149pi_2 (cx_149pi_3 (cx_149pi_4 []))))), [ur1364, ur433, ur434, ur428, ur548, ur549, ur550], [], [], [uV2, uV420], (cx_149pf_0 (cx_149pf_1 (cx_149pf_2 (cx_149pf_3 (cx_149pf_4 (cx_149pf_5 [])))))), [])
def cx_378q0 : zS := ((cx_149pi_0 (cx_149pi_1 (cx_149pi_2 (cx_149pi_3 (cx_149pi_4 []))))), [ur1364, ur433, ur434, ur428, ur548, ur549, ur550], [], [], [], [uF126, uF128, uF129, uF713], [uG1365])
/-- State.copyFrom -/
def cx_378 : zCtx := (102, cx_378p, [cx_378q0], kc_67, 57, 1, 64)
set_option maxRecDepth 1000000 in
theorem ck_378 : x_ok mLT1 [] mTS2 mTC2 mRUp cx_378 [] [(107, [1001295])] [] (57, []) 0 60 = true := by decide +kernel
theorem sn_378 {W : Bool} {X : List Int32} : y_Snd (mGw W) mLT1 (J2 W X) X cx_378 := y_ok J2_J mTS2_ok1 mTC2_ok1 mRUp_ok1 (fun _ h => absurd h List.not_mem_nil) ck_378
def cx_379pi_0 (t : List (Int × Int)) : List (Int × Int) := ui0 :: (0, 7) :: (0, 1) :: (0, 1) :: (0, 1) :: (0, 6) :: (0, 6) :: ui49 :: t
def cx_379pi_1 (t : List (Int × Int)) : List (Int × Int) := ui49 :: t
def cx_379p : zS := ((cx_379pi_0 (cx_379pi_1 [])), [ur441, ur433], [uL1366, uL1367], [], [uV2, uV62, uV420], [uF32, uF581, uF582, uF583, uF584], [uG1368, uG469])
/-- History.fillSlot -/
def cx_379 : zCtx := (43, cx_379p, [([ui0, (0, 7), (0, 1), (0, 1), (0, 1), (0, 6), (0, 6), ui49, ui49, ui49], [ur441, ur433], [], [], [uV64], [uF307], [uG1369, uG1370, uG1371])], kc_68, 76, 2, 85)
set_option maxRecDepth 1000000 in
theorem ck_379 : x_ok mLT1 [cx_377, cx_378] mTS2 mTC2 mRUp cx_379 [(2, [0]), (14, [1])] [(14, uN1372), (17, [1000691]), (25, [1000667])] [] (19, []) 57 22 = true := by decide +kernel
theorem sn_379 {W : Bool} {X : List Int32} : y_Snd (mGw W) mLT1 (J2 W X) X cx_379 := y_ok J2_J mTS2_ok1 mTC2_ok1 mRUp_ok1 (List.forall_mem_cons.mpr ⟨sn_377, List.forall_mem_cons.mpr ⟨sn_378, fun _ h => absurd h List.not_mem_nil⟩⟩) ck_379
def cx_380p : zS := ((cx_379pi_0 (cx_379pi_1 [])), [ur443, ur441, ur433], [uL1366, uL1367], [], [uV2, uV62], [uF1123, uF1373, uF541, uF1374, uF187, uF188, uF1375], [uG1368, uG469])
/-- HairRope.hold -/
def cx_380 : zCtx := (182, cx_380p, [([ui0, (0, 7), (0, 1), (0, 1), (0, 1), (0, 6), (0, 6), ui49, ui49, ui49], [ur443, ur441, ur433], [], [], [uV64], [uF1376], [uG1369, uG1370, uG1371])], kc_68, 89, 3, 108)
set_option maxRecDepth 1000000 in
theorem ck_380 : x_ok mLT1 [cx_375, cx_379] mTS2 mTC2 mRUp cx_380 [(1, [0]), (16, [1])] [] [] (13, []) 76 16 = true := by decide +kernel
theorem sn_380 {W : Bool} {X : List Int32} : y_Snd (mGw W) mLT1 (J2 W X) X cx_380 := y_ok J2_J mTS2_ok1 mTC2_ok1 mRUp_ok1 (List.forall_mem_cons.mpr ⟨sn_375, List.forall_mem_cons.mpr ⟨sn_379, fun _ h => absurd h List.not_mem_nil⟩⟩) ck_380
/-- History.slotAt -/
def cx_381 : zCtx := (44, ([ui0], [ur441], [], [], [uV2, uV64], [], []), [([ui0], [ur441, ur1377], [], [], [uV420], [], [])], [], 11, 0, 0)
set_option maxRecDepth 1000000 in
theorem ck_381 : x_ok mLT1 [] mTS2 mTC2 mRUp cx_381 [] [] [] (11, []) 0 14 = true := by decide +kernel
theorem sn_381 {W : Bool} {X : List Int32} : y_Snd (mGw W) mLT1 (J2 W X) X cx_381 := y_ok J2_J mTS2_ok1 mTC2_ok1 mRUp_ok1 (fun _ h => absurd h List.not_mem_nil) ck_381
def cx_382p : zS := ((cx_149pi_0 (cx_149pi_1 (cx_149pi_2 (cx_149pi_3 (cx_149pi_4 []))))), [ur1377, ur433, ur434, ur428, ur548, ur549, ur550], [], [], [uV2, uV420], (cx_149pf_0 (cx_149pf_1 (cx_149pf_2 (cx_149pf_3 (cx_149pf_4 (cx_149pf_5 [])))))), [])
def cx_382q0 : zS := ((cx_149pi_0 (cx_149pi_1 (cx_149pi_2 (cx_149pi_3 (cx_149pi_4 []))))), [ur1377, ur433, ur434, ur428, ur548, ur549, ur550], [], [], [], [uF126, uF128, uF129, uF713], [uG1378])
/-- State.copyFrom -/
def cx_382 : zCtx := (102, cx_382p, [cx_382q0], kc_69, 57, 1, 64)
set_option maxRecDepth 1000000 in
theorem ck_382 : x_ok mLT1 [] mTS2 mTC2 mRUp cx_382 [] [(107, [1001294])] [] (57, []) 0 60 = true := by decide +kernel
theorem sn_382 {W : Bool} {X : List Int32} : y_Snd (mGw W) mLT1 (J2 W X) X cx_382 := y_ok J2_J mTS2_ok1 mTC2_ok1 mRUp_ok1 (fun _ h => absurd h List.not_mem_nil) ck_382
def cx_383p : zS := ((cx_379pi_0 (cx_379pi_1 [])), [ur441, ur433], [uL1366, uL1367], [], [uV2, uV64, uV420], [uF32, uF581, uF582, uF583, uF584], [uG1368, uG469])
/-- History.fillSlot -/
def cx_383 : zCtx := (43, cx_383p, [([ui0, (0, 7), (0, 1), (0, 1), (0, 1), (0, 6), (0, 6), ui49, ui49, ui49], [ur441, ur433], [], [], [uV64], [uF307], [uG1379, uG1380, uG1381])], kc_70, 76, 2, 85)
set_option maxRecDepth 1000000 in
theorem ck_383 : x_ok mLT1 [cx_381, cx_382] mTS2 mTC2 mRUp cx_383 [(2, [0]), (14, [1])] [(14, uN1372), (17, [1000691]), (25, [1000667])] [] (19, []) 57 22 = true := by decide +kernel
theorem sn_383 {W : Bool} {X : List Int32} : y_Snd (mGw W) mLT1 (J2 W X) X cx_383 := y_ok J2_J mTS2_ok1 mTC2_ok1 mRUp_ok1 (List.forall_mem_cons.mpr ⟨sn_381, List.forall_mem_cons.mpr ⟨sn_382, fun _ h => absurd h List.not_mem_nil⟩⟩) ck_383
def cx_384p : zS := ((cx_379pi_0 (cx_379pi_1 [])), [ur443, ur441, ur433], [uL1366, uL1367], [], [uV2, uV64], [uF1123, uF1373, uF541, uF1374, uF187, uF188, uF1375], [uG1368, uG469])
/-- HairRope.hold -/
def cx_384 : zCtx := (182, cx_384p, [([ui0, (0, 7), (0, 1), (0, 1), (0, 1), (0, 6), (0, 6), ui49, ui49, ui49], [ur443, ur441, ur433], [], [], [uV64], [uF1376], [uG1379, uG1380, uG1381])], kc_70, 89, 3, 108)
set_option maxRecDepth 1000000 in
theorem ck_384 : x_ok mLT1 [cx_375, cx_383] mTS2 mTC2 mRUp cx_384 [(1, [0]), (16, [1])] [] [] (13, []) 76 16 = true := by decide +kernel
theorem sn_384 {W : Bool} {X : List Int32} : y_Snd (mGw W) mLT1 (J2 W X) X cx_384 := y_ok J2_J mTS2_ok1 mTC2_ok1 mRUp_ok1 (List.forall_mem_cons.mpr ⟨sn_375, List.forall_mem_cons.mpr ⟨sn_383, fun _ h => absurd h List.not_mem_nil⟩⟩) ck_384
/-- History.slotAt -/
def cx_385 : zCtx := (44, ([ui0], [ur441], [], [], [uV2, uV389], [], []), [([ui0], [ur441, ur1382], [], [], [uV420], [], [])], [], 11, 0, 0)
set_option maxRecDepth 1000000 in
theorem ck_385 : x_ok mLT1 [] mTS2 mTC2 mRUp cx_385 [] [] [] (11, []) 0 14 = true := by decide +kernel
theorem sn_385 {W : Bool} {X : List Int32} : y_Snd (mGw W) mLT1 (J2 W X) X cx_385 := y_ok J2_J mTS2_ok1 mTC2_ok1 mRUp_ok1 (fun _ h => absurd h List.not_mem_nil) ck_385
def cx_386p : zS := ((cx_149pi_0 (cx_149pi_1 (cx_149pi_2 (cx_149pi_3 (cx_149pi_4 []))))), [ur1382, ur433, ur434, ur428, ur548, ur549, ur550], [], [], [uV2, uV420], (cx_149pf_0 (cx_149pf_1 (cx_149pf_2 (cx_149pf_3 (cx_149pf_4 (cx_149pf_5 [])))))), [])
def cx_386q0 : zS := ((cx_149pi_0 (cx_149pi_1 (cx_149pi_2 (cx_149pi_3 (cx_149pi_4 []))))), [ur1382, ur433, ur434, ur428, ur548, ur549, ur550], [], [], [], [uF126, uF128, uF129, uF713], [uG1383])
/-- State.copyFrom -/
def cx_386 : zCtx := (102, cx_386p, [cx_386q0], kc_71, 57, 1, 64)
set_option maxRecDepth 1000000 in
theorem ck_386 : x_ok mLT1 [] mTS2 mTC2 mRUp cx_386 [] [(107, [1001293])] [] (57, []) 0 60 = true := by decide +kernel
theorem sn_386 {W : Bool} {X : List Int32} : y_Snd (mGw W) mLT1 (J2 W X) X cx_386 := y_ok J2_J mTS2_ok1 mTC2_ok1 mRUp_ok1 (fun _ h => absurd h List.not_mem_nil) ck_386
def cx_387p : zS := ((cx_379pi_0 (cx_379pi_1 [])), [ur441, ur433], [uL1366, uL1367], [], [uV2, uV389, uV420], [uF32, uF581, uF582, uF583, uF584], [uG1368, uG469])
/-- History.fillSlot -/
def cx_387 : zCtx := (43, cx_387p, [([ui0, (0, 7), (0, 1), (0, 1), (0, 1), (0, 6), (0, 6), ui49, ui49, ui49], [ur441, ur433], [], [], [uV64], [uF307], [uG1384, uG1385, uG1386])], kc_72, 76, 2, 85)
set_option maxRecDepth 1000000 in
theorem ck_387 : x_ok mLT1 [cx_385, cx_386] mTS2 mTC2 mRUp cx_387 [(2, [0]), (14, [1])] [(14, uN1372), (17, [1000691]), (25, [1000667])] [] (19, []) 57 22 = true := by decide +kernel
theorem sn_387 {W : Bool} {X : List Int32} : y_Snd (mGw W) mLT1 (J2 W X) X cx_387 := y_ok J2_J mTS2_ok1 mTC2_ok1 mRUp_ok1 (List.forall_mem_cons.mpr ⟨sn_385, List.forall_mem_cons.mpr ⟨sn_386, fun _ h => absurd h List.not_mem_nil⟩⟩) ck_387
def cx_388p : zS := ((cx_379pi_0 (cx_379pi_1 [])), [ur443, ur441, ur433], [uL1366, uL1367], [], [uV2, uV389], [uF1123, uF1373, uF541, uF1374, uF187, uF188, uF1375], [uG1368, uG469])
/-- HairRope.hold -/
def cx_388 : zCtx := (182, cx_388p, [([ui0, (0, 7), (0, 1), (0, 1), (0, 1), (0, 6), (0, 6), ui49, ui49, ui49], [ur443, ur441, ur433], [], [], [uV64], [uF1376], [uG1384, uG1385, uG1386])], kc_72, 89, 3, 108)
set_option maxRecDepth 1000000 in
theorem ck_388 : x_ok mLT1 [cx_375, cx_387] mTS2 mTC2 mRUp cx_388 [(1, [0]), (16, [1])] [] [] (13, []) 76 16 = true := by decide +kernel
theorem sn_388 {W : Bool} {X : List Int32} : y_Snd (mGw W) mLT1 (J2 W X) X cx_388 := y_ok J2_J mTS2_ok1 mTC2_ok1 mRUp_ok1 (List.forall_mem_cons.mpr ⟨sn_375, List.forall_mem_cons.mpr ⟨sn_387, fun _ h => absurd h List.not_mem_nil⟩⟩) ck_388
def cx_389pi_0 (t : List (Int × Int)) : List (Int × Int) := ui0 :: ui262 :: (0, 7) :: (0, 1) :: (0, 1) :: (0, 1) :: (0, 6) :: (0, 6) :: t
def cx_389pi_1 (t : List (Int × Int)) : List (Int × Int) := ui49 :: ui49 :: t
def cx_389p : zS := ((cx_389pi_0 (cx_389pi_1 [])), [ur443, ur441, ur433], [uL1357, uL1358], [], [uV2, uV11], [uF1123, uF1359, uF541, uF1161, uF1360, uF223, uF1361], [uG1362, uG1363])
/-- HairRope.hold -/
def cx_389 : zCtx := (182, cx_389p, [([ui0, ui262, (0, 7), (0, 1), (0, 1), (0, 1), (0, 6), (0, 6), ui49, ui49], [ur443, ur441, ur433], [], [], [uV62], [uF1359], [])], [], 13, 1, 20)
set_option maxRecDepth 1000000 in
theorem ck_389 : x_ok mLT1 [cx_375] mTS2 mTC2 mRUp cx_389 [(1, [0])] [] [] (5, []) 8 8 = true := by decide +kernel
theorem sn_389 {W : Bool} {X : List Int32} : y_Snd (mGw W) mLT1 (J2 W X) X cx_389 := y_ok J2_J mTS2_ok1 mTC2_ok1 mRUp_ok1 (List.forall_mem_cons.mpr ⟨sn_375, fun _ h => absurd h List.not_mem_nil⟩) ck_389
def cx_390pi_0 (t : List (Int × Int)) : List (Int × Int) := ui0 :: ui1301 :: (0, 7) :: (0, 1) :: (0, 1) :: (0, 1) :: (0, 6) :: (0, 6) :: t
def cx_390pi_1 (t : List (Int × Int)) : List (Int × Int) := ui49 :: ui49 :: ui440 :: t
def cx_390p : zS := ((cx_390pi_0 (cx_390pi_1 [])), [ur443, ur441, ur433], [uL1357, uL1358], [], [uV2, uV11], [uF1123, uF1359, uF541, uF1161, uF1360, uF223, uF1361, uF1387], [uG1362, uG1363])
/-- HairRope.restore -/
def cx_390 : zCtx := (184, cx_390p, [([ui0, ui1301, (0, 7), (0, 1), (0, 1), (0, 1), (0, 6), (0, 6), ui49, ui49, ui440], [ur443, ur441, ur433], [], [], [uV62], [uF1161, uF1360, uF223, uF1361, uF1387], [uG1363])], [], 13, 1, 20)
set_option maxRecDepth 1000000 in
theorem ck_390 : x_ok mLT1 [cx_375] mTS2 mTC2 mRUp cx_390 [(1, [0])] [] [] (5, []) 8 8 = true := by decide +kernel
theorem sn_390 {W : Bool} {X : List Int32} : y_Snd (mGw W) mLT1 (J2 W X) X cx_390 := y_ok J2_J mTS2_ok1 mTC2_ok1 mRUp_ok1 (List.forall_mem_cons.mpr ⟨sn_375, fun _ h => absurd h List.not_mem_nil⟩) ck_390
def cx_391p : zS := ((cx_149pi_0 (cx_149pi_1 (cx_149pi_2 (cx_149pi_3 (cx_149pi_4 []))))), [ur433, ur1364, ur1388, ur1389, ur1390, ur1391, ur1392], [], [], [uV2, uV420], (cx_149pf_0 (cx_149pf_1 (cx_149pf_2 (cx_149pf_3 (cx_149pf_4 (cx_149pf_5 [])))))), [])
def cx_391q0 : zS := ((cx_149pi_0 (cx_149pi_1 (cx_149pi_2 (cx_149pi_3 (cx_149pi_4 []))))), [ur433, ur1364, ur1388, ur1389, ur1390, ur1391, ur1392], [], [], [], [uF126, uF128, uF129, uF713], [uG1365])
/-- State.copyFrom -/
def cx_391 : zCtx := (102, cx_391p, [cx_391q0], kc_53, 57, 1, 64)
set_option maxRecDepth 1000000 in
theorem ck_391 : x_ok mLT1 [] mTS2 mTC2 mRUp cx_391 [] [(107, [1001295])] [] (57, []) 0 60 = true := by decide +kernel
theorem sn_391 {W : Bool} {X : List Int32} : y_Snd (mGw W) mLT1 (J2 W X) X cx_391 := y_ok J2_J mTS2_ok1 mTC2_ok1 mRUp_ok1 (fun _ h => absurd h List.not_mem_nil) ck_391
def cx_392pi_0 (t : List (Int × Int)) : List (Int × Int) := ui0 :: ui440 :: (0, 7) :: (0, 1) :: (0, 1) :: (0, 1) :: (0, 6) :: (0, 6) :: t
def cx_392pi_1 (t : List (Int × Int)) : List (Int × Int) := ui49 :: ui49 :: t
def cx_392p : zS := ((cx_392pi_0 (cx_392pi_1 [])), [ur441, ur433], [uL1357, uL1358], [], [uV2, uV62, uV420], [uF180, uF179, uF494, uF1049, uF421, uF422], [uG1362, uG1363])
/-- History.takeSlot -/
def cx_392 : zCtx := (45, cx_392p, [([ui0, ui440, (0, 7), (0, 1), (0, 1), (0, 1), (0, 6), (0, 6), ui49, ui49], [ur441, ur433], [], [], [uV62], [uF494, uF1049, uF421, uF422, uF180], [(101, [uL67, uL65, uL63]), uG1363]), ([ui0, ui440, (0, 7), (0, 1), (0, 1), (0, 1), (0, 6), (0, 6), ui49, ui49, ui506, (0, 6), ui49, ui49], [ur441, ur433], [], [], [uV64], [uF494, uF309, uF427, uF1393, uF442], [(101, [uL67, uL65, uL170]), (249, [uL78, uL195, uL214, uL207, uL63])])], kc_54, 78, 2, 85)
set_option maxRecDepth 1000000 in
theorem ck_392 : x_ok mLT1 [cx_377, cx_391] mTS2 mTC2 mRUp cx_392 [(2, [0]), (25, [1])] [(17, [1000668]), (18, uN1394), (23, uN1395), (28, uN1396)] [] (21, []) 57 24 = true := by decide +kernel
theorem sn_392 {W : Bool} {X : List Int32} : y_Snd (mGw W) mLT1 (J2 W X) X cx_392 := y_ok J2_J mTS2_ok1 mTC2_ok1 mRUp_ok1 (List.forall_mem_cons.mpr ⟨sn_377, List.forall_mem_cons.mpr ⟨sn_391, fun _ h => absurd h List.not_mem_nil⟩⟩) ck_392
def cx_393pi_0 (t : List (Int × Int)) : List (Int × Int) := ui0 :: (0, 7) :: (0, 1) :: (0, 1) :: (0, 1) :: (0, 6) :: (0, 6) :: ui49 :: t
def cx_393pi_1 (t : List (Int × Int)) : List (Int × Int) := ui49 :: ui440 :: t
def cx_393p : zS := ((cx_393pi_0 (cx_393pi_1 [])), [ur443, ur441, ur433], [uL1366, uL1367], [], [uV2, uV62], [uF1123, uF1373, uF541, uF1374, uF187, uF188, uF1375, uF1397], [uG1368, uG469])
/-- HairRope.restore -/
def cx_393 : zCtx := (184, cx_393p, [([ui0, (0, 7), (0, 1), (0, 1), (0, 1), (0, 6), (0, 6), ui49, ui49, ui440, ui506, (0, 6), ui49, ui49], [ur443, ur441, ur433], [], [], [uV64], [uF1374, uF1398, uF1399, uF1400, uF1401], [(101, [uL9, uL65, uL170]), (249, [uL104, uL195, uL214, uL207, uL63])]), ([ui0, (0, 7), (0, 1), (0, 1), (0, 1), (0, 6), (0, 6), ui49, ui49, ui440], [ur443, ur441, ur433], [], [], [uV62], [uF1374, uF187, uF188, uF1375, uF1397], [(101, [uL9, uL65, uL63]), uG469])], kc_54, 91, 3, 108)
set_option maxRecDepth 1000000 in
theorem ck_393 : x_ok mLT1 [cx_375, cx_392] mTS2 mTC2 mRUp cx_393 [(1, [0]), (16, [1])] [] [] (13, []) 78 16 = true := by decide +kernel
theorem sn_393 {W : Bool} {X : List Int32} : y_Snd (mGw W) mLT1 (J2 W X) X cx_393 := y_ok J2_J mTS2_ok1 mTC2_ok1 mRUp_ok1 (List.forall_mem_cons.mpr ⟨sn_375, List.forall_mem_cons.mpr ⟨sn_392, fun _ h => absurd h List.not_mem_nil⟩⟩) ck_393
def cx_394p : zS := ((cx_149pi_0 (cx_149pi_1 (cx_149pi_2 (cx_149pi_3 (cx_149pi_4 []))))), [ur433, ur1377, ur1402, ur1403, ur1404, ur1405, ur1406], [], [], [uV2, uV420], (cx_149pf_0 (cx_149pf_1 (cx_149pf_2 (cx_149pf_3 (cx_149pf_4 (cx_149pf_5 [])))))), [])
def cx_394q0 : zS := ((cx_149pi_0 (cx_149pi_1 (cx_149pi_2 (cx_149pi_3 (cx_149pi_4 []))))), [ur433, ur1377, ur1402, ur1403, ur1404, ur1405, ur1406], [], [], [], [uF126, uF128, uF129, uF713], [uG1378])
/-- State.copyFrom -/
def cx_394 : zCtx := (102, cx_394p, [cx_394q0], kc_53, 57, 1, 64)
set_option maxRecDepth 1000000 in
theorem ck_394 : x_ok mLT1 [] mTS2 mTC2 mRUp cx_394 [] [(107, [1001294])] [] (57, []) 0 60 = true := by decide +kernel
theorem sn_394 {W : Bool} {X : List Int32} : y_Snd (mGw W) mLT1 (J2 W X) X cx_394 := y_ok J2_J mTS2_ok1 mTC2_ok1 mRUp_ok1 (fun _ h => absurd h List.not_mem_nil) ck_394
def cx_395p : zS := ((cx_392pi_0 (cx_392pi_1 [])), [ur441, ur433], [uL1357, uL1358], [], [uV2, uV64, uV420], [uF180, uF179, uF494, uF1049, uF421, uF422], [uG1362, uG1363])
/-- History.takeSlot -/
def cx_395 : zCtx := (45, cx_395p, [([ui0, ui440, (0, 7), (0, 1), (0, 1), (0, 1), (0, 6), (0, 6), ui49, ui49], [ur441, ur433], [], [], [uV62], [uF494, uF1049, uF421, uF422, uF180], [(101, [uL67, uL114, uL63]), uG1363]), ([ui0, ui440, (0, 7), (0, 1), (0, 1), (0, 1), (0, 6), (0, 6), ui49, ui49, ui506, (0, 6), ui49, ui49], [ur441, ur433], [], [], [uV64], [uF494, uF309, uF427, uF1393, uF442], [(101, [uL67, uL114, uL170]), (249, [uL78, uL195, uL214, uL207, uL65])])], kc_54, 78, 2, 85)
set_option maxRecDepth 1000000 in
theorem ck_395 : x_ok mLT1 [cx_381, cx_394] mTS2 mTC2 mRUp cx_395 [(2, [0]), (25, [1])] [(17, [1000668]), (18, uN1394), (23, uN1395), (28, uN1396)] [] (21, []) 57 24 = true := by decide +kernel
theorem sn_395 {W : Bool} {X : List Int32} : y_Snd (mGw W) mLT1 (J2 W X) X cx_395 := y_ok J2_J mTS2_ok1 mTC2_ok1 mRUp_ok1 (List.forall_mem_cons.mpr ⟨sn_381, List.forall_mem_cons.mpr ⟨sn_394, fun _ h => absurd h List.not_mem_nil⟩⟩) ck_395
def cx_396p : zS := ((cx_393pi_0 (cx_393pi_1 [])), [ur443, ur441, ur433], [uL1366, uL1367], [], [uV2, uV64], [uF1123, uF1373, uF541, uF1374, uF187, uF188, uF1375, uF1397], [uG1368, uG469])
/-- HairRope.restore -/
def cx_396 : zCtx := (184, cx_396p, [([ui0, (0, 7), (0, 1), (0, 1), (0, 1), (0, 6), (0, 6), ui49, ui49, ui440, ui506, (0, 6), ui49, ui49], [ur443, ur441, ur433], [], [], [uV64], [uF1374, uF1398, uF1399, uF1400, uF1401], [(101, [uL9, uL114, uL170]), (249, [uL104, uL195, uL214, uL207, uL65])]), ([ui0, (0, 7), (0, 1), (0, 1), (0, 1), (0, 6), (0, 6), ui49, ui49, ui440], [ur443, ur441, ur433], [], [], [uV62], [uF1374, uF187, uF188, uF1375, uF1397], [(101, [uL9, uL114, uL63]), uG469])], kc_54, 91, 3, 108)
set_option maxRecDepth 1000000 in
theorem ck_396 : x_ok mLT1 [cx_375, cx_395] mTS2 mTC2 mRUp cx_396 [(1, [0]), (16, [1])] [] [] (13, []) 78 16 = true := by decide +kernel
theorem sn_396 {W : Bool} {X : List Int32} : y_Snd (mGw W) mLT1 (J2 W X) X cx_396 := y_ok J2_J mTS2_ok1 mTC2_ok1 mRUp_ok1 (List.forall_mem_cons.mpr ⟨sn_375, List.forall_mem_cons.mpr ⟨sn_395, fun _ h => absurd h List.not_mem_nil⟩⟩) ck_396
def cx_397p : zS := ((cx_149pi_0 (cx_149pi_1 (cx_149pi_2 (cx_149pi_3 (cx_149pi_4 []))))), [ur433, ur1382, ur1407, ur1408, ur1409, ur1410, ur1411], [], [], [uV2, uV420], (cx_149pf_0 (cx_149pf_1 (cx_149pf_2 (cx_149pf_3 (cx_149pf_4 (cx_149pf_5 [])))))), [])
def cx_397q0 : zS := ((cx_149pi_0 (cx_149pi_1 (cx_149pi_2 (cx_149pi_3 (cx_149pi_4 []))))), [ur433, ur1382, ur1407, ur1408, ur1409, ur1410, ur1411], [], [], [], [uF126, uF128, uF129, uF713], [uG1383])
/-- State.copyFrom -/
def cx_397 : zCtx := (102, cx_397p, [cx_397q0], kc_53, 57, 1, 64)
set_option maxRecDepth 1000000 in
theorem ck_397 : x_ok mLT1 [] mTS2 mTC2 mRUp cx_397 [] [(107, [1001293])] [] (57, []) 0 60 = true := by decide +kernel
theorem sn_397 {W : Bool} {X : List Int32} : y_Snd (mGw W) mLT1 (J2 W X) X cx_397 := y_ok J2_J mTS2_ok1 mTC2_ok1 mRUp_ok1 (fun _ h => absurd h List.not_mem_nil) ck_397
def cx_398p : zS := ((cx_392pi_0 (cx_392pi_1 [])), [ur441, ur433], [uL1357, uL1358], [], [uV2, uV389, uV420], [uF180, uF179, uF494, uF1049, uF421, uF422], [uG1362, uG1363])
/-- History.takeSlot -/
def cx_398 : zCtx := (45, cx_398p, [([ui0, ui440, (0, 7), (0, 1), (0, 1), (0, 1), (0, 6), (0, 6), ui49, ui49], [ur441, ur433], [], [], [uV62], [uF494, uF1049, uF421, uF422, uF180], [(101, [uL67, uL36, uL63]), uG1363]), ([ui0, ui440, (0, 7), (0, 1), (0, 1), (0, 1), (0, 6), (0, 6), ui49, ui49, ui506, (0, 6), ui49, ui49], [ur441, ur433], [], [], [uV64], [uF494, uF309, uF427, uF1393, uF442], [(101, [uL67, uL36, uL170]), (249, [uL78, uL195, uL214, uL207, uL114])])], kc_54, 78, 2, 85)
set_option maxRecDepth 1000000 in
theorem ck_398 : x_ok mLT1 [cx_385, cx_397] mTS2 mTC2 mRUp cx_398 [(2, [0]), (25, [1])] [(17, [1000668]), (18, uN1394), (23, uN1395), (28, uN1396)] [] (21, []) 57 24 = true := by decide +kernel
theorem sn_398 {W : Bool} {X : List Int32} : y_Snd (mGw W) mLT1 (J2 W X) X cx_398 := y_ok J2_J mTS2_ok1 mTC2_ok1 mRUp_ok1 (List.forall_mem_cons.mpr ⟨sn_385, List.forall_mem_cons.mpr ⟨sn_397, fun _ h => absurd h List.not_mem_nil⟩⟩) ck_398
def cx_399p : zS := ((cx_393pi_0 (cx_393pi_1 [])), [ur443, ur441, ur433], [uL1366, uL1367], [], [uV2, uV389], [uF1123, uF1373, uF541, uF1374, uF187, uF188, uF1375, uF1397], [uG1368, uG469])
/-- HairRope.restore -/
def cx_399 : zCtx := (184, cx_399p, [([ui0, (0, 7), (0, 1), (0, 1), (0, 1), (0, 6), (0, 6), ui49, ui49, ui440, ui506, (0, 6), ui49, ui49], [ur443, ur441, ur433], [], [], [uV64], [uF1374, uF1398, uF1399, uF1400, uF1401], [(101, [uL9, uL36, uL170]), (249, [uL104, uL195, uL214, uL207, uL114])]), ([ui0, (0, 7), (0, 1), (0, 1), (0, 1), (0, 6), (0, 6), ui49, ui49, ui440], [ur443, ur441, ur433], [], [], [uV62], [uF1374, uF187, uF188, uF1375, uF1397], [(101, [uL9, uL36, uL63]), uG469])], kc_54, 91, 3, 108)
set_option maxRecDepth 1000000 in
theorem ck_399 : x_ok mLT1 [cx_375, cx_398] mTS2 mTC2 mRUp cx_399 [(1, [0]), (16, [1])] [] [] (13, []) 78 16 = true := by decide +kernel
theorem sn_399 {W : Bool} {X : List Int32} : y_Snd (mGw W) mLT1 (J2 W X) X cx_399 := y_ok J2_J mTS2_ok1 mTC2_ok1 mRUp_ok1 (List.forall_mem_cons.mpr ⟨sn_375, List.forall_mem_cons.mpr ⟨sn_398, fun _ h => absurd h List.not_mem_nil⟩⟩) ck_399
def cx_400pi_0 (t : List (Int × Int)) : List (Int × Int) := ui0 :: ui262 :: (0, 7) :: (0, 1) :: (0, 1) :: (0, 1) :: (0, 6) :: (0, 6) :: t
def cx_400pi_1 (t : List (Int × Int)) : List (Int × Int) := ui49 :: ui49 :: ui440 :: t
def cx_400p : zS := ((cx_400pi_0 (cx_400pi_1 [])), [ur443, ur441, ur433], [uL1357, uL1358], [], [uV2, uV11], [uF1123, uF1359, uF541, uF1161, uF1360, uF223, uF1361, uF1387], [uG1362, uG1363])
/-- HairRope.restore -/
def cx_400 : zCtx := (184, cx_400p, [([ui0, ui262, (0, 7), (0, 1), (0, 1), (0, 1), (0, 6), (0, 6), ui49, ui49, ui440], [ur443, ur441, ur433], [], [], [uV62], [uF1161, uF1360, uF223, uF1361, uF1387], [uG1363])], [], 13, 1, 20)
set_option maxRecDepth 1000000 in
theorem ck_400 : x_ok mLT1 [cx_375] mTS2 mTC2 mRUp cx_400 [(1, [0])] [] [] (5, []) 8 8 = true := by decide +kernel
theorem sn_400 {W : Bool} {X : List Int32} : y_Snd (mGw W) mLT1 (J2 W X) X cx_400 := y_ok J2_J mTS2_ok1 mTC2_ok1 mRUp_ok1 (List.forall_mem_cons.mpr ⟨sn_375, fun _ h => absurd h List.not_mem_nil⟩) ck_400
/-- State.lengthBelow -/
def cx_401 : zCtx := (105, ([ui0, ui124, (0, 6)], [ur433], [], [], [uV2, uV11], [uF39], []), [([ui0, ui124, (0, 6), ui49], [ur433], [], [], [uV58], [], [])], [], 117, 1, 64)
set_option maxRecDepth 1000000 in
theorem ck_401 : x_ok mLT1 [] mTS2 mTC2 mRUp cx_401 [] [] [(10, ([(0, 3072), ((-1), (-1)), (0, 6), ((-2147483648), 2147483647), (0, 6)], [(6, false)], [], [(2, 0, 0, []), (0, 0, 0, [(1, 1)]), (0, 0, 0, [(3, 1)]), (0, 0, 0, [(4, 1)])], [], [(0, (false, 6, 0, []), 0, 0, 0, [(2, 1)])], []), ((-99999999892), [(1, (-100000000000)), (4, (-17))]))] (117, []) 0 19 = true := by decide +kernel
theorem sn_401 {W : Bool} {X : List Int32} : y_Snd (mGw W) mLT1 (J2 W X) X cx_401 := y_ok J2_J mTS2_ok1 mTC2_ok1 mRUp_ok1 (fun _ h => absurd h List.not_mem_nil) ck_401
/-- State.ropeLength -/
def cx_402 : zCtx := (104, ([ui0, (0, 6)], [ur433], [], [], [uV2], [uF772], []), [([ui0, (0, 6), ui49], [ur433], [], [], [uV12], [], [])], [], 121, 2, 87)
set_option maxRecDepth 1000000 in
theorem ck_402 : x_ok mLT1 [cx_401] mTS2 mTC2 mRUp cx_402 [(2, [0])] [] [] (4, []) 117 7 = true := by decide +kernel
theorem sn_402 {W : Bool} {X : List Int32} : y_Snd (mGw W) mLT1 (J2 W X) X cx_402 := y_ok J2_J mTS2_ok1 mTC2_ok1 mRUp_ok1 (List.forall_mem_cons.mpr ⟨sn_401, fun _ h => absurd h List.not_mem_nil⟩) ck_402
/-- State.sumOfHair -/
def cx_403 : zCtx := (108, ([ui0, (0, 6)], [ur433], [], [], [uV2], [uF38], []), [([ui0, (0, 6), ui49], [ur433], [], [], [uV12], [], [])], [], 113, 0, 0)
set_option maxRecDepth 1000000 in
theorem ck_403 : x_ok mLT1 [] mTS2 mTC2 mRUp cx_403 [] [] [(4, ([(0, 3072), (0, 6), ((-2147483648), 2147483647), (0, 6)], [(6, false)], [], [(2, 0, 0, []), (0, 0, 0, [(2, 1)]), (0, 0, 0, [(3, 1)])], [], [(0, (false, 5, 0, []), 0, 0, 0, [(1, 1)])], []), (108, [(3, (-17))]))] (113, []) 0 19 = true := by decide +kernel
theorem sn_403 {W : Bool} {X : List Int32} : y_Snd (mGw W) mLT1 (J2 W X) X cx_403 := y_ok J2_J mTS2_ok1 mTC2_ok1 mRUp_ok1 (fun _ h => absurd h List.not_mem_nil) ck_403
/-- State.housesInRope -/
def cx_404 : zCtx := (109, ([ui0, (0, 6)], [ur433], [], [], [uV2], [uF772], []), [([ui0, (0, 6), ui49], [ur433], [], [], [uV12], [], [])], [], 125, 0, 0)
set_option maxRecDepth 1000000 in
theorem ck_404 : x_ok mLT1 [] mTS2 mTC2 mRUp cx_404 [] [] [(4, ([(0, 3072), (0, 6), ((-2147483648), 2147483647), (0, 6)], [(6, false)], [], [(2, 0, 0, []), (0, 0, 0, [(2, 1)]), (0, 0, 0, [(3, 1)])], [], [(0, (false, 6, 0, []), 0, 0, 0, [(1, 1)])], []), (120, [(3, (-19))]))] (125, []) 0 21 = true := by decide +kernel
theorem sn_404 {W : Bool} {X : List Int32} : y_Snd (mGw W) mLT1 (J2 W X) X cx_404 := y_ok J2_J mTS2_ok1 mTC2_ok1 mRUp_ok1 (fun _ h => absurd h List.not_mem_nil) ck_404
/-- State.sumOfGiven -/
def cx_405 : zCtx := (110, ([ui0, (0, 6)], [ur433], [], [], [uV2], [uF38], []), [([ui0, (0, 6), ui49], [ur433], [], [], [uV12], [], [])], [], 113, 0, 0)
set_option maxRecDepth 1000000 in
theorem ck_405 : x_ok mLT1 [] mTS2 mTC2 mRUp cx_405 [] [] [(4, ([(0, 3072), (0, 6), ((-2147483648), 2147483647), (0, 6)], [(6, false)], [], [(2, 0, 0, []), (0, 0, 0, [(2, 1)]), (0, 0, 0, [(3, 1)])], [], [(0, (false, 5, 0, []), 0, 0, 0, [(1, 1)])], []), (108, [(3, (-17))]))] (113, []) 0 19 = true := by decide +kernel
theorem sn_405 {W : Bool} {X : List Int32} : y_Snd (mGw W) mLT1 (J2 W X) X cx_405 := y_ok J2_J mTS2_ok1 mTC2_ok1 mRUp_ok1 (fun _ h => absurd h List.not_mem_nil) ck_405
/-- State.housesWithoutHair -/
def cx_406 : zCtx := (111, ([ui0, (0, 6)], [ur433], [], [], [uV2], [uF38], []), [([ui0, (0, 6), ui847], [ur433], [], [], [uV12], [], [])], [], 137, 0, 0)
set_option maxRecDepth 1000000 in
theorem ck_406 : x_ok mLT1 [] mTS2 mTC2 mRUp cx_406 [] [] [(4, ([(0, 3072), (0, 6), (0, 63), (0, 6)], [(6, false)], [], [(2, 0, 0, []), (0, 0, 0, [(2, 1)]), (0, 0, 0, [(3, 1)])], [], [(0, (false, 5, 0, []), 0, 0, 0, [(1, 1)])], []), (132, [(3, (-21))]))] (137, []) 0 23 = true := by decide +kernel
theorem sn_406 {W : Bool} {X : List Int32} : y_Snd (mGw W) mLT1 (J2 W X) X cx_406 := y_ok J2_J mTS2_ok1 mTC2_ok1 mRUp_ok1 (fun _ h => absurd h List.not_mem_nil) ck_406
end
