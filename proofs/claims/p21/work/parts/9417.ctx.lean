noncomputable section
/-! ===== readings, by program, checked by the kernel ===== -/
def cx_367p : zS := ((cx_366pi_0 (cx_366pi_1 [])), [ur442, ur440, ur432], [uL1283, uL1284], [], [uV2, uV62], [uF1108, uF1290, uF540, uF1291, uF187, uF188, uF1292], [uG1285, uG468])
/-- HairRope.hold -/
def cx_367 : zCtx := (182, cx_367p, [([ui0, (0, 7), (0, 1), (0, 1), (0, 1), (0, 6), (0, 6), ui49, ui49, ui49], [ur442, ur440, ur432], [], [], [uV64], [uF1293], [uG1286, uG1287, uG1288])], kc_68, 89, 3, 108)
set_option maxRecDepth 1000000 in
theorem ck_367 : x_ok mLT1 [cx_362, cx_366] mTS2 mTC2 mRUp cx_367 [(1, [0]), (16, [1])] [] [] (13, []) 76 16 = true := by decide +kernel
theorem sn_367 {W : Bool} {X : List Int32} : y_Snd (mGw W) mLT1 (J2 W X) X cx_367 := y_ok J2_J mTS2_ok1 mTC2_ok1 mRUp_ok1 (List.forall_mem_cons.mpr ⟨sn_362, List.forall_mem_cons.mpr ⟨sn_366, fun _ h => absurd h List.not_mem_nil⟩⟩) ck_367
/-- History.slotAt -/
def cx_368 : zCtx := (44, ([ui0], [ur440], [], [], [uV2, uV64], [], []), [([ui0], [ur440, ur1294], [], [], [uV420], [], [])], [], 11, 0, 0)
set_option maxRecDepth 1000000 in
theorem ck_368 : x_ok mLT1 [] mTS2 mTC2 mRUp cx_368 [] [] [] (11, []) 0 14 = true := by decide +kernel
theorem sn_368 {W : Bool} {X : List Int32} : y_Snd (mGw W) mLT1 (J2 W X) X cx_368 := y_ok J2_J mTS2_ok1 mTC2_ok1 mRUp_ok1 (fun _ h => absurd h List.not_mem_nil) ck_368
def cx_369p : zS := ((cx_149pi_0 (cx_149pi_1 (cx_149pi_2 (cx_149pi_3 (cx_149pi_4 []))))), [ur1294, ur432, ur433, ur427, ur547, ur548, ur549], [], [], [uV2, uV420], (cx_149pf_0 (cx_149pf_1 (cx_149pf_2 (cx_149pf_3 (cx_149pf_4 (cx_149pf_5 [])))))), [])
def cx_369q0 : zS := ((cx_149pi_0 (cx_149pi_1 (cx_149pi_2 (cx_149pi_3 (cx_149pi_4 []))))), [ur1294, ur432, ur433, ur427, ur547, ur548, ur549], [], [], [], [uF126, uF128, uF129, uF710], [uG1295])
/-- State.copyFrom -/
def cx_369 : zCtx := (102, cx_369p, [cx_369q0], kc_69, 57, 1, 64)
set_option maxRecDepth 1000000 in
theorem ck_369 : x_ok mLT1 [] mTS2 mTC2 mRUp cx_369 [] [(107, [1001188])] [] (57, []) 0 60 = true := by decide +kernel
theorem sn_369 {W : Bool} {X : List Int32} : y_Snd (mGw W) mLT1 (J2 W X) X cx_369 := y_ok J2_J mTS2_ok1 mTC2_ok1 mRUp_ok1 (fun _ h => absurd h List.not_mem_nil) ck_369
def cx_370p : zS := ((cx_366pi_0 (cx_366pi_1 [])), [ur440, ur432], [uL1283, uL1284], [], [uV2, uV64, uV420], [uF32, uF580, uF581, uF582, uF583], [uG1285, uG468])
/-- History.fillSlot -/
def cx_370 : zCtx := (43, cx_370p, [([ui0, (0, 7), (0, 1), (0, 1), (0, 1), (0, 6), (0, 6), ui49, ui49, ui49], [ur440, ur432], [], [], [uV64], [uF307], [uG1296, uG1297, uG1298])], kc_70, 76, 2, 85)
set_option maxRecDepth 1000000 in
theorem ck_370 : x_ok mLT1 [cx_368, cx_369] mTS2 mTC2 mRUp cx_370 [(2, [0]), (14, [1])] [(14, uN1289), (17, [1000691]), (25, [1000667])] [] (19, []) 57 22 = true := by decide +kernel
theorem sn_370 {W : Bool} {X : List Int32} : y_Snd (mGw W) mLT1 (J2 W X) X cx_370 := y_ok J2_J mTS2_ok1 mTC2_ok1 mRUp_ok1 (List.forall_mem_cons.mpr ⟨sn_368, List.forall_mem_cons.mpr ⟨sn_369, fun _ h => absurd h List.not_mem_nil⟩⟩) ck_370
def cx_371p : zS := ((cx_366pi_0 (cx_366pi_1 [])), [ur442, ur440, ur432], [uL1283, uL1284], [], [uV2, uV64], [uF1108, uF1290, uF540, uF1291, uF187, uF188, uF1292], [uG1285, uG468])
/-- HairRope.hold -/
def cx_371 : zCtx := (182, cx_371p, [([ui0, (0, 7), (0, 1), (0, 1), (0, 1), (0, 6), (0, 6), ui49, ui49, ui49], [ur442, ur440, ur432], [], [], [uV64], [uF1293], [uG1296, uG1297, uG1298])], kc_70, 89, 3, 108)
set_option maxRecDepth 1000000 in
theorem ck_371 : x_ok mLT1 [cx_362, cx_370] mTS2 mTC2 mRUp cx_371 [(1, [0]), (16, [1])] [] [] (13, []) 76 16 = true := by decide +kernel
theorem sn_371 {W : Bool} {X : List Int32} : y_Snd (mGw W) mLT1 (J2 W X) X cx_371 := y_ok J2_J mTS2_ok1 mTC2_ok1 mRUp_ok1 (List.forall_mem_cons.mpr ⟨sn_362, List.forall_mem_cons.mpr ⟨sn_370, fun _ h => absurd h List.not_mem_nil⟩⟩) ck_371
/-- History.slotAt -/
def cx_372 : zCtx := (44, ([ui0], [ur440], [], [], [uV2, uV389], [], []), [([ui0], [ur440, ur1299], [], [], [uV420], [], [])], [], 11, 0, 0)
set_option maxRecDepth 1000000 in
theorem ck_372 : x_ok mLT1 [] mTS2 mTC2 mRUp cx_372 [] [] [] (11, []) 0 14 = true := by decide +kernel
theorem sn_372 {W : Bool} {X : List Int32} : y_Snd (mGw W) mLT1 (J2 W X) X cx_372 := y_ok J2_J mTS2_ok1 mTC2_ok1 mRUp_ok1 (fun _ h => absurd h List.not_mem_nil) ck_372
def cx_373p : zS := ((cx_149pi_0 (cx_149pi_1 (cx_149pi_2 (cx_149pi_3 (cx_149pi_4 []))))), [ur1299, ur432, ur433, ur427, ur547, ur548, ur549], [], [], [uV2, uV420], (cx_149pf_0 (cx_149pf_1 (cx_149pf_2 (cx_149pf_3 (cx_149pf_4 (cx_149pf_5 [])))))), [])
def cx_373q0 : zS := ((cx_149pi_0 (cx_149pi_1 (cx_149pi_2 (cx_149pi_3 (cx_149pi_4 []))))), [ur1299, ur432, ur433, ur427, ur547, ur548, ur549], [], [], [], [uF126, uF128, uF129, uF710], [uG1300])
/-- State.copyFrom -/
def cx_373 : zCtx := (102, cx_373p, [cx_373q0], kc_71, 57, 1, 64)
set_option maxRecDepth 1000000 in
theorem ck_373 : x_ok mLT1 [] mTS2 mTC2 mRUp cx_373 [] [(107, [1001187])] [] (57, []) 0 60 = true := by decide +kernel
theorem sn_373 {W : Bool} {X : List Int32} : y_Snd (mGw W) mLT1 (J2 W X) X cx_373 := y_ok J2_J mTS2_ok1 mTC2_ok1 mRUp_ok1 (fun _ h => absurd h List.not_mem_nil) ck_373
def cx_374p : zS := ((cx_366pi_0 (cx_366pi_1 [])), [ur440, ur432], [uL1283, uL1284], [], [uV2, uV389, uV420], [uF32, uF580, uF581, uF582, uF583], [uG1285, uG468])
/-- History.fillSlot -/
def cx_374 : zCtx := (43, cx_374p, [([ui0, (0, 7), (0, 1), (0, 1), (0, 1), (0, 6), (0, 6), ui49, ui49, ui49], [ur440, ur432], [], [], [uV64], [uF307], [uG1301, uG1302, uG1303])], kc_72, 76, 2, 85)
set_option maxRecDepth 1000000 in
theorem ck_374 : x_ok mLT1 [cx_372, cx_373] mTS2 mTC2 mRUp cx_374 [(2, [0]), (14, [1])] [(14, uN1289), (17, [1000691]), (25, [1000667])] [] (19, []) 57 22 = true := by decide +kernel
theorem sn_374 {W : Bool} {X : List Int32} : y_Snd (mGw W) mLT1 (J2 W X) X cx_374 := y_ok J2_J mTS2_ok1 mTC2_ok1 mRUp_ok1 (List.forall_mem_cons.mpr ⟨sn_372, List.forall_mem_cons.mpr ⟨sn_373, fun _ h => absurd h List.not_mem_nil⟩⟩) ck_374
def cx_375p : zS := ((cx_366pi_0 (cx_366pi_1 [])), [ur442, ur440, ur432], [uL1283, uL1284], [], [uV2, uV389], [uF1108, uF1290, uF540, uF1291, uF187, uF188, uF1292], [uG1285, uG468])
/-- HairRope.hold -/
def cx_375 : zCtx := (182, cx_375p, [([ui0, (0, 7), (0, 1), (0, 1), (0, 1), (0, 6), (0, 6), ui49, ui49, ui49], [ur442, ur440, ur432], [], [], [uV64], [uF1293], [uG1301, uG1302, uG1303])], kc_72, 89, 3, 108)
set_option maxRecDepth 1000000 in
theorem ck_375 : x_ok mLT1 [cx_362, cx_374] mTS2 mTC2 mRUp cx_375 [(1, [0]), (16, [1])] [] [] (13, []) 76 16 = true := by decide +kernel
theorem sn_375 {W : Bool} {X : List Int32} : y_Snd (mGw W) mLT1 (J2 W X) X cx_375 := y_ok J2_J mTS2_ok1 mTC2_ok1 mRUp_ok1 (List.forall_mem_cons.mpr ⟨sn_362, List.forall_mem_cons.mpr ⟨sn_374, fun _ h => absurd h List.not_mem_nil⟩⟩) ck_375
def cx_376pi_0 (t : List (Int × Int)) : List (Int × Int) := ui0 :: ui262 :: (0, 7) :: (0, 1) :: (0, 1) :: (0, 1) :: (0, 6) :: (0, 6) :: t
def cx_376pi_1 (t : List (Int × Int)) : List (Int × Int) := ui49 :: ui49 :: t
def cx_376p : zS := ((cx_376pi_0 (cx_376pi_1 [])), [ur442, ur440, ur432], [uL1274, uL1275], [], [uV2, uV11], [uF1108, uF1276, uF540, uF1147, uF1277, uF223, uF1278], [uG1279, uG1280])
/-- HairRope.hold -/
def cx_376 : zCtx := (182, cx_376p, [([ui0, ui262, (0, 7), (0, 1), (0, 1), (0, 1), (0, 6), (0, 6), ui49, ui49], [ur442, ur440, ur432], [], [], [uV62], [uF1276], [])], [], 13, 1, 20)
set_option maxRecDepth 1000000 in
theorem ck_376 : x_ok mLT1 [cx_362] mTS2 mTC2 mRUp cx_376 [(1, [0])] [] [] (5, []) 8 8 = true := by decide +kernel
theorem sn_376 {W : Bool} {X : List Int32} : y_Snd (mGw W) mLT1 (J2 W X) X cx_376 := y_ok J2_J mTS2_ok1 mTC2_ok1 mRUp_ok1 (List.forall_mem_cons.mpr ⟨sn_362, fun _ h => absurd h List.not_mem_nil⟩) ck_376
def cx_377pi_0 (t : List (Int × Int)) : List (Int × Int) := ui0 :: ui1273 :: (0, 7) :: (0, 1) :: (0, 1) :: (0, 1) :: (0, 6) :: (0, 6) :: t
def cx_377pi_1 (t : List (Int × Int)) : List (Int × Int) := ui49 :: ui49 :: ui439 :: t
def cx_377p : zS := ((cx_377pi_0 (cx_377pi_1 [])), [ur442, ur440, ur432], [uL1274, uL1275], [], [uV2, uV11], [uF1108, uF1276, uF540, uF1147, uF1277, uF223, uF1278, uF1304], [uG1279, uG1280])
/-- HairRope.restore -/
def cx_377 : zCtx := (184, cx_377p, [([ui0, ui1273, (0, 7), (0, 1), (0, 1), (0, 1), (0, 6), (0, 6), ui49, ui49, ui439], [ur442, ur440, ur432], [], [], [uV62], [uF1147, uF1277, uF223, uF1278, uF1304], [uG1280])], [], 13, 1, 20)
set_option maxRecDepth 1000000 in
theorem ck_377 : x_ok mLT1 [cx_362] mTS2 mTC2 mRUp cx_377 [(1, [0])] [] [] (5, []) 8 8 = true := by decide +kernel
theorem sn_377 {W : Bool} {X : List Int32} : y_Snd (mGw W) mLT1 (J2 W X) X cx_377 := y_ok J2_J mTS2_ok1 mTC2_ok1 mRUp_ok1 (List.forall_mem_cons.mpr ⟨sn_362, fun _ h => absurd h List.not_mem_nil⟩) ck_377
def cx_378p : zS := ((cx_149pi_0 (cx_149pi_1 (cx_149pi_2 (cx_149pi_3 (cx_149pi_4 []))))), [ur432, ur1281, ur1305, ur1306, ur1307, ur1308, ur1309], [], [], [uV2, uV420], (cx_149pf_0 (cx_149pf_1 (cx_149pf_2 (cx_149pf_3 (cx_149pf_4 (cx_149pf_5 [])))))), [])
def cx_378q0 : zS := ((cx_149pi_0 (cx_149pi_1 (cx_149pi_2 (cx_149pi_3 (cx_149pi_4 []))))), [ur432, ur1281, ur1305, ur1306, ur1307, ur1308, ur1309], [], [], [], [uF126, uF128, uF129, uF710], [uG1282])
/-- State.copyFrom -/
def cx_378 : zCtx := (102, cx_378p, [cx_378q0], kc_53, 57, 1, 64)
set_option maxRecDepth 1000000 in
theorem ck_378 : x_ok mLT1 [] mTS2 mTC2 mRUp cx_378 [] [(107, [1001189])] [] (57, []) 0 60 = true := by decide +kernel
theorem sn_378 {W : Bool} {X : List Int32} : y_Snd (mGw W) mLT1 (J2 W X) X cx_378 := y_ok J2_J mTS2_ok1 mTC2_ok1 mRUp_ok1 (fun _ h => absurd h List.not_mem_nil) ck_378
def cx_379pi_0 (t : List (Int × Int)) : List (Int × Int) := ui0 :: ui439 :: (0, 7) :: (0, 1) :: (0, 1) :: (0, 1) :: (0, 6) :: (0, 6) :: t
def cx_379pi_1 (t : List (Int × Int)) : List (Int × Int) := ui49 :: ui49 :: t
def cx_379p : zS := ((cx_379pi_0 (cx_379pi_1 [])), [ur440, ur432], [uL1274, uL1275], [], [uV2, uV62, uV420], [uF180, uF179, uF493, uF1046, uF421, uF422], [uG1279, uG1280])
/-- History.takeSlot -/
def cx_379 : zCtx := (45, cx_379p, [([ui0, ui439, (0, 7), (0, 1), (0, 1), (0, 1), (0, 6), (0, 6), ui49, ui49], [ur440, ur432], [], [], [uV62], [uF493, uF1046, uF421, uF422, uF180], [(101, [uL67, uL65, uL63]), uG1280]), ([ui0, ui439, (0, 7), (0, 1), (0, 1), (0, 1), (0, 6), (0, 6), ui49, ui49, ui505, (0, 6), ui49, ui49], [ur440, ur432], [], [], [uV64], [uF493, uF309, uF426, uF1310, uF441], [(101, [uL67, uL65, uL170]), (249, [uL78, uL195, uL214, uL207, uL63])])], kc_54, 78, 2, 85)
set_option maxRecDepth 1000000 in
theorem ck_379 : x_ok mLT1 [cx_364, cx_378] mTS2 mTC2 mRUp cx_379 [(2, [0]), (25, [1])] [(17, [1000668]), (18, uN1311), (23, uN1312), (28, uN1313)] [] (21, []) 57 24 = true := by decide +kernel
theorem sn_379 {W : Bool} {X : List Int32} : y_Snd (mGw W) mLT1 (J2 W X) X cx_379 := y_ok J2_J mTS2_ok1 mTC2_ok1 mRUp_ok1 (List.forall_mem_cons.mpr ⟨sn_364, List.forall_mem_cons.mpr ⟨sn_378, fun _ h => absurd h List.not_mem_nil⟩⟩) ck_379
def cx_380pi_0 (t : List (Int × Int)) : List (Int × Int) := ui0 :: (0, 7) :: (0, 1) :: (0, 1) :: (0, 1) :: (0, 6) :: (0, 6) :: ui49 :: t
def cx_380pi_1 (t : List (Int × Int)) : List (Int × Int) := ui49 :: ui439 :: t
def cx_380p : zS := ((cx_380pi_0 (cx_380pi_1 [])), [ur442, ur440, ur432], [uL1283, uL1284], [], [uV2, uV62], [uF1108, uF1290, uF540, uF1291, uF187, uF188, uF1292, uF1314], [uG1285, uG468])
/-- HairRope.restore -/
def cx_380 : zCtx := (184, cx_380p, [([ui0, (0, 7), (0, 1), (0, 1), (0, 1), (0, 6), (0, 6), ui49, ui49, ui439, ui505, (0, 6), ui49, ui49], [ur442, ur440, ur432], [], [], [uV64], [uF1291, uF1315, uF1316, uF1317, uF1318], [(101, [uL9, uL65, uL170]), (249, [uL104, uL195, uL214, uL207, uL63])]), ([ui0, (0, 7), (0, 1), (0, 1), (0, 1), (0, 6), (0, 6), ui49, ui49, ui439], [ur442, ur440, ur432], [], [], [uV62], [uF1291, uF187, uF188, uF1292, uF1314], [(101, [uL9, uL65, uL63]), uG468])], kc_54, 91, 3, 108)
set_option maxRecDepth 1000000 in
theorem ck_380 : x_ok mLT1 [cx_362, cx_379] mTS2 mTC2 mRUp cx_380 [(1, [0]), (16, [1])] [] [] (13, []) 78 16 = true := by decide +kernel
theorem sn_380 {W : Bool} {X : List Int32} : y_Snd (mGw W) mLT1 (J2 W X) X cx_380 := y_ok J2_J mTS2_ok1 mTC2_ok1 mRUp_ok1 (List.forall_mem_cons.mpr ⟨sn_362, List.forall_mem_cons.mpr ⟨sn_379, fun _ h => absurd h List.not_mem_nil⟩⟩) ck_380
def cx_381p : zS := ((cx_149pi_0 (cx_149pi_1 (cx_149pi_2 (cx_149pi_3 (cx_149pi_4 []))))), [ur432, ur1294, ur1319, ur1320, ur1321, ur1322, ur1323], [], [], [uV2, uV420], (cx_149pf_0 (cx_149pf_1 (cx_149pf_2 (cx_149pf_3 (cx_149pf_4 (cx_149pf_5 [])))))), [])
def cx_381q0 : zS := ((cx_149pi_0 (cx_149pi_1 (cx_149pi_2 (cx_149pi_3 (cx_149pi_4 []))))), [ur432, ur1294, ur1319, ur1320, ur1321, ur1322, ur1323], [], [], [], [uF126, uF128, uF129, uF710], [uG1295])
/-- State.copyFrom -/
def cx_381 : zCtx := (102, cx_381p, [cx_381q0], kc_53, 57, 1, 64)
set_option maxRecDepth 1000000 in
theorem ck_381 : x_ok mLT1 [] mTS2 mTC2 mRUp cx_381 [] [(107, [1001188])] [] (57, []) 0 60 = true := by decide +kernel
theorem sn_381 {W : Bool} {X : List Int32} : y_Snd (mGw W) mLT1 (J2 W X) X cx_381 := y_ok J2_J mTS2_ok1 mTC2_ok1 mRUp_ok1 (fun _ h => absurd h List.not_mem_nil) ck_381
def cx_382p : zS := ((cx_379pi_0 (cx_379pi_1 [])), [ur440, ur432], [uL1274, uL1275], [], [uV2, uV64, uV420], [uF180, uF179, uF493, uF1046, uF421, uF422], [uG1279, uG1280])
/-- History.takeSlot -/
def cx_382 : zCtx := (45, cx_382p, [([ui0, ui439, (0, 7), (0, 1), (0, 1), (0, 1), (0, 6), (0, 6), ui49, ui49], [ur440, ur432], [], [], [uV62], [uF493, uF1046, uF421, uF422, uF180], [(101, [uL67, uL114, uL63]), uG1280]), ([ui0, ui439, (0, 7), (0, 1), (0, 1), (0, 1), (0, 6), (0, 6), ui49, ui49, ui505, (0, 6), ui49, ui49], [ur440, ur432], [], [], [uV64], [uF493, uF309, uF426, uF1310, uF441], [(101, [uL67, uL114, uL170]), (249, [uL78, uL195, uL214, uL207, uL65])])], kc_54, 78, 2, 85)
set_option maxRecDepth 1000000 in
theorem ck_382 : x_ok mLT1 [cx_368, cx_381] mTS2 mTC2 mRUp cx_382 [(2, [0]), (25, [1])] [(17, [1000668]), (18, uN1311), (23, uN1312), (28, uN1313)] [] (21, []) 57 24 = true := by decide +kernel
theorem sn_382 {W : Bool} {X : List Int32} : y_Snd (mGw W) mLT1 (J2 W X) X cx_382 := y_ok J2_J mTS2_ok1 mTC2_ok1 mRUp_ok1 (List.forall_mem_cons.mpr ⟨sn_368, List.forall_mem_cons.mpr ⟨sn_381, fun _ h => absurd h List.not_mem_nil⟩⟩) ck_382
def cx_383p : zS := ((cx_380pi_0 (cx_380pi_1 [])), [ur442, ur440, ur432], [uL1283, uL1284], [], [uV2, uV64], [uF1108, uF1290, uF540, uF1291, uF187, uF188, uF1292, uF1314], [uG1285, uG468])
/-- HairRope.restore -/
def cx_383 : zCtx := (184, cx_383p, [([ui0, (0, 7), (0, 1), (0, 1), (0, 1), (0, 6), (0, 6), ui49, ui49, ui439, ui505, (0, 6), ui49, ui49], [ur442, ur440, ur432], [], [], [uV64], [uF1291, uF1315, uF1316, uF1317, uF1318], [(101, [uL9, uL114, uL170]), (249, [uL104, uL195, uL214, uL207, uL65])]), ([ui0, (0, 7), (0, 1), (0, 1), (0, 1), (0, 6), (0, 6), ui49, ui49, ui439], [ur442, ur440, ur432], [], [], [uV62], [uF1291, uF187, uF188, uF1292, uF1314], [(101, [uL9, uL114, uL63]), uG468])], kc_54, 91, 3, 108)
set_option maxRecDepth 1000000 in
theorem ck_383 : x_ok mLT1 [cx_362, cx_382] mTS2 mTC2 mRUp cx_383 [(1, [0]), (16, [1])] [] [] (13, []) 78 16 = true := by decide +kernel
theorem sn_383 {W : Bool} {X : List Int32} : y_Snd (mGw W) mLT1 (J2 W X) X cx_383 := y_ok J2_J mTS2_ok1 mTC2_ok1 mRUp_ok1 (List.forall_mem_cons.mpr ⟨sn_362, List.forall_mem_cons.mpr ⟨sn_382, fun _ h => absurd h List.not_mem_nil⟩⟩) ck_383
def cx_384p : zS := ((cx_149pi_0 (cx_149pi_1 (cx_149pi_2 (cx_149pi_3 (cx_149pi_4 []))))), [ur432, ur1299, ur1324, ur1325, ur1326, ur1327, ur1328], [], [], [uV2, uV420], (cx_149pf_0 (cx_149pf_1 (cx_149pf_2 (cx_149pf_3 (cx_149pf_4 (cx_149pf_5 [])))))), [])
def cx_384q0 : zS := ((cx_149pi_0 (cx_149pi_1 (cx_149pi_2 (cx_149pi_3 (cx_149pi_4 []))))), [ur432, ur1299, ur1324, ur1325, ur1326, ur1327, ur1328], [], [], [], [uF126, uF128, uF129, uF710], [uG1300])
/-- State.copyFrom -/
def cx_384 : zCtx := (102, cx_384p, [cx_384q0], kc_53, 57, 1, 64)
set_option maxRecDepth 1000000 in
theorem ck_384 : x_ok mLT1 [] mTS2 mTC2 mRUp cx_384 [] [(107, [1001187])] [] (57, []) 0 60 = true := by decide +kernel
theorem sn_384 {W : Bool} {X : List Int32} : y_Snd (mGw W) mLT1 (J2 W X) X cx_384 := y_ok J2_J mTS2_ok1 mTC2_ok1 mRUp_ok1 (fun _ h => absurd h List.not_mem_nil) ck_384
def cx_385p : zS := ((cx_379pi_0 (cx_379pi_1 [])), [ur440, ur432], [uL1274, uL1275], [], [uV2, uV389, uV420], [uF180, uF179, uF493, uF1046, uF421, uF422], [uG1279, uG1280])
/-- History.takeSlot -/
def cx_385 : zCtx := (45, cx_385p, [([ui0, ui439, (0, 7), (0, 1), (0, 1), (0, 1), (0, 6), (0, 6), ui49, ui49], [ur440, ur432], [], [], [uV62], [uF493, uF1046, uF421, uF422, uF180], [(101, [uL67, uL36, uL63]), uG1280]), ([ui0, ui439, (0, 7), (0, 1), (0, 1), (0, 1), (0, 6), (0, 6), ui49, ui49, ui505, (0, 6), ui49, ui49], [ur440, ur432], [], [], [uV64], [uF493, uF309, uF426, uF1310, uF441], [(101, [uL67, uL36, uL170]), (249, [uL78, uL195, uL214, uL207, uL114])])], kc_54, 78, 2, 85)
set_option maxRecDepth 1000000 in
theorem ck_385 : x_ok mLT1 [cx_372, cx_384] mTS2 mTC2 mRUp cx_385 [(2, [0]), (25, [1])] [(17, [1000668]), (18, uN1311), (23, uN1312), (28, uN1313)] [] (21, []) 57 24 = true := by decide +kernel
theorem sn_385 {W : Bool} {X : List Int32} : y_Snd (mGw W) mLT1 (J2 W X) X cx_385 := y_ok J2_J mTS2_ok1 mTC2_ok1 mRUp_ok1 (List.forall_mem_cons.mpr ⟨sn_372, List.forall_mem_cons.mpr ⟨sn_384, fun _ h => absurd h List.not_mem_nil⟩⟩) ck_385
def cx_386p : zS := ((cx_380pi_0 (cx_380pi_1 [])), [ur442, ur440, ur432], [uL1283, uL1284], [], [uV2, uV389], [uF1108, uF1290, uF540, uF1291, uF187, uF188, uF1292, uF1314], [uG1285, uG468])
/-- HairRope.restore -/
def cx_386 : zCtx := (184, cx_386p, [([ui0, (0, 7), (0, 1), (0, 1), (0, 1), (0, 6), (0, 6), ui49, ui49, ui439, ui505, (0, 6), ui49, ui49], [ur442, ur440, ur432], [], [], [uV64], [uF1291, uF1315, uF1316, uF1317, uF1318], [(101, [uL9, uL36, uL170]), (249, [uL104, uL195, uL214, uL207, uL114])]), ([ui0, (0, 7), (0, 1), (0, 1), (0, 1), (0, 6), (0, 6), ui49, ui49, ui439], [ur442, ur440, ur432], [], [], [uV62], [uF1291, uF187, uF188, uF1292, uF1314], [(101, [uL9, uL36, uL63]), uG468])], kc_54, 91, 3, 108)
set_option maxRecDepth 1000000 in
theorem ck_386 : x_ok mLT1 [cx_362, cx_385] mTS2 mTC2 mRUp cx_386 [(1, [0]), (16, [1])] [] [] (13, []) 78 16 = true := by decide +kernel
theorem sn_386 {W : Bool} {X : List Int32} : y_Snd (mGw W) mLT1 (J2 W X) X cx_386 := y_ok J2_J mTS2_ok1 mTC2_ok1 mRUp_ok1 (List.forall_mem_cons.mpr ⟨sn_362, List.forall_mem_cons.mpr ⟨sn_385, fun _ h => absurd h List.not_mem_nil⟩⟩) ck_386
def cx_387pi_0 (t : List (Int × Int)) : List (Int × Int) := ui0 :: ui262 :: (0, 7) :: (0, 1) :: (0, 1) :: (0, 1) :: (0, 6) :: (0, 6) :: t
def cx_387pi_1 (t : List (Int × Int)) : List (Int × Int) := ui49 :: ui49 :: ui439 :: t
def cx_387p : zS := ((cx_387pi_0 (cx_387pi_1 [])), [ur442, ur440, ur432], [uL1274, uL1275], [], [uV2, uV11], [uF1108, uF1276, uF540, uF1147, uF1277, uF223, uF1278, uF1304], [uG1279, uG1280])
/-- HairRope.restore -/
def cx_387 : zCtx := (184, cx_387p, [([ui0, ui262, (0, 7), (0, 1), (0, 1), (0, 1), (0, 6), (0, 6), ui49, ui49, ui439], [ur442, ur440, ur432], [], [], [uV62], [uF1147, uF1277, uF223, uF1278, uF1304], [uG1280])], [], 13, 1, 20)
set_option maxRecDepth 1000000 in
theorem ck_387 : x_ok mLT1 [cx_362] mTS2 mTC2 mRUp cx_387 [(1, [0])] [] [] (5, []) 8 8 = true := by decide +kernel
theorem sn_387 {W : Bool} {X : List Int32} : y_Snd (mGw W) mLT1 (J2 W X) X cx_387 := y_ok J2_J mTS2_ok1 mTC2_ok1 mRUp_ok1 (List.forall_mem_cons.mpr ⟨sn_362, fun _ h => absurd h List.not_mem_nil⟩) ck_387
/-- State.lengthBelow -/
def cx_388 : zCtx := (105, ([ui0, ui124, (0, 6)], [ur432], [], [], [uV2, uV11], [uF39], []), [([ui0, ui124, (0, 6), ui49], [ur432], [], [], [uV58], [], [])], [], 117, 1, 64)
set_option maxRecDepth 1000000 in
theorem ck_388 : x_ok mLT1 [] mTS2 mTC2 mRUp cx_388 [] [] [(10, ([(0, 3072), ((-1), (-1)), (0, 6), ((-2147483648), 2147483647), (0, 6)], [(6, false)], [], [(2, 0, 0, []), (0, 0, 0, [(1, 1)]), (0, 0, 0, [(3, 1)]), (0, 0, 0, [(4, 1)])], [], [(0, (false, 6, 0, []), 0, 0, 0, [(2, 1)])], []), ((-99999999892), [(1, (-100000000000)), (4, (-17))]))] (117, []) 0 19 = true := by decide +kernel
theorem sn_388 {W : Bool} {X : List Int32} : y_Snd (mGw W) mLT1 (J2 W X) X cx_388 := y_ok J2_J mTS2_ok1 mTC2_ok1 mRUp_ok1 (fun _ h => absurd h List.not_mem_nil) ck_388
/-- State.ropeLength -/
def cx_389 : zCtx := (104, ([ui0, (0, 6)], [ur432], [], [], [uV2], [uF769], []), [([ui0, (0, 6), ui49], [ur432], [], [], [uV12], [], [])], [], 121, 2, 87)
set_option maxRecDepth 1000000 in
theorem ck_389 : x_ok mLT1 [cx_388] mTS2 mTC2 mRUp cx_389 [(2, [0])] [] [] (4, []) 117 7 = true := by decide +kernel
theorem sn_389 {W : Bool} {X : List Int32} : y_Snd (mGw W) mLT1 (J2 W X) X cx_389 := y_ok J2_J mTS2_ok1 mTC2_ok1 mRUp_ok1 (List.forall_mem_cons.mpr ⟨sn_388, fun _ h => absurd h List.not_mem_nil⟩) ck_389
/-- State.sumOfHair -/
def cx_390 : zCtx := (108, ([ui0, (0, 6)], [ur432], [], [], [uV2], [uF38], []), [([ui0, (0, 6), ui49], [ur432], [], [], [uV12], [], [])], [], 113, 0, 0)
set_option maxRecDepth 1000000 in
theorem ck_390 : x_ok mLT1 [] mTS2 mTC2 mRUp cx_390 [] [] [(4, ([(0, 3072), (0, 6), ((-2147483648), 2147483647), (0, 6)], [(6, false)], [], [(2, 0, 0, []), (0, 0, 0, [(2, 1)]), (0, 0, 0, [(3, 1)])], [], [(0, (false, 5, 0, []), 0, 0, 0, [(1, 1)])], []), (108, [(3, (-17))]))] (113, []) 0 19 = true := by decide +kernel
theorem sn_390 {W : Bool} {X : List Int32} : y_Snd (mGw W) mLT1 (J2 W X) X cx_390 := y_ok J2_J mTS2_ok1 mTC2_ok1 mRUp_ok1 (fun _ h => absurd h List.not_mem_nil) ck_390
/-- State.housesInRope -/
def cx_391 : zCtx := (109, ([ui0, (0, 6)], [ur432], [], [], [uV2], [uF769], []), [([ui0, (0, 6), ui49], [ur432], [], [], [uV12], [], [])], [], 125, 0, 0)
set_option maxRecDepth 1000000 in
theorem ck_391 : x_ok mLT1 [] mTS2 mTC2 mRUp cx_391 [] [] [(4, ([(0, 3072), (0, 6), ((-2147483648), 2147483647), (0, 6)], [(6, false)], [], [(2, 0, 0, []), (0, 0, 0, [(2, 1)]), (0, 0, 0, [(3, 1)])], [], [(0, (false, 6, 0, []), 0, 0, 0, [(1, 1)])], []), (120, [(3, (-19))]))] (125, []) 0 21 = true := by decide +kernel
theorem sn_391 {W : Bool} {X : List Int32} : y_Snd (mGw W) mLT1 (J2 W X) X cx_391 := y_ok J2_J mTS2_ok1 mTC2_ok1 mRUp_ok1 (fun _ h => absurd h List.not_mem_nil) ck_391
/-- State.sumOfGiven -/
def cx_392 : zCtx := (110, ([ui0, (0, 6)], [ur432], [], [], [uV2], [uF38], []), [([ui0, (0, 6), ui49], [ur432], [], [], [uV12], [], [])], [], 113, 0, 0)
set_option maxRecDepth 1000000 in
theorem ck_392 : x_ok mLT1 [] mTS2 mTC2 mRUp cx_392 [] [] [(4, ([(0, 3072), (0, 6), ((-2147483648), 2147483647), (0, 6)], [(6, false)], [], [(2, 0, 0, []), (0, 0, 0, [(2, 1)]), (0, 0, 0, [(3, 1)])], [], [(0, (false, 5, 0, []), 0, 0, 0, [(1, 1)])], []), (108, [(3, (-17))]))] (113, []) 0 19 = true := by decide +kernel
theorem sn_392 {W : Bool} {X : List Int32} : y_Snd (mGw W) mLT1 (J2 W X) X cx_392 := y_ok J2_J mTS2_ok1 mTC2_ok1 mRUp_ok1 (fun _ h => absurd h List.not_mem_nil) ck_392
/-- State.housesWithoutHair -/
def cx_393 : zCtx := (111, ([ui0, (0, 6)], [ur432], [], [], [uV2], [uF38], []), [([ui0, (0, 6), ui844], [ur432], [], [], [uV12], [], [])], [], 137, 0, 0)
set_option maxRecDepth 1000000 in
theorem ck_393 : x_ok mLT1 [] mTS2 mTC2 mRUp cx_393 [] [] [(4, ([(0, 3072), (0, 6), (0, 63), (0, 6)], [(6, false)], [], [(2, 0, 0, []), (0, 0, 0, [(2, 1)]), (0, 0, 0, [(3, 1)])], [], [(0, (false, 5, 0, []), 0, 0, 0, [(1, 1)])], []), (132, [(3, (-21))]))] (137, []) 0 23 = true := by decide +kernel
theorem sn_393 {W : Bool} {X : List Int32} : y_Snd (mGw W) mLT1 (J2 W X) X cx_393 := y_ok J2_J mTS2_ok1 mTC2_ok1 mRUp_ok1 (fun _ h => absurd h List.not_mem_nil) ck_393
/-- State.sumOfStrength -/
def cx_394 : zCtx := (112, ([ui0, (0, 6)], [ur432], [], [], [uV2], [uF769], []), [([ui0, (0, 6), ui49], [ur432], [], [], [uV12], [], [])], [], 113, 0, 0)
set_option maxRecDepth 1000000 in
theorem ck_394 : x_ok mLT1 [] mTS2 mTC2 mRUp cx_394 [] [] [(4, ([(0, 3072), (0, 6), ((-2147483648), 2147483647), (0, 6)], [(6, false)], [], [(2, 0, 0, []), (0, 0, 0, [(2, 1)]), (0, 0, 0, [(3, 1)])], [], [(0, (false, 6, 0, []), 0, 0, 0, [(1, 1)])], []), (108, [(3, (-17))]))] (113, []) 0 19 = true := by decide +kernel
theorem sn_394 {W : Bool} {X : List Int32} : y_Snd (mGw W) mLT1 (J2 W X) X cx_394 := y_ok J2_J mTS2_ok1 mTC2_ok1 mRUp_ok1 (fun _ h => absurd h List.not_mem_nil) ck_394
/-- HairRope.count -/
def cx_395 : zCtx := (185, ([ui0, ui49], [ur442], [], [], [uV2, uV11], [], []), [([ui0, ui1329, ui49], [ur442], [], [], [uV12], [], []), ([ui0, ui1330], [ur442], [], [], [uV64], [], []), ([ui0, ui1330], [ur442], [], [], [uV62], [], []), ([ui0, ui49], [ur442], [], [], [uV61], [], [])], [], 150, 3, 107)
set_option maxRecDepth 1000000 in
theorem ck_395 : x_ok mLT1 [cx_389, cx_390, cx_391, cx_257, cx_392, cx_393, cx_394] mTS2 mTC2 mRUp cx_395 [(126, [0]), (142, [1]), (150, [2]), (185, [3]), (193, [0]), (230, [4]), (238, [5]), (246, [6])] [] [] (13, []) 137 16 = true := by decide +kernel
theorem sn_395 {W : Bool} {X : List Int32} : y_Snd (mGw W) mLT1 (J2 W X) X cx_395 := y_ok J2_J mTS2_ok1 mTC2_ok1 mRUp_ok1 (List.forall_mem_cons.mpr ⟨sn_389, List.forall_mem_cons.mpr ⟨sn_390, List.forall_mem_cons.mpr ⟨sn_391, List.forall_mem_cons.mpr ⟨sn_257, List.forall_mem_cons.mpr ⟨sn_392, List.forall_mem_cons.mpr ⟨sn_393, List.forall_mem_cons.mpr ⟨sn_394, fun _ h => absurd h List.not_mem_nil⟩⟩⟩⟩⟩⟩⟩) ck_395
/-- M.lays -/
def cx_396 : zCtx := (193, ([ui0, ui49, ui472, ui52], [ur1331, ur1332], [uL473], [], [uV2, uV11], [uF150, uF42], [uG474]), [([ui0, ui49, ui472, ui52], [ur1331, ur1332], [], [], [], [uF1333], [uG474, uG1334])], [uk1335, uk1336], 81, 0, 0)
set_option maxRecDepth 1000000 in
theorem ck_396 : x_ok mLT1 [] mTS2 mTC2 mRUp cx_396 [] [(17, [1000424]), (18, [1000422]), (36, [1000425])] [] (81, []) 0 84 = true := by decide +kernel
theorem sn_396 {W : Bool} {X : List Int32} : y_Snd (mGw W) mLT1 (J2 W X) X cx_396 := y_ok J2_J mTS2_ok1 mTC2_ok1 mRUp_ok1 (fun _ h => absurd h List.not_mem_nil) ck_396
/-- M.lays -/
def cx_397 : zCtx := (193, ([ui0, ui49, ui480, ui52, ui49], [ur1331, ur1332], [uL473], [], [uV2, uV11], [uF150, uF42], [uG474, uG1337]), [([ui0, ui49, ui480, ui52, ui49], [ur1331, ur1332], [], [], [], [uF1333], [uG474, uG1337, uG1334])], [uk1335, uk1336], 81, 0, 0)
set_option maxRecDepth 1000000 in
theorem ck_397 : x_ok mLT1 [] mTS2 mTC2 mRUp cx_397 [] [(17, [1000424]), (18, [1000422]), (36, [1000425])] [] (81, []) 0 84 = true := by decide +kernel
theorem sn_397 {W : Bool} {X : List Int32} : y_Snd (mGw W) mLT1 (J2 W X) X cx_397 := y_ok J2_J mTS2_ok1 mTC2_ok1 mRUp_ok1 (fun _ h => absurd h List.not_mem_nil) ck_397
/-- M.lays -/
def cx_398 : zCtx := (193, ([ui0, ui49, ui483, ui52, ui49, ui49], [ur1331, ur1332], [uL473], [], [uV2, uV11], [uF150, uF42], [uG474, uG1337, uG1338]), [([ui0, ui49, ui483, ui52, ui49, ui49], [ur1331, ur1332], [], [], [], [uF1333], [uG474, uG1337, uG1338, uG1334])], [uk1335, uk1336], 81, 0, 0)
set_option maxRecDepth 1000000 in
theorem ck_398 : x_ok mLT1 [] mTS2 mTC2 mRUp cx_398 [] [(17, [1000424]), (18, [1000422]), (36, [1000425])] [] (81, []) 0 84 = true := by decide +kernel
theorem sn_398 {W : Bool} {X : List Int32} : y_Snd (mGw W) mLT1 (J2 W X) X cx_398 := y_ok J2_J mTS2_ok1 mTC2_ok1 mRUp_ok1 (fun _ h => absurd h List.not_mem_nil) ck_398
/-- M.lays -/
def cx_399 : zCtx := (193, ([ui0, ui49, ui486, ui52, ui49, ui49, ui49], [ur1331, ur1332], [uL473], [], [uV2, uV11], [uF150, uF42], [uG474, uG1337, uG1338, uG1339]), [([ui0, ui49, ui486, ui52, ui49, ui49, ui49], [ur1331, ur1332], [], [], [], [uF1333], [uG474, uG1337, uG1338, uG1339, uG1334])], [uk1335, uk1336], 81, 0, 0)
set_option maxRecDepth 1000000 in
theorem ck_399 : x_ok mLT1 [] mTS2 mTC2 mRUp cx_399 [] [(17, [1000424]), (18, [1000422]), (36, [1000425])] [] (81, []) 0 84 = true := by decide +kernel
theorem sn_399 {W : Bool} {X : List Int32} : y_Snd (mGw W) mLT1 (J2 W X) X cx_399 := y_ok J2_J mTS2_ok1 mTC2_ok1 mRUp_ok1 (fun _ h => absurd h List.not_mem_nil) ck_399
/-- M.lays -/
def cx_400 : zCtx := (193, ([ui0, ui49, ui489, ui52, ui49, ui49, ui49, ui49], [ur1331, ur1332], [uL473], [], [uV2, uV11], [uF150, uF42], [uG474, uG1337, uG1338, uG1339, uG1340]), [([ui0, ui49, ui489, ui52, ui49, ui49, ui49, ui49], [ur1331, ur1332], [], [], [], [uF1333], [uG474, uG1337, uG1338, uG1339, uG1340, uG1334])], [uk1335, uk1336], 81, 0, 0)
set_option maxRecDepth 1000000 in
theorem ck_400 : x_ok mLT1 [] mTS2 mTC2 mRUp cx_400 [] [(17, [1000424]), (18, [1000422]), (36, [1000425])] [] (81, []) 0 84 = true := by decide +kernel
theorem sn_400 {W : Bool} {X : List Int32} : y_Snd (mGw W) mLT1 (J2 W X) X cx_400 := y_ok J2_J mTS2_ok1 mTC2_ok1 mRUp_ok1 (fun _ h => absurd h List.not_mem_nil) ck_400
/-- M.feed -/
def cx_401 : zCtx := (192, ([ui0, ui49, ui49, ui49, ui49, ui49, ui52, ui52], [ur1331, ur1332], [uL492], [], [uV2, uV11, uV12, uV58, uV97, uV75], [uF1341, uF42], [uG495]), [([ui0, ui49, ui49, ui49, ui49, ui49, ui52, ui52], [ur1331, ur1332], [uL496], [], [uV61], [uF1341], [uG495]), ([ui0, ui49, ui49, ui49, ui49, ui49, ui52, ui52], [ur1331, ur1332], [uL497], [], [uV498], [(0, (false, 2, 0, []), 0, 0, 20, [(6, 1)])], [uG495, (73, [uL78, uL9, uL499]), (73, [uL499, uL67, uL500]), (73, [uL500, uL23, uL501]), (73, [uL501, uL98, uL502]), (73, [uL502, uL104, uL503])])], [uk1335, uk1336], 105, 1, 22)
set_option maxRecDepth 1000000 in
theorem ck_401 : x_ok mLT1 [cx_396, cx_397, cx_398, cx_399, cx_400] mTS2 mTC2 mRUp cx_401 [(17, [0]), (22, [1]), (27, [2]), (33, [3]), (39, [4])] [] [] (24, []) 81 27 = true := by decide +kernel
theorem sn_401 {W : Bool} {X : List Int32} : y_Snd (mGw W) mLT1 (J2 W X) X cx_401 := y_ok J2_J mTS2_ok1 mTC2_ok1 mRUp_ok1 (List.forall_mem_cons.mpr ⟨sn_396, List.forall_mem_cons.mpr ⟨sn_397, List.forall_mem_cons.mpr ⟨sn_398, List.forall_mem_cons.mpr ⟨sn_399, List.forall_mem_cons.mpr ⟨sn_400, fun _ h => absurd h List.not_mem_nil⟩⟩⟩⟩⟩) ck_401
/-- M.back -/
def cx_402 : zCtx := (194, ([ui0, ui49, ui52], [ur1331], [], [], [uV2, uV11], [uF150], []), [([ui0, ui505, ui52], [ur1331], [uL506], [], [uV61], [uF150], []), ([ui0, ui52, ui52], [ur1331], [uL507], [], [uV508], [(0, (false, 2, 0, []), 0, 0, 0, [(1, (-1)), (2, 1)])], []), ([ui0, ui262, ui52], [ur1331], [], [], [uV61], [uF150], [])], [uk1335], 15, 0, 0)
set_option maxRecDepth 1000000 in
theorem ck_402 : x_ok mLT1 [] mTS2 mTC2 mRUp cx_402 [] [] [] (15, []) 0 18 = true := by decide +kernel
theorem sn_402 {W : Bool} {X : List Int32} : y_Snd (mGw W) mLT1 (J2 W X) X cx_402 := y_ok J2_J mTS2_ok1 mTC2_ok1 mRUp_ok1 (fun _ h => absurd h List.not_mem_nil) ck_402
/-- M.byteAt -/
def cx_403 : zCtx := (197, ([ui0, ui52, ui52], [ur1331, ur1342], [uL9], [], [uV2, uV11], [uF179, uF596], [(52, [uL67])]), [([ui0, ui52, ui52, ui56], [ur1331, ur1342], [uL57], [], [uV58], [], [uG59]), ([ui0, ui52, ui52], [ur1331, ur1342], [uL60], [], [uV62], [], [])], [], 12, 0, 0)
set_option maxRecDepth 1000000 in
theorem ck_403 : x_ok mLT1 [] mTS2 mTC2 mRUp cx_403 [] [(18, [1000199, 1000200])] [] (12, []) 0 15 = true := by decide +kernel
theorem sn_403 {W : Bool} {X : List Int32} : y_Snd (mGw W) mLT1 (J2 W X) X cx_403 := y_ok J2_J mTS2_ok1 mTC2_ok1 mRUp_ok1 (fun _ h => absurd h List.not_mem_nil) ck_403
/-- M.token -/
def cx_404 : zCtx := (198, ([ui0, ui1343, ui52, ui196, ui1344, ui68, ui52, ui52], [ur1331, ur1345, ur1346, ur1347, ur1348], [], [], [uV2, uV11, uV12, uV58, uV74], [uF1210, uF1349, uF1350, uF1351, uF448], [uG1352]), [([ui0, ui1343, ui52, ui196, ui1344, ui68, ui52, ui52], [ur1331, ur1345, ur1346, ur1347, ur1348], [], [], [], [(1, (true, 0, 0, [(5, 1)]), 0, 0, 0, [(1, 1)]), (2, (true, 0, 0, [(5, 1)]), 0, 0, 0, [(2, 1)]), (3, (true, 0, 0, [(5, 1)]), 0, 0, 0, [(3, 1)]), (4, (true, 0, 0, [(5, 1)]), 1, 0, 0, [(4, 1)]), (0, (false, 10, 0, []), 0, 0, 1, [(5, 1)])], [uG1352])], [uk1353, uk1354, uk1355, uk1356, uk1357], 31, 0, 0)
set_option maxRecDepth 1000000 in
theorem ck_404 : x_ok mLT1 [] mTS2 mTC2 mRUp cx_404 [] [] [] (31, []) 0 34 = true := by decide +kernel
theorem sn_404 {W : Bool} {X : List Int32} : y_Snd (mGw W) mLT1 (J2 W X) X cx_404 := y_ok J2_J mTS2_ok1 mTC2_ok1 mRUp_ok1 (fun _ h => absurd h List.not_mem_nil) ck_404
/-- M.isLetter -/
def cx_405 : zCtx := (199, ([ui0, ui56], [], [], [], [uV11], [], []), [([ui0, ui56], [], [], [], [uV64], [], [uG84]), ([ui0, ui56], [], [], [], [uV62], [], [uG85])], [], 9, 0, 0)
set_option maxRecDepth 1000000 in
theorem ck_405 : x_ok mLT1 [] mTS2 mTC2 mRUp cx_405 [] [(17, [1000001])] [] (9, []) 0 12 = true := by decide +kernel
theorem sn_405 {W : Bool} {X : List Int32} : y_Snd (mGw W) mLT1 (J2 W X) X cx_405 := y_ok J2_J mTS2_ok1 mTC2_ok1 mRUp_ok1 (fun _ h => absurd h List.not_mem_nil) ck_405
/-- M.appends -/
def cx_406 : zCtx := (189, ([ui0, ui1358, ui1359], [], [], [], [uV175, uV12], [], []), [([ui0, ui1358, ui1359], [], [], [], [(1, 0, (-96), [(1, 27), (2, 1)])], [], [])], [], 13, 0, 0)
set_option maxRecDepth 1000000 in
theorem ck_406 : x_ok mLT1 [] mTS2 mTC2 mRUp cx_406 [] [] [] (13, []) 0 16 = true := by decide +kernel
theorem sn_406 {W : Bool} {X : List Int32} : y_Snd (mGw W) mLT1 (J2 W X) X cx_406 := y_ok J2_J mTS2_ok1 mTC2_ok1 mRUp_ok1 (fun _ h => absurd h List.not_mem_nil) ck_406
end
