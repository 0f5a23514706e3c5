noncomputable section
/-! ===== readings, by program, checked by the kernel ===== -/
def cx_367p : zS := ((cx_359pi_0 (cx_359pi_1 [])), [ur442, ur434], [uL1252, uL1253], [], [uV2, uV391, uV422], [uF32, uF582, uF583, uF584, uF585], [uG1254, uG470])
/-- History.fillSlot -/
def cx_367 : zCtx := (43, cx_367p, [([ui0, (0, 7), (0, 1), (0, 1), (0, 1), (0, 6), (0, 6), ui51, ui51, ui51], [ur442, ur434], [], [], [uV66], [uF309], [uG1269, uG1270, uG1271])], kc_72, 76, 2, 85)
set_option maxRecDepth 1000000 in
theorem ck_367 : x_ok mLT1 [cx_365, cx_366] mTS2 mTC2 mRUp cx_367 [(2, [0]), (14, [1])] [(14, uN1258), (17, [1000691]), (25, [1000667])] [] (19, []) 57 22 = true := by decide +kernel
theorem sn_367 {W : Bool} {X : List Int32} : y_Snd (mGw W) mLT1 (J2 W X) X cx_367 := y_ok J2_J mTS2_ok1 mTC2_ok1 mRUp_ok1 (List.forall_mem_cons.mpr ⟨sn_365, List.forall_mem_cons.mpr ⟨sn_366, fun _ h => absurd h List.not_mem_nil⟩⟩) ck_367
def cx_368p : zS := ((cx_359pi_0 (cx_359pi_1 [])), [ur444, ur442, ur434], [uL1252, uL1253], [], [uV2, uV391], [uF1190, uF1259, uF542, uF1231, uF190, uF191, uF1260], [uG1254, uG470])
/-- HairRope.hold -/
def cx_368 : zCtx := (182, cx_368p, [([ui0, (0, 7), (0, 1), (0, 1), (0, 1), (0, 6), (0, 6), ui51, ui51, ui51], [ur444, ur442, ur434], [], [], [uV66], [uF1261], [uG1269, uG1270, uG1271])], kc_72, 89, 3, 108)
set_option maxRecDepth 1000000 in
theorem ck_368 : x_ok mLT1 [cx_355, cx_367] mTS2 mTC2 mRUp cx_368 [(1, [0]), (16, [1])] [] [] (13, []) 76 16 = true := by decide +kernel
theorem sn_368 {W : Bool} {X : List Int32} : y_Snd (mGw W) mLT1 (J2 W X) X cx_368 := y_ok J2_J mTS2_ok1 mTC2_ok1 mRUp_ok1 (List.forall_mem_cons.mpr ⟨sn_355, List.forall_mem_cons.mpr ⟨sn_367, fun _ h => absurd h List.not_mem_nil⟩⟩) ck_368
def cx_369pi_0 (t : List (Int × Int)) : List (Int × Int) := ui0 :: ui265 :: (0, 7) :: (0, 1) :: (0, 1) :: (0, 1) :: (0, 6) :: (0, 6) :: t
def cx_369pi_1 (t : List (Int × Int)) : List (Int × Int) := ui51 :: ui51 :: t
def cx_369p : zS := ((cx_369pi_0 (cx_369pi_1 [])), [ur444, ur442, ur434], [uL1243, uL1244], [], [uV2, uV11], [uF1190, uF1245, uF542, uF1088, uF1246, uF226, uF1247], [uG1248, uG1249])
/-- HairRope.hold -/
def cx_369 : zCtx := (182, cx_369p, [([ui0, ui265, (0, 7), (0, 1), (0, 1), (0, 1), (0, 6), (0, 6), ui51, ui51], [ur444, ur442, ur434], [], [], [uV64], [uF1245], [])], [], 13, 1, 20)
set_option maxRecDepth 1000000 in
theorem ck_369 : x_ok mLT1 [cx_355] mTS2 mTC2 mRUp cx_369 [(1, [0])] [] [] (5, []) 8 8 = true := by decide +kernel
theorem sn_369 {W : Bool} {X : List Int32} : y_Snd (mGw W) mLT1 (J2 W X) X cx_369 := y_ok J2_J mTS2_ok1 mTC2_ok1 mRUp_ok1 (List.forall_mem_cons.mpr ⟨sn_355, fun _ h => absurd h List.not_mem_nil⟩) ck_369
def cx_370pi_0 (t : List (Int × Int)) : List (Int × Int) := ui0 :: ui1242 :: (0, 7) :: (0, 1) :: (0, 1) :: (0, 1) :: (0, 6) :: (0, 6) :: t
def cx_370pi_1 (t : List (Int × Int)) : List (Int × Int) := ui51 :: ui51 :: ui441 :: t
def cx_370p : zS := ((cx_370pi_0 (cx_370pi_1 [])), [ur444, ur442, ur434], [uL1243, uL1244], [], [uV2, uV11], [uF1190, uF1245, uF542, uF1088, uF1246, uF226, uF1247, uF1272], [uG1248, uG1249])
/-- HairRope.restore -/
def cx_370 : zCtx := (184, cx_370p, [([ui0, ui1242, (0, 7), (0, 1), (0, 1), (0, 1), (0, 6), (0, 6), ui51, ui51, ui441], [ur444, ur442, ur434], [], [], [uV64], [uF1088, uF1246, uF226, uF1247, uF1272], [uG1249])], [], 13, 1, 20)
set_option maxRecDepth 1000000 in
theorem ck_370 : x_ok mLT1 [cx_355] mTS2 mTC2 mRUp cx_370 [(1, [0])] [] [] (5, []) 8 8 = true := by decide +kernel
theorem sn_370 {W : Bool} {X : List Int32} : y_Snd (mGw W) mLT1 (J2 W X) X cx_370 := y_ok J2_J mTS2_ok1 mTC2_ok1 mRUp_ok1 (List.forall_mem_cons.mpr ⟨sn_355, fun _ h => absurd h List.not_mem_nil⟩) ck_370
def cx_371p : zS := ((cx_149pi_0 (cx_149pi_1 (cx_149pi_2 (cx_149pi_3 (cx_149pi_4 []))))), [ur434, ur1250, ur1273, ur1274, ur1275, ur1276, ur1277], [], [], [uV2, uV422], (cx_149pf_0 (cx_149pf_1 (cx_149pf_2 (cx_149pf_3 (cx_149pf_4 (cx_149pf_5 [])))))), [])
def cx_371q0 : zS := ((cx_149pi_0 (cx_149pi_1 (cx_149pi_2 (cx_149pi_3 (cx_149pi_4 []))))), [ur434, ur1250, ur1273, ur1274, ur1275, ur1276, ur1277], [], [], [], [uF128, uF130, uF131, uF712], [uG1251])
/-- State.copyFrom -/
def cx_371 : zCtx := (102, cx_371p, [cx_371q0], kc_53, 57, 1, 64)
set_option maxRecDepth 1000000 in
theorem ck_371 : x_ok mLT1 [] mTS2 mTC2 mRUp cx_371 [] [(107, [1001167])] [] (57, []) 0 60 = true := by decide +kernel
theorem sn_371 {W : Bool} {X : List Int32} : y_Snd (mGw W) mLT1 (J2 W X) X cx_371 := y_ok J2_J mTS2_ok1 mTC2_ok1 mRUp_ok1 (fun _ h => absurd h List.not_mem_nil) ck_371
def cx_372pi_0 (t : List (Int × Int)) : List (Int × Int) := ui0 :: ui441 :: (0, 7) :: (0, 1) :: (0, 1) :: (0, 1) :: (0, 6) :: (0, 6) :: t
def cx_372pi_1 (t : List (Int × Int)) : List (Int × Int) := ui51 :: ui51 :: t
def cx_372p : zS := ((cx_372pi_0 (cx_372pi_1 [])), [ur442, ur434], [uL1243, uL1244], [], [uV2, uV64, uV422], [uF183, uF182, uF495, uF1047, uF423, uF424], [uG1248, uG1249])
/-- History.takeSlot -/
def cx_372 : zCtx := (45, cx_372p, [([ui0, ui441, (0, 7), (0, 1), (0, 1), (0, 1), (0, 6), (0, 6), ui51, ui51], [ur442, ur434], [], [], [uV64], [uF495, uF1047, uF423, uF424, uF183], [(101, [uL69, uL67, uL65]), uG1249]), ([ui0, ui441, (0, 7), (0, 1), (0, 1), (0, 1), (0, 6), (0, 6), ui51, ui51, ui507, (0, 6), ui51, ui51], [ur442, ur434], [], [], [uV66], [uF495, uF311, uF429, uF1278, uF443], [(101, [uL69, uL67, uL173]), (249, [uL80, uL198, uL217, uL210, uL65])])], kc_54, 78, 2, 85)
set_option maxRecDepth 1000000 in
theorem ck_372 : x_ok mLT1 [cx_357, cx_371] mTS2 mTC2 mRUp cx_372 [(2, [0]), (25, [1])] [(17, [1000668]), (18, uN1279), (23, uN1280), (28, uN1281)] [] (21, []) 57 24 = true := by decide +kernel
theorem sn_372 {W : Bool} {X : List Int32} : y_Snd (mGw W) mLT1 (J2 W X) X cx_372 := y_ok J2_J mTS2_ok1 mTC2_ok1 mRUp_ok1 (List.forall_mem_cons.mpr ⟨sn_357, List.forall_mem_cons.mpr ⟨sn_371, fun _ h => absurd h List.not_mem_nil⟩⟩) ck_372
def cx_373pi_0 (t : List (Int × Int)) : List (Int × Int) := ui0 :: (0, 7) :: (0, 1) :: (0, 1) :: (0, 1) :: (0, 6) :: (0, 6) :: ui51 :: t
def cx_373pi_1 (t : List (Int × Int)) : List (Int × Int) := ui51 :: ui441 :: t
def cx_373p : zS := ((cx_373pi_0 (cx_373pi_1 [])), [ur444, ur442, ur434], [uL1252, uL1253], [], [uV2, uV64], [uF1190, uF1259, uF542, uF1231, uF190, uF191, uF1260, uF1282], [uG1254, uG470])
/-- HairRope.restore -/
def cx_373 : zCtx := (184, cx_373p, [([ui0, (0, 7), (0, 1), (0, 1), (0, 1), (0, 6), (0, 6), ui51, ui51, ui441, ui507, (0, 6), ui51, ui51], [ur444, ur442, ur434], [], [], [uV66], [uF1231, uF1283, uF1284, uF1285, uF1286], [(101, [uL9, uL67, uL173]), (249, [uL106, uL198, uL217, uL210, uL65])]), ([ui0, (0, 7), (0, 1), (0, 1), (0, 1), (0, 6), (0, 6), ui51, ui51, ui441], [ur444, ur442, ur434], [], [], [uV64], [uF1231, uF190, uF191, uF1260, uF1282], [(101, [uL9, uL67, uL65]), uG470])], kc_54, 91, 3, 108)
set_option maxRecDepth 1000000 in
theorem ck_373 : x_ok mLT1 [cx_355, cx_372] mTS2 mTC2 mRUp cx_373 [(1, [0]), (16, [1])] [] [] (13, []) 78 16 = true := by decide +kernel
theorem sn_373 {W : Bool} {X : List Int32} : y_Snd (mGw W) mLT1 (J2 W X) X cx_373 := y_ok J2_J mTS2_ok1 mTC2_ok1 mRUp_ok1 (List.forall_mem_cons.mpr ⟨sn_355, List.forall_mem_cons.mpr ⟨sn_372, fun _ h => absurd h List.not_mem_nil⟩⟩) ck_373
def cx_374p : zS := ((cx_149pi_0 (cx_149pi_1 (cx_149pi_2 (cx_149pi_3 (cx_149pi_4 []))))), [ur434, ur1262, ur1287, ur1288, ur1289, ur1290, ur1291], [], [], [uV2, uV422], (cx_149pf_0 (cx_149pf_1 (cx_149pf_2 (cx_149pf_3 (cx_149pf_4 (cx_149pf_5 [])))))), [])
def cx_374q0 : zS := ((cx_149pi_0 (cx_149pi_1 (cx_149pi_2 (cx_149pi_3 (cx_149pi_4 []))))), [ur434, ur1262, ur1287, ur1288, ur1289, ur1290, ur1291], [], [], [], [uF128, uF130, uF131, uF712], [uG1263])
/-- State.copyFrom -/
def cx_374 : zCtx := (102, cx_374p, [cx_374q0], kc_53, 57, 1, 64)
set_option maxRecDepth 1000000 in
theorem ck_374 : x_ok mLT1 [] mTS2 mTC2 mRUp cx_374 [] [(107, [1001166])] [] (57, []) 0 60 = true := by decide +kernel
theorem sn_374 {W : Bool} {X : List Int32} : y_Snd (mGw W) mLT1 (J2 W X) X cx_374 := y_ok J2_J mTS2_ok1 mTC2_ok1 mRUp_ok1 (fun _ h => absurd h List.not_mem_nil) ck_374
def cx_375p : zS := ((cx_372pi_0 (cx_372pi_1 [])), [ur442, ur434], [uL1243, uL1244], [], [uV2, uV66, uV422], [uF183, uF182, uF495, uF1047, uF423, uF424], [uG1248, uG1249])
/-- History.takeSlot -/
def cx_375 : zCtx := (45, cx_375p, [([ui0, ui441, (0, 7), (0, 1), (0, 1), (0, 1), (0, 6), (0, 6), ui51, ui51], [ur442, ur434], [], [], [uV64], [uF495, uF1047, uF423, uF424, uF183], [(101, [uL69, uL116, uL65]), uG1249]), ([ui0, ui441, (0, 7), (0, 1), (0, 1), (0, 1), (0, 6), (0, 6), ui51, ui51, ui507, (0, 6), ui51, ui51], [ur442, ur434], [], [], [uV66], [uF495, uF311, uF429, uF1278, uF443], [(101, [uL69, uL116, uL173]), (249, [uL80, uL198, uL217, uL210, uL67])])], kc_54, 78, 2, 85)
set_option maxRecDepth 1000000 in
theorem ck_375 : x_ok mLT1 [cx_361, cx_374] mTS2 mTC2 mRUp cx_375 [(2, [0]), (25, [1])] [(17, [1000668]), (18, uN1279), (23, uN1280), (28, uN1281)] [] (21, []) 57 24 = true := by decide +kernel
theorem sn_375 {W : Bool} {X : List Int32} : y_Snd (mGw W) mLT1 (J2 W X) X cx_375 := y_ok J2_J mTS2_ok1 mTC2_ok1 mRUp_ok1 (List.forall_mem_cons.mpr ⟨sn_361, List.forall_mem_cons.mpr ⟨sn_374, fun _ h => absurd h List.not_mem_nil⟩⟩) ck_375
def cx_376p : zS := ((cx_373pi_0 (cx_373pi_1 [])), [ur444, ur442, ur434], [uL1252, uL1253], [], [uV2, uV66], [uF1190, uF1259, uF542, uF1231, uF190, uF191, uF1260, uF1282], [uG1254, uG470])
/-- HairRope.restore -/
def cx_376 : zCtx := (184, cx_376p, [([ui0, (0, 7), (0, 1), (0, 1), (0, 1), (0, 6), (0, 6), ui51, ui51, ui441, ui507, (0, 6), ui51, ui51], [ur444, ur442, ur434], [], [], [uV66], [uF1231, uF1283, uF1284, uF1285, uF1286], [(101, [uL9, uL116, uL173]), (249, [uL106, uL198, uL217, uL210, uL67])]), ([ui0, (0, 7), (0, 1), (0, 1), (0, 1), (0, 6), (0, 6), ui51, ui51, ui441], [ur444, ur442, ur434], [], [], [uV64], [uF1231, uF190, uF191, uF1260, uF1282], [(101, [uL9, uL116, uL65]), uG470])], kc_54, 91, 3, 108)
set_option maxRecDepth 1000000 in
theorem ck_376 : x_ok mLT1 [cx_355, cx_375] mTS2 mTC2 mRUp cx_376 [(1, [0]), (16, [1])] [] [] (13, []) 78 16 = true := by decide +kernel
theorem sn_376 {W : Bool} {X : List Int32} : y_Snd (mGw W) mLT1 (J2 W X) X cx_376 := y_ok J2_J mTS2_ok1 mTC2_ok1 mRUp_ok1 (List.forall_mem_cons.mpr ⟨sn_355, List.forall_mem_cons.mpr ⟨sn_375, fun _ h => absurd h List.not_mem_nil⟩⟩) ck_376
def cx_377p : zS := ((cx_149pi_0 (cx_149pi_1 (cx_149pi_2 (cx_149pi_3 (cx_149pi_4 []))))), [ur434, ur1267, ur1292, ur1293, ur1294, ur1295, ur1296], [], [], [uV2, uV422], (cx_149pf_0 (cx_149pf_1 (cx_149pf_2 (cx_149pf_3 (cx_149pf_4 (cx_149pf_5 [])))))), [])
def cx_377q0 : zS := ((cx_149pi_0 (cx_149pi_1 (cx_149pi_2 (cx_149pi_3 (cx_149pi_4 []))))), [ur434, ur1267, ur1292, ur1293, ur1294, ur1295, ur1296], [], [], [], [uF128, uF130, uF131, uF712], [uG1268])
/-- State.copyFrom -/
def cx_377 : zCtx := (102, cx_377p, [cx_377q0], kc_53, 57, 1, 64)
set_option maxRecDepth 1000000 in
theorem ck_377 : x_ok mLT1 [] mTS2 mTC2 mRUp cx_377 [] [(107, [1001165])] [] (57, []) 0 60 = true := by decide +kernel
theorem sn_377 {W : Bool} {X : List Int32} : y_Snd (mGw W) mLT1 (J2 W X) X cx_377 := y_ok J2_J mTS2_ok1 mTC2_ok1 mRUp_ok1 (fun _ h => absurd h List.not_mem_nil) ck_377
def cx_378p : zS := ((cx_372pi_0 (cx_372pi_1 [])), [ur442, ur434], [uL1243, uL1244], [], [uV2, uV391, uV422], [uF183, uF182, uF495, uF1047, uF423, uF424], [uG1248, uG1249])
/-- History.takeSlot -/
def cx_378 : zCtx := (45, cx_378p, [([ui0, ui441, (0, 7), (0, 1), (0, 1), (0, 1), (0, 6), (0, 6), ui51, ui51], [ur442, ur434], [], [], [uV64], [uF495, uF1047, uF423, uF424, uF183], [(101, [uL69, uL36, uL65]), uG1249]), ([ui0, ui441, (0, 7), (0, 1), (0, 1), (0, 1), (0, 6), (0, 6), ui51, ui51, ui507, (0, 6), ui51, ui51], [ur442, ur434], [], [], [uV66], [uF495, uF311, uF429, uF1278, uF443], [(101, [uL69, uL36, uL173]), (249, [uL80, uL198, uL217, uL210, uL116])])], kc_54, 78, 2, 85)
set_option maxRecDepth 1000000 in
theorem ck_378 : x_ok mLT1 [cx_365, cx_377] mTS2 mTC2 mRUp cx_378 [(2, [0]), (25, [1])] [(17, [1000668]), (18, uN1279), (23, uN1280), (28, uN1281)] [] (21, []) 57 24 = true := by decide +kernel
theorem sn_378 {W : Bool} {X : List Int32} : y_Snd (mGw W) mLT1 (J2 W X) X cx_378 := y_ok J2_J mTS2_ok1 mTC2_ok1 mRUp_ok1 (List.forall_mem_cons.mpr ⟨sn_365, List.forall_mem_cons.mpr ⟨sn_377, fun _ h => absurd h List.not_mem_nil⟩⟩) ck_378
def cx_379p : zS := ((cx_373pi_0 (cx_373pi_1 [])), [ur444, ur442, ur434], [uL1252, uL1253], [], [uV2, uV391], [uF1190, uF1259, uF542, uF1231, uF190, uF191, uF1260, uF1282], [uG1254, uG470])
/-- HairRope.restore -/
def cx_379 : zCtx := (184, cx_379p, [([ui0, (0, 7), (0, 1), (0, 1), (0, 1), (0, 6), (0, 6), ui51, ui51, ui441, ui507, (0, 6), ui51, ui51], [ur444, ur442, ur434], [], [], [uV66], [uF1231, uF1283, uF1284, uF1285, uF1286], [(101, [uL9, uL36, uL173]), (249, [uL106, uL198, uL217, uL210, uL116])]), ([ui0, (0, 7), (0, 1), (0, 1), (0, 1), (0, 6), (0, 6), ui51, ui51, ui441], [ur444, ur442, ur434], [], [], [uV64], [uF1231, uF190, uF191, uF1260, uF1282], [(101, [uL9, uL36, uL65]), uG470])], kc_54, 91, 3, 108)
set_option maxRecDepth 1000000 in
theorem ck_379 : x_ok mLT1 [cx_355, cx_378] mTS2 mTC2 mRUp cx_379 [(1, [0]), (16, [1])] [] [] (13, []) 78 16 = true := by decide +kernel
theorem sn_379 {W : Bool} {X : List Int32} : y_Snd (mGw W) mLT1 (J2 W X) X cx_379 := y_ok J2_J mTS2_ok1 mTC2_ok1 mRUp_ok1 (List.forall_mem_cons.mpr ⟨sn_355, List.forall_mem_cons.mpr ⟨sn_378, fun _ h => absurd h List.not_mem_nil⟩⟩) ck_379
def cx_380pi_0 (t : List (Int × Int)) : List (Int × Int) := ui0 :: ui265 :: (0, 7) :: (0, 1) :: (0, 1) :: (0, 1) :: (0, 6) :: (0, 6) :: t
def cx_380pi_1 (t : List (Int × Int)) : List (Int × Int) := ui51 :: ui51 :: ui441 :: t
def cx_380p : zS := ((cx_380pi_0 (cx_380pi_1 [])), [ur444, ur442, ur434], [uL1243, uL1244], [], [uV2, uV11], [uF1190, uF1245, uF542, uF1088, uF1246, uF226, uF1247, uF1272], [uG1248, uG1249])
/-- HairRope.restore -/
def cx_380 : zCtx := (184, cx_380p, [([ui0, ui265, (0, 7), (0, 1), (0, 1), (0, 1), (0, 6), (0, 6), ui51, ui51, ui441], [ur444, ur442, ur434], [], [], [uV64], [uF1088, uF1246, uF226, uF1247, uF1272], [uG1249])], [], 13, 1, 20)
set_option maxRecDepth 1000000 in
theorem ck_380 : x_ok mLT1 [cx_355] mTS2 mTC2 mRUp cx_380 [(1, [0])] [] [] (5, []) 8 8 = true := by decide +kernel
theorem sn_380 {W : Bool} {X : List Int32} : y_Snd (mGw W) mLT1 (J2 W X) X cx_380 := y_ok J2_J mTS2_ok1 mTC2_ok1 mRUp_ok1 (List.forall_mem_cons.mpr ⟨sn_355, fun _ h => absurd h List.not_mem_nil⟩) ck_380
/-- State.lengthBelow -/
def cx_381 : zCtx := (105, ([ui0, ui126, (0, 6)], [ur434], [], [], [uV2, uV11], [uF39], []), [([ui0, ui126, (0, 6), ui51], [ur434], [], [], [uV60], [], [])], [], 117, 1, 64)
set_option maxRecDepth 1000000 in
theorem ck_381 : x_ok mLT1 [] mTS2 mTC2 mRUp cx_381 [] [] [(10, ([(0, 3072), ((-1), (-1)), (0, 6), ((-2147483648), 2147483647), (0, 6)], [(6, false)], [], [(2, 0, 0, []), (0, 0, 0, [(1, 1)]), (0, 0, 0, [(3, 1)]), (0, 0, 0, [(4, 1)])], [], [(0, (false, 6, 0, []), 0, 0, 0, [(2, 1)])], []), ((-99999999892), [(1, (-100000000000)), (4, (-17))]))] (117, []) 0 19 = true := by decide +kernel
theorem sn_381 {W : Bool} {X : List Int32} : y_Snd (mGw W) mLT1 (J2 W X) X cx_381 := y_ok J2_J mTS2_ok1 mTC2_ok1 mRUp_ok1 (fun _ h => absurd h List.not_mem_nil) ck_381
/-- State.ropeLength -/
def cx_382 : zCtx := (104, ([ui0, (0, 6)], [ur434], [], [], [uV2], [uF770], []), [([ui0, (0, 6), ui51], [ur434], [], [], [uV12], [], [])], [], 121, 2, 87)
set_option maxRecDepth 1000000 in
theorem ck_382 : x_ok mLT1 [cx_381] mTS2 mTC2 mRUp cx_382 [(2, [0])] [] [] (4, []) 117 7 = true := by decide +kernel
theorem sn_382 {W : Bool} {X : List Int32} : y_Snd (mGw W) mLT1 (J2 W X) X cx_382 := y_ok J2_J mTS2_ok1 mTC2_ok1 mRUp_ok1 (List.forall_mem_cons.mpr ⟨sn_381, fun _ h => absurd h List.not_mem_nil⟩) ck_382
/-- State.sumOfHair -/
def cx_383 : zCtx := (108, ([ui0, (0, 6)], [ur434], [], [], [uV2], [uF38], []), [([ui0, (0, 6), ui51], [ur434], [], [], [uV12], [], [])], [], 113, 0, 0)
set_option maxRecDepth 1000000 in
theorem ck_383 : x_ok mLT1 [] mTS2 mTC2 mRUp cx_383 [] [] [(4, ([(0, 3072), (0, 6), ((-2147483648), 2147483647), (0, 6)], [(6, false)], [], [(2, 0, 0, []), (0, 0, 0, [(2, 1)]), (0, 0, 0, [(3, 1)])], [], [(0, (false, 5, 0, []), 0, 0, 0, [(1, 1)])], []), (108, [(3, (-17))]))] (113, []) 0 19 = true := by decide +kernel
theorem sn_383 {W : Bool} {X : List Int32} : y_Snd (mGw W) mLT1 (J2 W X) X cx_383 := y_ok J2_J mTS2_ok1 mTC2_ok1 mRUp_ok1 (fun _ h => absurd h List.not_mem_nil) ck_383
/-- State.housesInRope -/
def cx_384 : zCtx := (109, ([ui0, (0, 6)], [ur434], [], [], [uV2], [uF770], []), [([ui0, (0, 6), ui51], [ur434], [], [], [uV12], [], [])], [], 125, 0, 0)
set_option maxRecDepth 1000000 in
theorem ck_384 : x_ok mLT1 [] mTS2 mTC2 mRUp cx_384 [] [] [(4, ([(0, 3072), (0, 6), ((-2147483648), 2147483647), (0, 6)], [(6, false)], [], [(2, 0, 0, []), (0, 0, 0, [(2, 1)]), (0, 0, 0, [(3, 1)])], [], [(0, (false, 6, 0, []), 0, 0, 0, [(1, 1)])], []), (120, [(3, (-19))]))] (125, []) 0 21 = true := by decide +kernel
theorem sn_384 {W : Bool} {X : List Int32} : y_Snd (mGw W) mLT1 (J2 W X) X cx_384 := y_ok J2_J mTS2_ok1 mTC2_ok1 mRUp_ok1 (fun _ h => absurd h List.not_mem_nil) ck_384
/-- State.sumOfGiven -/
def cx_385 : zCtx := (110, ([ui0, (0, 6)], [ur434], [], [], [uV2], [uF38], []), [([ui0, (0, 6), ui51], [ur434], [], [], [uV12], [], [])], [], 113, 0, 0)
set_option maxRecDepth 1000000 in
theorem ck_385 : x_ok mLT1 [] mTS2 mTC2 mRUp cx_385 [] [] [(4, ([(0, 3072), (0, 6), ((-2147483648), 2147483647), (0, 6)], [(6, false)], [], [(2, 0, 0, []), (0, 0, 0, [(2, 1)]), (0, 0, 0, [(3, 1)])], [], [(0, (false, 5, 0, []), 0, 0, 0, [(1, 1)])], []), (108, [(3, (-17))]))] (113, []) 0 19 = true := by decide +kernel
theorem sn_385 {W : Bool} {X : List Int32} : y_Snd (mGw W) mLT1 (J2 W X) X cx_385 := y_ok J2_J mTS2_ok1 mTC2_ok1 mRUp_ok1 (fun _ h => absurd h List.not_mem_nil) ck_385
/-- State.housesWithoutHair -/
def cx_386 : zCtx := (111, ([ui0, (0, 6)], [ur434], [], [], [uV2], [uF38], []), [([ui0, (0, 6), ui845], [ur434], [], [], [uV12], [], [])], [], 137, 0, 0)
set_option maxRecDepth 1000000 in
theorem ck_386 : x_ok mLT1 [] mTS2 mTC2 mRUp cx_386 [] [] [(4, ([(0, 3072), (0, 6), (0, 63), (0, 6)], [(6, false)], [], [(2, 0, 0, []), (0, 0, 0, [(2, 1)]), (0, 0, 0, [(3, 1)])], [], [(0, (false, 5, 0, []), 0, 0, 0, [(1, 1)])], []), (132, [(3, (-21))]))] (137, []) 0 23 = true := by decide +kernel
theorem sn_386 {W : Bool} {X : List Int32} : y_Snd (mGw W) mLT1 (J2 W X) X cx_386 := y_ok J2_J mTS2_ok1 mTC2_ok1 mRUp_ok1 (fun _ h => absurd h List.not_mem_nil) ck_386
/-- State.sumOfStrength -/
def cx_387 : zCtx := (112, ([ui0, (0, 6)], [ur434], [], [], [uV2], [uF770], []), [([ui0, (0, 6), ui51], [ur434], [], [], [uV12], [], [])], [], 113, 0, 0)
set_option maxRecDepth 1000000 in
theorem ck_387 : x_ok mLT1 [] mTS2 mTC2 mRUp cx_387 [] [] [(4, ([(0, 3072), (0, 6), ((-2147483648), 2147483647), (0, 6)], [(6, false)], [], [(2, 0, 0, []), (0, 0, 0, [(2, 1)]), (0, 0, 0, [(3, 1)])], [], [(0, (false, 6, 0, []), 0, 0, 0, [(1, 1)])], []), (108, [(3, (-17))]))] (113, []) 0 19 = true := by decide +kernel
theorem sn_387 {W : Bool} {X : List Int32} : y_Snd (mGw W) mLT1 (J2 W X) X cx_387 := y_ok J2_J mTS2_ok1 mTC2_ok1 mRUp_ok1 (fun _ h => absurd h List.not_mem_nil) ck_387
/-- HairRope.count -/
def cx_388 : zCtx := (185, ([ui0, ui51], [ur444], [], [], [uV2, uV11], [], []), [([ui0, ui1297, ui51], [ur444], [], [], [uV12], [], []), ([ui0, ui1298], [ur444], [], [], [uV66], [], []), ([ui0, ui1298], [ur444], [], [], [uV64], [], []), ([ui0, ui51], [ur444], [], [], [uV63], [], [])], [], 150, 3, 107)
set_option maxRecDepth 1000000 in
theorem ck_388 : x_ok mLT1 [cx_382, cx_383, cx_384, cx_261, cx_385, cx_386, cx_387] mTS2 mTC2 mRUp cx_388 [(126, [0]), (142, [1]), (150, [2]), (185, [3]), (193, [0]), (230, [4]), (238, [5]), (246, [6])] [] [] (13, []) 137 16 = true := by decide +kernel
theorem sn_388 {W : Bool} {X : List Int32} : y_Snd (mGw W) mLT1 (J2 W X) X cx_388 := y_ok J2_J mTS2_ok1 mTC2_ok1 mRUp_ok1 (List.forall_mem_cons.mpr ⟨sn_382, List.forall_mem_cons.mpr ⟨sn_383, List.forall_mem_cons.mpr ⟨sn_384, List.forall_mem_cons.mpr ⟨sn_261, List.forall_mem_cons.mpr ⟨sn_385, List.forall_mem_cons.mpr ⟨sn_386, List.forall_mem_cons.mpr ⟨sn_387, fun _ h => absurd h List.not_mem_nil⟩⟩⟩⟩⟩⟩⟩) ck_388
/-- M.lays -/
def cx_389 : zCtx := (193, ([ui0, ui51, ui474, ui54], [ur1299, ur1300], [uL475], [], [uV2, uV11], [uF152, uF44], [uG476]), [([ui0, ui51, ui474, ui54], [ur1299, ur1300], [], [], [], [uF1301], [uG476, uG1302])], [uk1303, uk1304], 81, 0, 0)
set_option maxRecDepth 1000000 in
theorem ck_389 : x_ok mLT1 [] mTS2 mTC2 mRUp cx_389 [] [(17, [1000424]), (18, [1000422]), (36, [1000425])] [] (81, []) 0 84 = true := by decide +kernel
theorem sn_389 {W : Bool} {X : List Int32} : y_Snd (mGw W) mLT1 (J2 W X) X cx_389 := y_ok J2_J mTS2_ok1 mTC2_ok1 mRUp_ok1 (fun _ h => absurd h List.not_mem_nil) ck_389
/-- M.lays -/
def cx_390 : zCtx := (193, ([ui0, ui51, ui482, ui54, ui51], [ur1299, ur1300], [uL475], [], [uV2, uV11], [uF152, uF44], [uG476, uG1305]), [([ui0, ui51, ui482, ui54, ui51], [ur1299, ur1300], [], [], [], [uF1301], [uG476, uG1305, uG1302])], [uk1303, uk1304], 81, 0, 0)
set_option maxRecDepth 1000000 in
theorem ck_390 : x_ok mLT1 [] mTS2 mTC2 mRUp cx_390 [] [(17, [1000424]), (18, [1000422]), (36, [1000425])] [] (81, []) 0 84 = true := by decide +kernel
theorem sn_390 {W : Bool} {X : List Int32} : y_Snd (mGw W) mLT1 (J2 W X) X cx_390 := y_ok J2_J mTS2_ok1 mTC2_ok1 mRUp_ok1 (fun _ h => absurd h List.not_mem_nil) ck_390
/-- M.lays -/
def cx_391 : zCtx := (193, ([ui0, ui51, ui485, ui54, ui51, ui51], [ur1299, ur1300], [uL475], [], [uV2, uV11], [uF152, uF44], [uG476, uG1305, uG1306]), [([ui0, ui51, ui485, ui54, ui51, ui51], [ur1299, ur1300], [], [], [], [uF1301], [uG476, uG1305, uG1306, uG1302])], [uk1303, uk1304], 81, 0, 0)
set_option maxRecDepth 1000000 in
theorem ck_391 : x_ok mLT1 [] mTS2 mTC2 mRUp cx_391 [] [(17, [1000424]), (18, [1000422]), (36, [1000425])] [] (81, []) 0 84 = true := by decide +kernel
theorem sn_391 {W : Bool} {X : List Int32} : y_Snd (mGw W) mLT1 (J2 W X) X cx_391 := y_ok J2_J mTS2_ok1 mTC2_ok1 mRUp_ok1 (fun _ h => absurd h List.not_mem_nil) ck_391
/-- M.lays -/
def cx_392 : zCtx := (193, ([ui0, ui51, ui488, ui54, ui51, ui51, ui51], [ur1299, ur1300], [uL475], [], [uV2, uV11], [uF152, uF44], [uG476, uG1305, uG1306, uG1307]), [([ui0, ui51, ui488, ui54, ui51, ui51, ui51], [ur1299, ur1300], [], [], [], [uF1301], [uG476, uG1305, uG1306, uG1307, uG1302])], [uk1303, uk1304], 81, 0, 0)
set_option maxRecDepth 1000000 in
theorem ck_392 : x_ok mLT1 [] mTS2 mTC2 mRUp cx_392 [] [(17, [1000424]), (18, [1000422]), (36, [1000425])] [] (81, []) 0 84 = true := by decide +kernel
theorem sn_392 {W : Bool} {X : List Int32} : y_Snd (mGw W) mLT1 (J2 W X) X cx_392 := y_ok J2_J mTS2_ok1 mTC2_ok1 mRUp_ok1 (fun _ h => absurd h List.not_mem_nil) ck_392
/-- M.lays -/
def cx_393 : zCtx := (193, ([ui0, ui51, ui491, ui54, ui51, ui51, ui51, ui51], [ur1299, ur1300], [uL475], [], [uV2, uV11], [uF152, uF44], [uG476, uG1305, uG1306, uG1307, uG1308]), [([ui0, ui51, ui491, ui54, ui51, ui51, ui51, ui51], [ur1299, ur1300], [], [], [], [uF1301], [uG476, uG1305, uG1306, uG1307, uG1308, uG1302])], [uk1303, uk1304], 81, 0, 0)
set_option maxRecDepth 1000000 in
theorem ck_393 : x_ok mLT1 [] mTS2 mTC2 mRUp cx_393 [] [(17, [1000424]), (18, [1000422]), (36, [1000425])] [] (81, []) 0 84 = true := by decide +kernel
theorem sn_393 {W : Bool} {X : List Int32} : y_Snd (mGw W) mLT1 (J2 W X) X cx_393 := y_ok J2_J mTS2_ok1 mTC2_ok1 mRUp_ok1 (fun _ h => absurd h List.not_mem_nil) ck_393
/-- M.feed -/
def cx_394 : zCtx := (192, ([ui0, ui51, ui51, ui51, ui51, ui51, ui54, ui54], [ur1299, ur1300], [uL494], [], [uV2, uV11, uV12, uV60, uV99, uV77], [uF1309, uF44], [uG497]), [([ui0, ui51, ui51, ui51, ui51, ui51, ui54, ui54], [ur1299, ur1300], [uL498], [], [uV63], [uF1309], [uG497]), ([ui0, ui51, ui51, ui51, ui51, ui51, ui54, ui54], [ur1299, ur1300], [uL499], [], [uV500], [(0, (false, 2, 0, []), 0, 0, 20, [(6, 1)])], [uG497, (73, [uL80, uL9, uL501]), (73, [uL501, uL69, uL502]), (73, [uL502, uL23, uL503]), (73, [uL503, uL100, uL504]), (73, [uL504, uL106, uL505])])], [uk1303, uk1304], 105, 1, 22)
set_option maxRecDepth 1000000 in
theorem ck_394 : x_ok mLT1 [cx_389, cx_390, cx_391, cx_392, cx_393] mTS2 mTC2 mRUp cx_394 [(17, [0]), (22, [1]), (27, [2]), (33, [3]), (39, [4])] [] [] (24, []) 81 27 = true := by decide +kernel
theorem sn_394 {W : Bool} {X : List Int32} : y_Snd (mGw W) mLT1 (J2 W X) X cx_394 := y_ok J2_J mTS2_ok1 mTC2_ok1 mRUp_ok1 (List.forall_mem_cons.mpr ⟨sn_389, List.forall_mem_cons.mpr ⟨sn_390, List.forall_mem_cons.mpr ⟨sn_391, List.forall_mem_cons.mpr ⟨sn_392, List.forall_mem_cons.mpr ⟨sn_393, fun _ h => absurd h List.not_mem_nil⟩⟩⟩⟩⟩) ck_394
/-- M.back -/
def cx_395 : zCtx := (194, ([ui0, ui51, ui54], [ur1299], [], [], [uV2, uV11], [uF152], []), [([ui0, ui507, ui54], [ur1299], [uL508], [], [uV63], [uF152], []), ([ui0, ui54, ui54], [ur1299], [uL509], [], [uV510], [(0, (false, 2, 0, []), 0, 0, 0, [(1, (-1)), (2, 1)])], []), ([ui0, ui265, ui54], [ur1299], [], [], [uV63], [uF152], [])], [uk1303], 15, 0, 0)
set_option maxRecDepth 1000000 in
theorem ck_395 : x_ok mLT1 [] mTS2 mTC2 mRUp cx_395 [] [] [] (15, []) 0 18 = true := by decide +kernel
theorem sn_395 {W : Bool} {X : List Int32} : y_Snd (mGw W) mLT1 (J2 W X) X cx_395 := y_ok J2_J mTS2_ok1 mTC2_ok1 mRUp_ok1 (fun _ h => absurd h List.not_mem_nil) ck_395
/-- M.byteAt -/
def cx_396 : zCtx := (197, ([ui0, ui54, ui54], [ur1299, ur1310], [uL9], [], [uV2, uV11], [uF182, uF598], [(52, [uL69])]), [([ui0, ui54, ui54, ui58], [ur1299, ur1310], [uL59], [], [uV60], [], [uG61]), ([ui0, ui54, ui54], [ur1299, ur1310], [uL62], [], [uV64], [], [])], [], 12, 0, 0)
set_option maxRecDepth 1000000 in
theorem ck_396 : x_ok mLT1 [] mTS2 mTC2 mRUp cx_396 [] [(18, [1000199, 1000200])] [] (12, []) 0 15 = true := by decide +kernel
theorem sn_396 {W : Bool} {X : List Int32} : y_Snd (mGw W) mLT1 (J2 W X) X cx_396 := y_ok J2_J mTS2_ok1 mTC2_ok1 mRUp_ok1 (fun _ h => absurd h List.not_mem_nil) ck_396
/-- M.token -/
def cx_397 : zCtx := (198, ([ui0, ui1311, ui54, ui199, ui1312, ui70, ui54, ui54], [ur1299, ur1313, ur1314, ur1315, ur1316], [], [], [uV2, uV11, uV12, uV60, uV76], [uF1189, uF1239, uF1317, uF1318, uF450], [uG1319]), [([ui0, ui1311, ui54, ui199, ui1312, ui70, ui54, ui54], [ur1299, ur1313, ur1314, ur1315, ur1316], [], [], [], [(1, (true, 0, 0, [(5, 1)]), 0, 0, 0, [(1, 1)]), (2, (true, 0, 0, [(5, 1)]), 0, 0, 0, [(2, 1)]), (3, (true, 0, 0, [(5, 1)]), 0, 0, 0, [(3, 1)]), (4, (true, 0, 0, [(5, 1)]), 1, 0, 0, [(4, 1)]), (0, (false, 10, 0, []), 0, 0, 1, [(5, 1)])], [uG1319])], [uk1320, uk1321, uk1322, uk1323, uk1324], 31, 0, 0)
set_option maxRecDepth 1000000 in
theorem ck_397 : x_ok mLT1 [] mTS2 mTC2 mRUp cx_397 [] [] [] (31, []) 0 34 = true := by decide +kernel
theorem sn_397 {W : Bool} {X : List Int32} : y_Snd (mGw W) mLT1 (J2 W X) X cx_397 := y_ok J2_J mTS2_ok1 mTC2_ok1 mRUp_ok1 (fun _ h => absurd h List.not_mem_nil) ck_397
/-- M.isLetter -/
def cx_398 : zCtx := (199, ([ui0, ui58], [], [], [], [uV11], [], []), [([ui0, ui58], [], [], [], [uV66], [], [uG86]), ([ui0, ui58], [], [], [], [uV64], [], [uG87])], [], 9, 0, 0)
set_option maxRecDepth 1000000 in
theorem ck_398 : x_ok mLT1 [] mTS2 mTC2 mRUp cx_398 [] [(17, [1000001])] [] (9, []) 0 12 = true := by decide +kernel
theorem sn_398 {W : Bool} {X : List Int32} : y_Snd (mGw W) mLT1 (J2 W X) X cx_398 := y_ok J2_J mTS2_ok1 mTC2_ok1 mRUp_ok1 (fun _ h => absurd h List.not_mem_nil) ck_398
/-- M.appends -/
def cx_399 : zCtx := (189, ([ui0, ui1325, ui1326], [], [], [], [uV178, uV12], [], []), [([ui0, ui1325, ui1326], [], [], [], [(1, 0, (-96), [(1, 27), (2, 1)])], [], [])], [], 13, 0, 0)
set_option maxRecDepth 1000000 in
theorem ck_399 : x_ok mLT1 [] mTS2 mTC2 mRUp cx_399 [] [] [] (13, []) 0 16 = true := by decide +kernel
theorem sn_399 {W : Bool} {X : List Int32} : y_Snd (mGw W) mLT1 (J2 W X) X cx_399 := y_ok J2_J mTS2_ok1 mTC2_ok1 mRUp_ok1 (fun _ h => absurd h List.not_mem_nil) ck_399
/-- M.isDigit -/
def cx_400 : zCtx := (200, ([ui0, ui58], [], [], [], [uV11], [], []), [([ui0, ui58], [], [], [], [uV66], [], [uG117]), ([ui0, ui58], [], [], [], [uV64], [], [uG118])], [], 9, 0, 0)
set_option maxRecDepth 1000000 in
theorem ck_400 : x_ok mLT1 [] mTS2 mTC2 mRUp cx_400 [] [(17, [1000002])] [] (9, []) 0 12 = true := by decide +kernel
theorem sn_400 {W : Bool} {X : List Int32} : y_Snd (mGw W) mLT1 (J2 W X) X cx_400 := y_ok J2_J mTS2_ok1 mTC2_ok1 mRUp_ok1 (fun _ h => absurd h List.not_mem_nil) ck_400
def cx_401p : zS := ([ui0, ui93, ui58, ui58, ui70, ui54], [ur1299, ur1313, ur1314, ur1315, ur1316], [uL579], [], [uV2, uV11, uV12, uV60], [uF1093, uF1327, uF1239, uF1317, uF1318, uF450], [(56, [uL106, uL100, uL9]), (20, [uL9, uL69]), (21, [uL65, uL69, uL65]), (21, [uL67, uL69, uL65]), (21, [uL116, uL69, uL65])])
/-- M.sign -/
def cx_401 : zCtx := (201, cx_401p, [([ui0, ui93, ui58, ui58, ui70, ui54], [ur1299, ur1313, ur1314, ur1315, ur1316], [], [], [uV66], [(0, (false, 10, 0, []), 0, 0, 1, [(4, 1)])], [(56, [uL106, uL172, uL111])])], [uk1320, uk1321, uk1322, uk1323, uk1324], 70, 1, 25)
set_option maxRecDepth 1000000 in
theorem ck_401 : x_ok mLT1 [cx_397] mTS2 mTC2 mRUp cx_401 [(101, [0])] [(104, [1000205, 1000206, 1000207])] [] (39, []) 31 42 = true := by decide +kernel
theorem sn_401 {W : Bool} {X : List Int32} : y_Snd (mGw W) mLT1 (J2 W X) X cx_401 := y_ok J2_J mTS2_ok1 mTC2_ok1 mRUp_ok1 (List.forall_mem_cons.mpr ⟨sn_397, fun _ h => absurd h List.not_mem_nil⟩) ck_401
/-- M.cut -/
def cx_402 : zCtx := (196, ([ui0, ui54, ui143], [ur1299, ur1310, ur1313, ur1314, ur1315, ur1316, ur1328], [], [], [uV2], [uF32, uF1068, uF598, uF1191, uF1192, uF1329, uF1330, uF1331], [uG1332, uG1333]), [([ui0, ui54, ui143], [ur1299, ur1310, ur1313, ur1314, ur1315, ur1316, ur1328], [], [], [], [], [uG1334])], [uk1320, uk1321, uk1322, uk1323, uk1324], 67778300, 2, 49)
def cq_402 : List zCtx := [cx_396, cx_397, cx_398, cx_399, cx_400, cx_401]
def cs_402 : List (Nat × List Nat) := [(19, [0]), (39, [1]), (74, [2]), (89, [0]), (92, [2]), (110, [0]), (113, [3]), (186, [1]), (197, [4]), (212, [0]), (215, [4]), (235, [0]), (265, [1]), (283, [0]), (286, [5])]
def hs_402 : List (Nat × List Nat) := [(6, [1000208]), (42, [1000209]), (67, [1000210, 1000211]), (73, [1000210]), (83, [1000212, 1000213]), (98, [1000238, 1000214, 1000215, 1000216]), (113, [1000204]), (118, [1000217, 1000218]), (124, [1000201, 1000219, 1000220]), (144, [1000221]), (173, [1000222, 1000223, 1000224]), (189, [1000225, 1000226]), (206, [1000227, 1000228]), (221, [1000239, 1000229, 1000230, 1000231]), (238, [1000203]), (244, [1000232, 1000233]), (250, [1000202, 1000234, 1000235]), (268, [1000236, 1000237]), (294, [1000240])]
def nd_402_0p : zS := ([ui0, ui54, ui143, ui54, ui143], [ur1299, ur1310, ur1313, ur1314, ur1315, ur1316, ur1328], [uL573], [uV2, uV60, uV115, uV115, uV115, uV115, uV115, uV115], [], [uF1093, uF32, uF598, uF1191, uF1192, uF1329, uF1330, uF1331], [uG1332, uG1333, (56, [uL9, uL100, uL23])])
def nd_402_0 : zN := (7, nd_402_0p, (67776820, [(3, (-6580)), (4, (-103400))]))
def nd_402_1p : zS := ([ui0, ui95, ui143, ui93, ui58, ui54, ui1312, ui70], [ur1299, ur1310, ur1313, ur1314, ur1315, ur1316, ur1328], [uL1335, uL573, uL1335, uL1336], [uV2, uV60, uV99, uV77, uV1337, uV115, uV115, uV115], [], [uF1227, uF32, uF598, uF1191, uF1192, uF1329, uF1330, uF1331], [uG1332, uG1333, uG1338, uG1339, uG1340, uG1341, (22, [uL67, uL9, uL23, uL1342]), uG1343])
def nd_402_1 : zN := (85, nd_402_1p, (67769300, [(3, (-6580)), (5, (-4935)), (7, (-103400))]))
def nd_402_2pi_0 (t : List (Int × Int)) : List (Int × Int) := ui0 :: ui95 :: ui143 :: ui93 :: ui58 :: (0, 8) :: ui1312 :: ui1344 :: t
def nd_402_2pi_1 (t : List (Int × Int)) : List (Int × Int) := ui427 :: ui70 :: t
def nd_402_2pg_0 (t : List zTg) : List zTg := uG1332 :: uG1333 :: (56, [uL9, uL166, uL23]) :: uG1339 :: uG1340 :: uG1341 :: (23, [uL67, uL9, uL23, uL1342]) :: uG1343 :: t
def nd_402_2pg_1 (t : List zTg) : List zTg := (60, [uL80, uL133, uL81]) :: t
def nd_402_2p : zS := ((nd_402_2pi_0 (nd_402_2pi_1 [])), [ur1299, ur1310, ur1313, ur1314, ur1315, ur1316, ur1328], [uL1335, uL573, uL1336, uL1335, uL1336], [uV2, uV60, uV99, uV77, uV1337, uV115, uV144, uV146], [], [uF1202, uF32, uF598, uF1191, uF1192, uF1329, uF1330, uF1331], (nd_402_2pg_0 (nd_402_2pg_1 [])))
def nd_402_2 : zN := (146, nd_402_2p, (67765070, [(3, (-6580)), (5, (-6580)), (8, (-3995)), (9, (-103400))]))
def nd_402_3pg_0 (t : List zTg) : List zTg := uG1332 :: uG1333 :: uG1338 :: uG1339 :: uG1340 :: (21, [uL67, uL100, uL65]) :: (21, [uL116, uL100, uL67]) :: (22, [uL116, uL9, uL23, uL1342]) :: t
def nd_402_3pg_1 (t : List zTg) : List zTg := (24, [uL23, uL1342, uL80]) :: t
def nd_402_3p : zS := ([ui0, ui95, ui143, ui93, ui58, ui54, ui199, ui70], [ur1299, ur1310, ur1313, ur1314, ur1315, ur1316, ur1328], [uL1335, uL573, uL1335, uL1336], [uV2, uV60, uV99, uV77, uV110, uV115, uV115, uV115], [], [uF1227, uF32, uF598, uF1191, uF1192, uF1329, uF1330, uF1331], (nd_402_3pg_0 (nd_402_3pg_1 [])))
def nd_402_3 : zN := (208, nd_402_3p, (67678780, [(1, 45), (3, (-6580)), (5, (-6533)), (7, (-103400))]))
def ns_402 : List zN := [nd_402_0, nd_402_1, nd_402_2, nd_402_3]
set_option maxRecDepth 1000000 in
theorem ca_402 : x_okA mLT1 cq_402 mTS2 mTC2 mRUp cx_402 cs_402 hs_402 ns_402 (67778230, []) 70 46 = true := by decide +kernel
set_option maxRecDepth 1000000 in
theorem cb_402_0 : x_okB mLT1 cq_402 mTS2 mTC2 mRUp cx_402 cs_402 hs_402 ns_402 (67778230, []) 70 46 nd_402_0 = true := by decide +kernel
set_option maxRecDepth 1000000 in
theorem cb_402_1 : x_okB mLT1 cq_402 mTS2 mTC2 mRUp cx_402 cs_402 hs_402 ns_402 (67778230, []) 70 46 nd_402_1 = true := by decide +kernel
set_option maxRecDepth 1000000 in
theorem cb_402_2 : x_okB mLT1 cq_402 mTS2 mTC2 mRUp cx_402 cs_402 hs_402 ns_402 (67778230, []) 70 46 nd_402_2 = true := by decide +kernel
set_option maxRecDepth 1000000 in
theorem cb_402_3 : x_okB mLT1 cq_402 mTS2 mTC2 mRUp cx_402 cs_402 hs_402 ns_402 (67778230, []) 70 46 nd_402_3 = true := by decide +kernel
set_option maxRecDepth 1000000 in
theorem cc_402 : x_okC mLT1 cq_402 mTS2 mTC2 mRUp cx_402 cs_402 hs_402 ns_402 (67778230, []) 70 46 = true := by decide +kernel
theorem ck_402 : x_ok mLT1 cq_402 mTS2 mTC2 mRUp cx_402 cs_402 hs_402 ns_402 (67778230, []) 70 46 = true := x_ok_of ca_402 (List.forall_mem_cons.mpr ⟨cb_402_0, List.forall_mem_cons.mpr ⟨cb_402_1, List.forall_mem_cons.mpr ⟨cb_402_2, List.forall_mem_cons.mpr ⟨cb_402_3, fun _ h => absurd h List.not_mem_nil⟩⟩⟩⟩) cc_402
theorem sn_402 {W : Bool} {X : List Int32} : y_Snd (mGw W) mLT1 (J2 W X) X cx_402 := y_ok J2_J mTS2_ok1 mTC2_ok1 mRUp_ok1 (List.forall_mem_cons.mpr ⟨sn_396, List.forall_mem_cons.mpr ⟨sn_397, List.forall_mem_cons.mpr ⟨sn_398, List.forall_mem_cons.mpr ⟨sn_399, List.forall_mem_cons.mpr ⟨sn_400, List.forall_mem_cons.mpr ⟨sn_401, fun _ h => absurd h List.not_mem_nil⟩⟩⟩⟩⟩⟩) ck_402
def cx_403pi_0 (t : List (Int × Int)) : List (Int × Int) := ui0 :: (0, 1) :: (0, 1) :: (0, 6) :: ui199 :: ui199 :: ui199 :: ui199 :: t
def cx_403pi_1 (t : List (Int × Int)) : List (Int × Int) := (0, 1) :: ui31 :: t
def cx_403pr_0 (t : List (Nat × Bool)) : List (Nat × Bool) := ur1299 :: ur1345 :: ur1346 :: ur1347 :: ur1348 :: ur1349 :: ur1350 :: ur1351 :: t
def cx_403pr_1 (t : List (Nat × Bool)) : List (Nat × Bool) := ur1352 :: ur1353 :: ur1354 :: ur1355 :: ur1356 :: ur1357 :: ur1358 :: ur1359 :: t
def cx_403pr_2 (t : List (Nat × Bool)) : List (Nat × Bool) := ur1360 :: t
def cx_403pf_0 (t : List zFa) : List zFa := uF1361 :: uF1362 :: uF1363 :: uF1364 :: uF1365 :: uF1366 :: uF1367 :: uF1368 :: t
def cx_403pf_1 (t : List zFa) : List zFa := uF1369 :: uF1370 :: uF1371 :: uF1372 :: uF1373 :: uF1374 :: uF1375 :: uF1376 :: t
def cx_403pg_0 (t : List zTg) : List zTg := uG1378 :: uG1379 :: uG1380 :: uG1381 :: uG1382 :: uG1383 :: uG1384 :: uG1385 :: t
def cx_403p : zS := ((cx_403pi_0 (cx_403pi_1 [])), (cx_403pr_0 (cx_403pr_1 (cx_403pr_2 []))), [], [], [uV2, uV11], (cx_403pf_0 (cx_403pf_1 [])), (cx_403pg_0 []))
def cx_403q0f_0 (t : List zFa) : List zFa := (2, (true, 0, 3, [(1, 4)]), 0, 0, 0, []) :: (1, (true, 0, 3, [(1, 4)]), 0, 0, 0, []) :: (2, (true, 0, 2, [(1, 4)]), 0, 0, 0, []) :: (1, (true, 0, 2, [(1, 4)]), 0, 0, 0, []) :: (2, (true, 0, 1, [(1, 4)]), 0, 0, 0, []) :: (1, (true, 0, 1, [(1, 4)]), 0, 0, 0, []) :: (2, (true, 0, 0, [(1, 4)]), 0, 0, 0, []) :: (1, (true, 0, 0, [(1, 4)]), 0, 0, 0, []) :: t
def cx_403q0f_1 (t : List zFa) : List zFa := (9, (true, 0, 0, [(1, 1)]), 0, 0, 0, []) :: (8, (true, 0, 0, [(1, 1)]), 0, 0, 0, []) :: (7, (true, 0, 0, [(1, 1)]), 0, 0, 10, []) :: (6, (true, 0, 0, [(1, 1)]), 0, 0, 20, []) :: uF1386 :: uF1387 :: t
def cx_403q0g_0 (t : List zTg) : List zTg := uG1388 :: uG1378 :: uG1379 :: uG1380 :: uG1381 :: uG1382 :: uG1383 :: uG1384 :: t
def cx_403q0g_1 (t : List zTg) : List zTg := uG1385 :: (77, [uL9, (36, [(1, 36)])]) :: uG1379 :: uG1380 :: uG1381 :: uG1382 :: uG1383 :: uG1384 :: t
def cx_403q0 : zS := ((cx_403pi_0 (cx_403pi_1 [])), (cx_403pr_0 (cx_403pr_1 (cx_403pr_2 []))), [], [], [], (cx_403q0f_0 (cx_403q0f_1 [])), (cx_403q0g_0 (cx_403q0g_1 [])))
/-- M.plain -/
def cx_403 : zCtx := (187, cx_403p, [cx_403q0], kc_73, 734, 0, 0)
def cz_403_0i_0 (t : List (Int × Int)) : List (Int × Int) := ui0 :: (0, 1) :: (0, 1) :: (0, 6) :: ui199 :: ui199 :: ui199 :: ui199 :: t
def cz_403_0i_1 (t : List (Int × Int)) : List (Int × Int) := (0, 1) :: ui31 :: ui441 :: t
def cz_403_0f_0 (t : List zFa) : List zFa := uF1386 :: uF1387 :: uF1361 :: uF1362 :: uF1363 :: uF1364 :: uF1365 :: uF1366 :: t
def cz_403_0f_1 (t : List zFa) : List zFa := uF1367 :: uF1368 :: uF1369 :: uF1370 :: uF1371 :: uF1372 :: uF1373 :: uF1374 :: t
def cz_403_0f_2 (t : List zFa) : List zFa := uF1375 :: uF1376 :: t
def cz_403_0g_0 (t : List zTg) : List zTg := uG1388 :: uG1378 :: uG1379 :: uG1380 :: uG1381 :: uG1382 :: uG1383 :: uG1384 :: t
def cz_403_0g_1 (t : List zTg) : List zTg := uG1385 :: (77, [uL9, (0, [(1, 36), (10, 1)])]) :: t
def cz_403_0 : zS := ((cz_403_0i_0 (cz_403_0i_1 [])), (cx_403pr_0 (cx_403pr_1 (cx_403pr_2 []))), [(36, [(10, (-1))])], [uV2, uV11, uV826], [], (cz_403_0f_0 (cz_403_0f_1 (cz_403_0f_2 []))), (cz_403_0g_0 (cz_403_0g_1 [])))
set_option maxRecDepth 1000000 in
theorem ck_403 : x_ok mLT1 [] mTS2 mTC2 mRUp cx_403 [] [(14, [1000446]), (34, [1000447])] [(16, cz_403_0, (721, [(10, (-15))]))] (734, []) 0 124 = true := by decide +kernel
theorem sn_403 {W : Bool} {X : List Int32} : y_Snd (mGw W) mLT1 (J2 W X) X cx_403 := y_ok J2_J mTS2_ok1 mTC2_ok1 mRUp_ok1 (fun _ h => absurd h List.not_mem_nil) ck_403
/-- M.is -/
def cx_404 : zCtx := (202, ([ui0, ui70, (0, 0), ui1311], [ur1299, ur1313], [], [], [uV2, uV64], [uF1389, uF1390, uF1239, uF1391], []), [([ui0, ui70, (0, 0), (0, 0)], [ur1299, ur1313], [], [], [uV66], [], []), ([ui0, ui70, (0, 0), ui1344], [ur1299, ur1313], [], [], [uV64], [], [])], [], 13, 0, 0)
set_option maxRecDepth 1000000 in
theorem ck_404 : x_ok mLT1 [] mTS2 mTC2 mRUp cx_404 [] [] [] (13, []) 0 16 = true := by decide +kernel
theorem sn_404 {W : Bool} {X : List Int32} : y_Snd (mGw W) mLT1 (J2 W X) X cx_404 := y_ok J2_J mTS2_ok1 mTC2_ok1 mRUp_ok1 (fun _ h => absurd h List.not_mem_nil) ck_404
/-- M.fail -/
def cx_405 : zCtx := (205, ([ui0, ui70, (0, 0), ui54, ui54], [ur1299, ur1314], [], [], [uV2, uV391], [uF1389, uF1390, uF1392, uF1393, uF1394], []), [([ui0, ui70, (0, 0), ui54, ui54], [ur1299, ur1314], [], [], [], [uF1395, uF1396], [])], [uk1397, uk1398], 14, 0, 0)
set_option maxRecDepth 1000000 in
theorem ck_405 : x_ok mLT1 [] mTS2 mTC2 mRUp cx_405 [] [] [] (14, []) 0 17 = true := by decide +kernel
theorem sn_405 {W : Bool} {X : List Int32} : y_Snd (mGw W) mLT1 (J2 W X) X cx_405 := y_ok J2_J mTS2_ok1 mTC2_ok1 mRUp_ok1 (fun _ h => absurd h List.not_mem_nil) ck_405
def cx_406pf_0 (t : List zFa) : List zFa := uF1389 :: uF1390 :: uF1392 :: uF181 :: uF1239 :: uF1317 :: uF1318 :: uF450 :: t
def cx_406pf_1 (t : List zFa) : List zFa := uF1399 :: (2, (true, 0, 0, [(1, 1)]), 0, 0, 0, [(6, 1)]) :: t
def cx_406p : zS := ([ui0, ui70, (0, 0), ui54, ui54, ui1311, ui54], [ur1299, ur1313, ur1314, ur1315, ur1316], [uL1400], [], [uV2], (cx_406pf_0 (cx_406pf_1 [])), [uG1401, uG1402, uG1403])
/-- M.goesOn -/
def cx_406 : zCtx := (206, cx_406p, [([ui0, ui148, (0, 0), ui54, ui54, ui1311, ui54], [ur1299, ur1313, ur1314, ur1315, ur1316], [uL1400, uL65], [], [], [uF1404, uF1396, uF1389], [uG1405, uG1405]), ([ui0, ui149, (0, 0), ui54, ui54, ui1311, ui54], [ur1299, ur1313, ur1314, ur1315, ur1316], [uL1400, uL67], [], [], [uF1406, uF1390, uF1392], [uG1407, uG1407])], [uk1408, uk1397, uk1398], 25, 1, 21)
set_option maxRecDepth 1000000 in
theorem ck_406 : x_ok mLT1 [cx_405] mTS2 mTC2 mRUp cx_406 [(12, [0])] [(10, [1000241]), (28, [1000242])] [] (11, []) 14 14 = true := by decide +kernel
theorem sn_406 {W : Bool} {X : List Int32} : y_Snd (mGw W) mLT1 (J2 W X) X cx_406 := y_ok J2_J mTS2_ok1 mTC2_ok1 mRUp_ok1 (List.forall_mem_cons.mpr ⟨sn_405, fun _ h => absurd h List.not_mem_nil⟩) ck_406
end
