noncomputable section
/-! ===== readings, by program, checked by the kernel ===== -/
/-- HairRope.soon -/
def cx_287 : zCtx := (163, ([ui0, ui51], [ur444], [], [], [uV2, uV11], [], []), [([ui0, ui265], [ur444], [], [], [uV63], [], []), ([ui0, ui800], [ur444], [], [], [uV63], [], []), ([ui0, ui586], [ur444], [], [], [uV569], [], []), ([ui0, ui586, ui1087], [ur444], [], [], [uV12], [], [])], kc_59, 56350, 6, 185)
set_option maxRecDepth 1000000 in
theorem ck_287 : x_ok mLT1 [cx_195, cx_286] mTS2 mTC2 mRUp cx_287 [(1, [0]), (20, [1])] [] [] (13, []) 56337 16 = true := by decide +kernel
theorem sn_287 {W : Bool} {X : List Int32} : y_Snd (mGw W) mLT1 (J2 W X) X cx_287 := y_ok J2_J mTS2_ok1 mTC2_ok1 mRUp_ok1 (List.forall_mem_cons.mpr ⟨sn_195, List.forall_mem_cons.mpr ⟨sn_286, fun _ h => absurd h List.not_mem_nil⟩⟩) ck_287
/-- Planner.findJoins -/
def cx_288 : zCtx := (70, ([ui0, (1, 1), ui845], [ur1065, ur434, ur1089], [], [], [uV2, uV422, uV758, uV11], [uF1068], []), [([ui0, (1, 1), ui845], [ur1065, ur434, ur1089], [], [], [], [], [])], [uk541, uk531, uk1090], 54722, 3, 111)
set_option maxRecDepth 1000000 in
theorem ck_288 : x_ok mLT1 [cx_256, cx_258] mTS2 mTC2 mRUp cx_288 [(56, [0]), (65, [0]), (117, [1])] [] [(3, ([(0, 3072), (1, 1), (0, 63), (0, 6)], [(9, false), (6, false), (36, false)], [], [(2, 0, 0, []), (2, 1, 0, []), (2, 2, 0, []), (0, 0, 0, [(1, 1)]), (0, 0, 0, [(3, 1)]), (5, 0, 0, []), (5, 0, 0, []), (5, 0, 0, [])], [], [(0, (false, 10, 0, []), 0, 0, 0, [(2, 1)])], []), ((-99999998265), [(1, 100000000000), (3, (-288))])), (21, ([(0, 3072), (1, 1), (0, 63), (0, 5), (0, 6), (1, 6)], [(9, false), (6, false), (36, false), (5, false), (2, false)], [], [(2, 0, 0, []), (2, 1, 0, []), (2, 2, 0, []), (0, 0, 0, [(1, 1)]), (0, 0, 0, [(3, 1)]), (0, 0, 0, [(4, 1)]), (5, 0, 0, []), (5, 0, 0, [])], [], [(0, (false, 0, 0, []), 2, 3, 0, []), (0, (false, 10, 0, []), 0, 0, 0, [(2, 1)]), (3, (false, 3, 0, []), 2, 4, 0, []), (4, (false, 5, 0, []), 0, 0, 0, [(5, 1)])], []), ((-99999998274), [(1, 100000000000), (3, (-288)), (4, (-45))]))] (1738, []) 52984 47 = true := by decide +kernel
theorem sn_288 {W : Bool} {X : List Int32} : y_Snd (mGw W) mLT1 (J2 W X) X cx_288 := y_ok J2_J mTS2_ok1 mTC2_ok1 mRUp_ok1 (List.forall_mem_cons.mpr ⟨sn_256, List.forall_mem_cons.mpr ⟨sn_258, fun _ h => absurd h List.not_mem_nil⟩⟩) ck_288
/-- Planner.isPair -/
def cx_289 : zCtx := (81, ([ui0, ui441, ui845], [ur1065], [], [], [uV2, uV11], [uF1068], []), [([ui0, ui441, ui845], [ur1065], [], [], [uV64], [], []), ([ui0, ui441, ui845], [ur1065], [], [], [uV66], [], [])], [], 32, 1, 21)
set_option maxRecDepth 1000000 in
theorem ck_289 : x_ok mLT1 [cx_256] mTS2 mTC2 mRUp cx_289 [(17, [0]), (25, [0])] [] [] (22, []) 10 25 = true := by decide +kernel
theorem sn_289 {W : Bool} {X : List Int32} : y_Snd (mGw W) mLT1 (J2 W X) X cx_289 := y_ok J2_J mTS2_ok1 mTC2_ok1 mRUp_ok1 (List.forall_mem_cons.mpr ⟨sn_256, fun _ h => absurd h List.not_mem_nil⟩) ck_289
/-- Planner.exchangeJoin -/
def cx_290 : zCtx := (84, ([ui0, ui441], [ur1065], [], [], [uV2, uV11], [], []), [([ui0, ui1091], [ur1065], [], [], [], [], []), ([ui0, ui1092], [ur1065], [], [], [], [], [])], [uk1072, uk1090], 31, 0, 0)
set_option maxRecDepth 1000000 in
theorem ck_290 : x_ok mLT1 [] mTS2 mTC2 mRUp cx_290 [] [] [] (31, []) 0 34 = true := by decide +kernel
theorem sn_290 {W : Bool} {X : List Int32} : y_Snd (mGw W) mLT1 (J2 W X) X cx_290 := y_ok J2_J mTS2_ok1 mTC2_ok1 mRUp_ok1 (fun _ h => absurd h List.not_mem_nil) ck_290
/-- Planner.exchangePair -/
def cx_291 : zCtx := (83, ([ui0, ui441], [ur1065], [], [], [uV2, uV11], [], []), [([ui0, ui1092], [ur1065], [], [], [], [], []), ([ui0, ui1091], [ur1065], [], [], [], [], [])], [uk1072, uk1090], 46, 1, 22)
set_option maxRecDepth 1000000 in
theorem ck_291 : x_ok mLT1 [cx_290] mTS2 mTC2 mRUp cx_291 [(2, [0]), (18, [0])] [] [] (15, []) 31 18 = true := by decide +kernel
theorem sn_291 {W : Bool} {X : List Int32} : y_Snd (mGw W) mLT1 (J2 W X) X cx_291 := y_ok J2_J mTS2_ok1 mTC2_ok1 mRUp_ok1 (List.forall_mem_cons.mpr ⟨sn_290, fun _ h => absurd h List.not_mem_nil⟩) ck_291
/-- Planner.holdsWith -/
def cx_292 : zCtx := (82, ([ui0, ui441, ui1091, ui586, ui845], [ur1065], [], [], [uV2, uV11, uV12, uV60], [uF1093], []), [([ui0, ui1091, ui1091, ui586, ui845], [ur1065], [], [], [uV66], [], []), ([ui0, ui1091, ui1091, ui586, ui845], [ur1065], [], [], [uV64], [], []), ([ui0, ui1092, ui1091, ui586, ui845], [ur1065], [uL508], [], [uV66], [], []), ([ui0, ui1092, ui1091, ui586, ui845], [ur1065], [uL508], [], [uV64], [], [])], kc_60, 1643, 5, 161)
set_option maxRecDepth 1000000 in
theorem ck_292 : x_ok mLT1 [cx_291, cx_268] mTS2 mTC2 mRUp cx_292 [(2, [0]), (12, [0]), (17, [1]), (36, [0]), (46, [0])] [] [] (29, []) 1614 32 = true := by decide +kernel
theorem sn_292 {W : Bool} {X : List Int32} : y_Snd (mGw W) mLT1 (J2 W X) X cx_292 := y_ok J2_J mTS2_ok1 mTC2_ok1 mRUp_ok1 (List.forall_mem_cons.mpr ⟨sn_291, List.forall_mem_cons.mpr ⟨sn_268, fun _ h => absurd h List.not_mem_nil⟩⟩) ck_292
/-- Planner.peaceAnswer -/
def cx_293 : zCtx := (85, ([ui0, (1, 2), ui441, ui1094, (0, 2)], [], [], [], [uV11, uV12, uV60, uV99], [], []), [([ui0, (1, 2), ui441, ui1094, (0, 0)], [], [], [], [uV11], [], []), ([ui0, (1, 2), ui441, ui1094, (1, 1), ui1095], [], [], [], [uV77], [], []), ([ui0, (1, 2), ui441, ui126, (2, 2)], [], [], [], [uV63], [], []), ([ui0, (1, 2), ui441, ui1091, (2, 2), ui1096], [], [], [], [uV77], [], [])], [], 20, 0, 0)
set_option maxRecDepth 1000000 in
theorem ck_293 : x_ok mLT1 [] mTS2 mTC2 mRUp cx_293 [] [] [] (20, []) 0 23 = true := by decide +kernel
theorem sn_293 {W : Bool} {X : List Int32} : y_Snd (mGw W) mLT1 (J2 W X) X cx_293 := y_ok J2_J mTS2_ok1 mTC2_ok1 mRUp_ok1 (fun _ h => absurd h List.not_mem_nil) ck_293
/-- Planner.makePeace -/
def cx_294 : zCtx := (80, ([ui0, ui586, (0, 2), ui845], [ur1065, ur434], [], [], [uV2, uV422, uV11, uV12], [uF1097], []), [([ui0, ui586, (0, 0), ui845], [ur1065, ur434], [], [], [uV64], [], []), ([ui0, ui586, (1, 2), ui845], [ur1065, ur434], [], [], [uV63], [], []), ([ui0, ui586, (1, 1), ui845, ui1095], [ur1065, ur434], [], [], [uV99], [], []), ([ui0, ui586, (0, 0), ui845], [ur1065, ur434], [], [], [uV66], [], []), ([ui0, ui586, (0, 2), ui845], [ur1065, ur434], [], [], [uV569], [], []), ([ui0, ui586, (2, 2), ui845, ui1096], [ur1065, ur434], [], [], [uV99], [], []), ([ui0, ui586, (0, 0), ui845], [ur1065, ur434], [], [], [uV391], [], [])], kc_61, 87944, 6, 185)
set_option maxRecDepth 1000000 in
theorem ck_294 : x_ok mLT1 [cx_268, cx_288, cx_289, cx_292, cx_293] mTS2 mTC2 mRUp cx_294 [(2, [0]), (29, [1]), (49, [2]), (61, [3]), (72, [4]), (108, [2]), (117, [2]), (129, [3]), (141, [4])] [] [(39, ([(0, 3072), (0, 999), (0, 2), (0, 63), (0, 40)], [(9, false), (6, false), (36, false)], [], [(2, 0, 0, []), (2, 1, 0, []), (0, 0, 0, [(1, 1)]), (0, 0, 0, [(2, 1)]), (0, 0, 36, []), (0, 0, 0, [(4, 1)]), (5, 0, 0, [])], [], [(0, (false, 3, 0, []), 2, 2, 0, []), (0, (false, 10, 0, []), 0, 0, 0, [(3, 1)])], []), (33205, [(4, (-16))])), (85, ([(0, 3072), (0, 999), (0, 2), (0, 63), (0, 41)], [(9, false), (6, false), (36, false)], [], [(2, 0, 0, []), (2, 1, 0, []), (0, 0, 0, [(1, 1)]), (0, 0, 0, [(2, 1)]), (0, 0, 36, []), (0, 0, 0, [(4, 1)]), (5, 0, 0, [])], [], [(0, (false, 3, 0, []), 2, 2, 0, []), (0, (false, 10, 0, []), 0, 0, 0, [(3, 1)])], []), (32559, [(4, (-794))])), (98, ([(0, 3072), (0, 999), (0, 2), (0, 63), (0, 40), (1, 40)], [(9, false), (6, false), (36, false)], [], [(2, 0, 0, []), (2, 1, 0, []), (0, 0, 0, [(1, 1)]), (0, 0, 0, [(2, 1)]), (0, 0, 36, []), (0, 0, 0, [(4, 1)]), (0, 0, 0, [(5, 1)])], [], [(0, (false, 3, 0, []), 2, 2, 0, []), (0, (false, 10, 0, []), 0, 0, 0, [(3, 1)])], []), (32571, [(4, (-774)), (5, (-20))]))] (33222, []) 54722 26 = true := by decide +kernel
theorem sn_294 {W : Bool} {X : List Int32} : y_Snd (mGw W) mLT1 (J2 W X) X cx_294 := y_ok J2_J mTS2_ok1 mTC2_ok1 mRUp_ok1 (List.forall_mem_cons.mpr ⟨sn_268, List.forall_mem_cons.mpr ⟨sn_288, List.forall_mem_cons.mpr ⟨sn_289, List.forall_mem_cons.mpr ⟨sn_292, List.forall_mem_cons.mpr ⟨sn_293, fun _ h => absurd h List.not_mem_nil⟩⟩⟩⟩⟩) ck_294
/-- HairRope.peace -/
def cx_295 : zCtx := (164, ([ui0, ui51, ui51], [ur444], [], [], [uV2, uV11, uV12], [], []), [([ui0, ui51, ui51], [ur444], [], [], [uV63], [], []), ([ui0, ui586, (0, 0)], [ur444], [], [], [uV391], [], []), ([ui0, ui586, (1, 2), ui1095], [ur444], [], [], [uV60], [], []), ([ui0, ui586, (0, 2)], [ur444], [], [], [uV569], [], []), ([ui0, ui586, (0, 0)], [ur444], [], [], [uV66], [], []), ([ui0, ui586, (0, 0)], [ur444], [], [], [uV64], [], [])], kc_62, 87965, 7, 211)
set_option maxRecDepth 1000000 in
theorem ck_295 : x_ok mLT1 [cx_195, cx_260, cx_294] mTS2 mTC2 mRUp cx_295 [(1, [0]), (26, [1]), (39, [2])] [] [] (21, []) 87944 24 = true := by decide +kernel
theorem sn_295 {W : Bool} {X : List Int32} : y_Snd (mGw W) mLT1 (J2 W X) X cx_295 := y_ok J2_J mTS2_ok1 mTC2_ok1 mRUp_ok1 (List.forall_mem_cons.mpr ⟨sn_195, List.forall_mem_cons.mpr ⟨sn_260, List.forall_mem_cons.mpr ⟨sn_294, fun _ h => absurd h List.not_mem_nil⟩⟩⟩) ck_295
/-- Rules.lawOf -/
def cx_296 : zCtx := (87, ([ui0, (0, 5)], [ur445, ur434], [], [], [uV2, uV387, uV422, uV11], [], []), [([ui0, (0, 5), ui526], [ur445, ur434], [], [], [uV12], [], [])], [uk541, uk531], 52968, 2, 87)
set_option maxRecDepth 1000000 in
theorem ck_296 : x_ok mLT1 [cx_252, cx_257, cx_136] mTS2 mTC2 mRUp cx_296 [(5, [0]), (8, [1]), (26, [2])] [] [] (19, []) 52949 22 = true := by decide +kernel
theorem sn_296 {W : Bool} {X : List Int32} : y_Snd (mGw W) mLT1 (J2 W X) X cx_296 := y_ok J2_J mTS2_ok1 mTC2_ok1 mRUp_ok1 (List.forall_mem_cons.mpr ⟨sn_252, List.forall_mem_cons.mpr ⟨sn_257, List.forall_mem_cons.mpr ⟨sn_136, fun _ h => absurd h List.not_mem_nil⟩⟩⟩) ck_296
/-- Giving.lookAt -/
def cx_297 : zCtx := (33, ([ui0], [ur1098, ur434], [], [], [uV2, uV422], [], []), [([ui0], [ur1098, ur434], [], [], [], [], [])], [uk1069, uk541, uk531, uk1070, uk1066, uk1099], 53144, 3, 110)
set_option maxRecDepth 1000000 in
theorem ck_297 : x_ok mLT1 [cx_255, cx_252, cx_296] mTS2 mTC2 mRUp cx_297 [(5, [0]), (37, [1]), (50, [2])] [] [(10, ([(0, 3072), (0, 6), (0, 63)], [(10, false), (6, false), (9, false)], [], [(2, 0, 0, []), (2, 1, 0, []), (0, 0, 0, [(1, 1)])], [], [(0, (false, 1, 0, []), 2, 2, 0, []), (2, (false, 10, 0, []), 0, 0, 0, [(2, 1)])], []), (169, [(1, (-27))]))] (176, []) 52968 29 = true := by decide +kernel
theorem sn_297 {W : Bool} {X : List Int32} : y_Snd (mGw W) mLT1 (J2 W X) X cx_297 := y_ok J2_J mTS2_ok1 mTC2_ok1 mRUp_ok1 (List.forall_mem_cons.mpr ⟨sn_255, List.forall_mem_cons.mpr ⟨sn_252, List.forall_mem_cons.mpr ⟨sn_296, fun _ h => absurd h List.not_mem_nil⟩⟩⟩) ck_297
/-- Giving.gain -/
def cx_298 : zCtx := (36, ([ui0, ui845, (0, 5)], [ur1098], [], [], [uV2, uV11, uV12], [], []), [([ui0, ui845, (0, 5), ui51], [ur1098], [], [], [uV60], [], [])], [], 52, 1, 21)
set_option maxRecDepth 1000000 in
theorem ck_298 : x_ok mLT1 [cx_265] mTS2 mTC2 mRUp cx_298 [(5, [0])] [] [] (35, []) 17 38 = true := by decide +kernel
theorem sn_298 {W : Bool} {X : List Int32} : y_Snd (mGw W) mLT1 (J2 W X) X cx_298 := y_ok J2_J mTS2_ok1 mTC2_ok1 mRUp_ok1 (List.forall_mem_cons.mpr ⟨sn_265, fun _ h => absurd h List.not_mem_nil⟩) ck_298
/-- Giving.isRest -/
def cx_299 : zCtx := (35, ([ui0, ui845], [ur1098], [], [], [uV2, uV11], [], []), [([ui0, ui845], [ur1098], [], [], [uV64], [], []), ([ui0, ui845], [ur1098], [], [], [uV66], [], [])], [], 222, 2, 45)
set_option maxRecDepth 1000000 in
theorem ck_299 : x_ok mLT1 [cx_298] mTS2 mTC2 mRUp cx_299 [(29, [0]), (35, [0])] [] [(2, ([(0, 3072), (0, 63), (0, 6)], [(10, false)], [], [(2, 0, 0, []), (0, 0, 0, [(1, 1)]), (0, 0, 0, [(2, 1)]), (5, 0, 0, [])], [], [], []), (167, [(2, (-27))]))] (170, []) 52 29 = true := by decide +kernel
theorem sn_299 {W : Bool} {X : List Int32} : y_Snd (mGw W) mLT1 (J2 W X) X cx_299 := y_ok J2_J mTS2_ok1 mTC2_ok1 mRUp_ok1 (List.forall_mem_cons.mpr ⟨sn_298, fun _ h => absurd h List.not_mem_nil⟩) ck_299
/-- Giving.findRests -/
def cx_300 : zCtx := (34, ([ui0], [ur1098], [], [], [uV2], [], []), [([ui0], [ur1098], [], [], [], [], [])], [(10, false, 3), (10, false, 4)], 2539, 3, 68)
set_option maxRecDepth 1000000 in
theorem ck_300 : x_ok mLT1 [cx_299, cx_261] mTS2 mTC2 mRUp cx_300 [(35, [0]), (49, [1]), (56, [1])] [] [(13, ([(0, 3072), (0, 64)], [(10, false)], [], [(2, 0, 0, []), (0, 0, 0, [(1, 1)])], [], [], []), (2308, [(1, (-36))]))] (2317, []) 222 38 = true := by decide +kernel
theorem sn_300 {W : Bool} {X : List Int32} : y_Snd (mGw W) mLT1 (J2 W X) X cx_300 := y_ok J2_J mTS2_ok1 mTC2_ok1 mRUp_ok1 (List.forall_mem_cons.mpr ⟨sn_299, List.forall_mem_cons.mpr ⟨sn_261, fun _ h => absurd h List.not_mem_nil⟩⟩) ck_300
/-- HairRope.rests -/
def cx_301 : zCtx := (165, ([ui0, ui51], [ur444], [], [], [uV2, uV11], [], []), [([ui0, ui1063], [ur444], [], [], [uV63], [], []), ([ui0, (0, 0), ui51], [ur444], [], [], [uV12], [], []), ([ui0, (1, 1), ui51], [ur444], [], [], [uV12], [], []), ([ui0, ui265], [ur444], [], [], [uV63], [], [])], kc_63, 53164, 4, 132)
set_option maxRecDepth 1000000 in
theorem ck_301 : x_ok mLT1 [cx_297, cx_300] mTS2 mTC2 mRUp cx_301 [(19, [0]), (26, [1])] [] [] (20, []) 53144 23 = true := by decide +kernel
theorem sn_301 {W : Bool} {X : List Int32} : y_Snd (mGw W) mLT1 (J2 W X) X cx_301 := y_ok J2_J mTS2_ok1 mTC2_ok1 mRUp_ok1 (List.forall_mem_cons.mpr ⟨sn_297, List.forall_mem_cons.mpr ⟨sn_300, fun _ h => absurd h List.not_mem_nil⟩⟩) ck_301
def cx_302pi_0 (t : List (Int × Int)) : List (Int × Int) := ui0 :: ui1064 :: ui526 :: ui51 :: ui51 :: ui51 :: ui51 :: ui51 :: t
def cx_302pi_1 (t : List (Int × Int)) : List (Int × Int) := ui51 :: ui51 :: (0, 5) :: t
def cx_302p : zS := ((cx_302pi_0 (cx_302pi_1 [])), [ur1065, ur1100], [], [], [uV2, uV11, uV12], [uF448], [(277, [uL23, uL100, uL106, uL80, uL81, uL133, uL166, uL9]), uG1101, uG1102])
/-- Planner.addToSums -/
def cx_302 : zCtx := (69, cx_302p, [([ui0, ui1064, ui526, ui51, ui51, ui51, ui51, ui51, ui51, ui51, (0, 5)], [ur1065, ur1100], [], [], [], [], [(277, [uL23, uL100, uL106, uL80, uL81, uL133, uL166, (0, [(1, 2)])])])], [uk1066], 766, 0, 0)
def cz_302_0i_0 (t : List (Int × Int)) : List (Int × Int) := ui0 :: ui1064 :: ui526 :: ui51 :: ui51 :: ui51 :: ui51 :: ui51 :: t
def cz_302_0i_1 (t : List (Int × Int)) : List (Int × Int) := ui51 :: ui51 :: (0, 5) :: (0, 33) :: t
def cz_302_0 : zS := ((cz_302_0i_0 (cz_302_0i_1 [])), [ur1065, ur1100], [uL198, uL846], [uV2, uV11, uV12, uV841], [], [uF448], [uG1102, uG1101, (277, [uL23, uL100, uL106, uL80, uL81, uL133, uL166, (0, [(1, 1), (11, 1)])])])
set_option maxRecDepth 1000000 in
theorem ck_302 : x_ok mLT1 [] mTS2 mTC2 mRUp cx_302 [] [(9, [1000667]), (10, [1001024]), (22, [1000788, 1001024]), (28, [1001025]), (31, [1001026])] [(2, cz_302_0, (763, [(11, (-23))]))] (766, []) 0 25 = true := by decide +kernel
theorem sn_302 {W : Bool} {X : List Int32} : y_Snd (mGw W) mLT1 (J2 W X) X cx_302 := y_ok J2_J mTS2_ok1 mTC2_ok1 mRUp_ok1 (fun _ h => absurd h List.not_mem_nil) ck_302
def cx_303pi_0 (t : List (Int × Int)) : List (Int × Int) := ui0 :: ui845 :: (0, 6) :: (0, 6) :: ui51 :: ui51 :: ui51 :: ui51 :: t
def cx_303pi_1 (t : List (Int × Int)) : List (Int × Int) := ui51 :: ui51 :: ui51 :: ui51 :: ui51 :: t
def cx_303pr_0 (t : List (Nat × Bool)) : List (Nat × Bool) := ur1065 :: ur434 :: ur445 :: ur446 :: ur435 :: ur430 :: ur549 :: ur550 :: t
def cx_303pr_1 (t : List (Nat × Bool)) : List (Nat × Bool) := ur551 :: ur548 :: ur1100 :: ur1103 :: t
def cx_303pf_0 (t : List zFa) : List zFa := uF1067 :: uF153 :: uF449 :: uF1104 :: uF506 :: uF1105 :: uF1106 :: uF1107 :: t
def cx_303pf_1 (t : List zFa) : List zFa := uF1108 :: uF1109 :: uF1110 :: uF1111 :: uF1112 :: uF1113 :: uF1114 :: uF1115 :: t
def cx_303p : zS := ((cx_303pi_0 (cx_303pi_1 [])), (cx_303pr_0 (cx_303pr_1 [])), [uL769], [], [uV2, uV422], (cx_303pf_0 (cx_303pf_1 [])), [uG1116])
def cx_303q0i_0 (t : List (Int × Int)) : List (Int × Int) := ui0 :: ui845 :: (0, 6) :: (0, 6) :: ui51 :: ui51 :: ui51 :: ui51 :: t
def cx_303q0i_1 (t : List (Int × Int)) : List (Int × Int) := ui51 :: ui51 :: ui51 :: ui51 :: ui51 :: ui845 :: ui1117 :: t
def cx_303q0g_0 (t : List zTg) : List zTg := uG1116 :: (277, [uL80, uL81, uL133, uL166, uL173, uL198, uL217, uL211]) :: (104, [uL67, uL69, uL211]) :: (238, [uL1118, uL80, uL81, uL133, uL166, uL173, uL198, uL217, uL69, uL65, uL210]) :: (238, [uL1118, uL80, uL81, uL133, uL166, uL173, uL198, uL217, uL255, uL65, uL210]) :: t
def cx_303q0 : zS := ((cx_303q0i_0 (cx_303q0i_1 [])), (cx_303pr_0 (cx_303pr_1 [])), [], [], [], [uF473], (cx_303q0g_0 []))
/-- Planner.lookAtHouses -/
def cx_303 : zCtx := (68, cx_303p, [cx_303q0], [uk1069, uk1070, uk1066], 1085, 1, 23)
def cz_303_0i_0 (t : List (Int × Int)) : List (Int × Int) := ui0 :: ui845 :: (0, 6) :: (0, 6) :: ui51 :: ui51 :: ui51 :: ui51 :: t
def cz_303_0i_1 (t : List (Int × Int)) : List (Int × Int) := ui51 :: ui51 :: ui51 :: ui51 :: ui51 :: (0, 6) :: ui845 :: ui1117 :: t
def cz_303_0f_0 (t : List zFa) : List zFa := (0, (false, 10, 0, []), 0, 0, 0, [(14, 1)]) :: uF153 :: uF449 :: uF1104 :: uF506 :: uF1105 :: uF1106 :: uF1107 :: t
def cz_303_0f_1 (t : List zFa) : List zFa := uF1108 :: uF1109 :: uF1110 :: uF1111 :: uF1112 :: uF1113 :: uF1114 :: uF1115 :: t
def cz_303_0g_0 (t : List zTg) : List zTg := uG1116 :: (277, [uL80, uL81, uL133, uL166, uL173, uL198, uL217, uL212]) :: (104, [uL67, uL210, uL212]) :: (238, [uL1118, uL80, uL81, uL133, uL166, uL173, uL198, uL217, uL210, uL65, uL211]) :: t
def cz_303_0 : zS := ((cz_303_0i_0 (cz_303_0i_1 [])), (cx_303pr_0 (cx_303pr_1 [])), [uL769, uL210, (0, [(2, 1), (13, (-1))])], [uV2, uV422, uV411, uV115, uV115], [], (cz_303_0f_0 (cz_303_0f_1 [])), (cz_303_0g_0 []))
set_option maxRecDepth 1000000 in
theorem ck_303 : x_ok mLT1 [cx_131, cx_132, cx_302] mTS2 mTC2 mRUp cx_303 [(29, [0]), (66, [1]), (97, [2])] [(5, [1001017]), (43, [1000803, 1001018]), (52, [1000803, 1001019, 1001018, 1001020]), (83, [1001021]), (87, [1000667]), (88, [1001022, 1001023]), (95, [1001021]), (100, [1001027]), (106, [1001028])] [(7, cz_303_0, (313, [(13, (-51))]))] (319, []) 766 53 = true := by decide +kernel
theorem sn_303 {W : Bool} {X : List Int32} : y_Snd (mGw W) mLT1 (J2 W X) X cx_303 := y_ok J2_J mTS2_ok1 mTC2_ok1 mRUp_ok1 (List.forall_mem_cons.mpr ⟨sn_131, List.forall_mem_cons.mpr ⟨sn_132, List.forall_mem_cons.mpr ⟨sn_302, fun _ h => absurd h List.not_mem_nil⟩⟩⟩) ck_303
def cx_304pr_0 (t : List (Nat × Bool)) : List (Nat × Bool) := ur1098 :: ur434 :: ur445 :: ur446 :: ur1065 :: ur435 :: ur430 :: ur549 :: t
def cx_304pr_1 (t : List (Nat × Bool)) : List (Nat × Bool) := ur550 :: ur551 :: ur548 :: ur1100 :: ur1103 :: (41, false) :: ur525 :: t
def cx_304pf_0 (t : List zFa) : List zFa := uF153 :: uF449 :: uF1119 :: uF433 :: uF1120 :: uF1050 :: uF599 :: uF1085 :: t
def cx_304pf_1 (t : List zFa) : List zFa := uF1121 :: uF831 :: uF1122 :: uF234 :: uF235 :: uF1123 :: uF1124 :: uF1125 :: t
def cx_304pf_2 (t : List zFa) : List zFa := uF1126 :: uF1127 :: uF1128 :: t
def cx_304p : zS := ((cx_192pi_0 (cx_192pi_1 [])), (cx_304pr_0 (cx_304pr_1 [])), [uL1129], [], [uV2, uV422], (cx_304pf_0 (cx_304pf_1 (cx_304pf_2 []))), [uG1130])
def cx_304q0i_0 (t : List (Int × Int)) : List (Int × Int) := ui0 :: (0, 6) :: (0, 6) :: ui51 :: ui51 :: ui51 :: ui51 :: ui51 :: t
def cx_304q0i_1 (t : List (Int × Int)) : List (Int × Int) := ui51 :: ui51 :: ui51 :: ui51 :: ui845 :: ui1117 :: t
def cx_304q0g_0 (t : List zTg) : List zTg := uG1130 :: (277, [uL106, uL80, uL81, uL133, uL166, uL173, uL198, uL210]) :: (104, [uL67, uL9, uL210]) :: (238, [uL1118, uL106, uL80, uL81, uL133, uL166, uL173, uL198, uL9, uL65, uL217]) :: (238, [uL1118, uL106, uL80, uL81, uL133, uL166, uL173, uL198, uL255, uL65, uL217]) :: t
def cx_304q0 : zS := ((cx_304q0i_0 (cx_304q0i_1 [])), (cx_304pr_0 (cx_304pr_1 [])), [], [], [], [(4, (false, 10, 0, []), 0, 0, 0, [(12, 1)])], (cx_304q0g_0 []))
/-- Giving.lookAt -/
def cx_304 : zCtx := (33, cx_304p, [cx_304q0], [uk1069, uk541, uk531, uk1070, uk1066, uk1099], 53144, 3, 110)
def cz_304_0i_0 (t : List (Int × Int)) : List (Int × Int) := ui0 :: (0, 6) :: (0, 6) :: ui51 :: ui51 :: ui51 :: ui51 :: ui51 :: t
def cz_304_0i_1 (t : List (Int × Int)) : List (Int × Int) := ui51 :: ui51 :: ui51 :: ui51 :: (0, 6) :: ui845 :: ui1117 :: t
def cz_304_0f_0 (t : List zFa) : List zFa := (4, (false, 10, 0, []), 0, 0, 0, [(13, 1)]) :: uF153 :: uF449 :: uF1119 :: uF433 :: uF1120 :: uF1050 :: uF599 :: t
def cz_304_0f_1 (t : List zFa) : List zFa := uF1085 :: uF1121 :: uF831 :: uF1122 :: uF234 :: uF235 :: uF1123 :: uF1124 :: t
def cz_304_0f_2 (t : List zFa) : List zFa := uF1125 :: uF1126 :: uF1127 :: uF1128 :: t
def cz_304_0g_0 (t : List zTg) : List zTg := uG1130 :: (277, [uL106, uL80, uL81, uL133, uL166, uL173, uL198, uL211]) :: (104, [uL67, uL9, uL211]) :: (238, [uL1118, uL106, uL80, uL81, uL133, uL166, uL173, uL198, uL9, uL65, uL210]) :: (238, [uL1118, uL106, uL80, uL81, uL133, uL166, uL173, uL198, uL255, uL65, uL210]) :: t
def cz_304_0 : zS := ((cz_304_0i_0 (cz_304_0i_1 [])), (cx_304pr_0 (cx_304pr_1 [])), [uL1129], [uV2, uV422, uV201], [], (cz_304_0f_0 (cz_304_0f_1 (cz_304_0f_2 []))), (cz_304_0g_0 []))
set_option maxRecDepth 1000000 in
theorem ck_304 : x_ok mLT1 [cx_303, cx_131, cx_296] mTS2 mTC2 mRUp cx_304 [(5, [0]), (37, [1]), (50, [2])] [] [(10, cz_304_0, (169, [(12, (-27))]))] (176, []) 52968 29 = true := by decide +kernel
theorem sn_304 {W : Bool} {X : List Int32} : y_Snd (mGw W) mLT1 (J2 W X) X cx_304 := y_ok J2_J mTS2_ok1 mTC2_ok1 mRUp_ok1 (List.forall_mem_cons.mpr ⟨sn_303, List.forall_mem_cons.mpr ⟨sn_131, List.forall_mem_cons.mpr ⟨sn_296, fun _ h => absurd h List.not_mem_nil⟩⟩⟩) ck_304
def cx_305pi_0 (t : List (Int × Int)) : List (Int × Int) := ui0 :: ui845 :: (0, 6) :: ui51 :: ui51 :: ui51 :: ui51 :: ui51 :: t
def cx_305pi_1 (t : List (Int × Int)) : List (Int × Int) := ui51 :: ui51 :: ui51 :: ui1117 :: t
def cx_305p : zS := ((cx_305pi_0 (cx_305pi_1 [])), [ur1065, ur445, ur446, ur1100], [uL9, uL1131], [], [uV2, uV11], [uF21, uF511, uF307, uF340, uF455], [(277, [uL100, uL106, uL80, uL81, uL133, uL166, uL173, uL198])])
/-- Planner.reaches -/
def cx_305 : zCtx := (77, cx_305p, [([ui0, ui845, (0, 6), ui51, ui51, ui51, ui51, ui51, ui51, ui51, ui51, ui1117, ui1132], [ur1065, ur445, ur446, ur1100], [(0, [(3, (-1)), (12, 1)])], [], [uV66], [], [uG1134]), ([ui0, ui845, (0, 6), ui51, ui51, ui51, ui51, ui51, ui51, ui51, ui51, ui1117, ui1132], [ur1065, ur445, ur446, ur1100], [uL1135], [], [uV64], [], [uG1134])], [], 17, 0, 0)
set_option maxRecDepth 1000000 in
theorem ck_305 : x_ok mLT1 [] mTS2 mTC2 mRUp cx_305 [] [(16, [1001032])] [] (17, []) 0 20 = true := by decide +kernel
theorem sn_305 {W : Bool} {X : List Int32} : y_Snd (mGw W) mLT1 (J2 W X) X cx_305 := y_ok J2_J mTS2_ok1 mTC2_ok1 mRUp_ok1 (fun _ h => absurd h List.not_mem_nil) ck_305
def cx_306pi_0 (t : List (Int × Int)) : List (Int × Int) := ui0 :: (0, 6) :: ui51 :: ui51 :: ui51 :: ui51 :: ui51 :: ui51 :: t
def cx_306pi_1 (t : List (Int × Int)) : List (Int × Int) := ui51 :: ui51 :: ui1117 :: ui845 :: t
def cx_306pg_0 (t : List zTg) : List zTg := uG1136 :: uG1137 :: uG1138 :: uG1139 :: t
def cx_306p : zS := ((cx_306pi_0 (cx_306pi_1 [])), [ur1098, ur445, ur446, ur1065, ur1100], [uL1129], [], [uV2], [uF21, uF511, uF1140, uF538, uF1141, uF1142, uF1143, uF1144], (cx_306pg_0 []))
/-- Giving.pivotBits -/
def cx_306 : zCtx := (37, cx_306p, [([ui0, (0, 6), ui51, ui51, ui51, ui51, ui51, ui51, ui51, ui51, ui1117, ui845, ui51], [ur1098, ur445, ur446, ur1065, ur1100], [], [], [uV201], [], [(238, [uL1145, uL23, uL100, uL106, uL80, uL81, uL133, uL166, uL69, uL9, uL217])])], [], 216, 1, 21)
def cz_306_0i_0 (t : List (Int × Int)) : List (Int × Int) := ui0 :: (0, 6) :: ui51 :: ui51 :: ui51 :: ui51 :: ui51 :: ui51 :: t
def cz_306_0i_1 (t : List (Int × Int)) : List (Int × Int) := ui51 :: ui51 :: ui1117 :: ui845 :: ui51 :: (0, 6) :: t
def cz_306_0g_0 (t : List zTg) : List zTg := uG1136 :: uG1137 :: uG1138 :: uG1139 :: (238, [uL1145, uL23, uL100, uL106, uL80, uL81, uL133, uL166, uL69, uL210, uL217]) :: t
def cz_306_0 : zS := ((cz_306_0i_0 (cz_306_0i_1 [])), [ur1098, ur445, ur446, ur1065, ur1100], [uL1146, uL1129, uL210, (0, [(1, 1), (13, (-1))]), uL198, uL1146], [uV2, uV201, uV411], [], [uF21, uF511, uF1140, uF538, uF1141, uF1142, uF1143, uF1144], (cz_306_0g_0 []))
set_option maxRecDepth 1000000 in
theorem ck_306 : x_ok mLT1 [cx_305] mTS2 mTC2 mRUp cx_306 [(41, [0])] [(0, [1001029]), (2, [1001030]), (37, [1000789]), (39, [1000717]), (40, [1000668]), (41, [1001031]), (51, [1000667]), (53, [1001033, 1001034])] [(4, cz_306_0, (194, [(13, (-31))]))] (199, []) 17 33 = true := by decide +kernel
theorem sn_306 {W : Bool} {X : List Int32} : y_Snd (mGw W) mLT1 (J2 W X) X cx_306 := y_ok J2_J mTS2_ok1 mTC2_ok1 mRUp_ok1 (List.forall_mem_cons.mpr ⟨sn_305, fun _ h => absurd h List.not_mem_nil⟩) ck_306
def cx_307pr_0 (t : List (Nat × Bool)) : List (Nat × Bool) := ur444 :: ur445 :: ur446 :: ur533 :: ur434 :: ur548 :: ur435 :: ur430 :: t
def cx_307pr_1 (t : List (Nat × Bool)) : List (Nat × Bool) := ur549 :: ur550 :: ur551 :: ur525 :: ur1098 :: ur1065 :: t
def cx_307pf_0 (t : List zFa) : List zFa := uF13 :: uF511 :: uF543 :: uF785 :: uF307 :: uF553 :: uF786 :: uF787 :: t
def cx_307pf_1 (t : List zFa) : List zFa := uF788 :: uF789 :: uF160 :: uF558 :: uF559 :: uF560 :: uF561 :: uF562 :: t
def cx_307pf_2 (t : List zFa) : List zFa := uF563 :: uF157 :: (0, (false, 7, 0, []), 2, 12, 0, []) :: (12, (false, 0, 0, []), 2, 1, 0, []) :: (12, (false, 1, 0, []), 2, 13, 0, []) :: (13, (false, 0, 0, []), 2, 1, 0, []) :: t
def cx_307p : zS := ([ui0, ui31, (0, 6), (0, 6), ui51, ui51, ui51], (cx_307pr_0 (cx_307pr_1 [])), [], [], [uV2], (cx_307pf_0 (cx_307pf_1 (cx_307pf_2 []))), [uG792])
def cx_307q0 : zS := ([ui0, ui31, (0, 6), (0, 6), ui51, ui51, ui51, ui51], (cx_307pr_0 (cx_307pr_1 [])), [], [], [uV144], [uF786, uF787, uF788, uF789], [uG792, (260, [uL1145, uL9, uL65, uL65, uL65, uL65, uL65, uL65, uL80, uL69, uL81])])
/-- HairRope.pivots -/
def cx_307 : zCtx := (166, cx_307p, [cx_307q0], [uk1069, uk541, uk531, uk1070, uk1066, uk1099], 53153, 4, 132)
set_option maxRecDepth 1000000 in
theorem ck_307 : x_ok mLT1 [cx_304, cx_306] mTS2 mTC2 mRUp cx_307 [(8, [0]), (15, [1])] [(8, [1000733]), (18, [1000728])] [] (9, []) 53144 12 = true := by decide +kernel
theorem sn_307 {W : Bool} {X : List Int32} : y_Snd (mGw W) mLT1 (J2 W X) X cx_307 := y_ok J2_J mTS2_ok1 mTC2_ok1 mRUp_ok1 (List.forall_mem_cons.mpr ⟨sn_304, List.forall_mem_cons.mpr ⟨sn_306, fun _ h => absurd h List.not_mem_nil⟩⟩) ck_307
def cx_308q2 : zS := ([ui0, ui51, ui31, (0, 6), (0, 6), ui51, ui51], (cx_251pr_0 (cx_251pr_1 [])), [uL9, uL516], [], [uV64], [uF600, uF601, uF602, uF603], [uG604, (260, [uL34, uL65, uL65, uL65, uL65, uL65, uL65, uL65, uL567, uL65, uL65])])
def cx_308q3i_0 (t : List (Int × Int)) : List (Int × Int) := ui0 :: ui51 :: ui31 :: (0, 6) :: (0, 6) :: ui51 :: ui51 :: ui51 :: t
def cx_308q3i_1 (t : List (Int × Int)) : List (Int × Int) := ui765 :: ui51 :: t
def cx_308q3g_0 (t : List zTg) : List zTg := uG604 :: uG568 :: (260, [uL67, uL65, uL65, uL65, uL65, uL65, uL65, uL65, uL65, uL100, uL166]) :: (107, [(0, [(8, 1000)]), uL166, uL81]) :: t
def cx_308q3 : zS := ((cx_308q3i_0 (cx_308q3i_1 [])), (cx_251pr_0 (cx_251pr_1 [])), [uL1059, uL9, uL516], [], [uV144], [uF600, uF601, uF602, uF603], (cx_308q3g_0 []))
/-- HairRope.share -/
def cx_308 : zCtx := (167, cx_251p, [([ui0, ui51, ui31, (0, 6), (0, 6), ui51, ui51], [ur444, ur445, ur446, ur533, ur434, ur435, ur430, ur549, ur550, ur551], [uL570], [], [uV63], [uF600, uF601, uF602, uF603], [uG604]), ([ui0, ui51, ui31, (0, 6), (0, 6), ui51, ui51], [ur444, ur445, ur446, ur533, ur434, ur435, ur430, ur549, ur550, ur551], [uL573], [], [uV63], [uF600, uF601, uF602, uF603], [uG604]), cx_308q2, cx_308q3], [], 149, 3, 107)
set_option maxRecDepth 1000000 in
theorem ck_308 : x_ok mLT1 [cx_130, cx_131, cx_192] mTS2 mTC2 mRUp cx_308 [(2, [0]), (15, [1]), (23, [2])] [(36, [1000763]), (37, [1000755, 1000728]), (49, [1000764, 1000728, 1000753]), (54, [1000023])] [] (28, []) 121 31 = true := by decide +kernel
theorem sn_308 {W : Bool} {X : List Int32} : y_Snd (mGw W) mLT1 (J2 W X) X cx_308 := y_ok J2_J mTS2_ok1 mTC2_ok1 mRUp_ok1 (List.forall_mem_cons.mpr ⟨sn_130, List.forall_mem_cons.mpr ⟨sn_131, List.forall_mem_cons.mpr ⟨sn_192, fun _ h => absurd h List.not_mem_nil⟩⟩⟩) ck_308
/-- Text.likeOf -/
def cx_309 : zCtx := (135, ([ui0, ui51, ui51], [ur446, ur574], [], [], [uV2, uV11, uV12], [uF44], []), [([ui0, ui265, ui51], [ur446, ur574], [], [], [uV3], [], []), ([ui0, ui264, ui51], [ur446, ur574], [], [], [uV3], [], []), ([ui0, (0, 5), ui265], [ur446, ur574], [], [], [uV3], [], []), ([ui0, (0, 5), ui264], [ur446, ur574], [], [], [uV3], [], []), ([ui0, (0, 5), (0, 5), ui51], [ur446, ur574], [], [], [uV60], [], [])], [], 24, 1, 20)
set_option maxRecDepth 1000000 in
theorem ck_309 : x_ok mLT1 [cx_51] mTS2 mTC2 mRUp cx_309 [(1, [0]), (8, [0])] [(25, [1000464])] [] (16, []) 8 19 = true := by decide +kernel
theorem sn_309 {W : Bool} {X : List Int32} : y_Snd (mGw W) mLT1 (J2 W X) X cx_309 := y_ok J2_J mTS2_ok1 mTC2_ok1 mRUp_ok1 (List.forall_mem_cons.mpr ⟨sn1_51, fun _ h => absurd h List.not_mem_nil⟩) ck_309
/-- Rules.joinAbove -/
def cx_310 : zCtx := (92, ([ui0, (1, 5)], [ur445, ur1082], [], [], [uV2, uV422, uV11], [], []), [([ui0, (1, 5), ui586], [ur445, ur1082], [], [], [uV12], [], [])], [uk541, uk531], 53013, 3, 111)
set_option maxRecDepth 1000000 in
theorem ck_310 : x_ok mLT1 [cx_309, cx_279] mTS2 mTC2 mRUp cx_310 [(42, [0]), (45, [1])] [] [] (29, []) 52984 32 = true := by decide +kernel
theorem sn_310 {W : Bool} {X : List Int32} : y_Snd (mGw W) mLT1 (J2 W X) X cx_310 := y_ok J2_J mTS2_ok1 mTC2_ok1 mRUp_ok1 (List.forall_mem_cons.mpr ⟨sn_309, List.forall_mem_cons.mpr ⟨sn_279, fun _ h => absurd h List.not_mem_nil⟩⟩) ck_310
/-- Rules.weigh -/
def cx_311 : zCtx := (91, ([ui0, ui51], [ur445, ur1082], [], [], [uV2, uV422], [uF186], []), [([ui0, ui51, ui803], [ur445, ur1082], [], [], [], [uF152], [])], [uk805, uk541, uk806, uk531], 53276, 4, 135)
set_option maxRecDepth 1000000 in
theorem ck_311 : x_ok mLT1 [cx_310] mTS2 mTC2 mRUp cx_311 [(75, [0])] [] [(30, ([(0, 3072), ((-2147483648), 2147483647), ((-2147483648), 2147483647), ((-1), 5), (0, 11), (0, 6)], [(5, false), (106, false)], [], [(2, 0, 0, []), (2, 1, 0, []), (0, 0, 0, [(2, 1)]), (0, 0, 0, [(3, 1)])], [], [(0, (false, 2, 0, []), 0, 0, 0, [(4, 1)]), (1, (false, 6, 0, []), 0, 0, 0, [(5, 1)])], []), (43, [(3, 40)]))] (263, []) 53013 42 = true := by decide +kernel
theorem sn_311 {W : Bool} {X : List Int32} : y_Snd (mGw W) mLT1 (J2 W X) X cx_311 := y_ok J2_J mTS2_ok1 mTC2_ok1 mRUp_ok1 (List.forall_mem_cons.mpr ⟨sn_310, fun _ h => absurd h List.not_mem_nil⟩) ck_311
/-- Forecast.yearsUntilBroken -/
def cx_312 : zCtx := (25, ([ui0, ui586], [ur1086, ur434], [], [], [uV2, uV422, uV11], [], []), [([ui0, ui586, ui1087], [ur1086, ur434], [], [], [uV12], [], []), ([ui0, ui586], [ur1086, ur434], [], [], [uV569], [], [])], kc_64, 54737, 5, 161)
def cz_312_0f_0 (t : List zFa) : List zFa := uF1147 :: uF1148 :: uF710 :: uF1109 :: uF233 :: (1, (false, 8, 0, []), 0, 0, 0, [(3, 1)]) :: uF1106 :: uF833 :: t
def cz_312_0f_1 (t : List zFa) : List zFa := uF495 :: uF1149 :: (7, (false, 5, 0, []), 0, 0, 0, [(6, 1)]) :: (7, (false, 6, 0, []), 0, 0, 0, [(5, 1)]) :: (7, (false, 7, 0, []), 0, 0, 0, [(7, 1)]) :: (7, (false, 8, 0, []), 0, 0, 0, [(3, 1)]) :: t
def cz_312_0 : zS := ([ui0, ui586, ui845, ui51, ui51, (0, 6), (0, 6), ui51], [ur1086, ur434, ur551, ur550, ur549, ur430, ur435, ur1082], [], [uV2, uV422, uV11, uV12], [], (cz_312_0f_0 (cz_312_0f_1 [])), [])
set_option maxRecDepth 1000000 in
theorem ck_312 : x_ok mLT1 [cx_274, cx_311, cx_198, cx_285] mTS2 mTC2 mRUp cx_312 [(5, [0]), (24, [1]), (32, [2]), (50, [3])] [] [(10, cz_312_0, (1454, [(2, (-23))]))] (1461, []) 53276 25 = true := by decide +kernel
theorem sn_312 {W : Bool} {X : List Int32} : y_Snd (mGw W) mLT1 (J2 W X) X cx_312 := y_ok J2_J mTS2_ok1 mTC2_ok1 mRUp_ok1 (List.forall_mem_cons.mpr ⟨sn_274, List.forall_mem_cons.mpr ⟨sn_311, List.forall_mem_cons.mpr ⟨sn_198, List.forall_mem_cons.mpr ⟨sn_285, fun _ h => absurd h List.not_mem_nil⟩⟩⟩⟩) ck_312
/-- HairRope.lasts -/
def cx_313 : zCtx := (168, ([ui0, ui51], [ur444], [], [], [uV2, uV11], [], []), [([ui0, ui265], [ur444], [], [], [uV63], [], []), ([ui0, ui800], [ur444], [], [], [uV63], [], []), ([ui0, ui586], [ur444], [], [], [uV569], [], []), ([ui0, ui586, ui1087], [ur444], [], [], [uV12], [], [])], kc_64, 54748, 6, 184)
set_option maxRecDepth 1000000 in
theorem ck_313 : x_ok mLT1 [cx_195, cx_312] mTS2 mTC2 mRUp cx_313 [(1, [0]), (16, [1])] [] [] (11, []) 54737 14 = true := by decide +kernel
theorem sn_313 {W : Bool} {X : List Int32} : y_Snd (mGw W) mLT1 (J2 W X) X cx_313 := y_ok J2_J mTS2_ok1 mTC2_ok1 mRUp_ok1 (List.forall_mem_cons.mpr ⟨sn_195, List.forall_mem_cons.mpr ⟨sn_312, fun _ h => absurd h List.not_mem_nil⟩⟩) ck_313
/-- Forecast.harvestOf -/
def cx_314 : zCtx := (27, ([ui0, (0, 5), ui844, ui844], [ur1086, ur434], [], [], [uV2, uV422, uV11, uV12, uV60], [], []), [([ui0, (0, 5), ui844, ui844, ui51], [ur1086, ur434], [], [], [uV99], [], [])], kc_65, 55652, 4, 137)
def cz_314_0i_0 (t : List (Int × Int)) : List (Int × Int) := ui0 :: (0, 5) :: ui844 :: ui844 :: ui51 :: ui1073 :: ui51 :: ui51 :: t
def cz_314_0i_1 (t : List (Int × Int)) : List (Int × Int) := (0, 6) :: (0, 6) :: ui51 :: t
def cz_314_0f_0 (t : List zFa) : List zFa := uF1147 :: uF1148 :: uF710 :: uF1109 :: uF233 :: uF522 :: uF584 :: (1, (false, 6, 0, []), 0, 0, 0, [(8, 1)]) :: t
def cz_314_0f_1 (t : List zFa) : List zFa := uF193 :: uF1149 :: (7, (false, 5, 0, []), 0, 0, 0, [(9, 1)]) :: (7, (false, 6, 0, []), 0, 0, 0, [(8, 1)]) :: (7, (false, 7, 0, []), 0, 0, 0, [(10, 1)]) :: (7, (false, 8, 0, []), 0, 0, 0, [(6, 1)]) :: t
def cz_314_0 : zS := ((cz_314_0i_0 (cz_314_0i_1 [])), [ur1086, ur434, ur551, ur550, ur549, ur430, ur435, ur1082], [], [uV2, uV422, uV11, uV12, uV60, uV99, uV77], [], (cz_314_0f_0 (cz_314_0f_1 [])), [])
set_option maxRecDepth 1000000 in
theorem ck_314 : x_ok mLT1 [cx_274, cx_284] mTS2 mTC2 mRUp cx_314 [(5, [0]), (50, [1])] [] [(33, cz_314_0, (2651, [(5, (-42))]))] (2626, []) 53026 44 = true := by decide +kernel
theorem sn_314 {W : Bool} {X : List Int32} : y_Snd (mGw W) mLT1 (J2 W X) X cx_314 := y_ok J2_J mTS2_ok1 mTC2_ok1 mRUp_ok1 (List.forall_mem_cons.mpr ⟨sn_274, List.forall_mem_cons.mpr ⟨sn_284, fun _ h => absurd h List.not_mem_nil⟩⟩) ck_314
/-- Forecast.findHarvest -/
def cx_315 : zCtx := (26, ([ui0, (0, 5), ui844], [ur1086, ur434], [], [], [uV2, uV422, uV11, uV12], [], []), [([ui0, (0, 5), ui844], [ur1086, ur434], [], [], [], [], [])], kc_66, 57091, 5, 163)
set_option maxRecDepth 1000000 in
theorem ck_315 : x_ok mLT1 [cx_314] mTS2 mTC2 mRUp cx_315 [(25, [0])] [] [(13, ([(0, 3072), (0, 5), (1, 60), (1, 63)], [(8, false), (6, false)], [], [(2, 0, 0, []), (2, 1, 0, []), (0, 0, 0, [(1, 1)]), (0, 0, 0, [(2, 1)]), (0, 0, 0, [(3, 1)]), (5, 0, 0, [])], [], [], []), (1453, [(3, (-23))]))] (1439, []) 55652 25 = true := by decide +kernel
theorem sn_315 {W : Bool} {X : List Int32} : y_Snd (mGw W) mLT1 (J2 W X) X cx_315 := y_ok J2_J mTS2_ok1 mTC2_ok1 mRUp_ok1 (List.forall_mem_cons.mpr ⟨sn_314, fun _ h => absurd h List.not_mem_nil⟩) ck_315
/-- HairRope.harvest -/
def cx_316 : zCtx := (169, ([ui0, ui51, ui51, ui51], [ur444], [], [], [uV2, uV11, uV12, uV60], [], []), [([ui0, ui265, ui51, ui51], [ur444], [], [], [uV63], [], []), ([ui0, ui512, ui51, ui51], [ur444], [], [], [uV63], [], []), ([ui0, (0, 5), ui844, (0, 0), ui51], [ur444], [], [], [uV99], [], []), ([ui0, (0, 5), ui844, (1, 1), ui51], [ur444], [], [], [uV99], [], [])], kc_66, 57120, 6, 188)
set_option maxRecDepth 1000000 in
theorem ck_316 : x_ok mLT1 [cx_130, cx_315] mTS2 mTC2 mRUp cx_316 [(2, [0]), (40, [1])] [] [] (29, []) 57091 32 = true := by decide +kernel
theorem sn_316 {W : Bool} {X : List Int32} : y_Snd (mGw W) mLT1 (J2 W X) X cx_316 := y_ok J2_J mTS2_ok1 mTC2_ok1 mRUp_ok1 (List.forall_mem_cons.mpr ⟨sn_130, List.forall_mem_cons.mpr ⟨sn_315, fun _ h => absurd h List.not_mem_nil⟩⟩) ck_316
/-- Rules.joinAbove -/
def cx_317 : zCtx := (92, ([ui0, (1, 5)], [ur445, ur434], [], [], [uV2, uV422, uV11], [], []), [([ui0, (1, 5), ui586], [ur445, ur434], [], [], [uV12], [], [])], [uk541, uk531], 53013, 3, 111)
set_option maxRecDepth 1000000 in
theorem ck_317 : x_ok mLT1 [cx_309, cx_258] mTS2 mTC2 mRUp cx_317 [(42, [0]), (45, [1])] [] [] (29, []) 52984 32 = true := by decide +kernel
theorem sn_317 {W : Bool} {X : List Int32} : y_Snd (mGw W) mLT1 (J2 W X) X cx_317 := y_ok J2_J mTS2_ok1 mTC2_ok1 mRUp_ok1 (List.forall_mem_cons.mpr ⟨sn_309, List.forall_mem_cons.mpr ⟨sn_258, fun _ h => absurd h List.not_mem_nil⟩⟩) ck_317
/-- Rules.weigh -/
def cx_318 : zCtx := (91, ([ui0, ui51], [ur445, ur434], [], [], [uV2, uV422], [uF186], []), [([ui0, ui51, ui803], [ur445, ur434], [], [], [], [uF152], [])], [uk805, uk541, uk806, uk531], 53276, 4, 135)
set_option maxRecDepth 1000000 in
theorem ck_318 : x_ok mLT1 [cx_317] mTS2 mTC2 mRUp cx_318 [(75, [0])] [] [(30, ([(0, 3072), ((-2147483648), 2147483647), ((-2147483648), 2147483647), ((-1), 5), (0, 11), (0, 6)], [(5, false), (6, false)], [], [(2, 0, 0, []), (2, 1, 0, []), (0, 0, 0, [(2, 1)]), (0, 0, 0, [(3, 1)])], [], [(0, (false, 2, 0, []), 0, 0, 0, [(4, 1)]), (1, (false, 6, 0, []), 0, 0, 0, [(5, 1)])], []), (43, [(3, 40)]))] (263, []) 53013 42 = true := by decide +kernel
theorem sn_318 {W : Bool} {X : List Int32} : y_Snd (mGw W) mLT1 (J2 W X) X cx_318 := y_ok J2_J mTS2_ok1 mTC2_ok1 mRUp_ok1 (List.forall_mem_cons.mpr ⟨sn_317, fun _ h => absurd h List.not_mem_nil⟩) ck_318
/-- Rules.greatestHaul -/
def cx_319 : zCtx := (98, ([ui0, ui803], [ur445], [], [], [uV2], [uF186], []), [([ui0, ui803], [ur445], [], [], [uV569], [], []), ([ui0, ui803, ui586], [ur445], [], [], [uV12], [], [])], [], 388, 1, 64)
set_option maxRecDepth 1000000 in
theorem ck_319 : x_ok mLT1 [] mTS2 mTC2 mRUp cx_319 [] [] [(6, ([(0, 3072), (0, 11), ((-2147483648), 999), (0, 22)], [(5, false)], [], [(2, 0, 0, []), (0, 0, 0, [(2, 1)]), (0, 0, 0, [(3, 1)])], [], [(0, (false, 2, 0, []), 0, 0, 0, [(1, 1)])], []), (383, [(3, (-17))]))] (388, []) 0 19 = true := by decide +kernel
theorem sn_319 {W : Bool} {X : List Int32} : y_Snd (mGw W) mLT1 (J2 W X) X cx_319 := y_ok J2_J mTS2_ok1 mTC2_ok1 mRUp_ok1 (fun _ h => absurd h List.not_mem_nil) ck_319
/-- State.exchangeIn -/
def cx_320 : zCtx := (107, ([ui0, (0, 5), (1, 5)], [ur1150], [], [], [uV2, uV11, uV12], [], []), [([ui0, (0, 5), (1, 5)], [ur1150], [], [], [], [], [])], [uk1151], 27, 0, 0)
set_option maxRecDepth 1000000 in
theorem ck_320 : x_ok mLT1 [] mTS2 mTC2 mRUp cx_320 [] [] [] (27, []) 0 30 = true := by decide +kernel
theorem sn_320 {W : Bool} {X : List Int32} : y_Snd (mGw W) mLT1 (J2 W X) X cx_320 := y_ok J2_J mTS2_ok1 mTC2_ok1 mRUp_ok1 (fun _ h => absurd h List.not_mem_nil) ck_320
/-- State.exchangeIn -/
def cx_321 : zCtx := (107, ([ui0, (0, 5), (1, 5)], [ur1152], [], [], [uV2, uV11, uV12], [], []), [([ui0, (0, 5), (1, 5)], [ur1152], [], [], [], [], [])], [uk1153], 27, 0, 0)
set_option maxRecDepth 1000000 in
theorem ck_321 : x_ok mLT1 [] mTS2 mTC2 mRUp cx_321 [] [] [] (27, []) 0 30 = true := by decide +kernel
theorem sn_321 {W : Bool} {X : List Int32} : y_Snd (mGw W) mLT1 (J2 W X) X cx_321 := y_ok J2_J mTS2_ok1 mTC2_ok1 mRUp_ok1 (fun _ h => absurd h List.not_mem_nil) ck_321
/-- State.exchangeIn -/
def cx_322 : zCtx := (107, ([ui0, (0, 5), (1, 5)], [ur1154], [], [], [uV2, uV11, uV12], [], []), [([ui0, (0, 5), (1, 5)], [ur1154], [], [], [], [], [])], [uk1084], 27, 0, 0)
set_option maxRecDepth 1000000 in
theorem ck_322 : x_ok mLT1 [] mTS2 mTC2 mRUp cx_322 [] [] [] (27, []) 0 30 = true := by decide +kernel
theorem sn_322 {W : Bool} {X : List Int32} : y_Snd (mGw W) mLT1 (J2 W X) X cx_322 := y_ok J2_J mTS2_ok1 mTC2_ok1 mRUp_ok1 (fun _ h => absurd h List.not_mem_nil) ck_322
/-- State.exchange -/
def cx_323 : zCtx := (106, ([ui0, (0, 5), (1, 5)], [ur1082], [], [], [uV2, uV11, uV12], [], []), [([ui0, (0, 5), (1, 5)], [ur1082], [], [], [], [], [])], [uk1151, uk1153, uk1084], 43, 1, 23)
set_option maxRecDepth 1000000 in
theorem ck_323 : x_ok mLT1 [cx_320, cx_321, cx_322] mTS2 mTC2 mRUp cx_323 [(6, [0]), (15, [1]), (24, [2])] [] [] (16, []) 27 19 = true := by decide +kernel
theorem sn_323 {W : Bool} {X : List Int32} : y_Snd (mGw W) mLT1 (J2 W X) X cx_323 := y_ok J2_J mTS2_ok1 mTC2_ok1 mRUp_ok1 (List.forall_mem_cons.mpr ⟨sn_320, List.forall_mem_cons.mpr ⟨sn_321, List.forall_mem_cons.mpr ⟨sn_322, fun _ h => absurd h List.not_mem_nil⟩⟩⟩) ck_323
/-- Forecast.bestSwap -/
def cx_324 : zCtx := (28, ([ui0], [ur1086, ur434], [], [], [uV2, uV422], [], []), [([ui0, ui1155], [ur1086, ur434], [], [], [uV11], [], [])], kc_64, 54471, 5, 158)
set_option maxRecDepth 1000000 in
theorem ck_324 : x_ok mLT1 [cx_318, cx_319, cx_274, cx_323, cx_311] mTS2 mTC2 mRUp cx_324 [(5, [0]), (12, [1]), (51, [2]), (62, [3]), (73, [4]), (80, [1]), (91, [1])] [] [(22, ([(0, 3072), ((-2), 999), ((-2), 63), (0, 6), (0, 11)], [(8, false), (6, false), (5, false)], [], [(2, 0, 0, []), (2, 1, 0, []), (0, 0, 0, [(1, 1)]), (0, 0, 0, [(2, 1)]), (0, 0, 0, [(3, 1)]), (5, 0, 0, [])], [], [(0, (false, 0, 0, []), 2, 2, 0, []), (2, (false, 2, 0, []), 0, 0, 0, [(4, 1)])], []), (1182, [(3, (-196))])), (37, ([(0, 3072), ((-2), 999), ((-2), 63), (0, 5), (1, 6), (1, 6), (0, 11)], [(8, false), (6, false), (5, false)], [], [(2, 0, 0, []), (2, 1, 0, []), (0, 0, 0, [(1, 1)]), (0, 0, 0, [(2, 1)]), (0, 0, 0, [(3, 1)]), (0, 0, 0, [(4, 1)])], [], [(1, (false, 6, 0, []), 0, 0, 0, [(5, 1)]), (0, (false, 0, 0, []), 2, 2, 0, []), (2, (false, 2, 0, []), 0, 0, 0, [(6, 1)])], []), (1209, [(3, (-160)), (4, (-36))]))] (1195, []) 53276 38 = true := by decide +kernel
theorem sn_324 {W : Bool} {X : List Int32} : y_Snd (mGw W) mLT1 (J2 W X) X cx_324 := y_ok J2_J mTS2_ok1 mTC2_ok1 mRUp_ok1 (List.forall_mem_cons.mpr ⟨sn_318, List.forall_mem_cons.mpr ⟨sn_319, List.forall_mem_cons.mpr ⟨sn_274, List.forall_mem_cons.mpr ⟨sn_323, List.forall_mem_cons.mpr ⟨sn_311, fun _ h => absurd h List.not_mem_nil⟩⟩⟩⟩⟩) ck_324
/-- HairRope.swap -/
def cx_325 : zCtx := (170, ([ui0], [ur444], [], [], [uV2], [], []), [([ui0, ui1155], [ur444], [], [], [uV11], [], [])], kc_64, 54477, 6, 183)
set_option maxRecDepth 1000000 in
theorem ck_325 : x_ok mLT1 [cx_324] mTS2 mTC2 mRUp cx_325 [(8, [0])] [] [] (6, []) 54471 9 = true := by decide +kernel
theorem sn_325 {W : Bool} {X : List Int32} : y_Snd (mGw W) mLT1 (J2 W X) X cx_325 := y_ok J2_J mTS2_ok1 mTC2_ok1 mRUp_ok1 (List.forall_mem_cons.mpr ⟨sn_324, fun _ h => absurd h List.not_mem_nil⟩) ck_325
def cx_326q2i_0 (t : List (Int × Int)) : List (Int × Int) := ui0 :: (0, 0) :: ui31 :: (0, 6) :: (0, 6) :: ui51 :: ui51 :: ui51 :: t
def cx_326q2i_1 (t : List (Int × Int)) : List (Int × Int) := ui51 :: t
def cx_326q2 : zS := ((cx_326q2i_0 (cx_326q2i_1 [])), (cx_249pr_0 (cx_249pr_1 [])), [], [], [uV144], [uF600, uF601, uF602, uF603], [uG604, (260, [uL640, uL69, uL65, uL65, uL65, uL65, uL65, uL65, uL100, uL81, uL133])])
def cx_326q3i_0 (t : List (Int × Int)) : List (Int × Int) := ui0 :: (1, 1) :: ui31 :: (0, 6) :: (0, 6) :: ui51 :: ui51 :: ui51 :: t
def cx_326q3i_1 (t : List (Int × Int)) : List (Int × Int) := ui51 :: t
def cx_326q3 : zS := ((cx_326q3i_0 (cx_326q3i_1 [])), (cx_249pr_0 (cx_249pr_1 [])), [], [], [uV144], [uF600, uF601, uF602, uF603], [uG604, (260, [uL640, uL69, uL65, uL65, uL65, uL65, uL65, uL65, uL100, uL133, uL81])])
/-- HairRope.quarrel -/
def cx_326 : zCtx := (171, cx_250p, [([ui0, ui1063, ui31, (0, 6), (0, 6), ui51, ui51], [ur444, ur445, ur446, ur533, ur434, ur574, ur548, ur435, ur430, ur549, ur550, ur551, ur525, ur802], [], [], [uV63], [uF600, uF601, uF602, uF603], [uG604]), ([ui0, ui265, ui31, (0, 6), (0, 6), ui51, ui51], [ur444, ur445, ur446, ur533, ur434, ur574, ur548, ur435, ur430, ur549, ur550, ur551, ur525, ur802], [], [], [uV63], [uF600, uF601, uF602, uF603], [uG604]), cx_326q2, cx_326q3], [uk541, uk531], 53155, 4, 135)
def cz_326_0i_0 (t : List (Int × Int)) : List (Int × Int) := ui0 :: (0, 1) :: ui31 :: (0, 6) :: (0, 6) :: ui51 :: ui51 :: ui1156 :: t
def cz_326_0i_1 (t : List (Int × Int)) : List (Int × Int) := ui1157 :: (1, 6) :: t
def cz_326_0g_0 (t : List zTg) : List zTg := (235, [uL23, uL100, uL106, uL80, uL69, uL65, uL65, uL65, uL65, uL65, uL65]) :: uG604 :: (238, [uL640, uL69, uL65, uL65, uL65, uL65, uL65, uL65, uL166, uL81, uL133]) :: t
def cz_326_0 : zS := ((cz_326_0i_0 (cz_326_0i_1 [])), (cx_249pr_0 (cx_249pr_1 [])), [uL1059], [uV2, uV11, uV144, uV146, uV779, uV115], [], (cx_250pf_0 (cx_250pf_1 (cx_250pf_2 []))), (cz_326_0g_0 []))
set_option maxRecDepth 1000000 in
theorem ck_326 : x_ok mLT1 [cx_196] mTS2 mTC2 mRUp cx_326 [(42, [0])] [(17, [1000733, 1000773]), (54, [1000012]), (57, [1000774, 1000775]), (63, [1000776]), (69, [1000777])] [(20, cz_326_0, (154, [(9, (-24))]))] (142, []) 53013 26 = true := by decide +kernel
theorem sn_326 {W : Bool} {X : List Int32} : y_Snd (mGw W) mLT1 (J2 W X) X cx_326 := y_ok J2_J mTS2_ok1 mTC2_ok1 mRUp_ok1 (List.forall_mem_cons.mpr ⟨sn_196, fun _ h => absurd h List.not_mem_nil⟩) ck_326
end
