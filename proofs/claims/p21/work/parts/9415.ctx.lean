noncomputable section
/-! ===== readings, by program, checked by the kernel ===== -/
/-- Planner.lookAtHouses -/
def cx_287 : zCtx := (68, ([ui0, ui844], [ur1065, ur1199], [], [], [uV2, uV420], [uF1071], []), [([ui0, ui844, ui844], [ur1065, ur1199], [], [], [], [uF1094], [])], [uk1092, uk1093, uk1069], 1085, 1, 23)
set_option maxRecDepth 1000000 in
theorem ck_287 : x_ok mLT1 [cx_285, cx_286, cx_269] mTS2 mTC2 mRUp cx_287 [(29, [0]), (66, [1]), (97, [2])] [] [(7, ([(0, 3072), (0, 63), (0, 6), (0, 63)], [(9, false), (106, false)], [], [(2, 0, 0, []), (2, 1, 0, []), (0, 0, 0, [(2, 1)]), (5, 0, 0, []), (5, 0, 0, [])], [], [(0, (false, 10, 0, []), 0, 0, 0, [(3, 1)])], []), (313, [(2, (-51))]))] (319, []) 766 53 = true := by decide +kernel
theorem sn_287 {W : Bool} {X : List Int32} : y_Snd (mGw W) mLT1 (J2 W X) X cx_287 := y_ok J2_J mTS2_ok1 mTC2_ok1 mRUp_ok1 (List.forall_mem_cons.mpr ⟨sn_285, List.forall_mem_cons.mpr ⟨sn_286, List.forall_mem_cons.mpr ⟨sn_269, fun _ h => absurd h List.not_mem_nil⟩⟩⟩) ck_287
/-- Rules.lookAt -/
def cx_288 : zCtx := (88, ([ui0, ui49, ui245], [ur443, ur1199, ur523], [], [], [uV2, uV420, uV11, uV12], [uF22], []), [([ui0, ui49, ui245], [ur443, ur1199, ur523], [], [], [], [], [])], [uk529], 79, 1, 64)
set_option maxRecDepth 1000000 in
theorem ck_288 : x_ok mLT1 [cx_286] mTS2 mTC2 mRUp cx_288 [(32, [0])] [] [] (65, []) 14 68 = true := by decide +kernel
theorem sn_288 {W : Bool} {X : List Int32} : y_Snd (mGw W) mLT1 (J2 W X) X cx_288 := y_ok J2_J mTS2_ok1 mTC2_ok1 mRUp_ok1 (List.forall_mem_cons.mpr ⟨sn_286, fun _ h => absurd h List.not_mem_nil⟩) ck_288
/-- Rules.joinOf -/
def cx_289 : zCtx := (90, ([ui0, ui49, ui49, ui49], [ur443, ur1199], [], [], [uV2, uV420, uV11, uV12, uV58], [], []), [([ui0, ui49, ui49, ui49, ui584], [ur443, ur1199], [], [], [uV97], [], [])], [uk539, uk529], 52984, 2, 87)
set_option maxRecDepth 1000000 in
theorem ck_289 : x_ok mLT1 [cx_285, cx_288, cx_286, cx_136] mTS2 mTC2 mRUp cx_289 [(5, [0]), (8, [1]), (30, [0]), (33, [2]), (53, [3])] [] [] (35, []) 52949 38 = true := by decide +kernel
theorem sn_289 {W : Bool} {X : List Int32} : y_Snd (mGw W) mLT1 (J2 W X) X cx_289 := y_ok J2_J mTS2_ok1 mTC2_ok1 mRUp_ok1 (List.forall_mem_cons.mpr ⟨sn_285, List.forall_mem_cons.mpr ⟨sn_288, List.forall_mem_cons.mpr ⟨sn_286, List.forall_mem_cons.mpr ⟨sn_136, fun _ h => absurd h List.not_mem_nil⟩⟩⟩⟩) ck_289
/-- Planner.findJoins -/
def cx_290 : zCtx := (70, ([ui0, (0, 0), ui844], [ur1065, ur1199, ur1095], [], [], [uV2, uV420, uV756, uV11], [uF1094], []), [([ui0, (0, 0), ui844], [ur1065, ur1199, ur1095], [], [], [], [], [])], [uk539, uk529, uk1098], 54866, 3, 111)
set_option maxRecDepth 1000000 in
theorem ck_290 : x_ok mLT1 [cx_254, cx_142, cx_289] mTS2 mTC2 mRUp cx_290 [(56, [0]), (65, [0]), (98, [1]), (117, [2])] [] [(3, ([(0, 3072), (0, 0), (0, 63), (0, 6)], [(9, false), (106, false), (35, false)], [], [(2, 0, 0, []), (2, 1, 0, []), (2, 2, 0, []), (0, 0, 0, [(1, 1)]), (0, 0, 0, [(3, 1)]), (5, 0, 0, []), (5, 0, 0, []), (5, 0, 0, [])], [], [(0, (false, 10, 0, []), 0, 0, 0, [(2, 1)])], []), (1879, [(1, (-100000000000)), (3, (-312))])), (21, ([(0, 3072), (0, 0), (0, 63), (0, 5), (0, 6), (1, 6)], [(9, false), (106, false), (35, false), (5, false), (2, false)], [], [(2, 0, 0, []), (2, 1, 0, []), (2, 2, 0, []), (0, 0, 0, [(1, 1)]), (0, 0, 0, [(3, 1)]), (0, 0, 0, [(4, 1)]), (5, 0, 0, []), (5, 0, 0, [])], [], [(0, (false, 0, 0, []), 2, 3, 0, []), (0, (false, 10, 0, []), 0, 0, 0, [(2, 1)]), (3, (false, 3, 0, []), 2, 4, 0, []), (4, (false, 5, 0, []), 0, 0, 0, [(5, 1)])], []), (1870, [(1, (-100000000000)), (3, (-312)), (4, (-49))]))] (1882, []) 52984 51 = true := by decide +kernel
theorem sn_290 {W : Bool} {X : List Int32} : y_Snd (mGw W) mLT1 (J2 W X) X cx_290 := y_ok J2_J mTS2_ok1 mTC2_ok1 mRUp_ok1 (List.forall_mem_cons.mpr ⟨sn_254, List.forall_mem_cons.mpr ⟨sn_142, List.forall_mem_cons.mpr ⟨sn_289, fun _ h => absurd h List.not_mem_nil⟩⟩⟩) ck_290
/-- Planner.lookAt -/
def cx_291 : zCtx := (67, ([ui0, ui844], [ur1065, ur1199], [], [], [uV2, uV420], [uF1071], []), [([ui0, ui844, ui844], [ur1065, ur1199], [], [], [], [uF1094], [])], [uk1092, uk539, uk529, uk1093, uk1098, uk1069], 54876, 4, 138)
set_option maxRecDepth 1000000 in
theorem ck_291 : x_ok mLT1 [cx_287, cx_290] mTS2 mTC2 mRUp cx_291 [(2, [0]), (12, [1])] [] [] (10, []) 54866 13 = true := by decide +kernel
theorem sn_291 {W : Bool} {X : List Int32} : y_Snd (mGw W) mLT1 (J2 W X) X cx_291 := y_ok J2_J mTS2_ok1 mTC2_ok1 mRUp_ok1 (List.forall_mem_cons.mpr ⟨sn_287, List.forall_mem_cons.mpr ⟨sn_290, fun _ h => absurd h List.not_mem_nil⟩⟩) ck_291
/-- Rules.lawOf -/
def cx_292 : zCtx := (87, ([ui0, (0, 5)], [ur443, ur1199], [], [], [uV2, uV62, uV420, uV11], [], []), [([ui0, (0, 5), ui524], [ur443, ur1199], [], [], [uV12], [], [])], [uk539, uk529], 52968, 2, 87)
set_option maxRecDepth 1000000 in
theorem ck_292 : x_ok mLT1 [cx_285, cx_288, cx_136] mTS2 mTC2 mRUp cx_292 [(5, [0]), (8, [1]), (26, [2])] [] [] (19, []) 52949 22 = true := by decide +kernel
theorem sn_292 {W : Bool} {X : List Int32} : y_Snd (mGw W) mLT1 (J2 W X) X cx_292 := y_ok J2_J mTS2_ok1 mTC2_ok1 mRUp_ok1 (List.forall_mem_cons.mpr ⟨sn_285, List.forall_mem_cons.mpr ⟨sn_288, List.forall_mem_cons.mpr ⟨sn_136, fun _ h => absurd h List.not_mem_nil⟩⟩⟩) ck_292
/-- Rules.lawOf -/
def cx_293 : zCtx := (87, ([ui0, (0, 5)], [ur443, ur1199], [], [], [uV2, uV64, uV420, uV11], [], []), [([ui0, (0, 5), ui524], [ur443, ur1199], [], [], [uV12], [], [])], [uk539, uk529], 52968, 2, 87)
set_option maxRecDepth 1000000 in
theorem ck_293 : x_ok mLT1 [cx_285, cx_288, cx_136] mTS2 mTC2 mRUp cx_293 [(5, [0]), (8, [1]), (26, [2])] [] [] (19, []) 52949 22 = true := by decide +kernel
theorem sn_293 {W : Bool} {X : List Int32} : y_Snd (mGw W) mLT1 (J2 W X) X cx_293 := y_ok J2_J mTS2_ok1 mTC2_ok1 mRUp_ok1 (List.forall_mem_cons.mpr ⟨sn_285, List.forall_mem_cons.mpr ⟨sn_288, List.forall_mem_cons.mpr ⟨sn_136, fun _ h => absurd h List.not_mem_nil⟩⟩⟩) ck_293
/-- Rules.ageHouse -/
def cx_294 : zCtx := (95, ([ui0, (0, 5), ui49, ui49], [ur443, ur1199], [], [], [uV2, uV420, uV11, uV12, uV58], [], []), [([ui0, (0, 5), ui49, ui49], [ur443, ur1199], [], [], [], [], [])], [uk539, uk529, uk1200, uk1201], 53026, 3, 110)
set_option maxRecDepth 1000000 in
theorem ck_294 : x_ok mLT1 [cx_285, cx_292, cx_293, cx_202] mTS2 mTC2 mRUp cx_294 [(13, [0]), (22, [1]), (36, [2]), (73, [3])] [] [] (58, []) 52968 61 = true := by decide +kernel
theorem sn_294 {W : Bool} {X : List Int32} : y_Snd (mGw W) mLT1 (J2 W X) X cx_294 := y_ok J2_J mTS2_ok1 mTC2_ok1 mRUp_ok1 (List.forall_mem_cons.mpr ⟨sn_285, List.forall_mem_cons.mpr ⟨sn_292, List.forall_mem_cons.mpr ⟨sn_293, List.forall_mem_cons.mpr ⟨sn_202, fun _ h => absurd h List.not_mem_nil⟩⟩⟩⟩) ck_294
/-- Rules.ageAll -/
def cx_295 : zCtx := (94, ([ui0, (0, 0), (0, 0)], [ur443, ur1199], [], [], [uV2, uV420, uV11, uV12], [], []), [([ui0, (0, 0), (0, 0), ui49], [ur443, ur1199], [], [], [], [uF1202], [])], [uk539, uk529, (106, false, 7), uk1200, uk1201], 53125, 4, 137)
set_option maxRecDepth 1000000 in
theorem ck_295 : x_ok mLT1 [cx_294] mTS2 mTC2 mRUp cx_295 [(21, [0])] [] [(3, ([(0, 3072), (0, 0), (0, 0), (0, 6)], [(5, false), (106, false)], [], [(2, 0, 0, []), (2, 1, 0, []), (0, 0, 0, [(1, 1)]), (0, 0, 0, [(2, 1)]), (0, 0, 0, [(3, 1)])], [], [], []), (96, [(1, (-100000000000)), (2, (-100000000000)), (3, (-14))]))] (99, []) 53026 16 = true := by decide +kernel
theorem sn_295 {W : Bool} {X : List Int32} : y_Snd (mGw W) mLT1 (J2 W X) X cx_295 := y_ok J2_J mTS2_ok1 mTC2_ok1 mRUp_ok1 (List.forall_mem_cons.mpr ⟨sn_294, fun _ h => absurd h List.not_mem_nil⟩) ck_295
/-- Forecast.yearsUntilHeld -/
def cx_296 : zCtx := (24, ([ui0, ui584], [ur1203, ur1065, ur432], [], [], [uV2, uV420, uV756, uV11], [], []), [([ui0, ui584, ui1204], [ur1203, ur1065, ur432], [], [], [uV12], [], []), ([ui0, ui584], [ur1203, ur1065, ur432], [], [], [uV567], [], [])], kc_59, 56337, 5, 161)
def cz_296_0r_0 (t : List (Nat × Bool)) : List (Nat × Bool) := ur1203 :: ur1065 :: ur432 :: ur549 :: ur548 :: ur547 :: ur427 :: ur433 :: t
def cz_296_0r_1 (t : List (Nat × Bool)) : List (Nat × Bool) := ur1199 :: t
def cz_296_0f_0 (t : List zFa) : List zFa := uF541 :: (2, (false, 3, 0, []), 2, 4, 0, []) :: uF46 :: (2, (false, 1, 0, []), 2, 6, 0, []) :: (2, (false, 0, 0, []), 2, 7, 0, []) :: (2, (false, 8, 0, []), 0, 0, 0, [(3, 1)]) :: uF173 :: uF154 :: t
def cz_296_0f_1 (t : List zFa) : List zFa := uF1147 :: (0, (false, 1, 0, []), 2, 8, 0, []) :: (8, (false, 5, 0, []), 0, 0, 0, [(6, 1)]) :: (8, (false, 6, 0, []), 0, 0, 0, [(5, 1)]) :: (8, (false, 7, 0, []), 0, 0, 0, [(7, 1)]) :: (8, (false, 8, 0, []), 0, 0, 0, [(3, 1)]) :: t
def cz_296_0 : zS := ([ui0, ui584, ui844, ui49, ui49, (0, 6), (0, 6), ui49], (cz_296_0r_0 (cz_296_0r_1 [])), [], [uV2, uV420, uV756, uV11, uV12], [], (cz_296_0f_0 (cz_296_0f_1 [])), [])
set_option maxRecDepth 1000000 in
theorem ck_296 : x_ok mLT1 [cx_284, cx_291, cx_280, cx_295] mTS2 mTC2 mRUp cx_296 [(5, [0]), (23, [1]), (28, [2]), (51, [3])] [] [(11, cz_296_0, (1454, [(2, (-23))]))] (1461, []) 54876 25 = true := by decide +kernel
theorem sn_296 {W : Bool} {X : List Int32} : y_Snd (mGw W) mLT1 (J2 W X) X cx_296 := y_ok J2_J mTS2_ok1 mTC2_ok1 mRUp_ok1 (List.forall_mem_cons.mpr ⟨sn_284, List.forall_mem_cons.mpr ⟨sn_291, List.forall_mem_cons.mpr ⟨sn_280, List.forall_mem_cons.mpr ⟨sn_295, fun _ h => absurd h List.not_mem_nil⟩⟩⟩⟩) ck_296
/-- HairRope.soon -/
def cx_297 : zCtx := (163, ([ui0, ui49], [ur442], [], [], [uV2, uV11], [], []), [([ui0, ui262], [ur442], [], [], [uV61], [], []), ([ui0, ui799], [ur442], [], [], [uV61], [], []), ([ui0, ui584], [ur442], [], [], [uV567], [], []), ([ui0, ui584, ui1204], [ur442], [], [], [uV12], [], [])], kc_59, 56350, 6, 185)
set_option maxRecDepth 1000000 in
theorem ck_297 : x_ok mLT1 [cx_195, cx_296] mTS2 mTC2 mRUp cx_297 [(1, [0]), (20, [1])] [] [] (13, []) 56337 16 = true := by decide +kernel
theorem sn_297 {W : Bool} {X : List Int32} : y_Snd (mGw W) mLT1 (J2 W X) X cx_297 := y_ok J2_J mTS2_ok1 mTC2_ok1 mRUp_ok1 (List.forall_mem_cons.mpr ⟨sn_195, List.forall_mem_cons.mpr ⟨sn_296, fun _ h => absurd h List.not_mem_nil⟩⟩) ck_297
/-- Planner.findJoins -/
def cx_298 : zCtx := (70, ([ui0, (1, 1), ui844], [ur1065, ur432, ur1205], [], [], [uV2, uV420, uV756, uV11], [uF1094], []), [([ui0, (1, 1), ui844], [ur1065, ur432, ur1205], [], [], [], [], [])], [uk539, uk529, uk1206], 54722, 3, 111)
set_option maxRecDepth 1000000 in
theorem ck_298 : x_ok mLT1 [cx_254, cx_272] mTS2 mTC2 mRUp cx_298 [(56, [0]), (65, [0]), (117, [1])] [] [(3, ([(0, 3072), (1, 1), (0, 63), (0, 6)], [(9, false), (6, false), (36, false)], [], [(2, 0, 0, []), (2, 1, 0, []), (2, 2, 0, []), (0, 0, 0, [(1, 1)]), (0, 0, 0, [(3, 1)]), (5, 0, 0, []), (5, 0, 0, []), (5, 0, 0, [])], [], [(0, (false, 10, 0, []), 0, 0, 0, [(2, 1)])], []), ((-99999998265), [(1, 100000000000), (3, (-288))])), (21, ([(0, 3072), (1, 1), (0, 63), (0, 5), (0, 6), (1, 6)], [(9, false), (6, false), (36, false), (5, false), (2, false)], [], [(2, 0, 0, []), (2, 1, 0, []), (2, 2, 0, []), (0, 0, 0, [(1, 1)]), (0, 0, 0, [(3, 1)]), (0, 0, 0, [(4, 1)]), (5, 0, 0, []), (5, 0, 0, [])], [], [(0, (false, 0, 0, []), 2, 3, 0, []), (0, (false, 10, 0, []), 0, 0, 0, [(2, 1)]), (3, (false, 3, 0, []), 2, 4, 0, []), (4, (false, 5, 0, []), 0, 0, 0, [(5, 1)])], []), ((-99999998274), [(1, 100000000000), (3, (-288)), (4, (-45))]))] (1738, []) 52984 47 = true := by decide +kernel
theorem sn_298 {W : Bool} {X : List Int32} : y_Snd (mGw W) mLT1 (J2 W X) X cx_298 := y_ok J2_J mTS2_ok1 mTC2_ok1 mRUp_ok1 (List.forall_mem_cons.mpr ⟨sn_254, List.forall_mem_cons.mpr ⟨sn_272, fun _ h => absurd h List.not_mem_nil⟩⟩) ck_298
/-- Planner.isPair -/
def cx_299 : zCtx := (81, ([ui0, ui439, ui844], [ur1065], [], [], [uV2, uV11], [uF1094], []), [([ui0, ui439, ui844], [ur1065], [], [], [uV62], [], []), ([ui0, ui439, ui844], [ur1065], [], [], [uV64], [], [])], [], 32, 1, 21)
set_option maxRecDepth 1000000 in
theorem ck_299 : x_ok mLT1 [cx_254] mTS2 mTC2 mRUp cx_299 [(17, [0]), (25, [0])] [] [] (22, []) 10 25 = true := by decide +kernel
theorem sn_299 {W : Bool} {X : List Int32} : y_Snd (mGw W) mLT1 (J2 W X) X cx_299 := y_ok J2_J mTS2_ok1 mTC2_ok1 mRUp_ok1 (List.forall_mem_cons.mpr ⟨sn_254, fun _ h => absurd h List.not_mem_nil⟩) ck_299
/-- Planner.exchangeJoin -/
def cx_300 : zCtx := (84, ([ui0, ui439], [ur1065], [], [], [uV2, uV11], [], []), [([ui0, ui1207], [ur1065], [], [], [], [], []), ([ui0, ui1208], [ur1065], [], [], [], [], [])], [uk1098, uk1206], 31, 0, 0)
set_option maxRecDepth 1000000 in
theorem ck_300 : x_ok mLT1 [] mTS2 mTC2 mRUp cx_300 [] [] [] (31, []) 0 34 = true := by decide +kernel
theorem sn_300 {W : Bool} {X : List Int32} : y_Snd (mGw W) mLT1 (J2 W X) X cx_300 := y_ok J2_J mTS2_ok1 mTC2_ok1 mRUp_ok1 (fun _ h => absurd h List.not_mem_nil) ck_300
/-- Planner.exchangePair -/
def cx_301 : zCtx := (83, ([ui0, ui439], [ur1065], [], [], [uV2, uV11], [], []), [([ui0, ui1208], [ur1065], [], [], [], [], []), ([ui0, ui1207], [ur1065], [], [], [], [], [])], [uk1098, uk1206], 46, 1, 22)
set_option maxRecDepth 1000000 in
theorem ck_301 : x_ok mLT1 [cx_300] mTS2 mTC2 mRUp cx_301 [(2, [0]), (18, [0])] [] [] (15, []) 31 18 = true := by decide +kernel
theorem sn_301 {W : Bool} {X : List Int32} : y_Snd (mGw W) mLT1 (J2 W X) X cx_301 := y_ok J2_J mTS2_ok1 mTC2_ok1 mRUp_ok1 (List.forall_mem_cons.mpr ⟨sn_300, fun _ h => absurd h List.not_mem_nil⟩) ck_301
/-- Planner.holdsWith -/
def cx_302 : zCtx := (82, ([ui0, ui439, ui1207, ui584, ui584, ui844, ui1209, ui1190, ui844], [ur1065], [], [], [uV2, uV11, uV12, uV58], [uF139, uF1210, uF1191, uF1192, uF1193], []), [([ui0, ui1207, ui1207, ui584, ui584, ui844, ui1209, ui1190, ui844, ui844, ui1190, ui505], [ur1065], [], [], [uV64], [uF1211, uF1212, uF1213, uF40], []), ([ui0, ui1207, ui1207, ui584, ui584, ui844, ui1209, ui1190, ui844, ui844, ui1190, ui1209], [ur1065], [], [], [uV62], [uF1211, uF1212, uF1213, uF40], []), ([ui0, ui1208, ui1207, ui584, ui584, ui844, ui1209, ui1190, ui844, ui844, ui1190, ui505], [ur1065], [uL506], [], [uV64], [uF1211, uF1212, uF1213, uF40], []), ([ui0, ui1208, ui1207, ui584, ui584, ui844, ui1209, ui1190, ui844, ui844, ui1190, ui1209], [ur1065], [uL506], [], [uV62], [uF1211, uF1212, uF1213, uF40], [])], kc_60, 1643, 5, 161)
set_option maxRecDepth 1000000 in
theorem ck_302 : x_ok mLT1 [cx_301, cx_280] mTS2 mTC2 mRUp cx_302 [(2, [0]), (12, [0]), (17, [1]), (36, [0]), (46, [0])] [] [] (29, []) 1614 32 = true := by decide +kernel
theorem sn_302 {W : Bool} {X : List Int32} : y_Snd (mGw W) mLT1 (J2 W X) X cx_302 := y_ok J2_J mTS2_ok1 mTC2_ok1 mRUp_ok1 (List.forall_mem_cons.mpr ⟨sn_301, List.forall_mem_cons.mpr ⟨sn_280, fun _ h => absurd h List.not_mem_nil⟩⟩) ck_302
/-- Planner.peaceAnswer -/
def cx_303 : zCtx := (85, ([ui0, (1, 2), ui439, ui1214, (0, 2)], [], [], [], [uV11, uV12, uV58, uV97], [], []), [([ui0, (1, 2), ui439, ui1214, (0, 0)], [], [], [], [uV11], [], []), ([ui0, (1, 2), ui439, ui1214, (1, 1), ui1215], [], [], [], [uV75], [], []), ([ui0, (1, 2), ui439, ui124, (2, 2)], [], [], [], [uV61], [], []), ([ui0, (1, 2), ui439, ui1207, (2, 2), ui1216], [], [], [], [uV75], [], [])], [], 20, 0, 0)
set_option maxRecDepth 1000000 in
theorem ck_303 : x_ok mLT1 [] mTS2 mTC2 mRUp cx_303 [] [] [] (20, []) 0 23 = true := by decide +kernel
theorem sn_303 {W : Bool} {X : List Int32} : y_Snd (mGw W) mLT1 (J2 W X) X cx_303 := y_ok J2_J mTS2_ok1 mTC2_ok1 mRUp_ok1 (fun _ h => absurd h List.not_mem_nil) ck_303
/-- Planner.makePeace -/
def cx_304 : zCtx := (80, ([ui0, ui584, (0, 2), ui49, ui844, ui49, ui49, ui49], [ur1065, ur432], [], [], [uV2, uV420, uV11, uV12], [uF40, uF1217, (0, (false, 11, 0, []), 0, 0, 0, [(5, 1)]), (0, (false, 12, 0, []), 0, 0, 0, [(6, 1)]), uF1194], []), [([ui0, ui584, (0, 0), ui49, ui844, ui49, ui49, ui49, ui844, ui1190, ui505], [ur1065, ur432], [], [], [uV62], [uF1193, uF1218, uF1139, uF1174], []), ([ui0, ui584, (1, 2), ui49, ui844, ui49, ui49, ui49, ui844, ui1190, ui505], [ur1065, ur432], [], [], [uV61], [uF1193, uF1218, uF1139, uF1174], []), ([ui0, ui584, (1, 1), ui49, ui844, ui49, ui49, ui49, ui1215, ui844, ui1190, ui505], [ur1065, ur432], [], [], [uV144], [uF1211, uF1212, uF1213, uF1174], []), ([ui0, ui584, (0, 0), ui49, ui844, ui49, ui49, ui49, ui844, ui1190, ui505], [ur1065, ur432], [], [], [uV64], [uF1193, uF1218, uF1139, uF1174], []), ([ui0, ui584, (0, 2), ui49, ui844, ui49, ui49, ui49, ui844, ui1190, ui1209], [ur1065, ur432], [], [], [uV567], [uF1193, uF1218, uF1139, uF1174], []), ([ui0, ui584, (2, 2), ui49, ui844, ui49, ui49, ui49, ui1216, ui844, ui1190, ui505], [ur1065, ur432], [], [], [uV144], [uF1211, uF1212, uF1213, uF1174], []), ([ui0, ui584, (0, 0), ui49, ui844, ui49, ui49, ui49, ui844, ui1190, ui505], [ur1065, ur432], [], [], [uV389], [uF1193, uF1218, uF1139, uF1174], [])], kc_61, 87944, 6, 185)
set_option maxRecDepth 1000000 in
theorem ck_304 : x_ok mLT1 [cx_280, cx_298, cx_299, cx_302, cx_303] mTS2 mTC2 mRUp cx_304 [(2, [0]), (29, [1]), (49, [2]), (61, [3]), (72, [4]), (108, [2]), (117, [2]), (129, [3]), (141, [4])] [] [(39, ([(0, 3072), (0, 999), (0, 2), ((-2147483648), 2147483647), (0, 63), ((-2147483648), 2147483647), ((-2147483648), 2147483647), ((-2147483648), 2147483647), (0, 40), (0, 63), ((-2), 2147483647), ((-2147483648), 0)], [(9, false), (6, false), (36, false)], [], [(2, 0, 0, []), (2, 1, 0, []), (0, 0, 0, [(1, 1)]), (0, 0, 0, [(2, 1)]), (0, 0, 36, []), (0, 0, 0, [(8, 1)]), (5, 0, 0, [])], [], [(0, (false, 3, 0, []), 2, 2, 0, []), (0, (false, 14, 0, []), 0, 0, 0, [(9, 1)]), (0, (false, 12, 0, []), 0, 0, 0, [(10, 1)]), (0, (false, 11, 0, []), 0, 0, 0, [(11, 1)]), (0, (false, 7, 0, []), 0, 0, 0, [(1, 1)]), (0, (false, 10, 0, []), 0, 0, 0, [(4, 1)])], []), (33205, [(8, (-16))])), (85, ([(0, 3072), (0, 999), (0, 2), ((-2147483648), 2147483647), (0, 63), ((-2147483648), 2147483647), ((-2147483648), 2147483647), ((-2147483648), 2147483647), (0, 41), (0, 63), ((-2), 2147483647), ((-2147483648), 0)], [(9, false), (6, false), (36, false)], [], [(2, 0, 0, []), (2, 1, 0, []), (0, 0, 0, [(1, 1)]), (0, 0, 0, [(2, 1)]), (0, 0, 36, []), (0, 0, 0, [(8, 1)]), (5, 0, 0, [])], [], [(0, (false, 3, 0, []), 2, 2, 0, []), (0, (false, 14, 0, []), 0, 0, 0, [(9, 1)]), (0, (false, 12, 0, []), 0, 0, 0, [(10, 1)]), (0, (false, 11, 0, []), 0, 0, 0, [(11, 1)]), (0, (false, 7, 0, []), 0, 0, 0, [(1, 1)]), (0, (false, 10, 0, []), 0, 0, 0, [(4, 1)])], []), (32559, [(8, (-794))])), (98, ([(0, 3072), (0, 999), (0, 2), ((-2147483648), 2147483647), (0, 63), ((-2147483648), 2147483647), ((-2147483648), 2147483647), ((-2147483648), 2147483647), (0, 40), (1, 40), (0, 63), ((-2), 2147483647), ((-2147483648), 0)], [(9, false), (6, false), (36, false)], [], [(2, 0, 0, []), (2, 1, 0, []), (0, 0, 0, [(1, 1)]), (0, 0, 0, [(2, 1)]), (0, 0, 36, []), (0, 0, 0, [(8, 1)]), (0, 0, 0, [(9, 1)])], [], [(0, (false, 3, 0, []), 2, 2, 0, []), (0, (false, 14, 0, []), 0, 0, 0, [(10, 1)]), (0, (false, 12, 0, []), 0, 0, 0, [(11, 1)]), (0, (false, 11, 0, []), 0, 0, 0, [(12, 1)]), (0, (false, 7, 0, []), 0, 0, 0, [(1, 1)]), (0, (false, 10, 0, []), 0, 0, 0, [(4, 1)])], []), (32571, [(8, (-774)), (9, (-20))]))] (33222, []) 54722 26 = true := by decide +kernel
theorem sn_304 {W : Bool} {X : List Int32} : y_Snd (mGw W) mLT1 (J2 W X) X cx_304 := y_ok J2_J mTS2_ok1 mTC2_ok1 mRUp_ok1 (List.forall_mem_cons.mpr ⟨sn_280, List.forall_mem_cons.mpr ⟨sn_298, List.forall_mem_cons.mpr ⟨sn_299, List.forall_mem_cons.mpr ⟨sn_302, List.forall_mem_cons.mpr ⟨sn_303, fun _ h => absurd h List.not_mem_nil⟩⟩⟩⟩⟩) ck_304
/-- HairRope.peace -/
def cx_305 : zCtx := (164, ([ui0, ui49, ui49], [ur442], [], [], [uV2, uV11, uV12], [], []), [([ui0, ui49, ui49], [ur442], [], [], [uV61], [], []), ([ui0, ui584, (0, 0)], [ur442], [], [], [uV389], [], []), ([ui0, ui584, (1, 2), ui1215], [ur442], [], [], [uV58], [], []), ([ui0, ui584, (0, 2)], [ur442], [], [], [uV567], [], []), ([ui0, ui584, (0, 0)], [ur442], [], [], [uV64], [], []), ([ui0, ui584, (0, 0)], [ur442], [], [], [uV62], [], [])], kc_62, 87965, 7, 211)
set_option maxRecDepth 1000000 in
theorem ck_305 : x_ok mLT1 [cx_195, cx_274, cx_304] mTS2 mTC2 mRUp cx_305 [(1, [0]), (26, [1]), (39, [2])] [] [] (21, []) 87944 24 = true := by decide +kernel
theorem sn_305 {W : Bool} {X : List Int32} : y_Snd (mGw W) mLT1 (J2 W X) X cx_305 := y_ok J2_J mTS2_ok1 mTC2_ok1 mRUp_ok1 (List.forall_mem_cons.mpr ⟨sn_195, List.forall_mem_cons.mpr ⟨sn_274, List.forall_mem_cons.mpr ⟨sn_304, fun _ h => absurd h List.not_mem_nil⟩⟩⟩) ck_305
/-- Rules.lawOf -/
def cx_306 : zCtx := (87, ([ui0, (0, 5)], [ur443, ur432], [], [], [uV2, uV385, uV420, uV11], [], []), [([ui0, (0, 5), ui524], [ur443, ur432], [], [], [uV12], [], [])], [uk539, uk529], 52968, 2, 87)
set_option maxRecDepth 1000000 in
theorem ck_306 : x_ok mLT1 [cx_267, cx_271, cx_136] mTS2 mTC2 mRUp cx_306 [(5, [0]), (8, [1]), (26, [2])] [] [] (19, []) 52949 22 = true := by decide +kernel
theorem sn_306 {W : Bool} {X : List Int32} : y_Snd (mGw W) mLT1 (J2 W X) X cx_306 := y_ok J2_J mTS2_ok1 mTC2_ok1 mRUp_ok1 (List.forall_mem_cons.mpr ⟨sn_267, List.forall_mem_cons.mpr ⟨sn_271, List.forall_mem_cons.mpr ⟨sn_136, fun _ h => absurd h List.not_mem_nil⟩⟩⟩) ck_306
/-- Giving.lookAt -/
def cx_307 : zCtx := (33, ([ui0], [ur1219, ur432], [], [], [uV2, uV420], [], []), [([ui0], [ur1219, ur432], [], [], [], [], [])], [uk1092, uk539, uk529, uk1093, uk1069, uk1220], 53144, 3, 110)
set_option maxRecDepth 1000000 in
theorem ck_307 : x_ok mLT1 [cx_270, cx_267, cx_306] mTS2 mTC2 mRUp cx_307 [(5, [0]), (37, [1]), (50, [2])] [] [(10, ([(0, 3072), (0, 6), (0, 63)], [(10, false), (6, false), (9, false)], [], [(2, 0, 0, []), (2, 1, 0, []), (0, 0, 0, [(1, 1)])], [], [(0, (false, 1, 0, []), 2, 2, 0, []), (2, (false, 10, 0, []), 0, 0, 0, [(2, 1)])], []), (169, [(1, (-27))]))] (176, []) 52968 29 = true := by decide +kernel
theorem sn_307 {W : Bool} {X : List Int32} : y_Snd (mGw W) mLT1 (J2 W X) X cx_307 := y_ok J2_J mTS2_ok1 mTC2_ok1 mRUp_ok1 (List.forall_mem_cons.mpr ⟨sn_270, List.forall_mem_cons.mpr ⟨sn_267, List.forall_mem_cons.mpr ⟨sn_306, fun _ h => absurd h List.not_mem_nil⟩⟩⟩) ck_307
/-- Giving.gain -/
def cx_308 : zCtx := (36, ([ui0, ui844, (0, 5)], [ur1219], [], [], [uV2, uV11, uV12], [], []), [([ui0, ui844, (0, 5), ui49], [ur1219], [], [], [uV58], [], [])], [], 52, 1, 21)
set_option maxRecDepth 1000000 in
theorem ck_308 : x_ok mLT1 [cx_277] mTS2 mTC2 mRUp cx_308 [(5, [0])] [] [] (35, []) 17 38 = true := by decide +kernel
theorem sn_308 {W : Bool} {X : List Int32} : y_Snd (mGw W) mLT1 (J2 W X) X cx_308 := y_ok J2_J mTS2_ok1 mTC2_ok1 mRUp_ok1 (List.forall_mem_cons.mpr ⟨sn_277, fun _ h => absurd h List.not_mem_nil⟩) ck_308
/-- Giving.isRest -/
def cx_309 : zCtx := (35, ([ui0, ui844], [ur1219], [], [], [uV2, uV11], [], []), [([ui0, ui844], [ur1219], [], [], [uV62], [], []), ([ui0, ui844], [ur1219], [], [], [uV64], [], [])], [], 222, 2, 45)
set_option maxRecDepth 1000000 in
theorem ck_309 : x_ok mLT1 [cx_308] mTS2 mTC2 mRUp cx_309 [(29, [0]), (35, [0])] [] [(2, ([(0, 3072), (0, 63), (0, 6)], [(10, false)], [], [(2, 0, 0, []), (0, 0, 0, [(1, 1)]), (0, 0, 0, [(2, 1)]), (5, 0, 0, [])], [], [], []), (167, [(2, (-27))]))] (170, []) 52 29 = true := by decide +kernel
theorem sn_309 {W : Bool} {X : List Int32} : y_Snd (mGw W) mLT1 (J2 W X) X cx_309 := y_ok J2_J mTS2_ok1 mTC2_ok1 mRUp_ok1 (List.forall_mem_cons.mpr ⟨sn_308, fun _ h => absurd h List.not_mem_nil⟩) ck_309
/-- Giving.findRests -/
def cx_310 : zCtx := (34, ([ui0], [ur1219], [], [], [uV2], [], []), [([ui0], [ur1219], [], [], [], [], [])], [(10, false, 3), (10, false, 4)], 2539, 3, 68)
set_option maxRecDepth 1000000 in
theorem ck_310 : x_ok mLT1 [cx_309, cx_257] mTS2 mTC2 mRUp cx_310 [(35, [0]), (49, [1]), (56, [1])] [] [(13, ([(0, 3072), (0, 64)], [(10, false)], [], [(2, 0, 0, []), (0, 0, 0, [(1, 1)])], [], [], []), (2308, [(1, (-36))]))] (2317, []) 222 38 = true := by decide +kernel
theorem sn_310 {W : Bool} {X : List Int32} : y_Snd (mGw W) mLT1 (J2 W X) X cx_310 := y_ok J2_J mTS2_ok1 mTC2_ok1 mRUp_ok1 (List.forall_mem_cons.mpr ⟨sn_309, List.forall_mem_cons.mpr ⟨sn_257, fun _ h => absurd h List.not_mem_nil⟩⟩) ck_310
/-- HairRope.rests -/
def cx_311 : zCtx := (165, ([ui0, ui49], [ur442], [], [], [uV2, uV11], [], []), [([ui0, ui1063], [ur442], [], [], [uV61], [], []), ([ui0, (0, 0), ui49], [ur442], [], [], [uV12], [], []), ([ui0, (1, 1), ui49], [ur442], [], [], [uV12], [], []), ([ui0, ui262], [ur442], [], [], [uV61], [], [])], kc_63, 53164, 4, 132)
set_option maxRecDepth 1000000 in
theorem ck_311 : x_ok mLT1 [cx_307, cx_310] mTS2 mTC2 mRUp cx_311 [(19, [0]), (26, [1])] [] [] (20, []) 53144 23 = true := by decide +kernel
theorem sn_311 {W : Bool} {X : List Int32} : y_Snd (mGw W) mLT1 (J2 W X) X cx_311 := y_ok J2_J mTS2_ok1 mTC2_ok1 mRUp_ok1 (List.forall_mem_cons.mpr ⟨sn_307, List.forall_mem_cons.mpr ⟨sn_310, fun _ h => absurd h List.not_mem_nil⟩⟩) ck_311
def cx_312pr_0 (t : List (Nat × Bool)) : List (Nat × Bool) := ur1219 :: ur432 :: ur443 :: ur444 :: ur1065 :: ur433 :: ur427 :: ur547 :: t
def cx_312pr_1 (t : List (Nat × Bool)) : List (Nat × Bool) := ur548 :: ur549 :: ur546 :: ur1066 :: ur1070 :: (41, false) :: ur523 :: t
def cx_312pf_0 (t : List zFa) : List zFa := uF151 :: uF447 :: uF1221 :: uF431 :: uF1222 :: uF1049 :: uF597 :: uF1202 :: t
def cx_312pf_1 (t : List zFa) : List zFa := uF1223 :: uF830 :: uF1100 :: uF231 :: uF232 :: uF1101 :: uF1102 :: uF1224 :: t
def cx_312pf_2 (t : List zFa) : List zFa := uF1096 :: uF1225 :: uF1226 :: t
def cx_312p : zS := ((cx_192pi_0 (cx_192pi_1 [])), (cx_312pr_0 (cx_312pr_1 [])), [uL1227], [], [uV2, uV420], (cx_312pf_0 (cx_312pf_1 (cx_312pf_2 []))), [uG1228])
def cx_312q0i_0 (t : List (Int × Int)) : List (Int × Int) := ui0 :: (0, 6) :: (0, 6) :: ui49 :: ui49 :: ui49 :: ui49 :: ui49 :: t
def cx_312q0i_1 (t : List (Int × Int)) : List (Int × Int) := ui49 :: ui49 :: ui49 :: ui49 :: ui844 :: ui1085 :: t
def cx_312q0g_0 (t : List zTg) : List zTg := uG1228 :: (277, [uL104, uL78, uL79, uL131, uL164, uL170, uL195, uL207]) :: (104, [uL65, uL9, uL207]) :: (238, [uL1088, uL104, uL78, uL79, uL131, uL164, uL170, uL195, uL9, uL63, uL214]) :: (238, [uL1088, uL104, uL78, uL79, uL131, uL164, uL170, uL195, uL252, uL63, uL214]) :: t
def cx_312q0 : zS := ((cx_312q0i_0 (cx_312q0i_1 [])), (cx_312pr_0 (cx_312pr_1 [])), [], [], [], [(4, (false, 10, 0, []), 0, 0, 0, [(12, 1)])], (cx_312q0g_0 []))
/-- Giving.lookAt -/
def cx_312 : zCtx := (33, cx_312p, [cx_312q0], [uk1092, uk539, uk529, uk1093, uk1069, uk1220], 53144, 3, 110)
def cz_312_0i_0 (t : List (Int × Int)) : List (Int × Int) := ui0 :: (0, 6) :: (0, 6) :: ui49 :: ui49 :: ui49 :: ui49 :: ui49 :: t
def cz_312_0i_1 (t : List (Int × Int)) : List (Int × Int) := ui49 :: ui49 :: ui49 :: ui49 :: (0, 6) :: ui844 :: ui1085 :: t
def cz_312_0f_0 (t : List zFa) : List zFa := (4, (false, 10, 0, []), 0, 0, 0, [(13, 1)]) :: uF151 :: uF447 :: uF1221 :: uF431 :: uF1222 :: uF1049 :: uF597 :: t
def cz_312_0f_1 (t : List zFa) : List zFa := uF1202 :: uF1223 :: uF830 :: uF1100 :: uF231 :: uF232 :: uF1101 :: uF1102 :: t
def cz_312_0f_2 (t : List zFa) : List zFa := uF1224 :: uF1096 :: uF1225 :: uF1226 :: t
def cz_312_0g_0 (t : List zTg) : List zTg := uG1228 :: (277, [uL104, uL78, uL79, uL131, uL164, uL170, uL195, uL208]) :: (104, [uL65, uL9, uL208]) :: (238, [uL1088, uL104, uL78, uL79, uL131, uL164, uL170, uL195, uL9, uL63, uL207]) :: (238, [uL1088, uL104, uL78, uL79, uL131, uL164, uL170, uL195, uL252, uL63, uL207]) :: t
def cz_312_0 : zS := ((cz_312_0i_0 (cz_312_0i_1 [])), (cx_312pr_0 (cx_312pr_1 [])), [uL1227], [uV2, uV420, uV198], [], (cz_312_0f_0 (cz_312_0f_1 (cz_312_0f_2 []))), (cz_312_0g_0 []))
set_option maxRecDepth 1000000 in
theorem ck_312 : x_ok mLT1 [cx_253, cx_131, cx_306] mTS2 mTC2 mRUp cx_312 [(5, [0]), (37, [1]), (50, [2])] [] [(10, cz_312_0, (169, [(12, (-27))]))] (176, []) 52968 29 = true := by decide +kernel
theorem sn_312 {W : Bool} {X : List Int32} : y_Snd (mGw W) mLT1 (J2 W X) X cx_312 := y_ok J2_J mTS2_ok1 mTC2_ok1 mRUp_ok1 (List.forall_mem_cons.mpr ⟨sn_253, List.forall_mem_cons.mpr ⟨sn_131, List.forall_mem_cons.mpr ⟨sn_306, fun _ h => absurd h List.not_mem_nil⟩⟩⟩) ck_312
def cx_313pi_0 (t : List (Int × Int)) : List (Int × Int) := ui0 :: (0, 6) :: ui49 :: ui49 :: ui49 :: ui49 :: ui49 :: ui49 :: t
def cx_313pi_1 (t : List (Int × Int)) : List (Int × Int) := ui49 :: ui49 :: ui1085 :: ui844 :: t
def cx_313pg_0 (t : List zTg) : List zTg := uG1229 :: uG1230 :: uG1231 :: uG1232 :: t
def cx_313p : zS := ((cx_313pi_0 (cx_313pi_1 [])), [ur1219, ur443, ur444, ur1065, ur1066], [uL1227], [], [uV2], [uF21, uF509, uF1233, uF536, uF1234, uF1235, uF1236, uF1237], (cx_313pg_0 []))
/-- Giving.pivotBits -/
def cx_313 : zCtx := (37, cx_313p, [([ui0, (0, 6), ui49, ui49, ui49, ui49, ui49, ui49, ui49, ui49, ui1085, ui844, ui49], [ur1219, ur443, ur444, ur1065, ur1066], [], [], [uV198], [], [(238, [uL1238, uL23, uL98, uL104, uL78, uL79, uL131, uL164, uL67, uL9, uL214])])], [], 216, 1, 21)
def cz_313_0i_0 (t : List (Int × Int)) : List (Int × Int) := ui0 :: (0, 6) :: ui49 :: ui49 :: ui49 :: ui49 :: ui49 :: ui49 :: t
def cz_313_0i_1 (t : List (Int × Int)) : List (Int × Int) := ui49 :: ui49 :: ui1085 :: ui844 :: ui49 :: (0, 6) :: t
def cz_313_0g_0 (t : List zTg) : List zTg := uG1229 :: uG1230 :: uG1231 :: uG1232 :: (238, [uL1238, uL23, uL98, uL104, uL78, uL79, uL131, uL164, uL67, uL207, uL214]) :: t
def cz_313_0 : zS := ((cz_313_0i_0 (cz_313_0i_1 [])), [ur1219, ur443, ur444, ur1065, ur1066], [uL1239, uL1227, uL207, (0, [(1, 1), (13, (-1))]), uL195, uL1239], [uV2, uV198, uV409], [], [uF21, uF509, uF1233, uF536, uF1234, uF1235, uF1236, uF1237], (cz_313_0g_0 []))
set_option maxRecDepth 1000000 in
theorem ck_313 : x_ok mLT1 [cx_261] mTS2 mTC2 mRUp cx_313 [(41, [0])] [(0, [1001149]), (2, [1001150]), (37, [1000789]), (39, [1000717]), (40, [1000668]), (41, [1001151]), (51, [1000667]), (53, [1001152, 1001153])] [(4, cz_313_0, (194, [(13, (-31))]))] (199, []) 17 33 = true := by decide +kernel
theorem sn_313 {W : Bool} {X : List Int32} : y_Snd (mGw W) mLT1 (J2 W X) X cx_313 := y_ok J2_J mTS2_ok1 mTC2_ok1 mRUp_ok1 (List.forall_mem_cons.mpr ⟨sn_261, fun _ h => absurd h List.not_mem_nil⟩) ck_313
def cx_314pr_0 (t : List (Nat × Bool)) : List (Nat × Bool) := ur442 :: ur443 :: ur444 :: ur531 :: ur432 :: ur546 :: ur433 :: ur427 :: t
def cx_314pr_1 (t : List (Nat × Bool)) : List (Nat × Bool) := ur547 :: ur548 :: ur549 :: ur523 :: ur1219 :: ur1065 :: t
def cx_314pf_0 (t : List zFa) : List zFa := uF13 :: uF509 :: uF541 :: uF784 :: uF305 :: uF551 :: uF785 :: uF786 :: t
def cx_314pf_1 (t : List zFa) : List zFa := uF787 :: uF788 :: uF158 :: uF556 :: uF557 :: uF558 :: uF559 :: uF560 :: t
def cx_314pf_2 (t : List zFa) : List zFa := uF561 :: uF155 :: (0, (false, 7, 0, []), 2, 12, 0, []) :: (12, (false, 0, 0, []), 2, 1, 0, []) :: (12, (false, 1, 0, []), 2, 13, 0, []) :: uF1180 :: t
def cx_314p : zS := ([ui0, ui31, (0, 6), (0, 6), ui49, ui49, ui49], (cx_314pr_0 (cx_314pr_1 [])), [], [], [uV2], (cx_314pf_0 (cx_314pf_1 (cx_314pf_2 []))), [uG791])
def cx_314q0 : zS := ([ui0, ui31, (0, 6), (0, 6), ui49, ui49, ui49, ui49], (cx_314pr_0 (cx_314pr_1 [])), [], [], [uV142], [uF785, uF786, uF787, uF788], [uG791, (260, [uL1238, uL9, uL63, uL63, uL63, uL63, uL63, uL63, uL78, uL67, uL79])])
/-- HairRope.pivots -/
def cx_314 : zCtx := (166, cx_314p, [cx_314q0], [uk1092, uk539, uk529, uk1093, uk1069, uk1220], 53153, 4, 132)
set_option maxRecDepth 1000000 in
theorem ck_314 : x_ok mLT1 [cx_312, cx_313] mTS2 mTC2 mRUp cx_314 [(8, [0]), (15, [1])] [(8, [1000733]), (18, [1000728])] [] (9, []) 53144 12 = true := by decide +kernel
theorem sn_314 {W : Bool} {X : List Int32} : y_Snd (mGw W) mLT1 (J2 W X) X cx_314 := y_ok J2_J mTS2_ok1 mTC2_ok1 mRUp_ok1 (List.forall_mem_cons.mpr ⟨sn_312, List.forall_mem_cons.mpr ⟨sn_313, fun _ h => absurd h List.not_mem_nil⟩⟩) ck_314
def cx_315q2 : zS := ([ui0, ui49, ui31, (0, 6), (0, 6), ui49, ui49], (cx_251pr_0 (cx_251pr_1 [])), [uL9, uL514], [], [uV62], [uF598, uF599, uF600, uF601], [uG602, (260, [uL34, uL63, uL63, uL63, uL63, uL63, uL63, uL63, uL565, uL63, uL63])])
def cx_315q3i_0 (t : List (Int × Int)) : List (Int × Int) := ui0 :: ui49 :: ui31 :: (0, 6) :: (0, 6) :: ui49 :: ui49 :: ui49 :: t
def cx_315q3i_1 (t : List (Int × Int)) : List (Int × Int) := ui764 :: ui49 :: t
def cx_315q3g_0 (t : List zTg) : List zTg := uG602 :: uG566 :: (260, [uL65, uL63, uL63, uL63, uL63, uL63, uL63, uL63, uL63, uL98, uL164]) :: (107, [(0, [(8, 1000)]), uL164, uL79]) :: t
def cx_315q3 : zS := ((cx_315q3i_0 (cx_315q3i_1 [])), (cx_251pr_0 (cx_251pr_1 [])), [uL1059, uL9, uL514], [], [uV142], [uF598, uF599, uF600, uF601], (cx_315q3g_0 []))
/-- HairRope.share -/
def cx_315 : zCtx := (167, cx_251p, [([ui0, ui49, ui31, (0, 6), (0, 6), ui49, ui49], [ur442, ur443, ur444, ur531, ur432, ur433, ur427, ur547, ur548, ur549], [uL568], [], [uV61], [uF598, uF599, uF600, uF601], [uG602]), ([ui0, ui49, ui31, (0, 6), (0, 6), ui49, ui49], [ur442, ur443, ur444, ur531, ur432, ur433, ur427, ur547, ur548, ur549], [uL571], [], [uV61], [uF598, uF599, uF600, uF601], [uG602]), cx_315q2, cx_315q3], [], 149, 3, 107)
set_option maxRecDepth 1000000 in
theorem ck_315 : x_ok mLT1 [cx_130, cx_131, cx_192] mTS2 mTC2 mRUp cx_315 [(2, [0]), (15, [1]), (23, [2])] [(36, [1000763]), (37, [1000755, 1000728]), (49, [1000764, 1000728, 1000753]), (54, [1000023])] [] (28, []) 121 31 = true := by decide +kernel
theorem sn_315 {W : Bool} {X : List Int32} : y_Snd (mGw W) mLT1 (J2 W X) X cx_315 := y_ok J2_J mTS2_ok1 mTC2_ok1 mRUp_ok1 (List.forall_mem_cons.mpr ⟨sn_130, List.forall_mem_cons.mpr ⟨sn_131, List.forall_mem_cons.mpr ⟨sn_192, fun _ h => absurd h List.not_mem_nil⟩⟩⟩) ck_315
/-- Text.likeOf -/
def cx_316 : zCtx := (135, ([ui0, ui49, ui49], [ur444, ur572], [], [], [uV2, uV11, uV12], [uF42], []), [([ui0, ui262, ui49], [ur444, ur572], [], [], [uV3], [], []), ([ui0, ui261, ui49], [ur444, ur572], [], [], [uV3], [], []), ([ui0, (0, 5), ui262], [ur444, ur572], [], [], [uV3], [], []), ([ui0, (0, 5), ui261], [ur444, ur572], [], [], [uV3], [], []), ([ui0, (0, 5), (0, 5), ui49], [ur444, ur572], [], [], [uV58], [], [])], [], 24, 1, 20)
set_option maxRecDepth 1000000 in
theorem ck_316 : x_ok mLT1 [cx_51] mTS2 mTC2 mRUp cx_316 [(1, [0]), (8, [0])] [(25, [1000464])] [] (16, []) 8 19 = true := by decide +kernel
theorem sn_316 {W : Bool} {X : List Int32} : y_Snd (mGw W) mLT1 (J2 W X) X cx_316 := y_ok J2_J mTS2_ok1 mTC2_ok1 mRUp_ok1 (List.forall_mem_cons.mpr ⟨sn1_51, fun _ h => absurd h List.not_mem_nil⟩) ck_316
/-- Rules.joinAbove -/
def cx_317 : zCtx := (92, ([ui0, (1, 5)], [ur443, ur1199], [], [], [uV2, uV420, uV11], [], []), [([ui0, (1, 5), ui584], [ur443, ur1199], [], [], [uV12], [], [])], [uk539, uk529], 53013, 3, 111)
set_option maxRecDepth 1000000 in
theorem ck_317 : x_ok mLT1 [cx_316, cx_289] mTS2 mTC2 mRUp cx_317 [(42, [0]), (45, [1])] [] [] (29, []) 52984 32 = true := by decide +kernel
theorem sn_317 {W : Bool} {X : List Int32} : y_Snd (mGw W) mLT1 (J2 W X) X cx_317 := y_ok J2_J mTS2_ok1 mTC2_ok1 mRUp_ok1 (List.forall_mem_cons.mpr ⟨sn_316, List.forall_mem_cons.mpr ⟨sn_289, fun _ h => absurd h List.not_mem_nil⟩⟩) ck_317
/-- Rules.weigh -/
def cx_318 : zCtx := (91, ([ui0, ui49], [ur443, ur1199], [], [], [uV2, uV420], [uF183], []), [([ui0, ui49, ui802], [ur443, ur1199], [], [], [], [uF150], [])], [uk804, uk539, uk805, uk529], 53276, 4, 135)
set_option maxRecDepth 1000000 in
theorem ck_318 : x_ok mLT1 [cx_317] mTS2 mTC2 mRUp cx_318 [(75, [0])] [] [(30, ([(0, 3072), ((-2147483648), 2147483647), ((-2147483648), 2147483647), ((-1), 5), (0, 11), (0, 6)], [(5, false), (106, false)], [], [(2, 0, 0, []), (2, 1, 0, []), (0, 0, 0, [(2, 1)]), (0, 0, 0, [(3, 1)])], [], [(0, (false, 2, 0, []), 0, 0, 0, [(4, 1)]), (1, (false, 6, 0, []), 0, 0, 0, [(5, 1)])], []), (43, [(3, 40)]))] (263, []) 53013 42 = true := by decide +kernel
theorem sn_318 {W : Bool} {X : List Int32} : y_Snd (mGw W) mLT1 (J2 W X) X cx_318 := y_ok J2_J mTS2_ok1 mTC2_ok1 mRUp_ok1 (List.forall_mem_cons.mpr ⟨sn_317, fun _ h => absurd h List.not_mem_nil⟩) ck_318
/-- Forecast.yearsUntilBroken -/
def cx_319 : zCtx := (25, ([ui0, ui584], [ur1203, ur432], [], [], [uV2, uV420, uV11], [], []), [([ui0, ui584, ui1204], [ur1203, ur432], [], [], [uV12], [], []), ([ui0, ui584], [ur1203, ur432], [], [], [uV567], [], [])], kc_64, 54737, 5, 161)
def cz_319_0f_0 (t : List zFa) : List zFa := uF1240 :: uF1241 :: uF708 :: uF1077 :: uF230 :: (1, (false, 8, 0, []), 0, 0, 0, [(3, 1)]) :: uF1074 :: uF832 :: t
def cz_319_0f_1 (t : List zFa) : List zFa := uF493 :: uF1242 :: (7, (false, 5, 0, []), 0, 0, 0, [(6, 1)]) :: (7, (false, 6, 0, []), 0, 0, 0, [(5, 1)]) :: (7, (false, 7, 0, []), 0, 0, 0, [(7, 1)]) :: (7, (false, 8, 0, []), 0, 0, 0, [(3, 1)]) :: t
def cz_319_0 : zS := ([ui0, ui584, ui844, ui49, ui49, (0, 6), (0, 6), ui49], [ur1203, ur432, ur549, ur548, ur547, ur427, ur433, ur1199], [], [uV2, uV420, uV11, uV12], [], (cz_319_0f_0 (cz_319_0f_1 [])), [])
set_option maxRecDepth 1000000 in
theorem ck_319 : x_ok mLT1 [cx_284, cx_318, cx_198, cx_295] mTS2 mTC2 mRUp cx_319 [(5, [0]), (24, [1]), (32, [2]), (50, [3])] [] [(10, cz_319_0, (1454, [(2, (-23))]))] (1461, []) 53276 25 = true := by decide +kernel
theorem sn_319 {W : Bool} {X : List Int32} : y_Snd (mGw W) mLT1 (J2 W X) X cx_319 := y_ok J2_J mTS2_ok1 mTC2_ok1 mRUp_ok1 (List.forall_mem_cons.mpr ⟨sn_284, List.forall_mem_cons.mpr ⟨sn_318, List.forall_mem_cons.mpr ⟨sn_198, List.forall_mem_cons.mpr ⟨sn_295, fun _ h => absurd h List.not_mem_nil⟩⟩⟩⟩) ck_319
/-- HairRope.lasts -/
def cx_320 : zCtx := (168, ([ui0, ui49], [ur442], [], [], [uV2, uV11], [], []), [([ui0, ui262], [ur442], [], [], [uV61], [], []), ([ui0, ui799], [ur442], [], [], [uV61], [], []), ([ui0, ui584], [ur442], [], [], [uV567], [], []), ([ui0, ui584, ui1204], [ur442], [], [], [uV12], [], [])], kc_64, 54748, 6, 184)
set_option maxRecDepth 1000000 in
theorem ck_320 : x_ok mLT1 [cx_195, cx_319] mTS2 mTC2 mRUp cx_320 [(1, [0]), (16, [1])] [] [] (11, []) 54737 14 = true := by decide +kernel
theorem sn_320 {W : Bool} {X : List Int32} : y_Snd (mGw W) mLT1 (J2 W X) X cx_320 := y_ok J2_J mTS2_ok1 mTC2_ok1 mRUp_ok1 (List.forall_mem_cons.mpr ⟨sn_195, List.forall_mem_cons.mpr ⟨sn_319, fun _ h => absurd h List.not_mem_nil⟩⟩) ck_320
/-- Forecast.harvestOf -/
def cx_321 : zCtx := (27, ([ui0, (0, 5), ui843, ui843], [ur1203, ur432], [], [], [uV2, uV420, uV11, uV12, uV58], [], []), [([ui0, (0, 5), ui843, ui843, ui49], [ur1203, ur432], [], [], [uV97], [], [])], kc_65, 55652, 4, 137)
def cz_321_0i_0 (t : List (Int × Int)) : List (Int × Int) := ui0 :: (0, 5) :: ui843 :: ui843 :: ui49 :: ui1103 :: ui49 :: ui49 :: t
def cz_321_0i_1 (t : List (Int × Int)) : List (Int × Int) := (0, 6) :: (0, 6) :: ui49 :: t
def cz_321_0f_0 (t : List zFa) : List zFa := uF1240 :: uF1241 :: uF708 :: uF1077 :: uF230 :: uF520 :: uF582 :: (1, (false, 6, 0, []), 0, 0, 0, [(8, 1)]) :: t
def cz_321_0f_1 (t : List zFa) : List zFa := uF190 :: uF1242 :: (7, (false, 5, 0, []), 0, 0, 0, [(9, 1)]) :: (7, (false, 6, 0, []), 0, 0, 0, [(8, 1)]) :: (7, (false, 7, 0, []), 0, 0, 0, [(10, 1)]) :: (7, (false, 8, 0, []), 0, 0, 0, [(6, 1)]) :: t
def cz_321_0 : zS := ((cz_321_0i_0 (cz_321_0i_1 [])), [ur1203, ur432, ur549, ur548, ur547, ur427, ur433, ur1199], [], [uV2, uV420, uV11, uV12, uV58, uV97, uV75], [], (cz_321_0f_0 (cz_321_0f_1 [])), [])
set_option maxRecDepth 1000000 in
theorem ck_321 : x_ok mLT1 [cx_284, cx_294] mTS2 mTC2 mRUp cx_321 [(5, [0]), (50, [1])] [] [(33, cz_321_0, (2651, [(5, (-42))]))] (2626, []) 53026 44 = true := by decide +kernel
theorem sn_321 {W : Bool} {X : List Int32} : y_Snd (mGw W) mLT1 (J2 W X) X cx_321 := y_ok J2_J mTS2_ok1 mTC2_ok1 mRUp_ok1 (List.forall_mem_cons.mpr ⟨sn_284, List.forall_mem_cons.mpr ⟨sn_294, fun _ h => absurd h List.not_mem_nil⟩⟩) ck_321
/-- Forecast.findHarvest -/
def cx_322 : zCtx := (26, ([ui0, (0, 5), ui843], [ur1203, ur432], [], [], [uV2, uV420, uV11, uV12], [], []), [([ui0, (0, 5), ui843], [ur1203, ur432], [], [], [], [], [])], kc_66, 57091, 5, 163)
set_option maxRecDepth 1000000 in
theorem ck_322 : x_ok mLT1 [cx_321] mTS2 mTC2 mRUp cx_322 [(25, [0])] [] [(13, ([(0, 3072), (0, 5), (1, 60), (1, 63)], [(8, false), (6, false)], [], [(2, 0, 0, []), (2, 1, 0, []), (0, 0, 0, [(1, 1)]), (0, 0, 0, [(2, 1)]), (0, 0, 0, [(3, 1)]), (5, 0, 0, [])], [], [], []), (1453, [(3, (-23))]))] (1439, []) 55652 25 = true := by decide +kernel
theorem sn_322 {W : Bool} {X : List Int32} : y_Snd (mGw W) mLT1 (J2 W X) X cx_322 := y_ok J2_J mTS2_ok1 mTC2_ok1 mRUp_ok1 (List.forall_mem_cons.mpr ⟨sn_321, fun _ h => absurd h List.not_mem_nil⟩) ck_322
/-- HairRope.harvest -/
def cx_323 : zCtx := (169, ([ui0, ui49, ui49, ui49], [ur442], [], [], [uV2, uV11, uV12, uV58], [], []), [([ui0, ui262, ui49, ui49], [ur442], [], [], [uV61], [], []), ([ui0, ui510, ui49, ui49], [ur442], [], [], [uV61], [], []), ([ui0, (0, 5), ui843, (0, 0), ui49], [ur442], [], [], [uV97], [], []), ([ui0, (0, 5), ui843, (1, 1), ui49], [ur442], [], [], [uV97], [], [])], kc_66, 57120, 6, 188)
set_option maxRecDepth 1000000 in
theorem ck_323 : x_ok mLT1 [cx_130, cx_322] mTS2 mTC2 mRUp cx_323 [(2, [0]), (40, [1])] [] [] (29, []) 57091 32 = true := by decide +kernel
theorem sn_323 {W : Bool} {X : List Int32} : y_Snd (mGw W) mLT1 (J2 W X) X cx_323 := y_ok J2_J mTS2_ok1 mTC2_ok1 mRUp_ok1 (List.forall_mem_cons.mpr ⟨sn_130, List.forall_mem_cons.mpr ⟨sn_322, fun _ h => absurd h List.not_mem_nil⟩⟩) ck_323
/-- Rules.joinAbove -/
def cx_324 : zCtx := (92, ([ui0, (1, 5)], [ur443, ur432], [], [], [uV2, uV420, uV11], [], []), [([ui0, (1, 5), ui584], [ur443, ur432], [], [], [uV12], [], [])], [uk539, uk529], 53013, 3, 111)
set_option maxRecDepth 1000000 in
theorem ck_324 : x_ok mLT1 [cx_316, cx_272] mTS2 mTC2 mRUp cx_324 [(42, [0]), (45, [1])] [] [] (29, []) 52984 32 = true := by decide +kernel
theorem sn_324 {W : Bool} {X : List Int32} : y_Snd (mGw W) mLT1 (J2 W X) X cx_324 := y_ok J2_J mTS2_ok1 mTC2_ok1 mRUp_ok1 (List.forall_mem_cons.mpr ⟨sn_316, List.forall_mem_cons.mpr ⟨sn_272, fun _ h => absurd h List.not_mem_nil⟩⟩) ck_324
/-- Rules.weigh -/
def cx_325 : zCtx := (91, ([ui0, ui49], [ur443, ur432], [], [], [uV2, uV420], [uF183], []), [([ui0, ui49, ui802], [ur443, ur432], [], [], [], [uF150], [])], [uk804, uk539, uk805, uk529], 53276, 4, 135)
set_option maxRecDepth 1000000 in
theorem ck_325 : x_ok mLT1 [cx_324] mTS2 mTC2 mRUp cx_325 [(75, [0])] [] [(30, ([(0, 3072), ((-2147483648), 2147483647), ((-2147483648), 2147483647), ((-1), 5), (0, 11), (0, 6)], [(5, false), (6, false)], [], [(2, 0, 0, []), (2, 1, 0, []), (0, 0, 0, [(2, 1)]), (0, 0, 0, [(3, 1)])], [], [(0, (false, 2, 0, []), 0, 0, 0, [(4, 1)]), (1, (false, 6, 0, []), 0, 0, 0, [(5, 1)])], []), (43, [(3, 40)]))] (263, []) 53013 42 = true := by decide +kernel
theorem sn_325 {W : Bool} {X : List Int32} : y_Snd (mGw W) mLT1 (J2 W X) X cx_325 := y_ok J2_J mTS2_ok1 mTC2_ok1 mRUp_ok1 (List.forall_mem_cons.mpr ⟨sn_324, fun _ h => absurd h List.not_mem_nil⟩) ck_325
/-- Rules.greatestHaul -/
def cx_326 : zCtx := (98, ([ui0, ui802], [ur443], [], [], [uV2], [uF183], []), [([ui0, ui802], [ur443], [], [], [uV567], [], []), ([ui0, ui802, ui584], [ur443], [], [], [uV12], [], [])], [], 388, 1, 64)
set_option maxRecDepth 1000000 in
theorem ck_326 : x_ok mLT1 [] mTS2 mTC2 mRUp cx_326 [] [] [(6, ([(0, 3072), (0, 11), ((-2147483648), 999), (0, 22)], [(5, false)], [], [(2, 0, 0, []), (0, 0, 0, [(2, 1)]), (0, 0, 0, [(3, 1)])], [], [(0, (false, 2, 0, []), 0, 0, 0, [(1, 1)])], []), (383, [(3, (-17))]))] (388, []) 0 19 = true := by decide +kernel
theorem sn_326 {W : Bool} {X : List Int32} : y_Snd (mGw W) mLT1 (J2 W X) X cx_326 := y_ok J2_J mTS2_ok1 mTC2_ok1 mRUp_ok1 (fun _ h => absurd h List.not_mem_nil) ck_326
end
