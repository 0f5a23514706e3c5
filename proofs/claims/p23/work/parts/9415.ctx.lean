noncomputable section
/-! ===== readings, by program, checked by the kernel ===== -/
/-- Planner.lookAtHouses -/
def cx_287 : zCtx := (68, ([ui0, ui847], [ur1068, ur1214], [], [], [uV2, uV420], [uF1074], []), [([ui0, ui847, ui847], [ur1068, ur1214], [], [], [], [uF1097], [])], [uk1095, uk1096, uk1072], 1085, 1, 23)
set_option maxRecDepth 1000000 in
theorem ck_287 : x_ok mLT1 [cx_285, cx_286, cx_269] mTS2 mTC2 mRUp cx_287 [(29, [0]), (66, [1]), (97, [2])] [] [(7, ([(0, 3072), (0, 63), (0, 6), (0, 63)], [(9, false), (106, false)], [], [(2, 0, 0, []), (2, 1, 0, []), (0, 0, 0, [(2, 1)]), (5, 0, 0, []), (5, 0, 0, [])], [], [(0, (false, 10, 0, []), 0, 0, 0, [(3, 1)])], []), (313, [(2, (-51))]))] (319, []) 766 53 = true := by decide +kernel
theorem sn_287 {W : Bool} {X : List Int32} : y_Snd (mGw W) mLT1 (J2 W X) X cx_287 := y_ok J2_J mTS2_ok1 mTC2_ok1 mRUp_ok1 (List.forall_mem_cons.mpr ⟨sn_285, List.forall_mem_cons.mpr ⟨sn_286, List.forall_mem_cons.mpr ⟨sn_269, fun _ h => absurd h List.not_mem_nil⟩⟩⟩) ck_287
/-- Rules.lookAt -/
def cx_288 : zCtx := (88, ([ui0, ui49, ui245], [ur444, ur1214, ur524], [], [], [uV2, uV420, uV11, uV12], [uF22], []), [([ui0, ui49, ui245], [ur444, ur1214, ur524], [], [], [], [], [])], [uk530], 79, 1, 64)
set_option maxRecDepth 1000000 in
theorem ck_288 : x_ok mLT1 [cx_286] mTS2 mTC2 mRUp cx_288 [(32, [0])] [] [] (65, []) 14 68 = true := by decide +kernel
theorem sn_288 {W : Bool} {X : List Int32} : y_Snd (mGw W) mLT1 (J2 W X) X cx_288 := y_ok J2_J mTS2_ok1 mTC2_ok1 mRUp_ok1 (List.forall_mem_cons.mpr ⟨sn_286, fun _ h => absurd h List.not_mem_nil⟩) ck_288
/-- Rules.joinOf -/
def cx_289 : zCtx := (90, ([ui0, ui49, ui49, ui49], [ur444, ur1214], [], [], [uV2, uV420, uV11, uV12, uV58], [], []), [([ui0, ui49, ui49, ui49, ui586], [ur444, ur1214], [], [], [uV97], [], [])], [uk540, uk530], 52984, 2, 87)
set_option maxRecDepth 1000000 in
theorem ck_289 : x_ok mLT1 [cx_285, cx_288, cx_286, cx_136] mTS2 mTC2 mRUp cx_289 [(5, [0]), (8, [1]), (30, [0]), (33, [2]), (53, [3])] [] [] (35, []) 52949 38 = true := by decide +kernel
theorem sn_289 {W : Bool} {X : List Int32} : y_Snd (mGw W) mLT1 (J2 W X) X cx_289 := y_ok J2_J mTS2_ok1 mTC2_ok1 mRUp_ok1 (List.forall_mem_cons.mpr ⟨sn_285, List.forall_mem_cons.mpr ⟨sn_288, List.forall_mem_cons.mpr ⟨sn_286, List.forall_mem_cons.mpr ⟨sn_136, fun _ h => absurd h List.not_mem_nil⟩⟩⟩⟩) ck_289
/-- Planner.findJoins -/
def cx_290 : zCtx := (70, ([ui0, (0, 0), ui847], [ur1068, ur1214, ur1098], [], [], [uV2, uV420, uV759, uV11], [uF1097], []), [([ui0, (0, 0), ui847], [ur1068, ur1214, ur1098], [], [], [], [], [])], [uk540, uk530, uk1102], 54866, 3, 111)
set_option maxRecDepth 1000000 in
theorem ck_290 : x_ok mLT1 [cx_254, cx_142, cx_289] mTS2 mTC2 mRUp cx_290 [(56, [0]), (65, [0]), (98, [1]), (117, [2])] [] [(3, ([(0, 3072), (0, 0), (0, 63), (0, 6)], [(9, false), (106, false), (35, false)], [], [(2, 0, 0, []), (2, 1, 0, []), (2, 2, 0, []), (0, 0, 0, [(1, 1)]), (0, 0, 0, [(3, 1)]), (5, 0, 0, []), (5, 0, 0, []), (5, 0, 0, [])], [], [(0, (false, 10, 0, []), 0, 0, 0, [(2, 1)])], []), (1879, [(1, (-100000000000)), (3, (-312))])), (21, ([(0, 3072), (0, 0), (0, 63), (0, 5), (0, 6), (1, 6)], [(9, false), (106, false), (35, false), (5, false), (2, false)], [], [(2, 0, 0, []), (2, 1, 0, []), (2, 2, 0, []), (0, 0, 0, [(1, 1)]), (0, 0, 0, [(3, 1)]), (0, 0, 0, [(4, 1)]), (5, 0, 0, []), (5, 0, 0, [])], [], [(0, (false, 0, 0, []), 2, 3, 0, []), (0, (false, 10, 0, []), 0, 0, 0, [(2, 1)]), (3, (false, 3, 0, []), 2, 4, 0, []), (4, (false, 5, 0, []), 0, 0, 0, [(5, 1)])], []), (1870, [(1, (-100000000000)), (3, (-312)), (4, (-49))]))] (1882, []) 52984 51 = true := by decide +kernel
theorem sn_290 {W : Bool} {X : List Int32} : y_Snd (mGw W) mLT1 (J2 W X) X cx_290 := y_ok J2_J mTS2_ok1 mTC2_ok1 mRUp_ok1 (List.forall_mem_cons.mpr ⟨sn_254, List.forall_mem_cons.mpr ⟨sn_142, List.forall_mem_cons.mpr ⟨sn_289, fun _ h => absurd h List.not_mem_nil⟩⟩⟩) ck_290
/-- Planner.lookAt -/
def cx_291 : zCtx := (67, ([ui0, ui847], [ur1068, ur1214], [], [], [uV2, uV420], [uF1074], []), [([ui0, ui847, ui847], [ur1068, ur1214], [], [], [], [uF1097], [])], [uk1095, uk540, uk530, uk1096, uk1102, uk1072], 54876, 4, 138)
set_option maxRecDepth 1000000 in
theorem ck_291 : x_ok mLT1 [cx_287, cx_290] mTS2 mTC2 mRUp cx_291 [(2, [0]), (12, [1])] [] [] (10, []) 54866 13 = true := by decide +kernel
theorem sn_291 {W : Bool} {X : List Int32} : y_Snd (mGw W) mLT1 (J2 W X) X cx_291 := y_ok J2_J mTS2_ok1 mTC2_ok1 mRUp_ok1 (List.forall_mem_cons.mpr ⟨sn_287, List.forall_mem_cons.mpr ⟨sn_290, fun _ h => absurd h List.not_mem_nil⟩⟩) ck_291
/-- Rules.lawOf -/
def cx_292 : zCtx := (87, ([ui0, (0, 5)], [ur444, ur1214], [], [], [uV2, uV62, uV420, uV11], [], []), [([ui0, (0, 5), ui525], [ur444, ur1214], [], [], [uV12], [], [])], [uk540, uk530], 52968, 2, 87)
set_option maxRecDepth 1000000 in
theorem ck_292 : x_ok mLT1 [cx_285, cx_288, cx_136] mTS2 mTC2 mRUp cx_292 [(5, [0]), (8, [1]), (26, [2])] [] [] (19, []) 52949 22 = true := by decide +kernel
theorem sn_292 {W : Bool} {X : List Int32} : y_Snd (mGw W) mLT1 (J2 W X) X cx_292 := y_ok J2_J mTS2_ok1 mTC2_ok1 mRUp_ok1 (List.forall_mem_cons.mpr ⟨sn_285, List.forall_mem_cons.mpr ⟨sn_288, List.forall_mem_cons.mpr ⟨sn_136, fun _ h => absurd h List.not_mem_nil⟩⟩⟩) ck_292
/-- Rules.lawOf -/
def cx_293 : zCtx := (87, ([ui0, (0, 5)], [ur444, ur1214], [], [], [uV2, uV64, uV420, uV11], [], []), [([ui0, (0, 5), ui525], [ur444, ur1214], [], [], [uV12], [], [])], [uk540, uk530], 52968, 2, 87)
set_option maxRecDepth 1000000 in
theorem ck_293 : x_ok mLT1 [cx_285, cx_288, cx_136] mTS2 mTC2 mRUp cx_293 [(5, [0]), (8, [1]), (26, [2])] [] [] (19, []) 52949 22 = true := by decide +kernel
theorem sn_293 {W : Bool} {X : List Int32} : y_Snd (mGw W) mLT1 (J2 W X) X cx_293 := y_ok J2_J mTS2_ok1 mTC2_ok1 mRUp_ok1 (List.forall_mem_cons.mpr ⟨sn_285, List.forall_mem_cons.mpr ⟨sn_288, List.forall_mem_cons.mpr ⟨sn_136, fun _ h => absurd h List.not_mem_nil⟩⟩⟩) ck_293
/-- Rules.ageHouse -/
def cx_294 : zCtx := (95, ([ui0, (0, 5), ui49, ui49], [ur444, ur1214], [], [], [uV2, uV420, uV11, uV12, uV58], [], []), [([ui0, (0, 5), ui49, ui49], [ur444, ur1214], [], [], [], [], [])], [uk540, uk530, uk1215, uk1216], 53026, 3, 110)
set_option maxRecDepth 1000000 in
theorem ck_294 : x_ok mLT1 [cx_285, cx_292, cx_293, cx_202] mTS2 mTC2 mRUp cx_294 [(13, [0]), (22, [1]), (36, [2]), (73, [3])] [] [] (58, []) 52968 61 = true := by decide +kernel
theorem sn_294 {W : Bool} {X : List Int32} : y_Snd (mGw W) mLT1 (J2 W X) X cx_294 := y_ok J2_J mTS2_ok1 mTC2_ok1 mRUp_ok1 (List.forall_mem_cons.mpr ⟨sn_285, List.forall_mem_cons.mpr ⟨sn_292, List.forall_mem_cons.mpr ⟨sn_293, List.forall_mem_cons.mpr ⟨sn_202, fun _ h => absurd h List.not_mem_nil⟩⟩⟩⟩) ck_294
/-- Rules.ageAll -/
def cx_295 : zCtx := (94, ([ui0, (0, 0), (0, 0)], [ur444, ur1214], [], [], [uV2, uV420, uV11, uV12], [], []), [([ui0, (0, 0), (0, 0), ui49], [ur444, ur1214], [], [], [], [uF1217], [])], [uk540, uk530, (106, false, 7), uk1215, uk1216], 53125, 4, 137)
set_option maxRecDepth 1000000 in
theorem ck_295 : x_ok mLT1 [cx_294] mTS2 mTC2 mRUp cx_295 [(21, [0])] [] [(3, ([(0, 3072), (0, 0), (0, 0), (0, 6)], [(5, false), (106, false)], [], [(2, 0, 0, []), (2, 1, 0, []), (0, 0, 0, [(1, 1)]), (0, 0, 0, [(2, 1)]), (0, 0, 0, [(3, 1)])], [], [], []), (96, [(1, (-100000000000)), (2, (-100000000000)), (3, (-14))]))] (99, []) 53026 16 = true := by decide +kernel
theorem sn_295 {W : Bool} {X : List Int32} : y_Snd (mGw W) mLT1 (J2 W X) X cx_295 := y_ok J2_J mTS2_ok1 mTC2_ok1 mRUp_ok1 (List.forall_mem_cons.mpr ⟨sn_294, fun _ h => absurd h List.not_mem_nil⟩) ck_295
/-- Forecast.yearsUntilHeld -/
def cx_296 : zCtx := (24, ([ui0, ui586], [ur1218, ur1068, ur433], [], [], [uV2, uV420, uV759, uV11], [], []), [([ui0, ui586, ui1219], [ur1218, ur1068, ur433], [], [], [uV12], [], []), ([ui0, ui586], [ur1218, ur1068, ur433], [], [], [uV568], [], [])], kc_59, 56337, 5, 161)
def cz_296_0r_0 (t : List (Nat × Bool)) : List (Nat × Bool) := ur1218 :: ur1068 :: ur433 :: ur550 :: ur549 :: ur548 :: ur428 :: ur434 :: t
def cz_296_0r_1 (t : List (Nat × Bool)) : List (Nat × Bool) := ur1214 :: t
def cz_296_0f_0 (t : List zFa) : List zFa := uF542 :: (2, (false, 3, 0, []), 2, 4, 0, []) :: uF46 :: (2, (false, 1, 0, []), 2, 6, 0, []) :: (2, (false, 0, 0, []), 2, 7, 0, []) :: (2, (false, 8, 0, []), 0, 0, 0, [(3, 1)]) :: uF173 :: uF154 :: t
def cz_296_0f_1 (t : List zFa) : List zFa := uF1161 :: (0, (false, 1, 0, []), 2, 8, 0, []) :: (8, (false, 5, 0, []), 0, 0, 0, [(6, 1)]) :: (8, (false, 6, 0, []), 0, 0, 0, [(5, 1)]) :: (8, (false, 7, 0, []), 0, 0, 0, [(7, 1)]) :: (8, (false, 8, 0, []), 0, 0, 0, [(3, 1)]) :: t
def cz_296_0 : zS := ([ui0, ui586, ui847, ui49, ui49, (0, 6), (0, 6), ui49], (cz_296_0r_0 (cz_296_0r_1 [])), [], [uV2, uV420, uV759, uV11, uV12], [], (cz_296_0f_0 (cz_296_0f_1 [])), [])
set_option maxRecDepth 1000000 in
theorem ck_296 : x_ok mLT1 [cx_284, cx_291, cx_280, cx_295] mTS2 mTC2 mRUp cx_296 [(5, [0]), (23, [1]), (28, [2]), (51, [3])] [] [(11, cz_296_0, (1454, [(2, (-23))]))] (1461, []) 54876 25 = true := by decide +kernel
theorem sn_296 {W : Bool} {X : List Int32} : y_Snd (mGw W) mLT1 (J2 W X) X cx_296 := y_ok J2_J mTS2_ok1 mTC2_ok1 mRUp_ok1 (List.forall_mem_cons.mpr ⟨sn_284, List.forall_mem_cons.mpr ⟨sn_291, List.forall_mem_cons.mpr ⟨sn_280, List.forall_mem_cons.mpr ⟨sn_295, fun _ h => absurd h List.not_mem_nil⟩⟩⟩⟩) ck_296
/-- HairRope.soon -/
def cx_297 : zCtx := (163, ([ui0, ui49], [ur443], [], [], [uV2, uV11], [], []), [([ui0, ui262], [ur443], [], [], [uV61], [], []), ([ui0, ui802], [ur443], [], [], [uV61], [], []), ([ui0, ui586], [ur443], [], [], [uV568], [], []), ([ui0, ui586, ui1219], [ur443], [], [], [uV12], [], [])], kc_59, 56350, 6, 185)
set_option maxRecDepth 1000000 in
theorem ck_297 : x_ok mLT1 [cx_195, cx_296] mTS2 mTC2 mRUp cx_297 [(1, [0]), (20, [1])] [] [] (13, []) 56337 16 = true := by decide +kernel
theorem sn_297 {W : Bool} {X : List Int32} : y_Snd (mGw W) mLT1 (J2 W X) X cx_297 := y_ok J2_J mTS2_ok1 mTC2_ok1 mRUp_ok1 (List.forall_mem_cons.mpr ⟨sn_195, List.forall_mem_cons.mpr ⟨sn_296, fun _ h => absurd h List.not_mem_nil⟩⟩) ck_297
def cx_298pi_0 (t : List (Int × Int)) : List (Int × Int) := ui0 :: (0, 5) :: (0, 5) :: (9, 9) :: ui31 :: (0, 6) :: (0, 6) :: ui49 :: t
def cx_298pi_1 (t : List (Int × Int)) : List (Int × Int) := ui49 :: ui49 :: ui49 :: ui49 :: ui49 :: ui49 :: ui49 :: t
def cx_298p : zS := ((cx_298pi_0 (cx_298pi_1 [])), [ur444, ur433, ur445, ur532, ur524], [uL577, uL9, uL578, uL67, uL579], [], [uV2, uV420, uV11, uV12, uV58], [uF541, uF542, uF580, uF581, uF582, uF583, uF584, uF432], [uG585])
/-- Rules.joinOf -/
def cx_298 : zCtx := (90, cx_298p, [([ui0, (0, 5), (0, 5), (9, 9), ui31, (1, 6), (0, 6), ui49, ui49, ui49, ui49, ui49, ui49, ui49, ui49, ui586], [ur444, ur433, ur445, ur532, ur524], [uL579, uL578, uL577, uL9, uL67], [], [uV587], [], [(238, [uL1220, uL98, uL164, uL170, uL195, uL214, uL207, uL208, uL9, uL67, uL209])])], [uk540, uk530], 52984, 2, 87)
set_option maxRecDepth 1000000 in
theorem ck_298 : x_ok mLT1 [cx_131, cx_133, cx_132, cx_136] mTS2 mTC2 mRUp cx_298 [(5, [0]), (8, [1]), (30, [0]), (33, [2]), (53, [3])] [(56, uN588), (62, uN589)] [] (35, []) 52949 38 = true := by decide +kernel
theorem sn_298 {W : Bool} {X : List Int32} : y_Snd (mGw W) mLT1 (J2 W X) X cx_298 := y_ok J2_J mTS2_ok1 mTC2_ok1 mRUp_ok1 (List.forall_mem_cons.mpr ⟨sn_131, List.forall_mem_cons.mpr ⟨sn_133, List.forall_mem_cons.mpr ⟨sn_132, List.forall_mem_cons.mpr ⟨sn_136, fun _ h => absurd h List.not_mem_nil⟩⟩⟩⟩) ck_298
def cx_299pi_0 (t : List (Int × Int)) : List (Int × Int) := ui0 :: (1, 1) :: ui847 :: (0, 6) :: (0, 6) :: ui49 :: ui49 :: ui31 :: t
def cx_299pi_1 (t : List (Int × Int)) : List (Int × Int) := ui49 :: ui49 :: ui49 :: ui49 :: ui49 :: ui49 :: t
def cx_299pr_0 (t : List (Nat × Bool)) : List (Nat × Bool) := ur1068 :: ur433 :: ur1221 :: ur444 :: ur445 :: ur532 :: ur434 :: ur428 :: t
def cx_299pr_1 (t : List (Nat × Bool)) : List (Nat × Bool) := ur548 :: ur549 :: ur550 :: ur547 :: ur573 :: ur524 :: t
def cx_299p : zS := ((cx_299pi_0 (cx_299pi_1 [])), (cx_299pr_0 (cx_299pr_1 [])), [uL512], [], [uV2, uV420, uV759, uV11], (cx_255pf_0 (cx_255pf_1 (cx_255pf_2 []))), [uG522, uG1100])
def cx_299q0g_0 (t : List zTg) : List zTg := uG522 :: uG1100 :: (344, [uL79, uL131, uL164, uL170, uL195, uL214, uL207, uL23, uL63, uL1101]) :: t
def cx_299q0 : zS := ((cx_299pi_0 (cx_299pi_1 [])), (cx_299pr_0 (cx_299pr_1 [])), [], [], [], [], (cx_299q0g_0 []))
/-- Planner.findJoins -/
def cx_299 : zCtx := (70, cx_299p, [cx_299q0], [uk540, uk530, uk1222], 54722, 3, 111)
def cz_299_0i_0 (t : List (Int × Int)) : List (Int × Int) := ui0 :: (1, 1) :: ui847 :: (0, 6) :: (0, 6) :: ui49 :: ui49 :: ui31 :: t
def cz_299_0i_1 (t : List (Int × Int)) : List (Int × Int) := ui49 :: ui49 :: ui49 :: ui49 :: ui49 :: ui49 :: (0, 6) :: t
def cz_299_0g_0 (t : List zTg) : List zTg := uG522 :: uG1100 :: (344, [uL79, uL131, uL164, uL170, uL195, uL214, uL207, uL208, uL63, uL1103]) :: t
def cz_299_0 : zS := ((cz_299_0i_0 (cz_299_0i_1 [])), (cx_299pr_0 (cx_299pr_1 [])), [uL512, uL208, uL1104], [uV2, uV420, uV759, uV11, uV356, uV113, uV113, uV113], [], (cx_255pf_0 (cx_255pf_1 (cx_255pf_2 []))), (cz_299_0g_0 []))
def cz_299_1i_0 (t : List (Int × Int)) : List (Int × Int) := ui0 :: (1, 1) :: ui847 :: (1, 6) :: (0, 6) :: ui49 :: ui49 :: ui31 :: t
def cz_299_1i_1 (t : List (Int × Int)) : List (Int × Int) := ui49 :: ui49 :: ui49 :: ui49 :: ui49 :: ui49 :: (0, 5) :: (0, 6) :: t
def cz_299_1g_0 (t : List zTg) : List zTg := uG522 :: uG1100 :: (344, [uL79, uL131, uL164, uL170, uL195, uL214, uL207, uL208, uL209, uL1105]) :: t
def cz_299_1 : zS := ((cz_299_1i_0 (cz_299_1i_1 [])), (cx_299pr_0 (cx_299pr_1 [])), [uL512, uL63, uL23, uL208, uL1104, uL209, uL1106, uL1107], [uV2, uV420, uV759, uV11, uV356, uV587, uV113, uV113], [], (cx_255pf_0 (cx_255pf_1 (cx_255pf_2 []))), (cz_299_1g_0 []))
set_option maxRecDepth 1000000 in
theorem ck_299 : x_ok mLT1 [cx_254, cx_298] mTS2 mTC2 mRUp cx_299 [(56, [0]), (65, [0]), (117, [1])] [(1, uN1108), (121, uN1109), (127, uN1110), (133, uN1111)] [(3, cz_299_0, ((-99999998265), [(1, 100000000000), (14, (-288))])), (21, cz_299_1, ((-99999998274), [(1, 100000000000), (14, (-288)), (15, (-45))]))] (1738, []) 52984 47 = true := by decide +kernel
theorem sn_299 {W : Bool} {X : List Int32} : y_Snd (mGw W) mLT1 (J2 W X) X cx_299 := y_ok J2_J mTS2_ok1 mTC2_ok1 mRUp_ok1 (List.forall_mem_cons.mpr ⟨sn_254, List.forall_mem_cons.mpr ⟨sn_298, fun _ h => absurd h List.not_mem_nil⟩⟩) ck_299
/-- Planner.isPair -/
def cx_300 : zCtx := (81, ([ui0, ui1223, ui847], [ur1068], [], [], [uV2, uV11], [uF1097], []), [([ui0, ui1223, ui847], [ur1068], [], [], [uV62], [], [(354, [uL67, uL9])]), ([ui0, ui1223, ui847, (0, 5), (0, 5)], [ur1068], [(0, [(1, 1), (3, (-6)), (4, (-1))]), (0, [(1, (-1)), (3, 6), (4, 1)]), ((-1), [(3, (-1)), (4, 1)])], [], [uV64], [], [(353, [uL67, uL9, uL23, uL98])])], [], 32, 1, 21)
set_option maxRecDepth 1000000 in
theorem ck_300 : x_ok mLT1 [cx_254] mTS2 mTC2 mRUp cx_300 [(17, [0]), (25, [0])] [(3, [1000023]), (4, [1001110]), (8, [1000679]), (9, [1001111, 1001177]), (31, [1001181]), (35, [1001178, 1001179, 1001180])] [] (22, []) 10 25 = true := by decide +kernel
theorem sn_300 {W : Bool} {X : List Int32} : y_Snd (mGw W) mLT1 (J2 W X) X cx_300 := y_ok J2_J mTS2_ok1 mTC2_ok1 mRUp_ok1 (List.forall_mem_cons.mpr ⟨sn_254, fun _ h => absurd h List.not_mem_nil⟩) ck_300
/-- Planner.exchangeJoin -/
def cx_301 : zCtx := (84, ([ui0, ui1223, ui49, ui49, ui49, ui49, ui49, ui49, ui49, ui1224, ui1224, ui1224], [ur1068, ur1098, ur1221], [], [], [uV2, uV11], [uF13, uF541], [uG1225]), [([ui0, ui1223, ui49, ui49, ui49, ui49, ui49, ui49, ui49, ui1224, ui1224, ui1224], [ur1068, ur1098, ur1221], [], [], [], [], [uG1226])], [uk1102, uk1222], 31, 0, 0)
set_option maxRecDepth 1000000 in
theorem ck_301 : x_ok mLT1 [] mTS2 mTC2 mRUp cx_301 [] [(40, [1001184]), (48, uN1227)] [] (31, []) 0 34 = true := by decide +kernel
theorem sn_301 {W : Bool} {X : List Int32} : y_Snd (mGw W) mLT1 (J2 W X) X cx_301 := y_ok J2_J mTS2_ok1 mTC2_ok1 mRUp_ok1 (fun _ h => absurd h List.not_mem_nil) ck_301
/-- Planner.exchangeJoin -/
def cx_302 : zCtx := (84, ([ui0, ui1223, ui49, ui49, ui49, ui49, ui49, ui49, ui49, ui1224, ui1224, ui1224], [ur1068, ur1098, ur1221], [], [], [uV2, uV11], [uF13, uF541], [uG1228]), [([ui0, ui1223, ui49, ui49, ui49, ui49, ui49, ui49, ui49, ui1224, ui1224, ui1224], [ur1068, ur1098, ur1221], [], [], [], [], [uG1229])], [uk1102, uk1222], 31, 0, 0)
set_option maxRecDepth 1000000 in
theorem ck_302 : x_ok mLT1 [] mTS2 mTC2 mRUp cx_302 [] [(40, [1001184]), (48, uN1227)] [] (31, []) 0 34 = true := by decide +kernel
theorem sn_302 {W : Bool} {X : List Int32} : y_Snd (mGw W) mLT1 (J2 W X) X cx_302 := y_ok J2_J mTS2_ok1 mTC2_ok1 mRUp_ok1 (fun _ h => absurd h List.not_mem_nil) ck_302
def cx_303pi_0 (t : List (Int × Int)) : List (Int × Int) := ui0 :: ui1223 :: ui49 :: ui49 :: ui49 :: ui49 :: ui49 :: ui49 :: t
def cx_303pi_1 (t : List (Int × Int)) : List (Int × Int) := ui49 :: ui847 :: (0, 5) :: (0, 5) :: ui1224 :: ui1224 :: t
def cx_303p : zS := ((cx_303pi_0 (cx_303pi_1 [])), [ur1068, ur1098, ur1221], [uL1230, uL1231, uL1232], [], [uV2, uV11], [uF13, uF541], [uG1233, uG1234])
/-- Planner.exchangePair -/
def cx_303 : zCtx := (83, cx_303p, [([ui0, ui1223, ui49, ui49, ui49, ui49, ui49, ui49, ui49, ui847, (0, 5), (0, 5), ui1224, ui1224], [ur1068, ur1098, ur1221], [], [], [], [], [uG1236])], [uk1102, uk1222], 46, 1, 22)
set_option maxRecDepth 1000000 in
theorem ck_303 : x_ok mLT1 [cx_301, cx_302] mTS2 mTC2 mRUp cx_303 [(2, [0]), (18, [1])] [(9, [1000679]), (10, [1001193]), (16, [1000023]), (17, [1001194]), (18, uN1237), (21, uN1238)] [] (15, []) 31 18 = true := by decide +kernel
theorem sn_303 {W : Bool} {X : List Int32} : y_Snd (mGw W) mLT1 (J2 W X) X cx_303 := y_ok J2_J mTS2_ok1 mTC2_ok1 mRUp_ok1 (List.forall_mem_cons.mpr ⟨sn_301, List.forall_mem_cons.mpr ⟨sn_302, fun _ h => absurd h List.not_mem_nil⟩⟩) ck_303
/-- Planner.exchangeJoin -/
def cx_304 : zCtx := (84, ([ui0, ui1223, ui49, ui49, ui49, ui49, ui49, ui49, ui49, ui1224, ui1224, ui1224], [ur1068, ur1098, ur1221], [], [], [uV2, uV11], [uF13, uF541], [uG1226]), [([ui0, ui1223, ui49, ui49, ui49, ui49, ui49, ui49, ui49, ui1224, ui1224, ui1224], [ur1068, ur1098, ur1221], [], [], [], [], [uG1225])], [uk1102, uk1222], 31, 0, 0)
set_option maxRecDepth 1000000 in
theorem ck_304 : x_ok mLT1 [] mTS2 mTC2 mRUp cx_304 [] [(40, [1001184]), (48, uN1227)] [] (31, []) 0 34 = true := by decide +kernel
theorem sn_304 {W : Bool} {X : List Int32} : y_Snd (mGw W) mLT1 (J2 W X) X cx_304 := y_ok J2_J mTS2_ok1 mTC2_ok1 mRUp_ok1 (fun _ h => absurd h List.not_mem_nil) ck_304
/-- Planner.exchangeJoin -/
def cx_305 : zCtx := (84, ([ui0, ui1223, ui49, ui49, ui49, ui49, ui49, ui49, ui49, ui1224, ui1224, ui1224], [ur1068, ur1098, ur1221], [], [], [uV2, uV11], [uF13, uF541], [uG1229]), [([ui0, ui1223, ui49, ui49, ui49, ui49, ui49, ui49, ui49, ui1224, ui1224, ui1224], [ur1068, ur1098, ur1221], [], [], [], [], [uG1228])], [uk1102, uk1222], 31, 0, 0)
set_option maxRecDepth 1000000 in
theorem ck_305 : x_ok mLT1 [] mTS2 mTC2 mRUp cx_305 [] [(40, [1001184]), (48, uN1227)] [] (31, []) 0 34 = true := by decide +kernel
theorem sn_305 {W : Bool} {X : List Int32} : y_Snd (mGw W) mLT1 (J2 W X) X cx_305 := y_ok J2_J mTS2_ok1 mTC2_ok1 mRUp_ok1 (fun _ h => absurd h List.not_mem_nil) ck_305
def cx_306p : zS := ((cx_303pi_0 (cx_303pi_1 [])), [ur1068, ur1098, ur1221], [uL1230, uL1231, uL1232], [], [uV2, uV11], [uF13, uF541], [uG1233, uG1236])
/-- Planner.exchangePair -/
def cx_306 : zCtx := (83, cx_306p, [([ui0, ui1223, ui49, ui49, ui49, ui49, ui49, ui49, ui49, ui847, (0, 5), (0, 5), ui1224, ui1224], [ur1068, ur1098, ur1221], [], [], [], [], [uG1234])], [uk1102, uk1222], 46, 1, 22)
set_option maxRecDepth 1000000 in
theorem ck_306 : x_ok mLT1 [cx_304, cx_305] mTS2 mTC2 mRUp cx_306 [(2, [0]), (18, [1])] [(9, [1000679]), (10, [1001193]), (16, [1000023]), (17, [1001194]), (18, uN1237), (21, uN1238)] [] (15, []) 31 18 = true := by decide +kernel
theorem sn_306 {W : Bool} {X : List Int32} : y_Snd (mGw W) mLT1 (J2 W X) X cx_306 := y_ok J2_J mTS2_ok1 mTC2_ok1 mRUp_ok1 (List.forall_mem_cons.mpr ⟨sn_304, List.forall_mem_cons.mpr ⟨sn_305, fun _ h => absurd h List.not_mem_nil⟩⟩) ck_306
def cx_307pi_0 (t : List (Int × Int)) : List (Int × Int) := ui0 :: ui1223 :: ui1223 :: ui586 :: ui49 :: ui847 :: ui49 :: ui49 :: t
def cx_307pi_1 (t : List (Int × Int)) : List (Int × Int) := ui49 :: (0, 6) :: ui1088 :: ui49 :: ui49 :: ui49 :: ui49 :: ui49 :: t
def cx_307pi_2 (t : List (Int × Int)) : List (Int × Int) := ui49 :: ui49 :: (0, 6) :: ui49 :: ui49 :: ui49 :: (0, 5) :: (0, 5) :: t
def cx_307pr_0 (t : List (Nat × Bool)) : List (Nat × Bool) := ur1068 :: ur444 :: ur445 :: ur1131 :: ur1132 :: ur1133 :: ur1073 :: ur1098 :: t
def cx_307pr_1 (t : List (Nat × Bool)) : List (Nat × Bool) := ur1069 :: ur1221 :: ur573 :: ur547 :: t
def cx_307pf_0 (t : List zFa) : List zFa := uF139 :: uF1239 :: uF1206 :: uF1207 :: uF1208 :: uF21 :: uF510 :: (2, (false, 5, 0, []), 0, 0, 0, [(9, 1)]) :: t
def cx_307pf_1 (t : List zFa) : List zFa := uF1162 :: uF1163 :: uF1164 :: uF1165 :: uF1166 :: uF1167 :: (0, (false, 3, 0, []), 2, 9, 0, []) :: (2, (false, 7, 0, []), 0, 0, 0, [(21, 1)]) :: t
def cx_307pf_2 (t : List zFa) : List zFa := (2, (false, 1, 0, []), 2, 10, 0, []) :: (2, (false, 3, 0, []), 2, 11, 0, []) :: t
def cx_307pg_0 (t : List zTg) : List zTg := uG1240 :: uG1241 :: uG1242 :: uG1243 :: uG1244 :: uG1245 :: uG1248 :: uG1249 :: t
def cx_307p : zS := ((cx_307pi_0 (cx_307pi_1 (cx_307pi_2 []))), (cx_307pr_0 (cx_307pr_1 [])), [uL1250, uL1251, uL1252, uL1253, uL60, uL508], [], [uV2, uV11, uV12, uV58], (cx_307pf_0 (cx_307pf_1 (cx_307pf_2 []))), (cx_307pg_0 []))
def cx_307q0g_0 (t : List zTg) : List zTg := uG1240 :: uG1241 :: uG1242 :: uG1243 :: uG1244 :: uG1245 :: uG1249 :: (355, [uL195, uL214, uL207, uL208, uL209, uL212, uL213, uL23, uL1191, uL1254]) :: t
def cx_307q0 : zS := ((cx_307pi_0 (cx_307pi_1 (cx_307pi_2 []))), (cx_307pr_0 (cx_307pr_1 [])), [], [], [uV64], [], (cx_307q0g_0 []))
def cx_307q1g_0 (t : List zTg) : List zTg := uG1240 :: uG1241 :: uG1242 :: uG1243 :: uG1244 :: uG1245 :: uG1249 :: (356, [uL195, uL214, uL207, uL208, uL209, uL212, uL213, uL23, uL1191, uL1254]) :: t
def cx_307q1 : zS := ((cx_307pi_0 (cx_307pi_1 (cx_307pi_2 []))), (cx_307pr_0 (cx_307pr_1 [])), [], [], [uV62], [], (cx_307q1g_0 []))
/-- Planner.holdsWith -/
def cx_307 : zCtx := (82, cx_307p, [cx_307q0, cx_307q1], kc_60, 1637, 5, 161)
set_option maxRecDepth 1000000 in
theorem ck_307 : x_ok mLT1 [cx_303, cx_264, cx_306] mTS2 mTC2 mRUp cx_307 [(2, [0]), (17, [1]), (36, [2])] [(15, uN1255), (27, [1001172]), (31, [1001175])] [] (23, []) 1614 26 = true := by decide +kernel
theorem sn_307 {W : Bool} {X : List Int32} : y_Snd (mGw W) mLT1 (J2 W X) X cx_307 := y_ok J2_J mTS2_ok1 mTC2_ok1 mRUp_ok1 (List.forall_mem_cons.mpr ⟨sn_303, List.forall_mem_cons.mpr ⟨sn_264, List.forall_mem_cons.mpr ⟨sn_306, fun _ h => absurd h List.not_mem_nil⟩⟩⟩) ck_307
/-- Planner.peaceAnswer -/
def cx_308 : zCtx := (85, ([ui0, (1, 1), ui1223, ui124, (0, 2), ui847, (0, 5), (0, 5)], [], [uL1256, uL1257, uL1258], [], [uV11, uV12, uV58, uV97], [], [uG1259]), [([ui0, (1, 1), ui1223, ui124, (0, 0), ui847, (0, 5), (0, 5)], [], [], [], [uV11], [], [uG1259]), ([ui0, (1, 1), ui1223, ui124, (1, 1), ui847, (0, 5), (0, 5)], [], [], [], [uV1260], [], [uG1259]), ([ui0, (1, 1), ui1223, ui124, (2, 2), ui847, (0, 5), (0, 5)], [], [], [], [uV61], [], [uG1259])], [], 20, 0, 0)
set_option maxRecDepth 1000000 in
theorem ck_308 : x_ok mLT1 [] mTS2 mTC2 mRUp cx_308 [] [(33, [1000023]), (34, [1001194]), (39, [1000679]), (40, [1001193]), (41, [1001203])] [] (20, []) 0 23 = true := by decide +kernel
theorem sn_308 {W : Bool} {X : List Int32} : y_Snd (mGw W) mLT1 (J2 W X) X cx_308 := y_ok J2_J mTS2_ok1 mTC2_ok1 mRUp_ok1 (fun _ h => absurd h List.not_mem_nil) ck_308
/-- Planner.exchangeJoin -/
def cx_309 : zCtx := (84, ([ui0, ui1223, ui49, ui49, ui49, ui49, ui49, ui49, ui49, ui1224, ui1224, ui1224], [ur1068, ur1098, ur1221], [], [], [uV2, uV11], [uF13, uF541], [uG1261]), [([ui0, ui1223, ui49, ui49, ui49, ui49, ui49, ui49, ui49, ui1224, ui1224, ui1224], [ur1068, ur1098, ur1221], [], [], [], [], [uG1262])], [uk1102, uk1222], 31, 0, 0)
set_option maxRecDepth 1000000 in
theorem ck_309 : x_ok mLT1 [] mTS2 mTC2 mRUp cx_309 [] [(40, [1001184]), (48, uN1227)] [] (31, []) 0 34 = true := by decide +kernel
theorem sn_309 {W : Bool} {X : List Int32} : y_Snd (mGw W) mLT1 (J2 W X) X cx_309 := y_ok J2_J mTS2_ok1 mTC2_ok1 mRUp_ok1 (fun _ h => absurd h List.not_mem_nil) ck_309
/-- Planner.exchangeJoin -/
def cx_310 : zCtx := (84, ([ui0, ui1223, ui49, ui49, ui49, ui49, ui49, ui49, ui49, ui1224, ui1224, ui1224], [ur1068, ur1098, ur1221], [], [], [uV2, uV11], [uF13, uF541], [uG1263]), [([ui0, ui1223, ui49, ui49, ui49, ui49, ui49, ui49, ui49, ui1224, ui1224, ui1224], [ur1068, ur1098, ur1221], [], [], [], [], [uG1264])], [uk1102, uk1222], 31, 0, 0)
set_option maxRecDepth 1000000 in
theorem ck_310 : x_ok mLT1 [] mTS2 mTC2 mRUp cx_310 [] [(40, [1001184]), (48, uN1227)] [] (31, []) 0 34 = true := by decide +kernel
theorem sn_310 {W : Bool} {X : List Int32} : y_Snd (mGw W) mLT1 (J2 W X) X cx_310 := y_ok J2_J mTS2_ok1 mTC2_ok1 mRUp_ok1 (fun _ h => absurd h List.not_mem_nil) ck_310
def cx_311p : zS := ((cx_303pi_0 (cx_303pi_1 [])), [ur1068, ur1098, ur1221], [uL1230, uL1231, uL1232], [], [uV2, uV11], [uF13, uF541], [uG1233, uG1265])
/-- Planner.exchangePair -/
def cx_311 : zCtx := (83, cx_311p, [([ui0, ui1223, ui49, ui49, ui49, ui49, ui49, ui49, ui49, ui847, (0, 5), (0, 5), ui1224, ui1224], [ur1068, ur1098, ur1221], [], [], [], [], [uG1266])], [uk1102, uk1222], 46, 1, 22)
set_option maxRecDepth 1000000 in
theorem ck_311 : x_ok mLT1 [cx_309, cx_310] mTS2 mTC2 mRUp cx_311 [(2, [0]), (18, [1])] [(9, [1000679]), (10, [1001193]), (16, [1000023]), (17, [1001194]), (18, uN1237), (21, uN1238)] [] (15, []) 31 18 = true := by decide +kernel
theorem sn_311 {W : Bool} {X : List Int32} : y_Snd (mGw W) mLT1 (J2 W X) X cx_311 := y_ok J2_J mTS2_ok1 mTC2_ok1 mRUp_ok1 (List.forall_mem_cons.mpr ⟨sn_309, List.forall_mem_cons.mpr ⟨sn_310, fun _ h => absurd h List.not_mem_nil⟩⟩) ck_311
/-- Planner.exchangeJoin -/
def cx_312 : zCtx := (84, ([ui0, ui1223, ui49, ui49, ui49, ui49, ui49, ui49, ui49, ui1224, ui1224, ui1224], [ur1068, ur1098, ur1221], [], [], [uV2, uV11], [uF13, uF541], [uG1262]), [([ui0, ui1223, ui49, ui49, ui49, ui49, ui49, ui49, ui49, ui1224, ui1224, ui1224], [ur1068, ur1098, ur1221], [], [], [], [], [uG1261])], [uk1102, uk1222], 31, 0, 0)
set_option maxRecDepth 1000000 in
theorem ck_312 : x_ok mLT1 [] mTS2 mTC2 mRUp cx_312 [] [(40, [1001184]), (48, uN1227)] [] (31, []) 0 34 = true := by decide +kernel
theorem sn_312 {W : Bool} {X : List Int32} : y_Snd (mGw W) mLT1 (J2 W X) X cx_312 := y_ok J2_J mTS2_ok1 mTC2_ok1 mRUp_ok1 (fun _ h => absurd h List.not_mem_nil) ck_312
/-- Planner.exchangeJoin -/
def cx_313 : zCtx := (84, ([ui0, ui1223, ui49, ui49, ui49, ui49, ui49, ui49, ui49, ui1224, ui1224, ui1224], [ur1068, ur1098, ur1221], [], [], [uV2, uV11], [uF13, uF541], [uG1264]), [([ui0, ui1223, ui49, ui49, ui49, ui49, ui49, ui49, ui49, ui1224, ui1224, ui1224], [ur1068, ur1098, ur1221], [], [], [], [], [uG1263])], [uk1102, uk1222], 31, 0, 0)
set_option maxRecDepth 1000000 in
theorem ck_313 : x_ok mLT1 [] mTS2 mTC2 mRUp cx_313 [] [(40, [1001184]), (48, uN1227)] [] (31, []) 0 34 = true := by decide +kernel
theorem sn_313 {W : Bool} {X : List Int32} : y_Snd (mGw W) mLT1 (J2 W X) X cx_313 := y_ok J2_J mTS2_ok1 mTC2_ok1 mRUp_ok1 (fun _ h => absurd h List.not_mem_nil) ck_313
def cx_314p : zS := ((cx_303pi_0 (cx_303pi_1 [])), [ur1068, ur1098, ur1221], [uL1230, uL1231, uL1232], [], [uV2, uV11], [uF13, uF541], [uG1233, uG1266])
/-- Planner.exchangePair -/
def cx_314 : zCtx := (83, cx_314p, [([ui0, ui1223, ui49, ui49, ui49, ui49, ui49, ui49, ui49, ui847, (0, 5), (0, 5), ui1224, ui1224], [ur1068, ur1098, ur1221], [], [], [], [], [uG1265])], [uk1102, uk1222], 46, 1, 22)
set_option maxRecDepth 1000000 in
theorem ck_314 : x_ok mLT1 [cx_312, cx_313] mTS2 mTC2 mRUp cx_314 [(2, [0]), (18, [1])] [(9, [1000679]), (10, [1001193]), (16, [1000023]), (17, [1001194]), (18, uN1237), (21, uN1238)] [] (15, []) 31 18 = true := by decide +kernel
theorem sn_314 {W : Bool} {X : List Int32} : y_Snd (mGw W) mLT1 (J2 W X) X cx_314 := y_ok J2_J mTS2_ok1 mTC2_ok1 mRUp_ok1 (List.forall_mem_cons.mpr ⟨sn_312, List.forall_mem_cons.mpr ⟨sn_313, fun _ h => absurd h List.not_mem_nil⟩⟩) ck_314
def cx_315pi_0 (t : List (Int × Int)) : List (Int × Int) := ui0 :: ui1223 :: ui1223 :: ui586 :: ui49 :: ui847 :: ui49 :: ui49 :: t
def cx_315pi_1 (t : List (Int × Int)) : List (Int × Int) := ui49 :: (0, 6) :: ui1088 :: ui49 :: ui49 :: ui49 :: ui49 :: ui49 :: t
def cx_315pi_2 (t : List (Int × Int)) : List (Int × Int) := ui49 :: ui49 :: (0, 6) :: ui49 :: ui49 :: ui49 :: (0, 5) :: (0, 5) :: t
def cx_315pi_3 (t : List (Int × Int)) : List (Int × Int) := (0, 5) :: (0, 5) :: t
def cx_315pg_0 (t : List zTg) : List zTg := uG1240 :: uG1241 :: uG1242 :: uG1243 :: uG1244 :: uG1245 :: uG1248 :: (353, [uL104, uL67, uL1267, uL1268]) :: t
def cx_315pg_1 (t : List zTg) : List zTg := uG1249 :: t
def cx_315p : zS := ((cx_315pi_0 (cx_315pi_1 (cx_315pi_2 (cx_315pi_3 [])))), (cx_307pr_0 (cx_307pr_1 [])), [uL1250, uL1251, uL1252, uL1253, (0, [(2, 1), (24, (-6)), (25, (-1))]), (0, [(2, (-1)), (24, 6), (25, 1)]), ((-1), [(24, (-1)), (25, 1)]), uL57], [], [uV2, uV11, uV12, uV58], (cx_307pf_0 (cx_307pf_1 (cx_307pf_2 []))), (cx_315pg_0 (cx_315pg_1 [])))
def cx_315q0g_0 (t : List zTg) : List zTg := uG1240 :: uG1241 :: uG1242 :: uG1243 :: uG1244 :: uG1245 :: uG1249 :: (355, [uL195, uL214, uL207, uL208, uL209, uL212, uL213, uL23, uL1191, uL1269]) :: t
def cx_315q0 : zS := ((cx_315pi_0 (cx_315pi_1 (cx_315pi_2 (cx_315pi_3 [])))), (cx_307pr_0 (cx_307pr_1 [])), [], [], [uV64], [], (cx_315q0g_0 []))
def cx_315q1g_0 (t : List zTg) : List zTg := uG1240 :: uG1241 :: uG1242 :: uG1243 :: uG1244 :: uG1245 :: uG1249 :: (356, [uL195, uL214, uL207, uL208, uL209, uL212, uL213, uL23, uL1191, uL1269]) :: t
def cx_315q1 : zS := ((cx_315pi_0 (cx_315pi_1 (cx_315pi_2 (cx_315pi_3 [])))), (cx_307pr_0 (cx_307pr_1 [])), [], [], [uV62], [], (cx_315q1g_0 []))
/-- Planner.holdsWith -/
def cx_315 : zCtx := (82, cx_315p, [cx_315q0, cx_315q1], kc_60, 1643, 5, 161)
set_option maxRecDepth 1000000 in
theorem ck_315 : x_ok mLT1 [cx_303, cx_311, cx_264, cx_306, cx_314] mTS2 mTC2 mRUp cx_315 [(2, [0]), (12, [1]), (17, [2]), (36, [3]), (46, [4])] [(15, uN1255), (27, [1001172]), (31, [1001175])] [] (29, []) 1614 32 = true := by decide +kernel
theorem sn_315 {W : Bool} {X : List Int32} : y_Snd (mGw W) mLT1 (J2 W X) X cx_315 := y_ok J2_J mTS2_ok1 mTC2_ok1 mRUp_ok1 (List.forall_mem_cons.mpr ⟨sn_303, List.forall_mem_cons.mpr ⟨sn_311, List.forall_mem_cons.mpr ⟨sn_264, List.forall_mem_cons.mpr ⟨sn_306, List.forall_mem_cons.mpr ⟨sn_314, fun _ h => absurd h List.not_mem_nil⟩⟩⟩⟩⟩) ck_315
/-- Planner.peaceAnswer -/
def cx_316 : zCtx := (85, ([ui0, (2, 2), ui1223, ui1223, (0, 2), ui847, (0, 5), (0, 5), ui847, (0, 5), (0, 5)], [], [uL1256, uL1257, uL1258, (0, [(3, 1), (9, (-6)), (10, (-1))]), (0, [(3, (-1)), (9, 6), (10, 1)]), ((-1), [(9, (-1)), (10, 1)])], [], [uV11, uV12, uV58, uV97], [], [uG1259, uG1270]), [([ui0, (2, 2), ui1223, ui1223, (0, 0), ui847, (0, 5), (0, 5), ui847, (0, 5), (0, 5)], [], [], [], [uV11], [], [uG1259, uG1270]), ([ui0, (2, 2), ui1223, ui1223, (1, 1), ui847, (0, 5), (0, 5), ui847, (0, 5), (0, 5)], [], [], [], [uV1260], [], [uG1259, uG1270]), ([ui0, (2, 2), ui1223, ui1223, (2, 2), ui847, (0, 5), (0, 5), ui847, (0, 5), (0, 5)], [], [], [], [(0, 0, 0, [(9, 10), (10, 1)])], [], [uG1259, uG1270])], [], 20, 0, 0)
set_option maxRecDepth 1000000 in
theorem ck_316 : x_ok mLT1 [] mTS2 mTC2 mRUp cx_316 [] [(33, [1000023]), (34, [1001194]), (39, [1000679]), (40, [1001193]), (41, [1001203])] [] (20, []) 0 23 = true := by decide +kernel
theorem sn_316 {W : Bool} {X : List Int32} : y_Snd (mGw W) mLT1 (J2 W X) X cx_316 := y_ok J2_J mTS2_ok1 mTC2_ok1 mRUp_ok1 (fun _ h => absurd h List.not_mem_nil) ck_316
def cx_317pi_0 (t : List (Int × Int)) : List (Int × Int) := ui0 :: ui586 :: (0, 2) :: ui49 :: ui847 :: ui49 :: ui49 :: ui49 :: t
def cx_317pi_1 (t : List (Int × Int)) : List (Int × Int) := (0, 6) :: (0, 6) :: ui49 :: ui49 :: ui31 :: ui49 :: ui49 :: ui49 :: t
def cx_317pi_2 (t : List (Int × Int)) : List (Int × Int) := ui49 :: ui49 :: ui49 :: ui1088 :: ui49 :: t
def cx_317pr_0 (t : List (Nat × Bool)) : List (Nat × Bool) := ur1068 :: ur433 :: ur444 :: ur445 :: ur532 :: ur434 :: ur428 :: ur548 :: t
def cx_317pr_1 (t : List (Nat × Bool)) : List (Nat × Bool) := ur549 :: ur550 :: ur547 :: ur573 :: ur524 :: ur1131 :: ur1132 :: ur1133 :: t
def cx_317pr_2 (t : List (Nat × Bool)) : List (Nat × Bool) := ur1073 :: ur1098 :: ur1069 :: ur1221 :: t
def cx_317pf_0 (t : List zFa) : List zFa := uF40 :: uF1271 :: (0, (false, 11, 0, []), 0, 0, 0, [(5, 1)]) :: (0, (false, 12, 0, []), 0, 0, 0, [(6, 1)]) :: uF1209 :: uF151 :: uF448 :: uF1272 :: t
def cx_317pf_1 (t : List zFa) : List zFa := uF1273 :: uF1274 :: uF1275 :: uF426 :: uF1112 :: uF1276 :: uF833 :: uF1113 :: t
def cx_317pf_2 (t : List zFa) : List zFa := uF231 :: uF232 :: uF1114 :: uF1115 :: uF1116 :: uF1117 :: uF1277 :: uF1278 :: t
def cx_317pf_3 (t : List zFa) : List zFa := uF1279 :: uF1280 :: uF1281 :: uF1282 :: uF1283 :: uF1284 :: t
def cx_317pg_0 (t : List zTg) : List zTg := uG1285 :: uG1286 :: uG1287 :: uG1288 :: uG1289 :: uG1290 :: (316, [uL214, uL207, uL208, uL209, uL212, uL213, uL277, uL131, uL63, (0, [(8, 6)]), uL63]) :: t
def cx_317p : zS := ((cx_317pi_0 (cx_317pi_1 (cx_317pi_2 []))), (cx_317pr_0 (cx_317pr_1 (cx_317pr_2 []))), [uL1291], [], [uV2, uV420, uV11, uV12], (cx_317pf_0 (cx_317pf_1 (cx_317pf_2 (cx_317pf_3 [])))), (cx_317pg_0 []))
def cx_317q0 : zS := ((cx_317pi_0 (cx_317pi_1 (cx_317pi_2 []))), (cx_317pr_0 (cx_317pr_1 (cx_317pr_2 []))), [], [], [uV62], [], [uG1285, (260, [uL1292, uL214, uL207, uL208, uL209, uL212, uL213, uL277, uL1293, uL408, uL63])])
def cx_317q1 : zS := ((cx_317pi_0 (cx_317pi_1 (cx_317pi_2 []))), (cx_317pr_0 (cx_317pr_1 (cx_317pr_2 []))), [], [], [uV61], [], [uG1285, (260, [uL1292, uL214, uL207, uL208, uL209, uL212, uL213, uL277, uL1293, uL408, uL99])])
def cx_317q2i_0 (t : List (Int × Int)) : List (Int × Int) := ui0 :: ui586 :: (0, 2) :: ui49 :: ui847 :: ui49 :: ui49 :: ui49 :: t
def cx_317q2i_1 (t : List (Int × Int)) : List (Int × Int) := (0, 6) :: (0, 6) :: ui49 :: ui49 :: ui31 :: ui49 :: ui49 :: ui49 :: t
def cx_317q2i_2 (t : List (Int × Int)) : List (Int × Int) := ui49 :: ui49 :: ui49 :: ui1088 :: ui49 :: ui1294 :: t
def cx_317q2 : zS := ((cx_317q2i_0 (cx_317q2i_1 (cx_317q2i_2 []))), (cx_317pr_0 (cx_317pr_1 (cx_317pr_2 []))), [], [], [uV1295], [], [uG1285, (260, [uL1292, uL214, uL207, uL208, uL209, uL212, uL213, uL277, uL1293, uL408, uL1191])])
def cx_317q3 : zS := ((cx_317pi_0 (cx_317pi_1 (cx_317pi_2 []))), (cx_317pr_0 (cx_317pr_1 (cx_317pr_2 []))), [], [], [uV64], [], [uG1285, (260, [uL1292, uL214, uL207, uL208, uL209, uL212, uL213, uL277, uL1293, uL408, uL65])])
def cx_317q4 : zS := ((cx_317pi_0 (cx_317pi_1 (cx_317pi_2 []))), (cx_317pr_0 (cx_317pr_1 (cx_317pr_2 []))), [], [], [uV568], [], [uG1285, (260, [uL1292, uL214, uL207, uL208, uL209, uL212, uL213, uL277, uL1293, uL408, uL806])])
def cx_317q5 : zS := ((cx_317pi_0 (cx_317pi_1 (cx_317pi_2 []))), (cx_317pr_0 (cx_317pr_1 (cx_317pr_2 []))), [], [], [uV389], [], [uG1285, (260, [uL1292, uL214, uL207, uL208, uL209, uL212, uL213, uL277, uL1293, uL408, uL114])])
/-- Planner.makePeace -/
def cx_317 : zCtx := (80, cx_317p, [cx_317q0, cx_317q1, cx_317q2, cx_317q3, cx_317q4, cx_317q5], kc_61, 87939, 6, 185)
def cz_317_0i_0 (t : List (Int × Int)) : List (Int × Int) := ui0 :: ui586 :: (0, 2) :: ui49 :: ui847 :: ui49 :: ui49 :: ui49 :: t
def cz_317_0i_1 (t : List (Int × Int)) : List (Int × Int) := (0, 6) :: (0, 6) :: ui49 :: ui49 :: ui31 :: ui49 :: ui49 :: ui49 :: t
def cz_317_0i_2 (t : List (Int × Int)) : List (Int × Int) := ui49 :: ui49 :: ui49 :: ui1088 :: ui49 :: ui440 :: t
def cz_317_0f_0 (t : List zFa) : List zFa := uF1271 :: uF151 :: uF448 :: uF1272 :: uF1273 :: uF1274 :: uF1275 :: uF426 :: t
def cz_317_0f_1 (t : List zFa) : List zFa := uF1112 :: uF1276 :: uF833 :: uF1113 :: uF231 :: uF232 :: uF1114 :: uF1115 :: t
def cz_317_0f_2 (t : List zFa) : List zFa := uF1116 :: uF1117 :: uF1277 :: uF1278 :: uF1279 :: uF1280 :: uF1281 :: uF1282 :: t
def cz_317_0f_3 (t : List zFa) : List zFa := uF1283 :: uF1284 :: t
def cz_317_0g_0 (t : List zTg) : List zTg := uG1285 :: uG1286 :: uG1287 :: uG1288 :: uG1289 :: uG1290 :: uG1296 :: uG1297 :: t
def cz_317_0g_1 (t : List zTg) : List zTg := (358, [uL214, uL207, uL208, uL209, uL212, uL213, uL277, uL9, uL408, uL1191]) :: t
def cz_317_0 : zS := ((cz_317_0i_0 (cz_317_0i_1 (cz_317_0i_2 []))), (cx_317pr_0 (cx_317pr_1 (cx_317pr_2 []))), [uL1291, uL1191, uL1298], [uV2, uV420, uV11, uV12, uV1299, uV1295, uV113], [], (cz_317_0f_0 (cz_317_0f_1 (cz_317_0f_2 (cz_317_0f_3 [])))), (cz_317_0g_0 (cz_317_0g_1 [])))
def cz_317_1g_0 (t : List zTg) : List zTg := uG1285 :: uG1286 :: uG1287 :: uG1288 :: uG1289 :: uG1290 :: uG1296 :: uG1297 :: t
def cz_317_1g_1 (t : List zTg) : List zTg := uG1300 :: (360, [uL214, uL207, uL208, uL209, uL212, uL213, uL277, uL9, uL408, uL1191, uL63]) :: t
def cz_317_1 : zS := ((cz_317_0i_0 (cz_317_0i_1 (cz_317_0i_2 []))), (cx_317pr_0 (cx_317pr_1 (cx_317pr_2 []))), [uL1291, uL1191, uL1298], [uV2, uV420, uV11, uV12, uV1299, uV1295, uV113], [], (cz_317_0f_0 (cz_317_0f_1 (cz_317_0f_2 (cz_317_0f_3 [])))), (cz_317_1g_0 (cz_317_1g_1 [])))
def cz_317_2i_0 (t : List (Int × Int)) : List (Int × Int) := ui0 :: ui586 :: (0, 2) :: ui49 :: ui847 :: ui49 :: ui49 :: ui49 :: t
def cz_317_2i_1 (t : List (Int × Int)) : List (Int × Int) := (0, 6) :: (0, 6) :: ui49 :: ui49 :: ui31 :: ui49 :: ui49 :: ui49 :: t
def cz_317_2i_2 (t : List (Int × Int)) : List (Int × Int) := ui49 :: ui49 :: ui49 :: ui1088 :: ui49 :: ui440 :: ui1050 :: t
def cz_317_2g_0 (t : List zTg) : List zTg := uG1285 :: uG1286 :: uG1287 :: uG1288 :: uG1289 :: uG1290 :: uG1296 :: uG1297 :: t
def cz_317_2g_1 (t : List zTg) : List zTg := uG1300 :: (360, [uL214, uL207, uL208, uL209, uL212, uL213, uL277, uL9, uL408, uL1191, uL1246]) :: t
def cz_317_2 : zS := ((cz_317_2i_0 (cz_317_2i_1 (cz_317_2i_2 []))), (cx_317pr_0 (cx_317pr_1 (cx_317pr_2 []))), [uL1291, uL63, uL4, uL1191, uL1298, ((-1), [(21, (-1)), (22, 1)]), (36, [(22, (-1))]), (35, [(21, (-1))])], [uV2, uV420, uV11, uV12, uV1299, uV1295, (0, 0, 0, [(22, 1)])], [], (cz_317_0f_0 (cz_317_0f_1 (cz_317_0f_2 (cz_317_0f_3 [])))), (cz_317_2g_0 (cz_317_2g_1 [])))
set_option maxRecDepth 1000000 in
theorem ck_317 : x_ok mLT1 [cx_264, cx_299, cx_300, cx_307, cx_308, cx_315, cx_316] mTS2 mTC2 mRUp cx_317 [(2, [0]), (29, [1]), (49, [2]), (61, [3]), (72, [4]), (108, [2]), (117, [2]), (129, [5]), (141, [6])] [(16, [1001172, 1001173]), (20, [1001172, 1001174]), (22, [1001175]), (32, [1001176]), (67, [1001202]), (75, [1001204, 1001205, 1001206]), (76, [1001182, 1001183]), (82, [1001207]), (96, [1001208]), (135, [1001213]), (144, [1001214, 1001215, 1001216]), (145, [1001209, 1001210, 1001211]), (151, [1001212]), (157, [1001217])] [(39, cz_317_0, (33200, [(21, (-16))])), (85, cz_317_1, (32554, [(21, (-794))])), (98, cz_317_2, (32566, [(21, (-774)), (22, (-20))]))] (33217, []) 54722 26 = true := by decide +kernel
theorem sn_317 {W : Bool} {X : List Int32} : y_Snd (mGw W) mLT1 (J2 W X) X cx_317 := y_ok J2_J mTS2_ok1 mTC2_ok1 mRUp_ok1 (List.forall_mem_cons.mpr ⟨sn_264, List.forall_mem_cons.mpr ⟨sn_299, List.forall_mem_cons.mpr ⟨sn_300, List.forall_mem_cons.mpr ⟨sn_307, List.forall_mem_cons.mpr ⟨sn_308, List.forall_mem_cons.mpr ⟨sn_315, List.forall_mem_cons.mpr ⟨sn_316, fun _ h => absurd h List.not_mem_nil⟩⟩⟩⟩⟩⟩⟩) ck_317
def cx_318pi_0 (t : List (Int × Int)) : List (Int × Int) := ui0 :: ui49 :: ui49 :: ui31 :: (0, 6) :: (0, 6) :: ui49 :: ui49 :: t
def cx_318pi_1 (t : List (Int × Int)) : List (Int × Int) := ui49 :: t
def cx_318pr_0 (t : List (Nat × Bool)) : List (Nat × Bool) := ur443 :: ur444 :: ur445 :: ur532 :: ur433 :: ur573 :: ur547 :: ur434 :: t
def cx_318pr_1 (t : List (Nat × Bool)) : List (Nat × Bool) := ur428 :: ur548 :: ur549 :: ur550 :: ur524 :: ur1068 :: ur1069 :: ur1073 :: t
def cx_318pr_2 (t : List (Nat × Bool)) : List (Nat × Bool) := ur1098 :: ur1131 :: ur1132 :: ur1133 :: ur1221 :: t
def cx_318pf_0 (t : List zFa) : List zFa := uF13 :: uF510 :: uF542 :: uF551 :: uF185 :: uF552 :: uF553 :: uF554 :: t
def cx_318pf_1 (t : List zFa) : List zFa := uF555 :: uF556 :: uF590 :: uF411 :: uF591 :: uF592 :: uF593 :: uF594 :: t
def cx_318pf_2 (t : List zFa) : List zFa := uF595 :: uF461 :: uF223 :: uF1194 :: uF1195 :: uF1196 :: uF1197 :: uF1198 :: t
def cx_318pf_3 (t : List zFa) : List zFa := uF1199 :: uF1200 :: uF1201 :: (13, (false, 3, 0, []), 2, 20, 0, []) :: t
def cx_318p : zS := ((cx_318pi_0 (cx_318pi_1 [])), (cx_318pr_0 (cx_318pr_1 (cx_318pr_2 []))), [], [], [uV2, uV11, uV12], (cx_318pf_0 (cx_318pf_1 (cx_318pf_2 (cx_318pf_3 [])))), [uG563])
def cx_318q0i_0 (t : List (Int × Int)) : List (Int × Int) := ui0 :: ui262 :: ui49 :: ui31 :: (0, 6) :: (0, 6) :: ui49 :: ui49 :: t
def cx_318q0i_1 (t : List (Int × Int)) : List (Int × Int) := ui49 :: t
def cx_318q0 : zS := ((cx_318q0i_0 (cx_318q0i_1 [])), (cx_318pr_0 (cx_318pr_1 (cx_318pr_2 []))), [], [], [uV61], [uF553, uF554, uF555, uF556], [uG563])
def cx_318q1i_0 (t : List (Int × Int)) : List (Int × Int) := ui0 :: ui802 :: ui49 :: ui31 :: (0, 6) :: (0, 6) :: ui49 :: ui49 :: t
def cx_318q1i_1 (t : List (Int × Int)) : List (Int × Int) := ui49 :: t
def cx_318q1 : zS := ((cx_318q1i_0 (cx_318q1i_1 [])), (cx_318pr_0 (cx_318pr_1 (cx_318pr_2 []))), [], [], [uV61], [uF553, uF554, uF555, uF556], [uG563])
def cx_318q2i_0 (t : List (Int × Int)) : List (Int × Int) := ui0 :: ui586 :: ui1301 :: ui31 :: (0, 6) :: (0, 6) :: ui49 :: ui49 :: t
def cx_318q2i_1 (t : List (Int × Int)) : List (Int × Int) := ui49 :: t
def cx_318q2 : zS := ((cx_318q2i_0 (cx_318q2i_1 [])), (cx_318pr_0 (cx_318pr_1 (cx_318pr_2 []))), [], [], [uV61], [uF553, uF554, uF555, uF556], [uG563])
def cx_318q3i_0 (t : List (Int × Int)) : List (Int × Int) := ui0 :: ui586 :: (0, 2) :: ui31 :: (0, 6) :: (0, 6) :: ui49 :: ui49 :: t
def cx_318q3i_1 (t : List (Int × Int)) : List (Int × Int) := ui49 :: t
def cx_318q3 : zS := ((cx_318q3i_0 (cx_318q3i_1 [])), (cx_318pr_0 (cx_318pr_1 (cx_318pr_2 []))), [], [], [uV389], [uF553, uF554, uF555, uF556], [uG563, (260, [uL1292, uL23, uL63, uL63, uL63, uL63, uL63, uL63, uL1293, uL131, uL114])])
def cx_318q4 : zS := ((cx_318q3i_0 (cx_318q3i_1 [])), (cx_318pr_0 (cx_318pr_1 (cx_318pr_2 []))), [], [], [uV568], [uF553, uF554, uF555, uF556], [uG563, (260, [uL1292, uL23, uL63, uL63, uL63, uL63, uL63, uL63, uL1293, uL131, uL806])])
def cx_318q5 : zS := ((cx_318q3i_0 (cx_318q3i_1 [])), (cx_318pr_0 (cx_318pr_1 (cx_318pr_2 []))), [], [], [uV64], [uF553, uF554, uF555, uF556], [uG563, (260, [uL1292, uL23, uL63, uL63, uL63, uL63, uL63, uL63, uL1293, uL131, uL65])])
def cx_318q6i_0 (t : List (Int × Int)) : List (Int × Int) := ui0 :: ui586 :: (0, 2) :: ui31 :: (0, 6) :: (0, 6) :: ui49 :: ui49 :: t
def cx_318q6i_1 (t : List (Int × Int)) : List (Int × Int) := ui49 :: ui1294 :: t
def cx_318q6 : zS := ((cx_318q6i_0 (cx_318q6i_1 [])), (cx_318pr_0 (cx_318pr_1 (cx_318pr_2 []))), [], [], [uV781], [uF553, uF554, uF555, uF556], [uG563, (260, [uL1292, uL23, uL63, uL63, uL63, uL63, uL63, uL63, uL1293, uL131, uL164])])
def cx_318q7 : zS := ((cx_318q3i_0 (cx_318q3i_1 [])), (cx_318pr_0 (cx_318pr_1 (cx_318pr_2 []))), [], [], [uV61], [uF553, uF554, uF555, uF556], [uG563, (260, [uL1292, uL23, uL63, uL63, uL63, uL63, uL63, uL63, uL1293, uL131, uL99])])
def cx_318q8 : zS := ((cx_318q3i_0 (cx_318q3i_1 [])), (cx_318pr_0 (cx_318pr_1 (cx_318pr_2 []))), [], [], [uV62], [uF553, uF554, uF555, uF556], [uG563, (260, [uL1292, uL23, uL63, uL63, uL63, uL63, uL63, uL63, uL1293, uL131, uL63])])
def cx_318q9i_0 (t : List (Int × Int)) : List (Int × Int) := ui0 :: ui586 :: ui262 :: ui31 :: (0, 6) :: (0, 6) :: ui49 :: ui49 :: t
def cx_318q9i_1 (t : List (Int × Int)) : List (Int × Int) := ui49 :: t
def cx_318q9 : zS := ((cx_318q9i_0 (cx_318q9i_1 [])), (cx_318pr_0 (cx_318pr_1 (cx_318pr_2 []))), [], [], [uV61], [uF553, uF554, uF555, uF556], [uG563])
/-- HairRope.peace -/
def cx_318 : zCtx := (164, cx_318p, [cx_318q0, cx_318q1, cx_318q2, cx_318q3, cx_318q4, cx_318q5, cx_318q6, cx_318q7, cx_318q8, cx_318q9], kc_62, 87960, 7, 211)
set_option maxRecDepth 1000000 in
theorem ck_318 : x_ok mLT1 [cx_195, cx_256, cx_317] mTS2 mTC2 mRUp cx_318 [(1, [0]), (26, [1]), (39, [2])] [(18, [1000733])] [] (21, []) 87939 24 = true := by decide +kernel
theorem sn_318 {W : Bool} {X : List Int32} : y_Snd (mGw W) mLT1 (J2 W X) X cx_318 := y_ok J2_J mTS2_ok1 mTC2_ok1 mRUp_ok1 (List.forall_mem_cons.mpr ⟨sn_195, List.forall_mem_cons.mpr ⟨sn_256, List.forall_mem_cons.mpr ⟨sn_317, fun _ h => absurd h List.not_mem_nil⟩⟩⟩) ck_318
/-- Rules.lawOf -/
def cx_319 : zCtx := (87, ([ui0, (0, 5)], [ur444, ur433], [], [], [uV2, uV385, uV420, uV11], [], []), [([ui0, (0, 5), ui525], [ur444, ur433], [], [], [uV12], [], [])], [uk540, uk530], 52968, 2, 87)
set_option maxRecDepth 1000000 in
theorem ck_319 : x_ok mLT1 [cx_267, cx_271, cx_136] mTS2 mTC2 mRUp cx_319 [(5, [0]), (8, [1]), (26, [2])] [] [] (19, []) 52949 22 = true := by decide +kernel
theorem sn_319 {W : Bool} {X : List Int32} : y_Snd (mGw W) mLT1 (J2 W X) X cx_319 := y_ok J2_J mTS2_ok1 mTC2_ok1 mRUp_ok1 (List.forall_mem_cons.mpr ⟨sn_267, List.forall_mem_cons.mpr ⟨sn_271, List.forall_mem_cons.mpr ⟨sn_136, fun _ h => absurd h List.not_mem_nil⟩⟩⟩) ck_319
/-- Giving.lookAt -/
def cx_320 : zCtx := (33, ([ui0], [ur1302, ur433], [], [], [uV2, uV420], [], []), [([ui0], [ur1302, ur433], [], [], [], [], [])], [uk1095, uk540, uk530, uk1096, uk1072, uk1303], 53144, 3, 110)
set_option maxRecDepth 1000000 in
theorem ck_320 : x_ok mLT1 [cx_270, cx_267, cx_319] mTS2 mTC2 mRUp cx_320 [(5, [0]), (37, [1]), (50, [2])] [] [(10, ([(0, 3072), (0, 6), (0, 63)], [(10, false), (6, false), (9, false)], [], [(2, 0, 0, []), (2, 1, 0, []), (0, 0, 0, [(1, 1)])], [], [(0, (false, 1, 0, []), 2, 2, 0, []), (2, (false, 10, 0, []), 0, 0, 0, [(2, 1)])], []), (169, [(1, (-27))]))] (176, []) 52968 29 = true := by decide +kernel
theorem sn_320 {W : Bool} {X : List Int32} : y_Snd (mGw W) mLT1 (J2 W X) X cx_320 := y_ok J2_J mTS2_ok1 mTC2_ok1 mRUp_ok1 (List.forall_mem_cons.mpr ⟨sn_270, List.forall_mem_cons.mpr ⟨sn_267, List.forall_mem_cons.mpr ⟨sn_319, fun _ h => absurd h List.not_mem_nil⟩⟩⟩) ck_320
/-- Giving.gain -/
def cx_321 : zCtx := (36, ([ui0, ui847, (0, 5)], [ur1302], [], [], [uV2, uV11, uV12], [], []), [([ui0, ui847, (0, 5), ui49], [ur1302], [], [], [uV58], [], [])], [], 52, 1, 21)
set_option maxRecDepth 1000000 in
theorem ck_321 : x_ok mLT1 [cx_277] mTS2 mTC2 mRUp cx_321 [(5, [0])] [] [] (35, []) 17 38 = true := by decide +kernel
theorem sn_321 {W : Bool} {X : List Int32} : y_Snd (mGw W) mLT1 (J2 W X) X cx_321 := y_ok J2_J mTS2_ok1 mTC2_ok1 mRUp_ok1 (List.forall_mem_cons.mpr ⟨sn_277, fun _ h => absurd h List.not_mem_nil⟩) ck_321
/-- Giving.isRest -/
def cx_322 : zCtx := (35, ([ui0, ui847], [ur1302], [], [], [uV2, uV11], [], []), [([ui0, ui847], [ur1302], [], [], [uV62], [], []), ([ui0, ui847], [ur1302], [], [], [uV64], [], [])], [], 222, 2, 45)
set_option maxRecDepth 1000000 in
theorem ck_322 : x_ok mLT1 [cx_321] mTS2 mTC2 mRUp cx_322 [(29, [0]), (35, [0])] [] [(2, ([(0, 3072), (0, 63), (0, 6)], [(10, false)], [], [(2, 0, 0, []), (0, 0, 0, [(1, 1)]), (0, 0, 0, [(2, 1)]), (5, 0, 0, [])], [], [], []), (167, [(2, (-27))]))] (170, []) 52 29 = true := by decide +kernel
theorem sn_322 {W : Bool} {X : List Int32} : y_Snd (mGw W) mLT1 (J2 W X) X cx_322 := y_ok J2_J mTS2_ok1 mTC2_ok1 mRUp_ok1 (List.forall_mem_cons.mpr ⟨sn_321, fun _ h => absurd h List.not_mem_nil⟩) ck_322
/-- Giving.findRests -/
def cx_323 : zCtx := (34, ([ui0], [ur1302], [], [], [uV2], [], []), [([ui0], [ur1302], [], [], [], [], [])], [(10, false, 3), (10, false, 4)], 2539, 3, 68)
set_option maxRecDepth 1000000 in
theorem ck_323 : x_ok mLT1 [cx_322, cx_257] mTS2 mTC2 mRUp cx_323 [(35, [0]), (49, [1]), (56, [1])] [] [(13, ([(0, 3072), (0, 64)], [(10, false)], [], [(2, 0, 0, []), (0, 0, 0, [(1, 1)])], [], [], []), (2308, [(1, (-36))]))] (2317, []) 222 38 = true := by decide +kernel
theorem sn_323 {W : Bool} {X : List Int32} : y_Snd (mGw W) mLT1 (J2 W X) X cx_323 := y_ok J2_J mTS2_ok1 mTC2_ok1 mRUp_ok1 (List.forall_mem_cons.mpr ⟨sn_322, List.forall_mem_cons.mpr ⟨sn_257, fun _ h => absurd h List.not_mem_nil⟩⟩) ck_323
/-- HairRope.rests -/
def cx_324 : zCtx := (165, ([ui0, ui49], [ur443], [], [], [uV2, uV11], [], []), [([ui0, ui1066], [ur443], [], [], [uV61], [], []), ([ui0, (0, 0), ui49], [ur443], [], [], [uV12], [], []), ([ui0, (1, 1), ui49], [ur443], [], [], [uV12], [], []), ([ui0, ui262], [ur443], [], [], [uV61], [], [])], kc_63, 53164, 4, 132)
set_option maxRecDepth 1000000 in
theorem ck_324 : x_ok mLT1 [cx_320, cx_323] mTS2 mTC2 mRUp cx_324 [(19, [0]), (26, [1])] [] [] (20, []) 53144 23 = true := by decide +kernel
theorem sn_324 {W : Bool} {X : List Int32} : y_Snd (mGw W) mLT1 (J2 W X) X cx_324 := y_ok J2_J mTS2_ok1 mTC2_ok1 mRUp_ok1 (List.forall_mem_cons.mpr ⟨sn_320, List.forall_mem_cons.mpr ⟨sn_323, fun _ h => absurd h List.not_mem_nil⟩⟩) ck_324
def cx_325pr_0 (t : List (Nat × Bool)) : List (Nat × Bool) := ur1302 :: ur433 :: ur444 :: ur445 :: ur1068 :: ur434 :: ur428 :: ur548 :: t
def cx_325pr_1 (t : List (Nat × Bool)) : List (Nat × Bool) := ur549 :: ur550 :: ur547 :: ur1069 :: ur1073 :: (41, false) :: ur524 :: t
def cx_325pf_0 (t : List zFa) : List zFa := uF151 :: uF448 :: uF1304 :: uF432 :: uF1305 :: uF1052 :: uF600 :: uF1217 :: t
def cx_325pf_1 (t : List zFa) : List zFa := uF1306 :: uF833 :: uF1113 :: uF231 :: uF232 :: uF1114 :: uF1115 :: uF1307 :: t
def cx_325pf_2 (t : List zFa) : List zFa := uF1099 :: uF1308 :: uF1309 :: t
def cx_325p : zS := ((cx_192pi_0 (cx_192pi_1 [])), (cx_325pr_0 (cx_325pr_1 [])), [uL1310], [], [uV2, uV420], (cx_325pf_0 (cx_325pf_1 (cx_325pf_2 []))), [uG1311])
def cx_325q0i_0 (t : List (Int × Int)) : List (Int × Int) := ui0 :: (0, 6) :: (0, 6) :: ui49 :: ui49 :: ui49 :: ui49 :: ui49 :: t
def cx_325q0i_1 (t : List (Int × Int)) : List (Int × Int) := ui49 :: ui49 :: ui49 :: ui49 :: ui847 :: ui1088 :: t
def cx_325q0g_0 (t : List zTg) : List zTg := uG1311 :: (277, [uL104, uL78, uL79, uL131, uL164, uL170, uL195, uL207]) :: (104, [uL65, uL9, uL207]) :: (238, [uL1091, uL104, uL78, uL79, uL131, uL164, uL170, uL195, uL9, uL63, uL214]) :: (238, [uL1091, uL104, uL78, uL79, uL131, uL164, uL170, uL195, uL252, uL63, uL214]) :: t
def cx_325q0 : zS := ((cx_325q0i_0 (cx_325q0i_1 [])), (cx_325pr_0 (cx_325pr_1 [])), [], [], [], [(4, (false, 10, 0, []), 0, 0, 0, [(12, 1)])], (cx_325q0g_0 []))
/-- Giving.lookAt -/
def cx_325 : zCtx := (33, cx_325p, [cx_325q0], [uk1095, uk540, uk530, uk1096, uk1072, uk1303], 53144, 3, 110)
def cz_325_0i_0 (t : List (Int × Int)) : List (Int × Int) := ui0 :: (0, 6) :: (0, 6) :: ui49 :: ui49 :: ui49 :: ui49 :: ui49 :: t
def cz_325_0i_1 (t : List (Int × Int)) : List (Int × Int) := ui49 :: ui49 :: ui49 :: ui49 :: (0, 6) :: ui847 :: ui1088 :: t
def cz_325_0f_0 (t : List zFa) : List zFa := (4, (false, 10, 0, []), 0, 0, 0, [(13, 1)]) :: uF151 :: uF448 :: uF1304 :: uF432 :: uF1305 :: uF1052 :: uF600 :: t
def cz_325_0f_1 (t : List zFa) : List zFa := uF1217 :: uF1306 :: uF833 :: uF1113 :: uF231 :: uF232 :: uF1114 :: uF1115 :: t
def cz_325_0f_2 (t : List zFa) : List zFa := uF1307 :: uF1099 :: uF1308 :: uF1309 :: t
def cz_325_0g_0 (t : List zTg) : List zTg := uG1311 :: (277, [uL104, uL78, uL79, uL131, uL164, uL170, uL195, uL208]) :: (104, [uL65, uL9, uL208]) :: (238, [uL1091, uL104, uL78, uL79, uL131, uL164, uL170, uL195, uL9, uL63, uL207]) :: (238, [uL1091, uL104, uL78, uL79, uL131, uL164, uL170, uL195, uL252, uL63, uL207]) :: t
def cz_325_0 : zS := ((cz_325_0i_0 (cz_325_0i_1 [])), (cx_325pr_0 (cx_325pr_1 [])), [uL1310], [uV2, uV420, uV198], [], (cz_325_0f_0 (cz_325_0f_1 (cz_325_0f_2 []))), (cz_325_0g_0 []))
set_option maxRecDepth 1000000 in
theorem ck_325 : x_ok mLT1 [cx_253, cx_131, cx_319] mTS2 mTC2 mRUp cx_325 [(5, [0]), (37, [1]), (50, [2])] [] [(10, cz_325_0, (169, [(12, (-27))]))] (176, []) 52968 29 = true := by decide +kernel
theorem sn_325 {W : Bool} {X : List Int32} : y_Snd (mGw W) mLT1 (J2 W X) X cx_325 := y_ok J2_J mTS2_ok1 mTC2_ok1 mRUp_ok1 (List.forall_mem_cons.mpr ⟨sn_253, List.forall_mem_cons.mpr ⟨sn_131, List.forall_mem_cons.mpr ⟨sn_319, fun _ h => absurd h List.not_mem_nil⟩⟩⟩) ck_325
def cx_326pi_0 (t : List (Int × Int)) : List (Int × Int) := ui0 :: (0, 6) :: ui49 :: ui49 :: ui49 :: ui49 :: ui49 :: ui49 :: t
def cx_326pi_1 (t : List (Int × Int)) : List (Int × Int) := ui49 :: ui49 :: ui1088 :: ui847 :: t
def cx_326pg_0 (t : List zTg) : List zTg := uG1312 :: uG1313 :: uG1314 :: uG1315 :: t
def cx_326p : zS := ((cx_326pi_0 (cx_326pi_1 [])), [ur1302, ur444, ur445, ur1068, ur1069], [uL1310], [], [uV2], [uF21, uF510, uF1316, uF537, uF1317, uF1318, uF1319, uF1320], (cx_326pg_0 []))
/-- Giving.pivotBits -/
def cx_326 : zCtx := (37, cx_326p, [([ui0, (0, 6), ui49, ui49, ui49, ui49, ui49, ui49, ui49, ui49, ui1088, ui847, ui49], [ur1302, ur444, ur445, ur1068, ur1069], [], [], [uV198], [], [(238, [uL1321, uL23, uL98, uL104, uL78, uL79, uL131, uL164, uL67, uL9, uL214])])], [], 216, 1, 21)
def cz_326_0i_0 (t : List (Int × Int)) : List (Int × Int) := ui0 :: (0, 6) :: ui49 :: ui49 :: ui49 :: ui49 :: ui49 :: ui49 :: t
def cz_326_0i_1 (t : List (Int × Int)) : List (Int × Int) := ui49 :: ui49 :: ui1088 :: ui847 :: ui49 :: (0, 6) :: t
def cz_326_0g_0 (t : List zTg) : List zTg := uG1312 :: uG1313 :: uG1314 :: uG1315 :: (238, [uL1321, uL23, uL98, uL104, uL78, uL79, uL131, uL164, uL67, uL207, uL214]) :: t
def cz_326_0 : zS := ((cz_326_0i_0 (cz_326_0i_1 [])), [ur1302, ur444, ur445, ur1068, ur1069], [uL1322, uL1310, uL207, (0, [(1, 1), (13, (-1))]), uL195, uL1322], [uV2, uV198, uV409], [], [uF21, uF510, uF1316, uF537, uF1317, uF1318, uF1319, uF1320], (cz_326_0g_0 []))
set_option maxRecDepth 1000000 in
theorem ck_326 : x_ok mLT1 [cx_261] mTS2 mTC2 mRUp cx_326 [(41, [0])] [(0, [1001255]), (2, [1001256]), (37, [1000789]), (39, [1000717]), (40, [1000668]), (41, [1001257]), (51, [1000667]), (53, [1001258, 1001259])] [(4, cz_326_0, (194, [(13, (-31))]))] (199, []) 17 33 = true := by decide +kernel
theorem sn_326 {W : Bool} {X : List Int32} : y_Snd (mGw W) mLT1 (J2 W X) X cx_326 := y_ok J2_J mTS2_ok1 mTC2_ok1 mRUp_ok1 (List.forall_mem_cons.mpr ⟨sn_261, fun _ h => absurd h List.not_mem_nil⟩) ck_326
end
