noncomputable section
/-! ===== readings, by program, checked by the kernel ===== -/
def cx_287pr_0 (t : List (Nat × Bool)) : List (Nat × Bool) := ur1098 :: ur1251 :: ur442 :: ur443 :: ur1254 :: ur1255 :: ur1256 :: ur1257 :: t
def cx_287pr_1 (t : List (Nat × Bool)) : List (Nat × Bool) := ur1258 :: ur562 :: ur1099 :: ur1103 :: t
def cx_287p : zS := ((cx_253pi_0 (cx_253pi_1 [])), (cx_287pr_0 (cx_287pr_1 [])), [uL789], [], [uV2, uV419], (cx_253pf_0 (cx_253pf_1 [])), [uG1259])
def cx_287q0g_0 (t : List zTg) : List zTg := uG1259 :: uG1119 :: uG1120 :: uG1122 :: uG1123 :: uG1124 :: t
def cx_287q0 : zS := ((cx_253q0i_0 (cx_253q0i_1 [])), (cx_287pr_0 (cx_287pr_1 [])), [], [], [], [uF478], (cx_287q0g_0 []))
/-- Planner.lookAtHouses -/
def cx_287 : zCtx := (68, cx_287p, [cx_287q0], [uk1125, uk1126, uk1102], 1085, 1, 23)
def cz_287_0g_0 (t : List zTg) : List zTg := uG1259 :: uG1127 :: uG1128 :: uG1129 :: uG1130 :: t
def cz_287_0 : zS := ((cz_253_0i_0 (cz_253_0i_1 [])), (cx_287pr_0 (cx_287pr_1 [])), [uL789, uL205, uL1131], [uV2, uV419, uV408, uV113, uV113], [], (cz_253_0f_0 (cz_253_0f_1 [])), (cz_287_0g_0 []))
set_option maxRecDepth 1000000 in
theorem ck_287 : x_ok mLT1 [cx_285, cx_286, cx_252] mTS2 mTC2 mRUp cx_287 [(29, [0]), (66, [1]), (97, [2])] [(5, [1001161, 1001162]), (43, [1001168, 1001169]), (52, [1001168, 1001170, 1001169, 1001171]), (69, [1001172]), (70, [1001035]), (83, [1001036]), (87, [1000667]), (88, uN1132), (95, [1001036]), (100, [1001042]), (106, [1001174, 1001175])] [(7, cz_287_0, (313, [(13, (-51))]))] (319, []) 766 53 = true := by decide +kernel
theorem sn_287 {W : Bool} {X : List Int32} : y_Snd (mGw W) mLT1 (J2 W X) X cx_287 := y_ok J2_J mTS2_ok1 mTC2_ok1 mRUp_ok1 (List.forall_mem_cons.mpr ⟨sn_285, List.forall_mem_cons.mpr ⟨sn_286, List.forall_mem_cons.mpr ⟨sn_252, fun _ h => absurd h List.not_mem_nil⟩⟩⟩) ck_287
def cx_288p : zS := ((cx_132pi_0 (cx_132pi_1 [])), [ur442, ur1251, ur536], [uL518, uL9, uL526, uL527, uL528], [], [uV2, uV419, uV11, uV12], [uF529, uF530, uF531, uF532, uF22], [uG1253, uG534])
def cx_288q0 : zS := ((cx_133q0i_0 (cx_133q0i_1 (cx_133q0i_2 []))), [ur442, ur1251, ur536], [uL528, uL526, uL518, uL9, uL527], [], [], (cx_133q0f_0 (cx_133q0f_1 [])), (cx_133q0g_0 []))
/-- Rules.lookAt -/
def cx_288 : zCtx := (88, cx_288p, [cx_288q0], [uk542], 79, 1, 64)
set_option maxRecDepth 1000000 in
theorem ck_288 : x_ok mLT1 [cx_286] mTS2 mTC2 mRUp cx_288 [(32, [0])] [(22, [1001168]), (58, [1000818]), (63, uN543), (95, [1001178]), (103, [1001179])] [] (65, []) 14 68 = true := by decide +kernel
theorem sn_288 {W : Bool} {X : List Int32} : y_Snd (mGw W) mLT1 (J2 W X) X cx_288 := y_ok J2_J mTS2_ok1 mTC2_ok1 mRUp_ok1 (List.forall_mem_cons.mpr ⟨sn_286, fun _ h => absurd h List.not_mem_nil⟩) ck_288
def cx_289p : zS := ((cx_144pi_0 (cx_144pi_1 [])), [ur442, ur1251, ur443, ur545, ur536], [uL592, uL9, uL593, uL67, uL594], [], [uV2, uV419, uV11, uV12, uV58], [uF554, uF555, uF595, uF596, uF597, uF598, uF599, uF430], [(236, [uL104, uL78, uL79, uL131, uL98, uL163, uL169, uL193, uL212, uL205, uL206]), uG590])
def cx_289q0 : zS := ((cx_144q0i_0 (cx_144q0i_1 [])), [ur442, ur1251, ur443, ur545, ur536], [uL594, uL593, uL592, uL9, uL67], [], [uV601], [], [uG602])
/-- Rules.joinOf -/
def cx_289 : zCtx := (90, cx_289p, [cx_289q0], [uk553, uk542], 52984, 2, 87)
set_option maxRecDepth 1000000 in
theorem ck_289 : x_ok mLT1 [cx_285, cx_288, cx_286, cx_136] mTS2 mTC2 mRUp cx_289 [(5, [0]), (8, [1]), (30, [0]), (33, [2]), (53, [3])] [(56, uN603), (62, uN604)] [] (35, []) 52949 38 = true := by decide +kernel
theorem sn_289 {W : Bool} {X : List Int32} : y_Snd (mGw W) mLT1 (J2 W X) X cx_289 := y_ok J2_J mTS2_ok1 mTC2_ok1 mRUp_ok1 (List.forall_mem_cons.mpr ⟨sn_285, List.forall_mem_cons.mpr ⟨sn_288, List.forall_mem_cons.mpr ⟨sn_286, List.forall_mem_cons.mpr ⟨sn_136, fun _ h => absurd h List.not_mem_nil⟩⟩⟩⟩) ck_289
def cx_290pr_0 (t : List (Nat × Bool)) : List (Nat × Bool) := ur1098 :: ur1251 :: ur1134 :: ur442 :: ur443 :: ur545 :: ur1254 :: ur1255 :: t
def cx_290pr_1 (t : List (Nat × Bool)) : List (Nat × Bool) := ur1256 :: ur1257 :: ur1258 :: ur562 :: ur588 :: ur536 :: t
def cx_290p : zS := ((cx_255pi_0 (cx_255pi_1 [])), (cx_290pr_0 (cx_290pr_1 [])), [uL518], [], [uV2, uV419, uV777, uV11], (cx_255pf_0 (cx_255pf_1 (cx_255pf_2 []))), [uG1253, uG1138])
def cx_290q0g_0 (t : List zTg) : List zTg := uG1253 :: uG1138 :: uG1139 :: t
def cx_290q0 : zS := ((cx_255pi_0 (cx_255pi_1 [])), (cx_290pr_0 (cx_290pr_1 [])), [], [], [], [], (cx_290q0g_0 []))
/-- Planner.findJoins -/
def cx_290 : zCtx := (70, cx_290p, [cx_290q0], [uk553, uk542, uk1140], 54866, 3, 111)
def cz_290_0g_0 (t : List zTg) : List zTg := uG1253 :: uG1138 :: uG1141 :: t
def cz_290_0 : zS := ((cz_255_0i_0 (cz_255_0i_1 [])), (cx_290pr_0 (cx_290pr_1 [])), [uL518, uL206, uL1142], [uV2, uV419, uV777, uV11, uV355, uV113, uV113, uV113], [], (cx_255pf_0 (cx_255pf_1 (cx_255pf_2 []))), (cz_290_0g_0 []))
def cz_290_1g_0 (t : List zTg) : List zTg := uG1253 :: uG1138 :: uG1143 :: t
def cz_290_1 : zS := ((cz_255_1i_0 (cz_255_1i_1 [])), (cx_290pr_0 (cx_290pr_1 [])), [uL518, uL63, uL23, uL206, uL1142, uL207, uL1144, uL1145], [uV2, uV419, uV777, uV11, uV355, uV601, uV113, uV113], [], (cx_255pf_0 (cx_255pf_1 (cx_255pf_2 []))), (cz_290_1g_0 []))
set_option maxRecDepth 1000000 in
theorem ck_290 : x_ok mLT1 [cx_254, cx_142, cx_289] mTS2 mTC2 mRUp cx_290 [(56, [0]), (65, [0]), (98, [1]), (117, [2])] [(1, [1001176]), (121, uN1146), (127, [1001180]), (133, [1001177])] [(3, cz_290_0, (1879, [(1, (-100000000000)), (14, (-312))])), (21, cz_290_1, (1870, [(1, (-100000000000)), (14, (-312)), (15, (-49))]))] (1882, []) 52984 51 = true := by decide +kernel
theorem sn_290 {W : Bool} {X : List Int32} : y_Snd (mGw W) mLT1 (J2 W X) X cx_290 := y_ok J2_J mTS2_ok1 mTC2_ok1 mRUp_ok1 (List.forall_mem_cons.mpr ⟨sn_254, List.forall_mem_cons.mpr ⟨sn_142, List.forall_mem_cons.mpr ⟨sn_289, fun _ h => absurd h List.not_mem_nil⟩⟩⟩) ck_290
def cx_291pr_0 (t : List (Nat × Bool)) : List (Nat × Bool) := ur1098 :: ur1251 :: ur442 :: ur443 :: ur545 :: ur1254 :: ur1255 :: ur1256 :: t
def cx_291pr_1 (t : List (Nat × Bool)) : List (Nat × Bool) := ur1257 :: ur1258 :: ur562 :: ur588 :: ur536 :: ur1099 :: ur1103 :: ur1134 :: t
def cx_291p : zS := ((cx_256pi_0 (cx_256pi_1 [])), (cx_291pr_0 (cx_291pr_1 [])), [uL789], [], [uV2, uV419], (cx_256pf_0 (cx_256pf_1 (cx_256pf_2 []))), [uG1259])
def cx_291q0g_0 (t : List zTg) : List zTg := uG1259 :: uG1119 :: uG1120 :: uG1122 :: uG1123 :: uG1124 :: uG1152 :: t
def cx_291q0 : zS := ((cx_256q0i_0 (cx_256q0i_1 [])), (cx_291pr_0 (cx_291pr_1 [])), [], [], [], [uF478], (cx_291q0g_0 []))
/-- Planner.lookAt -/
def cx_291 : zCtx := (67, cx_291p, [cx_291q0], [uk1125, uk553, uk542, uk1126, uk1140, uk1102], 54876, 4, 138)
set_option maxRecDepth 1000000 in
theorem ck_291 : x_ok mLT1 [cx_287, cx_290] mTS2 mTC2 mRUp cx_291 [(2, [0]), (12, [1])] [] [] (10, []) 54866 13 = true := by decide +kernel
theorem sn_291 {W : Bool} {X : List Int32} : y_Snd (mGw W) mLT1 (J2 W X) X cx_291 := y_ok J2_J mTS2_ok1 mTC2_ok1 mRUp_ok1 (List.forall_mem_cons.mpr ⟨sn_287, List.forall_mem_cons.mpr ⟨sn_290, fun _ h => absurd h List.not_mem_nil⟩⟩) ck_291
def cx_292p : zS := ((cx_137pi_0 (cx_137pi_1 [])), [ur442, ur1251, ur443, ur545, ur536], [uL518, uL9, uL526], [], [uV2, uV62, uV419, uV11], [uF554, uF555, uF556, uF529, uF530, uF531, uF532, uF430], [uG1260])
/-- Rules.lawOf -/
def cx_292 : zCtx := (87, cx_292p, [([ui0, (0, 5), ui31, (1, 6), (0, 6), ui49, ui49, ui49, ui49, ui49, ui49, ui49, ui49, ui537], [ur442, ur1251, ur443, ur545, ur536], [uL526, uL518, uL9], [], [uV408], [], [uG558])], [uk553, uk542], 52968, 2, 87)
set_option maxRecDepth 1000000 in
theorem ck_292 : x_ok mLT1 [cx_285, cx_288, cx_136] mTS2 mTC2 mRUp cx_292 [(5, [0]), (8, [1]), (26, [2])] [(29, uN559), (35, uN560)] [] (19, []) 52949 22 = true := by decide +kernel
theorem sn_292 {W : Bool} {X : List Int32} : y_Snd (mGw W) mLT1 (J2 W X) X cx_292 := y_ok J2_J mTS2_ok1 mTC2_ok1 mRUp_ok1 (List.forall_mem_cons.mpr ⟨sn_285, List.forall_mem_cons.mpr ⟨sn_288, List.forall_mem_cons.mpr ⟨sn_136, fun _ h => absurd h List.not_mem_nil⟩⟩⟩) ck_292
def cx_293p : zS := ((cx_137pi_0 (cx_137pi_1 [])), [ur442, ur1251, ur443, ur545, ur536], [uL518, uL9, uL526], [], [uV2, uV64, uV419, uV11], [uF554, uF555, uF556, uF529, uF530, uF531, uF532, uF430], [uG1260])
/-- Rules.lawOf -/
def cx_293 : zCtx := (87, cx_293p, [([ui0, (0, 5), ui31, (1, 6), (0, 6), ui49, ui49, ui49, ui49, ui49, ui49, ui49, ui49, ui537], [ur442, ur1251, ur443, ur545, ur536], [uL526, uL518, uL9], [], [uV408], [], [uG561])], [uk553, uk542], 52968, 2, 87)
set_option maxRecDepth 1000000 in
theorem ck_293 : x_ok mLT1 [cx_285, cx_288, cx_136] mTS2 mTC2 mRUp cx_293 [(5, [0]), (8, [1]), (26, [2])] [(29, uN559), (35, uN560)] [] (19, []) 52949 22 = true := by decide +kernel
theorem sn_293 {W : Bool} {X : List Int32} : y_Snd (mGw W) mLT1 (J2 W X) X cx_293 := y_ok J2_J mTS2_ok1 mTC2_ok1 mRUp_ok1 (List.forall_mem_cons.mpr ⟨sn_285, List.forall_mem_cons.mpr ⟨sn_288, List.forall_mem_cons.mpr ⟨sn_136, fun _ h => absurd h List.not_mem_nil⟩⟩⟩) ck_293
def cx_294pi_0 (t : List (Int × Int)) : List (Int × Int) := ui0 :: (0, 5) :: (0, 0) :: (0, 0) :: ui31 :: (0, 6) :: (0, 6) :: ui49 :: t
def cx_294pi_1 (t : List (Int × Int)) : List (Int × Int) := ui49 :: ui836 :: t
def cx_294p : zS := ((cx_294pi_0 (cx_294pi_1 [])), [ur442, ur1251, ur443, ur545, ur1258, ur1254], [uL592, uL9, uL593], [], [uV2, uV419, uV11, uV12, uV58], (cx_203pf_0 (cx_203pf_1 [])), [(236, [uL104, uL78, uL79, uL131, uL98, uL67, uL23, uL36, uL163, uL9, uL104])])
/-- Rules.ageHouse -/
def cx_294 : zCtx := (95, cx_294p, [([ui0, (0, 5), (0, 0), (0, 0), ui31, (1, 6), (0, 6), ui49, ui49, ui836], [ur442, ur1251, ur443, ur545, ur1258, ur1254], [uL593, uL592, uL9], [], [], [], [(236, [uL104, uL78, uL79, uL131, uL98, uL67, uL23, uL36, uL163, uL109, uL104])])], [uk553, uk542, uk1261, uk1262], 53026, 3, 110)
set_option maxRecDepth 1000000 in
theorem ck_294 : x_ok mLT1 [cx_285, cx_292, cx_293, cx_202] mTS2 mTC2 mRUp cx_294 [(13, [0]), (22, [1]), (36, [2]), (73, [3])] [(18, uN1263), (32, uN1264), (58, [1000934]), (62, uN1265), (70, [1000639]), (72, [1000637]), (93, [1000984]), (109, [1000985]), (112, uN861), (113, uN1266)] [] (58, []) 52968 61 = true := by decide +kernel
theorem sn_294 {W : Bool} {X : List Int32} : y_Snd (mGw W) mLT1 (J2 W X) X cx_294 := y_ok J2_J mTS2_ok1 mTC2_ok1 mRUp_ok1 (List.forall_mem_cons.mpr ⟨sn_285, List.forall_mem_cons.mpr ⟨sn_292, List.forall_mem_cons.mpr ⟨sn_293, List.forall_mem_cons.mpr ⟨sn_202, fun _ h => absurd h List.not_mem_nil⟩⟩⟩⟩) ck_294
def cx_295pi_0 (t : List (Int × Int)) : List (Int × Int) := ui0 :: (0, 0) :: (0, 0) :: ui31 :: (0, 6) :: (0, 6) :: ui49 :: ui49 :: t
def cx_295pi_1 (t : List (Int × Int)) : List (Int × Int) := ui836 :: t
def cx_295p : zS := ((cx_295pi_0 (cx_295pi_1 [])), [ur442, ur1251, ur443, ur545], [uL786], [], [uV2, uV419, uV11, uV12], [uF554, uF555, uF566, uF183, uF862, uF863, uF864, uF865], [(236, [uL98, uL104, uL78, uL79, uL23, uL9, uL67, uL36, uL131, uL63, uL98])])
/-- Rules.ageAll -/
def cx_295 : zCtx := (94, cx_295p, [([ui0, (0, 0), (0, 0), ui31, (0, 6), (0, 6), ui49, ui49, ui836, ui49], [ur442, ur1251, ur443, ur545], [], [], [], [uF866], [(236, [uL98, uL104, uL163, uL79, uL23, uL9, uL67, uL36, uL867, uL63, uL98])])], [uk553, uk542, (106, false, 7), uk1261, uk1262], 53125, 4, 137)
def cz_295_0i_0 (t : List (Int × Int)) : List (Int × Int) := ui0 :: (0, 0) :: (0, 0) :: ui31 :: (0, 6) :: (0, 6) :: ui49 :: ui49 :: t
def cz_295_0i_1 (t : List (Int × Int)) : List (Int × Int) := ui836 :: (0, 6) :: t
def cz_295_0 : zS := ((cz_295_0i_0 (cz_295_0i_1 [])), [ur442, ur1251, ur443, ur545], [uL786, uL868], [uV2, uV419, uV11, uV12, uV799], [], [uF554, uF555, uF566, uF183, uF862, uF863, uF864, uF865], [(236, [uL98, uL104, uL78, uL79, uL23, uL9, uL67, uL36, uL131, uL163, uL98])])
set_option maxRecDepth 1000000 in
theorem ck_295 : x_ok mLT1 [cx_294] mTS2 mTC2 mRUp cx_295 [(21, [0])] [(36, [1000637]), (37, [1001192])] [(3, cz_295_0, (96, [(1, (-100000000000)), (2, (-100000000000)), (9, (-14))]))] (99, []) 53026 16 = true := by decide +kernel
theorem sn_295 {W : Bool} {X : List Int32} : y_Snd (mGw W) mLT1 (J2 W X) X cx_295 := y_ok J2_J mTS2_ok1 mTC2_ok1 mRUp_ok1 (List.forall_mem_cons.mpr ⟨sn_294, fun _ h => absurd h List.not_mem_nil⟩) ck_295
def cx_296pr_0 (t : List (Nat × Bool)) : List (Nat × Bool) := ur1267 :: ur1098 :: ur431 :: ur442 :: ur443 :: ur545 :: ur1251 :: ur562 :: t
def cx_296pr_1 (t : List (Nat × Bool)) : List (Nat × Bool) := ur588 :: ur1254 :: ur432 :: ur1255 :: ur426 :: ur1256 :: ur563 :: ur1257 :: t
def cx_296pr_2 (t : List (Nat × Bool)) : List (Nat × Bool) := ur564 :: ur1258 :: ur565 :: ur536 :: ur823 :: ur1099 :: ur1103 :: ur1134 :: t
def cx_296pr_3 (t : List (Nat × Bool)) : List (Nat × Bool) := ur1166 :: ur1167 :: ur1168 :: t
def cx_296pf_0 (t : List zFa) : List zFa := uF429 :: uF1135 :: uF1136 :: uF449 :: uF616 :: uF1202 :: uF152 :: uF1268 :: t
def cx_296pf_1 (t : List zFa) : List zFa := uF304 :: uF218 :: uF1269 :: uF1270 :: uF607 :: uF1271 :: uF1272 :: uF1273 :: t
def cx_296pf_2 (t : List zFa) : List zFa := uF1274 :: uF1151 :: uF1275 :: uF1276 :: uF1277 :: uF1278 :: uF1279 :: uF1280 :: t
def cx_296pf_3 (t : List zFa) : List zFa := uF1281 :: uF1282 :: uF1283 :: uF1284 :: uF1285 :: uF1286 :: uF1287 :: uF1288 :: t
def cx_296p : zS := ([ui0, ui600, ui31, (0, 6), (0, 6), ui49, ui49, ui49], (cx_296pr_0 (cx_296pr_1 (cx_296pr_2 (cx_296pr_3 [])))), [uL518, uL9, uL845], [], [uV2, uV419, uV777, uV11], (cx_296pf_0 (cx_296pf_1 (cx_296pf_2 (cx_296pf_3 [])))), [uG620])
def cx_296q0i_0 (t : List (Int × Int)) : List (Int × Int) := ui0 :: ui600 :: ui31 :: (0, 6) :: (0, 6) :: ui49 :: ui49 :: ui49 :: t
def cx_296q0i_1 (t : List (Int × Int)) : List (Int × Int) := ui1289 :: t
def cx_296q0 : zS := ((cx_296q0i_0 (cx_296q0i_1 [])), (cx_296pr_0 (cx_296pr_1 (cx_296pr_2 (cx_296pr_3 [])))), [], [], [uV144], [], [uG620, (260, [uL1290, uL67, uL63, uL63, uL63, uL63, uL63, uL63, uL1291, uL79, uL131])])
def cx_296q1 : zS := ([ui0, ui600, ui31, (0, 6), (0, 6), ui49, ui49, ui49], (cx_296pr_0 (cx_296pr_1 (cx_296pr_2 (cx_296pr_3 [])))), [], [], [uV583], [], [uG620, (260, [uL1290, uL67, uL63, uL63, uL63, uL63, uL63, uL63, uL1291, uL79, uL825])])
/-- Forecast.yearsUntilHeld -/
def cx_296 : zCtx := (24, cx_296p, [cx_296q0, cx_296q1], kc_59, 56337, 5, 161)
def cz_296_0i_0 (t : List (Int × Int)) : List (Int × Int) := ui0 :: ui600 :: ui31 :: (0, 6) :: (0, 6) :: ui49 :: ui49 :: ui49 :: t
def cz_296_0i_1 (t : List (Int × Int)) : List (Int × Int) := ui877 :: ui49 :: t
def cz_296_0f_0 (t : List zFa) : List zFa := uF450 :: uF451 :: (6, (false, 7, 0, []), 0, 0, 0, [(9, 1)]) :: uF452 :: uF429 :: uF1135 :: uF1136 :: uF449 :: t
def cz_296_0f_1 (t : List zFa) : List zFa := uF616 :: uF1202 :: uF152 :: uF1268 :: uF304 :: uF218 :: uF1269 :: uF1270 :: t
def cz_296_0f_2 (t : List zFa) : List zFa := uF607 :: uF1271 :: uF1272 :: uF1273 :: uF1274 :: uF1151 :: uF1275 :: uF1276 :: t
def cz_296_0f_3 (t : List zFa) : List zFa := uF1277 :: uF1278 :: uF1279 :: uF1280 :: uF1281 :: uF1282 :: uF1283 :: uF1284 :: t
def cz_296_0f_4 (t : List zFa) : List zFa := uF1285 :: uF1286 :: uF1287 :: uF1288 :: t
def cz_296_0g_0 (t : List zTg) : List zTg := uG620 :: (236, [uL23, uL98, uL163, uL78, uL67, uL63, uL63, uL36, uL131, uL63, uL23]) :: (238, [uL1292, uL67, uL63, uL63, uL63, uL63, uL63, uL63, uL1291, uL79, uL131]) :: t
def cz_296_0 : zS := ((cz_296_0i_0 (cz_296_0i_1 [])), (cx_296pr_0 (cx_296pr_1 (cx_296pr_2 (cx_296pr_3 [])))), [uL518, uL9, uL845, uL131, (61, [(8, (-1))])], [uV2, uV419, uV777, uV11, uV144], [], (cz_296_0f_0 (cz_296_0f_1 (cz_296_0f_2 (cz_296_0f_3 (cz_296_0f_4 []))))), (cz_296_0g_0 []))
set_option maxRecDepth 1000000 in
theorem ck_296 : x_ok mLT1 [cx_284, cx_291, cx_264, cx_295] mTS2 mTC2 mRUp cx_296 [(5, [0]), (23, [1]), (28, [2]), (51, [3])] [(8, [1001158, 1001159, 1001160]), (38, [1001181]), (41, [1001182]), (60, [1001193])] [(11, cz_296_0, (1454, [(8, (-23))]))] (1461, []) 54876 25 = true := by decide +kernel
theorem sn_296 {W : Bool} {X : List Int32} : y_Snd (mGw W) mLT1 (J2 W X) X cx_296 := y_ok J2_J mTS2_ok1 mTC2_ok1 mRUp_ok1 (List.forall_mem_cons.mpr ⟨sn_284, List.forall_mem_cons.mpr ⟨sn_291, List.forall_mem_cons.mpr ⟨sn_264, List.forall_mem_cons.mpr ⟨sn_295, fun _ h => absurd h List.not_mem_nil⟩⟩⟩⟩) ck_296
def cx_297pi_0 (t : List (Int × Int)) : List (Int × Int) := ui0 :: ui49 :: ui31 :: (0, 6) :: (0, 6) :: ui49 :: ui49 :: ui49 :: t
def cx_297pi_1 (t : List (Int × Int)) : List (Int × Int) := ui194 :: ui49 :: t
def cx_297pr_0 (t : List (Nat × Bool)) : List (Nat × Bool) := ur441 :: ur442 :: ur443 :: ur545 :: ur431 :: ur588 :: ur562 :: ur432 :: t
def cx_297pr_1 (t : List (Nat × Bool)) : List (Nat × Bool) := ur426 :: ur563 :: ur564 :: ur565 :: ur536 :: ur1267 :: ur1251 :: ur1254 :: t
def cx_297pr_2 (t : List (Nat × Bool)) : List (Nat × Bool) := ur1255 :: ur1256 :: ur1257 :: ur1258 :: ur1098 :: ur1099 :: ur1103 :: ur1134 :: t
def cx_297pr_3 (t : List (Nat × Bool)) : List (Nat × Bool) := ur1166 :: ur1167 :: ur1168 :: t
def cx_297pf_0 (t : List zFa) : List zFa := uF13 :: uF516 :: uF555 :: uF556 :: uF152 :: uF567 :: uF616 :: uF617 :: t
def cx_297pf_1 (t : List zFa) : List zFa := uF618 :: uF619 :: uF605 :: uF410 :: uF606 :: uF607 :: uF608 :: uF609 :: t
def cx_297pf_2 (t : List zFa) : List zFa := uF610 :: uF1293 :: uF1294 :: uF464 :: uF1295 :: uF1232 :: uF1296 :: uF1297 :: t
def cx_297pf_3 (t : List zFa) : List zFa := uF1298 :: uF1299 :: uF1300 :: uF1301 :: uF162 :: (0, (false, 6, 0, []), 2, 20, 0, []) :: (20, (false, 0, 0, []), 2, 1, 0, []) :: (20, (false, 9, 0, []), 2, 21, 0, []) :: t
def cx_297pf_4 (t : List zFa) : List zFa := uF474 :: (20, (false, 2, 0, []), 2, 23, 0, []) :: (20, (false, 4, 0, []), 2, 24, 0, []) :: (20, (false, 5, 0, []), 2, 25, 0, []) :: (20, (false, 6, 0, []), 2, 26, 0, []) :: t
def cx_297p : zS := ((cx_297pi_0 (cx_297pi_1 [])), (cx_297pr_0 (cx_297pr_1 (cx_297pr_2 (cx_297pr_3 [])))), [], [], [uV2, uV11], (cx_297pf_0 (cx_297pf_1 (cx_297pf_2 (cx_297pf_3 (cx_297pf_4 []))))), [uG620])
def cx_297q0i_0 (t : List (Int × Int)) : List (Int × Int) := ui0 :: ui260 :: ui31 :: (0, 6) :: (0, 6) :: ui49 :: ui49 :: ui49 :: t
def cx_297q0i_1 (t : List (Int × Int)) : List (Int × Int) := ui194 :: ui49 :: t
def cx_297q0 : zS := ((cx_297q0i_0 (cx_297q0i_1 [])), (cx_297pr_0 (cx_297pr_1 (cx_297pr_2 (cx_297pr_3 [])))), [], [], [uV61], [uF616, uF617, uF618, uF619], [uG620])
def cx_297q1i_0 (t : List (Int × Int)) : List (Int × Int) := ui0 :: ui820 :: ui31 :: (0, 6) :: (0, 6) :: ui49 :: ui49 :: ui49 :: t
def cx_297q1i_1 (t : List (Int × Int)) : List (Int × Int) := ui194 :: ui49 :: t
def cx_297q1 : zS := ((cx_297q1i_0 (cx_297q1i_1 [])), (cx_297pr_0 (cx_297pr_1 (cx_297pr_2 (cx_297pr_3 [])))), [], [], [uV61], [uF616, uF617, uF618, uF619], [uG620])
def cx_297q2i_0 (t : List (Int × Int)) : List (Int × Int) := ui0 :: ui600 :: ui31 :: (0, 6) :: (0, 6) :: ui49 :: ui49 :: ui49 :: t
def cx_297q2i_1 (t : List (Int × Int)) : List (Int × Int) := ui194 :: ui49 :: t
def cx_297q2 : zS := ((cx_297q2i_0 (cx_297q2i_1 [])), (cx_297pr_0 (cx_297pr_1 (cx_297pr_2 (cx_297pr_3 [])))), [], [], [uV583], [uF616, uF617, uF618, uF619], [uG620, (260, [uL1290, uL67, uL63, uL63, uL63, uL63, uL63, uL63, uL1291, uL163, uL825])])
def cx_297q3i_0 (t : List (Int × Int)) : List (Int × Int) := ui0 :: ui600 :: ui31 :: (0, 6) :: (0, 6) :: ui49 :: ui49 :: ui49 :: t
def cx_297q3i_1 (t : List (Int × Int)) : List (Int × Int) := ui194 :: ui49 :: ui1289 :: t
def cx_297q3 : zS := ((cx_297q3i_0 (cx_297q3i_1 [])), (cx_297pr_0 (cx_297pr_1 (cx_297pr_2 (cx_297pr_3 [])))), [], [], [uV854], [uF616, uF617, uF618, uF619], [uG620, (260, [uL1290, uL67, uL63, uL63, uL63, uL63, uL63, uL63, uL1291, uL163, uL169])])
/-- HairRope.soon -/
def cx_297 : zCtx := (163, cx_297p, [cx_297q0, cx_297q1, cx_297q2, cx_297q3], kc_59, 56350, 6, 185)
set_option maxRecDepth 1000000 in
theorem ck_297 : x_ok mLT1 [cx_195, cx_296] mTS2 mTC2 mRUp cx_297 [(1, [0]), (20, [1])] [] [] (13, []) 56337 16 = true := by decide +kernel
theorem sn_297 {W : Bool} {X : List Int32} : y_Snd (mGw W) mLT1 (J2 W X) X cx_297 := y_ok J2_J mTS2_ok1 mTC2_ok1 mRUp_ok1 (List.forall_mem_cons.mpr ⟨sn_195, List.forall_mem_cons.mpr ⟨sn_296, fun _ h => absurd h List.not_mem_nil⟩⟩) ck_297
/-- Planner.findJoins -/
def cx_298 : zCtx := (70, ([ui0, (1, 1), ui877], [ur1098, ur431, ur1302], [], [], [uV2, uV419, uV777, uV11], [uF1133], []), [([ui0, (1, 1), ui877], [ur1098, ur431, ur1302], [], [], [], [], [])], [uk553, uk542, uk1303], 54722, 3, 111)
set_option maxRecDepth 1000000 in
theorem ck_298 : x_ok mLT1 [cx_254, cx_272] mTS2 mTC2 mRUp cx_298 [(56, [0]), (65, [0]), (117, [1])] [] [(3, ([(0, 3072), (1, 1), (0, 63), (0, 6)], [(9, false), (6, false), (36, false)], [], [(2, 0, 0, []), (2, 1, 0, []), (2, 2, 0, []), (0, 0, 0, [(1, 1)]), (0, 0, 0, [(3, 1)]), (5, 0, 0, []), (5, 0, 0, []), (5, 0, 0, [])], [], [(0, (false, 10, 0, []), 0, 0, 0, [(2, 1)])], []), ((-99999998265), [(1, 100000000000), (3, (-288))])), (21, ([(0, 3072), (1, 1), (0, 63), (0, 5), (0, 6), (1, 6)], [(9, false), (6, false), (36, false), (5, false), (2, false)], [], [(2, 0, 0, []), (2, 1, 0, []), (2, 2, 0, []), (0, 0, 0, [(1, 1)]), (0, 0, 0, [(3, 1)]), (0, 0, 0, [(4, 1)]), (5, 0, 0, []), (5, 0, 0, [])], [], [(0, (false, 0, 0, []), 2, 3, 0, []), (0, (false, 10, 0, []), 0, 0, 0, [(2, 1)]), (3, (false, 3, 0, []), 2, 4, 0, []), (4, (false, 5, 0, []), 0, 0, 0, [(5, 1)])], []), ((-99999998274), [(1, 100000000000), (3, (-288)), (4, (-45))]))] (1738, []) 52984 47 = true := by decide +kernel
theorem sn_298 {W : Bool} {X : List Int32} : y_Snd (mGw W) mLT1 (J2 W X) X cx_298 := y_ok J2_J mTS2_ok1 mTC2_ok1 mRUp_ok1 (List.forall_mem_cons.mpr ⟨sn_254, List.forall_mem_cons.mpr ⟨sn_272, fun _ h => absurd h List.not_mem_nil⟩⟩) ck_298
/-- Planner.isPair -/
def cx_299 : zCtx := (81, ([ui0, ui438, ui877], [ur1098], [], [], [uV2, uV11], [uF1133], []), [([ui0, ui438, ui877], [ur1098], [], [], [uV62], [], []), ([ui0, ui438, ui877], [ur1098], [], [], [uV64], [], [])], [], 32, 1, 21)
set_option maxRecDepth 1000000 in
theorem ck_299 : x_ok mLT1 [cx_254] mTS2 mTC2 mRUp cx_299 [(17, [0]), (25, [0])] [] [] (22, []) 10 25 = true := by decide +kernel
theorem sn_299 {W : Bool} {X : List Int32} : y_Snd (mGw W) mLT1 (J2 W X) X cx_299 := y_ok J2_J mTS2_ok1 mTC2_ok1 mRUp_ok1 (List.forall_mem_cons.mpr ⟨sn_254, fun _ h => absurd h List.not_mem_nil⟩) ck_299
/-- Planner.exchangeJoin -/
def cx_300 : zCtx := (84, ([ui0, ui438], [ur1098], [], [], [uV2, uV11], [], []), [([ui0, ui1304], [ur1098], [], [], [], [], []), ([ui0, ui1305], [ur1098], [], [], [], [], [])], [uk1140, uk1303], 31, 0, 0)
set_option maxRecDepth 1000000 in
theorem ck_300 : x_ok mLT1 [] mTS2 mTC2 mRUp cx_300 [] [] [] (31, []) 0 34 = true := by decide +kernel
theorem sn_300 {W : Bool} {X : List Int32} : y_Snd (mGw W) mLT1 (J2 W X) X cx_300 := y_ok J2_J mTS2_ok1 mTC2_ok1 mRUp_ok1 (fun _ h => absurd h List.not_mem_nil) ck_300
/-- Planner.exchangePair -/
def cx_301 : zCtx := (83, ([ui0, ui438], [ur1098], [], [], [uV2, uV11], [], []), [([ui0, ui1305], [ur1098], [], [], [], [], []), ([ui0, ui1304], [ur1098], [], [], [], [], [])], [uk1140, uk1303], 46, 1, 22)
set_option maxRecDepth 1000000 in
theorem ck_301 : x_ok mLT1 [cx_300] mTS2 mTC2 mRUp cx_301 [(2, [0]), (18, [0])] [] [] (15, []) 31 18 = true := by decide +kernel
theorem sn_301 {W : Bool} {X : List Int32} : y_Snd (mGw W) mLT1 (J2 W X) X cx_301 := y_ok J2_J mTS2_ok1 mTC2_ok1 mRUp_ok1 (List.forall_mem_cons.mpr ⟨sn_300, fun _ h => absurd h List.not_mem_nil⟩) ck_301
/-- Planner.holdsWith -/
def cx_302 : zCtx := (82, ([ui0, ui438, ui1304, ui600, ui600, ui877, ui1306, ui1242, ui877], [ur1098], [], [], [uV2, uV11, uV12, uV58], [uF139, uF1307, uF1243, uF1244, uF1245], []), [([ui0, ui1304, ui1304, ui600, ui600, ui877, ui1306, ui1242, ui877, ui877, ui1242, ui512], [ur1098], [], [], [uV64], [uF1308, uF1309, uF1310, uF40], []), ([ui0, ui1304, ui1304, ui600, ui600, ui877, ui1306, ui1242, ui877, ui877, ui1242, ui1306], [ur1098], [], [], [uV62], [uF1308, uF1309, uF1310, uF40], []), ([ui0, ui1305, ui1304, ui600, ui600, ui877, ui1306, ui1242, ui877, ui877, ui1242, ui512], [ur1098], [uL513], [], [uV64], [uF1308, uF1309, uF1310, uF40], []), ([ui0, ui1305, ui1304, ui600, ui600, ui877, ui1306, ui1242, ui877, ui877, ui1242, ui1306], [ur1098], [uL513], [], [uV62], [uF1308, uF1309, uF1310, uF40], [])], kc_60, 1643, 5, 161)
set_option maxRecDepth 1000000 in
theorem ck_302 : x_ok mLT1 [cx_301, cx_280] mTS2 mTC2 mRUp cx_302 [(2, [0]), (12, [0]), (17, [1]), (36, [0]), (46, [0])] [] [] (29, []) 1614 32 = true := by decide +kernel
theorem sn_302 {W : Bool} {X : List Int32} : y_Snd (mGw W) mLT1 (J2 W X) X cx_302 := y_ok J2_J mTS2_ok1 mTC2_ok1 mRUp_ok1 (List.forall_mem_cons.mpr ⟨sn_301, List.forall_mem_cons.mpr ⟨sn_280, fun _ h => absurd h List.not_mem_nil⟩⟩) ck_302
/-- Planner.peaceAnswer -/
def cx_303 : zCtx := (85, ([ui0, (1, 2), ui438, ui1311, (0, 2)], [], [], [], [uV11, uV12, uV58, uV97], [], []), [([ui0, (1, 2), ui438, ui1311, (0, 0)], [], [], [], [uV11], [], []), ([ui0, (1, 2), ui438, ui1311, (1, 1), ui1312], [], [], [], [uV75], [], []), ([ui0, (1, 2), ui438, ui124, (2, 2)], [], [], [], [uV61], [], []), ([ui0, (1, 2), ui438, ui1304, (2, 2), ui1313], [], [], [], [uV75], [], [])], [], 20, 0, 0)
set_option maxRecDepth 1000000 in
theorem ck_303 : x_ok mLT1 [] mTS2 mTC2 mRUp cx_303 [] [] [] (20, []) 0 23 = true := by decide +kernel
theorem sn_303 {W : Bool} {X : List Int32} : y_Snd (mGw W) mLT1 (J2 W X) X cx_303 := y_ok J2_J mTS2_ok1 mTC2_ok1 mRUp_ok1 (fun _ h => absurd h List.not_mem_nil) ck_303
/-- Planner.makePeace -/
def cx_304 : zCtx := (80, ([ui0, ui600, (0, 2), ui49, ui877, ui49, ui49, ui49], [ur1098, ur431], [], [], [uV2, uV419, uV11, uV12], [uF40, uF1314, (0, (false, 11, 0, []), 0, 0, 0, [(5, 1)]), (0, (false, 12, 0, []), 0, 0, 0, [(6, 1)]), uF1246], []), [([ui0, ui600, (0, 0), ui49, ui877, ui49, ui49, ui49, ui877, ui1242, ui512], [ur1098, ur431], [], [], [uV62], [uF1245, uF1315, uF1190, uF1226], []), ([ui0, ui600, (1, 2), ui49, ui877, ui49, ui49, ui49, ui877, ui1242, ui512], [ur1098, ur431], [], [], [uV61], [uF1245, uF1315, uF1190, uF1226], []), ([ui0, ui600, (1, 1), ui49, ui877, ui49, ui49, ui49, ui1312, ui877, ui1242, ui512], [ur1098, ur431], [], [], [uV144], [uF1308, uF1309, uF1310, uF1226], []), ([ui0, ui600, (0, 0), ui49, ui877, ui49, ui49, ui49, ui877, ui1242, ui512], [ur1098, ur431], [], [], [uV64], [uF1245, uF1315, uF1190, uF1226], []), ([ui0, ui600, (0, 2), ui49, ui877, ui49, ui49, ui49, ui877, ui1242, ui1306], [ur1098, ur431], [], [], [uV583], [uF1245, uF1315, uF1190, uF1226], []), ([ui0, ui600, (2, 2), ui49, ui877, ui49, ui49, ui49, ui1313, ui877, ui1242, ui512], [ur1098, ur431], [], [], [uV144], [uF1308, uF1309, uF1310, uF1226], []), ([ui0, ui600, (0, 0), ui49, ui877, ui49, ui49, ui49, ui877, ui1242, ui512], [ur1098, ur431], [], [], [uV388], [uF1245, uF1315, uF1190, uF1226], [])], kc_61, 87944, 6, 185)
set_option maxRecDepth 1000000 in
theorem ck_304 : x_ok mLT1 [cx_280, cx_298, cx_299, cx_302, cx_303] mTS2 mTC2 mRUp cx_304 [(2, [0]), (29, [1]), (49, [2]), (61, [3]), (72, [4]), (108, [2]), (117, [2]), (129, [3]), (141, [4])] [] [(39, ([(0, 3072), (0, 999), (0, 2), ((-2147483648), 2147483647), (0, 63), ((-2147483648), 2147483647), ((-2147483648), 2147483647), ((-2147483648), 2147483647), (0, 40), (0, 63), ((-2), 2147483647), ((-2147483648), 0)], [(9, false), (6, false), (36, false)], [], [(2, 0, 0, []), (2, 1, 0, []), (0, 0, 0, [(1, 1)]), (0, 0, 0, [(2, 1)]), (0, 0, 36, []), (0, 0, 0, [(8, 1)]), (5, 0, 0, [])], [], [(0, (false, 3, 0, []), 2, 2, 0, []), (0, (false, 14, 0, []), 0, 0, 0, [(9, 1)]), (0, (false, 12, 0, []), 0, 0, 0, [(10, 1)]), (0, (false, 11, 0, []), 0, 0, 0, [(11, 1)]), (0, (false, 7, 0, []), 0, 0, 0, [(1, 1)]), (0, (false, 10, 0, []), 0, 0, 0, [(4, 1)])], []), (33205, [(8, (-16))])), (85, ([(0, 3072), (0, 999), (0, 2), ((-2147483648), 2147483647), (0, 63), ((-2147483648), 2147483647), ((-2147483648), 2147483647), ((-2147483648), 2147483647), (0, 41), (0, 63), ((-2), 2147483647), ((-2147483648), 0)], [(9, false), (6, false), (36, false)], [], [(2, 0, 0, []), (2, 1, 0, []), (0, 0, 0, [(1, 1)]), (0, 0, 0, [(2, 1)]), (0, 0, 36, []), (0, 0, 0, [(8, 1)]), (5, 0, 0, [])], [], [(0, (false, 3, 0, []), 2, 2, 0, []), (0, (false, 14, 0, []), 0, 0, 0, [(9, 1)]), (0, (false, 12, 0, []), 0, 0, 0, [(10, 1)]), (0, (false, 11, 0, []), 0, 0, 0, [(11, 1)]), (0, (false, 7, 0, []), 0, 0, 0, [(1, 1)]), (0, (false, 10, 0, []), 0, 0, 0, [(4, 1)])], []), (32559, [(8, (-794))])), (98, ([(0, 3072), (0, 999), (0, 2), ((-2147483648), 2147483647), (0, 63), ((-2147483648), 2147483647), ((-2147483648), 2147483647), ((-2147483648), 2147483647), (0, 40), (1, 40), (0, 63), ((-2), 2147483647), ((-2147483648), 0)], [(9, false), (6, false), (36, false)], [], [(2, 0, 0, []), (2, 1, 0, []), (0, 0, 0, [(1, 1)]), (0, 0, 0, [(2, 1)]), (0, 0, 36, []), (0, 0, 0, [(8, 1)]), (0, 0, 0, [(9, 1)])], [], [(0, (false, 3, 0, []), 2, 2, 0, []), (0, (false, 14, 0, []), 0, 0, 0, [(10, 1)]), (0, (false, 12, 0, []), 0, 0, 0, [(11, 1)]), (0, (false, 11, 0, []), 0, 0, 0, [(12, 1)]), (0, (false, 7, 0, []), 0, 0, 0, [(1, 1)]), (0, (false, 10, 0, []), 0, 0, 0, [(4, 1)])], []), (32571, [(8, (-774)), (9, (-20))]))] (33222, []) 54722 26 = true := by decide +kernel
theorem sn_304 {W : Bool} {X : List Int32} : y_Snd (mGw W) mLT1 (J2 W X) X cx_304 := y_ok J2_J mTS2_ok1 mTC2_ok1 mRUp_ok1 (List.forall_mem_cons.mpr ⟨sn_280, List.forall_mem_cons.mpr ⟨sn_298, List.forall_mem_cons.mpr ⟨sn_299, List.forall_mem_cons.mpr ⟨sn_302, List.forall_mem_cons.mpr ⟨sn_303, fun _ h => absurd h List.not_mem_nil⟩⟩⟩⟩⟩) ck_304
/-- HairRope.peace -/
def cx_305 : zCtx := (164, ([ui0, ui49, ui49], [ur441], [], [], [uV2, uV11, uV12], [], []), [([ui0, ui49, ui49], [ur441], [], [], [uV61], [], []), ([ui0, ui600, (0, 0)], [ur441], [], [], [uV388], [], []), ([ui0, ui600, (1, 2), ui1312], [ur441], [], [], [uV58], [], []), ([ui0, ui600, (0, 2)], [ur441], [], [], [uV583], [], []), ([ui0, ui600, (0, 0)], [ur441], [], [], [uV64], [], []), ([ui0, ui600, (0, 0)], [ur441], [], [], [uV62], [], [])], kc_62, 87965, 7, 211)
set_option maxRecDepth 1000000 in
theorem ck_305 : x_ok mLT1 [cx_195, cx_274, cx_304] mTS2 mTC2 mRUp cx_305 [(1, [0]), (26, [1]), (39, [2])] [] [] (21, []) 87944 24 = true := by decide +kernel
theorem sn_305 {W : Bool} {X : List Int32} : y_Snd (mGw W) mLT1 (J2 W X) X cx_305 := y_ok J2_J mTS2_ok1 mTC2_ok1 mRUp_ok1 (List.forall_mem_cons.mpr ⟨sn_195, List.forall_mem_cons.mpr ⟨sn_274, List.forall_mem_cons.mpr ⟨sn_304, fun _ h => absurd h List.not_mem_nil⟩⟩⟩) ck_305
/-- Rules.lawOf -/
def cx_306 : zCtx := (87, ([ui0, (0, 5)], [ur442, ur431], [], [], [uV2, uV384, uV419, uV11], [], []), [([ui0, (0, 5), ui537], [ur442, ur431], [], [], [uV12], [], [])], [uk553, uk542], 52968, 2, 87)
set_option maxRecDepth 1000000 in
theorem ck_306 : x_ok mLT1 [cx_267, cx_271, cx_136] mTS2 mTC2 mRUp cx_306 [(5, [0]), (8, [1]), (26, [2])] [] [] (19, []) 52949 22 = true := by decide +kernel
theorem sn_306 {W : Bool} {X : List Int32} : y_Snd (mGw W) mLT1 (J2 W X) X cx_306 := y_ok J2_J mTS2_ok1 mTC2_ok1 mRUp_ok1 (List.forall_mem_cons.mpr ⟨sn_267, List.forall_mem_cons.mpr ⟨sn_271, List.forall_mem_cons.mpr ⟨sn_136, fun _ h => absurd h List.not_mem_nil⟩⟩⟩) ck_306
/-- Giving.lookAt -/
def cx_307 : zCtx := (33, ([ui0], [ur1316, ur431], [], [], [uV2, uV419], [], []), [([ui0], [ur1316, ur431], [], [], [], [], [])], [uk1125, uk553, uk542, uk1126, uk1102, uk1317], 53144, 3, 110)
set_option maxRecDepth 1000000 in
theorem ck_307 : x_ok mLT1 [cx_270, cx_267, cx_306] mTS2 mTC2 mRUp cx_307 [(5, [0]), (37, [1]), (50, [2])] [] [(10, ([(0, 3072), (0, 6), (0, 63)], [(10, false), (6, false), (9, false)], [], [(2, 0, 0, []), (2, 1, 0, []), (0, 0, 0, [(1, 1)])], [], [(0, (false, 1, 0, []), 2, 2, 0, []), (2, (false, 10, 0, []), 0, 0, 0, [(2, 1)])], []), (169, [(1, (-27))]))] (176, []) 52968 29 = true := by decide +kernel
theorem sn_307 {W : Bool} {X : List Int32} : y_Snd (mGw W) mLT1 (J2 W X) X cx_307 := y_ok J2_J mTS2_ok1 mTC2_ok1 mRUp_ok1 (List.forall_mem_cons.mpr ⟨sn_270, List.forall_mem_cons.mpr ⟨sn_267, List.forall_mem_cons.mpr ⟨sn_306, fun _ h => absurd h List.not_mem_nil⟩⟩⟩) ck_307
/-- Giving.gain -/
def cx_308 : zCtx := (36, ([ui0, ui877, (0, 5)], [ur1316], [], [], [uV2, uV11, uV12], [], []), [([ui0, ui877, (0, 5), ui49], [ur1316], [], [], [uV58], [], [])], [], 52, 1, 21)
set_option maxRecDepth 1000000 in
theorem ck_308 : x_ok mLT1 [cx_277] mTS2 mTC2 mRUp cx_308 [(5, [0])] [] [] (35, []) 17 38 = true := by decide +kernel
theorem sn_308 {W : Bool} {X : List Int32} : y_Snd (mGw W) mLT1 (J2 W X) X cx_308 := y_ok J2_J mTS2_ok1 mTC2_ok1 mRUp_ok1 (List.forall_mem_cons.mpr ⟨sn_277, fun _ h => absurd h List.not_mem_nil⟩) ck_308
/-- Giving.isRest -/
def cx_309 : zCtx := (35, ([ui0, ui877], [ur1316], [], [], [uV2, uV11], [], []), [([ui0, ui877], [ur1316], [], [], [uV62], [], []), ([ui0, ui877], [ur1316], [], [], [uV64], [], [])], [], 222, 2, 45)
set_option maxRecDepth 1000000 in
theorem ck_309 : x_ok mLT1 [cx_308] mTS2 mTC2 mRUp cx_309 [(29, [0]), (35, [0])] [] [(2, ([(0, 3072), (0, 63), (0, 6)], [(10, false)], [], [(2, 0, 0, []), (0, 0, 0, [(1, 1)]), (0, 0, 0, [(2, 1)]), (5, 0, 0, [])], [], [], []), (167, [(2, (-27))]))] (170, []) 52 29 = true := by decide +kernel
theorem sn_309 {W : Bool} {X : List Int32} : y_Snd (mGw W) mLT1 (J2 W X) X cx_309 := y_ok J2_J mTS2_ok1 mTC2_ok1 mRUp_ok1 (List.forall_mem_cons.mpr ⟨sn_308, fun _ h => absurd h List.not_mem_nil⟩) ck_309
/-- Giving.findRests -/
def cx_310 : zCtx := (34, ([ui0], [ur1316], [], [], [uV2], [], []), [([ui0], [ur1316], [], [], [], [], [])], [(10, false, 3), (10, false, 4)], 2539, 3, 68)
set_option maxRecDepth 1000000 in
theorem ck_310 : x_ok mLT1 [cx_309, cx_257] mTS2 mTC2 mRUp cx_310 [(35, [0]), (49, [1]), (56, [1])] [] [(13, ([(0, 3072), (0, 64)], [(10, false)], [], [(2, 0, 0, []), (0, 0, 0, [(1, 1)])], [], [], []), (2308, [(1, (-36))]))] (2317, []) 222 38 = true := by decide +kernel
theorem sn_310 {W : Bool} {X : List Int32} : y_Snd (mGw W) mLT1 (J2 W X) X cx_310 := y_ok J2_J mTS2_ok1 mTC2_ok1 mRUp_ok1 (List.forall_mem_cons.mpr ⟨sn_309, List.forall_mem_cons.mpr ⟨sn_257, fun _ h => absurd h List.not_mem_nil⟩⟩) ck_310
/-- HairRope.rests -/
def cx_311 : zCtx := (165, ([ui0, ui49], [ur441], [], [], [uV2, uV11], [], []), [([ui0, ui1096], [ur441], [], [], [uV61], [], []), ([ui0, (0, 0), ui49], [ur441], [], [], [uV12], [], []), ([ui0, (1, 1), ui49], [ur441], [], [], [uV12], [], []), ([ui0, ui260], [ur441], [], [], [uV61], [], [])], kc_63, 53164, 4, 132)
set_option maxRecDepth 1000000 in
theorem ck_311 : x_ok mLT1 [cx_307, cx_310] mTS2 mTC2 mRUp cx_311 [(19, [0]), (26, [1])] [] [] (20, []) 53144 23 = true := by decide +kernel
theorem sn_311 {W : Bool} {X : List Int32} : y_Snd (mGw W) mLT1 (J2 W X) X cx_311 := y_ok J2_J mTS2_ok1 mTC2_ok1 mRUp_ok1 (List.forall_mem_cons.mpr ⟨sn_307, List.forall_mem_cons.mpr ⟨sn_310, fun _ h => absurd h List.not_mem_nil⟩⟩) ck_311
def cx_312pr_0 (t : List (Nat × Bool)) : List (Nat × Bool) := ur1316 :: ur431 :: ur442 :: ur443 :: ur1098 :: ur432 :: ur426 :: ur563 :: t
def cx_312pr_1 (t : List (Nat × Bool)) : List (Nat × Bool) := ur564 :: ur565 :: ur562 :: ur1099 :: ur1103 :: (41, false) :: ur536 :: t
def cx_312pf_0 (t : List zFa) : List zFa := uF151 :: uF446 :: uF1318 :: uF430 :: uF1319 :: uF1082 :: uF615 :: uF1320 :: t
def cx_312pf_1 (t : List zFa) : List zFa := uF1321 :: uF859 :: uF1148 :: uF229 :: uF230 :: uF1149 :: uF1150 :: uF1322 :: t
def cx_312pf_2 (t : List zFa) : List zFa := uF1137 :: uF1323 :: uF1324 :: t
def cx_312p : zS := ((cx_192pi_0 (cx_192pi_1 [])), (cx_312pr_0 (cx_312pr_1 [])), [uL1325], [], [uV2, uV419], (cx_312pf_0 (cx_312pf_1 (cx_312pf_2 []))), [uG1326])
def cx_312q0i_0 (t : List (Int × Int)) : List (Int × Int) := ui0 :: (0, 6) :: (0, 6) :: ui49 :: ui49 :: ui49 :: ui49 :: ui49 :: t
def cx_312q0i_1 (t : List (Int × Int)) : List (Int × Int) := ui49 :: ui49 :: ui49 :: ui49 :: ui877 :: ui1118 :: t
def cx_312q0g_0 (t : List zTg) : List zTg := uG1326 :: (277, [uL104, uL78, uL79, uL131, uL163, uL169, uL193, uL205]) :: (104, [uL65, uL9, uL205]) :: (238, [uL1121, uL104, uL78, uL79, uL131, uL163, uL169, uL193, uL9, uL63, uL212]) :: (238, [uL1121, uL104, uL78, uL79, uL131, uL163, uL169, uL193, uL250, uL63, uL212]) :: t
def cx_312q0 : zS := ((cx_312q0i_0 (cx_312q0i_1 [])), (cx_312pr_0 (cx_312pr_1 [])), [], [], [], [(4, (false, 10, 0, []), 0, 0, 0, [(12, 1)])], (cx_312q0g_0 []))
/-- Giving.lookAt -/
def cx_312 : zCtx := (33, cx_312p, [cx_312q0], [uk1125, uk553, uk542, uk1126, uk1102, uk1317], 53144, 3, 110)
def cz_312_0i_0 (t : List (Int × Int)) : List (Int × Int) := ui0 :: (0, 6) :: (0, 6) :: ui49 :: ui49 :: ui49 :: ui49 :: ui49 :: t
def cz_312_0i_1 (t : List (Int × Int)) : List (Int × Int) := ui49 :: ui49 :: ui49 :: ui49 :: (0, 6) :: ui877 :: ui1118 :: t
def cz_312_0f_0 (t : List zFa) : List zFa := (4, (false, 10, 0, []), 0, 0, 0, [(13, 1)]) :: uF151 :: uF446 :: uF1318 :: uF430 :: uF1319 :: uF1082 :: uF615 :: t
def cz_312_0f_1 (t : List zFa) : List zFa := uF1320 :: uF1321 :: uF859 :: uF1148 :: uF229 :: uF230 :: uF1149 :: uF1150 :: t
def cz_312_0f_2 (t : List zFa) : List zFa := uF1322 :: uF1137 :: uF1323 :: uF1324 :: t
def cz_312_0g_0 (t : List zTg) : List zTg := uG1326 :: (277, [uL104, uL78, uL79, uL131, uL163, uL169, uL193, uL206]) :: (104, [uL65, uL9, uL206]) :: (238, [uL1121, uL104, uL78, uL79, uL131, uL163, uL169, uL193, uL9, uL63, uL205]) :: (238, [uL1121, uL104, uL78, uL79, uL131, uL163, uL169, uL193, uL250, uL63, uL205]) :: t
def cz_312_0 : zS := ((cz_312_0i_0 (cz_312_0i_1 [])), (cx_312pr_0 (cx_312pr_1 [])), [uL1325], [uV2, uV419, uV196], [], (cz_312_0f_0 (cz_312_0f_1 (cz_312_0f_2 []))), (cz_312_0g_0 []))
set_option maxRecDepth 1000000 in
theorem ck_312 : x_ok mLT1 [cx_253, cx_131, cx_306] mTS2 mTC2 mRUp cx_312 [(5, [0]), (37, [1]), (50, [2])] [] [(10, cz_312_0, (169, [(12, (-27))]))] (176, []) 52968 29 = true := by decide +kernel
theorem sn_312 {W : Bool} {X : List Int32} : y_Snd (mGw W) mLT1 (J2 W X) X cx_312 := y_ok J2_J mTS2_ok1 mTC2_ok1 mRUp_ok1 (List.forall_mem_cons.mpr ⟨sn_253, List.forall_mem_cons.mpr ⟨sn_131, List.forall_mem_cons.mpr ⟨sn_306, fun _ h => absurd h List.not_mem_nil⟩⟩⟩) ck_312
def cx_313pi_0 (t : List (Int × Int)) : List (Int × Int) := ui0 :: (0, 6) :: ui49 :: ui49 :: ui49 :: ui49 :: ui49 :: ui49 :: t
def cx_313pi_1 (t : List (Int × Int)) : List (Int × Int) := ui49 :: ui49 :: ui1118 :: ui877 :: t
def cx_313pg_0 (t : List zTg) : List zTg := uG1327 :: uG1328 :: uG1329 :: uG1330 :: t
def cx_313p : zS := ((cx_313pi_0 (cx_313pi_1 [])), [ur1316, ur442, ur443, ur1098, ur1099], [uL1325], [], [uV2], [uF21, uF516, uF1331, uF550, uF1332, uF1333, uF1334, uF1335], (cx_313pg_0 []))
/-- Giving.pivotBits -/
def cx_313 : zCtx := (37, cx_313p, [([ui0, (0, 6), ui49, ui49, ui49, ui49, ui49, ui49, ui49, ui49, ui1118, ui877, ui49], [ur1316, ur442, ur443, ur1098, ur1099], [], [], [uV196], [], [(238, [uL1336, uL23, uL98, uL104, uL78, uL79, uL131, uL163, uL67, uL9, uL212])])], [], 216, 1, 21)
def cz_313_0i_0 (t : List (Int × Int)) : List (Int × Int) := ui0 :: (0, 6) :: ui49 :: ui49 :: ui49 :: ui49 :: ui49 :: ui49 :: t
def cz_313_0i_1 (t : List (Int × Int)) : List (Int × Int) := ui49 :: ui49 :: ui1118 :: ui877 :: ui49 :: (0, 6) :: t
def cz_313_0g_0 (t : List zTg) : List zTg := uG1327 :: uG1328 :: uG1329 :: uG1330 :: (238, [uL1336, uL23, uL98, uL104, uL78, uL79, uL131, uL163, uL67, uL205, uL212]) :: t
def cz_313_0 : zS := ((cz_313_0i_0 (cz_313_0i_1 [])), [ur1316, ur442, ur443, ur1098, ur1099], [uL1337, uL1325, uL205, (0, [(1, 1), (13, (-1))]), uL193, uL1337], [uV2, uV196, uV408], [], [uF21, uF516, uF1331, uF550, uF1332, uF1333, uF1334, uF1335], (cz_313_0g_0 []))
set_option maxRecDepth 1000000 in
theorem ck_313 : x_ok mLT1 [cx_261] mTS2 mTC2 mRUp cx_313 [(41, [0])] [(0, [1001200]), (2, [1001201]), (37, [1000797]), (39, [1000717]), (40, [1000668]), (41, [1001202]), (51, [1000667]), (53, [1001203, 1001204])] [(4, cz_313_0, (194, [(13, (-31))]))] (199, []) 17 33 = true := by decide +kernel
theorem sn_313 {W : Bool} {X : List Int32} : y_Snd (mGw W) mLT1 (J2 W X) X cx_313 := y_ok J2_J mTS2_ok1 mTC2_ok1 mRUp_ok1 (List.forall_mem_cons.mpr ⟨sn_261, fun _ h => absurd h List.not_mem_nil⟩) ck_313
def cx_314pr_0 (t : List (Nat × Bool)) : List (Nat × Bool) := ur441 :: ur442 :: ur443 :: ur545 :: ur431 :: ur562 :: ur432 :: ur426 :: t
def cx_314pr_1 (t : List (Nat × Bool)) : List (Nat × Bool) := ur563 :: ur564 :: ur565 :: ur536 :: ur1316 :: ur1098 :: t
def cx_314pf_0 (t : List zFa) : List zFa := uF13 :: uF516 :: uF555 :: uF805 :: uF303 :: uF567 :: uF806 :: uF807 :: t
def cx_314pf_1 (t : List zFa) : List zFa := uF808 :: uF809 :: uF157 :: uF572 :: uF573 :: uF574 :: uF575 :: uF576 :: t
def cx_314pf_2 (t : List zFa) : List zFa := uF577 :: uF154 :: (0, (false, 7, 0, []), 2, 12, 0, []) :: uF1338 :: uF1339 :: uF1232 :: t
def cx_314p : zS := ([ui0, ui31, (0, 6), (0, 6), ui49, ui49, ui49], (cx_314pr_0 (cx_314pr_1 [])), [], [], [uV2], (cx_314pf_0 (cx_314pf_1 (cx_314pf_2 []))), [uG812])
def cx_314q0 : zS := ([ui0, ui31, (0, 6), (0, 6), ui49, ui49, ui49, ui49], (cx_314pr_0 (cx_314pr_1 [])), [], [], [uV142], [uF806, uF807, uF808, uF809], [uG812, (260, [uL1336, uL9, uL63, uL63, uL63, uL63, uL63, uL63, uL78, uL67, uL79])])
/-- HairRope.pivots -/
def cx_314 : zCtx := (166, cx_314p, [cx_314q0], [uk1125, uk553, uk542, uk1126, uk1102, uk1317], 53153, 4, 132)
set_option maxRecDepth 1000000 in
theorem ck_314 : x_ok mLT1 [cx_312, cx_313] mTS2 mTC2 mRUp cx_314 [(8, [0]), (15, [1])] [(8, [1000733]), (18, [1000728])] [] (9, []) 53144 12 = true := by decide +kernel
theorem sn_314 {W : Bool} {X : List Int32} : y_Snd (mGw W) mLT1 (J2 W X) X cx_314 := y_ok J2_J mTS2_ok1 mTC2_ok1 mRUp_ok1 (List.forall_mem_cons.mpr ⟨sn_312, List.forall_mem_cons.mpr ⟨sn_313, fun _ h => absurd h List.not_mem_nil⟩⟩) ck_314
def cx_315q2 : zS := ([ui0, ui49, ui31, (0, 6), (0, 6), ui49, ui49], (cx_251pr_0 (cx_251pr_1 [])), [uL9, uL526], [], [uV62], [uF616, uF617, uF618, uF619], [uG620, (260, [uL34, uL63, uL63, uL63, uL63, uL63, uL63, uL63, uL581, uL63, uL63])])
def cx_315q3i_0 (t : List (Int × Int)) : List (Int × Int) := ui0 :: ui49 :: ui31 :: (0, 6) :: (0, 6) :: ui49 :: ui49 :: ui49 :: t
def cx_315q3i_1 (t : List (Int × Int)) : List (Int × Int) := ui785 :: ui49 :: t
def cx_315q3g_0 (t : List zTg) : List zTg := uG620 :: uG582 :: (260, [uL65, uL63, uL63, uL63, uL63, uL63, uL63, uL63, uL63, uL98, uL163]) :: (107, [(0, [(8, 1000)]), uL163, uL79]) :: t
def cx_315q3 : zS := ((cx_315q3i_0 (cx_315q3i_1 [])), (cx_251pr_0 (cx_251pr_1 [])), [uL1092, uL9, uL526], [], [uV142], [uF616, uF617, uF618, uF619], (cx_315q3g_0 []))
/-- HairRope.share -/
def cx_315 : zCtx := (167, cx_251p, [([ui0, ui49, ui31, (0, 6), (0, 6), ui49, ui49], [ur441, ur442, ur443, ur545, ur431, ur432, ur426, ur563, ur564, ur565], [uL584], [], [uV61], [uF616, uF617, uF618, uF619], [uG620]), ([ui0, ui49, ui31, (0, 6), (0, 6), ui49, ui49], [ur441, ur442, ur443, ur545, ur431, ur432, ur426, ur563, ur564, ur565], [uL587], [], [uV61], [uF616, uF617, uF618, uF619], [uG620]), cx_315q2, cx_315q3], [], 149, 3, 107)
set_option maxRecDepth 1000000 in
theorem ck_315 : x_ok mLT1 [cx_130, cx_131, cx_192] mTS2 mTC2 mRUp cx_315 [(2, [0]), (15, [1]), (23, [2])] [(36, [1000763]), (37, [1000755, 1000728]), (49, [1000764, 1000728, 1000753]), (54, [1000023])] [] (28, []) 121 31 = true := by decide +kernel
theorem sn_315 {W : Bool} {X : List Int32} : y_Snd (mGw W) mLT1 (J2 W X) X cx_315 := y_ok J2_J mTS2_ok1 mTC2_ok1 mRUp_ok1 (List.forall_mem_cons.mpr ⟨sn_130, List.forall_mem_cons.mpr ⟨sn_131, List.forall_mem_cons.mpr ⟨sn_192, fun _ h => absurd h List.not_mem_nil⟩⟩⟩) ck_315
def cx_316p : zS := ((cx_196pi_0 (cx_196pi_1 [])), [ur442, ur1251, ur443, ur545, ur1256], [uL518, uL159, uL579], [], [uV2, uV419, uV11], [uF554, uF555, uF556, uF529, uF530, uF531, uF532, uF727], [uG1260])
/-- Rules.joinAbove -/
def cx_316 : zCtx := (92, cx_316p, [([ui0, (1, 5), ui31, (1, 6), (0, 6), ui49, ui49, ui49, ui49, ui49, ui49, ui49, ui49, ui600], [ur442, ur1251, ur443, ur545, ur1256], [uL518, uL159, uL579], [], [uV408], [], [uG821])], [uk553, uk542], 53013, 3, 111)
set_option maxRecDepth 1000000 in
theorem ck_316 : x_ok mLT1 [cx_142, cx_289] mTS2 mTC2 mRUp cx_316 [(42, [0]), (45, [1])] [(28, [1001228]), (30, [1001229]), (48, [1000943])] [] (29, []) 52984 32 = true := by decide +kernel
theorem sn_316 {W : Bool} {X : List Int32} : y_Snd (mGw W) mLT1 (J2 W X) X cx_316 := y_ok J2_J mTS2_ok1 mTC2_ok1 mRUp_ok1 (List.forall_mem_cons.mpr ⟨sn_142, List.forall_mem_cons.mpr ⟨sn_289, fun _ h => absurd h List.not_mem_nil⟩⟩) ck_316
def cx_317p : zS := ((cx_197pi_0 (cx_197pi_1 [])), [ur442, ur1251, ur443, ur545, ur1256, ur1257, ur1258, ur823], [uL518], [], [uV2, uV419], (cx_197pf_0 (cx_197pf_1 [])), [uG1260])
/-- Rules.weigh -/
def cx_317 : zCtx := (91, cx_317p, [([ui0, ui49, ui31, (0, 6), (0, 6), ui49, ui49, ui49, ui49, ui49, ui49, ui49, ui49, ui824], [ur442, ur1251, ur443, ur545, ur1256, ur1257, ur1258, ur823], [uL518], [], [], [uF214], [uG826])], [uk827, uk553, uk828, uk542], 53276, 4, 135)
def cz_317_0g_0 (t : List zTg) : List zTg := uG1260 :: uG829 :: uG831 :: uG832 :: t
def cz_317_0 : zS := ((cz_197_0i_0 (cz_197_0i_1 [])), [ur442, ur1251, ur443, ur545, ur1256, ur1257, ur1258, ur823], [uL518, uL205, uL833, uL830, uL834], [uV2, uV419, uV408, uV355], [], (cz_197_0f_0 (cz_197_0f_1 [])), (cz_317_0g_0 []))
set_option maxRecDepth 1000000 in
theorem ck_317 : x_ok mLT1 [cx_316] mTS2 mTC2 mRUp cx_317 [(75, [0])] [(12, [1000934]), (29, [1001179, 1001224, 1001225]), (46, [1001226]), (49, [1000938]), (50, [1000939]), (56, [1001227]), (58, [1000940]), (79, [1000944]), (81, uN835)] [(30, cz_317_0, (43, [(14, 40)]))] (263, []) 53013 42 = true := by decide +kernel
theorem sn_317 {W : Bool} {X : List Int32} : y_Snd (mGw W) mLT1 (J2 W X) X cx_317 := y_ok J2_J mTS2_ok1 mTC2_ok1 mRUp_ok1 (List.forall_mem_cons.mpr ⟨sn_316, fun _ h => absurd h List.not_mem_nil⟩) ck_317
def cx_318pr_0 (t : List (Nat × Bool)) : List (Nat × Bool) := ur1267 :: ur431 :: ur442 :: ur443 :: ur545 :: ur1251 :: ur562 :: ur588 :: t
def cx_318pr_1 (t : List (Nat × Bool)) : List (Nat × Bool) := ur1254 :: ur432 :: ur1255 :: ur426 :: ur1256 :: ur563 :: ur1257 :: ur564 :: t
def cx_318pr_2 (t : List (Nat × Bool)) : List (Nat × Bool) := ur1258 :: ur565 :: ur536 :: ur823 :: t
def cx_318pf_0 (t : List zFa) : List zFa := uF151 :: uF446 :: uF1147 :: uF1340 :: uF1341 :: uF1342 :: uF529 :: uF530 :: t
def cx_318pf_1 (t : List zFa) : List zFa := uF531 :: uF532 :: uF1343 :: uF1344 :: uF1345 :: uF461 :: uF1346 :: uF577 :: t
def cx_318pf_2 (t : List zFa) : List zFa := uF1347 :: uF465 :: uF1348 :: uF1349 :: uF1350 :: uF1351 :: uF1352 :: uF1353 :: t
def cx_318p : zS := ([ui0, ui600, ui31, (0, 6), (0, 6), ui49, ui49], (cx_318pr_0 (cx_318pr_1 (cx_318pr_2 []))), [uL518, uL9, uL845], [], [uV2, uV419, uV11], (cx_318pf_0 (cx_318pf_1 (cx_318pf_2 []))), [uG620])
/-- Forecast.yearsUntilBroken -/
def cx_318 : zCtx := (25, cx_318p, [([ui0, ui600, ui31, (0, 6), (0, 6), ui49, ui49, ui1289], [ur1267, ur431, ur442, ur443, ur545, ur1251, ur562, ur588, ur1254, ur432, ur1255, ur426, ur1256, ur563, ur1257, ur564, ur1258, ur565, ur536, ur823], [], [], [uV142], [], [uG620, (260, [uL768, uL67, uL63, uL63, uL63, uL63, uL63, uL63, uL1291, uL63, uL79])]), ([ui0, ui600, ui31, (0, 6), (0, 6), ui49, ui49], [ur1267, ur431, ur442, ur443, ur545, ur1251, ur562, ur588, ur1254, ur432, ur1255, ur426, ur1256, ur563, ur1257, ur564, ur1258, ur565, ur536, ur823], [], [], [uV583], [], [uG620, uG1354])], kc_64, 54737, 5, 161)
def cz_318_0i_0 (t : List (Int × Int)) : List (Int × Int) := ui0 :: ui600 :: ui31 :: (0, 6) :: (0, 6) :: ui49 :: ui49 :: ui877 :: t
def cz_318_0i_1 (t : List (Int × Int)) : List (Int × Int) := ui49 :: t
def cz_318_0f_0 (t : List zFa) : List zFa := (5, (false, 5, 0, []), 0, 0, 0, [(3, 1)]) :: (5, (false, 6, 0, []), 0, 0, 0, [(4, 1)]) :: (5, (false, 7, 0, []), 0, 0, 0, [(8, 1)]) :: (5, (false, 8, 0, []), 0, 0, 0, [(6, 1)]) :: uF151 :: uF446 :: uF1147 :: uF1340 :: t
def cz_318_0f_1 (t : List zFa) : List zFa := uF1341 :: uF1342 :: uF529 :: uF530 :: uF531 :: uF532 :: uF1343 :: uF1344 :: t
def cz_318_0f_2 (t : List zFa) : List zFa := uF1345 :: uF461 :: uF1346 :: uF577 :: uF1347 :: uF465 :: uF1348 :: uF1349 :: t
def cz_318_0f_3 (t : List zFa) : List zFa := uF1350 :: uF1351 :: uF1352 :: uF1353 :: t
def cz_318_0g_0 (t : List zTg) : List zTg := uG620 :: (236, [uL23, uL98, uL131, uL78, uL67, uL63, uL63, uL36, uL79, uL63, uL23]) :: (238, [uL766, uL67, uL63, uL63, uL63, uL63, uL63, uL63, uL1291, uL79, uL63]) :: t
def cz_318_0 : zS := ((cz_318_0i_0 (cz_318_0i_1 [])), (cx_318pr_0 (cx_318pr_1 (cx_318pr_2 []))), [uL518, uL9, uL845, uL79, (61, [(7, (-1))])], [uV2, uV419, uV11, uV142], [], (cz_318_0f_0 (cz_318_0f_1 (cz_318_0f_2 (cz_318_0f_3 [])))), (cz_318_0g_0 []))
set_option maxRecDepth 1000000 in
theorem ck_318 : x_ok mLT1 [cx_284, cx_317, cx_198, cx_295] mTS2 mTC2 mRUp cx_318 [(5, [0]), (24, [1]), (32, [2]), (50, [3])] [(8, [1001158, 1001159, 1001223]), (38, [1001231]), (40, [1001230]), (59, [1001232])] [(10, cz_318_0, (1454, [(7, (-23))]))] (1461, []) 53276 25 = true := by decide +kernel
theorem sn_318 {W : Bool} {X : List Int32} : y_Snd (mGw W) mLT1 (J2 W X) X cx_318 := y_ok J2_J mTS2_ok1 mTC2_ok1 mRUp_ok1 (List.forall_mem_cons.mpr ⟨sn_284, List.forall_mem_cons.mpr ⟨sn_317, List.forall_mem_cons.mpr ⟨sn_198, List.forall_mem_cons.mpr ⟨sn_295, fun _ h => absurd h List.not_mem_nil⟩⟩⟩⟩) ck_318
def cx_319pi_0 (t : List (Int × Int)) : List (Int × Int) := ui0 :: ui49 :: ui31 :: (0, 6) :: (0, 6) :: ui49 :: ui49 :: ui49 :: t
def cx_319pi_1 (t : List (Int × Int)) : List (Int × Int) := ui194 :: t
def cx_319pr_0 (t : List (Nat × Bool)) : List (Nat × Bool) := ur441 :: ur442 :: ur443 :: ur545 :: ur431 :: ur588 :: ur562 :: ur432 :: t
def cx_319pr_1 (t : List (Nat × Bool)) : List (Nat × Bool) := ur426 :: ur563 :: ur564 :: ur565 :: ur536 :: ur1267 :: ur1251 :: ur1254 :: t
def cx_319pr_2 (t : List (Nat × Bool)) : List (Nat × Bool) := ur1255 :: ur1256 :: ur1257 :: ur1258 :: ur823 :: t
def cx_319pf_0 (t : List zFa) : List zFa := uF13 :: uF516 :: uF555 :: uF556 :: uF152 :: uF567 :: uF616 :: uF617 :: t
def cx_319pf_1 (t : List zFa) : List zFa := uF618 :: uF619 :: uF605 :: uF410 :: uF606 :: uF607 :: uF608 :: uF609 :: t
def cx_319pf_2 (t : List zFa) : List zFa := uF610 :: uF1293 :: uF1294 :: uF464 :: uF1295 :: uF1232 :: uF1296 :: uF1297 :: t
def cx_319pf_3 (t : List zFa) : List zFa := uF1298 :: uF1299 :: uF1300 :: uF1301 :: (1, (false, 0, 0, []), 2, 20, 0, []) :: t
def cx_319p : zS := ((cx_319pi_0 (cx_319pi_1 [])), (cx_319pr_0 (cx_319pr_1 (cx_319pr_2 []))), [], [], [uV2, uV11], (cx_319pf_0 (cx_319pf_1 (cx_319pf_2 (cx_319pf_3 [])))), [uG620])
def cx_319q0i_0 (t : List (Int × Int)) : List (Int × Int) := ui0 :: ui260 :: ui31 :: (0, 6) :: (0, 6) :: ui49 :: ui49 :: ui49 :: t
def cx_319q0i_1 (t : List (Int × Int)) : List (Int × Int) := ui194 :: t
def cx_319q0 : zS := ((cx_319q0i_0 (cx_319q0i_1 [])), (cx_319pr_0 (cx_319pr_1 (cx_319pr_2 []))), [], [], [uV61], [uF616, uF617, uF618, uF619], [uG620])
def cx_319q1i_0 (t : List (Int × Int)) : List (Int × Int) := ui0 :: ui820 :: ui31 :: (0, 6) :: (0, 6) :: ui49 :: ui49 :: ui49 :: t
def cx_319q1i_1 (t : List (Int × Int)) : List (Int × Int) := ui194 :: t
def cx_319q1 : zS := ((cx_319q1i_0 (cx_319q1i_1 [])), (cx_319pr_0 (cx_319pr_1 (cx_319pr_2 []))), [], [], [uV61], [uF616, uF617, uF618, uF619], [uG620])
def cx_319q2i_0 (t : List (Int × Int)) : List (Int × Int) := ui0 :: ui600 :: ui31 :: (0, 6) :: (0, 6) :: ui49 :: ui49 :: ui49 :: t
def cx_319q2i_1 (t : List (Int × Int)) : List (Int × Int) := ui194 :: t
def cx_319q2 : zS := ((cx_319q2i_0 (cx_319q2i_1 [])), (cx_319pr_0 (cx_319pr_1 (cx_319pr_2 []))), [], [], [uV583], [uF616, uF617, uF618, uF619], [uG620, uG1354])
def cx_319q3i_0 (t : List (Int × Int)) : List (Int × Int) := ui0 :: ui600 :: ui31 :: (0, 6) :: (0, 6) :: ui49 :: ui49 :: ui49 :: t
def cx_319q3i_1 (t : List (Int × Int)) : List (Int × Int) := ui194 :: ui1289 :: t
def cx_319q3 : zS := ((cx_319q3i_0 (cx_319q3i_1 [])), (cx_319pr_0 (cx_319pr_1 (cx_319pr_2 []))), [], [], [uV799], [uF616, uF617, uF618, uF619], [uG620, (260, [uL768, uL67, uL63, uL63, uL63, uL63, uL63, uL63, uL1291, uL63, uL163])])
/-- HairRope.lasts -/
def cx_319 : zCtx := (168, cx_319p, [cx_319q0, cx_319q1, cx_319q2, cx_319q3], kc_64, 54748, 6, 184)
set_option maxRecDepth 1000000 in
theorem ck_319 : x_ok mLT1 [cx_195, cx_318] mTS2 mTC2 mRUp cx_319 [(1, [0]), (16, [1])] [] [] (11, []) 54737 14 = true := by decide +kernel
theorem sn_319 {W : Bool} {X : List Int32} : y_Snd (mGw W) mLT1 (J2 W X) X cx_319 := y_ok J2_J mTS2_ok1 mTC2_ok1 mRUp_ok1 (List.forall_mem_cons.mpr ⟨sn_195, List.forall_mem_cons.mpr ⟨sn_318, fun _ h => absurd h List.not_mem_nil⟩⟩) ck_319
/-- State.placeOf -/
def cx_320 : zCtx := (101, ([ui0, ui49, (0, 6)], [ur1251], [], [], [uV2, uV11], [uF39], []), [([ui0, ui49, (1, 6), (0, 5)], [ur1251], [uL838], [], [uV58], [], []), ([ui0, ui49, (0, 6)], [ur1251], [], [], [uV61], [], [])], [], 105, 0, 0)
set_option maxRecDepth 1000000 in
theorem ck_320 : x_ok mLT1 [] mTS2 mTC2 mRUp cx_320 [] [] [(2, ([(0, 3072), ((-2147483648), 2147483647), (0, 6), (0, 6)], [(106, false)], [], [(2, 0, 0, []), (0, 0, 0, [(1, 1)]), (0, 0, 0, [(3, 1)])], [], [(0, (false, 6, 0, []), 0, 0, 0, [(2, 1)])], []), (102, [(3, (-16))]))] (105, []) 0 18 = true := by decide +kernel
theorem sn_320 {W : Bool} {X : List Int32} : y_Snd (mGw W) mLT1 (J2 W X) X cx_320 := y_ok J2_J mTS2_ok1 mTC2_ok1 mRUp_ok1 (fun _ h => absurd h List.not_mem_nil) ck_320
/-- Rules.strongOf -/
def cx_321 : zCtx := (89, ([ui0, ui49, ui243], [ur442, ur1251], [], [], [uV2, uV419, uV11, uV12], [], []), [([ui0, ui49, ui243, ui49], [ur442, ur1251], [], [], [uV58], [], [])], [], 14, 0, 0)
set_option maxRecDepth 1000000 in
theorem ck_321 : x_ok mLT1 [] mTS2 mTC2 mRUp cx_321 [] [] [] (14, []) 0 17 = true := by decide +kernel
theorem sn_321 {W : Bool} {X : List Int32} : y_Snd (mGw W) mLT1 (J2 W X) X cx_321 := y_ok J2_J mTS2_ok1 mTC2_ok1 mRUp_ok1 (fun _ h => absurd h List.not_mem_nil) ck_321
/-- Rules.lookAt -/
def cx_322 : zCtx := (88, ([ui0, ui49, ui243], [ur442, ur1251, ur536], [], [], [uV2, uV419, uV11, uV12], [uF22], []), [([ui0, ui49, ui243], [ur442, ur1251, ur536], [], [], [], [], [])], [uk542], 79, 1, 64)
set_option maxRecDepth 1000000 in
theorem ck_322 : x_ok mLT1 [cx_321] mTS2 mTC2 mRUp cx_322 [(32, [0])] [] [] (65, []) 14 68 = true := by decide +kernel
theorem sn_322 {W : Bool} {X : List Int32} : y_Snd (mGw W) mLT1 (J2 W X) X cx_322 := y_ok J2_J mTS2_ok1 mTC2_ok1 mRUp_ok1 (List.forall_mem_cons.mpr ⟨sn_321, fun _ h => absurd h List.not_mem_nil⟩) ck_322
/-- Rules.lawOf -/
def cx_323 : zCtx := (87, ([ui0, (0, 5)], [ur442, ur1251], [], [], [uV2, uV62, uV419, uV11], [], []), [([ui0, (0, 5), ui537], [ur442, ur1251], [], [], [uV12], [], [])], [uk553, uk542], 52968, 2, 87)
set_option maxRecDepth 1000000 in
theorem ck_323 : x_ok mLT1 [cx_320, cx_322, cx_136] mTS2 mTC2 mRUp cx_323 [(5, [0]), (8, [1]), (26, [2])] [] [] (19, []) 52949 22 = true := by decide +kernel
theorem sn_323 {W : Bool} {X : List Int32} : y_Snd (mGw W) mLT1 (J2 W X) X cx_323 := y_ok J2_J mTS2_ok1 mTC2_ok1 mRUp_ok1 (List.forall_mem_cons.mpr ⟨sn_320, List.forall_mem_cons.mpr ⟨sn_322, List.forall_mem_cons.mpr ⟨sn_136, fun _ h => absurd h List.not_mem_nil⟩⟩⟩) ck_323
/-- Rules.lawOf -/
def cx_324 : zCtx := (87, ([ui0, (0, 5)], [ur442, ur1251], [], [], [uV2, uV64, uV419, uV11], [], []), [([ui0, (0, 5), ui537], [ur442, ur1251], [], [], [uV12], [], [])], [uk553, uk542], 52968, 2, 87)
set_option maxRecDepth 1000000 in
theorem ck_324 : x_ok mLT1 [cx_320, cx_322, cx_136] mTS2 mTC2 mRUp cx_324 [(5, [0]), (8, [1]), (26, [2])] [] [] (19, []) 52949 22 = true := by decide +kernel
theorem sn_324 {W : Bool} {X : List Int32} : y_Snd (mGw W) mLT1 (J2 W X) X cx_324 := y_ok J2_J mTS2_ok1 mTC2_ok1 mRUp_ok1 (List.forall_mem_cons.mpr ⟨sn_320, List.forall_mem_cons.mpr ⟨sn_322, List.forall_mem_cons.mpr ⟨sn_136, fun _ h => absurd h List.not_mem_nil⟩⟩⟩) ck_324
/-- Rules.ageHouse -/
def cx_325 : zCtx := (95, ([ui0, (0, 5), (0, 0), (0, 0)], [ur442, ur1251], [], [], [uV2, uV419, uV11, uV12, uV58], [], []), [([ui0, (0, 5), (0, 0), (0, 0)], [ur442, ur1251], [], [], [], [], [])], [uk553, uk542, uk1261, uk1262], 53026, 3, 110)
set_option maxRecDepth 1000000 in
theorem ck_325 : x_ok mLT1 [cx_320, cx_323, cx_324, cx_202] mTS2 mTC2 mRUp cx_325 [(13, [0]), (22, [1]), (36, [2]), (73, [3])] [] [] (58, []) 52968 61 = true := by decide +kernel
theorem sn_325 {W : Bool} {X : List Int32} : y_Snd (mGw W) mLT1 (J2 W X) X cx_325 := y_ok J2_J mTS2_ok1 mTC2_ok1 mRUp_ok1 (List.forall_mem_cons.mpr ⟨sn_320, List.forall_mem_cons.mpr ⟨sn_323, List.forall_mem_cons.mpr ⟨sn_324, List.forall_mem_cons.mpr ⟨sn_202, fun _ h => absurd h List.not_mem_nil⟩⟩⟩⟩) ck_325
/-- Forecast.harvestOf -/
def cx_326 : zCtx := (27, ([ui0, (0, 5), ui876, ui876], [ur1267, ur431], [], [], [uV2, uV419, uV11, uV12, uV58], [], []), [([ui0, (0, 5), ui876, ui876, ui49], [ur1267, ur431], [], [], [uV97], [], [])], kc_65, 55652, 4, 137)
def cz_326_0i_0 (t : List (Int × Int)) : List (Int × Int) := ui0 :: (0, 5) :: ui876 :: ui876 :: ui49 :: ui1153 :: ui49 :: ui49 :: t
def cz_326_0i_1 (t : List (Int × Int)) : List (Int × Int) := (0, 6) :: (0, 6) :: ui49 :: t
def cz_326_0f_0 (t : List zFa) : List zFa := (1, (false, 4, 0, []), 2, 2, 0, []) :: (1, (false, 3, 0, []), 2, 3, 0, []) :: uF727 :: uF1110 :: uF228 :: uF532 :: uF598 :: (1, (false, 6, 0, []), 0, 0, 0, [(8, 1)]) :: t
def cz_326_0f_1 (t : List zFa) : List zFa := uF188 :: (0, (false, 1, 0, []), 2, 7, 0, []) :: (7, (false, 5, 0, []), 0, 0, 0, [(9, 1)]) :: (7, (false, 6, 0, []), 0, 0, 0, [(8, 1)]) :: (7, (false, 7, 0, []), 0, 0, 0, [(10, 1)]) :: (7, (false, 8, 0, []), 0, 0, 0, [(6, 1)]) :: t
def cz_326_0 : zS := ((cz_326_0i_0 (cz_326_0i_1 [])), [ur1267, ur431, ur565, ur564, ur563, ur426, ur432, ur1251], [], [uV2, uV419, uV11, uV12, uV58, uV97, uV75], [], (cz_326_0f_0 (cz_326_0f_1 [])), [])
set_option maxRecDepth 1000000 in
theorem ck_326 : x_ok mLT1 [cx_284, cx_325] mTS2 mTC2 mRUp cx_326 [(5, [0]), (50, [1])] [] [(33, cz_326_0, (2651, [(5, (-42))]))] (2626, []) 53026 44 = true := by decide +kernel
theorem sn_326 {W : Bool} {X : List Int32} : y_Snd (mGw W) mLT1 (J2 W X) X cx_326 := y_ok J2_J mTS2_ok1 mTC2_ok1 mRUp_ok1 (List.forall_mem_cons.mpr ⟨sn_284, List.forall_mem_cons.mpr ⟨sn_325, fun _ h => absurd h List.not_mem_nil⟩⟩) ck_326
end
