noncomputable section
/-! ===== readings, by program, checked by the kernel ===== -/
/-- State.exchangeIn -/
def cx_327 : zCtx := (107, ([ui0, (0, 5), (1, 5)], [ur1243], [], [], [uV2, uV11, uV12], [], []), [([ui0, (0, 5), (1, 5)], [ur1243], [], [], [], [], [])], [uk1244], 27, 0, 0)
set_option maxRecDepth 1000000 in
theorem ck_327 : x_ok mLT1 [] mTS2 mTC2 mRUp cx_327 [] [] [] (27, []) 0 30 = true := by decide +kernel
theorem sn_327 {W : Bool} {X : List Int32} : y_Snd (mGw W) mLT1 (J2 W X) X cx_327 := y_ok J2_J mTS2_ok1 mTC2_ok1 mRUp_ok1 (fun _ h => absurd h List.not_mem_nil) ck_327
/-- State.exchangeIn -/
def cx_328 : zCtx := (107, ([ui0, (0, 5), (1, 5)], [ur1245], [], [], [uV2, uV11, uV12], [], []), [([ui0, (0, 5), (1, 5)], [ur1245], [], [], [], [], [])], [uk1246], 27, 0, 0)
set_option maxRecDepth 1000000 in
theorem ck_328 : x_ok mLT1 [] mTS2 mTC2 mRUp cx_328 [] [] [] (27, []) 0 30 = true := by decide +kernel
theorem sn_328 {W : Bool} {X : List Int32} : y_Snd (mGw W) mLT1 (J2 W X) X cx_328 := y_ok J2_J mTS2_ok1 mTC2_ok1 mRUp_ok1 (fun _ h => absurd h List.not_mem_nil) ck_328
/-- State.exchangeIn -/
def cx_329 : zCtx := (107, ([ui0, (0, 5), (1, 5)], [ur1247], [], [], [uV2, uV11, uV12], [], []), [([ui0, (0, 5), (1, 5)], [ur1247], [], [], [], [], [])], [uk1201], 27, 0, 0)
set_option maxRecDepth 1000000 in
theorem ck_329 : x_ok mLT1 [] mTS2 mTC2 mRUp cx_329 [] [] [] (27, []) 0 30 = true := by decide +kernel
theorem sn_329 {W : Bool} {X : List Int32} : y_Snd (mGw W) mLT1 (J2 W X) X cx_329 := y_ok J2_J mTS2_ok1 mTC2_ok1 mRUp_ok1 (fun _ h => absurd h List.not_mem_nil) ck_329
/-- State.exchange -/
def cx_330 : zCtx := (106, ([ui0, (0, 5), (1, 5)], [ur1199], [], [], [uV2, uV11, uV12], [], []), [([ui0, (0, 5), (1, 5)], [ur1199], [], [], [], [], [])], [uk1244, uk1246, uk1201], 43, 1, 23)
set_option maxRecDepth 1000000 in
theorem ck_330 : x_ok mLT1 [cx_327, cx_328, cx_329] mTS2 mTC2 mRUp cx_330 [(6, [0]), (15, [1]), (24, [2])] [] [] (16, []) 27 19 = true := by decide +kernel
theorem sn_330 {W : Bool} {X : List Int32} : y_Snd (mGw W) mLT1 (J2 W X) X cx_330 := y_ok J2_J mTS2_ok1 mTC2_ok1 mRUp_ok1 (List.forall_mem_cons.mpr ⟨sn_327, List.forall_mem_cons.mpr ⟨sn_328, List.forall_mem_cons.mpr ⟨sn_329, fun _ h => absurd h List.not_mem_nil⟩⟩⟩) ck_330
/-- Forecast.bestSwap -/
def cx_331 : zCtx := (28, ([ui0], [ur1203, ur432], [], [], [uV2, uV420], [], []), [([ui0, ui1248], [ur1203, ur432], [], [], [uV11], [], [])], kc_64, 54471, 5, 158)
set_option maxRecDepth 1000000 in
theorem ck_331 : x_ok mLT1 [cx_325, cx_326, cx_284, cx_330, cx_318] mTS2 mTC2 mRUp cx_331 [(5, [0]), (12, [1]), (51, [2]), (62, [3]), (73, [4]), (80, [1]), (91, [1])] [] [(22, ([(0, 3072), ((-2), 999), ((-2), 63), (0, 6), (0, 11)], [(8, false), (6, false), (5, false)], [], [(2, 0, 0, []), (2, 1, 0, []), (0, 0, 0, [(1, 1)]), (0, 0, 0, [(2, 1)]), (0, 0, 0, [(3, 1)]), (5, 0, 0, [])], [], [(0, (false, 0, 0, []), 2, 2, 0, []), (2, (false, 2, 0, []), 0, 0, 0, [(4, 1)])], []), (1182, [(3, (-196))])), (37, ([(0, 3072), ((-2), 999), ((-2), 63), (0, 5), (1, 6), (1, 6), (0, 11)], [(8, false), (6, false), (5, false)], [], [(2, 0, 0, []), (2, 1, 0, []), (0, 0, 0, [(1, 1)]), (0, 0, 0, [(2, 1)]), (0, 0, 0, [(3, 1)]), (0, 0, 0, [(4, 1)])], [], [(1, (false, 6, 0, []), 0, 0, 0, [(5, 1)]), (0, (false, 0, 0, []), 2, 2, 0, []), (2, (false, 2, 0, []), 0, 0, 0, [(6, 1)])], []), (1209, [(3, (-160)), (4, (-36))]))] (1195, []) 53276 38 = true := by decide +kernel
theorem sn_331 {W : Bool} {X : List Int32} : y_Snd (mGw W) mLT1 (J2 W X) X cx_331 := y_ok J2_J mTS2_ok1 mTC2_ok1 mRUp_ok1 (List.forall_mem_cons.mpr ⟨sn_325, List.forall_mem_cons.mpr ⟨sn_326, List.forall_mem_cons.mpr ⟨sn_284, List.forall_mem_cons.mpr ⟨sn_330, List.forall_mem_cons.mpr ⟨sn_318, fun _ h => absurd h List.not_mem_nil⟩⟩⟩⟩⟩) ck_331
/-- HairRope.swap -/
def cx_332 : zCtx := (170, ([ui0], [ur442], [], [], [uV2], [], []), [([ui0, ui1248], [ur442], [], [], [uV11], [], [])], kc_64, 54477, 6, 183)
set_option maxRecDepth 1000000 in
theorem ck_332 : x_ok mLT1 [cx_331] mTS2 mTC2 mRUp cx_332 [(8, [0])] [] [] (6, []) 54471 9 = true := by decide +kernel
theorem sn_332 {W : Bool} {X : List Int32} : y_Snd (mGw W) mLT1 (J2 W X) X cx_332 := y_ok J2_J mTS2_ok1 mTC2_ok1 mRUp_ok1 (List.forall_mem_cons.mpr ⟨sn_331, fun _ h => absurd h List.not_mem_nil⟩) ck_332
def cx_333q2i_0 (t : List (Int × Int)) : List (Int × Int) := ui0 :: (0, 0) :: ui31 :: (0, 6) :: (0, 6) :: ui49 :: ui49 :: ui49 :: t
def cx_333q2i_1 (t : List (Int × Int)) : List (Int × Int) := ui49 :: t
def cx_333q2 : zS := ((cx_333q2i_0 (cx_333q2i_1 [])), (cx_249pr_0 (cx_249pr_1 [])), [], [], [uV142], [uF598, uF599, uF600, uF601], [uG602, (260, [uL638, uL67, uL63, uL63, uL63, uL63, uL63, uL63, uL98, uL79, uL131])])
def cx_333q3i_0 (t : List (Int × Int)) : List (Int × Int) := ui0 :: (1, 1) :: ui31 :: (0, 6) :: (0, 6) :: ui49 :: ui49 :: ui49 :: t
def cx_333q3i_1 (t : List (Int × Int)) : List (Int × Int) := ui49 :: t
def cx_333q3 : zS := ((cx_333q3i_0 (cx_333q3i_1 [])), (cx_249pr_0 (cx_249pr_1 [])), [], [], [uV142], [uF598, uF599, uF600, uF601], [uG602, (260, [uL638, uL67, uL63, uL63, uL63, uL63, uL63, uL63, uL98, uL131, uL79])])
/-- HairRope.quarrel -/
def cx_333 : zCtx := (171, cx_250p, [([ui0, ui1063, ui31, (0, 6), (0, 6), ui49, ui49], [ur442, ur443, ur444, ur531, ur432, ur572, ur546, ur433, ur427, ur547, ur548, ur549, ur523, ur801], [], [], [uV61], [uF598, uF599, uF600, uF601], [uG602]), ([ui0, ui262, ui31, (0, 6), (0, 6), ui49, ui49], [ur442, ur443, ur444, ur531, ur432, ur572, ur546, ur433, ur427, ur547, ur548, ur549, ur523, ur801], [], [], [uV61], [uF598, uF599, uF600, uF601], [uG602]), cx_333q2, cx_333q3], [uk539, uk529], 53155, 4, 135)
def cz_333_0i_0 (t : List (Int × Int)) : List (Int × Int) := ui0 :: (0, 1) :: ui31 :: (0, 6) :: (0, 6) :: ui49 :: ui49 :: ui1249 :: t
def cz_333_0i_1 (t : List (Int × Int)) : List (Int × Int) := ui1106 :: (1, 6) :: t
def cz_333_0g_0 (t : List zTg) : List zTg := (235, [uL23, uL98, uL104, uL78, uL67, uL63, uL63, uL63, uL63, uL63, uL63]) :: uG602 :: (238, [uL638, uL67, uL63, uL63, uL63, uL63, uL63, uL63, uL164, uL79, uL131]) :: t
def cz_333_0 : zS := ((cz_333_0i_0 (cz_333_0i_1 [])), (cx_249pr_0 (cx_249pr_1 [])), [uL1059], [uV2, uV11, uV142, uV144, uV778, uV113], [], (cx_250pf_0 (cx_250pf_1 (cx_250pf_2 []))), (cz_333_0g_0 []))
set_option maxRecDepth 1000000 in
theorem ck_333 : x_ok mLT1 [cx_196] mTS2 mTC2 mRUp cx_333 [(42, [0])] [(17, [1000733, 1000773]), (54, [1000012]), (57, [1000774, 1000775]), (63, [1000776]), (69, [1000777])] [(20, cz_333_0, (154, [(9, (-24))]))] (142, []) 53013 26 = true := by decide +kernel
theorem sn_333 {W : Bool} {X : List Int32} : y_Snd (mGw W) mLT1 (J2 W X) X cx_333 := y_ok J2_J mTS2_ok1 mTC2_ok1 mRUp_ok1 (List.forall_mem_cons.mpr ⟨sn_196, fun _ h => absurd h List.not_mem_nil⟩) ck_333
def cx_334q2 : zS := ((cx_333q2i_0 (cx_333q2i_1 [])), (cx_251pr_0 (cx_251pr_1 [])), [], [], [uV142], [uF598, uF599, uF600, uF601], [uG602, (260, [uL635, uL63, uL63, uL63, uL63, uL63, uL63, uL63, uL98, uL79, uL131])])
def cx_334q3 : zS := ((cx_333q3i_0 (cx_333q3i_1 [])), (cx_251pr_0 (cx_251pr_1 [])), [], [], [uV142], [uF598, uF599, uF600, uF601], [uG602, (260, [uL635, uL63, uL63, uL63, uL63, uL63, uL63, uL63, uL98, uL131, uL79])])
/-- HairRope.greyest -/
def cx_334 : zCtx := (172, cx_251p, [([ui0, ui1063, ui31, (0, 6), (0, 6), ui49, ui49], [ur442, ur443, ur444, ur531, ur432, ur433, ur427, ur547, ur548, ur549], [], [], [uV61], [uF598, uF599, uF600, uF601], [uG602]), ([ui0, ui262, ui31, (0, 6), (0, 6), ui49, ui49], [ur442, ur443, ur444, ur531, ur432, ur433, ur427, ur547, ur548, ur549], [], [], [uV61], [uF598, uF599, uF600, uF601], [uG602]), cx_334q2, cx_334q3], [], 178, 0, 0)
def cz_334_0i_0 (t : List (Int × Int)) : List (Int × Int) := ui0 :: (0, 1) :: ui31 :: (0, 6) :: (0, 6) :: ui49 :: ui49 :: ui1249 :: t
def cz_334_0i_1 (t : List (Int × Int)) : List (Int × Int) := ((-2), 99) :: (0, 6) :: t
def cz_334_0 : zS := ((cz_334_0i_0 (cz_334_0i_1 [])), (cx_251pr_0 (cx_251pr_1 [])), [uL164], [uV2, uV11, uV142, uV144, uV778, uV113], [], (cx_251pf_0 (cx_251pf_1 [])), [uG602, (238, [uL635, uL63, uL63, uL63, uL63, uL63, uL63, uL63, uL164, uL79, uL131])])
set_option maxRecDepth 1000000 in
theorem ck_334 : x_ok mLT1 [] mTS2 mTC2 mRUp cx_334 [] [(17, [1000779]), (49, [1000780]), (58, [1000012]), (61, [1000781, 1000782]), (67, [1000783]), (73, [1000784])] [(20, cz_334_0, (166, [(9, (-26))]))] (178, []) 0 28 = true := by decide +kernel
theorem sn_334 {W : Bool} {X : List Int32} : y_Snd (mGw W) mLT1 (J2 W X) X cx_334 := y_ok J2_J mTS2_ok1 mTC2_ok1 mRUp_ok1 (fun _ h => absurd h List.not_mem_nil) ck_334
/-- Forecast.passYears -/
def cx_335 : zCtx := (29, ([ui0, (0, 5), ui1204, ui49], [ur1203, ur432], [], [], [uV2, uV420, uV11, uV12, uV58], [], []), [([ui0, (0, 5), ui1204, ui49], [ur1203, ur432], [], [], [], [], [])], kc_65, 54549, 4, 137)
def cz_335_0i_0 (t : List (Int × Int)) : List (Int × Int) := ui0 :: (0, 5) :: ui1204 :: ui49 :: ui844 :: ui49 :: ui49 :: (0, 6) :: t
def cz_335_0i_1 (t : List (Int × Int)) : List (Int × Int) := (0, 6) :: ui49 :: t
def cz_335_0f_0 (t : List zFa) : List zFa := uF1240 :: uF1241 :: uF708 :: uF1077 :: uF230 :: uF1075 :: uF833 :: uF1046 :: t
def cz_335_0f_1 (t : List zFa) : List zFa := (1, (false, 5, 0, []), 0, 0, 0, [(8, 1)]) :: uF1242 :: (7, (false, 5, 0, []), 0, 0, 0, [(8, 1)]) :: (7, (false, 6, 0, []), 0, 0, 0, [(7, 1)]) :: (7, (false, 7, 0, []), 0, 0, 0, [(9, 1)]) :: (7, (false, 8, 0, []), 0, 0, 0, [(5, 1)]) :: t
def cz_335_0 : zS := ((cz_335_0i_0 (cz_335_0i_1 [])), [ur1203, ur432, ur549, ur548, ur547, ur427, ur433, ur1199], [], [uV2, uV420, uV11, uV12, uV58, uV97], [], (cz_335_0f_0 (cz_335_0f_1 [])), [])
set_option maxRecDepth 1000000 in
theorem ck_335 : x_ok mLT1 [cx_284, cx_294] mTS2 mTC2 mRUp cx_335 [(5, [0]), (38, [1])] [] [(11, cz_335_0, (1516, [(4, (-24))]))] (1523, []) 53026 26 = true := by decide +kernel
theorem sn_335 {W : Bool} {X : List Int32} : y_Snd (mGw W) mLT1 (J2 W X) X cx_335 := y_ok J2_J mTS2_ok1 mTC2_ok1 mRUp_ok1 (List.forall_mem_cons.mpr ⟨sn_284, List.forall_mem_cons.mpr ⟨sn_294, fun _ h => absurd h List.not_mem_nil⟩⟩) ck_335
/-- Forecast.hairThen -/
def cx_336 : zCtx := (30, ([ui0, (0, 5)], [ur1203], [], [], [uV2, uV11], [], []), [([ui0, (0, 5), ui49], [ur1203], [], [], [uV12], [], [])], [], 12, 0, 0)
set_option maxRecDepth 1000000 in
theorem ck_336 : x_ok mLT1 [] mTS2 mTC2 mRUp cx_336 [] [] [] (12, []) 0 15 = true := by decide +kernel
theorem sn_336 {W : Bool} {X : List Int32} : y_Snd (mGw W) mLT1 (J2 W X) X cx_336 := y_ok J2_J mTS2_ok1 mTC2_ok1 mRUp_ok1 (fun _ h => absurd h List.not_mem_nil) ck_336
/-- Forecast.strengthThen -/
def cx_337 : zCtx := (31, ([ui0, (0, 5)], [ur1203], [], [], [uV2, uV11], [], []), [([ui0, (0, 5)], [ur1203], [], [], [uV62], [], []), ([ui0, (0, 5), ui49], [ur1203], [], [], [uV12], [], [])], [], 118, 1, 22)
set_option maxRecDepth 1000000 in
theorem ck_337 : x_ok mLT1 [cx_285] mTS2 mTC2 mRUp cx_337 [(5, [0])] [] [] (13, []) 105 16 = true := by decide +kernel
theorem sn_337 {W : Bool} {X : List Int32} : y_Snd (mGw W) mLT1 (J2 W X) X cx_337 := y_ok J2_J mTS2_ok1 mTC2_ok1 mRUp_ok1 (List.forall_mem_cons.mpr ⟨sn_285, fun _ h => absurd h List.not_mem_nil⟩) ck_337
/-- HairRope.then -/
def cx_338 : zCtx := (173, ([ui0, ui49, ui49, ui49], [ur442], [], [], [uV2, uV11, uV12, uV58], [], []), [([ui0, ui262, ui49, ui49], [ur442], [], [], [uV61], [], []), ([ui0, ui510, ui49, ui49], [ur442], [], [], [uV61], [], []), ([ui0, (0, 5), ui1204, (0, 0), ui49], [ur442], [], [], [uV97], [], []), ([ui0, (0, 5), ui1204, (1, 1), ui49], [ur442], [], [], [uV97], [], [])], kc_65, 54582, 5, 162)
set_option maxRecDepth 1000000 in
theorem ck_338 : x_ok mLT1 [cx_130, cx_335, cx_336, cx_337] mTS2 mTC2 mRUp cx_338 [(2, [0]), (49, [1]), (61, [2]), (72, [3])] [] [] (33, []) 54549 36 = true := by decide +kernel
theorem sn_338 {W : Bool} {X : List Int32} : y_Snd (mGw W) mLT1 (J2 W X) X cx_338 := y_ok J2_J mTS2_ok1 mTC2_ok1 mRUp_ok1 (List.forall_mem_cons.mpr ⟨sn_130, List.forall_mem_cons.mpr ⟨sn_335, List.forall_mem_cons.mpr ⟨sn_336, List.forall_mem_cons.mpr ⟨sn_337, fun _ h => absurd h List.not_mem_nil⟩⟩⟩⟩) ck_338
/-- HairRope.isValue -/
def cx_339 : zCtx := (175, ([ui0, ui49], [], [], [], [uV11], [], []), [([ui0, ui524], [], [], [], [uV64], [], []), ([ui0, ui1250], [], [], [], [uV62], [], []), ([ui0, ui262], [], [], [], [uV62], [], [])], [], 8, 0, 0)
set_option maxRecDepth 1000000 in
theorem ck_339 : x_ok mLT1 [] mTS2 mTC2 mRUp cx_339 [] [] [] (8, []) 0 11 = true := by decide +kernel
theorem sn_339 {W : Bool} {X : List Int32} : y_Snd (mGw W) mLT1 (J2 W X) X cx_339 := y_ok J2_J mTS2_ok1 mTC2_ok1 mRUp_ok1 (fun _ h => absurd h List.not_mem_nil) ck_339
/-- HairRope.year -/
def cx_340 : zCtx := (174, ([ui0, ui49, ui49, ui49, ui49], [ur442], [], [], [uV2, uV11, uV12, uV58, uV97], [], []), [([ui0, ui262, ui49, ui49, ui49], [ur442], [], [], [uV61], [], []), ([ui0, ui510, ui49, ui49, ui49], [ur442], [], [], [uV61], [], []), ([ui0, (0, 5), ui524, ui1204, ui1251, ui49], [ur442], [], [], [uV75], [], [])], kc_65, 55149, 5, 162)
set_option maxRecDepth 1000000 in
theorem ck_340 : x_ok mLT1 [cx_130, cx_339, cx_335, cx_336] mTS2 mTC2 mRUp cx_340 [(2, [0]), (9, [1]), (76, [2]), (84, [3])] [] [(46, ([(0, 3072), (0, 5), (0, 99), (0, 60), (1, 20), ((-2147483648), 2147483647), (0, 22), (1, 6)], [(0, false), (5, false), (2, false)], [((-1), [(1, (-1)), (7, 1)])], [(2, 0, 0, []), (0, 0, 0, [(1, 1)]), (0, 0, 0, [(2, 1)]), (0, 0, 0, [(3, 1)]), (0, 0, 0, [(4, 1)]), (0, 0, 0, [(5, 1)]), (0, 0, 0, [(6, 1)])], [], [(0, (false, 2, 0, []), 2, 1, 0, []), (1, (false, 3, 0, []), 2, 2, 0, []), (2, (false, 5, 0, []), 0, 0, 0, [(7, 1)])], []), (577, [(6, (-26))]))] (600, []) 54549 28 = true := by decide +kernel
theorem sn_340 {W : Bool} {X : List Int32} : y_Snd (mGw W) mLT1 (J2 W X) X cx_340 := y_ok J2_J mTS2_ok1 mTC2_ok1 mRUp_ok1 (List.forall_mem_cons.mpr ⟨sn_130, List.forall_mem_cons.mpr ⟨sn_339, List.forall_mem_cons.mpr ⟨sn_335, List.forall_mem_cons.mpr ⟨sn_336, fun _ h => absurd h List.not_mem_nil⟩⟩⟩⟩) ck_340
/-- Feeler.add -/
def cx_341 : zCtx := (16, ([ui0, (0, 5), ui524, (0, 1), ui1252], [ur445], [], [], [uV2, uV11, uV12, uV58], [uF41], []), [([ui0, (0, 5), ui524, (0, 1), ui1252], [ur445], [], [], [], [(0, (false, 8, 0, []), 0, 0, 1, [(4, 1)])], [])], [uk1253, uk1254, uk1255, uk1256], 32, 0, 0)
set_option maxRecDepth 1000000 in
theorem ck_341 : x_ok mLT1 [] mTS2 mTC2 mRUp cx_341 [] [] [] (32, []) 0 35 = true := by decide +kernel
theorem sn_341 {W : Bool} {X : List Int32} : y_Snd (mGw W) mLT1 (J2 W X) X cx_341 := y_ok J2_J mTS2_ok1 mTC2_ok1 mRUp_ok1 (fun _ h => absurd h List.not_mem_nil) ck_341
/-- HairRope.tell -/
def cx_342 : zCtx := (176, ([ui0, ui49, ui49, (0, 1), ui48], [ur442, ur445], [], [], [uV2, uV11, uV12, uV58], [uF1257, uF1223], []), [([ui0, (0, 5), ui262, (0, 1), ui48], [ur442, ur445], [], [], [uV61], [uF1223], []), ([ui0, (0, 5), ui1250, (0, 1), ui48], [ur442, ur445], [], [], [uV61], [uF1223], []), ([ui0, (0, 5), ui524, (0, 1), ui1258], [ur442, ur445], [], [], [uV61], [uF1223], []), ([ui0, (0, 5), ui524, (0, 1), ui1252], [ur442, ur445], [], [], [uV97], [(1, (false, 8, 0, []), 0, 0, 1, [(4, 1)])], []), ([ui0, ui261, ui49, (0, 1), ui48], [ur442, ur445], [], [], [uV61], [uF1223], []), ([ui0, ui262, ui49, (0, 1), ui48], [ur442, ur445], [], [], [uV61], [uF1223], [])], [uk1253, uk1254, uk1255, uk1256], 57, 1, 23)
set_option maxRecDepth 1000000 in
theorem ck_342 : x_ok mLT1 [cx_339, cx_341] mTS2 mTC2 mRUp cx_342 [(11, [0]), (38, [1])] [] [] (25, []) 32 28 = true := by decide +kernel
theorem sn_342 {W : Bool} {X : List Int32} : y_Snd (mGw W) mLT1 (J2 W X) X cx_342 := y_ok J2_J mTS2_ok1 mTC2_ok1 mRUp_ok1 (List.forall_mem_cons.mpr ⟨sn_339, List.forall_mem_cons.mpr ⟨sn_341, fun _ h => absurd h List.not_mem_nil⟩⟩) ck_342
/-- HairRope.forget -/
def cx_343 : zCtx := (177, ([ui0, ui48], [ur442, ur445], [], [], [uV2], [uF1257, (1, (false, 8, 0, []), 0, 0, 0, [(1, 1)])], []), [([ui0, ui48], [ur442, ur445], [], [], [uV11], [(1, (false, 8, 0, []), 0, 0, 0, [])], [])], [uk1253], 10, 0, 0)
set_option maxRecDepth 1000000 in
theorem ck_343 : x_ok mLT1 [] mTS2 mTC2 mRUp cx_343 [] [] [] (10, []) 0 13 = true := by decide +kernel
theorem sn_343 {W : Bool} {X : List Int32} : y_Snd (mGw W) mLT1 (J2 W X) X cx_343 := y_ok J2_J mTS2_ok1 mTC2_ok1 mRUp_ok1 (fun _ h => absurd h List.not_mem_nil) ck_343
/-- HairRope.isKnown -/
def cx_344 : zCtx := (179, ([ui0, ui49], [ur442], [], [], [uV2, uV11], [], []), [([ui0, ui48], [ur442], [], [], [uV64], [], []), ([ui0, ui505], [ur442], [], [], [uV62], [], []), ([ui0, ui262], [ur442], [], [], [uV62], [], [])], [], 10, 0, 0)
set_option maxRecDepth 1000000 in
theorem ck_344 : x_ok mLT1 [] mTS2 mTC2 mRUp cx_344 [] [] [] (10, []) 0 13 = true := by decide +kernel
theorem sn_344 {W : Bool} {X : List Int32} : y_Snd (mGw W) mLT1 (J2 W X) X cx_344 := y_ok J2_J mTS2_ok1 mTC2_ok1 mRUp_ok1 (fun _ h => absurd h List.not_mem_nil) ck_344
/-- HairRope.isRowLength -/
def cx_345 : zCtx := (180, ([ui0, ui49], [], [], [], [uV11], [], []), [([ui0, (1, 6)], [], [], [], [uV64], [], []), ([ui0, ui1259], [], [], [], [uV62], [], []), ([ui0, ui1209], [], [], [], [uV62], [], [])], [], 9, 0, 0)
set_option maxRecDepth 1000000 in
theorem ck_345 : x_ok mLT1 [] mTS2 mTC2 mRUp cx_345 [] [] [] (9, []) 0 12 = true := by decide +kernel
theorem sn_345 {W : Bool} {X : List Int32} : y_Snd (mGw W) mLT1 (J2 W X) X cx_345 := y_ok J2_J mTS2_ok1 mTC2_ok1 mRUp_ok1 (fun _ h => absurd h List.not_mem_nil) ck_345
/-- Feeler.housesOf -/
def cx_346 : zCtx := (18, ([ui0, ui49], [ur445, ur432], [], [], [uV2, uV420, uV11], [], []), [([ui0, ui49, ui844], [ur445, ur432], [], [], [uV12], [], [])], [], 268, 1, 23)
set_option maxRecDepth 1000000 in
theorem ck_346 : x_ok mLT1 [cx_267, cx_268] mTS2 mTC2 mRUp cx_346 [(30, [0]), (33, [1])] [] [(5, ([(0, 3072), ((-2147483648), 2147483647), (0, 63), (0, 6)], [(11, false), (6, false)], [], [(2, 0, 0, []), (2, 1, 0, []), (0, 0, 0, [(1, 1)]), (0, 0, 0, [(2, 1)]), (0, 0, 0, [(3, 1)])], [], [], []), (158, [(3, (-25))]))] (163, []) 105 27 = true := by decide +kernel
theorem sn_346 {W : Bool} {X : List Int32} : y_Snd (mGw W) mLT1 (J2 W X) X cx_346 := y_ok J2_J mTS2_ok1 mTC2_ok1 mRUp_ok1 (List.forall_mem_cons.mpr ⟨sn_267, List.forall_mem_cons.mpr ⟨sn_268, fun _ h => absurd h List.not_mem_nil⟩⟩) ck_346
/-- Arrays.fill -/
def cx_347 : zCtx := (2, ([ui0], [ur1260], [], [], [uV2, uV62], [], []), [([ui0], [ur1260], [], [], [], [], [uG1261])], [uk1262], 70, 0, 0)
set_option maxRecDepth 1000000 in
theorem ck_347 : x_ok mLT1 [] mTS2 mTC2 mRUp cx_347 [] [(2, [1000430]), (14, [1000431])] [(5, ([(0, 3072), (0, 6)], [(46, false)], [], [(2, 0, 0, []), (0, 0, 0, []), (0, 0, 0, [(1, 1)]), (0, 0, 6, [])], [], [], [(33, [(0, [])])]), (64, [(1, (-10))]))] (70, []) 0 12 = true := by decide +kernel
theorem sn_347 {W : Bool} {X : List Int32} : y_Snd (mGw W) mLT1 (J2 W X) X cx_347 := y_ok J2_J mTS2_ok1 mTC2_ok1 mRUp_ok1 (fun _ h => absurd h List.not_mem_nil) ck_347
/-- Arrays.fill -/
def cx_348 : zCtx := (2, ([ui0, ui844], [ur1263], [], [], [uV2, uV11], [], []), [([ui0, ui844], [ur1263], [], [], [], [], [uG1261])], [uk1264], 70, 0, 0)
set_option maxRecDepth 1000000 in
theorem ck_348 : x_ok mLT1 [] mTS2 mTC2 mRUp cx_348 [] [(2, [1000430]), (14, [1000431])] [(5, ([(0, 3072), (0, 63), (0, 6)], [(45, false)], [], [(2, 0, 0, []), (0, 0, 0, [(1, 1)]), (0, 0, 0, [(2, 1)]), (0, 0, 6, [])], [], [], [(33, [(0, [])])]), (64, [(2, (-10))]))] (70, []) 0 12 = true := by decide +kernel
theorem sn_348 {W : Bool} {X : List Int32} : y_Snd (mGw W) mLT1 (J2 W X) X cx_348 := y_ok J2_J mTS2_ok1 mTC2_ok1 mRUp_ok1 (fun _ h => absurd h List.not_mem_nil) ck_348
/-- Feeler.learn -/
def cx_349 : zCtx := (19, ([ui0, ui48, (1, 6), ui48], [ur445, ur432], [], [], [uV2, uV420, uV11, uV12], [(0, (false, 8, 0, []), 0, 0, 0, [(3, 1)])], []), [([ui0, ui1251, (1, 6), ui1251], [ur445, ur432], [], [], [uV62], [], [uG1261]), ([ui0, ui1251, (1, 6), ui1252], [ur445, ur432], [], [], [uV64], [], [uG1261]), ([ui0, ui48, (1, 6), ui48], [ur445, ur432], [], [], [uV64], [], [uG1261])], [uk1264], 1367, 2, 47)
set_option maxRecDepth 1000000 in
theorem ck_349 : x_ok mLT1 [cx_348, cx_346] mTS2 mTC2 mRUp cx_349 [(22, [0]), (88, [1])] [] [(28, ([(0, 3072), (0, 20), (1, 6), (0, 20), (0, 63), (0, 22), (0, 6)], [(11, false), (6, false), (45, false), (5, false), (2, false)], [], [(2, 0, 0, []), (2, 1, 0, []), (0, 0, 0, [(1, 1)]), (0, 0, 0, [(2, 1)]), (0, 0, 0, [(4, 1)]), (0, 0, 0, [(5, 1)]), (5, 0, 0, []), (5, 0, 0, [])], [], [(0, (false, 4, 0, []), 2, 2, 0, []), (0, (false, 0, 0, []), 2, 3, 0, []), (0, (false, 8, 0, []), 0, 0, 0, [(3, 1)]), (3, (false, 3, 0, []), 2, 4, 0, []), (4, (false, 5, 0, []), 0, 0, 0, [(6, 1)])], [(33, [(0, [])])]), (1083, [(5, (-49))]))] (1099, []) 268 51 = true := by decide +kernel
theorem sn_349 {W : Bool} {X : List Int32} : y_Snd (mGw W) mLT1 (J2 W X) X cx_349 := y_ok J2_J mTS2_ok1 mTC2_ok1 mRUp_ok1 (List.forall_mem_cons.mpr ⟨sn_348, List.forall_mem_cons.mpr ⟨sn_346, fun _ h => absurd h List.not_mem_nil⟩⟩) ck_349
/-- Feeler.note -/
def cx_350 : zCtx := (21, ([ui0, (1, 6), ui1265], [ur445], [], [], [uV2, uV11, uV12], [], []), [([ui0, (1, 6), ui1265], [ur445], [], [], [], [], [])], [uk1266, uk1267, uk1262], 181, 0, 0)
set_option maxRecDepth 1000000 in
theorem ck_350 : x_ok mLT1 [] mTS2 mTC2 mRUp cx_350 [] [] [(24, ([(0, 3072), (1, 6), (0, 65535), (0, 6)], [(11, false)], [], [(2, 0, 0, []), (0, 0, 0, [(1, 1)]), (0, 0, 0, [(2, 1)]), (0, 0, 0, [(3, 1)])], [], [], []), (166, [(3, (-27))]))] (181, []) 0 29 = true := by decide +kernel
theorem sn_350 {W : Bool} {X : List Int32} : y_Snd (mGw W) mLT1 (J2 W X) X cx_350 := y_ok J2_J mTS2_ok1 mTC2_ok1 mRUp_ok1 (fun _ h => absurd h List.not_mem_nil) ck_350
/-- Feeler.fill -/
def cx_351 : zCtx := (20, ([ui0, (6, 6), (6, 6), ui844, ui1265], [ur445], [], [], [uV2, uV11, uV12, uV58, uV97], [], []), [([ui0, (6, 6), (6, 6), ui844, ui1265], [ur445], [uL507], [], [], [], [])], [uk1266, uk1267, uk1262], 189, 1, 23)
set_option maxRecDepth 1000000 in
theorem ck_351 : x_ok mLT1 [cx_350] mTS2 mTC2 mRUp cx_351 [(15, [0])] [] [] (8, []) 181 11 = true := by decide +kernel
theorem sn_351 {W : Bool} {X : List Int32} : y_Snd (mGw W) mLT1 (J2 W X) X cx_351 := y_ok J2_J mTS2_ok1 mTC2_ok1 mRUp_ok1 (List.forall_mem_cons.mpr ⟨sn_350, fun _ h => absurd h List.not_mem_nil⟩) ck_351
/-- Feeler.fill -/
def cx_352 : zCtx := (20, ([ui0, (5, 6), (5, 5), ui844, ui1268], [ur445], [], [], [uV2, uV11, uV12, uV58, uV97], [], []), [([ui0, (5, 5), (5, 5), ui844, ui1268], [ur445], [uL507], [], [], [], []), ([ui0, (6, 6), (5, 5), ui844, ui1268], [ur445], [uL506], [], [], [], [])], [uk1266, uk1267, uk1262, uk1269], 442, 2, 48)
set_option maxRecDepth 1000000 in
theorem ck_352 : x_ok mLT1 [cx_350, cx_351] mTS2 mTC2 mRUp cx_352 [(15, [0]), (74, [1])] [] [(22, ([(0, 3072), (6, 6), (5, 5), (0, 63), (0, 9998), (0, 6)], [(11, false)], [((-1), [(1, 1), (2, (-1))])], [(2, 0, 0, []), (0, 0, 0, [(1, 1)]), (0, 0, 0, [(2, 1)]), (0, 0, 0, [(3, 1)]), (0, 0, 0, [(4, 1)]), (0, 0, 0, [(5, 1)])], [], [], []), ((-100000000000), [(1, (-66666666626)), (2, 100000000000), (5, (-40))]))] (253, []) 189 42 = true := by decide +kernel
theorem sn_352 {W : Bool} {X : List Int32} : y_Snd (mGw W) mLT1 (J2 W X) X cx_352 := y_ok J2_J mTS2_ok1 mTC2_ok1 mRUp_ok1 (List.forall_mem_cons.mpr ⟨sn_350, List.forall_mem_cons.mpr ⟨sn_351, fun _ h => absurd h List.not_mem_nil⟩⟩) ck_352
/-- Feeler.fill -/
def cx_353 : zCtx := (20, ([ui0, (4, 6), (4, 4), ui844, ui1270], [ur445], [], [], [uV2, uV11, uV12, uV58, uV97], [], []), [([ui0, (4, 4), (4, 4), ui844, ui1270], [ur445], [uL507], [], [], [], []), ([ui0, (5, 6), (4, 4), ui844, ui1270], [ur445], [uL506], [], [], [], [])], [uk1266, uk1267, uk1262, uk1269], 695, 3, 73)
set_option maxRecDepth 1000000 in
theorem ck_353 : x_ok mLT1 [cx_350, cx_352] mTS2 mTC2 mRUp cx_353 [(15, [0]), (74, [1])] [] [(22, ([(0, 3072), (5, 6), (4, 4), (0, 63), (0, 1319), (0, 6)], [(11, false)], [((-1), [(1, 1), (2, (-1))])], [(2, 0, 0, []), (0, 0, 0, [(1, 1)]), (0, 0, 0, [(2, 1)]), (0, 0, 0, [(3, 1)]), (0, 0, 0, [(4, 1)]), (0, 0, 0, [(5, 1)])], [], [], []), ((-100000000000), [(2, 25000000061), (5, (-40))]))] (253, []) 442 42 = true := by decide +kernel
theorem sn_353 {W : Bool} {X : List Int32} : y_Snd (mGw W) mLT1 (J2 W X) X cx_353 := y_ok J2_J mTS2_ok1 mTC2_ok1 mRUp_ok1 (List.forall_mem_cons.mpr ⟨sn_350, List.forall_mem_cons.mpr ⟨sn_352, fun _ h => absurd h List.not_mem_nil⟩⟩) ck_353
/-- Feeler.fill -/
def cx_354 : zCtx := (20, ([ui0, (3, 6), (3, 3), ui844, ui1271], [ur445], [], [], [uV2, uV11, uV12, uV58, uV97], [], []), [([ui0, (3, 3), (3, 3), ui844, ui1271], [ur445], [uL507], [], [], [], []), ([ui0, (4, 6), (3, 3), ui844, ui1271], [ur445], [uL506], [], [], [], [])], [uk1266, uk1267, uk1262, uk1269], 1454, 4, 98)
set_option maxRecDepth 1000000 in
theorem ck_354 : x_ok mLT1 [cx_350, cx_353] mTS2 mTC2 mRUp cx_354 [(15, [0]), (74, [1])] [] [(22, ([(0, 3072), (4, 6), (3, 3), (0, 63), (0, 218), (0, 6)], [(11, false)], [((-1), [(1, 1), (2, (-1))])], [(2, 0, 0, []), (0, 0, 0, [(1, 1)]), (0, 0, 0, [(2, 1)]), (0, 0, 0, [(3, 1)]), (0, 0, 0, [(4, 1)]), (0, 0, 0, [(5, 1)])], [], [], []), ((-300000000000), [(2, 100000000244), (5, (-120))]))] (759, []) 695 42 = true := by decide +kernel
theorem sn_354 {W : Bool} {X : List Int32} : y_Snd (mGw W) mLT1 (J2 W X) X cx_354 := y_ok J2_J mTS2_ok1 mTC2_ok1 mRUp_ok1 (List.forall_mem_cons.mpr ⟨sn_350, List.forall_mem_cons.mpr ⟨sn_353, fun _ h => absurd h List.not_mem_nil⟩⟩) ck_354
/-- Feeler.fill -/
def cx_355 : zCtx := (20, ([ui0, (2, 6), (2, 2), ui844, ui1207], [ur445], [], [], [uV2, uV11, uV12, uV58, uV97], [], []), [([ui0, (2, 2), (2, 2), ui844, ui1207], [ur445], [uL507], [], [], [], []), ([ui0, (3, 6), (2, 2), ui844, ui1207], [ur445], [uL506], [], [], [], [])], [uk1266, uk1267, uk1262, uk1269], 1707, 5, 123)
set_option maxRecDepth 1000000 in
theorem ck_355 : x_ok mLT1 [cx_350, cx_354] mTS2 mTC2 mRUp cx_355 [(15, [0]), (74, [1])] [] [(22, ([(0, 3072), (3, 6), (2, 2), (0, 63), (0, 35), (0, 6)], [(11, false)], [((-1), [(1, 1), (2, (-1))])], [(2, 0, 0, []), (0, 0, 0, [(1, 1)]), (0, 0, 0, [(2, 1)]), (0, 0, 0, [(3, 1)]), (0, 0, 0, [(4, 1)]), (0, 0, 0, [(5, 1)])], [], [], []), ((-100000000000), [(2, 50000000122), (5, (-40))]))] (253, []) 1454 42 = true := by decide +kernel
theorem sn_355 {W : Bool} {X : List Int32} : y_Snd (mGw W) mLT1 (J2 W X) X cx_355 := y_ok J2_J mTS2_ok1 mTC2_ok1 mRUp_ok1 (List.forall_mem_cons.mpr ⟨sn_350, List.forall_mem_cons.mpr ⟨sn_354, fun _ h => absurd h List.not_mem_nil⟩⟩) ck_355
/-- Feeler.fill -/
def cx_356 : zCtx := (20, ([ui0, (1, 6), (1, 1), ui844, (0, 5)], [ur445], [], [], [uV2, uV11, uV12, uV58, uV97], [], []), [([ui0, (1, 1), (1, 1), ui844, (0, 5)], [ur445], [uL507], [], [], [], []), ([ui0, (2, 6), (1, 1), ui844, (0, 5)], [ur445], [uL506], [], [], [], [])], [uk1266, uk1267, uk1262, uk1269], 1960, 6, 148)
set_option maxRecDepth 1000000 in
theorem ck_356 : x_ok mLT1 [cx_350, cx_355] mTS2 mTC2 mRUp cx_356 [(15, [0]), (74, [1])] [] [(22, ([(0, 3072), (2, 6), (1, 1), (0, 63), (0, 5), (0, 6)], [(11, false)], [((-1), [(1, 1), (2, (-1))])], [(2, 0, 0, []), (0, 0, 0, [(1, 1)]), (0, 0, 0, [(2, 1)]), (0, 0, 0, [(3, 1)]), (0, 0, 0, [(4, 1)]), (0, 0, 0, [(5, 1)])], [], [], []), ((-99999999756), [(2, 100000000000), (5, (-40))]))] (253, []) 1707 42 = true := by decide +kernel
theorem sn_356 {W : Bool} {X : List Int32} : y_Snd (mGw W) mLT1 (J2 W X) X cx_356 := y_ok J2_J mTS2_ok1 mTC2_ok1 mRUp_ok1 (List.forall_mem_cons.mpr ⟨sn_350, List.forall_mem_cons.mpr ⟨sn_355, fun _ h => absurd h List.not_mem_nil⟩⟩) ck_356
/-- Feeler.fill -/
def cx_357 : zCtx := (20, ([ui0, (1, 6), (0, 0), (0, 0), (0, 0)], [ur445], [], [], [uV2, uV11, uV12, uV58, uV97], [], []), [([ui0, (1, 6), (0, 0), (0, 0), (0, 0)], [ur445], [uL506], [], [], [], [])], [uk1266, uk1267, uk1262, uk1269], 2213, 7, 173)
set_option maxRecDepth 1000000 in
theorem ck_357 : x_ok mLT1 [cx_356] mTS2 mTC2 mRUp cx_357 [(74, [0])] [] [(22, ([(0, 3072), (1, 6), (0, 0), (0, 0), (0, 0), (0, 6)], [(11, false)], [((-1), [(1, 1), (2, (-1))])], [(2, 0, 0, []), (0, 0, 0, [(1, 1)]), (0, 0, 0, [(2, 1)]), (0, 0, 0, [(3, 1)]), (0, 0, 0, [(4, 1)]), (0, 0, 0, [(5, 1)])], [], [], []), (244, [(2, (-100000000000)), (3, (-100000000000)), (4, (-100000000000)), (5, (-40))]))] (253, []) 1960 42 = true := by decide +kernel
theorem sn_357 {W : Bool} {X : List Int32} : y_Snd (mGw W) mLT1 (J2 W X) X cx_357 := y_ok J2_J mTS2_ok1 mTC2_ok1 mRUp_ok1 (List.forall_mem_cons.mpr ⟨sn_356, fun _ h => absurd h List.not_mem_nil⟩) ck_357
/-- Feeler.findRows -/
def cx_358 : zCtx := (17, ([ui0, ui48, (1, 6), ui524, ui48], [ur445, ur432], [], [], [uV2, uV420, uV11, uV12, uV58], [uF41], []), [([ui0, ui48, (1, 6), ui524, ui48], [ur445, ur432], [], [], [], [], [uG1261])], [uk1272, uk1266, uk1267, uk1264, uk1262, uk1269], 2242, 8, 198)
set_option maxRecDepth 1000000 in
theorem ck_358 : x_ok mLT1 [cx_346, cx_347, cx_349, cx_357] mTS2 mTC2 mRUp cx_358 [(16, [0]), (27, [1]), (34, [2]), (45, [3])] [] [] (29, []) 2213 32 = true := by decide +kernel
theorem sn_358 {W : Bool} {X : List Int32} : y_Snd (mGw W) mLT1 (J2 W X) X cx_358 := y_ok J2_J mTS2_ok1 mTC2_ok1 mRUp_ok1 (List.forall_mem_cons.mpr ⟨sn_346, List.forall_mem_cons.mpr ⟨sn_347, List.forall_mem_cons.mpr ⟨sn_349, List.forall_mem_cons.mpr ⟨sn_357, fun _ h => absurd h List.not_mem_nil⟩⟩⟩⟩) ck_358
/-- HairRope.rows -/
def cx_359 : zCtx := (178, ([ui0, ui49, ui49, ui49], [ur442], [], [], [uV2, uV11, uV12, uV58], [], []), [([ui0, ui262, ui49, ui49], [ur442], [], [], [uV61], [], []), ([ui0, ui505, ui49, ui49], [ur442], [], [], [uV61], [], []), ([ui0, ui48, ui1209, ui49], [ur442], [], [], [uV61], [], []), ([ui0, ui48, ui1259, ui49], [ur442], [], [], [uV61], [], []), ([ui0, ui48, (1, 6), ui1063], [ur442], [], [], [uV61], [], []), ([ui0, ui48, (1, 6), (0, 0), ui49], [ur442], [], [], [uV97], [], [uG1261]), ([ui0, ui48, (1, 6), (1, 1), ui49], [ur442], [], [], [uV97], [], [uG1261]), ([ui0, ui48, (1, 6), ui262], [ur442], [], [], [uV61], [], [])], [uk1272, uk1266, uk1267, uk1264, uk1262, uk1269], 2269, 9, 222)
set_option maxRecDepth 1000000 in
theorem ck_359 : x_ok mLT1 [cx_344, cx_345, cx_358] mTS2 mTC2 mRUp cx_359 [(2, [0]), (9, [1]), (37, [2])] [] [] (27, []) 2242 30 = true := by decide +kernel
theorem sn_359 {W : Bool} {X : List Int32} : y_Snd (mGw W) mLT1 (J2 W X) X cx_359 := y_ok J2_J mTS2_ok1 mTC2_ok1 mRUp_ok1 (List.forall_mem_cons.mpr ⟨sn_344, List.forall_mem_cons.mpr ⟨sn_345, List.forall_mem_cons.mpr ⟨sn_358, fun _ h => absurd h List.not_mem_nil⟩⟩⟩) ck_359
/-- Feeler.bestPlace -/
def cx_360 : zCtx := (22, ([ui0, (1, 6)], [ur445], [], [], [uV2, uV11], [], []), [([ui0, (1, 6), ui1249], [ur445], [], [], [uV12], [], [])], [], 210, 1, 64)
set_option maxRecDepth 1000000 in
theorem ck_360 : x_ok mLT1 [] mTS2 mTC2 mRUp cx_360 [] [] [(13, ([(0, 3072), (1, 6), ((-2), 5), ((-2147483648), 2147483647), (0, 6)], [(11, false)], [], [(2, 0, 0, []), (0, 0, 0, [(1, 1)]), (0, 0, 0, [(2, 1)]), (0, 0, 0, [(3, 1)]), (0, 0, 0, [(4, 1)]), (5, 0, 0, [])], [], [], []), (200, [(4, (-32))]))] (210, []) 0 34 = true := by decide +kernel
theorem sn_360 {W : Bool} {X : List Int32} : y_Snd (mGw W) mLT1 (J2 W X) X cx_360 := y_ok J2_J mTS2_ok1 mTC2_ok1 mRUp_ok1 (fun _ h => absurd h List.not_mem_nil) ck_360
/-- HairRope.feel -/
def cx_361 : zCtx := (181, ([ui0, ui49, ui49, ui49], [ur442], [], [], [uV2, uV11, uV12, uV58], [], []), [([ui0, ui262, ui49, ui49], [ur442], [], [], [uV61], [], []), ([ui0, ui505, ui49, ui49], [ur442], [], [], [uV61], [], []), ([ui0, ui48, ui1209, ui49], [ur442], [], [], [uV61], [], []), ([ui0, ui48, ui1259, ui49], [ur442], [], [], [uV61], [], []), ([ui0, ui48, (1, 6), ui262], [ur442], [], [], [uV61], [], []), ([ui0, ui48, (1, 6), ui1250], [ur442], [], [], [uV61], [], []), ([ui0, ui48, (1, 6), ui524, ui1249], [ur442], [], [], [uV97], [], [uG1261])], [uk1272, uk1266, uk1267, uk1264, uk1262, uk1269], 2265, 9, 222)
set_option maxRecDepth 1000000 in
theorem ck_361 : x_ok mLT1 [cx_344, cx_345, cx_339, cx_358, cx_360] mTS2 mTC2 mRUp cx_361 [(2, [0]), (9, [1]), (16, [2]), (35, [3]), (43, [4])] [] [] (23, []) 2242 26 = true := by decide +kernel
theorem sn_361 {W : Bool} {X : List Int32} : y_Snd (mGw W) mLT1 (J2 W X) X cx_361 := y_ok J2_J mTS2_ok1 mTC2_ok1 mRUp_ok1 (List.forall_mem_cons.mpr ⟨sn_344, List.forall_mem_cons.mpr ⟨sn_345, List.forall_mem_cons.mpr ⟨sn_339, List.forall_mem_cons.mpr ⟨sn_358, List.forall_mem_cons.mpr ⟨sn_360, fun _ h => absurd h List.not_mem_nil⟩⟩⟩⟩⟩) ck_361
/-- HairRope.isSlot -/
def cx_362 : zCtx := (183, ([ui0, ui49], [], [], [], [uV11], [], []), [([ui0, (0, 2)], [], [], [], [uV64], [], []), ([ui0, ui1273], [], [], [], [uV62], [], []), ([ui0, ui262], [], [], [], [uV62], [], [])], [], 8, 0, 0)
set_option maxRecDepth 1000000 in
theorem ck_362 : x_ok mLT1 [] mTS2 mTC2 mRUp cx_362 [] [] [] (8, []) 0 11 = true := by decide +kernel
theorem sn_362 {W : Bool} {X : List Int32} : y_Snd (mGw W) mLT1 (J2 W X) X cx_362 := y_ok J2_J mTS2_ok1 mTC2_ok1 mRUp_ok1 (fun _ h => absurd h List.not_mem_nil) ck_362
def cx_363pi_0 (t : List (Int × Int)) : List (Int × Int) := ui0 :: ui1273 :: (0, 7) :: (0, 1) :: (0, 1) :: (0, 1) :: (0, 6) :: (0, 6) :: t
def cx_363pi_1 (t : List (Int × Int)) : List (Int × Int) := ui49 :: ui49 :: t
def cx_363p : zS := ((cx_363pi_0 (cx_363pi_1 [])), [ur442, ur440, ur432], [uL1274, uL1275], [], [uV2, uV11], [uF1108, uF1276, uF540, uF1147, uF1277, uF223, uF1278], [uG1279, uG1280])
/-- HairRope.hold -/
def cx_363 : zCtx := (182, cx_363p, [([ui0, ui1273, (0, 7), (0, 1), (0, 1), (0, 1), (0, 6), (0, 6), ui49, ui49], [ur442, ur440, ur432], [], [], [uV62], [uF1276], [])], [], 13, 1, 20)
set_option maxRecDepth 1000000 in
theorem ck_363 : x_ok mLT1 [cx_362] mTS2 mTC2 mRUp cx_363 [(1, [0])] [] [] (5, []) 8 8 = true := by decide +kernel
theorem sn_363 {W : Bool} {X : List Int32} : y_Snd (mGw W) mLT1 (J2 W X) X cx_363 := y_ok J2_J mTS2_ok1 mTC2_ok1 mRUp_ok1 (List.forall_mem_cons.mpr ⟨sn_362, fun _ h => absurd h List.not_mem_nil⟩) ck_363
/-- History.slotAt -/
def cx_364 : zCtx := (44, ([ui0], [ur440], [], [], [uV2, uV62], [], []), [([ui0], [ur440, ur1281], [], [], [uV420], [], [])], [], 11, 0, 0)
set_option maxRecDepth 1000000 in
theorem ck_364 : x_ok mLT1 [] mTS2 mTC2 mRUp cx_364 [] [] [] (11, []) 0 14 = true := by decide +kernel
theorem sn_364 {W : Bool} {X : List Int32} : y_Snd (mGw W) mLT1 (J2 W X) X cx_364 := y_ok J2_J mTS2_ok1 mTC2_ok1 mRUp_ok1 (fun _ h => absurd h List.not_mem_nil) ck_364
def cx_365p : zS := ((cx_149pi_0 (cx_149pi_1 (cx_149pi_2 (cx_149pi_3 (cx_149pi_4 []))))), [ur1281, ur432, ur433, ur427, ur547, ur548, ur549], [], [], [uV2, uV420], (cx_149pf_0 (cx_149pf_1 (cx_149pf_2 (cx_149pf_3 (cx_149pf_4 (cx_149pf_5 [])))))), [])
def cx_365q0 : zS := ((cx_149pi_0 (cx_149pi_1 (cx_149pi_2 (cx_149pi_3 (cx_149pi_4 []))))), [ur1281, ur432, ur433, ur427, ur547, ur548, ur549], [], [], [], [uF126, uF128, uF129, uF710], [uG1282])
/-- State.copyFrom -/
def cx_365 : zCtx := (102, cx_365p, [cx_365q0], kc_67, 57, 1, 64)
set_option maxRecDepth 1000000 in
theorem ck_365 : x_ok mLT1 [] mTS2 mTC2 mRUp cx_365 [] [(107, [1001189])] [] (57, []) 0 60 = true := by decide +kernel
theorem sn_365 {W : Bool} {X : List Int32} : y_Snd (mGw W) mLT1 (J2 W X) X cx_365 := y_ok J2_J mTS2_ok1 mTC2_ok1 mRUp_ok1 (fun _ h => absurd h List.not_mem_nil) ck_365
def cx_366pi_0 (t : List (Int × Int)) : List (Int × Int) := ui0 :: (0, 7) :: (0, 1) :: (0, 1) :: (0, 1) :: (0, 6) :: (0, 6) :: ui49 :: t
def cx_366pi_1 (t : List (Int × Int)) : List (Int × Int) := ui49 :: t
def cx_366p : zS := ((cx_366pi_0 (cx_366pi_1 [])), [ur440, ur432], [uL1283, uL1284], [], [uV2, uV62, uV420], [uF32, uF580, uF581, uF582, uF583], [uG1285, uG468])
/-- History.fillSlot -/
def cx_366 : zCtx := (43, cx_366p, [([ui0, (0, 7), (0, 1), (0, 1), (0, 1), (0, 6), (0, 6), ui49, ui49, ui49], [ur440, ur432], [], [], [uV64], [uF307], [uG1286, uG1287, uG1288])], kc_68, 76, 2, 85)
set_option maxRecDepth 1000000 in
theorem ck_366 : x_ok mLT1 [cx_364, cx_365] mTS2 mTC2 mRUp cx_366 [(2, [0]), (14, [1])] [(14, uN1289), (17, [1000691]), (25, [1000667])] [] (19, []) 57 22 = true := by decide +kernel
theorem sn_366 {W : Bool} {X : List Int32} : y_Snd (mGw W) mLT1 (J2 W X) X cx_366 := y_ok J2_J mTS2_ok1 mTC2_ok1 mRUp_ok1 (List.forall_mem_cons.mpr ⟨sn_364, List.forall_mem_cons.mpr ⟨sn_365, fun _ h => absurd h List.not_mem_nil⟩⟩) ck_366
end
