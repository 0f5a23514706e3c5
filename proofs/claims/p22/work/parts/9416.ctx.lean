noncomputable section
/-! ===== readings, by program, checked by the kernel ===== -/
/-- Forecast.findHarvest -/
def cx_327 : zCtx := (26, ([ui0, (0, 5), ui876], [ur1267, ur431], [], [], [uV2, uV419, uV11, uV12], [], []), [([ui0, (0, 5), ui876], [ur1267, ur431], [], [], [], [], [])], kc_66, 57091, 5, 163)
set_option maxRecDepth 1000000 in
theorem ck_327 : x_ok mLT1 [cx_326] mTS2 mTC2 mRUp cx_327 [(25, [0])] [] [(13, ([(0, 3072), (0, 5), (1, 60), (1, 63)], [(8, false), (6, false)], [], [(2, 0, 0, []), (2, 1, 0, []), (0, 0, 0, [(1, 1)]), (0, 0, 0, [(2, 1)]), (0, 0, 0, [(3, 1)]), (5, 0, 0, [])], [], [], []), (1453, [(3, (-23))]))] (1439, []) 55652 25 = true := by decide +kernel
theorem sn_327 {W : Bool} {X : List Int32} : y_Snd (mGw W) mLT1 (J2 W X) X cx_327 := y_ok J2_J mTS2_ok1 mTC2_ok1 mRUp_ok1 (List.forall_mem_cons.mpr ⟨sn_326, fun _ h => absurd h List.not_mem_nil⟩) ck_327
/-- HairRope.harvest -/
def cx_328 : zCtx := (169, ([ui0, ui49, ui49, ui49], [ur441], [], [], [uV2, uV11, uV12, uV58], [], []), [([ui0, ui260, ui49, ui49], [ur441], [], [], [uV61], [], []), ([ui0, ui517, ui49, ui49], [ur441], [], [], [uV61], [], []), ([ui0, (0, 5), ui876, (0, 0), ui49], [ur441], [], [], [uV97], [], []), ([ui0, (0, 5), ui876, (1, 1), ui49], [ur441], [], [], [uV97], [], [])], kc_66, 57120, 6, 188)
set_option maxRecDepth 1000000 in
theorem ck_328 : x_ok mLT1 [cx_130, cx_327] mTS2 mTC2 mRUp cx_328 [(2, [0]), (40, [1])] [] [] (29, []) 57091 32 = true := by decide +kernel
theorem sn_328 {W : Bool} {X : List Int32} : y_Snd (mGw W) mLT1 (J2 W X) X cx_328 := y_ok J2_J mTS2_ok1 mTC2_ok1 mRUp_ok1 (List.forall_mem_cons.mpr ⟨sn_130, List.forall_mem_cons.mpr ⟨sn_327, fun _ h => absurd h List.not_mem_nil⟩⟩) ck_328
/-- Text.likeOf -/
def cx_329 : zCtx := (135, ([ui0, ui49, ui49], [ur443, ur588], [], [], [uV2, uV11, uV12], [uF42], []), [([ui0, ui260, ui49], [ur443, ur588], [], [], [uV3], [], []), ([ui0, ui259, ui49], [ur443, ur588], [], [], [uV3], [], []), ([ui0, (0, 5), ui260], [ur443, ur588], [], [], [uV3], [], []), ([ui0, (0, 5), ui259], [ur443, ur588], [], [], [uV3], [], []), ([ui0, (0, 5), (0, 5), ui49], [ur443, ur588], [], [], [uV58], [], [])], [], 24, 1, 20)
set_option maxRecDepth 1000000 in
theorem ck_329 : x_ok mLT1 [cx_51] mTS2 mTC2 mRUp cx_329 [(1, [0]), (8, [0])] [(25, [1000464])] [] (16, []) 8 19 = true := by decide +kernel
theorem sn_329 {W : Bool} {X : List Int32} : y_Snd (mGw W) mLT1 (J2 W X) X cx_329 := y_ok J2_J mTS2_ok1 mTC2_ok1 mRUp_ok1 (List.forall_mem_cons.mpr ⟨sn1_51, fun _ h => absurd h List.not_mem_nil⟩) ck_329
/-- Rules.joinAbove -/
def cx_330 : zCtx := (92, ([ui0, (1, 5)], [ur442, ur431], [], [], [uV2, uV419, uV11], [], []), [([ui0, (1, 5), ui600], [ur442, ur431], [], [], [uV12], [], [])], [uk553, uk542], 53013, 3, 111)
set_option maxRecDepth 1000000 in
theorem ck_330 : x_ok mLT1 [cx_329, cx_272] mTS2 mTC2 mRUp cx_330 [(42, [0]), (45, [1])] [] [] (29, []) 52984 32 = true := by decide +kernel
theorem sn_330 {W : Bool} {X : List Int32} : y_Snd (mGw W) mLT1 (J2 W X) X cx_330 := y_ok J2_J mTS2_ok1 mTC2_ok1 mRUp_ok1 (List.forall_mem_cons.mpr ⟨sn_329, List.forall_mem_cons.mpr ⟨sn_272, fun _ h => absurd h List.not_mem_nil⟩⟩) ck_330
/-- Rules.weigh -/
def cx_331 : zCtx := (91, ([ui0, ui49], [ur442, ur431], [], [], [uV2, uV419], [uF181], []), [([ui0, ui49, ui824], [ur442, ur431], [], [], [], [uF150], [])], [uk827, uk553, uk828, uk542], 53276, 4, 135)
set_option maxRecDepth 1000000 in
theorem ck_331 : x_ok mLT1 [cx_330] mTS2 mTC2 mRUp cx_331 [(75, [0])] [] [(30, ([(0, 3072), ((-2147483648), 2147483647), ((-2147483648), 2147483647), ((-1), 5), (0, 11), (0, 6)], [(5, false), (6, false)], [], [(2, 0, 0, []), (2, 1, 0, []), (0, 0, 0, [(2, 1)]), (0, 0, 0, [(3, 1)])], [], [(0, (false, 2, 0, []), 0, 0, 0, [(4, 1)]), (1, (false, 6, 0, []), 0, 0, 0, [(5, 1)])], []), (43, [(3, 40)]))] (263, []) 53013 42 = true := by decide +kernel
theorem sn_331 {W : Bool} {X : List Int32} : y_Snd (mGw W) mLT1 (J2 W X) X cx_331 := y_ok J2_J mTS2_ok1 mTC2_ok1 mRUp_ok1 (List.forall_mem_cons.mpr ⟨sn_330, fun _ h => absurd h List.not_mem_nil⟩) ck_331
/-- Rules.greatestHaul -/
def cx_332 : zCtx := (98, ([ui0, ui824], [ur442], [], [], [uV2], [uF181], []), [([ui0, ui824], [ur442], [], [], [uV583], [], []), ([ui0, ui824, ui600], [ur442], [], [], [uV12], [], [])], [], 388, 1, 64)
set_option maxRecDepth 1000000 in
theorem ck_332 : x_ok mLT1 [] mTS2 mTC2 mRUp cx_332 [] [] [(6, ([(0, 3072), (0, 11), ((-2147483648), 999), (0, 22)], [(5, false)], [], [(2, 0, 0, []), (0, 0, 0, [(2, 1)]), (0, 0, 0, [(3, 1)])], [], [(0, (false, 2, 0, []), 0, 0, 0, [(1, 1)])], []), (383, [(3, (-17))]))] (388, []) 0 19 = true := by decide +kernel
theorem sn_332 {W : Bool} {X : List Int32} : y_Snd (mGw W) mLT1 (J2 W X) X cx_332 := y_ok J2_J mTS2_ok1 mTC2_ok1 mRUp_ok1 (fun _ h => absurd h List.not_mem_nil) ck_332
/-- State.exchangeIn -/
def cx_333 : zCtx := (107, ([ui0, (0, 5), (1, 5)], [ur1256], [], [], [uV2, uV11, uV12], [], []), [([ui0, (0, 5), (1, 5)], [ur1256], [], [], [], [], [])], [uk1355], 27, 0, 0)
set_option maxRecDepth 1000000 in
theorem ck_333 : x_ok mLT1 [] mTS2 mTC2 mRUp cx_333 [] [] [] (27, []) 0 30 = true := by decide +kernel
theorem sn_333 {W : Bool} {X : List Int32} : y_Snd (mGw W) mLT1 (J2 W X) X cx_333 := y_ok J2_J mTS2_ok1 mTC2_ok1 mRUp_ok1 (fun _ h => absurd h List.not_mem_nil) ck_333
/-- State.exchangeIn -/
def cx_334 : zCtx := (107, ([ui0, (0, 5), (1, 5)], [ur1257], [], [], [uV2, uV11, uV12], [], []), [([ui0, (0, 5), (1, 5)], [ur1257], [], [], [], [], [])], [uk1356], 27, 0, 0)
set_option maxRecDepth 1000000 in
theorem ck_334 : x_ok mLT1 [] mTS2 mTC2 mRUp cx_334 [] [] [] (27, []) 0 30 = true := by decide +kernel
theorem sn_334 {W : Bool} {X : List Int32} : y_Snd (mGw W) mLT1 (J2 W X) X cx_334 := y_ok J2_J mTS2_ok1 mTC2_ok1 mRUp_ok1 (fun _ h => absurd h List.not_mem_nil) ck_334
/-- State.exchangeIn -/
def cx_335 : zCtx := (107, ([ui0, (0, 5), (1, 5)], [ur1258], [], [], [uV2, uV11, uV12], [], []), [([ui0, (0, 5), (1, 5)], [ur1258], [], [], [], [], [])], [uk1262], 27, 0, 0)
set_option maxRecDepth 1000000 in
theorem ck_335 : x_ok mLT1 [] mTS2 mTC2 mRUp cx_335 [] [] [] (27, []) 0 30 = true := by decide +kernel
theorem sn_335 {W : Bool} {X : List Int32} : y_Snd (mGw W) mLT1 (J2 W X) X cx_335 := y_ok J2_J mTS2_ok1 mTC2_ok1 mRUp_ok1 (fun _ h => absurd h List.not_mem_nil) ck_335
/-- State.exchange -/
def cx_336 : zCtx := (106, ([ui0, (0, 5), (1, 5)], [ur1251], [], [], [uV2, uV11, uV12], [], []), [([ui0, (0, 5), (1, 5)], [ur1251], [], [], [], [], [])], [uk1355, uk1356, uk1262], 43, 1, 23)
set_option maxRecDepth 1000000 in
theorem ck_336 : x_ok mLT1 [cx_333, cx_334, cx_335] mTS2 mTC2 mRUp cx_336 [(6, [0]), (15, [1]), (24, [2])] [] [] (16, []) 27 19 = true := by decide +kernel
theorem sn_336 {W : Bool} {X : List Int32} : y_Snd (mGw W) mLT1 (J2 W X) X cx_336 := y_ok J2_J mTS2_ok1 mTC2_ok1 mRUp_ok1 (List.forall_mem_cons.mpr ⟨sn_333, List.forall_mem_cons.mpr ⟨sn_334, List.forall_mem_cons.mpr ⟨sn_335, fun _ h => absurd h List.not_mem_nil⟩⟩⟩) ck_336
/-- Rules.joinOf -/
def cx_337 : zCtx := (90, ([ui0, ui49, ui49, ui49], [ur442, ur1251], [], [], [uV2, uV419, uV11, uV12, uV58], [], []), [([ui0, ui49, ui49, ui49, ui600], [ur442, ur1251], [], [], [uV97], [], [])], [uk553, uk542], 52984, 2, 87)
set_option maxRecDepth 1000000 in
theorem ck_337 : x_ok mLT1 [cx_320, cx_322, cx_321, cx_136] mTS2 mTC2 mRUp cx_337 [(5, [0]), (8, [1]), (30, [0]), (33, [2]), (53, [3])] [] [] (35, []) 52949 38 = true := by decide +kernel
theorem sn_337 {W : Bool} {X : List Int32} : y_Snd (mGw W) mLT1 (J2 W X) X cx_337 := y_ok J2_J mTS2_ok1 mTC2_ok1 mRUp_ok1 (List.forall_mem_cons.mpr ⟨sn_320, List.forall_mem_cons.mpr ⟨sn_322, List.forall_mem_cons.mpr ⟨sn_321, List.forall_mem_cons.mpr ⟨sn_136, fun _ h => absurd h List.not_mem_nil⟩⟩⟩⟩) ck_337
/-- Rules.joinAbove -/
def cx_338 : zCtx := (92, ([ui0, (1, 5)], [ur442, ur1251], [], [], [uV2, uV419, uV11], [], []), [([ui0, (1, 5), ui600], [ur442, ur1251], [], [], [uV12], [], [])], [uk553, uk542], 53013, 3, 111)
set_option maxRecDepth 1000000 in
theorem ck_338 : x_ok mLT1 [cx_329, cx_337] mTS2 mTC2 mRUp cx_338 [(42, [0]), (45, [1])] [] [] (29, []) 52984 32 = true := by decide +kernel
theorem sn_338 {W : Bool} {X : List Int32} : y_Snd (mGw W) mLT1 (J2 W X) X cx_338 := y_ok J2_J mTS2_ok1 mTC2_ok1 mRUp_ok1 (List.forall_mem_cons.mpr ⟨sn_329, List.forall_mem_cons.mpr ⟨sn_337, fun _ h => absurd h List.not_mem_nil⟩⟩) ck_338
/-- Rules.weigh -/
def cx_339 : zCtx := (91, ([ui0, ui824], [ur442, ur1251], [], [], [uV2, uV419], [uF181], []), [([ui0, ui824, ui824], [ur442, ur1251], [], [], [], [uF150], [])], [uk827, uk553, uk828, uk542], 53276, 4, 135)
set_option maxRecDepth 1000000 in
theorem ck_339 : x_ok mLT1 [cx_338] mTS2 mTC2 mRUp cx_339 [(75, [0])] [] [(30, ([(0, 3072), (0, 11), ((-2147483648), 2147483647), ((-1), 5), (0, 11), (0, 6)], [(5, false), (106, false)], [], [(2, 0, 0, []), (2, 1, 0, []), (0, 0, 0, [(2, 1)]), (0, 0, 0, [(3, 1)])], [], [(0, (false, 2, 0, []), 0, 0, 0, [(4, 1)]), (1, (false, 6, 0, []), 0, 0, 0, [(5, 1)])], []), (43, [(3, 40)]))] (263, []) 53013 42 = true := by decide +kernel
theorem sn_339 {W : Bool} {X : List Int32} : y_Snd (mGw W) mLT1 (J2 W X) X cx_339 := y_ok J2_J mTS2_ok1 mTC2_ok1 mRUp_ok1 (List.forall_mem_cons.mpr ⟨sn_338, fun _ h => absurd h List.not_mem_nil⟩) ck_339
/-- Forecast.bestSwap -/
def cx_340 : zCtx := (28, ([ui0], [ur1267, ur431], [], [], [uV2, uV419], [], []), [([ui0, ui1357], [ur1267, ur431], [], [], [uV11], [], [])], kc_64, 54471, 5, 158)
set_option maxRecDepth 1000000 in
theorem ck_340 : x_ok mLT1 [cx_331, cx_332, cx_284, cx_336, cx_339] mTS2 mTC2 mRUp cx_340 [(5, [0]), (12, [1]), (51, [2]), (62, [3]), (73, [4]), (80, [1]), (91, [1])] [] [(22, ([(0, 3072), ((-2), 999), ((-2), 63), (0, 6), (0, 11)], [(8, false), (6, false), (5, false)], [], [(2, 0, 0, []), (2, 1, 0, []), (0, 0, 0, [(1, 1)]), (0, 0, 0, [(2, 1)]), (0, 0, 0, [(3, 1)]), (5, 0, 0, [])], [], [(0, (false, 0, 0, []), 2, 2, 0, []), (2, (false, 2, 0, []), 0, 0, 0, [(4, 1)])], []), (1182, [(3, (-196))])), (37, ([(0, 3072), ((-2), 999), ((-2), 63), (0, 5), (1, 6), (1, 6), (0, 11)], [(8, false), (6, false), (5, false)], [], [(2, 0, 0, []), (2, 1, 0, []), (0, 0, 0, [(1, 1)]), (0, 0, 0, [(2, 1)]), (0, 0, 0, [(3, 1)]), (0, 0, 0, [(4, 1)])], [], [(1, (false, 6, 0, []), 0, 0, 0, [(5, 1)]), (0, (false, 0, 0, []), 2, 2, 0, []), (2, (false, 2, 0, []), 0, 0, 0, [(6, 1)])], []), (1209, [(3, (-160)), (4, (-36))]))] (1195, []) 53276 38 = true := by decide +kernel
theorem sn_340 {W : Bool} {X : List Int32} : y_Snd (mGw W) mLT1 (J2 W X) X cx_340 := y_ok J2_J mTS2_ok1 mTC2_ok1 mRUp_ok1 (List.forall_mem_cons.mpr ⟨sn_331, List.forall_mem_cons.mpr ⟨sn_332, List.forall_mem_cons.mpr ⟨sn_284, List.forall_mem_cons.mpr ⟨sn_336, List.forall_mem_cons.mpr ⟨sn_339, fun _ h => absurd h List.not_mem_nil⟩⟩⟩⟩⟩) ck_340
/-- HairRope.swap -/
def cx_341 : zCtx := (170, ([ui0], [ur441], [], [], [uV2], [], []), [([ui0, ui1357], [ur441], [], [], [uV11], [], [])], kc_64, 54477, 6, 183)
set_option maxRecDepth 1000000 in
theorem ck_341 : x_ok mLT1 [cx_340] mTS2 mTC2 mRUp cx_341 [(8, [0])] [] [] (6, []) 54471 9 = true := by decide +kernel
theorem sn_341 {W : Bool} {X : List Int32} : y_Snd (mGw W) mLT1 (J2 W X) X cx_341 := y_ok J2_J mTS2_ok1 mTC2_ok1 mRUp_ok1 (List.forall_mem_cons.mpr ⟨sn_340, fun _ h => absurd h List.not_mem_nil⟩) ck_341
def cx_342q2i_0 (t : List (Int × Int)) : List (Int × Int) := ui0 :: (0, 0) :: ui31 :: (0, 6) :: (0, 6) :: ui49 :: ui49 :: ui49 :: t
def cx_342q2i_1 (t : List (Int × Int)) : List (Int × Int) := ui49 :: t
def cx_342q2 : zS := ((cx_342q2i_0 (cx_342q2i_1 [])), (cx_249pr_0 (cx_249pr_1 [])), [], [], [uV142], [uF616, uF617, uF618, uF619], [uG620, (260, [uL656, uL67, uL63, uL63, uL63, uL63, uL63, uL63, uL98, uL79, uL131])])
def cx_342q3i_0 (t : List (Int × Int)) : List (Int × Int) := ui0 :: (1, 1) :: ui31 :: (0, 6) :: (0, 6) :: ui49 :: ui49 :: ui49 :: t
def cx_342q3i_1 (t : List (Int × Int)) : List (Int × Int) := ui49 :: t
def cx_342q3 : zS := ((cx_342q3i_0 (cx_342q3i_1 [])), (cx_249pr_0 (cx_249pr_1 [])), [], [], [uV142], [uF616, uF617, uF618, uF619], [uG620, (260, [uL656, uL67, uL63, uL63, uL63, uL63, uL63, uL63, uL98, uL131, uL79])])
/-- HairRope.quarrel -/
def cx_342 : zCtx := (171, cx_250p, [([ui0, ui1096, ui31, (0, 6), (0, 6), ui49, ui49], [ur441, ur442, ur443, ur545, ur431, ur588, ur562, ur432, ur426, ur563, ur564, ur565, ur536, ur823], [], [], [uV61], [uF616, uF617, uF618, uF619], [uG620]), ([ui0, ui260, ui31, (0, 6), (0, 6), ui49, ui49], [ur441, ur442, ur443, ur545, ur431, ur588, ur562, ur432, ur426, ur563, ur564, ur565, ur536, ur823], [], [], [uV61], [uF616, uF617, uF618, uF619], [uG620]), cx_342q2, cx_342q3], [uk553, uk542], 53155, 4, 135)
def cz_342_0i_0 (t : List (Int × Int)) : List (Int × Int) := ui0 :: (0, 1) :: ui31 :: (0, 6) :: (0, 6) :: ui49 :: ui49 :: ui1358 :: t
def cz_342_0i_1 (t : List (Int × Int)) : List (Int × Int) := ui1156 :: (1, 6) :: t
def cz_342_0g_0 (t : List zTg) : List zTg := (235, [uL23, uL98, uL104, uL78, uL67, uL63, uL63, uL63, uL63, uL63, uL63]) :: uG620 :: (238, [uL656, uL67, uL63, uL63, uL63, uL63, uL63, uL63, uL163, uL79, uL131]) :: t
def cz_342_0 : zS := ((cz_342_0i_0 (cz_342_0i_1 [])), (cx_249pr_0 (cx_249pr_1 [])), [uL1092], [uV2, uV11, uV142, uV144, uV799, uV113], [], (cx_250pf_0 (cx_250pf_1 (cx_250pf_2 []))), (cz_342_0g_0 []))
set_option maxRecDepth 1000000 in
theorem ck_342 : x_ok mLT1 [cx_196] mTS2 mTC2 mRUp cx_342 [(42, [0])] [(17, [1000733, 1000773]), (54, [1000012]), (57, [1000774, 1000775]), (63, [1000776]), (69, [1000777])] [(20, cz_342_0, (154, [(9, (-24))]))] (142, []) 53013 26 = true := by decide +kernel
theorem sn_342 {W : Bool} {X : List Int32} : y_Snd (mGw W) mLT1 (J2 W X) X cx_342 := y_ok J2_J mTS2_ok1 mTC2_ok1 mRUp_ok1 (List.forall_mem_cons.mpr ⟨sn_196, fun _ h => absurd h List.not_mem_nil⟩) ck_342
def cx_343q2 : zS := ((cx_342q2i_0 (cx_342q2i_1 [])), (cx_251pr_0 (cx_251pr_1 [])), [], [], [uV142], [uF616, uF617, uF618, uF619], [uG620, (260, [uL653, uL63, uL63, uL63, uL63, uL63, uL63, uL63, uL98, uL79, uL131])])
def cx_343q3 : zS := ((cx_342q3i_0 (cx_342q3i_1 [])), (cx_251pr_0 (cx_251pr_1 [])), [], [], [uV142], [uF616, uF617, uF618, uF619], [uG620, (260, [uL653, uL63, uL63, uL63, uL63, uL63, uL63, uL63, uL98, uL131, uL79])])
/-- HairRope.greyest -/
def cx_343 : zCtx := (172, cx_251p, [([ui0, ui1096, ui31, (0, 6), (0, 6), ui49, ui49], [ur441, ur442, ur443, ur545, ur431, ur432, ur426, ur563, ur564, ur565], [], [], [uV61], [uF616, uF617, uF618, uF619], [uG620]), ([ui0, ui260, ui31, (0, 6), (0, 6), ui49, ui49], [ur441, ur442, ur443, ur545, ur431, ur432, ur426, ur563, ur564, ur565], [], [], [uV61], [uF616, uF617, uF618, uF619], [uG620]), cx_343q2, cx_343q3], [], 178, 0, 0)
def cz_343_0i_0 (t : List (Int × Int)) : List (Int × Int) := ui0 :: (0, 1) :: ui31 :: (0, 6) :: (0, 6) :: ui49 :: ui49 :: ui1358 :: t
def cz_343_0i_1 (t : List (Int × Int)) : List (Int × Int) := ((-2), 99) :: (0, 6) :: t
def cz_343_0 : zS := ((cz_343_0i_0 (cz_343_0i_1 [])), (cx_251pr_0 (cx_251pr_1 [])), [uL163], [uV2, uV11, uV142, uV144, uV799, uV113], [], (cx_251pf_0 (cx_251pf_1 [])), [uG620, (238, [uL653, uL63, uL63, uL63, uL63, uL63, uL63, uL63, uL163, uL79, uL131])])
set_option maxRecDepth 1000000 in
theorem ck_343 : x_ok mLT1 [] mTS2 mTC2 mRUp cx_343 [] [(17, [1000779]), (49, [1000780]), (58, [1000012]), (61, [1000781, 1000782]), (67, [1000783]), (73, [1000784])] [(20, cz_343_0, (166, [(9, (-26))]))] (178, []) 0 28 = true := by decide +kernel
theorem sn_343 {W : Bool} {X : List Int32} : y_Snd (mGw W) mLT1 (J2 W X) X cx_343 := y_ok J2_J mTS2_ok1 mTC2_ok1 mRUp_ok1 (fun _ h => absurd h List.not_mem_nil) ck_343
def cx_344pi_0 (t : List (Int × Int)) : List (Int × Int) := ui0 :: (0, 5) :: ui49 :: ui1359 :: ui31 :: (0, 6) :: (0, 6) :: ui49 :: t
def cx_344pi_1 (t : List (Int × Int)) : List (Int × Int) := ui49 :: ui836 :: t
def cx_344p : zS := ((cx_344pi_0 (cx_344pi_1 [])), [ur442, ur1251, ur443, ur545, ur1258, ur1254], [uL592, uL9, uL593], [], [uV2, uV419, uV11, uV12, uV58], (cx_203pf_0 (cx_203pf_1 [])), [(236, [uL104, uL78, uL79, uL131, uL98, uL67, uL23, uL244, uL163, uL9, uL63])])
/-- Rules.ageHouse -/
def cx_344 : zCtx := (95, cx_344p, [([ui0, (0, 5), ui49, ui1359, ui31, (1, 6), (0, 6), ui49, ui49, ui836], [ur442, ur1251, ur443, ur545, ur1258, ur1254], [uL593, uL592, uL9], [], [], [], [(236, [uL104, uL78, uL79, uL131, uL98, uL67, uL23, uL244, uL163, uL9, uL65])])], [uk553, uk542, uk1261, uk1262], 53026, 3, 110)
set_option maxRecDepth 1000000 in
theorem ck_344 : x_ok mLT1 [cx_285, cx_292, cx_293, cx_202] mTS2 mTC2 mRUp cx_344 [(13, [0]), (22, [1]), (36, [2]), (73, [3])] [(18, uN1263), (32, uN1264), (58, [1000934]), (62, uN1265), (70, [1000639]), (72, [1000637]), (80, [1000977]), (88, [1000023]), (89, uN860), (93, [1000984]), (109, [1000985]), (112, uN861), (113, uN1266)] [] (58, []) 52968 61 = true := by decide +kernel
theorem sn_344 {W : Bool} {X : List Int32} : y_Snd (mGw W) mLT1 (J2 W X) X cx_344 := y_ok J2_J mTS2_ok1 mTC2_ok1 mRUp_ok1 (List.forall_mem_cons.mpr ⟨sn_285, List.forall_mem_cons.mpr ⟨sn_292, List.forall_mem_cons.mpr ⟨sn_293, List.forall_mem_cons.mpr ⟨sn_202, fun _ h => absurd h List.not_mem_nil⟩⟩⟩⟩) ck_344
def cx_345pi_0 (t : List (Int × Int)) : List (Int × Int) := ui0 :: (0, 5) :: ui1289 :: ui1359 :: ui31 :: (0, 6) :: (0, 6) :: ui49 :: t
def cx_345pi_1 (t : List (Int × Int)) : List (Int × Int) := ui49 :: ui49 :: t
def cx_345pr_0 (t : List (Nat × Bool)) : List (Nat × Bool) := ur1267 :: ur431 :: ur442 :: ur443 :: ur545 :: ur1251 :: ur562 :: ur1254 :: t
def cx_345pr_1 (t : List (Nat × Bool)) : List (Nat × Bool) := ur432 :: ur1255 :: ur426 :: ur1256 :: ur563 :: ur1257 :: ur564 :: ur1258 :: t
def cx_345pr_2 (t : List (Nat × Bool)) : List (Nat × Bool) := ur565 :: ur536 :: t
def cx_345pf_0 (t : List zFa) : List zFa := uF151 :: uF446 :: uF1147 :: uF1360 :: uF1361 :: uF1342 :: uF596 :: uF597 :: t
def cx_345pf_1 (t : List zFa) : List zFa := uF598 :: uF599 :: uF1362 :: uF1343 :: uF1363 :: uF1364 :: uF1365 :: uF1366 :: t
def cx_345pf_2 (t : List zFa) : List zFa := uF1367 :: uF1368 :: uF1369 :: uF466 :: uF1370 :: uF1371 :: uF1372 :: t
def cx_345p : zS := ((cx_345pi_0 (cx_345pi_1 [])), (cx_345pr_0 (cx_345pr_1 (cx_345pr_2 []))), [uL592, uL9, uL593], [], [uV2, uV419, uV11, uV12, uV58], (cx_345pf_0 (cx_345pf_1 (cx_345pf_2 []))), [uG475])
def cx_345q0i_0 (t : List (Int × Int)) : List (Int × Int) := ui0 :: (0, 5) :: ui1289 :: ui1359 :: ui31 :: (0, 6) :: (0, 6) :: ui49 :: t
def cx_345q0i_1 (t : List (Int × Int)) : List (Int × Int) := ui49 :: ui49 :: ui49 :: t
def cx_345q0 : zS := ((cx_345q0i_0 (cx_345q0i_1 [])), (cx_345pr_0 (cx_345pr_1 (cx_345pr_2 []))), [], [], [], [uF1373, uF1374, (5, (false, 7, 0, []), 0, 0, 0, [(10, 1)]), uF1375], [uG475, (236, [uL104, uL78, uL169, uL131, uL98, uL163, uL23, uL244, uL67, uL9, uL63])])
/-- Forecast.passYears -/
def cx_345 : zCtx := (29, cx_345p, [cx_345q0], kc_65, 54549, 4, 137)
def cz_345_0i_0 (t : List (Int × Int)) : List (Int × Int) := ui0 :: (0, 5) :: ui1289 :: ui1359 :: ui31 :: (0, 6) :: (0, 6) :: ui49 :: t
def cz_345_0i_1 (t : List (Int × Int)) : List (Int × Int) := ui49 :: ui49 :: ui877 :: ui49 :: t
def cz_345_0f_0 (t : List zFa) : List zFa := uF1373 :: uF1374 :: (5, (false, 7, 0, []), 0, 0, 0, [(11, 1)]) :: uF1375 :: uF151 :: uF446 :: uF1147 :: uF1360 :: t
def cz_345_0f_1 (t : List zFa) : List zFa := uF1361 :: uF1342 :: uF596 :: uF597 :: uF598 :: uF599 :: uF1362 :: uF1343 :: t
def cz_345_0f_2 (t : List zFa) : List zFa := uF1363 :: uF1364 :: uF1365 :: uF1366 :: uF1367 :: uF1368 :: uF1369 :: uF466 :: t
def cz_345_0f_3 (t : List zFa) : List zFa := uF1370 :: uF1371 :: uF1372 :: t
def cz_345_0 : zS := ((cz_345_0i_0 (cz_345_0i_1 [])), (cx_345pr_0 (cx_345pr_1 (cx_345pr_2 []))), [uL592, uL9, uL593, uL1376, uL169], [uV2, uV419, uV11, uV12, uV58, uV854], [], (cz_345_0f_0 (cz_345_0f_1 (cz_345_0f_2 (cz_345_0f_3 [])))), [uG475, (236, [uL104, uL78, uL193, uL131, uL98, uL163, uL23, uL244, uL169, uL9, uL63])])
set_option maxRecDepth 1000000 in
theorem ck_345 : x_ok mLT1 [cx_284, cx_344] mTS2 mTC2 mRUp cx_345 [(5, [0]), (38, [1])] [(8, [1001158, 1001252]), (50, [1000637]), (51, [1001253])] [(11, cz_345_0, (1516, [(10, (-24))]))] (1523, []) 53026 26 = true := by decide +kernel
theorem sn_345 {W : Bool} {X : List Int32} : y_Snd (mGw W) mLT1 (J2 W X) X cx_345 := y_ok J2_J mTS2_ok1 mTC2_ok1 mRUp_ok1 (List.forall_mem_cons.mpr ⟨sn_284, List.forall_mem_cons.mpr ⟨sn_344, fun _ h => absurd h List.not_mem_nil⟩⟩) ck_345
def cx_346pf_0 (t : List zFa) : List zFa := uF42 :: uF511 :: uF1106 :: uF1107 :: uF1108 :: uF501 :: uF726 :: uF727 :: t
def cx_346pf_1 (t : List zFa) : List zFa := uF728 :: uF309 :: t
def cx_346p : zS := ((cx_131pi_0 (cx_131pi_1 [])), [ur1267, ur1251, ur1254, ur1255, ur1256, ur1257, ur1258], [uL789, uL9, uL57], [], [uV2, uV11], (cx_346pf_0 (cx_346pf_1 [])), [uG1259])
def cx_346q0i_0 (t : List (Int × Int)) : List (Int × Int) := ui0 :: (0, 5) :: (0, 6) :: (0, 6) :: ui49 :: ui49 :: ui49 :: ui49 :: t
def cx_346q0i_1 (t : List (Int × Int)) : List (Int × Int) := ui49 :: ui49 :: ui49 :: ui49 :: ui49 :: ui537 :: t
def cx_346q0 : zS := ((cx_346q0i_0 (cx_346q0i_1 [])), [ur1267, ur1251, ur1254, ur1255, ur1256, ur1257, ur1258], [], [], [uV408], [], [uG1259, (238, [uL34, uL78, uL79, uL131, uL163, uL169, uL193, uL212, uL9, uL63, uL205])])
/-- Forecast.hairThen -/
def cx_346 : zCtx := (30, cx_346p, [cx_346q0], [], 12, 0, 0)
set_option maxRecDepth 1000000 in
theorem ck_346 : x_ok mLT1 [] mTS2 mTC2 mRUp cx_346 [] [(19, [1001254])] [] (12, []) 0 15 = true := by decide +kernel
theorem sn_346 {W : Bool} {X : List Int32} : y_Snd (mGw W) mLT1 (J2 W X) X cx_346 := y_ok J2_J mTS2_ok1 mTC2_ok1 mRUp_ok1 (fun _ h => absurd h List.not_mem_nil) ck_346
def cx_347q0 : zS := ((cx_346q0i_0 (cx_346q0i_1 [])), [ur1267, ur1251, ur1254, ur1255, ur1256, ur1257, ur1258], [], [], [uV408], [], [uG1259, (238, [uL34, uL78, uL79, uL131, uL163, uL169, uL193, uL212, uL580, uL63, uL205])])
/-- Forecast.strengthThen -/
def cx_347 : zCtx := (31, cx_346p, [cx_347q0], [], 118, 1, 22)
set_option maxRecDepth 1000000 in
theorem ck_347 : x_ok mLT1 [cx_285] mTS2 mTC2 mRUp cx_347 [(5, [0])] [(14, [1001255]), (26, [1001256])] [] (13, []) 105 16 = true := by decide +kernel
theorem sn_347 {W : Bool} {X : List Int32} : y_Snd (mGw W) mLT1 (J2 W X) X cx_347 := y_ok J2_J mTS2_ok1 mTC2_ok1 mRUp_ok1 (List.forall_mem_cons.mpr ⟨sn_285, fun _ h => absurd h List.not_mem_nil⟩) ck_347
def cx_348pi_0 (t : List (Int × Int)) : List (Int × Int) := ui0 :: ui49 :: ui49 :: ui49 :: ui31 :: (0, 6) :: (0, 6) :: ui49 :: t
def cx_348pi_1 (t : List (Int × Int)) : List (Int × Int) := ui49 :: ui49 :: ui194 :: t
def cx_348pr_0 (t : List (Nat × Bool)) : List (Nat × Bool) := ur441 :: ur442 :: ur443 :: ur545 :: ur431 :: ur562 :: ur432 :: ur426 :: t
def cx_348pr_1 (t : List (Nat × Bool)) : List (Nat × Bool) := ur563 :: ur564 :: ur565 :: ur536 :: ur1267 :: ur1251 :: ur1254 :: ur1255 :: t
def cx_348pr_2 (t : List (Nat × Bool)) : List (Nat × Bool) := ur1256 :: ur1257 :: ur1258 :: t
def cx_348pf_0 (t : List zFa) : List zFa := uF13 :: uF516 :: uF555 :: uF595 :: uF1377 :: uF567 :: uF1378 :: uF1379 :: t
def cx_348pf_1 (t : List zFa) : List zFa := uF1271 :: uF1380 :: uF157 :: uF572 :: uF573 :: uF574 :: uF575 :: uF576 :: t
def cx_348pf_2 (t : List zFa) : List zFa := uF869 :: uF870 :: uF577 :: uF1381 :: uF1338 :: uF1339 :: uF1382 :: uF1234 :: t
def cx_348pf_3 (t : List zFa) : List zFa := uF1235 :: uF1383 :: uF1384 :: t
def cx_348p : zS := ((cx_348pi_0 (cx_348pi_1 [])), (cx_348pr_0 (cx_348pr_1 (cx_348pr_2 []))), [], [], [uV2, uV11, uV12, uV58], (cx_348pf_0 (cx_348pf_1 (cx_348pf_2 (cx_348pf_3 [])))), [uG475])
def cx_348q0 : zS := ((cx_348pi_0 (cx_348pi_1 [])), (cx_348pr_0 (cx_348pr_1 (cx_348pr_2 []))), [uL584], [], [uV61], [uF1378, uF1379, uF1271, uF1380], [uG475])
def cx_348q1 : zS := ((cx_348pi_0 (cx_348pi_1 [])), (cx_348pr_0 (cx_348pr_1 (cx_348pr_2 []))), [uL164], [], [uV61], [uF1378, uF1379, uF1271, uF1380], [uG475])
def cx_348q2i_0 (t : List (Int × Int)) : List (Int × Int) := ui0 :: ui49 :: ui1289 :: ui1096 :: ui31 :: (0, 6) :: (0, 6) :: ui49 :: t
def cx_348q2i_1 (t : List (Int × Int)) : List (Int × Int) := ui49 :: ui49 :: ui194 :: t
def cx_348q2 : zS := ((cx_348q2i_0 (cx_348q2i_1 [])), (cx_348pr_0 (cx_348pr_1 (cx_348pr_2 []))), [uL9, uL593], [], [uV61], [uF1378, uF1379, uF1271, uF1380], [uG475])
def cx_348q3i_0 (t : List (Int × Int)) : List (Int × Int) := ui0 :: ui49 :: ui1289 :: (0, 0) :: ui31 :: (0, 6) :: (0, 6) :: ui49 :: t
def cx_348q3i_1 (t : List (Int × Int)) : List (Int × Int) := ui49 :: ui49 :: ui194 :: ui537 :: t
def cx_348q3 : zS := ((cx_348q3i_0 (cx_348q3i_1 [])), (cx_348pr_0 (cx_348pr_1 (cx_348pr_2 []))), [uL9, uL593], [], [uV873], [uF1378, uF1379, uF1271, uF1380], [uG475, (260, [uL34, uL98, uL163, uL169, uL36, uL67, uL63, uL104, uL9, uL63, uL193])])
def cx_348q4i_0 (t : List (Int × Int)) : List (Int × Int) := ui0 :: ui49 :: ui1289 :: (1, 1) :: ui31 :: (0, 6) :: (0, 6) :: ui49 :: t
def cx_348q4i_1 (t : List (Int × Int)) : List (Int × Int) := ui49 :: ui49 :: ui194 :: ui537 :: t
def cx_348q4 : zS := ((cx_348q4i_0 (cx_348q4i_1 [])), (cx_348pr_0 (cx_348pr_1 (cx_348pr_2 []))), [uL9, uL593], [], [uV873], [uF1378, uF1379, uF1271, uF1380], [uG475, (260, [uL34, uL98, uL163, uL169, uL36, uL67, uL63, uL104, uL580, uL63, uL193])])
def cx_348q5i_0 (t : List (Int × Int)) : List (Int × Int) := ui0 :: ui49 :: ui1289 :: ui260 :: ui31 :: (0, 6) :: (0, 6) :: ui49 :: t
def cx_348q5i_1 (t : List (Int × Int)) : List (Int × Int) := ui49 :: ui49 :: ui194 :: t
def cx_348q5 : zS := ((cx_348q5i_0 (cx_348q5i_1 [])), (cx_348pr_0 (cx_348pr_1 (cx_348pr_2 []))), [uL9, uL593], [], [uV61], [uF1378, uF1379, uF1271, uF1380], [uG475])
def cx_348q6i_0 (t : List (Int × Int)) : List (Int × Int) := ui0 :: ui49 :: ui871 :: ui49 :: ui31 :: (0, 6) :: (0, 6) :: ui49 :: t
def cx_348q6i_1 (t : List (Int × Int)) : List (Int × Int) := ui49 :: ui49 :: ui194 :: t
def cx_348q6 : zS := ((cx_348q6i_0 (cx_348q6i_1 [])), (cx_348pr_0 (cx_348pr_1 (cx_348pr_2 []))), [uL9, uL593], [], [uV61], [uF1378, uF1379, uF1271, uF1380], [uG475])
def cx_348q7i_0 (t : List (Int × Int)) : List (Int × Int) := ui0 :: ui49 :: ui260 :: ui49 :: ui31 :: (0, 6) :: (0, 6) :: ui49 :: t
def cx_348q7i_1 (t : List (Int × Int)) : List (Int × Int) := ui49 :: ui49 :: ui194 :: t
def cx_348q7 : zS := ((cx_348q7i_0 (cx_348q7i_1 [])), (cx_348pr_0 (cx_348pr_1 (cx_348pr_2 []))), [uL9, uL593], [], [uV61], [uF1378, uF1379, uF1271, uF1380], [uG475])
/-- HairRope.then -/
def cx_348 : zCtx := (173, cx_348p, [cx_348q0, cx_348q1, cx_348q2, cx_348q3, cx_348q4, cx_348q5, cx_348q6, cx_348q7], kc_65, 54582, 5, 162)
set_option maxRecDepth 1000000 in
theorem ck_348 : x_ok mLT1 [cx_130, cx_345, cx_346, cx_347] mTS2 mTC2 mRUp cx_348 [(2, [0]), (49, [1]), (61, [2]), (72, [3])] [(64, [1000788]), (75, [1000789])] [] (33, []) 54549 36 = true := by decide +kernel
theorem sn_348 {W : Bool} {X : List Int32} : y_Snd (mGw W) mLT1 (J2 W X) X cx_348 := y_ok J2_J mTS2_ok1 mTC2_ok1 mRUp_ok1 (List.forall_mem_cons.mpr ⟨sn_130, List.forall_mem_cons.mpr ⟨sn_345, List.forall_mem_cons.mpr ⟨sn_346, List.forall_mem_cons.mpr ⟨sn_347, fun _ h => absurd h List.not_mem_nil⟩⟩⟩⟩) ck_348
/-- HairRope.isValue -/
def cx_349 : zCtx := (175, ([ui0, ui49], [], [], [], [uV11], [], []), [([ui0, ui537], [], [], [], [uV64], [], []), ([ui0, ui1385], [], [], [], [uV62], [], []), ([ui0, ui260], [], [], [], [uV62], [], [])], [], 8, 0, 0)
set_option maxRecDepth 1000000 in
theorem ck_349 : x_ok mLT1 [] mTS2 mTC2 mRUp cx_349 [] [] [] (8, []) 0 11 = true := by decide +kernel
theorem sn_349 {W : Bool} {X : List Int32} : y_Snd (mGw W) mLT1 (J2 W X) X cx_349 := y_ok J2_J mTS2_ok1 mTC2_ok1 mRUp_ok1 (fun _ h => absurd h List.not_mem_nil) ck_349
def cx_350pi_0 (t : List (Int × Int)) : List (Int × Int) := ui0 :: ui49 :: ui49 :: ui49 :: ui49 :: ui31 :: (0, 6) :: (0, 6) :: t
def cx_350pi_1 (t : List (Int × Int)) : List (Int × Int) := ui49 :: ui49 :: ui49 :: ui194 :: t
def cx_350pf_0 (t : List zFa) : List zFa := uF13 :: uF516 :: uF555 :: (3, (false, 4, 0, []), 0, 0, 0, [(5, 1)]) :: uF1198 :: uF567 :: uF1386 :: uF1387 :: t
def cx_350pf_1 (t : List zFa) : List zFa := uF1388 :: uF1389 :: uF157 :: uF572 :: uF573 :: uF574 :: uF575 :: uF576 :: t
def cx_350pf_2 (t : List zFa) : List zFa := (2, (false, 9, 0, []), 0, 0, 0, [(10, 1)]) :: (2, (false, 10, 0, []), 0, 0, 0, [(11, 1)]) :: uF577 :: uF1381 :: uF1338 :: uF1339 :: uF1382 :: uF1234 :: t
def cx_350pf_3 (t : List zFa) : List zFa := uF1235 :: uF1383 :: uF1384 :: t
def cx_350p : zS := ((cx_350pi_0 (cx_350pi_1 [])), (cx_348pr_0 (cx_348pr_1 (cx_348pr_2 []))), [], [], [uV2, uV11, uV12, uV58, uV97], (cx_350pf_0 (cx_350pf_1 (cx_350pf_2 (cx_350pf_3 [])))), [uG1390])
def cx_350q0 : zS := ((cx_350pi_0 (cx_350pi_1 [])), (cx_348pr_0 (cx_348pr_1 (cx_348pr_2 []))), [uL584], [], [uV61], [uF1386, uF1387, uF1388, uF1389], [uG1390])
def cx_350q1 : zS := ((cx_350pi_0 (cx_350pi_1 [])), (cx_348pr_0 (cx_348pr_1 (cx_348pr_2 []))), [uL1391], [], [uV61], [uF1386, uF1387, uF1388, uF1389], [uG1390])
def cx_350q2i_0 (t : List (Int × Int)) : List (Int × Int) := ui0 :: ui49 :: ui260 :: ui49 :: ui49 :: ui31 :: (0, 6) :: (0, 6) :: t
def cx_350q2i_1 (t : List (Int × Int)) : List (Int × Int) := ui49 :: ui49 :: ui49 :: ui194 :: t
def cx_350q2 : zS := ((cx_350q2i_0 (cx_350q2i_1 [])), (cx_348pr_0 (cx_348pr_1 (cx_348pr_2 []))), [uL9, uL1392], [], [uV61], [uF1386, uF1387, uF1388, uF1389], [uG1390])
def cx_350q3i_0 (t : List (Int × Int)) : List (Int × Int) := ui0 :: ui49 :: ui1385 :: ui49 :: ui49 :: ui31 :: (0, 6) :: (0, 6) :: t
def cx_350q3i_1 (t : List (Int × Int)) : List (Int × Int) := ui49 :: ui49 :: ui49 :: ui194 :: t
def cx_350q3 : zS := ((cx_350q3i_0 (cx_350q3i_1 [])), (cx_348pr_0 (cx_348pr_1 (cx_348pr_2 []))), [uL9, uL1392], [], [uV61], [uF1386, uF1387, uF1388, uF1389], [uG1390])
def cx_350q4i_0 (t : List (Int × Int)) : List (Int × Int) := ui0 :: ui49 :: ui537 :: ui1289 :: ui1393 :: ui31 :: (0, 6) :: (0, 6) :: t
def cx_350q4i_1 (t : List (Int × Int)) : List (Int × Int) := ui49 :: ui49 :: ui49 :: ui194 :: t
def cx_350q4 : zS := ((cx_350q4i_0 (cx_350q4i_1 [])), (cx_348pr_0 (cx_348pr_1 (cx_348pr_2 []))), [uL9, uL1392], [], [uV61], [uF1386, uF1387, uF1388, uF1389], [uG1390])
def cx_350q5i_0 (t : List (Int × Int)) : List (Int × Int) := ui0 :: ui49 :: ui537 :: ui1289 :: ui1306 :: ui31 :: (0, 6) :: (0, 6) :: t
def cx_350q5i_1 (t : List (Int × Int)) : List (Int × Int) := ui49 :: ui49 :: ui49 :: ui194 :: t
def cx_350q5 : zS := ((cx_350q5i_0 (cx_350q5i_1 [])), (cx_348pr_0 (cx_348pr_1 (cx_348pr_2 []))), [uL9, uL1392], [], [uV61], [uF1386, uF1387, uF1388, uF1389], [uG1390])
def cx_350q6i_0 (t : List (Int × Int)) : List (Int × Int) := ui0 :: ui49 :: ui537 :: ui871 :: ui49 :: ui31 :: (0, 6) :: (0, 6) :: t
def cx_350q6i_1 (t : List (Int × Int)) : List (Int × Int) := ui49 :: ui49 :: ui49 :: ui194 :: t
def cx_350q6 : zS := ((cx_350q6i_0 (cx_350q6i_1 [])), (cx_348pr_0 (cx_348pr_1 (cx_348pr_2 []))), [uL9, uL1392], [], [uV61], [uF1386, uF1387, uF1388, uF1389], [uG1390])
def cx_350q7i_0 (t : List (Int × Int)) : List (Int × Int) := ui0 :: ui49 :: ui537 :: ui260 :: ui49 :: ui31 :: (0, 6) :: (0, 6) :: t
def cx_350q7i_1 (t : List (Int × Int)) : List (Int × Int) := ui49 :: ui49 :: ui49 :: ui194 :: t
def cx_350q7 : zS := ((cx_350q7i_0 (cx_350q7i_1 [])), (cx_348pr_0 (cx_348pr_1 (cx_348pr_2 []))), [uL9, uL1392], [], [uV61], [uF1386, uF1387, uF1388, uF1389], [uG1390])
def cx_350q8i_0 (t : List (Int × Int)) : List (Int × Int) := ui0 :: ui49 :: ui537 :: ui1289 :: ui1394 :: ui31 :: (0, 6) :: (0, 6) :: t
def cx_350q8i_1 (t : List (Int × Int)) : List (Int × Int) := ui49 :: ui49 :: ui49 :: ui194 :: ui49 :: t
def cx_350q8 : zS := ((cx_350q8i_0 (cx_350q8i_1 [])), (cx_348pr_0 (cx_348pr_1 (cx_348pr_2 []))), [uL9, uL1392], [], [uV196], [uF1386, uF1387, uF1388, uF1389], [uG1390, (260, [uL624, uL104, uL169, uL193, uL63, uL63, uL63, uL63, uL1395, uL98, uL212])])
/-- HairRope.year -/
def cx_350 : zCtx := (174, cx_350p, [cx_350q0, cx_350q1, cx_350q2, cx_350q3, cx_350q4, cx_350q5, cx_350q6, cx_350q7, cx_350q8], kc_65, 55149, 5, 162)
def cz_350_0i_0 (t : List (Int × Int)) : List (Int × Int) := ui0 :: (0, 5) :: ui537 :: ui1289 :: ui1394 :: ui31 :: (1, 6) :: (0, 6) :: t
def cz_350_0i_1 (t : List (Int × Int)) : List (Int × Int) := ui49 :: ui49 :: ui49 :: ui194 :: ui1396 :: ui424 :: t
def cz_350_0 : zS := ((cz_350_0i_0 (cz_350_0i_1 [])), (cx_348pr_0 (cx_348pr_1 (cx_348pr_2 []))), [uL1392, uL205, (0, [(4, 1), (13, (-1))]), uL9, uL1392], [uV2, uV11, uV12, uV58, uV97, uV196, uV408], [], (cx_350pf_0 (cx_350pf_1 (cx_350pf_2 (cx_350pf_3 [])))), [uG1390, (238, [uL624, uL104, uL169, uL193, uL63, uL63, uL63, uL63, uL1395, uL205, uL212])])
set_option maxRecDepth 1000000 in
theorem ck_350 : x_ok mLT1 [cx_130, cx_349, cx_345, cx_346] mTS2 mTC2 mRUp cx_350 [(2, [0]), (9, [1]), (76, [2]), (84, [3])] [(43, [1000791]), (88, [1000012]), (91, [1000792]), (94, [1000793]), (102, [1000728])] [(46, cz_350_0, (577, [(13, (-26))]))] (600, []) 54549 28 = true := by decide +kernel
theorem sn_350 {W : Bool} {X : List Int32} : y_Snd (mGw W) mLT1 (J2 W X) X cx_350 := y_ok J2_J mTS2_ok1 mTC2_ok1 mRUp_ok1 (List.forall_mem_cons.mpr ⟨sn_130, List.forall_mem_cons.mpr ⟨sn_349, List.forall_mem_cons.mpr ⟨sn_345, List.forall_mem_cons.mpr ⟨sn_346, fun _ h => absurd h List.not_mem_nil⟩⟩⟩⟩) ck_350
/-- Feeler.add -/
def cx_351 : zCtx := (16, ([ui0, (0, 5), ui537, (0, 1), ui1397], [ur444], [], [], [uV2, uV11, uV12, uV58], [uF41], []), [([ui0, (0, 5), ui537, (0, 1), ui1397], [ur444], [], [], [], [(0, (false, 8, 0, []), 0, 0, 1, [(4, 1)])], [])], [uk1398, uk1399, uk1400, uk1401], 32, 0, 0)
set_option maxRecDepth 1000000 in
theorem ck_351 : x_ok mLT1 [] mTS2 mTC2 mRUp cx_351 [] [] [] (32, []) 0 35 = true := by decide +kernel
theorem sn_351 {W : Bool} {X : List Int32} : y_Snd (mGw W) mLT1 (J2 W X) X cx_351 := y_ok J2_J mTS2_ok1 mTC2_ok1 mRUp_ok1 (fun _ h => absurd h List.not_mem_nil) ck_351
/-- HairRope.tell -/
def cx_352 : zCtx := (176, ([ui0, ui49, ui49, (0, 1), ui48], [ur441, ur444], [], [], [uV2, uV11, uV12, uV58], [uF1402, uF1321], []), [([ui0, (0, 5), ui260, (0, 1), ui48], [ur441, ur444], [], [], [uV61], [uF1321], []), ([ui0, (0, 5), ui1385, (0, 1), ui48], [ur441, ur444], [], [], [uV61], [uF1321], []), ([ui0, (0, 5), ui537, (0, 1), ui1403], [ur441, ur444], [], [], [uV61], [uF1321], []), ([ui0, (0, 5), ui537, (0, 1), ui1397], [ur441, ur444], [], [], [uV97], [(1, (false, 8, 0, []), 0, 0, 1, [(4, 1)])], []), ([ui0, ui259, ui49, (0, 1), ui48], [ur441, ur444], [], [], [uV61], [uF1321], []), ([ui0, ui260, ui49, (0, 1), ui48], [ur441, ur444], [], [], [uV61], [uF1321], [])], [uk1398, uk1399, uk1400, uk1401], 57, 1, 23)
set_option maxRecDepth 1000000 in
theorem ck_352 : x_ok mLT1 [cx_349, cx_351] mTS2 mTC2 mRUp cx_352 [(11, [0]), (38, [1])] [] [] (25, []) 32 28 = true := by decide +kernel
theorem sn_352 {W : Bool} {X : List Int32} : y_Snd (mGw W) mLT1 (J2 W X) X cx_352 := y_ok J2_J mTS2_ok1 mTC2_ok1 mRUp_ok1 (List.forall_mem_cons.mpr ⟨sn_349, List.forall_mem_cons.mpr ⟨sn_351, fun _ h => absurd h List.not_mem_nil⟩⟩) ck_352
/-- HairRope.forget -/
def cx_353 : zCtx := (177, ([ui0, ui48], [ur441, ur444], [], [], [uV2], [uF1402, (1, (false, 8, 0, []), 0, 0, 0, [(1, 1)])], []), [([ui0, ui48], [ur441, ur444], [], [], [uV11], [(1, (false, 8, 0, []), 0, 0, 0, [])], [])], [uk1398], 10, 0, 0)
set_option maxRecDepth 1000000 in
theorem ck_353 : x_ok mLT1 [] mTS2 mTC2 mRUp cx_353 [] [] [] (10, []) 0 13 = true := by decide +kernel
theorem sn_353 {W : Bool} {X : List Int32} : y_Snd (mGw W) mLT1 (J2 W X) X cx_353 := y_ok J2_J mTS2_ok1 mTC2_ok1 mRUp_ok1 (fun _ h => absurd h List.not_mem_nil) ck_353
/-- HairRope.isKnown -/
def cx_354 : zCtx := (179, ([ui0, ui49], [ur441], [], [], [uV2, uV11], [], []), [([ui0, ui48], [ur441], [], [], [uV64], [], []), ([ui0, ui512], [ur441], [], [], [uV62], [], []), ([ui0, ui260], [ur441], [], [], [uV62], [], [])], [], 10, 0, 0)
set_option maxRecDepth 1000000 in
theorem ck_354 : x_ok mLT1 [] mTS2 mTC2 mRUp cx_354 [] [] [] (10, []) 0 13 = true := by decide +kernel
theorem sn_354 {W : Bool} {X : List Int32} : y_Snd (mGw W) mLT1 (J2 W X) X cx_354 := y_ok J2_J mTS2_ok1 mTC2_ok1 mRUp_ok1 (fun _ h => absurd h List.not_mem_nil) ck_354
/-- HairRope.isRowLength -/
def cx_355 : zCtx := (180, ([ui0, ui49], [], [], [], [uV11], [], []), [([ui0, (1, 6)], [], [], [], [uV64], [], []), ([ui0, ui1404], [], [], [], [uV62], [], []), ([ui0, ui1306], [], [], [], [uV62], [], [])], [], 9, 0, 0)
set_option maxRecDepth 1000000 in
theorem ck_355 : x_ok mLT1 [] mTS2 mTC2 mRUp cx_355 [] [] [] (9, []) 0 12 = true := by decide +kernel
theorem sn_355 {W : Bool} {X : List Int32} : y_Snd (mGw W) mLT1 (J2 W X) X cx_355 := y_ok J2_J mTS2_ok1 mTC2_ok1 mRUp_ok1 (fun _ h => absurd h List.not_mem_nil) ck_355
/-- Feeler.housesOf -/
def cx_356 : zCtx := (18, ([ui0, ui49], [ur444, ur431], [], [], [uV2, uV419, uV11], [], []), [([ui0, ui49, ui877], [ur444, ur431], [], [], [uV12], [], [])], [], 268, 1, 23)
set_option maxRecDepth 1000000 in
theorem ck_356 : x_ok mLT1 [cx_267, cx_268] mTS2 mTC2 mRUp cx_356 [(30, [0]), (33, [1])] [] [(5, ([(0, 3072), ((-2147483648), 2147483647), (0, 63), (0, 6)], [(11, false), (6, false)], [], [(2, 0, 0, []), (2, 1, 0, []), (0, 0, 0, [(1, 1)]), (0, 0, 0, [(2, 1)]), (0, 0, 0, [(3, 1)])], [], [], []), (158, [(3, (-25))]))] (163, []) 105 27 = true := by decide +kernel
theorem sn_356 {W : Bool} {X : List Int32} : y_Snd (mGw W) mLT1 (J2 W X) X cx_356 := y_ok J2_J mTS2_ok1 mTC2_ok1 mRUp_ok1 (List.forall_mem_cons.mpr ⟨sn_267, List.forall_mem_cons.mpr ⟨sn_268, fun _ h => absurd h List.not_mem_nil⟩⟩) ck_356
/-- Arrays.fill -/
def cx_357 : zCtx := (2, ([ui0], [ur1405], [], [], [uV2, uV62], [], []), [([ui0], [ur1405], [], [], [], [], [uG1406])], [uk1407], 70, 0, 0)
set_option maxRecDepth 1000000 in
theorem ck_357 : x_ok mLT1 [] mTS2 mTC2 mRUp cx_357 [] [(2, [1000430]), (14, [1000431])] [(5, ([(0, 3072), (0, 6)], [(46, false)], [], [(2, 0, 0, []), (0, 0, 0, []), (0, 0, 0, [(1, 1)]), (0, 0, 6, [])], [], [], [(33, [(0, [])])]), (64, [(1, (-10))]))] (70, []) 0 12 = true := by decide +kernel
theorem sn_357 {W : Bool} {X : List Int32} : y_Snd (mGw W) mLT1 (J2 W X) X cx_357 := y_ok J2_J mTS2_ok1 mTC2_ok1 mRUp_ok1 (fun _ h => absurd h List.not_mem_nil) ck_357
/-- Arrays.fill -/
def cx_358 : zCtx := (2, ([ui0, ui877], [ur1408], [], [], [uV2, uV11], [], []), [([ui0, ui877], [ur1408], [], [], [], [], [uG1406])], [uk1409], 70, 0, 0)
set_option maxRecDepth 1000000 in
theorem ck_358 : x_ok mLT1 [] mTS2 mTC2 mRUp cx_358 [] [(2, [1000430]), (14, [1000431])] [(5, ([(0, 3072), (0, 63), (0, 6)], [(45, false)], [], [(2, 0, 0, []), (0, 0, 0, [(1, 1)]), (0, 0, 0, [(2, 1)]), (0, 0, 6, [])], [], [], [(33, [(0, [])])]), (64, [(2, (-10))]))] (70, []) 0 12 = true := by decide +kernel
theorem sn_358 {W : Bool} {X : List Int32} : y_Snd (mGw W) mLT1 (J2 W X) X cx_358 := y_ok J2_J mTS2_ok1 mTC2_ok1 mRUp_ok1 (fun _ h => absurd h List.not_mem_nil) ck_358
/-- Feeler.learn -/
def cx_359 : zCtx := (19, ([ui0, ui48, (1, 6), ui48], [ur444, ur431], [], [], [uV2, uV419, uV11, uV12], [(0, (false, 8, 0, []), 0, 0, 0, [(3, 1)])], []), [([ui0, ui1394, (1, 6), ui1394], [ur444, ur431], [], [], [uV62], [], [uG1406]), ([ui0, ui1394, (1, 6), ui1397], [ur444, ur431], [], [], [uV64], [], [uG1406]), ([ui0, ui48, (1, 6), ui48], [ur444, ur431], [], [], [uV64], [], [uG1406])], [uk1409], 1367, 2, 47)
set_option maxRecDepth 1000000 in
theorem ck_359 : x_ok mLT1 [cx_358, cx_356] mTS2 mTC2 mRUp cx_359 [(22, [0]), (88, [1])] [] [(28, ([(0, 3072), (0, 20), (1, 6), (0, 20), (0, 63), (0, 22), (0, 6)], [(11, false), (6, false), (45, false), (5, false), (2, false)], [], [(2, 0, 0, []), (2, 1, 0, []), (0, 0, 0, [(1, 1)]), (0, 0, 0, [(2, 1)]), (0, 0, 0, [(4, 1)]), (0, 0, 0, [(5, 1)]), (5, 0, 0, []), (5, 0, 0, [])], [], [(0, (false, 4, 0, []), 2, 2, 0, []), (0, (false, 0, 0, []), 2, 3, 0, []), (0, (false, 8, 0, []), 0, 0, 0, [(3, 1)]), (3, (false, 3, 0, []), 2, 4, 0, []), (4, (false, 5, 0, []), 0, 0, 0, [(6, 1)])], [(33, [(0, [])])]), (1083, [(5, (-49))]))] (1099, []) 268 51 = true := by decide +kernel
theorem sn_359 {W : Bool} {X : List Int32} : y_Snd (mGw W) mLT1 (J2 W X) X cx_359 := y_ok J2_J mTS2_ok1 mTC2_ok1 mRUp_ok1 (List.forall_mem_cons.mpr ⟨sn_358, List.forall_mem_cons.mpr ⟨sn_356, fun _ h => absurd h List.not_mem_nil⟩⟩) ck_359
/-- Feeler.note -/
def cx_360 : zCtx := (21, ([ui0, (1, 6), ui1410], [ur444], [], [], [uV2, uV11, uV12], [], []), [([ui0, (1, 6), ui1410], [ur444], [], [], [], [], [])], [uk1411, uk1412, uk1407], 181, 0, 0)
set_option maxRecDepth 1000000 in
theorem ck_360 : x_ok mLT1 [] mTS2 mTC2 mRUp cx_360 [] [] [(24, ([(0, 3072), (1, 6), (0, 65535), (0, 6)], [(11, false)], [], [(2, 0, 0, []), (0, 0, 0, [(1, 1)]), (0, 0, 0, [(2, 1)]), (0, 0, 0, [(3, 1)])], [], [], []), (166, [(3, (-27))]))] (181, []) 0 29 = true := by decide +kernel
theorem sn_360 {W : Bool} {X : List Int32} : y_Snd (mGw W) mLT1 (J2 W X) X cx_360 := y_ok J2_J mTS2_ok1 mTC2_ok1 mRUp_ok1 (fun _ h => absurd h List.not_mem_nil) ck_360
/-- Feeler.fill -/
def cx_361 : zCtx := (20, ([ui0, (6, 6), (6, 6), ui877, ui1410], [ur444], [], [], [uV2, uV11, uV12, uV58, uV97], [], []), [([ui0, (6, 6), (6, 6), ui877, ui1410], [ur444], [uL514], [], [], [], [])], [uk1411, uk1412, uk1407], 189, 1, 23)
set_option maxRecDepth 1000000 in
theorem ck_361 : x_ok mLT1 [cx_360] mTS2 mTC2 mRUp cx_361 [(15, [0])] [] [] (8, []) 181 11 = true := by decide +kernel
theorem sn_361 {W : Bool} {X : List Int32} : y_Snd (mGw W) mLT1 (J2 W X) X cx_361 := y_ok J2_J mTS2_ok1 mTC2_ok1 mRUp_ok1 (List.forall_mem_cons.mpr ⟨sn_360, fun _ h => absurd h List.not_mem_nil⟩) ck_361
/-- Feeler.fill -/
def cx_362 : zCtx := (20, ([ui0, (5, 6), (5, 5), ui877, ui1413], [ur444], [], [], [uV2, uV11, uV12, uV58, uV97], [], []), [([ui0, (5, 5), (5, 5), ui877, ui1413], [ur444], [uL514], [], [], [], []), ([ui0, (6, 6), (5, 5), ui877, ui1413], [ur444], [uL513], [], [], [], [])], [uk1411, uk1412, uk1407, uk1414], 442, 2, 48)
set_option maxRecDepth 1000000 in
theorem ck_362 : x_ok mLT1 [cx_360, cx_361] mTS2 mTC2 mRUp cx_362 [(15, [0]), (74, [1])] [] [(22, ([(0, 3072), (6, 6), (5, 5), (0, 63), (0, 9998), (0, 6)], [(11, false)], [((-1), [(1, 1), (2, (-1))])], [(2, 0, 0, []), (0, 0, 0, [(1, 1)]), (0, 0, 0, [(2, 1)]), (0, 0, 0, [(3, 1)]), (0, 0, 0, [(4, 1)]), (0, 0, 0, [(5, 1)])], [], [], []), ((-100000000000), [(1, (-66666666626)), (2, 100000000000), (5, (-40))]))] (253, []) 189 42 = true := by decide +kernel
theorem sn_362 {W : Bool} {X : List Int32} : y_Snd (mGw W) mLT1 (J2 W X) X cx_362 := y_ok J2_J mTS2_ok1 mTC2_ok1 mRUp_ok1 (List.forall_mem_cons.mpr ⟨sn_360, List.forall_mem_cons.mpr ⟨sn_361, fun _ h => absurd h List.not_mem_nil⟩⟩) ck_362
/-- Feeler.fill -/
def cx_363 : zCtx := (20, ([ui0, (4, 6), (4, 4), ui877, ui1415], [ur444], [], [], [uV2, uV11, uV12, uV58, uV97], [], []), [([ui0, (4, 4), (4, 4), ui877, ui1415], [ur444], [uL514], [], [], [], []), ([ui0, (5, 6), (4, 4), ui877, ui1415], [ur444], [uL513], [], [], [], [])], [uk1411, uk1412, uk1407, uk1414], 695, 3, 73)
set_option maxRecDepth 1000000 in
theorem ck_363 : x_ok mLT1 [cx_360, cx_362] mTS2 mTC2 mRUp cx_363 [(15, [0]), (74, [1])] [] [(22, ([(0, 3072), (5, 6), (4, 4), (0, 63), (0, 1319), (0, 6)], [(11, false)], [((-1), [(1, 1), (2, (-1))])], [(2, 0, 0, []), (0, 0, 0, [(1, 1)]), (0, 0, 0, [(2, 1)]), (0, 0, 0, [(3, 1)]), (0, 0, 0, [(4, 1)]), (0, 0, 0, [(5, 1)])], [], [], []), ((-100000000000), [(2, 25000000061), (5, (-40))]))] (253, []) 442 42 = true := by decide +kernel
theorem sn_363 {W : Bool} {X : List Int32} : y_Snd (mGw W) mLT1 (J2 W X) X cx_363 := y_ok J2_J mTS2_ok1 mTC2_ok1 mRUp_ok1 (List.forall_mem_cons.mpr ⟨sn_360, List.forall_mem_cons.mpr ⟨sn_362, fun _ h => absurd h List.not_mem_nil⟩⟩) ck_363
/-- Feeler.fill -/
def cx_364 : zCtx := (20, ([ui0, (3, 6), (3, 3), ui877, ui1416], [ur444], [], [], [uV2, uV11, uV12, uV58, uV97], [], []), [([ui0, (3, 3), (3, 3), ui877, ui1416], [ur444], [uL514], [], [], [], []), ([ui0, (4, 6), (3, 3), ui877, ui1416], [ur444], [uL513], [], [], [], [])], [uk1411, uk1412, uk1407, uk1414], 1454, 4, 98)
set_option maxRecDepth 1000000 in
theorem ck_364 : x_ok mLT1 [cx_360, cx_363] mTS2 mTC2 mRUp cx_364 [(15, [0]), (74, [1])] [] [(22, ([(0, 3072), (4, 6), (3, 3), (0, 63), (0, 218), (0, 6)], [(11, false)], [((-1), [(1, 1), (2, (-1))])], [(2, 0, 0, []), (0, 0, 0, [(1, 1)]), (0, 0, 0, [(2, 1)]), (0, 0, 0, [(3, 1)]), (0, 0, 0, [(4, 1)]), (0, 0, 0, [(5, 1)])], [], [], []), ((-300000000000), [(2, 100000000244), (5, (-120))]))] (759, []) 695 42 = true := by decide +kernel
theorem sn_364 {W : Bool} {X : List Int32} : y_Snd (mGw W) mLT1 (J2 W X) X cx_364 := y_ok J2_J mTS2_ok1 mTC2_ok1 mRUp_ok1 (List.forall_mem_cons.mpr ⟨sn_360, List.forall_mem_cons.mpr ⟨sn_363, fun _ h => absurd h List.not_mem_nil⟩⟩) ck_364
/-- Feeler.fill -/
def cx_365 : zCtx := (20, ([ui0, (2, 6), (2, 2), ui877, ui1304], [ur444], [], [], [uV2, uV11, uV12, uV58, uV97], [], []), [([ui0, (2, 2), (2, 2), ui877, ui1304], [ur444], [uL514], [], [], [], []), ([ui0, (3, 6), (2, 2), ui877, ui1304], [ur444], [uL513], [], [], [], [])], [uk1411, uk1412, uk1407, uk1414], 1707, 5, 123)
set_option maxRecDepth 1000000 in
theorem ck_365 : x_ok mLT1 [cx_360, cx_364] mTS2 mTC2 mRUp cx_365 [(15, [0]), (74, [1])] [] [(22, ([(0, 3072), (3, 6), (2, 2), (0, 63), (0, 35), (0, 6)], [(11, false)], [((-1), [(1, 1), (2, (-1))])], [(2, 0, 0, []), (0, 0, 0, [(1, 1)]), (0, 0, 0, [(2, 1)]), (0, 0, 0, [(3, 1)]), (0, 0, 0, [(4, 1)]), (0, 0, 0, [(5, 1)])], [], [], []), ((-100000000000), [(2, 50000000122), (5, (-40))]))] (253, []) 1454 42 = true := by decide +kernel
theorem sn_365 {W : Bool} {X : List Int32} : y_Snd (mGw W) mLT1 (J2 W X) X cx_365 := y_ok J2_J mTS2_ok1 mTC2_ok1 mRUp_ok1 (List.forall_mem_cons.mpr ⟨sn_360, List.forall_mem_cons.mpr ⟨sn_364, fun _ h => absurd h List.not_mem_nil⟩⟩) ck_365
/-- Feeler.fill -/
def cx_366 : zCtx := (20, ([ui0, (1, 6), (1, 1), ui877, (0, 5)], [ur444], [], [], [uV2, uV11, uV12, uV58, uV97], [], []), [([ui0, (1, 1), (1, 1), ui877, (0, 5)], [ur444], [uL514], [], [], [], []), ([ui0, (2, 6), (1, 1), ui877, (0, 5)], [ur444], [uL513], [], [], [], [])], [uk1411, uk1412, uk1407, uk1414], 1960, 6, 148)
set_option maxRecDepth 1000000 in
theorem ck_366 : x_ok mLT1 [cx_360, cx_365] mTS2 mTC2 mRUp cx_366 [(15, [0]), (74, [1])] [] [(22, ([(0, 3072), (2, 6), (1, 1), (0, 63), (0, 5), (0, 6)], [(11, false)], [((-1), [(1, 1), (2, (-1))])], [(2, 0, 0, []), (0, 0, 0, [(1, 1)]), (0, 0, 0, [(2, 1)]), (0, 0, 0, [(3, 1)]), (0, 0, 0, [(4, 1)]), (0, 0, 0, [(5, 1)])], [], [], []), ((-99999999756), [(2, 100000000000), (5, (-40))]))] (253, []) 1707 42 = true := by decide +kernel
theorem sn_366 {W : Bool} {X : List Int32} : y_Snd (mGw W) mLT1 (J2 W X) X cx_366 := y_ok J2_J mTS2_ok1 mTC2_ok1 mRUp_ok1 (List.forall_mem_cons.mpr ⟨sn_360, List.forall_mem_cons.mpr ⟨sn_365, fun _ h => absurd h List.not_mem_nil⟩⟩) ck_366
end
