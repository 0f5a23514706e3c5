noncomputable section
/-! ===== readings, by program, checked by the kernel ===== -/
def cx_327pr_0 (t : List (Nat × Bool)) : List (Nat × Bool) := ur443 :: ur444 :: ur445 :: ur532 :: ur433 :: ur547 :: ur434 :: ur428 :: t
def cx_327pr_1 (t : List (Nat × Bool)) : List (Nat × Bool) := ur548 :: ur549 :: ur550 :: ur524 :: ur1302 :: ur1068 :: t
def cx_327pf_0 (t : List zFa) : List zFa := uF13 :: uF510 :: uF542 :: uF787 :: uF305 :: uF552 :: uF788 :: uF789 :: t
def cx_327pf_1 (t : List zFa) : List zFa := uF790 :: uF791 :: uF158 :: uF557 :: uF558 :: uF559 :: uF560 :: uF561 :: t
def cx_327pf_2 (t : List zFa) : List zFa := uF562 :: uF155 :: (0, (false, 7, 0, []), 2, 12, 0, []) :: (12, (false, 0, 0, []), 2, 1, 0, []) :: (12, (false, 1, 0, []), 2, 13, 0, []) :: uF1195 :: t
def cx_327p : zS := ([ui0, ui31, (0, 6), (0, 6), ui49, ui49, ui49], (cx_327pr_0 (cx_327pr_1 [])), [], [], [uV2], (cx_327pf_0 (cx_327pf_1 (cx_327pf_2 []))), [uG794])
def cx_327q0 : zS := ([ui0, ui31, (0, 6), (0, 6), ui49, ui49, ui49, ui49], (cx_327pr_0 (cx_327pr_1 [])), [], [], [uV142], [uF788, uF789, uF790, uF791], [uG794, (260, [uL1321, uL9, uL63, uL63, uL63, uL63, uL63, uL63, uL78, uL67, uL79])])
/-- HairRope.pivots -/
def cx_327 : zCtx := (166, cx_327p, [cx_327q0], [uk1095, uk540, uk530, uk1096, uk1072, uk1303], 53153, 4, 132)
set_option maxRecDepth 1000000 in
theorem ck_327 : x_ok mLT1 [cx_325, cx_326] mTS2 mTC2 mRUp cx_327 [(8, [0]), (15, [1])] [(8, [1000733]), (18, [1000728])] [] (9, []) 53144 12 = true := by decide +kernel
theorem sn_327 {W : Bool} {X : List Int32} : y_Snd (mGw W) mLT1 (J2 W X) X cx_327 := y_ok J2_J mTS2_ok1 mTC2_ok1 mRUp_ok1 (List.forall_mem_cons.mpr ⟨sn_325, List.forall_mem_cons.mpr ⟨sn_326, fun _ h => absurd h List.not_mem_nil⟩⟩) ck_327
def cx_328q2 : zS := ([ui0, ui49, ui31, (0, 6), (0, 6), ui49, ui49], (cx_251pr_0 (cx_251pr_1 [])), [uL9, uL515], [], [uV62], [uF601, uF602, uF603, uF604], [uG605, (260, [uL34, uL63, uL63, uL63, uL63, uL63, uL63, uL63, uL566, uL63, uL63])])
def cx_328q3i_0 (t : List (Int × Int)) : List (Int × Int) := ui0 :: ui49 :: ui31 :: (0, 6) :: (0, 6) :: ui49 :: ui49 :: ui49 :: t
def cx_328q3i_1 (t : List (Int × Int)) : List (Int × Int) := ui767 :: ui49 :: t
def cx_328q3g_0 (t : List zTg) : List zTg := uG605 :: uG567 :: (260, [uL65, uL63, uL63, uL63, uL63, uL63, uL63, uL63, uL63, uL98, uL164]) :: (107, [(0, [(8, 1000)]), uL164, uL79]) :: t
def cx_328q3 : zS := ((cx_328q3i_0 (cx_328q3i_1 [])), (cx_251pr_0 (cx_251pr_1 [])), [uL1062, uL9, uL515], [], [uV142], [uF601, uF602, uF603, uF604], (cx_328q3g_0 []))
/-- HairRope.share -/
def cx_328 : zCtx := (167, cx_251p, [([ui0, ui49, ui31, (0, 6), (0, 6), ui49, ui49], [ur443, ur444, ur445, ur532, ur433, ur434, ur428, ur548, ur549, ur550], [uL569], [], [uV61], [uF601, uF602, uF603, uF604], [uG605]), ([ui0, ui49, ui31, (0, 6), (0, 6), ui49, ui49], [ur443, ur444, ur445, ur532, ur433, ur434, ur428, ur548, ur549, ur550], [uL572], [], [uV61], [uF601, uF602, uF603, uF604], [uG605]), cx_328q2, cx_328q3], [], 149, 3, 107)
set_option maxRecDepth 1000000 in
theorem ck_328 : x_ok mLT1 [cx_130, cx_131, cx_192] mTS2 mTC2 mRUp cx_328 [(2, [0]), (15, [1]), (23, [2])] [(36, [1000763]), (37, [1000755, 1000728]), (49, [1000764, 1000728, 1000753]), (54, [1000023])] [] (28, []) 121 31 = true := by decide +kernel
theorem sn_328 {W : Bool} {X : List Int32} : y_Snd (mGw W) mLT1 (J2 W X) X cx_328 := y_ok J2_J mTS2_ok1 mTC2_ok1 mRUp_ok1 (List.forall_mem_cons.mpr ⟨sn_130, List.forall_mem_cons.mpr ⟨sn_131, List.forall_mem_cons.mpr ⟨sn_192, fun _ h => absurd h List.not_mem_nil⟩⟩⟩) ck_328
/-- Text.likeOf -/
def cx_329 : zCtx := (135, ([ui0, ui49, ui49], [ur445, ur573], [], [], [uV2, uV11, uV12], [uF42], []), [([ui0, ui262, ui49], [ur445, ur573], [], [], [uV3], [], []), ([ui0, ui261, ui49], [ur445, ur573], [], [], [uV3], [], []), ([ui0, (0, 5), ui262], [ur445, ur573], [], [], [uV3], [], []), ([ui0, (0, 5), ui261], [ur445, ur573], [], [], [uV3], [], []), ([ui0, (0, 5), (0, 5), ui49], [ur445, ur573], [], [], [uV58], [], [])], [], 24, 1, 20)
set_option maxRecDepth 1000000 in
theorem ck_329 : x_ok mLT1 [cx_51] mTS2 mTC2 mRUp cx_329 [(1, [0]), (8, [0])] [(25, [1000464])] [] (16, []) 8 19 = true := by decide +kernel
theorem sn_329 {W : Bool} {X : List Int32} : y_Snd (mGw W) mLT1 (J2 W X) X cx_329 := y_ok J2_J mTS2_ok1 mTC2_ok1 mRUp_ok1 (List.forall_mem_cons.mpr ⟨sn1_51, fun _ h => absurd h List.not_mem_nil⟩) ck_329
/-- Rules.joinAbove -/
def cx_330 : zCtx := (92, ([ui0, (1, 5)], [ur444, ur1214], [], [], [uV2, uV420, uV11], [], []), [([ui0, (1, 5), ui586], [ur444, ur1214], [], [], [uV12], [], [])], [uk540, uk530], 53013, 3, 111)
set_option maxRecDepth 1000000 in
theorem ck_330 : x_ok mLT1 [cx_329, cx_289] mTS2 mTC2 mRUp cx_330 [(42, [0]), (45, [1])] [] [] (29, []) 52984 32 = true := by decide +kernel
theorem sn_330 {W : Bool} {X : List Int32} : y_Snd (mGw W) mLT1 (J2 W X) X cx_330 := y_ok J2_J mTS2_ok1 mTC2_ok1 mRUp_ok1 (List.forall_mem_cons.mpr ⟨sn_329, List.forall_mem_cons.mpr ⟨sn_289, fun _ h => absurd h List.not_mem_nil⟩⟩) ck_330
/-- Rules.weigh -/
def cx_331 : zCtx := (91, ([ui0, ui49], [ur444, ur1214], [], [], [uV2, uV420], [uF183], []), [([ui0, ui49, ui805], [ur444, ur1214], [], [], [], [uF150], [])], [uk807, uk540, uk808, uk530], 53276, 4, 135)
set_option maxRecDepth 1000000 in
theorem ck_331 : x_ok mLT1 [cx_330] mTS2 mTC2 mRUp cx_331 [(75, [0])] [] [(30, ([(0, 3072), ((-2147483648), 2147483647), ((-2147483648), 2147483647), ((-1), 5), (0, 11), (0, 6)], [(5, false), (106, false)], [], [(2, 0, 0, []), (2, 1, 0, []), (0, 0, 0, [(2, 1)]), (0, 0, 0, [(3, 1)])], [], [(0, (false, 2, 0, []), 0, 0, 0, [(4, 1)]), (1, (false, 6, 0, []), 0, 0, 0, [(5, 1)])], []), (43, [(3, 40)]))] (263, []) 53013 42 = true := by decide +kernel
theorem sn_331 {W : Bool} {X : List Int32} : y_Snd (mGw W) mLT1 (J2 W X) X cx_331 := y_ok J2_J mTS2_ok1 mTC2_ok1 mRUp_ok1 (List.forall_mem_cons.mpr ⟨sn_330, fun _ h => absurd h List.not_mem_nil⟩) ck_331
/-- Forecast.yearsUntilBroken -/
def cx_332 : zCtx := (25, ([ui0, ui586], [ur1218, ur433], [], [], [uV2, uV420, uV11], [], []), [([ui0, ui586, ui1219], [ur1218, ur433], [], [], [uV12], [], []), ([ui0, ui586], [ur1218, ur433], [], [], [uV568], [], [])], kc_64, 54737, 5, 161)
def cz_332_0f_0 (t : List zFa) : List zFa := uF1323 :: uF1324 :: uF711 :: uF1080 :: uF230 :: (1, (false, 8, 0, []), 0, 0, 0, [(3, 1)]) :: uF1077 :: uF835 :: t
def cz_332_0f_1 (t : List zFa) : List zFa := uF494 :: uF1325 :: (7, (false, 5, 0, []), 0, 0, 0, [(6, 1)]) :: (7, (false, 6, 0, []), 0, 0, 0, [(5, 1)]) :: (7, (false, 7, 0, []), 0, 0, 0, [(7, 1)]) :: (7, (false, 8, 0, []), 0, 0, 0, [(3, 1)]) :: t
def cz_332_0 : zS := ([ui0, ui586, ui847, ui49, ui49, (0, 6), (0, 6), ui49], [ur1218, ur433, ur550, ur549, ur548, ur428, ur434, ur1214], [], [uV2, uV420, uV11, uV12], [], (cz_332_0f_0 (cz_332_0f_1 [])), [])
set_option maxRecDepth 1000000 in
theorem ck_332 : x_ok mLT1 [cx_284, cx_331, cx_198, cx_295] mTS2 mTC2 mRUp cx_332 [(5, [0]), (24, [1]), (32, [2]), (50, [3])] [] [(10, cz_332_0, (1454, [(2, (-23))]))] (1461, []) 53276 25 = true := by decide +kernel
theorem sn_332 {W : Bool} {X : List Int32} : y_Snd (mGw W) mLT1 (J2 W X) X cx_332 := y_ok J2_J mTS2_ok1 mTC2_ok1 mRUp_ok1 (List.forall_mem_cons.mpr ⟨sn_284, List.forall_mem_cons.mpr ⟨sn_331, List.forall_mem_cons.mpr ⟨sn_198, List.forall_mem_cons.mpr ⟨sn_295, fun _ h => absurd h List.not_mem_nil⟩⟩⟩⟩) ck_332
/-- HairRope.lasts -/
def cx_333 : zCtx := (168, ([ui0, ui49], [ur443], [], [], [uV2, uV11], [], []), [([ui0, ui262], [ur443], [], [], [uV61], [], []), ([ui0, ui802], [ur443], [], [], [uV61], [], []), ([ui0, ui586], [ur443], [], [], [uV568], [], []), ([ui0, ui586, ui1219], [ur443], [], [], [uV12], [], [])], kc_64, 54748, 6, 184)
set_option maxRecDepth 1000000 in
theorem ck_333 : x_ok mLT1 [cx_195, cx_332] mTS2 mTC2 mRUp cx_333 [(1, [0]), (16, [1])] [] [] (11, []) 54737 14 = true := by decide +kernel
theorem sn_333 {W : Bool} {X : List Int32} : y_Snd (mGw W) mLT1 (J2 W X) X cx_333 := y_ok J2_J mTS2_ok1 mTC2_ok1 mRUp_ok1 (List.forall_mem_cons.mpr ⟨sn_195, List.forall_mem_cons.mpr ⟨sn_332, fun _ h => absurd h List.not_mem_nil⟩⟩) ck_333
/-- Forecast.harvestOf -/
def cx_334 : zCtx := (27, ([ui0, (0, 5), ui846, ui846], [ur1218, ur433], [], [], [uV2, uV420, uV11, uV12, uV58], [], []), [([ui0, (0, 5), ui846, ui846, ui49], [ur1218, ur433], [], [], [uV97], [], [])], kc_65, 55652, 4, 137)
def cz_334_0i_0 (t : List (Int × Int)) : List (Int × Int) := ui0 :: (0, 5) :: ui846 :: ui846 :: ui49 :: ui1118 :: ui49 :: ui49 :: t
def cz_334_0i_1 (t : List (Int × Int)) : List (Int × Int) := (0, 6) :: (0, 6) :: ui49 :: t
def cz_334_0f_0 (t : List zFa) : List zFa := uF1323 :: uF1324 :: uF711 :: uF1080 :: uF230 :: uF521 :: uF583 :: (1, (false, 6, 0, []), 0, 0, 0, [(8, 1)]) :: t
def cz_334_0f_1 (t : List zFa) : List zFa := uF190 :: uF1325 :: (7, (false, 5, 0, []), 0, 0, 0, [(9, 1)]) :: (7, (false, 6, 0, []), 0, 0, 0, [(8, 1)]) :: (7, (false, 7, 0, []), 0, 0, 0, [(10, 1)]) :: (7, (false, 8, 0, []), 0, 0, 0, [(6, 1)]) :: t
def cz_334_0 : zS := ((cz_334_0i_0 (cz_334_0i_1 [])), [ur1218, ur433, ur550, ur549, ur548, ur428, ur434, ur1214], [], [uV2, uV420, uV11, uV12, uV58, uV97, uV75], [], (cz_334_0f_0 (cz_334_0f_1 [])), [])
set_option maxRecDepth 1000000 in
theorem ck_334 : x_ok mLT1 [cx_284, cx_294] mTS2 mTC2 mRUp cx_334 [(5, [0]), (50, [1])] [] [(33, cz_334_0, (2651, [(5, (-42))]))] (2626, []) 53026 44 = true := by decide +kernel
theorem sn_334 {W : Bool} {X : List Int32} : y_Snd (mGw W) mLT1 (J2 W X) X cx_334 := y_ok J2_J mTS2_ok1 mTC2_ok1 mRUp_ok1 (List.forall_mem_cons.mpr ⟨sn_284, List.forall_mem_cons.mpr ⟨sn_294, fun _ h => absurd h List.not_mem_nil⟩⟩) ck_334
/-- Forecast.findHarvest -/
def cx_335 : zCtx := (26, ([ui0, (0, 5), ui846], [ur1218, ur433], [], [], [uV2, uV420, uV11, uV12], [], []), [([ui0, (0, 5), ui846], [ur1218, ur433], [], [], [], [], [])], kc_66, 57091, 5, 163)
set_option maxRecDepth 1000000 in
theorem ck_335 : x_ok mLT1 [cx_334] mTS2 mTC2 mRUp cx_335 [(25, [0])] [] [(13, ([(0, 3072), (0, 5), (1, 60), (1, 63)], [(8, false), (6, false)], [], [(2, 0, 0, []), (2, 1, 0, []), (0, 0, 0, [(1, 1)]), (0, 0, 0, [(2, 1)]), (0, 0, 0, [(3, 1)]), (5, 0, 0, [])], [], [], []), (1453, [(3, (-23))]))] (1439, []) 55652 25 = true := by decide +kernel
theorem sn_335 {W : Bool} {X : List Int32} : y_Snd (mGw W) mLT1 (J2 W X) X cx_335 := y_ok J2_J mTS2_ok1 mTC2_ok1 mRUp_ok1 (List.forall_mem_cons.mpr ⟨sn_334, fun _ h => absurd h List.not_mem_nil⟩) ck_335
/-- HairRope.harvest -/
def cx_336 : zCtx := (169, ([ui0, ui49, ui49, ui49], [ur443], [], [], [uV2, uV11, uV12, uV58], [], []), [([ui0, ui262, ui49, ui49], [ur443], [], [], [uV61], [], []), ([ui0, ui511, ui49, ui49], [ur443], [], [], [uV61], [], []), ([ui0, (0, 5), ui846, (0, 0), ui49], [ur443], [], [], [uV97], [], []), ([ui0, (0, 5), ui846, (1, 1), ui49], [ur443], [], [], [uV97], [], [])], kc_66, 57120, 6, 188)
set_option maxRecDepth 1000000 in
theorem ck_336 : x_ok mLT1 [cx_130, cx_335] mTS2 mTC2 mRUp cx_336 [(2, [0]), (40, [1])] [] [] (29, []) 57091 32 = true := by decide +kernel
theorem sn_336 {W : Bool} {X : List Int32} : y_Snd (mGw W) mLT1 (J2 W X) X cx_336 := y_ok J2_J mTS2_ok1 mTC2_ok1 mRUp_ok1 (List.forall_mem_cons.mpr ⟨sn_130, List.forall_mem_cons.mpr ⟨sn_335, fun _ h => absurd h List.not_mem_nil⟩⟩) ck_336
/-- Rules.joinAbove -/
def cx_337 : zCtx := (92, ([ui0, (1, 5)], [ur444, ur433], [], [], [uV2, uV420, uV11], [], []), [([ui0, (1, 5), ui586], [ur444, ur433], [], [], [uV12], [], [])], [uk540, uk530], 53013, 3, 111)
set_option maxRecDepth 1000000 in
theorem ck_337 : x_ok mLT1 [cx_329, cx_272] mTS2 mTC2 mRUp cx_337 [(42, [0]), (45, [1])] [] [] (29, []) 52984 32 = true := by decide +kernel
theorem sn_337 {W : Bool} {X : List Int32} : y_Snd (mGw W) mLT1 (J2 W X) X cx_337 := y_ok J2_J mTS2_ok1 mTC2_ok1 mRUp_ok1 (List.forall_mem_cons.mpr ⟨sn_329, List.forall_mem_cons.mpr ⟨sn_272, fun _ h => absurd h List.not_mem_nil⟩⟩) ck_337
/-- Rules.weigh -/
def cx_338 : zCtx := (91, ([ui0, ui49], [ur444, ur433], [], [], [uV2, uV420], [uF183], []), [([ui0, ui49, ui805], [ur444, ur433], [], [], [], [uF150], [])], [uk807, uk540, uk808, uk530], 53276, 4, 135)
set_option maxRecDepth 1000000 in
theorem ck_338 : x_ok mLT1 [cx_337] mTS2 mTC2 mRUp cx_338 [(75, [0])] [] [(30, ([(0, 3072), ((-2147483648), 2147483647), ((-2147483648), 2147483647), ((-1), 5), (0, 11), (0, 6)], [(5, false), (6, false)], [], [(2, 0, 0, []), (2, 1, 0, []), (0, 0, 0, [(2, 1)]), (0, 0, 0, [(3, 1)])], [], [(0, (false, 2, 0, []), 0, 0, 0, [(4, 1)]), (1, (false, 6, 0, []), 0, 0, 0, [(5, 1)])], []), (43, [(3, 40)]))] (263, []) 53013 42 = true := by decide +kernel
theorem sn_338 {W : Bool} {X : List Int32} : y_Snd (mGw W) mLT1 (J2 W X) X cx_338 := y_ok J2_J mTS2_ok1 mTC2_ok1 mRUp_ok1 (List.forall_mem_cons.mpr ⟨sn_337, fun _ h => absurd h List.not_mem_nil⟩) ck_338
/-- Rules.greatestHaul -/
def cx_339 : zCtx := (98, ([ui0, ui805], [ur444], [], [], [uV2], [uF183], []), [([ui0, ui805], [ur444], [], [], [uV568], [], []), ([ui0, ui805, ui586], [ur444], [], [], [uV12], [], [])], [], 388, 1, 64)
set_option maxRecDepth 1000000 in
theorem ck_339 : x_ok mLT1 [] mTS2 mTC2 mRUp cx_339 [] [] [(6, ([(0, 3072), (0, 11), ((-2147483648), 999), (0, 22)], [(5, false)], [], [(2, 0, 0, []), (0, 0, 0, [(2, 1)]), (0, 0, 0, [(3, 1)])], [], [(0, (false, 2, 0, []), 0, 0, 0, [(1, 1)])], []), (383, [(3, (-17))]))] (388, []) 0 19 = true := by decide +kernel
theorem sn_339 {W : Bool} {X : List Int32} : y_Snd (mGw W) mLT1 (J2 W X) X cx_339 := y_ok J2_J mTS2_ok1 mTC2_ok1 mRUp_ok1 (fun _ h => absurd h List.not_mem_nil) ck_339
/-- State.exchangeIn -/
def cx_340 : zCtx := (107, ([ui0, (0, 5), (1, 5)], [ur1326], [], [], [uV2, uV11, uV12], [], []), [([ui0, (0, 5), (1, 5)], [ur1326], [], [], [], [], [])], [uk1327], 27, 0, 0)
set_option maxRecDepth 1000000 in
theorem ck_340 : x_ok mLT1 [] mTS2 mTC2 mRUp cx_340 [] [] [] (27, []) 0 30 = true := by decide +kernel
theorem sn_340 {W : Bool} {X : List Int32} : y_Snd (mGw W) mLT1 (J2 W X) X cx_340 := y_ok J2_J mTS2_ok1 mTC2_ok1 mRUp_ok1 (fun _ h => absurd h List.not_mem_nil) ck_340
/-- State.exchangeIn -/
def cx_341 : zCtx := (107, ([ui0, (0, 5), (1, 5)], [ur1328], [], [], [uV2, uV11, uV12], [], []), [([ui0, (0, 5), (1, 5)], [ur1328], [], [], [], [], [])], [uk1329], 27, 0, 0)
set_option maxRecDepth 1000000 in
theorem ck_341 : x_ok mLT1 [] mTS2 mTC2 mRUp cx_341 [] [] [] (27, []) 0 30 = true := by decide +kernel
theorem sn_341 {W : Bool} {X : List Int32} : y_Snd (mGw W) mLT1 (J2 W X) X cx_341 := y_ok J2_J mTS2_ok1 mTC2_ok1 mRUp_ok1 (fun _ h => absurd h List.not_mem_nil) ck_341
/-- State.exchangeIn -/
def cx_342 : zCtx := (107, ([ui0, (0, 5), (1, 5)], [ur1330], [], [], [uV2, uV11, uV12], [], []), [([ui0, (0, 5), (1, 5)], [ur1330], [], [], [], [], [])], [uk1216], 27, 0, 0)
set_option maxRecDepth 1000000 in
theorem ck_342 : x_ok mLT1 [] mTS2 mTC2 mRUp cx_342 [] [] [] (27, []) 0 30 = true := by decide +kernel
theorem sn_342 {W : Bool} {X : List Int32} : y_Snd (mGw W) mLT1 (J2 W X) X cx_342 := y_ok J2_J mTS2_ok1 mTC2_ok1 mRUp_ok1 (fun _ h => absurd h List.not_mem_nil) ck_342
/-- State.exchange -/
def cx_343 : zCtx := (106, ([ui0, (0, 5), (1, 5)], [ur1214], [], [], [uV2, uV11, uV12], [], []), [([ui0, (0, 5), (1, 5)], [ur1214], [], [], [], [], [])], [uk1327, uk1329, uk1216], 43, 1, 23)
set_option maxRecDepth 1000000 in
theorem ck_343 : x_ok mLT1 [cx_340, cx_341, cx_342] mTS2 mTC2 mRUp cx_343 [(6, [0]), (15, [1]), (24, [2])] [] [] (16, []) 27 19 = true := by decide +kernel
theorem sn_343 {W : Bool} {X : List Int32} : y_Snd (mGw W) mLT1 (J2 W X) X cx_343 := y_ok J2_J mTS2_ok1 mTC2_ok1 mRUp_ok1 (List.forall_mem_cons.mpr ⟨sn_340, List.forall_mem_cons.mpr ⟨sn_341, List.forall_mem_cons.mpr ⟨sn_342, fun _ h => absurd h List.not_mem_nil⟩⟩⟩) ck_343
/-- Forecast.bestSwap -/
def cx_344 : zCtx := (28, ([ui0], [ur1218, ur433], [], [], [uV2, uV420], [], []), [([ui0, ui1331], [ur1218, ur433], [], [], [uV11], [], [])], kc_64, 54471, 5, 158)
set_option maxRecDepth 1000000 in
theorem ck_344 : x_ok mLT1 [cx_338, cx_339, cx_284, cx_343, cx_331] mTS2 mTC2 mRUp cx_344 [(5, [0]), (12, [1]), (51, [2]), (62, [3]), (73, [4]), (80, [1]), (91, [1])] [] [(22, ([(0, 3072), ((-2), 999), ((-2), 63), (0, 6), (0, 11)], [(8, false), (6, false), (5, false)], [], [(2, 0, 0, []), (2, 1, 0, []), (0, 0, 0, [(1, 1)]), (0, 0, 0, [(2, 1)]), (0, 0, 0, [(3, 1)]), (5, 0, 0, [])], [], [(0, (false, 0, 0, []), 2, 2, 0, []), (2, (false, 2, 0, []), 0, 0, 0, [(4, 1)])], []), (1182, [(3, (-196))])), (37, ([(0, 3072), ((-2), 999), ((-2), 63), (0, 5), (1, 6), (1, 6), (0, 11)], [(8, false), (6, false), (5, false)], [], [(2, 0, 0, []), (2, 1, 0, []), (0, 0, 0, [(1, 1)]), (0, 0, 0, [(2, 1)]), (0, 0, 0, [(3, 1)]), (0, 0, 0, [(4, 1)])], [], [(1, (false, 6, 0, []), 0, 0, 0, [(5, 1)]), (0, (false, 0, 0, []), 2, 2, 0, []), (2, (false, 2, 0, []), 0, 0, 0, [(6, 1)])], []), (1209, [(3, (-160)), (4, (-36))]))] (1195, []) 53276 38 = true := by decide +kernel
theorem sn_344 {W : Bool} {X : List Int32} : y_Snd (mGw W) mLT1 (J2 W X) X cx_344 := y_ok J2_J mTS2_ok1 mTC2_ok1 mRUp_ok1 (List.forall_mem_cons.mpr ⟨sn_338, List.forall_mem_cons.mpr ⟨sn_339, List.forall_mem_cons.mpr ⟨sn_284, List.forall_mem_cons.mpr ⟨sn_343, List.forall_mem_cons.mpr ⟨sn_331, fun _ h => absurd h List.not_mem_nil⟩⟩⟩⟩⟩) ck_344
/-- HairRope.swap -/
def cx_345 : zCtx := (170, ([ui0], [ur443], [], [], [uV2], [], []), [([ui0, ui1331], [ur443], [], [], [uV11], [], [])], kc_64, 54477, 6, 183)
set_option maxRecDepth 1000000 in
theorem ck_345 : x_ok mLT1 [cx_344] mTS2 mTC2 mRUp cx_345 [(8, [0])] [] [] (6, []) 54471 9 = true := by decide +kernel
theorem sn_345 {W : Bool} {X : List Int32} : y_Snd (mGw W) mLT1 (J2 W X) X cx_345 := y_ok J2_J mTS2_ok1 mTC2_ok1 mRUp_ok1 (List.forall_mem_cons.mpr ⟨sn_344, fun _ h => absurd h List.not_mem_nil⟩) ck_345
def cx_346q2i_0 (t : List (Int × Int)) : List (Int × Int) := ui0 :: (0, 0) :: ui31 :: (0, 6) :: (0, 6) :: ui49 :: ui49 :: ui49 :: t
def cx_346q2i_1 (t : List (Int × Int)) : List (Int × Int) := ui49 :: t
def cx_346q2 : zS := ((cx_346q2i_0 (cx_346q2i_1 [])), (cx_249pr_0 (cx_249pr_1 [])), [], [], [uV142], [uF601, uF602, uF603, uF604], [uG605, (260, [uL641, uL67, uL63, uL63, uL63, uL63, uL63, uL63, uL98, uL79, uL131])])
def cx_346q3i_0 (t : List (Int × Int)) : List (Int × Int) := ui0 :: (1, 1) :: ui31 :: (0, 6) :: (0, 6) :: ui49 :: ui49 :: ui49 :: t
def cx_346q3i_1 (t : List (Int × Int)) : List (Int × Int) := ui49 :: t
def cx_346q3 : zS := ((cx_346q3i_0 (cx_346q3i_1 [])), (cx_249pr_0 (cx_249pr_1 [])), [], [], [uV142], [uF601, uF602, uF603, uF604], [uG605, (260, [uL641, uL67, uL63, uL63, uL63, uL63, uL63, uL63, uL98, uL131, uL79])])
/-- HairRope.quarrel -/
def cx_346 : zCtx := (171, cx_250p, [([ui0, ui1066, ui31, (0, 6), (0, 6), ui49, ui49], [ur443, ur444, ur445, ur532, ur433, ur573, ur547, ur434, ur428, ur548, ur549, ur550, ur524, ur804], [], [], [uV61], [uF601, uF602, uF603, uF604], [uG605]), ([ui0, ui262, ui31, (0, 6), (0, 6), ui49, ui49], [ur443, ur444, ur445, ur532, ur433, ur573, ur547, ur434, ur428, ur548, ur549, ur550, ur524, ur804], [], [], [uV61], [uF601, uF602, uF603, uF604], [uG605]), cx_346q2, cx_346q3], [uk540, uk530], 53155, 4, 135)
def cz_346_0i_0 (t : List (Int × Int)) : List (Int × Int) := ui0 :: (0, 1) :: ui31 :: (0, 6) :: (0, 6) :: ui49 :: ui49 :: ui1332 :: t
def cz_346_0i_1 (t : List (Int × Int)) : List (Int × Int) := ui1121 :: (1, 6) :: t
def cz_346_0g_0 (t : List zTg) : List zTg := (235, [uL23, uL98, uL104, uL78, uL67, uL63, uL63, uL63, uL63, uL63, uL63]) :: uG605 :: (238, [uL641, uL67, uL63, uL63, uL63, uL63, uL63, uL63, uL164, uL79, uL131]) :: t
def cz_346_0 : zS := ((cz_346_0i_0 (cz_346_0i_1 [])), (cx_249pr_0 (cx_249pr_1 [])), [uL1062], [uV2, uV11, uV142, uV144, uV781, uV113], [], (cx_250pf_0 (cx_250pf_1 (cx_250pf_2 []))), (cz_346_0g_0 []))
set_option maxRecDepth 1000000 in
theorem ck_346 : x_ok mLT1 [cx_196] mTS2 mTC2 mRUp cx_346 [(42, [0])] [(17, [1000733, 1000773]), (54, [1000012]), (57, [1000774, 1000775]), (63, [1000776]), (69, [1000777])] [(20, cz_346_0, (154, [(9, (-24))]))] (142, []) 53013 26 = true := by decide +kernel
theorem sn_346 {W : Bool} {X : List Int32} : y_Snd (mGw W) mLT1 (J2 W X) X cx_346 := y_ok J2_J mTS2_ok1 mTC2_ok1 mRUp_ok1 (List.forall_mem_cons.mpr ⟨sn_196, fun _ h => absurd h List.not_mem_nil⟩) ck_346
def cx_347q2 : zS := ((cx_346q2i_0 (cx_346q2i_1 [])), (cx_251pr_0 (cx_251pr_1 [])), [], [], [uV142], [uF601, uF602, uF603, uF604], [uG605, (260, [uL638, uL63, uL63, uL63, uL63, uL63, uL63, uL63, uL98, uL79, uL131])])
def cx_347q3 : zS := ((cx_346q3i_0 (cx_346q3i_1 [])), (cx_251pr_0 (cx_251pr_1 [])), [], [], [uV142], [uF601, uF602, uF603, uF604], [uG605, (260, [uL638, uL63, uL63, uL63, uL63, uL63, uL63, uL63, uL98, uL131, uL79])])
/-- HairRope.greyest -/
def cx_347 : zCtx := (172, cx_251p, [([ui0, ui1066, ui31, (0, 6), (0, 6), ui49, ui49], [ur443, ur444, ur445, ur532, ur433, ur434, ur428, ur548, ur549, ur550], [], [], [uV61], [uF601, uF602, uF603, uF604], [uG605]), ([ui0, ui262, ui31, (0, 6), (0, 6), ui49, ui49], [ur443, ur444, ur445, ur532, ur433, ur434, ur428, ur548, ur549, ur550], [], [], [uV61], [uF601, uF602, uF603, uF604], [uG605]), cx_347q2, cx_347q3], [], 178, 0, 0)
def cz_347_0i_0 (t : List (Int × Int)) : List (Int × Int) := ui0 :: (0, 1) :: ui31 :: (0, 6) :: (0, 6) :: ui49 :: ui49 :: ui1332 :: t
def cz_347_0i_1 (t : List (Int × Int)) : List (Int × Int) := ((-2), 99) :: (0, 6) :: t
def cz_347_0 : zS := ((cz_347_0i_0 (cz_347_0i_1 [])), (cx_251pr_0 (cx_251pr_1 [])), [uL164], [uV2, uV11, uV142, uV144, uV781, uV113], [], (cx_251pf_0 (cx_251pf_1 [])), [uG605, (238, [uL638, uL63, uL63, uL63, uL63, uL63, uL63, uL63, uL164, uL79, uL131])])
set_option maxRecDepth 1000000 in
theorem ck_347 : x_ok mLT1 [] mTS2 mTC2 mRUp cx_347 [] [(17, [1000779]), (49, [1000780]), (58, [1000012]), (61, [1000781, 1000782]), (67, [1000783]), (73, [1000784])] [(20, cz_347_0, (166, [(9, (-26))]))] (178, []) 0 28 = true := by decide +kernel
theorem sn_347 {W : Bool} {X : List Int32} : y_Snd (mGw W) mLT1 (J2 W X) X cx_347 := y_ok J2_J mTS2_ok1 mTC2_ok1 mRUp_ok1 (fun _ h => absurd h List.not_mem_nil) ck_347
/-- Forecast.passYears -/
def cx_348 : zCtx := (29, ([ui0, (0, 5), ui1219, ui49], [ur1218, ur433], [], [], [uV2, uV420, uV11, uV12, uV58], [], []), [([ui0, (0, 5), ui1219, ui49], [ur1218, ur433], [], [], [], [], [])], kc_65, 54549, 4, 137)
def cz_348_0i_0 (t : List (Int × Int)) : List (Int × Int) := ui0 :: (0, 5) :: ui1219 :: ui49 :: ui847 :: ui49 :: ui49 :: (0, 6) :: t
def cz_348_0i_1 (t : List (Int × Int)) : List (Int × Int) := (0, 6) :: ui49 :: t
def cz_348_0f_0 (t : List zFa) : List zFa := uF1323 :: uF1324 :: uF711 :: uF1080 :: uF230 :: uF1078 :: uF836 :: uF1049 :: t
def cz_348_0f_1 (t : List zFa) : List zFa := uF1273 :: uF1325 :: (7, (false, 5, 0, []), 0, 0, 0, [(8, 1)]) :: (7, (false, 6, 0, []), 0, 0, 0, [(7, 1)]) :: (7, (false, 7, 0, []), 0, 0, 0, [(9, 1)]) :: (7, (false, 8, 0, []), 0, 0, 0, [(5, 1)]) :: t
def cz_348_0 : zS := ((cz_348_0i_0 (cz_348_0i_1 [])), [ur1218, ur433, ur550, ur549, ur548, ur428, ur434, ur1214], [], [uV2, uV420, uV11, uV12, uV58, uV97], [], (cz_348_0f_0 (cz_348_0f_1 [])), [])
set_option maxRecDepth 1000000 in
theorem ck_348 : x_ok mLT1 [cx_284, cx_294] mTS2 mTC2 mRUp cx_348 [(5, [0]), (38, [1])] [] [(11, cz_348_0, (1516, [(4, (-24))]))] (1523, []) 53026 26 = true := by decide +kernel
theorem sn_348 {W : Bool} {X : List Int32} : y_Snd (mGw W) mLT1 (J2 W X) X cx_348 := y_ok J2_J mTS2_ok1 mTC2_ok1 mRUp_ok1 (List.forall_mem_cons.mpr ⟨sn_284, List.forall_mem_cons.mpr ⟨sn_294, fun _ h => absurd h List.not_mem_nil⟩⟩) ck_348
/-- Forecast.hairThen -/
def cx_349 : zCtx := (30, ([ui0, (0, 5)], [ur1218], [], [], [uV2, uV11], [], []), [([ui0, (0, 5), ui49], [ur1218], [], [], [uV12], [], [])], [], 12, 0, 0)
set_option maxRecDepth 1000000 in
theorem ck_349 : x_ok mLT1 [] mTS2 mTC2 mRUp cx_349 [] [] [] (12, []) 0 15 = true := by decide +kernel
theorem sn_349 {W : Bool} {X : List Int32} : y_Snd (mGw W) mLT1 (J2 W X) X cx_349 := y_ok J2_J mTS2_ok1 mTC2_ok1 mRUp_ok1 (fun _ h => absurd h List.not_mem_nil) ck_349
/-- Forecast.strengthThen -/
def cx_350 : zCtx := (31, ([ui0, (0, 5)], [ur1218], [], [], [uV2, uV11], [], []), [([ui0, (0, 5)], [ur1218], [], [], [uV62], [], []), ([ui0, (0, 5), ui49], [ur1218], [], [], [uV12], [], [])], [], 118, 1, 22)
set_option maxRecDepth 1000000 in
theorem ck_350 : x_ok mLT1 [cx_285] mTS2 mTC2 mRUp cx_350 [(5, [0])] [] [] (13, []) 105 16 = true := by decide +kernel
theorem sn_350 {W : Bool} {X : List Int32} : y_Snd (mGw W) mLT1 (J2 W X) X cx_350 := y_ok J2_J mTS2_ok1 mTC2_ok1 mRUp_ok1 (List.forall_mem_cons.mpr ⟨sn_285, fun _ h => absurd h List.not_mem_nil⟩) ck_350
/-- HairRope.then -/
def cx_351 : zCtx := (173, ([ui0, ui49, ui49, ui49], [ur443], [], [], [uV2, uV11, uV12, uV58], [], []), [([ui0, ui262, ui49, ui49], [ur443], [], [], [uV61], [], []), ([ui0, ui511, ui49, ui49], [ur443], [], [], [uV61], [], []), ([ui0, (0, 5), ui1219, (0, 0), ui49], [ur443], [], [], [uV97], [], []), ([ui0, (0, 5), ui1219, (1, 1), ui49], [ur443], [], [], [uV97], [], [])], kc_65, 54582, 5, 162)
set_option maxRecDepth 1000000 in
theorem ck_351 : x_ok mLT1 [cx_130, cx_348, cx_349, cx_350] mTS2 mTC2 mRUp cx_351 [(2, [0]), (49, [1]), (61, [2]), (72, [3])] [] [] (33, []) 54549 36 = true := by decide +kernel
theorem sn_351 {W : Bool} {X : List Int32} : y_Snd (mGw W) mLT1 (J2 W X) X cx_351 := y_ok J2_J mTS2_ok1 mTC2_ok1 mRUp_ok1 (List.forall_mem_cons.mpr ⟨sn_130, List.forall_mem_cons.mpr ⟨sn_348, List.forall_mem_cons.mpr ⟨sn_349, List.forall_mem_cons.mpr ⟨sn_350, fun _ h => absurd h List.not_mem_nil⟩⟩⟩⟩) ck_351
/-- HairRope.isValue -/
def cx_352 : zCtx := (175, ([ui0, ui49], [], [], [], [uV11], [], []), [([ui0, ui525], [], [], [], [uV64], [], []), ([ui0, ui1333], [], [], [], [uV62], [], []), ([ui0, ui262], [], [], [], [uV62], [], [])], [], 8, 0, 0)
set_option maxRecDepth 1000000 in
theorem ck_352 : x_ok mLT1 [] mTS2 mTC2 mRUp cx_352 [] [] [] (8, []) 0 11 = true := by decide +kernel
theorem sn_352 {W : Bool} {X : List Int32} : y_Snd (mGw W) mLT1 (J2 W X) X cx_352 := y_ok J2_J mTS2_ok1 mTC2_ok1 mRUp_ok1 (fun _ h => absurd h List.not_mem_nil) ck_352
/-- HairRope.year -/
def cx_353 : zCtx := (174, ([ui0, ui49, ui49, ui49, ui49], [ur443], [], [], [uV2, uV11, uV12, uV58, uV97], [], []), [([ui0, ui262, ui49, ui49, ui49], [ur443], [], [], [uV61], [], []), ([ui0, ui511, ui49, ui49, ui49], [ur443], [], [], [uV61], [], []), ([ui0, (0, 5), ui525, ui1219, ui1334, ui49], [ur443], [], [], [uV75], [], [])], kc_65, 55149, 5, 162)
set_option maxRecDepth 1000000 in
theorem ck_353 : x_ok mLT1 [cx_130, cx_352, cx_348, cx_349] mTS2 mTC2 mRUp cx_353 [(2, [0]), (9, [1]), (76, [2]), (84, [3])] [] [(46, ([(0, 3072), (0, 5), (0, 99), (0, 60), (1, 20), ((-2147483648), 2147483647), (0, 22), (1, 6)], [(0, false), (5, false), (2, false)], [((-1), [(1, (-1)), (7, 1)])], [(2, 0, 0, []), (0, 0, 0, [(1, 1)]), (0, 0, 0, [(2, 1)]), (0, 0, 0, [(3, 1)]), (0, 0, 0, [(4, 1)]), (0, 0, 0, [(5, 1)]), (0, 0, 0, [(6, 1)])], [], [(0, (false, 2, 0, []), 2, 1, 0, []), (1, (false, 3, 0, []), 2, 2, 0, []), (2, (false, 5, 0, []), 0, 0, 0, [(7, 1)])], []), (577, [(6, (-26))]))] (600, []) 54549 28 = true := by decide +kernel
theorem sn_353 {W : Bool} {X : List Int32} : y_Snd (mGw W) mLT1 (J2 W X) X cx_353 := y_ok J2_J mTS2_ok1 mTC2_ok1 mRUp_ok1 (List.forall_mem_cons.mpr ⟨sn_130, List.forall_mem_cons.mpr ⟨sn_352, List.forall_mem_cons.mpr ⟨sn_348, List.forall_mem_cons.mpr ⟨sn_349, fun _ h => absurd h List.not_mem_nil⟩⟩⟩⟩) ck_353
/-- Feeler.add -/
def cx_354 : zCtx := (16, ([ui0, (0, 5), ui525, (0, 1), ui1335], [ur446], [], [], [uV2, uV11, uV12, uV58], [uF41], []), [([ui0, (0, 5), ui525, (0, 1), ui1335], [ur446], [], [], [], [(0, (false, 8, 0, []), 0, 0, 1, [(4, 1)])], [])], [uk1336, uk1337, uk1338, uk1339], 32, 0, 0)
set_option maxRecDepth 1000000 in
theorem ck_354 : x_ok mLT1 [] mTS2 mTC2 mRUp cx_354 [] [] [] (32, []) 0 35 = true := by decide +kernel
theorem sn_354 {W : Bool} {X : List Int32} : y_Snd (mGw W) mLT1 (J2 W X) X cx_354 := y_ok J2_J mTS2_ok1 mTC2_ok1 mRUp_ok1 (fun _ h => absurd h List.not_mem_nil) ck_354
/-- HairRope.tell -/
def cx_355 : zCtx := (176, ([ui0, ui49, ui49, (0, 1), ui48], [ur443, ur446], [], [], [uV2, uV11, uV12, uV58], [uF1340, uF1306], []), [([ui0, (0, 5), ui262, (0, 1), ui48], [ur443, ur446], [], [], [uV61], [uF1306], []), ([ui0, (0, 5), ui1333, (0, 1), ui48], [ur443, ur446], [], [], [uV61], [uF1306], []), ([ui0, (0, 5), ui525, (0, 1), ui1341], [ur443, ur446], [], [], [uV61], [uF1306], []), ([ui0, (0, 5), ui525, (0, 1), ui1335], [ur443, ur446], [], [], [uV97], [(1, (false, 8, 0, []), 0, 0, 1, [(4, 1)])], []), ([ui0, ui261, ui49, (0, 1), ui48], [ur443, ur446], [], [], [uV61], [uF1306], []), ([ui0, ui262, ui49, (0, 1), ui48], [ur443, ur446], [], [], [uV61], [uF1306], [])], [uk1336, uk1337, uk1338, uk1339], 57, 1, 23)
set_option maxRecDepth 1000000 in
theorem ck_355 : x_ok mLT1 [cx_352, cx_354] mTS2 mTC2 mRUp cx_355 [(11, [0]), (38, [1])] [] [] (25, []) 32 28 = true := by decide +kernel
theorem sn_355 {W : Bool} {X : List Int32} : y_Snd (mGw W) mLT1 (J2 W X) X cx_355 := y_ok J2_J mTS2_ok1 mTC2_ok1 mRUp_ok1 (List.forall_mem_cons.mpr ⟨sn_352, List.forall_mem_cons.mpr ⟨sn_354, fun _ h => absurd h List.not_mem_nil⟩⟩) ck_355
/-- HairRope.forget -/
def cx_356 : zCtx := (177, ([ui0, ui48], [ur443, ur446], [], [], [uV2], [uF1340, (1, (false, 8, 0, []), 0, 0, 0, [(1, 1)])], []), [([ui0, ui48], [ur443, ur446], [], [], [uV11], [(1, (false, 8, 0, []), 0, 0, 0, [])], [])], [uk1336], 10, 0, 0)
set_option maxRecDepth 1000000 in
theorem ck_356 : x_ok mLT1 [] mTS2 mTC2 mRUp cx_356 [] [] [] (10, []) 0 13 = true := by decide +kernel
theorem sn_356 {W : Bool} {X : List Int32} : y_Snd (mGw W) mLT1 (J2 W X) X cx_356 := y_ok J2_J mTS2_ok1 mTC2_ok1 mRUp_ok1 (fun _ h => absurd h List.not_mem_nil) ck_356
/-- HairRope.isKnown -/
def cx_357 : zCtx := (179, ([ui0, ui49], [ur443], [], [], [uV2, uV11], [], []), [([ui0, ui48], [ur443], [], [], [uV64], [], []), ([ui0, ui506], [ur443], [], [], [uV62], [], []), ([ui0, ui262], [ur443], [], [], [uV62], [], [])], [], 10, 0, 0)
set_option maxRecDepth 1000000 in
theorem ck_357 : x_ok mLT1 [] mTS2 mTC2 mRUp cx_357 [] [] [] (10, []) 0 13 = true := by decide +kernel
theorem sn_357 {W : Bool} {X : List Int32} : y_Snd (mGw W) mLT1 (J2 W X) X cx_357 := y_ok J2_J mTS2_ok1 mTC2_ok1 mRUp_ok1 (fun _ h => absurd h List.not_mem_nil) ck_357
/-- HairRope.isRowLength -/
def cx_358 : zCtx := (180, ([ui0, ui49], [], [], [], [uV11], [], []), [([ui0, (1, 6)], [], [], [], [uV64], [], []), ([ui0, ui1342], [], [], [], [uV62], [], []), ([ui0, ui1343], [], [], [], [uV62], [], [])], [], 9, 0, 0)
set_option maxRecDepth 1000000 in
theorem ck_358 : x_ok mLT1 [] mTS2 mTC2 mRUp cx_358 [] [] [] (9, []) 0 12 = true := by decide +kernel
theorem sn_358 {W : Bool} {X : List Int32} : y_Snd (mGw W) mLT1 (J2 W X) X cx_358 := y_ok J2_J mTS2_ok1 mTC2_ok1 mRUp_ok1 (fun _ h => absurd h List.not_mem_nil) ck_358
/-- Feeler.housesOf -/
def cx_359 : zCtx := (18, ([ui0, ui49], [ur446, ur433], [], [], [uV2, uV420, uV11], [], []), [([ui0, ui49, ui847], [ur446, ur433], [], [], [uV12], [], [])], [], 268, 1, 23)
set_option maxRecDepth 1000000 in
theorem ck_359 : x_ok mLT1 [cx_267, cx_268] mTS2 mTC2 mRUp cx_359 [(30, [0]), (33, [1])] [] [(5, ([(0, 3072), ((-2147483648), 2147483647), (0, 63), (0, 6)], [(11, false), (6, false)], [], [(2, 0, 0, []), (2, 1, 0, []), (0, 0, 0, [(1, 1)]), (0, 0, 0, [(2, 1)]), (0, 0, 0, [(3, 1)])], [], [], []), (158, [(3, (-25))]))] (163, []) 105 27 = true := by decide +kernel
theorem sn_359 {W : Bool} {X : List Int32} : y_Snd (mGw W) mLT1 (J2 W X) X cx_359 := y_ok J2_J mTS2_ok1 mTC2_ok1 mRUp_ok1 (List.forall_mem_cons.mpr ⟨sn_267, List.forall_mem_cons.mpr ⟨sn_268, fun _ h => absurd h List.not_mem_nil⟩⟩) ck_359
/-- Arrays.fill -/
def cx_360 : zCtx := (2, ([ui0], [ur1344], [], [], [uV2, uV62], [], []), [([ui0], [ur1344], [], [], [], [], [uG1345])], [uk1346], 70, 0, 0)
set_option maxRecDepth 1000000 in
theorem ck_360 : x_ok mLT1 [] mTS2 mTC2 mRUp cx_360 [] [(2, [1000430]), (14, [1000431])] [(5, ([(0, 3072), (0, 6)], [(46, false)], [], [(2, 0, 0, []), (0, 0, 0, []), (0, 0, 0, [(1, 1)]), (0, 0, 6, [])], [], [], [(33, [(0, [])])]), (64, [(1, (-10))]))] (70, []) 0 12 = true := by decide +kernel
theorem sn_360 {W : Bool} {X : List Int32} : y_Snd (mGw W) mLT1 (J2 W X) X cx_360 := y_ok J2_J mTS2_ok1 mTC2_ok1 mRUp_ok1 (fun _ h => absurd h List.not_mem_nil) ck_360
/-- Arrays.fill -/
def cx_361 : zCtx := (2, ([ui0, ui847], [ur1347], [], [], [uV2, uV11], [], []), [([ui0, ui847], [ur1347], [], [], [], [], [uG1345])], [uk1348], 70, 0, 0)
set_option maxRecDepth 1000000 in
theorem ck_361 : x_ok mLT1 [] mTS2 mTC2 mRUp cx_361 [] [(2, [1000430]), (14, [1000431])] [(5, ([(0, 3072), (0, 63), (0, 6)], [(45, false)], [], [(2, 0, 0, []), (0, 0, 0, [(1, 1)]), (0, 0, 0, [(2, 1)]), (0, 0, 6, [])], [], [], [(33, [(0, [])])]), (64, [(2, (-10))]))] (70, []) 0 12 = true := by decide +kernel
theorem sn_361 {W : Bool} {X : List Int32} : y_Snd (mGw W) mLT1 (J2 W X) X cx_361 := y_ok J2_J mTS2_ok1 mTC2_ok1 mRUp_ok1 (fun _ h => absurd h List.not_mem_nil) ck_361
/-- Feeler.learn -/
def cx_362 : zCtx := (19, ([ui0, ui48, (1, 6), ui48], [ur446, ur433], [], [], [uV2, uV420, uV11, uV12], [(0, (false, 8, 0, []), 0, 0, 0, [(3, 1)])], []), [([ui0, ui1334, (1, 6), ui1334], [ur446, ur433], [], [], [uV62], [], [uG1345]), ([ui0, ui1334, (1, 6), ui1335], [ur446, ur433], [], [], [uV64], [], [uG1345]), ([ui0, ui48, (1, 6), ui48], [ur446, ur433], [], [], [uV64], [], [uG1345])], [uk1348], 1367, 2, 47)
set_option maxRecDepth 1000000 in
theorem ck_362 : x_ok mLT1 [cx_361, cx_359] mTS2 mTC2 mRUp cx_362 [(22, [0]), (88, [1])] [] [(28, ([(0, 3072), (0, 20), (1, 6), (0, 20), (0, 63), (0, 22), (0, 6)], [(11, false), (6, false), (45, false), (5, false), (2, false)], [], [(2, 0, 0, []), (2, 1, 0, []), (0, 0, 0, [(1, 1)]), (0, 0, 0, [(2, 1)]), (0, 0, 0, [(4, 1)]), (0, 0, 0, [(5, 1)]), (5, 0, 0, []), (5, 0, 0, [])], [], [(0, (false, 4, 0, []), 2, 2, 0, []), (0, (false, 0, 0, []), 2, 3, 0, []), (0, (false, 8, 0, []), 0, 0, 0, [(3, 1)]), (3, (false, 3, 0, []), 2, 4, 0, []), (4, (false, 5, 0, []), 0, 0, 0, [(6, 1)])], [(33, [(0, [])])]), (1083, [(5, (-49))]))] (1099, []) 268 51 = true := by decide +kernel
theorem sn_362 {W : Bool} {X : List Int32} : y_Snd (mGw W) mLT1 (J2 W X) X cx_362 := y_ok J2_J mTS2_ok1 mTC2_ok1 mRUp_ok1 (List.forall_mem_cons.mpr ⟨sn_361, List.forall_mem_cons.mpr ⟨sn_359, fun _ h => absurd h List.not_mem_nil⟩⟩) ck_362
/-- Feeler.note -/
def cx_363 : zCtx := (21, ([ui0, (1, 6), ui1349], [ur446], [], [], [uV2, uV11, uV12], [], []), [([ui0, (1, 6), ui1349], [ur446], [], [], [], [], [])], [uk1350, uk1351, uk1346], 181, 0, 0)
set_option maxRecDepth 1000000 in
theorem ck_363 : x_ok mLT1 [] mTS2 mTC2 mRUp cx_363 [] [] [(24, ([(0, 3072), (1, 6), (0, 65535), (0, 6)], [(11, false)], [], [(2, 0, 0, []), (0, 0, 0, [(1, 1)]), (0, 0, 0, [(2, 1)]), (0, 0, 0, [(3, 1)])], [], [], []), (166, [(3, (-27))]))] (181, []) 0 29 = true := by decide +kernel
theorem sn_363 {W : Bool} {X : List Int32} : y_Snd (mGw W) mLT1 (J2 W X) X cx_363 := y_ok J2_J mTS2_ok1 mTC2_ok1 mRUp_ok1 (fun _ h => absurd h List.not_mem_nil) ck_363
/-- Feeler.fill -/
def cx_364 : zCtx := (20, ([ui0, (6, 6), (6, 6), ui847, ui1349], [ur446], [], [], [uV2, uV11, uV12, uV58, uV97], [], []), [([ui0, (6, 6), (6, 6), ui847, ui1349], [ur446], [uL508], [], [], [], [])], [uk1350, uk1351, uk1346], 189, 1, 23)
set_option maxRecDepth 1000000 in
theorem ck_364 : x_ok mLT1 [cx_363] mTS2 mTC2 mRUp cx_364 [(15, [0])] [] [] (8, []) 181 11 = true := by decide +kernel
theorem sn_364 {W : Bool} {X : List Int32} : y_Snd (mGw W) mLT1 (J2 W X) X cx_364 := y_ok J2_J mTS2_ok1 mTC2_ok1 mRUp_ok1 (List.forall_mem_cons.mpr ⟨sn_363, fun _ h => absurd h List.not_mem_nil⟩) ck_364
/-- Feeler.fill -/
def cx_365 : zCtx := (20, ([ui0, (5, 6), (5, 5), ui847, ui1352], [ur446], [], [], [uV2, uV11, uV12, uV58, uV97], [], []), [([ui0, (5, 5), (5, 5), ui847, ui1352], [ur446], [uL508], [], [], [], []), ([ui0, (6, 6), (5, 5), ui847, ui1352], [ur446], [uL507], [], [], [], [])], [uk1350, uk1351, uk1346, uk1353], 442, 2, 48)
set_option maxRecDepth 1000000 in
theorem ck_365 : x_ok mLT1 [cx_363, cx_364] mTS2 mTC2 mRUp cx_365 [(15, [0]), (74, [1])] [] [(22, ([(0, 3072), (6, 6), (5, 5), (0, 63), (0, 9998), (0, 6)], [(11, false)], [((-1), [(1, 1), (2, (-1))])], [(2, 0, 0, []), (0, 0, 0, [(1, 1)]), (0, 0, 0, [(2, 1)]), (0, 0, 0, [(3, 1)]), (0, 0, 0, [(4, 1)]), (0, 0, 0, [(5, 1)])], [], [], []), ((-100000000000), [(1, (-66666666626)), (2, 100000000000), (5, (-40))]))] (253, []) 189 42 = true := by decide +kernel
theorem sn_365 {W : Bool} {X : List Int32} : y_Snd (mGw W) mLT1 (J2 W X) X cx_365 := y_ok J2_J mTS2_ok1 mTC2_ok1 mRUp_ok1 (List.forall_mem_cons.mpr ⟨sn_363, List.forall_mem_cons.mpr ⟨sn_364, fun _ h => absurd h List.not_mem_nil⟩⟩) ck_365
/-- Feeler.fill -/
def cx_366 : zCtx := (20, ([ui0, (4, 6), (4, 4), ui847, ui1354], [ur446], [], [], [uV2, uV11, uV12, uV58, uV97], [], []), [([ui0, (4, 4), (4, 4), ui847, ui1354], [ur446], [uL508], [], [], [], []), ([ui0, (5, 6), (4, 4), ui847, ui1354], [ur446], [uL507], [], [], [], [])], [uk1350, uk1351, uk1346, uk1353], 695, 3, 73)
set_option maxRecDepth 1000000 in
theorem ck_366 : x_ok mLT1 [cx_363, cx_365] mTS2 mTC2 mRUp cx_366 [(15, [0]), (74, [1])] [] [(22, ([(0, 3072), (5, 6), (4, 4), (0, 63), (0, 1319), (0, 6)], [(11, false)], [((-1), [(1, 1), (2, (-1))])], [(2, 0, 0, []), (0, 0, 0, [(1, 1)]), (0, 0, 0, [(2, 1)]), (0, 0, 0, [(3, 1)]), (0, 0, 0, [(4, 1)]), (0, 0, 0, [(5, 1)])], [], [], []), ((-100000000000), [(2, 25000000061), (5, (-40))]))] (253, []) 442 42 = true := by decide +kernel
theorem sn_366 {W : Bool} {X : List Int32} : y_Snd (mGw W) mLT1 (J2 W X) X cx_366 := y_ok J2_J mTS2_ok1 mTC2_ok1 mRUp_ok1 (List.forall_mem_cons.mpr ⟨sn_363, List.forall_mem_cons.mpr ⟨sn_365, fun _ h => absurd h List.not_mem_nil⟩⟩) ck_366
end
