noncomputable section
/-! ===== readings, by program, checked by the kernel ===== -/
def cx_327q2 : zS := ((cx_326q2i_0 (cx_326q2i_1 [])), (cx_251pr_0 (cx_251pr_1 [])), [], [], [uV144], [uF600, uF601, uF602, uF603], [uG604, (260, [uL637, uL65, uL65, uL65, uL65, uL65, uL65, uL65, uL100, uL81, uL133])])
def cx_327q3 : zS := ((cx_326q3i_0 (cx_326q3i_1 [])), (cx_251pr_0 (cx_251pr_1 [])), [], [], [uV144], [uF600, uF601, uF602, uF603], [uG604, (260, [uL637, uL65, uL65, uL65, uL65, uL65, uL65, uL65, uL100, uL133, uL81])])
/-- HairRope.greyest -/
def cx_327 : zCtx := (172, cx_251p, [([ui0, ui1063, ui31, (0, 6), (0, 6), ui51, ui51], [ur444, ur445, ur446, ur533, ur434, ur435, ur430, ur549, ur550, ur551], [], [], [uV63], [uF600, uF601, uF602, uF603], [uG604]), ([ui0, ui265, ui31, (0, 6), (0, 6), ui51, ui51], [ur444, ur445, ur446, ur533, ur434, ur435, ur430, ur549, ur550, ur551], [], [], [uV63], [uF600, uF601, uF602, uF603], [uG604]), cx_327q2, cx_327q3], [], 178, 0, 0)
def cz_327_0i_0 (t : List (Int × Int)) : List (Int × Int) := ui0 :: (0, 1) :: ui31 :: (0, 6) :: (0, 6) :: ui51 :: ui51 :: ui1156 :: t
def cz_327_0i_1 (t : List (Int × Int)) : List (Int × Int) := ((-2), 99) :: (0, 6) :: t
def cz_327_0 : zS := ((cz_327_0i_0 (cz_327_0i_1 [])), (cx_251pr_0 (cx_251pr_1 [])), [uL166], [uV2, uV11, uV144, uV146, uV779, uV115], [], (cx_251pf_0 (cx_251pf_1 [])), [uG604, (238, [uL637, uL65, uL65, uL65, uL65, uL65, uL65, uL65, uL166, uL81, uL133])])
set_option maxRecDepth 1000000 in
theorem ck_327 : x_ok mLT1 [] mTS2 mTC2 mRUp cx_327 [] [(17, [1000779]), (49, [1000780]), (58, [1000012]), (61, [1000781, 1000782]), (67, [1000783]), (73, [1000784])] [(20, cz_327_0, (166, [(9, (-26))]))] (178, []) 0 28 = true := by decide +kernel
theorem sn_327 {W : Bool} {X : List Int32} : y_Snd (mGw W) mLT1 (J2 W X) X cx_327 := y_ok J2_J mTS2_ok1 mTC2_ok1 mRUp_ok1 (fun _ h => absurd h List.not_mem_nil) ck_327
/-- Forecast.passYears -/
def cx_328 : zCtx := (29, ([ui0, (0, 5), ui1087, ui51], [ur1086, ur434], [], [], [uV2, uV422, uV11, uV12, uV60], [], []), [([ui0, (0, 5), ui1087, ui51], [ur1086, ur434], [], [], [], [], [])], kc_65, 54549, 4, 137)
def cz_328_0i_0 (t : List (Int × Int)) : List (Int × Int) := ui0 :: (0, 5) :: ui1087 :: ui51 :: ui845 :: ui51 :: ui51 :: (0, 6) :: t
def cz_328_0i_1 (t : List (Int × Int)) : List (Int × Int) := (0, 6) :: ui51 :: t
def cz_328_0f_0 (t : List zFa) : List zFa := uF1147 :: uF1148 :: uF710 :: uF1109 :: uF233 :: uF1107 :: uF834 :: uF1047 :: t
def cz_328_0f_1 (t : List zFa) : List zFa := uF1158 :: uF1149 :: (7, (false, 5, 0, []), 0, 0, 0, [(8, 1)]) :: (7, (false, 6, 0, []), 0, 0, 0, [(7, 1)]) :: (7, (false, 7, 0, []), 0, 0, 0, [(9, 1)]) :: (7, (false, 8, 0, []), 0, 0, 0, [(5, 1)]) :: t
def cz_328_0 : zS := ((cz_328_0i_0 (cz_328_0i_1 [])), [ur1086, ur434, ur551, ur550, ur549, ur430, ur435, ur1082], [], [uV2, uV422, uV11, uV12, uV60, uV99], [], (cz_328_0f_0 (cz_328_0f_1 [])), [])
set_option maxRecDepth 1000000 in
theorem ck_328 : x_ok mLT1 [cx_274, cx_284] mTS2 mTC2 mRUp cx_328 [(5, [0]), (38, [1])] [] [(11, cz_328_0, (1516, [(4, (-24))]))] (1523, []) 53026 26 = true := by decide +kernel
theorem sn_328 {W : Bool} {X : List Int32} : y_Snd (mGw W) mLT1 (J2 W X) X cx_328 := y_ok J2_J mTS2_ok1 mTC2_ok1 mRUp_ok1 (List.forall_mem_cons.mpr ⟨sn_274, List.forall_mem_cons.mpr ⟨sn_284, fun _ h => absurd h List.not_mem_nil⟩⟩) ck_328
/-- Forecast.hairThen -/
def cx_329 : zCtx := (30, ([ui0, (0, 5)], [ur1086], [], [], [uV2, uV11], [], []), [([ui0, (0, 5), ui51], [ur1086], [], [], [uV12], [], [])], [], 12, 0, 0)
set_option maxRecDepth 1000000 in
theorem ck_329 : x_ok mLT1 [] mTS2 mTC2 mRUp cx_329 [] [] [] (12, []) 0 15 = true := by decide +kernel
theorem sn_329 {W : Bool} {X : List Int32} : y_Snd (mGw W) mLT1 (J2 W X) X cx_329 := y_ok J2_J mTS2_ok1 mTC2_ok1 mRUp_ok1 (fun _ h => absurd h List.not_mem_nil) ck_329
/-- Forecast.strengthThen -/
def cx_330 : zCtx := (31, ([ui0, (0, 5)], [ur1086], [], [], [uV2, uV11], [], []), [([ui0, (0, 5)], [ur1086], [], [], [uV64], [], []), ([ui0, (0, 5), ui51], [ur1086], [], [], [uV12], [], [])], [], 118, 1, 22)
set_option maxRecDepth 1000000 in
theorem ck_330 : x_ok mLT1 [cx_275] mTS2 mTC2 mRUp cx_330 [(5, [0])] [] [] (13, []) 105 16 = true := by decide +kernel
theorem sn_330 {W : Bool} {X : List Int32} : y_Snd (mGw W) mLT1 (J2 W X) X cx_330 := y_ok J2_J mTS2_ok1 mTC2_ok1 mRUp_ok1 (List.forall_mem_cons.mpr ⟨sn_275, fun _ h => absurd h List.not_mem_nil⟩) ck_330
/-- HairRope.then -/
def cx_331 : zCtx := (173, ([ui0, ui51, ui51, ui51], [ur444], [], [], [uV2, uV11, uV12, uV60], [], []), [([ui0, ui265, ui51, ui51], [ur444], [], [], [uV63], [], []), ([ui0, ui512, ui51, ui51], [ur444], [], [], [uV63], [], []), ([ui0, (0, 5), ui1087, (0, 0), ui51], [ur444], [], [], [uV99], [], []), ([ui0, (0, 5), ui1087, (1, 1), ui51], [ur444], [], [], [uV99], [], [])], kc_65, 54582, 5, 162)
set_option maxRecDepth 1000000 in
theorem ck_331 : x_ok mLT1 [cx_130, cx_328, cx_329, cx_330] mTS2 mTC2 mRUp cx_331 [(2, [0]), (49, [1]), (61, [2]), (72, [3])] [] [] (33, []) 54549 36 = true := by decide +kernel
theorem sn_331 {W : Bool} {X : List Int32} : y_Snd (mGw W) mLT1 (J2 W X) X cx_331 := y_ok J2_J mTS2_ok1 mTC2_ok1 mRUp_ok1 (List.forall_mem_cons.mpr ⟨sn_130, List.forall_mem_cons.mpr ⟨sn_328, List.forall_mem_cons.mpr ⟨sn_329, List.forall_mem_cons.mpr ⟨sn_330, fun _ h => absurd h List.not_mem_nil⟩⟩⟩⟩) ck_331
/-- HairRope.isValue -/
def cx_332 : zCtx := (175, ([ui0, ui51], [], [], [], [uV11], [], []), [([ui0, ui526], [], [], [], [uV66], [], []), ([ui0, ui1159], [], [], [], [uV64], [], []), ([ui0, ui265], [], [], [], [uV64], [], [])], [], 8, 0, 0)
set_option maxRecDepth 1000000 in
theorem ck_332 : x_ok mLT1 [] mTS2 mTC2 mRUp cx_332 [] [] [] (8, []) 0 11 = true := by decide +kernel
theorem sn_332 {W : Bool} {X : List Int32} : y_Snd (mGw W) mLT1 (J2 W X) X cx_332 := y_ok J2_J mTS2_ok1 mTC2_ok1 mRUp_ok1 (fun _ h => absurd h List.not_mem_nil) ck_332
/-- HairRope.year -/
def cx_333 : zCtx := (174, ([ui0, ui51, ui51, ui51, ui51], [ur444], [], [], [uV2, uV11, uV12, uV60, uV99], [], []), [([ui0, ui265, ui51, ui51, ui51], [ur444], [], [], [uV63], [], []), ([ui0, ui512, ui51, ui51, ui51], [ur444], [], [], [uV63], [], []), ([ui0, (0, 5), ui526, ui1087, ui1160, ui51], [ur444], [], [], [uV77], [], [])], kc_65, 55149, 5, 162)
set_option maxRecDepth 1000000 in
theorem ck_333 : x_ok mLT1 [cx_130, cx_332, cx_328, cx_329] mTS2 mTC2 mRUp cx_333 [(2, [0]), (9, [1]), (76, [2]), (84, [3])] [] [(46, ([(0, 3072), (0, 5), (0, 99), (0, 60), (1, 20), ((-2147483648), 2147483647), (0, 22), (1, 6)], [(0, false), (5, false), (2, false)], [((-1), [(1, (-1)), (7, 1)])], [(2, 0, 0, []), (0, 0, 0, [(1, 1)]), (0, 0, 0, [(2, 1)]), (0, 0, 0, [(3, 1)]), (0, 0, 0, [(4, 1)]), (0, 0, 0, [(5, 1)]), (0, 0, 0, [(6, 1)])], [], [(0, (false, 2, 0, []), 2, 1, 0, []), (1, (false, 3, 0, []), 2, 2, 0, []), (2, (false, 5, 0, []), 0, 0, 0, [(7, 1)])], []), (577, [(6, (-26))]))] (600, []) 54549 28 = true := by decide +kernel
theorem sn_333 {W : Bool} {X : List Int32} : y_Snd (mGw W) mLT1 (J2 W X) X cx_333 := y_ok J2_J mTS2_ok1 mTC2_ok1 mRUp_ok1 (List.forall_mem_cons.mpr ⟨sn_130, List.forall_mem_cons.mpr ⟨sn_332, List.forall_mem_cons.mpr ⟨sn_328, List.forall_mem_cons.mpr ⟨sn_329, fun _ h => absurd h List.not_mem_nil⟩⟩⟩⟩) ck_333
/-- Feeler.add -/
def cx_334 : zCtx := (16, ([ui0, (0, 5), ui526, (0, 1), ui1161], [ur447, ur1162, ur1163, ur1164], [], [], [uV2, uV11, uV12, uV60], [uF41, uF44, uF78, uF79], [uG1165]), [([ui0, (0, 5), ui526, (0, 1), ui1161], [ur447, ur1162, ur1163, ur1164], [uL1166], [], [], [(0, (false, 8, 0, []), 0, 0, 1, [(4, 1)])], [uG1167])], [uk1168, uk1169, uk1170, uk1171], 32, 0, 0)
set_option maxRecDepth 1000000 in
theorem ck_334 : x_ok mLT1 [] mTS2 mTC2 mRUp cx_334 [] [(16, [1001168]), (46, [1001169])] [] (32, []) 0 35 = true := by decide +kernel
theorem sn_334 {W : Bool} {X : List Int32} : y_Snd (mGw W) mLT1 (J2 W X) X cx_334 := y_ok J2_J mTS2_ok1 mTC2_ok1 mRUp_ok1 (fun _ h => absurd h List.not_mem_nil) ck_334
/-- HairRope.tell -/
def cx_335 : zCtx := (176, ([ui0, ui51, ui51, (0, 1), ui50], [ur444, ur447, ur1162, ur1163, ur1164], [], [], [uV2, uV11, uV12, uV60], [uF1172, uF1121, (1, (false, 1, 0, []), 2, 2, 0, []), (1, (false, 2, 0, []), 2, 3, 0, []), (1, (false, 3, 0, []), 2, 4, 0, [])], [uG1165]), [([ui0, (0, 5), ui265, (0, 1), ui50], [ur444, ur447, ur1162, ur1163, ur1164], [], [], [uV63], [uF1121], [uG1165]), ([ui0, (0, 5), ui1159, (0, 1), ui50], [ur444, ur447, ur1162, ur1163, ur1164], [], [], [uV63], [uF1121], [uG1165]), ([ui0, (0, 5), ui526, (0, 1), ui1173], [ur444, ur447, ur1162, ur1163, ur1164], [], [], [uV63], [uF1121], [uG1165]), ([ui0, (0, 5), ui526, (0, 1), ui1161], [ur444, ur447, ur1162, ur1163, ur1164], [], [], [uV99], [(1, (false, 8, 0, []), 0, 0, 1, [(4, 1)])], [uG1167]), ([ui0, ui264, ui51, (0, 1), ui50], [ur444, ur447, ur1162, ur1163, ur1164], [], [], [uV63], [uF1121], [uG1165]), ([ui0, ui265, ui51, (0, 1), ui50], [ur444, ur447, ur1162, ur1163, ur1164], [], [], [uV63], [uF1121], [uG1165])], [uk1168, uk1169, uk1170, uk1171], 57, 1, 23)
set_option maxRecDepth 1000000 in
theorem ck_335 : x_ok mLT1 [cx_332, cx_334] mTS2 mTC2 mRUp cx_335 [(11, [0]), (38, [1])] [] [] (25, []) 32 28 = true := by decide +kernel
theorem sn_335 {W : Bool} {X : List Int32} : y_Snd (mGw W) mLT1 (J2 W X) X cx_335 := y_ok J2_J mTS2_ok1 mTC2_ok1 mRUp_ok1 (List.forall_mem_cons.mpr ⟨sn_332, List.forall_mem_cons.mpr ⟨sn_334, fun _ h => absurd h List.not_mem_nil⟩⟩) ck_335
/-- HairRope.forget -/
def cx_336 : zCtx := (177, ([ui0, ui50], [ur444, ur447], [], [], [uV2], [uF1172, (1, (false, 8, 0, []), 0, 0, 0, [(1, 1)])], []), [([ui0, ui50], [ur444, ur447], [], [], [uV11], [(1, (false, 8, 0, []), 0, 0, 0, [])], [])], [uk1168], 10, 0, 0)
set_option maxRecDepth 1000000 in
theorem ck_336 : x_ok mLT1 [] mTS2 mTC2 mRUp cx_336 [] [] [] (10, []) 0 13 = true := by decide +kernel
theorem sn_336 {W : Bool} {X : List Int32} : y_Snd (mGw W) mLT1 (J2 W X) X cx_336 := y_ok J2_J mTS2_ok1 mTC2_ok1 mRUp_ok1 (fun _ h => absurd h List.not_mem_nil) ck_336
/-- HairRope.isKnown -/
def cx_337 : zCtx := (179, ([ui0, ui51, ui50], [ur444, ur447], [], [], [uV2, uV11], [uF1172, (1, (false, 8, 0, []), 0, 0, 0, [(2, 1)])], []), [([ui0, ui51, ui50], [ur444, ur447], [uL9, uL509], [], [uV66], [], []), ([ui0, ui51, ui50], [ur444, ur447], [uL508], [], [uV64], [], []), ([ui0, ui51, ui50], [ur444, ur447], [uL570], [], [uV64], [], [])], [], 10, 0, 0)
set_option maxRecDepth 1000000 in
theorem ck_337 : x_ok mLT1 [] mTS2 mTC2 mRUp cx_337 [] [] [] (10, []) 0 13 = true := by decide +kernel
theorem sn_337 {W : Bool} {X : List Int32} : y_Snd (mGw W) mLT1 (J2 W X) X cx_337 := y_ok J2_J mTS2_ok1 mTC2_ok1 mRUp_ok1 (fun _ h => absurd h List.not_mem_nil) ck_337
/-- HairRope.isRowLength -/
def cx_338 : zCtx := (180, ([ui0, ui51], [], [], [], [uV11], [], []), [([ui0, (1, 6)], [], [], [], [uV66], [], []), ([ui0, ui1174], [], [], [], [uV64], [], []), ([ui0, ui1175], [], [], [], [uV64], [], [])], [], 9, 0, 0)
set_option maxRecDepth 1000000 in
theorem ck_338 : x_ok mLT1 [] mTS2 mTC2 mRUp cx_338 [] [] [] (9, []) 0 12 = true := by decide +kernel
theorem sn_338 {W : Bool} {X : List Int32} : y_Snd (mGw W) mLT1 (J2 W X) X cx_338 := y_ok J2_J mTS2_ok1 mTC2_ok1 mRUp_ok1 (fun _ h => absurd h List.not_mem_nil) ck_338
def cx_339pr_0 (t : List (Nat × Bool)) : List (Nat × Bool) := ur447 :: ur434 :: ur445 :: ur446 :: ur435 :: ur430 :: ur549 :: ur550 :: t
def cx_339pr_1 (t : List (Nat × Bool)) : List (Nat × Bool) := ur551 :: ur548 :: ur525 :: t
def cx_339pf_0 (t : List zFa) : List zFa := uF153 :: uF449 :: uF1104 :: uF506 :: uF1105 :: uF1106 :: uF1107 :: uF1108 :: t
def cx_339pf_1 (t : List zFa) : List zFa := uF1109 :: uF1110 :: uF1111 :: uF1112 :: uF1113 :: uF1176 :: t
def cx_339p : zS := ([ui0, ui51, (0, 6), (0, 6), ui51, ui51], (cx_339pr_0 (cx_339pr_1 [])), [uL769], [], [uV2, uV422, uV11], (cx_339pf_0 (cx_339pf_1 [])), [uG792])
/-- Feeler.housesOf -/
def cx_339 : zCtx := (18, cx_339p, [([ui0, ui51, (0, 6), (0, 6), ui51, ui51, ui845], [ur447, ur434, ur445, ur446, ur435, ur430, ur549, ur550, ur551, ur548, ur525], [], [], [uV110], [], [uG792, (238, [uL1177, uL65, uL65, uL65, uL65, uL65, uL65, uL65, uL9, uL69, uL80])])], [], 268, 1, 23)
def cz_339_0 : zS := ([ui0, ui51, (0, 6), (0, 6), ui51, ui51, ui845, (0, 6)], (cx_339pr_0 (cx_339pr_1 [])), [uL769, uL81, uL1178, uL80, (63, [(6, (-1))])], [uV2, uV422, uV11, uV110, uV144], [], (cx_339pf_0 (cx_339pf_1 [])), [uG792, (238, [uL1177, uL65, uL65, uL65, uL65, uL65, uL65, uL65, uL9, uL81, uL80])])
set_option maxRecDepth 1000000 in
theorem ck_339 : x_ok mLT1 [cx_131, cx_132] mTS2 mTC2 mRUp cx_339 [(30, [0]), (33, [1])] [(2, [1001075]), (44, [1000789]), (45, [1000667]), (47, [1001076, 1001077])] [(5, cz_339_0, (158, [(7, (-25))]))] (163, []) 105 27 = true := by decide +kernel
theorem sn_339 {W : Bool} {X : List Int32} : y_Snd (mGw W) mLT1 (J2 W X) X cx_339 := y_ok J2_J mTS2_ok1 mTC2_ok1 mRUp_ok1 (List.forall_mem_cons.mpr ⟨sn_131, List.forall_mem_cons.mpr ⟨sn_132, fun _ h => absurd h List.not_mem_nil⟩⟩) ck_339
/-- Arrays.fill -/
def cx_340 : zCtx := (2, ([ui0], [ur1179], [], [], [uV2, uV64], [], []), [([ui0], [ur1179], [], [], [], [], [(313, [uL255, uL65])])], [uk1180], 70, 0, 0)
set_option maxRecDepth 1000000 in
theorem ck_340 : x_ok mLT1 [] mTS2 mTC2 mRUp cx_340 [] [(2, [1000430, 1001078]), (14, [1000431, 1001079])] [(5, ([(0, 3072), (0, 6)], [(46, false)], [(36, [(1, (-1))]), (0, [(1, 1)]), (6, [(1, (-1))])], [(2, 0, 0, []), (0, 0, 0, []), (0, 0, 0, [(1, 1)]), (0, 0, 6, [])], [], [], [(313, [(0, [(1, 1)]), (0, [])])]), (64, [(1, (-10))]))] (70, []) 0 12 = true := by decide +kernel
theorem sn_340 {W : Bool} {X : List Int32} : y_Snd (mGw W) mLT1 (J2 W X) X cx_340 := y_ok J2_J mTS2_ok1 mTC2_ok1 mRUp_ok1 (fun _ h => absurd h List.not_mem_nil) ck_340
/-- Arrays.fill -/
def cx_341 : zCtx := (2, ([ui0, ui845], [ur1181], [], [], [uV2, uV11], [], []), [([ui0, ui845], [ur1181], [], [], [], [], [(312, [uL255, uL9])])], [uk1182], 70, 0, 0)
set_option maxRecDepth 1000000 in
theorem ck_341 : x_ok mLT1 [] mTS2 mTC2 mRUp cx_341 [] [(2, [1000430, 1001081]), (14, [1000431, 1001082])] [(5, ([(0, 3072), (0, 63), (0, 6)], [(45, false)], [(36, [(2, (-1))]), (0, [(2, 1)]), (6, [(2, (-1))])], [(2, 0, 0, []), (0, 0, 0, [(1, 1)]), (0, 0, 0, [(2, 1)]), (0, 0, 6, [])], [], [], [(312, [(0, [(2, 1)]), (0, [(1, 1)])])]), (64, [(2, (-10))]))] (70, []) 0 12 = true := by decide +kernel
theorem sn_341 {W : Bool} {X : List Int32} : y_Snd (mGw W) mLT1 (J2 W X) X cx_341 := y_ok J2_J mTS2_ok1 mTC2_ok1 mRUp_ok1 (fun _ h => absurd h List.not_mem_nil) ck_341
def cx_342pr_0 (t : List (Nat × Bool)) : List (Nat × Bool) := ur447 :: ur434 :: ur445 :: ur446 :: ur435 :: ur430 :: ur549 :: ur550 :: t
def cx_342pr_1 (t : List (Nat × Bool)) : List (Nat × Bool) := ur551 :: ur548 :: ur525 :: ur1162 :: ur1163 :: ur1164 :: ur1181 :: t
def cx_342pf_0 (t : List zFa) : List zFa := (0, (false, 8, 0, []), 0, 0, 0, [(3, 1)]) :: uF153 :: uF449 :: (3, (false, 5, 0, []), 0, 0, 0, [(4, 1)]) :: uF832 :: uF833 :: uF834 :: uF835 :: t
def cx_342pf_1 (t : List zFa) : List zFa := uF1108 :: uF1109 :: uF1110 :: uF1111 :: uF1112 :: uF1113 :: uF1176 :: uF1115 :: t
def cx_342pf_2 (t : List zFa) : List zFa := uF1183 :: uF1184 :: uF1185 :: t
def cx_342p : zS := ([ui0, ui50, (1, 6), ui50, (0, 6), (0, 6), ui51, ui51], (cx_342pr_0 (cx_342pr_1 [])), [uL766, uL68], [], [uV2, uV422, uV11, uV12], (cx_342pf_0 (cx_342pf_1 (cx_342pf_2 []))), [uG564])
/-- Feeler.learn -/
def cx_342 : zCtx := (19, cx_342p, [([ui0, ui50, (1, 6), ui50, (0, 6), (0, 6), ui51, ui51], [ur447, ur434, ur445, ur446, ur435, ur430, ur549, ur550, ur551, ur548, ur525, ur1162, ur1163, ur1164, ur1181], [], [], [uV64], [], [uG564, (286, [uL9, uL69])]), ([ui0, ui50, (1, 6), ui50, (0, 6), (0, 6), ui51, ui51], [ur447, ur434, ur445, ur446, ur435, ur430, ur549, ur550, ur551, ur548, ur525, ur1162, ur1163, ur1164, ur1181], [], [], [uV66], [], [uG564, (284, [uL100, uL69, uL9])])], [uk1182], 1367, 2, 47)
def cz_342_0i_0 (t : List (Int × Int)) : List (Int × Int) := ui0 :: ui50 :: (1, 6) :: ui50 :: (0, 6) :: (0, 6) :: ui51 :: ui51 :: t
def cz_342_0i_1 (t : List (Int × Int)) : List (Int × Int) := ui845 :: ui427 :: t
def cz_342_0 : zS := ((cz_342_0i_0 (cz_342_0i_1 [])), (cx_342pr_0 (cx_342pr_1 [])), [uL766, uL68, uL166, uL1186], [uV2, uV422, uV11, uV12, uV146, uV779, uV115, uV115], [], (cx_342pf_0 (cx_342pf_1 (cx_342pf_2 []))), [uG564, (284, [uL100, uL69, uL166])])
set_option maxRecDepth 1000000 in
theorem ck_342 : x_ok mLT1 [cx_341, cx_339] mTS2 mTC2 mRUp cx_342 [(22, [0]), (88, [1])] [(11, [1000789]), (12, [1001080]), (25, [1001083]), (77, [1001087, 1001088, 1001089]), (119, [1000717]), (120, [1000668]), (121, [1001084]), (122, [1001085, 1001086]), (128, [1001090])] [(28, cz_342_0, (1083, [(9, (-49))]))] (1099, []) 268 51 = true := by decide +kernel
theorem sn_342 {W : Bool} {X : List Int32} : y_Snd (mGw W) mLT1 (J2 W X) X cx_342 := y_ok J2_J mTS2_ok1 mTC2_ok1 mRUp_ok1 (List.forall_mem_cons.mpr ⟨sn_341, List.forall_mem_cons.mpr ⟨sn_339, fun _ h => absurd h List.not_mem_nil⟩⟩) ck_342
def cx_343p : zS := ([ui0, (0, 6), ui1187, ui845, ui51, ui51, ui51], [ur447, ur1181, ur1179, ur1188], [], [], [uV2, uV11, uV12], [uF40, (0, (false, 9, 0, []), 0, 0, 0, [(4, 1)]), uF1189, uF1190, uF1191, uF1192], [uG1193, (287, [uL9, uL9, uL69, uL100, uL106]), uG1194, (290, [uL9, uL9, uL69, uL23])])
/-- Feeler.note -/
def cx_343 : zCtx := (21, cx_343p, [([ui0, (0, 6), ui1187, ui845, ui51, ui51, ui51, ui51, ui51], [ur447, ur1181, ur1179, ur1188], [], [], [], [(0, (false, 9, 0, []), 0, 0, 0, [(7, 1)]), uF1195], [(287, [uL9, uL9, uL517, uL81, uL133]), (290, [uL9, uL9, uL517, uL23])])], [uk1196, uk1197, uk1180], 181, 0, 0)
def cz_343_0i_0 (t : List (Int × Int)) : List (Int × Int) := ui0 :: (0, 6) :: ui1198 :: ui845 :: ui1198 :: ui51 :: ui51 :: (0, 6) :: t
def cz_343_0i_1 (t : List (Int × Int)) : List (Int × Int) := ui51 :: t
def cz_343_0 : zS := ((cz_343_0i_0 (cz_343_0i_1 [])), [ur447, ur1181, ur1179, ur1188], [uL596, uL81, uL1199], [uV2, uV11, uV12, uV144], [], [(0, (false, 9, 0, []), 0, 0, 1, [(4, 1)]), uF1195, uF40, uF1190, uF1191, uF1192], [uG1193, uG1194, (287, [uL9, uL9, uL517, uL172, uL133]), (291, [uL9, uL69, uL23, uL81])])
set_option maxRecDepth 1000000 in
theorem ck_343 : x_ok mLT1 [] mTS2 mTC2 mRUp cx_343 [] [(0, [1001096]), (22, [1001097, 1001098, 1001099]), (46, [1001100, 1000789]), (47, [1000668]), (48, [1001101]), (58, [1001102]), (61, [1001103, 1001104]), (67, [1001105])] [(24, cz_343_0, (166, [(7, (-27))]))] (181, []) 0 29 = true := by decide +kernel
theorem sn_343 {W : Bool} {X : List Int32} : y_Snd (mGw W) mLT1 (J2 W X) X cx_343 := y_ok J2_J mTS2_ok1 mTC2_ok1 mRUp_ok1 (fun _ h => absurd h List.not_mem_nil) ck_343
def cx_344p : zS := ([ui0, (6, 6), (6, 6), ui51, ui1187, ui51, ui51, ui845], [ur447, ur1181, ur1179, ur1188], [], [], [uV2, uV11, uV12, uV60, uV99], [uF42, uF43, uF131, uF1190, uF1191, uF1192], [(288, [uL255, uL100, uL23]), (287, [uL9, uL255, uL100, uL106, uL80]), uG1200, (290, [uL9, uL255, uL100, uL81])])
/-- Feeler.fill -/
def cx_344 : zCtx := (20, cx_344p, [([ui0, (6, 6), (6, 6), ui51, ui1187, ui51, ui51, ui845, ui51, ui51], [ur447, ur1181, ur1179, ur1188], [], [], [], [uF1201, uF1202], [(287, [uL9, uL255, uL172, uL133, uL166]), (290, [uL9, uL255, uL172, uL81]), uG1200])], [uk1196, uk1197, uk1180], 189, 1, 23)
set_option maxRecDepth 1000000 in
theorem ck_344 : x_ok mLT1 [cx_343] mTS2 mTC2 mRUp cx_344 [(15, [0])] [] [] (8, []) 181 11 = true := by decide +kernel
theorem sn_344 {W : Bool} {X : List Int32} : y_Snd (mGw W) mLT1 (J2 W X) X cx_344 := y_ok J2_J mTS2_ok1 mTC2_ok1 mRUp_ok1 (List.forall_mem_cons.mpr ⟨sn_343, fun _ h => absurd h List.not_mem_nil⟩) ck_344
def cx_345p : zS := ([ui0, (5, 6), (5, 5), ui51, ui1203, ui51, ui51, ui845], [ur447, ur1181, ur1179, ur1188], [], [], [uV2, uV11, uV12, uV60, uV99], [uF42, uF43, uF131, uF1190, uF1191, uF1192], [uG1204, (287, [uL9, uL249, uL100, uL106, uL80]), uG1205, (290, [uL9, uL249, uL100, uL81])])
/-- Feeler.fill -/
def cx_345 : zCtx := (20, cx_345p, [([ui0, (5, 6), (5, 5), ui51, ui1203, ui51, ui51, ui845, ui51, ui51], [ur447, ur1181, ur1179, ur1188], [], [], [], [uF1201, uF1202], [(287, [uL9, uL249, uL172, uL133, uL166]), (290, [uL9, uL249, uL172, uL81]), uG1205])], [uk1196, uk1197, uk1180, uk1206], 442, 2, 48)
def cz_345_0i_0 (t : List (Int × Int)) : List (Int × Int) := ui0 :: (6, 6) :: (5, 5) :: ui845 :: (0, 7775) :: ui51 :: ui51 :: ui845 :: t
def cz_345_0i_1 (t : List (Int × Int)) : List (Int × Int) := (0, 6) :: ui51 :: ui51 :: t
def cz_345_0 : zS := ((cz_345_0i_0 (cz_345_0i_1 [])), [ur447, ur1181, ur1179, ur1188], [uL508, uL133, uL1207, uL100, uL1208, uL23, uL1209], [uV2, uV11, uV12, uV60, uV99, uV146], [], [uF1210, uF1211, uF131, uF1190, uF1191, uF1192], [uG1204, uG1205, (287, [uL9, uL255, uL1212, uL166, uL173]), (290, [uL9, uL255, uL1212, uL81])])
set_option maxRecDepth 1000000 in
theorem ck_345 : x_ok mLT1 [cx_343, cx_344] mTS2 mTC2 mRUp cx_345 [(15, [0]), (74, [1])] [(19, uN1213), (37, [1000717]), (38, [1000668]), (42, [1000789]), (43, [1000668]), (44, [1001094]), (64, [1000789]), (65, [1000667]), (74, [1001095]), (77, uN1214), (83, [1001108])] [(22, cz_345_0, ((-100000000000), [(1, (-66666666626)), (2, 100000000000), (8, (-40))]))] (253, []) 189 42 = true := by decide +kernel
theorem sn_345 {W : Bool} {X : List Int32} : y_Snd (mGw W) mLT1 (J2 W X) X cx_345 := y_ok J2_J mTS2_ok1 mTC2_ok1 mRUp_ok1 (List.forall_mem_cons.mpr ⟨sn_343, List.forall_mem_cons.mpr ⟨sn_344, fun _ h => absurd h List.not_mem_nil⟩⟩) ck_345
def cx_346p : zS := ([ui0, (4, 6), (4, 4), ui51, ui1215, ui51, ui51, ui845], [ur447, ur1181, ur1179, ur1188], [], [], [uV2, uV11, uV12, uV60, uV99], [uF42, uF43, uF131, uF1190, uF1191, uF1192], [uG1216, (287, [uL9, uL36, uL100, uL106, uL80]), uG1217, (290, [uL9, uL36, uL100, uL81])])
/-- Feeler.fill -/
def cx_346 : zCtx := (20, cx_346p, [([ui0, (4, 6), (4, 4), ui51, ui1215, ui51, ui51, ui845, ui51, ui51], [ur447, ur1181, ur1179, ur1188], [], [], [], [uF1201, uF1202], [(287, [uL9, uL36, uL172, uL133, uL166]), (290, [uL9, uL36, uL172, uL81]), uG1217])], [uk1196, uk1197, uk1180, uk1206], 695, 3, 73)
def cz_346_0i_0 (t : List (Int × Int)) : List (Int × Int) := ui0 :: (5, 6) :: (4, 4) :: ui845 :: ui1215 :: ui51 :: ui51 :: ui845 :: t
def cz_346_0i_1 (t : List (Int × Int)) : List (Int × Int) := (0, 6) :: ui51 :: ui51 :: t
def cz_346_0 : zS := ((cz_346_0i_0 (cz_346_0i_1 [])), [ur447, ur1181, ur1179, ur1188], [uL508, uL133, uL1207, uL100, uL1208, uL23, uL1209], [uV2, uV11, uV12, uV60, uV99, uV146], [], [uF1210, uF1211, uF131, uF1190, uF1191, uF1192], [uG1216, uG1217, (287, [uL9, uL249, uL1212, uL166, uL173]), (290, [uL9, uL249, uL1212, uL81])])
set_option maxRecDepth 1000000 in
theorem ck_346 : x_ok mLT1 [cx_343, cx_345] mTS2 mTC2 mRUp cx_346 [(15, [0]), (74, [1])] [(19, uN1213), (37, [1000717]), (38, [1000668]), (42, [1000789]), (43, [1000668]), (44, [1001094]), (64, [1000789]), (65, [1000667]), (74, [1001095]), (77, uN1214), (83, [1001108])] [(22, cz_346_0, ((-100000000000), [(2, 25000000061), (8, (-40))]))] (253, []) 442 42 = true := by decide +kernel
theorem sn_346 {W : Bool} {X : List Int32} : y_Snd (mGw W) mLT1 (J2 W X) X cx_346 := y_ok J2_J mTS2_ok1 mTC2_ok1 mRUp_ok1 (List.forall_mem_cons.mpr ⟨sn_343, List.forall_mem_cons.mpr ⟨sn_345, fun _ h => absurd h List.not_mem_nil⟩⟩) ck_346
def cx_347p : zS := ([ui0, (3, 6), (3, 3), ui51, ui1218, ui51, ui51, ui845], [ur447, ur1181, ur1179, ur1188], [], [], [uV2, uV11, uV12, uV60, uV99], [uF42, uF43, uF131, uF1190, uF1191, uF1192], [uG1219, (287, [uL9, uL214, uL100, uL106, uL80]), uG1220, (290, [uL9, uL214, uL100, uL81])])
/-- Feeler.fill -/
def cx_347 : zCtx := (20, cx_347p, [([ui0, (3, 6), (3, 3), ui51, ui1218, ui51, ui51, ui845, ui51, ui51], [ur447, ur1181, ur1179, ur1188], [], [], [], [uF1201, uF1202], [(287, [uL9, uL214, uL172, uL133, uL166]), (290, [uL9, uL214, uL172, uL81]), uG1220])], [uk1196, uk1197, uk1180, uk1206], 1454, 4, 98)
def cz_347_0i_0 (t : List (Int × Int)) : List (Int × Int) := ui0 :: (4, 6) :: (3, 3) :: ui845 :: ui1218 :: ui51 :: ui51 :: ui845 :: t
def cz_347_0i_1 (t : List (Int × Int)) : List (Int × Int) := (0, 6) :: ui51 :: ui51 :: t
def cz_347_0 : zS := ((cz_347_0i_0 (cz_347_0i_1 [])), [ur447, ur1181, ur1179, ur1188], [uL508, uL133, uL1207, uL100, uL1208, uL23, uL1209], [uV2, uV11, uV12, uV60, uV99, uV146], [], [uF1210, uF1211, uF131, uF1190, uF1191, uF1192], [uG1219, uG1220, (287, [uL9, uL36, uL1212, uL166, uL173]), (290, [uL9, uL36, uL1212, uL81])])
set_option maxRecDepth 1000000 in
theorem ck_347 : x_ok mLT1 [cx_343, cx_346] mTS2 mTC2 mRUp cx_347 [(15, [0]), (74, [1])] [(19, uN1213), (37, [1000717]), (38, [1000668]), (42, [1000789]), (43, [1000668]), (44, [1001094]), (64, [1000789]), (65, [1000667]), (74, [1001095]), (77, uN1214), (83, [1001108])] [(22, cz_347_0, ((-300000000000), [(2, 100000000244), (8, (-120))]))] (759, []) 695 42 = true := by decide +kernel
theorem sn_347 {W : Bool} {X : List Int32} : y_Snd (mGw W) mLT1 (J2 W X) X cx_347 := y_ok J2_J mTS2_ok1 mTC2_ok1 mRUp_ok1 (List.forall_mem_cons.mpr ⟨sn_343, List.forall_mem_cons.mpr ⟨sn_346, fun _ h => absurd h List.not_mem_nil⟩⟩) ck_347
def cx_348p : zS := ([ui0, (2, 6), (2, 2), ui51, ui1091, ui51, ui51, ui845], [ur447, ur1181, ur1179, ur1188], [], [], [uV2, uV11, uV12, uV60, uV99], [uF42, uF43, uF131, uF1190, uF1191, uF1192], [uG1221, (287, [uL9, uL116, uL100, uL106, uL80]), uG1222, (290, [uL9, uL116, uL100, uL81])])
/-- Feeler.fill -/
def cx_348 : zCtx := (20, cx_348p, [([ui0, (2, 6), (2, 2), ui51, ui1091, ui51, ui51, ui845, ui51, ui51], [ur447, ur1181, ur1179, ur1188], [], [], [], [uF1201, uF1202], [(287, [uL9, uL116, uL172, uL133, uL166]), (290, [uL9, uL116, uL172, uL81]), uG1222])], [uk1196, uk1197, uk1180, uk1206], 1707, 5, 123)
def cz_348_0i_0 (t : List (Int × Int)) : List (Int × Int) := ui0 :: (3, 6) :: (2, 2) :: ui845 :: ui1091 :: ui51 :: ui51 :: ui845 :: t
def cz_348_0i_1 (t : List (Int × Int)) : List (Int × Int) := (0, 6) :: ui51 :: ui51 :: t
def cz_348_0 : zS := ((cz_348_0i_0 (cz_348_0i_1 [])), [ur447, ur1181, ur1179, ur1188], [uL508, uL133, uL1207, uL100, uL1208, uL23, uL1209], [uV2, uV11, uV12, uV60, uV99, uV146], [], [uF1210, uF1211, uF131, uF1190, uF1191, uF1192], [uG1221, uG1222, (287, [uL9, uL214, uL1212, uL166, uL173]), (290, [uL9, uL214, uL1212, uL81])])
set_option maxRecDepth 1000000 in
theorem ck_348 : x_ok mLT1 [cx_343, cx_347] mTS2 mTC2 mRUp cx_348 [(15, [0]), (74, [1])] [(19, uN1213), (37, [1000717]), (38, [1000668]), (42, [1000789]), (43, [1000668]), (44, [1001094]), (64, [1000789]), (65, [1000667]), (74, [1001095]), (77, uN1214), (83, [1001108])] [(22, cz_348_0, ((-100000000000), [(2, 50000000122), (8, (-40))]))] (253, []) 1454 42 = true := by decide +kernel
theorem sn_348 {W : Bool} {X : List Int32} : y_Snd (mGw W) mLT1 (J2 W X) X cx_348 := y_ok J2_J mTS2_ok1 mTC2_ok1 mRUp_ok1 (List.forall_mem_cons.mpr ⟨sn_343, List.forall_mem_cons.mpr ⟨sn_347, fun _ h => absurd h List.not_mem_nil⟩⟩) ck_348
def cx_349p : zS := ([ui0, (1, 6), (1, 1), ui51, (0, 5), ui51, ui51, ui845], [ur447, ur1181, ur1179, ur1188], [], [], [uV2, uV11, uV12, uV60, uV99], [uF42, uF43, uF131, uF1190, uF1191, uF1192], [uG1223, (287, [uL9, uL67, uL100, uL106, uL80]), uG1224, (290, [uL9, uL67, uL100, uL81])])
/-- Feeler.fill -/
def cx_349 : zCtx := (20, cx_349p, [([ui0, (1, 6), (1, 1), ui51, (0, 5), ui51, ui51, ui845, ui51, ui51], [ur447, ur1181, ur1179, ur1188], [], [], [], [uF1201, uF1202], [(287, [uL9, uL67, uL172, uL133, uL166]), (290, [uL9, uL67, uL172, uL81]), uG1224])], [uk1196, uk1197, uk1180, uk1206], 1960, 6, 148)
def cz_349_0i_0 (t : List (Int × Int)) : List (Int × Int) := ui0 :: (2, 6) :: (1, 1) :: ui845 :: (0, 5) :: ui51 :: ui51 :: ui845 :: t
def cz_349_0i_1 (t : List (Int × Int)) : List (Int × Int) := (0, 6) :: ui51 :: ui51 :: t
def cz_349_0 : zS := ((cz_349_0i_0 (cz_349_0i_1 [])), [ur447, ur1181, ur1179, ur1188], [uL508, uL133, uL1207, uL100, uL1208, uL23, uL1209], [uV2, uV11, uV12, uV60, uV99, uV146], [], [uF1210, uF1211, uF131, uF1190, uF1191, uF1192], [uG1223, uG1224, (287, [uL9, uL116, uL1212, uL166, uL173]), (290, [uL9, uL116, uL1212, uL81])])
set_option maxRecDepth 1000000 in
theorem ck_349 : x_ok mLT1 [cx_343, cx_348] mTS2 mTC2 mRUp cx_349 [(15, [0]), (74, [1])] [(19, uN1213), (37, [1000717]), (38, [1000668]), (42, [1000789]), (43, [1000668]), (44, [1001094]), (64, [1000789]), (65, [1000667]), (74, [1001095]), (77, uN1214), (83, [1001108])] [(22, cz_349_0, ((-99999999756), [(2, 100000000000), (8, (-40))]))] (253, []) 1707 42 = true := by decide +kernel
theorem sn_349 {W : Bool} {X : List Int32} : y_Snd (mGw W) mLT1 (J2 W X) X cx_349 := y_ok J2_J mTS2_ok1 mTC2_ok1 mRUp_ok1 (List.forall_mem_cons.mpr ⟨sn_343, List.forall_mem_cons.mpr ⟨sn_348, fun _ h => absurd h List.not_mem_nil⟩⟩) ck_349
def cx_350p : zS := ([ui0, (1, 6), (0, 0), (0, 0), (0, 0), ui51, ui51, ui845], [ur447, ur1181, ur1179, ur1188], [], [], [uV2, uV11, uV12, uV60, uV99], [uF42, uF43, uF131, uF1190, uF1191, uF1192], [uG1225, (287, [uL9, uL65, uL100, uL106, uL80]), uG1226, (290, [uL9, uL65, uL100, uL81])])
/-- Feeler.fill -/
def cx_350 : zCtx := (20, cx_350p, [([ui0, (1, 6), (0, 0), (0, 0), (0, 0), ui51, ui51, ui845, ui51, ui51], [ur447, ur1181, ur1179, ur1188], [], [], [], [uF1201, uF1202], [(287, [uL9, uL65, uL172, uL133, uL166]), (290, [uL9, uL65, uL172, uL81]), uG1226])], [uk1196, uk1197, uk1180, uk1206], 2213, 7, 173)
def cz_350_0i_0 (t : List (Int × Int)) : List (Int × Int) := ui0 :: (1, 6) :: (0, 0) :: (0, 0) :: (0, 0) :: ui51 :: ui51 :: ui845 :: t
def cz_350_0i_1 (t : List (Int × Int)) : List (Int × Int) := (0, 6) :: ui51 :: ui51 :: t
def cz_350_0 : zS := ((cz_350_0i_0 (cz_350_0i_1 [])), [ur447, ur1181, ur1179, ur1188], [uL508, uL133, uL1207, uL100, uL1208, uL23, uL1209], [uV2, uV11, uV12, uV60, uV99, uV146], [], [uF1210, uF1211, uF131, uF1190, uF1191, uF1192], [uG1225, uG1226, (287, [uL9, uL67, uL1212, uL166, uL173]), (290, [uL9, uL67, uL1212, uL81])])
set_option maxRecDepth 1000000 in
theorem ck_350 : x_ok mLT1 [cx_349] mTS2 mTC2 mRUp cx_350 [(74, [0])] [(19, uN1213), (37, [1000717]), (38, [1000668]), (42, [1000789]), (43, [1000668]), (44, [1001094]), (64, [1000789]), (65, [1000667]), (74, [1001095]), (77, uN1214), (83, [1001108])] [(22, cz_350_0, (244, [(2, (-100000000000)), (3, (-100000000000)), (4, (-100000000000)), (8, (-40))]))] (253, []) 1960 42 = true := by decide +kernel
theorem sn_350 {W : Bool} {X : List Int32} : y_Snd (mGw W) mLT1 (J2 W X) X cx_350 := y_ok J2_J mTS2_ok1 mTC2_ok1 mRUp_ok1 (List.forall_mem_cons.mpr ⟨sn_349, fun _ h => absurd h List.not_mem_nil⟩) ck_350
def cx_351pi_0 (t : List (Int × Int)) : List (Int × Int) := ui0 :: ui50 :: (1, 6) :: ui526 :: ui51 :: ui50 :: ui51 :: ui51 :: t
def cx_351pi_1 (t : List (Int × Int)) : List (Int × Int) := (0, 6) :: (0, 6) :: ui51 :: ui51 :: t
def cx_351pr_0 (t : List (Nat × Bool)) : List (Nat × Bool) := ur447 :: ur434 :: ur445 :: ur446 :: ur435 :: ur430 :: ur549 :: ur550 :: t
def cx_351pr_1 (t : List (Nat × Bool)) : List (Nat × Bool) := ur551 :: ur548 :: ur525 :: ur1162 :: ur1163 :: ur1164 :: ur1181 :: ur1179 :: t
def cx_351pr_2 (t : List (Nat × Bool)) : List (Nat × Bool) := ur1188 :: t
def cx_351pf_0 (t : List zFa) : List zFa := uF141 :: uF514 :: (0, (false, 9, 0, []), 0, 0, 0, [(6, 1)]) :: uF1227 :: uF153 :: uF449 :: (3, (false, 5, 0, []), 0, 0, 0, [(8, 1)]) :: uF1158 :: t
def cx_351pf_1 (t : List zFa) : List zFa := (1, (false, 6, 0, []), 0, 0, 0, [(9, 1)]) :: (1, (false, 7, 0, []), 0, 0, 0, [(10, 1)]) :: uF428 :: uF1108 :: uF1109 :: uF1110 :: uF1111 :: uF1112 :: t
def cx_351pf_2 (t : List zFa) : List zFa := uF1113 :: uF1176 :: uF1115 :: uF1183 :: uF1184 :: uF1185 :: (0, (false, 5, 0, []), 2, 15, 0, []) :: (0, (false, 6, 0, []), 2, 16, 0, []) :: t
def cx_351p : zS := ((cx_351pi_0 (cx_351pi_1 [])), (cx_351pr_0 (cx_351pr_1 (cx_351pr_2 []))), [uL1207, uL167], [], [uV2, uV422, uV11, uV12, uV60], (cx_351pf_0 (cx_351pf_1 (cx_351pf_2 []))), [uG1228])
def cx_351q0i_0 (t : List (Int × Int)) : List (Int × Int) := ui0 :: ui50 :: (1, 6) :: ui526 :: ui51 :: ui50 :: ui51 :: ui51 :: t
def cx_351q0i_1 (t : List (Int × Int)) : List (Int × Int) := (0, 6) :: (0, 6) :: ui51 :: ui51 :: ui1229 :: ui51 :: t
def cx_351q0 : zS := ((cx_351q0i_0 (cx_351q0i_1 [])), (cx_351pr_0 (cx_351pr_1 (cx_351pr_2 []))), [], [], [], [(0, (false, 9, 0, []), 0, 0, 0, [(12, 1)]), uF473], [uG1228, (293, [uL133, uL9, uL69, uL217, uL210]), (294, [uL133, uL9, uL69, uL23])])
/-- Feeler.findRows -/
def cx_351 : zCtx := (17, cx_351p, [cx_351q0], [uk1230, uk1196, uk1197, uk1182, uk1180, uk1206], 2242, 8, 198)
set_option maxRecDepth 1000000 in
theorem ck_351 : x_ok mLT1 [cx_339, cx_340, cx_342, cx_350] mTS2 mTC2 mRUp cx_351 [(16, [0]), (27, [1]), (34, [2]), (45, [3])] [(40, [1001091]), (48, [1001109, 1001110])] [] (29, []) 2213 32 = true := by decide +kernel
theorem sn_351 {W : Bool} {X : List Int32} : y_Snd (mGw W) mLT1 (J2 W X) X cx_351 := y_ok J2_J mTS2_ok1 mTC2_ok1 mRUp_ok1 (List.forall_mem_cons.mpr ⟨sn_339, List.forall_mem_cons.mpr ⟨sn_340, List.forall_mem_cons.mpr ⟨sn_342, List.forall_mem_cons.mpr ⟨sn_350, fun _ h => absurd h List.not_mem_nil⟩⟩⟩⟩) ck_351
def cx_352pi_0 (t : List (Int × Int)) : List (Int × Int) := ui0 :: ui51 :: ui51 :: ui51 :: ui31 :: (0, 6) :: (0, 6) :: ui51 :: t
def cx_352pi_1 (t : List (Int × Int)) : List (Int × Int) := ui51 :: ui50 :: t
def cx_352pr_0 (t : List (Nat × Bool)) : List (Nat × Bool) := ur444 :: ur445 :: ur446 :: ur533 :: ur434 :: ur548 :: ur447 :: ur435 :: t
def cx_352pr_1 (t : List (Nat × Bool)) : List (Nat × Bool) := ur430 :: ur549 :: ur550 :: ur551 :: ur525 :: ur1162 :: ur1163 :: ur1164 :: t
def cx_352pr_2 (t : List (Nat × Bool)) : List (Nat × Bool) := ur1181 :: ur1179 :: ur1188 :: t
def cx_352pf_0 (t : List zFa) : List zFa := uF13 :: uF511 :: uF543 :: uF581 :: uF1231 :: uF553 :: uF1232 :: uF1233 :: t
def cx_352pf_1 (t : List zFa) : List zFa := uF1234 :: uF1235 :: uF160 :: uF1236 :: (6, (false, 0, 0, []), 2, 1, 0, []) :: uF590 :: uF591 :: uF592 :: t
def cx_352pf_2 (t : List zFa) : List zFa := uF593 :: uF594 :: uF462 :: (6, (false, 8, 0, []), 0, 0, 0, [(9, 1)]) :: (6, (false, 1, 0, []), 2, 13, 0, []) :: (6, (false, 2, 0, []), 2, 14, 0, []) :: (6, (false, 3, 0, []), 2, 15, 0, []) :: (6, (false, 4, 0, []), 2, 16, 0, []) :: t
def cx_352pf_3 (t : List zFa) : List zFa := (6, (false, 5, 0, []), 2, 17, 0, []) :: (6, (false, 6, 0, []), 2, 18, 0, []) :: t
def cx_352p : zS := ((cx_352pi_0 (cx_352pi_1 [])), (cx_352pr_0 (cx_352pr_1 (cx_352pr_2 []))), [], [], [uV2, uV11, uV12, uV60], (cx_352pf_0 (cx_352pf_1 (cx_352pf_2 (cx_352pf_3 [])))), [uG470])
def cx_352q0 : zS := ((cx_352pi_0 (cx_352pi_1 [])), (cx_352pr_0 (cx_352pr_1 (cx_352pr_2 []))), [uL570], [], [uV63], [uF1232, uF1233, uF1234, uF1235], [uG470])
def cx_352q1 : zS := ((cx_352pi_0 (cx_352pi_1 [])), (cx_352pr_0 (cx_352pr_1 (cx_352pr_2 []))), [((-1), [(1, 1), (9, (-1))])], [], [uV63], [uF1232, uF1233, uF1234, uF1235], [uG470])
def cx_352q2i_0 (t : List (Int × Int)) : List (Int × Int) := ui0 :: ui51 :: ui1175 :: ui51 :: ui31 :: (0, 6) :: (0, 6) :: ui51 :: t
def cx_352q2i_1 (t : List (Int × Int)) : List (Int × Int) := ui51 :: ui50 :: t
def cx_352q2 : zS := ((cx_352q2i_0 (cx_352q2i_1 [])), (cx_352pr_0 (cx_352pr_1 (cx_352pr_2 []))), [uL9, uL1237], [], [uV63], [uF1232, uF1233, uF1234, uF1235], [uG470])
def cx_352q3i_0 (t : List (Int × Int)) : List (Int × Int) := ui0 :: ui51 :: ui1174 :: ui51 :: ui31 :: (0, 6) :: (0, 6) :: ui51 :: t
def cx_352q3i_1 (t : List (Int × Int)) : List (Int × Int) := ui51 :: ui50 :: t
def cx_352q3 : zS := ((cx_352q3i_0 (cx_352q3i_1 [])), (cx_352pr_0 (cx_352pr_1 (cx_352pr_2 []))), [uL9, uL1237], [], [uV63], [uF1232, uF1233, uF1234, uF1235], [uG470])
def cx_352q4i_0 (t : List (Int × Int)) : List (Int × Int) := ui0 :: ui51 :: (1, 6) :: ui1063 :: ui31 :: (0, 6) :: (0, 6) :: ui51 :: t
def cx_352q4i_1 (t : List (Int × Int)) : List (Int × Int) := ui51 :: ui50 :: t
def cx_352q4 : zS := ((cx_352q4i_0 (cx_352q4i_1 [])), (cx_352pr_0 (cx_352pr_1 (cx_352pr_2 []))), [uL9, uL1237], [], [uV63], [uF1232, uF1233, uF1234, uF1235], [uG470])
def cx_352q5i_0 (t : List (Int × Int)) : List (Int × Int) := ui0 :: ui51 :: (1, 6) :: (0, 0) :: ui31 :: (0, 6) :: (0, 6) :: ui51 :: t
def cx_352q5i_1 (t : List (Int × Int)) : List (Int × Int) := ui51 :: ui50 :: ui51 :: t
def cx_352q5 : zS := ((cx_352q5i_0 (cx_352q5i_1 [])), (cx_352pr_0 (cx_352pr_1 (cx_352pr_2 []))), [uL9, uL1237], [], [uV826], [uF1232, uF1233, uF1234, uF1235], [uG470, (295, [uL106, uL9, uL69, uL65, uL173])])
def cx_352q6i_0 (t : List (Int × Int)) : List (Int × Int) := ui0 :: ui51 :: (1, 6) :: (1, 1) :: ui31 :: (0, 6) :: (0, 6) :: ui51 :: t
def cx_352q6i_1 (t : List (Int × Int)) : List (Int × Int) := ui51 :: ui50 :: ui51 :: t
def cx_352q6 : zS := ((cx_352q6i_0 (cx_352q6i_1 [])), (cx_352pr_0 (cx_352pr_1 (cx_352pr_2 []))), [uL9, uL1237], [], [uV826], [uF1232, uF1233, uF1234, uF1235], [uG470, (295, [uL106, uL9, uL69, uL67, uL173])])
def cx_352q7i_0 (t : List (Int × Int)) : List (Int × Int) := ui0 :: ui51 :: (1, 6) :: ui265 :: ui31 :: (0, 6) :: (0, 6) :: ui51 :: t
def cx_352q7i_1 (t : List (Int × Int)) : List (Int × Int) := ui51 :: ui50 :: t
def cx_352q7 : zS := ((cx_352q7i_0 (cx_352q7i_1 [])), (cx_352pr_0 (cx_352pr_1 (cx_352pr_2 []))), [uL9, uL1237], [], [uV63], [uF1232, uF1233, uF1234, uF1235], [uG470])
/-- HairRope.rows -/
def cx_352 : zCtx := (178, cx_352p, [cx_352q0, cx_352q1, cx_352q2, cx_352q3, cx_352q4, cx_352q5, cx_352q6, cx_352q7], [uk1230, uk1196, uk1197, uk1182, uk1180, uk1206], 2269, 9, 222)
set_option maxRecDepth 1000000 in
theorem ck_352 : x_ok mLT1 [cx_337, cx_338, cx_351] mTS2 mTC2 mRUp cx_352 [(2, [0]), (9, [1]), (37, [2])] [(61, [1000791, 1000792])] [] (27, []) 2242 30 = true := by decide +kernel
theorem sn_352 {W : Bool} {X : List Int32} : y_Snd (mGw W) mLT1 (J2 W X) X cx_352 := y_ok J2_J mTS2_ok1 mTC2_ok1 mRUp_ok1 (List.forall_mem_cons.mpr ⟨sn_337, List.forall_mem_cons.mpr ⟨sn_338, List.forall_mem_cons.mpr ⟨sn_351, fun _ h => absurd h List.not_mem_nil⟩⟩⟩) ck_352
/-- Feeler.bestPlace -/
def cx_353 : zCtx := (22, ([ui0, (1, 6), ui1229, (0, 6), ui50, ui51, ui51], [ur447, ur1179, ur1162, ur1163, ur1164], [], [], [uV2, uV11], [uF1238, uF1239, uF22, uF33, uF553], [uG1240, uG1241]), [([ui0, (1, 6), ui1229, (0, 6), ui50, ui51, ui51, ui1156], [ur447, ur1179, ur1162, ur1163, ur1164], [], [], [uV144], [], [(297, [uL23, uL100, uL9, uL106, uL81])])], [], 210, 1, 64)
def cz_353_0i_0 (t : List (Int × Int)) : List (Int × Int) := ui0 :: (1, 6) :: ui1229 :: (0, 6) :: ui50 :: ui51 :: ui51 :: ui1156 :: t
def cz_353_0i_1 (t : List (Int × Int)) : List (Int × Int) := (1, 46657) :: (0, 6) :: t
def cz_353_0 : zS := ((cz_353_0i_0 (cz_353_0i_1 [])), [ur447, ur1179, ur1162, ur1163, ur1164], [uL166, uL1186], [uV2, uV11, uV144, uV146, uV779, uV115], [], [uF1238, uF1239, uF22, uF33, uF553], [uG1240, uG1241, (310, [uL69, uL166, uL81, uL133])])
set_option maxRecDepth 1000000 in
theorem ck_353 : x_ok mLT1 [] mTS2 mTC2 mRUp cx_353 [] [(10, [1001136]), (40, [1001137]), (51, [1001137]), (52, [1001138]), (69, [1001139, 1001140, 1001141, 1001142]), (75, [1001143, 1001144])] [(13, cz_353_0, (200, [(9, (-32))]))] (210, []) 0 34 = true := by decide +kernel
theorem sn_353 {W : Bool} {X : List Int32} : y_Snd (mGw W) mLT1 (J2 W X) X cx_353 := y_ok J2_J mTS2_ok1 mTC2_ok1 mRUp_ok1 (fun _ h => absurd h List.not_mem_nil) ck_353
def cx_354q5i_0 (t : List (Int × Int)) : List (Int × Int) := ui0 :: ui51 :: (1, 6) :: ui1159 :: ui31 :: (0, 6) :: (0, 6) :: ui51 :: t
def cx_354q5i_1 (t : List (Int × Int)) : List (Int × Int) := ui51 :: ui50 :: t
def cx_354q5 : zS := ((cx_354q5i_0 (cx_354q5i_1 [])), (cx_352pr_0 (cx_352pr_1 (cx_352pr_2 []))), [uL9, uL1237], [], [uV63], [uF1232, uF1233, uF1234, uF1235], [uG470])
def cx_354q6i_0 (t : List (Int × Int)) : List (Int × Int) := ui0 :: ui51 :: (1, 6) :: ui526 :: ui31 :: (0, 6) :: (0, 6) :: ui51 :: t
def cx_354q6i_1 (t : List (Int × Int)) : List (Int × Int) := ui51 :: ui50 :: ui51 :: t
def cx_354q6 : zS := ((cx_354q6i_0 (cx_354q6i_1 [])), (cx_352pr_0 (cx_352pr_1 (cx_352pr_2 []))), [uL9, uL1237], [], [uV826], [uF1232, uF1233, uF1234, uF1235], [uG470, (297, [uL106, uL9, uL69, uL23, uL173])])
/-- HairRope.feel -/
def cx_354 : zCtx := (181, cx_352p, [cx_352q0, cx_352q1, cx_352q2, cx_352q3, cx_352q7, cx_354q5, cx_354q6], [uk1230, uk1196, uk1197, uk1182, uk1180, uk1206], 2265, 9, 222)
set_option maxRecDepth 1000000 in
theorem ck_354 : x_ok mLT1 [cx_337, cx_338, cx_332, cx_351, cx_353] mTS2 mTC2 mRUp cx_354 [(2, [0]), (9, [1]), (16, [2]), (35, [3]), (43, [4])] [] [] (23, []) 2242 26 = true := by decide +kernel
theorem sn_354 {W : Bool} {X : List Int32} : y_Snd (mGw W) mLT1 (J2 W X) X cx_354 := y_ok J2_J mTS2_ok1 mTC2_ok1 mRUp_ok1 (List.forall_mem_cons.mpr ⟨sn_337, List.forall_mem_cons.mpr ⟨sn_338, List.forall_mem_cons.mpr ⟨sn_332, List.forall_mem_cons.mpr ⟨sn_351, List.forall_mem_cons.mpr ⟨sn_353, fun _ h => absurd h List.not_mem_nil⟩⟩⟩⟩⟩) ck_354
/-- HairRope.isSlot -/
def cx_355 : zCtx := (183, ([ui0, ui51], [], [], [], [uV11], [], []), [([ui0, (0, 2)], [], [], [], [uV66], [], []), ([ui0, ui1242], [], [], [], [uV64], [], []), ([ui0, ui265], [], [], [], [uV64], [], [])], [], 8, 0, 0)
set_option maxRecDepth 1000000 in
theorem ck_355 : x_ok mLT1 [] mTS2 mTC2 mRUp cx_355 [] [] [] (8, []) 0 11 = true := by decide +kernel
theorem sn_355 {W : Bool} {X : List Int32} : y_Snd (mGw W) mLT1 (J2 W X) X cx_355 := y_ok J2_J mTS2_ok1 mTC2_ok1 mRUp_ok1 (fun _ h => absurd h List.not_mem_nil) ck_355
def cx_356pi_0 (t : List (Int × Int)) : List (Int × Int) := ui0 :: ui1242 :: (0, 7) :: (0, 1) :: (0, 1) :: (0, 1) :: (0, 6) :: (0, 6) :: t
def cx_356pi_1 (t : List (Int × Int)) : List (Int × Int) := ui51 :: ui51 :: t
def cx_356p : zS := ((cx_356pi_0 (cx_356pi_1 [])), [ur444, ur442, ur434], [uL1243, uL1244], [], [uV2, uV11], [uF1190, uF1245, uF542, uF1088, uF1246, uF226, uF1247], [uG1248, uG1249])
/-- HairRope.hold -/
def cx_356 : zCtx := (182, cx_356p, [([ui0, ui1242, (0, 7), (0, 1), (0, 1), (0, 1), (0, 6), (0, 6), ui51, ui51], [ur444, ur442, ur434], [], [], [uV64], [uF1245], [])], [], 13, 1, 20)
set_option maxRecDepth 1000000 in
theorem ck_356 : x_ok mLT1 [cx_355] mTS2 mTC2 mRUp cx_356 [(1, [0])] [] [] (5, []) 8 8 = true := by decide +kernel
theorem sn_356 {W : Bool} {X : List Int32} : y_Snd (mGw W) mLT1 (J2 W X) X cx_356 := y_ok J2_J mTS2_ok1 mTC2_ok1 mRUp_ok1 (List.forall_mem_cons.mpr ⟨sn_355, fun _ h => absurd h List.not_mem_nil⟩) ck_356
/-- History.slotAt -/
def cx_357 : zCtx := (44, ([ui0], [ur442], [], [], [uV2, uV64], [], []), [([ui0], [ur442, ur1250], [], [], [uV422], [], [])], [], 11, 0, 0)
set_option maxRecDepth 1000000 in
theorem ck_357 : x_ok mLT1 [] mTS2 mTC2 mRUp cx_357 [] [] [] (11, []) 0 14 = true := by decide +kernel
theorem sn_357 {W : Bool} {X : List Int32} : y_Snd (mGw W) mLT1 (J2 W X) X cx_357 := y_ok J2_J mTS2_ok1 mTC2_ok1 mRUp_ok1 (fun _ h => absurd h List.not_mem_nil) ck_357
def cx_358p : zS := ((cx_149pi_0 (cx_149pi_1 (cx_149pi_2 (cx_149pi_3 (cx_149pi_4 []))))), [ur1250, ur434, ur435, ur430, ur549, ur550, ur551], [], [], [uV2, uV422], (cx_149pf_0 (cx_149pf_1 (cx_149pf_2 (cx_149pf_3 (cx_149pf_4 (cx_149pf_5 [])))))), [])
def cx_358q0 : zS := ((cx_149pi_0 (cx_149pi_1 (cx_149pi_2 (cx_149pi_3 (cx_149pi_4 []))))), [ur1250, ur434, ur435, ur430, ur549, ur550, ur551], [], [], [], [uF128, uF130, uF131, uF712], [uG1251])
/-- State.copyFrom -/
def cx_358 : zCtx := (102, cx_358p, [cx_358q0], kc_67, 57, 1, 64)
set_option maxRecDepth 1000000 in
theorem ck_358 : x_ok mLT1 [] mTS2 mTC2 mRUp cx_358 [] [(107, [1001167])] [] (57, []) 0 60 = true := by decide +kernel
theorem sn_358 {W : Bool} {X : List Int32} : y_Snd (mGw W) mLT1 (J2 W X) X cx_358 := y_ok J2_J mTS2_ok1 mTC2_ok1 mRUp_ok1 (fun _ h => absurd h List.not_mem_nil) ck_358
def cx_359pi_0 (t : List (Int × Int)) : List (Int × Int) := ui0 :: (0, 7) :: (0, 1) :: (0, 1) :: (0, 1) :: (0, 6) :: (0, 6) :: ui51 :: t
def cx_359pi_1 (t : List (Int × Int)) : List (Int × Int) := ui51 :: t
def cx_359p : zS := ((cx_359pi_0 (cx_359pi_1 [])), [ur442, ur434], [uL1252, uL1253], [], [uV2, uV64, uV422], [uF32, uF582, uF583, uF584, uF585], [uG1254, uG470])
/-- History.fillSlot -/
def cx_359 : zCtx := (43, cx_359p, [([ui0, (0, 7), (0, 1), (0, 1), (0, 1), (0, 6), (0, 6), ui51, ui51, ui51], [ur442, ur434], [], [], [uV66], [uF309], [uG1255, uG1256, uG1257])], kc_68, 76, 2, 85)
set_option maxRecDepth 1000000 in
theorem ck_359 : x_ok mLT1 [cx_357, cx_358] mTS2 mTC2 mRUp cx_359 [(2, [0]), (14, [1])] [(14, uN1258), (17, [1000691]), (25, [1000667])] [] (19, []) 57 22 = true := by decide +kernel
theorem sn_359 {W : Bool} {X : List Int32} : y_Snd (mGw W) mLT1 (J2 W X) X cx_359 := y_ok J2_J mTS2_ok1 mTC2_ok1 mRUp_ok1 (List.forall_mem_cons.mpr ⟨sn_357, List.forall_mem_cons.mpr ⟨sn_358, fun _ h => absurd h List.not_mem_nil⟩⟩) ck_359
def cx_360p : zS := ((cx_359pi_0 (cx_359pi_1 [])), [ur444, ur442, ur434], [uL1252, uL1253], [], [uV2, uV64], [uF1190, uF1259, uF542, uF1231, uF190, uF191, uF1260], [uG1254, uG470])
/-- HairRope.hold -/
def cx_360 : zCtx := (182, cx_360p, [([ui0, (0, 7), (0, 1), (0, 1), (0, 1), (0, 6), (0, 6), ui51, ui51, ui51], [ur444, ur442, ur434], [], [], [uV66], [uF1261], [uG1255, uG1256, uG1257])], kc_68, 89, 3, 108)
set_option maxRecDepth 1000000 in
theorem ck_360 : x_ok mLT1 [cx_355, cx_359] mTS2 mTC2 mRUp cx_360 [(1, [0]), (16, [1])] [] [] (13, []) 76 16 = true := by decide +kernel
theorem sn_360 {W : Bool} {X : List Int32} : y_Snd (mGw W) mLT1 (J2 W X) X cx_360 := y_ok J2_J mTS2_ok1 mTC2_ok1 mRUp_ok1 (List.forall_mem_cons.mpr ⟨sn_355, List.forall_mem_cons.mpr ⟨sn_359, fun _ h => absurd h List.not_mem_nil⟩⟩) ck_360
/-- History.slotAt -/
def cx_361 : zCtx := (44, ([ui0], [ur442], [], [], [uV2, uV66], [], []), [([ui0], [ur442, ur1262], [], [], [uV422], [], [])], [], 11, 0, 0)
set_option maxRecDepth 1000000 in
theorem ck_361 : x_ok mLT1 [] mTS2 mTC2 mRUp cx_361 [] [] [] (11, []) 0 14 = true := by decide +kernel
theorem sn_361 {W : Bool} {X : List Int32} : y_Snd (mGw W) mLT1 (J2 W X) X cx_361 := y_ok J2_J mTS2_ok1 mTC2_ok1 mRUp_ok1 (fun _ h => absurd h List.not_mem_nil) ck_361
def cx_362p : zS := ((cx_149pi_0 (cx_149pi_1 (cx_149pi_2 (cx_149pi_3 (cx_149pi_4 []))))), [ur1262, ur434, ur435, ur430, ur549, ur550, ur551], [], [], [uV2, uV422], (cx_149pf_0 (cx_149pf_1 (cx_149pf_2 (cx_149pf_3 (cx_149pf_4 (cx_149pf_5 [])))))), [])
def cx_362q0 : zS := ((cx_149pi_0 (cx_149pi_1 (cx_149pi_2 (cx_149pi_3 (cx_149pi_4 []))))), [ur1262, ur434, ur435, ur430, ur549, ur550, ur551], [], [], [], [uF128, uF130, uF131, uF712], [uG1263])
/-- State.copyFrom -/
def cx_362 : zCtx := (102, cx_362p, [cx_362q0], kc_69, 57, 1, 64)
set_option maxRecDepth 1000000 in
theorem ck_362 : x_ok mLT1 [] mTS2 mTC2 mRUp cx_362 [] [(107, [1001166])] [] (57, []) 0 60 = true := by decide +kernel
theorem sn_362 {W : Bool} {X : List Int32} : y_Snd (mGw W) mLT1 (J2 W X) X cx_362 := y_ok J2_J mTS2_ok1 mTC2_ok1 mRUp_ok1 (fun _ h => absurd h List.not_mem_nil) ck_362
def cx_363p : zS := ((cx_359pi_0 (cx_359pi_1 [])), [ur442, ur434], [uL1252, uL1253], [], [uV2, uV66, uV422], [uF32, uF582, uF583, uF584, uF585], [uG1254, uG470])
/-- History.fillSlot -/
def cx_363 : zCtx := (43, cx_363p, [([ui0, (0, 7), (0, 1), (0, 1), (0, 1), (0, 6), (0, 6), ui51, ui51, ui51], [ur442, ur434], [], [], [uV66], [uF309], [uG1264, uG1265, uG1266])], kc_70, 76, 2, 85)
set_option maxRecDepth 1000000 in
theorem ck_363 : x_ok mLT1 [cx_361, cx_362] mTS2 mTC2 mRUp cx_363 [(2, [0]), (14, [1])] [(14, uN1258), (17, [1000691]), (25, [1000667])] [] (19, []) 57 22 = true := by decide +kernel
theorem sn_363 {W : Bool} {X : List Int32} : y_Snd (mGw W) mLT1 (J2 W X) X cx_363 := y_ok J2_J mTS2_ok1 mTC2_ok1 mRUp_ok1 (List.forall_mem_cons.mpr ⟨sn_361, List.forall_mem_cons.mpr ⟨sn_362, fun _ h => absurd h List.not_mem_nil⟩⟩) ck_363
def cx_364p : zS := ((cx_359pi_0 (cx_359pi_1 [])), [ur444, ur442, ur434], [uL1252, uL1253], [], [uV2, uV66], [uF1190, uF1259, uF542, uF1231, uF190, uF191, uF1260], [uG1254, uG470])
/-- HairRope.hold -/
def cx_364 : zCtx := (182, cx_364p, [([ui0, (0, 7), (0, 1), (0, 1), (0, 1), (0, 6), (0, 6), ui51, ui51, ui51], [ur444, ur442, ur434], [], [], [uV66], [uF1261], [uG1264, uG1265, uG1266])], kc_70, 89, 3, 108)
set_option maxRecDepth 1000000 in
theorem ck_364 : x_ok mLT1 [cx_355, cx_363] mTS2 mTC2 mRUp cx_364 [(1, [0]), (16, [1])] [] [] (13, []) 76 16 = true := by decide +kernel
theorem sn_364 {W : Bool} {X : List Int32} : y_Snd (mGw W) mLT1 (J2 W X) X cx_364 := y_ok J2_J mTS2_ok1 mTC2_ok1 mRUp_ok1 (List.forall_mem_cons.mpr ⟨sn_355, List.forall_mem_cons.mpr ⟨sn_363, fun _ h => absurd h List.not_mem_nil⟩⟩) ck_364
/-- History.slotAt -/
def cx_365 : zCtx := (44, ([ui0], [ur442], [], [], [uV2, uV391], [], []), [([ui0], [ur442, ur1267], [], [], [uV422], [], [])], [], 11, 0, 0)
set_option maxRecDepth 1000000 in
theorem ck_365 : x_ok mLT1 [] mTS2 mTC2 mRUp cx_365 [] [] [] (11, []) 0 14 = true := by decide +kernel
theorem sn_365 {W : Bool} {X : List Int32} : y_Snd (mGw W) mLT1 (J2 W X) X cx_365 := y_ok J2_J mTS2_ok1 mTC2_ok1 mRUp_ok1 (fun _ h => absurd h List.not_mem_nil) ck_365
def cx_366p : zS := ((cx_149pi_0 (cx_149pi_1 (cx_149pi_2 (cx_149pi_3 (cx_149pi_4 []))))), [ur1267, ur434, ur435, ur430, ur549, ur550, ur551], [], [], [uV2, uV422], (cx_149pf_0 (cx_149pf_1 (cx_149pf_2 (cx_149pf_3 (cx_149pf_4 (cx_149pf_5 [])))))), [])
def cx_366q0 : zS := ((cx_149pi_0 (cx_149pi_1 (cx_149pi_2 (cx_149pi_3 (cx_149pi_4 []))))), [ur1267, ur434, ur435, ur430, ur549, ur550, ur551], [], [], [], [uF128, uF130, uF131, uF712], [uG1268])
/-- State.copyFrom -/
def cx_366 : zCtx := (102, cx_366p, [cx_366q0], kc_71, 57, 1, 64)
set_option maxRecDepth 1000000 in
theorem ck_366 : x_ok mLT1 [] mTS2 mTC2 mRUp cx_366 [] [(107, [1001165])] [] (57, []) 0 60 = true := by decide +kernel
theorem sn_366 {W : Bool} {X : List Int32} : y_Snd (mGw W) mLT1 (J2 W X) X cx_366 := y_ok J2_J mTS2_ok1 mTC2_ok1 mRUp_ok1 (fun _ h => absurd h List.not_mem_nil) ck_366
end
