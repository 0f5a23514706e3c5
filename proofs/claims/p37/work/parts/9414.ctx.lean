noncomputable section
/-! ===== readings, by program, checked by the kernel ===== -/
/-- HairRope.undo -/
def cx_247 : zCtx := (155, ([ui0, (0, 6), ui440, ui441, (0, 6), ui51, ui51], [ur444, ur434, ur442], [], [], [uV2], [uF598, uF45, uF1050, (2, (false, 2, 0, []), 0, 0, 0, [(2, 1)]), uF1051, uF520, uF521, uF522], [(242, [uL9, uL69, uL23, uL65]), uG1052]), [([ui0, (0, 6), ui440, ui441, (0, 6), ui51, ui51, (0, 6), ui51, ui51], [ur444, ur434, ur442], [uL795], [], [uV66], [(2, (false, 3, 0, []), 0, 0, (-1), [(3, 1)]), uF1050, uF1047, uF423, uF424], [(245, [uL9, uL81, uL133, uL166, uL795]), (242, [uL9, uL69, uL795, uL65])]), ([ui0, (0, 6), ui440, ui441, (0, 6), ui51, ui51], [ur444, ur434, ur442], [uL794], [], [uV64], [uF1051, uF1050, uF520, uF521, uF522], [uG1052])], kc_54, 88, 3, 107)
set_option maxRecDepth 1000000 in
theorem ck_247 : x_ok mLT1 [cx_246] mTS2 mTC2 mRUp cx_247 [(8, [0])] [] [] (6, []) 82 9 = true := by decide +kernel
theorem sn_247 {W : Bool} {X : List Int32} : y_Snd (mGw W) mLT1 (J2 W X) X cx_247 := y_ok J2_J mTS2_ok1 mTC2_ok1 mRUp_ok1 (List.forall_mem_cons.mpr ⟨sn_246, fun _ h => absurd h List.not_mem_nil⟩) ck_247
/-- Rules.greatestHaul -/
def cx_248 : zCtx := (98, ([ui0, ui803, ui51, ui51, ui51, ui51, ui51, ui51, ui51], [ur445, ur802], [uL9, uL1053], [], [uV2], [uF186, uF21], [uG1054]), [([ui0, ui803, ui51, ui51, ui51, ui51, ui51, ui51, ui51], [ur445, ur802], [], [], [uV569], [], [uG1054, (238, [uL643, uL69, uL23, uL100, uL106, uL80, uL81, uL133, uL65, uL65, uL804])]), ([ui0, ui803, ui51, ui51, ui51, ui51, ui51, ui51, ui51, ui586], [ur445, ur802], [], [], [uV779], [], [uG1054, (238, [uL643, uL69, uL23, uL100, uL106, uL80, uL81, uL133, uL65, uL65, uL166])])], [], 388, 1, 64)
def cz_248_0i_0 (t : List (Int × Int)) : List (Int × Int) := ui0 :: ui803 :: ui51 :: ui51 :: ui51 :: ui51 :: ui51 :: ui51 :: t
def cz_248_0i_1 (t : List (Int × Int)) : List (Int × Int) := ui51 :: ((-2147483648), 999) :: ui427 :: t
def cz_248_0 : zS := ((cz_248_0i_0 (cz_248_0i_1 [])), [ur445, ur802], [uL9, uL1053, (0, [(1, 1), (10, (-1))]), (999, [(9, (-1))])], [uV2, uV779, uV826], [], [uF186, uF21], [uG1054, (238, [uL646, uL69, uL23, uL100, uL106, uL80, uL81, uL133, (999, []), uL267, uL166])])
set_option maxRecDepth 1000000 in
theorem ck_248 : x_ok mLT1 [] mTS2 mTC2 mRUp cx_248 [] [(0, [1000999]), (27, [1000012]), (30, [1001000, 1001001]), (41, [1001002]), (46, [1001003])] [(6, cz_248_0, (383, [(10, (-17))]))] (388, []) 0 19 = true := by decide +kernel
theorem sn_248 {W : Bool} {X : List Int32} : y_Snd (mGw W) mLT1 (J2 W X) X cx_248 := y_ok J2_J mTS2_ok1 mTC2_ok1 mRUp_ok1 (fun _ h => absurd h List.not_mem_nil) ck_248
def cx_249pr_0 (t : List (Nat × Bool)) : List (Nat × Bool) := ur444 :: ur445 :: ur446 :: ur533 :: ur434 :: ur574 :: ur548 :: ur435 :: t
def cx_249pr_1 (t : List (Nat × Bool)) : List (Nat × Bool) := ur430 :: ur549 :: ur550 :: ur551 :: ur525 :: ur802 :: t
def cx_249pf_0 (t : List zFa) : List zFa := uF13 :: uF511 :: uF543 :: uF785 :: uF307 :: uF553 :: uF786 :: uF787 :: t
def cx_249pf_1 (t : List zFa) : List zFa := uF788 :: uF789 :: uF589 :: uF413 :: uF590 :: uF591 :: uF592 :: uF593 :: t
def cx_249pf_2 (t : List zFa) : List zFa := uF594 :: uF462 :: uF1055 :: t
def cx_249p : zS := ([ui0, ui31, (0, 6), (0, 6), ui51, ui51], (cx_249pr_0 (cx_249pr_1 [])), [], [], [uV2], (cx_249pf_0 (cx_249pf_1 (cx_249pf_2 []))), [uG792])
def cx_249q0 : zS := ([ui0, ui31, (0, 6), (0, 6), ui51, ui51, ui586], (cx_249pr_0 (cx_249pr_1 [])), [], [], [uV110], [uF786, uF787, uF788, uF789], [uG792, (260, [uL643, uL9, uL65, uL65, uL65, uL65, uL65, uL65, uL65, uL65, uL80])])
def cx_249q1 : zS := ([ui0, ui31, (0, 6), (0, 6), ui51, ui51], (cx_249pr_0 (cx_249pr_1 [])), [], [], [uV569], [uF786, uF787, uF788, uF789], [uG792, (260, [uL643, uL9, uL65, uL65, uL65, uL65, uL65, uL65, uL65, uL65, uL804])])
/-- HairRope.most -/
def cx_249 : zCtx := (156, cx_249p, [cx_249q0, cx_249q1], [uk805, uk541, uk806, uk531], 53285, 5, 158)
set_option maxRecDepth 1000000 in
theorem ck_249 : x_ok mLT1 [cx_197, cx_248] mTS2 mTC2 mRUp cx_249 [(8, [0]), (15, [1])] [(4, [1000733]), (18, [1000728])] [] (9, []) 53276 12 = true := by decide +kernel
theorem sn_249 {W : Bool} {X : List Int32} : y_Snd (mGw W) mLT1 (J2 W X) X cx_249 := y_ok J2_J mTS2_ok1 mTC2_ok1 mRUp_ok1 (List.forall_mem_cons.mpr ⟨sn_197, List.forall_mem_cons.mpr ⟨sn_248, fun _ h => absurd h List.not_mem_nil⟩⟩) ck_249
def cx_250pf_0 (t : List zFa) : List zFa := uF13 :: uF511 :: uF543 :: uF544 :: uF154 :: uF553 :: uF600 :: uF601 :: t
def cx_250pf_1 (t : List zFa) : List zFa := uF602 :: uF603 :: uF589 :: uF413 :: uF590 :: uF591 :: uF592 :: uF593 :: t
def cx_250pf_2 (t : List zFa) : List zFa := uF594 :: uF462 :: uF1055 :: t
def cx_250p : zS := ([ui0, ui51, ui31, (0, 6), (0, 6), ui51, ui51], (cx_249pr_0 (cx_249pr_1 [])), [], [], [uV2, uV11], (cx_250pf_0 (cx_250pf_1 (cx_250pf_2 []))), [uG604])
def cx_250q1 : zS := ([ui0, (0, 1), ui31, (0, 6), (0, 6), ui51, ui51, ui586], (cx_249pr_0 (cx_249pr_1 [])), [], [], [uV569], [uF600, uF601, uF602, uF603], [uG604, (260, [uL643, uL69, uL65, uL65, uL65, uL65, uL65, uL65, uL65, uL65, uL81]), (260, [uL214, uL69, uL65, uL65, uL65, uL65, uL65, uL65, uL1056, uL65, uL101])])
def cx_250q2i_0 (t : List (Int × Int)) : List (Int × Int) := ui0 :: (0, 0) :: ui31 :: (0, 6) :: (0, 6) :: ui51 :: ui51 :: ui51 :: t
def cx_250q2i_1 (t : List (Int × Int)) : List (Int × Int) := ui586 :: ui819 :: t
def cx_250q2g_0 (t : List zTg) : List zTg := uG604 :: uG1057 :: uG1058 :: (107, [uL166, uL116, uL81]) :: t
def cx_250q2 : zS := ((cx_250q2i_0 (cx_250q2i_1 [])), (cx_249pr_0 (cx_249pr_1 [])), [], [], [uV144], [uF600, uF601, uF602, uF603], (cx_250q2g_0 []))
def cx_250q3i_0 (t : List (Int × Int)) : List (Int × Int) := ui0 :: (1, 1) :: ui31 :: (0, 6) :: (0, 6) :: ui51 :: ui51 :: ui51 :: t
def cx_250q3i_1 (t : List (Int × Int)) : List (Int × Int) := ui586 :: ui819 :: t
def cx_250q3g_0 (t : List zTg) : List zTg := uG604 :: uG1057 :: uG1058 :: (108, [uL1059, uL116, uL81]) :: t
def cx_250q3 : zS := ((cx_250q3i_0 (cx_250q3i_1 [])), (cx_249pr_0 (cx_249pr_1 [])), [], [], [uV144], [uF600, uF601, uF602, uF603], (cx_250q3g_0 []))
def cx_250q4 : zS := ([ui0, (0, 1), ui31, (0, 6), (0, 6), ui51, ui51], (cx_249pr_0 (cx_249pr_1 [])), [], [], [uV569], [uF600, uF601, uF602, uF603], [uG604, uG1060, (260, [uL214, uL69, uL65, uL65, uL65, uL65, uL65, uL65, uL65, uL65, uL101])])
def cx_250q5i_0 (t : List (Int × Int)) : List (Int × Int) := ui0 :: (0, 0) :: ui31 :: (0, 6) :: (0, 6) :: ui51 :: ui51 :: ui51 :: t
def cx_250q5i_1 (t : List (Int × Int)) : List (Int × Int) := ui819 :: t
def cx_250q5g_0 (t : List zTg) : List zTg := uG604 :: uG1060 :: uG1061 :: (107, [uL133, uL116, uL81]) :: t
def cx_250q5 : zS := ((cx_250q5i_0 (cx_250q5i_1 [])), (cx_249pr_0 (cx_249pr_1 [])), [], [], [uV144], [uF600, uF601, uF602, uF603], (cx_250q5g_0 []))
def cx_250q6i_0 (t : List (Int × Int)) : List (Int × Int) := ui0 :: (1, 1) :: ui31 :: (0, 6) :: (0, 6) :: ui51 :: ui51 :: ui51 :: t
def cx_250q6i_1 (t : List (Int × Int)) : List (Int × Int) := ui819 :: t
def cx_250q6g_0 (t : List zTg) : List zTg := uG604 :: uG1060 :: uG1061 :: (108, [uL1062, uL116, uL81]) :: t
def cx_250q6 : zS := ((cx_250q6i_0 (cx_250q6i_1 [])), (cx_249pr_0 (cx_249pr_1 [])), [], [], [uV144], [uF600, uF601, uF602, uF603], (cx_250q6g_0 []))
/-- HairRope.weakest -/
def cx_250 : zCtx := (157, cx_250p, [([ui0, ui1063, ui31, (0, 6), (0, 6), ui51, ui51], [ur444, ur445, ur446, ur533, ur434, ur574, ur548, ur435, ur430, ur549, ur550, ur551, ur525, ur802], [], [], [uV63], [uF600, uF601, uF602, uF603], [uG604]), cx_250q1, cx_250q2, cx_250q3, cx_250q4, cx_250q5, cx_250q6, ([ui0, ui265, ui31, (0, 6), (0, 6), ui51, ui51], [ur444, ur445, ur446, ur533, ur434, ur574, ur548, ur435, ur430, ur549, ur550, ur551, ur525, ur802], [], [], [uV63], [uF600, uF601, uF602, uF603], [uG604])], [uk805, uk541, uk806, uk531], 53307, 5, 158)
set_option maxRecDepth 1000000 in
theorem ck_250 : x_ok mLT1 [cx_197, cx_248, cx_198, cx_199] mTS2 mTC2 mRUp cx_250 [(19, [0]), (26, [1]), (45, [2]), (61, [3])] [(15, [1000733]), (29, [1000728]), (48, [1000767, 1000768]), (69, [1000679])] [] (31, []) 53276 34 = true := by decide +kernel
theorem sn_250 {W : Bool} {X : List Int32} : y_Snd (mGw W) mLT1 (J2 W X) X cx_250 := y_ok J2_J mTS2_ok1 mTC2_ok1 mRUp_ok1 (List.forall_mem_cons.mpr ⟨sn_197, List.forall_mem_cons.mpr ⟨sn_248, List.forall_mem_cons.mpr ⟨sn_198, List.forall_mem_cons.mpr ⟨sn_199, fun _ h => absurd h List.not_mem_nil⟩⟩⟩⟩) ck_250
def cx_251pr_0 (t : List (Nat × Bool)) : List (Nat × Bool) := ur444 :: ur445 :: ur446 :: ur533 :: ur434 :: ur435 :: ur430 :: ur549 :: t
def cx_251pr_1 (t : List (Nat × Bool)) : List (Nat × Bool) := ur550 :: ur551 :: t
def cx_251pf_0 (t : List zFa) : List zFa := uF13 :: uF511 :: uF543 :: uF544 :: uF154 :: uF553 :: uF600 :: uF601 :: t
def cx_251pf_1 (t : List zFa) : List zFa := uF602 :: uF603 :: uF456 :: uF457 :: uF458 :: uF459 :: (4, (false, 4, 0, []), 2, 9, 0, []) :: t
def cx_251p : zS := ([ui0, ui51, ui31, (0, 6), (0, 6), ui51, ui51], (cx_251pr_0 (cx_251pr_1 [])), [], [], [uV2, uV11], (cx_251pf_0 (cx_251pf_1 [])), [uG604])
def cx_251q2 : zS := ([ui0, ui51, ui31, (0, 6), (0, 6), ui51, ui51, ui586], (cx_251pr_0 (cx_251pr_1 [])), [uL9, uL565], [], [uV144], [uF600, uF601, uF602, uF603], [uG604, (260, [uL67, uL65, uL65, uL65, uL65, uL65, uL65, uL65, uL111, uL100, uL81])])
/-- HairRope.below -/
def cx_251 : zCtx := (158, cx_251p, [([ui0, ui51, ui31, (0, 6), (0, 6), ui51, ui51], [ur444, ur445, ur446, ur533, ur434, ur435, ur430, ur549, ur550, ur551], [uL570], [], [uV63], [uF600, uF601, uF602, uF603], [uG604]), ([ui0, ui51, ui31, (0, 6), (0, 6), ui51, ui51], [ur444, ur445, ur446, ur533, ur434, ur435, ur430, ur549, ur550, ur551], [uL571], [], [uV63], [uF600, uF601, uF602, uF603], [uG604]), cx_251q2], [], 127, 2, 87)
set_option maxRecDepth 1000000 in
theorem ck_251 : x_ok mLT1 [cx_146, cx_191] mTS2 mTC2 mRUp cx_251 [(2, [0]), (13, [1])] [(16, [1000728, 1000728])] [] (10, []) 117 13 = true := by decide +kernel
theorem sn_251 {W : Bool} {X : List Int32} : y_Snd (mGw W) mLT1 (J2 W X) X cx_251 := y_ok J2_J mTS2_ok1 mTC2_ok1 mRUp_ok1 (List.forall_mem_cons.mpr ⟨sn_146, List.forall_mem_cons.mpr ⟨sn_191, fun _ h => absurd h List.not_mem_nil⟩⟩) ck_251
/-- State.placeOf -/
def cx_252 : zCtx := (101, ([ui0, ui51, (0, 6)], [ur434], [], [], [uV2, uV11], [uF39], []), [([ui0, ui51, (1, 6), (0, 5)], [ur434], [uL810], [], [uV60], [], []), ([ui0, ui51, (0, 6)], [ur434], [], [], [uV63], [], [])], [], 105, 0, 0)
set_option maxRecDepth 1000000 in
theorem ck_252 : x_ok mLT1 [] mTS2 mTC2 mRUp cx_252 [] [] [(2, ([(0, 3072), ((-2147483648), 2147483647), (0, 6), (0, 6)], [(6, false)], [], [(2, 0, 0, []), (0, 0, 0, [(1, 1)]), (0, 0, 0, [(3, 1)])], [], [(0, (false, 6, 0, []), 0, 0, 0, [(2, 1)])], []), (102, [(3, (-16))]))] (105, []) 0 18 = true := by decide +kernel
theorem sn_252 {W : Bool} {X : List Int32} : y_Snd (mGw W) mLT1 (J2 W X) X cx_252 := y_ok J2_J mTS2_ok1 mTC2_ok1 mRUp_ok1 (fun _ h => absurd h List.not_mem_nil) ck_252
/-- Rules.strongOf -/
def cx_253 : zCtx := (89, ([ui0, ui51, ui248], [ur445, ur434], [], [], [uV2, uV422, uV11, uV12], [], []), [([ui0, ui51, ui248, ui51], [ur445, ur434], [], [], [uV60], [], [])], [], 14, 0, 0)
set_option maxRecDepth 1000000 in
theorem ck_253 : x_ok mLT1 [] mTS2 mTC2 mRUp cx_253 [] [] [] (14, []) 0 17 = true := by decide +kernel
theorem sn_253 {W : Bool} {X : List Int32} : y_Snd (mGw W) mLT1 (J2 W X) X cx_253 := y_ok J2_J mTS2_ok1 mTC2_ok1 mRUp_ok1 (fun _ h => absurd h List.not_mem_nil) ck_253
/-- Planner.addToSums -/
def cx_254 : zCtx := (69, ([ui0, ui1064, ui51], [ur1065], [], [], [uV2, uV11, uV12], [], []), [([ui0, ui1064, ui51], [ur1065], [], [], [], [], [])], [uk1066], 766, 0, 0)
set_option maxRecDepth 1000000 in
theorem ck_254 : x_ok mLT1 [] mTS2 mTC2 mRUp cx_254 [] [(9, [1000667]), (22, [1000788])] [(2, ([(0, 3072), (1, 32), ((-2147483648), 2147483647), (0, 33)], [(9, false)], [], [(2, 0, 0, []), (0, 0, 0, [(1, 1)]), (0, 0, 0, [(2, 1)]), (0, 0, 0, [(3, 1)])], [], [], []), (763, [(3, (-23))]))] (766, []) 0 25 = true := by decide +kernel
theorem sn_254 {W : Bool} {X : List Int32} : y_Snd (mGw W) mLT1 (J2 W X) X cx_254 := y_ok J2_J mTS2_ok1 mTC2_ok1 mRUp_ok1 (fun _ h => absurd h List.not_mem_nil) ck_254
/-- Planner.lookAtHouses -/
def cx_255 : zCtx := (68, ([ui0, ui845], [ur1065, ur434], [], [], [uV2, uV422], [uF1067], []), [([ui0, ui845, ui845], [ur1065, ur434], [], [], [], [uF1068], [])], [uk1069, uk1070, uk1066], 1085, 1, 23)
set_option maxRecDepth 1000000 in
theorem ck_255 : x_ok mLT1 [cx_252, cx_253, cx_254] mTS2 mTC2 mRUp cx_255 [(29, [0]), (66, [1]), (97, [2])] [] [(7, ([(0, 3072), (0, 63), (0, 6), (0, 63)], [(9, false), (6, false)], [], [(2, 0, 0, []), (2, 1, 0, []), (0, 0, 0, [(2, 1)]), (5, 0, 0, []), (5, 0, 0, [])], [], [(0, (false, 10, 0, []), 0, 0, 0, [(3, 1)])], []), (313, [(2, (-51))]))] (319, []) 766 53 = true := by decide +kernel
theorem sn_255 {W : Bool} {X : List Int32} : y_Snd (mGw W) mLT1 (J2 W X) X cx_255 := y_ok J2_J mTS2_ok1 mTC2_ok1 mRUp_ok1 (List.forall_mem_cons.mpr ⟨sn_252, List.forall_mem_cons.mpr ⟨sn_253, List.forall_mem_cons.mpr ⟨sn_254, fun _ h => absurd h List.not_mem_nil⟩⟩⟩) ck_255
/-- Planner.isAble -/
def cx_256 : zCtx := (71, ([ui0, (0, 5), ui845], [ur1065], [], [], [uV2, uV11], [uF1068], []), [([ui0, (0, 5), ui845], [ur1065], [], [], [uV66], [], []), ([ui0, (0, 5), ui845], [ur1065], [], [], [uV64], [], [])], [], 10, 0, 0)
set_option maxRecDepth 1000000 in
theorem ck_256 : x_ok mLT1 [] mTS2 mTC2 mRUp cx_256 [] [] [] (10, []) 0 13 = true := by decide +kernel
theorem sn_256 {W : Bool} {X : List Int32} : y_Snd (mGw W) mLT1 (J2 W X) X cx_256 := y_ok J2_J mTS2_ok1 mTC2_ok1 mRUp_ok1 (fun _ h => absurd h List.not_mem_nil) ck_256
/-- Rules.lookAt -/
def cx_257 : zCtx := (88, ([ui0, ui51, ui248], [ur445, ur434, ur525], [], [], [uV2, uV422, uV11, uV12], [uF22], []), [([ui0, ui51, ui248], [ur445, ur434, ur525], [], [], [], [], [])], [uk531], 79, 1, 64)
set_option maxRecDepth 1000000 in
theorem ck_257 : x_ok mLT1 [cx_253] mTS2 mTC2 mRUp cx_257 [(32, [0])] [] [] (65, []) 14 68 = true := by decide +kernel
theorem sn_257 {W : Bool} {X : List Int32} : y_Snd (mGw W) mLT1 (J2 W X) X cx_257 := y_ok J2_J mTS2_ok1 mTC2_ok1 mRUp_ok1 (List.forall_mem_cons.mpr ⟨sn_253, fun _ h => absurd h List.not_mem_nil⟩) ck_257
/-- Rules.joinOf -/
def cx_258 : zCtx := (90, ([ui0, ui51, ui51, ui51], [ur445, ur434], [], [], [uV2, uV422, uV11, uV12, uV60], [], []), [([ui0, ui51, ui51, ui51, ui586], [ur445, ur434], [], [], [uV99], [], [])], [uk541, uk531], 52984, 2, 87)
set_option maxRecDepth 1000000 in
theorem ck_258 : x_ok mLT1 [cx_252, cx_257, cx_253, cx_136] mTS2 mTC2 mRUp cx_258 [(5, [0]), (8, [1]), (30, [0]), (33, [2]), (53, [3])] [] [] (35, []) 52949 38 = true := by decide +kernel
theorem sn_258 {W : Bool} {X : List Int32} : y_Snd (mGw W) mLT1 (J2 W X) X cx_258 := y_ok J2_J mTS2_ok1 mTC2_ok1 mRUp_ok1 (List.forall_mem_cons.mpr ⟨sn_252, List.forall_mem_cons.mpr ⟨sn_257, List.forall_mem_cons.mpr ⟨sn_253, List.forall_mem_cons.mpr ⟨sn_136, fun _ h => absurd h List.not_mem_nil⟩⟩⟩⟩) ck_258
/-- Planner.findJoins -/
def cx_259 : zCtx := (70, ([ui0, (0, 0), ui845], [ur1065, ur434, ur1071], [], [], [uV2, uV422, uV758, uV11], [uF1068], []), [([ui0, (0, 0), ui845], [ur1065, ur434, ur1071], [], [], [], [], [])], [uk541, uk531, uk1072], 54866, 3, 111)
set_option maxRecDepth 1000000 in
theorem ck_259 : x_ok mLT1 [cx_256, cx_142, cx_258] mTS2 mTC2 mRUp cx_259 [(56, [0]), (65, [0]), (98, [1]), (117, [2])] [] [(3, ([(0, 3072), (0, 0), (0, 63), (0, 6)], [(9, false), (6, false), (35, false)], [], [(2, 0, 0, []), (2, 1, 0, []), (2, 2, 0, []), (0, 0, 0, [(1, 1)]), (0, 0, 0, [(3, 1)]), (5, 0, 0, []), (5, 0, 0, []), (5, 0, 0, [])], [], [(0, (false, 10, 0, []), 0, 0, 0, [(2, 1)])], []), (1879, [(1, (-100000000000)), (3, (-312))])), (21, ([(0, 3072), (0, 0), (0, 63), (0, 5), (0, 6), (1, 6)], [(9, false), (6, false), (35, false), (5, false), (2, false)], [], [(2, 0, 0, []), (2, 1, 0, []), (2, 2, 0, []), (0, 0, 0, [(1, 1)]), (0, 0, 0, [(3, 1)]), (0, 0, 0, [(4, 1)]), (5, 0, 0, []), (5, 0, 0, [])], [], [(0, (false, 0, 0, []), 2, 3, 0, []), (0, (false, 10, 0, []), 0, 0, 0, [(2, 1)]), (3, (false, 3, 0, []), 2, 4, 0, []), (4, (false, 5, 0, []), 0, 0, 0, [(5, 1)])], []), (1870, [(1, (-100000000000)), (3, (-312)), (4, (-49))]))] (1882, []) 52984 51 = true := by decide +kernel
theorem sn_259 {W : Bool} {X : List Int32} : y_Snd (mGw W) mLT1 (J2 W X) X cx_259 := y_ok J2_J mTS2_ok1 mTC2_ok1 mRUp_ok1 (List.forall_mem_cons.mpr ⟨sn_256, List.forall_mem_cons.mpr ⟨sn_142, List.forall_mem_cons.mpr ⟨sn_258, fun _ h => absurd h List.not_mem_nil⟩⟩⟩) ck_259
/-- Planner.lookAt -/
def cx_260 : zCtx := (67, ([ui0, ui845], [ur1065, ur434], [], [], [uV2, uV422], [uF1067], []), [([ui0, ui845, ui845], [ur1065, ur434], [], [], [], [uF1068], [])], [uk1069, uk541, uk531, uk1070, uk1072, uk1066], 54876, 4, 138)
set_option maxRecDepth 1000000 in
theorem ck_260 : x_ok mLT1 [cx_255, cx_259] mTS2 mTC2 mRUp cx_260 [(2, [0]), (12, [1])] [] [] (10, []) 54866 13 = true := by decide +kernel
theorem sn_260 {W : Bool} {X : List Int32} : y_Snd (mGw W) mLT1 (J2 W X) X cx_260 := y_ok J2_J mTS2_ok1 mTC2_ok1 mRUp_ok1 (List.forall_mem_cons.mpr ⟨sn_255, List.forall_mem_cons.mpr ⟨sn_259, fun _ h => absurd h List.not_mem_nil⟩⟩) ck_260
/-- Integer.bitCount -/
def cx_261 : zCtx := (1, ([ui0, ui51], [], [], [], [uV11], [], []), [([ui0, ui51, ui845], [], [], [], [uV12], [], [])], [], 42, 0, 0)
set_option maxRecDepth 1000000 in
theorem ck_261 : x_ok mLT1 [] mTS2 mTC2 mRUp cx_261 [] [] [] (42, []) 0 45 = true := by decide +kernel
theorem sn_261 {W : Bool} {X : List Int32} : y_Snd (mGw W) mLT1 (J2 W X) X cx_261 := y_ok J2_J mTS2_ok1 mTC2_ok1 mRUp_ok1 (fun _ h => absurd h List.not_mem_nil) ck_261
/-- Planner.powerOfSix -/
def cx_262 : zCtx := (75, ([ui0, ui845], [], [], [], [uV11], [], []), [([ui0, ui1073, ui51], [], [], [], [uV12], [], []), ([ui0, (0, 6), ui51], [], [], [], [uV12], [], [])], [], 91, 0, 0)
set_option maxRecDepth 1000000 in
theorem ck_262 : x_ok mLT1 [] mTS2 mTC2 mRUp cx_262 [] [] [(4, ([(0, 3072), (0, 63), ((-2147483648), 2147483647), (0, 6)], [], [], [(0, 0, 0, [(1, 1)]), (0, 0, 0, [(2, 1)]), (0, 0, 0, [(3, 1)])], [], [], []), (86, [(3, (-13))]))] (91, []) 0 15 = true := by decide +kernel
theorem sn_262 {W : Bool} {X : List Int32} : y_Snd (mGw W) mLT1 (J2 W X) X cx_262 := y_ok J2_J mTS2_ok1 mTC2_ok1 mRUp_ok1 (fun _ h => absurd h List.not_mem_nil) ck_262
/-- Planner.putUpon -/
def cx_263 : zCtx := (76, ([ui0, ui1074, ui1075, ui51, ui51], [ur1065], [], [], [uV2, uV11, uV12, uV60, uV99], [], []), [([ui0, ui1074, ui1075, ui51, ui51], [ur1065], [], [], [], [], [])], [uk1076, uk1077, uk1078], 65, 1, 64)
set_option maxRecDepth 1000000 in
theorem ck_263 : x_ok mLT1 [] mTS2 mTC2 mRUp cx_263 [] [] [] (65, []) 0 68 = true := by decide +kernel
theorem sn_263 {W : Bool} {X : List Int32} : y_Snd (mGw W) mLT1 (J2 W X) X cx_263 := y_ok J2_J mTS2_ok1 mTC2_ok1 mRUp_ok1 (fun _ h => absurd h List.not_mem_nil) ck_263
/-- Planner.build -/
def cx_264 : zCtx := (74, ([ui0, ui1073, (0, 5)], [ur1065], [], [], [uV2, uV11, uV12], [], []), [([ui0, ui1073, (0, 5)], [ur1065], [(383, [(1, (-6)), (2, (-1))]), uL575], [], [], [], [])], [uk1076, uk1077, uk1078], 405, 2, 90)
set_option maxRecDepth 1000000 in
theorem ck_264 : x_ok mLT1 [cx_261, cx_262, cx_263] mTS2 mTC2 mRUp cx_264 [(100, [0]), (103, [1]), (174, [2])] [] [(112, ([(0, 3072), (1, 63), (0, 5), (0, 63), ((-2147483648), 2147483647), (0, 6)], [(9, false), (39, false), (38, false), (37, false)], [(383, [(1, (-6)), (2, (-1))]), (0, [(1, 6), (2, 1)])], [(2, 0, 0, []), (0, 0, 0, [(1, 1)]), (0, 0, 0, [(2, 1)]), (0, 0, 0, [(1, 6), (2, 1)]), (0, 0, 0, [(3, 1)]), (0, 0, 0, [(4, 1)]), (0, 0, 0, [(5, 1)]), (5, 0, 0, [])], [], [(0, (false, 6, 0, []), 2, 1, 0, []), (0, (false, 5, 0, []), 2, 2, 0, []), (0, (false, 4, 0, []), 2, 3, 0, [])], []), (250, [(5, (-41))]))] (314, []) 91 66 = true := by decide +kernel
theorem sn_264 {W : Bool} {X : List Int32} : y_Snd (mGw W) mLT1 (J2 W X) X cx_264 := y_ok J2_J mTS2_ok1 mTC2_ok1 mRUp_ok1 (List.forall_mem_cons.mpr ⟨sn_261, List.forall_mem_cons.mpr ⟨sn_262, List.forall_mem_cons.mpr ⟨sn_263, fun _ h => absurd h List.not_mem_nil⟩⟩⟩) ck_264
/-- Planner.reaches -/
def cx_265 : zCtx := (77, ([ui0, ui845], [ur1065], [], [], [uV2, uV11], [], []), [([ui0, ui845], [ur1065], [], [], [uV66], [], []), ([ui0, ui845], [ur1065], [], [], [uV64], [], [])], [], 17, 0, 0)
set_option maxRecDepth 1000000 in
theorem ck_265 : x_ok mLT1 [] mTS2 mTC2 mRUp cx_265 [] [] [] (17, []) 0 20 = true := by decide +kernel
theorem sn_265 {W : Bool} {X : List Int32} : y_Snd (mGw W) mLT1 (J2 W X) X cx_265 := y_ok J2_J mTS2_ok1 mTC2_ok1 mRUp_ok1 (fun _ h => absurd h List.not_mem_nil) ck_265
/-- Planner.note -/
def cx_266 : zCtx := (78, ([ui0, ui1073, ui1074], [ur1065], [], [], [uV2, uV11, uV12], [], []), [([ui0, ui1073, ui1074], [ur1065], [], [], [], [], [])], [(9, false, 8), (9, false, 11), (9, false, 12), (9, false, 13), (9, false, 14)], 105, 1, 64)
set_option maxRecDepth 1000000 in
theorem ck_266 : x_ok mLT1 [cx_261] mTS2 mTC2 mRUp cx_266 [(23, [0])] [] [] (63, []) 42 66 = true := by decide +kernel
theorem sn_266 {W : Bool} {X : List Int32} : y_Snd (mGw W) mLT1 (J2 W X) X cx_266 := y_ok J2_J mTS2_ok1 mTC2_ok1 mRUp_ok1 (List.forall_mem_cons.mpr ⟨sn_261, fun _ h => absurd h List.not_mem_nil⟩) ck_266
/-- Planner.surveySet -/
def cx_267 : zCtx := (73, ([ui0, ui1073], [ur1065], [], [], [uV2, uV11], [], []), [([ui0, ui1073], [ur1065], [], [], [], [], [])], kc_55, 580, 3, 117)
set_option maxRecDepth 1000000 in
theorem ck_267 : x_ok mLT1 [cx_264, cx_265, cx_266] mTS2 mTC2 mRUp cx_267 [(19, [0]), (24, [1]), (38, [2])] [] [(2, ([(0, 3072), (1, 63), (0, 6)], [(9, false)], [], [(2, 0, 0, []), (0, 0, 0, [(1, 1)]), (0, 0, 0, [(2, 1)])], [], [], []), (172, [(2, (-28))]))] (175, []) 405 30 = true := by decide +kernel
theorem sn_267 {W : Bool} {X : List Int32} : y_Snd (mGw W) mLT1 (J2 W X) X cx_267 := y_ok J2_J mTS2_ok1 mTC2_ok1 mRUp_ok1 (List.forall_mem_cons.mpr ⟨sn_264, List.forall_mem_cons.mpr ⟨sn_265, List.forall_mem_cons.mpr ⟨sn_266, fun _ h => absurd h List.not_mem_nil⟩⟩⟩) ck_267
/-- Planner.survey -/
def cx_268 : zCtx := (72, ([ui0, ui586, ui845], [ur1065], [], [], [uV2, uV11], [uF1068], []), [([ui0, ui586, ui845], [ur1065], [], [], [], [], [])], kc_56, 1614, 4, 139)
set_option maxRecDepth 1000000 in
theorem ck_268 : x_ok mLT1 [cx_267] mTS2 mTC2 mRUp cx_268 [(56, [0])] [] [(37, ([(0, 3072), (0, 999), (0, 63), (1, 64)], [(9, false)], [], [(2, 0, 0, []), (0, 0, 0, [(1, 1)]), (0, 0, 0, [(3, 1)])], [], [(0, (false, 10, 0, []), 0, 0, 0, [(2, 1)])], []), (1028, [(3, (-16))]))] (1034, []) 580 24 = true := by decide +kernel
theorem sn_268 {W : Bool} {X : List Int32} : y_Snd (mGw W) mLT1 (J2 W X) X cx_268 := y_ok J2_J mTS2_ok1 mTC2_ok1 mRUp_ok1 (List.forall_mem_cons.mpr ⟨sn_267, fun _ h => absurd h List.not_mem_nil⟩) ck_268
/-- HairRope.orders -/
def cx_269 : zCtx := (159, ([ui0, ui51], [ur444], [], [], [uV2, uV11], [], []), [([ui0, ui265], [ur444], [], [], [uV63], [], []), ([ui0, ui800], [ur444], [], [], [uV63], [], []), ([ui0, ui586, ui51], [ur444], [], [], [uV12], [], [])], kc_57, 54892, 5, 161)
set_option maxRecDepth 1000000 in
theorem ck_269 : x_ok mLT1 [cx_195, cx_260, cx_268] mTS2 mTC2 mRUp cx_269 [(1, [0]), (17, [1]), (25, [2])] [] [] (16, []) 54876 19 = true := by decide +kernel
theorem sn_269 {W : Bool} {X : List Int32} : y_Snd (mGw W) mLT1 (J2 W X) X cx_269 := y_ok J2_J mTS2_ok1 mTC2_ok1 mRUp_ok1 (List.forall_mem_cons.mpr ⟨sn_195, List.forall_mem_cons.mpr ⟨sn_260, List.forall_mem_cons.mpr ⟨sn_268, fun _ h => absurd h List.not_mem_nil⟩⟩⟩) ck_269
/-- HairRope.peak -/
def cx_270 : zCtx := (160, ([ui0], [ur444], [], [], [uV2], [], []), [([ui0, ui51], [ur444], [], [], [uV11], [], [])], kc_57, 54894, 5, 161)
set_option maxRecDepth 1000000 in
theorem ck_270 : x_ok mLT1 [cx_260, cx_268] mTS2 mTC2 mRUp cx_270 [(8, [0]), (16, [1])] [] [] (18, []) 54876 21 = true := by decide +kernel
theorem sn_270 {W : Bool} {X : List Int32} : y_Snd (mGw W) mLT1 (J2 W X) X cx_270 := y_ok J2_J mTS2_ok1 mTC2_ok1 mRUp_ok1 (List.forall_mem_cons.mpr ⟨sn_260, List.forall_mem_cons.mpr ⟨sn_268, fun _ h => absurd h List.not_mem_nil⟩⟩) ck_270
/-- Planner.fewestHouseAt -/
def cx_271 : zCtx := (79, ([ui0, ui51], [ur1065], [], [], [uV2, uV11], [], []), [([ui0, ui1079], [ur1065], [], [], [uV63], [], []), ([ui0, ui1079, ui1080], [ur1065], [], [], [uV12], [], []), ([ui0, ui512], [ur1065], [], [], [uV63], [], []), ([ui0, ui265], [ur1065], [], [], [uV63], [], [])], [], 119, 1, 22)
set_option maxRecDepth 1000000 in
theorem ck_271 : x_ok mLT1 [cx_262] mTS2 mTC2 mRUp cx_271 [(31, [0])] [] [] (28, []) 91 31 = true := by decide +kernel
theorem sn_271 {W : Bool} {X : List Int32} : y_Snd (mGw W) mLT1 (J2 W X) X cx_271 := y_ok J2_J mTS2_ok1 mTC2_ok1 mRUp_ok1 (List.forall_mem_cons.mpr ⟨sn_262, fun _ h => absurd h List.not_mem_nil⟩) ck_271
/-- HairRope.fewest -/
def cx_272 : zCtx := (161, ([ui0, ui51, ui51], [ur444], [], [], [uV2, uV11, uV12], [], []), [([ui0, ui265, ui51], [ur444], [], [], [uV63], [], []), ([ui0, ui800, ui51], [ur444], [], [], [uV63], [], []), ([ui0, ui586, ui51], [ur444], [], [], [uV569], [], []), ([ui0, ui586, ui126, ui51], [ur444], [], [], [uV60], [], []), ([ui0, ui586, ui1081], [ur444], [], [], [uV63], [], []), ([ui0, ui586, ui512], [ur444], [], [], [uV63], [], []), ([ui0, ui586, ui1079, ui1080], [ur444], [], [], [uV60], [], [])], kc_57, 54900, 5, 161)
set_option maxRecDepth 1000000 in
theorem ck_272 : x_ok mLT1 [cx_195, cx_260, cx_268, cx_271] mTS2 mTC2 mRUp cx_272 [(1, [0]), (17, [1]), (25, [2]), (61, [3])] [] [] (24, []) 54876 27 = true := by decide +kernel
theorem sn_272 {W : Bool} {X : List Int32} : y_Snd (mGw W) mLT1 (J2 W X) X cx_272 := y_ok J2_J mTS2_ok1 mTC2_ok1 mRUp_ok1 (List.forall_mem_cons.mpr ⟨sn_195, List.forall_mem_cons.mpr ⟨sn_260, List.forall_mem_cons.mpr ⟨sn_268, List.forall_mem_cons.mpr ⟨sn_271, fun _ h => absurd h List.not_mem_nil⟩⟩⟩⟩) ck_272
/-- HairRope.needed -/
def cx_273 : zCtx := (162, ([ui0, ui51], [ur444], [], [], [uV2, uV11], [], []), [([ui0, ui265], [ur444], [], [], [uV63], [], []), ([ui0, ui800], [ur444], [], [], [uV63], [], []), ([ui0, ui586, ui51], [ur444], [], [], [uV12], [], [])], kc_57, 54897, 5, 161)
set_option maxRecDepth 1000000 in
theorem ck_273 : x_ok mLT1 [cx_195, cx_260, cx_268] mTS2 mTC2 mRUp cx_273 [(1, [0]), (17, [1]), (25, [2])] [] [] (21, []) 54876 24 = true := by decide +kernel
theorem sn_273 {W : Bool} {X : List Int32} : y_Snd (mGw W) mLT1 (J2 W X) X cx_273 := y_ok J2_J mTS2_ok1 mTC2_ok1 mRUp_ok1 (List.forall_mem_cons.mpr ⟨sn_195, List.forall_mem_cons.mpr ⟨sn_260, List.forall_mem_cons.mpr ⟨sn_268, fun _ h => absurd h List.not_mem_nil⟩⟩⟩) ck_273
def cx_274p : zS := ((cx_149pi_0 (cx_149pi_1 (cx_149pi_2 (cx_149pi_3 (cx_149pi_4 []))))), [ur1082, ur434, ur435, ur430, ur549, ur550, ur551], [], [], [uV2, uV422], (cx_149pf_0 (cx_149pf_1 (cx_149pf_2 (cx_149pf_3 (cx_149pf_4 (cx_149pf_5 [])))))), [])
def cx_274q0 : zS := ((cx_149pi_0 (cx_149pi_1 (cx_149pi_2 (cx_149pi_3 (cx_149pi_4 []))))), [ur1082, ur434, ur435, ur430, ur549, ur550, ur551], [], [], [], [uF128, uF130, uF131, uF712], [(241, [uL67, uL106, uL80, uL81, uL133])])
/-- State.copyFrom -/
def cx_274 : zCtx := (102, cx_274p, [cx_274q0], kc_58, 57, 1, 64)
set_option maxRecDepth 1000000 in
theorem ck_274 : x_ok mLT1 [] mTS2 mTC2 mRUp cx_274 [] [(107, [1001016])] [] (57, []) 0 60 = true := by decide +kernel
theorem sn_274 {W : Bool} {X : List Int32} : y_Snd (mGw W) mLT1 (J2 W X) X cx_274 := y_ok J2_J mTS2_ok1 mTC2_ok1 mRUp_ok1 (fun _ h => absurd h List.not_mem_nil) ck_274
/-- State.placeOf -/
def cx_275 : zCtx := (101, ([ui0, ui51, (0, 6)], [ur1082], [], [], [uV2, uV11], [uF39], []), [([ui0, ui51, (1, 6), (0, 5)], [ur1082], [uL810], [], [uV60], [], []), ([ui0, ui51, (0, 6)], [ur1082], [], [], [uV63], [], [])], [], 105, 0, 0)
set_option maxRecDepth 1000000 in
theorem ck_275 : x_ok mLT1 [] mTS2 mTC2 mRUp cx_275 [] [] [(2, ([(0, 3072), ((-2147483648), 2147483647), (0, 6), (0, 6)], [(106, false)], [], [(2, 0, 0, []), (0, 0, 0, [(1, 1)]), (0, 0, 0, [(3, 1)])], [], [(0, (false, 6, 0, []), 0, 0, 0, [(2, 1)])], []), (102, [(3, (-16))]))] (105, []) 0 18 = true := by decide +kernel
theorem sn_275 {W : Bool} {X : List Int32} : y_Snd (mGw W) mLT1 (J2 W X) X cx_275 := y_ok J2_J mTS2_ok1 mTC2_ok1 mRUp_ok1 (fun _ h => absurd h List.not_mem_nil) ck_275
/-- Rules.strongOf -/
def cx_276 : zCtx := (89, ([ui0, ui51, ui248], [ur445, ur1082], [], [], [uV2, uV422, uV11, uV12], [], []), [([ui0, ui51, ui248, ui51], [ur445, ur1082], [], [], [uV60], [], [])], [], 14, 0, 0)
set_option maxRecDepth 1000000 in
theorem ck_276 : x_ok mLT1 [] mTS2 mTC2 mRUp cx_276 [] [] [] (14, []) 0 17 = true := by decide +kernel
theorem sn_276 {W : Bool} {X : List Int32} : y_Snd (mGw W) mLT1 (J2 W X) X cx_276 := y_ok J2_J mTS2_ok1 mTC2_ok1 mRUp_ok1 (fun _ h => absurd h List.not_mem_nil) ck_276
/-- Planner.lookAtHouses -/
def cx_277 : zCtx := (68, ([ui0, ui845], [ur1065, ur1082], [], [], [uV2, uV422], [uF1067], []), [([ui0, ui845, ui845], [ur1065, ur1082], [], [], [], [uF1068], [])], [uk1069, uk1070, uk1066], 1085, 1, 23)
set_option maxRecDepth 1000000 in
theorem ck_277 : x_ok mLT1 [cx_275, cx_276, cx_254] mTS2 mTC2 mRUp cx_277 [(29, [0]), (66, [1]), (97, [2])] [] [(7, ([(0, 3072), (0, 63), (0, 6), (0, 63)], [(9, false), (106, false)], [], [(2, 0, 0, []), (2, 1, 0, []), (0, 0, 0, [(2, 1)]), (5, 0, 0, []), (5, 0, 0, [])], [], [(0, (false, 10, 0, []), 0, 0, 0, [(3, 1)])], []), (313, [(2, (-51))]))] (319, []) 766 53 = true := by decide +kernel
theorem sn_277 {W : Bool} {X : List Int32} : y_Snd (mGw W) mLT1 (J2 W X) X cx_277 := y_ok J2_J mTS2_ok1 mTC2_ok1 mRUp_ok1 (List.forall_mem_cons.mpr ⟨sn_275, List.forall_mem_cons.mpr ⟨sn_276, List.forall_mem_cons.mpr ⟨sn_254, fun _ h => absurd h List.not_mem_nil⟩⟩⟩) ck_277
/-- Rules.lookAt -/
def cx_278 : zCtx := (88, ([ui0, ui51, ui248], [ur445, ur1082, ur525], [], [], [uV2, uV422, uV11, uV12], [uF22], []), [([ui0, ui51, ui248], [ur445, ur1082, ur525], [], [], [], [], [])], [uk531], 79, 1, 64)
set_option maxRecDepth 1000000 in
theorem ck_278 : x_ok mLT1 [cx_276] mTS2 mTC2 mRUp cx_278 [(32, [0])] [] [] (65, []) 14 68 = true := by decide +kernel
theorem sn_278 {W : Bool} {X : List Int32} : y_Snd (mGw W) mLT1 (J2 W X) X cx_278 := y_ok J2_J mTS2_ok1 mTC2_ok1 mRUp_ok1 (List.forall_mem_cons.mpr ⟨sn_276, fun _ h => absurd h List.not_mem_nil⟩) ck_278
/-- Rules.joinOf -/
def cx_279 : zCtx := (90, ([ui0, ui51, ui51, ui51], [ur445, ur1082], [], [], [uV2, uV422, uV11, uV12, uV60], [], []), [([ui0, ui51, ui51, ui51, ui586], [ur445, ur1082], [], [], [uV99], [], [])], [uk541, uk531], 52984, 2, 87)
set_option maxRecDepth 1000000 in
theorem ck_279 : x_ok mLT1 [cx_275, cx_278, cx_276, cx_136] mTS2 mTC2 mRUp cx_279 [(5, [0]), (8, [1]), (30, [0]), (33, [2]), (53, [3])] [] [] (35, []) 52949 38 = true := by decide +kernel
theorem sn_279 {W : Bool} {X : List Int32} : y_Snd (mGw W) mLT1 (J2 W X) X cx_279 := y_ok J2_J mTS2_ok1 mTC2_ok1 mRUp_ok1 (List.forall_mem_cons.mpr ⟨sn_275, List.forall_mem_cons.mpr ⟨sn_278, List.forall_mem_cons.mpr ⟨sn_276, List.forall_mem_cons.mpr ⟨sn_136, fun _ h => absurd h List.not_mem_nil⟩⟩⟩⟩) ck_279
/-- Planner.findJoins -/
def cx_280 : zCtx := (70, ([ui0, (0, 0), ui845], [ur1065, ur1082, ur1071], [], [], [uV2, uV422, uV758, uV11], [uF1068], []), [([ui0, (0, 0), ui845], [ur1065, ur1082, ur1071], [], [], [], [], [])], [uk541, uk531, uk1072], 54866, 3, 111)
set_option maxRecDepth 1000000 in
theorem ck_280 : x_ok mLT1 [cx_256, cx_142, cx_279] mTS2 mTC2 mRUp cx_280 [(56, [0]), (65, [0]), (98, [1]), (117, [2])] [] [(3, ([(0, 3072), (0, 0), (0, 63), (0, 6)], [(9, false), (106, false), (35, false)], [], [(2, 0, 0, []), (2, 1, 0, []), (2, 2, 0, []), (0, 0, 0, [(1, 1)]), (0, 0, 0, [(3, 1)]), (5, 0, 0, []), (5, 0, 0, []), (5, 0, 0, [])], [], [(0, (false, 10, 0, []), 0, 0, 0, [(2, 1)])], []), (1879, [(1, (-100000000000)), (3, (-312))])), (21, ([(0, 3072), (0, 0), (0, 63), (0, 5), (0, 6), (1, 6)], [(9, false), (106, false), (35, false), (5, false), (2, false)], [], [(2, 0, 0, []), (2, 1, 0, []), (2, 2, 0, []), (0, 0, 0, [(1, 1)]), (0, 0, 0, [(3, 1)]), (0, 0, 0, [(4, 1)]), (5, 0, 0, []), (5, 0, 0, [])], [], [(0, (false, 0, 0, []), 2, 3, 0, []), (0, (false, 10, 0, []), 0, 0, 0, [(2, 1)]), (3, (false, 3, 0, []), 2, 4, 0, []), (4, (false, 5, 0, []), 0, 0, 0, [(5, 1)])], []), (1870, [(1, (-100000000000)), (3, (-312)), (4, (-49))]))] (1882, []) 52984 51 = true := by decide +kernel
theorem sn_280 {W : Bool} {X : List Int32} : y_Snd (mGw W) mLT1 (J2 W X) X cx_280 := y_ok J2_J mTS2_ok1 mTC2_ok1 mRUp_ok1 (List.forall_mem_cons.mpr ⟨sn_256, List.forall_mem_cons.mpr ⟨sn_142, List.forall_mem_cons.mpr ⟨sn_279, fun _ h => absurd h List.not_mem_nil⟩⟩⟩) ck_280
/-- Planner.lookAt -/
def cx_281 : zCtx := (67, ([ui0, ui845], [ur1065, ur1082], [], [], [uV2, uV422], [uF1067], []), [([ui0, ui845, ui845], [ur1065, ur1082], [], [], [], [uF1068], [])], [uk1069, uk541, uk531, uk1070, uk1072, uk1066], 54876, 4, 138)
set_option maxRecDepth 1000000 in
theorem ck_281 : x_ok mLT1 [cx_277, cx_280] mTS2 mTC2 mRUp cx_281 [(2, [0]), (12, [1])] [] [] (10, []) 54866 13 = true := by decide +kernel
theorem sn_281 {W : Bool} {X : List Int32} : y_Snd (mGw W) mLT1 (J2 W X) X cx_281 := y_ok J2_J mTS2_ok1 mTC2_ok1 mRUp_ok1 (List.forall_mem_cons.mpr ⟨sn_277, List.forall_mem_cons.mpr ⟨sn_280, fun _ h => absurd h List.not_mem_nil⟩⟩) ck_281
/-- Rules.lawOf -/
def cx_282 : zCtx := (87, ([ui0, (0, 5)], [ur445, ur1082], [], [], [uV2, uV64, uV422, uV11], [], []), [([ui0, (0, 5), ui526], [ur445, ur1082], [], [], [uV12], [], [])], [uk541, uk531], 52968, 2, 87)
set_option maxRecDepth 1000000 in
theorem ck_282 : x_ok mLT1 [cx_275, cx_278, cx_136] mTS2 mTC2 mRUp cx_282 [(5, [0]), (8, [1]), (26, [2])] [] [] (19, []) 52949 22 = true := by decide +kernel
theorem sn_282 {W : Bool} {X : List Int32} : y_Snd (mGw W) mLT1 (J2 W X) X cx_282 := y_ok J2_J mTS2_ok1 mTC2_ok1 mRUp_ok1 (List.forall_mem_cons.mpr ⟨sn_275, List.forall_mem_cons.mpr ⟨sn_278, List.forall_mem_cons.mpr ⟨sn_136, fun _ h => absurd h List.not_mem_nil⟩⟩⟩) ck_282
/-- Rules.lawOf -/
def cx_283 : zCtx := (87, ([ui0, (0, 5)], [ur445, ur1082], [], [], [uV2, uV66, uV422, uV11], [], []), [([ui0, (0, 5), ui526], [ur445, ur1082], [], [], [uV12], [], [])], [uk541, uk531], 52968, 2, 87)
set_option maxRecDepth 1000000 in
theorem ck_283 : x_ok mLT1 [cx_275, cx_278, cx_136] mTS2 mTC2 mRUp cx_283 [(5, [0]), (8, [1]), (26, [2])] [] [] (19, []) 52949 22 = true := by decide +kernel
theorem sn_283 {W : Bool} {X : List Int32} : y_Snd (mGw W) mLT1 (J2 W X) X cx_283 := y_ok J2_J mTS2_ok1 mTC2_ok1 mRUp_ok1 (List.forall_mem_cons.mpr ⟨sn_275, List.forall_mem_cons.mpr ⟨sn_278, List.forall_mem_cons.mpr ⟨sn_136, fun _ h => absurd h List.not_mem_nil⟩⟩⟩) ck_283
/-- Rules.ageHouse -/
def cx_284 : zCtx := (95, ([ui0, (0, 5), ui51, ui51], [ur445, ur1082], [], [], [uV2, uV422, uV11, uV12, uV60], [], []), [([ui0, (0, 5), ui51, ui51], [ur445, ur1082], [], [], [], [], [])], [uk541, uk531, uk1083, uk1084], 53026, 3, 110)
set_option maxRecDepth 1000000 in
theorem ck_284 : x_ok mLT1 [cx_275, cx_282, cx_283, cx_202] mTS2 mTC2 mRUp cx_284 [(13, [0]), (22, [1]), (36, [2]), (73, [3])] [] [] (58, []) 52968 61 = true := by decide +kernel
theorem sn_284 {W : Bool} {X : List Int32} : y_Snd (mGw W) mLT1 (J2 W X) X cx_284 := y_ok J2_J mTS2_ok1 mTC2_ok1 mRUp_ok1 (List.forall_mem_cons.mpr ⟨sn_275, List.forall_mem_cons.mpr ⟨sn_282, List.forall_mem_cons.mpr ⟨sn_283, List.forall_mem_cons.mpr ⟨sn_202, fun _ h => absurd h List.not_mem_nil⟩⟩⟩⟩) ck_284
/-- Rules.ageAll -/
def cx_285 : zCtx := (94, ([ui0, (0, 0), (0, 0)], [ur445, ur1082], [], [], [uV2, uV422, uV11, uV12], [], []), [([ui0, (0, 0), (0, 0), ui51], [ur445, ur1082], [], [], [], [uF1085], [])], [uk541, uk531, (106, false, 7), uk1083, uk1084], 53125, 4, 137)
set_option maxRecDepth 1000000 in
theorem ck_285 : x_ok mLT1 [cx_284] mTS2 mTC2 mRUp cx_285 [(21, [0])] [] [(3, ([(0, 3072), (0, 0), (0, 0), (0, 6)], [(5, false), (106, false)], [], [(2, 0, 0, []), (2, 1, 0, []), (0, 0, 0, [(1, 1)]), (0, 0, 0, [(2, 1)]), (0, 0, 0, [(3, 1)])], [], [], []), (96, [(1, (-100000000000)), (2, (-100000000000)), (3, (-14))]))] (99, []) 53026 16 = true := by decide +kernel
theorem sn_285 {W : Bool} {X : List Int32} : y_Snd (mGw W) mLT1 (J2 W X) X cx_285 := y_ok J2_J mTS2_ok1 mTC2_ok1 mRUp_ok1 (List.forall_mem_cons.mpr ⟨sn_284, fun _ h => absurd h List.not_mem_nil⟩) ck_285
/-- Forecast.yearsUntilHeld -/
def cx_286 : zCtx := (24, ([ui0, ui586], [ur1086, ur1065, ur434], [], [], [uV2, uV422, uV758, uV11], [], []), [([ui0, ui586, ui1087], [ur1086, ur1065, ur434], [], [], [uV12], [], []), ([ui0, ui586], [ur1086, ur1065, ur434], [], [], [uV569], [], [])], kc_59, 56337, 5, 161)
def cz_286_0r_0 (t : List (Nat × Bool)) : List (Nat × Bool) := ur1086 :: ur1065 :: ur434 :: ur551 :: ur550 :: ur549 :: ur430 :: ur435 :: t
def cz_286_0r_1 (t : List (Nat × Bool)) : List (Nat × Bool) := ur1082 :: t
def cz_286_0f_0 (t : List zFa) : List zFa := uF543 :: (2, (false, 3, 0, []), 2, 4, 0, []) :: uF48 :: (2, (false, 1, 0, []), 2, 6, 0, []) :: (2, (false, 0, 0, []), 2, 7, 0, []) :: (2, (false, 8, 0, []), 0, 0, 0, [(3, 1)]) :: uF176 :: uF156 :: t
def cz_286_0f_1 (t : List zFa) : List zFa := uF1088 :: (0, (false, 1, 0, []), 2, 8, 0, []) :: (8, (false, 5, 0, []), 0, 0, 0, [(6, 1)]) :: (8, (false, 6, 0, []), 0, 0, 0, [(5, 1)]) :: (8, (false, 7, 0, []), 0, 0, 0, [(7, 1)]) :: (8, (false, 8, 0, []), 0, 0, 0, [(3, 1)]) :: t
def cz_286_0 : zS := ([ui0, ui586, ui845, ui51, ui51, (0, 6), (0, 6), ui51], (cz_286_0r_0 (cz_286_0r_1 [])), [], [uV2, uV422, uV758, uV11, uV12], [], (cz_286_0f_0 (cz_286_0f_1 [])), [])
set_option maxRecDepth 1000000 in
theorem ck_286 : x_ok mLT1 [cx_274, cx_281, cx_268, cx_285] mTS2 mTC2 mRUp cx_286 [(5, [0]), (23, [1]), (28, [2]), (51, [3])] [] [(11, cz_286_0, (1454, [(2, (-23))]))] (1461, []) 54876 25 = true := by decide +kernel
theorem sn_286 {W : Bool} {X : List Int32} : y_Snd (mGw W) mLT1 (J2 W X) X cx_286 := y_ok J2_J mTS2_ok1 mTC2_ok1 mRUp_ok1 (List.forall_mem_cons.mpr ⟨sn_274, List.forall_mem_cons.mpr ⟨sn_281, List.forall_mem_cons.mpr ⟨sn_268, List.forall_mem_cons.mpr ⟨sn_285, fun _ h => absurd h List.not_mem_nil⟩⟩⟩⟩) ck_286
end
