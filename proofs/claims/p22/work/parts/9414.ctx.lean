noncomputable section
/-! ===== readings, by program, checked by the kernel ===== -/
/-- HairRope.undo -/
def cx_247 : zCtx := (155, ([ui0, (0, 6), ui437, ui438, (0, 6), ui49, ui49], [ur441, ur431, ur439], [], [], [uV2], [uF614, uF43, uF1082, (2, (false, 2, 0, []), 0, 0, 0, [(2, 1)]), uF1083, uF530, uF531, uF532], [(242, [uL9, uL67, uL23, uL63]), uG1084]), [([ui0, (0, 6), ui437, ui438, (0, 6), ui49, ui49, (0, 6), ui49, ui49], [ur441, ur431, ur439], [uL815], [], [uV64], [(2, (false, 3, 0, []), 0, 0, (-1), [(3, 1)]), uF1082, uF1079, uF420, uF421], [(245, [uL9, uL79, uL131, uL163, uL815]), (242, [uL9, uL67, uL815, uL63])]), ([ui0, (0, 6), ui437, ui438, (0, 6), ui49, ui49], [ur441, ur431, ur439], [uL814], [], [uV62], [uF1083, uF1082, uF530, uF531, uF532], [uG1084])], kc_54, 88, 3, 107)
set_option maxRecDepth 1000000 in
theorem ck_247 : x_ok mLT1 [cx_246] mTS2 mTC2 mRUp cx_247 [(8, [0])] [] [] (6, []) 82 9 = true := by decide +kernel
theorem sn_247 {W : Bool} {X : List Int32} : y_Snd (mGw W) mLT1 (J2 W X) X cx_247 := y_ok J2_J mTS2_ok1 mTC2_ok1 mRUp_ok1 (List.forall_mem_cons.mpr ⟨sn_246, fun _ h => absurd h List.not_mem_nil⟩) ck_247
/-- Rules.greatestHaul -/
def cx_248 : zCtx := (98, ([ui0, ui824, ui49, ui49, ui49, ui49, ui49, ui49, ui49], [ur442, ur823], [uL9, uL1085], [], [uV2], [uF181, uF21], [uG1086]), [([ui0, ui824, ui49, ui49, ui49, ui49, ui49, ui49, ui49], [ur442, ur823], [], [], [uV583], [], [uG1086, (238, [uL659, uL67, uL23, uL98, uL104, uL78, uL79, uL131, uL63, uL63, uL825])]), ([ui0, ui824, ui49, ui49, ui49, ui49, ui49, ui49, ui49, ui600], [ur442, ur823], [], [], [uV799], [], [uG1086, (238, [uL659, uL67, uL23, uL98, uL104, uL78, uL79, uL131, uL63, uL63, uL163])])], [], 388, 1, 64)
def cz_248_0i_0 (t : List (Int × Int)) : List (Int × Int) := ui0 :: ui824 :: ui49 :: ui49 :: ui49 :: ui49 :: ui49 :: ui49 :: t
def cz_248_0i_1 (t : List (Int × Int)) : List (Int × Int) := ui49 :: ui1087 :: ui424 :: t
def cz_248_0 : zS := ((cz_248_0i_0 (cz_248_0i_1 [])), [ur442, ur823], [uL9, uL1085, (0, [(1, 1), (10, (-1))]), (999, [(9, (-1))])], [uV2, uV799, uV854], [], [uF181, uF21], [uG1086, (238, [uL662, uL67, uL23, uL98, uL104, uL78, uL79, uL131, (999, []), uL263, uL163])])
set_option maxRecDepth 1000000 in
theorem ck_248 : x_ok mLT1 [] mTS2 mTC2 mRUp cx_248 [] [(0, [1001012]), (27, [1000012]), (30, [1001013, 1001014]), (41, [1001015]), (46, [1001016])] [(6, cz_248_0, (383, [(10, (-17))]))] (388, []) 0 19 = true := by decide +kernel
theorem sn_248 {W : Bool} {X : List Int32} : y_Snd (mGw W) mLT1 (J2 W X) X cx_248 := y_ok J2_J mTS2_ok1 mTC2_ok1 mRUp_ok1 (fun _ h => absurd h List.not_mem_nil) ck_248
def cx_249pr_0 (t : List (Nat × Bool)) : List (Nat × Bool) := ur441 :: ur442 :: ur443 :: ur545 :: ur431 :: ur588 :: ur562 :: ur432 :: t
def cx_249pr_1 (t : List (Nat × Bool)) : List (Nat × Bool) := ur426 :: ur563 :: ur564 :: ur565 :: ur536 :: ur823 :: t
def cx_249pf_0 (t : List zFa) : List zFa := uF13 :: uF516 :: uF555 :: uF805 :: uF303 :: uF567 :: uF806 :: uF807 :: t
def cx_249pf_1 (t : List zFa) : List zFa := uF808 :: uF809 :: uF605 :: uF410 :: uF606 :: uF607 :: uF608 :: uF609 :: t
def cx_249pf_2 (t : List zFa) : List zFa := uF610 :: uF464 :: uF1088 :: t
def cx_249p : zS := ([ui0, ui31, (0, 6), (0, 6), ui49, ui49], (cx_249pr_0 (cx_249pr_1 [])), [], [], [uV2], (cx_249pf_0 (cx_249pf_1 (cx_249pf_2 []))), [uG812])
def cx_249q0 : zS := ([ui0, ui31, (0, 6), (0, 6), ui49, ui49, ui600], (cx_249pr_0 (cx_249pr_1 [])), [], [], [uV108], [uF806, uF807, uF808, uF809], [uG812, (260, [uL659, uL9, uL63, uL63, uL63, uL63, uL63, uL63, uL63, uL63, uL78])])
def cx_249q1 : zS := ([ui0, ui31, (0, 6), (0, 6), ui49, ui49], (cx_249pr_0 (cx_249pr_1 [])), [], [], [uV583], [uF806, uF807, uF808, uF809], [uG812, (260, [uL659, uL9, uL63, uL63, uL63, uL63, uL63, uL63, uL63, uL63, uL825])])
/-- HairRope.most -/
def cx_249 : zCtx := (156, cx_249p, [cx_249q0, cx_249q1], [uk827, uk553, uk828, uk542], 53285, 5, 158)
set_option maxRecDepth 1000000 in
theorem ck_249 : x_ok mLT1 [cx_197, cx_248] mTS2 mTC2 mRUp cx_249 [(8, [0]), (15, [1])] [(4, [1000733]), (18, [1000728])] [] (9, []) 53276 12 = true := by decide +kernel
theorem sn_249 {W : Bool} {X : List Int32} : y_Snd (mGw W) mLT1 (J2 W X) X cx_249 := y_ok J2_J mTS2_ok1 mTC2_ok1 mRUp_ok1 (List.forall_mem_cons.mpr ⟨sn_197, List.forall_mem_cons.mpr ⟨sn_248, fun _ h => absurd h List.not_mem_nil⟩⟩) ck_249
def cx_250pf_0 (t : List zFa) : List zFa := uF13 :: uF516 :: uF555 :: uF556 :: uF152 :: uF567 :: uF616 :: uF617 :: t
def cx_250pf_1 (t : List zFa) : List zFa := uF618 :: uF619 :: uF605 :: uF410 :: uF606 :: uF607 :: uF608 :: uF609 :: t
def cx_250pf_2 (t : List zFa) : List zFa := uF610 :: uF464 :: uF1088 :: t
def cx_250p : zS := ([ui0, ui49, ui31, (0, 6), (0, 6), ui49, ui49], (cx_249pr_0 (cx_249pr_1 [])), [], [], [uV2, uV11], (cx_250pf_0 (cx_250pf_1 (cx_250pf_2 []))), [uG620])
def cx_250q1 : zS := ([ui0, (0, 1), ui31, (0, 6), (0, 6), ui49, ui49, ui600], (cx_249pr_0 (cx_249pr_1 [])), [], [], [uV583], [uF616, uF617, uF618, uF619], [uG620, (260, [uL659, uL67, uL63, uL63, uL63, uL63, uL63, uL63, uL63, uL63, uL79]), (260, [uL209, uL67, uL63, uL63, uL63, uL63, uL63, uL63, uL1089, uL63, uL99])])
def cx_250q2i_0 (t : List (Int × Int)) : List (Int × Int) := ui0 :: (0, 0) :: ui31 :: (0, 6) :: (0, 6) :: ui49 :: ui49 :: ui49 :: t
def cx_250q2i_1 (t : List (Int × Int)) : List (Int × Int) := ui600 :: ui847 :: t
def cx_250q2g_0 (t : List zTg) : List zTg := uG620 :: uG1090 :: uG1091 :: (107, [uL163, uL114, uL79]) :: t
def cx_250q2 : zS := ((cx_250q2i_0 (cx_250q2i_1 [])), (cx_249pr_0 (cx_249pr_1 [])), [], [], [uV142], [uF616, uF617, uF618, uF619], (cx_250q2g_0 []))
def cx_250q3i_0 (t : List (Int × Int)) : List (Int × Int) := ui0 :: (1, 1) :: ui31 :: (0, 6) :: (0, 6) :: ui49 :: ui49 :: ui49 :: t
def cx_250q3i_1 (t : List (Int × Int)) : List (Int × Int) := ui600 :: ui847 :: t
def cx_250q3g_0 (t : List zTg) : List zTg := uG620 :: uG1090 :: uG1091 :: (108, [uL1092, uL114, uL79]) :: t
def cx_250q3 : zS := ((cx_250q3i_0 (cx_250q3i_1 [])), (cx_249pr_0 (cx_249pr_1 [])), [], [], [uV142], [uF616, uF617, uF618, uF619], (cx_250q3g_0 []))
def cx_250q4 : zS := ([ui0, (0, 1), ui31, (0, 6), (0, 6), ui49, ui49], (cx_249pr_0 (cx_249pr_1 [])), [], [], [uV583], [uF616, uF617, uF618, uF619], [uG620, uG1093, (260, [uL209, uL67, uL63, uL63, uL63, uL63, uL63, uL63, uL63, uL63, uL99])])
def cx_250q5i_0 (t : List (Int × Int)) : List (Int × Int) := ui0 :: (0, 0) :: ui31 :: (0, 6) :: (0, 6) :: ui49 :: ui49 :: ui49 :: t
def cx_250q5i_1 (t : List (Int × Int)) : List (Int × Int) := ui847 :: t
def cx_250q5g_0 (t : List zTg) : List zTg := uG620 :: uG1093 :: uG1094 :: (107, [uL131, uL114, uL79]) :: t
def cx_250q5 : zS := ((cx_250q5i_0 (cx_250q5i_1 [])), (cx_249pr_0 (cx_249pr_1 [])), [], [], [uV142], [uF616, uF617, uF618, uF619], (cx_250q5g_0 []))
def cx_250q6i_0 (t : List (Int × Int)) : List (Int × Int) := ui0 :: (1, 1) :: ui31 :: (0, 6) :: (0, 6) :: ui49 :: ui49 :: ui49 :: t
def cx_250q6i_1 (t : List (Int × Int)) : List (Int × Int) := ui847 :: t
def cx_250q6g_0 (t : List zTg) : List zTg := uG620 :: uG1093 :: uG1094 :: (108, [uL1095, uL114, uL79]) :: t
def cx_250q6 : zS := ((cx_250q6i_0 (cx_250q6i_1 [])), (cx_249pr_0 (cx_249pr_1 [])), [], [], [uV142], [uF616, uF617, uF618, uF619], (cx_250q6g_0 []))
/-- HairRope.weakest -/
def cx_250 : zCtx := (157, cx_250p, [([ui0, ui1096, ui31, (0, 6), (0, 6), ui49, ui49], [ur441, ur442, ur443, ur545, ur431, ur588, ur562, ur432, ur426, ur563, ur564, ur565, ur536, ur823], [], [], [uV61], [uF616, uF617, uF618, uF619], [uG620]), cx_250q1, cx_250q2, cx_250q3, cx_250q4, cx_250q5, cx_250q6, ([ui0, ui260, ui31, (0, 6), (0, 6), ui49, ui49], [ur441, ur442, ur443, ur545, ur431, ur588, ur562, ur432, ur426, ur563, ur564, ur565, ur536, ur823], [], [], [uV61], [uF616, uF617, uF618, uF619], [uG620])], [uk827, uk553, uk828, uk542], 53307, 5, 158)
set_option maxRecDepth 1000000 in
theorem ck_250 : x_ok mLT1 [cx_197, cx_248, cx_198, cx_199] mTS2 mTC2 mRUp cx_250 [(19, [0]), (26, [1]), (45, [2]), (61, [3])] [(15, [1000733]), (29, [1000728]), (48, [1000767, 1000768]), (69, [1000679])] [] (31, []) 53276 34 = true := by decide +kernel
theorem sn_250 {W : Bool} {X : List Int32} : y_Snd (mGw W) mLT1 (J2 W X) X cx_250 := y_ok J2_J mTS2_ok1 mTC2_ok1 mRUp_ok1 (List.forall_mem_cons.mpr ⟨sn_197, List.forall_mem_cons.mpr ⟨sn_248, List.forall_mem_cons.mpr ⟨sn_198, List.forall_mem_cons.mpr ⟨sn_199, fun _ h => absurd h List.not_mem_nil⟩⟩⟩⟩) ck_250
def cx_251pr_0 (t : List (Nat × Bool)) : List (Nat × Bool) := ur441 :: ur442 :: ur443 :: ur545 :: ur431 :: ur432 :: ur426 :: ur563 :: t
def cx_251pr_1 (t : List (Nat × Bool)) : List (Nat × Bool) := ur564 :: ur565 :: t
def cx_251pf_0 (t : List zFa) : List zFa := uF13 :: uF516 :: uF555 :: uF556 :: uF152 :: uF567 :: uF616 :: uF617 :: t
def cx_251pf_1 (t : List zFa) : List zFa := uF618 :: uF619 :: uF457 :: uF458 :: uF459 :: uF460 :: (4, (false, 4, 0, []), 2, 9, 0, []) :: t
def cx_251p : zS := ([ui0, ui49, ui31, (0, 6), (0, 6), ui49, ui49], (cx_251pr_0 (cx_251pr_1 [])), [], [], [uV2, uV11], (cx_251pf_0 (cx_251pf_1 [])), [uG620])
def cx_251q2 : zS := ([ui0, ui49, ui31, (0, 6), (0, 6), ui49, ui49, ui600], (cx_251pr_0 (cx_251pr_1 [])), [uL9, uL579], [], [uV142], [uF616, uF617, uF618, uF619], [uG620, (260, [uL65, uL63, uL63, uL63, uL63, uL63, uL63, uL63, uL109, uL98, uL79])])
/-- HairRope.below -/
def cx_251 : zCtx := (158, cx_251p, [([ui0, ui49, ui31, (0, 6), (0, 6), ui49, ui49], [ur441, ur442, ur443, ur545, ur431, ur432, ur426, ur563, ur564, ur565], [uL584], [], [uV61], [uF616, uF617, uF618, uF619], [uG620]), ([ui0, ui49, ui31, (0, 6), (0, 6), ui49, ui49], [ur441, ur442, ur443, ur545, ur431, ur432, ur426, ur563, ur564, ur565], [uL585], [], [uV61], [uF616, uF617, uF618, uF619], [uG620]), cx_251q2], [], 127, 2, 87)
set_option maxRecDepth 1000000 in
theorem ck_251 : x_ok mLT1 [cx_146, cx_191] mTS2 mTC2 mRUp cx_251 [(2, [0]), (13, [1])] [(16, [1000728, 1000728])] [] (10, []) 117 13 = true := by decide +kernel
theorem sn_251 {W : Bool} {X : List Int32} : y_Snd (mGw W) mLT1 (J2 W X) X cx_251 := y_ok J2_J mTS2_ok1 mTC2_ok1 mRUp_ok1 (List.forall_mem_cons.mpr ⟨sn_146, List.forall_mem_cons.mpr ⟨sn_191, fun _ h => absurd h List.not_mem_nil⟩⟩) ck_251
def cx_252pi_0 (t : List (Int × Int)) : List (Int × Int) := ui0 :: ui1097 :: ui537 :: ui49 :: ui49 :: ui49 :: ui49 :: ui49 :: t
def cx_252pi_1 (t : List (Int × Int)) : List (Int × Int) := ui49 :: ui49 :: (0, 5) :: t
def cx_252p : zS := ((cx_252pi_0 (cx_252pi_1 [])), [ur1098, ur1099], [], [], [uV2, uV11, uV12], [uF445], [(277, [uL23, uL98, uL104, uL78, uL79, uL131, uL163, uL9]), uG1100, uG1101])
/-- Planner.addToSums -/
def cx_252 : zCtx := (69, cx_252p, [([ui0, ui1097, ui537, ui49, ui49, ui49, ui49, ui49, ui49, ui49, (0, 5)], [ur1098, ur1099], [], [], [], [], [(277, [uL23, uL98, uL104, uL78, uL79, uL131, uL163, (0, [(1, 2)])])])], [uk1102], 766, 0, 0)
def cz_252_0i_0 (t : List (Int × Int)) : List (Int × Int) := ui0 :: ui1097 :: ui537 :: ui49 :: ui49 :: ui49 :: ui49 :: ui49 :: t
def cz_252_0i_1 (t : List (Int × Int)) : List (Int × Int) := ui49 :: ui49 :: (0, 5) :: (0, 33) :: t
def cz_252_0 : zS := ((cz_252_0i_0 (cz_252_0i_1 [])), [ur1098, ur1099], [uL193, uL878], [uV2, uV11, uV12, uV873], [], [uF445], [uG1101, uG1100, (277, [uL23, uL98, uL104, uL78, uL79, uL131, uL163, (0, [(1, 1), (11, 1)])])])
set_option maxRecDepth 1000000 in
theorem ck_252 : x_ok mLT1 [] mTS2 mTC2 mRUp cx_252 [] [(9, [1000667]), (10, [1001039]), (22, [1000796, 1001039]), (28, [1001040]), (31, [1001041])] [(2, cz_252_0, (763, [(11, (-23))]))] (766, []) 0 25 = true := by decide +kernel
theorem sn_252 {W : Bool} {X : List Int32} : y_Snd (mGw W) mLT1 (J2 W X) X cx_252 := y_ok J2_J mTS2_ok1 mTC2_ok1 mRUp_ok1 (fun _ h => absurd h List.not_mem_nil) ck_252
def cx_253pi_0 (t : List (Int × Int)) : List (Int × Int) := ui0 :: ui877 :: (0, 6) :: (0, 6) :: ui49 :: ui49 :: ui49 :: ui49 :: t
def cx_253pi_1 (t : List (Int × Int)) : List (Int × Int) := ui49 :: ui49 :: ui49 :: ui49 :: ui49 :: t
def cx_253pr_0 (t : List (Nat × Bool)) : List (Nat × Bool) := ur1098 :: ur431 :: ur442 :: ur443 :: ur432 :: ur426 :: ur563 :: ur564 :: t
def cx_253pr_1 (t : List (Nat × Bool)) : List (Nat × Bool) := ur565 :: ur562 :: ur1099 :: ur1103 :: t
def cx_253pf_0 (t : List zFa) : List zFa := uF1104 :: uF151 :: uF446 :: uF1105 :: uF511 :: uF1106 :: uF1107 :: uF1108 :: t
def cx_253pf_1 (t : List zFa) : List zFa := uF1109 :: uF1110 :: uF1111 :: uF1112 :: uF1113 :: uF1114 :: uF1115 :: uF1116 :: t
def cx_253p : zS := ((cx_253pi_0 (cx_253pi_1 [])), (cx_253pr_0 (cx_253pr_1 [])), [uL789], [], [uV2, uV419], (cx_253pf_0 (cx_253pf_1 [])), [uG1117])
def cx_253q0i_0 (t : List (Int × Int)) : List (Int × Int) := ui0 :: ui877 :: (0, 6) :: (0, 6) :: ui49 :: ui49 :: ui49 :: ui49 :: t
def cx_253q0i_1 (t : List (Int × Int)) : List (Int × Int) := ui49 :: ui49 :: ui49 :: ui49 :: ui49 :: ui877 :: ui1118 :: t
def cx_253q0g_0 (t : List zTg) : List zTg := uG1117 :: uG1119 :: uG1120 :: uG1122 :: uG1123 :: uG1124 :: t
def cx_253q0 : zS := ((cx_253q0i_0 (cx_253q0i_1 [])), (cx_253pr_0 (cx_253pr_1 [])), [], [], [], [uF478], (cx_253q0g_0 []))
/-- Planner.lookAtHouses -/
def cx_253 : zCtx := (68, cx_253p, [cx_253q0], [uk1125, uk1126, uk1102], 1085, 1, 23)
def cz_253_0i_0 (t : List (Int × Int)) : List (Int × Int) := ui0 :: ui877 :: (0, 6) :: (0, 6) :: ui49 :: ui49 :: ui49 :: ui49 :: t
def cz_253_0i_1 (t : List (Int × Int)) : List (Int × Int) := ui49 :: ui49 :: ui49 :: ui49 :: ui49 :: (0, 6) :: ui877 :: ui1118 :: t
def cz_253_0f_0 (t : List zFa) : List zFa := (0, (false, 10, 0, []), 0, 0, 0, [(14, 1)]) :: uF151 :: uF446 :: uF1105 :: uF511 :: uF1106 :: uF1107 :: uF1108 :: t
def cz_253_0f_1 (t : List zFa) : List zFa := uF1109 :: uF1110 :: uF1111 :: uF1112 :: uF1113 :: uF1114 :: uF1115 :: uF1116 :: t
def cz_253_0g_0 (t : List zTg) : List zTg := uG1117 :: uG1127 :: uG1128 :: uG1129 :: uG1130 :: t
def cz_253_0 : zS := ((cz_253_0i_0 (cz_253_0i_1 [])), (cx_253pr_0 (cx_253pr_1 [])), [uL789, uL205, uL1131], [uV2, uV419, uV408, uV113, uV113], [], (cz_253_0f_0 (cz_253_0f_1 [])), (cz_253_0g_0 []))
set_option maxRecDepth 1000000 in
theorem ck_253 : x_ok mLT1 [cx_131, cx_132, cx_252] mTS2 mTC2 mRUp cx_253 [(29, [0]), (66, [1]), (97, [2])] [(5, [1001029, 1001030]), (43, [1000816, 1001031]), (52, [1000816, 1001032, 1001031, 1001033]), (69, [1001034]), (70, [1001035]), (83, [1001036]), (87, [1000667]), (88, uN1132), (95, [1001036]), (100, [1001042]), (106, [1001043, 1001044])] [(7, cz_253_0, (313, [(13, (-51))]))] (319, []) 766 53 = true := by decide +kernel
theorem sn_253 {W : Bool} {X : List Int32} : y_Snd (mGw W) mLT1 (J2 W X) X cx_253 := y_ok J2_J mTS2_ok1 mTC2_ok1 mRUp_ok1 (List.forall_mem_cons.mpr ⟨sn_131, List.forall_mem_cons.mpr ⟨sn_132, List.forall_mem_cons.mpr ⟨sn_252, fun _ h => absurd h List.not_mem_nil⟩⟩⟩) ck_253
/-- Planner.isAble -/
def cx_254 : zCtx := (71, ([ui0, (0, 5), ui877], [ur1098], [], [], [uV2, uV11], [uF1133], []), [([ui0, (0, 5), ui877], [ur1098], [], [], [uV64], [], [(327, [uL67, uL9, uL65])]), ([ui0, (0, 5), ui877], [ur1098], [], [], [uV62], [], [(327, [uL67, uL9, uL63])])], [], 10, 0, 0)
set_option maxRecDepth 1000000 in
theorem ck_254 : x_ok mLT1 [] mTS2 mTC2 mRUp cx_254 [] [(6, [1000797]), (7, [1000668]), (8, [1001051]), (16, [1001052, 1001053])] [] (10, []) 0 13 = true := by decide +kernel
theorem sn_254 {W : Bool} {X : List Int32} : y_Snd (mGw W) mLT1 (J2 W X) X cx_254 := y_ok J2_J mTS2_ok1 mTC2_ok1 mRUp_ok1 (fun _ h => absurd h List.not_mem_nil) ck_254
def cx_255pi_0 (t : List (Int × Int)) : List (Int × Int) := ui0 :: (0, 0) :: ui877 :: (0, 6) :: (0, 6) :: ui49 :: ui49 :: ui31 :: t
def cx_255pi_1 (t : List (Int × Int)) : List (Int × Int) := ui49 :: ui49 :: ui49 :: ui49 :: ui49 :: ui49 :: t
def cx_255pr_0 (t : List (Nat × Bool)) : List (Nat × Bool) := ur1098 :: ur431 :: ur1134 :: ur442 :: ur443 :: ur545 :: ur432 :: ur426 :: t
def cx_255pr_1 (t : List (Nat × Bool)) : List (Nat × Bool) := ur563 :: ur564 :: ur565 :: ur562 :: ur588 :: ur536 :: t
def cx_255pf_0 (t : List zFa) : List zFa := uF1133 :: uF429 :: uF1135 :: uF616 :: uF529 :: uF530 :: uF531 :: uF532 :: t
def cx_255pf_1 (t : List zFa) : List zFa := uF1136 :: (5, (false, 4, 0, []), 0, 0, 0, [(7, 1)]) :: uF228 :: uF262 :: (1, (false, 2, 0, []), 2, 8, 0, []) :: (1, (false, 3, 0, []), 2, 9, 0, []) :: (1, (false, 4, 0, []), 2, 10, 0, []) :: (4, (false, 3, 0, []), 2, 11, 0, []) :: t
def cx_255pf_2 (t : List zFa) : List zFa := uF1137 :: (3, (false, 1, 0, []), 2, 13, 0, []) :: t
def cx_255p : zS := ((cx_255pi_0 (cx_255pi_1 [])), (cx_255pr_0 (cx_255pr_1 [])), [uL518], [], [uV2, uV419, uV777, uV11], (cx_255pf_0 (cx_255pf_1 (cx_255pf_2 []))), [uG533, uG1138])
def cx_255q0g_0 (t : List zTg) : List zTg := uG533 :: uG1138 :: uG1139 :: t
def cx_255q0 : zS := ((cx_255pi_0 (cx_255pi_1 [])), (cx_255pr_0 (cx_255pr_1 [])), [], [], [], [], (cx_255q0g_0 []))
/-- Planner.findJoins -/
def cx_255 : zCtx := (70, cx_255p, [cx_255q0], [uk553, uk542, uk1140], 54866, 3, 111)
def cz_255_0i_0 (t : List (Int × Int)) : List (Int × Int) := ui0 :: (0, 0) :: ui877 :: (0, 6) :: (0, 6) :: ui49 :: ui49 :: ui31 :: t
def cz_255_0i_1 (t : List (Int × Int)) : List (Int × Int) := ui49 :: ui49 :: ui49 :: ui49 :: ui49 :: ui49 :: (0, 6) :: t
def cz_255_0g_0 (t : List zTg) : List zTg := uG533 :: uG1138 :: uG1141 :: t
def cz_255_0 : zS := ((cz_255_0i_0 (cz_255_0i_1 [])), (cx_255pr_0 (cx_255pr_1 [])), [uL518, uL206, uL1142], [uV2, uV419, uV777, uV11, uV355, uV113, uV113, uV113], [], (cx_255pf_0 (cx_255pf_1 (cx_255pf_2 []))), (cz_255_0g_0 []))
def cz_255_1i_0 (t : List (Int × Int)) : List (Int × Int) := ui0 :: (0, 0) :: ui877 :: (1, 6) :: (0, 6) :: ui49 :: ui49 :: ui31 :: t
def cz_255_1i_1 (t : List (Int × Int)) : List (Int × Int) := ui49 :: ui49 :: ui49 :: ui49 :: ui49 :: ui49 :: (0, 5) :: (0, 6) :: t
def cz_255_1g_0 (t : List zTg) : List zTg := uG533 :: uG1138 :: uG1143 :: t
def cz_255_1 : zS := ((cz_255_1i_0 (cz_255_1i_1 [])), (cx_255pr_0 (cx_255pr_1 [])), [uL518, uL63, uL23, uL206, uL1142, uL207, uL1144, uL1145], [uV2, uV419, uV777, uV11, uV355, uV601, uV113, uV113], [], (cx_255pf_0 (cx_255pf_1 (cx_255pf_2 []))), (cz_255_1g_0 []))
set_option maxRecDepth 1000000 in
theorem ck_255 : x_ok mLT1 [cx_254, cx_142, cx_144] mTS2 mTC2 mRUp cx_255 [(56, [0]), (65, [0]), (98, [1]), (117, [2])] [(1, [1001045]), (121, uN1146), (127, [1001054]), (133, [1001046])] [(3, cz_255_0, (1879, [(1, (-100000000000)), (14, (-312))])), (21, cz_255_1, (1870, [(1, (-100000000000)), (14, (-312)), (15, (-49))]))] (1882, []) 52984 51 = true := by decide +kernel
theorem sn_255 {W : Bool} {X : List Int32} : y_Snd (mGw W) mLT1 (J2 W X) X cx_255 := y_ok J2_J mTS2_ok1 mTC2_ok1 mRUp_ok1 (List.forall_mem_cons.mpr ⟨sn_254, List.forall_mem_cons.mpr ⟨sn_142, List.forall_mem_cons.mpr ⟨sn_144, fun _ h => absurd h List.not_mem_nil⟩⟩⟩) ck_255
def cx_256pi_0 (t : List (Int × Int)) : List (Int × Int) := ui0 :: ui877 :: (0, 6) :: (0, 6) :: ui49 :: ui49 :: ui31 :: ui49 :: t
def cx_256pi_1 (t : List (Int × Int)) : List (Int × Int) := ui49 :: ui49 :: ui49 :: ui49 :: ui49 :: t
def cx_256pr_0 (t : List (Nat × Bool)) : List (Nat × Bool) := ur1098 :: ur431 :: ur442 :: ur443 :: ur545 :: ur432 :: ur426 :: ur563 :: t
def cx_256pr_1 (t : List (Nat × Bool)) : List (Nat × Bool) := ur564 :: ur565 :: ur562 :: ur588 :: ur536 :: ur1099 :: ur1103 :: ur1134 :: t
def cx_256pf_0 (t : List zFa) : List zFa := uF1104 :: uF151 :: uF446 :: uF1105 :: uF511 :: uF1106 :: uF1107 :: uF1108 :: t
def cx_256pf_1 (t : List zFa) : List zFa := uF1147 :: (4, (false, 4, 0, []), 0, 0, 0, [(6, 1)]) :: uF859 :: uF1148 :: uF229 :: uF230 :: uF1149 :: uF1150 :: t
def cx_256pf_2 (t : List zFa) : List zFa := (3, (false, 1, 0, []), 2, 11, 0, []) :: uF1151 :: (0, (false, 9, 0, []), 2, 13, 0, []) :: (0, (false, 1, 0, []), 2, 14, 0, []) :: (0, (false, 2, 0, []), 2, 15, 0, []) :: t
def cx_256p : zS := ((cx_256pi_0 (cx_256pi_1 [])), (cx_256pr_0 (cx_256pr_1 [])), [uL789], [], [uV2, uV419], (cx_256pf_0 (cx_256pf_1 (cx_256pf_2 []))), [uG1117])
def cx_256q0i_0 (t : List (Int × Int)) : List (Int × Int) := ui0 :: ui877 :: (0, 6) :: (0, 6) :: ui49 :: ui49 :: ui31 :: ui49 :: t
def cx_256q0i_1 (t : List (Int × Int)) : List (Int × Int) := ui49 :: ui49 :: ui49 :: ui49 :: ui49 :: ui877 :: ui1118 :: t
def cx_256q0g_0 (t : List zTg) : List zTg := uG1117 :: uG1119 :: uG1120 :: uG1122 :: uG1123 :: uG1124 :: uG1152 :: t
def cx_256q0 : zS := ((cx_256q0i_0 (cx_256q0i_1 [])), (cx_256pr_0 (cx_256pr_1 [])), [], [], [], [uF478], (cx_256q0g_0 []))
/-- Planner.lookAt -/
def cx_256 : zCtx := (67, cx_256p, [cx_256q0], [uk1125, uk553, uk542, uk1126, uk1140, uk1102], 54876, 4, 138)
set_option maxRecDepth 1000000 in
theorem ck_256 : x_ok mLT1 [cx_253, cx_255] mTS2 mTC2 mRUp cx_256 [(2, [0]), (12, [1])] [] [] (10, []) 54866 13 = true := by decide +kernel
theorem sn_256 {W : Bool} {X : List Int32} : y_Snd (mGw W) mLT1 (J2 W X) X cx_256 := y_ok J2_J mTS2_ok1 mTC2_ok1 mRUp_ok1 (List.forall_mem_cons.mpr ⟨sn_253, List.forall_mem_cons.mpr ⟨sn_255, fun _ h => absurd h List.not_mem_nil⟩⟩) ck_256
/-- Integer.bitCount -/
def cx_257 : zCtx := (1, ([ui0, ui49], [], [], [], [uV11], [], []), [([ui0, ui49, ui877], [], [], [], [uV12], [], [])], [], 42, 0, 0)
set_option maxRecDepth 1000000 in
theorem ck_257 : x_ok mLT1 [] mTS2 mTC2 mRUp cx_257 [] [] [] (42, []) 0 45 = true := by decide +kernel
theorem sn_257 {W : Bool} {X : List Int32} : y_Snd (mGw W) mLT1 (J2 W X) X cx_257 := y_ok J2_J mTS2_ok1 mTC2_ok1 mRUp_ok1 (fun _ h => absurd h List.not_mem_nil) ck_257
/-- Planner.powerOfSix -/
def cx_258 : zCtx := (75, ([ui0, ui877], [], [], [], [uV11], [], []), [([ui0, ui1153, ui49], [], [], [], [uV12], [], []), ([ui0, (0, 6), ui49], [], [], [], [uV12], [], [])], [], 91, 0, 0)
set_option maxRecDepth 1000000 in
theorem ck_258 : x_ok mLT1 [] mTS2 mTC2 mRUp cx_258 [] [] [(4, ([(0, 3072), (0, 63), ((-2147483648), 2147483647), (0, 6)], [], [], [(0, 0, 0, [(1, 1)]), (0, 0, 0, [(2, 1)]), (0, 0, 0, [(3, 1)])], [], [], []), (86, [(3, (-13))]))] (91, []) 0 15 = true := by decide +kernel
theorem sn_258 {W : Bool} {X : List Int32} : y_Snd (mGw W) mLT1 (J2 W X) X cx_258 := y_ok J2_J mTS2_ok1 mTC2_ok1 mRUp_ok1 (fun _ h => absurd h List.not_mem_nil) ck_258
def cx_259pi_0 (t : List (Int × Int)) : List (Int × Int) := ui0 :: ui1154 :: ui1154 :: ui1155 :: ui49 :: ui600 :: ui877 :: ui1153 :: t
def cx_259pi_1 (t : List (Int × Int)) : List (Int × Int) := (0, 5) :: (0, 5) :: ui1156 :: ui1157 :: ui49 :: ui49 :: ui49 :: ui49 :: t
def cx_259pf_0 (t : List zFa) : List zFa := uF783 :: uF1158 :: uF1159 :: uF1160 :: uF430 :: uF1161 :: uF1162 :: (1, (true, 0, 0, [(1, 1)]), 0, 0, 0, [(10, 1)]) :: t
def cx_259pf_1 (t : List zFa) : List zFa := uF1163 :: t
def cx_259pg_0 (t : List zTg) : List zTg := (319, [uL79, uL131, uL163, uL9, uL67, uL23]) :: (323, [uL79, uL78]) :: uG1164 :: (318, [uL104, uL79, uL131, uL163, uL169, uL193]) :: uG1165 :: t
def cx_259p : zS := ((cx_259pi_0 (cx_259pi_1 [])), [ur1098, ur1166, ur1167, ur1168, ur1103, ur1134, ur1099], [uL513], [], [uV2, uV11, uV12, uV58, uV97], (cx_259pf_0 (cx_259pf_1 [])), (cx_259pg_0 []))
def cx_259q0i_0 (t : List (Int × Int)) : List (Int × Int) := ui0 :: ui1154 :: ui1154 :: ui1155 :: ui49 :: ui600 :: ui877 :: ui1153 :: t
def cx_259q0i_1 (t : List (Int × Int)) : List (Int × Int) := (0, 5) :: (0, 5) :: ui1156 :: ui1157 :: ui49 :: ui49 :: ui49 :: ui49 :: t
def cx_259q0i_2 (t : List (Int × Int)) : List (Int × Int) := ui1156 :: ui1169 :: t
def cx_259q0 : zS := ((cx_259q0i_0 (cx_259q0i_1 (cx_259q0i_2 []))), [ur1098, ur1166, ur1167, ur1168, ur1103, ur1134, ur1099], [], [], [], [(1, (true, 0, 0, [(1, 1)]), 0, 0, 0, [(16, 1)]), (2, (true, 0, 0, [(1, 1)]), 0, 0, 0, [(17, 1)])], [uG1164, uG1165, (318, [uL104, uL79, uL131, uL238, uL210, uL211])])
/-- Planner.putUpon -/
def cx_259 : zCtx := (76, cx_259p, [cx_259q0], [uk1170, uk1171, uk1172], 65, 1, 64)
set_option maxRecDepth 1000000 in
theorem ck_259 : x_ok mLT1 [] mTS2 mTC2 mRUp cx_259 [] [(30, [1001073, 1001072, 1001062]), (48, [1001062]), (116, [1001074]), (118, [1001075, 1001076, 1001077, 1001078, 1001079, 1001080, 1001081, 1001082])] [] (65, []) 0 68 = true := by decide +kernel
theorem sn_259 {W : Bool} {X : List Int32} : y_Snd (mGw W) mLT1 (J2 W X) X cx_259 := y_ok J2_J mTS2_ok1 mTC2_ok1 mRUp_ok1 (fun _ h => absurd h List.not_mem_nil) ck_259
def cx_260pi_0 (t : List (Int × Int)) : List (Int × Int) := ui0 :: ui1153 :: (0, 5) :: ui600 :: ui877 :: ui49 :: ui49 :: ui49 :: t
def cx_260pi_1 (t : List (Int × Int)) : List (Int × Int) := ui49 :: t
def cx_260p : zS := ((cx_260pi_0 (cx_260pi_1 [])), [ur1098, ur1166, ur1167, ur1168, ur1103, ur1134, ur1099], [], [], [uV2, uV11, uV12], [uF40, uF1158, uF1159, uF1160, uF430, uF1161, uF1162], [uG1173, uG1174, uG1175, uG1176])
/-- Planner.build -/
def cx_260 : zCtx := (74, cx_260p, [([ui0, ui1153, (0, 5), ui600, ui877, ui49, ui49, ui49, ui49], [ur1098, ur1166, ur1167, ur1168, ur1103, ur1134, ur1099], [], [], [], [], [uG1176, (317, [uL23, uL98, (1, [(1, 6), (2, 1)])])])], [uk1170, uk1171, uk1172], 405, 2, 90)
def cz_260_0i_0 (t : List (Int × Int)) : List (Int × Int) := ui0 :: ui1153 :: (0, 5) :: ui600 :: ui877 :: ui49 :: ui49 :: ui49 :: t
def cz_260_0i_1 (t : List (Int × Int)) : List (Int × Int) := ui49 :: (0, 62) :: ui49 :: (0, 6) :: ui1156 :: ui1169 :: t
def cz_260_0f_0 (t : List zFa) : List zFa := uF40 :: uF1158 :: uF1159 :: uF1160 :: uF430 :: uF1161 :: uF1162 :: (1, (true, 0, 0, [(1, 6), (2, 1)]), 0, 0, 0, [(12, 1)]) :: t
def cz_260_0f_1 (t : List zFa) : List zFa := (2, (true, 0, 0, [(1, 6), (2, 1)]), 0, 0, 0, [(13, 1)]) :: t
def cz_260_0g_0 (t : List zTg) : List zTg := uG1173 :: uG1174 :: uG1175 :: uG1176 :: (325, [uL9, uL67, uL163]) :: (318, [uL23, uL9, uL67, uL193, uL212, uL205]) :: t
def cz_260_0 : zS := ((cz_260_0i_0 (cz_260_0i_1 [])), [ur1098, ur1166, ur1167, ur1168, ur1103, ur1134, ur1099], [uL1177, uL589, uL1178, uL1179, uL193, uL1180, uL163, uL1178], [uV2, uV11, uV12, (0, 0, 0, [(1, 6), (2, 1)]), uV799, uV854, uV873, uV113], [], (cz_260_0f_0 (cz_260_0f_1 [])), (cz_260_0g_0 []))
set_option maxRecDepth 1000000 in
theorem ck_260 : x_ok mLT1 [cx_257, cx_258, cx_259] mTS2 mTC2 mRUp cx_260 [(100, [0]), (103, [1]), (174, [2])] [(10, [1000797]), (12, [1000717]), (13, [1000668]), (14, [1001059, 1001060]), (57, [1001061, 1001062]), (110, [1001063, 1001064, 1001065, 1001066, 1001067]), (124, [1000797]), (125, [1000668]), (126, [1001051]), (147, [1001061, 1001068, 1001062]), (157, [1001069]), (174, [1001070, 1001071, 1001072]), (177, [1001083]), (183, [1001084])] [(112, cz_260_0, (250, [(11, (-41))]))] (314, []) 91 66 = true := by decide +kernel
theorem sn_260 {W : Bool} {X : List Int32} : y_Snd (mGw W) mLT1 (J2 W X) X cx_260 := y_ok J2_J mTS2_ok1 mTC2_ok1 mRUp_ok1 (List.forall_mem_cons.mpr ⟨sn_257, List.forall_mem_cons.mpr ⟨sn_258, List.forall_mem_cons.mpr ⟨sn_259, fun _ h => absurd h List.not_mem_nil⟩⟩⟩) ck_260
def cx_261pi_0 (t : List (Int × Int)) : List (Int × Int) := ui0 :: ui877 :: (0, 6) :: ui49 :: ui49 :: ui49 :: ui49 :: ui49 :: t
def cx_261pi_1 (t : List (Int × Int)) : List (Int × Int) := ui49 :: ui49 :: ui49 :: ui1118 :: t
def cx_261p : zS := ((cx_261pi_0 (cx_261pi_1 [])), [ur1098, ur442, ur443, ur1099], [uL9, uL1181], [], [uV2, uV11], [uF21, uF516, uF303, uF337, uF456], [(277, [uL98, uL104, uL78, uL79, uL131, uL163, uL169, uL193])])
/-- Planner.reaches -/
def cx_261 : zCtx := (77, cx_261p, [([ui0, ui877, (0, 6), ui49, ui49, ui49, ui49, ui49, ui49, ui49, ui49, ui1118, ui1182], [ur1098, ur442, ur443, ur1099], [(0, [(3, (-1)), (12, 1)])], [], [uV64], [], [uG1184]), ([ui0, ui877, (0, 6), ui49, ui49, ui49, ui49, ui49, ui49, ui49, ui49, ui1118, ui1182], [ur1098, ur442, ur443, ur1099], [((-1), [(3, 1), (12, (-1))])], [], [uV62], [], [uG1184])], [], 17, 0, 0)
set_option maxRecDepth 1000000 in
theorem ck_261 : x_ok mLT1 [] mTS2 mTC2 mRUp cx_261 [] [(16, [1001085])] [] (17, []) 0 20 = true := by decide +kernel
theorem sn_261 {W : Bool} {X : List Int32} : y_Snd (mGw W) mLT1 (J2 W X) X cx_261 := y_ok J2_J mTS2_ok1 mTC2_ok1 mRUp_ok1 (fun _ h => absurd h List.not_mem_nil) ck_261
def cx_262pi_0 (t : List (Int × Int)) : List (Int × Int) := ui0 :: ui1153 :: ui1154 :: ui49 :: ui49 :: ui49 :: ui600 :: ui49 :: t
def cx_262pi_1 (t : List (Int × Int)) : List (Int × Int) := ui877 :: (0, 5) :: t
def cx_262p : zS := ((cx_262pi_0 (cx_262pi_1 [])), [ur1098, ur1166, ur1167, ur1099], [], [], [uV2, uV11, uV12], [uF1185, uF1186, uF1187, uF1158, uF1159, uF456], [(322, [uL9, uL163, uL67]), uG1188, (326, [uL79, uL9]), uG1189, (324, [uL78, uL79, uL131, uL67, uL23, uL98, uL104])])
/-- Planner.note -/
def cx_262 : zCtx := (78, cx_262p, [([ui0, ui1153, ui1154, ui49, ui49, ui49, ui600, ui49, ui877, (0, 5), ui49, ui49, ui49], [ur1098, ur1166, ur1167, ur1099], [], [], [], [uF1190, (0, (false, 12, 0, []), 0, 0, 0, [(11, 1)]), uF1191], [uG1189, (324, [uL78, uL79, uL131, uL527, uL169, uL193, uL212])])], [uk1192, uk1193, uk1194, uk1195, uk1196], 105, 1, 64)
set_option maxRecDepth 1000000 in
theorem ck_262 : x_ok mLT1 [cx_257] mTS2 mTC2 mRUp cx_262 [(23, [0])] [(17, [1001089]), (21, [1001090]), (38, [1001091]), (53, [1001092, 1001062]), (65, [1000668]), (69, [1001093, 1001094])] [] (63, []) 42 66 = true := by decide +kernel
theorem sn_262 {W : Bool} {X : List Int32} : y_Snd (mGw W) mLT1 (J2 W X) X cx_262 := y_ok J2_J mTS2_ok1 mTC2_ok1 mRUp_ok1 (List.forall_mem_cons.mpr ⟨sn_257, fun _ h => absurd h List.not_mem_nil⟩) ck_262
def cx_263pi_0 (t : List (Int × Int)) : List (Int × Int) := ui0 :: ui1153 :: ui600 :: ui49 :: ui49 :: ui49 :: (0, 6) :: ui49 :: t
def cx_263pi_1 (t : List (Int × Int)) : List (Int × Int) := ui877 :: ui49 :: ui49 :: ui49 :: ui49 :: ui49 :: ui49 :: ui49 :: t
def cx_263pi_2 (t : List (Int × Int)) : List (Int × Int) := ui1118 :: t
def cx_263pr_0 (t : List (Nat × Bool)) : List (Nat × Bool) := ur1098 :: ur442 :: ur443 :: ur1166 :: ur1167 :: ur1168 :: ur1103 :: ur1134 :: t
def cx_263pr_1 (t : List (Nat × Bool)) : List (Nat × Bool) := ur1099 :: t
def cx_263pf_0 (t : List zFa) : List zFa := uF1197 :: uF1185 :: uF1186 :: uF1187 :: uF21 :: uF516 :: uF1198 :: uF186 :: t
def cx_263pf_1 (t : List zFa) : List zFa := uF1199 :: uF1200 :: uF1201 :: uF1202 :: uF1203 :: uF1204 :: t
def cx_263p : zS := ((cx_263pi_0 (cx_263pi_1 (cx_263pi_2 []))), (cx_263pr_0 (cx_263pr_1 [])), [uL1205], [], [uV2, uV11], (cx_263pf_0 (cx_263pf_1 [])), [uG1206, uG1188, (317, [uL67, uL131, uL1207]), (324, [uL67, uL79, uL131, uL1207, uL23, uL98, uL104])])
def cx_263q0i_0 (t : List (Int × Int)) : List (Int × Int) := ui0 :: ui1153 :: ui600 :: ui49 :: ui49 :: ui49 :: (0, 6) :: ui49 :: t
def cx_263q0i_1 (t : List (Int × Int)) : List (Int × Int) := ui877 :: ui49 :: ui49 :: ui49 :: ui49 :: ui49 :: ui49 :: ui49 :: t
def cx_263q0i_2 (t : List (Int × Int)) : List (Int × Int) := ui1118 :: ui49 :: ui49 :: ui49 :: t
def cx_263q0 : zS := ((cx_263q0i_0 (cx_263q0i_1 (cx_263q0i_2 []))), (cx_263pr_0 (cx_263pr_1 [])), [], [], [], [(0, (false, 11, 0, []), 0, 0, 0, [(17, 1)]), (0, (false, 12, 0, []), 0, 0, 0, [(18, 1)]), uF1208], [(317, [uL67, uL131, uL1209]), (324, [uL67, uL79, uL131, uL1209, uL211, uL275, uL352])])
/-- Planner.surveySet -/
def cx_263 : zCtx := (73, cx_263p, [cx_263q0], kc_55, 580, 3, 117)
def cz_263_0i_0 (t : List (Int × Int)) : List (Int × Int) := ui0 :: ui1153 :: ui600 :: ui49 :: ui49 :: ui49 :: (0, 6) :: ui49 :: t
def cz_263_0i_1 (t : List (Int × Int)) : List (Int × Int) := ui877 :: ui49 :: ui49 :: ui49 :: ui49 :: ui49 :: ui49 :: ui49 :: t
def cz_263_0i_2 (t : List (Int × Int)) : List (Int × Int) := ui1118 :: (0, 6) :: ui49 :: ui49 :: ui49 :: t
def cz_263_0f_0 (t : List zFa) : List zFa := uF1197 :: uF1210 :: uF1211 :: uF1212 :: uF21 :: uF516 :: uF1198 :: uF186 :: t
def cz_263_0f_1 (t : List zFa) : List zFa := uF1199 :: uF1200 :: uF1201 :: uF1202 :: uF1203 :: uF1204 :: t
def cz_263_0 : zS := ((cz_263_0i_0 (cz_263_0i_1 (cz_263_0i_2 []))), (cx_263pr_0 (cx_263pr_1 [])), [uL1205, uL211, (6, [(17, (-1))])], [uV2, uV11, uV1213], [], (cz_263_0f_0 (cz_263_0f_1 [])), [uG1206, uG1188, (317, [uL67, uL131, uL1214]), (324, [uL67, uL79, uL131, uL1214, uL275, uL352, uL407])])
set_option maxRecDepth 1000000 in
theorem ck_263 : x_ok mLT1 [cx_260, cx_261, cx_262] mTS2 mTC2 mRUp cx_263 [(19, [0]), (24, [1]), (38, [2])] [(11, [1000797]), (12, [1000668]), (13, [1001051]), (16, [1001058]), (30, [1001088]), (41, [1001086, 1001087])] [(2, cz_263_0, (172, [(17, (-28))]))] (175, []) 405 30 = true := by decide +kernel
theorem sn_263 {W : Bool} {X : List Int32} : y_Snd (mGw W) mLT1 (J2 W X) X cx_263 := y_ok J2_J mTS2_ok1 mTC2_ok1 mRUp_ok1 (List.forall_mem_cons.mpr ⟨sn_260, List.forall_mem_cons.mpr ⟨sn_261, List.forall_mem_cons.mpr ⟨sn_262, fun _ h => absurd h List.not_mem_nil⟩⟩⟩) ck_263
def cx_264pi_0 (t : List (Int × Int)) : List (Int × Int) := ui0 :: ui600 :: ui49 :: ui877 :: ui49 :: ui49 :: ui49 :: (0, 6) :: t
def cx_264pi_1 (t : List (Int × Int)) : List (Int × Int) := ui49 :: ui49 :: ui49 :: ui49 :: ui49 :: ui49 :: ui49 :: ui49 :: t
def cx_264pi_2 (t : List (Int × Int)) : List (Int × Int) := ui1118 :: ui1215 :: t
def cx_264pf_0 (t : List zFa) : List zFa := uF1197 :: uF1216 :: uF1217 :: uF1218 :: uF1219 :: uF21 :: uF516 :: uF1220 :: t
def cx_264pf_1 (t : List zFa) : List zFa := uF221 :: uF1199 :: uF1200 :: uF1201 :: uF1202 :: uF1203 :: uF1204 :: t
def cx_264pg_0 (t : List zTg) : List zTg := uG1206 :: uG1221 :: uG1222 :: uG1223 :: (315, [uL163, uL169, uL193, uL212, uL205, uL206, uL207, uL79]) :: (316, [uL163, uL169, uL193, uL212, uL205, uL206, uL207, uL79, uL63, (0, [(7, 6)]), uL211]) :: t
def cx_264p : zS := ((cx_264pi_0 (cx_264pi_1 (cx_264pi_2 []))), (cx_263pr_0 (cx_263pr_1 [])), [uL1224], [], [uV2, uV11], (cx_264pf_0 (cx_264pf_1 [])), (cx_264pg_0 []))
def cx_264q0i_0 (t : List (Int × Int)) : List (Int × Int) := ui0 :: ui600 :: ui49 :: ui877 :: ui49 :: ui49 :: ui49 :: (0, 6) :: t
def cx_264q0i_1 (t : List (Int × Int)) : List (Int × Int) := ui49 :: ui49 :: ui49 :: ui49 :: ui49 :: ui49 :: ui49 :: ui49 :: t
def cx_264q0i_2 (t : List (Int × Int)) : List (Int × Int) := ui1118 :: ui1215 :: ui49 :: ui49 :: ui49 :: t
def cx_264q0g_0 (t : List zTg) : List zTg := uG1206 :: uG1221 :: uG1222 :: uG1223 :: (317, [uL9, uL23, uL1225]) :: (324, [uL9, uL131, uL23, uL1225, uL275, uL352, uL407]) :: t
def cx_264q0 : zS := ((cx_264q0i_0 (cx_264q0i_1 (cx_264q0i_2 []))), (cx_263pr_0 (cx_263pr_1 [])), [], [], [], [uF1210, uF1211, uF1212], (cx_264q0g_0 []))
/-- Planner.survey -/
def cx_264 : zCtx := (72, cx_264p, [cx_264q0], kc_56, 1614, 4, 139)
def cz_264_0i_0 (t : List (Int × Int)) : List (Int × Int) := ui0 :: ui600 :: ui49 :: ui877 :: ui49 :: ui49 :: ui49 :: (0, 6) :: t
def cz_264_0i_1 (t : List (Int × Int)) : List (Int × Int) := ui49 :: ui49 :: ui49 :: ui49 :: ui49 :: ui49 :: ui49 :: ui49 :: t
def cz_264_0i_2 (t : List (Int × Int)) : List (Int × Int) := ui1118 :: ui1215 :: ui1118 :: ui49 :: ui49 :: ui49 :: t
def cz_264_0f_0 (t : List zFa) : List zFa := uF1208 :: (0, (false, 12, 0, []), 0, 0, 0, [(20, 1)]) :: (0, (false, 11, 0, []), 0, 0, 0, [(21, 1)]) :: uF1226 :: uF1216 :: uF21 :: uF516 :: uF1220 :: t
def cz_264_0f_1 (t : List zFa) : List zFa := uF221 :: uF1199 :: uF1200 :: uF1201 :: uF1202 :: uF1203 :: uF1204 :: t
def cz_264_0g_0 (t : List zTg) : List zTg := uG1206 :: uG1221 :: uG1222 :: uG1223 :: (317, [uL9, uL23, uL1227]) :: (324, [uL9, uL131, uL23, uL1227, uL1228, uL407, uL352]) :: t
def cz_264_0 : zS := ((cz_264_0i_0 (cz_264_0i_1 (cz_264_0i_2 []))), (cx_263pr_0 (cx_263pr_1 [])), [uL1224, uL1229, (64, [(18, (-1))])], [uV2, uV11, uV1230], [], (cz_264_0f_0 (cz_264_0f_1 [])), (cz_264_0g_0 []))
set_option maxRecDepth 1000000 in
theorem ck_264 : x_ok mLT1 [cx_263] mTS2 mTC2 mRUp cx_264 [(56, [0])] [(35, [1001055]), (49, [1000717]), (50, [1000668]), (51, [1001051]), (54, [1001056, 1001057]), (59, [1001095])] [(37, cz_264_0, (1028, [(18, (-16))]))] (1034, []) 580 24 = true := by decide +kernel
theorem sn_264 {W : Bool} {X : List Int32} : y_Snd (mGw W) mLT1 (J2 W X) X cx_264 := y_ok J2_J mTS2_ok1 mTC2_ok1 mRUp_ok1 (List.forall_mem_cons.mpr ⟨sn_263, fun _ h => absurd h List.not_mem_nil⟩) ck_264
def cx_265pr_0 (t : List (Nat × Bool)) : List (Nat × Bool) := ur441 :: ur442 :: ur443 :: ur545 :: ur431 :: ur588 :: ur562 :: ur432 :: t
def cx_265pr_1 (t : List (Nat × Bool)) : List (Nat × Bool) := ur426 :: ur563 :: ur564 :: ur565 :: ur536 :: ur1098 :: ur1099 :: ur1103 :: t
def cx_265pr_2 (t : List (Nat × Bool)) : List (Nat × Bool) := ur1134 :: ur1166 :: ur1167 :: ur1168 :: t
def cx_265pf_0 (t : List zFa) : List zFa := uF13 :: uF516 :: uF555 :: uF556 :: uF152 :: uF567 :: uF616 :: uF617 :: t
def cx_265pf_1 (t : List zFa) : List zFa := uF618 :: uF619 :: uF605 :: uF410 :: uF606 :: uF607 :: uF608 :: uF609 :: t
def cx_265pf_2 (t : List zFa) : List zFa := uF610 :: uF464 :: uF186 :: uF1231 :: uF1232 :: uF1233 :: uF1234 :: uF1235 :: t
def cx_265pf_3 (t : List zFa) : List zFa := uF1236 :: uF1237 :: uF1238 :: t
def cx_265p : zS := ([ui0, ui49, ui31, (0, 6), (0, 6), ui49, ui49, ui49], (cx_265pr_0 (cx_265pr_1 (cx_265pr_2 []))), [], [], [uV2, uV11], (cx_265pf_0 (cx_265pf_1 (cx_265pf_2 (cx_265pf_3 [])))), [uG620])
def cx_265q0 : zS := ([ui0, ui260, ui31, (0, 6), (0, 6), ui49, ui49, ui49], (cx_265pr_0 (cx_265pr_1 (cx_265pr_2 []))), [], [], [uV61], [uF616, uF617, uF618, uF619], [uG620])
def cx_265q1 : zS := ([ui0, ui820, ui31, (0, 6), (0, 6), ui49, ui49, ui49], (cx_265pr_0 (cx_265pr_1 (cx_265pr_2 []))), [], [], [uV61], [uF616, uF617, uF618, uF619], [uG620])
def cx_265q2i_0 (t : List (Int × Int)) : List (Int × Int) := ui0 :: ui600 :: ui31 :: (0, 6) :: (0, 6) :: ui49 :: ui49 :: ui49 :: t
def cx_265q2i_1 (t : List (Int × Int)) : List (Int × Int) := ui49 :: t
def cx_265q2 : zS := ((cx_265q2i_0 (cx_265q2i_1 [])), (cx_265pr_0 (cx_265pr_1 (cx_265pr_2 []))), [], [], [uV144], [uF616, uF617, uF618, uF619], [uG620, (260, [uL1239, uL67, uL63, uL63, uL63, uL63, uL63, uL63, uL9, uL79, uL131])])
/-- HairRope.orders -/
def cx_265 : zCtx := (159, cx_265p, [cx_265q0, cx_265q1, cx_265q2], kc_57, 54892, 5, 161)
set_option maxRecDepth 1000000 in
theorem ck_265 : x_ok mLT1 [cx_195, cx_256, cx_264] mTS2 mTC2 mRUp cx_265 [(1, [0]), (17, [1]), (25, [2])] [(17, [1000733]), (35, [1000799])] [] (16, []) 54876 19 = true := by decide +kernel
theorem sn_265 {W : Bool} {X : List Int32} : y_Snd (mGw W) mLT1 (J2 W X) X cx_265 := y_ok J2_J mTS2_ok1 mTC2_ok1 mRUp_ok1 (List.forall_mem_cons.mpr ⟨sn_195, List.forall_mem_cons.mpr ⟨sn_256, List.forall_mem_cons.mpr ⟨sn_264, fun _ h => absurd h List.not_mem_nil⟩⟩⟩) ck_265
def cx_266pf_0 (t : List zFa) : List zFa := uF13 :: uF516 :: uF555 :: uF805 :: uF303 :: uF567 :: uF806 :: uF807 :: t
def cx_266pf_1 (t : List zFa) : List zFa := uF808 :: uF809 :: uF605 :: uF410 :: uF606 :: uF607 :: uF608 :: uF609 :: t
def cx_266pf_2 (t : List zFa) : List zFa := uF610 :: uF464 :: uF154 :: uF1231 :: uF1232 :: uF1233 :: uF1234 :: uF1235 :: t
def cx_266pf_3 (t : List zFa) : List zFa := uF1236 :: uF1237 :: uF1238 :: t
def cx_266p : zS := ([ui0, ui31, (0, 6), (0, 6), ui49, ui49, ui49], (cx_265pr_0 (cx_265pr_1 (cx_265pr_2 []))), [], [], [uV2], (cx_266pf_0 (cx_266pf_1 (cx_266pf_2 (cx_266pf_3 [])))), [uG812])
def cx_266q0 : zS := ([ui0, ui31, (0, 6), (0, 6), ui49, ui49, ui49, ui49], (cx_265pr_0 (cx_265pr_1 (cx_265pr_2 []))), [], [], [uV142], [uF806, uF807, uF808, uF809], [uG812, (260, [uL1240, uL9, uL63, uL63, uL63, uL63, uL63, uL63, uL78, uL63, uL79])])
def cx_266q1 : zS := ([ui0, ui31, (0, 6), (0, 6), ui49, ui49, ui49], (cx_265pr_0 (cx_265pr_1 (cx_265pr_2 []))), [], [], [uV583], [uF806, uF807, uF808, uF809], [uG812, (260, [uL1240, uL9, uL63, uL63, uL63, uL63, uL63, uL63, uL78, uL63, uL825])])
/-- HairRope.peak -/
def cx_266 : zCtx := (160, cx_266p, [cx_266q0, cx_266q1], kc_57, 54894, 5, 161)
set_option maxRecDepth 1000000 in
theorem ck_266 : x_ok mLT1 [cx_256, cx_264] mTS2 mTC2 mRUp cx_266 [(8, [0]), (16, [1])] [(8, [1000733]), (41, [1000800, 1000801])] [] (18, []) 54876 21 = true := by decide +kernel
theorem sn_266 {W : Bool} {X : List Int32} : y_Snd (mGw W) mLT1 (J2 W X) X cx_266 := y_ok J2_J mTS2_ok1 mTC2_ok1 mRUp_ok1 (List.forall_mem_cons.mpr ⟨sn_256, List.forall_mem_cons.mpr ⟨sn_264, fun _ h => absurd h List.not_mem_nil⟩⟩) ck_266
/-- State.placeOf -/
def cx_267 : zCtx := (101, ([ui0, ui49, (0, 6)], [ur431], [], [], [uV2, uV11], [uF39], []), [([ui0, ui49, (1, 6), (0, 5)], [ur431], [uL838], [], [uV58], [], []), ([ui0, ui49, (0, 6)], [ur431], [], [], [uV61], [], [])], [], 105, 0, 0)
set_option maxRecDepth 1000000 in
theorem ck_267 : x_ok mLT1 [] mTS2 mTC2 mRUp cx_267 [] [] [(2, ([(0, 3072), ((-2147483648), 2147483647), (0, 6), (0, 6)], [(6, false)], [], [(2, 0, 0, []), (0, 0, 0, [(1, 1)]), (0, 0, 0, [(3, 1)])], [], [(0, (false, 6, 0, []), 0, 0, 0, [(2, 1)])], []), (102, [(3, (-16))]))] (105, []) 0 18 = true := by decide +kernel
theorem sn_267 {W : Bool} {X : List Int32} : y_Snd (mGw W) mLT1 (J2 W X) X cx_267 := y_ok J2_J mTS2_ok1 mTC2_ok1 mRUp_ok1 (fun _ h => absurd h List.not_mem_nil) ck_267
/-- Rules.strongOf -/
def cx_268 : zCtx := (89, ([ui0, ui49, ui243], [ur442, ur431], [], [], [uV2, uV419, uV11, uV12], [], []), [([ui0, ui49, ui243, ui49], [ur442, ur431], [], [], [uV58], [], [])], [], 14, 0, 0)
set_option maxRecDepth 1000000 in
theorem ck_268 : x_ok mLT1 [] mTS2 mTC2 mRUp cx_268 [] [] [] (14, []) 0 17 = true := by decide +kernel
theorem sn_268 {W : Bool} {X : List Int32} : y_Snd (mGw W) mLT1 (J2 W X) X cx_268 := y_ok J2_J mTS2_ok1 mTC2_ok1 mRUp_ok1 (fun _ h => absurd h List.not_mem_nil) ck_268
/-- Planner.addToSums -/
def cx_269 : zCtx := (69, ([ui0, ui1097, ui49], [ur1098], [], [], [uV2, uV11, uV12], [], []), [([ui0, ui1097, ui49], [ur1098], [], [], [], [], [])], [uk1102], 766, 0, 0)
set_option maxRecDepth 1000000 in
theorem ck_269 : x_ok mLT1 [] mTS2 mTC2 mRUp cx_269 [] [(9, [1000667]), (22, [1000796])] [(2, ([(0, 3072), (1, 32), ((-2147483648), 2147483647), (0, 33)], [(9, false)], [], [(2, 0, 0, []), (0, 0, 0, [(1, 1)]), (0, 0, 0, [(2, 1)]), (0, 0, 0, [(3, 1)])], [], [], []), (763, [(3, (-23))]))] (766, []) 0 25 = true := by decide +kernel
theorem sn_269 {W : Bool} {X : List Int32} : y_Snd (mGw W) mLT1 (J2 W X) X cx_269 := y_ok J2_J mTS2_ok1 mTC2_ok1 mRUp_ok1 (fun _ h => absurd h List.not_mem_nil) ck_269
/-- Planner.lookAtHouses -/
def cx_270 : zCtx := (68, ([ui0, ui877], [ur1098, ur431], [], [], [uV2, uV419], [uF1104], []), [([ui0, ui877, ui877], [ur1098, ur431], [], [], [], [uF1133], [])], [uk1125, uk1126, uk1102], 1085, 1, 23)
set_option maxRecDepth 1000000 in
theorem ck_270 : x_ok mLT1 [cx_267, cx_268, cx_269] mTS2 mTC2 mRUp cx_270 [(29, [0]), (66, [1]), (97, [2])] [] [(7, ([(0, 3072), (0, 63), (0, 6), (0, 63)], [(9, false), (6, false)], [], [(2, 0, 0, []), (2, 1, 0, []), (0, 0, 0, [(2, 1)]), (5, 0, 0, []), (5, 0, 0, [])], [], [(0, (false, 10, 0, []), 0, 0, 0, [(3, 1)])], []), (313, [(2, (-51))]))] (319, []) 766 53 = true := by decide +kernel
theorem sn_270 {W : Bool} {X : List Int32} : y_Snd (mGw W) mLT1 (J2 W X) X cx_270 := y_ok J2_J mTS2_ok1 mTC2_ok1 mRUp_ok1 (List.forall_mem_cons.mpr ⟨sn_267, List.forall_mem_cons.mpr ⟨sn_268, List.forall_mem_cons.mpr ⟨sn_269, fun _ h => absurd h List.not_mem_nil⟩⟩⟩) ck_270
/-- Rules.lookAt -/
def cx_271 : zCtx := (88, ([ui0, ui49, ui243], [ur442, ur431, ur536], [], [], [uV2, uV419, uV11, uV12], [uF22], []), [([ui0, ui49, ui243], [ur442, ur431, ur536], [], [], [], [], [])], [uk542], 79, 1, 64)
set_option maxRecDepth 1000000 in
theorem ck_271 : x_ok mLT1 [cx_268] mTS2 mTC2 mRUp cx_271 [(32, [0])] [] [] (65, []) 14 68 = true := by decide +kernel
theorem sn_271 {W : Bool} {X : List Int32} : y_Snd (mGw W) mLT1 (J2 W X) X cx_271 := y_ok J2_J mTS2_ok1 mTC2_ok1 mRUp_ok1 (List.forall_mem_cons.mpr ⟨sn_268, fun _ h => absurd h List.not_mem_nil⟩) ck_271
/-- Rules.joinOf -/
def cx_272 : zCtx := (90, ([ui0, ui49, ui49, ui49], [ur442, ur431], [], [], [uV2, uV419, uV11, uV12, uV58], [], []), [([ui0, ui49, ui49, ui49, ui600], [ur442, ur431], [], [], [uV97], [], [])], [uk553, uk542], 52984, 2, 87)
set_option maxRecDepth 1000000 in
theorem ck_272 : x_ok mLT1 [cx_267, cx_271, cx_268, cx_136] mTS2 mTC2 mRUp cx_272 [(5, [0]), (8, [1]), (30, [0]), (33, [2]), (53, [3])] [] [] (35, []) 52949 38 = true := by decide +kernel
theorem sn_272 {W : Bool} {X : List Int32} : y_Snd (mGw W) mLT1 (J2 W X) X cx_272 := y_ok J2_J mTS2_ok1 mTC2_ok1 mRUp_ok1 (List.forall_mem_cons.mpr ⟨sn_267, List.forall_mem_cons.mpr ⟨sn_271, List.forall_mem_cons.mpr ⟨sn_268, List.forall_mem_cons.mpr ⟨sn_136, fun _ h => absurd h List.not_mem_nil⟩⟩⟩⟩) ck_272
/-- Planner.findJoins -/
def cx_273 : zCtx := (70, ([ui0, (0, 0), ui877], [ur1098, ur431, ur1134], [], [], [uV2, uV419, uV777, uV11], [uF1133], []), [([ui0, (0, 0), ui877], [ur1098, ur431, ur1134], [], [], [], [], [])], [uk553, uk542, uk1140], 54866, 3, 111)
set_option maxRecDepth 1000000 in
theorem ck_273 : x_ok mLT1 [cx_254, cx_142, cx_272] mTS2 mTC2 mRUp cx_273 [(56, [0]), (65, [0]), (98, [1]), (117, [2])] [] [(3, ([(0, 3072), (0, 0), (0, 63), (0, 6)], [(9, false), (6, false), (35, false)], [], [(2, 0, 0, []), (2, 1, 0, []), (2, 2, 0, []), (0, 0, 0, [(1, 1)]), (0, 0, 0, [(3, 1)]), (5, 0, 0, []), (5, 0, 0, []), (5, 0, 0, [])], [], [(0, (false, 10, 0, []), 0, 0, 0, [(2, 1)])], []), (1879, [(1, (-100000000000)), (3, (-312))])), (21, ([(0, 3072), (0, 0), (0, 63), (0, 5), (0, 6), (1, 6)], [(9, false), (6, false), (35, false), (5, false), (2, false)], [], [(2, 0, 0, []), (2, 1, 0, []), (2, 2, 0, []), (0, 0, 0, [(1, 1)]), (0, 0, 0, [(3, 1)]), (0, 0, 0, [(4, 1)]), (5, 0, 0, []), (5, 0, 0, [])], [], [(0, (false, 0, 0, []), 2, 3, 0, []), (0, (false, 10, 0, []), 0, 0, 0, [(2, 1)]), (3, (false, 3, 0, []), 2, 4, 0, []), (4, (false, 5, 0, []), 0, 0, 0, [(5, 1)])], []), (1870, [(1, (-100000000000)), (3, (-312)), (4, (-49))]))] (1882, []) 52984 51 = true := by decide +kernel
theorem sn_273 {W : Bool} {X : List Int32} : y_Snd (mGw W) mLT1 (J2 W X) X cx_273 := y_ok J2_J mTS2_ok1 mTC2_ok1 mRUp_ok1 (List.forall_mem_cons.mpr ⟨sn_254, List.forall_mem_cons.mpr ⟨sn_142, List.forall_mem_cons.mpr ⟨sn_272, fun _ h => absurd h List.not_mem_nil⟩⟩⟩) ck_273
/-- Planner.lookAt -/
def cx_274 : zCtx := (67, ([ui0, ui877], [ur1098, ur431], [], [], [uV2, uV419], [uF1104], []), [([ui0, ui877, ui877], [ur1098, ur431], [], [], [], [uF1133], [])], [uk1125, uk553, uk542, uk1126, uk1140, uk1102], 54876, 4, 138)
set_option maxRecDepth 1000000 in
theorem ck_274 : x_ok mLT1 [cx_270, cx_273] mTS2 mTC2 mRUp cx_274 [(2, [0]), (12, [1])] [] [] (10, []) 54866 13 = true := by decide +kernel
theorem sn_274 {W : Bool} {X : List Int32} : y_Snd (mGw W) mLT1 (J2 W X) X cx_274 := y_ok J2_J mTS2_ok1 mTC2_ok1 mRUp_ok1 (List.forall_mem_cons.mpr ⟨sn_270, List.forall_mem_cons.mpr ⟨sn_273, fun _ h => absurd h List.not_mem_nil⟩⟩) ck_274
/-- Planner.putUpon -/
def cx_275 : zCtx := (76, ([ui0, ui1154, ui1241, ui49, ui49, ui600], [ur1098], [], [], [uV2, uV11, uV12, uV58, uV97], [uF783], []), [([ui0, ui1154, ui1241, ui49, ui49, ui600], [ur1098], [], [], [], [], [])], [uk1170, uk1171, uk1172], 65, 1, 64)
set_option maxRecDepth 1000000 in
theorem ck_275 : x_ok mLT1 [] mTS2 mTC2 mRUp cx_275 [] [] [] (65, []) 0 68 = true := by decide +kernel
theorem sn_275 {W : Bool} {X : List Int32} : y_Snd (mGw W) mLT1 (J2 W X) X cx_275 := y_ok J2_J mTS2_ok1 mTC2_ok1 mRUp_ok1 (fun _ h => absurd h List.not_mem_nil) ck_275
/-- Planner.build -/
def cx_276 : zCtx := (74, ([ui0, ui1153, (0, 5), ui600], [ur1098], [], [], [uV2, uV11, uV12], [uF40], []), [([ui0, ui1153, (0, 5), ui600], [ur1098], [uL1177, uL589], [], [], [], [])], [uk1170, uk1171, uk1172], 405, 2, 90)
set_option maxRecDepth 1000000 in
theorem ck_276 : x_ok mLT1 [cx_257, cx_258, cx_275] mTS2 mTC2 mRUp cx_276 [(100, [0]), (103, [1]), (174, [2])] [] [(112, ([(0, 3072), (1, 63), (0, 5), (0, 999), (0, 63), ((-2147483648), 2147483647), (0, 6)], [(9, false), (39, false), (38, false), (37, false)], [(383, [(1, (-6)), (2, (-1))]), (0, [(1, 6), (2, 1)])], [(2, 0, 0, []), (0, 0, 0, [(1, 1)]), (0, 0, 0, [(2, 1)]), (0, 0, 0, [(1, 6), (2, 1)]), (0, 0, 0, [(4, 1)]), (0, 0, 0, [(5, 1)]), (0, 0, 0, [(6, 1)]), (5, 0, 0, [])], [], [(0, (false, 6, 0, []), 2, 1, 0, []), (0, (false, 5, 0, []), 2, 2, 0, []), (0, (false, 4, 0, []), 2, 3, 0, []), (0, (false, 7, 0, []), 0, 0, 0, [(3, 1)])], []), (250, [(6, (-41))]))] (314, []) 91 66 = true := by decide +kernel
theorem sn_276 {W : Bool} {X : List Int32} : y_Snd (mGw W) mLT1 (J2 W X) X cx_276 := y_ok J2_J mTS2_ok1 mTC2_ok1 mRUp_ok1 (List.forall_mem_cons.mpr ⟨sn_257, List.forall_mem_cons.mpr ⟨sn_258, List.forall_mem_cons.mpr ⟨sn_275, fun _ h => absurd h List.not_mem_nil⟩⟩⟩) ck_276
/-- Planner.reaches -/
def cx_277 : zCtx := (77, ([ui0, ui877], [ur1098], [], [], [uV2, uV11], [], []), [([ui0, ui877], [ur1098], [], [], [uV64], [], []), ([ui0, ui877], [ur1098], [], [], [uV62], [], [])], [], 17, 0, 0)
set_option maxRecDepth 1000000 in
theorem ck_277 : x_ok mLT1 [] mTS2 mTC2 mRUp cx_277 [] [] [] (17, []) 0 20 = true := by decide +kernel
theorem sn_277 {W : Bool} {X : List Int32} : y_Snd (mGw W) mLT1 (J2 W X) X cx_277 := y_ok J2_J mTS2_ok1 mTC2_ok1 mRUp_ok1 (fun _ h => absurd h List.not_mem_nil) ck_277
/-- Planner.note -/
def cx_278 : zCtx := (78, ([ui0, ui1153, ui1154, ui49, ui1242, ui877], [ur1098], [], [], [uV2, uV11, uV12], [uF1185, uF1186, uF1187], []), [([ui0, ui1153, ui1154, ui49, ui1242, ui877, ui49, ui1242, ui877], [ur1098], [], [], [], [uF1243, uF1244, uF1245], [])], [uk1192, uk1193, uk1194, uk1195, uk1196], 105, 1, 64)
set_option maxRecDepth 1000000 in
theorem ck_278 : x_ok mLT1 [cx_257] mTS2 mTC2 mRUp cx_278 [(23, [0])] [] [] (63, []) 42 66 = true := by decide +kernel
theorem sn_278 {W : Bool} {X : List Int32} : y_Snd (mGw W) mLT1 (J2 W X) X cx_278 := y_ok J2_J mTS2_ok1 mTC2_ok1 mRUp_ok1 (List.forall_mem_cons.mpr ⟨sn_257, fun _ h => absurd h List.not_mem_nil⟩) ck_278
/-- Planner.surveySet -/
def cx_279 : zCtx := (73, ([ui0, ui1153, ui600, ui49, ui1242, ui877], [ur1098], [], [], [uV2, uV11], [uF1197, uF1185, uF1186, uF1187], []), [([ui0, ui1153, ui600, ui49, ui1242, ui877, ui49, ui1242, ui877], [ur1098], [], [], [], [uF1243, uF1244, uF1245], [])], kc_55, 580, 3, 117)
set_option maxRecDepth 1000000 in
theorem ck_279 : x_ok mLT1 [cx_276, cx_277, cx_278] mTS2 mTC2 mRUp cx_279 [(19, [0]), (24, [1]), (38, [2])] [] [(2, ([(0, 3072), (1, 63), (0, 999), ((-2147483648), 2147483647), ((-2), 2147483647), (0, 63), (0, 6), ((-2147483648), 2147483647), ((-2), 2147483647), (0, 63)], [(9, false)], [], [(2, 0, 0, []), (0, 0, 0, [(1, 1)]), (0, 0, 0, [(6, 1)])], [], [(0, (false, 7, 0, []), 0, 0, 0, [(2, 1)]), (0, (false, 11, 0, []), 0, 0, 0, [(7, 1)]), (0, (false, 12, 0, []), 0, 0, 0, [(8, 1)]), (0, (false, 14, 0, []), 0, 0, 0, [(9, 1)])], []), (172, [(6, (-28))]))] (175, []) 405 30 = true := by decide +kernel
theorem sn_279 {W : Bool} {X : List Int32} : y_Snd (mGw W) mLT1 (J2 W X) X cx_279 := y_ok J2_J mTS2_ok1 mTC2_ok1 mRUp_ok1 (List.forall_mem_cons.mpr ⟨sn_276, List.forall_mem_cons.mpr ⟨sn_277, List.forall_mem_cons.mpr ⟨sn_278, fun _ h => absurd h List.not_mem_nil⟩⟩⟩) ck_279
/-- Planner.survey -/
def cx_280 : zCtx := (72, ([ui0, ui600, ui49, ui877, ui49, ui49, ui49], [ur1098], [], [], [uV2, uV11], [uF1197, uF1216, uF1217, uF1218, uF1219], []), [([ui0, ui600, ui49, ui877, ui49, ui49, ui49, ui877, ui1242, ui49], [ur1098], [], [], [], [uF1246, (0, (false, 12, 0, []), 0, 0, 0, [(8, 1)]), (0, (false, 11, 0, []), 0, 0, 0, [(9, 1)]), uF1226], [])], kc_56, 1614, 4, 139)
set_option maxRecDepth 1000000 in
theorem ck_280 : x_ok mLT1 [cx_279] mTS2 mTC2 mRUp cx_280 [(56, [0])] [] [(37, ([(0, 3072), (0, 999), ((-2147483648), 2147483647), (0, 63), ((-2147483648), 2147483647), ((-2147483648), 2147483647), ((-2147483648), 2147483647), (1, 64), (0, 63), ((-2), 2147483647), ((-2147483648), 2147483647)], [(9, false)], [], [(2, 0, 0, []), (0, 0, 0, [(1, 1)]), (0, 0, 0, [(7, 1)])], [], [(0, (false, 14, 0, []), 0, 0, 0, [(8, 1)]), (0, (false, 12, 0, []), 0, 0, 0, [(9, 1)]), (0, (false, 11, 0, []), 0, 0, 0, [(10, 1)]), (0, (false, 7, 0, []), 0, 0, 0, [(1, 1)]), (0, (false, 10, 0, []), 0, 0, 0, [(3, 1)])], []), (1028, [(7, (-16))]))] (1034, []) 580 24 = true := by decide +kernel
theorem sn_280 {W : Bool} {X : List Int32} : y_Snd (mGw W) mLT1 (J2 W X) X cx_280 := y_ok J2_J mTS2_ok1 mTC2_ok1 mRUp_ok1 (List.forall_mem_cons.mpr ⟨sn_279, fun _ h => absurd h List.not_mem_nil⟩) ck_280
/-- Planner.fewestHouseAt -/
def cx_281 : zCtx := (79, ([ui0, ui49], [ur1098], [], [], [uV2, uV11], [], []), [([ui0, ui1247], [ur1098], [], [], [uV61], [], []), ([ui0, ui1247, ui1248], [ur1098], [], [], [uV12], [], []), ([ui0, ui517], [ur1098], [], [], [uV61], [], []), ([ui0, ui260], [ur1098], [], [], [uV61], [], [])], [], 119, 1, 22)
set_option maxRecDepth 1000000 in
theorem ck_281 : x_ok mLT1 [cx_258] mTS2 mTC2 mRUp cx_281 [(31, [0])] [] [] (28, []) 91 31 = true := by decide +kernel
theorem sn_281 {W : Bool} {X : List Int32} : y_Snd (mGw W) mLT1 (J2 W X) X cx_281 := y_ok J2_J mTS2_ok1 mTC2_ok1 mRUp_ok1 (List.forall_mem_cons.mpr ⟨sn_258, fun _ h => absurd h List.not_mem_nil⟩) ck_281
/-- HairRope.fewest -/
def cx_282 : zCtx := (161, ([ui0, ui49, ui49], [ur441], [], [], [uV2, uV11, uV12], [], []), [([ui0, ui260, ui49], [ur441], [], [], [uV61], [], []), ([ui0, ui820, ui49], [ur441], [], [], [uV61], [], []), ([ui0, ui600, ui49], [ur441], [], [], [uV583], [], []), ([ui0, ui600, ui124, ui49], [ur441], [], [], [uV58], [], []), ([ui0, ui600, ui1249], [ur441], [], [], [uV61], [], []), ([ui0, ui600, ui517], [ur441], [], [], [uV61], [], []), ([ui0, ui600, ui1247, ui1248], [ur441], [], [], [uV58], [], [])], kc_57, 54900, 5, 161)
set_option maxRecDepth 1000000 in
theorem ck_282 : x_ok mLT1 [cx_195, cx_274, cx_280, cx_281] mTS2 mTC2 mRUp cx_282 [(1, [0]), (17, [1]), (25, [2]), (61, [3])] [] [] (24, []) 54876 27 = true := by decide +kernel
theorem sn_282 {W : Bool} {X : List Int32} : y_Snd (mGw W) mLT1 (J2 W X) X cx_282 := y_ok J2_J mTS2_ok1 mTC2_ok1 mRUp_ok1 (List.forall_mem_cons.mpr ⟨sn_195, List.forall_mem_cons.mpr ⟨sn_274, List.forall_mem_cons.mpr ⟨sn_280, List.forall_mem_cons.mpr ⟨sn_281, fun _ h => absurd h List.not_mem_nil⟩⟩⟩⟩) ck_282
def cx_283q2 : zS := ((cx_265q2i_0 (cx_265q2i_1 [])), (cx_265pr_0 (cx_265pr_1 (cx_265pr_2 []))), [], [], [uV144], [uF616, uF617, uF618, uF619], [uG620, (260, [uL1250, uL67, uL63, uL63, uL63, uL63, uL63, uL63, uL9, uL79, uL131])])
def cx_283q3 : zS := ([ui0, ui600, ui31, (0, 6), (0, 6), ui49, ui49, ui49], (cx_265pr_0 (cx_265pr_1 (cx_265pr_2 []))), [], [], [uV583], [uF616, uF617, uF618, uF619], [uG620, (260, [uL1250, uL67, uL63, uL63, uL63, uL63, uL63, uL63, uL9, uL79, uL825])])
/-- HairRope.needed -/
def cx_283 : zCtx := (162, cx_265p, [cx_265q0, cx_265q1, cx_283q2, cx_283q3], kc_57, 54897, 5, 161)
set_option maxRecDepth 1000000 in
theorem ck_283 : x_ok mLT1 [cx_195, cx_256, cx_264] mTS2 mTC2 mRUp cx_283 [(1, [0]), (17, [1]), (25, [2])] [(17, [1000733]), (50, [1000802, 1000803])] [] (21, []) 54876 24 = true := by decide +kernel
theorem sn_283 {W : Bool} {X : List Int32} : y_Snd (mGw W) mLT1 (J2 W X) X cx_283 := y_ok J2_J mTS2_ok1 mTC2_ok1 mRUp_ok1 (List.forall_mem_cons.mpr ⟨sn_195, List.forall_mem_cons.mpr ⟨sn_256, List.forall_mem_cons.mpr ⟨sn_264, fun _ h => absurd h List.not_mem_nil⟩⟩⟩) ck_283
def cx_284p : zS := ((cx_149pi_0 (cx_149pi_1 (cx_149pi_2 (cx_149pi_3 (cx_149pi_4 []))))), [ur1251, ur431, ur432, ur426, ur563, ur564, ur565], [], [], [uV2, uV419], (cx_149pf_0 (cx_149pf_1 (cx_149pf_2 (cx_149pf_3 (cx_149pf_4 (cx_149pf_5 [])))))), [])
def cx_284q0 : zS := ((cx_149pi_0 (cx_149pi_1 (cx_149pi_2 (cx_149pi_3 (cx_149pi_4 []))))), [ur1251, ur431, ur432, ur426, ur563, ur564, ur565], [], [], [], [uF126, uF128, uF129, uF729], [(241, [uL65, uL104, uL78, uL79, uL131])])
/-- State.copyFrom -/
def cx_284 : zCtx := (102, cx_284p, [cx_284q0], kc_58, 57, 1, 64)
set_option maxRecDepth 1000000 in
theorem ck_284 : x_ok mLT1 [] mTS2 mTC2 mRUp cx_284 [] [(107, [1001157])] [] (57, []) 0 60 = true := by decide +kernel
theorem sn_284 {W : Bool} {X : List Int32} : y_Snd (mGw W) mLT1 (J2 W X) X cx_284 := y_ok J2_J mTS2_ok1 mTC2_ok1 mRUp_ok1 (fun _ h => absurd h List.not_mem_nil) ck_284
def cx_285p : zS := ((cx_131pi_0 (cx_131pi_1 [])), [ur1251], [uL518], [], [uV2, uV11], [uF39, uF95, uF139, uF519], [uG1252])
/-- State.placeOf -/
def cx_285 : zCtx := (101, cx_285p, [([ui0, (0, 5), (1, 6), (0, 6), ui49, ui49, ui49, ui49, ui49, ui49, ui49, ui49, ui49, (0, 5)], [ur1251], [uL521, uL518], [], [uV408], [], [uG522]), ([ui0, (0, 5), (0, 6), (0, 6), ui49, ui49, ui49, ui49, ui49, ui49, ui49, ui49, ui49], [ur1251], [uL518], [], [uV61], [], [uG523])], [], 105, 0, 0)
def cz_285_0g_0 (t : List zTg) : List zTg := uG524 :: uG1252 :: uG525 :: t
def cz_285_0 : zS := ((cz_131_0i_0 (cz_131_0i_1 [])), [ur1251], [uL518], [uV2, uV11, uV408], [], [uF39, uF95, uF139, uF519], (cz_285_0g_0 []))
set_option maxRecDepth 1000000 in
theorem ck_285 : x_ok mLT1 [] mTS2 mTC2 mRUp cx_285 [] [(0, [1001163]), (23, [1000012]), (26, [1001166]), (28, [1001164, 1001165]), (34, [1001167])] [(2, cz_285_0, (102, [(13, (-16))]))] (105, []) 0 18 = true := by decide +kernel
theorem sn_285 {W : Bool} {X : List Int32} : y_Snd (mGw W) mLT1 (J2 W X) X cx_285 := y_ok J2_J mTS2_ok1 mTC2_ok1 mRUp_ok1 (fun _ h => absurd h List.not_mem_nil) ck_285
def cx_286p : zS := ((cx_132pi_0 (cx_132pi_1 [])), [ur442, ur1251], [uL518, uL9, uL526, uL527, uL528], [], [uV2, uV419, uV11, uV12], [uF529, uF530, uF531, uF532], [uG1253, uG534])
/-- Rules.strongOf -/
def cx_286 : zCtx := (89, cx_286p, [([ui0, (0, 5), ui243, (0, 6), (0, 6), ui49, ui49, ui49, ui49, ui49, ui49, ui49, ui49, ui49, ui49], [ur442, ur1251], [uL518, uL9, uL526, uL527, uL528], [], [uV355], [], [uG535])], [], 14, 0, 0)
set_option maxRecDepth 1000000 in
theorem ck_286 : x_ok mLT1 [] mTS2 mTC2 mRUp cx_286 [] [(16, [1001173, 1000830]), (40, [1000817])] [] (14, []) 0 17 = true := by decide +kernel
theorem sn_286 {W : Bool} {X : List Int32} : y_Snd (mGw W) mLT1 (J2 W X) X cx_286 := y_ok J2_J mTS2_ok1 mTC2_ok1 mRUp_ok1 (fun _ h => absurd h List.not_mem_nil) ck_286
end
