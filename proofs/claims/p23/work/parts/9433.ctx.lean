noncomputable section
/-! ===== readings, by program, checked by the kernel ===== -/
def cx_712pi_0 (t : List (Int × Int)) : List (Int × Int) := ui0 :: ui586 :: ui262 :: (0, 1) :: ui49 :: (0, 1) :: (0, 6) :: ui31 :: t
def cx_712pi_1 (t : List (Int × Int)) : List (Int × Int) := (0, 6) :: (0, 6) :: ui49 :: ui49 :: ui196 :: (0, 6) :: t
def cx_712p : zS := ((cx_712pi_0 (cx_712pi_1 [])), (cx_653pr_0 (cx_653pr_1 (cx_653pr_2 []))), [uL1291], [], [uV2, uV11, uV12], (cx_679pf_0 (cx_679pf_1 (cx_679pf_2 (cx_679pf_3 [])))), (cx_679pg_0 []))
/-- M.peace -/
def cx_712 : zCtx := (284, cx_712p, [([ui0, ui586, ui262, (0, 1), ui49, (0, 1), (0, 6), ui31, (0, 6), (0, 6), ui49, ui49, ui196, (0, 6)], [ur1414, ur1461, ur1462, ur1472, ur1473, ur1474, ur1475, ur1476, ur1470, ur1471, ur1463, ur1575, ur1576, ur1465, ur1963, ur1466, ur2344, ur2345, ur2346, ur2347, ur2348, ur2343], [], [], [uV61], [], [uG2439])], [], 24, 2, 42)
set_option maxRecDepth 1000000 in
theorem ck_712 : x_ok mLT1 [cx_567, cx_517] mTS2 mTC2 mRUp cx_712 [(1, [0]), (10, [1])] [] [] (10, []) 14 13 = true := by decide +kernel
theorem sn_712 {W : Bool} {X : List Int32} : y_Snd (mGw W) mLT1 (J2 W X) X cx_712 := y_ok J2_J mTS2_ok1 mTC2_ok1 mRUp_ok1 (List.forall_mem_cons.mpr ⟨sn_567, List.forall_mem_cons.mpr ⟨sn_517, fun _ h => absurd h List.not_mem_nil⟩⟩) ck_712
def cx_713pi_0 (t : List (Int × Int)) : List (Int × Int) := ui0 :: ui262 :: ui49 :: (0, 1) :: ui49 :: (0, 1) :: (0, 6) :: ui31 :: t
def cx_713pi_1 (t : List (Int × Int)) : List (Int × Int) := (0, 6) :: (0, 6) :: ui49 :: ui49 :: ui196 :: (0, 6) :: t
def cx_713p : zS := ((cx_713pi_0 (cx_713pi_1 [])), (cx_653pr_0 (cx_653pr_1 (cx_653pr_2 []))), [uL1291], [], [uV2, uV11, uV12], (cx_679pf_0 (cx_679pf_1 (cx_679pf_2 (cx_679pf_3 [])))), (cx_679pg_0 []))
/-- M.peace -/
def cx_713 : zCtx := (284, cx_713p, [([ui0, ui262, ui49, (0, 1), ui49, (0, 1), (0, 6), ui31, (0, 6), (0, 6), ui49, ui49, ui196, (0, 6)], [ur1414, ur1461, ur1462, ur1472, ur1473, ur1474, ur1475, ur1476, ur1470, ur1471, ur1463, ur1575, ur1576, ur1465, ur1963, ur1466, ur2344, ur2345, ur2346, ur2347, ur2348, ur2343], [], [], [uV61], [], [uG2439])], [], 19, 2, 42)
set_option maxRecDepth 1000000 in
theorem ck_713 : x_ok mLT1 [cx_567] mTS2 mTC2 mRUp cx_713 [(1, [0])] [] [] (5, []) 14 8 = true := by decide +kernel
theorem sn_713 {W : Bool} {X : List Int32} : y_Snd (mGw W) mLT1 (J2 W X) X cx_713 := y_ok J2_J mTS2_ok1 mTC2_ok1 mRUp_ok1 (List.forall_mem_cons.mpr ⟨sn_567, fun _ h => absurd h List.not_mem_nil⟩) ck_713
/-- M.givesBits -/
def cx_714 : zCtx := (289, ([ui0], [ur1414], [], [], [uV2], [], []), [([ui0, ui847], [ur1414], [], [], [uV11], [], [])], [], 112, 0, 0)
set_option maxRecDepth 1000000 in
theorem ck_714 : x_ok mLT1 [] mTS2 mTC2 mRUp cx_714 [] [] [(4, ([(0, 3072), (0, 63), (0, 6)], [(12, false)], [], [(2, 0, 0, []), (0, 0, 0, [(1, 1)]), (0, 0, 0, [(2, 1)])], [], [], []), (107, [(2, (-17))]))] (112, []) 0 19 = true := by decide +kernel
theorem sn_714 {W : Bool} {X : List Int32} : y_Snd (mGw W) mLT1 (J2 W X) X cx_714 := y_ok J2_J mTS2_ok1 mTC2_ok1 mRUp_ok1 (fun _ h => absurd h List.not_mem_nil) ck_714
/-- M.isEnough -/
def cx_715 : zCtx := (292, ([ui0, ui847, (0, 1)], [ur1414], [], [], [uV2, uV11], [uF2098], []), [([ui0, ui847, (0, 1)], [ur1414], [], [], [uV64], [], []), ([ui0, ui847, (0, 1)], [ur1414], [], [], [uV62], [], [])], [], 138, 0, 0)
set_option maxRecDepth 1000000 in
theorem ck_715 : x_ok mLT1 [] mTS2 mTC2 mRUp cx_715 [] [] [(4, ([(0, 3072), (0, 63), (0, 1), ((-2147483648), 2147483647), (0, 6)], [(12, false)], [], [(2, 0, 0, []), (0, 0, 0, [(1, 1)]), (0, 0, 0, [(3, 1)]), (0, 0, 0, [(4, 1)])], [], [(0, (false, 18, 0, []), 0, 0, 0, [(2, 1)])], []), (133, [(4, (-20))]))] (138, []) 0 22 = true := by decide +kernel
theorem sn_715 {W : Bool} {X : List Int32} : y_Snd (mGw W) mLT1 (J2 W X) X cx_715 := y_ok J2_J mTS2_ok1 mTC2_ok1 mRUp_ok1 (fun _ h => absurd h List.not_mem_nil) ck_715
/-- M.costsOf -/
def cx_716 : zCtx := (235, ([ui0, (0, 5), (0, 1), ui31], [ur1414, ur1461, ur1462, ur1472, ur1473, ur1474, ur1475, ur1476, ur1470, ur1471], [], [], [uV2, uV11], [uF2098, uF1477, uF1478, uF2105, uF2106, uF2107, uF2108, uF2109, uF1708, uF1709], [uG2145, uG2146]), [([ui0, (0, 5), (0, 1), ui31], [ur1414, ur1461, ur1462, ur1472, ur1473, ur1474, ur1475, ur1476, ur1470, ur1471], [], [], [uV62], [], []), ([ui0, (0, 5), (0, 1), ui31, ui525], [ur1414, ur1461, ur1462, ur1472, ur1473, ur1474, ur1475, ur1476, ur1470, ur1471], [], [], [uV97], [], [])], [uk2141, uk2133, uk2142], 77618, 3, 63)
set_option maxRecDepth 1000000 in
theorem ck_716 : x_ok mLT1 [cx_608, cx_542, cx_536] mTS2 mTC2 mRUp cx_716 [(2, [0]), (13, [1]), (19, [2])] [] [] (14, []) 77604 17 = true := by decide +kernel
theorem sn_716 {W : Bool} {X : List Int32} : y_Snd (mGw W) mLT1 (J2 W X) X cx_716 := y_ok J2_J mTS2_ok1 mTC2_ok1 mRUp_ok1 (List.forall_mem_cons.mpr ⟨sn_608, List.forall_mem_cons.mpr ⟨sn_542, List.forall_mem_cons.mpr ⟨sn_536, fun _ h => absurd h List.not_mem_nil⟩⟩⟩) ck_716
/-- M.givesCost -/
def cx_717 : zCtx := (293, ([ui0, (0, 5), (0, 1), ui31], [ur1414, ur1461, ur1462, ur1472, ur1473, ur1474, ur1475, ur1476, ur1470, ur1471], [], [], [uV2, uV11], [uF2098, uF1477, uF1478, uF2105, uF2106, uF2107, uF2108, uF2109, uF1708, uF1709], [uG2145, uG2146]), [([ui0, (0, 5), (0, 1), ui31, ui525], [ur1414, ur1461, ur1462, ur1472, ur1473, ur1474, ur1475, ur1476, ur1470, ur1471], [], [], [uV97], [], [])], [uk2141, uk2133, uk2142], 77626, 4, 84)
set_option maxRecDepth 1000000 in
theorem ck_717 : x_ok mLT1 [cx_527, cx_716] mTS2 mTC2 mRUp cx_717 [(2, [0]), (14, [1])] [] [] (8, []) 77618 11 = true := by decide +kernel
theorem sn_717 {W : Bool} {X : List Int32} : y_Snd (mGw W) mLT1 (J2 W X) X cx_717 := y_ok J2_J mTS2_ok1 mTC2_ok1 mRUp_ok1 (List.forall_mem_cons.mpr ⟨sn_527, List.forall_mem_cons.mpr ⟨sn_716, fun _ h => absurd h List.not_mem_nil⟩⟩) ck_717
def cx_718p : zS := ([ui0, (0, 5), ui847, (0, 1), ui31], (cx_609pr_0 (cx_609pr_1 [])), [], [], [uV2, uV11, uV12], (cx_610pf_0 (cx_610pf_1 [])), [uG2115, uG2196])
/-- M.hasOf -/
def cx_718 : zCtx := (291, cx_718p, [([ui0, (0, 5), ui847, (0, 1), ui31, ((-99), 0)], [ur1414, ur1461, ur1462, ur1472, ur1473, ur1474, ur1475, ur1476, ur1470, ur1471], [], [], [uV75], [], []), ([ui0, (0, 5), ui847, (0, 1), ui31, ((-99), 9999)], [ur1414, ur1461, ur1462, ur1472, ur1473, ur1474, ur1475, ur1476, ur1470, ur1471], [], [], [uV75], [], [])], [uk2141, uk2133, uk2142], 77649, 5, 105)
set_option maxRecDepth 1000000 in
theorem ck_718 : x_ok mLT1 [cx_715, cx_717] mTS2 mTC2 mRUp cx_718 [(2, [0]), (32, [1])] [] [] (23, []) 77626 26 = true := by decide +kernel
theorem sn_718 {W : Bool} {X : List Int32} : y_Snd (mGw W) mLT1 (J2 W X) X cx_718 := y_ok J2_J mTS2_ok1 mTC2_ok1 mRUp_ok1 (List.forall_mem_cons.mpr ⟨sn_715, List.forall_mem_cons.mpr ⟨sn_717, fun _ h => absurd h List.not_mem_nil⟩⟩) ck_718
/-- M.isRest -/
def cx_719 : zCtx := (290, ([ui0, ui847, (0, 1), ui31], [ur1414, ur1461, ur1462, ur1472, ur1473, ur1474, ur1475, ur1476, ur1470, ur1471], [], [], [uV2, uV11], [uF2098, uF1477, uF1478, uF2105, uF2106, uF2107, uF2108, uF2109, uF1708, uF1709], [uG2145, uG2146]), [([ui0, ui847, (0, 1), ui31], [ur1414, ur1461, ur1462, ur1472, ur1473, ur1474, ur1475, ur1476, ur1470, ur1471], [], [], [uV62], [], []), ([ui0, ui847, (0, 1), ui31], [ur1414, ur1461, ur1462, ur1472, ur1473, ur1474, ur1475, ur1476, ur1470, ur1471], [], [], [uV64], [], [])], [uk2141, uk2133, uk2142], 77844, 6, 127)
def cz_719_0 : zS := ([ui0, ui847, (0, 1), ui31, ui847, (0, 6)], (cx_609pr_0 (cx_609pr_1 [])), [], [uV2, uV11, uV97, uV75], [], (cz_612_0f_0 (cz_612_0f_1 [])), [uG2145, uG2146])
set_option maxRecDepth 1000000 in
theorem ck_719 : x_ok mLT1 [cx_714, cx_718] mTS2 mTC2 mRUp cx_719 [(1, [0]), (36, [1]), (42, [1])] [] [(7, cz_719_0, (189, [(5, (-30))]))] (195, []) 77649 32 = true := by decide +kernel
theorem sn_719 {W : Bool} {X : List Int32} : y_Snd (mGw W) mLT1 (J2 W X) X cx_719 := y_ok J2_J mTS2_ok1 mTC2_ok1 mRUp_ok1 (List.forall_mem_cons.mpr ⟨sn_714, List.forall_mem_cons.mpr ⟨sn_718, fun _ h => absurd h List.not_mem_nil⟩⟩) ck_719
/-- M.bits -/
def cx_720 : zCtx := (294, ([ui0, ui847], [], [], [], [uV11], [], []), [([ui0, ui847, ui49], [], [], [], [uV12], [], [])], [], 94, 0, 0)
set_option maxRecDepth 1000000 in
theorem ck_720 : x_ok mLT1 [] mTS2 mTC2 mRUp cx_720 [] [] [(4, ([(0, 3072), (0, 63), ((-2147483648), 2147483647), (0, 6)], [], [], [(0, 0, 0, [(1, 1)]), (0, 0, 0, [(2, 1)]), (0, 0, 0, [(3, 1)])], [], [], []), (89, [(3, (-14))]))] (94, []) 0 16 = true := by decide +kernel
theorem sn_720 {W : Bool} {X : List Int32} : y_Snd (mGw W) mLT1 (J2 W X) X cx_720 := y_ok J2_J mTS2_ok1 mTC2_ok1 mRUp_ok1 (fun _ h => absurd h List.not_mem_nil) ck_720
/-- M.rests -/
def cx_721 : zCtx := (288, cx_617p, [([ui0, ui262, (0, 1), ui49, (0, 1), ui31], [ur1414, ur1461, ur1462, ur1472, ur1473, ur1474, ur1475, ur1476, ur1470, ur1471], [], [], [uV61], [uF2204, uF2205], []), ([ui0, ui1066, (0, 1), ui49, (0, 1), ui31], [ur1414, ur1461, ur1462, ur1472, ur1473, ur1474, ur1475, ur1476, ur1470, ur1471], [], [], [uV61], [uF2204, uF2205], []), ([ui0, (0, 0), (0, 1), ui49, (0, 1), ui31, ui49, ui196], [ur1414, ur1461, ur1462, ur1472, ur1473, ur1474, ur1475, ur1476, ur1470, ur1471], [], [], [uV108], [uF1970, uF2328], [uG1977, uG1973]), ([ui0, (1, 1), (0, 1), ui49, (0, 1), ui31, ui1331, ui196], [ur1414, ur1461, ur1462, ur1472, ur1473, ur1474, ur1475, ur1476, ur1470, ur1471], [], [], [uV108], [uF1970, uF2328], [uG1977, uG1973])], kc_87, 81545, 7, 150)
def cz_721_0i_0 (t : List (Int × Int)) : List (Int × Int) := ui0 :: (0, 1) :: (0, 1) :: ui49 :: (0, 1) :: ui31 :: ui49 :: ui1331 :: t
def cz_721_0i_1 (t : List (Int × Int)) : List (Int × Int) := ui1675 :: ui196 :: t
def cz_721_0f_0 (t : List zFa) : List zFa := uF1970 :: uF2342 :: uF2339 :: uF2340 :: uF2341 :: uF2098 :: uF1477 :: uF1478 :: t
def cz_721_0f_1 (t : List zFa) : List zFa := uF2105 :: uF2106 :: uF2107 :: uF2108 :: uF2109 :: uF1708 :: uF1709 :: t
def cz_721_0 : zS := ((cz_721_0i_0 (cz_721_0i_1 [])), (cz_631_0r_0 (cz_631_0r_1 [])), [], [uV2, uV11, uV108, uV142, uV144], [], (cz_721_0f_0 (cz_721_0f_1 [])), [uG1977, uG1973, uG2145, uG2317])
set_option maxRecDepth 1000000 in
theorem ck_721 : x_ok mLT1 [cx_517, cx_521, cx_656, cx_714, cx_719, cx_720] mTS2 mTC2 mRUp cx_721 [(3, [0]), (12, [1]), (16, [2]), (37, [3]), (49, [4]), (67, [5]), (71, [5])] [] [(27, cz_721_0, (1736, [(8, (-27))]))] (1752, []) 79793 29 = true := by decide +kernel
theorem sn_721 {W : Bool} {X : List Int32} : y_Snd (mGw W) mLT1 (J2 W X) X cx_721 := y_ok J2_J mTS2_ok1 mTC2_ok1 mRUp_ok1 (List.forall_mem_cons.mpr ⟨sn_517, List.forall_mem_cons.mpr ⟨sn_521, List.forall_mem_cons.mpr ⟨sn_656, List.forall_mem_cons.mpr ⟨sn_714, List.forall_mem_cons.mpr ⟨sn_719, List.forall_mem_cons.mpr ⟨sn_720, fun _ h => absurd h List.not_mem_nil⟩⟩⟩⟩⟩⟩) ck_721
/-- M.givesBits -/
def cx_722 : zCtx := (289, ([ui0, ui49, ui49, ui49, ui49, ui49, ui49, ui49], [ur1414, ur2344], [], [], [uV2], [uF2478], [uG2479]), [([ui0, ui49, ui49, ui49, ui49, ui49, ui49, ui49, ui847], [ur1414, ur2344], [], [], [uV144], [], [(238, [uL1091, uL9, uL67, uL23, uL98, uL104, uL78, uL79, uL252, uL63, uL131])])], [], 112, 0, 0)
def cz_722_0i_0 (t : List (Int × Int)) : List (Int × Int) := ui0 :: ui49 :: ui49 :: ui49 :: ui49 :: ui49 :: ui49 :: ui49 :: t
def cz_722_0i_1 (t : List (Int × Int)) : List (Int × Int) := ui847 :: (0, 6) :: t
def cz_722_0 : zS := ((cz_722_0i_0 (cz_722_0i_1 [])), [ur1414, ur2344], [uL164, uL1250, uL131, (63, [(8, (-1))])], [uV2, uV144, uV781], [], [uF2478], [uG2479, (238, [uL1091, uL9, uL67, uL23, uL98, uL104, uL78, uL79, uL164, uL63, uL131])])
set_option maxRecDepth 1000000 in
theorem ck_722 : x_ok mLT1 [] mTS2 mTC2 mRUp cx_722 [] [(2, [1001262]), (22, [1000789]), (23, [1000667]), (25, [1001263, 1001264])] [(4, cz_722_0, (107, [(9, (-17))]))] (112, []) 0 19 = true := by decide +kernel
theorem sn_722 {W : Bool} {X : List Int32} : y_Snd (mGw W) mLT1 (J2 W X) X cx_722 := y_ok J2_J mTS2_ok1 mTC2_ok1 mRUp_ok1 (fun _ h => absurd h List.not_mem_nil) ck_722
/-- M.isEnough -/
def cx_723 : zCtx := (292, ([ui0, ui847, (0, 1), ui49, ui49, ui49, ui49, ui49, ui49, ui49, ui196], [ur1414, ur2344, ur1466], [], [], [uV2, uV11], [uF2098, uF2478, uF2480], [uG2393, uG2258]), [([ui0, ui847, (0, 1), ui49, ui49, ui49, ui49, ui49, ui49, ui49, ui196, ui2481], [ur1414, ur2344, ur1466], [(0, [(10, (-1)), (11, 1)])], [], [uV64], [], [uG2482]), ([ui0, ui847, (0, 1), ui49, ui49, ui49, ui49, ui49, ui49, ui49, ui196, ui2481], [ur1414, ur2344, ur1466], [uL1322], [], [uV62], [], [uG2482])], [], 138, 0, 0)
def cz_723_0i_0 (t : List (Int × Int)) : List (Int × Int) := ui0 :: ui847 :: (0, 1) :: ui49 :: ui49 :: ui49 :: ui49 :: ui49 :: t
def cz_723_0i_1 (t : List (Int × Int)) : List (Int × Int) := ui49 :: ui49 :: ui196 :: ui1349 :: (0, 6) :: t
def cz_723_0 : zS := ((cz_723_0i_0 (cz_723_0i_1 [])), [ur1414, ur2344, ur1466], [uL214, (6, [(12, (-1))]), uL195, (0, [(11, (-1)), (12, 9999)])], [uV2, uV11, uV843, uV198], [], [uF2098, uF2478, uF2480], [uG2393, uG2258, (238, [uL1147, uL23, uL98, uL104, uL78, uL79, uL131, uL164, uL9, uL214, uL195])])
set_option maxRecDepth 1000000 in
theorem ck_723 : x_ok mLT1 [] mTS2 mTC2 mRUp cx_723 [] [(2, [1001266]), (12, [1000424]), (14, [1000668]), (15, [1001267]), (28, [1001268, 1001269, 1001270, 1001271]), (47, [1001272]), (51, [1001273])] [(4, cz_723_0, (133, [(12, (-20))]))] (138, []) 0 22 = true := by decide +kernel
theorem sn_723 {W : Bool} {X : List Int32} : y_Snd (mGw W) mLT1 (J2 W X) X cx_723 := y_ok J2_J mTS2_ok1 mTC2_ok1 mRUp_ok1 (fun _ h => absurd h List.not_mem_nil) ck_723
def cx_724pi_0 (t : List (Int × Int)) : List (Int × Int) := ui0 :: (0, 1) :: ui49 :: (0, 1) :: ui31 :: (0, 6) :: (0, 6) :: ui49 :: t
def cx_724pi_1 (t : List (Int × Int)) : List (Int × Int) := ui49 :: ui196 :: (0, 6) :: t
def cx_724pr_0 (t : List (Nat × Bool)) : List (Nat × Bool) := ur1414 :: ur1461 :: ur1462 :: ur1472 :: ur1473 :: ur1474 :: ur1475 :: ur1476 :: t
def cx_724pr_1 (t : List (Nat × Bool)) : List (Nat × Bool) := ur1470 :: ur1471 :: ur1463 :: ur1575 :: ur1576 :: ur1465 :: ur1963 :: ur1466 :: t
def cx_724pr_2 (t : List (Nat × Bool)) : List (Nat × Bool) := ur2344 :: t
def cx_724pf_0 (t : List zFa) : List zFa := uF1964 :: uF1965 :: uF1966 :: uF1477 :: uF1478 :: uF2105 :: uF2106 :: uF2107 :: t
def cx_724pf_1 (t : List zFa) : List zFa := uF2108 :: uF2109 :: uF1708 :: uF1709 :: uF2110 :: uF2111 :: uF2112 :: uF1998 :: t
def cx_724pf_2 (t : List zFa) : List zFa := uF2195 :: uF2251 :: uF2421 :: uF2373 :: t
def cx_724pg_0 (t : List zTg) : List zTg := uG2290 :: uG2315 :: uG2242 :: uG2316 :: uG2312 :: uG469 :: uG2483 :: t
def cx_724p : zS := ((cx_724pi_0 (cx_724pi_1 [])), (cx_724pr_0 (cx_724pr_1 (cx_724pr_2 []))), [uL577], [], [uV2], (cx_724pf_0 (cx_724pf_1 (cx_724pf_2 []))), (cx_724pg_0 []))
def cx_724q0i_0 (t : List (Int × Int)) : List (Int × Int) := ui0 :: (0, 1) :: ui49 :: (0, 1) :: ui31 :: (0, 6) :: (0, 6) :: ui49 :: t
def cx_724q0i_1 (t : List (Int × Int)) : List (Int × Int) := ui49 :: ui196 :: (0, 6) :: ui49 :: t
def cx_724q0 : zS := ((cx_724q0i_0 (cx_724q0i_1 [])), (cx_724pr_0 (cx_724pr_1 (cx_724pr_2 []))), [], [], [uV843], [], [uG1973, uG469, (238, [uL1321, uL98, uL63, uL63, uL63, uL63, uL63, uL63, uL164, uL104, uL195])])
/-- M.pivots -/
def cx_724 : zCtx := (295, cx_724p, [cx_724q0], kc_87, 79973, 6, 129)
def cz_724_0i_0 (t : List (Int × Int)) : List (Int × Int) := ui0 :: (0, 1) :: ui49 :: (0, 1) :: ui31 :: (0, 6) :: (0, 6) :: ui49 :: t
def cz_724_0i_1 (t : List (Int × Int)) : List (Int × Int) := ui49 :: ui196 :: (0, 6) :: ui49 :: (0, 6) :: ui196 :: t
def cz_724_0r_0 (t : List (Nat × Bool)) : List (Nat × Bool) := ur1414 :: ur1461 :: ur1462 :: ur1472 :: ur1473 :: ur1474 :: ur1475 :: ur1476 :: t
def cz_724_0r_1 (t : List (Nat × Bool)) : List (Nat × Bool) := ur1470 :: ur1471 :: ur1463 :: ur1575 :: ur1576 :: ur1465 :: ur1963 :: ur1466 :: t
def cz_724_0r_2 (t : List (Nat × Bool)) : List (Nat × Bool) := ur2344 :: ur2348 :: ur2347 :: ur2346 :: ur2345 :: ur1469 :: ur1983 :: t
def cz_724_0f_0 (t : List zFa) : List zFa := (0, (false, 59, 0, []), 2, 17, 0, []) :: uF2376 :: uF2368 :: (0, (false, 56, 0, []), 2, 20, 0, []) :: uF1970 :: uF2484 :: (0, (false, 30, 0, []), 2, 21, 0, []) :: (0, (false, 47, 0, []), 2, 22, 0, []) :: t
def cz_724_0f_1 (t : List zFa) : List zFa := uF1964 :: uF1477 :: uF1478 :: uF2105 :: uF2106 :: uF2107 :: uF2108 :: uF2109 :: t
def cz_724_0f_2 (t : List zFa) : List zFa := uF1708 :: uF1709 :: uF2110 :: uF2111 :: uF2112 :: uF1998 :: uF2195 :: uF2251 :: t
def cz_724_0f_3 (t : List zFa) : List zFa := uF2421 :: t
def cz_724_0g_0 (t : List zTg) : List zTg := uG1973 :: uG2290 :: uG2242 :: uG2312 :: uG2483 :: uG2315 :: uG2316 :: uG469 :: t
def cz_724_0g_1 (t : List zTg) : List zTg := (278, [uL98, uL63, uL63, uL63, uL63, uL63, uL63, uL252]) :: (238, [uL1321, uL98, uL63, uL63, uL63, uL63, uL63, uL63, uL164, uL214, uL195]) :: t
def cz_724_0 : zS := ((cz_724_0i_0 (cz_724_0i_1 [])), (cz_724_0r_0 (cz_724_0r_1 (cz_724_0r_2 []))), [uL577, uL214, (0, [(5, 1), (12, (-1))])], [uV2, uV843, uV198], [], (cz_724_0f_0 (cz_724_0f_1 (cz_724_0f_2 (cz_724_0f_3 [])))), (cz_724_0g_0 (cz_724_0g_1 [])))
set_option maxRecDepth 1000000 in
theorem ck_724 : x_ok mLT1 [cx_521, cx_634, cx_722, cx_723] mTS2 mTC2 mRUp cx_724 [(1, [0]), (5, [1]), (27, [2]), (36, [3])] [(4, uN2200), (8, [1001260]), (25, [1001261]), (32, [1000789]), (34, [1000717]), (35, [1000668]), (36, [1001265]), (46, [1000667]), (48, [1001274, 1001275]), (54, [1001276])] [(12, cz_724_0, (171, [(12, (-27))]))] (180, []) 79793 29 = true := by decide +kernel
theorem sn_724 {W : Bool} {X : List Int32} : y_Snd (mGw W) mLT1 (J2 W X) X cx_724 := y_ok J2_J mTS2_ok1 mTC2_ok1 mRUp_ok1 (List.forall_mem_cons.mpr ⟨sn_521, List.forall_mem_cons.mpr ⟨sn_634, List.forall_mem_cons.mpr ⟨sn_722, List.forall_mem_cons.mpr ⟨sn_723, fun _ h => absurd h List.not_mem_nil⟩⟩⟩⟩) ck_724
def cx_725pf_0 (t : List zFa) : List zFa := uF2185 :: uF1971 :: uF2485 :: uF1477 :: uF1478 :: uF2105 :: uF2106 :: uF2107 :: t
def cx_725pf_1 (t : List zFa) : List zFa := uF2108 :: uF2109 :: uF1708 :: uF1709 :: t
def cx_725p : zS := ([ui0, (0, 5), ui846, ui846, (0, 1), ui49, (0, 1), ui31], (cx_609pr_0 (cx_609pr_1 [])), [], [], [uV2, uV11, uV12, uV58], (cx_725pf_0 (cx_725pf_1 [])), [uG2189, uG2486])
/-- M.harvestOf -/
def cx_725 : zCtx := (297, cx_725p, [([ui0, (0, 5), ui846, ui846, (0, 1), ui49, (0, 1), ui31, ui49, ui196], [ur1414, ur1461, ur1462, ur1472, ur1473, ur1474, ur1475, ur1476, ur1470, ur1471], [], [], [uV144], [uF2326, uF2342], [])], kc_82, 79798, 5, 105)
def cz_725_0i_0 (t : List (Int × Int)) : List (Int × Int) := ui0 :: (0, 5) :: ui846 :: ui846 :: (0, 1) :: ui49 :: (0, 1) :: ui31 :: t
def cz_725_0i_1 (t : List (Int × Int)) : List (Int × Int) := ui49 :: ui1118 :: ui196 :: t
def cz_725_0f_0 (t : List zFa) : List zFa := uF2326 :: uF2431 :: uF2185 :: uF1477 :: uF1478 :: uF2105 :: uF2106 :: uF2107 :: t
def cz_725_0f_1 (t : List zFa) : List zFa := uF2108 :: uF2109 :: uF1708 :: uF1709 :: t
def cz_725_0 : zS := ((cz_725_0i_0 (cz_725_0i_1 [])), (cx_609pr_0 (cx_609pr_1 [])), [], [uV2, uV11, uV12, uV58, uV144, uV781], [], (cz_725_0f_0 (cz_725_0f_1 [])), [uG2189, uG2486])
set_option maxRecDepth 1000000 in
theorem ck_725 : x_ok mLT1 [cx_603, cx_616] mTS2 mTC2 mRUp cx_725 [(1, [0]), (17, [1])] [] [(10, cz_725_0, (1706, [(9, (-27))]))] (1686, []) 78112 29 = true := by decide +kernel
theorem sn_725 {W : Bool} {X : List Int32} : y_Snd (mGw W) mLT1 (J2 W X) X cx_725 := y_ok J2_J mTS2_ok1 mTC2_ok1 mRUp_ok1 (List.forall_mem_cons.mpr ⟨sn_603, List.forall_mem_cons.mpr ⟨sn_616, fun _ h => absurd h List.not_mem_nil⟩⟩) ck_725
def cx_726p : zS := ([ui0, ui49, ui49, ui49, (0, 1), ui49, (0, 1), ui31], (cx_609pr_0 (cx_609pr_1 [])), [], [], [uV2, uV11, uV12, uV58], (cx_725pf_0 (cx_725pf_1 [])), [uG2189, uG2486])
/-- M.harvest -/
def cx_726 : zCtx := (296, cx_726p, [([ui0, (0, 5), ui1343, ui49, (0, 1), ui49, (0, 1), ui31], [ur1414, ur1461, ur1462, ur1472, ur1473, ur1474, ur1475, ur1476, ur1470, ur1471], [], [], [uV61], [uF1971, uF2485], []), ([ui0, (0, 5), ui841, ui49, (0, 1), ui49, (0, 1), ui31], [ur1414, ur1461, ur1462, ur1472, ur1473, ur1474, ur1475, ur1476, ur1470, ur1471], [], [], [uV61], [uF1971, uF2485], []), ([ui0, (0, 5), ui846, ui262, (0, 1), ui49, (0, 1), ui31], [ur1414, ur1461, ur1462, ur1472, ur1473, ur1474, ur1475, ur1476, ur1470, ur1471], [], [], [uV61], [uF1971, uF2485], []), ([ui0, (0, 5), ui846, ui1066, (0, 1), ui49, (0, 1), ui31], [ur1414, ur1461, ur1462, ur1472, ur1473, ur1474, ur1475, ur1476, ur1470, ur1471], [], [], [uV61], [uF1971, uF2485], []), ([ui0, ui511, ui49, ui49, (0, 1), ui49, (0, 1), ui31], [ur1414, ur1461, ur1462, ur1472, ur1473, ur1474, ur1475, ur1476, ur1470, ur1471], [], [], [uV61], [uF1971, uF2485], []), ([ui0, ui262, ui49, ui49, (0, 1), ui49, (0, 1), ui31], [ur1414, ur1461, ur1462, ur1472, ur1473, ur1474, ur1475, ur1476, ur1470, ur1471], [], [], [uV61], [uF1971, uF2485], []), ([ui0, (0, 5), ui846, (0, 0), (0, 1), ui49, (0, 1), ui31, ui847, ui49, (0, 1)], [ur1414, ur1461, ur1462, ur1472, ur1473, ur1474, ur1475, ur1476, ur1470, ur1471], [], [], [uV144], [uF2342, uF2487], []), ([ui0, (0, 5), ui846, (1, 1), (0, 1), ui49, (0, 1), ui31, ui2433, ui49, (0, 1)], [ur1414, ur1461, ur1462, ur1472, ur1473, ur1474, ur1475, ur1476, ur1470, ur1471], [], [], [uV144], [uF2342, uF2487], [])], kc_82, 81005, 6, 130)
def cz_726_0i_0 (t : List (Int × Int)) : List (Int × Int) := ui0 :: (0, 5) :: ui846 :: (0, 1) :: (0, 1) :: ui49 :: (0, 1) :: ui31 :: t
def cz_726_0i_1 (t : List (Int × Int)) : List (Int × Int) := ui847 :: ui2433 :: ui1118 :: ui49 :: (0, 1) :: t
def cz_726_0f_0 (t : List zFa) : List zFa := uF2185 :: uF2488 :: uF2489 :: uF1477 :: uF1478 :: uF2105 :: uF2106 :: uF2107 :: t
def cz_726_0f_1 (t : List zFa) : List zFa := uF2108 :: uF2109 :: uF1708 :: uF1709 :: t
def cz_726_0 : zS := ((cz_726_0i_0 (cz_726_0i_1 [])), (cx_609pr_0 (cx_609pr_1 [])), [], [uV2, uV11, uV12, uV58, uV144, uV781, uV828, uV113], [], (cz_726_0f_0 (cz_726_0f_1 [])), [uG2189, uG2486])
set_option maxRecDepth 1000000 in
theorem ck_726 : x_ok mLT1 [cx_654, cx_517, cx_725] mTS2 mTC2 mRUp cx_726 [(2, [0]), (12, [1]), (21, [1]), (49, [2])] [] [(38, cz_726_0, (1205, [(10, (-19))]))] (1207, []) 79798 23 = true := by decide +kernel
theorem sn_726 {W : Bool} {X : List Int32} : y_Snd (mGw W) mLT1 (J2 W X) X cx_726 := y_ok J2_J mTS2_ok1 mTC2_ok1 mRUp_ok1 (List.forall_mem_cons.mpr ⟨sn_654, List.forall_mem_cons.mpr ⟨sn_517, List.forall_mem_cons.mpr ⟨sn_725, fun _ h => absurd h List.not_mem_nil⟩⟩⟩) ck_726
def cx_727p : zS := ([ui0, ui1219, (0, 1), ui2327, (0, 0), ui31], (cx_609pr_0 (cx_609pr_1 [])), [], [], [uV2, uV11], (cx_617pf_0 (cx_617pf_1 [])), [uG2145, uG2317])
/-- M.goes -/
def cx_727 : zCtx := (255, cx_727p, [([ui0, ui1219, (0, 1), ui2327, (0, 0), ui31], [ur1414, ur1461, ur1462, ur1472, ur1473, ur1474, ur1475, ur1476, ur1470, ur1471], [], [], [], [], [])], [uk2141, uk2133, uk2142, uk1976, uk2295, uk2296], 78623, 5, 105)
def cz_727_0 : zS := ([ui0, ui1219, (0, 1), ui2327, (0, 0), ui31, ui847], (cx_609pr_0 (cx_609pr_1 [])), [], [uV2, uV11, uV108], [], (cx_617pf_0 (cx_617pf_1 [])), [uG2145, uG2317])
set_option maxRecDepth 1000000 in
theorem ck_727 : x_ok mLT1 [cx_616] mTS2 mTC2 mRUp cx_727 [(8, [0])] [] [(2, cz_727_0, (508, [(4, (-100000000000)), (6, (-8))]))] (511, []) 78112 10 = true := by decide +kernel
theorem sn_727 {W : Bool} {X : List Int32} : y_Snd (mGw W) mLT1 (J2 W X) X cx_727 := y_ok J2_J mTS2_ok1 mTC2_ok1 mRUp_ok1 (List.forall_mem_cons.mpr ⟨sn_616, fun _ h => absurd h List.not_mem_nil⟩) ck_727
/-- M.then -/
def cx_728 : zCtx := (298, cx_726p, [([ui0, (0, 5), ui1219, ui262, (0, 1), ui49, (0, 1), ui31], [ur1414, ur1461, ur1462, ur1472, ur1473, ur1474, ur1475, ur1476, ur1470, ur1471], [], [], [uV61], [uF1971, uF2485], []), ([ui0, (0, 5), ui1219, ui1066, (0, 1), ui49, (0, 1), ui31], [ur1414, ur1461, ur1462, ur1472, ur1473, ur1474, ur1475, ur1476, ur1470, ur1471], [], [], [uV61], [uF1971, uF2485], []), ([ui0, (0, 5), ui1219, (0, 0), (0, 1), ui49, (0, 1), ui31, ui196, ui196], [ur1414, ur1461, ur1462, ur1472, ur1473, ur1474, ur1475, ur1476, ur1470, ur1471], [], [], [uV144], [uF1970, uF2342], []), ([ui0, (0, 5), ui1219, (1, 1), (0, 1), ui49, (0, 1), ui31, ui196, ui196], [ur1414, ur1461, ur1462, ur1472, ur1473, ur1474, ur1475, ur1476, ur1470, ur1471], [], [], [uV144], [uF1970, uF2342], []), ([ui0, (0, 5), ui841, ui49, (0, 1), ui49, (0, 1), ui31], [ur1414, ur1461, ur1462, ur1472, ur1473, ur1474, ur1475, ur1476, ur1470, ur1471], [], [], [uV61], [uF1971, uF2485], []), ([ui0, (0, 5), ui262, ui49, (0, 1), ui49, (0, 1), ui31], [ur1414, ur1461, ur1462, ur1472, ur1473, ur1474, ur1475, ur1476, ur1470, ur1471], [], [], [uV61], [uF1971, uF2485], []), ([ui0, ui511, ui49, ui49, (0, 1), ui49, (0, 1), ui31], [ur1414, ur1461, ur1462, ur1472, ur1473, ur1474, ur1475, ur1476, ur1470, ur1471], [], [], [uV61], [uF1971, uF2485], []), ([ui0, ui262, ui49, ui49, (0, 1), ui49, (0, 1), ui31], [ur1414, ur1461, ur1462, ur1472, ur1473, ur1474, ur1475, ur1476, ur1470, ur1471], [], [], [uV61], [uF1971, uF2485], [])], kc_82, 78649, 6, 127)
set_option maxRecDepth 1000000 in
theorem ck_728 : x_ok mLT1 [cx_654, cx_579, cx_517, cx_521, cx_727] mTS2 mTC2 mRUp cx_728 [(2, [0]), (9, [1]), (18, [2]), (27, [3]), (32, [4])] [] [] (26, []) 78623 29 = true := by decide +kernel
theorem sn_728 {W : Bool} {X : List Int32} : y_Snd (mGw W) mLT1 (J2 W X) X cx_728 := y_ok J2_J mTS2_ok1 mTC2_ok1 mRUp_ok1 (List.forall_mem_cons.mpr ⟨sn_654, List.forall_mem_cons.mpr ⟨sn_579, List.forall_mem_cons.mpr ⟨sn_517, List.forall_mem_cons.mpr ⟨sn_521, List.forall_mem_cons.mpr ⟨sn_727, fun _ h => absurd h List.not_mem_nil⟩⟩⟩⟩⟩) ck_728
/-- M.isMark -/
def cx_729 : zCtx := (300, ([ui0, ui49], [], [], [], [uV11], [], []), [([ui0, ui262], [], [], [], [uV62], [], []), ([ui0, ui1333], [], [], [], [uV62], [], []), ([ui0, ui525], [], [], [], [uV64], [], [])], [], 14, 1, 22)
set_option maxRecDepth 1000000 in
theorem ck_729 : x_ok mLT1 [cx_517] mTS2 mTC2 mRUp cx_729 [(4, [0])] [] [] (5, []) 9 8 = true := by decide +kernel
theorem sn_729 {W : Bool} {X : List Int32} : y_Snd (mGw W) mLT1 (J2 W X) X cx_729 := y_ok J2_J mTS2_ok1 mTC2_ok1 mRUp_ok1 (List.forall_mem_cons.mpr ⟨sn_517, fun _ h => absurd h List.not_mem_nil⟩) ck_729
def cx_730pi_0 (t : List (Int × Int)) : List (Int × Int) := ui0 :: ui49 :: ui49 :: ui49 :: ui49 :: (0, 1) :: ui49 :: (0, 1) :: t
def cx_730pi_1 (t : List (Int × Int)) : List (Int × Int) := ui31 :: t
def cx_730pf_0 (t : List zFa) : List zFa := uF2490 :: uF2329 :: uF2491 :: uF1477 :: uF1478 :: uF2105 :: uF2106 :: uF2107 :: t
def cx_730pf_1 (t : List zFa) : List zFa := uF2108 :: uF2109 :: uF1708 :: uF1709 :: t
def cx_730p : zS := ((cx_730pi_0 (cx_730pi_1 [])), (cx_609pr_0 (cx_609pr_1 [])), [], [], [uV2, uV11, uV12, uV58, uV97], (cx_730pf_0 (cx_730pf_1 [])), [uG2492, uG2493])
/-- M.year -/
def cx_730 : zCtx := (299, cx_730p, [([ui0, ui49, ui49, ui49, ui49, (0, 1), ui49, (0, 1), ui31], [ur1414, ur1461, ur1462, ur1472, ur1473, ur1474, ur1475, ur1476, ur1470, ur1471], [], [], [uV61], [uF2329, uF2491], []), ([ui0, (0, 5), ui525, ui1219, ui1334, (0, 1), ui49, (0, 1), ui31, ui49, ui49, (0, 1)], [ur1414, ur1461, ur1462, ur1472, ur1473, ur1474, ur1475, ur1476, ur1470, ur1471], [], [], [uV781], [uF2431, (0, (false, 50, 0, []), 0, 0, 0, [(11, 1)])], [])], kc_82, 79176, 6, 127)
def cz_730_0i_0 (t : List (Int × Int)) : List (Int × Int) := ui0 :: (0, 5) :: ui525 :: ui1219 :: ui1334 :: (0, 1) :: ui49 :: (0, 1) :: t
def cz_730_0i_1 (t : List (Int × Int)) : List (Int × Int) := ui31 :: ui49 :: ui425 :: ui49 :: (0, 1) :: t
def cz_730_0f_0 (t : List zFa) : List zFa := uF2490 :: uF2488 :: uF2489 :: uF1477 :: uF1478 :: uF2105 :: uF2106 :: uF2107 :: t
def cz_730_0f_1 (t : List zFa) : List zFa := uF2108 :: uF2109 :: uF1708 :: uF1709 :: t
def cz_730_0 : zS := ((cz_730_0i_0 (cz_730_0i_1 [])), (cx_609pr_0 (cx_609pr_1 [])), [], [uV2, uV11, uV12, uV58, uV97, uV781, uV828], [], (cz_730_0f_0 (cz_730_0f_1 [])), [uG2492, uG2493])
set_option maxRecDepth 1000000 in
theorem ck_730 : x_ok mLT1 [cx_654, cx_729, cx_579, cx_517, cx_521, cx_727] mTS2 mTC2 mRUp cx_730 [(2, [0]), (9, [1]), (16, [2]), (27, [3]), (49, [4]), (65, [5])] [] [(41, cz_730_0, (533, [(10, (-24))]))] (553, []) 78623 26 = true := by decide +kernel
theorem sn_730 {W : Bool} {X : List Int32} : y_Snd (mGw W) mLT1 (J2 W X) X cx_730 := y_ok J2_J mTS2_ok1 mTC2_ok1 mRUp_ok1 (List.forall_mem_cons.mpr ⟨sn_654, List.forall_mem_cons.mpr ⟨sn_729, List.forall_mem_cons.mpr ⟨sn_579, List.forall_mem_cons.mpr ⟨sn_517, List.forall_mem_cons.mpr ⟨sn_521, List.forall_mem_cons.mpr ⟨sn_727, fun _ h => absurd h List.not_mem_nil⟩⟩⟩⟩⟩⟩) ck_730
/-- M.tell -/
def cx_731 : zCtx := (301, ([ui0, ui49, ui49, (0, 1), ui48], [ur1414], [], [], [uV2, uV11, uV12, uV58], [uF2494], []), [([ui0, ui262, ui49, (0, 1), ui1335], [ur1414], [], [], [uV61], [uF2494], []), ([ui0, ui261, ui49, (0, 1), ui1335], [ur1414], [], [], [uV61], [uF2494], []), ([ui0, (0, 5), ui525, (0, 1), ui1335], [ur1414], [], [], [uV97], [(0, (false, 63, 0, []), 0, 0, 1, [(4, 1)])], []), ([ui0, (0, 5), ui1333, (0, 1), ui1335], [ur1414], [], [], [uV61], [uF2494], []), ([ui0, (0, 5), ui262, (0, 1), ui1335], [ur1414], [], [], [uV61], [uF2494], []), ([ui0, ui49, ui49, (0, 1), ui1341], [ur1414], [], [], [uV61], [uF2494], [])], [uk2495, (89, true, 0), (90, true, 0), (91, true, 0)], 55, 2, 42)
set_option maxRecDepth 1000000 in
theorem ck_731 : x_ok mLT1 [cx_517, cx_729] mTS2 mTC2 mRUp cx_731 [(12, [0]), (19, [1])] [] [] (41, []) 14 44 = true := by decide +kernel
theorem sn_731 {W : Bool} {X : List Int32} : y_Snd (mGw W) mLT1 (J2 W X) X cx_731 := y_ok J2_J mTS2_ok1 mTC2_ok1 mRUp_ok1 (List.forall_mem_cons.mpr ⟨sn_517, List.forall_mem_cons.mpr ⟨sn_729, fun _ h => absurd h List.not_mem_nil⟩⟩) ck_731
/-- M.forget -/
def cx_732 : zCtx := (302, ([ui0, ui48], [ur1414], [], [], [uV2], [(0, (false, 63, 0, []), 0, 0, 0, [(1, 1)])], []), [([ui0, ui48], [ur1414], [], [], [uV11], [uF2057], [])], [uk2495], 8, 0, 0)
set_option maxRecDepth 1000000 in
theorem ck_732 : x_ok mLT1 [] mTS2 mTC2 mRUp cx_732 [] [] [] (8, []) 0 11 = true := by decide +kernel
theorem sn_732 {W : Bool} {X : List Int32} : y_Snd (mGw W) mLT1 (J2 W X) X cx_732 := y_ok J2_J mTS2_ok1 mTC2_ok1 mRUp_ok1 (fun _ h => absurd h List.not_mem_nil) ck_732
/-- M.isAsked -/
def cx_733 : zCtx := (304, ([ui0, ui49, ui49, ui48], [ur1414], [], [], [uV2, uV11, uV12], [(0, (false, 63, 0, []), 0, 0, 0, [(3, 1)])], []), [([ui0, ui262, ui49, ui48], [ur1414], [], [], [uV62], [], []), ([ui0, ui506, ui49, ui48], [ur1414], [uL1450], [], [uV62], [], []), ([ui0, ui48, ui1343, ui48], [ur1414], [uL66], [], [uV62], [], []), ([ui0, ui48, ui1342, ui48], [ur1414], [uL66], [], [uV62], [], []), ([ui0, ui48, (1, 6), ui48], [ur1414], [uL66], [], [uV64], [], [])], [], 23, 1, 22)
set_option maxRecDepth 1000000 in
theorem ck_733 : x_ok mLT1 [cx_517] mTS2 mTC2 mRUp cx_733 [(6, [0]), (16, [0])] [] [] (14, []) 9 17 = true := by decide +kernel
theorem sn_733 {W : Bool} {X : List Int32} : y_Snd (mGw W) mLT1 (J2 W X) X cx_733 := y_ok J2_J mTS2_ok1 mTC2_ok1 mRUp_ok1 (List.forall_mem_cons.mpr ⟨sn_517, fun _ h => absurd h List.not_mem_nil⟩) ck_733
/-- M.sixes -/
def cx_734 : zCtx := (305, ([ui0, (1, 6)], [], [], [], [uV11], [], []), [([ui0, (1, 1)], [], [], [], [uV315], [], []), ([ui0, (2, 2)], [], [], [], [uV1299], [], []), ([ui0, (3, 3)], [], [], [], [(0, 0, 216, [])], [], []), ([ui0, (4, 4)], [], [], [], [(0, 0, 1296, [])], [], []), ([ui0, (5, 5)], [], [], [], [(0, 0, 7776, [])], [], []), ([ui0, (6, 6)], [], [], [], [(0, 0, 46656, [])], [], [])], [], 140, 0, 0)
set_option maxRecDepth 1000000 in
theorem ck_734 : x_ok mLT1 [] mTS2 mTC2 mRUp cx_734 [] [] [(4, ([(0, 3072), (1, 6)], [], [], [(0, 0, 0, [(1, 1)]), (0, 0, 1, []), (0, 0, 0, [])], [], [], []), (10, [(1, 20)])), (4, ([(0, 3072), (1, 6)], [], [], [(0, 0, 0, [(1, 1)]), (0, 0, 6, []), (0, 0, 1, [])], [], [], []), ((-10), [(1, 20)])), (4, ([(0, 3072), (2, 6)], [], [], [(0, 0, 0, [(1, 1)]), (0, 0, 36, []), (0, 0, 2, [])], [], [], []), ((-30), [(1, 20)])), (4, ([(0, 3072), (3, 6)], [], [], [(0, 0, 0, [(1, 1)]), (0, 0, 216, []), (0, 0, 3, [])], [], [], []), ((-50), [(1, 20)])), (4, ([(0, 3072), (4, 6)], [], [], [(0, 0, 0, [(1, 1)]), (0, 0, 1296, []), (0, 0, 4, [])], [], [], []), ((-70), [(1, 20)])), (4, ([(0, 3072), (5, 6)], [], [], [(0, 0, 0, [(1, 1)]), (0, 0, 7776, []), (0, 0, 5, [])], [], [], []), ((-90), [(1, 20)])), (4, ([(0, 3072), (6, 6)], [], [], [(0, 0, 0, [(1, 1)]), (0, 0, 46656, []), (0, 0, 6, [])], [], [], []), ((-200000000000), [(1, 33333333335)]))] (140, []) 0 12 = true := by decide +kernel
theorem sn_734 {W : Bool} {X : List Int32} : y_Snd (mGw W) mLT1 (J2 W X) X cx_734 := y_ok J2_J mTS2_ok1 mTC2_ok1 mRUp_ok1 (fun _ h => absurd h List.not_mem_nil) ck_734
/-- M.doesFit -/
def cx_735 : zCtx := (306, ([ui0, ui2496, ui48, (1, 6), (0, 1)], [ur1414], [], [], [uV2, uV11, uV12, uV58], [uF2185], []), [([ui0, ui2496, ui48, (1, 6), (0, 1)], [ur1414], [], [], [uV62], [], []), ([ui0, ui2496, ui48, (1, 6), (0, 1)], [ur1414], [], [], [uV64], [], [])], [(92, true, 0)], 1039, 2, 43)
set_option maxRecDepth 1000000 in
theorem ck_735 : x_ok mLT1 [cx_654] mTS2 mTC2 mRUp cx_735 [(43, [0])] [] [(11, ([(0, 3072), (0, 46655), (0, 20), (1, 6), (0, 1), (0, 46655), (0, 63), ((-1), 5)], [(12, false)], [], [(2, 0, 0, []), (0, 0, 0, [(1, 1)]), (0, 0, 0, [(2, 1)]), (0, 0, 0, [(3, 1)]), (0, 0, 0, [(5, 1)]), (0, 0, 0, [(6, 1)]), (0, 0, 0, [(7, 1)])], [], [(0, (false, 18, 0, []), 0, 0, 0, [(4, 1)])], []), (800, [(7, 42)])), (90, ([(0, 3072), (0, 46655), (0, 20), (1, 6), (0, 1), (0, 46655), (0, 63), (0, 22)], [(12, false)], [], [(2, 0, 0, []), (0, 0, 0, [(1, 1)]), (0, 0, 0, [(2, 1)]), (0, 0, 0, [(3, 1)]), (0, 0, 0, [(5, 1)]), (0, 0, 0, [(6, 1)]), (0, 0, 0, [(7, 1)])], [], [(0, (false, 18, 0, []), 0, 0, 0, [(4, 1)])], []), (753, [(7, (-34))]))] (1019, []) 20 44 = true := by decide +kernel
theorem sn_735 {W : Bool} {X : List Int32} : y_Snd (mGw W) mLT1 (J2 W X) X cx_735 := y_ok J2_J mTS2_ok1 mTC2_ok1 mRUp_ok1 (List.forall_mem_cons.mpr ⟨sn_654, fun _ h => absurd h List.not_mem_nil⟩) ck_735
def cx_736pi_0 (t : List (Int × Int)) : List (Int × Int) := ui0 :: ui49 :: ui49 :: ui49 :: (0, 1) :: ui49 :: (0, 1) :: ui48 :: t
def cx_736pi_1 (t : List (Int × Int)) : List (Int × Int) := ui31 :: t
def cx_736pf_0 (t : List zFa) : List zFa := uF2185 :: uF1971 :: uF2485 :: uF2497 :: uF1477 :: uF1478 :: uF2105 :: uF2106 :: t
def cx_736pf_1 (t : List zFa) : List zFa := uF2107 :: uF2108 :: uF2109 :: uF1708 :: uF1709 :: t
def cx_736p : zS := ((cx_736pi_0 (cx_736pi_1 [])), (cx_609pr_0 (cx_609pr_1 [])), [], [], [uV2, uV11, uV12, uV58], (cx_736pf_0 (cx_736pf_1 [])), [uG2189, uG2498])
/-- M.rows -/
def cx_736 : zCtx := (303, cx_736p, [([ui0, ui48, (1, 6), ui262, (0, 1), ui49, (0, 1), ui48, ui31], [ur1414, ur1461, ur1462, ur1472, ur1473, ur1474, ur1475, ur1476, ur1470, ur1471], [uL2499], [], [uV61], [uF1971, uF2485], []), ([ui0, ui48, (1, 6), ui1066, (0, 1), ui49, (0, 1), ui48, ui31], [ur1414, ur1461, ur1462, ur1472, ur1473, ur1474, ur1475, ur1476, ur1470, ur1471], [uL2499], [], [uV61], [uF1971, uF2485], []), ([ui0, ui48, ui1342, ui49, (0, 1), ui49, (0, 1), ui48, ui31], [ur1414, ur1461, ur1462, ur1472, ur1473, ur1474, ur1475, ur1476, ur1470, ur1471], [uL2499], [], [uV61], [uF1971, uF2485], []), ([ui0, ui48, ui1343, ui49, (0, 1), ui49, (0, 1), ui48, ui31], [ur1414, ur1461, ur1462, ur1472, ur1473, ur1474, ur1475, ur1476, ur1470, ur1471], [uL2499], [], [uV61], [uF1971, uF2485], []), ([ui0, ui506, ui49, ui49, (0, 1), ui49, (0, 1), ui48, ui31], [ur1414, ur1461, ur1462, ur1472, ur1473, ur1474, ur1475, ur1476, ur1470, ur1471], [uL2500], [], [uV61], [uF1971, uF2485], []), ([ui0, ui262, ui49, ui49, (0, 1), ui49, (0, 1), ui48, ui31], [ur1414, ur1461, ur1462, ur1472, ur1473, ur1474, ur1475, ur1476, ur1470, ur1471], [], [], [uV61], [uF1971, uF2485], []), ([ui0, ui48, (1, 6), (0, 0), (0, 1), ui49, (0, 1), ui48, ui31, ui49, ui196], [ur1414, ur1461, ur1462, ur1472, ur1473, ur1474, ur1475, ur1476, ur1470, ur1471], [uL2499], [], [uV781], [uF1970, uF2431], [uG1977, uG1973]), ([ui0, ui48, (1, 6), (1, 1), (0, 1), ui49, (0, 1), ui48, ui31, ui2501, ui196], [ur1414, ur1461, ur1462, ur1472, ur1473, ur1474, ur1475, ur1476, ur1470, ur1471], [uL2499], [], [uV781], [uF1970, uF2431], [uG1977, uG1973])], kc_88, 733008, 6, 129)
def cz_736_0i_0 (t : List (Int × Int)) : List (Int × Int) := ui0 :: ui48 :: (1, 6) :: (0, 1) :: (0, 1) :: ui49 :: (0, 1) :: ui48 :: t
def cz_736_0i_1 (t : List (Int × Int)) : List (Int × Int) := ui31 :: ui49 :: ui2501 :: ((-1), 46655) :: ui196 :: t
def cz_736_0f_0 (t : List zFa) : List zFa := uF1970 :: (0, (false, 49, 0, []), 0, 0, 0, [(12, 1)]) :: uF2339 :: uF2340 :: uF2341 :: uF2185 :: uF2497 :: uF1477 :: t
def cz_736_0f_1 (t : List zFa) : List zFa := uF1478 :: uF2105 :: uF2106 :: uF2107 :: uF2108 :: uF2109 :: uF1708 :: uF1709 :: t
def cz_736_0 : zS := ((cz_736_0i_0 (cz_736_0i_1 [])), (cz_631_0r_0 (cz_631_0r_1 [])), [uL2499], [uV2, uV11, uV12, uV58, uV781, uV828, uV843], [], (cz_736_0f_0 (cz_736_0f_1 [])), [uG1977, uG1973, uG2189, uG2498])
set_option maxRecDepth 1000000 in
theorem ck_736 : x_ok mLT1 [cx_733, cx_517, cx_521, cx_656, cx_734, cx_735] mTS2 mTC2 mRUp cx_736 [(3, [0]), (12, [1]), (21, [2]), (25, [3]), (36, [4]), (53, [5])] [] [(43, cz_736_0, (21, [(11, 14)]))] (653215, []) 79793 26 = true := by decide +kernel
theorem sn_736 {W : Bool} {X : List Int32} : y_Snd (mGw W) mLT1 (J2 W X) X cx_736 := y_ok J2_J mTS2_ok1 mTC2_ok1 mRUp_ok1 (List.forall_mem_cons.mpr ⟨sn_733, List.forall_mem_cons.mpr ⟨sn_517, List.forall_mem_cons.mpr ⟨sn_521, List.forall_mem_cons.mpr ⟨sn_656, List.forall_mem_cons.mpr ⟨sn_734, List.forall_mem_cons.mpr ⟨sn_735, fun _ h => absurd h List.not_mem_nil⟩⟩⟩⟩⟩⟩) ck_736
/-- M.feel -/
def cx_737 : zCtx := (307, cx_736p, [([ui0, ui48, (1, 6), ui1333, (0, 1), ui49, (0, 1), ui48, ui31], [ur1414, ur1461, ur1462, ur1472, ur1473, ur1474, ur1475, ur1476, ur1470, ur1471], [uL2499], [], [uV61], [uF1971, uF2485], []), ([ui0, ui48, (1, 6), ui262, (0, 1), ui49, (0, 1), ui48, ui31], [ur1414, ur1461, ur1462, ur1472, ur1473, ur1474, ur1475, ur1476, ur1470, ur1471], [uL2499], [], [uV61], [uF1971, uF2485], []), ([ui0, ui48, ui1342, ui49, (0, 1), ui49, (0, 1), ui48, ui31], [ur1414, ur1461, ur1462, ur1472, ur1473, ur1474, ur1475, ur1476, ur1470, ur1471], [uL2499], [], [uV61], [uF1971, uF2485], []), ([ui0, ui48, ui1343, ui49, (0, 1), ui49, (0, 1), ui48, ui31], [ur1414, ur1461, ur1462, ur1472, ur1473, ur1474, ur1475, ur1476, ur1470, ur1471], [uL2499], [], [uV61], [uF1971, uF2485], []), ([ui0, ui506, ui49, ui49, (0, 1), ui49, (0, 1), ui48, ui31], [ur1414, ur1461, ur1462, ur1472, ur1473, ur1474, ur1475, ur1476, ur1470, ur1471], [uL2500], [], [uV61], [uF1971, uF2485], []), ([ui0, ui262, ui49, ui49, (0, 1), ui49, (0, 1), ui48, ui31], [ur1414, ur1461, ur1462, ur1472, ur1473, ur1474, ur1475, ur1476, ur1470, ur1471], [], [], [uV61], [uF1971, uF2485], []), ([ui0, ui48, (1, 6), ui525, (0, 1), ui49, (0, 1), ui48, ui31, ui1332, ui196], [ur1414, ur1461, ur1462, ur1472, ur1473, ur1474, ur1475, ur1476, ur1470, ur1471], [uL2499], [], [uV781], [uF1970, uF2431], [uG1977, uG1973])], kc_89, 7451756, 6, 129)
def cq_737 : List zCtx := [cx_733, cx_729, cx_521, cx_656, cx_734, cx_735]
def cs_737 : List (Nat × List Nat) := [(3, [0]), (10, [1]), (19, [2]), (23, [3]), (59, [4]), (70, [5])]
def hs_737 : List (Nat × List Nat) := []
def nd_737_0pi_0 (t : List (Int × Int)) : List (Int × Int) := ui0 :: ui48 :: (1, 6) :: ui525 :: (0, 1) :: ui49 :: (0, 1) :: ui48 :: t
def nd_737_0pi_1 (t : List (Int × Int)) : List (Int × Int) := ui31 :: (0, 6) :: ui196 :: t
def nd_737_0pl_0 (t : List zV) : List zV := uV2 :: uV11 :: uV12 :: uV58 :: uV781 :: uV113 :: uV113 :: uV113 :: t
def nd_737_0pl_1 (t : List zV) : List zV := uV113 :: t
def nd_737_0pf_0 (t : List zFa) : List zFa := uF1970 :: uF2431 :: uF2339 :: uF2340 :: uF2341 :: uF2185 :: uF2497 :: uF1477 :: t
def nd_737_0pf_1 (t : List zFa) : List zFa := uF1478 :: uF2105 :: uF2106 :: uF2107 :: uF2108 :: uF2109 :: uF1708 :: uF1709 :: t
def nd_737_0p : zS := ((nd_737_0pi_0 (nd_737_0pi_1 [])), (cz_631_0r_0 (cz_631_0r_1 [])), [uL2499], (nd_737_0pl_0 (nd_737_0pl_1 [])), [], (nd_737_0pf_0 (nd_737_0pf_1 [])), [uG1977, uG1973, uG2189, uG2498])
def nd_737_0 : zN := (29, nd_737_0p, (7371948, [(9, (-11))]))
def nd_737_1pi_0 (t : List (Int × Int)) : List (Int × Int) := ui0 :: ui48 :: (1, 6) :: ui525 :: (0, 1) :: ui49 :: (0, 1) :: ui48 :: t
def nd_737_1pi_1 (t : List (Int × Int)) : List (Int × Int) := ui31 :: ui49 :: ui1122 :: ui196 :: t
def nd_737_1pl_0 (t : List zV) : List zV := uV2 :: uV11 :: uV12 :: uV58 :: uV781 :: uV828 :: uV113 :: uV113 :: t
def nd_737_1pl_1 (t : List zV) : List zV := uV113 :: t
def nd_737_1pf_0 (t : List zFa) : List zFa := uF1970 :: uF2488 :: uF2339 :: uF2340 :: uF2341 :: uF2185 :: uF2497 :: uF1477 :: t
def nd_737_1pf_1 (t : List zFa) : List zFa := uF1478 :: uF2105 :: uF2106 :: uF2107 :: uF2108 :: uF2109 :: uF1708 :: uF1709 :: t
def nd_737_1p : zS := ((nd_737_1pi_0 (nd_737_1pi_1 [])), (cz_631_0r_0 (cz_631_0r_1 [])), [uL2499], (nd_737_1pl_0 (nd_737_1pl_1 [])), [], (nd_737_1pf_0 (nd_737_1pf_1 [])), [uG1977, uG1973, uG2189, uG2498])
def nd_737_1 : zN := (56, nd_737_1p, (7371874, [(10, (-158))]))
def nd_737_2pi_0 (t : List (Int × Int)) : List (Int × Int) := ui0 :: ui48 :: (1, 6) :: ui525 :: (0, 1) :: ui49 :: (0, 1) :: ui48 :: t
def nd_737_2pi_1 (t : List (Int × Int)) : List (Int × Int) := ui31 :: ui49 :: ui2496 :: (0, 6) :: ui196 :: t
def nd_737_2pl_0 (t : List zV) : List zV := uV2 :: uV11 :: uV12 :: uV58 :: uV781 :: uV828 :: uV843 :: uV113 :: t
def nd_737_2pl_1 (t : List zV) : List zV := uV113 :: t
def nd_737_2p : zS := ((nd_737_2pi_0 (nd_737_2pi_1 [])), (cz_631_0r_0 (cz_631_0r_1 [])), [uL2499], (nd_737_2pl_0 (nd_737_2pl_1 [])), [], (cz_736_0f_0 (cz_736_0f_1 [])), [uG1977, uG1973, uG2189, uG2498])
def nd_737_2 : zN := (85, nd_737_2p, (7371860, [(10, (-158)), (11, (-23))]))
def nd_737_3pi_0 (t : List (Int × Int)) : List (Int × Int) := ui0 :: ui48 :: (1, 6) :: ui525 :: (0, 1) :: ui49 :: (0, 1) :: ui48 :: t
def nd_737_3pi_1 (t : List (Int × Int)) : List (Int × Int) := ui31 :: ui49 :: ui1332 :: ui49 :: (0, 6) :: ui196 :: t
def nd_737_3pl_0 (t : List zV) : List zV := uV2 :: uV11 :: uV12 :: uV58 :: uV781 :: uV828 :: uV843 :: uV198 :: t
def nd_737_3pl_1 (t : List zV) : List zV := uV113 :: t
def nd_737_3pf_0 (t : List zFa) : List zFa := uF1970 :: uF2484 :: uF2339 :: uF2340 :: uF2341 :: uF2185 :: uF2497 :: uF1477 :: t
def nd_737_3pf_1 (t : List zFa) : List zFa := uF1478 :: uF2105 :: uF2106 :: uF2107 :: uF2108 :: uF2109 :: uF1708 :: uF1709 :: t
def nd_737_3p : zS := ((nd_737_3pi_0 (nd_737_3pi_1 [])), (cz_631_0r_0 (cz_631_0r_1 [])), [uL2499], (nd_737_3pl_0 (nd_737_3pl_1 [])), [], (nd_737_3pf_0 (nd_737_3pf_1 [])), [uG1977, uG1973, uG2189, uG2498])
def nd_737_3 : zN := (140, nd_737_3p, (215, [(12, (-35))]))
def ns_737 : List zN := [nd_737_0, nd_737_1, nd_737_2, nd_737_3]
set_option maxRecDepth 1000000 in
theorem ca_737 : x_okA mLT1 cq_737 mTS2 mTC2 mRUp cx_737 cs_737 hs_737 ns_737 (7371963, []) 79793 37 = true := by decide +kernel
set_option maxRecDepth 1000000 in
theorem cb_737_0 : x_okB mLT1 cq_737 mTS2 mTC2 mRUp cx_737 cs_737 hs_737 ns_737 (7371963, []) 79793 37 nd_737_0 = true := by decide +kernel
set_option maxRecDepth 1000000 in
theorem cb_737_1 : x_okB mLT1 cq_737 mTS2 mTC2 mRUp cx_737 cs_737 hs_737 ns_737 (7371963, []) 79793 37 nd_737_1 = true := by decide +kernel
set_option maxRecDepth 1000000 in
theorem cb_737_2 : x_okB mLT1 cq_737 mTS2 mTC2 mRUp cx_737 cs_737 hs_737 ns_737 (7371963, []) 79793 37 nd_737_2 = true := by decide +kernel
set_option maxRecDepth 1000000 in
theorem cb_737_3 : x_okB mLT1 cq_737 mTS2 mTC2 mRUp cx_737 cs_737 hs_737 ns_737 (7371963, []) 79793 37 nd_737_3 = true := by decide +kernel
set_option maxRecDepth 1000000 in
theorem cc_737 : x_okC mLT1 cq_737 mTS2 mTC2 mRUp cx_737 cs_737 hs_737 ns_737 (7371963, []) 79793 37 = true := by decide +kernel
theorem ck_737 : x_ok mLT1 cq_737 mTS2 mTC2 mRUp cx_737 cs_737 hs_737 ns_737 (7371963, []) 79793 37 = true := x_ok_of ca_737 (List.forall_mem_cons.mpr ⟨cb_737_0, List.forall_mem_cons.mpr ⟨cb_737_1, List.forall_mem_cons.mpr ⟨cb_737_2, List.forall_mem_cons.mpr ⟨cb_737_3, fun _ h => absurd h List.not_mem_nil⟩⟩⟩⟩) cc_737
theorem sn_737 {W : Bool} {X : List Int32} : y_Snd (mGw W) mLT1 (J2 W X) X cx_737 := y_ok J2_J mTS2_ok1 mTC2_ok1 mRUp_ok1 (List.forall_mem_cons.mpr ⟨sn_733, List.forall_mem_cons.mpr ⟨sn_729, List.forall_mem_cons.mpr ⟨sn_521, List.forall_mem_cons.mpr ⟨sn_656, List.forall_mem_cons.mpr ⟨sn_734, List.forall_mem_cons.mpr ⟨sn_735, fun _ h => absurd h List.not_mem_nil⟩⟩⟩⟩⟩⟩) ck_737
/-- M.hold -/
def cx_738 : zCtx := (308, ([ui0, ui1301, (0, 1), (0, 1), (0, 1)], [ur1414, ur1982, ur1983, ur2502], [], [], [uV2, uV11], [uF2503, uF2504, uF2505, uF2506, uF2121, uF2507], [uG1978, uG2508]), [([ui0, ui1301, (0, 1), (0, 1), (0, 1)], [ur1414, ur1982, ur1983, ur2502], [], [], [uV62], [uF2504, uF2505, uF2506], [])], [], 16, 1, 22)
set_option maxRecDepth 1000000 in
theorem ck_738 : x_ok mLT1 [cx_517] mTS2 mTC2 mRUp cx_738 [(3, [0])] [] [] (7, []) 9 10 = true := by decide +kernel
theorem sn_738 {W : Bool} {X : List Int32} : y_Snd (mGw W) mLT1 (J2 W X) X cx_738 := y_ok J2_J mTS2_ok1 mTC2_ok1 mRUp_ok1 (List.forall_mem_cons.mpr ⟨sn_517, fun _ h => absurd h List.not_mem_nil⟩) ck_738
/-- M.hold -/
def cx_739 : zCtx := (308, ([ui0, (0, 1), (0, 1), (0, 1), (0, 6), (0, 1), (0, 1), (0, 1)], [ur1414, ur1982, ur1983, ur2502], [], [], [uV2, uV62], [uF2503, uF2509, uF2510, uF2511, uF2121, uF2507], [uG1978, uG2508, uG2512, (248, [uL114, uL98])]), [([ui0, (0, 1), (0, 1), (0, 1), (0, 6), (0, 1), (0, 1), (0, 1)], [ur1414, ur1982, ur1983, ur2502], [], [], [uV64], [(1, (true, 0, 0, []), 0, 0, 1, []), uF2510, uF2511], [uG2513, uG2508, (13, [uL63]), uG2512, uG2513])], [uk2514, uk2515], 587, 1, 22)
def cq_739 : List zCtx := [cx_517]
def cs_739 : List (Nat × List Nat) := [(3, [0])]
def hs_739 : List (Nat × List Nat) := [(11, [977]), (49, [210, 1000707, 1000708, 1000709])]
def ns_739 : List zN := []
set_option maxRecDepth 1000000 in
theorem ca_739 : x_okA mLT1 cq_739 mTS2 mTC2 mRUp cx_739 cs_739 hs_739 ns_739 (578, []) 9 581 = true := by decide +kernel
set_option maxRecDepth 1000000 in
theorem cc_739 : x_okC mLT1 cq_739 mTS2 mTC2 mRUp cx_739 cs_739 hs_739 ns_739 (578, []) 9 581 = true := by decide +kernel
theorem ck_739 : x_ok mLT1 cq_739 mTS2 mTC2 mRUp cx_739 cs_739 hs_739 ns_739 (578, []) 9 581 = true := x_ok_of ca_739 (fun _ h => absurd h List.not_mem_nil) cc_739
theorem sn_739 {W : Bool} {X : List Int32} : y_Snd (mGw W) mLT1 (J2 W X) X cx_739 := y_ok J2_J mTS2_ok1 mTC2_ok1 mRUp_ok1 (List.forall_mem_cons.mpr ⟨sn_517, fun _ h => absurd h List.not_mem_nil⟩) ck_739
end
