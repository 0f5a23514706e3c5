noncomputable section
/-! ===== readings, by program, checked by the kernel ===== -/
/-- M.termOf -/
def cx_534 : zCtx := (232, ([ui0, ui770, ui1867, (0, 1)], [ur1414, ur1470, ur1471, ur2134, ur2132], [uL508, uL2135, uL57], [], [uV2, uV11, uV12], [uF1733, uF1734, uF2136, uF2137, uF2138], [uG2139]), [([ui0, ui770, ui1867, (0, 1)], [ur1414, ur1470, ur1471, ur2134, ur2132], [uL508, uL2135, uL57], [], [uV62], [(0, (false, 46, 0, []), 0, 0, 1, [])], [uG2140, (231, [uL9, uL67, (2147483648, [])])]), ([ui0, ui770, ui1867, (0, 1), ui49], [ur1414, ur1470, ur1471, ur2134, ur2132], [uL508, uL2135, uL57], [], [uV97], [uF2136], [uG2140, (231, [uL9, uL67, uL98])])], [uk2141, uk2142], 66386, 0, 0)
def cz_534_0 : zS := ([ui0, ui770, ui1867, (0, 1), ui68, ui1674, ((-2147483648), 2147483648)], [ur1414, ur1470, ur1471, ur2134, ur2132], [uL508, uL2135, uL57, (0, [(1, 1), (4, 500), (5, (-1))]), uL57], [uV2, uV11, uV12, uV97, uV75, uV113, uV113, uV113], [], [uF1733, uF1734, uF2137, uF2138, uF2136], [uG2140, uG2139, (0, [uL9, uL98, uL104]), (229, [uL78, uL104, uL67, uL98]), (231, [uL9, uL67, uL78])])
set_option maxRecDepth 1000000 in
theorem ck_534 : x_ok mLT1 [] mTS2 mTC2 mRUp cx_534 [] [(3, [133, 1000641]), (11, [1000640]), (15, [264]), (59, [1000642, 1000643]), (97, [1000644]), (121, [1000637]), (135, [1000638]), (149, [1000639]), (157, [1000023]), (158, [1000645, 1000646, 1000647, 1000648, 1000649]), (159, [1000650]), (171, [1000651])] [(5, cz_534_0, (66376, [(4, 21), (5, (-79))]))] (66386, []) 0 52 = true := by decide +kernel
theorem sn_534 {W : Bool} {X : List Int32} : y_Snd (mGw W) mLT1 (J2 W X) X cx_534 := y_ok J2_J mTS2_ok1 mTC2_ok1 mRUp_ok1 (fun _ h => absurd h List.not_mem_nil) ck_534
def cx_535pr_0 (t : List (Nat × Bool)) : List (Nat × Bool) := ur1414 :: ur1472 :: ur1473 :: ur1474 :: ur1475 :: ur1476 :: ur1461 :: ur1462 :: t
def cx_535pr_1 (t : List (Nat × Bool)) : List (Nat × Bool) := ur1470 :: ur1471 :: ur2134 :: ur2132 :: t
def cx_535pf_0 (t : List zFa) : List zFa := uF2098 :: uF1700 :: uF1701 :: uF1702 :: uF1703 :: uF1704 :: uF1705 :: uF1706 :: t
def cx_535pf_1 (t : List zFa) : List zFa := uF1708 :: uF1709 :: uF2143 :: uF2144 :: t
def cx_535p : zS := ([ui0, (1, 1), (0, 1), ui31], (cx_535pr_0 (cx_535pr_1 [])), [], [], [uV2, uV62, uV11], (cx_535pf_0 (cx_535pf_1 [])), [uG2145, uG2146])
/-- M.lawTells -/
def cx_535 : zCtx := (231, cx_535p, [([ui0, (1, 1), (0, 1), ui31, ui1676, ui1676], [ur1414, ur1472, ur1473, ur1474, ur1475, ur1476, ur1461, ur1462, ur1470, ur1471, ur2134, ur2132], [uL1548, uL1547], [], [uV11], [uF2147, uF2148], [uG2149, uG2149]), ([ui0, (1, 1), (0, 1), ui31, ui49, ui2150, ui1676], [ur1414, ur1472, ur1473, ur1474, ur1475, ur1476, ur1461, ur1462, ur1470, ur1471, ur2134, ur2132], [], [], [uV97], [uF2151, uF2152], [(233, [uL67, uL63, uL9, uL98])]), ([ui0, (1, 1), (0, 1), ui31, ui1676, ui1676], [ur1414, ur1472, ur1473, ur1474, ur1475, ur1476, ur1461, ur1462, ur1470, ur1471, ur2134, ur2132], [], [], [uV62], [uF2147, uF2148], [(233, [uL67, uL63, uL9, uL63])])], [uk2141, uk2142], 77604, 1, 27)
def cz_535_0f_0 (t : List zFa) : List zFa := uF2151 :: uF2152 :: uF2098 :: uF1700 :: uF1701 :: uF1702 :: uF1703 :: uF1704 :: t
def cz_535_0f_1 (t : List zFa) : List zFa := uF1705 :: uF1706 :: uF1708 :: uF1709 :: uF2143 :: uF2144 :: uF2153 :: t
def cz_535_0 : zS := ([ui0, (1, 1), (0, 1), ui31, ui1676, ui1676, ui1676, ui49], (cx_535pr_0 (cx_535pr_1 [])), [uL2154], [uV2, uV62, uV11, (0, 0, 0, [(2, 4)]), uV97, uV113, uV113], [], (cz_535_0f_0 (cz_535_0f_1 [])), [uG2145, uG2146, uG2155, (233, [uL67, uL63, uL9, uL79])])
set_option maxRecDepth 1000000 in
theorem ck_535 : x_ok mLT1 [cx_534] mTS2 mTC2 mRUp cx_535 [(75, [0]), (95, [0]), (134, [0])] [(21, [1000655]), (24, [1000656]), (37, uN2156), (50, [12553]), (75, [1000652]), (95, [1000653]), (107, uN2157), (134, [1000654]), (146, uN2158), (150, uN2159), (153, [1000661]), (159, [1000666])] [(39, cz_535_0, ((-99999988807), [(1, 100000000000), (4, (-43))]))] (11218, []) 66386 59 = true := by decide +kernel
theorem sn_535 {W : Bool} {X : List Int32} : y_Snd (mGw W) mLT1 (J2 W X) X cx_535 := y_ok J2_J mTS2_ok1 mTC2_ok1 mRUp_ok1 (List.forall_mem_cons.mpr ⟨sn_534, fun _ h => absurd h List.not_mem_nil⟩) ck_535
/-- M.within -/
def cx_536 : zCtx := (233, ([ui0, ui49, (0, 0), ui2160], [], [], [], [uV11, uV12, uV58], [], []), [([ui0, ui262, (0, 0), ui2160], [], [uL57], [], [uV12], [], []), ([ui0, ui1333, (0, 0), ui2160], [], [uL1450, uL60], [], [uV58], [], []), ([ui0, ui586, (0, 0), ui2160], [], [uL66, uL60], [], [uV11], [], [])], [], 9, 0, 0)
set_option maxRecDepth 1000000 in
theorem ck_536 : x_ok mLT1 [] mTS2 mTC2 mRUp cx_536 [] [] [] (9, []) 0 12 = true := by decide +kernel
theorem sn_536 {W : Bool} {X : List Int32} : y_Snd (mGw W) mLT1 (J2 W X) X cx_536 := y_ok J2_J mTS2_ok1 mTC2_ok1 mRUp_ok1 (fun _ h => absurd h List.not_mem_nil) ck_536
def cx_537pi_0 (t : List (Int × Int)) : List (Int × Int) := ui0 :: (0, 5) :: (0, 1) :: ui31 :: (0, 6) :: ui49 :: ui49 :: ui49 :: t
def cx_537pi_1 (t : List (Int × Int)) : List (Int × Int) := ui49 :: ui49 :: ui49 :: t
def cx_537pr_0 (t : List (Nat × Bool)) : List (Nat × Bool) := ur1414 :: ur1461 :: ur1462 :: ur1472 :: ur1473 :: ur1474 :: ur1475 :: ur1476 :: t
def cx_537pr_1 (t : List (Nat × Bool)) : List (Nat × Bool) := ur1470 :: ur1471 :: ur1463 :: ur1575 :: ur1576 :: ur1963 :: ur2132 :: t
def cx_537pf_0 (t : List zFa) : List zFa := uF2098 :: uF1477 :: uF1478 :: uF2105 :: uF2106 :: uF2107 :: uF2108 :: uF2109 :: t
def cx_537pf_1 (t : List zFa) : List zFa := uF1708 :: uF1709 :: uF2110 :: uF2111 :: uF2112 :: uF2113 :: uF2161 :: t
def cx_537p : zS := ((cx_537pi_0 (cx_537pi_1 [])), (cx_537pr_0 (cx_537pr_1 [])), [uL768, uL9, uL564], [], [uV2, uV11], (cx_537pf_0 (cx_537pf_1 [])), [uG2145, uG2146, uG2162, uG2163, uG2164])
/-- M.growsOf -/
def cx_537 : zCtx := (228, cx_537p, [([ui0, (0, 5), (0, 1), ui31, (1, 6), ui49, ui49, ui49, ui49, ui49, ui49, ui525], [ur1414, ur1461, ur1462, ur1472, ur1473, ur1474, ur1475, ur1476, ur1470, ur1471, ur1463, ur1575, ur1576, ur1963, ur2132], [uL564, uL768, uL9], [], [uV843], [], [(238, [uL36, uL23, uL104, uL78, uL79, uL131, uL164, uL170, uL63, uL9, uL195])])], [uk2141, uk2133, uk2142], 77615, 3, 63)
set_option maxRecDepth 1000000 in
theorem ck_537 : x_ok mLT1 [cx_533, cx_535, cx_536] mTS2 mTC2 mRUp cx_537 [(2, [0]), (8, [1]), (14, [2])] [(11, uN2165), (17, uN546)] [] (11, []) 77604 14 = true := by decide +kernel
theorem sn_537 {W : Bool} {X : List Int32} : y_Snd (mGw W) mLT1 (J2 W X) X cx_537 := y_ok J2_J mTS2_ok1 mTC2_ok1 mRUp_ok1 (List.forall_mem_cons.mpr ⟨sn_533, List.forall_mem_cons.mpr ⟨sn_535, List.forall_mem_cons.mpr ⟨sn_536, fun _ h => absurd h List.not_mem_nil⟩⟩⟩) ck_537
def cx_538pi_0 (t : List (Int × Int)) : List (Int × Int) := ui0 :: (0, 5) :: (5, 5) :: (0, 1) :: ui49 :: (0, 1) :: ui31 :: (0, 6) :: t
def cx_538pi_1 (t : List (Int × Int)) : List (Int × Int) := (0, 6) :: ui49 :: ui49 :: t
def cx_538p : zS := ((cx_538pi_0 (cx_538pi_1 [])), (cx_519pr_0 (cx_519pr_1 [])), [uL1187], [], [uV2, uV11, uV12], (cx_519pf_0 (cx_519pf_1 [])), [uG2115, uG2117, uG2118, uG2119, uG2120])
def cx_538q0i_0 (t : List (Int × Int)) : List (Int × Int) := ui0 :: (0, 5) :: (5, 5) :: (0, 1) :: ui49 :: (0, 1) :: ui31 :: (0, 6) :: t
def cx_538q0i_1 (t : List (Int × Int)) : List (Int × Int) := (0, 6) :: ui49 :: ui49 :: ui49 :: t
def cx_538q0 : zS := ((cx_538q0i_0 (cx_538q0i_1 [])), (cx_519pr_0 (cx_519pr_1 [])), [uL9, uL2124], [], [uV843], [], [uG1973, uG2120, (238, [uL36, uL78, uL63, uL63, uL63, uL63, uL63, uL63, uL63, uL9, uL195])])
/-- M.house -/
def cx_538 : zCtx := (221, cx_538p, [cx_538q0, ([ui0, (0, 5), (5, 5), (0, 1), ui49, (0, 1), ui31, (0, 6), (0, 6), ui49, ui49], [ur1414, ur1461, ur1462, ur1472, ur1473, ur1474, ur1475, ur1476, ur1470, ur1471, ur1463, ur1575, ur1576, ur1963], [uL2114], [], [uV61], [], [uG2120])], [uk2141, uk1974, uk1975, uk2133, uk2142, uk1976], 77627, 4, 84)
set_option maxRecDepth 1000000 in
theorem ck_538 : x_ok mLT1 [cx_518, cx_521, cx_537] mTS2 mTC2 mRUp cx_538 [(2, [0]), (11, [1]), (118, [2])] [(14, [1000823]), (15, [1000835])] [] (12, []) 77615 15 = true := by decide +kernel
theorem sn_538 {W : Bool} {X : List Int32} : y_Snd (mGw W) mLT1 (J2 W X) X cx_538 := y_ok J2_J mTS2_ok1 mTC2_ok1 mRUp_ok1 (List.forall_mem_cons.mpr ⟨sn_518, List.forall_mem_cons.mpr ⟨sn_521, List.forall_mem_cons.mpr ⟨sn_537, fun _ h => absurd h List.not_mem_nil⟩⟩⟩) ck_538
def cx_539p : zS := ([ui0, (1, 1), (0, 1), ui31], (cx_535pr_0 (cx_535pr_1 [])), [], [], [uV2, uV64, uV11], (cx_535pf_0 (cx_535pf_1 [])), [uG2145, uG2146])
/-- M.lawTells -/
def cx_539 : zCtx := (231, cx_539p, [([ui0, (1, 1), (0, 1), ui31, ui1676, ui1676], [ur1414, ur1472, ur1473, ur1474, ur1475, ur1476, ur1461, ur1462, ur1470, ur1471, ur2134, ur2132], [uL1548, uL1547], [], [uV11], [uF2166, uF2167], [uG2168, uG2168]), ([ui0, (1, 1), (0, 1), ui31, ui49, ui2150, ui1676], [ur1414, ur1472, ur1473, ur1474, ur1475, ur1476, ur1461, ur1462, ur1470, ur1471, ur2134, ur2132], [], [], [uV97], [uF2169, uF2170], [(233, [uL67, uL65, uL9, uL98])]), ([ui0, (1, 1), (0, 1), ui31, ui1676, ui1676], [ur1414, ur1472, ur1473, ur1474, ur1475, ur1476, ur1461, ur1462, ur1470, ur1471, ur2134, ur2132], [], [], [uV62], [uF2166, uF2167], [(233, [uL67, uL65, uL9, uL63])])], [uk2141, uk2142], 77604, 1, 27)
def cz_539_0f_0 (t : List zFa) : List zFa := uF2169 :: uF2170 :: uF2098 :: uF1700 :: uF1701 :: uF1702 :: uF1703 :: uF1704 :: t
def cz_539_0f_1 (t : List zFa) : List zFa := uF1705 :: uF1706 :: uF1708 :: uF1709 :: uF2143 :: uF2144 :: uF2153 :: t
def cz_539_0 : zS := ([ui0, (1, 1), (0, 1), ui31, ui1676, ui1676, ui1676, ui49], (cx_535pr_0 (cx_535pr_1 [])), [uL2154], [uV2, uV64, uV11, (0, 0, 1, [(2, 4)]), uV97, uV113, uV113], [], (cz_539_0f_0 (cz_539_0f_1 [])), [uG2145, uG2146, uG2155, (233, [uL67, uL65, uL9, uL79])])
set_option maxRecDepth 1000000 in
theorem ck_539 : x_ok mLT1 [cx_534] mTS2 mTC2 mRUp cx_539 [(75, [0]), (95, [0]), (134, [0])] [(21, [1000655]), (24, [1000656]), (37, uN2156), (50, [12553]), (75, [1000652]), (95, [1000653]), (107, uN2157), (134, [1000654]), (146, uN2158), (150, uN2159), (153, [1000661]), (159, [1000666])] [(39, cz_539_0, ((-99999988807), [(1, 100000000000), (4, (-43))]))] (11218, []) 66386 59 = true := by decide +kernel
theorem sn_539 {W : Bool} {X : List Int32} : y_Snd (mGw W) mLT1 (J2 W X) X cx_539 := y_ok J2_J mTS2_ok1 mTC2_ok1 mRUp_ok1 (List.forall_mem_cons.mpr ⟨sn_534, fun _ h => absurd h List.not_mem_nil⟩) ck_539
/-- M.weakensOf -/
def cx_540 : zCtx := (234, cx_537p, [([ui0, (0, 5), (0, 1), ui31, (1, 6), ui49, ui49, ui49, ui49, ui49, ui49, ui525], [ur1414, ur1461, ur1462, ur1472, ur1473, ur1474, ur1475, ur1476, ur1470, ur1471, ur1463, ur1575, ur1576, ur1963, ur2132], [uL564, uL768, uL9], [], [uV843], [], [(238, [uL36, uL23, uL104, uL78, uL79, uL131, uL164, uL170, uL65, uL9, uL195])])], [uk2141, uk2133, uk2142], 77615, 3, 63)
set_option maxRecDepth 1000000 in
theorem ck_540 : x_ok mLT1 [cx_533, cx_539, cx_536] mTS2 mTC2 mRUp cx_540 [(2, [0]), (8, [1]), (14, [2])] [(11, uN2165), (17, uN546)] [] (11, []) 77604 14 = true := by decide +kernel
theorem sn_540 {W : Bool} {X : List Int32} : y_Snd (mGw W) mLT1 (J2 W X) X cx_540 := y_ok J2_J mTS2_ok1 mTC2_ok1 mRUp_ok1 (List.forall_mem_cons.mpr ⟨sn_533, List.forall_mem_cons.mpr ⟨sn_539, List.forall_mem_cons.mpr ⟨sn_536, fun _ h => absurd h List.not_mem_nil⟩⟩⟩) ck_540
def cx_541pi_0 (t : List (Int × Int)) : List (Int × Int) := ui0 :: (0, 5) :: (6, 6) :: (0, 1) :: ui49 :: (0, 1) :: ui31 :: (0, 6) :: t
def cx_541pi_1 (t : List (Int × Int)) : List (Int × Int) := (0, 6) :: ui49 :: ui49 :: t
def cx_541p : zS := ((cx_541pi_0 (cx_541pi_1 [])), (cx_519pr_0 (cx_519pr_1 [])), [uL1187], [], [uV2, uV11, uV12], (cx_519pf_0 (cx_519pf_1 [])), [uG2115, uG2117, uG2118, uG2119, uG2120])
def cx_541q0i_0 (t : List (Int × Int)) : List (Int × Int) := ui0 :: (0, 5) :: (6, 6) :: (0, 1) :: ui49 :: (0, 1) :: ui31 :: (0, 6) :: t
def cx_541q0i_1 (t : List (Int × Int)) : List (Int × Int) := (0, 6) :: ui49 :: ui49 :: ui49 :: t
def cx_541q0 : zS := ((cx_541q0i_0 (cx_541q0i_1 [])), (cx_519pr_0 (cx_519pr_1 [])), [uL9, uL2124], [], [uV843], [], [uG1973, uG2120, (238, [uL36, uL78, uL63, uL63, uL63, uL63, uL63, uL63, uL65, uL9, uL195])])
/-- M.house -/
def cx_541 : zCtx := (221, cx_541p, [cx_541q0, ([ui0, (0, 5), (6, 6), (0, 1), ui49, (0, 1), ui31, (0, 6), (0, 6), ui49, ui49], [ur1414, ur1461, ur1462, ur1472, ur1473, ur1474, ur1475, ur1476, ur1470, ur1471, ur1463, ur1575, ur1576, ur1963], [uL2114], [], [uV61], [], [uG2120])], [uk2141, uk1974, uk1975, uk2133, uk2142, uk1976], 77627, 4, 84)
set_option maxRecDepth 1000000 in
theorem ck_541 : x_ok mLT1 [cx_518, cx_521, cx_540] mTS2 mTC2 mRUp cx_541 [(2, [0]), (11, [1]), (124, [2])] [(14, [1000823]), (15, [1000835])] [] (12, []) 77615 15 = true := by decide +kernel
theorem sn_541 {W : Bool} {X : List Int32} : y_Snd (mGw W) mLT1 (J2 W X) X cx_541 := y_ok J2_J mTS2_ok1 mTC2_ok1 mRUp_ok1 (List.forall_mem_cons.mpr ⟨sn_518, List.forall_mem_cons.mpr ⟨sn_521, List.forall_mem_cons.mpr ⟨sn_540, fun _ h => absurd h List.not_mem_nil⟩⟩⟩) ck_541
def cx_542p : zS := ([ui0, ui49, (0, 1), ui31], (cx_535pr_0 (cx_535pr_1 [])), [], [], [uV2, uV385, uV11], (cx_535pf_0 (cx_535pf_1 [])), [uG2145, uG2146])
/-- M.lawTells -/
def cx_542 : zCtx := (231, cx_542p, [([ui0, ui49, (0, 1), ui31, ui1676, ui1676], [ur1414, ur1472, ur1473, ur1474, ur1475, ur1476, ur1461, ur1462, ur1470, ur1471, ur2134, ur2132], [uL1548, uL1547], [], [uV11], [uF2171, uF2172], [uG2173, uG2173]), ([ui0, ui49, (0, 1), ui31, ui49, ui2150, ui1676], [ur1414, ur1472, ur1473, ur1474, ur1475, ur1476, ur1461, ur1462, ur1470, ur1471, ur2134, ur2132], [], [], [uV97], [uF2174, uF2175], [(233, [uL67, uL211, uL9, uL98])]), ([ui0, ui49, (0, 1), ui31, ui1676, ui1676], [ur1414, ur1472, ur1473, ur1474, ur1475, ur1476, ur1461, ur1462, ur1470, ur1471, ur2134, ur2132], [], [], [uV62], [uF2171, uF2172], [(233, [uL67, uL211, uL9, uL63])])], [uk2141, uk2142], 77604, 1, 27)
def cz_542_0f_0 (t : List zFa) : List zFa := uF2174 :: uF2175 :: uF2098 :: uF1700 :: uF1701 :: uF1702 :: uF1703 :: uF1704 :: t
def cz_542_0f_1 (t : List zFa) : List zFa := uF1705 :: uF1706 :: uF1708 :: uF1709 :: uF2143 :: uF2144 :: uF2153 :: t
def cz_542_0 : zS := ([ui0, ui49, (0, 1), ui31, ui1676, ui1676, ui1676, ui49], (cx_535pr_0 (cx_535pr_1 [])), [uL2154], [uV2, uV385, uV11, (0, 0, 3, [(2, 4)]), uV97, uV113, uV113], [], (cz_542_0f_0 (cz_542_0f_1 [])), [uG2145, uG2146, uG2155, (233, [uL67, uL211, uL9, uL79])])
set_option maxRecDepth 1000000 in
theorem ck_542 : x_ok mLT1 [cx_534] mTS2 mTC2 mRUp cx_542 [(75, [0]), (95, [0]), (134, [0])] [(21, [1000655]), (24, [1000656]), (37, uN2156), (50, [12553]), (75, [1000652]), (95, [1000653]), (107, uN2157), (134, [1000654]), (146, uN2158), (150, uN2159), (153, [1000661]), (159, [1000666])] [(39, cz_542_0, (11193, [(4, (-43))]))] (11218, []) 66386 59 = true := by decide +kernel
theorem sn_542 {W : Bool} {X : List Int32} : y_Snd (mGw W) mLT1 (J2 W X) X cx_542 := y_ok J2_J mTS2_ok1 mTC2_ok1 mRUp_ok1 (List.forall_mem_cons.mpr ⟨sn_534, fun _ h => absurd h List.not_mem_nil⟩) ck_542
/-- M.costsOf -/
def cx_543 : zCtx := (235, cx_537p, [([ui0, (0, 5), (0, 1), ui31, (1, 6), ui49, ui49, ui49, ui49, ui49, ui49, ui525], [ur1414, ur1461, ur1462, ur1472, ur1473, ur1474, ur1475, ur1476, ur1470, ur1471, ur1463, ur1575, ur1576, ur1963, ur2132], [uL564, uL768, uL9], [], [uV843], [], [(238, [uL36, uL23, uL104, uL78, uL79, uL131, uL164, uL170, uL211, uL9, uL195])])], [uk2141, uk2133, uk2142], 77618, 3, 63)
set_option maxRecDepth 1000000 in
theorem ck_543 : x_ok mLT1 [cx_533, cx_542, cx_536] mTS2 mTC2 mRUp cx_543 [(2, [0]), (13, [1]), (19, [2])] [(16, [1000848, 1000847, 1000817]), (22, uN546)] [] (14, []) 77604 17 = true := by decide +kernel
theorem sn_543 {W : Bool} {X : List Int32} : y_Snd (mGw W) mLT1 (J2 W X) X cx_543 := y_ok J2_J mTS2_ok1 mTC2_ok1 mRUp_ok1 (List.forall_mem_cons.mpr ⟨sn_533, List.forall_mem_cons.mpr ⟨sn_542, List.forall_mem_cons.mpr ⟨sn_536, fun _ h => absurd h List.not_mem_nil⟩⟩⟩) ck_543
def cx_544pi_0 (t : List (Int × Int)) : List (Int × Int) := ui0 :: (0, 5) :: (7, 7) :: (0, 1) :: ui49 :: (0, 1) :: ui31 :: (0, 6) :: t
def cx_544pi_1 (t : List (Int × Int)) : List (Int × Int) := (0, 6) :: ui49 :: ui49 :: t
def cx_544p : zS := ((cx_544pi_0 (cx_544pi_1 [])), (cx_519pr_0 (cx_519pr_1 [])), [uL1187], [], [uV2, uV11, uV12], (cx_519pf_0 (cx_519pf_1 [])), [uG2115, uG2117, uG2118, uG2119, uG2120])
def cx_544q0i_0 (t : List (Int × Int)) : List (Int × Int) := ui0 :: (0, 5) :: (7, 7) :: (0, 1) :: ui49 :: (0, 1) :: ui31 :: (0, 6) :: t
def cx_544q0i_1 (t : List (Int × Int)) : List (Int × Int) := (0, 6) :: ui49 :: ui49 :: ui49 :: t
def cx_544q0 : zS := ((cx_544q0i_0 (cx_544q0i_1 [])), (cx_519pr_0 (cx_519pr_1 [])), [uL9, uL2124], [], [uV843], [], [uG1973, uG2120, (238, [uL36, uL78, uL63, uL63, uL63, uL63, uL63, uL63, uL211, uL9, uL195])])
/-- M.house -/
def cx_544 : zCtx := (221, cx_544p, [cx_544q0, ([ui0, (0, 5), (7, 7), (0, 1), ui49, (0, 1), ui31, (0, 6), (0, 6), ui49, ui49], [ur1414, ur1461, ur1462, ur1472, ur1473, ur1474, ur1475, ur1476, ur1470, ur1471, ur1463, ur1575, ur1576, ur1963], [uL2114], [], [uV61], [], [uG2120])], [uk2141, uk1974, uk1975, uk2133, uk2142, uk1976], 77630, 4, 84)
set_option maxRecDepth 1000000 in
theorem ck_544 : x_ok mLT1 [cx_518, cx_521, cx_543] mTS2 mTC2 mRUp cx_544 [(2, [0]), (11, [1]), (130, [2])] [(14, [1000823]), (15, [1000835])] [] (12, []) 77618 15 = true := by decide +kernel
theorem sn_544 {W : Bool} {X : List Int32} : y_Snd (mGw W) mLT1 (J2 W X) X cx_544 := y_ok J2_J mTS2_ok1 mTC2_ok1 mRUp_ok1 (List.forall_mem_cons.mpr ⟨sn_518, List.forall_mem_cons.mpr ⟨sn_521, List.forall_mem_cons.mpr ⟨sn_543, fun _ h => absurd h List.not_mem_nil⟩⟩⟩) ck_544
def cx_545pi_0 (t : List (Int × Int)) : List (Int × Int) := ui0 :: (0, 5) :: (8, 8) :: (0, 1) :: ui49 :: (0, 1) :: ui31 :: (0, 6) :: t
def cx_545pi_1 (t : List (Int × Int)) : List (Int × Int) := (0, 6) :: ui49 :: ui49 :: t
def cx_545p : zS := ((cx_545pi_0 (cx_545pi_1 [])), (cx_519pr_0 (cx_519pr_1 [])), [uL1187], [], [uV2, uV11, uV12], (cx_519pf_0 (cx_519pf_1 [])), [uG2115, uG2117, uG2118, uG2119, uG2120])
def cx_545q0i_0 (t : List (Int × Int)) : List (Int × Int) := ui0 :: (0, 5) :: (8, 8) :: (0, 1) :: ui49 :: (0, 1) :: ui31 :: (0, 6) :: t
def cx_545q0i_1 (t : List (Int × Int)) : List (Int × Int) := (0, 6) :: ui49 :: ui49 :: ui49 :: t
def cx_545q0 : zS := ((cx_545q0i_0 (cx_545q0i_1 [])), (cx_519pr_0 (cx_519pr_1 [])), [uL9, uL2124], [], [uV843], [], [uG1973, uG2120, (238, [uL34, uL63, uL63, uL63, uL63, uL63, uL63, uL63, uL529, uL63, uL195])])
/-- M.house -/
def cx_545 : zCtx := (221, cx_545p, [cx_545q0, ([ui0, (0, 5), (8, 8), (0, 1), ui49, (0, 1), ui31, (0, 6), (0, 6), ui49, ui49], [ur1414, ur1461, ur1462, ur1472, ur1473, ur1474, ur1475, ur1476, ur1470, ur1471, ur1463, ur1575, ur1576, ur1963], [uL2114], [], [uV61], [], [uG2120])], [uk1974, uk1975, uk1976], 460, 2, 43)
set_option maxRecDepth 1000000 in
theorem ck_545 : x_ok mLT1 [cx_518, cx_521] mTS2 mTC2 mRUp cx_545 [(2, [0]), (11, [1])] [(14, [1000823]), (143, [1000849])] [] (15, []) 445 18 = true := by decide +kernel
theorem sn_545 {W : Bool} {X : List Int32} : y_Snd (mGw W) mLT1 (J2 W X) X cx_545 := y_ok J2_J mTS2_ok1 mTC2_ok1 mRUp_ok1 (List.forall_mem_cons.mpr ⟨sn_518, List.forall_mem_cons.mpr ⟨sn_521, fun _ h => absurd h List.not_mem_nil⟩⟩) ck_545
/-- M.areTwo -/
def cx_546 : zCtx := (237, ([ui0, ui49, ui49, (0, 1), (0, 6)], [ur1414, ur1463], [], [], [uV2, uV11, uV12], [uF2102, uF1578], [uG2176]), [([ui0, (0, 4), (1, 5), (0, 1), (1, 6)], [ur1414, ur1463], [uL57, uL517, uL564], [], [uV64], [], []), ([ui0, (0, 5), (0, 5), (0, 1), (1, 6)], [ur1414, ur1463], [uL508, uL60, uL517, uL564], [], [uV62], [], []), ([ui0, (1, 5), (0, 4), (0, 1), (1, 6)], [ur1414, ur1463], [uL507, uL517, uL564], [], [uV64], [], []), ([ui0, (0, 5), ui506, (0, 1), (1, 6)], [ur1414, ur1463], [uL597, uL564], [], [uV62], [], []), ([ui0, (0, 5), ui262, (0, 1), (1, 6)], [ur1414, ur1463], [uL517, uL564], [], [uV62], [], []), ([ui0, ui511, ui49, (0, 1), (0, 6)], [ur1414, ur1463], [uL570], [], [uV62], [], []), ([ui0, ui262, ui49, (0, 1), (0, 6)], [ur1414, ur1463], [uL564], [], [uV62], [], [])], [], 34, 2, 43)
set_option maxRecDepth 1000000 in
theorem ck_546 : x_ok mLT1 [cx_518] mTS2 mTC2 mRUp cx_546 [(2, [0]), (10, [0])] [(16, [1000461])] [] (14, []) 20 17 = true := by decide +kernel
theorem sn_546 {W : Bool} {X : List Int32} : y_Snd (mGw W) mLT1 (J2 W X) X cx_546 := y_ok J2_J mTS2_ok1 mTC2_ok1 mRUp_ok1 (List.forall_mem_cons.mpr ⟨sn_518, fun _ h => absurd h List.not_mem_nil⟩) ck_546
/-- M.likeOf -/
def cx_547 : zCtx := (238, ([ui0, (0, 5), (0, 5), (0, 1)], [ur1414, ur1465], [], [], [uV2, uV11, uV12], [uF2102, (0, (false, 26, 0, []), 2, 1, 0, [])], []), [([ui0, (0, 5), (0, 5), (0, 1), ui196], [ur1414, ur1465], [], [], [uV97], [], [(84, [uL2177, uL98])])], [], 14, 0, 0)
set_option maxRecDepth 1000000 in
theorem ck_547 : x_ok mLT1 [] mTS2 mTC2 mRUp cx_547 [] [(19, [1000465])] [] (14, []) 0 17 = true := by decide +kernel
theorem sn_547 {W : Bool} {X : List Int32} : y_Snd (mGw W) mLT1 (J2 W X) X cx_547 := y_ok J2_J mTS2_ok1 mTC2_ok1 mRUp_ok1 (fun _ h => absurd h List.not_mem_nil) ck_547
/-- M.likes -/
def cx_548 : zCtx := (236, ([ui0, ui49, ui49, (0, 1), (0, 6)], [ur1414, ur1463, ur1465], [], [], [uV2, uV11, uV12], [uF2102, uF1578, (0, (false, 26, 0, []), 2, 2, 0, [])], [uG2176]), [([ui0, ui262, ui49, (0, 1), (0, 6)], [ur1414, ur1463, ur1465], [uL564], [], [uV61], [], []), ([ui0, ui511, ui49, (0, 1), (0, 6)], [ur1414, ur1463, ur1465], [uL570], [], [uV61], [], []), ([ui0, (0, 5), ui262, (0, 1), (1, 6)], [ur1414, ur1463, ur1465], [uL564, uL517], [], [uV61], [], []), ([ui0, (0, 5), ui506, (0, 1), (1, 6)], [ur1414, ur1463, ur1465], [uL564, uL597], [], [uV61], [], []), ([ui0, ui49, ui49, (0, 1), (0, 6), ui196], [ur1414, ur1463, ur1465], [uL564, uL517, uL507, uL9, uL67], [], [uV75], [], [uG2178]), ([ui0, (0, 5), (0, 5), (0, 1), (1, 6)], [ur1414, ur1463, ur1465], [uL564, uL517, uL60, uL508], [], [uV61], [], []), ([ui0, ui49, ui49, (0, 1), (0, 6), ui196], [ur1414, ur1463, ur1465], [uL564, uL517, uL57, uL9, uL67], [], [uV75], [], [uG2178])], [], 45, 3, 65)
set_option maxRecDepth 1000000 in
theorem ck_548 : x_ok mLT1 [cx_546, cx_547] mTS2 mTC2 mRUp cx_548 [(3, [0]), (12, [1])] [] [] (11, []) 34 14 = true := by decide +kernel
theorem sn_548 {W : Bool} {X : List Int32} : y_Snd (mGw W) mLT1 (J2 W X) X cx_548 := y_ok J2_J mTS2_ok1 mTC2_ok1 mRUp_ok1 (List.forall_mem_cons.mpr ⟨sn_546, List.forall_mem_cons.mpr ⟨sn_547, fun _ h => absurd h List.not_mem_nil⟩⟩) ck_548
def cx_549p : zS := ([ui0, ui2179, (0, 1), ui31], (cx_535pr_0 (cx_535pr_1 [])), [], [], [uV2, uV389, uV11], (cx_535pf_0 (cx_535pf_1 [])), [uG2145, uG2146])
/-- M.lawTells -/
def cx_549 : zCtx := (231, cx_549p, [([ui0, ui2179, (0, 1), ui31, ui1676, ui1676], [ur1414, ur1472, ur1473, ur1474, ur1475, ur1476, ur1461, ur1462, ur1470, ur1471, ur2134, ur2132], [uL1548, uL1547], [], [uV11], [uF2180, uF2181], [uG2182, uG2182]), ([ui0, ui2179, (0, 1), ui31, ui49, ui2150, ui1676], [ur1414, ur1472, ur1473, ur1474, ur1475, ur1476, ur1461, ur1462, ur1470, ur1471, ur2134, ur2132], [], [], [uV97], [uF2183, uF2184], [(233, [uL67, uL114, uL9, uL98])]), ([ui0, ui2179, (0, 1), ui31, ui1676, ui1676], [ur1414, ur1472, ur1473, ur1474, ur1475, ur1476, ur1461, ur1462, ur1470, ur1471, ur2134, ur2132], [], [], [uV62], [uF2180, uF2181], [(233, [uL67, uL114, uL9, uL63])])], [uk2141, uk2142], 77604, 1, 27)
def cz_549_0f_0 (t : List zFa) : List zFa := uF2183 :: uF2184 :: uF2098 :: uF1700 :: uF1701 :: uF1702 :: uF1703 :: uF1704 :: t
def cz_549_0f_1 (t : List zFa) : List zFa := uF1705 :: uF1706 :: uF1708 :: uF1709 :: uF2143 :: uF2144 :: uF2153 :: t
def cz_549_0 : zS := ([ui0, ui2179, (0, 1), ui31, ui1676, ui1676, ui1676, ui49], (cx_535pr_0 (cx_535pr_1 [])), [uL2154], [uV2, uV389, uV11, (0, 0, 2, [(2, 4)]), uV97, uV113, uV113], [], (cz_549_0f_0 (cz_549_0f_1 [])), [uG2145, uG2146, uG2155, (233, [uL67, uL114, uL9, uL79])])
set_option maxRecDepth 1000000 in
theorem ck_549 : x_ok mLT1 [cx_534] mTS2 mTC2 mRUp cx_549 [(75, [0]), (95, [0]), (134, [0])] [(21, [1000655]), (24, [1000656]), (37, uN2156), (50, [12553]), (75, [1000652]), (95, [1000653]), (107, uN2157), (134, [1000654]), (146, uN2158), (150, uN2159), (153, [1000661]), (159, [1000666])] [(39, cz_549_0, (11193, [(4, (-43))]))] (11218, []) 66386 59 = true := by decide +kernel
theorem sn_549 {W : Bool} {X : List Int32} : y_Snd (mGw W) mLT1 (J2 W X) X cx_549 := y_ok J2_J mTS2_ok1 mTC2_ok1 mRUp_ok1 (List.forall_mem_cons.mpr ⟨sn_534, fun _ h => absurd h List.not_mem_nil⟩) ck_549
def cx_550pi_0 (t : List (Int × Int)) : List (Int × Int) := ui0 :: (0, 5) :: (0, 5) :: ui196 :: (0, 1) :: ui31 :: (0, 6) :: ui49 :: t
def cx_550pi_1 (t : List (Int × Int)) : List (Int × Int) := ui49 :: ui49 :: ui49 :: ui49 :: ui49 :: t
def cx_550pf_0 (t : List zFa) : List zFa := uF2185 :: uF1477 :: uF1478 :: uF2105 :: uF2106 :: uF2107 :: uF2108 :: uF2109 :: t
def cx_550pf_1 (t : List zFa) : List zFa := uF1708 :: uF1709 :: uF2110 :: uF2111 :: uF2112 :: uF2113 :: uF2161 :: t
def cx_550p : zS := ((cx_550pi_0 (cx_550pi_1 [])), (cx_537pr_0 (cx_537pr_1 [])), [uL2186, uL9, uL2187, uL67, uL2188], [], [uV2, uV11, uV12, uV58], (cx_550pf_0 (cx_550pf_1 [])), [uG2189, uG2190, uG2191, uG2192, uG2193, uG575])
def cx_550q0i_0 (t : List (Int × Int)) : List (Int × Int) := ui0 :: (0, 5) :: (0, 5) :: ui196 :: (0, 1) :: ui31 :: (1, 6) :: ui49 :: t
def cx_550q0i_1 (t : List (Int × Int)) : List (Int × Int) := ui49 :: ui49 :: ui49 :: ui49 :: ui49 :: ui586 :: t
def cx_550q0 : zS := ((cx_550q0i_0 (cx_550q0i_1 [])), (cx_537pr_0 (cx_537pr_1 [])), [uL2188, uL2187, uL2186, uL9, uL67], [], [uV409], [], [(238, [uL246, uL104, uL79, uL131, uL164, uL170, uL195, uL214, uL9, uL67, uL207])])
/-- M.joinsBy -/
def cx_550 : zCtx := (241, cx_550p, [cx_550q0], [uk2141, uk2133, uk2142], 77629, 3, 63)
set_option maxRecDepth 1000000 in
theorem ck_550 : x_ok mLT1 [cx_533, cx_532, cx_549, cx_536] mTS2 mTC2 mRUp cx_550 [(2, [0]), (20, [1]), (30, [2]), (37, [3])] [(33, uN2194), (40, uN589)] [] (25, []) 77604 28 = true := by decide +kernel
theorem sn_550 {W : Bool} {X : List Int32} : y_Snd (mGw W) mLT1 (J2 W X) X cx_550 := y_ok J2_J mTS2_ok1 mTC2_ok1 mRUp_ok1 (List.forall_mem_cons.mpr ⟨sn_533, List.forall_mem_cons.mpr ⟨sn_532, List.forall_mem_cons.mpr ⟨sn_549, List.forall_mem_cons.mpr ⟨sn_536, fun _ h => absurd h List.not_mem_nil⟩⟩⟩⟩) ck_550
def cx_551pi_0 (t : List (Int × Int)) : List (Int × Int) := ui0 :: (0, 5) :: (0, 5) :: (0, 1) :: ui31 :: (0, 6) :: ui49 :: ui49 :: t
def cx_551pi_1 (t : List (Int × Int)) : List (Int × Int) := ui49 :: ui49 :: ui49 :: ui49 :: t
def cx_551pr_0 (t : List (Nat × Bool)) : List (Nat × Bool) := ur1414 :: ur1461 :: ur1462 :: ur1472 :: ur1473 :: ur1474 :: ur1475 :: ur1476 :: t
def cx_551pr_1 (t : List (Nat × Bool)) : List (Nat × Bool) := ur1470 :: ur1471 :: ur1463 :: ur1575 :: ur1576 :: ur1465 :: ur1963 :: t
def cx_551pf_0 (t : List zFa) : List zFa := uF2102 :: uF1477 :: uF1478 :: uF2105 :: uF2106 :: uF2107 :: uF2108 :: uF2109 :: t
def cx_551pf_1 (t : List zFa) : List zFa := uF1708 :: uF1709 :: uF2110 :: uF2111 :: uF2112 :: uF1998 :: uF2195 :: t
def cx_551p : zS := ((cx_551pi_0 (cx_551pi_1 [])), (cx_551pr_0 (cx_551pr_1 [])), [uL577, uL9, uL578, uL67, uL579], [], [uV2, uV11, uV12], (cx_551pf_0 (cx_551pf_1 [])), [uG2115, uG2196, (85, [uL23, uL104, uL2116]), (200, [uL23, uL2116, uL65, uL104]), uG2197, (237, [uL104, uL98, uL78, uL79, uL131, uL164, uL170, uL195])])
def cx_551q0i_0 (t : List (Int × Int)) : List (Int × Int) := ui0 :: (0, 5) :: (0, 5) :: (0, 1) :: ui31 :: (1, 6) :: ui49 :: ui49 :: t
def cx_551q0i_1 (t : List (Int × Int)) : List (Int × Int) := ui49 :: ui49 :: ui49 :: ui49 :: ui586 :: t
def cx_551q0 : zS := ((cx_551q0i_0 (cx_551q0i_1 [])), (cx_551pr_0 (cx_551pr_1 [])), [uL578, uL579, uL577, uL9, uL67], [], [uV198], [], [(238, [uL246, uL98, uL78, uL79, uL131, uL164, uL170, uL195, uL9, uL67, uL214])])
/-- M.joinsOf -/
def cx_551 : zCtx := (240, cx_551p, [cx_551q0], [uk2141, uk2133, uk2142], 77638, 4, 86)
set_option maxRecDepth 1000000 in
theorem ck_551 : x_ok mLT1 [cx_547, cx_550] mTS2 mTC2 mRUp cx_551 [(6, [0]), (9, [1])] [(9, [1000859])] [] (9, []) 77629 12 = true := by decide +kernel
theorem sn_551 {W : Bool} {X : List Int32} : y_Snd (mGw W) mLT1 (J2 W X) X cx_551 := y_ok J2_J mTS2_ok1 mTC2_ok1 mRUp_ok1 (List.forall_mem_cons.mpr ⟨sn_547, List.forall_mem_cons.mpr ⟨sn_550, fun _ h => absurd h List.not_mem_nil⟩⟩) ck_551
def cx_552pf_0 (t : List zFa) : List zFa := uF2102 :: uF2103 :: uF2104 :: uF1477 :: uF1478 :: uF2105 :: uF2106 :: uF2107 :: t
def cx_552pf_1 (t : List zFa) : List zFa := uF2108 :: uF2109 :: uF1708 :: uF1709 :: uF2110 :: uF2111 :: uF2112 :: uF1998 :: t
def cx_552pf_2 (t : List zFa) : List zFa := uF2195 :: t
def cx_552p : zS := ((cx_519pi_0 (cx_519pi_1 [])), (cx_551pr_0 (cx_551pr_1 [])), [uL1187], [], [uV2, uV11, uV12], (cx_552pf_0 (cx_552pf_1 (cx_552pf_2 []))), [uG2115, uG2117, uG2118, uG2119, uG2197, uG2120])
def cx_552q4i_0 (t : List (Int × Int)) : List (Int × Int) := ui0 :: ui49 :: ui49 :: (0, 1) :: ui49 :: (0, 1) :: ui31 :: (0, 6) :: t
def cx_552q4i_1 (t : List (Int × Int)) : List (Int × Int) := (0, 6) :: ui49 :: ui49 :: ui586 :: t
def cx_552q4 : zS := ((cx_552q4i_0 (cx_552q4i_1 [])), (cx_551pr_0 (cx_551pr_1 [])), [uL9, uL2124, uL67, uL2198, uL507], [], [uV843], [], [uG2199, uG2120])
def cx_552q5 : zS := ((cx_519pi_0 (cx_519pi_1 [])), (cx_551pr_0 (cx_551pr_1 [])), [uL9, uL2124, uL67, uL2198, uL60, uL508], [], [uV61], [], [uG2120])
def cx_552q6 : zS := ((cx_552q4i_0 (cx_552q4i_1 [])), (cx_551pr_0 (cx_551pr_1 [])), [uL9, uL2124, uL67, uL2198, uL57], [], [uV843], [], [uG2199, uG2120])
/-- M.joins -/
def cx_552 : zCtx := (239, cx_552p, [([ui0, ui49, ui49, (0, 1), ui49, (0, 1), ui31, (0, 6), (0, 6), ui49, ui49], [ur1414, ur1461, ur1462, ur1472, ur1473, ur1474, ur1475, ur1476, ur1470, ur1471, ur1463, ur1575, ur1576, ur1465, ur1963], [uL569], [], [uV61], [], [uG2120]), ([ui0, ui49, ui49, (0, 1), ui49, (0, 1), ui31, (0, 6), (0, 6), ui49, ui49], [ur1414, ur1461, ur1462, ur1472, ur1473, ur1474, ur1475, ur1476, ur1470, ur1471, ur1463, ur1575, ur1576, ur1465, ur1963], [uL2114], [], [uV61], [], [uG2120]), ([ui0, ui49, ui49, (0, 1), ui49, (0, 1), ui31, (0, 6), (0, 6), ui49, ui49], [ur1414, ur1461, ur1462, ur1472, ur1473, ur1474, ur1475, ur1476, ur1470, ur1471, ur1463, ur1575, ur1576, ur1465, ur1963], [uL598], [], [uV61], [], [uG2120]), ([ui0, ui49, ui49, (0, 1), ui49, (0, 1), ui31, (0, 6), (0, 6), ui49, ui49], [ur1414, ur1461, ur1462, ur1472, ur1473, ur1474, ur1475, ur1476, ur1470, ur1471, ur1463, ur1575, ur1576, ur1465, ur1963], [(0, [(2, 1), (7, (-1))])], [], [uV61], [], [uG2120]), cx_552q4, cx_552q5, cx_552q6], [uk2141, uk1974, uk1975, uk2133, uk2142, uk1976], 77650, 5, 108)
set_option maxRecDepth 1000000 in
theorem ck_552 : x_ok mLT1 [cx_546, cx_521, cx_551] mTS2 mTC2 mRUp cx_552 [(3, [0]), (12, [1]), (18, [2])] [(15, uN2200)] [] (12, []) 77638 15 = true := by decide +kernel
theorem sn_552 {W : Bool} {X : List Int32} : y_Snd (mGw W) mLT1 (J2 W X) X cx_552 := y_ok J2_J mTS2_ok1 mTC2_ok1 mRUp_ok1 (List.forall_mem_cons.mpr ⟨sn_546, List.forall_mem_cons.mpr ⟨sn_521, List.forall_mem_cons.mpr ⟨sn_551, fun _ h => absurd h List.not_mem_nil⟩⟩⟩) ck_552
/-- M.at -/
def cx_553 : zCtx := (242, ([ui0, ui511, (0, 1), (0, 6), (0, 6), ui49, ui49], [ur1414, ur1463, ur1983], [uL512, uL570], [], [uV2, uV11], [uF2098, uF1578, uF2121], [uG2100, uG605]), [([ui0, ui511, (0, 1), (0, 6), (0, 6), ui49, ui49], [ur1414, ur1463, ur1983], [], [], [uV61], [], [uG605])], [], 21, 1, 22)
set_option maxRecDepth 1000000 in
theorem ck_553 : x_ok mLT1 [cx_517] mTS2 mTC2 mRUp cx_553 [(11, [0])] [(9, [1000863]), (17, [1000865]), (29, [1000864])] [] (12, []) 9 15 = true := by decide +kernel
theorem sn_553 {W : Bool} {X : List Int32} : y_Snd (mGw W) mLT1 (J2 W X) X cx_553 := y_ok J2_J mTS2_ok1 mTC2_ok1 mRUp_ok1 (List.forall_mem_cons.mpr ⟨sn_517, fun _ h => absurd h List.not_mem_nil⟩) ck_553
/-- M.at -/
def cx_554 : zCtx := (242, ([ui0, (0, 5), (0, 1), (0, 6), (0, 6), ui49, ui49, (0, 5)], [ur1414, ur1463, ur1983], [uL512, uL9, uL564], [], [uV2, uV11], [uF2098, uF1578, uF2121], [uG2100, uG605, uG606]), [([ui0, (0, 5), (0, 1), (0, 6), (0, 6), ui49, ui49, (0, 5)], [ur1414, ur1463, ur1983], [], [], [uV142], [], [uG605])], [], 27, 1, 22)
set_option maxRecDepth 1000000 in
theorem ck_554 : x_ok mLT1 [cx_517] mTS2 mTC2 mRUp cx_554 [(11, [0])] [(9, [1000863]), (17, [1000865]), (26, [1000866, 1000867]), (29, [1000864])] [] (18, []) 9 21 = true := by decide +kernel
theorem sn_554 {W : Bool} {X : List Int32} : y_Snd (mGw W) mLT1 (J2 W X) X cx_554 := y_ok J2_J mTS2_ok1 mTC2_ok1 mRUp_ok1 (List.forall_mem_cons.mpr ⟨sn_517, fun _ h => absurd h List.not_mem_nil⟩) ck_554
/-- M.at -/
def cx_555 : zCtx := (242, ([ui0, ui262, (0, 1), (0, 6), (0, 6), ui49, ui49], [ur1414, ur1463, ur1983], [uL512, uL569], [], [uV2, uV11], [uF2098, uF1578, uF2121], [uG2100, uG605]), [([ui0, ui262, (0, 1), (0, 6), (0, 6), ui49, ui49], [ur1414, ur1463, ur1983], [], [], [uV61], [], [uG605])], [], 21, 1, 22)
set_option maxRecDepth 1000000 in
theorem ck_555 : x_ok mLT1 [cx_517] mTS2 mTC2 mRUp cx_555 [(11, [0])] [(9, [1000863]), (29, [1000864])] [] (12, []) 9 15 = true := by decide +kernel
theorem sn_555 {W : Bool} {X : List Int32} : y_Snd (mGw W) mLT1 (J2 W X) X cx_555 := y_ok J2_J mTS2_ok1 mTC2_ok1 mRUp_ok1 (List.forall_mem_cons.mpr ⟨sn_517, fun _ h => absurd h List.not_mem_nil⟩) ck_555
/-- M.copies -/
def cx_556 : zCtx := (224, ([ui0, (0, 1), ui49, (0, 1), ui196], [ur1414, ur1963, ur1983, ur1469], [], [], [uV2], [uF1964, uF1965, uF1966, uF1967, uF2121, uF2122, uF1969], [uG1978]), [([ui0, (0, 1), ui49, (0, 1), ui196, (0, 6)], [ur1414, ur1963, ur1983, ur1469], [], [], [], [uF1970, uF2103, uF2123], [uG1977, uG1972, uG1973, uG1977])], [uk1974, uk1975, uk1976], 445, 0, 0)
def cq_556 : List zCtx := []
def cs_556 : List (Nat × List Nat) := []
def hs_556 : List (Nat × List Nat) := [(0, [81]), (26, [82, 1000698])]
def ns_556 : List zN := []
set_option maxRecDepth 1000000 in
theorem ca_556 : x_okA mLT1 cq_556 mTS2 mTC2 mRUp cx_556 cs_556 hs_556 ns_556 (445, []) 0 448 = true := by decide +kernel
set_option maxRecDepth 1000000 in
theorem cc_556 : x_okC mLT1 cq_556 mTS2 mTC2 mRUp cx_556 cs_556 hs_556 ns_556 (445, []) 0 448 = true := by decide +kernel
theorem ck_556 : x_ok mLT1 cq_556 mTS2 mTC2 mRUp cx_556 cs_556 hs_556 ns_556 (445, []) 0 448 = true := x_ok_of ca_556 (fun _ h => absurd h List.not_mem_nil) cc_556
theorem sn_556 {W : Bool} {X : List Int32} : y_Snd (mGw W) mLT1 (J2 W X) X cx_556 := y_ok J2_J mTS2_ok1 mTC2_ok1 mRUp_ok1 (fun _ h => absurd h List.not_mem_nil) ck_556
end
