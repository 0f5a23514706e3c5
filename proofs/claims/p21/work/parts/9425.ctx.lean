noncomputable section
/-! ===== readings, by program, checked by the kernel ===== -/
/-- M.termOf -/
def cx_521 : zCtx := (232, ([ui0, ui767, ui1788, (0, 1)], [ur1331, ur1387, ur1388, ur2056, ur2054], [uL507, uL2057, uL57], [], [uV2, uV11, uV12], [uF1650, uF1651, uF2058, uF2059, uF2060], [uG2061]), [([ui0, ui767, ui1788, (0, 1)], [ur1331, ur1387, ur1388, ur2056, ur2054], [uL507, uL2057, uL57], [], [uV62], [(0, (false, 46, 0, []), 0, 0, 1, [])], [uG2062, (231, [uL9, uL67, (2147483648, [])])]), ([ui0, ui767, ui1788, (0, 1), ui49], [ur1331, ur1387, ur1388, ur2056, ur2054], [uL507, uL2057, uL57], [], [uV97], [uF2058], [uG2062, (231, [uL9, uL67, uL98])])], [uk2063, uk2064], 66386, 0, 0)
def cz_521_0 : zS := ([ui0, ui767, ui1788, (0, 1), ui68, ui1591, ((-2147483648), 2147483648)], [ur1331, ur1387, ur1388, ur2056, ur2054], [uL507, uL2057, uL57, (0, [(1, 1), (4, 500), (5, (-1))]), uL57], [uV2, uV11, uV12, uV97, uV75, uV113, uV113, uV113], [], [uF1650, uF1651, uF2059, uF2060, uF2058], [uG2062, uG2061, (0, [uL9, uL98, uL104]), (229, [uL78, uL104, uL67, uL98]), (231, [uL9, uL67, uL78])])
set_option maxRecDepth 1000000 in
theorem ck_521 : x_ok mLT1 [] mTS2 mTC2 mRUp cx_521 [] [(3, [133, 1000641]), (11, [1000640]), (15, [264]), (59, [1000642, 1000643]), (97, [1000644]), (121, [1000637]), (135, [1000638]), (149, [1000639]), (157, [1000023]), (158, [1000645, 1000646, 1000647, 1000648, 1000649]), (159, [1000650]), (171, [1000651])] [(5, cz_521_0, (66376, [(4, 21), (5, (-79))]))] (66386, []) 0 52 = true := by decide +kernel
theorem sn_521 {W : Bool} {X : List Int32} : y_Snd (mGw W) mLT1 (J2 W X) X cx_521 := y_ok J2_J mTS2_ok1 mTC2_ok1 mRUp_ok1 (fun _ h => absurd h List.not_mem_nil) ck_521
def cx_522pr_0 (t : List (Nat × Bool)) : List (Nat × Bool) := ur1331 :: ur1389 :: ur1390 :: ur1391 :: ur1392 :: ur1393 :: ur1378 :: ur1379 :: t
def cx_522pr_1 (t : List (Nat × Bool)) : List (Nat × Bool) := ur1387 :: ur1388 :: ur2056 :: ur2054 :: t
def cx_522pf_0 (t : List zFa) : List zFa := uF2020 :: uF1617 :: uF1618 :: uF1619 :: uF1620 :: uF1621 :: uF1622 :: uF1623 :: t
def cx_522pf_1 (t : List zFa) : List zFa := uF1625 :: uF1626 :: uF2065 :: uF2066 :: t
def cx_522p : zS := ([ui0, (1, 1), (0, 1), ui31], (cx_522pr_0 (cx_522pr_1 [])), [], [], [uV2, uV62, uV11], (cx_522pf_0 (cx_522pf_1 [])), [uG2067, uG2068])
/-- M.lawTells -/
def cx_522 : zCtx := (231, cx_522p, [([ui0, (1, 1), (0, 1), ui31, ui1593, ui1593], [ur1331, ur1389, ur1390, ur1391, ur1392, ur1393, ur1378, ur1379, ur1387, ur1388, ur2056, ur2054], [uL1465, uL1464], [], [uV11], [uF2069, uF2070], [uG2071, uG2071]), ([ui0, (1, 1), (0, 1), ui31, ui49, ui2072, ui1593], [ur1331, ur1389, ur1390, ur1391, ur1392, ur1393, ur1378, ur1379, ur1387, ur1388, ur2056, ur2054], [], [], [uV97], [uF2073, uF2074], [(233, [uL67, uL63, uL9, uL98])]), ([ui0, (1, 1), (0, 1), ui31, ui1593, ui1593], [ur1331, ur1389, ur1390, ur1391, ur1392, ur1393, ur1378, ur1379, ur1387, ur1388, ur2056, ur2054], [], [], [uV62], [uF2069, uF2070], [(233, [uL67, uL63, uL9, uL63])])], [uk2063, uk2064], 77604, 1, 27)
def cz_522_0f_0 (t : List zFa) : List zFa := uF2073 :: uF2074 :: uF2020 :: uF1617 :: uF1618 :: uF1619 :: uF1620 :: uF1621 :: t
def cz_522_0f_1 (t : List zFa) : List zFa := uF1622 :: uF1623 :: uF1625 :: uF1626 :: uF2065 :: uF2066 :: uF2075 :: t
def cz_522_0 : zS := ([ui0, (1, 1), (0, 1), ui31, ui1593, ui1593, ui1593, ui49], (cx_522pr_0 (cx_522pr_1 [])), [uL2076], [uV2, uV62, uV11, (0, 0, 0, [(2, 4)]), uV97, uV113, uV113], [], (cz_522_0f_0 (cz_522_0f_1 [])), [uG2067, uG2068, uG2077, (233, [uL67, uL63, uL9, uL79])])
set_option maxRecDepth 1000000 in
theorem ck_522 : x_ok mLT1 [cx_521] mTS2 mTC2 mRUp cx_522 [(75, [0]), (95, [0]), (134, [0])] [(21, [1000655]), (24, [1000656]), (37, uN2078), (50, [12553]), (75, [1000652]), (95, [1000653]), (107, uN2079), (134, [1000654]), (146, uN2080), (150, uN2081), (153, [1000661]), (159, [1000666])] [(39, cz_522_0, ((-99999988807), [(1, 100000000000), (4, (-43))]))] (11218, []) 66386 59 = true := by decide +kernel
theorem sn_522 {W : Bool} {X : List Int32} : y_Snd (mGw W) mLT1 (J2 W X) X cx_522 := y_ok J2_J mTS2_ok1 mTC2_ok1 mRUp_ok1 (List.forall_mem_cons.mpr ⟨sn_521, fun _ h => absurd h List.not_mem_nil⟩) ck_522
/-- M.within -/
def cx_523 : zCtx := (233, ([ui0, ui49, (0, 0), ui2082], [], [], [], [uV11, uV12, uV58], [], []), [([ui0, ui262, (0, 0), ui2082], [], [uL57], [], [uV12], [], []), ([ui0, ui1250, (0, 0), ui2082], [], [uL1367, uL60], [], [uV58], [], []), ([ui0, ui584, (0, 0), ui2082], [], [uL66, uL60], [], [uV11], [], [])], [], 9, 0, 0)
set_option maxRecDepth 1000000 in
theorem ck_523 : x_ok mLT1 [] mTS2 mTC2 mRUp cx_523 [] [] [] (9, []) 0 12 = true := by decide +kernel
theorem sn_523 {W : Bool} {X : List Int32} : y_Snd (mGw W) mLT1 (J2 W X) X cx_523 := y_ok J2_J mTS2_ok1 mTC2_ok1 mRUp_ok1 (fun _ h => absurd h List.not_mem_nil) ck_523
def cx_524pi_0 (t : List (Int × Int)) : List (Int × Int) := ui0 :: (0, 5) :: (0, 1) :: ui31 :: (0, 6) :: ui49 :: ui49 :: ui49 :: t
def cx_524pi_1 (t : List (Int × Int)) : List (Int × Int) := ui49 :: ui49 :: ui49 :: t
def cx_524pr_0 (t : List (Nat × Bool)) : List (Nat × Bool) := ur1331 :: ur1378 :: ur1379 :: ur1389 :: ur1390 :: ur1391 :: ur1392 :: ur1393 :: t
def cx_524pr_1 (t : List (Nat × Bool)) : List (Nat × Bool) := ur1387 :: ur1388 :: ur1380 :: ur1492 :: ur1493 :: ur1885 :: ur2054 :: t
def cx_524pf_0 (t : List zFa) : List zFa := uF2020 :: uF1394 :: uF1395 :: uF2027 :: uF2028 :: uF2029 :: uF2030 :: uF2031 :: t
def cx_524pf_1 (t : List zFa) : List zFa := uF1625 :: uF1626 :: uF2032 :: uF2033 :: uF2034 :: uF2035 :: uF2083 :: t
def cx_524p : zS := ((cx_524pi_0 (cx_524pi_1 [])), (cx_524pr_0 (cx_524pr_1 [])), [uL765, uL9, uL563], [], [uV2, uV11], (cx_524pf_0 (cx_524pf_1 [])), [uG2067, uG2068, uG2084, uG2085, uG2086])
/-- M.growsOf -/
def cx_524 : zCtx := (228, cx_524p, [([ui0, (0, 5), (0, 1), ui31, (1, 6), ui49, ui49, ui49, ui49, ui49, ui49, ui524], [ur1331, ur1378, ur1379, ur1389, ur1390, ur1391, ur1392, ur1393, ur1387, ur1388, ur1380, ur1492, ur1493, ur1885, ur2054], [uL563, uL765, uL9], [], [uV840], [], [(238, [uL36, uL23, uL104, uL78, uL79, uL131, uL164, uL170, uL63, uL9, uL195])])], [uk2063, uk2055, uk2064], 77615, 3, 63)
set_option maxRecDepth 1000000 in
theorem ck_524 : x_ok mLT1 [cx_520, cx_522, cx_523] mTS2 mTC2 mRUp cx_524 [(2, [0]), (8, [1]), (14, [2])] [(11, uN2087), (17, uN545)] [] (11, []) 77604 14 = true := by decide +kernel
theorem sn_524 {W : Bool} {X : List Int32} : y_Snd (mGw W) mLT1 (J2 W X) X cx_524 := y_ok J2_J mTS2_ok1 mTC2_ok1 mRUp_ok1 (List.forall_mem_cons.mpr ⟨sn_520, List.forall_mem_cons.mpr ⟨sn_522, List.forall_mem_cons.mpr ⟨sn_523, fun _ h => absurd h List.not_mem_nil⟩⟩⟩) ck_524
def cx_525pi_0 (t : List (Int × Int)) : List (Int × Int) := ui0 :: (0, 5) :: (5, 5) :: (0, 1) :: ui49 :: (0, 1) :: ui31 :: (0, 6) :: t
def cx_525pi_1 (t : List (Int × Int)) : List (Int × Int) := (0, 6) :: ui49 :: ui49 :: t
def cx_525p : zS := ((cx_525pi_0 (cx_525pi_1 [])), (cx_506pr_0 (cx_506pr_1 [])), [uL1172], [], [uV2, uV11, uV12], (cx_506pf_0 (cx_506pf_1 [])), [uG2037, uG2039, uG2040, uG2041, uG2042])
def cx_525q0i_0 (t : List (Int × Int)) : List (Int × Int) := ui0 :: (0, 5) :: (5, 5) :: (0, 1) :: ui49 :: (0, 1) :: ui31 :: (0, 6) :: t
def cx_525q0i_1 (t : List (Int × Int)) : List (Int × Int) := (0, 6) :: ui49 :: ui49 :: ui49 :: t
def cx_525q0 : zS := ((cx_525q0i_0 (cx_525q0i_1 [])), (cx_506pr_0 (cx_506pr_1 [])), [uL9, uL2046], [], [uV840], [], [uG1895, uG2042, (238, [uL36, uL78, uL63, uL63, uL63, uL63, uL63, uL63, uL63, uL9, uL195])])
/-- M.house -/
def cx_525 : zCtx := (221, cx_525p, [cx_525q0, ([ui0, (0, 5), (5, 5), (0, 1), ui49, (0, 1), ui31, (0, 6), (0, 6), ui49, ui49], [ur1331, ur1378, ur1379, ur1389, ur1390, ur1391, ur1392, ur1393, ur1387, ur1388, ur1380, ur1492, ur1493, ur1885], [uL2036], [], [uV61], [], [uG2042])], [uk2063, uk1896, uk1897, uk2055, uk2064, uk1898], 77627, 4, 84)
set_option maxRecDepth 1000000 in
theorem ck_525 : x_ok mLT1 [cx_505, cx_508, cx_524] mTS2 mTC2 mRUp cx_525 [(2, [0]), (11, [1]), (118, [2])] [(14, [1000822]), (15, [1000834])] [] (12, []) 77615 15 = true := by decide +kernel
theorem sn_525 {W : Bool} {X : List Int32} : y_Snd (mGw W) mLT1 (J2 W X) X cx_525 := y_ok J2_J mTS2_ok1 mTC2_ok1 mRUp_ok1 (List.forall_mem_cons.mpr ⟨sn_505, List.forall_mem_cons.mpr ⟨sn_508, List.forall_mem_cons.mpr ⟨sn_524, fun _ h => absurd h List.not_mem_nil⟩⟩⟩) ck_525
def cx_526p : zS := ([ui0, (1, 1), (0, 1), ui31], (cx_522pr_0 (cx_522pr_1 [])), [], [], [uV2, uV64, uV11], (cx_522pf_0 (cx_522pf_1 [])), [uG2067, uG2068])
/-- M.lawTells -/
def cx_526 : zCtx := (231, cx_526p, [([ui0, (1, 1), (0, 1), ui31, ui1593, ui1593], [ur1331, ur1389, ur1390, ur1391, ur1392, ur1393, ur1378, ur1379, ur1387, ur1388, ur2056, ur2054], [uL1465, uL1464], [], [uV11], [uF2088, uF2089], [uG2090, uG2090]), ([ui0, (1, 1), (0, 1), ui31, ui49, ui2072, ui1593], [ur1331, ur1389, ur1390, ur1391, ur1392, ur1393, ur1378, ur1379, ur1387, ur1388, ur2056, ur2054], [], [], [uV97], [uF2091, uF2092], [(233, [uL67, uL65, uL9, uL98])]), ([ui0, (1, 1), (0, 1), ui31, ui1593, ui1593], [ur1331, ur1389, ur1390, ur1391, ur1392, ur1393, ur1378, ur1379, ur1387, ur1388, ur2056, ur2054], [], [], [uV62], [uF2088, uF2089], [(233, [uL67, uL65, uL9, uL63])])], [uk2063, uk2064], 77604, 1, 27)
def cz_526_0f_0 (t : List zFa) : List zFa := uF2091 :: uF2092 :: uF2020 :: uF1617 :: uF1618 :: uF1619 :: uF1620 :: uF1621 :: t
def cz_526_0f_1 (t : List zFa) : List zFa := uF1622 :: uF1623 :: uF1625 :: uF1626 :: uF2065 :: uF2066 :: uF2075 :: t
def cz_526_0 : zS := ([ui0, (1, 1), (0, 1), ui31, ui1593, ui1593, ui1593, ui49], (cx_522pr_0 (cx_522pr_1 [])), [uL2076], [uV2, uV64, uV11, (0, 0, 1, [(2, 4)]), uV97, uV113, uV113], [], (cz_526_0f_0 (cz_526_0f_1 [])), [uG2067, uG2068, uG2077, (233, [uL67, uL65, uL9, uL79])])
set_option maxRecDepth 1000000 in
theorem ck_526 : x_ok mLT1 [cx_521] mTS2 mTC2 mRUp cx_526 [(75, [0]), (95, [0]), (134, [0])] [(21, [1000655]), (24, [1000656]), (37, uN2078), (50, [12553]), (75, [1000652]), (95, [1000653]), (107, uN2079), (134, [1000654]), (146, uN2080), (150, uN2081), (153, [1000661]), (159, [1000666])] [(39, cz_526_0, ((-99999988807), [(1, 100000000000), (4, (-43))]))] (11218, []) 66386 59 = true := by decide +kernel
theorem sn_526 {W : Bool} {X : List Int32} : y_Snd (mGw W) mLT1 (J2 W X) X cx_526 := y_ok J2_J mTS2_ok1 mTC2_ok1 mRUp_ok1 (List.forall_mem_cons.mpr ⟨sn_521, fun _ h => absurd h List.not_mem_nil⟩) ck_526
/-- M.weakensOf -/
def cx_527 : zCtx := (234, cx_524p, [([ui0, (0, 5), (0, 1), ui31, (1, 6), ui49, ui49, ui49, ui49, ui49, ui49, ui524], [ur1331, ur1378, ur1379, ur1389, ur1390, ur1391, ur1392, ur1393, ur1387, ur1388, ur1380, ur1492, ur1493, ur1885, ur2054], [uL563, uL765, uL9], [], [uV840], [], [(238, [uL36, uL23, uL104, uL78, uL79, uL131, uL164, uL170, uL65, uL9, uL195])])], [uk2063, uk2055, uk2064], 77615, 3, 63)
set_option maxRecDepth 1000000 in
theorem ck_527 : x_ok mLT1 [cx_520, cx_526, cx_523] mTS2 mTC2 mRUp cx_527 [(2, [0]), (8, [1]), (14, [2])] [(11, uN2087), (17, uN545)] [] (11, []) 77604 14 = true := by decide +kernel
theorem sn_527 {W : Bool} {X : List Int32} : y_Snd (mGw W) mLT1 (J2 W X) X cx_527 := y_ok J2_J mTS2_ok1 mTC2_ok1 mRUp_ok1 (List.forall_mem_cons.mpr ⟨sn_520, List.forall_mem_cons.mpr ⟨sn_526, List.forall_mem_cons.mpr ⟨sn_523, fun _ h => absurd h List.not_mem_nil⟩⟩⟩) ck_527
def cx_528pi_0 (t : List (Int × Int)) : List (Int × Int) := ui0 :: (0, 5) :: (6, 6) :: (0, 1) :: ui49 :: (0, 1) :: ui31 :: (0, 6) :: t
def cx_528pi_1 (t : List (Int × Int)) : List (Int × Int) := (0, 6) :: ui49 :: ui49 :: t
def cx_528p : zS := ((cx_528pi_0 (cx_528pi_1 [])), (cx_506pr_0 (cx_506pr_1 [])), [uL1172], [], [uV2, uV11, uV12], (cx_506pf_0 (cx_506pf_1 [])), [uG2037, uG2039, uG2040, uG2041, uG2042])
def cx_528q0i_0 (t : List (Int × Int)) : List (Int × Int) := ui0 :: (0, 5) :: (6, 6) :: (0, 1) :: ui49 :: (0, 1) :: ui31 :: (0, 6) :: t
def cx_528q0i_1 (t : List (Int × Int)) : List (Int × Int) := (0, 6) :: ui49 :: ui49 :: ui49 :: t
def cx_528q0 : zS := ((cx_528q0i_0 (cx_528q0i_1 [])), (cx_506pr_0 (cx_506pr_1 [])), [uL9, uL2046], [], [uV840], [], [uG1895, uG2042, (238, [uL36, uL78, uL63, uL63, uL63, uL63, uL63, uL63, uL65, uL9, uL195])])
/-- M.house -/
def cx_528 : zCtx := (221, cx_528p, [cx_528q0, ([ui0, (0, 5), (6, 6), (0, 1), ui49, (0, 1), ui31, (0, 6), (0, 6), ui49, ui49], [ur1331, ur1378, ur1379, ur1389, ur1390, ur1391, ur1392, ur1393, ur1387, ur1388, ur1380, ur1492, ur1493, ur1885], [uL2036], [], [uV61], [], [uG2042])], [uk2063, uk1896, uk1897, uk2055, uk2064, uk1898], 77627, 4, 84)
set_option maxRecDepth 1000000 in
theorem ck_528 : x_ok mLT1 [cx_505, cx_508, cx_527] mTS2 mTC2 mRUp cx_528 [(2, [0]), (11, [1]), (124, [2])] [(14, [1000822]), (15, [1000834])] [] (12, []) 77615 15 = true := by decide +kernel
theorem sn_528 {W : Bool} {X : List Int32} : y_Snd (mGw W) mLT1 (J2 W X) X cx_528 := y_ok J2_J mTS2_ok1 mTC2_ok1 mRUp_ok1 (List.forall_mem_cons.mpr ⟨sn_505, List.forall_mem_cons.mpr ⟨sn_508, List.forall_mem_cons.mpr ⟨sn_527, fun _ h => absurd h List.not_mem_nil⟩⟩⟩) ck_528
def cx_529p : zS := ([ui0, ui49, (0, 1), ui31], (cx_522pr_0 (cx_522pr_1 [])), [], [], [uV2, uV385, uV11], (cx_522pf_0 (cx_522pf_1 [])), [uG2067, uG2068])
/-- M.lawTells -/
def cx_529 : zCtx := (231, cx_529p, [([ui0, ui49, (0, 1), ui31, ui1593, ui1593], [ur1331, ur1389, ur1390, ur1391, ur1392, ur1393, ur1378, ur1379, ur1387, ur1388, ur2056, ur2054], [uL1465, uL1464], [], [uV11], [uF2093, uF2094], [uG2095, uG2095]), ([ui0, ui49, (0, 1), ui31, ui49, ui2072, ui1593], [ur1331, ur1389, ur1390, ur1391, ur1392, ur1393, ur1378, ur1379, ur1387, ur1388, ur2056, ur2054], [], [], [uV97], [uF2096, uF2097], [(233, [uL67, uL211, uL9, uL98])]), ([ui0, ui49, (0, 1), ui31, ui1593, ui1593], [ur1331, ur1389, ur1390, ur1391, ur1392, ur1393, ur1378, ur1379, ur1387, ur1388, ur2056, ur2054], [], [], [uV62], [uF2093, uF2094], [(233, [uL67, uL211, uL9, uL63])])], [uk2063, uk2064], 77604, 1, 27)
def cz_529_0f_0 (t : List zFa) : List zFa := uF2096 :: uF2097 :: uF2020 :: uF1617 :: uF1618 :: uF1619 :: uF1620 :: uF1621 :: t
def cz_529_0f_1 (t : List zFa) : List zFa := uF1622 :: uF1623 :: uF1625 :: uF1626 :: uF2065 :: uF2066 :: uF2075 :: t
def cz_529_0 : zS := ([ui0, ui49, (0, 1), ui31, ui1593, ui1593, ui1593, ui49], (cx_522pr_0 (cx_522pr_1 [])), [uL2076], [uV2, uV385, uV11, (0, 0, 3, [(2, 4)]), uV97, uV113, uV113], [], (cz_529_0f_0 (cz_529_0f_1 [])), [uG2067, uG2068, uG2077, (233, [uL67, uL211, uL9, uL79])])
set_option maxRecDepth 1000000 in
theorem ck_529 : x_ok mLT1 [cx_521] mTS2 mTC2 mRUp cx_529 [(75, [0]), (95, [0]), (134, [0])] [(21, [1000655]), (24, [1000656]), (37, uN2078), (50, [12553]), (75, [1000652]), (95, [1000653]), (107, uN2079), (134, [1000654]), (146, uN2080), (150, uN2081), (153, [1000661]), (159, [1000666])] [(39, cz_529_0, (11193, [(4, (-43))]))] (11218, []) 66386 59 = true := by decide +kernel
theorem sn_529 {W : Bool} {X : List Int32} : y_Snd (mGw W) mLT1 (J2 W X) X cx_529 := y_ok J2_J mTS2_ok1 mTC2_ok1 mRUp_ok1 (List.forall_mem_cons.mpr ⟨sn_521, fun _ h => absurd h List.not_mem_nil⟩) ck_529
/-- M.costsOf -/
def cx_530 : zCtx := (235, cx_524p, [([ui0, (0, 5), (0, 1), ui31, (1, 6), ui49, ui49, ui49, ui49, ui49, ui49, ui524], [ur1331, ur1378, ur1379, ur1389, ur1390, ur1391, ur1392, ur1393, ur1387, ur1388, ur1380, ur1492, ur1493, ur1885, ur2054], [uL563, uL765, uL9], [], [uV840], [], [(238, [uL36, uL23, uL104, uL78, uL79, uL131, uL164, uL170, uL211, uL9, uL195])])], [uk2063, uk2055, uk2064], 77618, 3, 63)
set_option maxRecDepth 1000000 in
theorem ck_530 : x_ok mLT1 [cx_520, cx_529, cx_523] mTS2 mTC2 mRUp cx_530 [(2, [0]), (13, [1]), (19, [2])] [(16, [1000847, 1000846, 1000816]), (22, uN545)] [] (14, []) 77604 17 = true := by decide +kernel
theorem sn_530 {W : Bool} {X : List Int32} : y_Snd (mGw W) mLT1 (J2 W X) X cx_530 := y_ok J2_J mTS2_ok1 mTC2_ok1 mRUp_ok1 (List.forall_mem_cons.mpr ⟨sn_520, List.forall_mem_cons.mpr ⟨sn_529, List.forall_mem_cons.mpr ⟨sn_523, fun _ h => absurd h List.not_mem_nil⟩⟩⟩) ck_530
def cx_531pi_0 (t : List (Int × Int)) : List (Int × Int) := ui0 :: (0, 5) :: (7, 7) :: (0, 1) :: ui49 :: (0, 1) :: ui31 :: (0, 6) :: t
def cx_531pi_1 (t : List (Int × Int)) : List (Int × Int) := (0, 6) :: ui49 :: ui49 :: t
def cx_531p : zS := ((cx_531pi_0 (cx_531pi_1 [])), (cx_506pr_0 (cx_506pr_1 [])), [uL1172], [], [uV2, uV11, uV12], (cx_506pf_0 (cx_506pf_1 [])), [uG2037, uG2039, uG2040, uG2041, uG2042])
def cx_531q0i_0 (t : List (Int × Int)) : List (Int × Int) := ui0 :: (0, 5) :: (7, 7) :: (0, 1) :: ui49 :: (0, 1) :: ui31 :: (0, 6) :: t
def cx_531q0i_1 (t : List (Int × Int)) : List (Int × Int) := (0, 6) :: ui49 :: ui49 :: ui49 :: t
def cx_531q0 : zS := ((cx_531q0i_0 (cx_531q0i_1 [])), (cx_506pr_0 (cx_506pr_1 [])), [uL9, uL2046], [], [uV840], [], [uG1895, uG2042, (238, [uL36, uL78, uL63, uL63, uL63, uL63, uL63, uL63, uL211, uL9, uL195])])
/-- M.house -/
def cx_531 : zCtx := (221, cx_531p, [cx_531q0, ([ui0, (0, 5), (7, 7), (0, 1), ui49, (0, 1), ui31, (0, 6), (0, 6), ui49, ui49], [ur1331, ur1378, ur1379, ur1389, ur1390, ur1391, ur1392, ur1393, ur1387, ur1388, ur1380, ur1492, ur1493, ur1885], [uL2036], [], [uV61], [], [uG2042])], [uk2063, uk1896, uk1897, uk2055, uk2064, uk1898], 77630, 4, 84)
set_option maxRecDepth 1000000 in
theorem ck_531 : x_ok mLT1 [cx_505, cx_508, cx_530] mTS2 mTC2 mRUp cx_531 [(2, [0]), (11, [1]), (130, [2])] [(14, [1000822]), (15, [1000834])] [] (12, []) 77618 15 = true := by decide +kernel
theorem sn_531 {W : Bool} {X : List Int32} : y_Snd (mGw W) mLT1 (J2 W X) X cx_531 := y_ok J2_J mTS2_ok1 mTC2_ok1 mRUp_ok1 (List.forall_mem_cons.mpr ⟨sn_505, List.forall_mem_cons.mpr ⟨sn_508, List.forall_mem_cons.mpr ⟨sn_530, fun _ h => absurd h List.not_mem_nil⟩⟩⟩) ck_531
def cx_532pi_0 (t : List (Int × Int)) : List (Int × Int) := ui0 :: (0, 5) :: (8, 8) :: (0, 1) :: ui49 :: (0, 1) :: ui31 :: (0, 6) :: t
def cx_532pi_1 (t : List (Int × Int)) : List (Int × Int) := (0, 6) :: ui49 :: ui49 :: t
def cx_532p : zS := ((cx_532pi_0 (cx_532pi_1 [])), (cx_506pr_0 (cx_506pr_1 [])), [uL1172], [], [uV2, uV11, uV12], (cx_506pf_0 (cx_506pf_1 [])), [uG2037, uG2039, uG2040, uG2041, uG2042])
def cx_532q0i_0 (t : List (Int × Int)) : List (Int × Int) := ui0 :: (0, 5) :: (8, 8) :: (0, 1) :: ui49 :: (0, 1) :: ui31 :: (0, 6) :: t
def cx_532q0i_1 (t : List (Int × Int)) : List (Int × Int) := (0, 6) :: ui49 :: ui49 :: ui49 :: t
def cx_532q0 : zS := ((cx_532q0i_0 (cx_532q0i_1 [])), (cx_506pr_0 (cx_506pr_1 [])), [uL9, uL2046], [], [uV840], [], [uG1895, uG2042, (238, [uL34, uL63, uL63, uL63, uL63, uL63, uL63, uL63, uL528, uL63, uL195])])
/-- M.house -/
def cx_532 : zCtx := (221, cx_532p, [cx_532q0, ([ui0, (0, 5), (8, 8), (0, 1), ui49, (0, 1), ui31, (0, 6), (0, 6), ui49, ui49], [ur1331, ur1378, ur1379, ur1389, ur1390, ur1391, ur1392, ur1393, ur1387, ur1388, ur1380, ur1492, ur1493, ur1885], [uL2036], [], [uV61], [], [uG2042])], [uk1896, uk1897, uk1898], 460, 2, 43)
set_option maxRecDepth 1000000 in
theorem ck_532 : x_ok mLT1 [cx_505, cx_508] mTS2 mTC2 mRUp cx_532 [(2, [0]), (11, [1])] [(14, [1000822]), (143, [1000848])] [] (15, []) 445 18 = true := by decide +kernel
theorem sn_532 {W : Bool} {X : List Int32} : y_Snd (mGw W) mLT1 (J2 W X) X cx_532 := y_ok J2_J mTS2_ok1 mTC2_ok1 mRUp_ok1 (List.forall_mem_cons.mpr ⟨sn_505, List.forall_mem_cons.mpr ⟨sn_508, fun _ h => absurd h List.not_mem_nil⟩⟩) ck_532
/-- M.areTwo -/
def cx_533 : zCtx := (237, ([ui0, ui49, ui49, (0, 1), (0, 6)], [ur1331, ur1380], [], [], [uV2, uV11, uV12], [uF2024, uF1495], [uG2098]), [([ui0, (0, 4), (1, 5), (0, 1), (1, 6)], [ur1331, ur1380], [uL57, uL516, uL563], [], [uV64], [], []), ([ui0, (0, 5), (0, 5), (0, 1), (1, 6)], [ur1331, ur1380], [uL507, uL60, uL516, uL563], [], [uV62], [], []), ([ui0, (1, 5), (0, 4), (0, 1), (1, 6)], [ur1331, ur1380], [uL506, uL516, uL563], [], [uV64], [], []), ([ui0, (0, 5), ui505, (0, 1), (1, 6)], [ur1331, ur1380], [uL594, uL563], [], [uV62], [], []), ([ui0, (0, 5), ui262, (0, 1), (1, 6)], [ur1331, ur1380], [uL516, uL563], [], [uV62], [], []), ([ui0, ui510, ui49, (0, 1), (0, 6)], [ur1331, ur1380], [uL569], [], [uV62], [], []), ([ui0, ui262, ui49, (0, 1), (0, 6)], [ur1331, ur1380], [uL563], [], [uV62], [], [])], [], 34, 2, 43)
set_option maxRecDepth 1000000 in
theorem ck_533 : x_ok mLT1 [cx_505] mTS2 mTC2 mRUp cx_533 [(2, [0]), (10, [0])] [(16, [1000461])] [] (14, []) 20 17 = true := by decide +kernel
theorem sn_533 {W : Bool} {X : List Int32} : y_Snd (mGw W) mLT1 (J2 W X) X cx_533 := y_ok J2_J mTS2_ok1 mTC2_ok1 mRUp_ok1 (List.forall_mem_cons.mpr ⟨sn_505, fun _ h => absurd h List.not_mem_nil⟩) ck_533
/-- M.likeOf -/
def cx_534 : zCtx := (238, ([ui0, (0, 5), (0, 5), (0, 1)], [ur1331, ur1382], [], [], [uV2, uV11, uV12], [uF2024, (0, (false, 26, 0, []), 2, 1, 0, [])], []), [([ui0, (0, 5), (0, 5), (0, 1), ui196], [ur1331, ur1382], [], [], [uV97], [], [(84, [uL2099, uL98])])], [], 14, 0, 0)
set_option maxRecDepth 1000000 in
theorem ck_534 : x_ok mLT1 [] mTS2 mTC2 mRUp cx_534 [] [(19, [1000465])] [] (14, []) 0 17 = true := by decide +kernel
theorem sn_534 {W : Bool} {X : List Int32} : y_Snd (mGw W) mLT1 (J2 W X) X cx_534 := y_ok J2_J mTS2_ok1 mTC2_ok1 mRUp_ok1 (fun _ h => absurd h List.not_mem_nil) ck_534
/-- M.likes -/
def cx_535 : zCtx := (236, ([ui0, ui49, ui49, (0, 1), (0, 6)], [ur1331, ur1380, ur1382], [], [], [uV2, uV11, uV12], [uF2024, uF1495, (0, (false, 26, 0, []), 2, 2, 0, [])], [uG2098]), [([ui0, ui262, ui49, (0, 1), (0, 6)], [ur1331, ur1380, ur1382], [uL563], [], [uV61], [], []), ([ui0, ui510, ui49, (0, 1), (0, 6)], [ur1331, ur1380, ur1382], [uL569], [], [uV61], [], []), ([ui0, (0, 5), ui262, (0, 1), (1, 6)], [ur1331, ur1380, ur1382], [uL563, uL516], [], [uV61], [], []), ([ui0, (0, 5), ui505, (0, 1), (1, 6)], [ur1331, ur1380, ur1382], [uL563, uL594], [], [uV61], [], []), ([ui0, ui49, ui49, (0, 1), (0, 6), ui196], [ur1331, ur1380, ur1382], [uL563, uL516, uL506, uL9, uL67], [], [uV75], [], [uG2100]), ([ui0, (0, 5), (0, 5), (0, 1), (1, 6)], [ur1331, ur1380, ur1382], [uL563, uL516, uL60, uL507], [], [uV61], [], []), ([ui0, ui49, ui49, (0, 1), (0, 6), ui196], [ur1331, ur1380, ur1382], [uL563, uL516, uL57, uL9, uL67], [], [uV75], [], [uG2100])], [], 45, 3, 65)
set_option maxRecDepth 1000000 in
theorem ck_535 : x_ok mLT1 [cx_533, cx_534] mTS2 mTC2 mRUp cx_535 [(3, [0]), (12, [1])] [] [] (11, []) 34 14 = true := by decide +kernel
theorem sn_535 {W : Bool} {X : List Int32} : y_Snd (mGw W) mLT1 (J2 W X) X cx_535 := y_ok J2_J mTS2_ok1 mTC2_ok1 mRUp_ok1 (List.forall_mem_cons.mpr ⟨sn_533, List.forall_mem_cons.mpr ⟨sn_534, fun _ h => absurd h List.not_mem_nil⟩⟩) ck_535
def cx_536p : zS := ([ui0, ui2101, (0, 1), ui31], (cx_522pr_0 (cx_522pr_1 [])), [], [], [uV2, uV389, uV11], (cx_522pf_0 (cx_522pf_1 [])), [uG2067, uG2068])
/-- M.lawTells -/
def cx_536 : zCtx := (231, cx_536p, [([ui0, ui2101, (0, 1), ui31, ui1593, ui1593], [ur1331, ur1389, ur1390, ur1391, ur1392, ur1393, ur1378, ur1379, ur1387, ur1388, ur2056, ur2054], [uL1465, uL1464], [], [uV11], [uF2102, uF2103], [uG2104, uG2104]), ([ui0, ui2101, (0, 1), ui31, ui49, ui2072, ui1593], [ur1331, ur1389, ur1390, ur1391, ur1392, ur1393, ur1378, ur1379, ur1387, ur1388, ur2056, ur2054], [], [], [uV97], [uF2105, uF2106], [(233, [uL67, uL114, uL9, uL98])]), ([ui0, ui2101, (0, 1), ui31, ui1593, ui1593], [ur1331, ur1389, ur1390, ur1391, ur1392, ur1393, ur1378, ur1379, ur1387, ur1388, ur2056, ur2054], [], [], [uV62], [uF2102, uF2103], [(233, [uL67, uL114, uL9, uL63])])], [uk2063, uk2064], 77604, 1, 27)
def cz_536_0f_0 (t : List zFa) : List zFa := uF2105 :: uF2106 :: uF2020 :: uF1617 :: uF1618 :: uF1619 :: uF1620 :: uF1621 :: t
def cz_536_0f_1 (t : List zFa) : List zFa := uF1622 :: uF1623 :: uF1625 :: uF1626 :: uF2065 :: uF2066 :: uF2075 :: t
def cz_536_0 : zS := ([ui0, ui2101, (0, 1), ui31, ui1593, ui1593, ui1593, ui49], (cx_522pr_0 (cx_522pr_1 [])), [uL2076], [uV2, uV389, uV11, (0, 0, 2, [(2, 4)]), uV97, uV113, uV113], [], (cz_536_0f_0 (cz_536_0f_1 [])), [uG2067, uG2068, uG2077, (233, [uL67, uL114, uL9, uL79])])
set_option maxRecDepth 1000000 in
theorem ck_536 : x_ok mLT1 [cx_521] mTS2 mTC2 mRUp cx_536 [(75, [0]), (95, [0]), (134, [0])] [(21, [1000655]), (24, [1000656]), (37, uN2078), (50, [12553]), (75, [1000652]), (95, [1000653]), (107, uN2079), (134, [1000654]), (146, uN2080), (150, uN2081), (153, [1000661]), (159, [1000666])] [(39, cz_536_0, (11193, [(4, (-43))]))] (11218, []) 66386 59 = true := by decide +kernel
theorem sn_536 {W : Bool} {X : List Int32} : y_Snd (mGw W) mLT1 (J2 W X) X cx_536 := y_ok J2_J mTS2_ok1 mTC2_ok1 mRUp_ok1 (List.forall_mem_cons.mpr ⟨sn_521, fun _ h => absurd h List.not_mem_nil⟩) ck_536
def cx_537pi_0 (t : List (Int × Int)) : List (Int × Int) := ui0 :: (0, 5) :: (0, 5) :: ui196 :: (0, 1) :: ui31 :: (0, 6) :: ui49 :: t
def cx_537pi_1 (t : List (Int × Int)) : List (Int × Int) := ui49 :: ui49 :: ui49 :: ui49 :: ui49 :: t
def cx_537pf_0 (t : List zFa) : List zFa := uF2107 :: uF1394 :: uF1395 :: uF2027 :: uF2028 :: uF2029 :: uF2030 :: uF2031 :: t
def cx_537pf_1 (t : List zFa) : List zFa := uF1625 :: uF1626 :: uF2032 :: uF2033 :: uF2034 :: uF2035 :: uF2083 :: t
def cx_537p : zS := ((cx_537pi_0 (cx_537pi_1 [])), (cx_524pr_0 (cx_524pr_1 [])), [uL2108, uL9, uL2109, uL67, uL2110], [], [uV2, uV11, uV12, uV58], (cx_537pf_0 (cx_537pf_1 [])), [uG2111, uG2112, (85, [uL98, uL78, uL1668]), (200, [uL98, uL1668, uL65, uL78]), (237, [uL78, uL104, uL79, uL131, uL164, uL170, uL195, uL214]), uG574])
def cx_537q0i_0 (t : List (Int × Int)) : List (Int × Int) := ui0 :: (0, 5) :: (0, 5) :: ui196 :: (0, 1) :: ui31 :: (1, 6) :: ui49 :: t
def cx_537q0i_1 (t : List (Int × Int)) : List (Int × Int) := ui49 :: ui49 :: ui49 :: ui49 :: ui49 :: ui584 :: t
def cx_537q0 : zS := ((cx_537q0i_0 (cx_537q0i_1 [])), (cx_524pr_0 (cx_524pr_1 [])), [uL2110, uL2109, uL2108, uL9, uL67], [], [uV409], [], [(238, [uL246, uL104, uL79, uL131, uL164, uL170, uL195, uL214, uL9, uL67, uL207])])
/-- M.joinsBy -/
def cx_537 : zCtx := (241, cx_537p, [cx_537q0], [uk2063, uk2055, uk2064], 77629, 3, 63)
set_option maxRecDepth 1000000 in
theorem ck_537 : x_ok mLT1 [cx_520, cx_519, cx_536, cx_523] mTS2 mTC2 mRUp cx_537 [(2, [0]), (20, [1]), (30, [2]), (37, [3])] [(33, [1000855, 1000856, 1000850]), (40, uN586)] [] (25, []) 77604 28 = true := by decide +kernel
theorem sn_537 {W : Bool} {X : List Int32} : y_Snd (mGw W) mLT1 (J2 W X) X cx_537 := y_ok J2_J mTS2_ok1 mTC2_ok1 mRUp_ok1 (List.forall_mem_cons.mpr ⟨sn_520, List.forall_mem_cons.mpr ⟨sn_519, List.forall_mem_cons.mpr ⟨sn_536, List.forall_mem_cons.mpr ⟨sn_523, fun _ h => absurd h List.not_mem_nil⟩⟩⟩⟩) ck_537
def cx_538pi_0 (t : List (Int × Int)) : List (Int × Int) := ui0 :: (0, 5) :: (0, 5) :: (0, 1) :: ui31 :: (0, 6) :: ui49 :: ui49 :: t
def cx_538pi_1 (t : List (Int × Int)) : List (Int × Int) := ui49 :: ui49 :: ui49 :: ui49 :: t
def cx_538pr_0 (t : List (Nat × Bool)) : List (Nat × Bool) := ur1331 :: ur1378 :: ur1379 :: ur1389 :: ur1390 :: ur1391 :: ur1392 :: ur1393 :: t
def cx_538pr_1 (t : List (Nat × Bool)) : List (Nat × Bool) := ur1387 :: ur1388 :: ur1380 :: ur1492 :: ur1493 :: ur1382 :: ur1885 :: t
def cx_538pf_0 (t : List zFa) : List zFa := uF2024 :: uF1394 :: uF1395 :: uF2027 :: uF2028 :: uF2029 :: uF2030 :: uF2031 :: t
def cx_538pf_1 (t : List zFa) : List zFa := uF1625 :: uF1626 :: uF2032 :: uF2033 :: uF2034 :: uF1920 :: uF2113 :: t
def cx_538p : zS := ((cx_538pi_0 (cx_538pi_1 [])), (cx_538pr_0 (cx_538pr_1 [])), [uL576, uL9, uL577, uL67, uL578], [], [uV2, uV11, uV12], (cx_538pf_0 (cx_538pf_1 [])), [uG2037, uG2114, (85, [uL23, uL104, uL2038]), (200, [uL23, uL2038, uL65, uL104]), uG2115, (237, [uL104, uL98, uL78, uL79, uL131, uL164, uL170, uL195])])
def cx_538q0i_0 (t : List (Int × Int)) : List (Int × Int) := ui0 :: (0, 5) :: (0, 5) :: (0, 1) :: ui31 :: (1, 6) :: ui49 :: ui49 :: t
def cx_538q0i_1 (t : List (Int × Int)) : List (Int × Int) := ui49 :: ui49 :: ui49 :: ui49 :: ui584 :: t
def cx_538q0 : zS := ((cx_538q0i_0 (cx_538q0i_1 [])), (cx_538pr_0 (cx_538pr_1 [])), [uL577, uL578, uL576, uL9, uL67], [], [uV198], [], [(238, [uL246, uL98, uL78, uL79, uL131, uL164, uL170, uL195, uL9, uL67, uL214])])
/-- M.joinsOf -/
def cx_538 : zCtx := (240, cx_538p, [cx_538q0], [uk2063, uk2055, uk2064], 77638, 4, 86)
set_option maxRecDepth 1000000 in
theorem ck_538 : x_ok mLT1 [cx_534, cx_537] mTS2 mTC2 mRUp cx_538 [(6, [0]), (9, [1])] [(9, [1000854])] [] (9, []) 77629 12 = true := by decide +kernel
theorem sn_538 {W : Bool} {X : List Int32} : y_Snd (mGw W) mLT1 (J2 W X) X cx_538 := y_ok J2_J mTS2_ok1 mTC2_ok1 mRUp_ok1 (List.forall_mem_cons.mpr ⟨sn_534, List.forall_mem_cons.mpr ⟨sn_537, fun _ h => absurd h List.not_mem_nil⟩⟩) ck_538
def cx_539pf_0 (t : List zFa) : List zFa := uF2024 :: uF2025 :: uF2026 :: uF1394 :: uF1395 :: uF2027 :: uF2028 :: uF2029 :: t
def cx_539pf_1 (t : List zFa) : List zFa := uF2030 :: uF2031 :: uF1625 :: uF1626 :: uF2032 :: uF2033 :: uF2034 :: uF1920 :: t
def cx_539pf_2 (t : List zFa) : List zFa := uF2113 :: t
def cx_539p : zS := ((cx_506pi_0 (cx_506pi_1 [])), (cx_538pr_0 (cx_538pr_1 [])), [uL1172], [], [uV2, uV11, uV12], (cx_539pf_0 (cx_539pf_1 (cx_539pf_2 []))), [uG2037, uG2039, uG2040, uG2041, uG2115, uG2042])
def cx_539q4i_0 (t : List (Int × Int)) : List (Int × Int) := ui0 :: ui49 :: ui49 :: (0, 1) :: ui49 :: (0, 1) :: ui31 :: (0, 6) :: t
def cx_539q4i_1 (t : List (Int × Int)) : List (Int × Int) := (0, 6) :: ui49 :: ui49 :: ui584 :: t
def cx_539q4 : zS := ((cx_539q4i_0 (cx_539q4i_1 [])), (cx_538pr_0 (cx_538pr_1 [])), [uL9, uL2046, uL67, uL2116, uL506], [], [uV840], [], [uG2117, uG2042])
def cx_539q5 : zS := ((cx_506pi_0 (cx_506pi_1 [])), (cx_538pr_0 (cx_538pr_1 [])), [uL9, uL2046, uL67, uL2116, uL60, uL507], [], [uV61], [], [uG2042])
def cx_539q6 : zS := ((cx_539q4i_0 (cx_539q4i_1 [])), (cx_538pr_0 (cx_538pr_1 [])), [uL9, uL2046, uL67, uL2116, uL57], [], [uV840], [], [uG2117, uG2042])
/-- M.joins -/
def cx_539 : zCtx := (239, cx_539p, [([ui0, ui49, ui49, (0, 1), ui49, (0, 1), ui31, (0, 6), (0, 6), ui49, ui49], [ur1331, ur1378, ur1379, ur1389, ur1390, ur1391, ur1392, ur1393, ur1387, ur1388, ur1380, ur1492, ur1493, ur1382, ur1885], [uL568], [], [uV61], [], [uG2042]), ([ui0, ui49, ui49, (0, 1), ui49, (0, 1), ui31, (0, 6), (0, 6), ui49, ui49], [ur1331, ur1378, ur1379, ur1389, ur1390, ur1391, ur1392, ur1393, ur1387, ur1388, ur1380, ur1492, ur1493, ur1382, ur1885], [uL2036], [], [uV61], [], [uG2042]), ([ui0, ui49, ui49, (0, 1), ui49, (0, 1), ui31, (0, 6), (0, 6), ui49, ui49], [ur1331, ur1378, ur1379, ur1389, ur1390, ur1391, ur1392, ur1393, ur1387, ur1388, ur1380, ur1492, ur1493, ur1382, ur1885], [uL595], [], [uV61], [], [uG2042]), ([ui0, ui49, ui49, (0, 1), ui49, (0, 1), ui31, (0, 6), (0, 6), ui49, ui49], [ur1331, ur1378, ur1379, ur1389, ur1390, ur1391, ur1392, ur1393, ur1387, ur1388, ur1380, ur1492, ur1493, ur1382, ur1885], [(0, [(2, 1), (7, (-1))])], [], [uV61], [], [uG2042]), cx_539q4, cx_539q5, cx_539q6], [uk2063, uk1896, uk1897, uk2055, uk2064, uk1898], 77650, 5, 108)
set_option maxRecDepth 1000000 in
theorem ck_539 : x_ok mLT1 [cx_533, cx_508, cx_538] mTS2 mTC2 mRUp cx_539 [(3, [0]), (12, [1]), (18, [2])] [(15, uN2118)] [] (12, []) 77638 15 = true := by decide +kernel
theorem sn_539 {W : Bool} {X : List Int32} : y_Snd (mGw W) mLT1 (J2 W X) X cx_539 := y_ok J2_J mTS2_ok1 mTC2_ok1 mRUp_ok1 (List.forall_mem_cons.mpr ⟨sn_533, List.forall_mem_cons.mpr ⟨sn_508, List.forall_mem_cons.mpr ⟨sn_538, fun _ h => absurd h List.not_mem_nil⟩⟩⟩) ck_539
/-- M.at -/
def cx_540 : zCtx := (242, ([ui0, ui510, (0, 1), (0, 6), (0, 6), ui49, ui49], [ur1331, ur1380, ur1905], [uL511, uL569], [], [uV2, uV11], [uF2020, uF1495, uF2043], [uG2022, uG602]), [([ui0, ui510, (0, 1), (0, 6), (0, 6), ui49, ui49], [ur1331, ur1380, ur1905], [], [], [uV61], [], [uG602])], [], 21, 1, 22)
set_option maxRecDepth 1000000 in
theorem ck_540 : x_ok mLT1 [cx_504] mTS2 mTC2 mRUp cx_540 [(11, [0])] [(9, [1000857]), (17, [1000859]), (29, [1000858])] [] (12, []) 9 15 = true := by decide +kernel
theorem sn_540 {W : Bool} {X : List Int32} : y_Snd (mGw W) mLT1 (J2 W X) X cx_540 := y_ok J2_J mTS2_ok1 mTC2_ok1 mRUp_ok1 (List.forall_mem_cons.mpr ⟨sn_504, fun _ h => absurd h List.not_mem_nil⟩) ck_540
/-- M.at -/
def cx_541 : zCtx := (242, ([ui0, (0, 5), (0, 1), (0, 6), (0, 6), ui49, ui49, (0, 5)], [ur1331, ur1380, ur1905], [uL511, uL9, uL563], [], [uV2, uV11], [uF2020, uF1495, uF2043], [uG2022, uG602, uG603]), [([ui0, (0, 5), (0, 1), (0, 6), (0, 6), ui49, ui49, (0, 5)], [ur1331, ur1380, ur1905], [], [], [uV142], [], [uG602])], [], 27, 1, 22)
set_option maxRecDepth 1000000 in
theorem ck_541 : x_ok mLT1 [cx_504] mTS2 mTC2 mRUp cx_541 [(11, [0])] [(9, [1000857]), (17, [1000859]), (26, [1000860, 1000861]), (29, [1000858])] [] (18, []) 9 21 = true := by decide +kernel
theorem sn_541 {W : Bool} {X : List Int32} : y_Snd (mGw W) mLT1 (J2 W X) X cx_541 := y_ok J2_J mTS2_ok1 mTC2_ok1 mRUp_ok1 (List.forall_mem_cons.mpr ⟨sn_504, fun _ h => absurd h List.not_mem_nil⟩) ck_541
/-- M.at -/
def cx_542 : zCtx := (242, ([ui0, ui262, (0, 1), (0, 6), (0, 6), ui49, ui49], [ur1331, ur1380, ur1905], [uL511, uL568], [], [uV2, uV11], [uF2020, uF1495, uF2043], [uG2022, uG602]), [([ui0, ui262, (0, 1), (0, 6), (0, 6), ui49, ui49], [ur1331, ur1380, ur1905], [], [], [uV61], [], [uG602])], [], 21, 1, 22)
set_option maxRecDepth 1000000 in
theorem ck_542 : x_ok mLT1 [cx_504] mTS2 mTC2 mRUp cx_542 [(11, [0])] [(9, [1000857]), (29, [1000858])] [] (12, []) 9 15 = true := by decide +kernel
theorem sn_542 {W : Bool} {X : List Int32} : y_Snd (mGw W) mLT1 (J2 W X) X cx_542 := y_ok J2_J mTS2_ok1 mTC2_ok1 mRUp_ok1 (List.forall_mem_cons.mpr ⟨sn_504, fun _ h => absurd h List.not_mem_nil⟩) ck_542
/-- M.copies -/
def cx_543 : zCtx := (224, ([ui0, (0, 1), ui49, (0, 1), ui196], [ur1331, ur1885, ur1905, ur1386], [], [], [uV2], [uF1886, uF1887, uF1888, uF1889, uF2043, uF2044, uF1891], [uG1900]), [([ui0, (0, 1), ui49, (0, 1), ui196, (0, 6)], [ur1331, ur1885, ur1905, ur1386], [], [], [], [uF1892, uF2025, uF2045], [uG1899, uG1894, uG1895, uG1899])], [uk1896, uk1897, uk1898], 445, 0, 0)
def cq_543 : List zCtx := []
def cs_543 : List (Nat × List Nat) := []
def hs_543 : List (Nat × List Nat) := [(0, [81]), (26, [82, 1000698])]
def ns_543 : List zN := []
set_option maxRecDepth 1000000 in
theorem ca_543 : x_okA mLT1 cq_543 mTS2 mTC2 mRUp cx_543 cs_543 hs_543 ns_543 (445, []) 0 448 = true := by decide +kernel
set_option maxRecDepth 1000000 in
theorem cc_543 : x_okC mLT1 cq_543 mTS2 mTC2 mRUp cx_543 cs_543 hs_543 ns_543 (445, []) 0 448 = true := by decide +kernel
theorem ck_543 : x_ok mLT1 cq_543 mTS2 mTC2 mRUp cx_543 cs_543 hs_543 ns_543 (445, []) 0 448 = true := x_ok_of ca_543 (fun _ h => absurd h List.not_mem_nil) cc_543
theorem sn_543 {W : Bool} {X : List Int32} : y_Snd (mGw W) mLT1 (J2 W X) X cx_543 := y_ok J2_J mTS2_ok1 mTC2_ok1 mRUp_ok1 (fun _ h => absurd h List.not_mem_nil) ck_543
end
