noncomputable section
/-! ===== readings, by program, checked by the kernel ===== -/
def cx_542pi_0 (t : List (Int × Int)) : List (Int × Int) := ui0 :: ui51 :: (0, 1) :: ui51 :: (0, 1) :: ui757 :: (0, 6) :: ui51 :: t
def cx_542pi_1 (t : List (Int × Int)) : List (Int × Int) := ui51 :: (0, 6) :: ui586 :: ui440 :: t
def cx_542pg_0 (t : List zTg) : List zTg := uG2094 :: uG1873 :: uG2095 :: uG2096 :: uG2119 :: uG2120 :: uG2121 :: uG2122 :: t
def cx_542pg_1 (t : List zTg) : List zTg := (244, [uL80, uL198, uL609, uL67, uL754]) :: t
def cx_542p : zS := ((cx_542pi_0 (cx_542pi_1 [])), [ur1299, ur1858, ur1347, ur1462, ur1463, ur2106, ur1878], [uL2083, uL239, uL2132, uL2133], [], [uV2, uV11], (cx_540pf_0 (cx_540pf_1 [])), (cx_542pg_0 (cx_542pg_1 [])))
/-- M.splice -/
def cx_542 : zCtx := (243, cx_542p, [([ui0, ui51, (0, 1), ui51, (0, 1), ui757, (0, 6), ui51, ui51, (0, 6), ui586, ui440], [ur1299, ur1858, ur1347, ur1462, ur1463, ur2106, ur1878], [], [], [uV826], [uF2130], [uG1873, uG1874, uG2094, uG2131, uG1867, uG1868, uG2127, (242, [uL80, uL198, uL608, uL65])])], [uk1869, uk1870, uk2110, uk1875, uk1871, uk2111], 1305467, 2, 43)
set_option maxRecDepth 1000000 in
theorem ck_542 : x_ok mLT1 [cx_536, cx_498, cx_507, cx_505, cx_541, cx_539] mTS2 mTC2 mRUp cx_542 [(1, [0]), (6, [1]), (14, [2]), (56, [3]), (108, [4]), (112, [5])] [(4, uN2103), (29, uN2104), (31, [20, 85, 1000908, 1000909, 1000910, 1000827, 1000844, 1000911]), (46, [23]), (71, [1000637]), (107, [25, 1000912, 1000913]), (108, [1000914])] [] (72, []) 1305395 75 = true := by decide +kernel
theorem sn_542 {W : Bool} {X : List Int32} : y_Snd (mGw W) mLT1 (J2 W X) X cx_542 := y_ok J2_J mTS2_ok1 mTC2_ok1 mRUp_ok1 (List.forall_mem_cons.mpr ⟨sn_536, List.forall_mem_cons.mpr ⟨sn_498, List.forall_mem_cons.mpr ⟨sn_507, List.forall_mem_cons.mpr ⟨sn_505, List.forall_mem_cons.mpr ⟨sn_541, List.forall_mem_cons.mpr ⟨sn_539, fun _ h => absurd h List.not_mem_nil⟩⟩⟩⟩⟩⟩) ck_542
/-- M.unsplice -/
def cx_543 : zCtx := (246, ([ui0, (0, 1), ui51, (0, 1), ui441, (0, 6), ui51, ui51], [ur1299, ur1347, ur1858], [uL578], [], [uV2], [uF1859, uF1860, uF1861, uF2134, uF1465, uF2024], [uG2094, uG1873, uG2135, uG2136]), [([ui0, (0, 1), ui51, (0, 1), ui441, (0, 6), ui51, ui51], [ur1299, ur1347, ur1858], [], [], [uV63], [], [uG1867, uG1868, uG2136])], [uk1869, uk1870, uk1871], 454, 1, 21)
set_option maxRecDepth 1000000 in
theorem ck_543 : x_ok mLT1 [cx_536] mTS2 mTC2 mRUp cx_543 [(1, [0])] [(4, [1000818]), (11, uN2137)] [] (9, []) 445 12 = true := by decide +kernel
theorem sn_543 {W : Bool} {X : List Int32} : y_Snd (mGw W) mLT1 (J2 W X) X cx_543 := y_ok J2_J mTS2_ok1 mTC2_ok1 mRUp_ok1 (List.forall_mem_cons.mpr ⟨sn_536, fun _ h => absurd h List.not_mem_nil⟩) ck_543
/-- M.loses -/
def cx_544 : zCtx := (247, ([ui0, (0, 6), (0, 6), (0, 1), (0, 6)], [ur1299, ur1858, ur1347], [uL766, uL9, uL509], [], [uV2, uV11], [uF1862, (1, (true, 0, 24, []), 0, 0, 0, [(2, 1)]), uF1999, uF2100], [uG1867, uG2073, (237, [uL100, uL65, uL65, uL65, uL65, uL65, uL65, uL65])]), [([ui0, (0, 6), (0, 6), (0, 1), (0, 6), (0, 6)], [ur1299, ur1858, ur1347], [uL766, uL9, uL509], [], [], [uF2020], [uG1867, (237, [uL100, uL65, uL65, uL65, uL116, uL9, uL65, uL65])])], [uk1871], 307, 0, 0)
set_option maxRecDepth 1000000 in
theorem ck_544 : x_ok mLT1 [] mTS2 mTC2 mRUp cx_544 [] [(1, [1000918]), (8, [20]), (11, [1000919]), (62, [150]), (74, [24, 25, 1000920])] [(0, ([(0, 3072), (0, 5), (1, 6), (0, 1), (1, 6), (0, 5), (0, 5)], [(12, false), (78, false), (56, false)], [((-1), [(4, 1), (5, (-1))]), ((-1), [(1, (-1)), (2, 1)]), (6, [(4, (-1))]), (0, [(1, 1)]), (0, [(1, (-1)), (2, 1)]), (0, [(1, (-1)), (6, 1)])], [(2, 0, 0, []), (0, 0, 0, [(1, 1)]), (0, 0, 0, [(5, 1)])], [], [(1, (true, 0, 24, []), 0, 0, 0, [(6, 1)]), (0, (false, 48, 0, []), 2, 1, 0, []), (0, (false, 18, 0, []), 0, 0, 0, [(3, 1)]), (0, (false, 22, 0, []), 2, 2, 0, [])], [(11, [((-1), [])]), (85, [(0, [(3, 1)]), (0, [(4, 1)]), (1, [(3, (-1))])]), (237, [(0, [(4, 1)]), (0, []), (0, []), (0, []), (2, []), (0, [(6, 1)]), (0, []), (0, [])])]), (7, [(6, 50)]))] (307, []) 0 52 = true := by decide +kernel
theorem sn_544 {W : Bool} {X : List Int32} : y_Snd (mGw W) mLT1 (J2 W X) X cx_544 := y_ok J2_J mTS2_ok1 mTC2_ok1 mRUp_ok1 (fun _ h => absurd h List.not_mem_nil) ck_544
def cx_545pi_0 (t : List (Int × Int)) : List (Int × Int) := ui0 :: (0, 1) :: ui51 :: (0, 1) :: ui440 :: (0, 6) :: ui51 :: ui51 :: t
def cx_545pi_1 (t : List (Int × Int)) : List (Int × Int) := (1, 6) :: (0, 5) :: ui440 :: t
def cx_545pg_0 (t : List zTg) : List zTg := uG2094 :: uG1873 :: uG2135 :: uG2138 :: uG2139 :: uG2140 :: (244, [uL106, uL173, uL100, uL65, (0, [(4, 33)])]) :: t
def cx_545p : zS := ((cx_545pi_0 (cx_545pi_1 [])), [ur1299, ur1347, ur1858, ur2106, ur1878], [uL578, (39, [(4, (-1))])], [], [uV2], [uF1859, uF1860, uF1861, uF2134, uF1465, uF2024, uF2109, uF2141], (cx_545pg_0 []))
/-- M.unsplice -/
def cx_545 : zCtx := (246, cx_545p, [([ui0, (0, 1), ui51, (0, 1), ui440, (0, 6), ui51, ui51, (1, 6), (0, 5), ui440], [ur1299, ur1347, ur1858, ur2106, ur1878], [], [], [uV779], [(0, (false, 53, 0, []), 0, 0, 1, [(4, 1)])], [uG1873, uG1874, uG2094, (12, [uL100]), uG1867, uG2142, (242, [uL106, uL173, uL172, uL65])])], [uk1869, uk1870, uk2110, uk1875, uk1871, uk2111], 1076, 2, 42)
set_option maxRecDepth 1000000 in
theorem ck_545 : x_ok mLT1 [cx_536, cx_544, cx_538] mTS2 mTC2 mRUp cx_545 [(1, [0]), (42, [1]), (46, [2])] [(4, [1000818]), (11, uN2137), (30, uN2143)] [] (29, []) 1047 32 = true := by decide +kernel
theorem sn_545 {W : Bool} {X : List Int32} : y_Snd (mGw W) mLT1 (J2 W X) X cx_545 := y_ok J2_J mTS2_ok1 mTC2_ok1 mRUp_ok1 (List.forall_mem_cons.mpr ⟨sn_536, List.forall_mem_cons.mpr ⟨sn_544, List.forall_mem_cons.mpr ⟨sn_538, fun _ h => absurd h List.not_mem_nil⟩⟩⟩) ck_545
def cx_546pi_0 (t : List (Int × Int)) : List (Int × Int) := ui0 :: (0, 1) :: ui51 :: (0, 1) :: ui757 :: (0, 6) :: ui51 :: ui51 :: t
def cx_546pi_1 (t : List (Int × Int)) : List (Int × Int) := (1, 6) :: (0, 5) :: ui440 :: t
def cx_546pg_0 (t : List zTg) : List zTg := uG2094 :: uG1873 :: uG2135 :: uG2138 :: uG2139 :: uG2140 :: (244, [uL106, uL173, uL609, uL67, uL754]) :: t
def cx_546p : zS := ((cx_546pi_0 (cx_546pi_1 [])), [ur1299, ur1347, ur1858, ur2106, ur1878], [uL578, ((-40), [(4, 1)]), (40, [(4, (-1))])], [], [uV2], [uF1859, uF1860, uF1861, uF2134, uF1465, uF2024, uF2109, uF2141], (cx_546pg_0 []))
/-- M.unsplice -/
def cx_546 : zCtx := (246, cx_546p, [([ui0, (0, 1), ui51, (0, 1), ui757, (0, 6), ui51, ui51, (1, 6), (0, 5), ui440], [ur1299, ur1347, ur1858, ur2106, ur1878], [], [], [uV779], [uF2130], [uG1873, uG1874, uG2094, uG2131, uG1867, uG2142, (242, [uL106, uL173, uL608, uL65])])], [uk1869, uk1870, uk2110, uk1875, uk1871, uk2111], 1305424, 2, 42)
set_option maxRecDepth 1000000 in
theorem ck_546 : x_ok mLT1 [cx_536, cx_544, cx_541] mTS2 mTC2 mRUp cx_546 [(1, [0]), (42, [1]), (46, [2])] [(4, [1000818]), (11, uN2137), (30, uN2143)] [] (29, []) 1305395 32 = true := by decide +kernel
theorem sn_546 {W : Bool} {X : List Int32} : y_Snd (mGw W) mLT1 (J2 W X) X cx_546 := y_ok J2_J mTS2_ok1 mTC2_ok1 mRUp_ok1 (List.forall_mem_cons.mpr ⟨sn_536, List.forall_mem_cons.mpr ⟨sn_544, List.forall_mem_cons.mpr ⟨sn_541, fun _ h => absurd h List.not_mem_nil⟩⟩⟩) ck_546
/-- M.isWeight -/
def cx_547 : zCtx := (249, ([ui0, ui51], [], [], [], [uV11], [], []), [([ui0, ui265], [], [], [], [uV64], [], []), ([ui0, ui800], [], [], [], [uV64], [], []), ([ui0, ui586], [], [], [], [uV66], [], [])], [], 14, 1, 22)
set_option maxRecDepth 1000000 in
theorem ck_547 : x_ok mLT1 [cx_497] mTS2 mTC2 mRUp cx_547 [(5, [0])] [] [] (5, []) 9 8 = true := by decide +kernel
theorem sn_547 {W : Bool} {X : List Int32} : y_Snd (mGw W) mLT1 (J2 W X) X cx_547 := y_ok J2_J mTS2_ok1 mTC2_ok1 mRUp_ok1 (List.forall_mem_cons.mpr ⟨sn_497, fun _ h => absurd h List.not_mem_nil⟩) ck_547
def cx_548pi_0 (t : List (Int × Int)) : List (Int × Int) := ui0 :: ui800 :: (0, 1) :: ui51 :: (0, 1) :: ui441 :: ui31 :: (0, 6) :: t
def cx_548pi_1 (t : List (Int × Int)) : List (Int × Int) := (0, 6) :: ui51 :: ui51 :: ui199 :: t
def cx_548pr_0 (t : List (Nat × Bool)) : List (Nat × Bool) := ur1299 :: ur1345 :: ur1346 :: ur1356 :: ur1357 :: ur1358 :: ur1359 :: ur1360 :: t
def cx_548pr_1 (t : List (Nat × Bool)) : List (Nat × Bool) := ur1354 :: ur1355 :: ur1347 :: ur1462 :: ur1463 :: ur1349 :: ur1858 :: ur1350 :: t
def cx_548pf_0 (t : List zFa) : List zFa := uF1995 :: uF2097 :: uF2098 :: uF2099 :: uF1361 :: uF1362 :: uF2002 :: uF2003 :: t
def cx_548pf_1 (t : List zFa) : List zFa := uF2004 :: uF2005 :: uF2006 :: uF1597 :: uF1598 :: uF2007 :: uF2008 :: uF2009 :: t
def cx_548pf_2 (t : List zFa) : List zFa := uF1895 :: uF2088 :: uF2144 :: t
def cx_548pg_0 (t : List zTg) : List zTg := uG2042 :: uG2094 :: uG1873 :: uG2145 :: uG2146 :: uG2147 :: uG2148 :: uG2149 :: t
def cx_548pg_1 (t : List zTg) : List zTg := uG2017 :: t
def cx_548p : zS := ((cx_548pi_0 (cx_548pi_1 [])), (cx_548pr_0 (cx_548pr_1 [])), [uL2011], [], [uV2, uV11], (cx_548pf_0 (cx_548pf_1 (cx_548pf_2 []))), (cx_548pg_0 (cx_548pg_1 [])))
/-- M.haul -/
def cx_548 : zCtx := (248, cx_548p, [([ui0, ui800, (0, 1), ui51, (0, 1), ui441, ui31, (0, 6), (0, 6), ui51, ui51, ui199], [ur1299, ur1345, ur1346, ur1356, ur1357, ur1358, ur1359, ur1360, ur1354, ur1355, ur1347, ur1462, ur1463, ur1349, ur1858, ur1350], [], [], [uV63], [], [uG1867, uG1868, uG2017])], [uk1869, uk1870, uk1871], 452, 2, 42)
set_option maxRecDepth 1000000 in
theorem ck_548 : x_ok mLT1 [cx_536, cx_547] mTS2 mTC2 mRUp cx_548 [(1, [0]), (5, [1])] [(4, [1000818])] [] (7, []) 445 10 = true := by decide +kernel
theorem sn_548 {W : Bool} {X : List Int32} : y_Snd (mGw W) mLT1 (J2 W X) X cx_548 := y_ok J2_J mTS2_ok1 mTC2_ok1 mRUp_ok1 (List.forall_mem_cons.mpr ⟨sn_536, List.forall_mem_cons.mpr ⟨sn_547, fun _ h => absurd h List.not_mem_nil⟩⟩) ck_548
def cx_549pi_0 (t : List (Int × Int)) : List (Int × Int) := ui0 :: ui199 :: ui199 :: ui199 :: ui199 :: ui199 :: ui199 :: (0, 1) :: t
def cx_549pi_1 (t : List (Int × Int)) : List (Int × Int) := (0, 6) :: ui51 :: ui51 :: ui51 :: ui51 :: ui51 :: ui51 :: ui51 :: t
def cx_549pi_2 (t : List (Int × Int)) : List (Int × Int) := (0, 6) :: t
def cx_549pf_0 (t : List zFa) : List zFa := uF1862 :: uF2112 :: uF2113 :: uF2114 :: uF2115 :: uF2116 :: uF2117 :: (0, (false, 18, 0, []), 0, 0, 0, [(7, 1)]) :: t
def cx_549pf_1 (t : List zFa) : List zFa := uF2100 :: (1, (true, 0, 24, []), 0, 0, 0, [(16, 1)]) :: t
def cx_549p : zS := ((cx_549pi_0 (cx_549pi_1 (cx_549pi_2 []))), [ur1299, ur1858, ur1347], [uL1207], [], [uV2], (cx_549pf_0 (cx_549pf_1 [])), [(85, [uL81, uL133, uL1619]), (237, [uL133, uL166, uL173, uL198, uL217, uL210, uL211, uL212])])
def cx_549q0i_0 (t : List (Int × Int)) : List (Int × Int) := ui0 :: ui1132 :: ui1132 :: ui1132 :: ui1132 :: ui1132 :: ui1132 :: (0, 1) :: t
def cx_549q0i_1 (t : List (Int × Int)) : List (Int × Int) := (0, 6) :: ui51 :: ui51 :: ui51 :: ui51 :: ui51 :: ui51 :: ui51 :: t
def cx_549q0i_2 (t : List (Int × Int)) : List (Int × Int) := (0, 6) :: t
def cx_549q0 : zS := ((cx_549q0i_0 (cx_549q0i_1 (cx_549q0i_2 []))), [ur1299, ur1858, ur1347], [(594, [(1, (-1)), (2, (-1)), (3, (-1)), (4, (-1)), (5, (-1)), (6, (-1))]), uL2150, uL1207], [], [uV2118], [], [(238, [uL67, uL166, uL173, uL198, uL217, uL210, uL211, uL212, uL65, uL215, uL2150])])
/-- M.ropeLong -/
def cx_549 : zCtx := (245, cx_549p, [cx_549q0], [], 30, 0, 0)
set_option maxRecDepth 1000000 in
theorem ck_549 : x_ok mLT1 [] mTS2 mTC2 mRUp cx_549 [] [(47, [1000913, 1000934])] [] (30, []) 0 33 = true := by decide +kernel
theorem sn_549 {W : Bool} {X : List Int32} : y_Snd (mGw W) mLT1 (J2 W X) X cx_549 := y_ok J2_J mTS2_ok1 mTC2_ok1 mRUp_ok1 (fun _ h => absurd h List.not_mem_nil) ck_549
def cx_550pi_0 (t : List (Int × Int)) : List (Int × Int) := ui0 :: ui586 :: (0, 1) :: ui51 :: (0, 1) :: ui441 :: ui31 :: (0, 6) :: t
def cx_550pi_1 (t : List (Int × Int)) : List (Int × Int) := ui51 :: ui51 :: ui199 :: (0, 6) :: ui586 :: t
def cx_550pg_0 (t : List zTg) : List zTg := uG2042 :: uG2094 :: uG1873 :: uG2145 :: uG2146 :: uG2147 :: uG2148 :: uG2151 :: t
def cx_550pg_1 (t : List zTg) : List zTg := uG2152 :: uG2153 :: uG2154 :: t
def cx_550p : zS := ((cx_550pi_0 (cx_550pi_1 [])), (cx_548pr_0 (cx_548pr_1 [])), [uL2011, ((-1), [(10, 1), (12, (-1))])], [], [uV2, uV11], (cx_548pf_0 (cx_548pf_1 (cx_548pf_2 []))), (cx_550pg_0 (cx_550pg_1 [])))
/-- M.haul -/
def cx_550 : zCtx := (248, cx_550p, [([ui0, ui586, (0, 1), ui51, (0, 1), ui441, ui31, (0, 6), ui51, ui51, ui199, (0, 6), ui586], [ur1299, ur1345, ur1346, ur1356, ur1357, ur1358, ur1359, ur1360, ur1354, ur1355, ur1347, ur1462, ur1463, ur1349, ur1858, ur1350], [], [], [uV63], [], [uG1867, uG1868, uG2154])], [uk1869, uk1870, uk1871], 460, 2, 42)
set_option maxRecDepth 1000000 in
theorem ck_550 : x_ok mLT1 [cx_536, cx_547, cx_549] mTS2 mTC2 mRUp cx_550 [(1, [0]), (5, [1]), (12, [2])] [(4, [1000818]), (15, uN2155), (24, uN2156)] [] (15, []) 445 18 = true := by decide +kernel
theorem sn_550 {W : Bool} {X : List Int32} : y_Snd (mGw W) mLT1 (J2 W X) X cx_550 := y_ok J2_J mTS2_ok1 mTC2_ok1 mRUp_ok1 (List.forall_mem_cons.mpr ⟨sn_536, List.forall_mem_cons.mpr ⟨sn_547, List.forall_mem_cons.mpr ⟨sn_549, fun _ h => absurd h List.not_mem_nil⟩⟩⟩) ck_550
def cx_551pi_0 (t : List (Int × Int)) : List (Int × Int) := ui0 :: ui265 :: (0, 1) :: ui51 :: (0, 1) :: ui441 :: ui31 :: (0, 6) :: t
def cx_551pi_1 (t : List (Int × Int)) : List (Int × Int) := (0, 6) :: ui51 :: ui51 :: ui199 :: t
def cx_551p : zS := ((cx_551pi_0 (cx_551pi_1 [])), (cx_548pr_0 (cx_548pr_1 [])), [uL2011], [], [uV2, uV11], (cx_548pf_0 (cx_548pf_1 (cx_548pf_2 []))), (cx_548pg_0 (cx_548pg_1 [])))
/-- M.haul -/
def cx_551 : zCtx := (248, cx_551p, [([ui0, ui265, (0, 1), ui51, (0, 1), ui441, ui31, (0, 6), (0, 6), ui51, ui51, ui199], [ur1299, ur1345, ur1346, ur1356, ur1357, ur1358, ur1359, ur1360, ur1354, ur1355, ur1347, ur1462, ur1463, ur1349, ur1858, ur1350], [], [], [uV63], [], [uG1867, uG1868, uG2017])], [uk1869, uk1870, uk1871], 452, 2, 42)
set_option maxRecDepth 1000000 in
theorem ck_551 : x_ok mLT1 [cx_536, cx_547] mTS2 mTC2 mRUp cx_551 [(1, [0]), (5, [1])] [(4, [1000818])] [] (7, []) 445 10 = true := by decide +kernel
theorem sn_551 {W : Bool} {X : List Int32} : y_Snd (mGw W) mLT1 (J2 W X) X cx_551 := y_ok J2_J mTS2_ok1 mTC2_ok1 mRUp_ok1 (List.forall_mem_cons.mpr ⟨sn_536, List.forall_mem_cons.mpr ⟨sn_547, fun _ h => absurd h List.not_mem_nil⟩⟩) ck_551
def cx_552p : zS := ((cx_508pi_0 (cx_508pi_1 [])), [ur1299, ur1347, ur1858], [uL513, uL9, uL1131], [], [uV2, uV11], [uF1995, uF1465, uF2024, uF2025], [uG1997, uG2026])
/-- M.belowOf -/
def cx_552 : zCtx := (252, cx_552p, [([ui0, (0, 5), (0, 1), (0, 6), ui51, ui51, ui51, ui51, ui51, ui51, ui51, (0, 6), ui768], [ur1299, ur1347, ur1858], [uL513, uL9, uL1131, uL217], [], [uV201], [], [(238, [uL67, uL100, uL106, uL80, uL81, uL133, uL166, uL173, uL111, uL198, uL217])])], [], 130, 0, 0)
def cz_552_0i_0 (t : List (Int × Int)) : List (Int × Int) := ui0 :: (0, 5) :: (0, 1) :: (0, 6) :: ui51 :: ui51 :: ui51 :: ui51 :: t
def cz_552_0i_1 (t : List (Int × Int)) : List (Int × Int) := ui51 :: ui51 :: ui51 :: (0, 6) :: ui768 :: (1, 6) :: t
def cz_552_0 : zS := ((cz_552_0i_0 (cz_552_0i_1 [])), [ur1299, ur1347, ur1858], [uL513, uL9, uL1131, uL217, ((-99), [(1, (-99)), (12, (-1)), (13, 99)]), ((-1), [(1, (-1)), (13, 1)]), (0, [(11, 1), (13, (-1))])], [uV2, uV11, uV201, uV411], [], [uF1995, uF1465, uF2024, uF2025], [uG1997, uG2026, (238, [uL67, uL100, uL106, uL80, uL81, uL133, uL166, uL173, uL111, uL210, uL217])])
set_option maxRecDepth 1000000 in
theorem ck_552 : x_ok mLT1 [] mTS2 mTC2 mRUp cx_552 [] [(2, [1000943]), (35, [1000944]), (36, [1000904])] [(6, cz_552_0, (146, [(13, (-23))]))] (130, []) 0 25 = true := by decide +kernel
theorem sn_552 {W : Bool} {X : List Int32} : y_Snd (mGw W) mLT1 (J2 W X) X cx_552 := y_ok J2_J mTS2_ok1 mTC2_ok1 mRUp_ok1 (fun _ h => absurd h List.not_mem_nil) ck_552
def cx_553pi_0 (t : List (Int × Int)) : List (Int × Int) := ui0 :: ui803 :: (0, 1) :: ui31 :: (0, 6) :: ui51 :: ui51 :: ui51 :: t
def cx_553pi_1 (t : List (Int × Int)) : List (Int × Int) := ui51 :: ui51 :: ui51 :: (0, 6) :: t
def cx_553pf_0 (t : List zFa) : List zFa := uF1995 :: uF1361 :: uF1362 :: uF2002 :: uF2003 :: uF2004 :: uF2005 :: uF2006 :: t
def cx_553pf_1 (t : List zFa) : List zFa := uF1597 :: uF1598 :: uF2007 :: uF2008 :: uF2009 :: uF1895 :: uF2088 :: (14, (true, 0, 24, []), 0, 0, 0, [(11, 1)]) :: t
def cx_553p : zS := ((cx_553pi_0 (cx_553pi_1 [])), (cx_531pr_0 (cx_531pr_1 [])), [uL766, uL9, uL2157], [], [uV2, uV11], (cx_553pf_0 (cx_553pf_1 [])), [uG2042, uG2043, uG2059, uG2060, uG2148, uG2061])
def cx_553q0i_0 (t : List (Int × Int)) : List (Int × Int) := ui0 :: ui803 :: (0, 1) :: ui31 :: (0, 6) :: ui51 :: ui51 :: ui51 :: t
def cx_553q0i_1 (t : List (Int × Int)) : List (Int × Int) := ui51 :: ui51 :: ui51 :: (1, 6) :: ui2158 :: t
def cx_553q0 : zS := ((cx_553q0i_0 (cx_553q0i_1 [])), (cx_531pr_0 (cx_531pr_1 [])), [uL766, uL9, uL2157], [], [uV201], [], [(238, [uL116, uL23, uL106, uL80, uL81, uL133, uL166, uL173, uL9, uL65, uL217])])
/-- M.spareAt -/
def cx_553 : zCtx := (251, cx_553p, [cx_553q0], [uk2038, uk2030, uk2039], 77677, 5, 108)
set_option maxRecDepth 1000000 in
theorem ck_553 : x_ok mLT1 [cx_552, cx_531] mTS2 mTC2 mRUp cx_553 [(32, [0]), (58, [1]), (63, [0])] [(2, [1000023]), (3, [1000731]), (4, [1000939]), (16, [1000679]), (17, [1000940]), (21, [1000941]), (30, [1000942]), (36, [1000945]), (57, [1000941]), (58, [1000948]), (61, [1000949]), (76, [1000950]), (77, [1000946, 1000947])] [] (39, []) 77638 42 = true := by decide +kernel
theorem sn_553 {W : Bool} {X : List Int32} : y_Snd (mGw W) mLT1 (J2 W X) X cx_553 := y_ok J2_J mTS2_ok1 mTC2_ok1 mRUp_ok1 (List.forall_mem_cons.mpr ⟨sn_552, List.forall_mem_cons.mpr ⟨sn_531, fun _ h => absurd h List.not_mem_nil⟩⟩) ck_553
def cx_554pi_0 (t : List (Int × Int)) : List (Int × Int) := ui0 :: ui808 :: (0, 1) :: ui31 :: (0, 6) :: ui51 :: ui51 :: ui51 :: t
def cx_554pi_1 (t : List (Int × Int)) : List (Int × Int) := ui51 :: ui51 :: ui51 :: (0, 6) :: t
def cx_554p : zS := ((cx_554pi_0 (cx_554pi_1 [])), (cx_531pr_0 (cx_531pr_1 [])), [uL766], [], [uV2, uV11], (cx_553pf_0 (cx_553pf_1 [])), [uG2042, uG2043, uG2059, uG2060, uG2148, uG2061])
def cx_554q0i_0 (t : List (Int × Int)) : List (Int × Int) := ui0 :: ui808 :: (0, 1) :: ui31 :: (0, 6) :: ui51 :: ui51 :: ui51 :: t
def cx_554q0i_1 (t : List (Int × Int)) : List (Int × Int) := ui51 :: ui51 :: ui51 :: (1, 6) :: ui803 :: t
def cx_554q0 : zS := ((cx_554q0i_0 (cx_554q0i_1 [])), (cx_531pr_0 (cx_531pr_1 [])), [((-1), [(11, 2), (12, (-1))]), uL766, uL2159], [], [uV201], [], [(238, [uL214, uL23, uL106, uL80, uL81, uL133, uL166, uL173, uL9, uL65, uL217])])
/-- M.breaksAt -/
def cx_554 : zCtx := (250, cx_554p, [cx_554q0, ([ui0, ui808, (0, 1), ui31, (0, 6), ui51, ui51, ui51, ui51, ui51, ui51, (0, 6)], [ur1299, ur1345, ur1346, ur1356, ur1357, ur1358, ur1359, ur1360, ur1354, ur1355, ur1347, ur1462, ur1463, ur1349, ur1858], [uL766], [], [uV63], [], [(238, [uL214, uL23, uL106, uL80, uL81, uL133, uL166, uL173, uL9, uL65, uL101])])], [uk2038, uk2030, uk2039], 78042, 6, 131)
def cz_554_0i_0 (t : List (Int × Int)) : List (Int × Int) := ui0 :: ui808 :: (0, 1) :: ui31 :: (0, 6) :: ui51 :: ui51 :: ui51 :: t
def cz_554_0i_1 (t : List (Int × Int)) : List (Int × Int) := ui51 :: ui51 :: ui51 :: (0, 6) :: ui427 :: t
def cz_554_0g_0 (t : List zTg) : List zTg := uG2042 :: uG2043 :: uG2059 :: uG2060 :: uG2148 :: uG2061 :: (238, [uL529, uL23, uL106, uL80, uL81, uL133, uL166, uL173, uL9, uL217, uL67]) :: t
def cz_554_0 : zS := ((cz_554_0i_0 (cz_554_0i_1 [])), (cx_531pr_0 (cx_531pr_1 [])), [uL766, uL2159], [uV2, uV11, uV201], [], (cx_553pf_0 (cx_553pf_1 [])), (cz_554_0g_0 []))
set_option maxRecDepth 1000000 in
theorem ck_554 : x_ok mLT1 [cx_553] mTS2 mTC2 mRUp cx_554 [(17, [0])] [(1, [1000938]), (21, [1000012]), (24, [1000951]), (26, [1000952]), (32, [1000953])] [(2, cz_554_0, (362, [(12, (-16))]))] (365, []) 77677 18 = true := by decide +kernel
theorem sn_554 {W : Bool} {X : List Int32} : y_Snd (mGw W) mLT1 (J2 W X) X cx_554 := y_ok J2_J mTS2_ok1 mTC2_ok1 mRUp_ok1 (List.forall_mem_cons.mpr ⟨sn_553, fun _ h => absurd h List.not_mem_nil⟩) ck_554
def cx_555pi_0 (t : List (Int × Int)) : List (Int × Int) := ui0 :: ui586 :: (0, 1) :: ui51 :: (0, 1) :: ui440 :: ui31 :: (0, 6) :: t
def cx_555pi_1 (t : List (Int × Int)) : List (Int × Int) := (0, 6) :: ui51 :: ui51 :: ui199 :: (0, 6) :: ui586 :: ui819 :: ui440 :: t
def cx_555pr_0 (t : List (Nat × Bool)) : List (Nat × Bool) := ur1299 :: ur1345 :: ur1346 :: ur1356 :: ur1357 :: ur1358 :: ur1359 :: ur1360 :: t
def cx_555pr_1 (t : List (Nat × Bool)) : List (Nat × Bool) := ur1354 :: ur1355 :: ur1347 :: ur1462 :: ur1463 :: ur1349 :: ur1858 :: ur1350 :: t
def cx_555pr_2 (t : List (Nat × Bool)) : List (Nat × Bool) := ur2106 :: ur1878 :: t
def cx_555pf_0 (t : List zFa) : List zFa := uF1995 :: uF2097 :: uF2098 :: uF2099 :: uF1361 :: uF1362 :: uF2002 :: uF2003 :: t
def cx_555pf_1 (t : List zFa) : List zFa := uF2004 :: uF2005 :: uF2006 :: uF1597 :: uF1598 :: uF2007 :: uF2008 :: uF2009 :: t
def cx_555pf_2 (t : List zFa) : List zFa := uF1895 :: uF2088 :: uF2144 :: (0, (false, 54, 0, []), 2, 16, 0, []) :: (0, (false, 47, 0, []), 2, 17, 0, []) :: t
def cx_555pg_0 (t : List zTg) : List zTg := uG2042 :: uG2094 :: uG1873 :: uG2145 :: uG2146 :: uG2147 :: uG2148 :: uG2149 :: t
def cx_555pg_1 (t : List zTg) : List zTg := uG2160 :: uG2161 :: uG2162 :: uG2163 :: uG2164 :: (244, [uL81, uL212, uL106, uL65, uL2123]) :: t
def cx_555p : zS := ((cx_555pi_0 (cx_555pi_1 [])), (cx_555pr_0 (cx_555pr_1 (cx_555pr_2 []))), [uL2011, uL2165, uL2124], [], [uV2, uV11], (cx_555pf_0 (cx_555pf_1 (cx_555pf_2 []))), (cx_555pg_0 (cx_555pg_1 [])))
def cx_555q0 : zS := ((cx_555pi_0 (cx_555pi_1 [])), (cx_555pr_0 (cx_555pr_1 (cx_555pr_2 []))), [], [], [uV146], [uF2125], [uG1873, uG1874, uG2094, uG2126, uG1867, uG2017, (242, [uL81, uL212, uL208, uL65])])
/-- M.haul -/
def cx_555 : zCtx := (248, cx_555p, [cx_555q0], kc_80, 78073, 7, 153)
set_option maxRecDepth 1000000 in
theorem ck_555 : x_ok mLT1 [cx_536, cx_547, cx_549, cx_554, cx_544, cx_538] mTS2 mTC2 mRUp cx_555 [(1, [0]), (5, [1]), (12, [2]), (31, [3]), (57, [4]), (61, [5])] [(4, [1000818]), (15, uN2155), (24, uN2156), (29, [1000830]), (34, [1000954]), (56, [1000023]), (57, uN2166), (71, [1000853])] [] (31, []) 78042 34 = true := by decide +kernel
theorem sn_555 {W : Bool} {X : List Int32} : y_Snd (mGw W) mLT1 (J2 W X) X cx_555 := y_ok J2_J mTS2_ok1 mTC2_ok1 mRUp_ok1 (List.forall_mem_cons.mpr ⟨sn_536, List.forall_mem_cons.mpr ⟨sn_547, List.forall_mem_cons.mpr ⟨sn_549, List.forall_mem_cons.mpr ⟨sn_554, List.forall_mem_cons.mpr ⟨sn_544, List.forall_mem_cons.mpr ⟨sn_538, fun _ h => absurd h List.not_mem_nil⟩⟩⟩⟩⟩⟩) ck_555
def cx_556pi_0 (t : List (Int × Int)) : List (Int × Int) := ui0 :: ui586 :: (0, 1) :: ui51 :: (0, 1) :: ui757 :: ui31 :: (0, 6) :: t
def cx_556pi_1 (t : List (Int × Int)) : List (Int × Int) := (0, 6) :: ui51 :: ui51 :: ui199 :: (0, 6) :: ui586 :: ui819 :: ui440 :: t
def cx_556pg_0 (t : List zTg) : List zTg := uG2042 :: uG2094 :: uG1873 :: uG2145 :: uG2146 :: uG2147 :: uG2148 :: uG2149 :: t
def cx_556pg_1 (t : List zTg) : List zTg := uG2160 :: uG2161 :: uG2162 :: uG2163 :: uG2164 :: (244, [uL81, uL212, uL609, uL67, uL754]) :: t
def cx_556p : zS := ((cx_556pi_0 (cx_556pi_1 [])), (cx_555pr_0 (cx_555pr_1 (cx_555pr_2 []))), [uL2011, uL2165, uL2132, uL2133], [], [uV2, uV11], (cx_555pf_0 (cx_555pf_1 (cx_555pf_2 []))), (cx_556pg_0 (cx_556pg_1 [])))
def cx_556q0 : zS := ((cx_556pi_0 (cx_556pi_1 [])), (cx_555pr_0 (cx_555pr_1 (cx_555pr_2 []))), [], [], [uV146], [uF2130], [uG1873, uG1874, uG2094, uG2131, uG1867, uG2017, (242, [uL81, uL212, uL608, uL65])])
/-- M.haul -/
def cx_556 : zCtx := (248, cx_556p, [cx_556q0], kc_80, 1305426, 7, 153)
set_option maxRecDepth 1000000 in
theorem ck_556 : x_ok mLT1 [cx_536, cx_547, cx_549, cx_554, cx_544, cx_541] mTS2 mTC2 mRUp cx_556 [(1, [0]), (5, [1]), (12, [2]), (31, [3]), (57, [4]), (61, [5])] [(4, [1000818]), (15, uN2155), (24, uN2156), (29, [1000830]), (34, [1000954]), (56, [1000023]), (57, uN2166), (71, [1000853])] [] (31, []) 1305395 34 = true := by decide +kernel
theorem sn_556 {W : Bool} {X : List Int32} : y_Snd (mGw W) mLT1 (J2 W X) X cx_556 := y_ok J2_J mTS2_ok1 mTC2_ok1 mRUp_ok1 (List.forall_mem_cons.mpr ⟨sn_536, List.forall_mem_cons.mpr ⟨sn_547, List.forall_mem_cons.mpr ⟨sn_549, List.forall_mem_cons.mpr ⟨sn_554, List.forall_mem_cons.mpr ⟨sn_544, List.forall_mem_cons.mpr ⟨sn_541, fun _ h => absurd h List.not_mem_nil⟩⟩⟩⟩⟩⟩) ck_556
def cx_557pi_0 (t : List (Int × Int)) : List (Int × Int) := ui0 :: ui586 :: (0, 1) :: ui51 :: (0, 1) :: ui440 :: ui31 :: (0, 6) :: t
def cx_557pi_1 (t : List (Int × Int)) : List (Int × Int) := ui51 :: ui51 :: ui199 :: (0, 6) :: ui586 :: ui440 :: t
def cx_557pg_0 (t : List zTg) : List zTg := uG2042 :: uG2094 :: uG1873 :: uG2145 :: uG2146 :: uG2147 :: uG2148 :: uG2151 :: t
def cx_557pg_1 (t : List zTg) : List zTg := uG2152 :: uG2153 :: uG2167 :: uG2168 :: uG2169 :: t
def cx_557p : zS := ((cx_557pi_0 (cx_557pi_1 [])), (cx_555pr_0 (cx_555pr_1 (cx_555pr_2 []))), [uL2011, uL2170, uL2124], [], [uV2, uV11], (cx_555pf_0 (cx_555pf_1 (cx_555pf_2 []))), (cx_557pg_0 (cx_557pg_1 [])))
def cx_557q0 : zS := ((cx_557pi_0 (cx_557pi_1 [])), (cx_555pr_0 (cx_555pr_1 (cx_555pr_2 []))), [], [], [uV841], [uF2125], [uG1873, uG1874, uG2094, uG2126, uG1867, uG1868, uG2154, uG2171])
/-- M.haul -/
def cx_557 : zCtx := (248, cx_557p, [cx_557q0], kc_80, 78077, 7, 153)
set_option maxRecDepth 1000000 in
theorem ck_557 : x_ok mLT1 [cx_536, cx_547, cx_549, cx_554, cx_538] mTS2 mTC2 mRUp cx_557 [(1, [0]), (5, [1]), (12, [2]), (31, [3]), (61, [4])] [(4, [1000818]), (15, uN2155), (24, uN2156), (29, [1000830]), (34, [1000954]), (39, uN2172), (48, [1000637]), (50, [1000960]), (71, [1000853])] [] (35, []) 78042 38 = true := by decide +kernel
theorem sn_557 {W : Bool} {X : List Int32} : y_Snd (mGw W) mLT1 (J2 W X) X cx_557 := y_ok J2_J mTS2_ok1 mTC2_ok1 mRUp_ok1 (List.forall_mem_cons.mpr ⟨sn_536, List.forall_mem_cons.mpr ⟨sn_547, List.forall_mem_cons.mpr ⟨sn_549, List.forall_mem_cons.mpr ⟨sn_554, List.forall_mem_cons.mpr ⟨sn_538, fun _ h => absurd h List.not_mem_nil⟩⟩⟩⟩⟩) ck_557
def cx_558pi_0 (t : List (Int × Int)) : List (Int × Int) := ui0 :: ui586 :: (0, 1) :: ui51 :: (0, 1) :: ui757 :: ui31 :: (0, 6) :: t
def cx_558pi_1 (t : List (Int × Int)) : List (Int × Int) := ui51 :: ui51 :: ui199 :: (0, 6) :: ui586 :: ui440 :: t
def cx_558pg_0 (t : List zTg) : List zTg := uG2042 :: uG2094 :: uG1873 :: uG2145 :: uG2146 :: uG2147 :: uG2148 :: uG2151 :: t
def cx_558pg_1 (t : List zTg) : List zTg := uG2152 :: uG2153 :: uG2167 :: uG2168 :: uG2173 :: t
def cx_558p : zS := ((cx_558pi_0 (cx_558pi_1 [])), (cx_555pr_0 (cx_555pr_1 (cx_555pr_2 []))), [uL2011, uL2170, uL2132, uL2133], [], [uV2, uV11], (cx_555pf_0 (cx_555pf_1 (cx_555pf_2 []))), (cx_558pg_0 (cx_558pg_1 [])))
def cx_558q0 : zS := ((cx_558pi_0 (cx_558pi_1 [])), (cx_555pr_0 (cx_555pr_1 (cx_555pr_2 []))), [], [], [uV841], [uF2130], [uG1873, uG1874, uG2094, uG2131, uG1867, uG1868, uG2154, uG2174])
/-- M.haul -/
def cx_558 : zCtx := (248, cx_558p, [cx_558q0], kc_80, 1305430, 7, 153)
set_option maxRecDepth 1000000 in
theorem ck_558 : x_ok mLT1 [cx_536, cx_547, cx_549, cx_554, cx_541] mTS2 mTC2 mRUp cx_558 [(1, [0]), (5, [1]), (12, [2]), (31, [3]), (61, [4])] [(4, [1000818]), (15, uN2155), (24, uN2156), (29, [1000830]), (34, [1000954]), (39, uN2172), (48, [1000637]), (50, [1000960]), (71, [1000853])] [] (35, []) 1305395 38 = true := by decide +kernel
theorem sn_558 {W : Bool} {X : List Int32} : y_Snd (mGw W) mLT1 (J2 W X) X cx_558 := y_ok J2_J mTS2_ok1 mTC2_ok1 mRUp_ok1 (List.forall_mem_cons.mpr ⟨sn_536, List.forall_mem_cons.mpr ⟨sn_547, List.forall_mem_cons.mpr ⟨sn_549, List.forall_mem_cons.mpr ⟨sn_554, List.forall_mem_cons.mpr ⟨sn_541, fun _ h => absurd h List.not_mem_nil⟩⟩⟩⟩⟩) ck_558
/-- M.isLong -/
def cx_559 : zCtx := (254, ([ui0, ui51], [], [], [], [uV11], [], []), [([ui0, ui265], [], [], [], [uV64], [], []), ([ui0, ui839], [], [], [], [uV64], [], []), ([ui0, ui1087], [], [], [], [uV66], [], [])], [], 14, 1, 22)
set_option maxRecDepth 1000000 in
theorem ck_559 : x_ok mLT1 [cx_497] mTS2 mTC2 mRUp cx_559 [(4, [0])] [] [] (5, []) 9 8 = true := by decide +kernel
theorem sn_559 {W : Bool} {X : List Int32} : y_Snd (mGw W) mLT1 (J2 W X) X cx_559 := y_ok J2_J mTS2_ok1 mTC2_ok1 mRUp_ok1 (List.forall_mem_cons.mpr ⟨sn_497, fun _ h => absurd h List.not_mem_nil⟩) ck_559
def cx_560pi_0 (t : List (Int × Int)) : List (Int × Int) := ui0 :: ui839 :: (0, 1) :: ui51 :: (0, 1) :: ui441 :: ui31 :: (0, 6) :: t
def cx_560pi_1 (t : List (Int × Int)) : List (Int × Int) := (0, 6) :: ui51 :: ui51 :: t
def cx_560pr_0 (t : List (Nat × Bool)) : List (Nat × Bool) := ur1299 :: ur1345 :: ur1346 :: ur1356 :: ur1357 :: ur1358 :: ur1359 :: ur1360 :: t
def cx_560pr_1 (t : List (Nat × Bool)) : List (Nat × Bool) := ur1354 :: ur1355 :: ur1347 :: ur1462 :: ur1463 :: ur1858 :: ur1878 :: t
def cx_560pf_0 (t : List zFa) : List zFa := uF1995 :: uF2097 :: uF2098 :: uF2099 :: uF1361 :: uF1362 :: uF2002 :: uF2003 :: t
def cx_560pf_1 (t : List zFa) : List zFa := uF2004 :: uF2005 :: uF2006 :: uF1597 :: uF1598 :: uF2007 :: uF2008 :: uF2009 :: t
def cx_560pf_2 (t : List zFa) : List zFa := uF2010 :: uF2175 :: t
def cx_560p : zS := ((cx_560pi_0 (cx_560pi_1 [])), (cx_560pr_0 (cx_560pr_1 [])), [uL2011], [], [uV2, uV11], (cx_560pf_0 (cx_560pf_1 (cx_560pf_2 []))), [uG2042, uG2094, uG1873, uG2145, uG2146, uG2147, uG2017])
/-- M.years -/
def cx_560 : zCtx := (253, cx_560p, [([ui0, ui839, (0, 1), ui51, (0, 1), ui441, ui31, (0, 6), (0, 6), ui51, ui51], [ur1299, ur1345, ur1346, ur1356, ur1357, ur1358, ur1359, ur1360, ur1354, ur1355, ur1347, ur1462, ur1463, ur1858, ur1878], [], [], [uV63], [], [uG2017])], [], 19, 2, 42)
set_option maxRecDepth 1000000 in
theorem ck_560 : x_ok mLT1 [cx_559] mTS2 mTC2 mRUp cx_560 [(1, [0])] [] [] (5, []) 14 8 = true := by decide +kernel
theorem sn_560 {W : Bool} {X : List Int32} : y_Snd (mGw W) mLT1 (J2 W X) X cx_560 := y_ok J2_J mTS2_ok1 mTC2_ok1 mRUp_ok1 (List.forall_mem_cons.mpr ⟨sn_559, fun _ h => absurd h List.not_mem_nil⟩) ck_560
def cx_561pi_0 (t : List (Int × Int)) : List (Int × Int) := ui0 :: ui265 :: (0, 1) :: ui51 :: (0, 1) :: ui441 :: ui31 :: (0, 6) :: t
def cx_561pi_1 (t : List (Int × Int)) : List (Int × Int) := (0, 6) :: ui51 :: ui51 :: t
def cx_561p : zS := ((cx_561pi_0 (cx_561pi_1 [])), (cx_560pr_0 (cx_560pr_1 [])), [uL2011], [], [uV2, uV11], (cx_560pf_0 (cx_560pf_1 (cx_560pf_2 []))), [uG2042, uG2094, uG1873, uG2145, uG2146, uG2147, uG2017])
/-- M.years -/
def cx_561 : zCtx := (253, cx_561p, [([ui0, ui265, (0, 1), ui51, (0, 1), ui441, ui31, (0, 6), (0, 6), ui51, ui51], [ur1299, ur1345, ur1346, ur1356, ur1357, ur1358, ur1359, ur1360, ur1354, ur1355, ur1347, ur1462, ur1463, ur1858, ur1878], [], [], [uV63], [], [uG2017])], [], 19, 2, 42)
set_option maxRecDepth 1000000 in
theorem ck_561 : x_ok mLT1 [cx_559] mTS2 mTC2 mRUp cx_561 [(1, [0])] [] [] (5, []) 14 8 = true := by decide +kernel
theorem sn_561 {W : Bool} {X : List Int32} : y_Snd (mGw W) mLT1 (J2 W X) X cx_561 := y_ok J2_J mTS2_ok1 mTC2_ok1 mRUp_ok1 (List.forall_mem_cons.mpr ⟨sn_559, fun _ h => absurd h List.not_mem_nil⟩) ck_561
def cx_562pi_0 (t : List (Int × Int)) : List (Int × Int) := ui0 :: (0, 0) :: (0, 1) :: ui51 :: (0, 1) :: ui441 :: ui31 :: (0, 6) :: t
def cx_562pi_1 (t : List (Int × Int)) : List (Int × Int) := (0, 6) :: ui51 :: ui51 :: t
def cx_562p : zS := ((cx_562pi_0 (cx_562pi_1 [])), (cx_560pr_0 (cx_560pr_1 [])), [uL2011], [], [uV2, uV11], (cx_560pf_0 (cx_560pf_1 (cx_560pf_2 []))), [uG2042, uG2094, uG1873, uG2145, uG2146, uG2147, uG2017])
/-- M.years -/
def cx_562 : zCtx := (253, cx_562p, [([ui0, (0, 0), (0, 1), ui51, (0, 1), ui441, ui31, (0, 6), (0, 6), ui51, ui51], [ur1299, ur1345, ur1346, ur1356, ur1357, ur1358, ur1359, ur1360, ur1354, ur1355, ur1347, ur1462, ur1463, ur1858, ur1878], [], [], [uV779], [], [uG2017])], [], 24, 2, 42)
set_option maxRecDepth 1000000 in
theorem ck_562 : x_ok mLT1 [cx_559] mTS2 mTC2 mRUp cx_562 [(1, [0])] [(20, [1000978])] [] (10, []) 14 13 = true := by decide +kernel
theorem sn_562 {W : Bool} {X : List Int32} : y_Snd (mGw W) mLT1 (J2 W X) X cx_562 := y_ok J2_J mTS2_ok1 mTC2_ok1 mRUp_ok1 (List.forall_mem_cons.mpr ⟨sn_559, fun _ h => absurd h List.not_mem_nil⟩) ck_562
/-- M.mixed -/
def cx_563 : zCtx := (259, ([ui0, ui51, ui51], [], [], [], [uV11, uV12], [], []), [([ui0, ui51, ui51, ui51], [], [], [], [uV60], [], [uG830])], [], 14, 0, 0)
set_option maxRecDepth 1000000 in
theorem ck_563 : x_ok mLT1 [] mTS2 mTC2 mRUp cx_563 [] [(2, [1000717]), (6, [1000639]), (10, [1000637]), (16, [1000421]), (17, [1000717]), (18, [1000718])] [] (14, []) 0 17 = true := by decide +kernel
theorem sn_563 {W : Bool} {X : List Int32} : y_Snd (mGw W) mLT1 (J2 W X) X cx_563 := y_ok J2_J mTS2_ok1 mTC2_ok1 mRUp_ok1 (fun _ h => absurd h List.not_mem_nil) ck_563
/-- M.lotOf -/
def cx_564 : zCtx := (258, ([ui0, ui51, ui2176], [ur1299], [], [], [uV2, uV11], [uF1860], []), [([ui0, ui51, ui2176, ui526], [ur1299], [], [], [uV60], [], [(255, [uL69, uL9, uL23])])], [], 25, 1, 22)
set_option maxRecDepth 1000000 in
theorem ck_564 : x_ok mLT1 [cx_563] mTS2 mTC2 mRUp cx_564 [(7, [0]), (11, [0])] [(15, [1000421]), (18, [1000679]), (19, [1000743])] [] (11, []) 14 14 = true := by decide +kernel
theorem sn_564 {W : Bool} {X : List Int32} : y_Snd (mGw W) mLT1 (J2 W X) X cx_564 := y_ok J2_J mTS2_ok1 mTC2_ok1 mRUp_ok1 (List.forall_mem_cons.mpr ⟨sn_563, fun _ h => absurd h List.not_mem_nil⟩) ck_564
def cx_565pi_0 (t : List (Int × Int)) : List (Int × Int) := ui0 :: (0, 5) :: (0, 1) :: ui199 :: (0, 6) :: ui51 :: ui199 :: ui51 :: t
def cx_565pi_1 (t : List (Int × Int)) : List (Int × Int) := ui51 :: ui51 :: ui51 :: t
def cx_565p : zS := ((cx_565pi_0 (cx_565pi_1 [])), [ur1299, ur1347, ur1858, ur1352], [uL766, uL9, uL565], [], [uV2, uV11], [uF1995, uF2097, uF1465, uF2024, uF1865, (0, (false, 29, 0, []), 2, 3, 0, []), (3, (true, 0, 0, [(2, 1)]), 0, 0, 0, [(6, 1)])], [uG2059, (237, [uL100, uL106, uL80, uL23, uL81, uL133, uL166, uL173])])
/-- M.isBlighted -/
def cx_565 : zCtx := (257, cx_565p, [([ui0, (0, 5), (0, 1), ui199, (0, 6), ui51, ui2023, ui51, ui51, ui51, ui51], [ur1299, ur1347, ur1858, ur1352], [uL766, uL9, uL565], [], [uV66], [], [(238, [uL649, uL106, uL80, uL23, uL81, uL133, uL166, uL173, uL9, uL65, uL67])]), ([ui0, (0, 5), (0, 1), ui199, (0, 6), ui51, ui526, ui51, ui51, ui51, ui51], [ur1299, ur1347, ur1858, ur1352], [uL766, uL9, uL565], [], [uV64], [], [(238, [uL649, uL106, uL80, uL23, uL81, uL133, uL166, uL173, uL9, uL65, uL65])])], [], 47, 2, 43)
set_option maxRecDepth 1000000 in
theorem ck_565 : x_ok mLT1 [cx_564] mTS2 mTC2 mRUp cx_565 [(20, [0])] [(17, [1000836, 1000639]), (19, [1000637]), (35, [1000988]), (39, [1000989])] [] (22, []) 25 25 = true := by decide +kernel
theorem sn_565 {W : Bool} {X : List Int32} : y_Snd (mGw W) mLT1 (J2 W X) X cx_565 := y_ok J2_J mTS2_ok1 mTC2_ok1 mRUp_ok1 (List.forall_mem_cons.mpr ⟨sn_564, fun _ h => absurd h List.not_mem_nil⟩) ck_565
def cx_566pr_0 (t : List (Nat × Bool)) : List (Nat × Bool) := ur1299 :: ur1345 :: ur1346 :: ur1356 :: ur1357 :: ur1358 :: ur1359 :: ur1360 :: t
def cx_566pr_1 (t : List (Nat × Bool)) : List (Nat × Bool) := ur1354 :: ur1355 :: ur1347 :: ur1462 :: ur1463 :: ur1858 :: ur1352 :: ur2177 :: t
def cx_566pr_2 (t : List (Nat × Bool)) : List (Nat × Bool) := ur2178 :: t
def cx_566pf_0 (t : List zFa) : List zFa := uF1859 :: uF1860 :: uF1361 :: uF1362 :: uF2002 :: uF2003 :: uF2004 :: uF2005 :: t
def cx_566pf_1 (t : List zFa) : List zFa := uF2006 :: uF1597 :: uF1598 :: uF2007 :: uF2008 :: uF2009 :: uF2010 :: uF1865 :: t
def cx_566pf_2 (t : List zFa) : List zFa := uF2179 :: uF2180 :: uF2181 :: uF2182 :: (10, (true, 0, 0, [(1, 1)]), 0, 0, 0, [(7, 1)]) :: t
def cx_566p : zS := ([ui0, (0, 1), ui199, ui31, (0, 6), ui199, ui808, (0, 6)], (cx_566pr_0 (cx_566pr_1 (cx_566pr_2 []))), [uL766], [], [uV2], (cx_566pf_0 (cx_566pf_1 (cx_566pf_2 []))), [uG2183, uG1867, uG2184, uG2185, uG2186, uG2187])
/-- M.yearGoes -/
def cx_566 : zCtx := (256, cx_566p, [([ui0, (0, 1), ui199, ui31, (0, 6), ui199, ui808, (0, 6)], [ur1299, ur1345, ur1346, ur1356, ur1357, ur1358, ur1359, ur1360, ur1354, ur1355, ur1347, ur1462, ur1463, ur1858, ur1352, ur2177, ur2178], [uL766], [], [], [uF2180], [uG1867, (237, [uL100, uL23, uL106, uL69, uL36, (1, [(6, 1)]), uL65, uL100])])], [uk2038, uk2030, uk2039, uk1871, uk2188, uk2189], 78112, 4, 84)
def cq_566 : List zCtx := [cx_517, cx_520, cx_565, cx_516, cx_507]
def cs_566 : List (Nat × List Nat) := [(22, [0]), (33, [1]), (65, [2]), (98, [3]), (104, [4]), (137, [3])]
def hs_566 : List (Nat × List Nat) := [(1, [1000982]), (15, [1000463]), (37, [1000983]), (43, [1000462]), (58, [1000463]), (62, [1000984, 1000832, 1000985, 1000986, 1000987]), (78, [1000023]), (79, [1000965, 1000996]), (101, [1000990, 1000991]), (140, [1000994, 1000995]), (141, [1000992, 1000993]), (147, [1000462, 1000836, 1000997]), (156, [1000637]), (158, [1000998])]
def nd_566_0pi_0 (t : List (Int × Int)) : List (Int × Int) := ui0 :: (0, 1) :: ui199 :: ui31 :: (0, 6) :: ui199 :: ui808 :: (0, 6) :: t
def nd_566_0pi_1 (t : List (Int × Int)) : List (Int × Int) := (0, 6) :: t
def nd_566_0pf_0 (t : List zFa) : List zFa := uF1859 :: uF1860 :: uF1361 :: uF1362 :: uF2002 :: uF2003 :: uF2004 :: uF2005 :: t
def nd_566_0pf_1 (t : List zFa) : List zFa := uF2006 :: uF1597 :: uF1598 :: uF2007 :: uF2008 :: uF2009 :: uF2010 :: uF1865 :: t
def nd_566_0pf_2 (t : List zFa) : List zFa := uF2179 :: uF2180 :: uF2181 :: uF2182 :: t
def nd_566_0pg_0 (t : List zTg) : List zTg := uG2183 :: uG1867 :: uG2184 :: uG2185 :: uG2186 :: uG2187 :: (266, [uL23, uL106, uL69, uL36, uL80, uL65, uL100, uL133]) :: t
def nd_566_0p : zS := ((nd_566_0pi_0 (nd_566_0pi_1 [])), (cx_566pr_0 (cx_566pr_1 (cx_566pr_2 []))), [uL766, uL2190], [uV2, uV146], [], (nd_566_0pf_0 (nd_566_0pf_1 (nd_566_0pf_2 []))), (nd_566_0pg_0 []))
def nd_566_0 : zN := (2, nd_566_0p, (494, [(8, (-24))]))
def nd_566_1pg_0 (t : List zTg) : List zTg := uG2183 :: uG1867 :: uG2184 :: uG2185 :: uG2186 :: (266, [uL23, uL106, uL69, uL36, uL80, uL65, uL100, uL100]) :: (237, [uL100, uL23, uL106, uL69, uL36, uL80, uL133, uL100]) :: t
def nd_566_1p : zS := ((nd_566_0pi_0 (nd_566_0pi_1 [])), (cx_566pr_0 (cx_566pr_1 (cx_566pr_2 []))), [uL766, uL2190], [uV2, uV146], [], (nd_566_0pf_0 (nd_566_0pf_1 (nd_566_0pf_2 []))), (nd_566_1pg_0 []))
def nd_566_1 : zN := (45, nd_566_1p, (340, [(8, (-54))]))
def ns_566 : List zN := [nd_566_0, nd_566_1]
set_option maxRecDepth 1000000 in
theorem ca_566 : x_okA mLT1 cq_566 mTS2 mTC2 mRUp cx_566 cs_566 hs_566 ns_566 (497, []) 77615 56 = true := by decide +kernel
set_option maxRecDepth 1000000 in
theorem cb_566_0 : x_okB mLT1 cq_566 mTS2 mTC2 mRUp cx_566 cs_566 hs_566 ns_566 (497, []) 77615 56 nd_566_0 = true := by decide +kernel
set_option maxRecDepth 1000000 in
theorem cb_566_1 : x_okB mLT1 cq_566 mTS2 mTC2 mRUp cx_566 cs_566 hs_566 ns_566 (497, []) 77615 56 nd_566_1 = true := by decide +kernel
set_option maxRecDepth 1000000 in
theorem cc_566 : x_okC mLT1 cq_566 mTS2 mTC2 mRUp cx_566 cs_566 hs_566 ns_566 (497, []) 77615 56 = true := by decide +kernel
theorem ck_566 : x_ok mLT1 cq_566 mTS2 mTC2 mRUp cx_566 cs_566 hs_566 ns_566 (497, []) 77615 56 = true := x_ok_of ca_566 (List.forall_mem_cons.mpr ⟨cb_566_0, List.forall_mem_cons.mpr ⟨cb_566_1, fun _ h => absurd h List.not_mem_nil⟩⟩) cc_566
theorem sn_566 {W : Bool} {X : List Int32} : y_Snd (mGw W) mLT1 (J2 W X) X cx_566 := y_ok J2_J mTS2_ok1 mTC2_ok1 mRUp_ok1 (List.forall_mem_cons.mpr ⟨sn_517, List.forall_mem_cons.mpr ⟨sn_520, List.forall_mem_cons.mpr ⟨sn_565, List.forall_mem_cons.mpr ⟨sn_516, List.forall_mem_cons.mpr ⟨sn_507, fun _ h => absurd h List.not_mem_nil⟩⟩⟩⟩⟩) ck_566
def cx_567pf_0 (t : List zFa) : List zFa := uF1995 :: uF2097 :: uF1361 :: uF1362 :: uF2002 :: uF2003 :: uF2004 :: uF2005 :: t
def cx_567pf_1 (t : List zFa) : List zFa := uF2006 :: uF1597 :: uF1598 :: uF2007 :: uF2008 :: uF2009 :: uF2010 :: uF1865 :: t
def cx_567pf_2 (t : List zFa) : List zFa := uF2179 :: uF2191 :: uF2181 :: uF2182 :: (10, (true, 0, 0, [(2, 1)]), 0, 0, 0, [(7, 1)]) :: t
def cx_567p : zS := ([ui0, ui844, (0, 1), ui199, ui31, (0, 6), ui199, (0, 6)], (cx_566pr_0 (cx_566pr_1 (cx_566pr_2 []))), [uL578, uL9], [], [uV2, uV11], (cx_567pf_0 (cx_567pf_1 (cx_567pf_2 []))), [uG2042, uG1867, uG2192, uG2193, uG2194, (237, [uL106, uL100, uL80, uL23, uL36, uL65, uL65, uL106])])
/-- M.goes -/
def cx_567 : zCtx := (255, cx_567p, [([ui0, ui844, (0, 1), ui199, ui31, (0, 6), ui199, (0, 6)], [ur1299, ur1345, ur1346, ur1356, ur1357, ur1358, ur1359, ur1360, ur1354, ur1355, ur1347, ur1462, ur1463, ur1858, ur1352, ur2177, ur2178], [uL578, uL9], [], [], [uF2191], [uG1867, (237, [uL106, uL100, uL80, uL23, uL36, uL9, uL65, uL106])])], [uk2038, uk2030, uk2039, uk1871, uk2188, uk2189], 78623, 5, 105)
def cz_567_0i_0 (t : List (Int × Int)) : List (Int × Int) := ui0 :: ui844 :: (0, 1) :: ui199 :: ui31 :: (0, 6) :: ui199 :: (0, 6) :: t
def cz_567_0i_1 (t : List (Int × Int)) : List (Int × Int) := ui845 :: t
def cz_567_0f_0 (t : List zFa) : List zFa := uF1995 :: uF2097 :: uF1361 :: uF1362 :: uF2002 :: uF2003 :: uF2004 :: uF2005 :: t
def cz_567_0f_1 (t : List zFa) : List zFa := uF2006 :: uF1597 :: uF1598 :: uF2007 :: uF2008 :: uF2009 :: uF2010 :: uF1865 :: t
def cz_567_0f_2 (t : List zFa) : List zFa := uF2179 :: uF2191 :: uF2181 :: uF2182 :: t
def cz_567_0 : zS := ((cz_567_0i_0 (cz_567_0i_1 [])), (cx_566pr_0 (cx_566pr_1 (cx_566pr_2 []))), [uL578, uL9, (0, [(1, 1), (8, (-1))])], [uV2, uV11, uV146], [], (cz_567_0f_0 (cz_567_0f_1 (cz_567_0f_2 []))), [uG2042, uG1867, uG2192, uG2193, uG2194, (237, [uL106, uL100, uL80, uL23, uL36, uL133, uL65, uL106])])
set_option maxRecDepth 1000000 in
theorem ck_567 : x_ok mLT1 [cx_566] mTS2 mTC2 mRUp cx_567 [(8, [0])] [] [(2, cz_567_0, (508, [(8, (-8))]))] (511, []) 78112 10 = true := by decide +kernel
theorem sn_567 {W : Bool} {X : List Int32} : y_Snd (mGw W) mLT1 (J2 W X) X cx_567 := y_ok J2_J mTS2_ok1 mTC2_ok1 mRUp_ok1 (List.forall_mem_cons.mpr ⟨sn_566, fun _ h => absurd h List.not_mem_nil⟩) ck_567
def cx_568pi_0 (t : List (Int × Int)) : List (Int × Int) := ui0 :: ui844 :: (0, 1) :: ui51 :: (0, 1) :: ui440 :: ui31 :: (0, 6) :: t
def cx_568pi_1 (t : List (Int × Int)) : List (Int × Int) := (0, 6) :: ui51 :: ui51 :: ui199 :: ui199 :: ui440 :: (0, 6) :: t
def cx_568pr_0 (t : List (Nat × Bool)) : List (Nat × Bool) := ur1299 :: ur1345 :: ur1346 :: ur1356 :: ur1357 :: ur1358 :: ur1359 :: ur1360 :: t
def cx_568pr_1 (t : List (Nat × Bool)) : List (Nat × Bool) := ur1354 :: ur1355 :: ur1347 :: ur1462 :: ur1463 :: ur1858 :: ur1878 :: ur1352 :: t
def cx_568pr_2 (t : List (Nat × Bool)) : List (Nat × Bool) := ur1353 :: ur2106 :: ur2177 :: ur2178 :: t
def cx_568pf_0 (t : List zFa) : List zFa := uF1995 :: uF2097 :: uF2098 :: uF2099 :: uF1361 :: uF1362 :: uF2002 :: uF2003 :: t
def cx_568pf_1 (t : List zFa) : List zFa := uF2004 :: uF2005 :: uF2006 :: uF1597 :: uF1598 :: uF2007 :: uF2008 :: uF2009 :: t
def cx_568pf_2 (t : List zFa) : List zFa := uF2010 :: uF2175 :: (0, (false, 29, 0, []), 2, 15, 0, []) :: (0, (false, 30, 0, []), 2, 16, 0, []) :: (0, (false, 54, 0, []), 2, 17, 0, []) :: (0, (false, 51, 0, []), 2, 18, 0, []) :: (0, (false, 52, 0, []), 2, 19, 0, []) :: (10, (true, 0, 0, [(2, 1)]), 0, 0, 0, [(14, 1)]) :: t
def cx_568pg_0 (t : List zTg) : List zTg := uG2042 :: uG2094 :: uG1873 :: uG2145 :: uG2146 :: uG2147 :: uG2195 :: uG2196 :: t
def cx_568pg_1 (t : List zTg) : List zTg := uG2197 :: uG2169 :: t
def cx_568p : zS := ((cx_568pi_0 (cx_568pi_1 [])), (cx_568pr_0 (cx_568pr_1 (cx_568pr_2 []))), [uL2011, uL2124], [], [uV2, uV11], (cx_568pf_0 (cx_568pf_1 (cx_568pf_2 []))), (cx_568pg_0 (cx_568pg_1 [])))
def cx_568q0 : zS := ((cx_568pi_0 (cx_568pi_1 [])), (cx_568pr_0 (cx_568pr_1 (cx_568pr_2 []))), [], [], [uV779], [uF2125], [uG1873, uG1874, uG2094, uG2126, uG1867, uG2017, uG2171])
/-- M.years -/
def cx_568 : zCtx := (253, cx_568p, [cx_568q0], kc_81, 78640, 6, 127)
set_option maxRecDepth 1000000 in
theorem ck_568 : x_ok mLT1 [cx_559, cx_536, cx_567, cx_538] mTS2 mTC2 mRUp cx_568 [(1, [0]), (22, [1]), (27, [2]), (31, [3])] [(25, uN2198), (41, [1000978])] [] (17, []) 78623 20 = true := by decide +kernel
theorem sn_568 {W : Bool} {X : List Int32} : y_Snd (mGw W) mLT1 (J2 W X) X cx_568 := y_ok J2_J mTS2_ok1 mTC2_ok1 mRUp_ok1 (List.forall_mem_cons.mpr ⟨sn_559, List.forall_mem_cons.mpr ⟨sn_536, List.forall_mem_cons.mpr ⟨sn_567, List.forall_mem_cons.mpr ⟨sn_538, fun _ h => absurd h List.not_mem_nil⟩⟩⟩⟩) ck_568
def cx_569pi_0 (t : List (Int × Int)) : List (Int × Int) := ui0 :: ui844 :: (0, 1) :: ui51 :: (0, 1) :: ui757 :: ui31 :: (0, 6) :: t
def cx_569pi_1 (t : List (Int × Int)) : List (Int × Int) := (0, 6) :: ui51 :: ui51 :: ui199 :: ui199 :: ui440 :: (0, 6) :: t
def cx_569pg_0 (t : List zTg) : List zTg := uG2042 :: uG2094 :: uG1873 :: uG2145 :: uG2146 :: uG2147 :: uG2195 :: uG2196 :: t
def cx_569pg_1 (t : List zTg) : List zTg := uG2197 :: uG2173 :: t
def cx_569p : zS := ((cx_569pi_0 (cx_569pi_1 [])), (cx_568pr_0 (cx_568pr_1 (cx_568pr_2 []))), [uL2011, uL2132, uL2133], [], [uV2, uV11], (cx_568pf_0 (cx_568pf_1 (cx_568pf_2 []))), (cx_569pg_0 (cx_569pg_1 [])))
def cx_569q0 : zS := ((cx_569pi_0 (cx_569pi_1 [])), (cx_568pr_0 (cx_568pr_1 (cx_568pr_2 []))), [], [], [uV779], [uF2130], [uG1873, uG1874, uG2094, uG2131, uG1867, uG2017, uG2174])
/-- M.years -/
def cx_569 : zCtx := (253, cx_569p, [cx_569q0], kc_81, 1305412, 6, 127)
set_option maxRecDepth 1000000 in
theorem ck_569 : x_ok mLT1 [cx_559, cx_536, cx_567, cx_541] mTS2 mTC2 mRUp cx_569 [(1, [0]), (22, [1]), (27, [2]), (31, [3])] [(25, uN2198), (41, [1000978])] [] (17, []) 1305395 20 = true := by decide +kernel
theorem sn_569 {W : Bool} {X : List Int32} : y_Snd (mGw W) mLT1 (J2 W X) X cx_569 := y_ok J2_J mTS2_ok1 mTC2_ok1 mRUp_ok1 (List.forall_mem_cons.mpr ⟨sn_559, List.forall_mem_cons.mpr ⟨sn_536, List.forall_mem_cons.mpr ⟨sn_567, List.forall_mem_cons.mpr ⟨sn_541, fun _ h => absurd h List.not_mem_nil⟩⟩⟩⟩) ck_569
/-- M.undo -/
def cx_570 : zCtx := (260, ([ui0, (0, 0), (0, 6), (0, 6), ui51, ui51], [ur1299, ur1878, ur2106], [uL2199], [], [uV2], [uF2107, uF2108, uF2200], [uG2094, uG1873, uG792]), [([ui0, (0, 0), (0, 6), (0, 6), ui51, ui51], [ur1299, ur1878, ur2106], [uL2199], [], [uV64], [], [uG792])], [], 5, 0, 0)
set_option maxRecDepth 1000000 in
theorem ck_570 : x_ok mLT1 [] mTS2 mTC2 mRUp cx_570 [] [] [] (5, []) 0 8 = true := by decide +kernel
theorem sn_570 {W : Bool} {X : List Int32} : y_Snd (mGw W) mLT1 (J2 W X) X cx_570 := y_ok J2_J mTS2_ok1 mTC2_ok1 mRUp_ok1 (fun _ h => absurd h List.not_mem_nil) ck_570
/-- M.undo -/
def cx_571 : zCtx := (260, ([ui0, ui1048, (0, 6), (0, 6), ui51, ui51], [ur1299, ur1878, ur2106], [uL162], [], [uV2], [uF2107, uF2108, uF2200], [uG2094, uG1873, (245, [uL69, uL23, uL100, uL106, uL162])]), [([ui0, ui1048, (0, 6), (0, 6), ui51, ui51], [ur1299, ur1878, ur2106], [], [], [uV66], [(0, (false, 53, 0, []), 0, 0, (-1), [(1, 1)])], [uG1873, uG1874, uG792])], [uk2110, uk1875], 610, 0, 0)
def cq_571 : List zCtx := []
def cs_571 : List (Nat × List Nat) := []
def hs_571 : List (Nat × List Nat) := [(9, [17]), (53, [1554, 1000706])]
def ns_571 : List zN := []
set_option maxRecDepth 1000000 in
theorem ca_571 : x_okA mLT1 cq_571 mTS2 mTC2 mRUp cx_571 cs_571 hs_571 ns_571 (610, []) 0 613 = true := by decide +kernel
set_option maxRecDepth 1000000 in
theorem cc_571 : x_okC mLT1 cq_571 mTS2 mTC2 mRUp cx_571 cs_571 hs_571 ns_571 (610, []) 0 613 = true := by decide +kernel
theorem ck_571 : x_ok mLT1 cq_571 mTS2 mTC2 mRUp cx_571 cs_571 hs_571 ns_571 (610, []) 0 613 = true := x_ok_of ca_571 (fun _ h => absurd h List.not_mem_nil) cc_571
theorem sn_571 {W : Bool} {X : List Int32} : y_Snd (mGw W) mLT1 (J2 W X) X cx_571 := y_ok J2_J mTS2_ok1 mTC2_ok1 mRUp_ok1 (fun _ h => absurd h List.not_mem_nil) ck_571
end
