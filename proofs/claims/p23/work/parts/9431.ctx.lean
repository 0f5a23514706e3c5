noncomputable section
/-! ===== readings, by program, checked by the kernel ===== -/
/-- M.nextFrom -/
def cx_665 : zCtx := (275, ([ui0, (0, 5)], [ur1414, ur2343], [], [], [uV2, uV389], [uF2380, uF2350], []), [([ui0, (0, 5)], [ur1414, ur2343], [], [], [uV389], [], [uG2383]), ([ui0, (0, 5)], [ur1414, ur2343], [], [], [uV385], [], [uG2384]), ([ui0, (0, 5)], [ur1414, ur2343], [], [], [uV381], [], [uG2385]), ([ui0, (0, 5)], [ur1414, ur2343], [], [], [uV3], [], [uG2386]), ([ui0, (0, 5)], [ur1414, ur2343], [], [], [uV61], [], [])], [], 150, 1, 22)
set_option maxRecDepth 1000000 in
theorem ck_665 : x_ok mLT1 [cx_659, cx_660, cx_661, cx_662] mTS2 mTC2 mRUp cx_665 [(19, [0, 1, 2, 3])] [] [] (63, []) 87 66 = true := by decide +kernel
theorem sn_665 {W : Bool} {X : List Int32} : y_Snd (mGw W) mLT1 (J2 W X) X cx_665 := y_ok J2_J mTS2_ok1 mTC2_ok1 mRUp_ok1 (List.forall_mem_cons.mpr ⟨sn_659, List.forall_mem_cons.mpr ⟨sn_660, List.forall_mem_cons.mpr ⟨sn_661, List.forall_mem_cons.mpr ⟨sn_662, fun _ h => absurd h List.not_mem_nil⟩⟩⟩⟩) ck_665
/-- M.nextFrom -/
def cx_666 : zCtx := (275, ([ui0, (0, 5)], [ur1414, ur2343], [], [], [uV2, uV385], [uF2380, uF2350], []), [([ui0, (0, 5)], [ur1414, ur2343], [], [], [uV385], [], [uG2384]), ([ui0, (1, 5)], [ur1414, ur2343], [], [], [uV381], [], [uG2385]), ([ui0, (1, 5)], [ur1414, ur2343], [], [], [uV3], [], [uG2386]), ([ui0, (1, 5)], [ur1414, ur2343], [], [], [uV61], [], []), ([ui0, (0, 5)], [ur1414, ur2343], [], [], [uV381], [], [uG2385]), ([ui0, (0, 5)], [ur1414, ur2343], [], [], [uV3], [], [uG2386]), ([ui0, (0, 5)], [ur1414, ur2343], [], [], [uV61], [], [])], [], 136, 1, 22)
set_option maxRecDepth 1000000 in
theorem ck_666 : x_ok mLT1 [cx_660, cx_661, cx_662] mTS2 mTC2 mRUp cx_666 [(19, [0, 1, 2])] [] [] (49, []) 87 52 = true := by decide +kernel
theorem sn_666 {W : Bool} {X : List Int32} : y_Snd (mGw W) mLT1 (J2 W X) X cx_666 := y_ok J2_J mTS2_ok1 mTC2_ok1 mRUp_ok1 (List.forall_mem_cons.mpr ⟨sn_660, List.forall_mem_cons.mpr ⟨sn_661, List.forall_mem_cons.mpr ⟨sn_662, fun _ h => absurd h List.not_mem_nil⟩⟩⟩) ck_666
/-- M.nextFrom -/
def cx_667 : zCtx := (275, ([ui0, (0, 5)], [ur1414, ur2343], [], [], [uV2, uV381], [uF2380, uF2350], []), [([ui0, (0, 5)], [ur1414, ur2343], [], [], [uV381], [], [uG2385]), ([ui0, (1, 5)], [ur1414, ur2343], [], [], [uV3], [], [uG2386]), ([ui0, (1, 5)], [ur1414, ur2343], [], [], [uV61], [], []), ([ui0, (0, 5)], [ur1414, ur2343], [], [], [uV3], [], [uG2386]), ([ui0, (0, 5)], [ur1414, ur2343], [], [], [uV61], [], [])], [], 122, 1, 22)
set_option maxRecDepth 1000000 in
theorem ck_667 : x_ok mLT1 [cx_661, cx_662] mTS2 mTC2 mRUp cx_667 [(19, [0, 1])] [] [] (35, []) 87 38 = true := by decide +kernel
theorem sn_667 {W : Bool} {X : List Int32} : y_Snd (mGw W) mLT1 (J2 W X) X cx_667 := y_ok J2_J mTS2_ok1 mTC2_ok1 mRUp_ok1 (List.forall_mem_cons.mpr ⟨sn_661, List.forall_mem_cons.mpr ⟨sn_662, fun _ h => absurd h List.not_mem_nil⟩⟩) ck_667
/-- M.nextFrom -/
def cx_668 : zCtx := (275, ([ui0, (0, 5)], [ur1414, ur2343], [], [], [uV2, uV3], [uF2380, uF2350], []), [([ui0, (0, 5)], [ur1414, ur2343], [], [], [uV3], [], [uG2386]), ([ui0, (1, 5)], [ur1414, ur2343], [], [], [uV61], [], []), ([ui0, (0, 5)], [ur1414, ur2343], [], [], [uV61], [], [])], [], 108, 1, 22)
set_option maxRecDepth 1000000 in
theorem ck_668 : x_ok mLT1 [cx_662] mTS2 mTC2 mRUp cx_668 [(19, [0])] [] [] (21, []) 87 24 = true := by decide +kernel
theorem sn_668 {W : Bool} {X : List Int32} : y_Snd (mGw W) mLT1 (J2 W X) X cx_668 := y_ok J2_J mTS2_ok1 mTC2_ok1 mRUp_ok1 (List.forall_mem_cons.mpr ⟨sn_662, fun _ h => absurd h List.not_mem_nil⟩) ck_668
/-- M.nextFrom -/
def cx_669 : zCtx := (275, ([ui0, (0, 5)], [ur1414, ur2343], [], [], [uV2, uV315], [uF2380, uF2350], []), [([ui0, (0, 5)], [ur1414, ur2343], [], [], [uV61], [], [])], [], 7, 0, 0)
set_option maxRecDepth 1000000 in
theorem ck_669 : x_ok mLT1 [] mTS2 mTC2 mRUp cx_669 [] [] [] (7, []) 0 10 = true := by decide +kernel
theorem sn_669 {W : Bool} {X : List Int32} : y_Snd (mGw W) mLT1 (J2 W X) X cx_669 := y_ok J2_J mTS2_ok1 mTC2_ok1 mRUp_ok1 (fun _ h => absurd h List.not_mem_nil) ck_669
/-- M.goesToNext -/
def cx_670 : zCtx := (274, ([ui0, (0, 6), ui2390], [ur1414, ur2343], [], [], [uV2], [uF2380, uF2350], [uG2392]), [([ui0, (0, 6), ui2394, (1, 6), ui2390], [ur1414, ur2343], [((-1000), [(2, (-1000)), (4, 1000)])], [], [uV64], [uF2427], [(8, [uL23, uL63, uL98])]), ([ui0, (0, 6), ui2390, (0, 0)], [ur1414, ur2343], [], [], [uV62], [uF2427], [])], [uk2396, uk2397], 338, 2, 44)
set_option maxRecDepth 1000000 in
theorem ck_670 : x_ok mLT1 [cx_663, cx_664, cx_665, cx_666, cx_667, cx_668, cx_669] mTS2 mTC2 mRUp cx_670 [(2, [0]), (39, [1, 2, 3, 4, 5, 6])] [(39, [30, 1]), (52, [32]), (62, [31])] [(6, ([(0, 3072), (0, 6), (0, 1000000), (0, 6), (0, 6)], [(12, false), (87, false)], [], [(2, 0, 0, []), (0, 0, (-1), [])], [], [(0, (false, 61, 0, []), 0, 0, 0, [(3, 1)]), (0, (false, 60, 0, []), 2, 1, 0, [])], [(8, [(0, [(3, 1)]), (0, [(4, 1)]), (0, [(2, 1)])])]), (17, [(3, 23)]))] (160, []) 178 43 = true := by decide +kernel
theorem sn_670 {W : Bool} {X : List Int32} : y_Snd (mGw W) mLT1 (J2 W X) X cx_670 := y_ok J2_J mTS2_ok1 mTC2_ok1 mRUp_ok1 (List.forall_mem_cons.mpr ⟨sn_663, List.forall_mem_cons.mpr ⟨sn_664, List.forall_mem_cons.mpr ⟨sn_665, List.forall_mem_cons.mpr ⟨sn_666, List.forall_mem_cons.mpr ⟨sn_667, List.forall_mem_cons.mpr ⟨sn_668, List.forall_mem_cons.mpr ⟨sn_669, fun _ h => absurd h List.not_mem_nil⟩⟩⟩⟩⟩⟩⟩) ck_670
/-- M.orderSpare -/
def cx_671 : zCtx := (277, ([ui0, (0, 1), (1, 6)], [ur1414], [], [], [uV2], [uF1964, uF2403], []), [([ui0, (0, 1), (1, 6)], [ur1414], [], [], [uV61], [], []), ([ui0, (0, 1), (1, 6), ui511], [ur1414], [], [], [uV58], [], [])], [], 426, 0, 0)
set_option maxRecDepth 1000000 in
theorem ck_671 : x_ok mLT1 [] mTS2 mTC2 mRUp cx_671 [] [] [(13, ([(0, 3072), (0, 1), (1, 6), ((-2147483648), 2147483647), ((-2147483648), 2147483647), ((-1), 5)], [(12, false)], [], [(2, 0, 0, []), (0, 0, 0, [(3, 1)]), (0, 0, 0, [(4, 1)]), (0, 0, 0, [(5, 1)]), (5, 0, 0, [])], [], [(0, (false, 18, 0, []), 0, 0, 0, [(1, 1)]), (0, (false, 61, 0, []), 0, 0, 0, [(2, 1)])], []), (81, [(5, 67)]))] (426, []) 0 69 = true := by decide +kernel
theorem sn_671 {W : Bool} {X : List Int32} : y_Snd (mGw W) mLT1 (J2 W X) X cx_671 := y_ok J2_J mTS2_ok1 mTC2_ok1 mRUp_ok1 (fun _ h => absurd h List.not_mem_nil) ck_671
/-- M.fewestOf -/
def cx_672 : zCtx := (281, ([ui0, ui586, (0, 1), (0, 6)], [ur1414, ur2343], [], [], [uV2, uV11], [uF2098, uF2427, uF2350], []), [([ui0, ui586, (0, 1), (0, 6), ((-2), 6), (0, 0)], [ur1414, ur2343], [], [], [uV97], [uF2349], [])], [uk2396, uk2397, (88, true, 0)], 1000000437, 3, 65)
set_option maxRecDepth 1000000 in
theorem ck_672 : x_ok mLT1 [cx_670, cx_671] mTS2 mTC2 mRUp cx_672 [(9, [0]), (28, [1])] [(5, [29])] [(8, ([(0, 3072), (0, 999), (0, 1), (0, 6), ((-2), 6), (0, 6), (0, 1000000)], [(12, false), (87, false)], [], [(2, 0, 0, []), (0, 0, 0, [(1, 1)]), (0, 0, 0, [(4, 1)]), (5, 0, 0, [])], [], [(0, (false, 61, 0, []), 0, 0, 0, [(5, 1)]), (0, (false, 18, 0, []), 0, 0, 0, [(2, 1)]), (0, (false, 60, 0, []), 2, 1, 0, [])], [(8, [(0, [(5, 1)]), (0, []), (0, [(6, 1)])])]), (1000000005, [(6, (-1000))])), (45, ([(0, 3072), (0, 999), (0, 1), (0, 6), (1, 6), (0, 6), (0, 1000000)], [(12, false), (87, false)], [], [(2, 0, 0, []), (0, 0, 0, [(1, 1)]), (0, 0, 0, [(4, 1)]), (0, 0, 0, [(5, 1)])], [], [(0, (false, 61, 0, []), 0, 0, 0, [(4, 1)]), (0, (false, 18, 0, []), 0, 0, 0, [(2, 1)]), (0, (false, 60, 0, []), 2, 1, 0, [])], [(8, [(0, [(4, 1)]), (0, []), (0, [(6, 1)])])]), (1000000094, [(5, (-14)), (6, (-1000))]))] (1000000011, []) 426 21 = true := by decide +kernel
theorem sn_672 {W : Bool} {X : List Int32} : y_Snd (mGw W) mLT1 (J2 W X) X cx_672 := y_ok J2_J mTS2_ok1 mTC2_ok1 mRUp_ok1 (List.forall_mem_cons.mpr ⟨sn_670, List.forall_mem_cons.mpr ⟨sn_671, fun _ h => absurd h List.not_mem_nil⟩⟩) ck_672
def cx_673pf_0 (t : List zFa) : List zFa := uF2102 :: uF2103 :: uF2104 :: uF2428 :: uF1477 :: uF1478 :: uF2105 :: uF2106 :: t
def cx_673pf_1 (t : List zFa) : List zFa := uF2107 :: uF2108 :: uF2109 :: uF1708 :: uF1709 :: t
def cx_673p : zS := ([ui0, ui49, ui49, (0, 1), ui49, (0, 1), (0, 6), ui31], (cx_609pr_0 (cx_609pr_1 [])), [], [], [uV2, uV11, uV12], (cx_673pf_0 (cx_673pf_1 [])), [uG2115, uG2429])
/-- M.fewest -/
def cx_673 : zCtx := (280, cx_673p, [([ui0, ui586, ui1212, (0, 1), ui49, (0, 1), (0, 6), ui31], [ur1414, ur1461, ur1462, ur1472, ur1473, ur1474, ur1475, ur1476, ur1470, ur1471], [], [], [uV61], [uF2103, uF2104, uF2428], []), ([ui0, ui586, ui124, (0, 1), ui49, (0, 1), (0, 6), ui31, (0, 6), (0, 0), ui196], [ur1414, ur1461, ur1462, ur1472, ur1473, ur1474, ur1475, ur1476, ur1470, ur1471], [], [], [uV144], [uF2430, uF1970, uF2431], [uG1977, uG1973]), ([ui0, ui586, (0, 5), (0, 1), ui49, (0, 1), (0, 6), ui31, (0, 5), (0, 0), ui196], [ur1414, ur1461, ur1462, ur1472, ur1473, ur1474, ur1475, ur1476, ur1470, ur1471], [], [], [uV144], [uF2430, uF1970, uF2431], [uG1977, uG1973]), ([ui0, ui586, ui511, (0, 1), ui49, (0, 1), (0, 6), ui31, (0, 0), ui196], [ur1414, ur1461, ur1462, ur1472, ur1473, ur1474, ur1475, ur1476, ur1470, ur1471], [], [], [uV61], [uF2432, uF1970, uF2342], [uG1977, uG1973]), ([ui0, ui586, ui2433, (0, 1), ui49, (0, 1), (0, 6), ui31, ((-2), (-1)), (0, 0), ui196], [ur1414, ur1461, ur1462, ur1472, ur1473, ur1474, ur1475, ur1476, ur1470, ur1471], [], [], [uV144], [uF2430, uF1970, uF2431], [uG1977, uG1973]), ([ui0, ui802, ui49, (0, 1), ui49, (0, 1), (0, 6), ui31], [ur1414, ur1461, ur1462, ur1472, ur1473, ur1474, ur1475, ur1476, ur1470, ur1471], [], [], [uV61], [uF2103, uF2104, uF2428], []), ([ui0, ui262, ui49, (0, 1), ui49, (0, 1), (0, 6), ui31], [ur1414, ur1461, ur1462, ur1472, ur1473, ur1474, ur1475, ur1476, ur1470, ur1471], [], [], [uV61], [uF2103, uF2104, uF2428], [])], kc_85, 1000000465, 6, 129)
set_option maxRecDepth 1000000 in
theorem ck_673 : x_ok mLT1 [cx_567, cx_521, cx_656, cx_672] mTS2 mTC2 mRUp cx_673 [(1, [0]), (15, [1]), (19, [2]), (24, [3])] [] [] (28, []) 1000000437 31 = true := by decide +kernel
theorem sn_673 {W : Bool} {X : List Int32} : y_Snd (mGw W) mLT1 (J2 W X) X cx_673 := y_ok J2_J mTS2_ok1 mTC2_ok1 mRUp_ok1 (List.forall_mem_cons.mpr ⟨sn_567, List.forall_mem_cons.mpr ⟨sn_521, List.forall_mem_cons.mpr ⟨sn_656, List.forall_mem_cons.mpr ⟨sn_672, fun _ h => absurd h List.not_mem_nil⟩⟩⟩⟩) ck_673
/-- M.needed -/
def cx_674 : zCtx := (282, cx_632p, [([ui0, ui802, (0, 1), ui49, (0, 1), (0, 6), ui31, (0, 6), (0, 6), ui49, ui49, ui196, (0, 6)], [ur1414, ur2343, ur1461, ur1462, ur1472, ur1473, ur1474, ur1475, ur1476, ur1470, ur1471, ur1463, ur1575, ur1576, ur1465, ur1963, ur1466, ur2344, ur2345, ur2346, ur2347, ur2348], [], [], [uV61], [], [uG2120])], [], 19, 2, 42)
set_option maxRecDepth 1000000 in
theorem ck_674 : x_ok mLT1 [cx_567] mTS2 mTC2 mRUp cx_674 [(1, [0])] [] [] (5, []) 14 8 = true := by decide +kernel
theorem sn_674 {W : Bool} {X : List Int32} : y_Snd (mGw W) mLT1 (J2 W X) X cx_674 := y_ok J2_J mTS2_ok1 mTC2_ok1 mRUp_ok1 (List.forall_mem_cons.mpr ⟨sn_567, fun _ h => absurd h List.not_mem_nil⟩) ck_674
def cx_675q0 : zS := ((cx_650pi_0 (cx_650pi_1 [])), (cx_632pr_0 (cx_632pr_1 (cx_632pr_2 []))), [], [], [uV568], [], [uG1973, uG2120, (238, [uL1213, uL78, uL63, uL63, uL63, uL63, uL63, uL63, uL9, uL195, uL806])])
def cx_675q1i_0 (t : List (Int × Int)) : List (Int × Int) := ui0 :: ui586 :: (0, 1) :: ui49 :: (0, 1) :: (0, 6) :: ui31 :: (0, 6) :: t
def cx_675q1i_1 (t : List (Int × Int)) : List (Int × Int) := (0, 6) :: ui49 :: ui49 :: ui196 :: (0, 6) :: ui1331 :: t
def cx_675q1 : zS := ((cx_675q1i_0 (cx_675q1i_1 [])), (cx_632pr_0 (cx_632pr_1 (cx_632pr_2 []))), [], [], [uV409], [], [uG1973, uG2120, (238, [uL1213, uL78, uL63, uL63, uL63, uL63, uL63, uL63, uL9, uL195, uL207])])
/-- M.needed -/
def cx_675 : zCtx := (282, cx_650p, [cx_675q0, cx_675q1], kc_84, 1000079814, 6, 129)
def cz_675_0i_0 (t : List (Int × Int)) : List (Int × Int) := ui0 :: ui586 :: (0, 1) :: ui49 :: (0, 1) :: (0, 6) :: ui31 :: (0, 6) :: t
def cz_675_0i_1 (t : List (Int × Int)) : List (Int × Int) := (0, 6) :: ui49 :: ui49 :: ui196 :: (0, 6) :: ui2434 :: (0, 6) :: ui196 :: t
def cz_675_0i_2 (t : List (Int × Int)) : List (Int × Int) := ui2390 :: ui2391 :: t
def cz_675_0g_0 (t : List zTg) : List zTg := uG1973 :: uG2145 :: uG2252 :: uG2253 :: uG2254 :: uG2255 :: uG2120 :: uG2256 :: t
def cz_675_0g_1 (t : List zTg) : List zTg := uG2412 :: uG2413 :: uG2414 :: uG2415 :: uG2416 :: (340, [uL78, uL63, uL63, uL63, uL63, uL63, uL63, uL9, uL195, uL213, uL207]) :: t
def cz_675_0 : zS := ((cz_675_0i_0 (cz_675_0i_1 (cz_675_0i_2 []))), (cz_650_0r_0 (cz_650_0r_1 (cz_650_0r_2 []))), [uL1187, uL1766, uL2435], [uV2, uV11, uV409, uV113, uV113], [], (cz_650_0f_0 (cz_650_0f_1 (cz_650_0f_2 (cz_650_0f_3 [])))), (cz_675_0g_0 (cz_675_0g_1 [])))
def cz_675_1i_0 (t : List (Int × Int)) : List (Int × Int) := ui0 :: ui586 :: (0, 1) :: ui49 :: (0, 1) :: (0, 6) :: ui31 :: (0, 6) :: t
def cz_675_1i_1 (t : List (Int × Int)) : List (Int × Int) := (0, 6) :: ui49 :: ui49 :: ui196 :: (0, 6) :: ui2434 :: ui847 :: (0, 6) :: t
def cz_675_1i_2 (t : List (Int × Int)) : List (Int × Int) := (1, 6) :: ui196 :: ui2390 :: ui2391 :: ui586 :: t
def cz_675_1c_0 (t : List zL) : List zL := uL1187 :: uL63 :: (64, []) :: (0, [(1, (-1)), (20, 1)]) :: uL1766 :: uL2435 :: uL208 :: (63, [(14, (-1))]) :: t
def cz_675_1c_1 (t : List zL) : List zL := uL209 :: (0, [(15, (-1)), (16, 1)]) :: uL2436 :: t
def cz_675_1f_0 (t : List zFa) : List zFa := (0, (false, 61, 0, []), 0, 0, 0, [(16, 1)]) :: uF1970 :: uF1993 :: uF2410 :: uF2411 :: uF2098 :: uF2350 :: uF2351 :: t
def cz_675_1f_1 (t : List zFa) : List zFa := uF2352 :: uF2353 :: uF2354 :: uF2355 :: uF2356 :: uF2357 :: uF2358 :: uF2359 :: t
def cz_675_1f_2 (t : List zFa) : List zFa := uF2360 :: uF2361 :: uF2362 :: uF2363 :: uF2364 :: uF2365 :: uF2366 :: uF2367 :: t
def cz_675_1f_3 (t : List zFa) : List zFa := uF2368 :: uF2369 :: uF2370 :: t
def cz_675_1g_0 (t : List zTg) : List zTg := uG1973 :: uG2145 :: uG2252 :: uG2253 :: uG2254 :: uG2255 :: uG2120 :: uG2256 :: t
def cz_675_1g_1 (t : List zTg) : List zTg := (8, [uL212, uL63, uL277]) :: uG2413 :: uG2414 :: uG2415 :: (329, [uL78, uL63, uL63, uL63, uL63, uL63, uL63, uL353, uL63, uL212]) :: (330, [uL78, uL63, uL63, uL63, uL63, uL63, uL63, uL2436, uL212]) :: (337, [uL78, uL63, uL63, uL63, uL63, uL63, uL63, uL195, uL2436, uL408, uL63]) :: (340, [uL78, uL63, uL63, uL63, uL63, uL63, uL63, uL9, uL195, uL2436, uL207]) :: t
def cz_675_1g_2 (t : List zTg) : List zTg := (341, [uL209, uL208]) :: t
def cz_675_1 : zS := ((cz_675_1i_0 (cz_675_1i_1 (cz_675_1i_2 []))), (cz_650_0r_0 (cz_650_0r_1 (cz_650_0r_2 []))), (cz_675_1c_0 (cz_675_1c_1 [])), [uV2, uV11, uV409, uV356, uV587], [], (cz_675_1f_0 (cz_675_1f_1 (cz_675_1f_2 (cz_675_1f_3 [])))), (cz_675_1g_0 (cz_675_1g_1 (cz_675_1g_2 []))))
set_option maxRecDepth 1000000 in
theorem ck_675 : x_ok mLT1 [cx_567, cx_521, cx_634, cx_648, cx_649] mTS2 mTC2 mRUp cx_675 [(1, [0]), (10, [1]), (14, [2]), (25, [3]), (32, [4])] [(13, uN2200), (21, [29, 1001125, 1001162]), (39, [1001165]), (44, [1001166]), (65, [1001167, 1000789]), (66, [1000667]), (68, [1001168]), (84, [1000668]), (86, [1001169, 1001170]), (99, [1001163, 1001164])] [(24, cz_675_0, (1000000008, [(16, (-1000))])), (47, cz_675_1, (1000000116, [(15, (-16)), (18, (-1000))]))] (1000000021, []) 79793 18 = true := by decide +kernel
theorem sn_675 {W : Bool} {X : List Int32} : y_Snd (mGw W) mLT1 (J2 W X) X cx_675 := y_ok J2_J mTS2_ok1 mTC2_ok1 mRUp_ok1 (List.forall_mem_cons.mpr ⟨sn_567, List.forall_mem_cons.mpr ⟨sn_521, List.forall_mem_cons.mpr ⟨sn_634, List.forall_mem_cons.mpr ⟨sn_648, List.forall_mem_cons.mpr ⟨sn_649, fun _ h => absurd h List.not_mem_nil⟩⟩⟩⟩⟩) ck_675
/-- M.needed -/
def cx_676 : zCtx := (282, cx_651p, [([ui0, ui262, (0, 1), ui49, (0, 1), (0, 6), ui31, (0, 6), (0, 6), ui49, ui49, ui196, (0, 6)], [ur1414, ur2343, ur1461, ur1462, ur1472, ur1473, ur1474, ur1475, ur1476, ur1470, ur1471, ur1463, ur1575, ur1576, ur1465, ur1963, ur1466, ur2344, ur2345, ur2346, ur2347, ur2348], [], [], [uV61], [], [uG2120])], [], 19, 2, 42)
set_option maxRecDepth 1000000 in
theorem ck_676 : x_ok mLT1 [cx_567] mTS2 mTC2 mRUp cx_676 [(1, [0])] [] [] (5, []) 14 8 = true := by decide +kernel
theorem sn_676 {W : Bool} {X : List Int32} : y_Snd (mGw W) mLT1 (J2 W X) X cx_676 := y_ok J2_J mTS2_ok1 mTC2_ok1 mRUp_ok1 (List.forall_mem_cons.mpr ⟨sn_567, fun _ h => absurd h List.not_mem_nil⟩) ck_676
/-- M.peakOf -/
def cx_677 : zCtx := (279, ([ui0, (0, 1), (0, 6)], [ur1414, ur2343], [], [], [uV2], [uF1964, uF2403, uF2350], []), [([ui0, (0, 1), (0, 6), ui1205, (0, 0)], [ur1414, ur2343], [], [], [uV58], [uF2420], [])], [uk2396, uk2397], 1000000437, 3, 65)
set_option maxRecDepth 1000000 in
theorem ck_677 : x_ok mLT1 [cx_670, cx_671] mTS2 mTC2 mRUp cx_677 [(9, [0]), (16, [1])] [(5, [29])] [(8, ([(0, 3072), (0, 1), (0, 6), ((-2), 2147483647), (0, 6), (0, 1000000)], [(12, false), (87, false)], [], [(2, 0, 0, []), (0, 0, 0, [(3, 1)]), (5, 0, 0, [])], [], [(0, (false, 61, 0, []), 0, 0, 0, [(4, 1)]), (0, (false, 18, 0, []), 0, 0, 0, [(1, 1)]), (0, (false, 60, 0, []), 2, 1, 0, [])], [(8, [(0, [(4, 1)]), (0, []), (0, [(5, 1)])])]), (1000000005, [(5, (-1000))]))] (1000000011, []) 426 17 = true := by decide +kernel
theorem sn_677 {W : Bool} {X : List Int32} : y_Snd (mGw W) mLT1 (J2 W X) X cx_677 := y_ok J2_J mTS2_ok1 mTC2_ok1 mRUp_ok1 (List.forall_mem_cons.mpr ⟨sn_670, List.forall_mem_cons.mpr ⟨sn_671, fun _ h => absurd h List.not_mem_nil⟩⟩) ck_677
def cx_678pf_0 (t : List zFa) : List zFa := uF2098 :: uF2204 :: uF2205 :: uF2349 :: uF1477 :: uF1478 :: uF2105 :: uF2106 :: t
def cx_678pf_1 (t : List zFa) : List zFa := uF2107 :: uF2108 :: uF2109 :: uF1708 :: uF1709 :: t
def cx_678p : zS := ([ui0, ui49, (0, 1), ui49, (0, 1), (0, 6), ui31], (cx_609pr_0 (cx_609pr_1 [])), [], [], [uV2, uV11], (cx_678pf_0 (cx_678pf_1 [])), [uG2145, uG2252])
/-- M.soon -/
def cx_678 : zCtx := (283, cx_678p, [([ui0, ui802, (0, 1), ui49, (0, 1), (0, 6), ui31], [ur1414, ur1461, ur1462, ur1472, ur1473, ur1474, ur1475, ur1476, ur1470, ur1471], [], [], [uV61], [uF2204, uF2205, uF2349], []), ([ui0, ui262, (0, 1), ui49, (0, 1), (0, 6), ui31], [ur1414, ur1461, ur1462, ur1472, ur1473, ur1474, ur1475, ur1476, ur1470, ur1471], [], [], [uV61], [uF2204, uF2205, uF2349], []), ([ui0, ui586, (0, 1), ui49, (0, 1), (0, 6), ui31, ui1219, (0, 0), ui196], [ur1414, ur1461, ur1462, ur1472, ur1473, ur1474, ur1475, ur1476, ur1470, ur1471], [], [], [uV142], [uF2432, uF2326, uF2342], []), ([ui0, ui586, (0, 1), ui49, (0, 1), (0, 6), ui31, ui196, (0, 6)], [ur1414, ur1461, ur1462, ur1472, ur1473, ur1474, ur1475, ur1476, ur1470, ur1471], [], [], [uV568], [uF2326, uF2328, uF2432], [])], kc_86, 1000001332, 6, 129)
def cz_678_0i_0 (t : List (Int × Int)) : List (Int × Int) := ui0 :: ui586 :: (0, 1) :: ui49 :: (0, 1) :: (0, 6) :: ui31 :: ui847 :: t
def cz_678_0i_1 (t : List (Int × Int)) : List (Int × Int) := ui196 :: (0, 6) :: t
def cz_678_0f_0 (t : List zFa) : List zFa := uF2326 :: uF2338 :: uF2098 :: uF2430 :: uF1477 :: uF1478 :: uF2105 :: uF2106 :: t
def cz_678_0f_1 (t : List zFa) : List zFa := uF2107 :: uF2108 :: uF2109 :: uF1708 :: uF1709 :: t
def cz_678_0 : zS := ((cz_678_0i_0 (cz_678_0i_1 [])), (cx_609pr_0 (cx_609pr_1 [])), [], [uV2, uV11, uV142], [], (cz_678_0f_0 (cz_678_0f_1 [])), [uG2145, uG2252])
set_option maxRecDepth 1000000 in
theorem ck_678 : x_ok mLT1 [cx_567, cx_603, cx_656, cx_677, cx_616] mTS2 mTC2 mRUp cx_678 [(1, [0]), (10, [1]), (22, [2]), (26, [3]), (36, [4])] [] [(15, cz_678_0, (887, [(7, (-14))]))] (895, []) 1000000437 16 = true := by decide +kernel
theorem sn_678 {W : Bool} {X : List Int32} : y_Snd (mGw W) mLT1 (J2 W X) X cx_678 := y_ok J2_J mTS2_ok1 mTC2_ok1 mRUp_ok1 (List.forall_mem_cons.mpr ⟨sn_567, List.forall_mem_cons.mpr ⟨sn_603, List.forall_mem_cons.mpr ⟨sn_656, List.forall_mem_cons.mpr ⟨sn_677, List.forall_mem_cons.mpr ⟨sn_616, fun _ h => absurd h List.not_mem_nil⟩⟩⟩⟩⟩) ck_678
def cx_679pi_0 (t : List (Int × Int)) : List (Int × Int) := ui0 :: ui802 :: ui49 :: (0, 1) :: ui49 :: (0, 1) :: (0, 6) :: ui31 :: t
def cx_679pi_1 (t : List (Int × Int)) : List (Int × Int) := (0, 6) :: (0, 6) :: ui49 :: ui49 :: ui196 :: (0, 6) :: t
def cx_679pf_0 (t : List zFa) : List zFa := uF2102 :: uF2103 :: uF2104 :: uF2428 :: uF1477 :: uF1478 :: uF2105 :: uF2106 :: t
def cx_679pf_1 (t : List zFa) : List zFa := uF2107 :: uF2108 :: uF2109 :: uF1708 :: uF1709 :: uF2110 :: uF2111 :: uF2112 :: t
def cx_679pf_2 (t : List zFa) : List zFa := uF1998 :: uF2195 :: uF2251 :: uF2421 :: uF2422 :: uF2423 :: uF2424 :: uF2425 :: t
def cx_679pf_3 (t : List zFa) : List zFa := uF2426 :: (10, (true, 0, 0, [(3, 1)]), 0, 0, 0, [(13, 1)]) :: t
def cx_679pg_0 (t : List zTg) : List zTg := uG2115 :: uG2429 :: uG2437 :: uG2438 :: uG2197 :: uG2439 :: uG2440 :: t
def cx_679p : zS := ((cx_679pi_0 (cx_679pi_1 [])), (cx_653pr_0 (cx_653pr_1 (cx_653pr_2 []))), [uL1291], [], [uV2, uV11, uV12], (cx_679pf_0 (cx_679pf_1 (cx_679pf_2 (cx_679pf_3 [])))), (cx_679pg_0 []))
/-- M.peace -/
def cx_679 : zCtx := (284, cx_679p, [([ui0, ui802, ui49, (0, 1), ui49, (0, 1), (0, 6), ui31, (0, 6), (0, 6), ui49, ui49, ui196, (0, 6)], [ur1414, ur1461, ur1462, ur1472, ur1473, ur1474, ur1475, ur1476, ur1470, ur1471, ur1463, ur1575, ur1576, ur1465, ur1963, ur1466, ur2344, ur2345, ur2346, ur2347, ur2348, ur2343], [], [], [uV61], [], [uG2439])], [], 19, 2, 42)
set_option maxRecDepth 1000000 in
theorem ck_679 : x_ok mLT1 [cx_567] mTS2 mTC2 mRUp cx_679 [(1, [0])] [] [] (5, []) 14 8 = true := by decide +kernel
theorem sn_679 {W : Bool} {X : List Int32} : y_Snd (mGw W) mLT1 (J2 W X) X cx_679 := y_ok J2_J mTS2_ok1 mTC2_ok1 mRUp_ok1 (List.forall_mem_cons.mpr ⟨sn_567, fun _ h => absurd h List.not_mem_nil⟩) ck_679
def cx_680pi_0 (t : List (Int × Int)) : List (Int × Int) := ui0 :: ui586 :: ui1301 :: (0, 1) :: ui49 :: (0, 1) :: (0, 6) :: ui31 :: t
def cx_680pi_1 (t : List (Int × Int)) : List (Int × Int) := (0, 6) :: (0, 6) :: ui49 :: ui49 :: ui196 :: (0, 6) :: t
def cx_680p : zS := ((cx_680pi_0 (cx_680pi_1 [])), (cx_653pr_0 (cx_653pr_1 (cx_653pr_2 []))), [uL1291], [], [uV2, uV11, uV12], (cx_679pf_0 (cx_679pf_1 (cx_679pf_2 (cx_679pf_3 [])))), (cx_679pg_0 []))
/-- M.peace -/
def cx_680 : zCtx := (284, cx_680p, [([ui0, ui586, ui1301, (0, 1), ui49, (0, 1), (0, 6), ui31, (0, 6), (0, 6), ui49, ui49, ui196, (0, 6)], [ur1414, ur1461, ur1462, ur1472, ur1473, ur1474, ur1475, ur1476, ur1470, ur1471, ur1463, ur1575, ur1576, ur1465, ur1963, ur1466, ur2344, ur2345, ur2346, ur2347, ur2348, ur2343], [], [], [uV61], [], [uG2439])], [], 24, 2, 42)
set_option maxRecDepth 1000000 in
theorem ck_680 : x_ok mLT1 [cx_567, cx_517] mTS2 mTC2 mRUp cx_680 [(1, [0]), (10, [1])] [] [] (10, []) 14 13 = true := by decide +kernel
theorem sn_680 {W : Bool} {X : List Int32} : y_Snd (mGw W) mLT1 (J2 W X) X cx_680 := y_ok J2_J mTS2_ok1 mTC2_ok1 mRUp_ok1 (List.forall_mem_cons.mpr ⟨sn_567, List.forall_mem_cons.mpr ⟨sn_517, fun _ h => absurd h List.not_mem_nil⟩⟩) ck_680
/-- M.likesMost -/
def cx_681 : zCtx := (286, ([ui0, ui124], [ur1414], [], [], [uV2, uV11], [], []), [([ui0, ui124], [ur1414], [], [], [], [], [])], [], 3, 0, 0)
set_option maxRecDepth 1000000 in
theorem ck_681 : x_ok mLT1 [] mTS2 mTC2 mRUp cx_681 [] [] [] (3, []) 0 6 = true := by decide +kernel
theorem sn_681 {W : Bool} {X : List Int32} : y_Snd (mGw W) mLT1 (J2 W X) X cx_681 := y_ok J2_J mTS2_ok1 mTC2_ok1 mRUp_ok1 (fun _ h => absurd h List.not_mem_nil) ck_681
def cx_682pi_0 (t : List (Int × Int)) : List (Int × Int) := ui0 :: ui586 :: ui124 :: ui124 :: (0, 1) :: (0, 6) :: (0, 6) :: ui49 :: t
def cx_682pi_1 (t : List (Int × Int)) : List (Int × Int) := ui49 :: ui49 :: ui49 :: ui49 :: ui49 :: ui49 :: ui196 :: t
def cx_682pr_0 (t : List (Nat × Bool)) : List (Nat × Bool) := ur1414 :: ur1463 :: ur2344 :: ur2345 :: ur2348 :: ur2346 :: ur2347 :: ur1466 :: t
def cx_682pr_1 (t : List (Nat × Bool)) : List (Nat × Bool) := ur2343 :: t
def cx_682pf_0 (t : List zFa) : List zFa := uF2185 :: uF2349 :: uF1578 :: uF2387 :: uF2404 :: uF2405 :: (0, (false, 57, 0, []), 2, 5, 0, []) :: (0, (false, 58, 0, []), 2, 6, 0, []) :: t
def cx_682pf_1 (t : List zFa) : List zFa := (0, (false, 27, 0, []), 2, 7, 0, []) :: (0, (false, 60, 0, []), 2, 8, 0, []) :: t
def cx_682pg_0 (t : List zTg) : List zTg := uG2191 :: uG2441 :: uG2442 :: uG2443 :: uG2444 :: uG2445 :: t
def cx_682p : zS := ((cx_682pi_0 (cx_682pi_1 [])), (cx_682pr_0 (cx_682pr_1 [])), [uL2186], [], [uV2, uV11, uV12, uV58], (cx_682pf_0 (cx_682pf_1 [])), (cx_682pg_0 []))
def cx_682q0g_0 (t : List zTg) : List zTg := uG2191 :: uG2441 :: uG2442 :: uG2443 :: uG2444 :: uG2445 :: (355, [uL79, uL131, uL164, uL170, uL195, uL214, uL207, uL9, uL208, uL63]) :: t
def cx_682q0 : zS := ((cx_682pi_0 (cx_682pi_1 [])), (cx_682pr_0 (cx_682pr_1 [])), [], [], [uV64], [], (cx_682q0g_0 []))
def cx_682q1g_0 (t : List zTg) : List zTg := uG2191 :: uG2441 :: uG2442 :: uG2443 :: uG2444 :: uG2445 :: (356, [uL79, uL131, uL164, uL170, uL195, uL214, uL207, uL9, uL208, uL63]) :: t
def cx_682q1 : zS := ((cx_682pi_0 (cx_682pi_1 [])), (cx_682pr_0 (cx_682pr_1 [])), [], [], [uV62], [], (cx_682q1g_0 []))
/-- M.isPeace -/
def cx_682 : zCtx := (285, cx_682p, [cx_682q0, cx_682q1], [uk2396, uk2446, uk2397], 1000001016, 4, 87)
def cz_682_0i_0 (t : List (Int × Int)) : List (Int × Int) := ui0 :: ui586 :: ui124 :: ui124 :: (0, 1) :: (0, 6) :: (0, 6) :: ui49 :: t
def cz_682_0i_1 (t : List (Int × Int)) : List (Int × Int) := ui49 :: ui49 :: ui49 :: ui49 :: ui49 :: ui49 :: ui196 :: ui440 :: t
def cz_682_0g_0 (t : List zTg) : List zTg := uG2191 :: uG2441 :: uG2442 :: uG2443 :: uG2444 :: uG2445 :: (328, [uL79, uL131, uL164, uL170, uL195, uL214, uL207, uL209, uL78, uL63]) :: t
def cz_682_0 : zS := ((cz_682_0i_0 (cz_682_0i_1 [])), (cx_682pr_0 (cx_682pr_1 [])), [uL2186, uL209, (36, [(15, (-1))])], [uV2, uV11, uV12, uV58, uV587], [], (cx_682pf_0 (cx_682pf_1 [])), (cz_682_0g_0 []))
set_option maxRecDepth 1000000 in
theorem ck_682 : x_ok mLT1 [cx_681, cx_652] mTS2 mTC2 mRUp cx_682 [(32, [0]), (37, [0]), (41, [1])] [(1, [1001218]), (24, [1001219]), (30, [1001220]), (48, [1001221]), (52, [1001222])] [(3, cz_682_0, ((-100000000000), [(2, (-100000000000)), (3, (-576)), (15, (-14))]))] (579, []) 1000000437 19 = true := by decide +kernel
theorem sn_682 {W : Bool} {X : List Int32} : y_Snd (mGw W) mLT1 (J2 W X) X cx_682 := y_ok J2_J mTS2_ok1 mTC2_ok1 mRUp_ok1 (List.forall_mem_cons.mpr ⟨sn_681, List.forall_mem_cons.mpr ⟨sn_652, fun _ h => absurd h List.not_mem_nil⟩⟩) ck_682
/-- M.isPair -/
def cx_683 : zCtx := (287, ([ui0, ui1294, (0, 1), (0, 6)], [ur1414, ur1463], [uL512], [], [uV2, uV11], [uF2098, uF1578], [uG2100]), [([ui0, ui1294, (0, 1), (0, 6), (0, 5), (0, 5)], [ur1414, ur1463], [uL2447, uL2448, uL1546, uL2449], [], [uV64], [], [uG2100, uG2450]), ([ui0, ui1294, (0, 1), (0, 6)], [ur1414, ur1463], [], [], [uV62], [], [uG2100, uG2451])], [], 36, 2, 43)
set_option maxRecDepth 1000000 in
theorem ck_683 : x_ok mLT1 [cx_518] mTS2 mTC2 mRUp cx_683 [(16, [0])] [(3, [1000023]), (4, [1001226]), (7, [1000679]), (8, [1001227]), (11, [1001228]), (15, [1000679]), (16, [1001229]), (22, [1001230]), (26, uN2452)] [] (16, []) 20 19 = true := by decide +kernel
theorem sn_683 {W : Bool} {X : List Int32} : y_Snd (mGw W) mLT1 (J2 W X) X cx_683 := y_ok J2_J mTS2_ok1 mTC2_ok1 mRUp_ok1 (List.forall_mem_cons.mpr ⟨sn_518, fun _ h => absurd h List.not_mem_nil⟩) ck_683
/-- M.isPair -/
def cx_684 : zCtx := (287, ([ui0, ui1294, (0, 1), (0, 6)], [ur1414, ur1463], [uL512], [], [uV2, uV11], [uF2098, uF1578], [uG2100]), [([ui0, ui1294, (0, 1), (0, 6), (0, 5), (0, 5)], [ur1414, ur1463], [uL2447, uL2448, uL1546, uL2449], [], [uV64], [], [uG2100, uG2450]), ([ui0, ui1294, (0, 1), (0, 6)], [ur1414, ur1463], [], [], [uV62], [], [uG2100, uG2451])], [], 36, 2, 43)
set_option maxRecDepth 1000000 in
theorem ck_684 : x_ok mLT1 [cx_518] mTS2 mTC2 mRUp cx_684 [(16, [0])] [(3, [1000023]), (4, [1001226]), (7, [1000679]), (8, [1001227]), (11, [1001228]), (15, [1000679]), (16, [1001229]), (22, [1001230]), (26, uN2452)] [] (16, []) 20 19 = true := by decide +kernel
theorem sn_684 {W : Bool} {X : List Int32} : y_Snd (mGw W) mLT1 (J2 W X) X cx_684 := y_ok J2_J mTS2_ok1 mTC2_ok1 mRUp_ok1 (List.forall_mem_cons.mpr ⟨sn_518, fun _ h => absurd h List.not_mem_nil⟩) ck_684
/-- M.isPair -/
def cx_685 : zCtx := (287, ([ui0, ui1294, (0, 1), (0, 6)], [ur1414, ur1463], [uL512], [], [uV2, uV11], [uF2098, uF1578], [uG2100]), [([ui0, ui1294, (0, 1), (0, 6), (0, 5), (0, 5)], [ur1414, ur1463], [uL2447, uL2448, uL1546, uL2449], [], [uV64], [], [uG2100, uG2450]), ([ui0, ui1294, (0, 1), (0, 6)], [ur1414, ur1463], [], [], [uV62], [], [uG2100, uG2451])], [], 36, 2, 43)
set_option maxRecDepth 1000000 in
theorem ck_685 : x_ok mLT1 [cx_518] mTS2 mTC2 mRUp cx_685 [(16, [0])] [(3, [1000023]), (4, [1001226]), (7, [1000679]), (8, [1001227]), (11, [1001228]), (15, [1000679]), (16, [1001229]), (22, [1001230]), (26, uN2452)] [] (16, []) 20 19 = true := by decide +kernel
theorem sn_685 {W : Bool} {X : List Int32} : y_Snd (mGw W) mLT1 (J2 W X) X cx_685 := y_ok J2_J mTS2_ok1 mTC2_ok1 mRUp_ok1 (List.forall_mem_cons.mpr ⟨sn_518, fun _ h => absurd h List.not_mem_nil⟩) ck_685
/-- M.isPair -/
def cx_686 : zCtx := (287, ([ui0, ui1294, (0, 1), (0, 6)], [ur1414, ur1463], [uL512], [], [uV2, uV11], [uF2098, uF1578], [uG2100]), [([ui0, ui1294, (0, 1), (0, 6), (0, 5), (0, 5)], [ur1414, ur1463], [uL2447, uL2448, uL1546, uL2449], [], [uV64], [], [uG2100, uG2450]), ([ui0, ui1294, (0, 1), (0, 6)], [ur1414, ur1463], [], [], [uV62], [], [uG2100, uG2451])], [], 36, 2, 43)
set_option maxRecDepth 1000000 in
theorem ck_686 : x_ok mLT1 [cx_518] mTS2 mTC2 mRUp cx_686 [(16, [0])] [(3, [1000023]), (4, [1001226]), (7, [1000679]), (8, [1001227]), (11, [1001228]), (15, [1000679]), (16, [1001229]), (22, [1001230]), (26, uN2452)] [] (16, []) 20 19 = true := by decide +kernel
theorem sn_686 {W : Bool} {X : List Int32} : y_Snd (mGw W) mLT1 (J2 W X) X cx_686 := y_ok J2_J mTS2_ok1 mTC2_ok1 mRUp_ok1 (List.forall_mem_cons.mpr ⟨sn_518, fun _ h => absurd h List.not_mem_nil⟩) ck_686
/-- M.isPair -/
def cx_687 : zCtx := (287, ([ui0, ui1294, (0, 1), (0, 6)], [ur1414, ur1463], [uL512], [], [uV2, uV11], [uF2098, uF1578], [uG2100]), [([ui0, ui1294, (0, 1), (0, 6), (0, 5), (0, 5)], [ur1414, ur1463], [uL2447, uL2448, uL1546, uL2449], [], [uV64], [], [uG2100, uG2450]), ([ui0, ui1294, (0, 1), (0, 6)], [ur1414, ur1463], [], [], [uV62], [], [uG2100, uG2451])], [], 36, 2, 43)
set_option maxRecDepth 1000000 in
theorem ck_687 : x_ok mLT1 [cx_518] mTS2 mTC2 mRUp cx_687 [(16, [0])] [(3, [1000023]), (4, [1001226]), (7, [1000679]), (8, [1001227]), (11, [1001228]), (15, [1000679]), (16, [1001229]), (22, [1001230]), (26, uN2452)] [] (16, []) 20 19 = true := by decide +kernel
theorem sn_687 {W : Bool} {X : List Int32} : y_Snd (mGw W) mLT1 (J2 W X) X cx_687 := y_ok J2_J mTS2_ok1 mTC2_ok1 mRUp_ok1 (List.forall_mem_cons.mpr ⟨sn_518, fun _ h => absurd h List.not_mem_nil⟩) ck_687
/-- M.isPair -/
def cx_688 : zCtx := (287, ([ui0, ui1294, (0, 1), (0, 6)], [ur1414, ur1463], [uL512], [], [uV2, uV11], [uF2098, uF1578], [uG2100]), [([ui0, ui1294, (0, 1), (0, 6), (0, 5), (0, 5)], [ur1414, ur1463], [uL2447, uL2448, uL1546, uL2449], [], [uV64], [], [uG2100, uG2450]), ([ui0, ui1294, (0, 1), (0, 6)], [ur1414, ur1463], [], [], [uV62], [], [uG2100, uG2451])], [], 36, 2, 43)
set_option maxRecDepth 1000000 in
theorem ck_688 : x_ok mLT1 [cx_518] mTS2 mTC2 mRUp cx_688 [(16, [0])] [(3, [1000023]), (4, [1001226]), (7, [1000679]), (8, [1001227]), (11, [1001228]), (15, [1000679]), (16, [1001229]), (22, [1001230]), (26, uN2452)] [] (16, []) 20 19 = true := by decide +kernel
theorem sn_688 {W : Bool} {X : List Int32} : y_Snd (mGw W) mLT1 (J2 W X) X cx_688 := y_ok J2_J mTS2_ok1 mTC2_ok1 mRUp_ok1 (List.forall_mem_cons.mpr ⟨sn_518, fun _ h => absurd h List.not_mem_nil⟩) ck_688
def cx_689pi_0 (t : List (Int × Int)) : List (Int × Int) := ui0 :: ui1294 :: ui49 :: ui49 :: ui49 :: ui49 :: ui49 :: ui49 :: t
def cx_689pi_1 (t : List (Int × Int)) : List (Int × Int) := ui49 :: (0, 6) :: (0, 5) :: (0, 5) :: t
def cx_689p : zS := ((cx_689pi_0 (cx_689pi_1 [])), [ur1414, ur2348, ur2347], [(0, [(1, 1), (10, (-10)), (11, (-1))]), (0, [(1, (-1)), (10, 10), (11, 1)]), uL1232], [], [uV2, uV11], [uF2453, uF2454], [(328, [uL67, uL23, uL98, uL104, uL78, uL79, uL131, uL4, uL164, uL63]), uG2455, (348, [uL9, uL170, uL195])])
/-- M.likesMost -/
def cx_689 : zCtx := (286, cx_689p, [([ui0, ui1294, ui49, ui49, ui49, ui49, ui49, ui49, ui49, (0, 6), (0, 5), (0, 5)], [ur1414, ur2348, ur2347], [], [], [], [], [uG2455, (328, [uL67, uL23, uL98, uL104, uL78, uL79, uL131, uL4, uL164, uL109])])], [uk2446], 43, 0, 0)
set_option maxRecDepth 1000000 in
theorem ck_689 : x_ok mLT1 [] mTS2 mTC2 mRUp cx_689 [] [(8, [1000023]), (9, [1001226]), (13, [1000679]), (14, uN2456), (15, uN2457), (59, uN2458)] [] (43, []) 0 46 = true := by decide +kernel
theorem sn_689 {W : Bool} {X : List Int32} : y_Snd (mGw W) mLT1 (J2 W X) X cx_689 := y_ok J2_J mTS2_ok1 mTC2_ok1 mRUp_ok1 (fun _ h => absurd h List.not_mem_nil) ck_689
def cx_690pi_0 (t : List (Int × Int)) : List (Int × Int) := ui0 :: ui586 :: ui1294 :: ui124 :: (0, 1) :: (0, 6) :: (0, 6) :: ui49 :: t
def cx_690pi_1 (t : List (Int × Int)) : List (Int × Int) := ui49 :: ui49 :: ui49 :: ui49 :: ui49 :: ui49 :: ui196 :: (0, 5) :: t
def cx_690pi_2 (t : List (Int × Int)) : List (Int × Int) := (0, 5) :: t
def cx_690pg_0 (t : List zTg) : List zTg := uG2191 :: uG2441 :: uG2442 :: uG2443 :: uG2444 :: uG2445 :: uG2459 :: t
def cx_690p : zS := ((cx_690pi_0 (cx_690pi_1 (cx_690pi_2 []))), (cx_682pr_0 (cx_682pr_1 [])), [uL2186, uL2460, uL2461, uL2462], [], [uV2, uV11, uV12, uV58], (cx_682pf_0 (cx_682pf_1 [])), (cx_690pg_0 []))
def cx_690q0g_0 (t : List zTg) : List zTg := uG2191 :: uG2441 :: uG2442 :: uG2443 :: uG2444 :: uG2445 :: (355, [uL79, uL131, uL164, uL170, uL195, uL214, uL207, uL9, uL208, uL516]) :: t
def cx_690q0 : zS := ((cx_690pi_0 (cx_690pi_1 (cx_690pi_2 []))), (cx_682pr_0 (cx_682pr_1 [])), [], [], [uV64], [], (cx_690q0g_0 []))
def cx_690q1g_0 (t : List zTg) : List zTg := uG2191 :: uG2441 :: uG2442 :: uG2443 :: uG2444 :: uG2445 :: (356, [uL79, uL131, uL164, uL170, uL195, uL214, uL207, uL9, uL208, uL516]) :: t
def cx_690q1 : zS := ((cx_690pi_0 (cx_690pi_1 (cx_690pi_2 []))), (cx_682pr_0 (cx_682pr_1 [])), [], [], [uV62], [], (cx_690q1g_0 []))
/-- M.isPeace -/
def cx_690 : zCtx := (285, cx_690p, [cx_690q0, cx_690q1], [uk2396, uk2446, uk2397], 1000001016, 4, 87)
def cz_690_0i_0 (t : List (Int × Int)) : List (Int × Int) := ui0 :: ui586 :: ui1294 :: ui124 :: (0, 1) :: (0, 6) :: (0, 6) :: ui49 :: t
def cz_690_0i_1 (t : List (Int × Int)) : List (Int × Int) := ui49 :: ui49 :: ui49 :: ui49 :: ui49 :: ui49 :: ui196 :: (0, 5) :: t
def cz_690_0i_2 (t : List (Int × Int)) : List (Int × Int) := (0, 5) :: ui440 :: t
def cz_690_0g_0 (t : List zTg) : List zTg := uG2191 :: uG2441 :: uG2442 :: uG2443 :: uG2444 :: uG2445 :: uG2459 :: (328, [uL79, uL131, uL164, uL170, uL195, uL214, uL207, uL213, uL78, uL63]) :: t
def cz_690_0 : zS := ((cz_690_0i_0 (cz_690_0i_1 (cz_690_0i_2 []))), (cx_682pr_0 (cx_682pr_1 [])), [uL2186, uL2460, uL2461, uL2462, uL213, (36, [(17, (-1))])], [uV2, uV11, uV12, uV58, uV1176], [], (cx_682pf_0 (cx_682pf_1 [])), (cz_690_0g_0 []))
set_option maxRecDepth 1000000 in
theorem ck_690 : x_ok mLT1 [cx_689, cx_681, cx_652] mTS2 mTC2 mRUp cx_690 [(32, [0]), (37, [1]), (41, [2])] [(1, [1001218]), (24, [1001219]), (30, [1001220]), (48, [1001221]), (52, [1001222])] [(3, cz_690_0, ((-99999999424), [(3, (-100000000000)), (17, (-14))]))] (579, []) 1000000437 19 = true := by decide +kernel
theorem sn_690 {W : Bool} {X : List Int32} : y_Snd (mGw W) mLT1 (J2 W X) X cx_690 := y_ok J2_J mTS2_ok1 mTC2_ok1 mRUp_ok1 (List.forall_mem_cons.mpr ⟨sn_689, List.forall_mem_cons.mpr ⟨sn_681, List.forall_mem_cons.mpr ⟨sn_652, fun _ h => absurd h List.not_mem_nil⟩⟩⟩) ck_690
/-- M.isPeace -/
def cx_691 : zCtx := (285, cx_690p, [cx_690q0, cx_690q1], [uk2396, uk2446, uk2397], 1000001016, 4, 87)
set_option maxRecDepth 1000000 in
theorem ck_691 : x_ok mLT1 [cx_689, cx_681, cx_652] mTS2 mTC2 mRUp cx_691 [(32, [0]), (37, [1]), (41, [2])] [(1, [1001218]), (24, [1001219]), (30, [1001220]), (48, [1001221]), (52, [1001222])] [(3, cz_690_0, ((-99999999424), [(3, (-100000000000)), (17, (-14))]))] (579, []) 1000000437 19 = true := by decide +kernel
theorem sn_691 {W : Bool} {X : List Int32} : y_Snd (mGw W) mLT1 (J2 W X) X cx_691 := y_ok J2_J mTS2_ok1 mTC2_ok1 mRUp_ok1 (List.forall_mem_cons.mpr ⟨sn_689, List.forall_mem_cons.mpr ⟨sn_681, List.forall_mem_cons.mpr ⟨sn_652, fun _ h => absurd h List.not_mem_nil⟩⟩⟩) ck_691
/-- M.isPeace -/
def cx_692 : zCtx := (285, cx_690p, [cx_690q0, cx_690q1], [uk2396, uk2446, uk2397], 1000001016, 4, 87)
set_option maxRecDepth 1000000 in
theorem ck_692 : x_ok mLT1 [cx_689, cx_681, cx_652] mTS2 mTC2 mRUp cx_692 [(32, [0]), (37, [1]), (41, [2])] [(1, [1001218]), (24, [1001219]), (30, [1001220]), (48, [1001221]), (52, [1001222])] [(3, cz_690_0, ((-99999999424), [(3, (-100000000000)), (17, (-14))]))] (579, []) 1000000437 19 = true := by decide +kernel
theorem sn_692 {W : Bool} {X : List Int32} : y_Snd (mGw W) mLT1 (J2 W X) X cx_692 := y_ok J2_J mTS2_ok1 mTC2_ok1 mRUp_ok1 (List.forall_mem_cons.mpr ⟨sn_689, List.forall_mem_cons.mpr ⟨sn_681, List.forall_mem_cons.mpr ⟨sn_652, fun _ h => absurd h List.not_mem_nil⟩⟩⟩) ck_692
/-- M.isPeace -/
def cx_693 : zCtx := (285, cx_690p, [cx_690q0, cx_690q1], [uk2396, uk2446, uk2397], 1000001016, 4, 87)
set_option maxRecDepth 1000000 in
theorem ck_693 : x_ok mLT1 [cx_689, cx_681, cx_652] mTS2 mTC2 mRUp cx_693 [(32, [0]), (37, [1]), (41, [2])] [(1, [1001218]), (24, [1001219]), (30, [1001220]), (48, [1001221]), (52, [1001222])] [(3, cz_690_0, ((-99999999424), [(3, (-100000000000)), (17, (-14))]))] (579, []) 1000000437 19 = true := by decide +kernel
theorem sn_693 {W : Bool} {X : List Int32} : y_Snd (mGw W) mLT1 (J2 W X) X cx_693 := y_ok J2_J mTS2_ok1 mTC2_ok1 mRUp_ok1 (List.forall_mem_cons.mpr ⟨sn_689, List.forall_mem_cons.mpr ⟨sn_681, List.forall_mem_cons.mpr ⟨sn_652, fun _ h => absurd h List.not_mem_nil⟩⟩⟩) ck_693
/-- M.isPeace -/
def cx_694 : zCtx := (285, cx_690p, [cx_690q0, cx_690q1], [uk2396, uk2446, uk2397], 1000001016, 4, 87)
set_option maxRecDepth 1000000 in
theorem ck_694 : x_ok mLT1 [cx_689, cx_681, cx_652] mTS2 mTC2 mRUp cx_694 [(32, [0]), (37, [1]), (41, [2])] [(1, [1001218]), (24, [1001219]), (30, [1001220]), (48, [1001221]), (52, [1001222])] [(3, cz_690_0, ((-99999999424), [(3, (-100000000000)), (17, (-14))]))] (579, []) 1000000437 19 = true := by decide +kernel
theorem sn_694 {W : Bool} {X : List Int32} : y_Snd (mGw W) mLT1 (J2 W X) X cx_694 := y_ok J2_J mTS2_ok1 mTC2_ok1 mRUp_ok1 (List.forall_mem_cons.mpr ⟨sn_689, List.forall_mem_cons.mpr ⟨sn_681, List.forall_mem_cons.mpr ⟨sn_652, fun _ h => absurd h List.not_mem_nil⟩⟩⟩) ck_694
def cx_695pi_0 (t : List (Int × Int)) : List (Int × Int) := ui0 :: ui1294 :: ui49 :: ui49 :: ui49 :: ui49 :: ui49 :: ui49 :: t
def cx_695pi_1 (t : List (Int × Int)) : List (Int × Int) := ui49 :: (0, 6) :: ui846 :: (0, 5) :: (0, 5) :: t
def cx_695p : zS := ((cx_695pi_0 (cx_695pi_1 [])), [ur1414, ur2348, ur2347], [(0, [(1, 1), (11, (-10)), (12, (-1))]), (0, [(1, (-1)), (11, 10), (12, 1)]), ((-1), [(11, (-1)), (12, 1)])], [], [uV2, uV11], [uF2453, uF2454], [(328, [uL67, uL23, uL98, uL104, uL78, uL79, uL131, uL4, uL164, uL170]), uG2455, (348, [uL9, uL195, uL214])])
/-- M.likesMost -/
def cx_695 : zCtx := (286, cx_695p, [([ui0, ui1294, ui49, ui49, ui49, ui49, ui49, ui49, ui49, (0, 6), ui846, (0, 5), (0, 5)], [ur1414, ur2348, ur2347], [], [], [], [], [uG2455, (328, [uL67, uL23, uL98, uL104, uL78, uL79, uL131, uL4, uL164, (100, [(1, 100), (10, 1)])])])], [uk2446], 43, 0, 0)
set_option maxRecDepth 1000000 in
theorem ck_695 : x_ok mLT1 [] mTS2 mTC2 mRUp cx_695 [] [(8, [1000023]), (9, [1001226]), (13, [1000679]), (14, uN2456), (15, uN2457), (59, uN2458)] [] (43, []) 0 46 = true := by decide +kernel
theorem sn_695 {W : Bool} {X : List Int32} : y_Snd (mGw W) mLT1 (J2 W X) X cx_695 := y_ok J2_J mTS2_ok1 mTC2_ok1 mRUp_ok1 (fun _ h => absurd h List.not_mem_nil) ck_695
def cx_696pi_0 (t : List (Int × Int)) : List (Int × Int) := ui0 :: ui586 :: ui1294 :: ui1294 :: (0, 1) :: (0, 6) :: (0, 6) :: ui49 :: t
def cx_696pi_1 (t : List (Int × Int)) : List (Int × Int) := ui49 :: ui49 :: ui49 :: ui49 :: ui49 :: ui49 :: ui196 :: (0, 5) :: t
def cx_696pi_2 (t : List (Int × Int)) : List (Int × Int) := (0, 5) :: (0, 5) :: (0, 5) :: t
def cx_696pg_0 (t : List zTg) : List zTg := uG2191 :: uG2441 :: uG2442 :: uG2443 :: uG2444 :: uG2445 :: uG2459 :: uG2463 :: t
def cx_696p : zS := ((cx_696pi_0 (cx_696pi_1 (cx_696pi_2 []))), (cx_682pr_0 (cx_682pr_1 [])), [uL2186, uL2460, uL2461, uL2462, uL2464, uL2465, uL2466], [], [uV2, uV11, uV12, uV58], (cx_682pf_0 (cx_682pf_1 [])), (cx_696pg_0 []))
def cx_696q0g_0 (t : List zTg) : List zTg := uG2191 :: uG2441 :: uG2442 :: uG2443 :: uG2444 :: uG2445 :: (355, [uL79, uL131, uL164, uL170, uL195, uL214, uL207, uL9, uL208, uL2467]) :: t
def cx_696q0 : zS := ((cx_696pi_0 (cx_696pi_1 (cx_696pi_2 []))), (cx_682pr_0 (cx_682pr_1 [])), [], [], [uV64], [], (cx_696q0g_0 []))
def cx_696q1g_0 (t : List zTg) : List zTg := uG2191 :: uG2441 :: uG2442 :: uG2443 :: uG2444 :: uG2445 :: (356, [uL79, uL131, uL164, uL170, uL195, uL214, uL207, uL9, uL208, uL2467]) :: t
def cx_696q1 : zS := ((cx_696pi_0 (cx_696pi_1 (cx_696pi_2 []))), (cx_682pr_0 (cx_682pr_1 [])), [], [], [uV62], [], (cx_696q1g_0 []))
/-- M.isPeace -/
def cx_696 : zCtx := (285, cx_696p, [cx_696q0, cx_696q1], [uk2396, uk2446, uk2397], 1000001016, 4, 87)
def cz_696_0i_0 (t : List (Int × Int)) : List (Int × Int) := ui0 :: ui586 :: ui1294 :: ui1294 :: (0, 1) :: (0, 6) :: (0, 6) :: ui49 :: t
def cz_696_0i_1 (t : List (Int × Int)) : List (Int × Int) := ui49 :: ui49 :: ui49 :: ui49 :: ui49 :: ui49 :: ui196 :: (0, 5) :: t
def cz_696_0i_2 (t : List (Int × Int)) : List (Int × Int) := (0, 5) :: (0, 5) :: (0, 5) :: ui440 :: t
def cz_696_0c_0 (t : List zL) : List zL := uL2186 :: uL2460 :: uL2461 :: uL2462 :: uL2464 :: uL2465 :: uL2466 :: uL353 :: t
def cz_696_0c_1 (t : List zL) : List zL := (36, [(19, (-1))]) :: t
def cz_696_0g_0 (t : List zTg) : List zTg := uG2191 :: uG2441 :: uG2442 :: uG2443 :: uG2444 :: uG2445 :: uG2459 :: uG2463 :: t
def cz_696_0g_1 (t : List zTg) : List zTg := (328, [uL79, uL131, uL164, uL170, uL195, uL214, uL207, uL353, uL78, uL63]) :: t
def cz_696_0 : zS := ((cz_696_0i_0 (cz_696_0i_1 (cz_696_0i_2 []))), (cx_682pr_0 (cx_682pr_1 [])), (cz_696_0c_0 (cz_696_0c_1 [])), [uV2, uV11, uV12, uV58, (0, 0, 0, [(19, 1)])], [], (cx_682pf_0 (cx_682pf_1 [])), (cz_696_0g_0 (cz_696_0g_1 [])))
set_option maxRecDepth 1000000 in
theorem ck_696 : x_ok mLT1 [cx_689, cx_695, cx_652] mTS2 mTC2 mRUp cx_696 [(32, [0]), (37, [1]), (41, [2])] [(1, [1001218]), (24, [1001219]), (30, [1001220]), (48, [1001221]), (52, [1001222])] [(3, cz_696_0, (576, [(19, (-14))]))] (579, []) 1000000437 19 = true := by decide +kernel
theorem sn_696 {W : Bool} {X : List Int32} : y_Snd (mGw W) mLT1 (J2 W X) X cx_696 := y_ok J2_J mTS2_ok1 mTC2_ok1 mRUp_ok1 (List.forall_mem_cons.mpr ⟨sn_689, List.forall_mem_cons.mpr ⟨sn_695, List.forall_mem_cons.mpr ⟨sn_652, fun _ h => absurd h List.not_mem_nil⟩⟩⟩) ck_696
/-- M.isPeace -/
def cx_697 : zCtx := (285, cx_696p, [cx_696q0, cx_696q1], [uk2396, uk2446, uk2397], 1000001016, 4, 87)
set_option maxRecDepth 1000000 in
theorem ck_697 : x_ok mLT1 [cx_689, cx_695, cx_652] mTS2 mTC2 mRUp cx_697 [(32, [0]), (37, [1]), (41, [2])] [(1, [1001218]), (24, [1001219]), (30, [1001220]), (48, [1001221]), (52, [1001222])] [(3, cz_696_0, (576, [(19, (-14))]))] (579, []) 1000000437 19 = true := by decide +kernel
theorem sn_697 {W : Bool} {X : List Int32} : y_Snd (mGw W) mLT1 (J2 W X) X cx_697 := y_ok J2_J mTS2_ok1 mTC2_ok1 mRUp_ok1 (List.forall_mem_cons.mpr ⟨sn_689, List.forall_mem_cons.mpr ⟨sn_695, List.forall_mem_cons.mpr ⟨sn_652, fun _ h => absurd h List.not_mem_nil⟩⟩⟩) ck_697
/-- M.isPeace -/
def cx_698 : zCtx := (285, cx_696p, [cx_696q0, cx_696q1], [uk2396, uk2446, uk2397], 1000001016, 4, 87)
set_option maxRecDepth 1000000 in
theorem ck_698 : x_ok mLT1 [cx_689, cx_695, cx_652] mTS2 mTC2 mRUp cx_698 [(32, [0]), (37, [1]), (41, [2])] [(1, [1001218]), (24, [1001219]), (30, [1001220]), (48, [1001221]), (52, [1001222])] [(3, cz_696_0, (576, [(19, (-14))]))] (579, []) 1000000437 19 = true := by decide +kernel
theorem sn_698 {W : Bool} {X : List Int32} : y_Snd (mGw W) mLT1 (J2 W X) X cx_698 := y_ok J2_J mTS2_ok1 mTC2_ok1 mRUp_ok1 (List.forall_mem_cons.mpr ⟨sn_689, List.forall_mem_cons.mpr ⟨sn_695, List.forall_mem_cons.mpr ⟨sn_652, fun _ h => absurd h List.not_mem_nil⟩⟩⟩) ck_698
/-- M.isPeace -/
def cx_699 : zCtx := (285, cx_696p, [cx_696q0, cx_696q1], [uk2396, uk2446, uk2397], 1000001016, 4, 87)
set_option maxRecDepth 1000000 in
theorem ck_699 : x_ok mLT1 [cx_689, cx_695, cx_652] mTS2 mTC2 mRUp cx_699 [(32, [0]), (37, [1]), (41, [2])] [(1, [1001218]), (24, [1001219]), (30, [1001220]), (48, [1001221]), (52, [1001222])] [(3, cz_696_0, (576, [(19, (-14))]))] (579, []) 1000000437 19 = true := by decide +kernel
theorem sn_699 {W : Bool} {X : List Int32} : y_Snd (mGw W) mLT1 (J2 W X) X cx_699 := y_ok J2_J mTS2_ok1 mTC2_ok1 mRUp_ok1 (List.forall_mem_cons.mpr ⟨sn_689, List.forall_mem_cons.mpr ⟨sn_695, List.forall_mem_cons.mpr ⟨sn_652, fun _ h => absurd h List.not_mem_nil⟩⟩⟩) ck_699
/-- M.isPeace -/
def cx_700 : zCtx := (285, cx_696p, [cx_696q0, cx_696q1], [uk2396, uk2446, uk2397], 1000001016, 4, 87)
set_option maxRecDepth 1000000 in
theorem ck_700 : x_ok mLT1 [cx_689, cx_695, cx_652] mTS2 mTC2 mRUp cx_700 [(32, [0]), (37, [1]), (41, [2])] [(1, [1001218]), (24, [1001219]), (30, [1001220]), (48, [1001221]), (52, [1001222])] [(3, cz_696_0, (576, [(19, (-14))]))] (579, []) 1000000437 19 = true := by decide +kernel
theorem sn_700 {W : Bool} {X : List Int32} : y_Snd (mGw W) mLT1 (J2 W X) X cx_700 := y_ok J2_J mTS2_ok1 mTC2_ok1 mRUp_ok1 (List.forall_mem_cons.mpr ⟨sn_689, List.forall_mem_cons.mpr ⟨sn_695, List.forall_mem_cons.mpr ⟨sn_652, fun _ h => absurd h List.not_mem_nil⟩⟩⟩) ck_700
/-- M.isPeace -/
def cx_701 : zCtx := (285, cx_696p, [cx_696q0, cx_696q1], [uk2396, uk2446, uk2397], 1000001016, 4, 87)
set_option maxRecDepth 1000000 in
theorem ck_701 : x_ok mLT1 [cx_689, cx_695, cx_652] mTS2 mTC2 mRUp cx_701 [(32, [0]), (37, [1]), (41, [2])] [(1, [1001218]), (24, [1001219]), (30, [1001220]), (48, [1001221]), (52, [1001222])] [(3, cz_696_0, (576, [(19, (-14))]))] (579, []) 1000000437 19 = true := by decide +kernel
theorem sn_701 {W : Bool} {X : List Int32} : y_Snd (mGw W) mLT1 (J2 W X) X cx_701 := y_ok J2_J mTS2_ok1 mTC2_ok1 mRUp_ok1 (List.forall_mem_cons.mpr ⟨sn_689, List.forall_mem_cons.mpr ⟨sn_695, List.forall_mem_cons.mpr ⟨sn_652, fun _ h => absurd h List.not_mem_nil⟩⟩⟩) ck_701
/-- M.isPeace -/
def cx_702 : zCtx := (285, cx_696p, [cx_696q0, cx_696q1], [uk2396, uk2446, uk2397], 1000001016, 4, 87)
set_option maxRecDepth 1000000 in
theorem ck_702 : x_ok mLT1 [cx_689, cx_695, cx_652] mTS2 mTC2 mRUp cx_702 [(32, [0]), (37, [1]), (41, [2])] [(1, [1001218]), (24, [1001219]), (30, [1001220]), (48, [1001221]), (52, [1001222])] [(3, cz_696_0, (576, [(19, (-14))]))] (579, []) 1000000437 19 = true := by decide +kernel
theorem sn_702 {W : Bool} {X : List Int32} : y_Snd (mGw W) mLT1 (J2 W X) X cx_702 := y_ok J2_J mTS2_ok1 mTC2_ok1 mRUp_ok1 (List.forall_mem_cons.mpr ⟨sn_689, List.forall_mem_cons.mpr ⟨sn_695, List.forall_mem_cons.mpr ⟨sn_652, fun _ h => absurd h List.not_mem_nil⟩⟩⟩) ck_702
/-- M.isPeace -/
def cx_703 : zCtx := (285, cx_696p, [cx_696q0, cx_696q1], [uk2396, uk2446, uk2397], 1000001016, 4, 87)
set_option maxRecDepth 1000000 in
theorem ck_703 : x_ok mLT1 [cx_689, cx_695, cx_652] mTS2 mTC2 mRUp cx_703 [(32, [0]), (37, [1]), (41, [2])] [(1, [1001218]), (24, [1001219]), (30, [1001220]), (48, [1001221]), (52, [1001222])] [(3, cz_696_0, (576, [(19, (-14))]))] (579, []) 1000000437 19 = true := by decide +kernel
theorem sn_703 {W : Bool} {X : List Int32} : y_Snd (mGw W) mLT1 (J2 W X) X cx_703 := y_ok J2_J mTS2_ok1 mTC2_ok1 mRUp_ok1 (List.forall_mem_cons.mpr ⟨sn_689, List.forall_mem_cons.mpr ⟨sn_695, List.forall_mem_cons.mpr ⟨sn_652, fun _ h => absurd h List.not_mem_nil⟩⟩⟩) ck_703
/-- M.isPeace -/
def cx_704 : zCtx := (285, cx_696p, [cx_696q0, cx_696q1], [uk2396, uk2446, uk2397], 1000001016, 4, 87)
set_option maxRecDepth 1000000 in
theorem ck_704 : x_ok mLT1 [cx_689, cx_695, cx_652] mTS2 mTC2 mRUp cx_704 [(32, [0]), (37, [1]), (41, [2])] [(1, [1001218]), (24, [1001219]), (30, [1001220]), (48, [1001221]), (52, [1001222])] [(3, cz_696_0, (576, [(19, (-14))]))] (579, []) 1000000437 19 = true := by decide +kernel
theorem sn_704 {W : Bool} {X : List Int32} : y_Snd (mGw W) mLT1 (J2 W X) X cx_704 := y_ok J2_J mTS2_ok1 mTC2_ok1 mRUp_ok1 (List.forall_mem_cons.mpr ⟨sn_689, List.forall_mem_cons.mpr ⟨sn_695, List.forall_mem_cons.mpr ⟨sn_652, fun _ h => absurd h List.not_mem_nil⟩⟩⟩) ck_704
end
