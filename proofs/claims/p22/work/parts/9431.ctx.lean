noncomputable section
/-! ===== readings, by program, checked by the kernel ===== -/
/-- M.nextFrom -/
def cx_660 : zCtx := (275, ([ui0, (0, 5)], [ur1474, ur2429], [], [], [uV2, uV388], [uF2466, uF2436], []), [([ui0, (0, 5)], [ur1474, ur2429], [], [], [uV388], [], [uG2469]), ([ui0, (0, 5)], [ur1474, ur2429], [], [], [uV384], [], [uG2470]), ([ui0, (0, 5)], [ur1474, ur2429], [], [], [uV380], [], [uG2471]), ([ui0, (0, 5)], [ur1474, ur2429], [], [], [uV3], [], [uG2472]), ([ui0, (0, 5)], [ur1474, ur2429], [], [], [uV61], [], [])], [], 150, 1, 22)
set_option maxRecDepth 1000000 in
theorem ck_660 : x_ok mLT1 [cx_654, cx_655, cx_656, cx_657] mTS2 mTC2 mRUp cx_660 [(19, [0, 1, 2, 3])] [] [] (63, []) 87 66 = true := by decide +kernel
theorem sn_660 {W : Bool} {X : List Int32} : y_Snd (mGw W) mLT1 (J2 W X) X cx_660 := y_ok J2_J mTS2_ok1 mTC2_ok1 mRUp_ok1 (List.forall_mem_cons.mpr ⟨sn_654, List.forall_mem_cons.mpr ⟨sn_655, List.forall_mem_cons.mpr ⟨sn_656, List.forall_mem_cons.mpr ⟨sn_657, fun _ h => absurd h List.not_mem_nil⟩⟩⟩⟩) ck_660
/-- M.nextFrom -/
def cx_661 : zCtx := (275, ([ui0, (0, 5)], [ur1474, ur2429], [], [], [uV2, uV384], [uF2466, uF2436], []), [([ui0, (0, 5)], [ur1474, ur2429], [], [], [uV384], [], [uG2470]), ([ui0, (1, 5)], [ur1474, ur2429], [], [], [uV380], [], [uG2471]), ([ui0, (1, 5)], [ur1474, ur2429], [], [], [uV3], [], [uG2472]), ([ui0, (1, 5)], [ur1474, ur2429], [], [], [uV61], [], []), ([ui0, (0, 5)], [ur1474, ur2429], [], [], [uV380], [], [uG2471]), ([ui0, (0, 5)], [ur1474, ur2429], [], [], [uV3], [], [uG2472]), ([ui0, (0, 5)], [ur1474, ur2429], [], [], [uV61], [], [])], [], 136, 1, 22)
set_option maxRecDepth 1000000 in
theorem ck_661 : x_ok mLT1 [cx_655, cx_656, cx_657] mTS2 mTC2 mRUp cx_661 [(19, [0, 1, 2])] [] [] (49, []) 87 52 = true := by decide +kernel
theorem sn_661 {W : Bool} {X : List Int32} : y_Snd (mGw W) mLT1 (J2 W X) X cx_661 := y_ok J2_J mTS2_ok1 mTC2_ok1 mRUp_ok1 (List.forall_mem_cons.mpr ⟨sn_655, List.forall_mem_cons.mpr ⟨sn_656, List.forall_mem_cons.mpr ⟨sn_657, fun _ h => absurd h List.not_mem_nil⟩⟩⟩) ck_661
/-- M.nextFrom -/
def cx_662 : zCtx := (275, ([ui0, (0, 5)], [ur1474, ur2429], [], [], [uV2, uV380], [uF2466, uF2436], []), [([ui0, (0, 5)], [ur1474, ur2429], [], [], [uV380], [], [uG2471]), ([ui0, (1, 5)], [ur1474, ur2429], [], [], [uV3], [], [uG2472]), ([ui0, (1, 5)], [ur1474, ur2429], [], [], [uV61], [], []), ([ui0, (0, 5)], [ur1474, ur2429], [], [], [uV3], [], [uG2472]), ([ui0, (0, 5)], [ur1474, ur2429], [], [], [uV61], [], [])], [], 122, 1, 22)
set_option maxRecDepth 1000000 in
theorem ck_662 : x_ok mLT1 [cx_656, cx_657] mTS2 mTC2 mRUp cx_662 [(19, [0, 1])] [] [] (35, []) 87 38 = true := by decide +kernel
theorem sn_662 {W : Bool} {X : List Int32} : y_Snd (mGw W) mLT1 (J2 W X) X cx_662 := y_ok J2_J mTS2_ok1 mTC2_ok1 mRUp_ok1 (List.forall_mem_cons.mpr ⟨sn_656, List.forall_mem_cons.mpr ⟨sn_657, fun _ h => absurd h List.not_mem_nil⟩⟩) ck_662
/-- M.nextFrom -/
def cx_663 : zCtx := (275, ([ui0, (0, 5)], [ur1474, ur2429], [], [], [uV2, uV3], [uF2466, uF2436], []), [([ui0, (0, 5)], [ur1474, ur2429], [], [], [uV3], [], [uG2472]), ([ui0, (1, 5)], [ur1474, ur2429], [], [], [uV61], [], []), ([ui0, (0, 5)], [ur1474, ur2429], [], [], [uV61], [], [])], [], 108, 1, 22)
set_option maxRecDepth 1000000 in
theorem ck_663 : x_ok mLT1 [cx_657] mTS2 mTC2 mRUp cx_663 [(19, [0])] [] [] (21, []) 87 24 = true := by decide +kernel
theorem sn_663 {W : Bool} {X : List Int32} : y_Snd (mGw W) mLT1 (J2 W X) X cx_663 := y_ok J2_J mTS2_ok1 mTC2_ok1 mRUp_ok1 (List.forall_mem_cons.mpr ⟨sn_657, fun _ h => absurd h List.not_mem_nil⟩) ck_663
/-- M.nextFrom -/
def cx_664 : zCtx := (275, ([ui0, (0, 5)], [ur1474, ur2429], [], [], [uV2, uV314], [uF2466, uF2436], []), [([ui0, (0, 5)], [ur1474, ur2429], [], [], [uV61], [], [])], [], 7, 0, 0)
set_option maxRecDepth 1000000 in
theorem ck_664 : x_ok mLT1 [] mTS2 mTC2 mRUp cx_664 [] [] [] (7, []) 0 10 = true := by decide +kernel
theorem sn_664 {W : Bool} {X : List Int32} : y_Snd (mGw W) mLT1 (J2 W X) X cx_664 := y_ok J2_J mTS2_ok1 mTC2_ok1 mRUp_ok1 (fun _ h => absurd h List.not_mem_nil) ck_664
/-- M.goesToNext -/
def cx_665 : zCtx := (274, ([ui0, (0, 6), ui2476], [ur1474, ur2429], [], [], [uV2], [uF2466, uF2436], [uG2478]), [([ui0, (0, 6), ui2480, (1, 6), ui2476], [ur1474, ur2429], [((-1000), [(2, (-1000)), (4, 1000)])], [], [uV64], [uF2507], [(8, [uL23, uL63, uL98])]), ([ui0, (0, 6), ui2476, (0, 0)], [ur1474, ur2429], [], [], [uV62], [uF2507], [])], [uk2482, uk2483], 338, 2, 44)
set_option maxRecDepth 1000000 in
theorem ck_665 : x_ok mLT1 [cx_658, cx_659, cx_660, cx_661, cx_662, cx_663, cx_664] mTS2 mTC2 mRUp cx_665 [(2, [0]), (39, [1, 2, 3, 4, 5, 6])] [(39, [30, 1]), (52, [32]), (62, [31])] [(6, ([(0, 3072), (0, 6), (0, 1000000), (0, 6), (0, 6)], [(12, false), (87, false)], [], [(2, 0, 0, []), (0, 0, (-1), [])], [], [(0, (false, 61, 0, []), 0, 0, 0, [(3, 1)]), (0, (false, 60, 0, []), 2, 1, 0, [])], [(8, [(0, [(3, 1)]), (0, [(4, 1)]), (0, [(2, 1)])])]), (17, [(3, 23)]))] (160, []) 178 43 = true := by decide +kernel
theorem sn_665 {W : Bool} {X : List Int32} : y_Snd (mGw W) mLT1 (J2 W X) X cx_665 := y_ok J2_J mTS2_ok1 mTC2_ok1 mRUp_ok1 (List.forall_mem_cons.mpr ⟨sn_658, List.forall_mem_cons.mpr ⟨sn_659, List.forall_mem_cons.mpr ⟨sn_660, List.forall_mem_cons.mpr ⟨sn_661, List.forall_mem_cons.mpr ⟨sn_662, List.forall_mem_cons.mpr ⟨sn_663, List.forall_mem_cons.mpr ⟨sn_664, fun _ h => absurd h List.not_mem_nil⟩⟩⟩⟩⟩⟩⟩) ck_665
/-- M.orderSpare -/
def cx_666 : zCtx := (277, ([ui0, (0, 1), (1, 6)], [ur1474], [], [], [uV2], [uF2028, uF2489], []), [([ui0, (0, 1), (1, 6)], [ur1474], [], [], [uV61], [], []), ([ui0, (0, 1), (1, 6), ui517], [ur1474], [], [], [uV58], [], [])], [], 426, 0, 0)
set_option maxRecDepth 1000000 in
theorem ck_666 : x_ok mLT1 [] mTS2 mTC2 mRUp cx_666 [] [] [(13, ([(0, 3072), (0, 1), (1, 6), ((-2147483648), 2147483647), ((-2147483648), 2147483647), ((-1), 5)], [(12, false)], [], [(2, 0, 0, []), (0, 0, 0, [(3, 1)]), (0, 0, 0, [(4, 1)]), (0, 0, 0, [(5, 1)]), (5, 0, 0, [])], [], [(0, (false, 18, 0, []), 0, 0, 0, [(1, 1)]), (0, (false, 61, 0, []), 0, 0, 0, [(2, 1)])], []), (81, [(5, 67)]))] (426, []) 0 69 = true := by decide +kernel
theorem sn_666 {W : Bool} {X : List Int32} : y_Snd (mGw W) mLT1 (J2 W X) X cx_666 := y_ok J2_J mTS2_ok1 mTC2_ok1 mRUp_ok1 (fun _ h => absurd h List.not_mem_nil) ck_666
/-- M.fewestOf -/
def cx_667 : zCtx := (281, ([ui0, ui600, (0, 1), (0, 6)], [ur1474, ur2429], [], [], [uV2, uV11], [uF2162, uF2507, uF2436], []), [([ui0, ui600, (0, 1), (0, 6), ((-2), 6), (0, 0)], [ur1474, ur2429], [], [], [uV97], [uF2435], [])], [uk2482, uk2483, (88, true, 0)], 1000000437, 3, 65)
set_option maxRecDepth 1000000 in
theorem ck_667 : x_ok mLT1 [cx_665, cx_666] mTS2 mTC2 mRUp cx_667 [(9, [0]), (28, [1])] [(5, [29])] [(8, ([(0, 3072), (0, 999), (0, 1), (0, 6), ((-2), 6), (0, 6), (0, 1000000)], [(12, false), (87, false)], [], [(2, 0, 0, []), (0, 0, 0, [(1, 1)]), (0, 0, 0, [(4, 1)]), (5, 0, 0, [])], [], [(0, (false, 61, 0, []), 0, 0, 0, [(5, 1)]), (0, (false, 18, 0, []), 0, 0, 0, [(2, 1)]), (0, (false, 60, 0, []), 2, 1, 0, [])], [(8, [(0, [(5, 1)]), (0, []), (0, [(6, 1)])])]), (1000000005, [(6, (-1000))])), (45, ([(0, 3072), (0, 999), (0, 1), (0, 6), (1, 6), (0, 6), (0, 1000000)], [(12, false), (87, false)], [], [(2, 0, 0, []), (0, 0, 0, [(1, 1)]), (0, 0, 0, [(4, 1)]), (0, 0, 0, [(5, 1)])], [], [(0, (false, 61, 0, []), 0, 0, 0, [(4, 1)]), (0, (false, 18, 0, []), 0, 0, 0, [(2, 1)]), (0, (false, 60, 0, []), 2, 1, 0, [])], [(8, [(0, [(4, 1)]), (0, []), (0, [(6, 1)])])]), (1000000094, [(5, (-14)), (6, (-1000))]))] (1000000011, []) 426 21 = true := by decide +kernel
theorem sn_667 {W : Bool} {X : List Int32} : y_Snd (mGw W) mLT1 (J2 W X) X cx_667 := y_ok J2_J mTS2_ok1 mTC2_ok1 mRUp_ok1 (List.forall_mem_cons.mpr ⟨sn_665, List.forall_mem_cons.mpr ⟨sn_666, fun _ h => absurd h List.not_mem_nil⟩⟩) ck_667
def cx_668pf_0 (t : List zFa) : List zFa := uF2166 :: uF2167 :: uF2168 :: uF2508 :: uF1537 :: uF1538 :: uF2169 :: uF2170 :: t
def cx_668pf_1 (t : List zFa) : List zFa := uF2171 :: uF2172 :: uF2173 :: uF1768 :: uF1769 :: t
def cx_668p : zS := ([ui0, ui49, ui49, (0, 1), ui49, (0, 1), (0, 6), ui31], (cx_622pr_0 (cx_622pr_1 [])), [], [], [uV2, uV11, uV12], (cx_668pf_0 (cx_668pf_1 [])), [uG2179, uG2509])
/-- M.fewest -/
def cx_668 : zCtx := (280, cx_668p, [([ui0, ui600, ui1249, (0, 1), ui49, (0, 1), (0, 6), ui31], [ur1474, ur1521, ur1522, ur1532, ur1533, ur1534, ur1535, ur1536, ur1530, ur1531], [], [], [uV61], [uF2167, uF2168, uF2508], []), ([ui0, ui600, ui124, (0, 1), ui49, (0, 1), (0, 6), ui31, (0, 6), (0, 0), ui194], [ur1474, ur1521, ur1522, ur1532, ur1533, ur1534, ur1535, ur1536, ur1530, ur1531], [], [], [uV144], [uF2510, uF2034, uF2511], [uG2041, uG2037]), ([ui0, ui600, (0, 5), (0, 1), ui49, (0, 1), (0, 6), ui31, (0, 5), (0, 0), ui194], [ur1474, ur1521, ur1522, ur1532, ur1533, ur1534, ur1535, ur1536, ur1530, ur1531], [], [], [uV144], [uF2510, uF2034, uF2511], [uG2041, uG2037]), ([ui0, ui600, ui517, (0, 1), ui49, (0, 1), (0, 6), ui31, (0, 0), ui194], [ur1474, ur1521, ur1522, ur1532, ur1533, ur1534, ur1535, ur1536, ur1530, ur1531], [], [], [uV61], [uF2512, uF2034, uF2428], [uG2041, uG2037]), ([ui0, ui600, ui2513, (0, 1), ui49, (0, 1), (0, 6), ui31, ((-2), (-1)), (0, 0), ui194], [ur1474, ur1521, ur1522, ur1532, ur1533, ur1534, ur1535, ur1536, ur1530, ur1531], [], [], [uV144], [uF2510, uF2034, uF2511], [uG2041, uG2037]), ([ui0, ui820, ui49, (0, 1), ui49, (0, 1), (0, 6), ui31], [ur1474, ur1521, ur1522, ur1532, ur1533, ur1534, ur1535, ur1536, ur1530, ur1531], [], [], [uV61], [uF2167, uF2168, uF2508], []), ([ui0, ui260, ui49, (0, 1), ui49, (0, 1), (0, 6), ui31], [ur1474, ur1521, ur1522, ur1532, ur1533, ur1534, ur1535, ur1536, ur1530, ur1531], [], [], [uV61], [uF2167, uF2168, uF2508], [])], kc_85, 1000000465, 6, 129)
set_option maxRecDepth 1000000 in
theorem ck_668 : x_ok mLT1 [cx_564, cx_518, cx_651, cx_667] mTS2 mTC2 mRUp cx_668 [(1, [0]), (15, [1]), (19, [2]), (24, [3])] [] [] (28, []) 1000000437 31 = true := by decide +kernel
theorem sn_668 {W : Bool} {X : List Int32} : y_Snd (mGw W) mLT1 (J2 W X) X cx_668 := y_ok J2_J mTS2_ok1 mTC2_ok1 mRUp_ok1 (List.forall_mem_cons.mpr ⟨sn_564, List.forall_mem_cons.mpr ⟨sn_518, List.forall_mem_cons.mpr ⟨sn_651, List.forall_mem_cons.mpr ⟨sn_667, fun _ h => absurd h List.not_mem_nil⟩⟩⟩⟩) ck_668
/-- M.needed -/
def cx_669 : zCtx := (282, cx_628p, [([ui0, ui820, (0, 1), ui49, (0, 1), (0, 6), ui31, (0, 6), (0, 6), ui49, ui49, ui194, (0, 6)], [ur1474, ur2429, ur1521, ur1522, ur1532, ur1533, ur1534, ur1535, ur1536, ur1530, ur1531, ur1523, ur1635, ur1636, ur1525, ur2027, ur1526, ur2430, ur2431, ur2432, ur2433, ur2434], [], [], [uV61], [], [uG2184])], [], 19, 2, 42)
set_option maxRecDepth 1000000 in
theorem ck_669 : x_ok mLT1 [cx_564] mTS2 mTC2 mRUp cx_669 [(1, [0])] [] [] (5, []) 14 8 = true := by decide +kernel
theorem sn_669 {W : Bool} {X : List Int32} : y_Snd (mGw W) mLT1 (J2 W X) X cx_669 := y_ok J2_J mTS2_ok1 mTC2_ok1 mRUp_ok1 (List.forall_mem_cons.mpr ⟨sn_564, fun _ h => absurd h List.not_mem_nil⟩) ck_669
def cx_670q0 : zS := ((cx_645pi_0 (cx_645pi_1 [])), (cx_628pr_0 (cx_628pr_1 (cx_628pr_2 []))), [], [], [uV583], [], [uG2037, uG2184, (238, [uL1250, uL78, uL63, uL63, uL63, uL63, uL63, uL63, uL9, uL193, uL825])])
def cx_670q1i_0 (t : List (Int × Int)) : List (Int × Int) := ui0 :: ui600 :: (0, 1) :: ui49 :: (0, 1) :: (0, 6) :: ui31 :: (0, 6) :: t
def cx_670q1i_1 (t : List (Int × Int)) : List (Int × Int) := (0, 6) :: ui49 :: ui49 :: ui194 :: (0, 6) :: ui1357 :: t
def cx_670q1 : zS := ((cx_670q1i_0 (cx_670q1i_1 [])), (cx_628pr_0 (cx_628pr_1 (cx_628pr_2 []))), [], [], [uV408], [], [uG2037, uG2184, (238, [uL1250, uL78, uL63, uL63, uL63, uL63, uL63, uL63, uL9, uL193, uL205])])
/-- M.needed -/
def cx_670 : zCtx := (282, cx_645p, [cx_670q0, cx_670q1], kc_84, 1000079814, 6, 129)
def cz_670_0i_0 (t : List (Int × Int)) : List (Int × Int) := ui0 :: ui600 :: (0, 1) :: ui49 :: (0, 1) :: (0, 6) :: ui31 :: (0, 6) :: t
def cz_670_0i_1 (t : List (Int × Int)) : List (Int × Int) := (0, 6) :: ui49 :: ui49 :: ui194 :: (0, 6) :: ui2514 :: (0, 6) :: ui194 :: t
def cz_670_0i_2 (t : List (Int × Int)) : List (Int × Int) := ui2476 :: ui2477 :: t
def cz_670_0g_0 (t : List zTg) : List zTg := uG2037 :: uG2209 :: uG2311 :: uG2312 :: uG2313 :: uG2314 :: uG2184 :: uG2315 :: t
def cz_670_0g_1 (t : List zTg) : List zTg := uG2497 :: uG2498 :: uG2499 :: uG2500 :: uG2501 :: (340, [uL78, uL63, uL63, uL63, uL63, uL63, uL63, uL9, uL193, uL211, uL205]) :: t
def cz_670_0 : zS := ((cz_670_0i_0 (cz_670_0i_1 (cz_670_0i_2 []))), (cz_645_0r_0 (cz_645_0r_1 (cz_645_0r_2 []))), [uL1224, uL1830, uL2515], [uV2, uV11, uV408, uV113, uV113], [], (cz_645_0f_0 (cz_645_0f_1 (cz_645_0f_2 (cz_645_0f_3 [])))), (cz_670_0g_0 (cz_670_0g_1 [])))
def cz_670_1i_0 (t : List (Int × Int)) : List (Int × Int) := ui0 :: ui600 :: (0, 1) :: ui49 :: (0, 1) :: (0, 6) :: ui31 :: (0, 6) :: t
def cz_670_1i_1 (t : List (Int × Int)) : List (Int × Int) := (0, 6) :: ui49 :: ui49 :: ui194 :: (0, 6) :: ui2514 :: ui877 :: (0, 6) :: t
def cz_670_1i_2 (t : List (Int × Int)) : List (Int × Int) := (1, 6) :: ui194 :: ui2476 :: ui2477 :: ui600 :: t
def cz_670_1c_0 (t : List zL) : List zL := uL1224 :: uL63 :: (64, []) :: (0, [(1, (-1)), (20, 1)]) :: uL1830 :: uL2515 :: uL206 :: (63, [(14, (-1))]) :: t
def cz_670_1c_1 (t : List zL) : List zL := uL207 :: (0, [(15, (-1)), (16, 1)]) :: uL2516 :: t
def cz_670_1f_0 (t : List zFa) : List zFa := (0, (false, 61, 0, []), 0, 0, 0, [(16, 1)]) :: uF2034 :: uF2057 :: uF2495 :: uF2496 :: uF2162 :: uF2436 :: uF2437 :: t
def cz_670_1f_1 (t : List zFa) : List zFa := uF2438 :: uF2439 :: uF2440 :: uF2441 :: uF2442 :: uF2443 :: uF2444 :: uF2445 :: t
def cz_670_1f_2 (t : List zFa) : List zFa := uF2446 :: uF2447 :: uF2448 :: uF2449 :: uF2450 :: uF2451 :: uF2452 :: uF2453 :: t
def cz_670_1f_3 (t : List zFa) : List zFa := uF2454 :: uF2455 :: uF2456 :: t
def cz_670_1g_0 (t : List zTg) : List zTg := uG2037 :: uG2209 :: uG2311 :: uG2312 :: uG2313 :: uG2314 :: uG2184 :: uG2315 :: t
def cz_670_1g_1 (t : List zTg) : List zTg := (8, [uL210, uL63, uL275]) :: uG2498 :: uG2499 :: uG2500 :: (329, [uL78, uL63, uL63, uL63, uL63, uL63, uL63, uL352, uL63, uL210]) :: (330, [uL78, uL63, uL63, uL63, uL63, uL63, uL63, uL2516, uL210]) :: (337, [uL78, uL63, uL63, uL63, uL63, uL63, uL63, uL193, uL2516, uL407, uL63]) :: (340, [uL78, uL63, uL63, uL63, uL63, uL63, uL63, uL9, uL193, uL2516, uL205]) :: t
def cz_670_1g_2 (t : List zTg) : List zTg := (341, [uL207, uL206]) :: t
def cz_670_1 : zS := ((cz_670_1i_0 (cz_670_1i_1 (cz_670_1i_2 []))), (cz_645_0r_0 (cz_645_0r_1 (cz_645_0r_2 []))), (cz_670_1c_0 (cz_670_1c_1 [])), [uV2, uV11, uV408, uV355, uV601], [], (cz_670_1f_0 (cz_670_1f_1 (cz_670_1f_2 (cz_670_1f_3 [])))), (cz_670_1g_0 (cz_670_1g_1 (cz_670_1g_2 []))))
set_option maxRecDepth 1000000 in
theorem ck_670 : x_ok mLT1 [cx_564, cx_518, cx_629, cx_643, cx_644] mTS2 mTC2 mRUp cx_670 [(1, [0]), (10, [1]), (14, [2]), (25, [3]), (32, [4])] [(13, uN2259), (21, [29, 1001111, 1001148]), (39, [1001151]), (44, [1001152]), (65, [1001153, 1000797]), (66, [1000667]), (68, [1001154]), (84, [1000668]), (86, [1001155, 1001156]), (99, [1001149, 1001150])] [(24, cz_670_0, (1000000008, [(16, (-1000))])), (47, cz_670_1, (1000000116, [(15, (-16)), (18, (-1000))]))] (1000000021, []) 79793 18 = true := by decide +kernel
theorem sn_670 {W : Bool} {X : List Int32} : y_Snd (mGw W) mLT1 (J2 W X) X cx_670 := y_ok J2_J mTS2_ok1 mTC2_ok1 mRUp_ok1 (List.forall_mem_cons.mpr ⟨sn_564, List.forall_mem_cons.mpr ⟨sn_518, List.forall_mem_cons.mpr ⟨sn_629, List.forall_mem_cons.mpr ⟨sn_643, List.forall_mem_cons.mpr ⟨sn_644, fun _ h => absurd h List.not_mem_nil⟩⟩⟩⟩⟩) ck_670
/-- M.needed -/
def cx_671 : zCtx := (282, cx_646p, [([ui0, ui260, (0, 1), ui49, (0, 1), (0, 6), ui31, (0, 6), (0, 6), ui49, ui49, ui194, (0, 6)], [ur1474, ur2429, ur1521, ur1522, ur1532, ur1533, ur1534, ur1535, ur1536, ur1530, ur1531, ur1523, ur1635, ur1636, ur1525, ur2027, ur1526, ur2430, ur2431, ur2432, ur2433, ur2434], [], [], [uV61], [], [uG2184])], [], 19, 2, 42)
set_option maxRecDepth 1000000 in
theorem ck_671 : x_ok mLT1 [cx_564] mTS2 mTC2 mRUp cx_671 [(1, [0])] [] [] (5, []) 14 8 = true := by decide +kernel
theorem sn_671 {W : Bool} {X : List Int32} : y_Snd (mGw W) mLT1 (J2 W X) X cx_671 := y_ok J2_J mTS2_ok1 mTC2_ok1 mRUp_ok1 (List.forall_mem_cons.mpr ⟨sn_564, fun _ h => absurd h List.not_mem_nil⟩) ck_671
def cx_672pi_0 (t : List (Int × Int)) : List (Int × Int) := ui0 :: ui820 :: (0, 1) :: ui49 :: (0, 1) :: (0, 6) :: ui31 :: (0, 6) :: t
def cx_672pi_1 (t : List (Int × Int)) : List (Int × Int) := (0, 6) :: ui49 :: ui49 :: ui194 :: ui194 :: (0, 6) :: ui194 :: t
def cx_672pr_0 (t : List (Nat × Bool)) : List (Nat × Bool) := ur1474 :: ur1521 :: ur1522 :: ur1532 :: ur1533 :: ur1534 :: ur1535 :: ur1536 :: t
def cx_672pr_1 (t : List (Nat × Bool)) : List (Nat × Bool) := ur1530 :: ur1531 :: ur1523 :: ur1635 :: ur1636 :: ur2027 :: ur2047 :: ur1528 :: t
def cx_672pr_2 (t : List (Nat × Bool)) : List (Nat × Bool) := ur1529 :: ur2343 :: ur2344 :: ur1525 :: ur1526 :: ur2430 :: ur2431 :: ur2432 :: t
def cx_672pr_3 (t : List (Nat × Bool)) : List (Nat × Bool) := ur2433 :: ur2434 :: ur2429 :: t
def cx_672pf_0 (t : List zFa) : List zFa := uF2162 :: uF2263 :: uF2264 :: uF2435 :: uF1537 :: uF1538 :: uF2169 :: uF2170 :: t
def cx_672pf_1 (t : List zFa) : List zFa := uF2171 :: uF2172 :: uF2173 :: uF1768 :: uF1769 :: uF2174 :: uF2175 :: uF2176 :: t
def cx_672pf_2 (t : List zFa) : List zFa := uF2177 :: uF2342 :: uF2377 :: uF2378 :: uF2403 :: uF2404 :: (10, (true, 0, 0, [(2, 1)]), 0, 0, 0, [(13, 1)]) :: uF2405 :: t
def cx_672pf_3 (t : List zFa) : List zFa := uF2517 :: uF2518 :: uF2519 :: uF2520 :: uF2521 :: uF2522 :: uF2523 :: t
def cx_672pg_0 (t : List zTg) : List zTg := uG2209 :: uG2311 :: uG2312 :: uG2313 :: uG2184 :: uG2379 :: uG2380 :: uG2314 :: t
def cx_672pg_1 (t : List zTg) : List zTg := uG2524 :: t
def cx_672p : zS := ((cx_672pi_0 (cx_672pi_1 [])), (cx_672pr_0 (cx_672pr_1 (cx_672pr_2 (cx_672pr_3 [])))), [uL1224], [], [uV2, uV11], (cx_672pf_0 (cx_672pf_1 (cx_672pf_2 (cx_672pf_3 [])))), (cx_672pg_0 (cx_672pg_1 [])))
def cx_672q0 : zS := ((cx_672pi_0 (cx_672pi_1 [])), (cx_672pr_0 (cx_672pr_1 (cx_672pr_2 (cx_672pr_3 [])))), [], [], [uV61], [], [uG2184])
/-- M.soon -/
def cx_672 : zCtx := (283, cx_672p, [cx_672q0], [], 19, 2, 42)
set_option maxRecDepth 1000000 in
theorem ck_672 : x_ok mLT1 [cx_564] mTS2 mTC2 mRUp cx_672 [(1, [0])] [] [] (5, []) 14 8 = true := by decide +kernel
theorem sn_672 {W : Bool} {X : List Int32} : y_Snd (mGw W) mLT1 (J2 W X) X cx_672 := y_ok J2_J mTS2_ok1 mTC2_ok1 mRUp_ok1 (List.forall_mem_cons.mpr ⟨sn_564, fun _ h => absurd h List.not_mem_nil⟩) ck_672
def cx_673pi_0 (t : List (Int × Int)) : List (Int × Int) := ui0 :: ui600 :: (0, 1) :: ui49 :: (0, 1) :: (0, 6) :: ui31 :: (0, 6) :: t
def cx_673pi_1 (t : List (Int × Int)) : List (Int × Int) := (0, 6) :: ui49 :: ui49 :: ui194 :: ui194 :: (0, 6) :: ui194 :: t
def cx_673p : zS := ((cx_673pi_0 (cx_673pi_1 [])), (cx_672pr_0 (cx_672pr_1 (cx_672pr_2 (cx_672pr_3 [])))), [uL1224], [], [uV2, uV11], (cx_672pf_0 (cx_672pf_1 (cx_672pf_2 (cx_672pf_3 [])))), (cx_672pg_0 (cx_672pg_1 [])))
def cx_673q0i_0 (t : List (Int × Int)) : List (Int × Int) := ui0 :: ui600 :: (0, 1) :: ui49 :: (0, 1) :: (0, 6) :: ui31 :: (0, 6) :: t
def cx_673q0i_1 (t : List (Int × Int)) : List (Int × Int) := (0, 6) :: ui49 :: ui49 :: ui194 :: ui194 :: (0, 6) :: ui194 :: ui1289 :: t
def cx_673q0 : zS := ((cx_673q0i_0 (cx_673q0i_1 [])), (cx_672pr_0 (cx_672pr_1 (cx_672pr_2 (cx_672pr_3 [])))), [], [], [uV601], [], [uG2184, (238, [uL1290, uL78, uL63, uL63, uL63, uL63, uL63, uL63, uL2525, uL206, uL207])])
def cx_673q1 : zS := ((cx_673pi_0 (cx_673pi_1 [])), (cx_672pr_0 (cx_672pr_1 (cx_672pr_2 (cx_672pr_3 [])))), [], [], [uV583], [], [uG2184, (238, [uL1290, uL78, uL63, uL63, uL63, uL63, uL63, uL63, uL2525, uL206, uL825])])
/-- M.soon -/
def cx_673 : zCtx := (283, cx_673p, [cx_673q0, cx_673q1], kc_86, 1000001332, 6, 129)
def cz_673_0i_0 (t : List (Int × Int)) : List (Int × Int) := ui0 :: ui600 :: (0, 1) :: ui49 :: (0, 1) :: (0, 6) :: ui31 :: (0, 6) :: t
def cz_673_0i_1 (t : List (Int × Int)) : List (Int × Int) := (0, 6) :: ui49 :: ui49 :: ui194 :: ui194 :: (0, 6) :: ui194 :: ui877 :: t
def cz_673_0i_2 (t : List (Int × Int)) : List (Int × Int) := ui194 :: t
def cz_673_0f_0 (t : List zFa) : List zFa := uF2408 :: (0, (false, 49, 0, []), 0, 0, 0, [(16, 1)]) :: uF2162 :: uF1537 :: uF1538 :: uF2169 :: uF2170 :: uF2171 :: t
def cz_673_0f_1 (t : List zFa) : List zFa := uF2172 :: uF2173 :: uF1768 :: uF1769 :: uF2174 :: uF2175 :: uF2176 :: uF2177 :: t
def cz_673_0f_2 (t : List zFa) : List zFa := uF2342 :: uF2377 :: uF2378 :: uF2403 :: uF2404 :: uF2405 :: uF2517 :: uF2518 :: t
def cz_673_0f_3 (t : List zFa) : List zFa := uF2519 :: uF2520 :: uF2521 :: uF2522 :: uF2523 :: t
def cz_673_0g_0 (t : List zTg) : List zTg := uG2209 :: uG2311 :: uG2312 :: uG2313 :: uG2379 :: uG2380 :: uG2314 :: uG2524 :: t
def cz_673_0g_1 (t : List zTg) : List zTg := uG2184 :: (237, [uL79, uL78, uL63, uL63, uL36, uL207, uL63, uL79]) :: (238, [uL1292, uL78, uL63, uL63, uL63, uL63, uL63, uL63, uL2525, uL206, uL207]) :: t
def cz_673_0 : zS := ((cz_673_0i_0 (cz_673_0i_1 (cz_673_0i_2 []))), (cx_672pr_0 (cx_672pr_1 (cx_672pr_2 (cx_672pr_3 [])))), [uL1224, uL207, (61, [(15, (-1))])], [uV2, uV11, uV601], [], (cz_673_0f_0 (cz_673_0f_1 (cz_673_0f_2 (cz_673_0f_3 [])))), (cz_673_0g_0 (cz_673_0g_1 [])))
set_option maxRecDepth 1000000 in
theorem ck_673 : x_ok mLT1 [cx_564, cx_601, cx_629, cx_647, cx_603] mTS2 mTC2 mRUp cx_673 [(1, [0]), (10, [1]), (22, [2]), (26, [3]), (36, [4])] [(13, [1000831, 1001194, 1001195]), (33, [1001196]), (35, [1001197]), (45, [1001199])] [(15, cz_673_0, (887, [(15, (-14))]))] (895, []) 1000000437 16 = true := by decide +kernel
theorem sn_673 {W : Bool} {X : List Int32} : y_Snd (mGw W) mLT1 (J2 W X) X cx_673 := y_ok J2_J mTS2_ok1 mTC2_ok1 mRUp_ok1 (List.forall_mem_cons.mpr ⟨sn_564, List.forall_mem_cons.mpr ⟨sn_601, List.forall_mem_cons.mpr ⟨sn_629, List.forall_mem_cons.mpr ⟨sn_647, List.forall_mem_cons.mpr ⟨sn_603, fun _ h => absurd h List.not_mem_nil⟩⟩⟩⟩⟩) ck_673
def cx_674pi_0 (t : List (Int × Int)) : List (Int × Int) := ui0 :: ui260 :: (0, 1) :: ui49 :: (0, 1) :: (0, 6) :: ui31 :: (0, 6) :: t
def cx_674pi_1 (t : List (Int × Int)) : List (Int × Int) := (0, 6) :: ui49 :: ui49 :: ui194 :: ui194 :: (0, 6) :: ui194 :: t
def cx_674p : zS := ((cx_674pi_0 (cx_674pi_1 [])), (cx_672pr_0 (cx_672pr_1 (cx_672pr_2 (cx_672pr_3 [])))), [uL1224], [], [uV2, uV11], (cx_672pf_0 (cx_672pf_1 (cx_672pf_2 (cx_672pf_3 [])))), (cx_672pg_0 (cx_672pg_1 [])))
def cx_674q0 : zS := ((cx_674pi_0 (cx_674pi_1 [])), (cx_672pr_0 (cx_672pr_1 (cx_672pr_2 (cx_672pr_3 [])))), [], [], [uV61], [], [uG2184])
/-- M.soon -/
def cx_674 : zCtx := (283, cx_674p, [cx_674q0], [], 19, 2, 42)
set_option maxRecDepth 1000000 in
theorem ck_674 : x_ok mLT1 [cx_564] mTS2 mTC2 mRUp cx_674 [(1, [0])] [] [] (5, []) 14 8 = true := by decide +kernel
theorem sn_674 {W : Bool} {X : List Int32} : y_Snd (mGw W) mLT1 (J2 W X) X cx_674 := y_ok J2_J mTS2_ok1 mTC2_ok1 mRUp_ok1 (List.forall_mem_cons.mpr ⟨sn_564, fun _ h => absurd h List.not_mem_nil⟩) ck_674
/-- M.likesMost -/
def cx_675 : zCtx := (286, ([ui0, ui124], [ur1474], [], [], [uV2, uV11], [], []), [([ui0, ui124], [ur1474], [], [], [], [], [])], [], 3, 0, 0)
set_option maxRecDepth 1000000 in
theorem ck_675 : x_ok mLT1 [] mTS2 mTC2 mRUp cx_675 [] [] [] (3, []) 0 6 = true := by decide +kernel
theorem sn_675 {W : Bool} {X : List Int32} : y_Snd (mGw W) mLT1 (J2 W X) X cx_675 := y_ok J2_J mTS2_ok1 mTC2_ok1 mRUp_ok1 (fun _ h => absurd h List.not_mem_nil) ck_675
/-- M.peakOf -/
def cx_676 : zCtx := (279, ([ui0, (0, 1), (0, 6)], [ur1474, ur2429], [], [], [uV2], [uF2028, uF2489, uF2436], []), [([ui0, (0, 1), (0, 6), ui1242, (0, 0)], [ur1474, ur2429], [], [], [uV58], [uF2505], [])], [uk2482, uk2483], 1000000437, 3, 65)
set_option maxRecDepth 1000000 in
theorem ck_676 : x_ok mLT1 [cx_665, cx_666] mTS2 mTC2 mRUp cx_676 [(9, [0]), (16, [1])] [(5, [29])] [(8, ([(0, 3072), (0, 1), (0, 6), ((-2), 2147483647), (0, 6), (0, 1000000)], [(12, false), (87, false)], [], [(2, 0, 0, []), (0, 0, 0, [(3, 1)]), (5, 0, 0, [])], [], [(0, (false, 61, 0, []), 0, 0, 0, [(4, 1)]), (0, (false, 18, 0, []), 0, 0, 0, [(1, 1)]), (0, (false, 60, 0, []), 2, 1, 0, [])], [(8, [(0, [(4, 1)]), (0, []), (0, [(5, 1)])])]), (1000000005, [(5, (-1000))]))] (1000000011, []) 426 17 = true := by decide +kernel
theorem sn_676 {W : Bool} {X : List Int32} : y_Snd (mGw W) mLT1 (J2 W X) X cx_676 := y_ok J2_J mTS2_ok1 mTC2_ok1 mRUp_ok1 (List.forall_mem_cons.mpr ⟨sn_665, List.forall_mem_cons.mpr ⟨sn_666, fun _ h => absurd h List.not_mem_nil⟩⟩) ck_676
/-- M.isPeace -/
def cx_677 : zCtx := (285, ([ui0, ui600, ui124, ui124, (0, 1), (0, 6)], [ur1474], [], [], [uV2, uV11, uV12, uV58], [uF2249, uF2435], []), [([ui0, ui600, ui124, ui124, (0, 1), (0, 6), (0, 0)], [ur1474], [], [], [uV64], [uF2508], []), ([ui0, ui600, ui124, ui124, (0, 1), (0, 6), (0, 0)], [ur1474], [], [], [uV62], [uF2508], [])], [uk2482, uk2526, uk2483], 1000001016, 4, 87)
set_option maxRecDepth 1000000 in
theorem ck_677 : x_ok mLT1 [cx_675, cx_676] mTS2 mTC2 mRUp cx_677 [(32, [0]), (37, [0]), (41, [1])] [] [(3, ([(0, 3072), (0, 999), ((-1), (-1)), ((-1), (-1)), (0, 1), (0, 6), (0, 40)], [(12, false)], [], [(2, 0, 0, []), (0, 0, 0, [(1, 1)]), (0, 0, 0, [(2, 1)]), (0, 0, 0, [(3, 1)]), (0, 0, 0, [(6, 1)])], [], [(0, (false, 18, 0, []), 0, 0, 0, [(4, 1)]), (0, (false, 61, 0, []), 0, 0, 0, [(5, 1)])], []), ((-100000000000), [(2, (-100000000000)), (3, (-576)), (6, (-14))]))] (579, []) 1000000437 19 = true := by decide +kernel
theorem sn_677 {W : Bool} {X : List Int32} : y_Snd (mGw W) mLT1 (J2 W X) X cx_677 := y_ok J2_J mTS2_ok1 mTC2_ok1 mRUp_ok1 (List.forall_mem_cons.mpr ⟨sn_675, List.forall_mem_cons.mpr ⟨sn_676, fun _ h => absurd h List.not_mem_nil⟩⟩) ck_677
/-- M.isPair -/
def cx_678 : zCtx := (287, ([ui0, (0, 9), (0, 1)], [ur1474], [], [], [uV2, uV11], [uF2162], []), [([ui0, (1, 5), (0, 1)], [ur1474], [], [], [uV64], [], []), ([ui0, (1, 9), (0, 1)], [ur1474], [], [], [uV62], [], []), ([ui0, (0, 0), (0, 1)], [ur1474], [], [], [uV62], [], [])], [], 36, 2, 43)
set_option maxRecDepth 1000000 in
theorem ck_678 : x_ok mLT1 [cx_649] mTS2 mTC2 mRUp cx_678 [(16, [0])] [] [] (16, []) 20 19 = true := by decide +kernel
theorem sn_678 {W : Bool} {X : List Int32} : y_Snd (mGw W) mLT1 (J2 W X) X cx_678 := y_ok J2_J mTS2_ok1 mTC2_ok1 mRUp_ok1 (List.forall_mem_cons.mpr ⟨sn_649, fun _ h => absurd h List.not_mem_nil⟩) ck_678
/-- M.isPair -/
def cx_679 : zCtx := (287, ([ui0, (10, 19), (0, 1)], [ur1474], [], [], [uV2, uV11], [uF2162], []), [([ui0, ui2527, (0, 1)], [ur1474], [], [], [uV64], [], []), ([ui0, (12, 19), (0, 1)], [ur1474], [], [], [uV62], [], []), ([ui0, (10, 11), (0, 1)], [ur1474], [], [], [uV62], [], [])], [], 36, 2, 43)
set_option maxRecDepth 1000000 in
theorem ck_679 : x_ok mLT1 [cx_649] mTS2 mTC2 mRUp cx_679 [(16, [0])] [] [] (16, []) 20 19 = true := by decide +kernel
theorem sn_679 {W : Bool} {X : List Int32} : y_Snd (mGw W) mLT1 (J2 W X) X cx_679 := y_ok J2_J mTS2_ok1 mTC2_ok1 mRUp_ok1 (List.forall_mem_cons.mpr ⟨sn_649, fun _ h => absurd h List.not_mem_nil⟩) ck_679
/-- M.isPair -/
def cx_680 : zCtx := (287, ([ui0, ui2022, (0, 1)], [ur1474], [], [], [uV2, uV11], [uF2162], []), [([ui0, ui2528, (0, 1)], [ur1474], [], [], [uV64], [], []), ([ui0, (23, 29), (0, 1)], [ur1474], [], [], [uV62], [], []), ([ui0, (20, 22), (0, 1)], [ur1474], [], [], [uV62], [], [])], [], 36, 2, 43)
set_option maxRecDepth 1000000 in
theorem ck_680 : x_ok mLT1 [cx_649] mTS2 mTC2 mRUp cx_680 [(16, [0])] [] [] (16, []) 20 19 = true := by decide +kernel
theorem sn_680 {W : Bool} {X : List Int32} : y_Snd (mGw W) mLT1 (J2 W X) X cx_680 := y_ok J2_J mTS2_ok1 mTC2_ok1 mRUp_ok1 (List.forall_mem_cons.mpr ⟨sn_649, fun _ h => absurd h List.not_mem_nil⟩) ck_680
/-- M.isPair -/
def cx_681 : zCtx := (287, ([ui0, (30, 39), (0, 1)], [ur1474], [], [], [uV2, uV11], [uF2162], []), [([ui0, ui2529, (0, 1)], [ur1474], [], [], [uV64], [], []), ([ui0, (34, 39), (0, 1)], [ur1474], [], [], [uV62], [], []), ([ui0, (30, 33), (0, 1)], [ur1474], [], [], [uV62], [], [])], [], 36, 2, 43)
set_option maxRecDepth 1000000 in
theorem ck_681 : x_ok mLT1 [cx_649] mTS2 mTC2 mRUp cx_681 [(16, [0])] [] [] (16, []) 20 19 = true := by decide +kernel
theorem sn_681 {W : Bool} {X : List Int32} : y_Snd (mGw W) mLT1 (J2 W X) X cx_681 := y_ok J2_J mTS2_ok1 mTC2_ok1 mRUp_ok1 (List.forall_mem_cons.mpr ⟨sn_649, fun _ h => absurd h List.not_mem_nil⟩) ck_681
/-- M.isPair -/
def cx_682 : zCtx := (287, ([ui0, (40, 49), (0, 1)], [ur1474], [], [], [uV2, uV11], [uF2162], []), [([ui0, ui2530, (0, 1)], [ur1474], [], [], [uV64], [], []), ([ui0, (45, 49), (0, 1)], [ur1474], [], [], [uV62], [], []), ([ui0, (40, 44), (0, 1)], [ur1474], [], [], [uV62], [], [])], [], 36, 2, 43)
set_option maxRecDepth 1000000 in
theorem ck_682 : x_ok mLT1 [cx_649] mTS2 mTC2 mRUp cx_682 [(16, [0])] [] [] (16, []) 20 19 = true := by decide +kernel
theorem sn_682 {W : Bool} {X : List Int32} : y_Snd (mGw W) mLT1 (J2 W X) X cx_682 := y_ok J2_J mTS2_ok1 mTC2_ok1 mRUp_ok1 (List.forall_mem_cons.mpr ⟨sn_649, fun _ h => absurd h List.not_mem_nil⟩) ck_682
/-- M.isPair -/
def cx_683 : zCtx := (287, ([ui0, (50, 59), (0, 1)], [ur1474], [], [], [uV2, uV11], [uF2162], []), [([ui0, (56, 59), (0, 1)], [ur1474], [], [], [uV62], [], []), ([ui0, (50, 55), (0, 1)], [ur1474], [], [], [uV62], [], [])], [], 35, 2, 43)
set_option maxRecDepth 1000000 in
theorem ck_683 : x_ok mLT1 [cx_649] mTS2 mTC2 mRUp cx_683 [(16, [0])] [] [] (15, []) 20 18 = true := by decide +kernel
theorem sn_683 {W : Bool} {X : List Int32} : y_Snd (mGw W) mLT1 (J2 W X) X cx_683 := y_ok J2_J mTS2_ok1 mTC2_ok1 mRUp_ok1 (List.forall_mem_cons.mpr ⟨sn_649, fun _ h => absurd h List.not_mem_nil⟩) ck_683
/-- M.likesMost -/
def cx_684 : zCtx := (286, ([ui0, (1, 5)], [ur1474], [], [], [uV2, uV11], [], []), [([ui0, (1, 5)], [ur1474], [], [], [], [], [])], [uk2526], 43, 0, 0)
set_option maxRecDepth 1000000 in
theorem ck_684 : x_ok mLT1 [] mTS2 mTC2 mRUp cx_684 [] [] [] (43, []) 0 46 = true := by decide +kernel
theorem sn_684 {W : Bool} {X : List Int32} : y_Snd (mGw W) mLT1 (J2 W X) X cx_684 := y_ok J2_J mTS2_ok1 mTC2_ok1 mRUp_ok1 (fun _ h => absurd h List.not_mem_nil) ck_684
/-- M.isPeace -/
def cx_685 : zCtx := (285, ([ui0, ui600, (1, 5), ui124, (0, 1), (0, 0)], [ur1474], [], [], [uV2, uV11, uV12, uV58], [uF2249, uF2435], []), [([ui0, ui600, (1, 5), ui124, (0, 1), (0, 0), (0, 0)], [ur1474], [], [], [uV64], [uF2508], []), ([ui0, ui600, (1, 5), ui124, (0, 1), (0, 0), (0, 0)], [ur1474], [], [], [uV62], [uF2508], [])], [uk2482, uk2526, uk2483], 1000001016, 4, 87)
set_option maxRecDepth 1000000 in
theorem ck_685 : x_ok mLT1 [cx_684, cx_675, cx_676] mTS2 mTC2 mRUp cx_685 [(32, [0]), (37, [1]), (41, [2])] [] [(3, ([(0, 3072), (0, 999), (1, 5), ((-1), (-1)), (0, 1), (0, 0), (0, 40)], [(12, false)], [], [(2, 0, 0, []), (0, 0, 0, [(1, 1)]), (0, 0, 0, [(2, 1)]), (0, 0, 0, [(3, 1)]), (0, 0, 0, [(6, 1)])], [], [(0, (false, 18, 0, []), 0, 0, 0, [(4, 1)]), (0, (false, 61, 0, []), 0, 0, 0, [(5, 1)])], []), ((-99999999424), [(3, (-100000000000)), (5, (-100000000000)), (6, (-14))]))] (579, []) 1000000437 19 = true := by decide +kernel
theorem sn_685 {W : Bool} {X : List Int32} : y_Snd (mGw W) mLT1 (J2 W X) X cx_685 := y_ok J2_J mTS2_ok1 mTC2_ok1 mRUp_ok1 (List.forall_mem_cons.mpr ⟨sn_684, List.forall_mem_cons.mpr ⟨sn_675, List.forall_mem_cons.mpr ⟨sn_676, fun _ h => absurd h List.not_mem_nil⟩⟩⟩) ck_685
/-- M.likesMost -/
def cx_686 : zCtx := (286, ([ui0, ui2527], [ur1474], [], [], [uV2, uV11], [], []), [([ui0, ui2527], [ur1474], [], [], [], [], [])], [uk2526], 43, 0, 0)
set_option maxRecDepth 1000000 in
theorem ck_686 : x_ok mLT1 [] mTS2 mTC2 mRUp cx_686 [] [] [] (43, []) 0 46 = true := by decide +kernel
theorem sn_686 {W : Bool} {X : List Int32} : y_Snd (mGw W) mLT1 (J2 W X) X cx_686 := y_ok J2_J mTS2_ok1 mTC2_ok1 mRUp_ok1 (fun _ h => absurd h List.not_mem_nil) ck_686
/-- M.isPeace -/
def cx_687 : zCtx := (285, ([ui0, ui600, ui2527, ui124, (0, 1), (0, 0)], [ur1474], [], [], [uV2, uV11, uV12, uV58], [uF2249, uF2435], []), [([ui0, ui600, ui2527, ui124, (0, 1), (0, 0), (0, 0)], [ur1474], [], [], [uV64], [uF2508], []), ([ui0, ui600, ui2527, ui124, (0, 1), (0, 0), (0, 0)], [ur1474], [], [], [uV62], [uF2508], [])], [uk2482, uk2526, uk2483], 1000001016, 4, 87)
set_option maxRecDepth 1000000 in
theorem ck_687 : x_ok mLT1 [cx_686, cx_675, cx_676] mTS2 mTC2 mRUp cx_687 [(32, [0]), (37, [1]), (41, [2])] [] [(3, ([(0, 3072), (0, 999), (12, 15), ((-1), (-1)), (0, 1), (0, 0), (0, 40)], [(12, false)], [], [(2, 0, 0, []), (0, 0, 0, [(1, 1)]), (0, 0, 0, [(2, 1)]), (0, 0, 0, [(3, 1)]), (0, 0, 0, [(6, 1)])], [], [(0, (false, 18, 0, []), 0, 0, 0, [(4, 1)]), (0, (false, 61, 0, []), 0, 0, 0, [(5, 1)])], []), ((-99999999424), [(3, (-100000000000)), (5, (-100000000000)), (6, (-14))]))] (579, []) 1000000437 19 = true := by decide +kernel
theorem sn_687 {W : Bool} {X : List Int32} : y_Snd (mGw W) mLT1 (J2 W X) X cx_687 := y_ok J2_J mTS2_ok1 mTC2_ok1 mRUp_ok1 (List.forall_mem_cons.mpr ⟨sn_686, List.forall_mem_cons.mpr ⟨sn_675, List.forall_mem_cons.mpr ⟨sn_676, fun _ h => absurd h List.not_mem_nil⟩⟩⟩) ck_687
/-- M.likesMost -/
def cx_688 : zCtx := (286, ([ui0, ui2528], [ur1474], [], [], [uV2, uV11], [], []), [([ui0, ui2528], [ur1474], [], [], [], [], [])], [uk2526], 43, 0, 0)
set_option maxRecDepth 1000000 in
theorem ck_688 : x_ok mLT1 [] mTS2 mTC2 mRUp cx_688 [] [] [] (43, []) 0 46 = true := by decide +kernel
theorem sn_688 {W : Bool} {X : List Int32} : y_Snd (mGw W) mLT1 (J2 W X) X cx_688 := y_ok J2_J mTS2_ok1 mTC2_ok1 mRUp_ok1 (fun _ h => absurd h List.not_mem_nil) ck_688
/-- M.isPeace -/
def cx_689 : zCtx := (285, ([ui0, ui600, ui2528, ui124, (0, 1), (0, 0)], [ur1474], [], [], [uV2, uV11, uV12, uV58], [uF2249, uF2435], []), [([ui0, ui600, ui2528, ui124, (0, 1), (0, 0), (0, 0)], [ur1474], [], [], [uV64], [uF2508], []), ([ui0, ui600, ui2528, ui124, (0, 1), (0, 0), (0, 0)], [ur1474], [], [], [uV62], [uF2508], [])], [uk2482, uk2526, uk2483], 1000001016, 4, 87)
set_option maxRecDepth 1000000 in
theorem ck_689 : x_ok mLT1 [cx_688, cx_675, cx_676] mTS2 mTC2 mRUp cx_689 [(32, [0]), (37, [1]), (41, [2])] [] [(3, ([(0, 3072), (0, 999), (23, 25), ((-1), (-1)), (0, 1), (0, 0), (0, 40)], [(12, false)], [], [(2, 0, 0, []), (0, 0, 0, [(1, 1)]), (0, 0, 0, [(2, 1)]), (0, 0, 0, [(3, 1)]), (0, 0, 0, [(6, 1)])], [], [(0, (false, 18, 0, []), 0, 0, 0, [(4, 1)]), (0, (false, 61, 0, []), 0, 0, 0, [(5, 1)])], []), ((-99999999424), [(3, (-100000000000)), (5, (-100000000000)), (6, (-14))]))] (579, []) 1000000437 19 = true := by decide +kernel
theorem sn_689 {W : Bool} {X : List Int32} : y_Snd (mGw W) mLT1 (J2 W X) X cx_689 := y_ok J2_J mTS2_ok1 mTC2_ok1 mRUp_ok1 (List.forall_mem_cons.mpr ⟨sn_688, List.forall_mem_cons.mpr ⟨sn_675, List.forall_mem_cons.mpr ⟨sn_676, fun _ h => absurd h List.not_mem_nil⟩⟩⟩) ck_689
/-- M.likesMost -/
def cx_690 : zCtx := (286, ([ui0, ui2529], [ur1474], [], [], [uV2, uV11], [], []), [([ui0, ui2529], [ur1474], [], [], [], [], [])], [uk2526], 43, 0, 0)
set_option maxRecDepth 1000000 in
theorem ck_690 : x_ok mLT1 [] mTS2 mTC2 mRUp cx_690 [] [] [] (43, []) 0 46 = true := by decide +kernel
theorem sn_690 {W : Bool} {X : List Int32} : y_Snd (mGw W) mLT1 (J2 W X) X cx_690 := y_ok J2_J mTS2_ok1 mTC2_ok1 mRUp_ok1 (fun _ h => absurd h List.not_mem_nil) ck_690
/-- M.isPeace -/
def cx_691 : zCtx := (285, ([ui0, ui600, ui2529, ui124, (0, 1), (0, 0)], [ur1474], [], [], [uV2, uV11, uV12, uV58], [uF2249, uF2435], []), [([ui0, ui600, ui2529, ui124, (0, 1), (0, 0), (0, 0)], [ur1474], [], [], [uV64], [uF2508], []), ([ui0, ui600, ui2529, ui124, (0, 1), (0, 0), (0, 0)], [ur1474], [], [], [uV62], [uF2508], [])], [uk2482, uk2526, uk2483], 1000001016, 4, 87)
set_option maxRecDepth 1000000 in
theorem ck_691 : x_ok mLT1 [cx_690, cx_675, cx_676] mTS2 mTC2 mRUp cx_691 [(32, [0]), (37, [1]), (41, [2])] [] [(3, ([(0, 3072), (0, 999), (34, 35), ((-1), (-1)), (0, 1), (0, 0), (0, 40)], [(12, false)], [], [(2, 0, 0, []), (0, 0, 0, [(1, 1)]), (0, 0, 0, [(2, 1)]), (0, 0, 0, [(3, 1)]), (0, 0, 0, [(6, 1)])], [], [(0, (false, 18, 0, []), 0, 0, 0, [(4, 1)]), (0, (false, 61, 0, []), 0, 0, 0, [(5, 1)])], []), ((-99999999424), [(3, (-100000000000)), (5, (-100000000000)), (6, (-14))]))] (579, []) 1000000437 19 = true := by decide +kernel
theorem sn_691 {W : Bool} {X : List Int32} : y_Snd (mGw W) mLT1 (J2 W X) X cx_691 := y_ok J2_J mTS2_ok1 mTC2_ok1 mRUp_ok1 (List.forall_mem_cons.mpr ⟨sn_690, List.forall_mem_cons.mpr ⟨sn_675, List.forall_mem_cons.mpr ⟨sn_676, fun _ h => absurd h List.not_mem_nil⟩⟩⟩) ck_691
/-- M.likesMost -/
def cx_692 : zCtx := (286, ([ui0, ui2530], [ur1474], [], [], [uV2, uV11], [], []), [([ui0, ui2530], [ur1474], [], [], [], [], [])], [uk2526], 43, 0, 0)
set_option maxRecDepth 1000000 in
theorem ck_692 : x_ok mLT1 [] mTS2 mTC2 mRUp cx_692 [] [] [] (43, []) 0 46 = true := by decide +kernel
theorem sn_692 {W : Bool} {X : List Int32} : y_Snd (mGw W) mLT1 (J2 W X) X cx_692 := y_ok J2_J mTS2_ok1 mTC2_ok1 mRUp_ok1 (fun _ h => absurd h List.not_mem_nil) ck_692
/-- M.isPeace -/
def cx_693 : zCtx := (285, ([ui0, ui600, ui2530, ui124, (0, 1), (0, 0)], [ur1474], [], [], [uV2, uV11, uV12, uV58], [uF2249, uF2435], []), [([ui0, ui600, ui2530, ui124, (0, 1), (0, 0), (0, 0)], [ur1474], [], [], [uV64], [uF2508], []), ([ui0, ui600, ui2530, ui124, (0, 1), (0, 0), (0, 0)], [ur1474], [], [], [uV62], [uF2508], [])], [uk2482, uk2526, uk2483], 1000003332, 4, 87)
set_option maxRecDepth 1000000 in
theorem ck_693 : x_ok mLT1 [cx_692, cx_675, cx_676] mTS2 mTC2 mRUp cx_693 [(32, [0]), (37, [1]), (41, [2])] [] [(3, ([(0, 3072), (0, 999), (45, 45), ((-1), (-1)), (0, 1), (0, 0), (0, 40)], [(12, false)], [], [(2, 0, 0, []), (0, 0, 0, [(1, 1)]), (0, 0, 0, [(2, 1)]), (0, 0, 0, [(3, 1)]), (0, 0, 0, [(6, 1)])], [], [(0, (false, 18, 0, []), 0, 0, 0, [(4, 1)]), (0, (false, 61, 0, []), 0, 0, 0, [(5, 1)])], []), ((-500000000000), [(2, 64), (3, (-500000000000)), (5, (-500000000000)), (6, (-70))]))] (2895, []) 1000000437 19 = true := by decide +kernel
theorem sn_693 {W : Bool} {X : List Int32} : y_Snd (mGw W) mLT1 (J2 W X) X cx_693 := y_ok J2_J mTS2_ok1 mTC2_ok1 mRUp_ok1 (List.forall_mem_cons.mpr ⟨sn_692, List.forall_mem_cons.mpr ⟨sn_675, List.forall_mem_cons.mpr ⟨sn_676, fun _ h => absurd h List.not_mem_nil⟩⟩⟩) ck_693
/-- M.isPair -/
def cx_694 : zCtx := (287, ([ui0, ui2531, (0, 1)], [ur1474], [], [], [uV2, uV11], [uF2162], []), [([ui0, ui2531, (0, 1)], [ur1474], [], [], [uV62], [], [])], [], 9, 0, 0)
set_option maxRecDepth 1000000 in
theorem ck_694 : x_ok mLT1 [] mTS2 mTC2 mRUp cx_694 [] [] [] (9, []) 0 12 = true := by decide +kernel
theorem sn_694 {W : Bool} {X : List Int32} : y_Snd (mGw W) mLT1 (J2 W X) X cx_694 := y_ok J2_J mTS2_ok1 mTC2_ok1 mRUp_ok1 (fun _ h => absurd h List.not_mem_nil) ck_694
/-- M.isPeace -/
def cx_695 : zCtx := (285, ([ui0, ui600, (1, 5), (1, 5), (0, 1), (0, 0)], [ur1474], [], [], [uV2, uV11, uV12, uV58], [uF2249, uF2435], []), [([ui0, ui600, (1, 5), (1, 5), (0, 1), (0, 0), (0, 0)], [ur1474], [], [], [uV64], [uF2508], []), ([ui0, ui600, (1, 5), (1, 5), (0, 1), (0, 0), (0, 0)], [ur1474], [], [], [uV62], [uF2508], [])], [uk2482, uk2526, uk2483], 1000001016, 4, 87)
set_option maxRecDepth 1000000 in
theorem ck_695 : x_ok mLT1 [cx_684, cx_676] mTS2 mTC2 mRUp cx_695 [(32, [0]), (37, [0]), (41, [1])] [] [(3, ([(0, 3072), (0, 999), (1, 5), (1, 5), (0, 1), (0, 0), (0, 40)], [(12, false)], [], [(2, 0, 0, []), (0, 0, 0, [(1, 1)]), (0, 0, 0, [(2, 1)]), (0, 0, 0, [(3, 1)]), (0, 0, 0, [(6, 1)])], [], [(0, (false, 18, 0, []), 0, 0, 0, [(4, 1)]), (0, (false, 61, 0, []), 0, 0, 0, [(5, 1)])], []), (576, [(5, (-100000000000)), (6, (-14))]))] (579, []) 1000000437 19 = true := by decide +kernel
theorem sn_695 {W : Bool} {X : List Int32} : y_Snd (mGw W) mLT1 (J2 W X) X cx_695 := y_ok J2_J mTS2_ok1 mTC2_ok1 mRUp_ok1 (List.forall_mem_cons.mpr ⟨sn_684, List.forall_mem_cons.mpr ⟨sn_676, fun _ h => absurd h List.not_mem_nil⟩⟩) ck_695
/-- M.isPeace -/
def cx_696 : zCtx := (285, ([ui0, ui600, (1, 5), ui2527, (0, 1), (0, 0)], [ur1474], [], [], [uV2, uV11, uV12, uV58], [uF2249, uF2435], []), [([ui0, ui600, (1, 5), ui2527, (0, 1), (0, 0), (0, 0)], [ur1474], [], [], [uV64], [uF2508], []), ([ui0, ui600, (1, 5), ui2527, (0, 1), (0, 0), (0, 0)], [ur1474], [], [], [uV62], [uF2508], [])], [uk2482, uk2526, uk2483], 1000001016, 4, 87)
set_option maxRecDepth 1000000 in
theorem ck_696 : x_ok mLT1 [cx_684, cx_686, cx_676] mTS2 mTC2 mRUp cx_696 [(32, [0]), (37, [1]), (41, [2])] [] [(3, ([(0, 3072), (0, 999), (1, 5), (12, 15), (0, 1), (0, 0), (0, 40)], [(12, false)], [], [(2, 0, 0, []), (0, 0, 0, [(1, 1)]), (0, 0, 0, [(2, 1)]), (0, 0, 0, [(3, 1)]), (0, 0, 0, [(6, 1)])], [], [(0, (false, 18, 0, []), 0, 0, 0, [(4, 1)]), (0, (false, 61, 0, []), 0, 0, 0, [(5, 1)])], []), (576, [(5, (-100000000000)), (6, (-14))]))] (579, []) 1000000437 19 = true := by decide +kernel
theorem sn_696 {W : Bool} {X : List Int32} : y_Snd (mGw W) mLT1 (J2 W X) X cx_696 := y_ok J2_J mTS2_ok1 mTC2_ok1 mRUp_ok1 (List.forall_mem_cons.mpr ⟨sn_684, List.forall_mem_cons.mpr ⟨sn_686, List.forall_mem_cons.mpr ⟨sn_676, fun _ h => absurd h List.not_mem_nil⟩⟩⟩) ck_696
/-- M.isPeace -/
def cx_697 : zCtx := (285, ([ui0, ui600, (1, 5), ui2528, (0, 1), (0, 0)], [ur1474], [], [], [uV2, uV11, uV12, uV58], [uF2249, uF2435], []), [([ui0, ui600, (1, 5), ui2528, (0, 1), (0, 0), (0, 0)], [ur1474], [], [], [uV64], [uF2508], []), ([ui0, ui600, (1, 5), ui2528, (0, 1), (0, 0), (0, 0)], [ur1474], [], [], [uV62], [uF2508], [])], [uk2482, uk2526, uk2483], 1000001016, 4, 87)
set_option maxRecDepth 1000000 in
theorem ck_697 : x_ok mLT1 [cx_684, cx_688, cx_676] mTS2 mTC2 mRUp cx_697 [(32, [0]), (37, [1]), (41, [2])] [] [(3, ([(0, 3072), (0, 999), (1, 5), (23, 25), (0, 1), (0, 0), (0, 40)], [(12, false)], [], [(2, 0, 0, []), (0, 0, 0, [(1, 1)]), (0, 0, 0, [(2, 1)]), (0, 0, 0, [(3, 1)]), (0, 0, 0, [(6, 1)])], [], [(0, (false, 18, 0, []), 0, 0, 0, [(4, 1)]), (0, (false, 61, 0, []), 0, 0, 0, [(5, 1)])], []), (576, [(5, (-100000000000)), (6, (-14))]))] (579, []) 1000000437 19 = true := by decide +kernel
theorem sn_697 {W : Bool} {X : List Int32} : y_Snd (mGw W) mLT1 (J2 W X) X cx_697 := y_ok J2_J mTS2_ok1 mTC2_ok1 mRUp_ok1 (List.forall_mem_cons.mpr ⟨sn_684, List.forall_mem_cons.mpr ⟨sn_688, List.forall_mem_cons.mpr ⟨sn_676, fun _ h => absurd h List.not_mem_nil⟩⟩⟩) ck_697
/-- M.isPeace -/
def cx_698 : zCtx := (285, ([ui0, ui600, (1, 5), ui2529, (0, 1), (0, 0)], [ur1474], [], [], [uV2, uV11, uV12, uV58], [uF2249, uF2435], []), [([ui0, ui600, (1, 5), ui2529, (0, 1), (0, 0), (0, 0)], [ur1474], [], [], [uV64], [uF2508], []), ([ui0, ui600, (1, 5), ui2529, (0, 1), (0, 0), (0, 0)], [ur1474], [], [], [uV62], [uF2508], [])], [uk2482, uk2526, uk2483], 1000001016, 4, 87)
set_option maxRecDepth 1000000 in
theorem ck_698 : x_ok mLT1 [cx_684, cx_690, cx_676] mTS2 mTC2 mRUp cx_698 [(32, [0]), (37, [1]), (41, [2])] [] [(3, ([(0, 3072), (0, 999), (1, 5), (34, 35), (0, 1), (0, 0), (0, 40)], [(12, false)], [], [(2, 0, 0, []), (0, 0, 0, [(1, 1)]), (0, 0, 0, [(2, 1)]), (0, 0, 0, [(3, 1)]), (0, 0, 0, [(6, 1)])], [], [(0, (false, 18, 0, []), 0, 0, 0, [(4, 1)]), (0, (false, 61, 0, []), 0, 0, 0, [(5, 1)])], []), (576, [(5, (-100000000000)), (6, (-14))]))] (579, []) 1000000437 19 = true := by decide +kernel
theorem sn_698 {W : Bool} {X : List Int32} : y_Snd (mGw W) mLT1 (J2 W X) X cx_698 := y_ok J2_J mTS2_ok1 mTC2_ok1 mRUp_ok1 (List.forall_mem_cons.mpr ⟨sn_684, List.forall_mem_cons.mpr ⟨sn_690, List.forall_mem_cons.mpr ⟨sn_676, fun _ h => absurd h List.not_mem_nil⟩⟩⟩) ck_698
/-- M.isPeace -/
def cx_699 : zCtx := (285, ([ui0, ui600, (1, 5), ui2530, (0, 1), (0, 0)], [ur1474], [], [], [uV2, uV11, uV12, uV58], [uF2249, uF2435], []), [([ui0, ui600, (1, 5), ui2530, (0, 1), (0, 0), (0, 0)], [ur1474], [], [], [uV64], [uF2508], []), ([ui0, ui600, (1, 5), ui2530, (0, 1), (0, 0), (0, 0)], [ur1474], [], [], [uV62], [uF2508], [])], [uk2482, uk2526, uk2483], 1000026492, 4, 87)
set_option maxRecDepth 1000000 in
theorem ck_699 : x_ok mLT1 [cx_684, cx_692, cx_676] mTS2 mTC2 mRUp cx_699 [(32, [0]), (37, [1]), (41, [2])] [] [(3, ([(0, 3072), (0, 999), (1, 5), (45, 45), (0, 1), (0, 0), (0, 40)], [(12, false)], [], [(2, 0, 0, []), (0, 0, 0, [(1, 1)]), (0, 0, 0, [(2, 1)]), (0, 0, 0, [(3, 1)]), (0, 0, 0, [(6, 1)])], [], [(0, (false, 18, 0, []), 0, 0, 0, [(4, 1)]), (0, (false, 61, 0, []), 0, 0, 0, [(5, 1)])], []), ((-4500000000000), [(3, 100000000576), (5, (-4500000000000)), (6, (-630))]))] (26055, []) 1000000437 19 = true := by decide +kernel
theorem sn_699 {W : Bool} {X : List Int32} : y_Snd (mGw W) mLT1 (J2 W X) X cx_699 := y_ok J2_J mTS2_ok1 mTC2_ok1 mRUp_ok1 (List.forall_mem_cons.mpr ⟨sn_684, List.forall_mem_cons.mpr ⟨sn_692, List.forall_mem_cons.mpr ⟨sn_676, fun _ h => absurd h List.not_mem_nil⟩⟩⟩) ck_699
end
