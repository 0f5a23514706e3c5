noncomputable section
/-! ===== readings, by program, checked by the kernel ===== -/
/-- M.nextFrom -/
def cx_638 : zCtx := (275, ([ui0, (0, 5), ui49, ui49, ui49, ui49, ui49, ui49, ui49], [ur1474, ur2429, ur2430], [], [], [uV2, uV388], [uF2466, uF2436, uF2473], [uG2474]), [([ui0, (0, 5), ui49, ui49, ui49, ui49, ui49, ui49, ui49], [ur1474, ur2429, ur2430], [], [], [uV388], [], [uG2469, (333, [uL67, uL23, uL98, uL104, uL78, uL79, uL131, uL114, uL9, uL114])]), ([ui0, (0, 5), ui49, ui49, ui49, ui49, ui49, ui49, ui49], [ur1474, ur2429, ur2430], [], [], [uV384], [], [uG2470, (333, [uL67, uL23, uL98, uL104, uL78, uL79, uL131, uL114, uL9, uL209])]), ([ui0, (0, 5), ui49, ui49, ui49, ui49, ui49, ui49, ui49], [ur1474, ur2429, ur2430], [], [], [uV380], [], [uG2471, (333, [uL67, uL23, uL98, uL104, uL78, uL79, uL131, uL114, uL9, uL36])]), ([ui0, (0, 5), ui49, ui49, ui49, ui49, ui49, ui49, ui49], [ur1474, ur2429, ur2430], [], [], [uV3], [], [uG2472, (333, [uL67, uL23, uL98, uL104, uL78, uL79, uL131, uL114, uL9, uL244])]), ([ui0, (0, 5), ui49, ui49, ui49, ui49, ui49, ui49, ui49], [ur1474, ur2429, ur2430], [], [], [uV61], [], [(333, [uL67, uL23, uL98, uL104, uL78, uL79, uL131, uL114, uL9, uL99])])], [], 150, 1, 22)
set_option maxRecDepth 1000000 in
theorem ck_638 : x_ok mLT1 [cx_632, cx_633, cx_634, cx_635] mTS2 mTC2 mRUp cx_638 [(19, [0, 1, 2, 3])] [(0, [1001113]), (26, [1001116]), (27, uN2475), (34, [1001119])] [] (63, []) 87 66 = true := by decide +kernel
theorem sn_638 {W : Bool} {X : List Int32} : y_Snd (mGw W) mLT1 (J2 W X) X cx_638 := y_ok J2_J mTS2_ok1 mTC2_ok1 mRUp_ok1 (List.forall_mem_cons.mpr ⟨sn_632, List.forall_mem_cons.mpr ⟨sn_633, List.forall_mem_cons.mpr ⟨sn_634, List.forall_mem_cons.mpr ⟨sn_635, fun _ h => absurd h List.not_mem_nil⟩⟩⟩⟩) ck_638
/-- M.nextFrom -/
def cx_639 : zCtx := (275, ([ui0, (0, 5), ui49, ui49, ui49, ui49, ui49, ui49, ui49], [ur1474, ur2429, ur2430], [], [], [uV2, uV384], [uF2466, uF2436, uF2473], [uG2474]), [([ui0, (0, 5), ui49, ui49, ui49, ui49, ui49, ui49, ui49], [ur1474, ur2429, ur2430], [], [], [uV384], [], [uG2470, (333, [uL67, uL23, uL98, uL104, uL78, uL79, uL131, uL209, uL9, uL209])]), ([ui0, (0, 5), ui49, ui49, ui49, ui49, ui49, ui49, ui49], [ur1474, ur2429, ur2430], [], [], [uV380], [], [uG2471, (333, [uL67, uL23, uL98, uL104, uL78, uL79, uL131, uL209, uL9, uL36])]), ([ui0, (0, 5), ui49, ui49, ui49, ui49, ui49, ui49, ui49], [ur1474, ur2429, ur2430], [], [], [uV3], [], [uG2472, (333, [uL67, uL23, uL98, uL104, uL78, uL79, uL131, uL209, uL9, uL244])]), ([ui0, (0, 5), ui49, ui49, ui49, ui49, ui49, ui49, ui49], [ur1474, ur2429, ur2430], [], [], [uV61], [], [(333, [uL67, uL23, uL98, uL104, uL78, uL79, uL131, uL209, uL9, uL99])])], [], 136, 1, 22)
set_option maxRecDepth 1000000 in
theorem ck_639 : x_ok mLT1 [cx_633, cx_634, cx_635] mTS2 mTC2 mRUp cx_639 [(19, [0, 1, 2])] [(0, [1001113]), (26, [1001116]), (27, uN2475), (34, [1001119])] [] (49, []) 87 52 = true := by decide +kernel
theorem sn_639 {W : Bool} {X : List Int32} : y_Snd (mGw W) mLT1 (J2 W X) X cx_639 := y_ok J2_J mTS2_ok1 mTC2_ok1 mRUp_ok1 (List.forall_mem_cons.mpr ⟨sn_633, List.forall_mem_cons.mpr ⟨sn_634, List.forall_mem_cons.mpr ⟨sn_635, fun _ h => absurd h List.not_mem_nil⟩⟩⟩) ck_639
/-- M.nextFrom -/
def cx_640 : zCtx := (275, ([ui0, (0, 5), ui49, ui49, ui49, ui49, ui49, ui49, ui49], [ur1474, ur2429, ur2430], [], [], [uV2, uV380], [uF2466, uF2436, uF2473], [uG2474]), [([ui0, (0, 5), ui49, ui49, ui49, ui49, ui49, ui49, ui49], [ur1474, ur2429, ur2430], [], [], [uV380], [], [uG2471, (333, [uL67, uL23, uL98, uL104, uL78, uL79, uL131, uL36, uL9, uL36])]), ([ui0, (0, 5), ui49, ui49, ui49, ui49, ui49, ui49, ui49], [ur1474, ur2429, ur2430], [], [], [uV3], [], [uG2472, (333, [uL67, uL23, uL98, uL104, uL78, uL79, uL131, uL36, uL9, uL244])]), ([ui0, (0, 5), ui49, ui49, ui49, ui49, ui49, ui49, ui49], [ur1474, ur2429, ur2430], [], [], [uV61], [], [(333, [uL67, uL23, uL98, uL104, uL78, uL79, uL131, uL36, uL9, uL99])])], [], 122, 1, 22)
set_option maxRecDepth 1000000 in
theorem ck_640 : x_ok mLT1 [cx_634, cx_635] mTS2 mTC2 mRUp cx_640 [(19, [0, 1])] [(0, [1001113]), (26, [1001116]), (27, uN2475), (34, [1001119])] [] (35, []) 87 38 = true := by decide +kernel
theorem sn_640 {W : Bool} {X : List Int32} : y_Snd (mGw W) mLT1 (J2 W X) X cx_640 := y_ok J2_J mTS2_ok1 mTC2_ok1 mRUp_ok1 (List.forall_mem_cons.mpr ⟨sn_634, List.forall_mem_cons.mpr ⟨sn_635, fun _ h => absurd h List.not_mem_nil⟩⟩) ck_640
/-- M.nextFrom -/
def cx_641 : zCtx := (275, ([ui0, (0, 5), ui49, ui49, ui49, ui49, ui49, ui49, ui49], [ur1474, ur2429, ur2430], [], [], [uV2, uV3], [uF2466, uF2436, uF2473], [uG2474]), [([ui0, (0, 5), ui49, ui49, ui49, ui49, ui49, ui49, ui49], [ur1474, ur2429, ur2430], [], [], [uV3], [], [uG2472, (333, [uL67, uL23, uL98, uL104, uL78, uL79, uL131, uL244, uL9, uL244])]), ([ui0, (0, 5), ui49, ui49, ui49, ui49, ui49, ui49, ui49], [ur1474, ur2429, ur2430], [], [], [uV61], [], [(333, [uL67, uL23, uL98, uL104, uL78, uL79, uL131, uL244, uL9, uL99])])], [], 108, 1, 22)
set_option maxRecDepth 1000000 in
theorem ck_641 : x_ok mLT1 [cx_635] mTS2 mTC2 mRUp cx_641 [(19, [0])] [(0, [1001113]), (26, [1001116]), (27, uN2475), (34, [1001119])] [] (21, []) 87 24 = true := by decide +kernel
theorem sn_641 {W : Bool} {X : List Int32} : y_Snd (mGw W) mLT1 (J2 W X) X cx_641 := y_ok J2_J mTS2_ok1 mTC2_ok1 mRUp_ok1 (List.forall_mem_cons.mpr ⟨sn_635, fun _ h => absurd h List.not_mem_nil⟩) ck_641
/-- M.nextFrom -/
def cx_642 : zCtx := (275, ([ui0, (0, 5), ui49, ui49, ui49, ui49, ui49, ui49, ui49], [ur1474, ur2429, ur2430], [], [], [uV2, uV314], [uF2466, uF2436, uF2473], [uG2474]), [([ui0, (0, 5), ui49, ui49, ui49, ui49, ui49, ui49, ui49], [ur1474, ur2429, ur2430], [], [], [uV61], [], [(333, [uL67, uL23, uL98, uL104, uL78, uL79, uL131, uL250, uL9, uL99])])], [], 7, 0, 0)
set_option maxRecDepth 1000000 in
theorem ck_642 : x_ok mLT1 [] mTS2 mTC2 mRUp cx_642 [] [(0, [1001113]), (34, [1001119])] [] (7, []) 0 10 = true := by decide +kernel
theorem sn_642 {W : Bool} {X : List Int32} : y_Snd (mGw W) mLT1 (J2 W X) X cx_642 := y_ok J2_J mTS2_ok1 mTC2_ok1 mRUp_ok1 (fun _ h => absurd h List.not_mem_nil) ck_642
def cx_643pi_0 (t : List (Int × Int)) : List (Int × Int) := ui0 :: (0, 6) :: ui2476 :: ui49 :: ui49 :: ui49 :: ui49 :: ui49 :: t
def cx_643pi_1 (t : List (Int × Int)) : List (Int × Int) := ui49 :: ui49 :: ui2477 :: t
def cx_643p : zS := ((cx_643pi_0 (cx_643pi_1 [])), [ur1474, ur2429, ur2430], [], [], [uV2], [uF2466, uF2436, uF2473], [uG2478, uG2479, (329, [uL23, uL98, uL104, uL78, uL79, uL131, uL163, uL169, uL63, uL9])])
def cx_643q0i_0 (t : List (Int × Int)) : List (Int × Int) := ui0 :: (0, 6) :: ui2480 :: ui49 :: ui49 :: ui49 :: ui49 :: ui49 :: t
def cx_643q0i_1 (t : List (Int × Int)) : List (Int × Int) := ui49 :: ui49 :: (0, 335921) :: (1, 6) :: ui2476 :: t
def cx_643q0 : zS := ((cx_643q0i_0 (cx_643q0i_1 [])), [ur1474, ur2429, ur2430], [((-1000), [(2, (-1000)), (12, 1000)]), (335921, [(10, (-1))])], [], [uV64], [uF2481], [(8, [uL193, uL63, uL212]), (329, [uL23, uL98, uL104, uL78, uL79, uL131, uL163, uL263, uL63, uL193]), (330, [uL23, uL98, uL104, uL78, uL79, uL131, uL163, uL169, uL193])])
/-- M.goesToNext -/
def cx_643 : zCtx := (274, cx_643p, [cx_643q0, ([ui0, (0, 6), ui2476, ui49, ui49, ui49, ui49, ui49, ui49, ui49, ui2477, (0, 0)], [ur1474, ur2429, ur2430], [], [], [uV62], [uF2481], [(331, [uL23, uL98, uL104, uL78, uL79, uL131, uL163, uL169])])], [uk2482, uk2483], 338, 2, 44)
def cz_643_0i_0 (t : List (Int × Int)) : List (Int × Int) := ui0 :: (0, 6) :: ui2476 :: ui49 :: ui49 :: ui49 :: ui49 :: ui49 :: t
def cz_643_0i_1 (t : List (Int × Int)) : List (Int × Int) := ui49 :: ui49 :: ui2477 :: (0, 6) :: (0, 6) :: (0, 6) :: t
def cz_643_0g_0 (t : List zTg) : List zTg := (8, [uL193, uL212, uL67]) :: uG2479 :: (329, [uL23, uL98, uL104, uL78, uL79, uL131, uL163, uL169, uL205, uL193]) :: (333, [uL23, uL98, uL104, uL78, uL79, uL131, uL163, uL205, uL193, uL99]) :: t
def cz_643_0 : zS := ((cz_643_0i_0 (cz_643_0i_1 [])), [ur1474, ur2429, ur2430], [], [uV2, uV61], [], [uF2481, uF2436, uF2473], (cz_643_0g_0 []))
set_option maxRecDepth 1000000 in
theorem ck_643 : x_ok mLT1 [cx_636, cx_637, cx_638, cx_639, cx_640, cx_641, cx_642] mTS2 mTC2 mRUp cx_643 [(2, [0]), (39, [1, 2, 3, 4, 5, 6])] [(37, [1001140]), (39, [30, 1]), (51, [1001121]), (52, [32]), (62, [31, 1001120])] [(6, cz_643_0, (17, [(11, 23)]))] (160, []) 178 43 = true := by decide +kernel
theorem sn_643 {W : Bool} {X : List Int32} : y_Snd (mGw W) mLT1 (J2 W X) X cx_643 := y_ok J2_J mTS2_ok1 mTC2_ok1 mRUp_ok1 (List.forall_mem_cons.mpr ⟨sn_636, List.forall_mem_cons.mpr ⟨sn_637, List.forall_mem_cons.mpr ⟨sn_638, List.forall_mem_cons.mpr ⟨sn_639, List.forall_mem_cons.mpr ⟨sn_640, List.forall_mem_cons.mpr ⟨sn_641, List.forall_mem_cons.mpr ⟨sn_642, fun _ h => absurd h List.not_mem_nil⟩⟩⟩⟩⟩⟩⟩) ck_643
def cx_644pi_0 (t : List (Int × Int)) : List (Int × Int) := ui0 :: (0, 1) :: (1, 6) :: (0, 6) :: ui49 :: ui49 :: ui49 :: ui49 :: t
def cx_644pi_1 (t : List (Int × Int)) : List (Int × Int) := ui49 :: ui49 :: ui49 :: ui194 :: ui1215 :: ui2477 :: t
def cx_644pg_0 (t : List zTg) : List zTg := uG2387 :: uG2484 :: uG2485 :: uG2486 :: uG2487 :: uG2488 :: t
def cx_644p : zS := ((cx_644pi_0 (cx_644pi_1 [])), [ur1474, ur1523, ur2430, ur2431, ur2434, ur1526, ur2429], [uL518, uL149, uL789], [], [uV2], [uF2028, uF2489, uF1638, uF2473, uF2490, uF2491, uF2492, uF2493], (cx_644pg_0 []))
/-- M.orderSpare -/
def cx_644 : zCtx := (277, cx_644p, [([ui0, (0, 1), (1, 6), (0, 6), ui49, ui49, ui49, ui49, ui49, ui49, ui49, ui194, ui1215, ui2477, ui2161], [ur1474, ur1523, ur2430, ur2431, ur2434, ur1526, ur2429], [], [], [uV355], [], [(337, [uL98, uL104, uL78, uL79, uL131, uL163, uL169, uL193, uL205, uL206, uL212])])], [], 426, 0, 0)
def cz_644_0i_0 (t : List (Int × Int)) : List (Int × Int) := ui0 :: (0, 1) :: (1, 6) :: (0, 6) :: ui49 :: ui49 :: ui49 :: ui49 :: t
def cz_644_0i_1 (t : List (Int × Int)) : List (Int × Int) := ui49 :: ui49 :: ui49 :: ui194 :: ui1215 :: ui2477 :: ui1087 :: ui788 :: t
def cz_644_0i_2 (t : List (Int × Int)) : List (Int × Int) := ui243 :: t
def cz_644_0c_0 (t : List zL) : List zL := uL518 :: uL149 :: uL789 :: (1, [(16, 1)]) :: ((-1), [(2, 1), (16, (-1))]) :: uL207 :: (594, [(15, (-1))]) :: (594, [(14, 1)]) :: t
def cz_644_0c_1 (t : List zL) : List zL := (999, [(14, (-1))]) :: t
def cz_644_0g_0 (t : List zTg) : List zTg := uG2387 :: uG2487 :: uG2484 :: uG2485 :: uG2486 :: uG2488 :: (335, [uL98, uL104, uL78, uL79, uL131, uL163, uL169, uL67, uL210, uL206, uL207, uL212]) :: t
def cz_644_0 : zS := ((cz_644_0i_0 (cz_644_0i_1 (cz_644_0i_2 []))), [ur1474, ur1523, ur2430, ur2431, ur2434, ur1526, ur2429], (cz_644_0c_0 (cz_644_0c_1 [])), [uV2, uV355, uV601, uV1668, uV113], [], [uF2028, uF2489, uF1638, uF2473, uF2490, uF2491, uF2492, uF2493], (cz_644_0g_0 []))
set_option maxRecDepth 1000000 in
theorem ck_644 : x_ok mLT1 [] mTS2 mTC2 mRUp cx_644 [] [(12, [1001123]), (23, [1001124]), (32, [1001125]), (56, [1001126]), (58, [1001127, 1001128]), (76, [1001141]), (81, [1001142]), (101, [1001141]), (106, [1001142]), (109, [1001129, 1001130, 1001131]), (132, [1001132, 1001133]), (136, [1001134])] [(13, cz_644_0, (81, [(16, 67)]))] (426, []) 0 69 = true := by decide +kernel
theorem sn_644 {W : Bool} {X : List Int32} : y_Snd (mGw W) mLT1 (J2 W X) X cx_644 := y_ok J2_J mTS2_ok1 mTC2_ok1 mRUp_ok1 (fun _ h => absurd h List.not_mem_nil) ck_644
def cx_645pi_0 (t : List (Int × Int)) : List (Int × Int) := ui0 :: ui600 :: (0, 1) :: ui49 :: (0, 1) :: (0, 6) :: ui31 :: (0, 6) :: t
def cx_645pi_1 (t : List (Int × Int)) : List (Int × Int) := (0, 6) :: ui49 :: ui49 :: ui194 :: (0, 6) :: t
def cx_645p : zS := ((cx_645pi_0 (cx_645pi_1 [])), (cx_628pr_0 (cx_628pr_1 (cx_628pr_2 []))), [uL1224], [], [uV2, uV11], (cx_628pf_0 (cx_628pf_1 (cx_628pf_2 (cx_628pf_3 [])))), (cx_628pg_0 []))
def cx_645q0i_0 (t : List (Int × Int)) : List (Int × Int) := ui0 :: ui600 :: (0, 1) :: ui49 :: (0, 1) :: (0, 6) :: ui31 :: (0, 6) :: t
def cx_645q0i_1 (t : List (Int × Int)) : List (Int × Int) := (0, 6) :: ui49 :: ui49 :: ui194 :: (0, 6) :: ui2477 :: t
def cx_645q0 : zS := ((cx_645q0i_0 (cx_645q0i_1 [])), (cx_628pr_0 (cx_628pr_1 (cx_628pr_2 []))), [], [], [uV408], [], [uG2037, uG2184, (238, [uL1239, uL78, uL63, uL63, uL63, uL63, uL63, uL63, uL9, uL193, uL205])])
/-- M.orders -/
def cx_645 : zCtx := (272, cx_645p, [cx_645q0], kc_84, 1000079811, 6, 129)
def cz_645_0i_0 (t : List (Int × Int)) : List (Int × Int) := ui0 :: ui600 :: (0, 1) :: ui49 :: (0, 1) :: (0, 6) :: ui31 :: (0, 6) :: t
def cz_645_0i_1 (t : List (Int × Int)) : List (Int × Int) := (0, 6) :: ui49 :: ui49 :: ui194 :: (0, 6) :: ui517 :: (0, 6) :: ui194 :: t
def cz_645_0i_2 (t : List (Int × Int)) : List (Int × Int) := ui2476 :: ui2477 :: t
def cz_645_0r_0 (t : List (Nat × Bool)) : List (Nat × Bool) := ur1474 :: ur2429 :: ur1521 :: ur1522 :: ur1532 :: ur1533 :: ur1534 :: ur1535 :: t
def cz_645_0r_1 (t : List (Nat × Bool)) : List (Nat × Bool) := ur1536 :: ur1530 :: ur1531 :: ur1523 :: ur1635 :: ur1636 :: ur1525 :: ur2027 :: t
def cz_645_0r_2 (t : List (Nat × Bool)) : List (Nat × Bool) := ur1526 :: ur2430 :: ur2431 :: ur2432 :: ur2433 :: ur2434 :: ur1529 :: ur2047 :: t
def cz_645_0f_0 (t : List zFa) : List zFa := uF2494 :: uF2034 :: (0, (false, 49, 0, []), 0, 0, 0, [(15, 1)]) :: uF2495 :: uF2496 :: uF2162 :: uF2436 :: uF2437 :: t
def cz_645_0f_1 (t : List zFa) : List zFa := uF2438 :: uF2439 :: uF2440 :: uF2441 :: uF2442 :: uF2443 :: uF2444 :: uF2445 :: t
def cz_645_0f_2 (t : List zFa) : List zFa := uF2446 :: uF2447 :: uF2448 :: uF2449 :: uF2450 :: uF2451 :: uF2452 :: uF2453 :: t
def cz_645_0f_3 (t : List zFa) : List zFa := uF2454 :: uF2455 :: uF2456 :: t
def cz_645_0g_0 (t : List zTg) : List zTg := uG2037 :: uG2209 :: uG2311 :: uG2312 :: uG2313 :: uG2314 :: uG2184 :: uG2315 :: t
def cz_645_0g_1 (t : List zTg) : List zTg := uG2497 :: uG2498 :: uG2499 :: uG2500 :: uG2501 :: (338, [uL78, uL63, uL63, uL63, uL63, uL63, uL63, uL9, uL193, uL211, uL205]) :: t
def cz_645_0 : zS := ((cz_645_0i_0 (cz_645_0i_1 (cz_645_0i_2 []))), (cz_645_0r_0 (cz_645_0r_1 (cz_645_0r_2 []))), [uL1224, uL205, (0, [(13, (-1)), (17, 1)])], [uV2, uV11, uV408], [], (cz_645_0f_0 (cz_645_0f_1 (cz_645_0f_2 (cz_645_0f_3 [])))), (cz_645_0g_0 (cz_645_0g_1 [])))
set_option maxRecDepth 1000000 in
theorem ck_645 : x_ok mLT1 [cx_564, cx_518, cx_629, cx_643, cx_644] mTS2 mTC2 mRUp cx_645 [(1, [0]), (10, [1]), (14, [2]), (25, [3]), (32, [4])] [(13, uN2259), (21, [29, 1001111, 1001112]), (36, [1001062, 1001135, 1001136]), (45, [1001122])] [(24, cz_645_0, (1000000005, [(16, (-1000))]))] (1000000018, []) 79793 15 = true := by decide +kernel
theorem sn_645 {W : Bool} {X : List Int32} : y_Snd (mGw W) mLT1 (J2 W X) X cx_645 := y_ok J2_J mTS2_ok1 mTC2_ok1 mRUp_ok1 (List.forall_mem_cons.mpr ⟨sn_564, List.forall_mem_cons.mpr ⟨sn_518, List.forall_mem_cons.mpr ⟨sn_629, List.forall_mem_cons.mpr ⟨sn_643, List.forall_mem_cons.mpr ⟨sn_644, fun _ h => absurd h List.not_mem_nil⟩⟩⟩⟩⟩) ck_645
def cx_646pi_0 (t : List (Int × Int)) : List (Int × Int) := ui0 :: ui260 :: (0, 1) :: ui49 :: (0, 1) :: (0, 6) :: ui31 :: (0, 6) :: t
def cx_646pi_1 (t : List (Int × Int)) : List (Int × Int) := (0, 6) :: ui49 :: ui49 :: ui194 :: (0, 6) :: t
def cx_646p : zS := ((cx_646pi_0 (cx_646pi_1 [])), (cx_628pr_0 (cx_628pr_1 (cx_628pr_2 []))), [uL1224], [], [uV2, uV11], (cx_628pf_0 (cx_628pf_1 (cx_628pf_2 (cx_628pf_3 [])))), (cx_628pg_0 []))
/-- M.orders -/
def cx_646 : zCtx := (272, cx_646p, [([ui0, ui260, (0, 1), ui49, (0, 1), (0, 6), ui31, (0, 6), (0, 6), ui49, ui49, ui194, (0, 6)], [ur1474, ur2429, ur1521, ur1522, ur1532, ur1533, ur1534, ur1535, ur1536, ur1530, ur1531, ur1523, ur1635, ur1636, ur1525, ur2027, ur1526, ur2430, ur2431, ur2432, ur2433, ur2434], [], [], [uV61], [], [uG2184])], [], 19, 2, 42)
set_option maxRecDepth 1000000 in
theorem ck_646 : x_ok mLT1 [cx_564] mTS2 mTC2 mRUp cx_646 [(1, [0])] [] [] (5, []) 14 8 = true := by decide +kernel
theorem sn_646 {W : Bool} {X : List Int32} : y_Snd (mGw W) mLT1 (J2 W X) X cx_646 := y_ok J2_J mTS2_ok1 mTC2_ok1 mRUp_ok1 (List.forall_mem_cons.mpr ⟨sn_564, fun _ h => absurd h List.not_mem_nil⟩) ck_646
def cx_647pi_0 (t : List (Int × Int)) : List (Int × Int) := ui0 :: (0, 1) :: (0, 6) :: (0, 6) :: ui49 :: ui49 :: ui49 :: ui49 :: t
def cx_647pi_1 (t : List (Int × Int)) : List (Int × Int) := ui49 :: ui49 :: ui49 :: ui194 :: ui1215 :: t
def cx_647pg_0 (t : List zTg) : List zTg := uG2387 :: uG2484 :: uG2485 :: uG2486 :: uG2487 :: t
def cx_647p : zS := ((cx_647pi_0 (cx_647pi_1 [])), [ur1474, ur2429, ur1523, ur2430, ur2431, ur2434, ur1526], [uL518], [], [uV2], [uF2028, uF2489, uF2436, uF2266, uF2502, uF2503, uF2504, uF1542], (cx_647pg_0 []))
/-- M.peakOf -/
def cx_647 : zCtx := (279, cx_647p, [([ui0, (0, 1), (0, 6), (0, 6), ui49, ui49, ui49, ui49, ui49, ui49, ui49, ui194, ui1215, ui1156], [ur1474, ur2429, ur1523, ur2430, ur2431, ur2434, ur1526], [], [], [uV408], [], [(238, [uL1240, uL98, uL104, uL78, uL79, uL131, uL163, uL169, uL193, uL212, uL205])])], [uk2482, uk2483], 1000000437, 3, 65)
def cz_647_0i_0 (t : List (Int × Int)) : List (Int × Int) := ui0 :: (0, 1) :: (0, 6) :: (0, 6) :: ui49 :: ui49 :: ui49 :: ui49 :: t
def cz_647_0i_1 (t : List (Int × Int)) : List (Int × Int) := ui49 :: ui49 :: ui49 :: ui194 :: ui1215 :: ui1156 :: (0, 6) :: ui2476 :: t
def cz_647_0i_2 (t : List (Int × Int)) : List (Int × Int) := ui2477 :: t
def cz_647_0g_0 (t : List zTg) : List zTg := (8, [uL206, uL63, uL207]) :: uG2387 :: uG2484 :: uG2485 :: uG2486 :: uG2487 :: (329, [uL98, uL104, uL78, uL79, uL131, uL163, uL169, uL210, uL63, uL206]) :: (339, [uL98, uL104, uL78, uL79, uL131, uL163, uL169, uL193, uL210, uL205, uL212]) :: t
def cz_647_0 : zS := ((cz_647_0i_0 (cz_647_0i_1 (cz_647_0i_2 []))), [ur1474, ur2429, ur1523, ur2430, ur2431, ur2434, ur1526], [uL518, (2, [(13, 1)]), (999, [(13, (-1))])], [uV2, uV408, uV113], [], [uF2494, uF2028, uF2436, uF2266, uF2502, uF2503, uF2504, uF1542], (cz_647_0g_0 []))
set_option maxRecDepth 1000000 in
theorem ck_647 : x_ok mLT1 [cx_643, cx_644] mTS2 mTC2 mRUp cx_647 [(9, [0]), (16, [1])] [(5, [29, 1001111, 1001143]), (31, [1001145, 1001146, 1001147]), (35, [1001144])] [(8, cz_647_0, (1000000005, [(15, (-1000))]))] (1000000011, []) 426 17 = true := by decide +kernel
theorem sn_647 {W : Bool} {X : List Int32} : y_Snd (mGw W) mLT1 (J2 W X) X cx_647 := y_ok J2_J mTS2_ok1 mTC2_ok1 mRUp_ok1 (List.forall_mem_cons.mpr ⟨sn_643, List.forall_mem_cons.mpr ⟨sn_644, fun _ h => absurd h List.not_mem_nil⟩⟩) ck_647
def cx_648pi_0 (t : List (Int × Int)) : List (Int × Int) := ui0 :: (0, 1) :: ui49 :: (0, 1) :: (0, 6) :: ui31 :: (0, 6) :: (0, 6) :: t
def cx_648pi_1 (t : List (Int × Int)) : List (Int × Int) := ui49 :: ui49 :: ui194 :: (0, 6) :: t
def cx_648pr_0 (t : List (Nat × Bool)) : List (Nat × Bool) := ur1474 :: ur1521 :: ur1522 :: ur1532 :: ur1533 :: ur1534 :: ur1535 :: ur1536 :: t
def cx_648pr_1 (t : List (Nat × Bool)) : List (Nat × Bool) := ur1530 :: ur1531 :: ur1523 :: ur1635 :: ur1636 :: ur1525 :: ur2027 :: ur1526 :: t
def cx_648pr_2 (t : List (Nat × Bool)) : List (Nat × Bool) := ur2430 :: ur2431 :: ur2432 :: ur2433 :: ur2434 :: ur2429 :: t
def cx_648pf_0 (t : List zFa) : List zFa := uF2028 :: uF2029 :: uF2030 :: uF2505 :: uF1537 :: uF1538 :: uF2169 :: uF2170 :: t
def cx_648pf_1 (t : List zFa) : List zFa := uF2171 :: uF2172 :: uF2173 :: uF1768 :: uF1769 :: uF2174 :: uF2175 :: uF2176 :: t
def cx_648pf_2 (t : List zFa) : List zFa := uF2062 :: uF2254 :: uF2310 :: uF2506 :: (0, (false, 56, 0, []), 2, 17, 0, []) :: (0, (false, 57, 0, []), 2, 18, 0, []) :: (0, (false, 58, 0, []), 2, 19, 0, []) :: (0, (false, 59, 0, []), 2, 20, 0, []) :: t
def cx_648pf_3 (t : List zFa) : List zFa := (0, (false, 60, 0, []), 2, 21, 0, []) :: (10, (true, 0, 0, [(1, 1)]), 0, 0, 0, [(11, 1)]) :: t
def cx_648pg_0 (t : List zTg) : List zTg := uG2349 :: (224, [uL9, uL1553, uL65, uL104]) :: (85, [uL9, uL78, uL1553]) :: (200, [uL9, uL1553, uL65, uL78]) :: uG2389 :: uG1390 :: (88, [uL9, uL169, uL1553]) :: t
def cx_648p : zS := ((cx_648pi_0 (cx_648pi_1 [])), (cx_648pr_0 (cx_648pr_1 (cx_648pr_2 []))), [uL2250], [], [uV2], (cx_648pf_0 (cx_648pf_1 (cx_648pf_2 (cx_648pf_3 [])))), (cx_648pg_0 []))
def cx_648q0i_0 (t : List (Int × Int)) : List (Int × Int) := ui0 :: (0, 1) :: ui49 :: (0, 1) :: (0, 6) :: ui31 :: (0, 6) :: (0, 6) :: t
def cx_648q0i_1 (t : List (Int × Int)) : List (Int × Int) := ui49 :: ui49 :: ui194 :: (0, 6) :: ui1156 :: t
def cx_648q0 : zS := ((cx_648q0i_0 (cx_648q0i_1 [])), (cx_648pr_0 (cx_648pr_1 (cx_648pr_2 []))), [], [], [uV196], [], [uG2037, uG1390, (238, [uL1240, uL104, uL63, uL63, uL63, uL63, uL63, uL63, uL169, uL63, uL212])])
/-- M.peak -/
def cx_648 : zCtx := (278, cx_648p, [cx_648q0], kc_84, 1000000444, 6, 129)
set_option maxRecDepth 1000000 in
theorem ck_648 : x_ok mLT1 [cx_518, cx_629, cx_647] mTS2 mTC2 mRUp cx_648 [(1, [0]), (5, [1]), (9, [2])] [(4, uN2259)] [] (7, []) 1000000437 10 = true := by decide +kernel
theorem sn_648 {W : Bool} {X : List Int32} : y_Snd (mGw W) mLT1 (J2 W X) X cx_648 := y_ok J2_J mTS2_ok1 mTC2_ok1 mRUp_ok1 (List.forall_mem_cons.mpr ⟨sn_518, List.forall_mem_cons.mpr ⟨sn_629, List.forall_mem_cons.mpr ⟨sn_647, fun _ h => absurd h List.not_mem_nil⟩⟩⟩) ck_648
/-- M.isHouse -/
def cx_649 : zCtx := (222, ([ui0, ui49, (0, 1)], [ur1474], [], [], [uV2, uV11], [uF2162], []), [([ui0, ui260, (0, 1)], [ur1474], [], [], [uV62], [], []), ([ui0, ui517, (0, 1)], [ur1474], [], [], [uV62], [], []), ([ui0, (0, 5), (0, 1)], [ur1474], [], [], [uV64], [], [])], [], 20, 1, 22)
set_option maxRecDepth 1000000 in
theorem ck_649 : x_ok mLT1 [cx_514] mTS2 mTC2 mRUp cx_649 [(13, [0])] [(16, uN2165)] [] (11, []) 9 14 = true := by decide +kernel
theorem sn_649 {W : Bool} {X : List Int32} : y_Snd (mGw W) mLT1 (J2 W X) X cx_649 := y_ok J2_J mTS2_ok1 mTC2_ok1 mRUp_ok1 (List.forall_mem_cons.mpr ⟨sn_514, fun _ h => absurd h List.not_mem_nil⟩) ck_649
/-- M.areTwo -/
def cx_650 : zCtx := (237, ([ui0, (0, 5), (0, 5), (0, 1)], [ur1474], [], [], [uV2, uV11, uV12], [uF2166], []), [([ui0, (0, 4), (1, 5), (0, 1)], [ur1474], [uL57], [], [uV64], [], []), ([ui0, (0, 5), (0, 5), (0, 1)], [ur1474], [uL514, uL60], [], [uV62], [], []), ([ui0, (1, 5), (0, 4), (0, 1)], [ur1474], [uL513], [], [uV64], [], []), ([ui0, (0, 5), (0, 5), (0, 1)], [ur1474], [], [], [uV62], [], [])], [], 34, 2, 43)
set_option maxRecDepth 1000000 in
theorem ck_650 : x_ok mLT1 [cx_649] mTS2 mTC2 mRUp cx_650 [(2, [0]), (10, [0])] [(16, [1000461])] [] (14, []) 20 17 = true := by decide +kernel
theorem sn_650 {W : Bool} {X : List Int32} : y_Snd (mGw W) mLT1 (J2 W X) X cx_650 := y_ok J2_J mTS2_ok1 mTC2_ok1 mRUp_ok1 (List.forall_mem_cons.mpr ⟨sn_649, fun _ h => absurd h List.not_mem_nil⟩) ck_650
/-- M.fillsPlans -/
def cx_651 : zCtx := (273, ([ui0, (0, 1), ui31], [ur1474, ur1521, ur1522, ur1532, ur1533, ur1534, ur1535, ur1536, ur1530, ur1531], [], [], [uV2], [uF2028, uF1537, uF1538, uF2169, uF2170, uF2171, uF2172, uF2173, uF1768, uF1769], [uG2349, uG2386]), [([ui0, (0, 1), ui31], [ur1474, ur1521, ur1522, ur1532, ur1533, ur1534, ur1535, ur1536, ur1530, ur1531], [], [], [], [], [])], kc_83, 79793, 5, 108)
set_option maxRecDepth 1000000 in
theorem ck_651 : x_ok mLT1 [cx_649, cx_524, cx_619, cx_650, cx_623, cx_622] mTS2 mTC2 mRUp cx_651 [(15, [0]), (23, [1]), (59, [0]), (67, [2]), (98, [3]), (121, [4]), (141, [5])] [] [(2, ([(0, 3072), (0, 1), (0, 432), (0, 6)], [(12, false), (65, false), (66, false), (67, false), (68, false), (69, false), (70, false), (71, false), (72, false), (73, false)], [], [(2, 0, 0, []), (0, 0, 0, [(3, 1)])], [], [(0, (false, 18, 0, []), 0, 0, 0, [(1, 1)]), (0, (false, 31, 0, []), 2, 1, 0, []), (0, (false, 32, 0, []), 2, 2, 0, []), (0, (false, 34, 0, []), 2, 3, 0, []), (0, (false, 35, 0, []), 2, 4, 0, []), (0, (false, 36, 0, []), 2, 5, 0, []), (0, (false, 37, 0, []), 2, 6, 0, []), (0, (false, 38, 0, []), 2, 7, 0, []), (0, (false, 40, 0, []), 2, 8, 0, []), (0, (false, 41, 0, []), 2, 9, 0, [])], [(2, [(0, [(1, 1)])]), (224, [(0, [(1, 1)]), (1, [(1, (-1))]), (1, []), (0, [(2, 1)])])]), (2152, [(3, (-37))])), (83, ([(0, 3072), (0, 1), (0, 432), (0, 40)], [(12, false), (65, false), (66, false), (67, false), (68, false), (69, false), (70, false), (71, false), (72, false), (73, false)], [], [(2, 0, 0, []), (0, 0, 0, [(3, 1)])], [], [(0, (false, 18, 0, []), 0, 0, 0, [(1, 1)]), (0, (false, 31, 0, []), 2, 1, 0, []), (0, (false, 32, 0, []), 2, 2, 0, []), (0, (false, 34, 0, []), 2, 3, 0, []), (0, (false, 35, 0, []), 2, 4, 0, []), (0, (false, 36, 0, []), 2, 5, 0, []), (0, (false, 37, 0, []), 2, 6, 0, []), (0, (false, 38, 0, []), 2, 7, 0, []), (0, (false, 40, 0, []), 2, 8, 0, []), (0, (false, 41, 0, []), 2, 9, 0, [])], [(2, [(0, [(1, 1)])]), (224, [(0, [(1, 1)]), (1, [(1, (-1))]), (1, []), (0, [(2, 1)])])]), (1924, [(3, (-48))]))] (2155, []) 77638 50 = true := by decide +kernel
theorem sn_651 {W : Bool} {X : List Int32} : y_Snd (mGw W) mLT1 (J2 W X) X cx_651 := y_ok J2_J mTS2_ok1 mTC2_ok1 mRUp_ok1 (List.forall_mem_cons.mpr ⟨sn_649, List.forall_mem_cons.mpr ⟨sn_524, List.forall_mem_cons.mpr ⟨sn_619, List.forall_mem_cons.mpr ⟨sn_650, List.forall_mem_cons.mpr ⟨sn_623, List.forall_mem_cons.mpr ⟨sn_622, fun _ h => absurd h List.not_mem_nil⟩⟩⟩⟩⟩⟩) ck_651
/-- M.isIn -/
def cx_652 : zCtx := (276, ([ui0, (0, 6)], [ur1474, ur2429], [], [], [uV2, uV62], [uF2466, uF2436], []), [([ui0, (1, 6)], [ur1474, ur2429], [], [], [uV64], [], []), ([ui0, (0, 6)], [ur1474, ur2429], [], [], [uV62], [], [uG2467])], [], 87, 0, 0)
set_option maxRecDepth 1000000 in
theorem ck_652 : x_ok mLT1 [] mTS2 mTC2 mRUp cx_652 [] [(1, [97]), (22, [34])] [(2, ([(0, 3072), (0, 6), (0, 6)], [(12, false), (87, false)], [(0, [(1, 1), (2, (-1))])], [(2, 0, 0, []), (0, 0, 0, []), (0, 0, 0, [(2, 1)])], [], [(0, (false, 61, 0, []), 0, 0, 0, [(1, 1)]), (0, (false, 60, 0, []), 2, 1, 0, [])], [(9, [(0, []), (0, [])]), (9, [(0, []), (0, [(2, 1)])])]), (84, [(2, (-13))]))] (87, []) 0 15 = true := by decide +kernel
theorem sn_652 {W : Bool} {X : List Int32} : y_Snd (mGw W) mLT1 (J2 W X) X cx_652 := y_ok J2_J mTS2_ok1 mTC2_ok1 mRUp_ok1 (fun _ h => absurd h List.not_mem_nil) ck_652
/-- M.isIn -/
def cx_653 : zCtx := (276, ([ui0, (0, 6)], [ur1474, ur2429], [], [], [uV2, uV64], [uF2466, uF2436], []), [([ui0, (1, 6)], [ur1474, ur2429], [], [], [uV64], [], []), ([ui0, (0, 6)], [ur1474, ur2429], [], [], [uV62], [], [uG2468])], [], 87, 0, 0)
set_option maxRecDepth 1000000 in
theorem ck_653 : x_ok mLT1 [] mTS2 mTC2 mRUp cx_653 [] [(1, [97]), (22, [34])] [(2, ([(0, 3072), (0, 6), (0, 6)], [(12, false), (87, false)], [(0, [(1, 1), (2, (-1))])], [(2, 0, 0, []), (0, 0, 1, []), (0, 0, 0, [(2, 1)])], [], [(0, (false, 61, 0, []), 0, 0, 0, [(1, 1)]), (0, (false, 60, 0, []), 2, 1, 0, [])], [(9, [(1, []), (0, [])]), (9, [(1, []), (0, [(2, 1)])])]), (84, [(2, (-13))]))] (87, []) 0 15 = true := by decide +kernel
theorem sn_653 {W : Bool} {X : List Int32} : y_Snd (mGw W) mLT1 (J2 W X) X cx_653 := y_ok J2_J mTS2_ok1 mTC2_ok1 mRUp_ok1 (fun _ h => absurd h List.not_mem_nil) ck_653
/-- M.isIn -/
def cx_654 : zCtx := (276, ([ui0, (0, 6)], [ur1474, ur2429], [], [], [uV2, uV388], [uF2466, uF2436], []), [([ui0, (1, 6)], [ur1474, ur2429], [], [], [uV64], [], []), ([ui0, (0, 6)], [ur1474, ur2429], [], [], [uV62], [], [uG2469])], [], 87, 0, 0)
set_option maxRecDepth 1000000 in
theorem ck_654 : x_ok mLT1 [] mTS2 mTC2 mRUp cx_654 [] [(1, [97]), (22, [34])] [(2, ([(0, 3072), (0, 6), (0, 6)], [(12, false), (87, false)], [(0, [(1, 1), (2, (-1))])], [(2, 0, 0, []), (0, 0, 2, []), (0, 0, 0, [(2, 1)])], [], [(0, (false, 61, 0, []), 0, 0, 0, [(1, 1)]), (0, (false, 60, 0, []), 2, 1, 0, [])], [(9, [(2, []), (0, [])]), (9, [(2, []), (0, [(2, 1)])])]), (84, [(2, (-13))]))] (87, []) 0 15 = true := by decide +kernel
theorem sn_654 {W : Bool} {X : List Int32} : y_Snd (mGw W) mLT1 (J2 W X) X cx_654 := y_ok J2_J mTS2_ok1 mTC2_ok1 mRUp_ok1 (fun _ h => absurd h List.not_mem_nil) ck_654
/-- M.isIn -/
def cx_655 : zCtx := (276, ([ui0, (0, 6)], [ur1474, ur2429], [], [], [uV2, uV384], [uF2466, uF2436], []), [([ui0, (1, 6)], [ur1474, ur2429], [], [], [uV64], [], []), ([ui0, (0, 6)], [ur1474, ur2429], [], [], [uV62], [], [uG2470])], [], 87, 0, 0)
set_option maxRecDepth 1000000 in
theorem ck_655 : x_ok mLT1 [] mTS2 mTC2 mRUp cx_655 [] [(1, [97]), (22, [34])] [(2, ([(0, 3072), (0, 6), (0, 6)], [(12, false), (87, false)], [(0, [(1, 1), (2, (-1))])], [(2, 0, 0, []), (0, 0, 3, []), (0, 0, 0, [(2, 1)])], [], [(0, (false, 61, 0, []), 0, 0, 0, [(1, 1)]), (0, (false, 60, 0, []), 2, 1, 0, [])], [(9, [(3, []), (0, [])]), (9, [(3, []), (0, [(2, 1)])])]), (84, [(2, (-13))]))] (87, []) 0 15 = true := by decide +kernel
theorem sn_655 {W : Bool} {X : List Int32} : y_Snd (mGw W) mLT1 (J2 W X) X cx_655 := y_ok J2_J mTS2_ok1 mTC2_ok1 mRUp_ok1 (fun _ h => absurd h List.not_mem_nil) ck_655
/-- M.isIn -/
def cx_656 : zCtx := (276, ([ui0, (0, 6)], [ur1474, ur2429], [], [], [uV2, uV380], [uF2466, uF2436], []), [([ui0, (1, 6)], [ur1474, ur2429], [], [], [uV64], [], []), ([ui0, (0, 6)], [ur1474, ur2429], [], [], [uV62], [], [uG2471])], [], 87, 0, 0)
set_option maxRecDepth 1000000 in
theorem ck_656 : x_ok mLT1 [] mTS2 mTC2 mRUp cx_656 [] [(1, [97]), (22, [34])] [(2, ([(0, 3072), (0, 6), (0, 6)], [(12, false), (87, false)], [(0, [(1, 1), (2, (-1))])], [(2, 0, 0, []), (0, 0, 4, []), (0, 0, 0, [(2, 1)])], [], [(0, (false, 61, 0, []), 0, 0, 0, [(1, 1)]), (0, (false, 60, 0, []), 2, 1, 0, [])], [(9, [(4, []), (0, [])]), (9, [(4, []), (0, [(2, 1)])])]), (84, [(2, (-13))]))] (87, []) 0 15 = true := by decide +kernel
theorem sn_656 {W : Bool} {X : List Int32} : y_Snd (mGw W) mLT1 (J2 W X) X cx_656 := y_ok J2_J mTS2_ok1 mTC2_ok1 mRUp_ok1 (fun _ h => absurd h List.not_mem_nil) ck_656
/-- M.isIn -/
def cx_657 : zCtx := (276, ([ui0, (0, 6)], [ur1474, ur2429], [], [], [uV2, uV3], [uF2466, uF2436], []), [([ui0, (1, 6)], [ur1474, ur2429], [], [], [uV64], [], []), ([ui0, (0, 6)], [ur1474, ur2429], [], [], [uV62], [], [uG2472])], [], 87, 0, 0)
set_option maxRecDepth 1000000 in
theorem ck_657 : x_ok mLT1 [] mTS2 mTC2 mRUp cx_657 [] [(1, [97]), (22, [34])] [(2, ([(0, 3072), (0, 6), (0, 6)], [(12, false), (87, false)], [(0, [(1, 1), (2, (-1))])], [(2, 0, 0, []), (0, 0, 5, []), (0, 0, 0, [(2, 1)])], [], [(0, (false, 61, 0, []), 0, 0, 0, [(1, 1)]), (0, (false, 60, 0, []), 2, 1, 0, [])], [(9, [(5, []), (0, [])]), (9, [(5, []), (0, [(2, 1)])])]), (84, [(2, (-13))]))] (87, []) 0 15 = true := by decide +kernel
theorem sn_657 {W : Bool} {X : List Int32} : y_Snd (mGw W) mLT1 (J2 W X) X cx_657 := y_ok J2_J mTS2_ok1 mTC2_ok1 mRUp_ok1 (fun _ h => absurd h List.not_mem_nil) ck_657
/-- M.nextFrom -/
def cx_658 : zCtx := (275, ([ui0, (0, 6)], [ur1474, ur2429], [], [], [uV2, uV62], [uF2466, uF2436], []), [([ui0, (0, 6)], [ur1474, ur2429], [], [], [uV62], [], [uG2467]), ([ui0, (0, 6)], [ur1474, ur2429], [], [], [uV64], [], [uG2468]), ([ui0, (0, 6)], [ur1474, ur2429], [], [], [uV388], [], [uG2469]), ([ui0, (0, 6)], [ur1474, ur2429], [], [], [uV384], [], [uG2470]), ([ui0, (0, 6)], [ur1474, ur2429], [], [], [uV380], [], [uG2471]), ([ui0, (0, 6)], [ur1474, ur2429], [], [], [uV3], [], [uG2472]), ([ui0, (0, 6)], [ur1474, ur2429], [], [], [uV61], [], [])], [], 178, 1, 22)
def cq_658 : List zCtx := [cx_652, cx_653, cx_654, cx_655, cx_656, cx_657]
def cs_658 : List (Nat × List Nat) := [(19, [0, 1, 2, 3, 4, 5])]
def hs_658 : List (Nat × List Nat) := []
def ns_658 : List zN := []
set_option maxRecDepth 1000000 in
theorem ca_658 : x_okA mLT1 cq_658 mTS2 mTC2 mRUp cx_658 cs_658 hs_658 ns_658 (91, []) 87 94 = true := by decide +kernel
set_option maxRecDepth 1000000 in
theorem cc_658 : x_okC mLT1 cq_658 mTS2 mTC2 mRUp cx_658 cs_658 hs_658 ns_658 (91, []) 87 94 = true := by decide +kernel
theorem ck_658 : x_ok mLT1 cq_658 mTS2 mTC2 mRUp cx_658 cs_658 hs_658 ns_658 (91, []) 87 94 = true := x_ok_of ca_658 (fun _ h => absurd h List.not_mem_nil) cc_658
theorem sn_658 {W : Bool} {X : List Int32} : y_Snd (mGw W) mLT1 (J2 W X) X cx_658 := y_ok J2_J mTS2_ok1 mTC2_ok1 mRUp_ok1 (List.forall_mem_cons.mpr ⟨sn_652, List.forall_mem_cons.mpr ⟨sn_653, List.forall_mem_cons.mpr ⟨sn_654, List.forall_mem_cons.mpr ⟨sn_655, List.forall_mem_cons.mpr ⟨sn_656, List.forall_mem_cons.mpr ⟨sn_657, fun _ h => absurd h List.not_mem_nil⟩⟩⟩⟩⟩⟩) ck_658
/-- M.nextFrom -/
def cx_659 : zCtx := (275, ([ui0, (0, 5)], [ur1474, ur2429], [], [], [uV2, uV64], [uF2466, uF2436], []), [([ui0, (0, 5)], [ur1474, ur2429], [], [], [uV64], [], [uG2468]), ([ui0, (0, 5)], [ur1474, ur2429], [], [], [uV388], [], [uG2469]), ([ui0, (0, 5)], [ur1474, ur2429], [], [], [uV384], [], [uG2470]), ([ui0, (0, 5)], [ur1474, ur2429], [], [], [uV380], [], [uG2471]), ([ui0, (0, 5)], [ur1474, ur2429], [], [], [uV3], [], [uG2472]), ([ui0, (0, 5)], [ur1474, ur2429], [], [], [uV61], [], [])], [], 164, 1, 22)
set_option maxRecDepth 1000000 in
theorem ck_659 : x_ok mLT1 [cx_653, cx_654, cx_655, cx_656, cx_657] mTS2 mTC2 mRUp cx_659 [(19, [0, 1, 2, 3, 4])] [] [] (77, []) 87 80 = true := by decide +kernel
theorem sn_659 {W : Bool} {X : List Int32} : y_Snd (mGw W) mLT1 (J2 W X) X cx_659 := y_ok J2_J mTS2_ok1 mTC2_ok1 mRUp_ok1 (List.forall_mem_cons.mpr ⟨sn_653, List.forall_mem_cons.mpr ⟨sn_654, List.forall_mem_cons.mpr ⟨sn_655, List.forall_mem_cons.mpr ⟨sn_656, List.forall_mem_cons.mpr ⟨sn_657, fun _ h => absurd h List.not_mem_nil⟩⟩⟩⟩⟩) ck_659
end
