noncomputable section
/-! ===== readings, by program, checked by the kernel ===== -/
/-- M.nextFrom -/
def cx_643 : zCtx := (275, ([ui0, (0, 5), ui49, ui49, ui49, ui49, ui49, ui49, ui49], [ur1414, ur2343, ur2344], [], [], [uV2, uV389], [uF2380, uF2350, uF2387], [uG2388]), [([ui0, (0, 5), ui49, ui49, ui49, ui49, ui49, ui49, ui49], [ur1414, ur2343, ur2344], [], [], [uV389], [], [uG2383, (333, [uL67, uL23, uL98, uL104, uL78, uL79, uL131, uL114, uL9, uL114])]), ([ui0, (0, 5), ui49, ui49, ui49, ui49, ui49, ui49, ui49], [ur1414, ur2343, ur2344], [], [], [uV385], [], [uG2384, (333, [uL67, uL23, uL98, uL104, uL78, uL79, uL131, uL114, uL9, uL211])]), ([ui0, (0, 5), ui49, ui49, ui49, ui49, ui49, ui49, ui49], [ur1414, ur2343, ur2344], [], [], [uV381], [], [uG2385, (333, [uL67, uL23, uL98, uL104, uL78, uL79, uL131, uL114, uL9, uL36])]), ([ui0, (0, 5), ui49, ui49, ui49, ui49, ui49, ui49, ui49], [ur1414, ur2343, ur2344], [], [], [uV3], [], [uG2386, (333, [uL67, uL23, uL98, uL104, uL78, uL79, uL131, uL114, uL9, uL246])]), ([ui0, (0, 5), ui49, ui49, ui49, ui49, ui49, ui49, ui49], [ur1414, ur2343, ur2344], [], [], [uV61], [], [(333, [uL67, uL23, uL98, uL104, uL78, uL79, uL131, uL114, uL9, uL99])])], [], 150, 1, 22)
set_option maxRecDepth 1000000 in
theorem ck_643 : x_ok mLT1 [cx_637, cx_638, cx_639, cx_640] mTS2 mTC2 mRUp cx_643 [(19, [0, 1, 2, 3])] [(0, [1001127]), (26, [1001130]), (27, uN2389), (34, [1001133])] [] (63, []) 87 66 = true := by decide +kernel
theorem sn_643 {W : Bool} {X : List Int32} : y_Snd (mGw W) mLT1 (J2 W X) X cx_643 := y_ok J2_J mTS2_ok1 mTC2_ok1 mRUp_ok1 (List.forall_mem_cons.mpr ⟨sn_637, List.forall_mem_cons.mpr ⟨sn_638, List.forall_mem_cons.mpr ⟨sn_639, List.forall_mem_cons.mpr ⟨sn_640, fun _ h => absurd h List.not_mem_nil⟩⟩⟩⟩) ck_643
/-- M.nextFrom -/
def cx_644 : zCtx := (275, ([ui0, (0, 5), ui49, ui49, ui49, ui49, ui49, ui49, ui49], [ur1414, ur2343, ur2344], [], [], [uV2, uV385], [uF2380, uF2350, uF2387], [uG2388]), [([ui0, (0, 5), ui49, ui49, ui49, ui49, ui49, ui49, ui49], [ur1414, ur2343, ur2344], [], [], [uV385], [], [uG2384, (333, [uL67, uL23, uL98, uL104, uL78, uL79, uL131, uL211, uL9, uL211])]), ([ui0, (0, 5), ui49, ui49, ui49, ui49, ui49, ui49, ui49], [ur1414, ur2343, ur2344], [], [], [uV381], [], [uG2385, (333, [uL67, uL23, uL98, uL104, uL78, uL79, uL131, uL211, uL9, uL36])]), ([ui0, (0, 5), ui49, ui49, ui49, ui49, ui49, ui49, ui49], [ur1414, ur2343, ur2344], [], [], [uV3], [], [uG2386, (333, [uL67, uL23, uL98, uL104, uL78, uL79, uL131, uL211, uL9, uL246])]), ([ui0, (0, 5), ui49, ui49, ui49, ui49, ui49, ui49, ui49], [ur1414, ur2343, ur2344], [], [], [uV61], [], [(333, [uL67, uL23, uL98, uL104, uL78, uL79, uL131, uL211, uL9, uL99])])], [], 136, 1, 22)
set_option maxRecDepth 1000000 in
theorem ck_644 : x_ok mLT1 [cx_638, cx_639, cx_640] mTS2 mTC2 mRUp cx_644 [(19, [0, 1, 2])] [(0, [1001127]), (26, [1001130]), (27, uN2389), (34, [1001133])] [] (49, []) 87 52 = true := by decide +kernel
theorem sn_644 {W : Bool} {X : List Int32} : y_Snd (mGw W) mLT1 (J2 W X) X cx_644 := y_ok J2_J mTS2_ok1 mTC2_ok1 mRUp_ok1 (List.forall_mem_cons.mpr ⟨sn_638, List.forall_mem_cons.mpr ⟨sn_639, List.forall_mem_cons.mpr ⟨sn_640, fun _ h => absurd h List.not_mem_nil⟩⟩⟩) ck_644
/-- M.nextFrom -/
def cx_645 : zCtx := (275, ([ui0, (0, 5), ui49, ui49, ui49, ui49, ui49, ui49, ui49], [ur1414, ur2343, ur2344], [], [], [uV2, uV381], [uF2380, uF2350, uF2387], [uG2388]), [([ui0, (0, 5), ui49, ui49, ui49, ui49, ui49, ui49, ui49], [ur1414, ur2343, ur2344], [], [], [uV381], [], [uG2385, (333, [uL67, uL23, uL98, uL104, uL78, uL79, uL131, uL36, uL9, uL36])]), ([ui0, (0, 5), ui49, ui49, ui49, ui49, ui49, ui49, ui49], [ur1414, ur2343, ur2344], [], [], [uV3], [], [uG2386, (333, [uL67, uL23, uL98, uL104, uL78, uL79, uL131, uL36, uL9, uL246])]), ([ui0, (0, 5), ui49, ui49, ui49, ui49, ui49, ui49, ui49], [ur1414, ur2343, ur2344], [], [], [uV61], [], [(333, [uL67, uL23, uL98, uL104, uL78, uL79, uL131, uL36, uL9, uL99])])], [], 122, 1, 22)
set_option maxRecDepth 1000000 in
theorem ck_645 : x_ok mLT1 [cx_639, cx_640] mTS2 mTC2 mRUp cx_645 [(19, [0, 1])] [(0, [1001127]), (26, [1001130]), (27, uN2389), (34, [1001133])] [] (35, []) 87 38 = true := by decide +kernel
theorem sn_645 {W : Bool} {X : List Int32} : y_Snd (mGw W) mLT1 (J2 W X) X cx_645 := y_ok J2_J mTS2_ok1 mTC2_ok1 mRUp_ok1 (List.forall_mem_cons.mpr ⟨sn_639, List.forall_mem_cons.mpr ⟨sn_640, fun _ h => absurd h List.not_mem_nil⟩⟩) ck_645
/-- M.nextFrom -/
def cx_646 : zCtx := (275, ([ui0, (0, 5), ui49, ui49, ui49, ui49, ui49, ui49, ui49], [ur1414, ur2343, ur2344], [], [], [uV2, uV3], [uF2380, uF2350, uF2387], [uG2388]), [([ui0, (0, 5), ui49, ui49, ui49, ui49, ui49, ui49, ui49], [ur1414, ur2343, ur2344], [], [], [uV3], [], [uG2386, (333, [uL67, uL23, uL98, uL104, uL78, uL79, uL131, uL246, uL9, uL246])]), ([ui0, (0, 5), ui49, ui49, ui49, ui49, ui49, ui49, ui49], [ur1414, ur2343, ur2344], [], [], [uV61], [], [(333, [uL67, uL23, uL98, uL104, uL78, uL79, uL131, uL246, uL9, uL99])])], [], 108, 1, 22)
set_option maxRecDepth 1000000 in
theorem ck_646 : x_ok mLT1 [cx_640] mTS2 mTC2 mRUp cx_646 [(19, [0])] [(0, [1001127]), (26, [1001130]), (27, uN2389), (34, [1001133])] [] (21, []) 87 24 = true := by decide +kernel
theorem sn_646 {W : Bool} {X : List Int32} : y_Snd (mGw W) mLT1 (J2 W X) X cx_646 := y_ok J2_J mTS2_ok1 mTC2_ok1 mRUp_ok1 (List.forall_mem_cons.mpr ⟨sn_640, fun _ h => absurd h List.not_mem_nil⟩) ck_646
/-- M.nextFrom -/
def cx_647 : zCtx := (275, ([ui0, (0, 5), ui49, ui49, ui49, ui49, ui49, ui49, ui49], [ur1414, ur2343, ur2344], [], [], [uV2, uV315], [uF2380, uF2350, uF2387], [uG2388]), [([ui0, (0, 5), ui49, ui49, ui49, ui49, ui49, ui49, ui49], [ur1414, ur2343, ur2344], [], [], [uV61], [], [(333, [uL67, uL23, uL98, uL104, uL78, uL79, uL131, uL252, uL9, uL99])])], [], 7, 0, 0)
set_option maxRecDepth 1000000 in
theorem ck_647 : x_ok mLT1 [] mTS2 mTC2 mRUp cx_647 [] [(0, [1001127]), (34, [1001133])] [] (7, []) 0 10 = true := by decide +kernel
theorem sn_647 {W : Bool} {X : List Int32} : y_Snd (mGw W) mLT1 (J2 W X) X cx_647 := y_ok J2_J mTS2_ok1 mTC2_ok1 mRUp_ok1 (fun _ h => absurd h List.not_mem_nil) ck_647
def cx_648pi_0 (t : List (Int × Int)) : List (Int × Int) := ui0 :: (0, 6) :: ui2390 :: ui49 :: ui49 :: ui49 :: ui49 :: ui49 :: t
def cx_648pi_1 (t : List (Int × Int)) : List (Int × Int) := ui49 :: ui49 :: ui2391 :: t
def cx_648p : zS := ((cx_648pi_0 (cx_648pi_1 [])), [ur1414, ur2343, ur2344], [], [], [uV2], [uF2380, uF2350, uF2387], [uG2392, uG2393, (329, [uL23, uL98, uL104, uL78, uL79, uL131, uL164, uL170, uL63, uL9])])
def cx_648q0i_0 (t : List (Int × Int)) : List (Int × Int) := ui0 :: (0, 6) :: ui2394 :: ui49 :: ui49 :: ui49 :: ui49 :: ui49 :: t
def cx_648q0i_1 (t : List (Int × Int)) : List (Int × Int) := ui49 :: ui49 :: (0, 335921) :: (1, 6) :: ui2390 :: t
def cx_648q0 : zS := ((cx_648q0i_0 (cx_648q0i_1 [])), [ur1414, ur2343, ur2344], [((-1000), [(2, (-1000)), (12, 1000)]), (335921, [(10, (-1))])], [], [uV64], [uF2395], [(8, [uL195, uL63, uL214]), (329, [uL23, uL98, uL104, uL78, uL79, uL131, uL164, uL265, uL63, uL195]), (330, [uL23, uL98, uL104, uL78, uL79, uL131, uL164, uL170, uL195])])
/-- M.goesToNext -/
def cx_648 : zCtx := (274, cx_648p, [cx_648q0, ([ui0, (0, 6), ui2390, ui49, ui49, ui49, ui49, ui49, ui49, ui49, ui2391, (0, 0)], [ur1414, ur2343, ur2344], [], [], [uV62], [uF2395], [(331, [uL23, uL98, uL104, uL78, uL79, uL131, uL164, uL170])])], [uk2396, uk2397], 338, 2, 44)
def cz_648_0i_0 (t : List (Int × Int)) : List (Int × Int) := ui0 :: (0, 6) :: ui2390 :: ui49 :: ui49 :: ui49 :: ui49 :: ui49 :: t
def cz_648_0i_1 (t : List (Int × Int)) : List (Int × Int) := ui49 :: ui49 :: ui2391 :: (0, 6) :: (0, 6) :: (0, 6) :: t
def cz_648_0g_0 (t : List zTg) : List zTg := (8, [uL195, uL214, uL67]) :: uG2393 :: (329, [uL23, uL98, uL104, uL78, uL79, uL131, uL164, uL170, uL207, uL195]) :: (333, [uL23, uL98, uL104, uL78, uL79, uL131, uL164, uL207, uL195, uL99]) :: t
def cz_648_0 : zS := ((cz_648_0i_0 (cz_648_0i_1 [])), [ur1414, ur2343, ur2344], [], [uV2, uV61], [], [uF2395, uF2350, uF2387], (cz_648_0g_0 []))
set_option maxRecDepth 1000000 in
theorem ck_648 : x_ok mLT1 [cx_641, cx_642, cx_643, cx_644, cx_645, cx_646, cx_647] mTS2 mTC2 mRUp cx_648 [(2, [0]), (39, [1, 2, 3, 4, 5, 6])] [(37, [1001154]), (39, [30, 1]), (51, [1001135]), (52, [32]), (62, [31, 1001134])] [(6, cz_648_0, (17, [(11, 23)]))] (160, []) 178 43 = true := by decide +kernel
theorem sn_648 {W : Bool} {X : List Int32} : y_Snd (mGw W) mLT1 (J2 W X) X cx_648 := y_ok J2_J mTS2_ok1 mTC2_ok1 mRUp_ok1 (List.forall_mem_cons.mpr ⟨sn_641, List.forall_mem_cons.mpr ⟨sn_642, List.forall_mem_cons.mpr ⟨sn_643, List.forall_mem_cons.mpr ⟨sn_644, List.forall_mem_cons.mpr ⟨sn_645, List.forall_mem_cons.mpr ⟨sn_646, List.forall_mem_cons.mpr ⟨sn_647, fun _ h => absurd h List.not_mem_nil⟩⟩⟩⟩⟩⟩⟩) ck_648
def cx_649pi_0 (t : List (Int × Int)) : List (Int × Int) := ui0 :: (0, 1) :: (1, 6) :: (0, 6) :: ui49 :: ui49 :: ui49 :: ui49 :: t
def cx_649pi_1 (t : List (Int × Int)) : List (Int × Int) := ui49 :: ui49 :: ui49 :: ui196 :: ui1178 :: ui2391 :: t
def cx_649pg_0 (t : List zTg) : List zTg := uG2310 :: uG2398 :: uG2399 :: uG2400 :: uG2401 :: uG2402 :: t
def cx_649p : zS := ((cx_649pi_0 (cx_649pi_1 [])), [ur1414, ur1463, ur2344, ur2345, ur2348, ur1466, ur2343], [uL512, uL149, uL771], [], [uV2], [uF1964, uF2403, uF1578, uF2387, uF2404, uF2405, uF2406, uF2407], (cx_649pg_0 []))
/-- M.orderSpare -/
def cx_649 : zCtx := (277, cx_649p, [([ui0, (0, 1), (1, 6), (0, 6), ui49, ui49, ui49, ui49, ui49, ui49, ui49, ui196, ui1178, ui2391, ui2097], [ur1414, ur1463, ur2344, ur2345, ur2348, ur1466, ur2343], [], [], [uV356], [], [(337, [uL98, uL104, uL78, uL79, uL131, uL164, uL170, uL195, uL207, uL208, uL214])])], [], 426, 0, 0)
def cz_649_0i_0 (t : List (Int × Int)) : List (Int × Int) := ui0 :: (0, 1) :: (1, 6) :: (0, 6) :: ui49 :: ui49 :: ui49 :: ui49 :: t
def cz_649_0i_1 (t : List (Int × Int)) : List (Int × Int) := ui49 :: ui49 :: ui49 :: ui196 :: ui1178 :: ui2391 :: ui1057 :: ui770 :: t
def cz_649_0i_2 (t : List (Int × Int)) : List (Int × Int) := ui245 :: t
def cz_649_0c_0 (t : List zL) : List zL := uL512 :: uL149 :: uL771 :: (1, [(16, 1)]) :: ((-1), [(2, 1), (16, (-1))]) :: uL209 :: (594, [(15, (-1))]) :: (594, [(14, 1)]) :: t
def cz_649_0c_1 (t : List zL) : List zL := (999, [(14, (-1))]) :: t
def cz_649_0g_0 (t : List zTg) : List zTg := uG2310 :: uG2401 :: uG2398 :: uG2399 :: uG2400 :: uG2402 :: (335, [uL98, uL104, uL78, uL79, uL131, uL164, uL170, uL67, uL212, uL208, uL209, uL214]) :: t
def cz_649_0 : zS := ((cz_649_0i_0 (cz_649_0i_1 (cz_649_0i_2 []))), [ur1414, ur1463, ur2344, ur2345, ur2348, ur1466, ur2343], (cz_649_0c_0 (cz_649_0c_1 [])), [uV2, uV356, uV587, uV1608, uV113], [], [uF1964, uF2403, uF1578, uF2387, uF2404, uF2405, uF2406, uF2407], (cz_649_0g_0 []))
set_option maxRecDepth 1000000 in
theorem ck_649 : x_ok mLT1 [] mTS2 mTC2 mRUp cx_649 [] [(12, [1001137]), (23, [1001138]), (32, [1001139]), (56, [1001140]), (58, [1001141, 1001142]), (76, [1001155]), (81, [1001156]), (101, [1001155]), (106, [1001156]), (109, [1001143, 1001144, 1001145]), (132, [1001146, 1001147]), (136, [1001148])] [(13, cz_649_0, (81, [(16, 67)]))] (426, []) 0 69 = true := by decide +kernel
theorem sn_649 {W : Bool} {X : List Int32} : y_Snd (mGw W) mLT1 (J2 W X) X cx_649 := y_ok J2_J mTS2_ok1 mTC2_ok1 mRUp_ok1 (fun _ h => absurd h List.not_mem_nil) ck_649
def cx_650pi_0 (t : List (Int × Int)) : List (Int × Int) := ui0 :: ui586 :: (0, 1) :: ui49 :: (0, 1) :: (0, 6) :: ui31 :: (0, 6) :: t
def cx_650pi_1 (t : List (Int × Int)) : List (Int × Int) := (0, 6) :: ui49 :: ui49 :: ui196 :: (0, 6) :: t
def cx_650p : zS := ((cx_650pi_0 (cx_650pi_1 [])), (cx_632pr_0 (cx_632pr_1 (cx_632pr_2 []))), [uL1187], [], [uV2, uV11], (cx_632pf_0 (cx_632pf_1 (cx_632pf_2 (cx_632pf_3 [])))), (cx_632pg_0 []))
def cx_650q0i_0 (t : List (Int × Int)) : List (Int × Int) := ui0 :: ui586 :: (0, 1) :: ui49 :: (0, 1) :: (0, 6) :: ui31 :: (0, 6) :: t
def cx_650q0i_1 (t : List (Int × Int)) : List (Int × Int) := (0, 6) :: ui49 :: ui49 :: ui196 :: (0, 6) :: ui2391 :: t
def cx_650q0 : zS := ((cx_650q0i_0 (cx_650q0i_1 [])), (cx_632pr_0 (cx_632pr_1 (cx_632pr_2 []))), [], [], [uV409], [], [uG1973, uG2120, (238, [uL1202, uL78, uL63, uL63, uL63, uL63, uL63, uL63, uL9, uL195, uL207])])
/-- M.orders -/
def cx_650 : zCtx := (272, cx_650p, [cx_650q0], kc_84, 1000079811, 6, 129)
def cz_650_0i_0 (t : List (Int × Int)) : List (Int × Int) := ui0 :: ui586 :: (0, 1) :: ui49 :: (0, 1) :: (0, 6) :: ui31 :: (0, 6) :: t
def cz_650_0i_1 (t : List (Int × Int)) : List (Int × Int) := (0, 6) :: ui49 :: ui49 :: ui196 :: (0, 6) :: ui511 :: (0, 6) :: ui196 :: t
def cz_650_0i_2 (t : List (Int × Int)) : List (Int × Int) := ui2390 :: ui2391 :: t
def cz_650_0r_0 (t : List (Nat × Bool)) : List (Nat × Bool) := ur1414 :: ur2343 :: ur1461 :: ur1462 :: ur1472 :: ur1473 :: ur1474 :: ur1475 :: t
def cz_650_0r_1 (t : List (Nat × Bool)) : List (Nat × Bool) := ur1476 :: ur1470 :: ur1471 :: ur1463 :: ur1575 :: ur1576 :: ur1465 :: ur1963 :: t
def cz_650_0r_2 (t : List (Nat × Bool)) : List (Nat × Bool) := ur1466 :: ur2344 :: ur2345 :: ur2346 :: ur2347 :: ur2348 :: ur1469 :: ur1983 :: t
def cz_650_0f_0 (t : List zFa) : List zFa := uF2408 :: uF1970 :: uF2409 :: uF2410 :: uF2411 :: uF2098 :: uF2350 :: uF2351 :: t
def cz_650_0f_1 (t : List zFa) : List zFa := uF2352 :: uF2353 :: uF2354 :: uF2355 :: uF2356 :: uF2357 :: uF2358 :: uF2359 :: t
def cz_650_0f_2 (t : List zFa) : List zFa := uF2360 :: uF2361 :: uF2362 :: uF2363 :: uF2364 :: uF2365 :: uF2366 :: uF2367 :: t
def cz_650_0f_3 (t : List zFa) : List zFa := uF2368 :: uF2369 :: uF2370 :: t
def cz_650_0g_0 (t : List zTg) : List zTg := uG1973 :: uG2145 :: uG2252 :: uG2253 :: uG2254 :: uG2255 :: uG2120 :: uG2256 :: t
def cz_650_0g_1 (t : List zTg) : List zTg := uG2412 :: uG2413 :: uG2414 :: uG2415 :: uG2416 :: (338, [uL78, uL63, uL63, uL63, uL63, uL63, uL63, uL9, uL195, uL213, uL207]) :: t
def cz_650_0 : zS := ((cz_650_0i_0 (cz_650_0i_1 (cz_650_0i_2 []))), (cz_650_0r_0 (cz_650_0r_1 (cz_650_0r_2 []))), [uL1187, uL207, (0, [(13, (-1)), (17, 1)])], [uV2, uV11, uV409], [], (cz_650_0f_0 (cz_650_0f_1 (cz_650_0f_2 (cz_650_0f_3 [])))), (cz_650_0g_0 (cz_650_0g_1 [])))
set_option maxRecDepth 1000000 in
theorem ck_650 : x_ok mLT1 [cx_567, cx_521, cx_634, cx_648, cx_649] mTS2 mTC2 mRUp cx_650 [(1, [0]), (10, [1]), (14, [2]), (25, [3]), (32, [4])] [(13, uN2200), (21, [29, 1001125, 1001126]), (36, [1001066, 1001149, 1001150]), (45, [1001136])] [(24, cz_650_0, (1000000005, [(16, (-1000))]))] (1000000018, []) 79793 15 = true := by decide +kernel
theorem sn_650 {W : Bool} {X : List Int32} : y_Snd (mGw W) mLT1 (J2 W X) X cx_650 := y_ok J2_J mTS2_ok1 mTC2_ok1 mRUp_ok1 (List.forall_mem_cons.mpr ⟨sn_567, List.forall_mem_cons.mpr ⟨sn_521, List.forall_mem_cons.mpr ⟨sn_634, List.forall_mem_cons.mpr ⟨sn_648, List.forall_mem_cons.mpr ⟨sn_649, fun _ h => absurd h List.not_mem_nil⟩⟩⟩⟩⟩) ck_650
def cx_651pi_0 (t : List (Int × Int)) : List (Int × Int) := ui0 :: ui262 :: (0, 1) :: ui49 :: (0, 1) :: (0, 6) :: ui31 :: (0, 6) :: t
def cx_651pi_1 (t : List (Int × Int)) : List (Int × Int) := (0, 6) :: ui49 :: ui49 :: ui196 :: (0, 6) :: t
def cx_651p : zS := ((cx_651pi_0 (cx_651pi_1 [])), (cx_632pr_0 (cx_632pr_1 (cx_632pr_2 []))), [uL1187], [], [uV2, uV11], (cx_632pf_0 (cx_632pf_1 (cx_632pf_2 (cx_632pf_3 [])))), (cx_632pg_0 []))
/-- M.orders -/
def cx_651 : zCtx := (272, cx_651p, [([ui0, ui262, (0, 1), ui49, (0, 1), (0, 6), ui31, (0, 6), (0, 6), ui49, ui49, ui196, (0, 6)], [ur1414, ur2343, ur1461, ur1462, ur1472, ur1473, ur1474, ur1475, ur1476, ur1470, ur1471, ur1463, ur1575, ur1576, ur1465, ur1963, ur1466, ur2344, ur2345, ur2346, ur2347, ur2348], [], [], [uV61], [], [uG2120])], [], 19, 2, 42)
set_option maxRecDepth 1000000 in
theorem ck_651 : x_ok mLT1 [cx_567] mTS2 mTC2 mRUp cx_651 [(1, [0])] [] [] (5, []) 14 8 = true := by decide +kernel
theorem sn_651 {W : Bool} {X : List Int32} : y_Snd (mGw W) mLT1 (J2 W X) X cx_651 := y_ok J2_J mTS2_ok1 mTC2_ok1 mRUp_ok1 (List.forall_mem_cons.mpr ⟨sn_567, fun _ h => absurd h List.not_mem_nil⟩) ck_651
def cx_652pi_0 (t : List (Int × Int)) : List (Int × Int) := ui0 :: (0, 1) :: (0, 6) :: (0, 6) :: ui49 :: ui49 :: ui49 :: ui49 :: t
def cx_652pi_1 (t : List (Int × Int)) : List (Int × Int) := ui49 :: ui49 :: ui49 :: ui196 :: ui1178 :: t
def cx_652pg_0 (t : List zTg) : List zTg := uG2310 :: uG2398 :: uG2399 :: uG2400 :: uG2401 :: t
def cx_652p : zS := ((cx_652pi_0 (cx_652pi_1 [])), [ur1414, ur2343, ur1463, ur2344, ur2345, ur2348, ur1466], [uL512], [], [uV2], [uF1964, uF2403, uF2350, uF2207, uF2417, uF2418, uF2419, uF1482], (cx_652pg_0 []))
/-- M.peakOf -/
def cx_652 : zCtx := (279, cx_652p, [([ui0, (0, 1), (0, 6), (0, 6), ui49, ui49, ui49, ui49, ui49, ui49, ui49, ui196, ui1178, ui1121], [ur1414, ur2343, ur1463, ur2344, ur2345, ur2348, ur1466], [], [], [uV409], [], [(238, [uL1203, uL98, uL104, uL78, uL79, uL131, uL164, uL170, uL195, uL214, uL207])])], [uk2396, uk2397], 1000000437, 3, 65)
def cz_652_0i_0 (t : List (Int × Int)) : List (Int × Int) := ui0 :: (0, 1) :: (0, 6) :: (0, 6) :: ui49 :: ui49 :: ui49 :: ui49 :: t
def cz_652_0i_1 (t : List (Int × Int)) : List (Int × Int) := ui49 :: ui49 :: ui49 :: ui196 :: ui1178 :: ui1121 :: (0, 6) :: ui2390 :: t
def cz_652_0i_2 (t : List (Int × Int)) : List (Int × Int) := ui2391 :: t
def cz_652_0g_0 (t : List zTg) : List zTg := (8, [uL208, uL63, uL209]) :: uG2310 :: uG2398 :: uG2399 :: uG2400 :: uG2401 :: (329, [uL98, uL104, uL78, uL79, uL131, uL164, uL170, uL212, uL63, uL208]) :: (339, [uL98, uL104, uL78, uL79, uL131, uL164, uL170, uL195, uL212, uL207, uL214]) :: t
def cz_652_0 : zS := ((cz_652_0i_0 (cz_652_0i_1 (cz_652_0i_2 []))), [ur1414, ur2343, ur1463, ur2344, ur2345, ur2348, ur1466], [uL512, (2, [(13, 1)]), (999, [(13, (-1))])], [uV2, uV409, uV113], [], [uF2408, uF1964, uF2350, uF2207, uF2417, uF2418, uF2419, uF1482], (cz_652_0g_0 []))
set_option maxRecDepth 1000000 in
theorem ck_652 : x_ok mLT1 [cx_648, cx_649] mTS2 mTC2 mRUp cx_652 [(9, [0]), (16, [1])] [(5, [29, 1001125, 1001157]), (31, [1001159, 1001160, 1001161]), (35, [1001158])] [(8, cz_652_0, (1000000005, [(15, (-1000))]))] (1000000011, []) 426 17 = true := by decide +kernel
theorem sn_652 {W : Bool} {X : List Int32} : y_Snd (mGw W) mLT1 (J2 W X) X cx_652 := y_ok J2_J mTS2_ok1 mTC2_ok1 mRUp_ok1 (List.forall_mem_cons.mpr ⟨sn_648, List.forall_mem_cons.mpr ⟨sn_649, fun _ h => absurd h List.not_mem_nil⟩⟩) ck_652
def cx_653pi_0 (t : List (Int × Int)) : List (Int × Int) := ui0 :: (0, 1) :: ui49 :: (0, 1) :: (0, 6) :: ui31 :: (0, 6) :: (0, 6) :: t
def cx_653pi_1 (t : List (Int × Int)) : List (Int × Int) := ui49 :: ui49 :: ui196 :: (0, 6) :: t
def cx_653pr_0 (t : List (Nat × Bool)) : List (Nat × Bool) := ur1414 :: ur1461 :: ur1462 :: ur1472 :: ur1473 :: ur1474 :: ur1475 :: ur1476 :: t
def cx_653pr_1 (t : List (Nat × Bool)) : List (Nat × Bool) := ur1470 :: ur1471 :: ur1463 :: ur1575 :: ur1576 :: ur1465 :: ur1963 :: ur1466 :: t
def cx_653pr_2 (t : List (Nat × Bool)) : List (Nat × Bool) := ur2344 :: ur2345 :: ur2346 :: ur2347 :: ur2348 :: ur2343 :: t
def cx_653pf_0 (t : List zFa) : List zFa := uF1964 :: uF1965 :: uF1966 :: uF2420 :: uF1477 :: uF1478 :: uF2105 :: uF2106 :: t
def cx_653pf_1 (t : List zFa) : List zFa := uF2107 :: uF2108 :: uF2109 :: uF1708 :: uF1709 :: uF2110 :: uF2111 :: uF2112 :: t
def cx_653pf_2 (t : List zFa) : List zFa := uF1998 :: uF2195 :: uF2251 :: uF2421 :: uF2422 :: uF2423 :: uF2424 :: uF2425 :: t
def cx_653pf_3 (t : List zFa) : List zFa := uF2426 :: (10, (true, 0, 0, [(1, 1)]), 0, 0, 0, [(11, 1)]) :: t
def cx_653pg_0 (t : List zTg) : List zTg := uG2290 :: (224, [uL9, uL1493, uL65, uL104]) :: (85, [uL9, uL78, uL1493]) :: (200, [uL9, uL1493, uL65, uL78]) :: uG2312 :: uG1363 :: (88, [uL9, uL170, uL1493]) :: t
def cx_653p : zS := ((cx_653pi_0 (cx_653pi_1 [])), (cx_653pr_0 (cx_653pr_1 (cx_653pr_2 []))), [uL2186], [], [uV2], (cx_653pf_0 (cx_653pf_1 (cx_653pf_2 (cx_653pf_3 [])))), (cx_653pg_0 []))
def cx_653q0i_0 (t : List (Int × Int)) : List (Int × Int) := ui0 :: (0, 1) :: ui49 :: (0, 1) :: (0, 6) :: ui31 :: (0, 6) :: (0, 6) :: t
def cx_653q0i_1 (t : List (Int × Int)) : List (Int × Int) := ui49 :: ui49 :: ui196 :: (0, 6) :: ui1121 :: t
def cx_653q0 : zS := ((cx_653q0i_0 (cx_653q0i_1 [])), (cx_653pr_0 (cx_653pr_1 (cx_653pr_2 []))), [], [], [uV198], [], [uG1973, uG1363, (238, [uL1203, uL104, uL63, uL63, uL63, uL63, uL63, uL63, uL170, uL63, uL214])])
/-- M.peak -/
def cx_653 : zCtx := (278, cx_653p, [cx_653q0], kc_84, 1000000444, 6, 129)
set_option maxRecDepth 1000000 in
theorem ck_653 : x_ok mLT1 [cx_521, cx_634, cx_652] mTS2 mTC2 mRUp cx_653 [(1, [0]), (5, [1]), (9, [2])] [(4, uN2200)] [] (7, []) 1000000437 10 = true := by decide +kernel
theorem sn_653 {W : Bool} {X : List Int32} : y_Snd (mGw W) mLT1 (J2 W X) X cx_653 := y_ok J2_J mTS2_ok1 mTC2_ok1 mRUp_ok1 (List.forall_mem_cons.mpr ⟨sn_521, List.forall_mem_cons.mpr ⟨sn_634, List.forall_mem_cons.mpr ⟨sn_652, fun _ h => absurd h List.not_mem_nil⟩⟩⟩) ck_653
/-- M.isHouse -/
def cx_654 : zCtx := (222, ([ui0, ui49, (0, 1)], [ur1414], [], [], [uV2, uV11], [uF2098], []), [([ui0, ui262, (0, 1)], [ur1414], [], [], [uV62], [], []), ([ui0, ui511, (0, 1)], [ur1414], [], [], [uV62], [], []), ([ui0, (0, 5), (0, 1)], [ur1414], [], [], [uV64], [], [])], [], 20, 1, 22)
set_option maxRecDepth 1000000 in
theorem ck_654 : x_ok mLT1 [cx_517] mTS2 mTC2 mRUp cx_654 [(13, [0])] [(16, uN2101)] [] (11, []) 9 14 = true := by decide +kernel
theorem sn_654 {W : Bool} {X : List Int32} : y_Snd (mGw W) mLT1 (J2 W X) X cx_654 := y_ok J2_J mTS2_ok1 mTC2_ok1 mRUp_ok1 (List.forall_mem_cons.mpr ⟨sn_517, fun _ h => absurd h List.not_mem_nil⟩) ck_654
/-- M.areTwo -/
def cx_655 : zCtx := (237, ([ui0, (0, 5), (0, 5), (0, 1)], [ur1414], [], [], [uV2, uV11, uV12], [uF2102], []), [([ui0, (0, 4), (1, 5), (0, 1)], [ur1414], [uL57], [], [uV64], [], []), ([ui0, (0, 5), (0, 5), (0, 1)], [ur1414], [uL508, uL60], [], [uV62], [], []), ([ui0, (1, 5), (0, 4), (0, 1)], [ur1414], [uL507], [], [uV64], [], []), ([ui0, (0, 5), (0, 5), (0, 1)], [ur1414], [], [], [uV62], [], [])], [], 34, 2, 43)
set_option maxRecDepth 1000000 in
theorem ck_655 : x_ok mLT1 [cx_654] mTS2 mTC2 mRUp cx_655 [(2, [0]), (10, [0])] [(16, [1000461])] [] (14, []) 20 17 = true := by decide +kernel
theorem sn_655 {W : Bool} {X : List Int32} : y_Snd (mGw W) mLT1 (J2 W X) X cx_655 := y_ok J2_J mTS2_ok1 mTC2_ok1 mRUp_ok1 (List.forall_mem_cons.mpr ⟨sn_654, fun _ h => absurd h List.not_mem_nil⟩) ck_655
/-- M.fillsPlans -/
def cx_656 : zCtx := (273, ([ui0, (0, 1), ui31], [ur1414, ur1461, ur1462, ur1472, ur1473, ur1474, ur1475, ur1476, ur1470, ur1471], [], [], [uV2], [uF1964, uF1477, uF1478, uF2105, uF2106, uF2107, uF2108, uF2109, uF1708, uF1709], [uG2290, uG2309]), [([ui0, (0, 1), ui31], [ur1414, ur1461, ur1462, ur1472, ur1473, ur1474, ur1475, ur1476, ur1470, ur1471], [], [], [], [], [])], kc_83, 79793, 5, 108)
set_option maxRecDepth 1000000 in
theorem ck_656 : x_ok mLT1 [cx_654, cx_527, cx_606, cx_655, cx_610, cx_609] mTS2 mTC2 mRUp cx_656 [(15, [0]), (23, [1]), (59, [0]), (67, [2]), (98, [3]), (121, [4]), (141, [5])] [] [(2, ([(0, 3072), (0, 1), (0, 432), (0, 6)], [(12, false), (65, false), (66, false), (67, false), (68, false), (69, false), (70, false), (71, false), (72, false), (73, false)], [], [(2, 0, 0, []), (0, 0, 0, [(3, 1)])], [], [(0, (false, 18, 0, []), 0, 0, 0, [(1, 1)]), (0, (false, 31, 0, []), 2, 1, 0, []), (0, (false, 32, 0, []), 2, 2, 0, []), (0, (false, 34, 0, []), 2, 3, 0, []), (0, (false, 35, 0, []), 2, 4, 0, []), (0, (false, 36, 0, []), 2, 5, 0, []), (0, (false, 37, 0, []), 2, 6, 0, []), (0, (false, 38, 0, []), 2, 7, 0, []), (0, (false, 40, 0, []), 2, 8, 0, []), (0, (false, 41, 0, []), 2, 9, 0, [])], [(2, [(0, [(1, 1)])]), (224, [(0, [(1, 1)]), (1, [(1, (-1))]), (1, []), (0, [(2, 1)])])]), (2152, [(3, (-37))])), (83, ([(0, 3072), (0, 1), (0, 432), (0, 40)], [(12, false), (65, false), (66, false), (67, false), (68, false), (69, false), (70, false), (71, false), (72, false), (73, false)], [], [(2, 0, 0, []), (0, 0, 0, [(3, 1)])], [], [(0, (false, 18, 0, []), 0, 0, 0, [(1, 1)]), (0, (false, 31, 0, []), 2, 1, 0, []), (0, (false, 32, 0, []), 2, 2, 0, []), (0, (false, 34, 0, []), 2, 3, 0, []), (0, (false, 35, 0, []), 2, 4, 0, []), (0, (false, 36, 0, []), 2, 5, 0, []), (0, (false, 37, 0, []), 2, 6, 0, []), (0, (false, 38, 0, []), 2, 7, 0, []), (0, (false, 40, 0, []), 2, 8, 0, []), (0, (false, 41, 0, []), 2, 9, 0, [])], [(2, [(0, [(1, 1)])]), (224, [(0, [(1, 1)]), (1, [(1, (-1))]), (1, []), (0, [(2, 1)])])]), (1924, [(3, (-48))]))] (2155, []) 77638 50 = true := by decide +kernel
theorem sn_656 {W : Bool} {X : List Int32} : y_Snd (mGw W) mLT1 (J2 W X) X cx_656 := y_ok J2_J mTS2_ok1 mTC2_ok1 mRUp_ok1 (List.forall_mem_cons.mpr ⟨sn_654, List.forall_mem_cons.mpr ⟨sn_527, List.forall_mem_cons.mpr ⟨sn_606, List.forall_mem_cons.mpr ⟨sn_655, List.forall_mem_cons.mpr ⟨sn_610, List.forall_mem_cons.mpr ⟨sn_609, fun _ h => absurd h List.not_mem_nil⟩⟩⟩⟩⟩⟩) ck_656
/-- M.isIn -/
def cx_657 : zCtx := (276, ([ui0, (0, 6)], [ur1414, ur2343], [], [], [uV2, uV62], [uF2380, uF2350], []), [([ui0, (1, 6)], [ur1414, ur2343], [], [], [uV64], [], []), ([ui0, (0, 6)], [ur1414, ur2343], [], [], [uV62], [], [uG2381])], [], 87, 0, 0)
set_option maxRecDepth 1000000 in
theorem ck_657 : x_ok mLT1 [] mTS2 mTC2 mRUp cx_657 [] [(1, [97]), (22, [34])] [(2, ([(0, 3072), (0, 6), (0, 6)], [(12, false), (87, false)], [(0, [(1, 1), (2, (-1))])], [(2, 0, 0, []), (0, 0, 0, []), (0, 0, 0, [(2, 1)])], [], [(0, (false, 61, 0, []), 0, 0, 0, [(1, 1)]), (0, (false, 60, 0, []), 2, 1, 0, [])], [(9, [(0, []), (0, [])]), (9, [(0, []), (0, [(2, 1)])])]), (84, [(2, (-13))]))] (87, []) 0 15 = true := by decide +kernel
theorem sn_657 {W : Bool} {X : List Int32} : y_Snd (mGw W) mLT1 (J2 W X) X cx_657 := y_ok J2_J mTS2_ok1 mTC2_ok1 mRUp_ok1 (fun _ h => absurd h List.not_mem_nil) ck_657
/-- M.isIn -/
def cx_658 : zCtx := (276, ([ui0, (0, 6)], [ur1414, ur2343], [], [], [uV2, uV64], [uF2380, uF2350], []), [([ui0, (1, 6)], [ur1414, ur2343], [], [], [uV64], [], []), ([ui0, (0, 6)], [ur1414, ur2343], [], [], [uV62], [], [uG2382])], [], 87, 0, 0)
set_option maxRecDepth 1000000 in
theorem ck_658 : x_ok mLT1 [] mTS2 mTC2 mRUp cx_658 [] [(1, [97]), (22, [34])] [(2, ([(0, 3072), (0, 6), (0, 6)], [(12, false), (87, false)], [(0, [(1, 1), (2, (-1))])], [(2, 0, 0, []), (0, 0, 1, []), (0, 0, 0, [(2, 1)])], [], [(0, (false, 61, 0, []), 0, 0, 0, [(1, 1)]), (0, (false, 60, 0, []), 2, 1, 0, [])], [(9, [(1, []), (0, [])]), (9, [(1, []), (0, [(2, 1)])])]), (84, [(2, (-13))]))] (87, []) 0 15 = true := by decide +kernel
theorem sn_658 {W : Bool} {X : List Int32} : y_Snd (mGw W) mLT1 (J2 W X) X cx_658 := y_ok J2_J mTS2_ok1 mTC2_ok1 mRUp_ok1 (fun _ h => absurd h List.not_mem_nil) ck_658
/-- M.isIn -/
def cx_659 : zCtx := (276, ([ui0, (0, 6)], [ur1414, ur2343], [], [], [uV2, uV389], [uF2380, uF2350], []), [([ui0, (1, 6)], [ur1414, ur2343], [], [], [uV64], [], []), ([ui0, (0, 6)], [ur1414, ur2343], [], [], [uV62], [], [uG2383])], [], 87, 0, 0)
set_option maxRecDepth 1000000 in
theorem ck_659 : x_ok mLT1 [] mTS2 mTC2 mRUp cx_659 [] [(1, [97]), (22, [34])] [(2, ([(0, 3072), (0, 6), (0, 6)], [(12, false), (87, false)], [(0, [(1, 1), (2, (-1))])], [(2, 0, 0, []), (0, 0, 2, []), (0, 0, 0, [(2, 1)])], [], [(0, (false, 61, 0, []), 0, 0, 0, [(1, 1)]), (0, (false, 60, 0, []), 2, 1, 0, [])], [(9, [(2, []), (0, [])]), (9, [(2, []), (0, [(2, 1)])])]), (84, [(2, (-13))]))] (87, []) 0 15 = true := by decide +kernel
theorem sn_659 {W : Bool} {X : List Int32} : y_Snd (mGw W) mLT1 (J2 W X) X cx_659 := y_ok J2_J mTS2_ok1 mTC2_ok1 mRUp_ok1 (fun _ h => absurd h List.not_mem_nil) ck_659
/-- M.isIn -/
def cx_660 : zCtx := (276, ([ui0, (0, 6)], [ur1414, ur2343], [], [], [uV2, uV385], [uF2380, uF2350], []), [([ui0, (1, 6)], [ur1414, ur2343], [], [], [uV64], [], []), ([ui0, (0, 6)], [ur1414, ur2343], [], [], [uV62], [], [uG2384])], [], 87, 0, 0)
set_option maxRecDepth 1000000 in
theorem ck_660 : x_ok mLT1 [] mTS2 mTC2 mRUp cx_660 [] [(1, [97]), (22, [34])] [(2, ([(0, 3072), (0, 6), (0, 6)], [(12, false), (87, false)], [(0, [(1, 1), (2, (-1))])], [(2, 0, 0, []), (0, 0, 3, []), (0, 0, 0, [(2, 1)])], [], [(0, (false, 61, 0, []), 0, 0, 0, [(1, 1)]), (0, (false, 60, 0, []), 2, 1, 0, [])], [(9, [(3, []), (0, [])]), (9, [(3, []), (0, [(2, 1)])])]), (84, [(2, (-13))]))] (87, []) 0 15 = true := by decide +kernel
theorem sn_660 {W : Bool} {X : List Int32} : y_Snd (mGw W) mLT1 (J2 W X) X cx_660 := y_ok J2_J mTS2_ok1 mTC2_ok1 mRUp_ok1 (fun _ h => absurd h List.not_mem_nil) ck_660
/-- M.isIn -/
def cx_661 : zCtx := (276, ([ui0, (0, 6)], [ur1414, ur2343], [], [], [uV2, uV381], [uF2380, uF2350], []), [([ui0, (1, 6)], [ur1414, ur2343], [], [], [uV64], [], []), ([ui0, (0, 6)], [ur1414, ur2343], [], [], [uV62], [], [uG2385])], [], 87, 0, 0)
set_option maxRecDepth 1000000 in
theorem ck_661 : x_ok mLT1 [] mTS2 mTC2 mRUp cx_661 [] [(1, [97]), (22, [34])] [(2, ([(0, 3072), (0, 6), (0, 6)], [(12, false), (87, false)], [(0, [(1, 1), (2, (-1))])], [(2, 0, 0, []), (0, 0, 4, []), (0, 0, 0, [(2, 1)])], [], [(0, (false, 61, 0, []), 0, 0, 0, [(1, 1)]), (0, (false, 60, 0, []), 2, 1, 0, [])], [(9, [(4, []), (0, [])]), (9, [(4, []), (0, [(2, 1)])])]), (84, [(2, (-13))]))] (87, []) 0 15 = true := by decide +kernel
theorem sn_661 {W : Bool} {X : List Int32} : y_Snd (mGw W) mLT1 (J2 W X) X cx_661 := y_ok J2_J mTS2_ok1 mTC2_ok1 mRUp_ok1 (fun _ h => absurd h List.not_mem_nil) ck_661
/-- M.isIn -/
def cx_662 : zCtx := (276, ([ui0, (0, 6)], [ur1414, ur2343], [], [], [uV2, uV3], [uF2380, uF2350], []), [([ui0, (1, 6)], [ur1414, ur2343], [], [], [uV64], [], []), ([ui0, (0, 6)], [ur1414, ur2343], [], [], [uV62], [], [uG2386])], [], 87, 0, 0)
set_option maxRecDepth 1000000 in
theorem ck_662 : x_ok mLT1 [] mTS2 mTC2 mRUp cx_662 [] [(1, [97]), (22, [34])] [(2, ([(0, 3072), (0, 6), (0, 6)], [(12, false), (87, false)], [(0, [(1, 1), (2, (-1))])], [(2, 0, 0, []), (0, 0, 5, []), (0, 0, 0, [(2, 1)])], [], [(0, (false, 61, 0, []), 0, 0, 0, [(1, 1)]), (0, (false, 60, 0, []), 2, 1, 0, [])], [(9, [(5, []), (0, [])]), (9, [(5, []), (0, [(2, 1)])])]), (84, [(2, (-13))]))] (87, []) 0 15 = true := by decide +kernel
theorem sn_662 {W : Bool} {X : List Int32} : y_Snd (mGw W) mLT1 (J2 W X) X cx_662 := y_ok J2_J mTS2_ok1 mTC2_ok1 mRUp_ok1 (fun _ h => absurd h List.not_mem_nil) ck_662
/-- M.nextFrom -/
def cx_663 : zCtx := (275, ([ui0, (0, 6)], [ur1414, ur2343], [], [], [uV2, uV62], [uF2380, uF2350], []), [([ui0, (0, 6)], [ur1414, ur2343], [], [], [uV62], [], [uG2381]), ([ui0, (0, 6)], [ur1414, ur2343], [], [], [uV64], [], [uG2382]), ([ui0, (0, 6)], [ur1414, ur2343], [], [], [uV389], [], [uG2383]), ([ui0, (0, 6)], [ur1414, ur2343], [], [], [uV385], [], [uG2384]), ([ui0, (0, 6)], [ur1414, ur2343], [], [], [uV381], [], [uG2385]), ([ui0, (0, 6)], [ur1414, ur2343], [], [], [uV3], [], [uG2386]), ([ui0, (0, 6)], [ur1414, ur2343], [], [], [uV61], [], [])], [], 178, 1, 22)
def cq_663 : List zCtx := [cx_657, cx_658, cx_659, cx_660, cx_661, cx_662]
def cs_663 : List (Nat × List Nat) := [(19, [0, 1, 2, 3, 4, 5])]
def hs_663 : List (Nat × List Nat) := []
def ns_663 : List zN := []
set_option maxRecDepth 1000000 in
theorem ca_663 : x_okA mLT1 cq_663 mTS2 mTC2 mRUp cx_663 cs_663 hs_663 ns_663 (91, []) 87 94 = true := by decide +kernel
set_option maxRecDepth 1000000 in
theorem cc_663 : x_okC mLT1 cq_663 mTS2 mTC2 mRUp cx_663 cs_663 hs_663 ns_663 (91, []) 87 94 = true := by decide +kernel
theorem ck_663 : x_ok mLT1 cq_663 mTS2 mTC2 mRUp cx_663 cs_663 hs_663 ns_663 (91, []) 87 94 = true := x_ok_of ca_663 (fun _ h => absurd h List.not_mem_nil) cc_663
theorem sn_663 {W : Bool} {X : List Int32} : y_Snd (mGw W) mLT1 (J2 W X) X cx_663 := y_ok J2_J mTS2_ok1 mTC2_ok1 mRUp_ok1 (List.forall_mem_cons.mpr ⟨sn_657, List.forall_mem_cons.mpr ⟨sn_658, List.forall_mem_cons.mpr ⟨sn_659, List.forall_mem_cons.mpr ⟨sn_660, List.forall_mem_cons.mpr ⟨sn_661, List.forall_mem_cons.mpr ⟨sn_662, fun _ h => absurd h List.not_mem_nil⟩⟩⟩⟩⟩⟩) ck_663
/-- M.nextFrom -/
def cx_664 : zCtx := (275, ([ui0, (0, 5)], [ur1414, ur2343], [], [], [uV2, uV64], [uF2380, uF2350], []), [([ui0, (0, 5)], [ur1414, ur2343], [], [], [uV64], [], [uG2382]), ([ui0, (0, 5)], [ur1414, ur2343], [], [], [uV389], [], [uG2383]), ([ui0, (0, 5)], [ur1414, ur2343], [], [], [uV385], [], [uG2384]), ([ui0, (0, 5)], [ur1414, ur2343], [], [], [uV381], [], [uG2385]), ([ui0, (0, 5)], [ur1414, ur2343], [], [], [uV3], [], [uG2386]), ([ui0, (0, 5)], [ur1414, ur2343], [], [], [uV61], [], [])], [], 164, 1, 22)
set_option maxRecDepth 1000000 in
theorem ck_664 : x_ok mLT1 [cx_658, cx_659, cx_660, cx_661, cx_662] mTS2 mTC2 mRUp cx_664 [(19, [0, 1, 2, 3, 4])] [] [] (77, []) 87 80 = true := by decide +kernel
theorem sn_664 {W : Bool} {X : List Int32} : y_Snd (mGw W) mLT1 (J2 W X) X cx_664 := y_ok J2_J mTS2_ok1 mTC2_ok1 mRUp_ok1 (List.forall_mem_cons.mpr ⟨sn_658, List.forall_mem_cons.mpr ⟨sn_659, List.forall_mem_cons.mpr ⟨sn_660, List.forall_mem_cons.mpr ⟨sn_661, List.forall_mem_cons.mpr ⟨sn_662, fun _ h => absurd h List.not_mem_nil⟩⟩⟩⟩⟩) ck_664
end
