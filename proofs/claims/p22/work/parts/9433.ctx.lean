noncomputable section
/-! ===== readings, by program, checked by the kernel ===== -/
/-- M.isBlighted -/
def cx_734 : zCtx := (257, ([ui0, (0, 5), (0, 1), ui194, (1, 1)], [ur1474], [], [], [uV2, uV11], [uF2162, uF2263, uF2264], []), [([ui0, (0, 5), (0, 1), ui194, (1, 1)], [ur1474], [], [], [uV62], [], [])], [], 5, 0, 0)
set_option maxRecDepth 1000000 in
theorem ck_734 : x_ok mLT1 [] mTS2 mTC2 mRUp cx_734 [] [] [] (5, []) 0 8 = true := by decide +kernel
theorem sn_734 {W : Bool} {X : List Int32} : y_Snd (mGw W) mLT1 (J2 W X) X cx_734 := y_ok J2_J mTS2_ok1 mTC2_ok1 mRUp_ok1 (fun _ h => absurd h List.not_mem_nil) ck_734
def cx_735p : zS := ([ui0, (0, 1), ui194, (1, 1), ui31], (cx_622pr_0 (cx_622pr_1 [])), [], [], [uV2], (cx_627pf_0 (cx_627pf_1 [])), [uG2349, uG2392])
/-- M.yearGoes -/
def cx_735 : zCtx := (256, cx_735p, [([ui0, (0, 1), ui194, (1, 1), ui31], [ur1474, ur1521, ur1522, ur1532, ur1533, ur1534, ur1535, ur1536, ur1530, ur1531], [], [], [], [], [])], [uk2205, uk2197, uk2206, uk2040, uk2355, uk2356], 78112, 4, 84)
def cz_735_0 : zS := ([ui0, (0, 1), ui194, (1, 1), ui31, (0, 6)], (cx_622pr_0 (cx_622pr_1 [])), [], [uV2, uV75], [], (cx_627pf_0 (cx_627pf_1 [])), [uG2349, uG2392])
def cz_735_1r_0 (t : List (Nat × Bool)) : List (Nat × Bool) := ur1474 :: ur1521 :: ur1522 :: ur1532 :: ur1533 :: ur1534 :: ur1535 :: ur1536 :: t
def cz_735_1r_1 (t : List (Nat × Bool)) : List (Nat × Bool) := ur1530 :: ur1531 :: ur1523 :: t
def cz_735_1f_0 (t : List zFa) : List zFa := uF2174 :: uF2028 :: uF2029 :: uF2030 :: uF1537 :: uF1538 :: uF2169 :: uF2170 :: t
def cz_735_1f_1 (t : List zFa) : List zFa := uF2171 :: uF2172 :: uF2173 :: uF1768 :: uF1769 :: t
def cz_735_1 : zS := ([ui0, (0, 1), ui194, (1, 1), ui31, (0, 6)], (cz_735_1r_0 (cz_735_1r_1 [])), [], [uV2, uV75], [], (cz_735_1f_0 (cz_735_1f_1 [])), [uG2349, uG2392])
set_option maxRecDepth 1000000 in
theorem ck_735 : x_ok mLT1 [cx_732, cx_733, cx_734, cx_533, cx_524] mTS2 mTC2 mRUp cx_735 [(22, [0]), (33, [1]), (65, [2]), (98, [3]), (104, [4]), (137, [3])] [] [(2, cz_735_0, ((-99999999506), [(3, 100000000000), (5, (-24))])), (45, cz_735_1, ((-99999999660), [(3, 100000000000), (5, (-54))]))] (497, []) 77615 56 = true := by decide +kernel
theorem sn_735 {W : Bool} {X : List Int32} : y_Snd (mGw W) mLT1 (J2 W X) X cx_735 := y_ok J2_J mTS2_ok1 mTC2_ok1 mRUp_ok1 (List.forall_mem_cons.mpr ⟨sn_732, List.forall_mem_cons.mpr ⟨sn_733, List.forall_mem_cons.mpr ⟨sn_734, List.forall_mem_cons.mpr ⟨sn_533, List.forall_mem_cons.mpr ⟨sn_524, fun _ h => absurd h List.not_mem_nil⟩⟩⟩⟩⟩) ck_735
def cx_736pf_0 (t : List zFa) : List zFa := uF2249 :: uF2035 :: uF2542 :: uF1537 :: uF1538 :: uF2169 :: uF2170 :: uF2171 :: t
def cx_736pf_1 (t : List zFa) : List zFa := uF2172 :: uF2173 :: uF1768 :: uF1769 :: t
def cx_736p : zS := ([ui0, (0, 5), ui876, ui876, (0, 1), ui49, (0, 1), ui31], (cx_622pr_0 (cx_622pr_1 [])), [], [], [uV2, uV11, uV12, uV58], (cx_736pf_0 (cx_736pf_1 [])), [uG2252, uG2543])
/-- M.harvestOf -/
def cx_736 : zCtx := (297, cx_736p, [([ui0, (0, 5), ui876, ui876, (0, 1), ui49, (0, 1), ui31, ui49, ui194], [ur1474, ur1521, ur1522, ur1532, ur1533, ur1534, ur1535, ur1536, ur1530, ur1531], [], [], [uV144], [uF2408, uF2428], [])], kc_82, 79798, 5, 105)
def cz_736_0i_0 (t : List (Int × Int)) : List (Int × Int) := ui0 :: (0, 5) :: ui876 :: ui876 :: (0, 1) :: ui49 :: (0, 1) :: ui31 :: t
def cz_736_0i_1 (t : List (Int × Int)) : List (Int × Int) := ui49 :: ui1153 :: ui194 :: t
def cz_736_0f_0 (t : List zFa) : List zFa := uF2408 :: uF2511 :: uF2249 :: uF1537 :: uF1538 :: uF2169 :: uF2170 :: uF2171 :: t
def cz_736_0f_1 (t : List zFa) : List zFa := uF2172 :: uF2173 :: uF1768 :: uF1769 :: t
def cz_736_0 : zS := ((cz_736_0i_0 (cz_736_0i_1 [])), (cx_622pr_0 (cx_622pr_1 [])), [], [uV2, uV11, uV12, uV58, uV144, uV799], [], (cz_736_0f_0 (cz_736_0f_1 [])), [uG2252, uG2543])
set_option maxRecDepth 1000000 in
theorem ck_736 : x_ok mLT1 [cx_601, cx_735] mTS2 mTC2 mRUp cx_736 [(1, [0]), (17, [1])] [] [(10, cz_736_0, (1706, [(9, (-27))]))] (1686, []) 78112 29 = true := by decide +kernel
theorem sn_736 {W : Bool} {X : List Int32} : y_Snd (mGw W) mLT1 (J2 W X) X cx_736 := y_ok J2_J mTS2_ok1 mTC2_ok1 mRUp_ok1 (List.forall_mem_cons.mpr ⟨sn_601, List.forall_mem_cons.mpr ⟨sn_735, fun _ h => absurd h List.not_mem_nil⟩⟩) ck_736
def cx_737p : zS := ([ui0, ui49, ui49, ui49, (0, 1), ui49, (0, 1), ui31], (cx_622pr_0 (cx_622pr_1 [])), [], [], [uV2, uV11, uV12, uV58], (cx_736pf_0 (cx_736pf_1 [])), [uG2252, uG2543])
/-- M.harvest -/
def cx_737 : zCtx := (296, cx_737p, [([ui0, (0, 5), ui1306, ui49, (0, 1), ui49, (0, 1), ui31], [ur1474, ur1521, ur1522, ur1532, ur1533, ur1534, ur1535, ur1536, ur1530, ur1531], [], [], [uV61], [uF2035, uF2542], []), ([ui0, (0, 5), ui871, ui49, (0, 1), ui49, (0, 1), ui31], [ur1474, ur1521, ur1522, ur1532, ur1533, ur1534, ur1535, ur1536, ur1530, ur1531], [], [], [uV61], [uF2035, uF2542], []), ([ui0, (0, 5), ui876, ui260, (0, 1), ui49, (0, 1), ui31], [ur1474, ur1521, ur1522, ur1532, ur1533, ur1534, ur1535, ur1536, ur1530, ur1531], [], [], [uV61], [uF2035, uF2542], []), ([ui0, (0, 5), ui876, ui1096, (0, 1), ui49, (0, 1), ui31], [ur1474, ur1521, ur1522, ur1532, ur1533, ur1534, ur1535, ur1536, ur1530, ur1531], [], [], [uV61], [uF2035, uF2542], []), ([ui0, ui517, ui49, ui49, (0, 1), ui49, (0, 1), ui31], [ur1474, ur1521, ur1522, ur1532, ur1533, ur1534, ur1535, ur1536, ur1530, ur1531], [], [], [uV61], [uF2035, uF2542], []), ([ui0, ui260, ui49, ui49, (0, 1), ui49, (0, 1), ui31], [ur1474, ur1521, ur1522, ur1532, ur1533, ur1534, ur1535, ur1536, ur1530, ur1531], [], [], [uV61], [uF2035, uF2542], []), ([ui0, (0, 5), ui876, (0, 0), (0, 1), ui49, (0, 1), ui31, ui877, ui49, (0, 1)], [ur1474, ur1521, ur1522, ur1532, ur1533, ur1534, ur1535, ur1536, ur1530, ur1531], [], [], [uV144], [uF2428, uF2544], []), ([ui0, (0, 5), ui876, (1, 1), (0, 1), ui49, (0, 1), ui31, ui2513, ui49, (0, 1)], [ur1474, ur1521, ur1522, ur1532, ur1533, ur1534, ur1535, ur1536, ur1530, ur1531], [], [], [uV144], [uF2428, uF2544], [])], kc_82, 81005, 6, 130)
def cz_737_0i_0 (t : List (Int × Int)) : List (Int × Int) := ui0 :: (0, 5) :: ui876 :: (0, 1) :: (0, 1) :: ui49 :: (0, 1) :: ui31 :: t
def cz_737_0i_1 (t : List (Int × Int)) : List (Int × Int) := ui877 :: ui2513 :: ui1153 :: ui49 :: (0, 1) :: t
def cz_737_0f_0 (t : List zFa) : List zFa := uF2249 :: uF2532 :: (0, (false, 50, 0, []), 0, 0, 0, [(12, 1)]) :: uF1537 :: uF1538 :: uF2169 :: uF2170 :: uF2171 :: t
def cz_737_0f_1 (t : List zFa) : List zFa := uF2172 :: uF2173 :: uF1768 :: uF1769 :: t
def cz_737_0 : zS := ((cz_737_0i_0 (cz_737_0i_1 [])), (cx_622pr_0 (cx_622pr_1 [])), [], [uV2, uV11, uV12, uV58, uV144, uV799, uV854, uV113], [], (cz_737_0f_0 (cz_737_0f_1 [])), [uG2252, uG2543])
set_option maxRecDepth 1000000 in
theorem ck_737 : x_ok mLT1 [cx_649, cx_514, cx_736] mTS2 mTC2 mRUp cx_737 [(2, [0]), (12, [1]), (21, [1]), (49, [2])] [] [(38, cz_737_0, (1205, [(10, (-19))]))] (1207, []) 79798 23 = true := by decide +kernel
theorem sn_737 {W : Bool} {X : List Int32} : y_Snd (mGw W) mLT1 (J2 W X) X cx_737 := y_ok J2_J mTS2_ok1 mTC2_ok1 mRUp_ok1 (List.forall_mem_cons.mpr ⟨sn_649, List.forall_mem_cons.mpr ⟨sn_514, List.forall_mem_cons.mpr ⟨sn_736, fun _ h => absurd h List.not_mem_nil⟩⟩⟩) ck_737
def cx_738pi_0 (t : List (Int × Int)) : List (Int × Int) := ui0 :: ui49 :: ui49 :: ui49 :: (0, 1) :: ui49 :: (0, 1) :: ui31 :: t
def cx_738pi_1 (t : List (Int × Int)) : List (Int × Int) := (0, 6) :: (0, 6) :: ui49 :: ui49 :: ui194 :: ui194 :: (0, 6) :: t
def cx_738pr_0 (t : List (Nat × Bool)) : List (Nat × Bool) := ur1474 :: ur1521 :: ur1522 :: ur1532 :: ur1533 :: ur1534 :: ur1535 :: ur1536 :: t
def cx_738pr_1 (t : List (Nat × Bool)) : List (Nat × Bool) := ur1530 :: ur1531 :: ur1523 :: ur1635 :: ur1636 :: ur2027 :: ur2047 :: ur1528 :: t
def cx_738pr_2 (t : List (Nat × Bool)) : List (Nat × Bool) := ur1529 :: ur2343 :: ur2344 :: t
def cx_738pf_0 (t : List zFa) : List zFa := uF2249 :: uF2035 :: uF2542 :: uF1537 :: uF1538 :: uF2169 :: uF2170 :: uF2171 :: t
def cx_738pf_1 (t : List zFa) : List zFa := uF2172 :: uF2173 :: uF1768 :: uF1769 :: uF2174 :: uF2175 :: uF2176 :: uF2177 :: t
def cx_738pf_2 (t : List zFa) : List zFa := uF2342 :: uF2377 :: uF2378 :: uF2403 :: uF2404 :: (10, (true, 0, 0, [(4, 1)]), 0, 0, 0, [(14, 1)]) :: t
def cx_738pg_0 (t : List zTg) : List zTg := uG2252 :: uG2543 :: (85, [uL98, uL131, uL1811]) :: (200, [uL98, uL1811, uL65, uL131]) :: uG2545 :: (90, [uL98, uL212, uL1811]) :: (91, [uL98, uL205, uL1811]) :: t
def cx_738p : zS := ((cx_738pi_0 (cx_738pi_1 [])), (cx_738pr_0 (cx_738pr_1 (cx_738pr_2 []))), [uL2316, uL2375], [], [uV2, uV11, uV12, uV58], (cx_738pf_0 (cx_738pf_1 (cx_738pf_2 []))), (cx_738pg_0 []))
def cx_738q0 : zS := ((cx_738pi_0 (cx_738pi_1 [])), (cx_738pr_0 (cx_738pr_1 (cx_738pr_2 []))), [uL2375], [], [uV61], [], [uG2545])
/-- M.then -/
def cx_738 : zCtx := (298, cx_738p, [cx_738q0], [], 26, 2, 43)
set_option maxRecDepth 1000000 in
theorem ck_738 : x_ok mLT1 [cx_515] mTS2 mTC2 mRUp cx_738 [(2, [0])] [] [] (6, []) 20 9 = true := by decide +kernel
theorem sn_738 {W : Bool} {X : List Int32} : y_Snd (mGw W) mLT1 (J2 W X) X cx_738 := y_ok J2_J mTS2_ok1 mTC2_ok1 mRUp_ok1 (List.forall_mem_cons.mpr ⟨sn_515, fun _ h => absurd h List.not_mem_nil⟩) ck_738
def cx_739pi_0 (t : List (Int × Int)) : List (Int × Int) := ui0 :: (0, 5) :: ui871 :: ui49 :: (0, 1) :: ui49 :: (0, 1) :: ui31 :: t
def cx_739pi_1 (t : List (Int × Int)) : List (Int × Int) := (0, 6) :: (0, 6) :: ui49 :: ui49 :: ui194 :: ui194 :: (0, 6) :: t
def cx_739p : zS := ((cx_739pi_0 (cx_739pi_1 [])), (cx_738pr_0 (cx_738pr_1 (cx_738pr_2 []))), [uL2316, uL9, uL2546], [], [uV2, uV11, uV12, uV58], (cx_738pf_0 (cx_738pf_1 (cx_738pf_2 []))), (cx_738pg_0 []))
/-- M.then -/
def cx_739 : zCtx := (298, cx_739p, [([ui0, (0, 5), ui871, ui49, (0, 1), ui49, (0, 1), ui31, (0, 6), (0, 6), ui49, ui49, ui194, ui194, (0, 6)], [ur1474, ur1521, ur1522, ur1532, ur1533, ur1534, ur1535, ur1536, ur1530, ur1531, ur1523, ur1635, ur1636, ur2027, ur2047, ur1528, ur1529, ur2343, ur2344], [uL9, uL2546], [], [uV61], [], [uG2545])], [], 29, 2, 43)
set_option maxRecDepth 1000000 in
theorem ck_739 : x_ok mLT1 [cx_515, cx_576] mTS2 mTC2 mRUp cx_739 [(2, [0]), (9, [1])] [] [] (9, []) 20 12 = true := by decide +kernel
theorem sn_739 {W : Bool} {X : List Int32} : y_Snd (mGw W) mLT1 (J2 W X) X cx_739 := y_ok J2_J mTS2_ok1 mTC2_ok1 mRUp_ok1 (List.forall_mem_cons.mpr ⟨sn_515, List.forall_mem_cons.mpr ⟨sn_576, fun _ h => absurd h List.not_mem_nil⟩⟩) ck_739
def cx_740pi_0 (t : List (Int × Int)) : List (Int × Int) := ui0 :: (0, 5) :: ui1289 :: ui1096 :: (0, 1) :: ui49 :: (0, 1) :: ui31 :: t
def cx_740pi_1 (t : List (Int × Int)) : List (Int × Int) := (0, 6) :: (0, 6) :: ui49 :: ui49 :: ui194 :: ui194 :: (0, 6) :: t
def cx_740p : zS := ((cx_740pi_0 (cx_740pi_1 [])), (cx_738pr_0 (cx_738pr_1 (cx_738pr_2 []))), [uL2316, uL9, uL2546], [], [uV2, uV11, uV12, uV58], (cx_738pf_0 (cx_738pf_1 (cx_738pf_2 []))), (cx_738pg_0 []))
/-- M.then -/
def cx_740 : zCtx := (298, cx_740p, [([ui0, (0, 5), ui1289, ui1096, (0, 1), ui49, (0, 1), ui31, (0, 6), (0, 6), ui49, ui49, ui194, ui194, (0, 6)], [ur1474, ur1521, ur1522, ur1532, ur1533, ur1534, ur1535, ur1536, ur1530, ur1531, ur1523, ur1635, ur1636, ur2027, ur2047, ur1528, ur1529, ur2343, ur2344], [uL9, uL2546], [], [uV61], [], [uG2545])], [], 34, 2, 43)
set_option maxRecDepth 1000000 in
theorem ck_740 : x_ok mLT1 [cx_515, cx_576, cx_514] mTS2 mTC2 mRUp cx_740 [(2, [0]), (9, [1]), (18, [2])] [] [] (14, []) 20 17 = true := by decide +kernel
theorem sn_740 {W : Bool} {X : List Int32} : y_Snd (mGw W) mLT1 (J2 W X) X cx_740 := y_ok J2_J mTS2_ok1 mTC2_ok1 mRUp_ok1 (List.forall_mem_cons.mpr ⟨sn_515, List.forall_mem_cons.mpr ⟨sn_576, List.forall_mem_cons.mpr ⟨sn_514, fun _ h => absurd h List.not_mem_nil⟩⟩⟩) ck_740
def cx_741pi_0 (t : List (Int × Int)) : List (Int × Int) := ui0 :: (0, 5) :: ui1289 :: ui260 :: (0, 1) :: ui49 :: (0, 1) :: ui31 :: t
def cx_741pi_1 (t : List (Int × Int)) : List (Int × Int) := (0, 6) :: (0, 6) :: ui49 :: ui49 :: ui194 :: ui194 :: (0, 6) :: t
def cx_741p : zS := ((cx_741pi_0 (cx_741pi_1 [])), (cx_738pr_0 (cx_738pr_1 (cx_738pr_2 []))), [uL2316, uL9, uL2546], [], [uV2, uV11, uV12, uV58], (cx_738pf_0 (cx_738pf_1 (cx_738pf_2 []))), (cx_738pg_0 []))
/-- M.then -/
def cx_741 : zCtx := (298, cx_741p, [([ui0, (0, 5), ui1289, ui260, (0, 1), ui49, (0, 1), ui31, (0, 6), (0, 6), ui49, ui49, ui194, ui194, (0, 6)], [ur1474, ur1521, ur1522, ur1532, ur1533, ur1534, ur1535, ur1536, ur1530, ur1531, ur1523, ur1635, ur1636, ur2027, ur2047, ur1528, ur1529, ur2343, ur2344], [uL9, uL2546], [], [uV61], [], [uG2545])], [], 34, 2, 43)
set_option maxRecDepth 1000000 in
theorem ck_741 : x_ok mLT1 [cx_515, cx_576, cx_514] mTS2 mTC2 mRUp cx_741 [(2, [0]), (9, [1]), (18, [2])] [] [] (14, []) 20 17 = true := by decide +kernel
theorem sn_741 {W : Bool} {X : List Int32} : y_Snd (mGw W) mLT1 (J2 W X) X cx_741 := y_ok J2_J mTS2_ok1 mTC2_ok1 mRUp_ok1 (List.forall_mem_cons.mpr ⟨sn_515, List.forall_mem_cons.mpr ⟨sn_576, List.forall_mem_cons.mpr ⟨sn_514, fun _ h => absurd h List.not_mem_nil⟩⟩⟩) ck_741
def cx_742p : zS := ([ui0, (0, 1), ui1359, ui31, (0, 6), ui194, ui836, (0, 6)], (cx_583pr_0 (cx_583pr_1 (cx_583pr_2 []))), [uL786], [], [uV2], (cx_583pf_0 (cx_583pf_1 (cx_583pf_2 []))), [uG2349, uG2350, uG2351, uG2352, uG2353])
/-- M.yearGoes -/
def cx_742 : zCtx := (256, cx_742p, [([ui0, (0, 1), ui1359, ui31, (0, 6), ui194, ui836, (0, 6)], [ur1474, ur1521, ur1522, ur1532, ur1533, ur1534, ur1535, ur1536, ur1530, ur1531, ur1523, ur1635, ur1636, ur2027, ur1528, ur2343, ur2344], [uL786], [], [], [uF2346], [uG2354])], [uk2205, uk2197, uk2206, uk2040, uk2355, uk2356], 78112, 4, 84)
def cq_742 : List zCtx := [cx_534, cx_537, cx_582, cx_533, cx_524]
def cs_742 : List (Nat × List Nat) := [(22, [0]), (33, [1]), (65, [2]), (98, [3]), (104, [4]), (137, [3])]
def hs_742 : List (Nat × List Nat) := [(1, [1000995]), (15, [1000463]), (37, [1000996]), (43, [1000462]), (58, [1000463]), (62, uN2357), (78, [1000023]), (79, uN2358), (101, uN2359), (140, uN2360), (141, uN2361), (147, uN2362), (156, [1000637]), (158, [1001011])]
def nd_742_0pi_0 (t : List (Int × Int)) : List (Int × Int) := ui0 :: (0, 1) :: ui1359 :: ui31 :: (0, 6) :: ui194 :: ui836 :: (0, 6) :: t
def nd_742_0pi_1 (t : List (Int × Int)) : List (Int × Int) := (0, 6) :: t
def nd_742_0pg_0 (t : List zTg) : List zTg := uG2349 :: uG2350 :: uG2351 :: uG2352 :: uG2353 :: uG2363 :: t
def nd_742_0p : zS := ((nd_742_0pi_0 (nd_742_0pi_1 [])), (cx_583pr_0 (cx_583pr_1 (cx_583pr_2 []))), [uL786, uL2364], [uV2, uV144], [], (nd_583_0pf_0 (nd_583_0pf_1 (nd_583_0pf_2 []))), (nd_742_0pg_0 []))
def nd_742_0 : zN := (2, nd_742_0p, uL2365)
def nd_742_1pg_0 (t : List zTg) : List zTg := uG2349 :: uG2350 :: uG2351 :: uG2352 :: uG2366 :: uG2367 :: t
def nd_742_1p : zS := ((nd_742_0pi_0 (nd_742_0pi_1 [])), (cx_583pr_0 (cx_583pr_1 (cx_583pr_2 []))), [uL786, uL2364], [uV2, uV144], [], (nd_583_0pf_0 (nd_583_0pf_1 (nd_583_0pf_2 []))), (nd_742_1pg_0 []))
def nd_742_1 : zN := (45, nd_742_1p, uL2368)
def ns_742 : List zN := [nd_742_0, nd_742_1]
set_option maxRecDepth 1000000 in
theorem ca_742 : x_okA mLT1 cq_742 mTS2 mTC2 mRUp cx_742 cs_742 hs_742 ns_742 (497, []) 77615 56 = true := by decide +kernel
set_option maxRecDepth 1000000 in
theorem cb_742_0 : x_okB mLT1 cq_742 mTS2 mTC2 mRUp cx_742 cs_742 hs_742 ns_742 (497, []) 77615 56 nd_742_0 = true := by decide +kernel
set_option maxRecDepth 1000000 in
theorem cb_742_1 : x_okB mLT1 cq_742 mTS2 mTC2 mRUp cx_742 cs_742 hs_742 ns_742 (497, []) 77615 56 nd_742_1 = true := by decide +kernel
set_option maxRecDepth 1000000 in
theorem cc_742 : x_okC mLT1 cq_742 mTS2 mTC2 mRUp cx_742 cs_742 hs_742 ns_742 (497, []) 77615 56 = true := by decide +kernel
theorem ck_742 : x_ok mLT1 cq_742 mTS2 mTC2 mRUp cx_742 cs_742 hs_742 ns_742 (497, []) 77615 56 = true := x_ok_of ca_742 (List.forall_mem_cons.mpr ⟨cb_742_0, List.forall_mem_cons.mpr ⟨cb_742_1, fun _ h => absurd h List.not_mem_nil⟩⟩) cc_742
theorem sn_742 {W : Bool} {X : List Int32} : y_Snd (mGw W) mLT1 (J2 W X) X cx_742 := y_ok J2_J mTS2_ok1 mTC2_ok1 mRUp_ok1 (List.forall_mem_cons.mpr ⟨sn_534, List.forall_mem_cons.mpr ⟨sn_537, List.forall_mem_cons.mpr ⟨sn_582, List.forall_mem_cons.mpr ⟨sn_533, List.forall_mem_cons.mpr ⟨sn_524, fun _ h => absurd h List.not_mem_nil⟩⟩⟩⟩⟩) ck_742
def cx_743p : zS := ([ui0, ui1289, (0, 1), ui1359, ui31, (0, 6), ui194, (0, 6)], (cx_583pr_0 (cx_583pr_1 (cx_583pr_2 []))), [uL592, uL9], [], [uV2, uV11], (cx_584pf_0 (cx_584pf_1 (cx_584pf_2 []))), [uG2209, uG2370, uG2371, uG2372, uG2373])
/-- M.goes -/
def cx_743 : zCtx := (255, cx_743p, [([ui0, ui1289, (0, 1), ui1359, ui31, (0, 6), ui194, (0, 6)], [ur1474, ur1521, ur1522, ur1532, ur1533, ur1534, ur1535, ur1536, ur1530, ur1531, ur1523, ur1635, ur1636, ur2027, ur1528, ur2343, ur2344], [uL592, uL9], [], [], [uF2369], [uG2374])], [uk2205, uk2197, uk2206, uk2040, uk2355, uk2356], 78623, 5, 105)
def cz_743_0i_0 (t : List (Int × Int)) : List (Int × Int) := ui0 :: ui1289 :: (0, 1) :: ui1359 :: ui31 :: (0, 6) :: ui194 :: (0, 6) :: t
def cz_743_0i_1 (t : List (Int × Int)) : List (Int × Int) := ui877 :: t
def cz_743_0 : zS := ((cz_743_0i_0 (cz_743_0i_1 [])), (cx_583pr_0 (cx_583pr_1 (cx_583pr_2 []))), [uL592, uL9, uL2375], [uV2, uV11, uV144], [], (cz_584_0f_0 (cz_584_0f_1 (cz_584_0f_2 []))), [uG2209, uG2370, uG2371, uG2372, uG2376])
set_option maxRecDepth 1000000 in
theorem ck_743 : x_ok mLT1 [cx_742] mTS2 mTC2 mRUp cx_743 [(8, [0])] [] [(2, cz_743_0, (508, [(8, (-8))]))] (511, []) 78112 10 = true := by decide +kernel
theorem sn_743 {W : Bool} {X : List Int32} : y_Snd (mGw W) mLT1 (J2 W X) X cx_743 := y_ok J2_J mTS2_ok1 mTC2_ok1 mRUp_ok1 (List.forall_mem_cons.mpr ⟨sn_742, fun _ h => absurd h List.not_mem_nil⟩) ck_743
def cx_744pi_0 (t : List (Int × Int)) : List (Int × Int) := ui0 :: (0, 5) :: ui1289 :: (0, 0) :: (0, 1) :: ui49 :: (0, 1) :: ui31 :: t
def cx_744pi_1 (t : List (Int × Int)) : List (Int × Int) := (0, 6) :: (0, 6) :: ui49 :: ui49 :: ui194 :: ui194 :: (0, 6) :: t
def cx_744p : zS := ((cx_744pi_0 (cx_744pi_1 [])), (cx_738pr_0 (cx_738pr_1 (cx_738pr_2 []))), [uL2316, uL9, uL2546], [], [uV2, uV11, uV12, uV58], (cx_738pf_0 (cx_738pf_1 (cx_738pf_2 []))), (cx_738pg_0 []))
def cx_744q0i_0 (t : List (Int × Int)) : List (Int × Int) := ui0 :: (0, 5) :: ui1289 :: (0, 0) :: (0, 1) :: ui49 :: (0, 1) :: ui31 :: t
def cx_744q0i_1 (t : List (Int × Int)) : List (Int × Int) := (0, 6) :: (0, 6) :: ui49 :: ui49 :: ui194 :: ui194 :: (0, 6) :: ui49 :: t
def cx_744q0 : zS := ((cx_744q0i_0 (cx_744q0i_1 [])), (cx_738pr_0 (cx_738pr_1 (cx_738pr_2 []))), [uL9, uL2546], [], [uV601], [], [uG2545, (238, [uL34, uL79, uL212, uL205, uL36, uL67, uL63, uL131, uL9, uL63, uL207])])
/-- M.then -/
def cx_744 : zCtx := (298, cx_744p, [cx_744q0], kc_82, 78648, 6, 127)
set_option maxRecDepth 1000000 in
theorem ck_744 : x_ok mLT1 [cx_515, cx_576, cx_514, cx_518, cx_743] mTS2 mTC2 mRUp cx_744 [(2, [0]), (9, [1]), (18, [2]), (27, [3]), (32, [4])] [(30, uN2382), (45, [1000844]), (57, [1000847])] [] (25, []) 78623 28 = true := by decide +kernel
theorem sn_744 {W : Bool} {X : List Int32} : y_Snd (mGw W) mLT1 (J2 W X) X cx_744 := y_ok J2_J mTS2_ok1 mTC2_ok1 mRUp_ok1 (List.forall_mem_cons.mpr ⟨sn_515, List.forall_mem_cons.mpr ⟨sn_576, List.forall_mem_cons.mpr ⟨sn_514, List.forall_mem_cons.mpr ⟨sn_518, List.forall_mem_cons.mpr ⟨sn_743, fun _ h => absurd h List.not_mem_nil⟩⟩⟩⟩⟩) ck_744
def cx_745pi_0 (t : List (Int × Int)) : List (Int × Int) := ui0 :: (0, 5) :: ui1289 :: (1, 1) :: (0, 1) :: ui49 :: (0, 1) :: ui31 :: t
def cx_745pi_1 (t : List (Int × Int)) : List (Int × Int) := (0, 6) :: (0, 6) :: ui49 :: ui49 :: ui194 :: ui194 :: (0, 6) :: t
def cx_745p : zS := ((cx_745pi_0 (cx_745pi_1 [])), (cx_738pr_0 (cx_738pr_1 (cx_738pr_2 []))), [uL2316, uL9, uL2546], [], [uV2, uV11, uV12, uV58], (cx_738pf_0 (cx_738pf_1 (cx_738pf_2 []))), (cx_738pg_0 []))
def cx_745q0i_0 (t : List (Int × Int)) : List (Int × Int) := ui0 :: (0, 5) :: ui1289 :: (1, 1) :: (0, 1) :: ui49 :: (0, 1) :: ui31 :: t
def cx_745q0i_1 (t : List (Int × Int)) : List (Int × Int) := (0, 6) :: (0, 6) :: ui49 :: ui49 :: ui194 :: ui194 :: (0, 6) :: ui49 :: t
def cx_745q0 : zS := ((cx_745q0i_0 (cx_745q0i_1 [])), (cx_738pr_0 (cx_738pr_1 (cx_738pr_2 []))), [uL9, uL2546], [], [uV601], [], [uG2545, (238, [uL34, uL79, uL212, uL205, uL36, uL67, uL63, uL131, uL580, uL63, uL207])])
/-- M.then -/
def cx_745 : zCtx := (298, cx_745p, [cx_745q0], kc_82, 78649, 6, 127)
set_option maxRecDepth 1000000 in
theorem ck_745 : x_ok mLT1 [cx_515, cx_576, cx_514, cx_518, cx_743] mTS2 mTC2 mRUp cx_745 [(2, [0]), (9, [1]), (18, [2]), (27, [3]), (32, [4])] [(30, uN2382), (57, [1000847])] [] (26, []) 78623 29 = true := by decide +kernel
theorem sn_745 {W : Bool} {X : List Int32} : y_Snd (mGw W) mLT1 (J2 W X) X cx_745 := y_ok J2_J mTS2_ok1 mTC2_ok1 mRUp_ok1 (List.forall_mem_cons.mpr ⟨sn_515, List.forall_mem_cons.mpr ⟨sn_576, List.forall_mem_cons.mpr ⟨sn_514, List.forall_mem_cons.mpr ⟨sn_518, List.forall_mem_cons.mpr ⟨sn_743, fun _ h => absurd h List.not_mem_nil⟩⟩⟩⟩⟩) ck_745
def cx_746pi_0 (t : List (Int × Int)) : List (Int × Int) := ui0 :: (0, 5) :: ui260 :: ui49 :: (0, 1) :: ui49 :: (0, 1) :: ui31 :: t
def cx_746pi_1 (t : List (Int × Int)) : List (Int × Int) := (0, 6) :: (0, 6) :: ui49 :: ui49 :: ui194 :: ui194 :: (0, 6) :: t
def cx_746p : zS := ((cx_746pi_0 (cx_746pi_1 [])), (cx_738pr_0 (cx_738pr_1 (cx_738pr_2 []))), [uL2316, uL9, uL2546], [], [uV2, uV11, uV12, uV58], (cx_738pf_0 (cx_738pf_1 (cx_738pf_2 []))), (cx_738pg_0 []))
/-- M.then -/
def cx_746 : zCtx := (298, cx_746p, [([ui0, (0, 5), ui260, ui49, (0, 1), ui49, (0, 1), ui31, (0, 6), (0, 6), ui49, ui49, ui194, ui194, (0, 6)], [ur1474, ur1521, ur1522, ur1532, ur1533, ur1534, ur1535, ur1536, ur1530, ur1531, ur1523, ur1635, ur1636, ur2027, ur2047, ur1528, ur1529, ur2343, ur2344], [uL9, uL2546], [], [uV61], [], [uG2545])], [], 29, 2, 43)
set_option maxRecDepth 1000000 in
theorem ck_746 : x_ok mLT1 [cx_515, cx_576] mTS2 mTC2 mRUp cx_746 [(2, [0]), (9, [1])] [] [] (9, []) 20 12 = true := by decide +kernel
theorem sn_746 {W : Bool} {X : List Int32} : y_Snd (mGw W) mLT1 (J2 W X) X cx_746 := y_ok J2_J mTS2_ok1 mTC2_ok1 mRUp_ok1 (List.forall_mem_cons.mpr ⟨sn_515, List.forall_mem_cons.mpr ⟨sn_576, fun _ h => absurd h List.not_mem_nil⟩⟩) ck_746
def cx_747p : zS := ((cx_738pi_0 (cx_738pi_1 [])), (cx_738pr_0 (cx_738pr_1 (cx_738pr_2 []))), [uL2316, uL584], [], [uV2, uV11, uV12, uV58], (cx_738pf_0 (cx_738pf_1 (cx_738pf_2 []))), (cx_738pg_0 []))
/-- M.then -/
def cx_747 : zCtx := (298, cx_747p, [([ui0, ui49, ui49, ui49, (0, 1), ui49, (0, 1), ui31, (0, 6), (0, 6), ui49, ui49, ui194, ui194, (0, 6)], [ur1474, ur1521, ur1522, ur1532, ur1533, ur1534, ur1535, ur1536, ur1530, ur1531, ur1523, ur1635, ur1636, ur2027, ur2047, ur1528, ur1529, ur2343, ur2344], [uL584], [], [uV61], [], [uG2545])], [], 26, 2, 43)
set_option maxRecDepth 1000000 in
theorem ck_747 : x_ok mLT1 [cx_515] mTS2 mTC2 mRUp cx_747 [(2, [0])] [] [] (6, []) 20 9 = true := by decide +kernel
theorem sn_747 {W : Bool} {X : List Int32} : y_Snd (mGw W) mLT1 (J2 W X) X cx_747 := y_ok J2_J mTS2_ok1 mTC2_ok1 mRUp_ok1 (List.forall_mem_cons.mpr ⟨sn_515, fun _ h => absurd h List.not_mem_nil⟩) ck_747
def cx_748pi_0 (t : List (Int × Int)) : List (Int × Int) := ui0 :: ui49 :: ui49 :: ui49 :: ui49 :: (0, 1) :: ui49 :: (0, 1) :: t
def cx_748pi_1 (t : List (Int × Int)) : List (Int × Int) := ui31 :: (0, 6) :: (0, 6) :: ui49 :: ui49 :: ui194 :: ui194 :: (0, 6) :: t
def cx_748pf_0 (t : List zFa) : List zFa := uF2547 :: uF2423 :: (0, (false, 50, 0, []), 0, 0, 0, [(7, 1)]) :: uF1537 :: uF1538 :: uF2169 :: uF2170 :: uF2171 :: t
def cx_748pf_1 (t : List zFa) : List zFa := uF2172 :: uF2173 :: uF1768 :: uF1769 :: uF2174 :: uF2175 :: uF2176 :: uF2177 :: t
def cx_748pf_2 (t : List zFa) : List zFa := uF2342 :: uF2377 :: uF2378 :: uF2403 :: uF2404 :: (10, (true, 0, 0, [(5, 1)]), 0, 0, 0, [(15, 1)]) :: t
def cx_748pg_0 (t : List zTg) : List zTg := uG2548 :: uG2549 :: uG2550 :: uG2551 :: uG2552 :: uG2553 :: uG2554 :: t
def cx_748p : zS := ((cx_748pi_0 (cx_748pi_1 [])), (cx_738pr_0 (cx_738pr_1 (cx_738pr_2 []))), [uL2536, uL1179], [], [uV2, uV11, uV12, uV58, uV97], (cx_748pf_0 (cx_748pf_1 (cx_748pf_2 []))), (cx_748pg_0 []))
def cx_748q0 : zS := ((cx_748pi_0 (cx_748pi_1 [])), (cx_738pr_0 (cx_738pr_1 (cx_738pr_2 []))), [uL1179], [], [uV61], [], [uG2552])
/-- M.year -/
def cx_748 : zCtx := (299, cx_748p, [cx_748q0], [], 26, 2, 43)
set_option maxRecDepth 1000000 in
theorem ck_748 : x_ok mLT1 [cx_515] mTS2 mTC2 mRUp cx_748 [(2, [0])] [] [] (6, []) 20 9 = true := by decide +kernel
theorem sn_748 {W : Bool} {X : List Int32} : y_Snd (mGw W) mLT1 (J2 W X) X cx_748 := y_ok J2_J mTS2_ok1 mTC2_ok1 mRUp_ok1 (List.forall_mem_cons.mpr ⟨sn_515, fun _ h => absurd h List.not_mem_nil⟩) ck_748
/-- M.isMark -/
def cx_749 : zCtx := (300, ([ui0, ui49], [], [], [], [uV11], [], []), [([ui0, ui260], [], [], [], [uV62], [], []), ([ui0, ui1385], [], [], [], [uV62], [], []), ([ui0, ui537], [], [], [], [uV64], [], [])], [], 14, 1, 22)
set_option maxRecDepth 1000000 in
theorem ck_749 : x_ok mLT1 [cx_514] mTS2 mTC2 mRUp cx_749 [(4, [0])] [] [] (5, []) 9 8 = true := by decide +kernel
theorem sn_749 {W : Bool} {X : List Int32} : y_Snd (mGw W) mLT1 (J2 W X) X cx_749 := y_ok J2_J mTS2_ok1 mTC2_ok1 mRUp_ok1 (List.forall_mem_cons.mpr ⟨sn_514, fun _ h => absurd h List.not_mem_nil⟩) ck_749
def cx_750pi_0 (t : List (Int × Int)) : List (Int × Int) := ui0 :: (0, 5) :: ui1385 :: ui49 :: ui49 :: (0, 1) :: ui49 :: (0, 1) :: t
def cx_750pi_1 (t : List (Int × Int)) : List (Int × Int) := ui31 :: (0, 6) :: (0, 6) :: ui49 :: ui49 :: ui194 :: ui194 :: (0, 6) :: t
def cx_750p : zS := ((cx_750pi_0 (cx_750pi_1 [])), (cx_738pr_0 (cx_738pr_1 (cx_738pr_2 []))), [uL2536, uL9, uL2555], [], [uV2, uV11, uV12, uV58, uV97], (cx_748pf_0 (cx_748pf_1 (cx_748pf_2 []))), (cx_748pg_0 []))
def cx_750q0 : zS := ((cx_750pi_0 (cx_750pi_1 [])), (cx_738pr_0 (cx_738pr_1 (cx_738pr_2 []))), [uL9, uL2555], [], [uV61], [], [uG2552])
/-- M.year -/
def cx_750 : zCtx := (299, cx_750p, [cx_750q0], [], 29, 2, 43)
set_option maxRecDepth 1000000 in
theorem ck_750 : x_ok mLT1 [cx_515, cx_749] mTS2 mTC2 mRUp cx_750 [(2, [0]), (9, [1])] [] [] (9, []) 20 12 = true := by decide +kernel
theorem sn_750 {W : Bool} {X : List Int32} : y_Snd (mGw W) mLT1 (J2 W X) X cx_750 := y_ok J2_J mTS2_ok1 mTC2_ok1 mRUp_ok1 (List.forall_mem_cons.mpr ⟨sn_515, List.forall_mem_cons.mpr ⟨sn_749, fun _ h => absurd h List.not_mem_nil⟩⟩) ck_750
def cx_751pi_0 (t : List (Int × Int)) : List (Int × Int) := ui0 :: (0, 5) :: ui537 :: ui871 :: ui49 :: (0, 1) :: ui49 :: (0, 1) :: t
def cx_751pi_1 (t : List (Int × Int)) : List (Int × Int) := ui31 :: (0, 6) :: (0, 6) :: ui49 :: ui49 :: ui194 :: ui194 :: (0, 6) :: t
def cx_751p : zS := ((cx_751pi_0 (cx_751pi_1 [])), (cx_738pr_0 (cx_738pr_1 (cx_738pr_2 []))), [uL2536, uL9, uL2555], [], [uV2, uV11, uV12, uV58, uV97], (cx_748pf_0 (cx_748pf_1 (cx_748pf_2 []))), (cx_748pg_0 []))
/-- M.year -/
def cx_751 : zCtx := (299, cx_751p, [([ui0, (0, 5), ui537, ui871, ui49, (0, 1), ui49, (0, 1), ui31, (0, 6), (0, 6), ui49, ui49, ui194, ui194, (0, 6)], [ur1474, ur1521, ur1522, ur1532, ur1533, ur1534, ur1535, ur1536, ur1530, ur1531, ur1523, ur1635, ur1636, ur2027, ur2047, ur1528, ur1529, ur2343, ur2344], [uL9, uL2555], [], [uV61], [], [uG2552])], [], 32, 2, 43)
set_option maxRecDepth 1000000 in
theorem ck_751 : x_ok mLT1 [cx_515, cx_749, cx_576] mTS2 mTC2 mRUp cx_751 [(2, [0]), (9, [1]), (16, [2])] [] [] (12, []) 20 15 = true := by decide +kernel
theorem sn_751 {W : Bool} {X : List Int32} : y_Snd (mGw W) mLT1 (J2 W X) X cx_751 := y_ok J2_J mTS2_ok1 mTC2_ok1 mRUp_ok1 (List.forall_mem_cons.mpr ⟨sn_515, List.forall_mem_cons.mpr ⟨sn_749, List.forall_mem_cons.mpr ⟨sn_576, fun _ h => absurd h List.not_mem_nil⟩⟩⟩) ck_751
def cx_752pi_0 (t : List (Int × Int)) : List (Int × Int) := ui0 :: (0, 5) :: ui537 :: ui1289 :: ui1393 :: (0, 1) :: ui49 :: (0, 1) :: t
def cx_752pi_1 (t : List (Int × Int)) : List (Int × Int) := ui31 :: (0, 6) :: (0, 6) :: ui49 :: ui49 :: ui194 :: ui194 :: (0, 6) :: t
def cx_752p : zS := ((cx_752pi_0 (cx_752pi_1 [])), (cx_738pr_0 (cx_738pr_1 (cx_738pr_2 []))), [uL2536, uL9, uL2555], [], [uV2, uV11, uV12, uV58, uV97], (cx_748pf_0 (cx_748pf_1 (cx_748pf_2 []))), (cx_748pg_0 []))
/-- M.year -/
def cx_752 : zCtx := (299, cx_752p, [([ui0, (0, 5), ui537, ui1289, ui1393, (0, 1), ui49, (0, 1), ui31, (0, 6), (0, 6), ui49, ui49, ui194, ui194, (0, 6)], [ur1474, ur1521, ur1522, ur1532, ur1533, ur1534, ur1535, ur1536, ur1530, ur1531, ur1523, ur1635, ur1636, ur2027, ur2047, ur1528, ur1529, ur2343, ur2344], [uL9, uL2555], [], [uV61], [], [uG2552])], [], 37, 2, 43)
set_option maxRecDepth 1000000 in
theorem ck_752 : x_ok mLT1 [cx_515, cx_749, cx_576, cx_514] mTS2 mTC2 mRUp cx_752 [(2, [0]), (9, [1]), (16, [2]), (27, [3])] [] [] (17, []) 20 20 = true := by decide +kernel
theorem sn_752 {W : Bool} {X : List Int32} : y_Snd (mGw W) mLT1 (J2 W X) X cx_752 := y_ok J2_J mTS2_ok1 mTC2_ok1 mRUp_ok1 (List.forall_mem_cons.mpr ⟨sn_515, List.forall_mem_cons.mpr ⟨sn_749, List.forall_mem_cons.mpr ⟨sn_576, List.forall_mem_cons.mpr ⟨sn_514, fun _ h => absurd h List.not_mem_nil⟩⟩⟩⟩) ck_752
def cx_753pi_0 (t : List (Int × Int)) : List (Int × Int) := ui0 :: (0, 5) :: ui537 :: ui1289 :: ui1394 :: (0, 1) :: ui49 :: (0, 1) :: t
def cx_753pi_1 (t : List (Int × Int)) : List (Int × Int) := ui31 :: (0, 6) :: (0, 6) :: ui49 :: ui49 :: ui194 :: ui194 :: (0, 6) :: t
def cx_753p : zS := ((cx_753pi_0 (cx_753pi_1 [])), (cx_738pr_0 (cx_738pr_1 (cx_738pr_2 []))), [uL2536, uL9, uL2555], [], [uV2, uV11, uV12, uV58, uV97], (cx_748pf_0 (cx_748pf_1 (cx_748pf_2 []))), (cx_748pg_0 []))
def cx_753q0i_0 (t : List (Int × Int)) : List (Int × Int) := ui0 :: (0, 5) :: ui537 :: ui1289 :: ui1394 :: (0, 1) :: ui49 :: (0, 1) :: t
def cx_753q0i_1 (t : List (Int × Int)) : List (Int × Int) := ui31 :: (0, 6) :: (0, 6) :: ui49 :: ui49 :: ui194 :: ui194 :: (0, 6) :: t
def cx_753q0i_2 (t : List (Int × Int)) : List (Int × Int) := ui49 :: t
def cx_753q0 : zS := ((cx_753q0i_0 (cx_753q0i_1 (cx_753q0i_2 []))), (cx_738pr_0 (cx_738pr_1 (cx_738pr_2 []))), [uL9, uL2555], [], [uV1668], [], [uG2552, (238, [uL624, uL131, uL205, uL206, uL63, uL63, uL63, uL63, uL1395, uL98, uL210])])
/-- M.year -/
def cx_753 : zCtx := (299, cx_753p, [cx_753q0], kc_82, 79176, 6, 127)
def cz_753_0i_0 (t : List (Int × Int)) : List (Int × Int) := ui0 :: (0, 5) :: ui537 :: ui1289 :: ui1394 :: (0, 1) :: ui49 :: (0, 1) :: t
def cz_753_0i_1 (t : List (Int × Int)) : List (Int × Int) := ui31 :: (1, 6) :: (0, 6) :: ui49 :: ui49 :: ui194 :: ui194 :: (0, 6) :: t
def cz_753_0i_2 (t : List (Int × Int)) : List (Int × Int) := ui1396 :: ui424 :: ui49 :: (0, 1) :: t
def cz_753_0f_0 (t : List zFa) : List zFa := uF2547 :: (0, (false, 49, 0, []), 0, 0, 0, [(18, 1)]) :: (0, (false, 50, 0, []), 0, 0, 0, [(19, 1)]) :: uF1537 :: uF1538 :: uF2169 :: uF2170 :: uF2171 :: t
def cz_753_0f_1 (t : List zFa) : List zFa := uF2172 :: uF2173 :: uF1768 :: uF1769 :: uF2174 :: uF2175 :: uF2176 :: uF2177 :: t
def cz_753_0f_2 (t : List zFa) : List zFa := uF2342 :: uF2377 :: uF2378 :: uF2403 :: uF2404 :: t
def cz_753_0g_0 (t : List zTg) : List zTg := uG2548 :: uG2549 :: uG2550 :: uG2551 :: uG2553 :: uG2554 :: uG2552 :: (238, [uL624, uL131, uL205, uL206, uL63, uL63, uL63, uL63, uL1395, uL211, uL210]) :: t
def cz_753_0 : zS := ((cz_753_0i_0 (cz_753_0i_1 (cz_753_0i_2 []))), (cx_738pr_0 (cx_738pr_1 (cx_738pr_2 []))), [uL2555, uL2536, uL9, uL211, (0, [(4, 1), (17, (-1))]), uL9, uL2555], [uV2, uV11, uV12, uV58, uV97, uV1668, uV1213], [], (cz_753_0f_0 (cz_753_0f_1 (cz_753_0f_2 []))), (cz_753_0g_0 []))
set_option maxRecDepth 1000000 in
theorem ck_753 : x_ok mLT1 [cx_515, cx_749, cx_576, cx_514, cx_518, cx_743] mTS2 mTC2 mRUp cx_753 [(2, [0]), (9, [1]), (16, [2]), (27, [3]), (49, [4]), (65, [5])] [(38, [1001257]), (52, [1000831, 1000992]), (60, [1000993, 1001258]), (73, [1000844]), (75, [1000012]), (78, [1001260]), (81, [1001259])] [(41, cz_753_0, (533, [(17, (-24))]))] (553, []) 78623 26 = true := by decide +kernel
theorem sn_753 {W : Bool} {X : List Int32} : y_Snd (mGw W) mLT1 (J2 W X) X cx_753 := y_ok J2_J mTS2_ok1 mTC2_ok1 mRUp_ok1 (List.forall_mem_cons.mpr ⟨sn_515, List.forall_mem_cons.mpr ⟨sn_749, List.forall_mem_cons.mpr ⟨sn_576, List.forall_mem_cons.mpr ⟨sn_514, List.forall_mem_cons.mpr ⟨sn_518, List.forall_mem_cons.mpr ⟨sn_743, fun _ h => absurd h List.not_mem_nil⟩⟩⟩⟩⟩⟩) ck_753
def cx_754pi_0 (t : List (Int × Int)) : List (Int × Int) := ui0 :: (0, 5) :: ui537 :: ui1289 :: ui1306 :: (0, 1) :: ui49 :: (0, 1) :: t
def cx_754pi_1 (t : List (Int × Int)) : List (Int × Int) := ui31 :: (0, 6) :: (0, 6) :: ui49 :: ui49 :: ui194 :: ui194 :: (0, 6) :: t
def cx_754p : zS := ((cx_754pi_0 (cx_754pi_1 [])), (cx_738pr_0 (cx_738pr_1 (cx_738pr_2 []))), [uL2536, uL9, uL2555], [], [uV2, uV11, uV12, uV58, uV97], (cx_748pf_0 (cx_748pf_1 (cx_748pf_2 []))), (cx_748pg_0 []))
/-- M.year -/
def cx_754 : zCtx := (299, cx_754p, [([ui0, (0, 5), ui537, ui1289, ui1306, (0, 1), ui49, (0, 1), ui31, (0, 6), (0, 6), ui49, ui49, ui194, ui194, (0, 6)], [ur1474, ur1521, ur1522, ur1532, ur1533, ur1534, ur1535, ur1536, ur1530, ur1531, ur1523, ur1635, ur1636, ur2027, ur2047, ur1528, ur1529, ur2343, ur2344], [uL9, uL2555], [], [uV61], [], [uG2552])], [], 37, 2, 43)
set_option maxRecDepth 1000000 in
theorem ck_754 : x_ok mLT1 [cx_515, cx_749, cx_576, cx_514] mTS2 mTC2 mRUp cx_754 [(2, [0]), (9, [1]), (16, [2]), (27, [3])] [] [] (17, []) 20 20 = true := by decide +kernel
theorem sn_754 {W : Bool} {X : List Int32} : y_Snd (mGw W) mLT1 (J2 W X) X cx_754 := y_ok J2_J mTS2_ok1 mTC2_ok1 mRUp_ok1 (List.forall_mem_cons.mpr ⟨sn_515, List.forall_mem_cons.mpr ⟨sn_749, List.forall_mem_cons.mpr ⟨sn_576, List.forall_mem_cons.mpr ⟨sn_514, fun _ h => absurd h List.not_mem_nil⟩⟩⟩⟩) ck_754
def cx_755pi_0 (t : List (Int × Int)) : List (Int × Int) := ui0 :: (0, 5) :: ui537 :: ui260 :: ui49 :: (0, 1) :: ui49 :: (0, 1) :: t
def cx_755pi_1 (t : List (Int × Int)) : List (Int × Int) := ui31 :: (0, 6) :: (0, 6) :: ui49 :: ui49 :: ui194 :: ui194 :: (0, 6) :: t
def cx_755p : zS := ((cx_755pi_0 (cx_755pi_1 [])), (cx_738pr_0 (cx_738pr_1 (cx_738pr_2 []))), [uL2536, uL9, uL2555], [], [uV2, uV11, uV12, uV58, uV97], (cx_748pf_0 (cx_748pf_1 (cx_748pf_2 []))), (cx_748pg_0 []))
def cx_755q0 : zS := ((cx_755pi_0 (cx_755pi_1 [])), (cx_738pr_0 (cx_738pr_1 (cx_738pr_2 []))), [uL9, uL2555], [], [uV61], [], [uG2552])
/-- M.year -/
def cx_755 : zCtx := (299, cx_755p, [cx_755q0], [], 32, 2, 43)
set_option maxRecDepth 1000000 in
theorem ck_755 : x_ok mLT1 [cx_515, cx_749, cx_576] mTS2 mTC2 mRUp cx_755 [(2, [0]), (9, [1]), (16, [2])] [] [] (12, []) 20 15 = true := by decide +kernel
theorem sn_755 {W : Bool} {X : List Int32} : y_Snd (mGw W) mLT1 (J2 W X) X cx_755 := y_ok J2_J mTS2_ok1 mTC2_ok1 mRUp_ok1 (List.forall_mem_cons.mpr ⟨sn_515, List.forall_mem_cons.mpr ⟨sn_749, List.forall_mem_cons.mpr ⟨sn_576, fun _ h => absurd h List.not_mem_nil⟩⟩⟩) ck_755
def cx_756pi_0 (t : List (Int × Int)) : List (Int × Int) := ui0 :: (0, 5) :: ui260 :: ui49 :: ui49 :: (0, 1) :: ui49 :: (0, 1) :: t
def cx_756pi_1 (t : List (Int × Int)) : List (Int × Int) := ui31 :: (0, 6) :: (0, 6) :: ui49 :: ui49 :: ui194 :: ui194 :: (0, 6) :: t
def cx_756p : zS := ((cx_756pi_0 (cx_756pi_1 [])), (cx_738pr_0 (cx_738pr_1 (cx_738pr_2 []))), [uL2536, uL9, uL2555], [], [uV2, uV11, uV12, uV58, uV97], (cx_748pf_0 (cx_748pf_1 (cx_748pf_2 []))), (cx_748pg_0 []))
def cx_756q0 : zS := ((cx_756pi_0 (cx_756pi_1 [])), (cx_738pr_0 (cx_738pr_1 (cx_738pr_2 []))), [uL9, uL2555], [], [uV61], [], [uG2552])
/-- M.year -/
def cx_756 : zCtx := (299, cx_756p, [cx_756q0], [], 29, 2, 43)
set_option maxRecDepth 1000000 in
theorem ck_756 : x_ok mLT1 [cx_515, cx_749] mTS2 mTC2 mRUp cx_756 [(2, [0]), (9, [1])] [] [] (9, []) 20 12 = true := by decide +kernel
theorem sn_756 {W : Bool} {X : List Int32} : y_Snd (mGw W) mLT1 (J2 W X) X cx_756 := y_ok J2_J mTS2_ok1 mTC2_ok1 mRUp_ok1 (List.forall_mem_cons.mpr ⟨sn_515, List.forall_mem_cons.mpr ⟨sn_749, fun _ h => absurd h List.not_mem_nil⟩⟩) ck_756
def cx_757p : zS := ((cx_748pi_0 (cx_748pi_1 [])), (cx_738pr_0 (cx_738pr_1 (cx_738pr_2 []))), [uL2536, uL584], [], [uV2, uV11, uV12, uV58, uV97], (cx_748pf_0 (cx_748pf_1 (cx_748pf_2 []))), (cx_748pg_0 []))
def cx_757q0 : zS := ((cx_748pi_0 (cx_748pi_1 [])), (cx_738pr_0 (cx_738pr_1 (cx_738pr_2 []))), [uL584], [], [uV61], [], [uG2552])
/-- M.year -/
def cx_757 : zCtx := (299, cx_757p, [cx_757q0], [], 26, 2, 43)
set_option maxRecDepth 1000000 in
theorem ck_757 : x_ok mLT1 [cx_515] mTS2 mTC2 mRUp cx_757 [(2, [0])] [] [] (6, []) 20 9 = true := by decide +kernel
theorem sn_757 {W : Bool} {X : List Int32} : y_Snd (mGw W) mLT1 (J2 W X) X cx_757 := y_ok J2_J mTS2_ok1 mTC2_ok1 mRUp_ok1 (List.forall_mem_cons.mpr ⟨sn_515, fun _ h => absurd h List.not_mem_nil⟩) ck_757
/-- M.tell -/
def cx_758 : zCtx := (301, ([ui0, ui49, ui49, (0, 1), ui48], [ur1474], [], [], [uV2, uV11, uV12, uV58], [uF2556], []), [([ui0, ui260, ui49, (0, 1), ui1397], [ur1474], [], [], [uV61], [uF2556], []), ([ui0, ui259, ui49, (0, 1), ui1397], [ur1474], [], [], [uV61], [uF2556], []), ([ui0, (0, 5), ui537, (0, 1), ui1397], [ur1474], [], [], [uV97], [(0, (false, 63, 0, []), 0, 0, 1, [(4, 1)])], []), ([ui0, (0, 5), ui1385, (0, 1), ui1397], [ur1474], [], [], [uV61], [uF2556], []), ([ui0, (0, 5), ui260, (0, 1), ui1397], [ur1474], [], [], [uV61], [uF2556], []), ([ui0, ui49, ui49, (0, 1), ui1403], [ur1474], [], [], [uV61], [uF2556], [])], [uk2557, (89, true, 0), (90, true, 0), (91, true, 0)], 55, 2, 42)
set_option maxRecDepth 1000000 in
theorem ck_758 : x_ok mLT1 [cx_514, cx_749] mTS2 mTC2 mRUp cx_758 [(12, [0]), (19, [1])] [] [] (41, []) 14 44 = true := by decide +kernel
theorem sn_758 {W : Bool} {X : List Int32} : y_Snd (mGw W) mLT1 (J2 W X) X cx_758 := y_ok J2_J mTS2_ok1 mTC2_ok1 mRUp_ok1 (List.forall_mem_cons.mpr ⟨sn_514, List.forall_mem_cons.mpr ⟨sn_749, fun _ h => absurd h List.not_mem_nil⟩⟩) ck_758
/-- M.forget -/
def cx_759 : zCtx := (302, ([ui0, ui48], [ur1474], [], [], [uV2], [(0, (false, 63, 0, []), 0, 0, 0, [(1, 1)])], []), [([ui0, ui48], [ur1474], [], [], [uV11], [uF2121], [])], [uk2557], 8, 0, 0)
set_option maxRecDepth 1000000 in
theorem ck_759 : x_ok mLT1 [] mTS2 mTC2 mRUp cx_759 [] [] [] (8, []) 0 11 = true := by decide +kernel
theorem sn_759 {W : Bool} {X : List Int32} : y_Snd (mGw W) mLT1 (J2 W X) X cx_759 := y_ok J2_J mTS2_ok1 mTC2_ok1 mRUp_ok1 (fun _ h => absurd h List.not_mem_nil) ck_759
/-- M.isAsked -/
def cx_760 : zCtx := (304, ([ui0, ui49, ui49, ui48], [ur1474], [], [], [uV2, uV11, uV12], [(0, (false, 63, 0, []), 0, 0, 0, [(3, 1)])], []), [([ui0, ui260, ui49, ui48], [ur1474], [], [], [uV62], [], []), ([ui0, ui512, ui49, ui48], [ur1474], [uL1510], [], [uV62], [], []), ([ui0, ui48, ui1306, ui48], [ur1474], [uL66], [], [uV62], [], []), ([ui0, ui48, ui1404, ui48], [ur1474], [uL66], [], [uV62], [], []), ([ui0, ui48, (1, 6), ui48], [ur1474], [uL66], [], [uV64], [], [])], [], 23, 1, 22)
set_option maxRecDepth 1000000 in
theorem ck_760 : x_ok mLT1 [cx_514] mTS2 mTC2 mRUp cx_760 [(6, [0]), (16, [0])] [] [] (14, []) 9 17 = true := by decide +kernel
theorem sn_760 {W : Bool} {X : List Int32} : y_Snd (mGw W) mLT1 (J2 W X) X cx_760 := y_ok J2_J mTS2_ok1 mTC2_ok1 mRUp_ok1 (List.forall_mem_cons.mpr ⟨sn_514, fun _ h => absurd h List.not_mem_nil⟩) ck_760
/-- M.sixes -/
def cx_761 : zCtx := (305, ([ui0, (1, 6)], [], [], [], [uV11], [], []), [([ui0, (1, 1)], [], [], [], [uV314], [], []), ([ui0, (2, 2)], [], [], [], [(0, 0, 36, [])], [], []), ([ui0, (3, 3)], [], [], [], [(0, 0, 216, [])], [], []), ([ui0, (4, 4)], [], [], [], [(0, 0, 1296, [])], [], []), ([ui0, (5, 5)], [], [], [], [(0, 0, 7776, [])], [], []), ([ui0, (6, 6)], [], [], [], [(0, 0, 46656, [])], [], [])], [], 140, 0, 0)
set_option maxRecDepth 1000000 in
theorem ck_761 : x_ok mLT1 [] mTS2 mTC2 mRUp cx_761 [] [] [(4, ([(0, 3072), (1, 6)], [], [], [(0, 0, 0, [(1, 1)]), (0, 0, 1, []), (0, 0, 0, [])], [], [], []), (10, [(1, 20)])), (4, ([(0, 3072), (1, 6)], [], [], [(0, 0, 0, [(1, 1)]), (0, 0, 6, []), (0, 0, 1, [])], [], [], []), ((-10), [(1, 20)])), (4, ([(0, 3072), (2, 6)], [], [], [(0, 0, 0, [(1, 1)]), (0, 0, 36, []), (0, 0, 2, [])], [], [], []), ((-30), [(1, 20)])), (4, ([(0, 3072), (3, 6)], [], [], [(0, 0, 0, [(1, 1)]), (0, 0, 216, []), (0, 0, 3, [])], [], [], []), ((-50), [(1, 20)])), (4, ([(0, 3072), (4, 6)], [], [], [(0, 0, 0, [(1, 1)]), (0, 0, 1296, []), (0, 0, 4, [])], [], [], []), ((-70), [(1, 20)])), (4, ([(0, 3072), (5, 6)], [], [], [(0, 0, 0, [(1, 1)]), (0, 0, 7776, []), (0, 0, 5, [])], [], [], []), ((-90), [(1, 20)])), (4, ([(0, 3072), (6, 6)], [], [], [(0, 0, 0, [(1, 1)]), (0, 0, 46656, []), (0, 0, 6, [])], [], [], []), ((-200000000000), [(1, 33333333335)]))] (140, []) 0 12 = true := by decide +kernel
theorem sn_761 {W : Bool} {X : List Int32} : y_Snd (mGw W) mLT1 (J2 W X) X cx_761 := y_ok J2_J mTS2_ok1 mTC2_ok1 mRUp_ok1 (fun _ h => absurd h List.not_mem_nil) ck_761
/-- M.doesFit -/
def cx_762 : zCtx := (306, ([ui0, ui2558, ui48, (1, 6), (0, 1)], [ur1474], [], [], [uV2, uV11, uV12, uV58], [uF2249], []), [([ui0, ui2558, ui48, (1, 6), (0, 1)], [ur1474], [], [], [uV62], [], []), ([ui0, ui2558, ui48, (1, 6), (0, 1)], [ur1474], [], [], [uV64], [], [])], [(92, true, 0)], 1039, 2, 43)
set_option maxRecDepth 1000000 in
theorem ck_762 : x_ok mLT1 [cx_649] mTS2 mTC2 mRUp cx_762 [(43, [0])] [] [(11, ([(0, 3072), (0, 46655), (0, 20), (1, 6), (0, 1), (0, 46655), (0, 63), ((-1), 5)], [(12, false)], [], [(2, 0, 0, []), (0, 0, 0, [(1, 1)]), (0, 0, 0, [(2, 1)]), (0, 0, 0, [(3, 1)]), (0, 0, 0, [(5, 1)]), (0, 0, 0, [(6, 1)]), (0, 0, 0, [(7, 1)])], [], [(0, (false, 18, 0, []), 0, 0, 0, [(4, 1)])], []), (800, [(7, 42)])), (90, ([(0, 3072), (0, 46655), (0, 20), (1, 6), (0, 1), (0, 46655), (0, 63), (0, 22)], [(12, false)], [], [(2, 0, 0, []), (0, 0, 0, [(1, 1)]), (0, 0, 0, [(2, 1)]), (0, 0, 0, [(3, 1)]), (0, 0, 0, [(5, 1)]), (0, 0, 0, [(6, 1)]), (0, 0, 0, [(7, 1)])], [], [(0, (false, 18, 0, []), 0, 0, 0, [(4, 1)])], []), (753, [(7, (-34))]))] (1019, []) 20 44 = true := by decide +kernel
theorem sn_762 {W : Bool} {X : List Int32} : y_Snd (mGw W) mLT1 (J2 W X) X cx_762 := y_ok J2_J mTS2_ok1 mTC2_ok1 mRUp_ok1 (List.forall_mem_cons.mpr ⟨sn_649, fun _ h => absurd h List.not_mem_nil⟩) ck_762
def cx_763pi_0 (t : List (Int × Int)) : List (Int × Int) := ui0 :: ui49 :: ui49 :: ui49 :: (0, 1) :: ui49 :: (0, 1) :: ui48 :: t
def cx_763pi_1 (t : List (Int × Int)) : List (Int × Int) := ui31 :: t
def cx_763pf_0 (t : List zFa) : List zFa := uF2249 :: uF2035 :: uF2542 :: uF2559 :: uF1537 :: uF1538 :: uF2169 :: uF2170 :: t
def cx_763pf_1 (t : List zFa) : List zFa := uF2171 :: uF2172 :: uF2173 :: uF1768 :: uF1769 :: t
def cx_763p : zS := ((cx_763pi_0 (cx_763pi_1 [])), (cx_622pr_0 (cx_622pr_1 [])), [], [], [uV2, uV11, uV12, uV58], (cx_763pf_0 (cx_763pf_1 [])), [uG2252, uG2560])
/-- M.rows -/
def cx_763 : zCtx := (303, cx_763p, [([ui0, ui48, (1, 6), ui260, (0, 1), ui49, (0, 1), ui48, ui31], [ur1474, ur1521, ur1522, ur1532, ur1533, ur1534, ur1535, ur1536, ur1530, ur1531], [uL2561], [], [uV61], [uF2035, uF2542], []), ([ui0, ui48, (1, 6), ui1096, (0, 1), ui49, (0, 1), ui48, ui31], [ur1474, ur1521, ur1522, ur1532, ur1533, ur1534, ur1535, ur1536, ur1530, ur1531], [uL2561], [], [uV61], [uF2035, uF2542], []), ([ui0, ui48, ui1404, ui49, (0, 1), ui49, (0, 1), ui48, ui31], [ur1474, ur1521, ur1522, ur1532, ur1533, ur1534, ur1535, ur1536, ur1530, ur1531], [uL2561], [], [uV61], [uF2035, uF2542], []), ([ui0, ui48, ui1306, ui49, (0, 1), ui49, (0, 1), ui48, ui31], [ur1474, ur1521, ur1522, ur1532, ur1533, ur1534, ur1535, ur1536, ur1530, ur1531], [uL2561], [], [uV61], [uF2035, uF2542], []), ([ui0, ui512, ui49, ui49, (0, 1), ui49, (0, 1), ui48, ui31], [ur1474, ur1521, ur1522, ur1532, ur1533, ur1534, ur1535, ur1536, ur1530, ur1531], [uL2562], [], [uV61], [uF2035, uF2542], []), ([ui0, ui260, ui49, ui49, (0, 1), ui49, (0, 1), ui48, ui31], [ur1474, ur1521, ur1522, ur1532, ur1533, ur1534, ur1535, ur1536, ur1530, ur1531], [], [], [uV61], [uF2035, uF2542], []), ([ui0, ui48, (1, 6), (0, 0), (0, 1), ui49, (0, 1), ui48, ui31, ui49, ui194], [ur1474, ur1521, ur1522, ur1532, ur1533, ur1534, ur1535, ur1536, ur1530, ur1531], [uL2561], [], [uV799], [uF2034, uF2511], [uG2041, uG2037]), ([ui0, ui48, (1, 6), (1, 1), (0, 1), ui49, (0, 1), ui48, ui31, ui2563, ui194], [ur1474, ur1521, ur1522, ur1532, ur1533, ur1534, ur1535, ur1536, ur1530, ur1531], [uL2561], [], [uV799], [uF2034, uF2511], [uG2041, uG2037])], kc_88, 733008, 6, 129)
def cz_763_0i_0 (t : List (Int × Int)) : List (Int × Int) := ui0 :: ui48 :: (1, 6) :: (0, 1) :: (0, 1) :: ui49 :: (0, 1) :: ui48 :: t
def cz_763_0i_1 (t : List (Int × Int)) : List (Int × Int) := ui31 :: ui49 :: ui2563 :: ((-1), 46655) :: ui194 :: t
def cz_763_0f_0 (t : List zFa) : List zFa := uF2034 :: (0, (false, 49, 0, []), 0, 0, 0, [(12, 1)]) :: uF2425 :: uF2426 :: uF2427 :: uF2249 :: uF2559 :: uF1537 :: t
def cz_763_0f_1 (t : List zFa) : List zFa := uF1538 :: uF2169 :: uF2170 :: uF2171 :: uF2172 :: uF2173 :: uF1768 :: uF1769 :: t
def cz_763_0 : zS := ((cz_763_0i_0 (cz_763_0i_1 [])), (cz_627_0r_0 (cz_627_0r_1 [])), [uL2561], [uV2, uV11, uV12, uV58, uV799, uV854, uV873], [], (cz_763_0f_0 (cz_763_0f_1 [])), [uG2041, uG2037, uG2252, uG2560])
set_option maxRecDepth 1000000 in
theorem ck_763 : x_ok mLT1 [cx_760, cx_514, cx_518, cx_651, cx_761, cx_762] mTS2 mTC2 mRUp cx_763 [(3, [0]), (12, [1]), (21, [2]), (25, [3]), (36, [4]), (53, [5])] [] [(43, cz_763_0, (21, [(11, 14)]))] (653215, []) 79793 26 = true := by decide +kernel
theorem sn_763 {W : Bool} {X : List Int32} : y_Snd (mGw W) mLT1 (J2 W X) X cx_763 := y_ok J2_J mTS2_ok1 mTC2_ok1 mRUp_ok1 (List.forall_mem_cons.mpr ⟨sn_760, List.forall_mem_cons.mpr ⟨sn_514, List.forall_mem_cons.mpr ⟨sn_518, List.forall_mem_cons.mpr ⟨sn_651, List.forall_mem_cons.mpr ⟨sn_761, List.forall_mem_cons.mpr ⟨sn_762, fun _ h => absurd h List.not_mem_nil⟩⟩⟩⟩⟩⟩) ck_763
/-- M.feel -/
def cx_764 : zCtx := (307, cx_763p, [([ui0, ui48, (1, 6), ui1385, (0, 1), ui49, (0, 1), ui48, ui31], [ur1474, ur1521, ur1522, ur1532, ur1533, ur1534, ur1535, ur1536, ur1530, ur1531], [uL2561], [], [uV61], [uF2035, uF2542], []), ([ui0, ui48, (1, 6), ui260, (0, 1), ui49, (0, 1), ui48, ui31], [ur1474, ur1521, ur1522, ur1532, ur1533, ur1534, ur1535, ur1536, ur1530, ur1531], [uL2561], [], [uV61], [uF2035, uF2542], []), ([ui0, ui48, ui1404, ui49, (0, 1), ui49, (0, 1), ui48, ui31], [ur1474, ur1521, ur1522, ur1532, ur1533, ur1534, ur1535, ur1536, ur1530, ur1531], [uL2561], [], [uV61], [uF2035, uF2542], []), ([ui0, ui48, ui1306, ui49, (0, 1), ui49, (0, 1), ui48, ui31], [ur1474, ur1521, ur1522, ur1532, ur1533, ur1534, ur1535, ur1536, ur1530, ur1531], [uL2561], [], [uV61], [uF2035, uF2542], []), ([ui0, ui512, ui49, ui49, (0, 1), ui49, (0, 1), ui48, ui31], [ur1474, ur1521, ur1522, ur1532, ur1533, ur1534, ur1535, ur1536, ur1530, ur1531], [uL2562], [], [uV61], [uF2035, uF2542], []), ([ui0, ui260, ui49, ui49, (0, 1), ui49, (0, 1), ui48, ui31], [ur1474, ur1521, ur1522, ur1532, ur1533, ur1534, ur1535, ur1536, ur1530, ur1531], [], [], [uV61], [uF2035, uF2542], []), ([ui0, ui48, (1, 6), ui537, (0, 1), ui49, (0, 1), ui48, ui31, ui1358, ui194], [ur1474, ur1521, ur1522, ur1532, ur1533, ur1534, ur1535, ur1536, ur1530, ur1531], [uL2561], [], [uV799], [uF2034, uF2511], [uG2041, uG2037])], kc_89, 7451756, 6, 129)
def cq_764 : List zCtx := [cx_760, cx_749, cx_518, cx_651, cx_761, cx_762]
def cs_764 : List (Nat × List Nat) := [(3, [0]), (10, [1]), (19, [2]), (23, [3]), (59, [4]), (70, [5])]
def hs_764 : List (Nat × List Nat) := []
def nd_764_0pi_0 (t : List (Int × Int)) : List (Int × Int) := ui0 :: ui48 :: (1, 6) :: ui537 :: (0, 1) :: ui49 :: (0, 1) :: ui48 :: t
def nd_764_0pi_1 (t : List (Int × Int)) : List (Int × Int) := ui31 :: (0, 6) :: ui194 :: t
def nd_764_0pl_0 (t : List zV) : List zV := uV2 :: uV11 :: uV12 :: uV58 :: uV799 :: uV113 :: uV113 :: uV113 :: t
def nd_764_0pl_1 (t : List zV) : List zV := uV113 :: t
def nd_764_0pf_0 (t : List zFa) : List zFa := uF2034 :: uF2511 :: uF2425 :: uF2426 :: uF2427 :: uF2249 :: uF2559 :: uF1537 :: t
def nd_764_0pf_1 (t : List zFa) : List zFa := uF1538 :: uF2169 :: uF2170 :: uF2171 :: uF2172 :: uF2173 :: uF1768 :: uF1769 :: t
def nd_764_0p : zS := ((nd_764_0pi_0 (nd_764_0pi_1 [])), (cz_627_0r_0 (cz_627_0r_1 [])), [uL2561], (nd_764_0pl_0 (nd_764_0pl_1 [])), [], (nd_764_0pf_0 (nd_764_0pf_1 [])), [uG2041, uG2037, uG2252, uG2560])
def nd_764_0 : zN := (29, nd_764_0p, (7371948, [(9, (-11))]))
def nd_764_1pi_0 (t : List (Int × Int)) : List (Int × Int) := ui0 :: ui48 :: (1, 6) :: ui537 :: (0, 1) :: ui49 :: (0, 1) :: ui48 :: t
def nd_764_1pi_1 (t : List (Int × Int)) : List (Int × Int) := ui31 :: ui49 :: ui1157 :: ui194 :: t
def nd_764_1pl_0 (t : List zV) : List zV := uV2 :: uV11 :: uV12 :: uV58 :: uV799 :: uV854 :: uV113 :: uV113 :: t
def nd_764_1pl_1 (t : List zV) : List zV := uV113 :: t
def nd_764_1pf_0 (t : List zFa) : List zFa := uF2034 :: uF2532 :: uF2425 :: uF2426 :: uF2427 :: uF2249 :: uF2559 :: uF1537 :: t
def nd_764_1pf_1 (t : List zFa) : List zFa := uF1538 :: uF2169 :: uF2170 :: uF2171 :: uF2172 :: uF2173 :: uF1768 :: uF1769 :: t
def nd_764_1p : zS := ((nd_764_1pi_0 (nd_764_1pi_1 [])), (cz_627_0r_0 (cz_627_0r_1 [])), [uL2561], (nd_764_1pl_0 (nd_764_1pl_1 [])), [], (nd_764_1pf_0 (nd_764_1pf_1 [])), [uG2041, uG2037, uG2252, uG2560])
def nd_764_1 : zN := (56, nd_764_1p, (7371874, [(10, (-158))]))
def nd_764_2pi_0 (t : List (Int × Int)) : List (Int × Int) := ui0 :: ui48 :: (1, 6) :: ui537 :: (0, 1) :: ui49 :: (0, 1) :: ui48 :: t
def nd_764_2pi_1 (t : List (Int × Int)) : List (Int × Int) := ui31 :: ui49 :: ui2558 :: (0, 6) :: ui194 :: t
def nd_764_2pl_0 (t : List zV) : List zV := uV2 :: uV11 :: uV12 :: uV58 :: uV799 :: uV854 :: uV873 :: uV113 :: t
def nd_764_2pl_1 (t : List zV) : List zV := uV113 :: t
def nd_764_2p : zS := ((nd_764_2pi_0 (nd_764_2pi_1 [])), (cz_627_0r_0 (cz_627_0r_1 [])), [uL2561], (nd_764_2pl_0 (nd_764_2pl_1 [])), [], (cz_763_0f_0 (cz_763_0f_1 [])), [uG2041, uG2037, uG2252, uG2560])
def nd_764_2 : zN := (85, nd_764_2p, (7371860, [(10, (-158)), (11, (-23))]))
def nd_764_3pi_0 (t : List (Int × Int)) : List (Int × Int) := ui0 :: ui48 :: (1, 6) :: ui537 :: (0, 1) :: ui49 :: (0, 1) :: ui48 :: t
def nd_764_3pi_1 (t : List (Int × Int)) : List (Int × Int) := ui31 :: ui49 :: ui1358 :: ui49 :: (0, 6) :: ui194 :: t
def nd_764_3pl_0 (t : List zV) : List zV := uV2 :: uV11 :: uV12 :: uV58 :: uV799 :: uV854 :: uV873 :: uV196 :: t
def nd_764_3pl_1 (t : List zV) : List zV := uV113 :: t
def nd_764_3pf_0 (t : List zFa) : List zFa := uF2034 :: uF2541 :: uF2425 :: uF2426 :: uF2427 :: uF2249 :: uF2559 :: uF1537 :: t
def nd_764_3pf_1 (t : List zFa) : List zFa := uF1538 :: uF2169 :: uF2170 :: uF2171 :: uF2172 :: uF2173 :: uF1768 :: uF1769 :: t
def nd_764_3p : zS := ((nd_764_3pi_0 (nd_764_3pi_1 [])), (cz_627_0r_0 (cz_627_0r_1 [])), [uL2561], (nd_764_3pl_0 (nd_764_3pl_1 [])), [], (nd_764_3pf_0 (nd_764_3pf_1 [])), [uG2041, uG2037, uG2252, uG2560])
def nd_764_3 : zN := (140, nd_764_3p, (215, [(12, (-35))]))
def ns_764 : List zN := [nd_764_0, nd_764_1, nd_764_2, nd_764_3]
set_option maxRecDepth 1000000 in
theorem ca_764 : x_okA mLT1 cq_764 mTS2 mTC2 mRUp cx_764 cs_764 hs_764 ns_764 (7371963, []) 79793 37 = true := by decide +kernel
set_option maxRecDepth 1000000 in
theorem cb_764_0 : x_okB mLT1 cq_764 mTS2 mTC2 mRUp cx_764 cs_764 hs_764 ns_764 (7371963, []) 79793 37 nd_764_0 = true := by decide +kernel
set_option maxRecDepth 1000000 in
theorem cb_764_1 : x_okB mLT1 cq_764 mTS2 mTC2 mRUp cx_764 cs_764 hs_764 ns_764 (7371963, []) 79793 37 nd_764_1 = true := by decide +kernel
set_option maxRecDepth 1000000 in
theorem cb_764_2 : x_okB mLT1 cq_764 mTS2 mTC2 mRUp cx_764 cs_764 hs_764 ns_764 (7371963, []) 79793 37 nd_764_2 = true := by decide +kernel
set_option maxRecDepth 1000000 in
theorem cb_764_3 : x_okB mLT1 cq_764 mTS2 mTC2 mRUp cx_764 cs_764 hs_764 ns_764 (7371963, []) 79793 37 nd_764_3 = true := by decide +kernel
set_option maxRecDepth 1000000 in
theorem cc_764 : x_okC mLT1 cq_764 mTS2 mTC2 mRUp cx_764 cs_764 hs_764 ns_764 (7371963, []) 79793 37 = true := by decide +kernel
theorem ck_764 : x_ok mLT1 cq_764 mTS2 mTC2 mRUp cx_764 cs_764 hs_764 ns_764 (7371963, []) 79793 37 = true := x_ok_of ca_764 (List.forall_mem_cons.mpr ⟨cb_764_0, List.forall_mem_cons.mpr ⟨cb_764_1, List.forall_mem_cons.mpr ⟨cb_764_2, List.forall_mem_cons.mpr ⟨cb_764_3, fun _ h => absurd h List.not_mem_nil⟩⟩⟩⟩) cc_764
theorem sn_764 {W : Bool} {X : List Int32} : y_Snd (mGw W) mLT1 (J2 W X) X cx_764 := y_ok J2_J mTS2_ok1 mTC2_ok1 mRUp_ok1 (List.forall_mem_cons.mpr ⟨sn_760, List.forall_mem_cons.mpr ⟨sn_749, List.forall_mem_cons.mpr ⟨sn_518, List.forall_mem_cons.mpr ⟨sn_651, List.forall_mem_cons.mpr ⟨sn_761, List.forall_mem_cons.mpr ⟨sn_762, fun _ h => absurd h List.not_mem_nil⟩⟩⟩⟩⟩⟩) ck_764
/-- M.hold -/
def cx_765 : zCtx := (308, ([ui0, ui1418, (0, 1), (0, 1), (0, 1)], [ur1474, ur2046, ur2047, ur2564], [], [], [uV2, uV11], [uF2565, uF2566, uF2567, uF2568, uF2185, uF2569], [uG2042, uG2570]), [([ui0, ui1418, (0, 1), (0, 1), (0, 1)], [ur1474, ur2046, ur2047, ur2564], [], [], [uV62], [uF2566, uF2567, uF2568], [])], [], 16, 1, 22)
set_option maxRecDepth 1000000 in
theorem ck_765 : x_ok mLT1 [cx_514] mTS2 mTC2 mRUp cx_765 [(3, [0])] [] [] (7, []) 9 10 = true := by decide +kernel
theorem sn_765 {W : Bool} {X : List Int32} : y_Snd (mGw W) mLT1 (J2 W X) X cx_765 := y_ok J2_J mTS2_ok1 mTC2_ok1 mRUp_ok1 (List.forall_mem_cons.mpr ⟨sn_514, fun _ h => absurd h List.not_mem_nil⟩) ck_765
/-- M.hold -/
def cx_766 : zCtx := (308, ([ui0, (0, 1), (0, 1), (0, 1), (0, 6), (0, 1), (0, 1), (0, 1)], [ur1474, ur2046, ur2047, ur2564], [], [], [uV2, uV62], [uF2565, uF2571, uF2572, uF2573, uF2185, uF2569], [uG2042, uG2570, uG2574, (248, [uL114, uL98])]), [([ui0, (0, 1), (0, 1), (0, 1), (0, 6), (0, 1), (0, 1), (0, 1)], [ur1474, ur2046, ur2047, ur2564], [], [], [uV64], [(1, (true, 0, 0, []), 0, 0, 1, []), uF2572, uF2573], [uG2575, uG2570, (13, [uL63]), uG2574, uG2575])], [uk2576, uk2577], 587, 1, 22)
def cq_766 : List zCtx := [cx_514]
def cs_766 : List (Nat × List Nat) := [(3, [0])]
def hs_766 : List (Nat × List Nat) := [(11, [977]), (49, [210, 1000707, 1000708, 1000709])]
def ns_766 : List zN := []
set_option maxRecDepth 1000000 in
theorem ca_766 : x_okA mLT1 cq_766 mTS2 mTC2 mRUp cx_766 cs_766 hs_766 ns_766 (578, []) 9 581 = true := by decide +kernel
set_option maxRecDepth 1000000 in
theorem cc_766 : x_okC mLT1 cq_766 mTS2 mTC2 mRUp cx_766 cs_766 hs_766 ns_766 (578, []) 9 581 = true := by decide +kernel
theorem ck_766 : x_ok mLT1 cq_766 mTS2 mTC2 mRUp cx_766 cs_766 hs_766 ns_766 (578, []) 9 581 = true := x_ok_of ca_766 (fun _ h => absurd h List.not_mem_nil) cc_766
theorem sn_766 {W : Bool} {X : List Int32} : y_Snd (mGw W) mLT1 (J2 W X) X cx_766 := y_ok J2_J mTS2_ok1 mTC2_ok1 mRUp_ok1 (List.forall_mem_cons.mpr ⟨sn_514, fun _ h => absurd h List.not_mem_nil⟩) ck_766
end
