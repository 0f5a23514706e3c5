noncomputable section
/-! ===== readings, by program, checked by the kernel ===== -/
/-- M.nextFrom -/
def cx_651 : zCtx := (275, ([ui0, (0, 5)], [ur1331, ur2262], [], [], [uV2, uV389], [uF2299, uF2269], []), [([ui0, (0, 5)], [ur1331, ur2262], [], [], [uV389], [], [uG2302]), ([ui0, (0, 5)], [ur1331, ur2262], [], [], [uV385], [], [uG2303]), ([ui0, (0, 5)], [ur1331, ur2262], [], [], [uV381], [], [uG2304]), ([ui0, (0, 5)], [ur1331, ur2262], [], [], [uV3], [], [uG2305]), ([ui0, (0, 5)], [ur1331, ur2262], [], [], [uV61], [], [])], [], 150, 1, 22)
set_option maxRecDepth 1000000 in
theorem ck_651 : x_ok mLT1 [cx_645, cx_646, cx_647, cx_648] mTS2 mTC2 mRUp cx_651 [(19, [0, 1, 2, 3])] [] [] (63, []) 87 66 = true := by decide +kernel
theorem sn_651 {W : Bool} {X : List Int32} : y_Snd (mGw W) mLT1 (J2 W X) X cx_651 := y_ok J2_J mTS2_ok1 mTC2_ok1 mRUp_ok1 (List.forall_mem_cons.mpr ⟨sn_645, List.forall_mem_cons.mpr ⟨sn_646, List.forall_mem_cons.mpr ⟨sn_647, List.forall_mem_cons.mpr ⟨sn_648, fun _ h => absurd h List.not_mem_nil⟩⟩⟩⟩) ck_651
/-- M.nextFrom -/
def cx_652 : zCtx := (275, ([ui0, (0, 5)], [ur1331, ur2262], [], [], [uV2, uV385], [uF2299, uF2269], []), [([ui0, (0, 5)], [ur1331, ur2262], [], [], [uV385], [], [uG2303]), ([ui0, (1, 5)], [ur1331, ur2262], [], [], [uV381], [], [uG2304]), ([ui0, (1, 5)], [ur1331, ur2262], [], [], [uV3], [], [uG2305]), ([ui0, (1, 5)], [ur1331, ur2262], [], [], [uV61], [], []), ([ui0, (0, 5)], [ur1331, ur2262], [], [], [uV381], [], [uG2304]), ([ui0, (0, 5)], [ur1331, ur2262], [], [], [uV3], [], [uG2305]), ([ui0, (0, 5)], [ur1331, ur2262], [], [], [uV61], [], [])], [], 136, 1, 22)
set_option maxRecDepth 1000000 in
theorem ck_652 : x_ok mLT1 [cx_646, cx_647, cx_648] mTS2 mTC2 mRUp cx_652 [(19, [0, 1, 2])] [] [] (49, []) 87 52 = true := by decide +kernel
theorem sn_652 {W : Bool} {X : List Int32} : y_Snd (mGw W) mLT1 (J2 W X) X cx_652 := y_ok J2_J mTS2_ok1 mTC2_ok1 mRUp_ok1 (List.forall_mem_cons.mpr ⟨sn_646, List.forall_mem_cons.mpr ⟨sn_647, List.forall_mem_cons.mpr ⟨sn_648, fun _ h => absurd h List.not_mem_nil⟩⟩⟩) ck_652
/-- M.nextFrom -/
def cx_653 : zCtx := (275, ([ui0, (0, 5)], [ur1331, ur2262], [], [], [uV2, uV381], [uF2299, uF2269], []), [([ui0, (0, 5)], [ur1331, ur2262], [], [], [uV381], [], [uG2304]), ([ui0, (1, 5)], [ur1331, ur2262], [], [], [uV3], [], [uG2305]), ([ui0, (1, 5)], [ur1331, ur2262], [], [], [uV61], [], []), ([ui0, (0, 5)], [ur1331, ur2262], [], [], [uV3], [], [uG2305]), ([ui0, (0, 5)], [ur1331, ur2262], [], [], [uV61], [], [])], [], 122, 1, 22)
set_option maxRecDepth 1000000 in
theorem ck_653 : x_ok mLT1 [cx_647, cx_648] mTS2 mTC2 mRUp cx_653 [(19, [0, 1])] [] [] (35, []) 87 38 = true := by decide +kernel
theorem sn_653 {W : Bool} {X : List Int32} : y_Snd (mGw W) mLT1 (J2 W X) X cx_653 := y_ok J2_J mTS2_ok1 mTC2_ok1 mRUp_ok1 (List.forall_mem_cons.mpr ⟨sn_647, List.forall_mem_cons.mpr ⟨sn_648, fun _ h => absurd h List.not_mem_nil⟩⟩) ck_653
/-- M.nextFrom -/
def cx_654 : zCtx := (275, ([ui0, (0, 5)], [ur1331, ur2262], [], [], [uV2, uV3], [uF2299, uF2269], []), [([ui0, (0, 5)], [ur1331, ur2262], [], [], [uV3], [], [uG2305]), ([ui0, (1, 5)], [ur1331, ur2262], [], [], [uV61], [], []), ([ui0, (0, 5)], [ur1331, ur2262], [], [], [uV61], [], [])], [], 108, 1, 22)
set_option maxRecDepth 1000000 in
theorem ck_654 : x_ok mLT1 [cx_648] mTS2 mTC2 mRUp cx_654 [(19, [0])] [] [] (21, []) 87 24 = true := by decide +kernel
theorem sn_654 {W : Bool} {X : List Int32} : y_Snd (mGw W) mLT1 (J2 W X) X cx_654 := y_ok J2_J mTS2_ok1 mTC2_ok1 mRUp_ok1 (List.forall_mem_cons.mpr ⟨sn_648, fun _ h => absurd h List.not_mem_nil⟩) ck_654
/-- M.nextFrom -/
def cx_655 : zCtx := (275, ([ui0, (0, 5)], [ur1331, ur2262], [], [], [uV2, uV315], [uF2299, uF2269], []), [([ui0, (0, 5)], [ur1331, ur2262], [], [], [uV61], [], [])], [], 7, 0, 0)
set_option maxRecDepth 1000000 in
theorem ck_655 : x_ok mLT1 [] mTS2 mTC2 mRUp cx_655 [] [] [] (7, []) 0 10 = true := by decide +kernel
theorem sn_655 {W : Bool} {X : List Int32} : y_Snd (mGw W) mLT1 (J2 W X) X cx_655 := y_ok J2_J mTS2_ok1 mTC2_ok1 mRUp_ok1 (fun _ h => absurd h List.not_mem_nil) ck_655
/-- M.goesToNext -/
def cx_656 : zCtx := (274, ([ui0, (0, 6), ui2309], [ur1331, ur2262], [], [], [uV2], [uF2299, uF2269], [uG2311]), [([ui0, (0, 6), ui2313, (1, 6), ui2309], [ur1331, ur2262], [((-1000), [(2, (-1000)), (4, 1000)])], [], [uV64], [uF2340], [(8, [uL23, uL63, uL98])]), ([ui0, (0, 6), ui2309, (0, 0)], [ur1331, ur2262], [], [], [uV62], [uF2340], [])], [uk2315, uk2316], 338, 2, 44)
set_option maxRecDepth 1000000 in
theorem ck_656 : x_ok mLT1 [cx_649, cx_650, cx_651, cx_652, cx_653, cx_654, cx_655] mTS2 mTC2 mRUp cx_656 [(2, [0]), (39, [1, 2, 3, 4, 5, 6])] [(39, [30, 1]), (52, [32]), (62, [31])] [(6, ([(0, 3072), (0, 6), (0, 1000000), (0, 6), (0, 6)], [(12, false), (87, false)], [], [(2, 0, 0, []), (0, 0, (-1), [])], [], [(0, (false, 61, 0, []), 0, 0, 0, [(3, 1)]), (0, (false, 60, 0, []), 2, 1, 0, [])], [(8, [(0, [(3, 1)]), (0, [(4, 1)]), (0, [(2, 1)])])]), (17, [(3, 23)]))] (160, []) 178 43 = true := by decide +kernel
theorem sn_656 {W : Bool} {X : List Int32} : y_Snd (mGw W) mLT1 (J2 W X) X cx_656 := y_ok J2_J mTS2_ok1 mTC2_ok1 mRUp_ok1 (List.forall_mem_cons.mpr ⟨sn_649, List.forall_mem_cons.mpr ⟨sn_650, List.forall_mem_cons.mpr ⟨sn_651, List.forall_mem_cons.mpr ⟨sn_652, List.forall_mem_cons.mpr ⟨sn_653, List.forall_mem_cons.mpr ⟨sn_654, List.forall_mem_cons.mpr ⟨sn_655, fun _ h => absurd h List.not_mem_nil⟩⟩⟩⟩⟩⟩⟩) ck_656
/-- M.orderSpare -/
def cx_657 : zCtx := (277, ([ui0, (0, 1), (1, 6)], [ur1331], [], [], [uV2], [uF1886, uF2322], []), [([ui0, (0, 1), (1, 6)], [ur1331], [], [], [uV61], [], []), ([ui0, (0, 1), (1, 6), ui510], [ur1331], [], [], [uV58], [], [])], [], 426, 0, 0)
set_option maxRecDepth 1000000 in
theorem ck_657 : x_ok mLT1 [] mTS2 mTC2 mRUp cx_657 [] [] [(13, ([(0, 3072), (0, 1), (1, 6), ((-2147483648), 2147483647), ((-2147483648), 2147483647), ((-1), 5)], [(12, false)], [], [(2, 0, 0, []), (0, 0, 0, [(3, 1)]), (0, 0, 0, [(4, 1)]), (0, 0, 0, [(5, 1)]), (5, 0, 0, [])], [], [(0, (false, 18, 0, []), 0, 0, 0, [(1, 1)]), (0, (false, 61, 0, []), 0, 0, 0, [(2, 1)])], []), (81, [(5, 67)]))] (426, []) 0 69 = true := by decide +kernel
theorem sn_657 {W : Bool} {X : List Int32} : y_Snd (mGw W) mLT1 (J2 W X) X cx_657 := y_ok J2_J mTS2_ok1 mTC2_ok1 mRUp_ok1 (fun _ h => absurd h List.not_mem_nil) ck_657
/-- M.fewestOf -/
def cx_658 : zCtx := (281, ([ui0, ui584, (0, 1), (0, 6)], [ur1331, ur2262], [], [], [uV2, uV11], [uF2020, uF2340, uF2269], []), [([ui0, ui584, (0, 1), (0, 6), ((-2), 6), (0, 0)], [ur1331, ur2262], [], [], [uV97], [uF2268], [])], [uk2315, uk2316, (88, true, 0)], 1000000437, 3, 65)
set_option maxRecDepth 1000000 in
theorem ck_658 : x_ok mLT1 [cx_656, cx_657] mTS2 mTC2 mRUp cx_658 [(9, [0]), (28, [1])] [(5, [29])] [(8, ([(0, 3072), (0, 999), (0, 1), (0, 6), ((-2), 6), (0, 6), (0, 1000000)], [(12, false), (87, false)], [], [(2, 0, 0, []), (0, 0, 0, [(1, 1)]), (0, 0, 0, [(4, 1)]), (5, 0, 0, [])], [], [(0, (false, 61, 0, []), 0, 0, 0, [(5, 1)]), (0, (false, 18, 0, []), 0, 0, 0, [(2, 1)]), (0, (false, 60, 0, []), 2, 1, 0, [])], [(8, [(0, [(5, 1)]), (0, []), (0, [(6, 1)])])]), (1000000005, [(6, (-1000))])), (45, ([(0, 3072), (0, 999), (0, 1), (0, 6), (1, 6), (0, 6), (0, 1000000)], [(12, false), (87, false)], [], [(2, 0, 0, []), (0, 0, 0, [(1, 1)]), (0, 0, 0, [(4, 1)]), (0, 0, 0, [(5, 1)])], [], [(0, (false, 61, 0, []), 0, 0, 0, [(4, 1)]), (0, (false, 18, 0, []), 0, 0, 0, [(2, 1)]), (0, (false, 60, 0, []), 2, 1, 0, [])], [(8, [(0, [(4, 1)]), (0, []), (0, [(6, 1)])])]), (1000000094, [(5, (-14)), (6, (-1000))]))] (1000000011, []) 426 21 = true := by decide +kernel
theorem sn_658 {W : Bool} {X : List Int32} : y_Snd (mGw W) mLT1 (J2 W X) X cx_658 := y_ok J2_J mTS2_ok1 mTC2_ok1 mRUp_ok1 (List.forall_mem_cons.mpr ⟨sn_656, List.forall_mem_cons.mpr ⟨sn_657, fun _ h => absurd h List.not_mem_nil⟩⟩) ck_658
def cx_659pf_0 (t : List zFa) : List zFa := uF2024 :: uF2025 :: uF2026 :: uF2341 :: uF1394 :: uF1395 :: uF2027 :: uF2028 :: t
def cx_659pf_1 (t : List zFa) : List zFa := uF2029 :: uF2030 :: uF2031 :: uF1625 :: uF1626 :: t
def cx_659p : zS := ([ui0, ui49, ui49, (0, 1), ui49, (0, 1), (0, 6), ui31], (cx_596pr_0 (cx_596pr_1 [])), [], [], [uV2, uV11, uV12], (cx_659pf_0 (cx_659pf_1 [])), [uG2037, uG2342])
/-- M.fewest -/
def cx_659 : zCtx := (280, cx_659p, [([ui0, ui584, ui1197, (0, 1), ui49, (0, 1), (0, 6), ui31], [ur1331, ur1378, ur1379, ur1389, ur1390, ur1391, ur1392, ur1393, ur1387, ur1388], [], [], [uV61], [uF2025, uF2026, uF2341], []), ([ui0, ui584, ui124, (0, 1), ui49, (0, 1), (0, 6), ui31, (0, 6), (0, 0), ui196], [ur1331, ur1378, ur1379, ur1389, ur1390, ur1391, ur1392, ur1393, ur1387, ur1388], [], [], [uV144], [uF2343, uF1892, uF2344], [uG1899, uG1895]), ([ui0, ui584, (0, 5), (0, 1), ui49, (0, 1), (0, 6), ui31, (0, 5), (0, 0), ui196], [ur1331, ur1378, ur1379, ur1389, ur1390, ur1391, ur1392, ur1393, ur1387, ur1388], [], [], [uV144], [uF2343, uF1892, uF2344], [uG1899, uG1895]), ([ui0, ui584, ui510, (0, 1), ui49, (0, 1), (0, 6), ui31, (0, 0), ui196], [ur1331, ur1378, ur1379, ur1389, ur1390, ur1391, ur1392, ur1393, ur1387, ur1388], [], [], [uV61], [uF2345, uF1892, uF2261], [uG1899, uG1895]), ([ui0, ui584, ui2346, (0, 1), ui49, (0, 1), (0, 6), ui31, ((-2), (-1)), (0, 0), ui196], [ur1331, ur1378, ur1379, ur1389, ur1390, ur1391, ur1392, ur1393, ur1387, ur1388], [], [], [uV144], [uF2343, uF1892, uF2344], [uG1899, uG1895]), ([ui0, ui799, ui49, (0, 1), ui49, (0, 1), (0, 6), ui31], [ur1331, ur1378, ur1379, ur1389, ur1390, ur1391, ur1392, ur1393, ur1387, ur1388], [], [], [uV61], [uF2025, uF2026, uF2341], []), ([ui0, ui262, ui49, (0, 1), ui49, (0, 1), (0, 6), ui31], [ur1331, ur1378, ur1379, ur1389, ur1390, ur1391, ur1392, ur1393, ur1387, ur1388], [], [], [uV61], [uF2025, uF2026, uF2341], [])], kc_85, 1000000465, 6, 129)
set_option maxRecDepth 1000000 in
theorem ck_659 : x_ok mLT1 [cx_554, cx_508, cx_642, cx_658] mTS2 mTC2 mRUp cx_659 [(1, [0]), (15, [1]), (19, [2]), (24, [3])] [] [] (28, []) 1000000437 31 = true := by decide +kernel
theorem sn_659 {W : Bool} {X : List Int32} : y_Snd (mGw W) mLT1 (J2 W X) X cx_659 := y_ok J2_J mTS2_ok1 mTC2_ok1 mRUp_ok1 (List.forall_mem_cons.mpr ⟨sn_554, List.forall_mem_cons.mpr ⟨sn_508, List.forall_mem_cons.mpr ⟨sn_642, List.forall_mem_cons.mpr ⟨sn_658, fun _ h => absurd h List.not_mem_nil⟩⟩⟩⟩) ck_659
/-- M.needed -/
def cx_660 : zCtx := (282, cx_619p, [([ui0, ui799, (0, 1), ui49, (0, 1), (0, 6), ui31, (0, 6), (0, 6), ui49, ui49, ui196, (0, 6)], [ur1331, ur2262, ur1378, ur1379, ur1389, ur1390, ur1391, ur1392, ur1393, ur1387, ur1388, ur1380, ur1492, ur1493, ur1382, ur1885, ur1383, ur2263, ur2264, ur2265, ur2266, ur2267], [], [], [uV61], [], [uG2042])], [], 19, 2, 42)
set_option maxRecDepth 1000000 in
theorem ck_660 : x_ok mLT1 [cx_554] mTS2 mTC2 mRUp cx_660 [(1, [0])] [] [] (5, []) 14 8 = true := by decide +kernel
theorem sn_660 {W : Bool} {X : List Int32} : y_Snd (mGw W) mLT1 (J2 W X) X cx_660 := y_ok J2_J mTS2_ok1 mTC2_ok1 mRUp_ok1 (List.forall_mem_cons.mpr ⟨sn_554, fun _ h => absurd h List.not_mem_nil⟩) ck_660
def cx_661q0 : zS := ((cx_636pi_0 (cx_636pi_1 [])), (cx_619pr_0 (cx_619pr_1 (cx_619pr_2 []))), [], [], [uV567], [], [uG1895, uG2042, (238, [uL1198, uL78, uL63, uL63, uL63, uL63, uL63, uL63, uL9, uL195, uL803])])
def cx_661q1i_0 (t : List (Int × Int)) : List (Int × Int) := ui0 :: ui584 :: (0, 1) :: ui49 :: (0, 1) :: (0, 6) :: ui31 :: (0, 6) :: t
def cx_661q1i_1 (t : List (Int × Int)) : List (Int × Int) := (0, 6) :: ui49 :: ui49 :: ui196 :: (0, 6) :: ui1248 :: t
def cx_661q1 : zS := ((cx_661q1i_0 (cx_661q1i_1 [])), (cx_619pr_0 (cx_619pr_1 (cx_619pr_2 []))), [], [], [uV409], [], [uG1895, uG2042, (238, [uL1198, uL78, uL63, uL63, uL63, uL63, uL63, uL63, uL9, uL195, uL207])])
/-- M.needed -/
def cx_661 : zCtx := (282, cx_636p, [cx_661q0, cx_661q1], kc_84, 1000079814, 6, 129)
def cz_661_0i_0 (t : List (Int × Int)) : List (Int × Int) := ui0 :: ui584 :: (0, 1) :: ui49 :: (0, 1) :: (0, 6) :: ui31 :: (0, 6) :: t
def cz_661_0i_1 (t : List (Int × Int)) : List (Int × Int) := (0, 6) :: ui49 :: ui49 :: ui196 :: (0, 6) :: ui2347 :: (0, 6) :: ui196 :: t
def cz_661_0i_2 (t : List (Int × Int)) : List (Int × Int) := ui2309 :: ui2310 :: t
def cz_661_0g_0 (t : List zTg) : List zTg := uG1895 :: uG2067 :: uG2170 :: uG2171 :: uG2172 :: uG2173 :: uG2042 :: uG2174 :: t
def cz_661_0g_1 (t : List zTg) : List zTg := uG2330 :: uG2331 :: uG2332 :: uG2333 :: uG2334 :: (340, [uL78, uL63, uL63, uL63, uL63, uL63, uL63, uL9, uL195, uL213, uL207]) :: t
def cz_661_0 : zS := ((cz_661_0i_0 (cz_661_0i_1 (cz_661_0i_2 []))), (cz_636_0r_0 (cz_636_0r_1 (cz_636_0r_2 []))), [uL1172, uL1687, uL2348], [uV2, uV11, uV409, uV113, uV113], [], (cz_636_0f_0 (cz_636_0f_1 (cz_636_0f_2 (cz_636_0f_3 [])))), (cz_661_0g_0 (cz_661_0g_1 [])))
def cz_661_1i_0 (t : List (Int × Int)) : List (Int × Int) := ui0 :: ui584 :: (0, 1) :: ui49 :: (0, 1) :: (0, 6) :: ui31 :: (0, 6) :: t
def cz_661_1i_1 (t : List (Int × Int)) : List (Int × Int) := (0, 6) :: ui49 :: ui49 :: ui196 :: (0, 6) :: ui2347 :: ui844 :: (0, 6) :: t
def cz_661_1i_2 (t : List (Int × Int)) : List (Int × Int) := (1, 6) :: ui196 :: ui2309 :: ui2310 :: ui584 :: t
def cz_661_1c_0 (t : List zL) : List zL := uL1172 :: uL63 :: (64, []) :: (0, [(1, (-1)), (20, 1)]) :: uL1687 :: uL2348 :: uL208 :: (63, [(14, (-1))]) :: t
def cz_661_1c_1 (t : List zL) : List zL := uL209 :: (0, [(15, (-1)), (16, 1)]) :: uL2349 :: t
def cz_661_1f_0 (t : List zFa) : List zFa := (0, (false, 61, 0, []), 0, 0, 0, [(16, 1)]) :: uF1892 :: uF1915 :: uF2328 :: uF2329 :: uF2020 :: uF2269 :: uF2270 :: t
def cz_661_1f_1 (t : List zFa) : List zFa := uF2271 :: uF2272 :: uF2273 :: uF2274 :: uF2275 :: uF2276 :: uF2277 :: uF2278 :: t
def cz_661_1f_2 (t : List zFa) : List zFa := uF2279 :: uF2280 :: uF2281 :: uF2282 :: uF2283 :: uF2284 :: uF2285 :: uF2286 :: t
def cz_661_1f_3 (t : List zFa) : List zFa := uF2287 :: uF2288 :: uF2289 :: t
def cz_661_1g_0 (t : List zTg) : List zTg := uG1895 :: uG2067 :: uG2170 :: uG2171 :: uG2172 :: uG2173 :: uG2042 :: uG2174 :: t
def cz_661_1g_1 (t : List zTg) : List zTg := (8, [uL212, uL63, uL277]) :: uG2331 :: uG2332 :: uG2333 :: (329, [uL78, uL63, uL63, uL63, uL63, uL63, uL63, uL353, uL63, uL212]) :: (330, [uL78, uL63, uL63, uL63, uL63, uL63, uL63, uL2349, uL212]) :: (337, [uL78, uL63, uL63, uL63, uL63, uL63, uL63, uL195, uL2349, uL408, uL63]) :: (340, [uL78, uL63, uL63, uL63, uL63, uL63, uL63, uL9, uL195, uL2349, uL207]) :: t
def cz_661_1g_2 (t : List zTg) : List zTg := (341, [uL209, uL208]) :: t
def cz_661_1 : zS := ((cz_661_1i_0 (cz_661_1i_1 (cz_661_1i_2 []))), (cz_636_0r_0 (cz_636_0r_1 (cz_636_0r_2 []))), (cz_661_1c_0 (cz_661_1c_1 [])), [uV2, uV11, uV409, uV356, uV585], [], (cz_661_1f_0 (cz_661_1f_1 (cz_661_1f_2 (cz_661_1f_3 [])))), (cz_661_1g_0 (cz_661_1g_1 (cz_661_1g_2 []))))
set_option maxRecDepth 1000000 in
theorem ck_661 : x_ok mLT1 [cx_554, cx_508, cx_620, cx_634, cx_635] mTS2 mTC2 mRUp cx_661 [(1, [0]), (10, [1]), (14, [2]), (25, [3]), (32, [4])] [(13, uN2118), (21, [29, 1001102, 1001139]), (39, [1001142]), (44, [1001143]), (65, [1001144, 1000789]), (66, [1000667]), (68, [1001145]), (84, [1000668]), (86, [1001146, 1001147]), (99, [1001140, 1001141])] [(24, cz_661_0, (1000000008, [(16, (-1000))])), (47, cz_661_1, (1000000116, [(15, (-16)), (18, (-1000))]))] (1000000021, []) 79793 18 = true := by decide +kernel
theorem sn_661 {W : Bool} {X : List Int32} : y_Snd (mGw W) mLT1 (J2 W X) X cx_661 := y_ok J2_J mTS2_ok1 mTC2_ok1 mRUp_ok1 (List.forall_mem_cons.mpr ⟨sn_554, List.forall_mem_cons.mpr ⟨sn_508, List.forall_mem_cons.mpr ⟨sn_620, List.forall_mem_cons.mpr ⟨sn_634, List.forall_mem_cons.mpr ⟨sn_635, fun _ h => absurd h List.not_mem_nil⟩⟩⟩⟩⟩) ck_661
/-- M.needed -/
def cx_662 : zCtx := (282, cx_637p, [([ui0, ui262, (0, 1), ui49, (0, 1), (0, 6), ui31, (0, 6), (0, 6), ui49, ui49, ui196, (0, 6)], [ur1331, ur2262, ur1378, ur1379, ur1389, ur1390, ur1391, ur1392, ur1393, ur1387, ur1388, ur1380, ur1492, ur1493, ur1382, ur1885, ur1383, ur2263, ur2264, ur2265, ur2266, ur2267], [], [], [uV61], [], [uG2042])], [], 19, 2, 42)
set_option maxRecDepth 1000000 in
theorem ck_662 : x_ok mLT1 [cx_554] mTS2 mTC2 mRUp cx_662 [(1, [0])] [] [] (5, []) 14 8 = true := by decide +kernel
theorem sn_662 {W : Bool} {X : List Int32} : y_Snd (mGw W) mLT1 (J2 W X) X cx_662 := y_ok J2_J mTS2_ok1 mTC2_ok1 mRUp_ok1 (List.forall_mem_cons.mpr ⟨sn_554, fun _ h => absurd h List.not_mem_nil⟩) ck_662
/-- M.peakOf -/
def cx_663 : zCtx := (279, ([ui0, (0, 1), (0, 6)], [ur1331, ur2262], [], [], [uV2], [uF1886, uF2322, uF2269], []), [([ui0, (0, 1), (0, 6), ui1190, (0, 0)], [ur1331, ur2262], [], [], [uV58], [uF2338], [])], [uk2315, uk2316], 1000000437, 3, 65)
set_option maxRecDepth 1000000 in
theorem ck_663 : x_ok mLT1 [cx_656, cx_657] mTS2 mTC2 mRUp cx_663 [(9, [0]), (16, [1])] [(5, [29])] [(8, ([(0, 3072), (0, 1), (0, 6), ((-2), 2147483647), (0, 6), (0, 1000000)], [(12, false), (87, false)], [], [(2, 0, 0, []), (0, 0, 0, [(3, 1)]), (5, 0, 0, [])], [], [(0, (false, 61, 0, []), 0, 0, 0, [(4, 1)]), (0, (false, 18, 0, []), 0, 0, 0, [(1, 1)]), (0, (false, 60, 0, []), 2, 1, 0, [])], [(8, [(0, [(4, 1)]), (0, []), (0, [(5, 1)])])]), (1000000005, [(5, (-1000))]))] (1000000011, []) 426 17 = true := by decide +kernel
theorem sn_663 {W : Bool} {X : List Int32} : y_Snd (mGw W) mLT1 (J2 W X) X cx_663 := y_ok J2_J mTS2_ok1 mTC2_ok1 mRUp_ok1 (List.forall_mem_cons.mpr ⟨sn_656, List.forall_mem_cons.mpr ⟨sn_657, fun _ h => absurd h List.not_mem_nil⟩⟩) ck_663
def cx_664pf_0 (t : List zFa) : List zFa := uF2020 :: uF2122 :: uF2123 :: uF2268 :: uF1394 :: uF1395 :: uF2027 :: uF2028 :: t
def cx_664pf_1 (t : List zFa) : List zFa := uF2029 :: uF2030 :: uF2031 :: uF1625 :: uF1626 :: t
def cx_664p : zS := ([ui0, ui49, (0, 1), ui49, (0, 1), (0, 6), ui31], (cx_596pr_0 (cx_596pr_1 [])), [], [], [uV2, uV11], (cx_664pf_0 (cx_664pf_1 [])), [uG2067, uG2170])
/-- M.soon -/
def cx_664 : zCtx := (283, cx_664p, [([ui0, ui799, (0, 1), ui49, (0, 1), (0, 6), ui31], [ur1331, ur1378, ur1379, ur1389, ur1390, ur1391, ur1392, ur1393, ur1387, ur1388], [], [], [uV61], [uF2122, uF2123, uF2268], []), ([ui0, ui262, (0, 1), ui49, (0, 1), (0, 6), ui31], [ur1331, ur1378, ur1379, ur1389, ur1390, ur1391, ur1392, ur1393, ur1387, ur1388], [], [], [uV61], [uF2122, uF2123, uF2268], []), ([ui0, ui584, (0, 1), ui49, (0, 1), (0, 6), ui31, ui1204, (0, 0), ui196], [ur1331, ur1378, ur1379, ur1389, ur1390, ur1391, ur1392, ur1393, ur1387, ur1388], [], [], [uV142], [uF2345, uF2245, uF2261], []), ([ui0, ui584, (0, 1), ui49, (0, 1), (0, 6), ui31, ui196, (0, 6)], [ur1331, ur1378, ur1379, ur1389, ur1390, ur1391, ur1392, ur1393, ur1387, ur1388], [], [], [uV567], [uF2245, uF2247, uF2345], [])], kc_86, 1000001332, 6, 129)
def cz_664_0i_0 (t : List (Int × Int)) : List (Int × Int) := ui0 :: ui584 :: (0, 1) :: ui49 :: (0, 1) :: (0, 6) :: ui31 :: ui844 :: t
def cz_664_0i_1 (t : List (Int × Int)) : List (Int × Int) := ui196 :: (0, 6) :: t
def cz_664_0f_0 (t : List zFa) : List zFa := uF2245 :: uF2257 :: uF2020 :: uF2343 :: uF1394 :: uF1395 :: uF2027 :: uF2028 :: t
def cz_664_0f_1 (t : List zFa) : List zFa := uF2029 :: uF2030 :: uF2031 :: uF1625 :: uF1626 :: t
def cz_664_0 : zS := ((cz_664_0i_0 (cz_664_0i_1 [])), (cx_596pr_0 (cx_596pr_1 [])), [], [uV2, uV11, uV142], [], (cz_664_0f_0 (cz_664_0f_1 [])), [uG2067, uG2170])
set_option maxRecDepth 1000000 in
theorem ck_664 : x_ok mLT1 [cx_554, cx_590, cx_642, cx_663, cx_603] mTS2 mTC2 mRUp cx_664 [(1, [0]), (10, [1]), (22, [2]), (26, [3]), (36, [4])] [] [(15, cz_664_0, (887, [(7, (-14))]))] (895, []) 1000000437 16 = true := by decide +kernel
theorem sn_664 {W : Bool} {X : List Int32} : y_Snd (mGw W) mLT1 (J2 W X) X cx_664 := y_ok J2_J mTS2_ok1 mTC2_ok1 mRUp_ok1 (List.forall_mem_cons.mpr ⟨sn_554, List.forall_mem_cons.mpr ⟨sn_590, List.forall_mem_cons.mpr ⟨sn_642, List.forall_mem_cons.mpr ⟨sn_663, List.forall_mem_cons.mpr ⟨sn_603, fun _ h => absurd h List.not_mem_nil⟩⟩⟩⟩⟩) ck_664
/-- M.likesMost -/
def cx_665 : zCtx := (286, ([ui0, ui124], [ur1331], [], [], [uV2, uV11], [], []), [([ui0, ui124], [ur1331], [], [], [], [], [])], [], 3, 0, 0)
set_option maxRecDepth 1000000 in
theorem ck_665 : x_ok mLT1 [] mTS2 mTC2 mRUp cx_665 [] [] [] (3, []) 0 6 = true := by decide +kernel
theorem sn_665 {W : Bool} {X : List Int32} : y_Snd (mGw W) mLT1 (J2 W X) X cx_665 := y_ok J2_J mTS2_ok1 mTC2_ok1 mRUp_ok1 (fun _ h => absurd h List.not_mem_nil) ck_665
/-- M.isPeace -/
def cx_666 : zCtx := (285, ([ui0, ui584, ui124, ui124, (0, 1), (0, 6)], [ur1331], [], [], [uV2, uV11, uV12, uV58], [uF2107, uF2268], []), [([ui0, ui584, ui124, ui124, (0, 1), (0, 6), (0, 0)], [ur1331], [], [], [uV64], [uF2341], []), ([ui0, ui584, ui124, ui124, (0, 1), (0, 6), (0, 0)], [ur1331], [], [], [uV62], [uF2341], [])], [uk2315, uk2350, uk2316], 1000001016, 4, 87)
set_option maxRecDepth 1000000 in
theorem ck_666 : x_ok mLT1 [cx_665, cx_663] mTS2 mTC2 mRUp cx_666 [(32, [0]), (37, [0]), (41, [1])] [] [(3, ([(0, 3072), (0, 999), ((-1), (-1)), ((-1), (-1)), (0, 1), (0, 6), (0, 40)], [(12, false)], [], [(2, 0, 0, []), (0, 0, 0, [(1, 1)]), (0, 0, 0, [(2, 1)]), (0, 0, 0, [(3, 1)]), (0, 0, 0, [(6, 1)])], [], [(0, (false, 18, 0, []), 0, 0, 0, [(4, 1)]), (0, (false, 61, 0, []), 0, 0, 0, [(5, 1)])], []), ((-100000000000), [(2, (-100000000000)), (3, (-576)), (6, (-14))]))] (579, []) 1000000437 19 = true := by decide +kernel
theorem sn_666 {W : Bool} {X : List Int32} : y_Snd (mGw W) mLT1 (J2 W X) X cx_666 := y_ok J2_J mTS2_ok1 mTC2_ok1 mRUp_ok1 (List.forall_mem_cons.mpr ⟨sn_665, List.forall_mem_cons.mpr ⟨sn_663, fun _ h => absurd h List.not_mem_nil⟩⟩) ck_666
/-- M.isPair -/
def cx_667 : zCtx := (287, ([ui0, (0, 9), (0, 1)], [ur1331], [], [], [uV2, uV11], [uF2020], []), [([ui0, (1, 5), (0, 1)], [ur1331], [], [], [uV64], [], []), ([ui0, (1, 9), (0, 1)], [ur1331], [], [], [uV62], [], []), ([ui0, (0, 0), (0, 1)], [ur1331], [], [], [uV62], [], [])], [], 36, 2, 43)
set_option maxRecDepth 1000000 in
theorem ck_667 : x_ok mLT1 [cx_640] mTS2 mTC2 mRUp cx_667 [(16, [0])] [] [] (16, []) 20 19 = true := by decide +kernel
theorem sn_667 {W : Bool} {X : List Int32} : y_Snd (mGw W) mLT1 (J2 W X) X cx_667 := y_ok J2_J mTS2_ok1 mTC2_ok1 mRUp_ok1 (List.forall_mem_cons.mpr ⟨sn_640, fun _ h => absurd h List.not_mem_nil⟩) ck_667
/-- M.isPair -/
def cx_668 : zCtx := (287, ([ui0, (10, 19), (0, 1)], [ur1331], [], [], [uV2, uV11], [uF2020], []), [([ui0, ui2351, (0, 1)], [ur1331], [], [], [uV64], [], []), ([ui0, (12, 19), (0, 1)], [ur1331], [], [], [uV62], [], []), ([ui0, (10, 11), (0, 1)], [ur1331], [], [], [uV62], [], [])], [], 36, 2, 43)
set_option maxRecDepth 1000000 in
theorem ck_668 : x_ok mLT1 [cx_640] mTS2 mTC2 mRUp cx_668 [(16, [0])] [] [] (16, []) 20 19 = true := by decide +kernel
theorem sn_668 {W : Bool} {X : List Int32} : y_Snd (mGw W) mLT1 (J2 W X) X cx_668 := y_ok J2_J mTS2_ok1 mTC2_ok1 mRUp_ok1 (List.forall_mem_cons.mpr ⟨sn_640, fun _ h => absurd h List.not_mem_nil⟩) ck_668
/-- M.isPair -/
def cx_669 : zCtx := (287, ([ui0, ui1880, (0, 1)], [ur1331], [], [], [uV2, uV11], [uF2020], []), [([ui0, ui2352, (0, 1)], [ur1331], [], [], [uV64], [], []), ([ui0, (23, 29), (0, 1)], [ur1331], [], [], [uV62], [], []), ([ui0, (20, 22), (0, 1)], [ur1331], [], [], [uV62], [], [])], [], 36, 2, 43)
set_option maxRecDepth 1000000 in
theorem ck_669 : x_ok mLT1 [cx_640] mTS2 mTC2 mRUp cx_669 [(16, [0])] [] [] (16, []) 20 19 = true := by decide +kernel
theorem sn_669 {W : Bool} {X : List Int32} : y_Snd (mGw W) mLT1 (J2 W X) X cx_669 := y_ok J2_J mTS2_ok1 mTC2_ok1 mRUp_ok1 (List.forall_mem_cons.mpr ⟨sn_640, fun _ h => absurd h List.not_mem_nil⟩) ck_669
/-- M.isPair -/
def cx_670 : zCtx := (287, ([ui0, (30, 39), (0, 1)], [ur1331], [], [], [uV2, uV11], [uF2020], []), [([ui0, ui2353, (0, 1)], [ur1331], [], [], [uV64], [], []), ([ui0, (34, 39), (0, 1)], [ur1331], [], [], [uV62], [], []), ([ui0, (30, 33), (0, 1)], [ur1331], [], [], [uV62], [], [])], [], 36, 2, 43)
set_option maxRecDepth 1000000 in
theorem ck_670 : x_ok mLT1 [cx_640] mTS2 mTC2 mRUp cx_670 [(16, [0])] [] [] (16, []) 20 19 = true := by decide +kernel
theorem sn_670 {W : Bool} {X : List Int32} : y_Snd (mGw W) mLT1 (J2 W X) X cx_670 := y_ok J2_J mTS2_ok1 mTC2_ok1 mRUp_ok1 (List.forall_mem_cons.mpr ⟨sn_640, fun _ h => absurd h List.not_mem_nil⟩) ck_670
/-- M.isPair -/
def cx_671 : zCtx := (287, ([ui0, (40, 49), (0, 1)], [ur1331], [], [], [uV2, uV11], [uF2020], []), [([ui0, ui2354, (0, 1)], [ur1331], [], [], [uV64], [], []), ([ui0, (45, 49), (0, 1)], [ur1331], [], [], [uV62], [], []), ([ui0, (40, 44), (0, 1)], [ur1331], [], [], [uV62], [], [])], [], 36, 2, 43)
set_option maxRecDepth 1000000 in
theorem ck_671 : x_ok mLT1 [cx_640] mTS2 mTC2 mRUp cx_671 [(16, [0])] [] [] (16, []) 20 19 = true := by decide +kernel
theorem sn_671 {W : Bool} {X : List Int32} : y_Snd (mGw W) mLT1 (J2 W X) X cx_671 := y_ok J2_J mTS2_ok1 mTC2_ok1 mRUp_ok1 (List.forall_mem_cons.mpr ⟨sn_640, fun _ h => absurd h List.not_mem_nil⟩) ck_671
/-- M.isPair -/
def cx_672 : zCtx := (287, ([ui0, (50, 59), (0, 1)], [ur1331], [], [], [uV2, uV11], [uF2020], []), [([ui0, (56, 59), (0, 1)], [ur1331], [], [], [uV62], [], []), ([ui0, (50, 55), (0, 1)], [ur1331], [], [], [uV62], [], [])], [], 35, 2, 43)
set_option maxRecDepth 1000000 in
theorem ck_672 : x_ok mLT1 [cx_640] mTS2 mTC2 mRUp cx_672 [(16, [0])] [] [] (15, []) 20 18 = true := by decide +kernel
theorem sn_672 {W : Bool} {X : List Int32} : y_Snd (mGw W) mLT1 (J2 W X) X cx_672 := y_ok J2_J mTS2_ok1 mTC2_ok1 mRUp_ok1 (List.forall_mem_cons.mpr ⟨sn_640, fun _ h => absurd h List.not_mem_nil⟩) ck_672
/-- M.likesMost -/
def cx_673 : zCtx := (286, ([ui0, (1, 5)], [ur1331], [], [], [uV2, uV11], [], []), [([ui0, (1, 5)], [ur1331], [], [], [], [], [])], [uk2350], 43, 0, 0)
set_option maxRecDepth 1000000 in
theorem ck_673 : x_ok mLT1 [] mTS2 mTC2 mRUp cx_673 [] [] [] (43, []) 0 46 = true := by decide +kernel
theorem sn_673 {W : Bool} {X : List Int32} : y_Snd (mGw W) mLT1 (J2 W X) X cx_673 := y_ok J2_J mTS2_ok1 mTC2_ok1 mRUp_ok1 (fun _ h => absurd h List.not_mem_nil) ck_673
/-- M.isPeace -/
def cx_674 : zCtx := (285, ([ui0, ui584, (1, 5), ui124, (0, 1), (0, 0)], [ur1331], [], [], [uV2, uV11, uV12, uV58], [uF2107, uF2268], []), [([ui0, ui584, (1, 5), ui124, (0, 1), (0, 0), (0, 0)], [ur1331], [], [], [uV64], [uF2341], []), ([ui0, ui584, (1, 5), ui124, (0, 1), (0, 0), (0, 0)], [ur1331], [], [], [uV62], [uF2341], [])], [uk2315, uk2350, uk2316], 1000001016, 4, 87)
set_option maxRecDepth 1000000 in
theorem ck_674 : x_ok mLT1 [cx_673, cx_665, cx_663] mTS2 mTC2 mRUp cx_674 [(32, [0]), (37, [1]), (41, [2])] [] [(3, ([(0, 3072), (0, 999), (1, 5), ((-1), (-1)), (0, 1), (0, 0), (0, 40)], [(12, false)], [], [(2, 0, 0, []), (0, 0, 0, [(1, 1)]), (0, 0, 0, [(2, 1)]), (0, 0, 0, [(3, 1)]), (0, 0, 0, [(6, 1)])], [], [(0, (false, 18, 0, []), 0, 0, 0, [(4, 1)]), (0, (false, 61, 0, []), 0, 0, 0, [(5, 1)])], []), ((-99999999424), [(3, (-100000000000)), (5, (-100000000000)), (6, (-14))]))] (579, []) 1000000437 19 = true := by decide +kernel
theorem sn_674 {W : Bool} {X : List Int32} : y_Snd (mGw W) mLT1 (J2 W X) X cx_674 := y_ok J2_J mTS2_ok1 mTC2_ok1 mRUp_ok1 (List.forall_mem_cons.mpr ⟨sn_673, List.forall_mem_cons.mpr ⟨sn_665, List.forall_mem_cons.mpr ⟨sn_663, fun _ h => absurd h List.not_mem_nil⟩⟩⟩) ck_674
/-- M.likesMost -/
def cx_675 : zCtx := (286, ([ui0, ui2351], [ur1331], [], [], [uV2, uV11], [], []), [([ui0, ui2351], [ur1331], [], [], [], [], [])], [uk2350], 43, 0, 0)
set_option maxRecDepth 1000000 in
theorem ck_675 : x_ok mLT1 [] mTS2 mTC2 mRUp cx_675 [] [] [] (43, []) 0 46 = true := by decide +kernel
theorem sn_675 {W : Bool} {X : List Int32} : y_Snd (mGw W) mLT1 (J2 W X) X cx_675 := y_ok J2_J mTS2_ok1 mTC2_ok1 mRUp_ok1 (fun _ h => absurd h List.not_mem_nil) ck_675
/-- M.isPeace -/
def cx_676 : zCtx := (285, ([ui0, ui584, ui2351, ui124, (0, 1), (0, 0)], [ur1331], [], [], [uV2, uV11, uV12, uV58], [uF2107, uF2268], []), [([ui0, ui584, ui2351, ui124, (0, 1), (0, 0), (0, 0)], [ur1331], [], [], [uV64], [uF2341], []), ([ui0, ui584, ui2351, ui124, (0, 1), (0, 0), (0, 0)], [ur1331], [], [], [uV62], [uF2341], [])], [uk2315, uk2350, uk2316], 1000001016, 4, 87)
set_option maxRecDepth 1000000 in
theorem ck_676 : x_ok mLT1 [cx_675, cx_665, cx_663] mTS2 mTC2 mRUp cx_676 [(32, [0]), (37, [1]), (41, [2])] [] [(3, ([(0, 3072), (0, 999), (12, 15), ((-1), (-1)), (0, 1), (0, 0), (0, 40)], [(12, false)], [], [(2, 0, 0, []), (0, 0, 0, [(1, 1)]), (0, 0, 0, [(2, 1)]), (0, 0, 0, [(3, 1)]), (0, 0, 0, [(6, 1)])], [], [(0, (false, 18, 0, []), 0, 0, 0, [(4, 1)]), (0, (false, 61, 0, []), 0, 0, 0, [(5, 1)])], []), ((-99999999424), [(3, (-100000000000)), (5, (-100000000000)), (6, (-14))]))] (579, []) 1000000437 19 = true := by decide +kernel
theorem sn_676 {W : Bool} {X : List Int32} : y_Snd (mGw W) mLT1 (J2 W X) X cx_676 := y_ok J2_J mTS2_ok1 mTC2_ok1 mRUp_ok1 (List.forall_mem_cons.mpr ⟨sn_675, List.forall_mem_cons.mpr ⟨sn_665, List.forall_mem_cons.mpr ⟨sn_663, fun _ h => absurd h List.not_mem_nil⟩⟩⟩) ck_676
/-- M.likesMost -/
def cx_677 : zCtx := (286, ([ui0, ui2352], [ur1331], [], [], [uV2, uV11], [], []), [([ui0, ui2352], [ur1331], [], [], [], [], [])], [uk2350], 43, 0, 0)
set_option maxRecDepth 1000000 in
theorem ck_677 : x_ok mLT1 [] mTS2 mTC2 mRUp cx_677 [] [] [] (43, []) 0 46 = true := by decide +kernel
theorem sn_677 {W : Bool} {X : List Int32} : y_Snd (mGw W) mLT1 (J2 W X) X cx_677 := y_ok J2_J mTS2_ok1 mTC2_ok1 mRUp_ok1 (fun _ h => absurd h List.not_mem_nil) ck_677
/-- M.isPeace -/
def cx_678 : zCtx := (285, ([ui0, ui584, ui2352, ui124, (0, 1), (0, 0)], [ur1331], [], [], [uV2, uV11, uV12, uV58], [uF2107, uF2268], []), [([ui0, ui584, ui2352, ui124, (0, 1), (0, 0), (0, 0)], [ur1331], [], [], [uV64], [uF2341], []), ([ui0, ui584, ui2352, ui124, (0, 1), (0, 0), (0, 0)], [ur1331], [], [], [uV62], [uF2341], [])], [uk2315, uk2350, uk2316], 1000001016, 4, 87)
set_option maxRecDepth 1000000 in
theorem ck_678 : x_ok mLT1 [cx_677, cx_665, cx_663] mTS2 mTC2 mRUp cx_678 [(32, [0]), (37, [1]), (41, [2])] [] [(3, ([(0, 3072), (0, 999), (23, 25), ((-1), (-1)), (0, 1), (0, 0), (0, 40)], [(12, false)], [], [(2, 0, 0, []), (0, 0, 0, [(1, 1)]), (0, 0, 0, [(2, 1)]), (0, 0, 0, [(3, 1)]), (0, 0, 0, [(6, 1)])], [], [(0, (false, 18, 0, []), 0, 0, 0, [(4, 1)]), (0, (false, 61, 0, []), 0, 0, 0, [(5, 1)])], []), ((-99999999424), [(3, (-100000000000)), (5, (-100000000000)), (6, (-14))]))] (579, []) 1000000437 19 = true := by decide +kernel
theorem sn_678 {W : Bool} {X : List Int32} : y_Snd (mGw W) mLT1 (J2 W X) X cx_678 := y_ok J2_J mTS2_ok1 mTC2_ok1 mRUp_ok1 (List.forall_mem_cons.mpr ⟨sn_677, List.forall_mem_cons.mpr ⟨sn_665, List.forall_mem_cons.mpr ⟨sn_663, fun _ h => absurd h List.not_mem_nil⟩⟩⟩) ck_678
/-- M.likesMost -/
def cx_679 : zCtx := (286, ([ui0, ui2353], [ur1331], [], [], [uV2, uV11], [], []), [([ui0, ui2353], [ur1331], [], [], [], [], [])], [uk2350], 43, 0, 0)
set_option maxRecDepth 1000000 in
theorem ck_679 : x_ok mLT1 [] mTS2 mTC2 mRUp cx_679 [] [] [] (43, []) 0 46 = true := by decide +kernel
theorem sn_679 {W : Bool} {X : List Int32} : y_Snd (mGw W) mLT1 (J2 W X) X cx_679 := y_ok J2_J mTS2_ok1 mTC2_ok1 mRUp_ok1 (fun _ h => absurd h List.not_mem_nil) ck_679
/-- M.isPeace -/
def cx_680 : zCtx := (285, ([ui0, ui584, ui2353, ui124, (0, 1), (0, 0)], [ur1331], [], [], [uV2, uV11, uV12, uV58], [uF2107, uF2268], []), [([ui0, ui584, ui2353, ui124, (0, 1), (0, 0), (0, 0)], [ur1331], [], [], [uV64], [uF2341], []), ([ui0, ui584, ui2353, ui124, (0, 1), (0, 0), (0, 0)], [ur1331], [], [], [uV62], [uF2341], [])], [uk2315, uk2350, uk2316], 1000001016, 4, 87)
set_option maxRecDepth 1000000 in
theorem ck_680 : x_ok mLT1 [cx_679, cx_665, cx_663] mTS2 mTC2 mRUp cx_680 [(32, [0]), (37, [1]), (41, [2])] [] [(3, ([(0, 3072), (0, 999), (34, 35), ((-1), (-1)), (0, 1), (0, 0), (0, 40)], [(12, false)], [], [(2, 0, 0, []), (0, 0, 0, [(1, 1)]), (0, 0, 0, [(2, 1)]), (0, 0, 0, [(3, 1)]), (0, 0, 0, [(6, 1)])], [], [(0, (false, 18, 0, []), 0, 0, 0, [(4, 1)]), (0, (false, 61, 0, []), 0, 0, 0, [(5, 1)])], []), ((-99999999424), [(3, (-100000000000)), (5, (-100000000000)), (6, (-14))]))] (579, []) 1000000437 19 = true := by decide +kernel
theorem sn_680 {W : Bool} {X : List Int32} : y_Snd (mGw W) mLT1 (J2 W X) X cx_680 := y_ok J2_J mTS2_ok1 mTC2_ok1 mRUp_ok1 (List.forall_mem_cons.mpr ⟨sn_679, List.forall_mem_cons.mpr ⟨sn_665, List.forall_mem_cons.mpr ⟨sn_663, fun _ h => absurd h List.not_mem_nil⟩⟩⟩) ck_680
/-- M.likesMost -/
def cx_681 : zCtx := (286, ([ui0, ui2354], [ur1331], [], [], [uV2, uV11], [], []), [([ui0, ui2354], [ur1331], [], [], [], [], [])], [uk2350], 43, 0, 0)
set_option maxRecDepth 1000000 in
theorem ck_681 : x_ok mLT1 [] mTS2 mTC2 mRUp cx_681 [] [] [] (43, []) 0 46 = true := by decide +kernel
theorem sn_681 {W : Bool} {X : List Int32} : y_Snd (mGw W) mLT1 (J2 W X) X cx_681 := y_ok J2_J mTS2_ok1 mTC2_ok1 mRUp_ok1 (fun _ h => absurd h List.not_mem_nil) ck_681
/-- M.isPeace -/
def cx_682 : zCtx := (285, ([ui0, ui584, ui2354, ui124, (0, 1), (0, 0)], [ur1331], [], [], [uV2, uV11, uV12, uV58], [uF2107, uF2268], []), [([ui0, ui584, ui2354, ui124, (0, 1), (0, 0), (0, 0)], [ur1331], [], [], [uV64], [uF2341], []), ([ui0, ui584, ui2354, ui124, (0, 1), (0, 0), (0, 0)], [ur1331], [], [], [uV62], [uF2341], [])], [uk2315, uk2350, uk2316], 1000003332, 4, 87)
set_option maxRecDepth 1000000 in
theorem ck_682 : x_ok mLT1 [cx_681, cx_665, cx_663] mTS2 mTC2 mRUp cx_682 [(32, [0]), (37, [1]), (41, [2])] [] [(3, ([(0, 3072), (0, 999), (45, 45), ((-1), (-1)), (0, 1), (0, 0), (0, 40)], [(12, false)], [], [(2, 0, 0, []), (0, 0, 0, [(1, 1)]), (0, 0, 0, [(2, 1)]), (0, 0, 0, [(3, 1)]), (0, 0, 0, [(6, 1)])], [], [(0, (false, 18, 0, []), 0, 0, 0, [(4, 1)]), (0, (false, 61, 0, []), 0, 0, 0, [(5, 1)])], []), ((-500000000000), [(2, 64), (3, (-500000000000)), (5, (-500000000000)), (6, (-70))]))] (2895, []) 1000000437 19 = true := by decide +kernel
theorem sn_682 {W : Bool} {X : List Int32} : y_Snd (mGw W) mLT1 (J2 W X) X cx_682 := y_ok J2_J mTS2_ok1 mTC2_ok1 mRUp_ok1 (List.forall_mem_cons.mpr ⟨sn_681, List.forall_mem_cons.mpr ⟨sn_665, List.forall_mem_cons.mpr ⟨sn_663, fun _ h => absurd h List.not_mem_nil⟩⟩⟩) ck_682
/-- M.isPair -/
def cx_683 : zCtx := (287, ([ui0, ui2355, (0, 1)], [ur1331], [], [], [uV2, uV11], [uF2020], []), [([ui0, ui2355, (0, 1)], [ur1331], [], [], [uV62], [], [])], [], 9, 0, 0)
set_option maxRecDepth 1000000 in
theorem ck_683 : x_ok mLT1 [] mTS2 mTC2 mRUp cx_683 [] [] [] (9, []) 0 12 = true := by decide +kernel
theorem sn_683 {W : Bool} {X : List Int32} : y_Snd (mGw W) mLT1 (J2 W X) X cx_683 := y_ok J2_J mTS2_ok1 mTC2_ok1 mRUp_ok1 (fun _ h => absurd h List.not_mem_nil) ck_683
/-- M.isPeace -/
def cx_684 : zCtx := (285, ([ui0, ui584, (1, 5), (1, 5), (0, 1), (0, 0)], [ur1331], [], [], [uV2, uV11, uV12, uV58], [uF2107, uF2268], []), [([ui0, ui584, (1, 5), (1, 5), (0, 1), (0, 0), (0, 0)], [ur1331], [], [], [uV64], [uF2341], []), ([ui0, ui584, (1, 5), (1, 5), (0, 1), (0, 0), (0, 0)], [ur1331], [], [], [uV62], [uF2341], [])], [uk2315, uk2350, uk2316], 1000001016, 4, 87)
set_option maxRecDepth 1000000 in
theorem ck_684 : x_ok mLT1 [cx_673, cx_663] mTS2 mTC2 mRUp cx_684 [(32, [0]), (37, [0]), (41, [1])] [] [(3, ([(0, 3072), (0, 999), (1, 5), (1, 5), (0, 1), (0, 0), (0, 40)], [(12, false)], [], [(2, 0, 0, []), (0, 0, 0, [(1, 1)]), (0, 0, 0, [(2, 1)]), (0, 0, 0, [(3, 1)]), (0, 0, 0, [(6, 1)])], [], [(0, (false, 18, 0, []), 0, 0, 0, [(4, 1)]), (0, (false, 61, 0, []), 0, 0, 0, [(5, 1)])], []), (576, [(5, (-100000000000)), (6, (-14))]))] (579, []) 1000000437 19 = true := by decide +kernel
theorem sn_684 {W : Bool} {X : List Int32} : y_Snd (mGw W) mLT1 (J2 W X) X cx_684 := y_ok J2_J mTS2_ok1 mTC2_ok1 mRUp_ok1 (List.forall_mem_cons.mpr ⟨sn_673, List.forall_mem_cons.mpr ⟨sn_663, fun _ h => absurd h List.not_mem_nil⟩⟩) ck_684
/-- M.isPeace -/
def cx_685 : zCtx := (285, ([ui0, ui584, (1, 5), ui2351, (0, 1), (0, 0)], [ur1331], [], [], [uV2, uV11, uV12, uV58], [uF2107, uF2268], []), [([ui0, ui584, (1, 5), ui2351, (0, 1), (0, 0), (0, 0)], [ur1331], [], [], [uV64], [uF2341], []), ([ui0, ui584, (1, 5), ui2351, (0, 1), (0, 0), (0, 0)], [ur1331], [], [], [uV62], [uF2341], [])], [uk2315, uk2350, uk2316], 1000001016, 4, 87)
set_option maxRecDepth 1000000 in
theorem ck_685 : x_ok mLT1 [cx_673, cx_675, cx_663] mTS2 mTC2 mRUp cx_685 [(32, [0]), (37, [1]), (41, [2])] [] [(3, ([(0, 3072), (0, 999), (1, 5), (12, 15), (0, 1), (0, 0), (0, 40)], [(12, false)], [], [(2, 0, 0, []), (0, 0, 0, [(1, 1)]), (0, 0, 0, [(2, 1)]), (0, 0, 0, [(3, 1)]), (0, 0, 0, [(6, 1)])], [], [(0, (false, 18, 0, []), 0, 0, 0, [(4, 1)]), (0, (false, 61, 0, []), 0, 0, 0, [(5, 1)])], []), (576, [(5, (-100000000000)), (6, (-14))]))] (579, []) 1000000437 19 = true := by decide +kernel
theorem sn_685 {W : Bool} {X : List Int32} : y_Snd (mGw W) mLT1 (J2 W X) X cx_685 := y_ok J2_J mTS2_ok1 mTC2_ok1 mRUp_ok1 (List.forall_mem_cons.mpr ⟨sn_673, List.forall_mem_cons.mpr ⟨sn_675, List.forall_mem_cons.mpr ⟨sn_663, fun _ h => absurd h List.not_mem_nil⟩⟩⟩) ck_685
/-- M.isPeace -/
def cx_686 : zCtx := (285, ([ui0, ui584, (1, 5), ui2352, (0, 1), (0, 0)], [ur1331], [], [], [uV2, uV11, uV12, uV58], [uF2107, uF2268], []), [([ui0, ui584, (1, 5), ui2352, (0, 1), (0, 0), (0, 0)], [ur1331], [], [], [uV64], [uF2341], []), ([ui0, ui584, (1, 5), ui2352, (0, 1), (0, 0), (0, 0)], [ur1331], [], [], [uV62], [uF2341], [])], [uk2315, uk2350, uk2316], 1000001016, 4, 87)
set_option maxRecDepth 1000000 in
theorem ck_686 : x_ok mLT1 [cx_673, cx_677, cx_663] mTS2 mTC2 mRUp cx_686 [(32, [0]), (37, [1]), (41, [2])] [] [(3, ([(0, 3072), (0, 999), (1, 5), (23, 25), (0, 1), (0, 0), (0, 40)], [(12, false)], [], [(2, 0, 0, []), (0, 0, 0, [(1, 1)]), (0, 0, 0, [(2, 1)]), (0, 0, 0, [(3, 1)]), (0, 0, 0, [(6, 1)])], [], [(0, (false, 18, 0, []), 0, 0, 0, [(4, 1)]), (0, (false, 61, 0, []), 0, 0, 0, [(5, 1)])], []), (576, [(5, (-100000000000)), (6, (-14))]))] (579, []) 1000000437 19 = true := by decide +kernel
theorem sn_686 {W : Bool} {X : List Int32} : y_Snd (mGw W) mLT1 (J2 W X) X cx_686 := y_ok J2_J mTS2_ok1 mTC2_ok1 mRUp_ok1 (List.forall_mem_cons.mpr ⟨sn_673, List.forall_mem_cons.mpr ⟨sn_677, List.forall_mem_cons.mpr ⟨sn_663, fun _ h => absurd h List.not_mem_nil⟩⟩⟩) ck_686
/-- M.isPeace -/
def cx_687 : zCtx := (285, ([ui0, ui584, (1, 5), ui2353, (0, 1), (0, 0)], [ur1331], [], [], [uV2, uV11, uV12, uV58], [uF2107, uF2268], []), [([ui0, ui584, (1, 5), ui2353, (0, 1), (0, 0), (0, 0)], [ur1331], [], [], [uV64], [uF2341], []), ([ui0, ui584, (1, 5), ui2353, (0, 1), (0, 0), (0, 0)], [ur1331], [], [], [uV62], [uF2341], [])], [uk2315, uk2350, uk2316], 1000001016, 4, 87)
set_option maxRecDepth 1000000 in
theorem ck_687 : x_ok mLT1 [cx_673, cx_679, cx_663] mTS2 mTC2 mRUp cx_687 [(32, [0]), (37, [1]), (41, [2])] [] [(3, ([(0, 3072), (0, 999), (1, 5), (34, 35), (0, 1), (0, 0), (0, 40)], [(12, false)], [], [(2, 0, 0, []), (0, 0, 0, [(1, 1)]), (0, 0, 0, [(2, 1)]), (0, 0, 0, [(3, 1)]), (0, 0, 0, [(6, 1)])], [], [(0, (false, 18, 0, []), 0, 0, 0, [(4, 1)]), (0, (false, 61, 0, []), 0, 0, 0, [(5, 1)])], []), (576, [(5, (-100000000000)), (6, (-14))]))] (579, []) 1000000437 19 = true := by decide +kernel
theorem sn_687 {W : Bool} {X : List Int32} : y_Snd (mGw W) mLT1 (J2 W X) X cx_687 := y_ok J2_J mTS2_ok1 mTC2_ok1 mRUp_ok1 (List.forall_mem_cons.mpr ⟨sn_673, List.forall_mem_cons.mpr ⟨sn_679, List.forall_mem_cons.mpr ⟨sn_663, fun _ h => absurd h List.not_mem_nil⟩⟩⟩) ck_687
/-- M.isPeace -/
def cx_688 : zCtx := (285, ([ui0, ui584, (1, 5), ui2354, (0, 1), (0, 0)], [ur1331], [], [], [uV2, uV11, uV12, uV58], [uF2107, uF2268], []), [([ui0, ui584, (1, 5), ui2354, (0, 1), (0, 0), (0, 0)], [ur1331], [], [], [uV64], [uF2341], []), ([ui0, ui584, (1, 5), ui2354, (0, 1), (0, 0), (0, 0)], [ur1331], [], [], [uV62], [uF2341], [])], [uk2315, uk2350, uk2316], 1000026492, 4, 87)
set_option maxRecDepth 1000000 in
theorem ck_688 : x_ok mLT1 [cx_673, cx_681, cx_663] mTS2 mTC2 mRUp cx_688 [(32, [0]), (37, [1]), (41, [2])] [] [(3, ([(0, 3072), (0, 999), (1, 5), (45, 45), (0, 1), (0, 0), (0, 40)], [(12, false)], [], [(2, 0, 0, []), (0, 0, 0, [(1, 1)]), (0, 0, 0, [(2, 1)]), (0, 0, 0, [(3, 1)]), (0, 0, 0, [(6, 1)])], [], [(0, (false, 18, 0, []), 0, 0, 0, [(4, 1)]), (0, (false, 61, 0, []), 0, 0, 0, [(5, 1)])], []), ((-4500000000000), [(3, 100000000576), (5, (-4500000000000)), (6, (-630))]))] (26055, []) 1000000437 19 = true := by decide +kernel
theorem sn_688 {W : Bool} {X : List Int32} : y_Snd (mGw W) mLT1 (J2 W X) X cx_688 := y_ok J2_J mTS2_ok1 mTC2_ok1 mRUp_ok1 (List.forall_mem_cons.mpr ⟨sn_673, List.forall_mem_cons.mpr ⟨sn_681, List.forall_mem_cons.mpr ⟨sn_663, fun _ h => absurd h List.not_mem_nil⟩⟩⟩) ck_688
/-- M.isPeace -/
def cx_689 : zCtx := (285, ([ui0, ui584, ui2351, (1, 5), (0, 1), (0, 0)], [ur1331], [], [], [uV2, uV11, uV12, uV58], [uF2107, uF2268], []), [([ui0, ui584, ui2351, (1, 5), (0, 1), (0, 0), (0, 0)], [ur1331], [], [], [uV64], [uF2341], []), ([ui0, ui584, ui2351, (1, 5), (0, 1), (0, 0), (0, 0)], [ur1331], [], [], [uV62], [uF2341], [])], [uk2315, uk2350, uk2316], 1000001016, 4, 87)
set_option maxRecDepth 1000000 in
theorem ck_689 : x_ok mLT1 [cx_675, cx_673, cx_663] mTS2 mTC2 mRUp cx_689 [(32, [0]), (37, [1]), (41, [2])] [] [(3, ([(0, 3072), (0, 999), (12, 15), (1, 5), (0, 1), (0, 0), (0, 40)], [(12, false)], [], [(2, 0, 0, []), (0, 0, 0, [(1, 1)]), (0, 0, 0, [(2, 1)]), (0, 0, 0, [(3, 1)]), (0, 0, 0, [(6, 1)])], [], [(0, (false, 18, 0, []), 0, 0, 0, [(4, 1)]), (0, (false, 61, 0, []), 0, 0, 0, [(5, 1)])], []), (576, [(5, (-100000000000)), (6, (-14))]))] (579, []) 1000000437 19 = true := by decide +kernel
theorem sn_689 {W : Bool} {X : List Int32} : y_Snd (mGw W) mLT1 (J2 W X) X cx_689 := y_ok J2_J mTS2_ok1 mTC2_ok1 mRUp_ok1 (List.forall_mem_cons.mpr ⟨sn_675, List.forall_mem_cons.mpr ⟨sn_673, List.forall_mem_cons.mpr ⟨sn_663, fun _ h => absurd h List.not_mem_nil⟩⟩⟩) ck_689
/-- M.isPeace -/
def cx_690 : zCtx := (285, ([ui0, ui584, ui2351, ui2351, (0, 1), (0, 0)], [ur1331], [], [], [uV2, uV11, uV12, uV58], [uF2107, uF2268], []), [([ui0, ui584, ui2351, ui2351, (0, 1), (0, 0), (0, 0)], [ur1331], [], [], [uV64], [uF2341], []), ([ui0, ui584, ui2351, ui2351, (0, 1), (0, 0), (0, 0)], [ur1331], [], [], [uV62], [uF2341], [])], [uk2315, uk2350, uk2316], 1000001016, 4, 87)
set_option maxRecDepth 1000000 in
theorem ck_690 : x_ok mLT1 [cx_675, cx_663] mTS2 mTC2 mRUp cx_690 [(32, [0]), (37, [0]), (41, [1])] [] [(3, ([(0, 3072), (0, 999), (12, 15), (12, 15), (0, 1), (0, 0), (0, 40)], [(12, false)], [], [(2, 0, 0, []), (0, 0, 0, [(1, 1)]), (0, 0, 0, [(2, 1)]), (0, 0, 0, [(3, 1)]), (0, 0, 0, [(6, 1)])], [], [(0, (false, 18, 0, []), 0, 0, 0, [(4, 1)]), (0, (false, 61, 0, []), 0, 0, 0, [(5, 1)])], []), (576, [(5, (-100000000000)), (6, (-14))]))] (579, []) 1000000437 19 = true := by decide +kernel
theorem sn_690 {W : Bool} {X : List Int32} : y_Snd (mGw W) mLT1 (J2 W X) X cx_690 := y_ok J2_J mTS2_ok1 mTC2_ok1 mRUp_ok1 (List.forall_mem_cons.mpr ⟨sn_675, List.forall_mem_cons.mpr ⟨sn_663, fun _ h => absurd h List.not_mem_nil⟩⟩) ck_690
end
