noncomputable section
/-! ===== readings, by program, checked by the kernel ===== -/
def cx_559pi_0 (t : List (Int × Int)) : List (Int × Int) := ui0 :: ui49 :: (0, 1) :: ui49 :: (0, 1) :: ui776 :: (0, 6) :: ui49 :: t
def cx_559pi_1 (t : List (Int × Int)) : List (Int × Int) := ui49 :: (0, 6) :: ui600 :: ui437 :: t
def cx_559pg_0 (t : List zTg) : List zTg := uG2260 :: uG2042 :: uG2261 :: uG2262 :: uG2285 :: uG2286 :: uG2287 :: uG2288 :: t
def cx_559pg_1 (t : List zTg) : List zTg := (244, [uL78, uL193, uL625, uL65, uL773]) :: t
def cx_559p : zS := ((cx_559pi_0 (cx_559pi_1 [])), [ur1474, ur2027, ur1523, ur1635, ur1636, ur2272, ur2047], [uL2250, uL234, uL2298, uL2299], [], [uV2, uV11], (cx_557pf_0 (cx_557pf_1 [])), (cx_559pg_0 (cx_559pg_1 [])))
/-- M.splice -/
def cx_559 : zCtx := (243, cx_559p, [([ui0, ui49, (0, 1), ui49, (0, 1), ui776, (0, 6), ui49, ui49, (0, 6), ui600, ui437], [ur1474, ur2027, ur1523, ur1635, ur1636, ur2272, ur2047], [], [], [uV854], [uF2296], [uG2042, uG2043, uG2260, uG2297, uG2036, uG2037, uG2293, (242, [uL78, uL193, uL624, uL63])])], [uk2038, uk2039, uk2276, uk2044, uk2040, uk2277], 1305467, 2, 43)
set_option maxRecDepth 1000000 in
theorem ck_559 : x_ok mLT1 [cx_553, cx_515, cx_524, cx_522, cx_558, cx_556] mTS2 mTC2 mRUp cx_559 [(1, [0]), (6, [1]), (14, [2]), (56, [3]), (108, [4]), (112, [5])] [(4, uN2269), (29, uN2270), (31, [20, 85, 1000921, 1000922, 1000923, 1000840, 1000857, 1000924]), (46, [23]), (71, [1000637]), (107, [25, 1000925, 1000926]), (108, [1000927])] [] (72, []) 1305395 75 = true := by decide +kernel
theorem sn_559 {W : Bool} {X : List Int32} : y_Snd (mGw W) mLT1 (J2 W X) X cx_559 := y_ok J2_J mTS2_ok1 mTC2_ok1 mRUp_ok1 (List.forall_mem_cons.mpr ⟨sn_553, List.forall_mem_cons.mpr ⟨sn_515, List.forall_mem_cons.mpr ⟨sn_524, List.forall_mem_cons.mpr ⟨sn_522, List.forall_mem_cons.mpr ⟨sn_558, List.forall_mem_cons.mpr ⟨sn_556, fun _ h => absurd h List.not_mem_nil⟩⟩⟩⟩⟩⟩) ck_559
/-- M.unsplice -/
def cx_560 : zCtx := (246, ([ui0, (0, 1), ui49, (0, 1), ui438, (0, 6), ui49, ui49], [ur1474, ur1523, ur2027], [uL592], [], [uV2], [uF2028, uF2029, uF2030, uF2300, uF1638, uF2191], [uG2260, uG2042, uG2301, uG2302]), [([ui0, (0, 1), ui49, (0, 1), ui438, (0, 6), ui49, ui49], [ur1474, ur1523, ur2027], [], [], [uV61], [], [uG2036, uG2037, uG2302])], [uk2038, uk2039, uk2040], 454, 1, 21)
set_option maxRecDepth 1000000 in
theorem ck_560 : x_ok mLT1 [cx_553] mTS2 mTC2 mRUp cx_560 [(1, [0])] [(4, [1000831]), (11, uN2303)] [] (9, []) 445 12 = true := by decide +kernel
theorem sn_560 {W : Bool} {X : List Int32} : y_Snd (mGw W) mLT1 (J2 W X) X cx_560 := y_ok J2_J mTS2_ok1 mTC2_ok1 mRUp_ok1 (List.forall_mem_cons.mpr ⟨sn_553, fun _ h => absurd h List.not_mem_nil⟩) ck_560
/-- M.loses -/
def cx_561 : zCtx := (247, ([ui0, (0, 6), (0, 6), (0, 1), (0, 6)], [ur1474, ur2027, ur1523], [uL786, uL9, uL514], [], [uV2, uV11], [uF2031, (1, (true, 0, 24, []), 0, 0, 0, [(2, 1)]), uF2166, uF2266], [uG2036, uG2240, (237, [uL98, uL63, uL63, uL63, uL63, uL63, uL63, uL63])]), [([ui0, (0, 6), (0, 6), (0, 1), (0, 6), (0, 6)], [ur1474, ur2027, ur1523], [uL786, uL9, uL514], [], [], [uF2187], [uG2036, (237, [uL98, uL63, uL63, uL63, uL114, uL9, uL63, uL63])])], [uk2040], 307, 0, 0)
set_option maxRecDepth 1000000 in
theorem ck_561 : x_ok mLT1 [] mTS2 mTC2 mRUp cx_561 [] [(1, [1000931]), (8, [20]), (11, [1000932]), (62, [150]), (74, [24, 25, 1000933])] [(0, ([(0, 3072), (0, 5), (1, 6), (0, 1), (1, 6), (0, 5), (0, 5)], [(12, false), (78, false), (56, false)], [((-1), [(4, 1), (5, (-1))]), ((-1), [(1, (-1)), (2, 1)]), (6, [(4, (-1))]), (0, [(1, 1)]), (0, [(1, (-1)), (2, 1)]), (0, [(1, (-1)), (6, 1)])], [(2, 0, 0, []), (0, 0, 0, [(1, 1)]), (0, 0, 0, [(5, 1)])], [], [(1, (true, 0, 24, []), 0, 0, 0, [(6, 1)]), (0, (false, 48, 0, []), 2, 1, 0, []), (0, (false, 18, 0, []), 0, 0, 0, [(3, 1)]), (0, (false, 22, 0, []), 2, 2, 0, [])], [(11, [((-1), [])]), (85, [(0, [(3, 1)]), (0, [(4, 1)]), (1, [(3, (-1))])]), (237, [(0, [(4, 1)]), (0, []), (0, []), (0, []), (2, []), (0, [(6, 1)]), (0, []), (0, [])])]), (7, [(6, 50)]))] (307, []) 0 52 = true := by decide +kernel
theorem sn_561 {W : Bool} {X : List Int32} : y_Snd (mGw W) mLT1 (J2 W X) X cx_561 := y_ok J2_J mTS2_ok1 mTC2_ok1 mRUp_ok1 (fun _ h => absurd h List.not_mem_nil) ck_561
def cx_562pi_0 (t : List (Int × Int)) : List (Int × Int) := ui0 :: (0, 1) :: ui49 :: (0, 1) :: ui437 :: (0, 6) :: ui49 :: ui49 :: t
def cx_562pi_1 (t : List (Int × Int)) : List (Int × Int) := (1, 6) :: (0, 5) :: ui437 :: t
def cx_562pg_0 (t : List zTg) : List zTg := uG2260 :: uG2042 :: uG2301 :: uG2304 :: uG2305 :: uG2306 :: (244, [uL104, uL169, uL98, uL63, (0, [(4, 33)])]) :: t
def cx_562p : zS := ((cx_562pi_0 (cx_562pi_1 [])), [ur1474, ur1523, ur2027, ur2272, ur2047], [uL592, (39, [(4, (-1))])], [], [uV2], [uF2028, uF2029, uF2030, uF2300, uF1638, uF2191, uF2275, uF2307], (cx_562pg_0 []))
/-- M.unsplice -/
def cx_562 : zCtx := (246, cx_562p, [([ui0, (0, 1), ui49, (0, 1), ui437, (0, 6), ui49, ui49, (1, 6), (0, 5), ui437], [ur1474, ur1523, ur2027, ur2272, ur2047], [], [], [uV799], [(0, (false, 53, 0, []), 0, 0, 1, [(4, 1)])], [uG2042, uG2043, uG2260, (12, [uL98]), uG2036, uG2308, (242, [uL104, uL169, uL168, uL63])])], [uk2038, uk2039, uk2276, uk2044, uk2040, uk2277], 1076, 2, 42)
set_option maxRecDepth 1000000 in
theorem ck_562 : x_ok mLT1 [cx_553, cx_561, cx_555] mTS2 mTC2 mRUp cx_562 [(1, [0]), (42, [1]), (46, [2])] [(4, [1000831]), (11, uN2303), (30, uN2309)] [] (29, []) 1047 32 = true := by decide +kernel
theorem sn_562 {W : Bool} {X : List Int32} : y_Snd (mGw W) mLT1 (J2 W X) X cx_562 := y_ok J2_J mTS2_ok1 mTC2_ok1 mRUp_ok1 (List.forall_mem_cons.mpr ⟨sn_553, List.forall_mem_cons.mpr ⟨sn_561, List.forall_mem_cons.mpr ⟨sn_555, fun _ h => absurd h List.not_mem_nil⟩⟩⟩) ck_562
def cx_563pi_0 (t : List (Int × Int)) : List (Int × Int) := ui0 :: (0, 1) :: ui49 :: (0, 1) :: ui776 :: (0, 6) :: ui49 :: ui49 :: t
def cx_563pi_1 (t : List (Int × Int)) : List (Int × Int) := (1, 6) :: (0, 5) :: ui437 :: t
def cx_563pg_0 (t : List zTg) : List zTg := uG2260 :: uG2042 :: uG2301 :: uG2304 :: uG2305 :: uG2306 :: (244, [uL104, uL169, uL625, uL65, uL773]) :: t
def cx_563p : zS := ((cx_563pi_0 (cx_563pi_1 [])), [ur1474, ur1523, ur2027, ur2272, ur2047], [uL592, ((-40), [(4, 1)]), (40, [(4, (-1))])], [], [uV2], [uF2028, uF2029, uF2030, uF2300, uF1638, uF2191, uF2275, uF2307], (cx_563pg_0 []))
/-- M.unsplice -/
def cx_563 : zCtx := (246, cx_563p, [([ui0, (0, 1), ui49, (0, 1), ui776, (0, 6), ui49, ui49, (1, 6), (0, 5), ui437], [ur1474, ur1523, ur2027, ur2272, ur2047], [], [], [uV799], [uF2296], [uG2042, uG2043, uG2260, uG2297, uG2036, uG2308, (242, [uL104, uL169, uL624, uL63])])], [uk2038, uk2039, uk2276, uk2044, uk2040, uk2277], 1305424, 2, 42)
set_option maxRecDepth 1000000 in
theorem ck_563 : x_ok mLT1 [cx_553, cx_561, cx_558] mTS2 mTC2 mRUp cx_563 [(1, [0]), (42, [1]), (46, [2])] [(4, [1000831]), (11, uN2303), (30, uN2309)] [] (29, []) 1305395 32 = true := by decide +kernel
theorem sn_563 {W : Bool} {X : List Int32} : y_Snd (mGw W) mLT1 (J2 W X) X cx_563 := y_ok J2_J mTS2_ok1 mTC2_ok1 mRUp_ok1 (List.forall_mem_cons.mpr ⟨sn_553, List.forall_mem_cons.mpr ⟨sn_561, List.forall_mem_cons.mpr ⟨sn_558, fun _ h => absurd h List.not_mem_nil⟩⟩⟩) ck_563
/-- M.isWeight -/
def cx_564 : zCtx := (249, ([ui0, ui49], [], [], [], [uV11], [], []), [([ui0, ui260], [], [], [], [uV62], [], []), ([ui0, ui820], [], [], [], [uV62], [], []), ([ui0, ui600], [], [], [], [uV64], [], [])], [], 14, 1, 22)
set_option maxRecDepth 1000000 in
theorem ck_564 : x_ok mLT1 [cx_514] mTS2 mTC2 mRUp cx_564 [(5, [0])] [] [] (5, []) 9 8 = true := by decide +kernel
theorem sn_564 {W : Bool} {X : List Int32} : y_Snd (mGw W) mLT1 (J2 W X) X cx_564 := y_ok J2_J mTS2_ok1 mTC2_ok1 mRUp_ok1 (List.forall_mem_cons.mpr ⟨sn_514, fun _ h => absurd h List.not_mem_nil⟩) ck_564
def cx_565pi_0 (t : List (Int × Int)) : List (Int × Int) := ui0 :: ui820 :: (0, 1) :: ui49 :: (0, 1) :: ui438 :: ui31 :: (0, 6) :: t
def cx_565pi_1 (t : List (Int × Int)) : List (Int × Int) := (0, 6) :: ui49 :: ui49 :: ui194 :: t
def cx_565pr_0 (t : List (Nat × Bool)) : List (Nat × Bool) := ur1474 :: ur1521 :: ur1522 :: ur1532 :: ur1533 :: ur1534 :: ur1535 :: ur1536 :: t
def cx_565pr_1 (t : List (Nat × Bool)) : List (Nat × Bool) := ur1530 :: ur1531 :: ur1523 :: ur1635 :: ur1636 :: ur1525 :: ur2027 :: ur1526 :: t
def cx_565pf_0 (t : List zFa) : List zFa := uF2162 :: uF2263 :: uF2264 :: uF2265 :: uF1537 :: uF1538 :: uF2169 :: uF2170 :: t
def cx_565pf_1 (t : List zFa) : List zFa := uF2171 :: uF2172 :: uF2173 :: uF1768 :: uF1769 :: uF2174 :: uF2175 :: uF2176 :: t
def cx_565pf_2 (t : List zFa) : List zFa := uF2062 :: uF2254 :: uF2310 :: t
def cx_565pg_0 (t : List zTg) : List zTg := uG2209 :: uG2260 :: uG2042 :: uG2311 :: uG2312 :: uG2313 :: uG2314 :: uG2315 :: t
def cx_565pg_1 (t : List zTg) : List zTg := uG2184 :: t
def cx_565p : zS := ((cx_565pi_0 (cx_565pi_1 [])), (cx_565pr_0 (cx_565pr_1 [])), [uL1224], [], [uV2, uV11], (cx_565pf_0 (cx_565pf_1 (cx_565pf_2 []))), (cx_565pg_0 (cx_565pg_1 [])))
/-- M.haul -/
def cx_565 : zCtx := (248, cx_565p, [([ui0, ui820, (0, 1), ui49, (0, 1), ui438, ui31, (0, 6), (0, 6), ui49, ui49, ui194], [ur1474, ur1521, ur1522, ur1532, ur1533, ur1534, ur1535, ur1536, ur1530, ur1531, ur1523, ur1635, ur1636, ur1525, ur2027, ur1526], [], [], [uV61], [], [uG2036, uG2037, uG2184])], [uk2038, uk2039, uk2040], 452, 2, 42)
set_option maxRecDepth 1000000 in
theorem ck_565 : x_ok mLT1 [cx_553, cx_564] mTS2 mTC2 mRUp cx_565 [(1, [0]), (5, [1])] [(4, [1000831])] [] (7, []) 445 10 = true := by decide +kernel
theorem sn_565 {W : Bool} {X : List Int32} : y_Snd (mGw W) mLT1 (J2 W X) X cx_565 := y_ok J2_J mTS2_ok1 mTC2_ok1 mRUp_ok1 (List.forall_mem_cons.mpr ⟨sn_553, List.forall_mem_cons.mpr ⟨sn_564, fun _ h => absurd h List.not_mem_nil⟩⟩) ck_565
def cx_566pi_0 (t : List (Int × Int)) : List (Int × Int) := ui0 :: ui194 :: ui194 :: ui194 :: ui194 :: ui194 :: ui194 :: (0, 1) :: t
def cx_566pi_1 (t : List (Int × Int)) : List (Int × Int) := (0, 6) :: ui49 :: ui49 :: ui49 :: ui49 :: ui49 :: ui49 :: ui49 :: t
def cx_566pi_2 (t : List (Int × Int)) : List (Int × Int) := (0, 6) :: t
def cx_566pf_0 (t : List zFa) : List zFa := uF2031 :: uF2278 :: uF2279 :: uF2280 :: uF2281 :: uF2282 :: uF2283 :: (0, (false, 18, 0, []), 0, 0, 0, [(7, 1)]) :: t
def cx_566pf_1 (t : List zFa) : List zFa := uF2266 :: (1, (true, 0, 24, []), 0, 0, 0, [(16, 1)]) :: t
def cx_566p : zS := ((cx_566pi_0 (cx_566pi_1 (cx_566pi_2 []))), [ur1474, ur2027, ur1523], [uL2316], [], [uV2], (cx_566pf_0 (cx_566pf_1 [])), [(85, [uL79, uL131, uL1790]), (237, [uL131, uL163, uL169, uL193, uL212, uL205, uL206, uL207])])
def cx_566q0i_0 (t : List (Int × Int)) : List (Int × Int) := ui0 :: ui1182 :: ui1182 :: ui1182 :: ui1182 :: ui1182 :: ui1182 :: (0, 1) :: t
def cx_566q0i_1 (t : List (Int × Int)) : List (Int × Int) := (0, 6) :: ui49 :: ui49 :: ui49 :: ui49 :: ui49 :: ui49 :: ui49 :: t
def cx_566q0i_2 (t : List (Int × Int)) : List (Int × Int) := (0, 6) :: t
def cx_566q0 : zS := ((cx_566q0i_0 (cx_566q0i_1 (cx_566q0i_2 []))), [ur1474, ur2027, ur1523], [(594, [(1, (-1)), (2, (-1)), (3, (-1)), (4, (-1)), (5, (-1)), (6, (-1))]), uL2317, uL2316], [], [uV2284], [], [(238, [uL65, uL163, uL169, uL193, uL212, uL205, uL206, uL207, uL63, uL210, uL2317])])
/-- M.ropeLong -/
def cx_566 : zCtx := (245, cx_566p, [cx_566q0], [], 30, 0, 0)
set_option maxRecDepth 1000000 in
theorem ck_566 : x_ok mLT1 [] mTS2 mTC2 mRUp cx_566 [] [(47, [1000926, 1000947])] [] (30, []) 0 33 = true := by decide +kernel
theorem sn_566 {W : Bool} {X : List Int32} : y_Snd (mGw W) mLT1 (J2 W X) X cx_566 := y_ok J2_J mTS2_ok1 mTC2_ok1 mRUp_ok1 (fun _ h => absurd h List.not_mem_nil) ck_566
def cx_567pi_0 (t : List (Int × Int)) : List (Int × Int) := ui0 :: ui600 :: (0, 1) :: ui49 :: (0, 1) :: ui438 :: ui31 :: (0, 6) :: t
def cx_567pi_1 (t : List (Int × Int)) : List (Int × Int) := ui49 :: ui49 :: ui194 :: (0, 6) :: ui600 :: t
def cx_567pg_0 (t : List zTg) : List zTg := uG2209 :: uG2260 :: uG2042 :: uG2311 :: uG2312 :: uG2313 :: uG2314 :: uG2318 :: t
def cx_567pg_1 (t : List zTg) : List zTg := uG2319 :: uG2320 :: uG2321 :: t
def cx_567p : zS := ((cx_567pi_0 (cx_567pi_1 [])), (cx_565pr_0 (cx_565pr_1 [])), [uL1224, ((-1), [(10, 1), (12, (-1))])], [], [uV2, uV11], (cx_565pf_0 (cx_565pf_1 (cx_565pf_2 []))), (cx_567pg_0 (cx_567pg_1 [])))
/-- M.haul -/
def cx_567 : zCtx := (248, cx_567p, [([ui0, ui600, (0, 1), ui49, (0, 1), ui438, ui31, (0, 6), ui49, ui49, ui194, (0, 6), ui600], [ur1474, ur1521, ur1522, ur1532, ur1533, ur1534, ur1535, ur1536, ur1530, ur1531, ur1523, ur1635, ur1636, ur1525, ur2027, ur1526], [], [], [uV61], [], [uG2036, uG2037, uG2321])], [uk2038, uk2039, uk2040], 460, 2, 42)
set_option maxRecDepth 1000000 in
theorem ck_567 : x_ok mLT1 [cx_553, cx_564, cx_566] mTS2 mTC2 mRUp cx_567 [(1, [0]), (5, [1]), (12, [2])] [(4, [1000831]), (15, uN2322), (24, uN2323)] [] (15, []) 445 18 = true := by decide +kernel
theorem sn_567 {W : Bool} {X : List Int32} : y_Snd (mGw W) mLT1 (J2 W X) X cx_567 := y_ok J2_J mTS2_ok1 mTC2_ok1 mRUp_ok1 (List.forall_mem_cons.mpr ⟨sn_553, List.forall_mem_cons.mpr ⟨sn_564, List.forall_mem_cons.mpr ⟨sn_566, fun _ h => absurd h List.not_mem_nil⟩⟩⟩) ck_567
def cx_568pi_0 (t : List (Int × Int)) : List (Int × Int) := ui0 :: ui260 :: (0, 1) :: ui49 :: (0, 1) :: ui438 :: ui31 :: (0, 6) :: t
def cx_568pi_1 (t : List (Int × Int)) : List (Int × Int) := (0, 6) :: ui49 :: ui49 :: ui194 :: t
def cx_568p : zS := ((cx_568pi_0 (cx_568pi_1 [])), (cx_565pr_0 (cx_565pr_1 [])), [uL1224], [], [uV2, uV11], (cx_565pf_0 (cx_565pf_1 (cx_565pf_2 []))), (cx_565pg_0 (cx_565pg_1 [])))
/-- M.haul -/
def cx_568 : zCtx := (248, cx_568p, [([ui0, ui260, (0, 1), ui49, (0, 1), ui438, ui31, (0, 6), (0, 6), ui49, ui49, ui194], [ur1474, ur1521, ur1522, ur1532, ur1533, ur1534, ur1535, ur1536, ur1530, ur1531, ur1523, ur1635, ur1636, ur1525, ur2027, ur1526], [], [], [uV61], [], [uG2036, uG2037, uG2184])], [uk2038, uk2039, uk2040], 452, 2, 42)
set_option maxRecDepth 1000000 in
theorem ck_568 : x_ok mLT1 [cx_553, cx_564] mTS2 mTC2 mRUp cx_568 [(1, [0]), (5, [1])] [(4, [1000831])] [] (7, []) 445 10 = true := by decide +kernel
theorem sn_568 {W : Bool} {X : List Int32} : y_Snd (mGw W) mLT1 (J2 W X) X cx_568 := y_ok J2_J mTS2_ok1 mTC2_ok1 mRUp_ok1 (List.forall_mem_cons.mpr ⟨sn_553, List.forall_mem_cons.mpr ⟨sn_564, fun _ h => absurd h List.not_mem_nil⟩⟩) ck_568
def cx_569p : zS := ((cx_525pi_0 (cx_525pi_1 [])), [ur1474, ur1523, ur2027], [uL518, uL9, uL1181], [], [uV2, uV11], [uF2162, uF1638, uF2191, uF2192], [uG2164, uG2193])
/-- M.belowOf -/
def cx_569 : zCtx := (252, cx_569p, [([ui0, (0, 5), (0, 1), (0, 6), ui49, ui49, ui49, ui49, ui49, ui49, ui49, (0, 6), ui788], [ur1474, ur1523, ur2027], [uL518, uL9, uL1181, uL212], [], [uV196], [], [(238, [uL65, uL98, uL104, uL78, uL79, uL131, uL163, uL169, uL109, uL193, uL212])])], [], 130, 0, 0)
def cz_569_0i_0 (t : List (Int × Int)) : List (Int × Int) := ui0 :: (0, 5) :: (0, 1) :: (0, 6) :: ui49 :: ui49 :: ui49 :: ui49 :: t
def cz_569_0i_1 (t : List (Int × Int)) : List (Int × Int) := ui49 :: ui49 :: ui49 :: (0, 6) :: ui788 :: (1, 6) :: t
def cz_569_0 : zS := ((cz_569_0i_0 (cz_569_0i_1 [])), [ur1474, ur1523, ur2027], [uL518, uL9, uL1181, uL212, ((-99), [(1, (-99)), (12, (-1)), (13, 99)]), ((-1), [(1, (-1)), (13, 1)]), (0, [(11, 1), (13, (-1))])], [uV2, uV11, uV196, uV408], [], [uF2162, uF1638, uF2191, uF2192], [uG2164, uG2193, (238, [uL65, uL98, uL104, uL78, uL79, uL131, uL163, uL169, uL109, uL205, uL212])])
set_option maxRecDepth 1000000 in
theorem ck_569 : x_ok mLT1 [] mTS2 mTC2 mRUp cx_569 [] [(2, [1000956]), (35, [1000957]), (36, [1000917])] [(6, cz_569_0, (146, [(13, (-23))]))] (130, []) 0 25 = true := by decide +kernel
theorem sn_569 {W : Bool} {X : List Int32} : y_Snd (mGw W) mLT1 (J2 W X) X cx_569 := y_ok J2_J mTS2_ok1 mTC2_ok1 mRUp_ok1 (fun _ h => absurd h List.not_mem_nil) ck_569
def cx_570pi_0 (t : List (Int × Int)) : List (Int × Int) := ui0 :: ui824 :: (0, 1) :: ui31 :: (0, 6) :: ui49 :: ui49 :: ui49 :: t
def cx_570pi_1 (t : List (Int × Int)) : List (Int × Int) := ui49 :: ui49 :: ui49 :: (0, 6) :: t
def cx_570pf_0 (t : List zFa) : List zFa := uF2162 :: uF1537 :: uF1538 :: uF2169 :: uF2170 :: uF2171 :: uF2172 :: uF2173 :: t
def cx_570pf_1 (t : List zFa) : List zFa := uF1768 :: uF1769 :: uF2174 :: uF2175 :: uF2176 :: uF2062 :: uF2254 :: (14, (true, 0, 24, []), 0, 0, 0, [(11, 1)]) :: t
def cx_570p : zS := ((cx_570pi_0 (cx_570pi_1 [])), (cx_548pr_0 (cx_548pr_1 [])), [uL786, uL9, uL2324], [], [uV2, uV11], (cx_570pf_0 (cx_570pf_1 [])), [uG2209, uG2210, uG2226, uG2227, uG2314, uG2228])
def cx_570q0i_0 (t : List (Int × Int)) : List (Int × Int) := ui0 :: ui824 :: (0, 1) :: ui31 :: (0, 6) :: ui49 :: ui49 :: ui49 :: t
def cx_570q0i_1 (t : List (Int × Int)) : List (Int × Int) := ui49 :: ui49 :: ui49 :: (1, 6) :: ui2325 :: t
def cx_570q0 : zS := ((cx_570q0i_0 (cx_570q0i_1 [])), (cx_548pr_0 (cx_548pr_1 [])), [uL786, uL9, uL2324], [], [uV196], [], [(238, [uL114, uL23, uL104, uL78, uL79, uL131, uL163, uL169, uL9, uL63, uL212])])
/-- M.spareAt -/
def cx_570 : zCtx := (251, cx_570p, [cx_570q0], [uk2205, uk2197, uk2206], 77677, 5, 108)
set_option maxRecDepth 1000000 in
theorem ck_570 : x_ok mLT1 [cx_569, cx_548] mTS2 mTC2 mRUp cx_570 [(32, [0]), (58, [1]), (63, [0])] [(2, [1000023]), (3, [1000731]), (4, [1000952]), (16, [1000679]), (17, [1000953]), (21, [1000954]), (30, [1000955]), (36, [1000958]), (57, [1000954]), (58, [1000961]), (61, [1000962]), (76, [1000963]), (77, [1000959, 1000960])] [] (39, []) 77638 42 = true := by decide +kernel
theorem sn_570 {W : Bool} {X : List Int32} : y_Snd (mGw W) mLT1 (J2 W X) X cx_570 := y_ok J2_J mTS2_ok1 mTC2_ok1 mRUp_ok1 (List.forall_mem_cons.mpr ⟨sn_569, List.forall_mem_cons.mpr ⟨sn_548, fun _ h => absurd h List.not_mem_nil⟩⟩) ck_570
def cx_571pi_0 (t : List (Int × Int)) : List (Int × Int) := ui0 :: ui836 :: (0, 1) :: ui31 :: (0, 6) :: ui49 :: ui49 :: ui49 :: t
def cx_571pi_1 (t : List (Int × Int)) : List (Int × Int) := ui49 :: ui49 :: ui49 :: (0, 6) :: t
def cx_571p : zS := ((cx_571pi_0 (cx_571pi_1 [])), (cx_548pr_0 (cx_548pr_1 [])), [uL786], [], [uV2, uV11], (cx_570pf_0 (cx_570pf_1 [])), [uG2209, uG2210, uG2226, uG2227, uG2314, uG2228])
def cx_571q0i_0 (t : List (Int × Int)) : List (Int × Int) := ui0 :: ui836 :: (0, 1) :: ui31 :: (0, 6) :: ui49 :: ui49 :: ui49 :: t
def cx_571q0i_1 (t : List (Int × Int)) : List (Int × Int) := ui49 :: ui49 :: ui49 :: (1, 6) :: ui824 :: t
def cx_571q0 : zS := ((cx_571q0i_0 (cx_571q0i_1 [])), (cx_548pr_0 (cx_548pr_1 [])), [((-1), [(11, 2), (12, (-1))]), uL786, uL2326], [], [uV196], [], [(238, [uL209, uL23, uL104, uL78, uL79, uL131, uL163, uL169, uL9, uL63, uL212])])
/-- M.breaksAt -/
def cx_571 : zCtx := (250, cx_571p, [cx_571q0, ([ui0, ui836, (0, 1), ui31, (0, 6), ui49, ui49, ui49, ui49, ui49, ui49, (0, 6)], [ur1474, ur1521, ur1522, ur1532, ur1533, ur1534, ur1535, ur1536, ur1530, ur1531, ur1523, ur1635, ur1636, ur1525, ur2027], [uL786], [], [uV61], [], [(238, [uL209, uL23, uL104, uL78, uL79, uL131, uL163, uL169, uL9, uL63, uL99])])], [uk2205, uk2197, uk2206], 78042, 6, 131)
def cz_571_0i_0 (t : List (Int × Int)) : List (Int × Int) := ui0 :: ui836 :: (0, 1) :: ui31 :: (0, 6) :: ui49 :: ui49 :: ui49 :: t
def cz_571_0i_1 (t : List (Int × Int)) : List (Int × Int) := ui49 :: ui49 :: ui49 :: (0, 6) :: ui424 :: t
def cz_571_0g_0 (t : List zTg) : List zTg := uG2209 :: uG2210 :: uG2226 :: uG2227 :: uG2314 :: uG2228 :: (238, [uL540, uL23, uL104, uL78, uL79, uL131, uL163, uL169, uL9, uL212, uL65]) :: t
def cz_571_0 : zS := ((cz_571_0i_0 (cz_571_0i_1 [])), (cx_548pr_0 (cx_548pr_1 [])), [uL786, uL2326], [uV2, uV11, uV196], [], (cx_570pf_0 (cx_570pf_1 [])), (cz_571_0g_0 []))
set_option maxRecDepth 1000000 in
theorem ck_571 : x_ok mLT1 [cx_570] mTS2 mTC2 mRUp cx_571 [(17, [0])] [(1, [1000951]), (21, [1000012]), (24, [1000964]), (26, [1000965]), (32, [1000966])] [(2, cz_571_0, (362, [(12, (-16))]))] (365, []) 77677 18 = true := by decide +kernel
theorem sn_571 {W : Bool} {X : List Int32} : y_Snd (mGw W) mLT1 (J2 W X) X cx_571 := y_ok J2_J mTS2_ok1 mTC2_ok1 mRUp_ok1 (List.forall_mem_cons.mpr ⟨sn_570, fun _ h => absurd h List.not_mem_nil⟩) ck_571
def cx_572pi_0 (t : List (Int × Int)) : List (Int × Int) := ui0 :: ui600 :: (0, 1) :: ui49 :: (0, 1) :: ui437 :: ui31 :: (0, 6) :: t
def cx_572pi_1 (t : List (Int × Int)) : List (Int × Int) := (0, 6) :: ui49 :: ui49 :: ui194 :: (0, 6) :: ui600 :: ui847 :: ui437 :: t
def cx_572pr_0 (t : List (Nat × Bool)) : List (Nat × Bool) := ur1474 :: ur1521 :: ur1522 :: ur1532 :: ur1533 :: ur1534 :: ur1535 :: ur1536 :: t
def cx_572pr_1 (t : List (Nat × Bool)) : List (Nat × Bool) := ur1530 :: ur1531 :: ur1523 :: ur1635 :: ur1636 :: ur1525 :: ur2027 :: ur1526 :: t
def cx_572pr_2 (t : List (Nat × Bool)) : List (Nat × Bool) := ur2272 :: ur2047 :: t
def cx_572pf_0 (t : List zFa) : List zFa := uF2162 :: uF2263 :: uF2264 :: uF2265 :: uF1537 :: uF1538 :: uF2169 :: uF2170 :: t
def cx_572pf_1 (t : List zFa) : List zFa := uF2171 :: uF2172 :: uF2173 :: uF1768 :: uF1769 :: uF2174 :: uF2175 :: uF2176 :: t
def cx_572pf_2 (t : List zFa) : List zFa := uF2062 :: uF2254 :: uF2310 :: (0, (false, 54, 0, []), 2, 16, 0, []) :: (0, (false, 47, 0, []), 2, 17, 0, []) :: t
def cx_572pg_0 (t : List zTg) : List zTg := uG2209 :: uG2260 :: uG2042 :: uG2311 :: uG2312 :: uG2313 :: uG2314 :: uG2315 :: t
def cx_572pg_1 (t : List zTg) : List zTg := uG2327 :: uG2328 :: uG2329 :: uG2330 :: uG2331 :: (244, [uL79, uL207, uL104, uL63, uL2289]) :: t
def cx_572p : zS := ((cx_572pi_0 (cx_572pi_1 [])), (cx_572pr_0 (cx_572pr_1 (cx_572pr_2 []))), [uL1224, uL2332, uL2290], [], [uV2, uV11], (cx_572pf_0 (cx_572pf_1 (cx_572pf_2 []))), (cx_572pg_0 (cx_572pg_1 [])))
def cx_572q0 : zS := ((cx_572pi_0 (cx_572pi_1 [])), (cx_572pr_0 (cx_572pr_1 (cx_572pr_2 []))), [], [], [uV144], [uF2291], [uG2042, uG2043, uG2260, uG2292, uG2036, uG2184, (242, [uL79, uL207, uL203, uL63])])
/-- M.haul -/
def cx_572 : zCtx := (248, cx_572p, [cx_572q0], kc_80, 78073, 7, 153)
set_option maxRecDepth 1000000 in
theorem ck_572 : x_ok mLT1 [cx_553, cx_564, cx_566, cx_571, cx_561, cx_555] mTS2 mTC2 mRUp cx_572 [(1, [0]), (5, [1]), (12, [2]), (31, [3]), (57, [4]), (61, [5])] [(4, [1000831]), (15, uN2322), (24, uN2323), (29, [1000843]), (34, [1000967]), (56, [1000023]), (57, uN2333), (71, [1000866])] [] (31, []) 78042 34 = true := by decide +kernel
theorem sn_572 {W : Bool} {X : List Int32} : y_Snd (mGw W) mLT1 (J2 W X) X cx_572 := y_ok J2_J mTS2_ok1 mTC2_ok1 mRUp_ok1 (List.forall_mem_cons.mpr ⟨sn_553, List.forall_mem_cons.mpr ⟨sn_564, List.forall_mem_cons.mpr ⟨sn_566, List.forall_mem_cons.mpr ⟨sn_571, List.forall_mem_cons.mpr ⟨sn_561, List.forall_mem_cons.mpr ⟨sn_555, fun _ h => absurd h List.not_mem_nil⟩⟩⟩⟩⟩⟩) ck_572
def cx_573pi_0 (t : List (Int × Int)) : List (Int × Int) := ui0 :: ui600 :: (0, 1) :: ui49 :: (0, 1) :: ui776 :: ui31 :: (0, 6) :: t
def cx_573pi_1 (t : List (Int × Int)) : List (Int × Int) := (0, 6) :: ui49 :: ui49 :: ui194 :: (0, 6) :: ui600 :: ui847 :: ui437 :: t
def cx_573pg_0 (t : List zTg) : List zTg := uG2209 :: uG2260 :: uG2042 :: uG2311 :: uG2312 :: uG2313 :: uG2314 :: uG2315 :: t
def cx_573pg_1 (t : List zTg) : List zTg := uG2327 :: uG2328 :: uG2329 :: uG2330 :: uG2331 :: (244, [uL79, uL207, uL625, uL65, uL773]) :: t
def cx_573p : zS := ((cx_573pi_0 (cx_573pi_1 [])), (cx_572pr_0 (cx_572pr_1 (cx_572pr_2 []))), [uL1224, uL2332, uL2298, uL2299], [], [uV2, uV11], (cx_572pf_0 (cx_572pf_1 (cx_572pf_2 []))), (cx_573pg_0 (cx_573pg_1 [])))
def cx_573q0 : zS := ((cx_573pi_0 (cx_573pi_1 [])), (cx_572pr_0 (cx_572pr_1 (cx_572pr_2 []))), [], [], [uV144], [uF2296], [uG2042, uG2043, uG2260, uG2297, uG2036, uG2184, (242, [uL79, uL207, uL624, uL63])])
/-- M.haul -/
def cx_573 : zCtx := (248, cx_573p, [cx_573q0], kc_80, 1305426, 7, 153)
set_option maxRecDepth 1000000 in
theorem ck_573 : x_ok mLT1 [cx_553, cx_564, cx_566, cx_571, cx_561, cx_558] mTS2 mTC2 mRUp cx_573 [(1, [0]), (5, [1]), (12, [2]), (31, [3]), (57, [4]), (61, [5])] [(4, [1000831]), (15, uN2322), (24, uN2323), (29, [1000843]), (34, [1000967]), (56, [1000023]), (57, uN2333), (71, [1000866])] [] (31, []) 1305395 34 = true := by decide +kernel
theorem sn_573 {W : Bool} {X : List Int32} : y_Snd (mGw W) mLT1 (J2 W X) X cx_573 := y_ok J2_J mTS2_ok1 mTC2_ok1 mRUp_ok1 (List.forall_mem_cons.mpr ⟨sn_553, List.forall_mem_cons.mpr ⟨sn_564, List.forall_mem_cons.mpr ⟨sn_566, List.forall_mem_cons.mpr ⟨sn_571, List.forall_mem_cons.mpr ⟨sn_561, List.forall_mem_cons.mpr ⟨sn_558, fun _ h => absurd h List.not_mem_nil⟩⟩⟩⟩⟩⟩) ck_573
def cx_574pi_0 (t : List (Int × Int)) : List (Int × Int) := ui0 :: ui600 :: (0, 1) :: ui49 :: (0, 1) :: ui437 :: ui31 :: (0, 6) :: t
def cx_574pi_1 (t : List (Int × Int)) : List (Int × Int) := ui49 :: ui49 :: ui194 :: (0, 6) :: ui600 :: ui437 :: t
def cx_574pg_0 (t : List zTg) : List zTg := uG2209 :: uG2260 :: uG2042 :: uG2311 :: uG2312 :: uG2313 :: uG2314 :: uG2318 :: t
def cx_574pg_1 (t : List zTg) : List zTg := uG2319 :: uG2320 :: uG2334 :: uG2335 :: uG2336 :: t
def cx_574p : zS := ((cx_574pi_0 (cx_574pi_1 [])), (cx_572pr_0 (cx_572pr_1 (cx_572pr_2 []))), [uL1224, uL2337, uL2290], [], [uV2, uV11], (cx_572pf_0 (cx_572pf_1 (cx_572pf_2 []))), (cx_574pg_0 (cx_574pg_1 [])))
def cx_574q0 : zS := ((cx_574pi_0 (cx_574pi_1 [])), (cx_572pr_0 (cx_572pr_1 (cx_572pr_2 []))), [], [], [uV873], [uF2291], [uG2042, uG2043, uG2260, uG2292, uG2036, uG2037, uG2321, uG2338])
/-- M.haul -/
def cx_574 : zCtx := (248, cx_574p, [cx_574q0], kc_80, 78077, 7, 153)
set_option maxRecDepth 1000000 in
theorem ck_574 : x_ok mLT1 [cx_553, cx_564, cx_566, cx_571, cx_555] mTS2 mTC2 mRUp cx_574 [(1, [0]), (5, [1]), (12, [2]), (31, [3]), (61, [4])] [(4, [1000831]), (15, uN2322), (24, uN2323), (29, [1000843]), (34, [1000967]), (39, uN2339), (48, [1000637]), (50, [1000973]), (71, [1000866])] [] (35, []) 78042 38 = true := by decide +kernel
theorem sn_574 {W : Bool} {X : List Int32} : y_Snd (mGw W) mLT1 (J2 W X) X cx_574 := y_ok J2_J mTS2_ok1 mTC2_ok1 mRUp_ok1 (List.forall_mem_cons.mpr ⟨sn_553, List.forall_mem_cons.mpr ⟨sn_564, List.forall_mem_cons.mpr ⟨sn_566, List.forall_mem_cons.mpr ⟨sn_571, List.forall_mem_cons.mpr ⟨sn_555, fun _ h => absurd h List.not_mem_nil⟩⟩⟩⟩⟩) ck_574
def cx_575pi_0 (t : List (Int × Int)) : List (Int × Int) := ui0 :: ui600 :: (0, 1) :: ui49 :: (0, 1) :: ui776 :: ui31 :: (0, 6) :: t
def cx_575pi_1 (t : List (Int × Int)) : List (Int × Int) := ui49 :: ui49 :: ui194 :: (0, 6) :: ui600 :: ui437 :: t
def cx_575pg_0 (t : List zTg) : List zTg := uG2209 :: uG2260 :: uG2042 :: uG2311 :: uG2312 :: uG2313 :: uG2314 :: uG2318 :: t
def cx_575pg_1 (t : List zTg) : List zTg := uG2319 :: uG2320 :: uG2334 :: uG2335 :: uG2340 :: t
def cx_575p : zS := ((cx_575pi_0 (cx_575pi_1 [])), (cx_572pr_0 (cx_572pr_1 (cx_572pr_2 []))), [uL1224, uL2337, uL2298, uL2299], [], [uV2, uV11], (cx_572pf_0 (cx_572pf_1 (cx_572pf_2 []))), (cx_575pg_0 (cx_575pg_1 [])))
def cx_575q0 : zS := ((cx_575pi_0 (cx_575pi_1 [])), (cx_572pr_0 (cx_572pr_1 (cx_572pr_2 []))), [], [], [uV873], [uF2296], [uG2042, uG2043, uG2260, uG2297, uG2036, uG2037, uG2321, uG2341])
/-- M.haul -/
def cx_575 : zCtx := (248, cx_575p, [cx_575q0], kc_80, 1305430, 7, 153)
set_option maxRecDepth 1000000 in
theorem ck_575 : x_ok mLT1 [cx_553, cx_564, cx_566, cx_571, cx_558] mTS2 mTC2 mRUp cx_575 [(1, [0]), (5, [1]), (12, [2]), (31, [3]), (61, [4])] [(4, [1000831]), (15, uN2322), (24, uN2323), (29, [1000843]), (34, [1000967]), (39, uN2339), (48, [1000637]), (50, [1000973]), (71, [1000866])] [] (35, []) 1305395 38 = true := by decide +kernel
theorem sn_575 {W : Bool} {X : List Int32} : y_Snd (mGw W) mLT1 (J2 W X) X cx_575 := y_ok J2_J mTS2_ok1 mTC2_ok1 mRUp_ok1 (List.forall_mem_cons.mpr ⟨sn_553, List.forall_mem_cons.mpr ⟨sn_564, List.forall_mem_cons.mpr ⟨sn_566, List.forall_mem_cons.mpr ⟨sn_571, List.forall_mem_cons.mpr ⟨sn_558, fun _ h => absurd h List.not_mem_nil⟩⟩⟩⟩⟩) ck_575
/-- M.isLong -/
def cx_576 : zCtx := (254, ([ui0, ui49], [], [], [], [uV11], [], []), [([ui0, ui260], [], [], [], [uV62], [], []), ([ui0, ui871], [], [], [], [uV62], [], []), ([ui0, ui1289], [], [], [], [uV64], [], [])], [], 14, 1, 22)
set_option maxRecDepth 1000000 in
theorem ck_576 : x_ok mLT1 [cx_514] mTS2 mTC2 mRUp cx_576 [(4, [0])] [] [] (5, []) 9 8 = true := by decide +kernel
theorem sn_576 {W : Bool} {X : List Int32} : y_Snd (mGw W) mLT1 (J2 W X) X cx_576 := y_ok J2_J mTS2_ok1 mTC2_ok1 mRUp_ok1 (List.forall_mem_cons.mpr ⟨sn_514, fun _ h => absurd h List.not_mem_nil⟩) ck_576
def cx_577pi_0 (t : List (Int × Int)) : List (Int × Int) := ui0 :: ui871 :: (0, 1) :: ui49 :: (0, 1) :: ui438 :: ui31 :: (0, 6) :: t
def cx_577pi_1 (t : List (Int × Int)) : List (Int × Int) := (0, 6) :: ui49 :: ui49 :: t
def cx_577pr_0 (t : List (Nat × Bool)) : List (Nat × Bool) := ur1474 :: ur1521 :: ur1522 :: ur1532 :: ur1533 :: ur1534 :: ur1535 :: ur1536 :: t
def cx_577pr_1 (t : List (Nat × Bool)) : List (Nat × Bool) := ur1530 :: ur1531 :: ur1523 :: ur1635 :: ur1636 :: ur2027 :: ur2047 :: t
def cx_577pf_0 (t : List zFa) : List zFa := uF2162 :: uF2263 :: uF2264 :: uF2265 :: uF1537 :: uF1538 :: uF2169 :: uF2170 :: t
def cx_577pf_1 (t : List zFa) : List zFa := uF2171 :: uF2172 :: uF2173 :: uF1768 :: uF1769 :: uF2174 :: uF2175 :: uF2176 :: t
def cx_577pf_2 (t : List zFa) : List zFa := uF2177 :: uF2342 :: t
def cx_577p : zS := ((cx_577pi_0 (cx_577pi_1 [])), (cx_577pr_0 (cx_577pr_1 [])), [uL1224], [], [uV2, uV11], (cx_577pf_0 (cx_577pf_1 (cx_577pf_2 []))), [uG2209, uG2260, uG2042, uG2311, uG2312, uG2313, uG2184])
/-- M.years -/
def cx_577 : zCtx := (253, cx_577p, [([ui0, ui871, (0, 1), ui49, (0, 1), ui438, ui31, (0, 6), (0, 6), ui49, ui49], [ur1474, ur1521, ur1522, ur1532, ur1533, ur1534, ur1535, ur1536, ur1530, ur1531, ur1523, ur1635, ur1636, ur2027, ur2047], [], [], [uV61], [], [uG2184])], [], 19, 2, 42)
set_option maxRecDepth 1000000 in
theorem ck_577 : x_ok mLT1 [cx_576] mTS2 mTC2 mRUp cx_577 [(1, [0])] [] [] (5, []) 14 8 = true := by decide +kernel
theorem sn_577 {W : Bool} {X : List Int32} : y_Snd (mGw W) mLT1 (J2 W X) X cx_577 := y_ok J2_J mTS2_ok1 mTC2_ok1 mRUp_ok1 (List.forall_mem_cons.mpr ⟨sn_576, fun _ h => absurd h List.not_mem_nil⟩) ck_577
def cx_578pi_0 (t : List (Int × Int)) : List (Int × Int) := ui0 :: ui260 :: (0, 1) :: ui49 :: (0, 1) :: ui438 :: ui31 :: (0, 6) :: t
def cx_578pi_1 (t : List (Int × Int)) : List (Int × Int) := (0, 6) :: ui49 :: ui49 :: t
def cx_578p : zS := ((cx_578pi_0 (cx_578pi_1 [])), (cx_577pr_0 (cx_577pr_1 [])), [uL1224], [], [uV2, uV11], (cx_577pf_0 (cx_577pf_1 (cx_577pf_2 []))), [uG2209, uG2260, uG2042, uG2311, uG2312, uG2313, uG2184])
/-- M.years -/
def cx_578 : zCtx := (253, cx_578p, [([ui0, ui260, (0, 1), ui49, (0, 1), ui438, ui31, (0, 6), (0, 6), ui49, ui49], [ur1474, ur1521, ur1522, ur1532, ur1533, ur1534, ur1535, ur1536, ur1530, ur1531, ur1523, ur1635, ur1636, ur2027, ur2047], [], [], [uV61], [], [uG2184])], [], 19, 2, 42)
set_option maxRecDepth 1000000 in
theorem ck_578 : x_ok mLT1 [cx_576] mTS2 mTC2 mRUp cx_578 [(1, [0])] [] [] (5, []) 14 8 = true := by decide +kernel
theorem sn_578 {W : Bool} {X : List Int32} : y_Snd (mGw W) mLT1 (J2 W X) X cx_578 := y_ok J2_J mTS2_ok1 mTC2_ok1 mRUp_ok1 (List.forall_mem_cons.mpr ⟨sn_576, fun _ h => absurd h List.not_mem_nil⟩) ck_578
def cx_579pi_0 (t : List (Int × Int)) : List (Int × Int) := ui0 :: (0, 0) :: (0, 1) :: ui49 :: (0, 1) :: ui438 :: ui31 :: (0, 6) :: t
def cx_579pi_1 (t : List (Int × Int)) : List (Int × Int) := (0, 6) :: ui49 :: ui49 :: t
def cx_579p : zS := ((cx_579pi_0 (cx_579pi_1 [])), (cx_577pr_0 (cx_577pr_1 [])), [uL1224], [], [uV2, uV11], (cx_577pf_0 (cx_577pf_1 (cx_577pf_2 []))), [uG2209, uG2260, uG2042, uG2311, uG2312, uG2313, uG2184])
/-- M.years -/
def cx_579 : zCtx := (253, cx_579p, [([ui0, (0, 0), (0, 1), ui49, (0, 1), ui438, ui31, (0, 6), (0, 6), ui49, ui49], [ur1474, ur1521, ur1522, ur1532, ur1533, ur1534, ur1535, ur1536, ur1530, ur1531, ur1523, ur1635, ur1636, ur2027, ur2047], [], [], [uV799], [], [uG2184])], [], 24, 2, 42)
set_option maxRecDepth 1000000 in
theorem ck_579 : x_ok mLT1 [cx_576] mTS2 mTC2 mRUp cx_579 [(1, [0])] [(20, [1000991])] [] (10, []) 14 13 = true := by decide +kernel
theorem sn_579 {W : Bool} {X : List Int32} : y_Snd (mGw W) mLT1 (J2 W X) X cx_579 := y_ok J2_J mTS2_ok1 mTC2_ok1 mRUp_ok1 (List.forall_mem_cons.mpr ⟨sn_576, fun _ h => absurd h List.not_mem_nil⟩) ck_579
/-- M.mixed -/
def cx_580 : zCtx := (259, ([ui0, ui49, ui49], [], [], [], [uV11, uV12], [], []), [([ui0, ui49, ui49, ui49], [], [], [], [uV58], [], [uG858])], [], 14, 0, 0)
set_option maxRecDepth 1000000 in
theorem ck_580 : x_ok mLT1 [] mTS2 mTC2 mRUp cx_580 [] [(2, [1000717]), (6, [1000639]), (10, [1000637]), (16, [1000421]), (17, [1000717]), (18, [1000718])] [] (14, []) 0 17 = true := by decide +kernel
theorem sn_580 {W : Bool} {X : List Int32} : y_Snd (mGw W) mLT1 (J2 W X) X cx_580 := y_ok J2_J mTS2_ok1 mTC2_ok1 mRUp_ok1 (fun _ h => absurd h List.not_mem_nil) ck_580
/-- M.lotOf -/
def cx_581 : zCtx := (258, ([ui0, ui49, ui1359], [ur1474], [], [], [uV2, uV11], [uF2029], []), [([ui0, ui49, ui1359, ui537], [ur1474], [], [], [uV58], [], [(255, [uL67, uL9, uL23])])], [], 25, 1, 22)
set_option maxRecDepth 1000000 in
theorem ck_581 : x_ok mLT1 [cx_580] mTS2 mTC2 mRUp cx_581 [(7, [0]), (11, [0])] [(15, [1000421]), (18, [1000679]), (19, [1000743])] [] (11, []) 14 14 = true := by decide +kernel
theorem sn_581 {W : Bool} {X : List Int32} : y_Snd (mGw W) mLT1 (J2 W X) X cx_581 := y_ok J2_J mTS2_ok1 mTC2_ok1 mRUp_ok1 (List.forall_mem_cons.mpr ⟨sn_580, fun _ h => absurd h List.not_mem_nil⟩) ck_581
def cx_582pi_0 (t : List (Int × Int)) : List (Int × Int) := ui0 :: (0, 5) :: (0, 1) :: ui1359 :: (0, 6) :: ui49 :: ui194 :: ui49 :: t
def cx_582pi_1 (t : List (Int × Int)) : List (Int × Int) := ui49 :: ui49 :: ui49 :: t
def cx_582p : zS := ((cx_582pi_0 (cx_582pi_1 [])), [ur1474, ur1523, ur2027, ur1528], [uL786, uL9, uL579], [], [uV2, uV11], [uF2162, uF2263, uF1638, uF2191, uF2034, (0, (false, 29, 0, []), 2, 3, 0, []), (3, (true, 0, 0, [(2, 1)]), 0, 0, 0, [(6, 1)])], [uG2226, (237, [uL98, uL104, uL78, uL23, uL79, uL131, uL163, uL169])])
/-- M.isBlighted -/
def cx_582 : zCtx := (257, cx_582p, [([ui0, (0, 5), (0, 1), ui1359, (0, 6), ui49, ui2190, ui49, ui49, ui49, ui49], [ur1474, ur1523, ur2027, ur1528], [uL786, uL9, uL579], [], [uV64], [], [(238, [uL665, uL104, uL78, uL23, uL79, uL131, uL163, uL169, uL9, uL63, uL65])]), ([ui0, (0, 5), (0, 1), ui1359, (0, 6), ui49, ui537, ui49, ui49, ui49, ui49], [ur1474, ur1523, ur2027, ur1528], [uL786, uL9, uL579], [], [uV62], [], [(238, [uL665, uL104, uL78, uL23, uL79, uL131, uL163, uL169, uL9, uL63, uL63])])], [], 47, 2, 43)
set_option maxRecDepth 1000000 in
theorem ck_582 : x_ok mLT1 [cx_581] mTS2 mTC2 mRUp cx_582 [(20, [0])] [(17, [1000849, 1000639]), (19, [1000637]), (35, [1001001]), (39, [1001002])] [] (22, []) 25 25 = true := by decide +kernel
theorem sn_582 {W : Bool} {X : List Int32} : y_Snd (mGw W) mLT1 (J2 W X) X cx_582 := y_ok J2_J mTS2_ok1 mTC2_ok1 mRUp_ok1 (List.forall_mem_cons.mpr ⟨sn_581, fun _ h => absurd h List.not_mem_nil⟩) ck_582
def cx_583pr_0 (t : List (Nat × Bool)) : List (Nat × Bool) := ur1474 :: ur1521 :: ur1522 :: ur1532 :: ur1533 :: ur1534 :: ur1535 :: ur1536 :: t
def cx_583pr_1 (t : List (Nat × Bool)) : List (Nat × Bool) := ur1530 :: ur1531 :: ur1523 :: ur1635 :: ur1636 :: ur2027 :: ur1528 :: ur2343 :: t
def cx_583pr_2 (t : List (Nat × Bool)) : List (Nat × Bool) := ur2344 :: t
def cx_583pf_0 (t : List zFa) : List zFa := uF2028 :: uF2029 :: uF1537 :: uF1538 :: uF2169 :: uF2170 :: uF2171 :: uF2172 :: t
def cx_583pf_1 (t : List zFa) : List zFa := uF2173 :: uF1768 :: uF1769 :: uF2174 :: uF2175 :: uF2176 :: uF2177 :: uF2034 :: t
def cx_583pf_2 (t : List zFa) : List zFa := uF2345 :: uF2346 :: uF2347 :: uF2348 :: (10, (true, 0, 0, [(1, 1)]), 0, 0, 0, [(7, 1)]) :: t
def cx_583p : zS := ([ui0, (0, 1), ui194, ui31, (0, 6), ui194, ui836, (0, 6)], (cx_583pr_0 (cx_583pr_1 (cx_583pr_2 []))), [uL786], [], [uV2], (cx_583pf_0 (cx_583pf_1 (cx_583pf_2 []))), [uG2349, uG2036, uG2350, uG2351, uG2352, uG2353])
/-- M.yearGoes -/
def cx_583 : zCtx := (256, cx_583p, [([ui0, (0, 1), ui194, ui31, (0, 6), ui194, ui836, (0, 6)], [ur1474, ur1521, ur1522, ur1532, ur1533, ur1534, ur1535, ur1536, ur1530, ur1531, ur1523, ur1635, ur1636, ur2027, ur1528, ur2343, ur2344], [uL786], [], [], [uF2346], [uG2036, uG2354])], [uk2205, uk2197, uk2206, uk2040, uk2355, uk2356], 78112, 4, 84)
def cq_583 : List zCtx := [cx_534, cx_537, cx_582, cx_533, cx_524]
def cs_583 : List (Nat × List Nat) := [(22, [0]), (33, [1]), (65, [2]), (98, [3]), (104, [4]), (137, [3])]
def hs_583 : List (Nat × List Nat) := [(1, [1000995]), (15, [1000463]), (37, [1000996]), (43, [1000462]), (58, [1000463]), (62, uN2357), (78, [1000023]), (79, uN2358), (101, uN2359), (140, uN2360), (141, uN2361), (147, uN2362), (156, [1000637]), (158, [1001011])]
def nd_583_0pi_0 (t : List (Int × Int)) : List (Int × Int) := ui0 :: (0, 1) :: ui194 :: ui31 :: (0, 6) :: ui194 :: ui836 :: (0, 6) :: t
def nd_583_0pi_1 (t : List (Int × Int)) : List (Int × Int) := (0, 6) :: t
def nd_583_0pf_0 (t : List zFa) : List zFa := uF2028 :: uF2029 :: uF1537 :: uF1538 :: uF2169 :: uF2170 :: uF2171 :: uF2172 :: t
def nd_583_0pf_1 (t : List zFa) : List zFa := uF2173 :: uF1768 :: uF1769 :: uF2174 :: uF2175 :: uF2176 :: uF2177 :: uF2034 :: t
def nd_583_0pf_2 (t : List zFa) : List zFa := uF2345 :: uF2346 :: uF2347 :: uF2348 :: t
def nd_583_0pg_0 (t : List zTg) : List zTg := uG2349 :: uG2036 :: uG2350 :: uG2351 :: uG2352 :: uG2353 :: uG2363 :: t
def nd_583_0p : zS := ((nd_583_0pi_0 (nd_583_0pi_1 [])), (cx_583pr_0 (cx_583pr_1 (cx_583pr_2 []))), [uL786, uL2364], [uV2, uV144], [], (nd_583_0pf_0 (nd_583_0pf_1 (nd_583_0pf_2 []))), (nd_583_0pg_0 []))
def nd_583_0 : zN := (2, nd_583_0p, uL2365)
def nd_583_1pg_0 (t : List zTg) : List zTg := uG2349 :: uG2036 :: uG2350 :: uG2351 :: uG2352 :: uG2366 :: uG2367 :: t
def nd_583_1p : zS := ((nd_583_0pi_0 (nd_583_0pi_1 [])), (cx_583pr_0 (cx_583pr_1 (cx_583pr_2 []))), [uL786, uL2364], [uV2, uV144], [], (nd_583_0pf_0 (nd_583_0pf_1 (nd_583_0pf_2 []))), (nd_583_1pg_0 []))
def nd_583_1 : zN := (45, nd_583_1p, uL2368)
def ns_583 : List zN := [nd_583_0, nd_583_1]
set_option maxRecDepth 1000000 in
theorem ca_583 : x_okA mLT1 cq_583 mTS2 mTC2 mRUp cx_583 cs_583 hs_583 ns_583 (497, []) 77615 56 = true := by decide +kernel
set_option maxRecDepth 1000000 in
theorem cb_583_0 : x_okB mLT1 cq_583 mTS2 mTC2 mRUp cx_583 cs_583 hs_583 ns_583 (497, []) 77615 56 nd_583_0 = true := by decide +kernel
set_option maxRecDepth 1000000 in
theorem cb_583_1 : x_okB mLT1 cq_583 mTS2 mTC2 mRUp cx_583 cs_583 hs_583 ns_583 (497, []) 77615 56 nd_583_1 = true := by decide +kernel
set_option maxRecDepth 1000000 in
theorem cc_583 : x_okC mLT1 cq_583 mTS2 mTC2 mRUp cx_583 cs_583 hs_583 ns_583 (497, []) 77615 56 = true := by decide +kernel
theorem ck_583 : x_ok mLT1 cq_583 mTS2 mTC2 mRUp cx_583 cs_583 hs_583 ns_583 (497, []) 77615 56 = true := x_ok_of ca_583 (List.forall_mem_cons.mpr ⟨cb_583_0, List.forall_mem_cons.mpr ⟨cb_583_1, fun _ h => absurd h List.not_mem_nil⟩⟩) cc_583
theorem sn_583 {W : Bool} {X : List Int32} : y_Snd (mGw W) mLT1 (J2 W X) X cx_583 := y_ok J2_J mTS2_ok1 mTC2_ok1 mRUp_ok1 (List.forall_mem_cons.mpr ⟨sn_534, List.forall_mem_cons.mpr ⟨sn_537, List.forall_mem_cons.mpr ⟨sn_582, List.forall_mem_cons.mpr ⟨sn_533, List.forall_mem_cons.mpr ⟨sn_524, fun _ h => absurd h List.not_mem_nil⟩⟩⟩⟩⟩) ck_583
def cx_584pf_0 (t : List zFa) : List zFa := uF2162 :: uF2263 :: uF1537 :: uF1538 :: uF2169 :: uF2170 :: uF2171 :: uF2172 :: t
def cx_584pf_1 (t : List zFa) : List zFa := uF2173 :: uF1768 :: uF1769 :: uF2174 :: uF2175 :: uF2176 :: uF2177 :: uF2034 :: t
def cx_584pf_2 (t : List zFa) : List zFa := uF2345 :: uF2369 :: uF2347 :: uF2348 :: (10, (true, 0, 0, [(2, 1)]), 0, 0, 0, [(7, 1)]) :: t
def cx_584p : zS := ([ui0, ui876, (0, 1), ui194, ui31, (0, 6), ui194, (0, 6)], (cx_583pr_0 (cx_583pr_1 (cx_583pr_2 []))), [uL592, uL9], [], [uV2, uV11], (cx_584pf_0 (cx_584pf_1 (cx_584pf_2 []))), [uG2209, uG2036, uG2370, uG2371, uG2372, uG2373])
/-- M.goes -/
def cx_584 : zCtx := (255, cx_584p, [([ui0, ui876, (0, 1), ui194, ui31, (0, 6), ui194, (0, 6)], [ur1474, ur1521, ur1522, ur1532, ur1533, ur1534, ur1535, ur1536, ur1530, ur1531, ur1523, ur1635, ur1636, ur2027, ur1528, ur2343, ur2344], [uL592, uL9], [], [], [uF2369], [uG2036, uG2374])], [uk2205, uk2197, uk2206, uk2040, uk2355, uk2356], 78623, 5, 105)
def cz_584_0i_0 (t : List (Int × Int)) : List (Int × Int) := ui0 :: ui876 :: (0, 1) :: ui194 :: ui31 :: (0, 6) :: ui194 :: (0, 6) :: t
def cz_584_0i_1 (t : List (Int × Int)) : List (Int × Int) := ui877 :: t
def cz_584_0f_0 (t : List zFa) : List zFa := uF2162 :: uF2263 :: uF1537 :: uF1538 :: uF2169 :: uF2170 :: uF2171 :: uF2172 :: t
def cz_584_0f_1 (t : List zFa) : List zFa := uF2173 :: uF1768 :: uF1769 :: uF2174 :: uF2175 :: uF2176 :: uF2177 :: uF2034 :: t
def cz_584_0f_2 (t : List zFa) : List zFa := uF2345 :: uF2369 :: uF2347 :: uF2348 :: t
def cz_584_0 : zS := ((cz_584_0i_0 (cz_584_0i_1 [])), (cx_583pr_0 (cx_583pr_1 (cx_583pr_2 []))), [uL592, uL9, uL2375], [uV2, uV11, uV144], [], (cz_584_0f_0 (cz_584_0f_1 (cz_584_0f_2 []))), [uG2209, uG2036, uG2370, uG2371, uG2372, uG2376])
set_option maxRecDepth 1000000 in
theorem ck_584 : x_ok mLT1 [cx_583] mTS2 mTC2 mRUp cx_584 [(8, [0])] [] [(2, cz_584_0, (508, [(8, (-8))]))] (511, []) 78112 10 = true := by decide +kernel
theorem sn_584 {W : Bool} {X : List Int32} : y_Snd (mGw W) mLT1 (J2 W X) X cx_584 := y_ok J2_J mTS2_ok1 mTC2_ok1 mRUp_ok1 (List.forall_mem_cons.mpr ⟨sn_583, fun _ h => absurd h List.not_mem_nil⟩) ck_584
def cx_585pi_0 (t : List (Int × Int)) : List (Int × Int) := ui0 :: ui876 :: (0, 1) :: ui49 :: (0, 1) :: ui437 :: ui31 :: (0, 6) :: t
def cx_585pi_1 (t : List (Int × Int)) : List (Int × Int) := (0, 6) :: ui49 :: ui49 :: ui194 :: ui194 :: ui437 :: (0, 6) :: t
def cx_585pr_0 (t : List (Nat × Bool)) : List (Nat × Bool) := ur1474 :: ur1521 :: ur1522 :: ur1532 :: ur1533 :: ur1534 :: ur1535 :: ur1536 :: t
def cx_585pr_1 (t : List (Nat × Bool)) : List (Nat × Bool) := ur1530 :: ur1531 :: ur1523 :: ur1635 :: ur1636 :: ur2027 :: ur2047 :: ur1528 :: t
def cx_585pr_2 (t : List (Nat × Bool)) : List (Nat × Bool) := ur1529 :: ur2272 :: ur2343 :: ur2344 :: t
def cx_585pf_0 (t : List zFa) : List zFa := uF2162 :: uF2263 :: uF2264 :: uF2265 :: uF1537 :: uF1538 :: uF2169 :: uF2170 :: t
def cx_585pf_1 (t : List zFa) : List zFa := uF2171 :: uF2172 :: uF2173 :: uF1768 :: uF1769 :: uF2174 :: uF2175 :: uF2176 :: t
def cx_585pf_2 (t : List zFa) : List zFa := uF2177 :: uF2342 :: uF2377 :: uF2378 :: (0, (false, 54, 0, []), 2, 17, 0, []) :: (0, (false, 51, 0, []), 2, 18, 0, []) :: (0, (false, 52, 0, []), 2, 19, 0, []) :: (10, (true, 0, 0, [(2, 1)]), 0, 0, 0, [(14, 1)]) :: t
def cx_585pg_0 (t : List zTg) : List zTg := uG2209 :: uG2260 :: uG2042 :: uG2311 :: uG2312 :: uG2313 :: uG2379 :: uG2380 :: t
def cx_585pg_1 (t : List zTg) : List zTg := uG2381 :: uG2336 :: t
def cx_585p : zS := ((cx_585pi_0 (cx_585pi_1 [])), (cx_585pr_0 (cx_585pr_1 (cx_585pr_2 []))), [uL1224, uL2290], [], [uV2, uV11], (cx_585pf_0 (cx_585pf_1 (cx_585pf_2 []))), (cx_585pg_0 (cx_585pg_1 [])))
def cx_585q0 : zS := ((cx_585pi_0 (cx_585pi_1 [])), (cx_585pr_0 (cx_585pr_1 (cx_585pr_2 []))), [], [], [uV799], [uF2291], [uG2042, uG2043, uG2260, uG2292, uG2036, uG2184, uG2338])
/-- M.years -/
def cx_585 : zCtx := (253, cx_585p, [cx_585q0], kc_81, 78640, 6, 127)
set_option maxRecDepth 1000000 in
theorem ck_585 : x_ok mLT1 [cx_576, cx_553, cx_584, cx_555] mTS2 mTC2 mRUp cx_585 [(1, [0]), (22, [1]), (27, [2]), (31, [3])] [(25, uN2382), (41, [1000991])] [] (17, []) 78623 20 = true := by decide +kernel
theorem sn_585 {W : Bool} {X : List Int32} : y_Snd (mGw W) mLT1 (J2 W X) X cx_585 := y_ok J2_J mTS2_ok1 mTC2_ok1 mRUp_ok1 (List.forall_mem_cons.mpr ⟨sn_576, List.forall_mem_cons.mpr ⟨sn_553, List.forall_mem_cons.mpr ⟨sn_584, List.forall_mem_cons.mpr ⟨sn_555, fun _ h => absurd h List.not_mem_nil⟩⟩⟩⟩) ck_585
def cx_586pi_0 (t : List (Int × Int)) : List (Int × Int) := ui0 :: ui876 :: (0, 1) :: ui49 :: (0, 1) :: ui776 :: ui31 :: (0, 6) :: t
def cx_586pi_1 (t : List (Int × Int)) : List (Int × Int) := (0, 6) :: ui49 :: ui49 :: ui194 :: ui194 :: ui437 :: (0, 6) :: t
def cx_586pg_0 (t : List zTg) : List zTg := uG2209 :: uG2260 :: uG2042 :: uG2311 :: uG2312 :: uG2313 :: uG2379 :: uG2380 :: t
def cx_586pg_1 (t : List zTg) : List zTg := uG2381 :: uG2340 :: t
def cx_586p : zS := ((cx_586pi_0 (cx_586pi_1 [])), (cx_585pr_0 (cx_585pr_1 (cx_585pr_2 []))), [uL1224, uL2298, uL2299], [], [uV2, uV11], (cx_585pf_0 (cx_585pf_1 (cx_585pf_2 []))), (cx_586pg_0 (cx_586pg_1 [])))
def cx_586q0 : zS := ((cx_586pi_0 (cx_586pi_1 [])), (cx_585pr_0 (cx_585pr_1 (cx_585pr_2 []))), [], [], [uV799], [uF2296], [uG2042, uG2043, uG2260, uG2297, uG2036, uG2184, uG2341])
/-- M.years -/
def cx_586 : zCtx := (253, cx_586p, [cx_586q0], kc_81, 1305412, 6, 127)
set_option maxRecDepth 1000000 in
theorem ck_586 : x_ok mLT1 [cx_576, cx_553, cx_584, cx_558] mTS2 mTC2 mRUp cx_586 [(1, [0]), (22, [1]), (27, [2]), (31, [3])] [(25, uN2382), (41, [1000991])] [] (17, []) 1305395 20 = true := by decide +kernel
theorem sn_586 {W : Bool} {X : List Int32} : y_Snd (mGw W) mLT1 (J2 W X) X cx_586 := y_ok J2_J mTS2_ok1 mTC2_ok1 mRUp_ok1 (List.forall_mem_cons.mpr ⟨sn_576, List.forall_mem_cons.mpr ⟨sn_553, List.forall_mem_cons.mpr ⟨sn_584, List.forall_mem_cons.mpr ⟨sn_558, fun _ h => absurd h List.not_mem_nil⟩⟩⟩⟩) ck_586
/-- M.undo -/
def cx_587 : zCtx := (260, ([ui0, (0, 0), (0, 6), (0, 6), ui49, ui49], [ur1474, ur2047, ur2272], [uL2383], [], [uV2], [uF2273, uF2274, uF2384], [uG2260, uG2042, uG812]), [([ui0, (0, 0), (0, 6), (0, 6), ui49, ui49], [ur1474, ur2047, ur2272], [uL2383], [], [uV62], [], [uG812])], [], 5, 0, 0)
set_option maxRecDepth 1000000 in
theorem ck_587 : x_ok mLT1 [] mTS2 mTC2 mRUp cx_587 [] [] [] (5, []) 0 8 = true := by decide +kernel
theorem sn_587 {W : Bool} {X : List Int32} : y_Snd (mGw W) mLT1 (J2 W X) X cx_587 := y_ok J2_J mTS2_ok1 mTC2_ok1 mRUp_ok1 (fun _ h => absurd h List.not_mem_nil) ck_587
/-- M.undo -/
def cx_588 : zCtx := (260, ([ui0, ui1080, (0, 6), (0, 6), ui49, ui49], [ur1474, ur2047, ur2272], [uL159], [], [uV2], [uF2273, uF2274, uF2384], [uG2260, uG2042, (245, [uL67, uL23, uL98, uL104, uL159])]), [([ui0, ui1080, (0, 6), (0, 6), ui49, ui49], [ur1474, ur2047, ur2272], [], [], [uV64], [(0, (false, 53, 0, []), 0, 0, (-1), [(1, 1)])], [uG2042, uG2043, uG812])], [uk2276, uk2044], 610, 0, 0)
def cq_588 : List zCtx := []
def cs_588 : List (Nat × List Nat) := []
def hs_588 : List (Nat × List Nat) := [(9, [17]), (53, [1554, 1000706])]
def ns_588 : List zN := []
set_option maxRecDepth 1000000 in
theorem ca_588 : x_okA mLT1 cq_588 mTS2 mTC2 mRUp cx_588 cs_588 hs_588 ns_588 (610, []) 0 613 = true := by decide +kernel
set_option maxRecDepth 1000000 in
theorem cc_588 : x_okC mLT1 cq_588 mTS2 mTC2 mRUp cx_588 cs_588 hs_588 ns_588 (610, []) 0 613 = true := by decide +kernel
theorem ck_588 : x_ok mLT1 cq_588 mTS2 mTC2 mRUp cx_588 cs_588 hs_588 ns_588 (610, []) 0 613 = true := x_ok_of ca_588 (fun _ h => absurd h List.not_mem_nil) cc_588
theorem sn_588 {W : Bool} {X : List Int32} : y_Snd (mGw W) mLT1 (J2 W X) X cx_588 := y_ok J2_J mTS2_ok1 mTC2_ok1 mRUp_ok1 (fun _ h => absurd h List.not_mem_nil) ck_588
end
