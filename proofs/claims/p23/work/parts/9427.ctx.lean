noncomputable section
/-! ===== readings, by program, checked by the kernel ===== -/
def cx_562pi_0 (t : List (Int × Int)) : List (Int × Int) := ui0 :: ui49 :: (0, 1) :: ui49 :: (0, 1) :: ui758 :: (0, 6) :: ui49 :: t
def cx_562pi_1 (t : List (Int × Int)) : List (Int × Int) := ui49 :: (0, 6) :: ui586 :: ui439 :: t
def cx_562pg_0 (t : List zTg) : List zTg := uG2201 :: uG1978 :: uG2202 :: uG2203 :: uG2226 :: uG2227 :: uG2228 :: uG2229 :: t
def cx_562pg_1 (t : List zTg) : List zTg := (244, [uL78, uL195, uL610, uL65, uL755]) :: t
def cx_562p : zS := ((cx_562pi_0 (cx_562pi_1 [])), [ur1414, ur1963, ur1463, ur1575, ur1576, ur2213, ur1983], [uL2186, uL236, uL2239, uL2240], [], [uV2, uV11], (cx_560pf_0 (cx_560pf_1 [])), (cx_562pg_0 (cx_562pg_1 [])))
/-- M.splice -/
def cx_562 : zCtx := (243, cx_562p, [([ui0, ui49, (0, 1), ui49, (0, 1), ui758, (0, 6), ui49, ui49, (0, 6), ui586, ui439], [ur1414, ur1963, ur1463, ur1575, ur1576, ur2213, ur1983], [], [], [uV828], [uF2237], [uG1978, uG1979, uG2201, uG2238, uG1972, uG1973, uG2234, (242, [uL78, uL195, uL609, uL63])])], [uk1974, uk1975, uk2217, uk1980, uk1976, uk2218], 1305467, 2, 43)
set_option maxRecDepth 1000000 in
theorem ck_562 : x_ok mLT1 [cx_556, cx_518, cx_527, cx_525, cx_561, cx_559] mTS2 mTC2 mRUp cx_562 [(1, [0]), (6, [1]), (14, [2]), (56, [3]), (108, [4]), (112, [5])] [(4, uN2210), (29, uN2211), (31, [20, 85, 1000918, 1000919, 1000920, 1000832, 1000849, 1000921]), (46, [23]), (71, [1000637]), (107, [25, 1000922, 1000923]), (108, [1000924])] [] (72, []) 1305395 75 = true := by decide +kernel
theorem sn_562 {W : Bool} {X : List Int32} : y_Snd (mGw W) mLT1 (J2 W X) X cx_562 := y_ok J2_J mTS2_ok1 mTC2_ok1 mRUp_ok1 (List.forall_mem_cons.mpr ⟨sn_556, List.forall_mem_cons.mpr ⟨sn_518, List.forall_mem_cons.mpr ⟨sn_527, List.forall_mem_cons.mpr ⟨sn_525, List.forall_mem_cons.mpr ⟨sn_561, List.forall_mem_cons.mpr ⟨sn_559, fun _ h => absurd h List.not_mem_nil⟩⟩⟩⟩⟩⟩) ck_562
/-- M.unsplice -/
def cx_563 : zCtx := (246, ([ui0, (0, 1), ui49, (0, 1), ui440, (0, 6), ui49, ui49], [ur1414, ur1463, ur1963], [uL577], [], [uV2], [uF1964, uF1965, uF1966, uF2241, uF1578, uF2127], [uG2201, uG1978, uG2242, uG2243]), [([ui0, (0, 1), ui49, (0, 1), ui440, (0, 6), ui49, ui49], [ur1414, ur1463, ur1963], [], [], [uV61], [], [uG1972, uG1973, uG2243])], [uk1974, uk1975, uk1976], 454, 1, 21)
set_option maxRecDepth 1000000 in
theorem ck_563 : x_ok mLT1 [cx_556] mTS2 mTC2 mRUp cx_563 [(1, [0])] [(4, [1000823]), (11, uN2244)] [] (9, []) 445 12 = true := by decide +kernel
theorem sn_563 {W : Bool} {X : List Int32} : y_Snd (mGw W) mLT1 (J2 W X) X cx_563 := y_ok J2_J mTS2_ok1 mTC2_ok1 mRUp_ok1 (List.forall_mem_cons.mpr ⟨sn_556, fun _ h => absurd h List.not_mem_nil⟩) ck_563
/-- M.loses -/
def cx_564 : zCtx := (247, ([ui0, (0, 6), (0, 6), (0, 1), (0, 6)], [ur1414, ur1963, ur1463], [uL768, uL9, uL508], [], [uV2, uV11], [uF1967, (1, (true, 0, 24, []), 0, 0, 0, [(2, 1)]), uF2102, uF2207], [uG1972, uG2176, (237, [uL98, uL63, uL63, uL63, uL63, uL63, uL63, uL63])]), [([ui0, (0, 6), (0, 6), (0, 1), (0, 6), (0, 6)], [ur1414, ur1963, ur1463], [uL768, uL9, uL508], [], [], [uF2123], [uG1972, (237, [uL98, uL63, uL63, uL63, uL114, uL9, uL63, uL63])])], [uk1976], 307, 0, 0)
set_option maxRecDepth 1000000 in
theorem ck_564 : x_ok mLT1 [] mTS2 mTC2 mRUp cx_564 [] [(1, [1000928]), (8, [20]), (11, [1000929]), (62, [150]), (74, [24, 25, 1000930])] [(0, ([(0, 3072), (0, 5), (1, 6), (0, 1), (1, 6), (0, 5), (0, 5)], [(12, false), (78, false), (56, false)], [((-1), [(4, 1), (5, (-1))]), ((-1), [(1, (-1)), (2, 1)]), (6, [(4, (-1))]), (0, [(1, 1)]), (0, [(1, (-1)), (2, 1)]), (0, [(1, (-1)), (6, 1)])], [(2, 0, 0, []), (0, 0, 0, [(1, 1)]), (0, 0, 0, [(5, 1)])], [], [(1, (true, 0, 24, []), 0, 0, 0, [(6, 1)]), (0, (false, 48, 0, []), 2, 1, 0, []), (0, (false, 18, 0, []), 0, 0, 0, [(3, 1)]), (0, (false, 22, 0, []), 2, 2, 0, [])], [(11, [((-1), [])]), (85, [(0, [(3, 1)]), (0, [(4, 1)]), (1, [(3, (-1))])]), (237, [(0, [(4, 1)]), (0, []), (0, []), (0, []), (2, []), (0, [(6, 1)]), (0, []), (0, [])])]), (7, [(6, 50)]))] (307, []) 0 52 = true := by decide +kernel
theorem sn_564 {W : Bool} {X : List Int32} : y_Snd (mGw W) mLT1 (J2 W X) X cx_564 := y_ok J2_J mTS2_ok1 mTC2_ok1 mRUp_ok1 (fun _ h => absurd h List.not_mem_nil) ck_564
def cx_565pi_0 (t : List (Int × Int)) : List (Int × Int) := ui0 :: (0, 1) :: ui49 :: (0, 1) :: ui439 :: (0, 6) :: ui49 :: ui49 :: t
def cx_565pi_1 (t : List (Int × Int)) : List (Int × Int) := (1, 6) :: (0, 5) :: ui439 :: t
def cx_565pg_0 (t : List zTg) : List zTg := uG2201 :: uG1978 :: uG2242 :: uG2245 :: uG2246 :: uG2247 :: (244, [uL104, uL170, uL98, uL63, (0, [(4, 33)])]) :: t
def cx_565p : zS := ((cx_565pi_0 (cx_565pi_1 [])), [ur1414, ur1463, ur1963, ur2213, ur1983], [uL577, (39, [(4, (-1))])], [], [uV2], [uF1964, uF1965, uF1966, uF2241, uF1578, uF2127, uF2216, uF2248], (cx_565pg_0 []))
/-- M.unsplice -/
def cx_565 : zCtx := (246, cx_565p, [([ui0, (0, 1), ui49, (0, 1), ui439, (0, 6), ui49, ui49, (1, 6), (0, 5), ui439], [ur1414, ur1463, ur1963, ur2213, ur1983], [], [], [uV781], [(0, (false, 53, 0, []), 0, 0, 1, [(4, 1)])], [uG1978, uG1979, uG2201, (12, [uL98]), uG1972, uG2249, (242, [uL104, uL170, uL169, uL63])])], [uk1974, uk1975, uk2217, uk1980, uk1976, uk2218], 1076, 2, 42)
set_option maxRecDepth 1000000 in
theorem ck_565 : x_ok mLT1 [cx_556, cx_564, cx_558] mTS2 mTC2 mRUp cx_565 [(1, [0]), (42, [1]), (46, [2])] [(4, [1000823]), (11, uN2244), (30, uN2250)] [] (29, []) 1047 32 = true := by decide +kernel
theorem sn_565 {W : Bool} {X : List Int32} : y_Snd (mGw W) mLT1 (J2 W X) X cx_565 := y_ok J2_J mTS2_ok1 mTC2_ok1 mRUp_ok1 (List.forall_mem_cons.mpr ⟨sn_556, List.forall_mem_cons.mpr ⟨sn_564, List.forall_mem_cons.mpr ⟨sn_558, fun _ h => absurd h List.not_mem_nil⟩⟩⟩) ck_565
def cx_566pi_0 (t : List (Int × Int)) : List (Int × Int) := ui0 :: (0, 1) :: ui49 :: (0, 1) :: ui758 :: (0, 6) :: ui49 :: ui49 :: t
def cx_566pi_1 (t : List (Int × Int)) : List (Int × Int) := (1, 6) :: (0, 5) :: ui439 :: t
def cx_566pg_0 (t : List zTg) : List zTg := uG2201 :: uG1978 :: uG2242 :: uG2245 :: uG2246 :: uG2247 :: (244, [uL104, uL170, uL610, uL65, uL755]) :: t
def cx_566p : zS := ((cx_566pi_0 (cx_566pi_1 [])), [ur1414, ur1463, ur1963, ur2213, ur1983], [uL577, ((-40), [(4, 1)]), (40, [(4, (-1))])], [], [uV2], [uF1964, uF1965, uF1966, uF2241, uF1578, uF2127, uF2216, uF2248], (cx_566pg_0 []))
/-- M.unsplice -/
def cx_566 : zCtx := (246, cx_566p, [([ui0, (0, 1), ui49, (0, 1), ui758, (0, 6), ui49, ui49, (1, 6), (0, 5), ui439], [ur1414, ur1463, ur1963, ur2213, ur1983], [], [], [uV781], [uF2237], [uG1978, uG1979, uG2201, uG2238, uG1972, uG2249, (242, [uL104, uL170, uL609, uL63])])], [uk1974, uk1975, uk2217, uk1980, uk1976, uk2218], 1305424, 2, 42)
set_option maxRecDepth 1000000 in
theorem ck_566 : x_ok mLT1 [cx_556, cx_564, cx_561] mTS2 mTC2 mRUp cx_566 [(1, [0]), (42, [1]), (46, [2])] [(4, [1000823]), (11, uN2244), (30, uN2250)] [] (29, []) 1305395 32 = true := by decide +kernel
theorem sn_566 {W : Bool} {X : List Int32} : y_Snd (mGw W) mLT1 (J2 W X) X cx_566 := y_ok J2_J mTS2_ok1 mTC2_ok1 mRUp_ok1 (List.forall_mem_cons.mpr ⟨sn_556, List.forall_mem_cons.mpr ⟨sn_564, List.forall_mem_cons.mpr ⟨sn_561, fun _ h => absurd h List.not_mem_nil⟩⟩⟩) ck_566
/-- M.isWeight -/
def cx_567 : zCtx := (249, ([ui0, ui49], [], [], [], [uV11], [], []), [([ui0, ui262], [], [], [], [uV62], [], []), ([ui0, ui802], [], [], [], [uV62], [], []), ([ui0, ui586], [], [], [], [uV64], [], [])], [], 14, 1, 22)
set_option maxRecDepth 1000000 in
theorem ck_567 : x_ok mLT1 [cx_517] mTS2 mTC2 mRUp cx_567 [(5, [0])] [] [] (5, []) 9 8 = true := by decide +kernel
theorem sn_567 {W : Bool} {X : List Int32} : y_Snd (mGw W) mLT1 (J2 W X) X cx_567 := y_ok J2_J mTS2_ok1 mTC2_ok1 mRUp_ok1 (List.forall_mem_cons.mpr ⟨sn_517, fun _ h => absurd h List.not_mem_nil⟩) ck_567
def cx_568pi_0 (t : List (Int × Int)) : List (Int × Int) := ui0 :: ui802 :: (0, 1) :: ui49 :: (0, 1) :: ui440 :: ui31 :: (0, 6) :: t
def cx_568pi_1 (t : List (Int × Int)) : List (Int × Int) := (0, 6) :: ui49 :: ui49 :: ui196 :: t
def cx_568pr_0 (t : List (Nat × Bool)) : List (Nat × Bool) := ur1414 :: ur1461 :: ur1462 :: ur1472 :: ur1473 :: ur1474 :: ur1475 :: ur1476 :: t
def cx_568pr_1 (t : List (Nat × Bool)) : List (Nat × Bool) := ur1470 :: ur1471 :: ur1463 :: ur1575 :: ur1576 :: ur1465 :: ur1963 :: ur1466 :: t
def cx_568pf_0 (t : List zFa) : List zFa := uF2098 :: uF2204 :: uF2205 :: uF2206 :: uF1477 :: uF1478 :: uF2105 :: uF2106 :: t
def cx_568pf_1 (t : List zFa) : List zFa := uF2107 :: uF2108 :: uF2109 :: uF1708 :: uF1709 :: uF2110 :: uF2111 :: uF2112 :: t
def cx_568pf_2 (t : List zFa) : List zFa := uF1998 :: uF2195 :: uF2251 :: t
def cx_568pg_0 (t : List zTg) : List zTg := uG2145 :: uG2201 :: uG1978 :: uG2252 :: uG2253 :: uG2254 :: uG2255 :: uG2256 :: t
def cx_568pg_1 (t : List zTg) : List zTg := uG2120 :: t
def cx_568p : zS := ((cx_568pi_0 (cx_568pi_1 [])), (cx_568pr_0 (cx_568pr_1 [])), [uL1187], [], [uV2, uV11], (cx_568pf_0 (cx_568pf_1 (cx_568pf_2 []))), (cx_568pg_0 (cx_568pg_1 [])))
/-- M.haul -/
def cx_568 : zCtx := (248, cx_568p, [([ui0, ui802, (0, 1), ui49, (0, 1), ui440, ui31, (0, 6), (0, 6), ui49, ui49, ui196], [ur1414, ur1461, ur1462, ur1472, ur1473, ur1474, ur1475, ur1476, ur1470, ur1471, ur1463, ur1575, ur1576, ur1465, ur1963, ur1466], [], [], [uV61], [], [uG1972, uG1973, uG2120])], [uk1974, uk1975, uk1976], 452, 2, 42)
set_option maxRecDepth 1000000 in
theorem ck_568 : x_ok mLT1 [cx_556, cx_567] mTS2 mTC2 mRUp cx_568 [(1, [0]), (5, [1])] [(4, [1000823])] [] (7, []) 445 10 = true := by decide +kernel
theorem sn_568 {W : Bool} {X : List Int32} : y_Snd (mGw W) mLT1 (J2 W X) X cx_568 := y_ok J2_J mTS2_ok1 mTC2_ok1 mRUp_ok1 (List.forall_mem_cons.mpr ⟨sn_556, List.forall_mem_cons.mpr ⟨sn_567, fun _ h => absurd h List.not_mem_nil⟩⟩) ck_568
def cx_569pi_0 (t : List (Int × Int)) : List (Int × Int) := ui0 :: ui196 :: ui196 :: ui196 :: ui196 :: ui196 :: ui196 :: (0, 1) :: t
def cx_569pi_1 (t : List (Int × Int)) : List (Int × Int) := (0, 6) :: ui49 :: ui49 :: ui49 :: ui49 :: ui49 :: ui49 :: ui49 :: t
def cx_569pi_2 (t : List (Int × Int)) : List (Int × Int) := (0, 6) :: t
def cx_569pf_0 (t : List zFa) : List zFa := uF1967 :: uF2219 :: uF2220 :: uF2221 :: uF2222 :: uF2223 :: uF2224 :: (0, (false, 18, 0, []), 0, 0, 0, [(7, 1)]) :: t
def cx_569pf_1 (t : List zFa) : List zFa := uF2207 :: (1, (true, 0, 24, []), 0, 0, 0, [(16, 1)]) :: t
def cx_569p : zS := ((cx_569pi_0 (cx_569pi_1 (cx_569pi_2 []))), [ur1414, ur1963, ur1463], [uL1291], [], [uV2], (cx_569pf_0 (cx_569pf_1 [])), [(85, [uL79, uL131, uL1730]), (237, [uL131, uL164, uL170, uL195, uL214, uL207, uL208, uL209])])
def cx_569q0i_0 (t : List (Int × Int)) : List (Int × Int) := ui0 :: ui1146 :: ui1146 :: ui1146 :: ui1146 :: ui1146 :: ui1146 :: (0, 1) :: t
def cx_569q0i_1 (t : List (Int × Int)) : List (Int × Int) := (0, 6) :: ui49 :: ui49 :: ui49 :: ui49 :: ui49 :: ui49 :: ui49 :: t
def cx_569q0i_2 (t : List (Int × Int)) : List (Int × Int) := (0, 6) :: t
def cx_569q0 : zS := ((cx_569q0i_0 (cx_569q0i_1 (cx_569q0i_2 []))), [ur1414, ur1963, ur1463], [(594, [(1, (-1)), (2, (-1)), (3, (-1)), (4, (-1)), (5, (-1)), (6, (-1))]), uL2257, uL1291], [], [uV2225], [], [(238, [uL65, uL164, uL170, uL195, uL214, uL207, uL208, uL209, uL63, uL212, uL2257])])
/-- M.ropeLong -/
def cx_569 : zCtx := (245, cx_569p, [cx_569q0], [], 30, 0, 0)
set_option maxRecDepth 1000000 in
theorem ck_569 : x_ok mLT1 [] mTS2 mTC2 mRUp cx_569 [] [(47, [1000923, 1000944])] [] (30, []) 0 33 = true := by decide +kernel
theorem sn_569 {W : Bool} {X : List Int32} : y_Snd (mGw W) mLT1 (J2 W X) X cx_569 := y_ok J2_J mTS2_ok1 mTC2_ok1 mRUp_ok1 (fun _ h => absurd h List.not_mem_nil) ck_569
def cx_570pi_0 (t : List (Int × Int)) : List (Int × Int) := ui0 :: ui586 :: (0, 1) :: ui49 :: (0, 1) :: ui440 :: ui31 :: (0, 6) :: t
def cx_570pi_1 (t : List (Int × Int)) : List (Int × Int) := ui49 :: ui49 :: ui196 :: (0, 6) :: ui586 :: t
def cx_570pg_0 (t : List zTg) : List zTg := uG2145 :: uG2201 :: uG1978 :: uG2252 :: uG2253 :: uG2254 :: uG2255 :: uG2258 :: t
def cx_570pg_1 (t : List zTg) : List zTg := uG2259 :: uG2260 :: uG2261 :: t
def cx_570p : zS := ((cx_570pi_0 (cx_570pi_1 [])), (cx_568pr_0 (cx_568pr_1 [])), [uL1187, ((-1), [(10, 1), (12, (-1))])], [], [uV2, uV11], (cx_568pf_0 (cx_568pf_1 (cx_568pf_2 []))), (cx_570pg_0 (cx_570pg_1 [])))
/-- M.haul -/
def cx_570 : zCtx := (248, cx_570p, [([ui0, ui586, (0, 1), ui49, (0, 1), ui440, ui31, (0, 6), ui49, ui49, ui196, (0, 6), ui586], [ur1414, ur1461, ur1462, ur1472, ur1473, ur1474, ur1475, ur1476, ur1470, ur1471, ur1463, ur1575, ur1576, ur1465, ur1963, ur1466], [], [], [uV61], [], [uG1972, uG1973, uG2261])], [uk1974, uk1975, uk1976], 460, 2, 42)
set_option maxRecDepth 1000000 in
theorem ck_570 : x_ok mLT1 [cx_556, cx_567, cx_569] mTS2 mTC2 mRUp cx_570 [(1, [0]), (5, [1]), (12, [2])] [(4, [1000823]), (15, uN2262), (24, uN2263)] [] (15, []) 445 18 = true := by decide +kernel
theorem sn_570 {W : Bool} {X : List Int32} : y_Snd (mGw W) mLT1 (J2 W X) X cx_570 := y_ok J2_J mTS2_ok1 mTC2_ok1 mRUp_ok1 (List.forall_mem_cons.mpr ⟨sn_556, List.forall_mem_cons.mpr ⟨sn_567, List.forall_mem_cons.mpr ⟨sn_569, fun _ h => absurd h List.not_mem_nil⟩⟩⟩) ck_570
def cx_571pi_0 (t : List (Int × Int)) : List (Int × Int) := ui0 :: ui262 :: (0, 1) :: ui49 :: (0, 1) :: ui440 :: ui31 :: (0, 6) :: t
def cx_571pi_1 (t : List (Int × Int)) : List (Int × Int) := (0, 6) :: ui49 :: ui49 :: ui196 :: t
def cx_571p : zS := ((cx_571pi_0 (cx_571pi_1 [])), (cx_568pr_0 (cx_568pr_1 [])), [uL1187], [], [uV2, uV11], (cx_568pf_0 (cx_568pf_1 (cx_568pf_2 []))), (cx_568pg_0 (cx_568pg_1 [])))
/-- M.haul -/
def cx_571 : zCtx := (248, cx_571p, [([ui0, ui262, (0, 1), ui49, (0, 1), ui440, ui31, (0, 6), (0, 6), ui49, ui49, ui196], [ur1414, ur1461, ur1462, ur1472, ur1473, ur1474, ur1475, ur1476, ur1470, ur1471, ur1463, ur1575, ur1576, ur1465, ur1963, ur1466], [], [], [uV61], [], [uG1972, uG1973, uG2120])], [uk1974, uk1975, uk1976], 452, 2, 42)
set_option maxRecDepth 1000000 in
theorem ck_571 : x_ok mLT1 [cx_556, cx_567] mTS2 mTC2 mRUp cx_571 [(1, [0]), (5, [1])] [(4, [1000823])] [] (7, []) 445 10 = true := by decide +kernel
theorem sn_571 {W : Bool} {X : List Int32} : y_Snd (mGw W) mLT1 (J2 W X) X cx_571 := y_ok J2_J mTS2_ok1 mTC2_ok1 mRUp_ok1 (List.forall_mem_cons.mpr ⟨sn_556, List.forall_mem_cons.mpr ⟨sn_567, fun _ h => absurd h List.not_mem_nil⟩⟩) ck_571
def cx_572p : zS := ((cx_528pi_0 (cx_528pi_1 [])), [ur1414, ur1463, ur1963], [uL512, uL9, uL1145], [], [uV2, uV11], [uF2098, uF1578, uF2127, uF2128], [uG2100, uG2129])
/-- M.belowOf -/
def cx_572 : zCtx := (252, cx_572p, [([ui0, (0, 5), (0, 1), (0, 6), ui49, ui49, ui49, ui49, ui49, ui49, ui49, (0, 6), ui770], [ur1414, ur1463, ur1963], [uL512, uL9, uL1145, uL214], [], [uV198], [], [(238, [uL65, uL98, uL104, uL78, uL79, uL131, uL164, uL170, uL109, uL195, uL214])])], [], 130, 0, 0)
def cz_572_0i_0 (t : List (Int × Int)) : List (Int × Int) := ui0 :: (0, 5) :: (0, 1) :: (0, 6) :: ui49 :: ui49 :: ui49 :: ui49 :: t
def cz_572_0i_1 (t : List (Int × Int)) : List (Int × Int) := ui49 :: ui49 :: ui49 :: (0, 6) :: ui770 :: (1, 6) :: t
def cz_572_0 : zS := ((cz_572_0i_0 (cz_572_0i_1 [])), [ur1414, ur1463, ur1963], [uL512, uL9, uL1145, uL214, ((-99), [(1, (-99)), (12, (-1)), (13, 99)]), ((-1), [(1, (-1)), (13, 1)]), (0, [(11, 1), (13, (-1))])], [uV2, uV11, uV198, uV409], [], [uF2098, uF1578, uF2127, uF2128], [uG2100, uG2129, (238, [uL65, uL98, uL104, uL78, uL79, uL131, uL164, uL170, uL109, uL207, uL214])])
set_option maxRecDepth 1000000 in
theorem ck_572 : x_ok mLT1 [] mTS2 mTC2 mRUp cx_572 [] [(2, [1000953]), (35, [1000954]), (36, [1000914])] [(6, cz_572_0, (146, [(13, (-23))]))] (130, []) 0 25 = true := by decide +kernel
theorem sn_572 {W : Bool} {X : List Int32} : y_Snd (mGw W) mLT1 (J2 W X) X cx_572 := y_ok J2_J mTS2_ok1 mTC2_ok1 mRUp_ok1 (fun _ h => absurd h List.not_mem_nil) ck_572
def cx_573pi_0 (t : List (Int × Int)) : List (Int × Int) := ui0 :: ui805 :: (0, 1) :: ui31 :: (0, 6) :: ui49 :: ui49 :: ui49 :: t
def cx_573pi_1 (t : List (Int × Int)) : List (Int × Int) := ui49 :: ui49 :: ui49 :: (0, 6) :: t
def cx_573pf_0 (t : List zFa) : List zFa := uF2098 :: uF1477 :: uF1478 :: uF2105 :: uF2106 :: uF2107 :: uF2108 :: uF2109 :: t
def cx_573pf_1 (t : List zFa) : List zFa := uF1708 :: uF1709 :: uF2110 :: uF2111 :: uF2112 :: uF1998 :: uF2195 :: (14, (true, 0, 24, []), 0, 0, 0, [(11, 1)]) :: t
def cx_573p : zS := ((cx_573pi_0 (cx_573pi_1 [])), (cx_551pr_0 (cx_551pr_1 [])), [uL768, uL9, uL2264], [], [uV2, uV11], (cx_573pf_0 (cx_573pf_1 [])), [uG2145, uG2146, uG2162, uG2163, uG2255, uG2164])
def cx_573q0i_0 (t : List (Int × Int)) : List (Int × Int) := ui0 :: ui805 :: (0, 1) :: ui31 :: (0, 6) :: ui49 :: ui49 :: ui49 :: t
def cx_573q0i_1 (t : List (Int × Int)) : List (Int × Int) := ui49 :: ui49 :: ui49 :: (1, 6) :: ui2265 :: t
def cx_573q0 : zS := ((cx_573q0i_0 (cx_573q0i_1 [])), (cx_551pr_0 (cx_551pr_1 [])), [uL768, uL9, uL2264], [], [uV198], [], [(238, [uL114, uL23, uL104, uL78, uL79, uL131, uL164, uL170, uL9, uL63, uL214])])
/-- M.spareAt -/
def cx_573 : zCtx := (251, cx_573p, [cx_573q0], [uk2141, uk2133, uk2142], 77677, 5, 108)
set_option maxRecDepth 1000000 in
theorem ck_573 : x_ok mLT1 [cx_572, cx_551] mTS2 mTC2 mRUp cx_573 [(32, [0]), (58, [1]), (63, [0])] [(2, [1000023]), (3, [1000731]), (4, [1000949]), (16, [1000679]), (17, [1000950]), (21, [1000951]), (30, [1000952]), (36, [1000955]), (57, [1000951]), (58, [1000958]), (61, [1000959]), (76, [1000960]), (77, [1000956, 1000957])] [] (39, []) 77638 42 = true := by decide +kernel
theorem sn_573 {W : Bool} {X : List Int32} : y_Snd (mGw W) mLT1 (J2 W X) X cx_573 := y_ok J2_J mTS2_ok1 mTC2_ok1 mRUp_ok1 (List.forall_mem_cons.mpr ⟨sn_572, List.forall_mem_cons.mpr ⟨sn_551, fun _ h => absurd h List.not_mem_nil⟩⟩) ck_573
def cx_574pi_0 (t : List (Int × Int)) : List (Int × Int) := ui0 :: ui810 :: (0, 1) :: ui31 :: (0, 6) :: ui49 :: ui49 :: ui49 :: t
def cx_574pi_1 (t : List (Int × Int)) : List (Int × Int) := ui49 :: ui49 :: ui49 :: (0, 6) :: t
def cx_574p : zS := ((cx_574pi_0 (cx_574pi_1 [])), (cx_551pr_0 (cx_551pr_1 [])), [uL768], [], [uV2, uV11], (cx_573pf_0 (cx_573pf_1 [])), [uG2145, uG2146, uG2162, uG2163, uG2255, uG2164])
def cx_574q0i_0 (t : List (Int × Int)) : List (Int × Int) := ui0 :: ui810 :: (0, 1) :: ui31 :: (0, 6) :: ui49 :: ui49 :: ui49 :: t
def cx_574q0i_1 (t : List (Int × Int)) : List (Int × Int) := ui49 :: ui49 :: ui49 :: (1, 6) :: ui805 :: t
def cx_574q0 : zS := ((cx_574q0i_0 (cx_574q0i_1 [])), (cx_551pr_0 (cx_551pr_1 [])), [((-1), [(11, 2), (12, (-1))]), uL768, uL2266], [], [uV198], [], [(238, [uL211, uL23, uL104, uL78, uL79, uL131, uL164, uL170, uL9, uL63, uL214])])
/-- M.breaksAt -/
def cx_574 : zCtx := (250, cx_574p, [cx_574q0, ([ui0, ui810, (0, 1), ui31, (0, 6), ui49, ui49, ui49, ui49, ui49, ui49, (0, 6)], [ur1414, ur1461, ur1462, ur1472, ur1473, ur1474, ur1475, ur1476, ur1470, ur1471, ur1463, ur1575, ur1576, ur1465, ur1963], [uL768], [], [uV61], [], [(238, [uL211, uL23, uL104, uL78, uL79, uL131, uL164, uL170, uL9, uL63, uL99])])], [uk2141, uk2133, uk2142], 78042, 6, 131)
def cz_574_0i_0 (t : List (Int × Int)) : List (Int × Int) := ui0 :: ui810 :: (0, 1) :: ui31 :: (0, 6) :: ui49 :: ui49 :: ui49 :: t
def cz_574_0i_1 (t : List (Int × Int)) : List (Int × Int) := ui49 :: ui49 :: ui49 :: (0, 6) :: ui425 :: t
def cz_574_0g_0 (t : List zTg) : List zTg := uG2145 :: uG2146 :: uG2162 :: uG2163 :: uG2255 :: uG2164 :: (238, [uL528, uL23, uL104, uL78, uL79, uL131, uL164, uL170, uL9, uL214, uL65]) :: t
def cz_574_0 : zS := ((cz_574_0i_0 (cz_574_0i_1 [])), (cx_551pr_0 (cx_551pr_1 [])), [uL768, uL2266], [uV2, uV11, uV198], [], (cx_573pf_0 (cx_573pf_1 [])), (cz_574_0g_0 []))
set_option maxRecDepth 1000000 in
theorem ck_574 : x_ok mLT1 [cx_573] mTS2 mTC2 mRUp cx_574 [(17, [0])] [(1, [1000948]), (21, [1000012]), (24, [1000961]), (26, [1000962]), (32, [1000963])] [(2, cz_574_0, (362, [(12, (-16))]))] (365, []) 77677 18 = true := by decide +kernel
theorem sn_574 {W : Bool} {X : List Int32} : y_Snd (mGw W) mLT1 (J2 W X) X cx_574 := y_ok J2_J mTS2_ok1 mTC2_ok1 mRUp_ok1 (List.forall_mem_cons.mpr ⟨sn_573, fun _ h => absurd h List.not_mem_nil⟩) ck_574
def cx_575pi_0 (t : List (Int × Int)) : List (Int × Int) := ui0 :: ui586 :: (0, 1) :: ui49 :: (0, 1) :: ui439 :: ui31 :: (0, 6) :: t
def cx_575pi_1 (t : List (Int × Int)) : List (Int × Int) := (0, 6) :: ui49 :: ui49 :: ui196 :: (0, 6) :: ui586 :: ui821 :: ui439 :: t
def cx_575pr_0 (t : List (Nat × Bool)) : List (Nat × Bool) := ur1414 :: ur1461 :: ur1462 :: ur1472 :: ur1473 :: ur1474 :: ur1475 :: ur1476 :: t
def cx_575pr_1 (t : List (Nat × Bool)) : List (Nat × Bool) := ur1470 :: ur1471 :: ur1463 :: ur1575 :: ur1576 :: ur1465 :: ur1963 :: ur1466 :: t
def cx_575pr_2 (t : List (Nat × Bool)) : List (Nat × Bool) := ur2213 :: ur1983 :: t
def cx_575pf_0 (t : List zFa) : List zFa := uF2098 :: uF2204 :: uF2205 :: uF2206 :: uF1477 :: uF1478 :: uF2105 :: uF2106 :: t
def cx_575pf_1 (t : List zFa) : List zFa := uF2107 :: uF2108 :: uF2109 :: uF1708 :: uF1709 :: uF2110 :: uF2111 :: uF2112 :: t
def cx_575pf_2 (t : List zFa) : List zFa := uF1998 :: uF2195 :: uF2251 :: (0, (false, 54, 0, []), 2, 16, 0, []) :: (0, (false, 47, 0, []), 2, 17, 0, []) :: t
def cx_575pg_0 (t : List zTg) : List zTg := uG2145 :: uG2201 :: uG1978 :: uG2252 :: uG2253 :: uG2254 :: uG2255 :: uG2256 :: t
def cx_575pg_1 (t : List zTg) : List zTg := uG2267 :: uG2268 :: uG2269 :: uG2270 :: uG2271 :: (244, [uL79, uL209, uL104, uL63, uL2230]) :: t
def cx_575p : zS := ((cx_575pi_0 (cx_575pi_1 [])), (cx_575pr_0 (cx_575pr_1 (cx_575pr_2 []))), [uL1187, uL2272, uL2231], [], [uV2, uV11], (cx_575pf_0 (cx_575pf_1 (cx_575pf_2 []))), (cx_575pg_0 (cx_575pg_1 [])))
def cx_575q0 : zS := ((cx_575pi_0 (cx_575pi_1 [])), (cx_575pr_0 (cx_575pr_1 (cx_575pr_2 []))), [], [], [uV144], [uF2232], [uG1978, uG1979, uG2201, uG2233, uG1972, uG2120, (242, [uL79, uL209, uL205, uL63])])
/-- M.haul -/
def cx_575 : zCtx := (248, cx_575p, [cx_575q0], kc_80, 78073, 7, 153)
set_option maxRecDepth 1000000 in
theorem ck_575 : x_ok mLT1 [cx_556, cx_567, cx_569, cx_574, cx_564, cx_558] mTS2 mTC2 mRUp cx_575 [(1, [0]), (5, [1]), (12, [2]), (31, [3]), (57, [4]), (61, [5])] [(4, [1000823]), (15, uN2262), (24, uN2263), (29, [1000835]), (34, [1000964]), (56, [1000023]), (57, uN2273), (71, [1000863])] [] (31, []) 78042 34 = true := by decide +kernel
theorem sn_575 {W : Bool} {X : List Int32} : y_Snd (mGw W) mLT1 (J2 W X) X cx_575 := y_ok J2_J mTS2_ok1 mTC2_ok1 mRUp_ok1 (List.forall_mem_cons.mpr ⟨sn_556, List.forall_mem_cons.mpr ⟨sn_567, List.forall_mem_cons.mpr ⟨sn_569, List.forall_mem_cons.mpr ⟨sn_574, List.forall_mem_cons.mpr ⟨sn_564, List.forall_mem_cons.mpr ⟨sn_558, fun _ h => absurd h List.not_mem_nil⟩⟩⟩⟩⟩⟩) ck_575
def cx_576pi_0 (t : List (Int × Int)) : List (Int × Int) := ui0 :: ui586 :: (0, 1) :: ui49 :: (0, 1) :: ui758 :: ui31 :: (0, 6) :: t
def cx_576pi_1 (t : List (Int × Int)) : List (Int × Int) := (0, 6) :: ui49 :: ui49 :: ui196 :: (0, 6) :: ui586 :: ui821 :: ui439 :: t
def cx_576pg_0 (t : List zTg) : List zTg := uG2145 :: uG2201 :: uG1978 :: uG2252 :: uG2253 :: uG2254 :: uG2255 :: uG2256 :: t
def cx_576pg_1 (t : List zTg) : List zTg := uG2267 :: uG2268 :: uG2269 :: uG2270 :: uG2271 :: (244, [uL79, uL209, uL610, uL65, uL755]) :: t
def cx_576p : zS := ((cx_576pi_0 (cx_576pi_1 [])), (cx_575pr_0 (cx_575pr_1 (cx_575pr_2 []))), [uL1187, uL2272, uL2239, uL2240], [], [uV2, uV11], (cx_575pf_0 (cx_575pf_1 (cx_575pf_2 []))), (cx_576pg_0 (cx_576pg_1 [])))
def cx_576q0 : zS := ((cx_576pi_0 (cx_576pi_1 [])), (cx_575pr_0 (cx_575pr_1 (cx_575pr_2 []))), [], [], [uV144], [uF2237], [uG1978, uG1979, uG2201, uG2238, uG1972, uG2120, (242, [uL79, uL209, uL609, uL63])])
/-- M.haul -/
def cx_576 : zCtx := (248, cx_576p, [cx_576q0], kc_80, 1305426, 7, 153)
set_option maxRecDepth 1000000 in
theorem ck_576 : x_ok mLT1 [cx_556, cx_567, cx_569, cx_574, cx_564, cx_561] mTS2 mTC2 mRUp cx_576 [(1, [0]), (5, [1]), (12, [2]), (31, [3]), (57, [4]), (61, [5])] [(4, [1000823]), (15, uN2262), (24, uN2263), (29, [1000835]), (34, [1000964]), (56, [1000023]), (57, uN2273), (71, [1000863])] [] (31, []) 1305395 34 = true := by decide +kernel
theorem sn_576 {W : Bool} {X : List Int32} : y_Snd (mGw W) mLT1 (J2 W X) X cx_576 := y_ok J2_J mTS2_ok1 mTC2_ok1 mRUp_ok1 (List.forall_mem_cons.mpr ⟨sn_556, List.forall_mem_cons.mpr ⟨sn_567, List.forall_mem_cons.mpr ⟨sn_569, List.forall_mem_cons.mpr ⟨sn_574, List.forall_mem_cons.mpr ⟨sn_564, List.forall_mem_cons.mpr ⟨sn_561, fun _ h => absurd h List.not_mem_nil⟩⟩⟩⟩⟩⟩) ck_576
def cx_577pi_0 (t : List (Int × Int)) : List (Int × Int) := ui0 :: ui586 :: (0, 1) :: ui49 :: (0, 1) :: ui439 :: ui31 :: (0, 6) :: t
def cx_577pi_1 (t : List (Int × Int)) : List (Int × Int) := ui49 :: ui49 :: ui196 :: (0, 6) :: ui586 :: ui439 :: t
def cx_577pg_0 (t : List zTg) : List zTg := uG2145 :: uG2201 :: uG1978 :: uG2252 :: uG2253 :: uG2254 :: uG2255 :: uG2258 :: t
def cx_577pg_1 (t : List zTg) : List zTg := uG2259 :: uG2260 :: uG2274 :: uG2275 :: uG2276 :: t
def cx_577p : zS := ((cx_577pi_0 (cx_577pi_1 [])), (cx_575pr_0 (cx_575pr_1 (cx_575pr_2 []))), [uL1187, uL2277, uL2231], [], [uV2, uV11], (cx_575pf_0 (cx_575pf_1 (cx_575pf_2 []))), (cx_577pg_0 (cx_577pg_1 [])))
def cx_577q0 : zS := ((cx_577pi_0 (cx_577pi_1 [])), (cx_575pr_0 (cx_575pr_1 (cx_575pr_2 []))), [], [], [uV843], [uF2232], [uG1978, uG1979, uG2201, uG2233, uG1972, uG1973, uG2261, uG2278])
/-- M.haul -/
def cx_577 : zCtx := (248, cx_577p, [cx_577q0], kc_80, 78077, 7, 153)
set_option maxRecDepth 1000000 in
theorem ck_577 : x_ok mLT1 [cx_556, cx_567, cx_569, cx_574, cx_558] mTS2 mTC2 mRUp cx_577 [(1, [0]), (5, [1]), (12, [2]), (31, [3]), (61, [4])] [(4, [1000823]), (15, uN2262), (24, uN2263), (29, [1000835]), (34, [1000964]), (39, uN2279), (48, [1000637]), (50, [1000970]), (71, [1000863])] [] (35, []) 78042 38 = true := by decide +kernel
theorem sn_577 {W : Bool} {X : List Int32} : y_Snd (mGw W) mLT1 (J2 W X) X cx_577 := y_ok J2_J mTS2_ok1 mTC2_ok1 mRUp_ok1 (List.forall_mem_cons.mpr ⟨sn_556, List.forall_mem_cons.mpr ⟨sn_567, List.forall_mem_cons.mpr ⟨sn_569, List.forall_mem_cons.mpr ⟨sn_574, List.forall_mem_cons.mpr ⟨sn_558, fun _ h => absurd h List.not_mem_nil⟩⟩⟩⟩⟩) ck_577
def cx_578pi_0 (t : List (Int × Int)) : List (Int × Int) := ui0 :: ui586 :: (0, 1) :: ui49 :: (0, 1) :: ui758 :: ui31 :: (0, 6) :: t
def cx_578pi_1 (t : List (Int × Int)) : List (Int × Int) := ui49 :: ui49 :: ui196 :: (0, 6) :: ui586 :: ui439 :: t
def cx_578pg_0 (t : List zTg) : List zTg := uG2145 :: uG2201 :: uG1978 :: uG2252 :: uG2253 :: uG2254 :: uG2255 :: uG2258 :: t
def cx_578pg_1 (t : List zTg) : List zTg := uG2259 :: uG2260 :: uG2274 :: uG2275 :: uG2280 :: t
def cx_578p : zS := ((cx_578pi_0 (cx_578pi_1 [])), (cx_575pr_0 (cx_575pr_1 (cx_575pr_2 []))), [uL1187, uL2277, uL2239, uL2240], [], [uV2, uV11], (cx_575pf_0 (cx_575pf_1 (cx_575pf_2 []))), (cx_578pg_0 (cx_578pg_1 [])))
def cx_578q0 : zS := ((cx_578pi_0 (cx_578pi_1 [])), (cx_575pr_0 (cx_575pr_1 (cx_575pr_2 []))), [], [], [uV843], [uF2237], [uG1978, uG1979, uG2201, uG2238, uG1972, uG1973, uG2261, uG2281])
/-- M.haul -/
def cx_578 : zCtx := (248, cx_578p, [cx_578q0], kc_80, 1305430, 7, 153)
set_option maxRecDepth 1000000 in
theorem ck_578 : x_ok mLT1 [cx_556, cx_567, cx_569, cx_574, cx_561] mTS2 mTC2 mRUp cx_578 [(1, [0]), (5, [1]), (12, [2]), (31, [3]), (61, [4])] [(4, [1000823]), (15, uN2262), (24, uN2263), (29, [1000835]), (34, [1000964]), (39, uN2279), (48, [1000637]), (50, [1000970]), (71, [1000863])] [] (35, []) 1305395 38 = true := by decide +kernel
theorem sn_578 {W : Bool} {X : List Int32} : y_Snd (mGw W) mLT1 (J2 W X) X cx_578 := y_ok J2_J mTS2_ok1 mTC2_ok1 mRUp_ok1 (List.forall_mem_cons.mpr ⟨sn_556, List.forall_mem_cons.mpr ⟨sn_567, List.forall_mem_cons.mpr ⟨sn_569, List.forall_mem_cons.mpr ⟨sn_574, List.forall_mem_cons.mpr ⟨sn_561, fun _ h => absurd h List.not_mem_nil⟩⟩⟩⟩⟩) ck_578
/-- M.isLong -/
def cx_579 : zCtx := (254, ([ui0, ui49], [], [], [], [uV11], [], []), [([ui0, ui262], [], [], [], [uV62], [], []), ([ui0, ui841], [], [], [], [uV62], [], []), ([ui0, ui1219], [], [], [], [uV64], [], [])], [], 14, 1, 22)
set_option maxRecDepth 1000000 in
theorem ck_579 : x_ok mLT1 [cx_517] mTS2 mTC2 mRUp cx_579 [(4, [0])] [] [] (5, []) 9 8 = true := by decide +kernel
theorem sn_579 {W : Bool} {X : List Int32} : y_Snd (mGw W) mLT1 (J2 W X) X cx_579 := y_ok J2_J mTS2_ok1 mTC2_ok1 mRUp_ok1 (List.forall_mem_cons.mpr ⟨sn_517, fun _ h => absurd h List.not_mem_nil⟩) ck_579
def cx_580pi_0 (t : List (Int × Int)) : List (Int × Int) := ui0 :: ui841 :: (0, 1) :: ui49 :: (0, 1) :: ui440 :: ui31 :: (0, 6) :: t
def cx_580pi_1 (t : List (Int × Int)) : List (Int × Int) := (0, 6) :: ui49 :: ui49 :: t
def cx_580pr_0 (t : List (Nat × Bool)) : List (Nat × Bool) := ur1414 :: ur1461 :: ur1462 :: ur1472 :: ur1473 :: ur1474 :: ur1475 :: ur1476 :: t
def cx_580pr_1 (t : List (Nat × Bool)) : List (Nat × Bool) := ur1470 :: ur1471 :: ur1463 :: ur1575 :: ur1576 :: ur1963 :: ur1983 :: t
def cx_580pf_0 (t : List zFa) : List zFa := uF2098 :: uF2204 :: uF2205 :: uF2206 :: uF1477 :: uF1478 :: uF2105 :: uF2106 :: t
def cx_580pf_1 (t : List zFa) : List zFa := uF2107 :: uF2108 :: uF2109 :: uF1708 :: uF1709 :: uF2110 :: uF2111 :: uF2112 :: t
def cx_580pf_2 (t : List zFa) : List zFa := uF2113 :: uF2282 :: t
def cx_580p : zS := ((cx_580pi_0 (cx_580pi_1 [])), (cx_580pr_0 (cx_580pr_1 [])), [uL1187], [], [uV2, uV11], (cx_580pf_0 (cx_580pf_1 (cx_580pf_2 []))), [uG2145, uG2201, uG1978, uG2252, uG2253, uG2254, uG2120])
/-- M.years -/
def cx_580 : zCtx := (253, cx_580p, [([ui0, ui841, (0, 1), ui49, (0, 1), ui440, ui31, (0, 6), (0, 6), ui49, ui49], [ur1414, ur1461, ur1462, ur1472, ur1473, ur1474, ur1475, ur1476, ur1470, ur1471, ur1463, ur1575, ur1576, ur1963, ur1983], [], [], [uV61], [], [uG2120])], [], 19, 2, 42)
set_option maxRecDepth 1000000 in
theorem ck_580 : x_ok mLT1 [cx_579] mTS2 mTC2 mRUp cx_580 [(1, [0])] [] [] (5, []) 14 8 = true := by decide +kernel
theorem sn_580 {W : Bool} {X : List Int32} : y_Snd (mGw W) mLT1 (J2 W X) X cx_580 := y_ok J2_J mTS2_ok1 mTC2_ok1 mRUp_ok1 (List.forall_mem_cons.mpr ⟨sn_579, fun _ h => absurd h List.not_mem_nil⟩) ck_580
def cx_581pi_0 (t : List (Int × Int)) : List (Int × Int) := ui0 :: ui262 :: (0, 1) :: ui49 :: (0, 1) :: ui440 :: ui31 :: (0, 6) :: t
def cx_581pi_1 (t : List (Int × Int)) : List (Int × Int) := (0, 6) :: ui49 :: ui49 :: t
def cx_581p : zS := ((cx_581pi_0 (cx_581pi_1 [])), (cx_580pr_0 (cx_580pr_1 [])), [uL1187], [], [uV2, uV11], (cx_580pf_0 (cx_580pf_1 (cx_580pf_2 []))), [uG2145, uG2201, uG1978, uG2252, uG2253, uG2254, uG2120])
/-- M.years -/
def cx_581 : zCtx := (253, cx_581p, [([ui0, ui262, (0, 1), ui49, (0, 1), ui440, ui31, (0, 6), (0, 6), ui49, ui49], [ur1414, ur1461, ur1462, ur1472, ur1473, ur1474, ur1475, ur1476, ur1470, ur1471, ur1463, ur1575, ur1576, ur1963, ur1983], [], [], [uV61], [], [uG2120])], [], 19, 2, 42)
set_option maxRecDepth 1000000 in
theorem ck_581 : x_ok mLT1 [cx_579] mTS2 mTC2 mRUp cx_581 [(1, [0])] [] [] (5, []) 14 8 = true := by decide +kernel
theorem sn_581 {W : Bool} {X : List Int32} : y_Snd (mGw W) mLT1 (J2 W X) X cx_581 := y_ok J2_J mTS2_ok1 mTC2_ok1 mRUp_ok1 (List.forall_mem_cons.mpr ⟨sn_579, fun _ h => absurd h List.not_mem_nil⟩) ck_581
def cx_582pi_0 (t : List (Int × Int)) : List (Int × Int) := ui0 :: (0, 0) :: (0, 1) :: ui49 :: (0, 1) :: ui440 :: ui31 :: (0, 6) :: t
def cx_582pi_1 (t : List (Int × Int)) : List (Int × Int) := (0, 6) :: ui49 :: ui49 :: t
def cx_582p : zS := ((cx_582pi_0 (cx_582pi_1 [])), (cx_580pr_0 (cx_580pr_1 [])), [uL1187], [], [uV2, uV11], (cx_580pf_0 (cx_580pf_1 (cx_580pf_2 []))), [uG2145, uG2201, uG1978, uG2252, uG2253, uG2254, uG2120])
/-- M.years -/
def cx_582 : zCtx := (253, cx_582p, [([ui0, (0, 0), (0, 1), ui49, (0, 1), ui440, ui31, (0, 6), (0, 6), ui49, ui49], [ur1414, ur1461, ur1462, ur1472, ur1473, ur1474, ur1475, ur1476, ur1470, ur1471, ur1463, ur1575, ur1576, ur1963, ur1983], [], [], [uV781], [], [uG2120])], [], 24, 2, 42)
set_option maxRecDepth 1000000 in
theorem ck_582 : x_ok mLT1 [cx_579] mTS2 mTC2 mRUp cx_582 [(1, [0])] [(20, [1000988])] [] (10, []) 14 13 = true := by decide +kernel
theorem sn_582 {W : Bool} {X : List Int32} : y_Snd (mGw W) mLT1 (J2 W X) X cx_582 := y_ok J2_J mTS2_ok1 mTC2_ok1 mRUp_ok1 (List.forall_mem_cons.mpr ⟨sn_579, fun _ h => absurd h List.not_mem_nil⟩) ck_582
/-- M.mixed -/
def cx_583 : zCtx := (259, ([ui0, ui49, ui49], [], [], [], [uV11, uV12], [], []), [([ui0, ui49, ui49, ui49], [], [], [], [uV58], [], [uG832])], [], 14, 0, 0)
set_option maxRecDepth 1000000 in
theorem ck_583 : x_ok mLT1 [] mTS2 mTC2 mRUp cx_583 [] [(2, [1000717]), (6, [1000639]), (10, [1000637]), (16, [1000421]), (17, [1000717]), (18, [1000718])] [] (14, []) 0 17 = true := by decide +kernel
theorem sn_583 {W : Bool} {X : List Int32} : y_Snd (mGw W) mLT1 (J2 W X) X cx_583 := y_ok J2_J mTS2_ok1 mTC2_ok1 mRUp_ok1 (fun _ h => absurd h List.not_mem_nil) ck_583
/-- M.lotOf -/
def cx_584 : zCtx := (258, ([ui0, ui49, ui2283], [ur1414], [], [], [uV2, uV11], [uF1965], []), [([ui0, ui49, ui2283, ui525], [ur1414], [], [], [uV58], [], [(255, [uL67, uL9, uL23])])], [], 25, 1, 22)
set_option maxRecDepth 1000000 in
theorem ck_584 : x_ok mLT1 [cx_583] mTS2 mTC2 mRUp cx_584 [(7, [0]), (11, [0])] [(15, [1000421]), (18, [1000679]), (19, [1000743])] [] (11, []) 14 14 = true := by decide +kernel
theorem sn_584 {W : Bool} {X : List Int32} : y_Snd (mGw W) mLT1 (J2 W X) X cx_584 := y_ok J2_J mTS2_ok1 mTC2_ok1 mRUp_ok1 (List.forall_mem_cons.mpr ⟨sn_583, fun _ h => absurd h List.not_mem_nil⟩) ck_584
def cx_585pi_0 (t : List (Int × Int)) : List (Int × Int) := ui0 :: (0, 5) :: (0, 1) :: ui196 :: (0, 6) :: ui49 :: ui196 :: ui49 :: t
def cx_585pi_1 (t : List (Int × Int)) : List (Int × Int) := ui49 :: ui49 :: ui49 :: t
def cx_585p : zS := ((cx_585pi_0 (cx_585pi_1 [])), [ur1414, ur1463, ur1963, ur1468], [uL768, uL9, uL564], [], [uV2, uV11], [uF2098, uF2204, uF1578, uF2127, uF1970, (0, (false, 29, 0, []), 2, 3, 0, []), (3, (true, 0, 0, [(2, 1)]), 0, 0, 0, [(6, 1)])], [uG2162, (237, [uL98, uL104, uL78, uL23, uL79, uL131, uL164, uL170])])
/-- M.isBlighted -/
def cx_585 : zCtx := (257, cx_585p, [([ui0, (0, 5), (0, 1), ui196, (0, 6), ui49, ui2126, ui49, ui49, ui49, ui49], [ur1414, ur1463, ur1963, ur1468], [uL768, uL9, uL564], [], [uV64], [], [(238, [uL650, uL104, uL78, uL23, uL79, uL131, uL164, uL170, uL9, uL63, uL65])]), ([ui0, (0, 5), (0, 1), ui196, (0, 6), ui49, ui525, ui49, ui49, ui49, ui49], [ur1414, ur1463, ur1963, ur1468], [uL768, uL9, uL564], [], [uV62], [], [(238, [uL650, uL104, uL78, uL23, uL79, uL131, uL164, uL170, uL9, uL63, uL63])])], [], 47, 2, 43)
set_option maxRecDepth 1000000 in
theorem ck_585 : x_ok mLT1 [cx_584] mTS2 mTC2 mRUp cx_585 [(20, [0])] [(17, [1000841, 1000639]), (19, [1000637]), (35, [1000998]), (39, [1000999])] [] (22, []) 25 25 = true := by decide +kernel
theorem sn_585 {W : Bool} {X : List Int32} : y_Snd (mGw W) mLT1 (J2 W X) X cx_585 := y_ok J2_J mTS2_ok1 mTC2_ok1 mRUp_ok1 (List.forall_mem_cons.mpr ⟨sn_584, fun _ h => absurd h List.not_mem_nil⟩) ck_585
def cx_586pr_0 (t : List (Nat × Bool)) : List (Nat × Bool) := ur1414 :: ur1461 :: ur1462 :: ur1472 :: ur1473 :: ur1474 :: ur1475 :: ur1476 :: t
def cx_586pr_1 (t : List (Nat × Bool)) : List (Nat × Bool) := ur1470 :: ur1471 :: ur1463 :: ur1575 :: ur1576 :: ur1963 :: ur1468 :: ur2284 :: t
def cx_586pr_2 (t : List (Nat × Bool)) : List (Nat × Bool) := ur2285 :: t
def cx_586pf_0 (t : List zFa) : List zFa := uF1964 :: uF1965 :: uF1477 :: uF1478 :: uF2105 :: uF2106 :: uF2107 :: uF2108 :: t
def cx_586pf_1 (t : List zFa) : List zFa := uF2109 :: uF1708 :: uF1709 :: uF2110 :: uF2111 :: uF2112 :: uF2113 :: uF1970 :: t
def cx_586pf_2 (t : List zFa) : List zFa := uF2286 :: uF2287 :: uF2288 :: uF2289 :: (10, (true, 0, 0, [(1, 1)]), 0, 0, 0, [(7, 1)]) :: t
def cx_586p : zS := ([ui0, (0, 1), ui196, ui31, (0, 6), ui196, ui810, (0, 6)], (cx_586pr_0 (cx_586pr_1 (cx_586pr_2 []))), [uL768], [], [uV2], (cx_586pf_0 (cx_586pf_1 (cx_586pf_2 []))), [uG2290, uG1972, uG2291, uG2292, uG2293, uG2294])
/-- M.yearGoes -/
def cx_586 : zCtx := (256, cx_586p, [([ui0, (0, 1), ui196, ui31, (0, 6), ui196, ui810, (0, 6)], [ur1414, ur1461, ur1462, ur1472, ur1473, ur1474, ur1475, ur1476, ur1470, ur1471, ur1463, ur1575, ur1576, ur1963, ur1468, ur2284, ur2285], [uL768], [], [], [uF2287], [uG1972, (237, [uL98, uL23, uL104, uL67, uL36, (1, [(6, 1)]), uL63, uL98])])], [uk2141, uk2133, uk2142, uk1976, uk2295, uk2296], 78112, 4, 84)
def cq_586 : List zCtx := [cx_537, cx_540, cx_585, cx_536, cx_527]
def cs_586 : List (Nat × List Nat) := [(22, [0]), (33, [1]), (65, [2]), (98, [3]), (104, [4]), (137, [3])]
def hs_586 : List (Nat × List Nat) := [(1, [1000992]), (15, [1000463]), (37, [1000993]), (43, [1000462]), (58, [1000463]), (62, [1000994, 1000837, 1000995, 1000996, 1000997]), (78, [1000023]), (79, [1000975, 1001006]), (101, [1001000, 1001001]), (140, [1001004, 1001005]), (141, [1001002, 1001003]), (147, [1000462, 1000841, 1001007]), (156, [1000637]), (158, [1001008])]
def nd_586_0pi_0 (t : List (Int × Int)) : List (Int × Int) := ui0 :: (0, 1) :: ui196 :: ui31 :: (0, 6) :: ui196 :: ui810 :: (0, 6) :: t
def nd_586_0pi_1 (t : List (Int × Int)) : List (Int × Int) := (0, 6) :: t
def nd_586_0pf_0 (t : List zFa) : List zFa := uF1964 :: uF1965 :: uF1477 :: uF1478 :: uF2105 :: uF2106 :: uF2107 :: uF2108 :: t
def nd_586_0pf_1 (t : List zFa) : List zFa := uF2109 :: uF1708 :: uF1709 :: uF2110 :: uF2111 :: uF2112 :: uF2113 :: uF1970 :: t
def nd_586_0pf_2 (t : List zFa) : List zFa := uF2286 :: uF2287 :: uF2288 :: uF2289 :: t
def nd_586_0pg_0 (t : List zTg) : List zTg := uG2290 :: uG1972 :: uG2291 :: uG2292 :: uG2293 :: uG2294 :: (266, [uL23, uL104, uL67, uL36, uL78, uL63, uL98, uL131]) :: t
def nd_586_0p : zS := ((nd_586_0pi_0 (nd_586_0pi_1 [])), (cx_586pr_0 (cx_586pr_1 (cx_586pr_2 []))), [uL768, uL2297], [uV2, uV144], [], (nd_586_0pf_0 (nd_586_0pf_1 (nd_586_0pf_2 []))), (nd_586_0pg_0 []))
def nd_586_0 : zN := (2, nd_586_0p, (494, [(8, (-24))]))
def nd_586_1pg_0 (t : List zTg) : List zTg := uG2290 :: uG1972 :: uG2291 :: uG2292 :: uG2293 :: (266, [uL23, uL104, uL67, uL36, uL78, uL63, uL98, uL98]) :: (237, [uL98, uL23, uL104, uL67, uL36, uL78, uL131, uL98]) :: t
def nd_586_1p : zS := ((nd_586_0pi_0 (nd_586_0pi_1 [])), (cx_586pr_0 (cx_586pr_1 (cx_586pr_2 []))), [uL768, uL2297], [uV2, uV144], [], (nd_586_0pf_0 (nd_586_0pf_1 (nd_586_0pf_2 []))), (nd_586_1pg_0 []))
def nd_586_1 : zN := (45, nd_586_1p, (340, [(8, (-54))]))
def ns_586 : List zN := [nd_586_0, nd_586_1]
set_option maxRecDepth 1000000 in
theorem ca_586 : x_okA mLT1 cq_586 mTS2 mTC2 mRUp cx_586 cs_586 hs_586 ns_586 (497, []) 77615 56 = true := by decide +kernel
set_option maxRecDepth 1000000 in
theorem cb_586_0 : x_okB mLT1 cq_586 mTS2 mTC2 mRUp cx_586 cs_586 hs_586 ns_586 (497, []) 77615 56 nd_586_0 = true := by decide +kernel
set_option maxRecDepth 1000000 in
theorem cb_586_1 : x_okB mLT1 cq_586 mTS2 mTC2 mRUp cx_586 cs_586 hs_586 ns_586 (497, []) 77615 56 nd_586_1 = true := by decide +kernel
set_option maxRecDepth 1000000 in
theorem cc_586 : x_okC mLT1 cq_586 mTS2 mTC2 mRUp cx_586 cs_586 hs_586 ns_586 (497, []) 77615 56 = true := by decide +kernel
theorem ck_586 : x_ok mLT1 cq_586 mTS2 mTC2 mRUp cx_586 cs_586 hs_586 ns_586 (497, []) 77615 56 = true := x_ok_of ca_586 (List.forall_mem_cons.mpr ⟨cb_586_0, List.forall_mem_cons.mpr ⟨cb_586_1, fun _ h => absurd h List.not_mem_nil⟩⟩) cc_586
theorem sn_586 {W : Bool} {X : List Int32} : y_Snd (mGw W) mLT1 (J2 W X) X cx_586 := y_ok J2_J mTS2_ok1 mTC2_ok1 mRUp_ok1 (List.forall_mem_cons.mpr ⟨sn_537, List.forall_mem_cons.mpr ⟨sn_540, List.forall_mem_cons.mpr ⟨sn_585, List.forall_mem_cons.mpr ⟨sn_536, List.forall_mem_cons.mpr ⟨sn_527, fun _ h => absurd h List.not_mem_nil⟩⟩⟩⟩⟩) ck_586
def cx_587pf_0 (t : List zFa) : List zFa := uF2098 :: uF2204 :: uF1477 :: uF1478 :: uF2105 :: uF2106 :: uF2107 :: uF2108 :: t
def cx_587pf_1 (t : List zFa) : List zFa := uF2109 :: uF1708 :: uF1709 :: uF2110 :: uF2111 :: uF2112 :: uF2113 :: uF1970 :: t
def cx_587pf_2 (t : List zFa) : List zFa := uF2286 :: uF2298 :: uF2288 :: uF2289 :: (10, (true, 0, 0, [(2, 1)]), 0, 0, 0, [(7, 1)]) :: t
def cx_587p : zS := ([ui0, ui846, (0, 1), ui196, ui31, (0, 6), ui196, (0, 6)], (cx_586pr_0 (cx_586pr_1 (cx_586pr_2 []))), [uL577, uL9], [], [uV2, uV11], (cx_587pf_0 (cx_587pf_1 (cx_587pf_2 []))), [uG2145, uG1972, uG2299, uG2300, uG2301, (237, [uL104, uL98, uL78, uL23, uL36, uL63, uL63, uL104])])
/-- M.goes -/
def cx_587 : zCtx := (255, cx_587p, [([ui0, ui846, (0, 1), ui196, ui31, (0, 6), ui196, (0, 6)], [ur1414, ur1461, ur1462, ur1472, ur1473, ur1474, ur1475, ur1476, ur1470, ur1471, ur1463, ur1575, ur1576, ur1963, ur1468, ur2284, ur2285], [uL577, uL9], [], [], [uF2298], [uG1972, (237, [uL104, uL98, uL78, uL23, uL36, uL9, uL63, uL104])])], [uk2141, uk2133, uk2142, uk1976, uk2295, uk2296], 78623, 5, 105)
def cz_587_0i_0 (t : List (Int × Int)) : List (Int × Int) := ui0 :: ui846 :: (0, 1) :: ui196 :: ui31 :: (0, 6) :: ui196 :: (0, 6) :: t
def cz_587_0i_1 (t : List (Int × Int)) : List (Int × Int) := ui847 :: t
def cz_587_0f_0 (t : List zFa) : List zFa := uF2098 :: uF2204 :: uF1477 :: uF1478 :: uF2105 :: uF2106 :: uF2107 :: uF2108 :: t
def cz_587_0f_1 (t : List zFa) : List zFa := uF2109 :: uF1708 :: uF1709 :: uF2110 :: uF2111 :: uF2112 :: uF2113 :: uF1970 :: t
def cz_587_0f_2 (t : List zFa) : List zFa := uF2286 :: uF2298 :: uF2288 :: uF2289 :: t
def cz_587_0 : zS := ((cz_587_0i_0 (cz_587_0i_1 [])), (cx_586pr_0 (cx_586pr_1 (cx_586pr_2 []))), [uL577, uL9, (0, [(1, 1), (8, (-1))])], [uV2, uV11, uV144], [], (cz_587_0f_0 (cz_587_0f_1 (cz_587_0f_2 []))), [uG2145, uG1972, uG2299, uG2300, uG2301, (237, [uL104, uL98, uL78, uL23, uL36, uL131, uL63, uL104])])
set_option maxRecDepth 1000000 in
theorem ck_587 : x_ok mLT1 [cx_586] mTS2 mTC2 mRUp cx_587 [(8, [0])] [] [(2, cz_587_0, (508, [(8, (-8))]))] (511, []) 78112 10 = true := by decide +kernel
theorem sn_587 {W : Bool} {X : List Int32} : y_Snd (mGw W) mLT1 (J2 W X) X cx_587 := y_ok J2_J mTS2_ok1 mTC2_ok1 mRUp_ok1 (List.forall_mem_cons.mpr ⟨sn_586, fun _ h => absurd h List.not_mem_nil⟩) ck_587
def cx_588pi_0 (t : List (Int × Int)) : List (Int × Int) := ui0 :: ui846 :: (0, 1) :: ui49 :: (0, 1) :: ui439 :: ui31 :: (0, 6) :: t
def cx_588pi_1 (t : List (Int × Int)) : List (Int × Int) := (0, 6) :: ui49 :: ui49 :: ui196 :: ui196 :: ui439 :: (0, 6) :: t
def cx_588pr_0 (t : List (Nat × Bool)) : List (Nat × Bool) := ur1414 :: ur1461 :: ur1462 :: ur1472 :: ur1473 :: ur1474 :: ur1475 :: ur1476 :: t
def cx_588pr_1 (t : List (Nat × Bool)) : List (Nat × Bool) := ur1470 :: ur1471 :: ur1463 :: ur1575 :: ur1576 :: ur1963 :: ur1983 :: ur1468 :: t
def cx_588pr_2 (t : List (Nat × Bool)) : List (Nat × Bool) := ur1469 :: ur2213 :: ur2284 :: ur2285 :: t
def cx_588pf_0 (t : List zFa) : List zFa := uF2098 :: uF2204 :: uF2205 :: uF2206 :: uF1477 :: uF1478 :: uF2105 :: uF2106 :: t
def cx_588pf_1 (t : List zFa) : List zFa := uF2107 :: uF2108 :: uF2109 :: uF1708 :: uF1709 :: uF2110 :: uF2111 :: uF2112 :: t
def cx_588pf_2 (t : List zFa) : List zFa := uF2113 :: uF2282 :: (0, (false, 29, 0, []), 2, 15, 0, []) :: (0, (false, 30, 0, []), 2, 16, 0, []) :: (0, (false, 54, 0, []), 2, 17, 0, []) :: (0, (false, 51, 0, []), 2, 18, 0, []) :: (0, (false, 52, 0, []), 2, 19, 0, []) :: (10, (true, 0, 0, [(2, 1)]), 0, 0, 0, [(14, 1)]) :: t
def cx_588pg_0 (t : List zTg) : List zTg := uG2145 :: uG2201 :: uG1978 :: uG2252 :: uG2253 :: uG2254 :: uG2302 :: uG2303 :: t
def cx_588pg_1 (t : List zTg) : List zTg := uG2304 :: uG2276 :: t
def cx_588p : zS := ((cx_588pi_0 (cx_588pi_1 [])), (cx_588pr_0 (cx_588pr_1 (cx_588pr_2 []))), [uL1187, uL2231], [], [uV2, uV11], (cx_588pf_0 (cx_588pf_1 (cx_588pf_2 []))), (cx_588pg_0 (cx_588pg_1 [])))
def cx_588q0 : zS := ((cx_588pi_0 (cx_588pi_1 [])), (cx_588pr_0 (cx_588pr_1 (cx_588pr_2 []))), [], [], [uV781], [uF2232], [uG1978, uG1979, uG2201, uG2233, uG1972, uG2120, uG2278])
/-- M.years -/
def cx_588 : zCtx := (253, cx_588p, [cx_588q0], kc_81, 78640, 6, 127)
set_option maxRecDepth 1000000 in
theorem ck_588 : x_ok mLT1 [cx_579, cx_556, cx_587, cx_558] mTS2 mTC2 mRUp cx_588 [(1, [0]), (22, [1]), (27, [2]), (31, [3])] [(25, uN2305), (41, [1000988])] [] (17, []) 78623 20 = true := by decide +kernel
theorem sn_588 {W : Bool} {X : List Int32} : y_Snd (mGw W) mLT1 (J2 W X) X cx_588 := y_ok J2_J mTS2_ok1 mTC2_ok1 mRUp_ok1 (List.forall_mem_cons.mpr ⟨sn_579, List.forall_mem_cons.mpr ⟨sn_556, List.forall_mem_cons.mpr ⟨sn_587, List.forall_mem_cons.mpr ⟨sn_558, fun _ h => absurd h List.not_mem_nil⟩⟩⟩⟩) ck_588
def cx_589pi_0 (t : List (Int × Int)) : List (Int × Int) := ui0 :: ui846 :: (0, 1) :: ui49 :: (0, 1) :: ui758 :: ui31 :: (0, 6) :: t
def cx_589pi_1 (t : List (Int × Int)) : List (Int × Int) := (0, 6) :: ui49 :: ui49 :: ui196 :: ui196 :: ui439 :: (0, 6) :: t
def cx_589pg_0 (t : List zTg) : List zTg := uG2145 :: uG2201 :: uG1978 :: uG2252 :: uG2253 :: uG2254 :: uG2302 :: uG2303 :: t
def cx_589pg_1 (t : List zTg) : List zTg := uG2304 :: uG2280 :: t
def cx_589p : zS := ((cx_589pi_0 (cx_589pi_1 [])), (cx_588pr_0 (cx_588pr_1 (cx_588pr_2 []))), [uL1187, uL2239, uL2240], [], [uV2, uV11], (cx_588pf_0 (cx_588pf_1 (cx_588pf_2 []))), (cx_589pg_0 (cx_589pg_1 [])))
def cx_589q0 : zS := ((cx_589pi_0 (cx_589pi_1 [])), (cx_588pr_0 (cx_588pr_1 (cx_588pr_2 []))), [], [], [uV781], [uF2237], [uG1978, uG1979, uG2201, uG2238, uG1972, uG2120, uG2281])
/-- M.years -/
def cx_589 : zCtx := (253, cx_589p, [cx_589q0], kc_81, 1305412, 6, 127)
set_option maxRecDepth 1000000 in
theorem ck_589 : x_ok mLT1 [cx_579, cx_556, cx_587, cx_561] mTS2 mTC2 mRUp cx_589 [(1, [0]), (22, [1]), (27, [2]), (31, [3])] [(25, uN2305), (41, [1000988])] [] (17, []) 1305395 20 = true := by decide +kernel
theorem sn_589 {W : Bool} {X : List Int32} : y_Snd (mGw W) mLT1 (J2 W X) X cx_589 := y_ok J2_J mTS2_ok1 mTC2_ok1 mRUp_ok1 (List.forall_mem_cons.mpr ⟨sn_579, List.forall_mem_cons.mpr ⟨sn_556, List.forall_mem_cons.mpr ⟨sn_587, List.forall_mem_cons.mpr ⟨sn_561, fun _ h => absurd h List.not_mem_nil⟩⟩⟩⟩) ck_589
/-- M.undo -/
def cx_590 : zCtx := (260, ([ui0, (0, 0), (0, 6), (0, 6), ui49, ui49], [ur1414, ur1983, ur2213], [uL2306], [], [uV2], [uF2214, uF2215, uF2307], [uG2201, uG1978, uG794]), [([ui0, (0, 0), (0, 6), (0, 6), ui49, ui49], [ur1414, ur1983, ur2213], [uL2306], [], [uV62], [], [uG794])], [], 5, 0, 0)
set_option maxRecDepth 1000000 in
theorem ck_590 : x_ok mLT1 [] mTS2 mTC2 mRUp cx_590 [] [] [] (5, []) 0 8 = true := by decide +kernel
theorem sn_590 {W : Bool} {X : List Int32} : y_Snd (mGw W) mLT1 (J2 W X) X cx_590 := y_ok J2_J mTS2_ok1 mTC2_ok1 mRUp_ok1 (fun _ h => absurd h List.not_mem_nil) ck_590
/-- M.undo -/
def cx_591 : zCtx := (260, ([ui0, ui1050, (0, 6), (0, 6), ui49, ui49], [ur1414, ur1983, ur2213], [uL160], [], [uV2], [uF2214, uF2215, uF2307], [uG2201, uG1978, (245, [uL67, uL23, uL98, uL104, uL160])]), [([ui0, ui1050, (0, 6), (0, 6), ui49, ui49], [ur1414, ur1983, ur2213], [], [], [uV64], [(0, (false, 53, 0, []), 0, 0, (-1), [(1, 1)])], [uG1978, uG1979, uG794])], [uk2217, uk1980], 610, 0, 0)
def cq_591 : List zCtx := []
def cs_591 : List (Nat × List Nat) := []
def hs_591 : List (Nat × List Nat) := [(9, [17]), (53, [1554, 1000706])]
def ns_591 : List zN := []
set_option maxRecDepth 1000000 in
theorem ca_591 : x_okA mLT1 cq_591 mTS2 mTC2 mRUp cx_591 cs_591 hs_591 ns_591 (610, []) 0 613 = true := by decide +kernel
set_option maxRecDepth 1000000 in
theorem cc_591 : x_okC mLT1 cq_591 mTS2 mTC2 mRUp cx_591 cs_591 hs_591 ns_591 (610, []) 0 613 = true := by decide +kernel
theorem ck_591 : x_ok mLT1 cq_591 mTS2 mTC2 mRUp cx_591 cs_591 hs_591 ns_591 (610, []) 0 613 = true := x_ok_of ca_591 (fun _ h => absurd h List.not_mem_nil) cc_591
theorem sn_591 {W : Bool} {X : List Int32} : y_Snd (mGw W) mLT1 (J2 W X) X cx_591 := y_ok J2_J mTS2_ok1 mTC2_ok1 mRUp_ok1 (fun _ h => absurd h List.not_mem_nil) ck_591
end
