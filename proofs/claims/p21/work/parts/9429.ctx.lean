noncomputable section
/-! ===== readings, by program, checked by the kernel ===== -/
def cx_619pi_0 (t : List (Int × Int)) : List (Int × Int) := ui0 :: ui799 :: (0, 1) :: ui49 :: (0, 1) :: (0, 6) :: ui31 :: (0, 6) :: t
def cx_619pi_1 (t : List (Int × Int)) : List (Int × Int) := (0, 6) :: ui49 :: ui49 :: ui196 :: (0, 6) :: t
def cx_619pr_0 (t : List (Nat × Bool)) : List (Nat × Bool) := ur1331 :: ur2262 :: ur1378 :: ur1379 :: ur1389 :: ur1390 :: ur1391 :: ur1392 :: t
def cx_619pr_1 (t : List (Nat × Bool)) : List (Nat × Bool) := ur1393 :: ur1387 :: ur1388 :: ur1380 :: ur1492 :: ur1493 :: ur1382 :: ur1885 :: t
def cx_619pr_2 (t : List (Nat × Bool)) : List (Nat × Bool) := ur1383 :: ur2263 :: ur2264 :: ur2265 :: ur2266 :: ur2267 :: t
def cx_619pf_0 (t : List zFa) : List zFa := uF2020 :: uF2122 :: uF2123 :: uF2268 :: uF2269 :: uF2270 :: uF2271 :: uF2272 :: t
def cx_619pf_1 (t : List zFa) : List zFa := uF2273 :: uF2274 :: uF2275 :: uF2276 :: uF2277 :: uF2278 :: uF2279 :: uF2280 :: t
def cx_619pf_2 (t : List zFa) : List zFa := uF2281 :: uF2282 :: uF2283 :: uF2284 :: uF2285 :: uF2286 :: uF2287 :: uF2288 :: t
def cx_619pf_3 (t : List zFa) : List zFa := uF2289 :: (11, (true, 0, 0, [(2, 1)]), 0, 0, 0, [(12, 1)]) :: t
def cx_619pg_0 (t : List zTg) : List zTg := uG2067 :: uG2170 :: uG2171 :: uG2172 :: uG2173 :: uG2042 :: uG2174 :: t
def cx_619p : zS := ((cx_619pi_0 (cx_619pi_1 [])), (cx_619pr_0 (cx_619pr_1 (cx_619pr_2 []))), [uL1172], [], [uV2, uV11], (cx_619pf_0 (cx_619pf_1 (cx_619pf_2 (cx_619pf_3 [])))), (cx_619pg_0 []))
/-- M.orders -/
def cx_619 : zCtx := (272, cx_619p, [([ui0, ui799, (0, 1), ui49, (0, 1), (0, 6), ui31, (0, 6), (0, 6), ui49, ui49, ui196, (0, 6)], [ur1331, ur2262, ur1378, ur1379, ur1389, ur1390, ur1391, ur1392, ur1393, ur1387, ur1388, ur1380, ur1492, ur1493, ur1382, ur1885, ur1383, ur2263, ur2264, ur2265, ur2266, ur2267], [], [], [uV61], [], [uG2042])], [], 19, 2, 42)
set_option maxRecDepth 1000000 in
theorem ck_619 : x_ok mLT1 [cx_554] mTS2 mTC2 mRUp cx_619 [(1, [0])] [] [] (5, []) 14 8 = true := by decide +kernel
theorem sn_619 {W : Bool} {X : List Int32} : y_Snd (mGw W) mLT1 (J2 W X) X cx_619 := y_ok J2_J mTS2_ok1 mTC2_ok1 mRUp_ok1 (List.forall_mem_cons.mpr ⟨sn_554, fun _ h => absurd h List.not_mem_nil⟩) ck_619
def cx_620pr_0 (t : List (Nat × Bool)) : List (Nat × Bool) := ur1331 :: ur1378 :: ur1379 :: ur1389 :: ur1390 :: ur1391 :: ur1392 :: ur1393 :: t
def cx_620pr_1 (t : List (Nat × Bool)) : List (Nat × Bool) := ur1387 :: ur1388 :: ur1380 :: ur1492 :: ur1493 :: ur1885 :: ur2263 :: ur2264 :: t
def cx_620pr_2 (t : List (Nat × Bool)) : List (Nat × Bool) := ur1382 :: ur2265 :: ur2266 :: ur2267 :: t
def cx_620pf_0 (t : List zFa) : List zFa := uF1886 :: uF1394 :: uF1395 :: uF2027 :: uF2028 :: uF2029 :: uF2030 :: uF2031 :: t
def cx_620pf_1 (t : List zFa) : List zFa := uF1625 :: uF1626 :: uF2032 :: uF2033 :: uF2034 :: uF2035 :: uF2290 :: uF2291 :: t
def cx_620pf_2 (t : List zFa) : List zFa := uF2292 :: uF2293 :: uF2294 :: uF2295 :: uF2296 :: t
def cx_620p : zS := ((cx_579pi_0 (cx_579pi_1 [])), (cx_620pr_0 (cx_620pr_1 (cx_620pr_2 []))), [uL511, uL511], [], [uV2], (cx_620pf_0 (cx_620pf_1 (cx_620pf_2 []))), [uG2209, uG2228, uG2229, uG2230, uG2232, uG2231])
def cx_620q0g_0 (t : List zTg) : List zTg := uG2297 :: uG2298 :: uG2298 :: (328, [uL67, uL98, uL104, uL78, uL79, uL131, uL164, uL4, uL23, uL63]) :: t
def cx_620q0 : zS := ((cx_579pi_0 (cx_579pi_1 [])), (cx_620pr_0 (cx_620pr_1 (cx_620pr_2 []))), [uL511], [], [], [], (cx_620q0g_0 []))
/-- M.fillsPlans -/
def cx_620 : zCtx := (273, cx_620p, [cx_620q0], kc_83, 79793, 5, 108)
def cq_620 : List zCtx := [cx_505, cx_514, cx_519, cx_533, cx_538, cx_596]
def cs_620 : List (Nat × List Nat) := [(15, [0]), (23, [1]), (59, [0]), (67, [2]), (98, [3]), (121, [4]), (141, [5])]
def hs_620 : List (Nat × List Nat) := [(0, [1001087, 1001088, 1001089]), (52, [1001090, 1001091, 1001092]), (75, [1001093, 1001094]), (93, [1000023]), (94, [1001095]), (97, [1000679]), (98, [1001096, 1001097]), (157, [1001098, 1001099, 1001100, 1001101])]
def nd_620_0pi_0 (t : List (Int × Int)) : List (Int × Int) := ui0 :: (0, 1) :: ui31 :: (0, 6) :: ui49 :: ui49 :: ui49 :: ui49 :: t
def nd_620_0pi_1 (t : List (Int × Int)) : List (Int × Int) := ui49 :: ui49 :: (0, 6) :: (0, 6) :: t
def nd_620_0pf_0 (t : List zFa) : List zFa := uF1886 :: uF1394 :: uF1395 :: uF2027 :: uF2028 :: uF2029 :: uF2030 :: uF2031 :: t
def nd_620_0pf_1 (t : List zFa) : List zFa := uF1625 :: uF1626 :: uF2032 :: uF2033 :: uF2034 :: uF2035 :: uF2290 :: uF2291 :: t
def nd_620_0pf_2 (t : List zFa) : List zFa := uF2293 :: uF2294 :: uF2295 :: uF2296 :: t
def nd_620_0pg_0 (t : List zTg) : List zTg := uG2209 :: uG2228 :: uG2229 :: uG2230 :: uG2232 :: uG2231 :: (278, [uL67, uL98, uL104, uL78, uL79, uL131, uL164, uL195]) :: (343, [uL67, uL98, uL104, uL78, uL79, uL131, uL164, uL195, uL23]) :: t
def nd_620_0pg_1 (t : List zTg) : List zTg := (328, [uL67, uL98, uL104, uL78, uL79, uL131, uL164, uL63, uL23, uL63]) :: t
def nd_620_0p : zS := ((nd_620_0pi_0 (nd_620_0pi_1 [])), (cx_620pr_0 (cx_620pr_1 (cx_620pr_2 []))), [uL511, uL195, uL1129], [uV2, uV840], [], (nd_620_0pf_0 (nd_620_0pf_1 (nd_620_0pf_2 []))), (nd_620_0pg_0 (nd_620_0pg_1 [])))
def nd_620_0 : zN := (2, nd_620_0p, (2152, [(11, (-37))]))
def nd_620_1pi_0 (t : List (Int × Int)) : List (Int × Int) := ui0 :: (0, 1) :: ui31 :: (0, 6) :: ui49 :: ui49 :: ui49 :: ui49 :: t
def nd_620_1pi_1 (t : List (Int × Int)) : List (Int × Int) := ui49 :: ui49 :: (0, 6) :: ui439 :: t
def nd_620_1pg_0 (t : List zTg) : List zTg := uG2209 :: uG2228 :: uG2229 :: uG2230 :: uG2232 :: uG2231 :: uG2297 :: uG2298 :: t
def nd_620_1pg_1 (t : List zTg) : List zTg := (328, [uL67, uL98, uL104, uL78, uL79, uL131, uL164, uL195, uL23, uL63]) :: t
def nd_620_1p : zS := ((nd_620_1pi_0 (nd_620_1pi_1 [])), (cx_620pr_0 (cx_620pr_1 (cx_620pr_2 []))), [uL511, uL195, (36, [(11, (-1))])], [uV2, uV840], [], (nd_620_0pf_0 (nd_620_0pf_1 (nd_620_0pf_2 []))), (nd_620_1pg_0 (nd_620_1pg_1 [])))
def nd_620_1 : zN := (83, nd_620_1p, (1924, [(11, (-48))]))
def ns_620 : List zN := [nd_620_0, nd_620_1]
set_option maxRecDepth 1000000 in
theorem ca_620 : x_okA mLT1 cq_620 mTS2 mTC2 mRUp cx_620 cs_620 hs_620 ns_620 (2155, []) 77638 50 = true := by decide +kernel
set_option maxRecDepth 1000000 in
theorem cb_620_0 : x_okB mLT1 cq_620 mTS2 mTC2 mRUp cx_620 cs_620 hs_620 ns_620 (2155, []) 77638 50 nd_620_0 = true := by decide +kernel
set_option maxRecDepth 1000000 in
theorem cb_620_1 : x_okB mLT1 cq_620 mTS2 mTC2 mRUp cx_620 cs_620 hs_620 ns_620 (2155, []) 77638 50 nd_620_1 = true := by decide +kernel
set_option maxRecDepth 1000000 in
theorem cc_620 : x_okC mLT1 cq_620 mTS2 mTC2 mRUp cx_620 cs_620 hs_620 ns_620 (2155, []) 77638 50 = true := by decide +kernel
theorem ck_620 : x_ok mLT1 cq_620 mTS2 mTC2 mRUp cx_620 cs_620 hs_620 ns_620 (2155, []) 77638 50 = true := x_ok_of ca_620 (List.forall_mem_cons.mpr ⟨cb_620_0, List.forall_mem_cons.mpr ⟨cb_620_1, fun _ h => absurd h List.not_mem_nil⟩⟩) cc_620
theorem sn_620 {W : Bool} {X : List Int32} : y_Snd (mGw W) mLT1 (J2 W X) X cx_620 := y_ok J2_J mTS2_ok1 mTC2_ok1 mRUp_ok1 (List.forall_mem_cons.mpr ⟨sn_505, List.forall_mem_cons.mpr ⟨sn_514, List.forall_mem_cons.mpr ⟨sn_519, List.forall_mem_cons.mpr ⟨sn_533, List.forall_mem_cons.mpr ⟨sn_538, List.forall_mem_cons.mpr ⟨sn_596, fun _ h => absurd h List.not_mem_nil⟩⟩⟩⟩⟩⟩) ck_620
/-- M.isIn -/
def cx_621 : zCtx := (276, ([ui0, (0, 6)], [ur1331, ur2262], [], [], [uV2, uV62], [uF2299, uF2269], []), [([ui0, (1, 6)], [ur1331, ur2262], [], [], [uV64], [], [(334, [uL63, uL9])]), ([ui0, (0, 6)], [ur1331, ur2262], [], [], [uV62], [], [uG2300, (342, [uL63, uL9])])], [], 87, 0, 0)
set_option maxRecDepth 1000000 in
theorem ck_621 : x_ok mLT1 [] mTS2 mTC2 mRUp cx_621 [] [(1, [97, 1001105]), (21, [1001128]), (22, [34, 1001129, 1001130]), (28, [1001106])] [(2, ([(0, 3072), (0, 6), (0, 6)], [(12, false), (87, false)], [(0, [(1, 1), (2, (-1))]), (0, [(2, 1)]), (6, [(2, (-1))])], [(2, 0, 0, []), (0, 0, 0, []), (0, 0, 0, [(2, 1)])], [], [(0, (false, 61, 0, []), 0, 0, 0, [(1, 1)]), (0, (false, 60, 0, []), 2, 1, 0, [])], [(9, [(0, []), (0, [])]), (9, [(0, []), (0, [(2, 1)])]), (342, [(0, []), (0, [(2, 1)])])]), (84, [(2, (-13))]))] (87, []) 0 15 = true := by decide +kernel
theorem sn_621 {W : Bool} {X : List Int32} : y_Snd (mGw W) mLT1 (J2 W X) X cx_621 := y_ok J2_J mTS2_ok1 mTC2_ok1 mRUp_ok1 (fun _ h => absurd h List.not_mem_nil) ck_621
/-- M.isIn -/
def cx_622 : zCtx := (276, ([ui0, (0, 6)], [ur1331, ur2262], [], [], [uV2, uV64], [uF2299, uF2269], []), [([ui0, (1, 6)], [ur1331, ur2262], [], [], [uV64], [], [(334, [uL65, uL9])]), ([ui0, (0, 6)], [ur1331, ur2262], [], [], [uV62], [], [uG2301, (342, [uL65, uL9])])], [], 87, 0, 0)
set_option maxRecDepth 1000000 in
theorem ck_622 : x_ok mLT1 [] mTS2 mTC2 mRUp cx_622 [] [(1, [97, 1001105]), (21, [1001128]), (22, [34, 1001129, 1001130]), (28, [1001106])] [(2, ([(0, 3072), (0, 6), (0, 6)], [(12, false), (87, false)], [(0, [(1, 1), (2, (-1))]), (0, [(2, 1)]), (6, [(2, (-1))])], [(2, 0, 0, []), (0, 0, 1, []), (0, 0, 0, [(2, 1)])], [], [(0, (false, 61, 0, []), 0, 0, 0, [(1, 1)]), (0, (false, 60, 0, []), 2, 1, 0, [])], [(9, [(1, []), (0, [])]), (9, [(1, []), (0, [(2, 1)])]), (342, [(1, []), (0, [(2, 1)])])]), (84, [(2, (-13))]))] (87, []) 0 15 = true := by decide +kernel
theorem sn_622 {W : Bool} {X : List Int32} : y_Snd (mGw W) mLT1 (J2 W X) X cx_622 := y_ok J2_J mTS2_ok1 mTC2_ok1 mRUp_ok1 (fun _ h => absurd h List.not_mem_nil) ck_622
/-- M.isIn -/
def cx_623 : zCtx := (276, ([ui0, (0, 6)], [ur1331, ur2262], [], [], [uV2, uV389], [uF2299, uF2269], []), [([ui0, (1, 6)], [ur1331, ur2262], [], [], [uV64], [], [(334, [uL114, uL9])]), ([ui0, (0, 6)], [ur1331, ur2262], [], [], [uV62], [], [uG2302, (342, [uL114, uL9])])], [], 87, 0, 0)
set_option maxRecDepth 1000000 in
theorem ck_623 : x_ok mLT1 [] mTS2 mTC2 mRUp cx_623 [] [(1, [97, 1001105]), (21, [1001128]), (22, [34, 1001129, 1001130]), (28, [1001106])] [(2, ([(0, 3072), (0, 6), (0, 6)], [(12, false), (87, false)], [(0, [(1, 1), (2, (-1))]), (0, [(2, 1)]), (6, [(2, (-1))])], [(2, 0, 0, []), (0, 0, 2, []), (0, 0, 0, [(2, 1)])], [], [(0, (false, 61, 0, []), 0, 0, 0, [(1, 1)]), (0, (false, 60, 0, []), 2, 1, 0, [])], [(9, [(2, []), (0, [])]), (9, [(2, []), (0, [(2, 1)])]), (342, [(2, []), (0, [(2, 1)])])]), (84, [(2, (-13))]))] (87, []) 0 15 = true := by decide +kernel
theorem sn_623 {W : Bool} {X : List Int32} : y_Snd (mGw W) mLT1 (J2 W X) X cx_623 := y_ok J2_J mTS2_ok1 mTC2_ok1 mRUp_ok1 (fun _ h => absurd h List.not_mem_nil) ck_623
/-- M.isIn -/
def cx_624 : zCtx := (276, ([ui0, (0, 6)], [ur1331, ur2262], [], [], [uV2, uV385], [uF2299, uF2269], []), [([ui0, (1, 6)], [ur1331, ur2262], [], [], [uV64], [], [(334, [uL211, uL9])]), ([ui0, (0, 6)], [ur1331, ur2262], [], [], [uV62], [], [uG2303, (342, [uL211, uL9])])], [], 87, 0, 0)
set_option maxRecDepth 1000000 in
theorem ck_624 : x_ok mLT1 [] mTS2 mTC2 mRUp cx_624 [] [(1, [97, 1001105]), (21, [1001128]), (22, [34, 1001129, 1001130]), (28, [1001106])] [(2, ([(0, 3072), (0, 6), (0, 6)], [(12, false), (87, false)], [(0, [(1, 1), (2, (-1))]), (0, [(2, 1)]), (6, [(2, (-1))])], [(2, 0, 0, []), (0, 0, 3, []), (0, 0, 0, [(2, 1)])], [], [(0, (false, 61, 0, []), 0, 0, 0, [(1, 1)]), (0, (false, 60, 0, []), 2, 1, 0, [])], [(9, [(3, []), (0, [])]), (9, [(3, []), (0, [(2, 1)])]), (342, [(3, []), (0, [(2, 1)])])]), (84, [(2, (-13))]))] (87, []) 0 15 = true := by decide +kernel
theorem sn_624 {W : Bool} {X : List Int32} : y_Snd (mGw W) mLT1 (J2 W X) X cx_624 := y_ok J2_J mTS2_ok1 mTC2_ok1 mRUp_ok1 (fun _ h => absurd h List.not_mem_nil) ck_624
/-- M.isIn -/
def cx_625 : zCtx := (276, ([ui0, (0, 6)], [ur1331, ur2262], [], [], [uV2, uV381], [uF2299, uF2269], []), [([ui0, (1, 6)], [ur1331, ur2262], [], [], [uV64], [], [(334, [uL36, uL9])]), ([ui0, (0, 6)], [ur1331, ur2262], [], [], [uV62], [], [uG2304, (342, [uL36, uL9])])], [], 87, 0, 0)
set_option maxRecDepth 1000000 in
theorem ck_625 : x_ok mLT1 [] mTS2 mTC2 mRUp cx_625 [] [(1, [97, 1001105]), (21, [1001128]), (22, [34, 1001129, 1001130]), (28, [1001106])] [(2, ([(0, 3072), (0, 6), (0, 6)], [(12, false), (87, false)], [(0, [(1, 1), (2, (-1))]), (0, [(2, 1)]), (6, [(2, (-1))])], [(2, 0, 0, []), (0, 0, 4, []), (0, 0, 0, [(2, 1)])], [], [(0, (false, 61, 0, []), 0, 0, 0, [(1, 1)]), (0, (false, 60, 0, []), 2, 1, 0, [])], [(9, [(4, []), (0, [])]), (9, [(4, []), (0, [(2, 1)])]), (342, [(4, []), (0, [(2, 1)])])]), (84, [(2, (-13))]))] (87, []) 0 15 = true := by decide +kernel
theorem sn_625 {W : Bool} {X : List Int32} : y_Snd (mGw W) mLT1 (J2 W X) X cx_625 := y_ok J2_J mTS2_ok1 mTC2_ok1 mRUp_ok1 (fun _ h => absurd h List.not_mem_nil) ck_625
/-- M.isIn -/
def cx_626 : zCtx := (276, ([ui0, (0, 6)], [ur1331, ur2262], [], [], [uV2, uV3], [uF2299, uF2269], []), [([ui0, (1, 6)], [ur1331, ur2262], [], [], [uV64], [], [(334, [uL246, uL9])]), ([ui0, (0, 6)], [ur1331, ur2262], [], [], [uV62], [], [uG2305, (342, [uL246, uL9])])], [], 87, 0, 0)
set_option maxRecDepth 1000000 in
theorem ck_626 : x_ok mLT1 [] mTS2 mTC2 mRUp cx_626 [] [(1, [97, 1001105]), (21, [1001128]), (22, [34, 1001129, 1001130]), (28, [1001106])] [(2, ([(0, 3072), (0, 6), (0, 6)], [(12, false), (87, false)], [(0, [(1, 1), (2, (-1))]), (0, [(2, 1)]), (6, [(2, (-1))])], [(2, 0, 0, []), (0, 0, 5, []), (0, 0, 0, [(2, 1)])], [], [(0, (false, 61, 0, []), 0, 0, 0, [(1, 1)]), (0, (false, 60, 0, []), 2, 1, 0, [])], [(9, [(5, []), (0, [])]), (9, [(5, []), (0, [(2, 1)])]), (342, [(5, []), (0, [(2, 1)])])]), (84, [(2, (-13))]))] (87, []) 0 15 = true := by decide +kernel
theorem sn_626 {W : Bool} {X : List Int32} : y_Snd (mGw W) mLT1 (J2 W X) X cx_626 := y_ok J2_J mTS2_ok1 mTC2_ok1 mRUp_ok1 (fun _ h => absurd h List.not_mem_nil) ck_626
/-- M.nextFrom -/
def cx_627 : zCtx := (275, ([ui0, (0, 6), ui49, ui49, ui49, ui49, ui49, ui49, ui49], [ur1331, ur2262, ur2263], [], [], [uV2, uV62], [uF2299, uF2269, uF2306], [uG2307]), [([ui0, (0, 6), ui49, ui49, ui49, ui49, ui49, ui49, ui49], [ur1331, ur2262, ur2263], [], [], [uV62], [], [uG2300, (333, [uL67, uL23, uL98, uL104, uL78, uL79, uL131, uL63, uL9, uL63])]), ([ui0, (0, 6), ui49, ui49, ui49, ui49, ui49, ui49, ui49], [ur1331, ur2262, ur2263], [], [], [uV64], [], [uG2301, (333, [uL67, uL23, uL98, uL104, uL78, uL79, uL131, uL63, uL9, uL65])]), ([ui0, (0, 6), ui49, ui49, ui49, ui49, ui49, ui49, ui49], [ur1331, ur2262, ur2263], [], [], [uV389], [], [uG2302, (333, [uL67, uL23, uL98, uL104, uL78, uL79, uL131, uL63, uL9, uL114])]), ([ui0, (0, 6), ui49, ui49, ui49, ui49, ui49, ui49, ui49], [ur1331, ur2262, ur2263], [], [], [uV385], [], [uG2303, (333, [uL67, uL23, uL98, uL104, uL78, uL79, uL131, uL63, uL9, uL211])]), ([ui0, (0, 6), ui49, ui49, ui49, ui49, ui49, ui49, ui49], [ur1331, ur2262, ur2263], [], [], [uV381], [], [uG2304, (333, [uL67, uL23, uL98, uL104, uL78, uL79, uL131, uL63, uL9, uL36])]), ([ui0, (0, 6), ui49, ui49, ui49, ui49, ui49, ui49, ui49], [ur1331, ur2262, ur2263], [], [], [uV3], [], [uG2305, (333, [uL67, uL23, uL98, uL104, uL78, uL79, uL131, uL63, uL9, uL246])]), ([ui0, (0, 6), ui49, ui49, ui49, ui49, ui49, ui49, ui49], [ur1331, ur2262, ur2263], [], [], [uV61], [], [(333, [uL67, uL23, uL98, uL104, uL78, uL79, uL131, uL63, uL9, uL99])])], [], 178, 1, 22)
def cq_627 : List zCtx := [cx_621, cx_622, cx_623, cx_624, cx_625, cx_626]
def cs_627 : List (Nat × List Nat) := [(19, [0, 1, 2, 3, 4, 5])]
def hs_627 : List (Nat × List Nat) := [(0, [1001104]), (26, [1001107]), (27, uN2308), (34, [1001110])]
def ns_627 : List zN := []
set_option maxRecDepth 1000000 in
theorem ca_627 : x_okA mLT1 cq_627 mTS2 mTC2 mRUp cx_627 cs_627 hs_627 ns_627 (91, []) 87 94 = true := by decide +kernel
set_option maxRecDepth 1000000 in
theorem cc_627 : x_okC mLT1 cq_627 mTS2 mTC2 mRUp cx_627 cs_627 hs_627 ns_627 (91, []) 87 94 = true := by decide +kernel
theorem ck_627 : x_ok mLT1 cq_627 mTS2 mTC2 mRUp cx_627 cs_627 hs_627 ns_627 (91, []) 87 94 = true := x_ok_of ca_627 (fun _ h => absurd h List.not_mem_nil) cc_627
theorem sn_627 {W : Bool} {X : List Int32} : y_Snd (mGw W) mLT1 (J2 W X) X cx_627 := y_ok J2_J mTS2_ok1 mTC2_ok1 mRUp_ok1 (List.forall_mem_cons.mpr ⟨sn_621, List.forall_mem_cons.mpr ⟨sn_622, List.forall_mem_cons.mpr ⟨sn_623, List.forall_mem_cons.mpr ⟨sn_624, List.forall_mem_cons.mpr ⟨sn_625, List.forall_mem_cons.mpr ⟨sn_626, fun _ h => absurd h List.not_mem_nil⟩⟩⟩⟩⟩⟩) ck_627
/-- M.nextFrom -/
def cx_628 : zCtx := (275, ([ui0, (0, 5), ui49, ui49, ui49, ui49, ui49, ui49, ui49], [ur1331, ur2262, ur2263], [], [], [uV2, uV64], [uF2299, uF2269, uF2306], [uG2307]), [([ui0, (0, 5), ui49, ui49, ui49, ui49, ui49, ui49, ui49], [ur1331, ur2262, ur2263], [], [], [uV64], [], [uG2301, (333, [uL67, uL23, uL98, uL104, uL78, uL79, uL131, uL65, uL9, uL65])]), ([ui0, (0, 5), ui49, ui49, ui49, ui49, ui49, ui49, ui49], [ur1331, ur2262, ur2263], [], [], [uV389], [], [uG2302, (333, [uL67, uL23, uL98, uL104, uL78, uL79, uL131, uL65, uL9, uL114])]), ([ui0, (0, 5), ui49, ui49, ui49, ui49, ui49, ui49, ui49], [ur1331, ur2262, ur2263], [], [], [uV385], [], [uG2303, (333, [uL67, uL23, uL98, uL104, uL78, uL79, uL131, uL65, uL9, uL211])]), ([ui0, (0, 5), ui49, ui49, ui49, ui49, ui49, ui49, ui49], [ur1331, ur2262, ur2263], [], [], [uV381], [], [uG2304, (333, [uL67, uL23, uL98, uL104, uL78, uL79, uL131, uL65, uL9, uL36])]), ([ui0, (0, 5), ui49, ui49, ui49, ui49, ui49, ui49, ui49], [ur1331, ur2262, ur2263], [], [], [uV3], [], [uG2305, (333, [uL67, uL23, uL98, uL104, uL78, uL79, uL131, uL65, uL9, uL246])]), ([ui0, (0, 5), ui49, ui49, ui49, ui49, ui49, ui49, ui49], [ur1331, ur2262, ur2263], [], [], [uV61], [], [(333, [uL67, uL23, uL98, uL104, uL78, uL79, uL131, uL65, uL9, uL99])])], [], 164, 1, 22)
def cq_628 : List zCtx := [cx_622, cx_623, cx_624, cx_625, cx_626]
def cs_628 : List (Nat × List Nat) := [(19, [0, 1, 2, 3, 4])]
def hs_628 : List (Nat × List Nat) := [(0, [1001104]), (26, [1001107]), (27, uN2308), (34, [1001110])]
def ns_628 : List zN := []
set_option maxRecDepth 1000000 in
theorem ca_628 : x_okA mLT1 cq_628 mTS2 mTC2 mRUp cx_628 cs_628 hs_628 ns_628 (77, []) 87 80 = true := by decide +kernel
set_option maxRecDepth 1000000 in
theorem cc_628 : x_okC mLT1 cq_628 mTS2 mTC2 mRUp cx_628 cs_628 hs_628 ns_628 (77, []) 87 80 = true := by decide +kernel
theorem ck_628 : x_ok mLT1 cq_628 mTS2 mTC2 mRUp cx_628 cs_628 hs_628 ns_628 (77, []) 87 80 = true := x_ok_of ca_628 (fun _ h => absurd h List.not_mem_nil) cc_628
theorem sn_628 {W : Bool} {X : List Int32} : y_Snd (mGw W) mLT1 (J2 W X) X cx_628 := y_ok J2_J mTS2_ok1 mTC2_ok1 mRUp_ok1 (List.forall_mem_cons.mpr ⟨sn_622, List.forall_mem_cons.mpr ⟨sn_623, List.forall_mem_cons.mpr ⟨sn_624, List.forall_mem_cons.mpr ⟨sn_625, List.forall_mem_cons.mpr ⟨sn_626, fun _ h => absurd h List.not_mem_nil⟩⟩⟩⟩⟩) ck_628
end
