noncomputable section
/-! ===== readings, by program, checked by the kernel ===== -/
def cx_632pi_0 (t : List (Int × Int)) : List (Int × Int) := ui0 :: ui802 :: (0, 1) :: ui49 :: (0, 1) :: (0, 6) :: ui31 :: (0, 6) :: t
def cx_632pi_1 (t : List (Int × Int)) : List (Int × Int) := (0, 6) :: ui49 :: ui49 :: ui196 :: (0, 6) :: t
def cx_632pr_0 (t : List (Nat × Bool)) : List (Nat × Bool) := ur1414 :: ur2343 :: ur1461 :: ur1462 :: ur1472 :: ur1473 :: ur1474 :: ur1475 :: t
def cx_632pr_1 (t : List (Nat × Bool)) : List (Nat × Bool) := ur1476 :: ur1470 :: ur1471 :: ur1463 :: ur1575 :: ur1576 :: ur1465 :: ur1963 :: t
def cx_632pr_2 (t : List (Nat × Bool)) : List (Nat × Bool) := ur1466 :: ur2344 :: ur2345 :: ur2346 :: ur2347 :: ur2348 :: t
def cx_632pf_0 (t : List zFa) : List zFa := uF2098 :: uF2204 :: uF2205 :: uF2349 :: uF2350 :: uF2351 :: uF2352 :: uF2353 :: t
def cx_632pf_1 (t : List zFa) : List zFa := uF2354 :: uF2355 :: uF2356 :: uF2357 :: uF2358 :: uF2359 :: uF2360 :: uF2361 :: t
def cx_632pf_2 (t : List zFa) : List zFa := uF2362 :: uF2363 :: uF2364 :: uF2365 :: uF2366 :: uF2367 :: uF2368 :: uF2369 :: t
def cx_632pf_3 (t : List zFa) : List zFa := uF2370 :: (11, (true, 0, 0, [(2, 1)]), 0, 0, 0, [(12, 1)]) :: t
def cx_632pg_0 (t : List zTg) : List zTg := uG2145 :: uG2252 :: uG2253 :: uG2254 :: uG2255 :: uG2120 :: uG2256 :: t
def cx_632p : zS := ((cx_632pi_0 (cx_632pi_1 [])), (cx_632pr_0 (cx_632pr_1 (cx_632pr_2 []))), [uL1187], [], [uV2, uV11], (cx_632pf_0 (cx_632pf_1 (cx_632pf_2 (cx_632pf_3 [])))), (cx_632pg_0 []))
/-- M.orders -/
def cx_632 : zCtx := (272, cx_632p, [([ui0, ui802, (0, 1), ui49, (0, 1), (0, 6), ui31, (0, 6), (0, 6), ui49, ui49, ui196, (0, 6)], [ur1414, ur2343, ur1461, ur1462, ur1472, ur1473, ur1474, ur1475, ur1476, ur1470, ur1471, ur1463, ur1575, ur1576, ur1465, ur1963, ur1466, ur2344, ur2345, ur2346, ur2347, ur2348], [], [], [uV61], [], [uG2120])], [], 19, 2, 42)
set_option maxRecDepth 1000000 in
theorem ck_632 : x_ok mLT1 [cx_567] mTS2 mTC2 mRUp cx_632 [(1, [0])] [] [] (5, []) 14 8 = true := by decide +kernel
theorem sn_632 {W : Bool} {X : List Int32} : y_Snd (mGw W) mLT1 (J2 W X) X cx_632 := y_ok J2_J mTS2_ok1 mTC2_ok1 mRUp_ok1 (List.forall_mem_cons.mpr ⟨sn_567, fun _ h => absurd h List.not_mem_nil⟩) ck_632
def cx_633pi_0 (t : List (Int × Int)) : List (Int × Int) := ui0 :: (0, 5) :: (0, 5) :: (9, 9) :: (0, 1) :: ui31 :: (0, 6) :: ui49 :: t
def cx_633pi_1 (t : List (Int × Int)) : List (Int × Int) := ui49 :: ui49 :: ui49 :: ui49 :: ui49 :: t
def cx_633p : zS := ((cx_633pi_0 (cx_633pi_1 [])), (cx_537pr_0 (cx_537pr_1 [])), [uL2186, uL9, uL2187, uL67, uL2188], [], [uV2, uV11, uV12, uV58], (cx_550pf_0 (cx_550pf_1 [])), [uG2189, uG2190, uG2191, uG2192, uG2193])
def cx_633q0i_0 (t : List (Int × Int)) : List (Int × Int) := ui0 :: (0, 5) :: (0, 5) :: (9, 9) :: (0, 1) :: ui31 :: (1, 6) :: ui49 :: t
def cx_633q0i_1 (t : List (Int × Int)) : List (Int × Int) := ui49 :: ui49 :: ui49 :: ui49 :: ui49 :: ui586 :: t
def cx_633q0 : zS := ((cx_633q0i_0 (cx_633q0i_1 [])), (cx_537pr_0 (cx_537pr_1 [])), [uL2188, uL2187, uL2186, uL9, uL67], [], [uV409], [], [(238, [uL1220, uL104, uL79, uL131, uL164, uL170, uL195, uL214, uL9, uL67, uL207])])
/-- M.joinsBy -/
def cx_633 : zCtx := (241, cx_633p, [cx_633q0], [uk2141, uk2133, uk2142], 77629, 3, 63)
set_option maxRecDepth 1000000 in
theorem ck_633 : x_ok mLT1 [cx_533, cx_532, cx_549, cx_536] mTS2 mTC2 mRUp cx_633 [(2, [0]), (20, [1]), (30, [2]), (37, [3])] [(33, uN2194), (40, uN589)] [] (25, []) 77604 28 = true := by decide +kernel
theorem sn_633 {W : Bool} {X : List Int32} : y_Snd (mGw W) mLT1 (J2 W X) X cx_633 := y_ok J2_J mTS2_ok1 mTC2_ok1 mRUp_ok1 (List.forall_mem_cons.mpr ⟨sn_533, List.forall_mem_cons.mpr ⟨sn_532, List.forall_mem_cons.mpr ⟨sn_549, List.forall_mem_cons.mpr ⟨sn_536, fun _ h => absurd h List.not_mem_nil⟩⟩⟩⟩) ck_633
def cx_634pr_0 (t : List (Nat × Bool)) : List (Nat × Bool) := ur1414 :: ur1461 :: ur1462 :: ur1472 :: ur1473 :: ur1474 :: ur1475 :: ur1476 :: t
def cx_634pr_1 (t : List (Nat × Bool)) : List (Nat × Bool) := ur1470 :: ur1471 :: ur1463 :: ur1575 :: ur1576 :: ur1963 :: ur2344 :: ur2345 :: t
def cx_634pr_2 (t : List (Nat × Bool)) : List (Nat × Bool) := ur1465 :: ur2346 :: ur2347 :: ur2348 :: t
def cx_634pf_0 (t : List zFa) : List zFa := uF1964 :: uF1477 :: uF1478 :: uF2105 :: uF2106 :: uF2107 :: uF2108 :: uF2109 :: t
def cx_634pf_1 (t : List zFa) : List zFa := uF1708 :: uF1709 :: uF2110 :: uF2111 :: uF2112 :: uF2113 :: uF2371 :: uF2372 :: t
def cx_634pf_2 (t : List zFa) : List zFa := uF2373 :: uF2374 :: uF2375 :: uF2376 :: uF2377 :: t
def cx_634p : zS := ((cx_592pi_0 (cx_592pi_1 [])), (cx_634pr_0 (cx_634pr_1 (cx_634pr_2 []))), [uL512, uL512], [], [uV2], (cx_634pf_0 (cx_634pf_1 (cx_634pf_2 []))), [uG2290, uG2309, uG2310, uG2311, uG2313, uG2312])
def cx_634q0g_0 (t : List zTg) : List zTg := uG2378 :: uG2379 :: uG2379 :: (328, [uL67, uL98, uL104, uL78, uL79, uL131, uL164, uL4, uL23, uL63]) :: (345, [uL67, uL98, uL104, uL78, uL79, uL131, uL164, uL4, uL23]) :: (346, [uL67, uL98, uL104, uL78, uL79, uL131, uL164, uL4, uL23]) :: t
def cx_634q0 : zS := ((cx_592pi_0 (cx_592pi_1 [])), (cx_634pr_0 (cx_634pr_1 (cx_634pr_2 []))), [uL512], [], [], [], (cx_634q0g_0 []))
/-- M.fillsPlans -/
def cx_634 : zCtx := (273, cx_634p, [cx_634q0], kc_83, 79793, 5, 108)
def cq_634 : List zCtx := [cx_518, cx_527, cx_532, cx_546, cx_551, cx_633]
def cs_634 : List (Nat × List Nat) := [(15, [0]), (23, [1]), (59, [0]), (67, [2]), (98, [3]), (121, [4]), (141, [5])]
def hs_634 : List (Nat × List Nat) := [(0, [1001100, 1001101, 1001102, 1001103, 1001104]), (52, [1001105, 1001106, 1001107]), (75, [1001108, 1001109]), (93, [1000023]), (94, [1001110]), (97, [1000679]), (98, [1001111, 1001112]), (157, [1001113, 1001114, 1001115, 1001116, 1001117, 1001118, 1001119, 1001120, 1001121, 1001122, 1001123, 1001124])]
def nd_634_0pi_0 (t : List (Int × Int)) : List (Int × Int) := ui0 :: (0, 1) :: ui31 :: (0, 6) :: ui49 :: ui49 :: ui49 :: ui49 :: t
def nd_634_0pi_1 (t : List (Int × Int)) : List (Int × Int) := ui49 :: ui49 :: (0, 6) :: (0, 6) :: t
def nd_634_0pf_0 (t : List zFa) : List zFa := uF1964 :: uF1477 :: uF1478 :: uF2105 :: uF2106 :: uF2107 :: uF2108 :: uF2109 :: t
def nd_634_0pf_1 (t : List zFa) : List zFa := uF1708 :: uF1709 :: uF2110 :: uF2111 :: uF2112 :: uF2113 :: uF2371 :: uF2372 :: t
def nd_634_0pf_2 (t : List zFa) : List zFa := uF2374 :: uF2375 :: uF2376 :: uF2377 :: t
def nd_634_0pg_0 (t : List zTg) : List zTg := uG2290 :: uG2309 :: uG2310 :: uG2311 :: uG2313 :: uG2312 :: (278, [uL67, uL98, uL104, uL78, uL79, uL131, uL164, uL195]) :: (343, [uL67, uL98, uL104, uL78, uL79, uL131, uL164, uL195, uL23]) :: t
def nd_634_0pg_1 (t : List zTg) : List zTg := (328, [uL67, uL98, uL104, uL78, uL79, uL131, uL164, uL63, uL23, uL63]) :: (345, [uL67, uL98, uL104, uL78, uL79, uL131, uL164, uL63, uL23]) :: (346, [uL67, uL98, uL104, uL78, uL79, uL131, uL164, uL63, uL23]) :: t
def nd_634_0p : zS := ((nd_634_0pi_0 (nd_634_0pi_1 [])), (cx_634pr_0 (cx_634pr_1 (cx_634pr_2 []))), [uL512, uL195, uL1144], [uV2, uV843], [], (nd_634_0pf_0 (nd_634_0pf_1 (nd_634_0pf_2 []))), (nd_634_0pg_0 (nd_634_0pg_1 [])))
def nd_634_0 : zN := (2, nd_634_0p, (2152, [(11, (-37))]))
def nd_634_1pi_0 (t : List (Int × Int)) : List (Int × Int) := ui0 :: (0, 1) :: ui31 :: (0, 6) :: ui49 :: ui49 :: ui49 :: ui49 :: t
def nd_634_1pi_1 (t : List (Int × Int)) : List (Int × Int) := ui49 :: ui49 :: (0, 6) :: ui440 :: t
def nd_634_1pg_0 (t : List zTg) : List zTg := uG2290 :: uG2309 :: uG2310 :: uG2311 :: uG2313 :: uG2312 :: uG2378 :: uG2379 :: t
def nd_634_1pg_1 (t : List zTg) : List zTg := (328, [uL67, uL98, uL104, uL78, uL79, uL131, uL164, uL195, uL23, uL63]) :: (345, [uL67, uL98, uL104, uL78, uL79, uL131, uL164, uL195, uL23]) :: (346, [uL67, uL98, uL104, uL78, uL79, uL131, uL164, uL195, uL23]) :: t
def nd_634_1p : zS := ((nd_634_1pi_0 (nd_634_1pi_1 [])), (cx_634pr_0 (cx_634pr_1 (cx_634pr_2 []))), [uL512, uL195, (36, [(11, (-1))])], [uV2, uV843], [], (nd_634_0pf_0 (nd_634_0pf_1 (nd_634_0pf_2 []))), (nd_634_1pg_0 (nd_634_1pg_1 [])))
def nd_634_1 : zN := (83, nd_634_1p, (1924, [(11, (-48))]))
def ns_634 : List zN := [nd_634_0, nd_634_1]
set_option maxRecDepth 1000000 in
theorem ca_634 : x_okA mLT1 cq_634 mTS2 mTC2 mRUp cx_634 cs_634 hs_634 ns_634 (2155, []) 77638 50 = true := by decide +kernel
set_option maxRecDepth 1000000 in
theorem cb_634_0 : x_okB mLT1 cq_634 mTS2 mTC2 mRUp cx_634 cs_634 hs_634 ns_634 (2155, []) 77638 50 nd_634_0 = true := by decide +kernel
set_option maxRecDepth 1000000 in
theorem cb_634_1 : x_okB mLT1 cq_634 mTS2 mTC2 mRUp cx_634 cs_634 hs_634 ns_634 (2155, []) 77638 50 nd_634_1 = true := by decide +kernel
set_option maxRecDepth 1000000 in
theorem cc_634 : x_okC mLT1 cq_634 mTS2 mTC2 mRUp cx_634 cs_634 hs_634 ns_634 (2155, []) 77638 50 = true := by decide +kernel
theorem ck_634 : x_ok mLT1 cq_634 mTS2 mTC2 mRUp cx_634 cs_634 hs_634 ns_634 (2155, []) 77638 50 = true := x_ok_of ca_634 (List.forall_mem_cons.mpr ⟨cb_634_0, List.forall_mem_cons.mpr ⟨cb_634_1, fun _ h => absurd h List.not_mem_nil⟩⟩) cc_634
theorem sn_634 {W : Bool} {X : List Int32} : y_Snd (mGw W) mLT1 (J2 W X) X cx_634 := y_ok J2_J mTS2_ok1 mTC2_ok1 mRUp_ok1 (List.forall_mem_cons.mpr ⟨sn_518, List.forall_mem_cons.mpr ⟨sn_527, List.forall_mem_cons.mpr ⟨sn_532, List.forall_mem_cons.mpr ⟨sn_546, List.forall_mem_cons.mpr ⟨sn_551, List.forall_mem_cons.mpr ⟨sn_633, fun _ h => absurd h List.not_mem_nil⟩⟩⟩⟩⟩⟩) ck_634
/-- M.isIn -/
def cx_635 : zCtx := (276, ([ui0, (0, 6)], [ur1414, ur2343], [], [], [uV2, uV62], [uF2380, uF2350], []), [([ui0, (1, 6)], [ur1414, ur2343], [], [], [uV64], [], [(334, [uL63, uL9])]), ([ui0, (0, 6)], [ur1414, ur2343], [], [], [uV62], [], [uG2381, (342, [uL63, uL9])])], [], 87, 0, 0)
set_option maxRecDepth 1000000 in
theorem ck_635 : x_ok mLT1 [] mTS2 mTC2 mRUp cx_635 [] [(1, [97, 1001128]), (21, [1001151]), (22, [34, 1001152, 1001153]), (28, [1001129])] [(2, ([(0, 3072), (0, 6), (0, 6)], [(12, false), (87, false)], [(0, [(1, 1), (2, (-1))]), (0, [(2, 1)]), (6, [(2, (-1))])], [(2, 0, 0, []), (0, 0, 0, []), (0, 0, 0, [(2, 1)])], [], [(0, (false, 61, 0, []), 0, 0, 0, [(1, 1)]), (0, (false, 60, 0, []), 2, 1, 0, [])], [(9, [(0, []), (0, [])]), (9, [(0, []), (0, [(2, 1)])]), (342, [(0, []), (0, [(2, 1)])])]), (84, [(2, (-13))]))] (87, []) 0 15 = true := by decide +kernel
theorem sn_635 {W : Bool} {X : List Int32} : y_Snd (mGw W) mLT1 (J2 W X) X cx_635 := y_ok J2_J mTS2_ok1 mTC2_ok1 mRUp_ok1 (fun _ h => absurd h List.not_mem_nil) ck_635
/-- M.isIn -/
def cx_636 : zCtx := (276, ([ui0, (0, 6)], [ur1414, ur2343], [], [], [uV2, uV64], [uF2380, uF2350], []), [([ui0, (1, 6)], [ur1414, ur2343], [], [], [uV64], [], [(334, [uL65, uL9])]), ([ui0, (0, 6)], [ur1414, ur2343], [], [], [uV62], [], [uG2382, (342, [uL65, uL9])])], [], 87, 0, 0)
set_option maxRecDepth 1000000 in
theorem ck_636 : x_ok mLT1 [] mTS2 mTC2 mRUp cx_636 [] [(1, [97, 1001128]), (21, [1001151]), (22, [34, 1001152, 1001153]), (28, [1001129])] [(2, ([(0, 3072), (0, 6), (0, 6)], [(12, false), (87, false)], [(0, [(1, 1), (2, (-1))]), (0, [(2, 1)]), (6, [(2, (-1))])], [(2, 0, 0, []), (0, 0, 1, []), (0, 0, 0, [(2, 1)])], [], [(0, (false, 61, 0, []), 0, 0, 0, [(1, 1)]), (0, (false, 60, 0, []), 2, 1, 0, [])], [(9, [(1, []), (0, [])]), (9, [(1, []), (0, [(2, 1)])]), (342, [(1, []), (0, [(2, 1)])])]), (84, [(2, (-13))]))] (87, []) 0 15 = true := by decide +kernel
theorem sn_636 {W : Bool} {X : List Int32} : y_Snd (mGw W) mLT1 (J2 W X) X cx_636 := y_ok J2_J mTS2_ok1 mTC2_ok1 mRUp_ok1 (fun _ h => absurd h List.not_mem_nil) ck_636
/-- M.isIn -/
def cx_637 : zCtx := (276, ([ui0, (0, 6)], [ur1414, ur2343], [], [], [uV2, uV389], [uF2380, uF2350], []), [([ui0, (1, 6)], [ur1414, ur2343], [], [], [uV64], [], [(334, [uL114, uL9])]), ([ui0, (0, 6)], [ur1414, ur2343], [], [], [uV62], [], [uG2383, (342, [uL114, uL9])])], [], 87, 0, 0)
set_option maxRecDepth 1000000 in
theorem ck_637 : x_ok mLT1 [] mTS2 mTC2 mRUp cx_637 [] [(1, [97, 1001128]), (21, [1001151]), (22, [34, 1001152, 1001153]), (28, [1001129])] [(2, ([(0, 3072), (0, 6), (0, 6)], [(12, false), (87, false)], [(0, [(1, 1), (2, (-1))]), (0, [(2, 1)]), (6, [(2, (-1))])], [(2, 0, 0, []), (0, 0, 2, []), (0, 0, 0, [(2, 1)])], [], [(0, (false, 61, 0, []), 0, 0, 0, [(1, 1)]), (0, (false, 60, 0, []), 2, 1, 0, [])], [(9, [(2, []), (0, [])]), (9, [(2, []), (0, [(2, 1)])]), (342, [(2, []), (0, [(2, 1)])])]), (84, [(2, (-13))]))] (87, []) 0 15 = true := by decide +kernel
theorem sn_637 {W : Bool} {X : List Int32} : y_Snd (mGw W) mLT1 (J2 W X) X cx_637 := y_ok J2_J mTS2_ok1 mTC2_ok1 mRUp_ok1 (fun _ h => absurd h List.not_mem_nil) ck_637
/-- M.isIn -/
def cx_638 : zCtx := (276, ([ui0, (0, 6)], [ur1414, ur2343], [], [], [uV2, uV385], [uF2380, uF2350], []), [([ui0, (1, 6)], [ur1414, ur2343], [], [], [uV64], [], [(334, [uL211, uL9])]), ([ui0, (0, 6)], [ur1414, ur2343], [], [], [uV62], [], [uG2384, (342, [uL211, uL9])])], [], 87, 0, 0)
set_option maxRecDepth 1000000 in
theorem ck_638 : x_ok mLT1 [] mTS2 mTC2 mRUp cx_638 [] [(1, [97, 1001128]), (21, [1001151]), (22, [34, 1001152, 1001153]), (28, [1001129])] [(2, ([(0, 3072), (0, 6), (0, 6)], [(12, false), (87, false)], [(0, [(1, 1), (2, (-1))]), (0, [(2, 1)]), (6, [(2, (-1))])], [(2, 0, 0, []), (0, 0, 3, []), (0, 0, 0, [(2, 1)])], [], [(0, (false, 61, 0, []), 0, 0, 0, [(1, 1)]), (0, (false, 60, 0, []), 2, 1, 0, [])], [(9, [(3, []), (0, [])]), (9, [(3, []), (0, [(2, 1)])]), (342, [(3, []), (0, [(2, 1)])])]), (84, [(2, (-13))]))] (87, []) 0 15 = true := by decide +kernel
theorem sn_638 {W : Bool} {X : List Int32} : y_Snd (mGw W) mLT1 (J2 W X) X cx_638 := y_ok J2_J mTS2_ok1 mTC2_ok1 mRUp_ok1 (fun _ h => absurd h List.not_mem_nil) ck_638
/-- M.isIn -/
def cx_639 : zCtx := (276, ([ui0, (0, 6)], [ur1414, ur2343], [], [], [uV2, uV381], [uF2380, uF2350], []), [([ui0, (1, 6)], [ur1414, ur2343], [], [], [uV64], [], [(334, [uL36, uL9])]), ([ui0, (0, 6)], [ur1414, ur2343], [], [], [uV62], [], [uG2385, (342, [uL36, uL9])])], [], 87, 0, 0)
set_option maxRecDepth 1000000 in
theorem ck_639 : x_ok mLT1 [] mTS2 mTC2 mRUp cx_639 [] [(1, [97, 1001128]), (21, [1001151]), (22, [34, 1001152, 1001153]), (28, [1001129])] [(2, ([(0, 3072), (0, 6), (0, 6)], [(12, false), (87, false)], [(0, [(1, 1), (2, (-1))]), (0, [(2, 1)]), (6, [(2, (-1))])], [(2, 0, 0, []), (0, 0, 4, []), (0, 0, 0, [(2, 1)])], [], [(0, (false, 61, 0, []), 0, 0, 0, [(1, 1)]), (0, (false, 60, 0, []), 2, 1, 0, [])], [(9, [(4, []), (0, [])]), (9, [(4, []), (0, [(2, 1)])]), (342, [(4, []), (0, [(2, 1)])])]), (84, [(2, (-13))]))] (87, []) 0 15 = true := by decide +kernel
theorem sn_639 {W : Bool} {X : List Int32} : y_Snd (mGw W) mLT1 (J2 W X) X cx_639 := y_ok J2_J mTS2_ok1 mTC2_ok1 mRUp_ok1 (fun _ h => absurd h List.not_mem_nil) ck_639
/-- M.isIn -/
def cx_640 : zCtx := (276, ([ui0, (0, 6)], [ur1414, ur2343], [], [], [uV2, uV3], [uF2380, uF2350], []), [([ui0, (1, 6)], [ur1414, ur2343], [], [], [uV64], [], [(334, [uL246, uL9])]), ([ui0, (0, 6)], [ur1414, ur2343], [], [], [uV62], [], [uG2386, (342, [uL246, uL9])])], [], 87, 0, 0)
set_option maxRecDepth 1000000 in
theorem ck_640 : x_ok mLT1 [] mTS2 mTC2 mRUp cx_640 [] [(1, [97, 1001128]), (21, [1001151]), (22, [34, 1001152, 1001153]), (28, [1001129])] [(2, ([(0, 3072), (0, 6), (0, 6)], [(12, false), (87, false)], [(0, [(1, 1), (2, (-1))]), (0, [(2, 1)]), (6, [(2, (-1))])], [(2, 0, 0, []), (0, 0, 5, []), (0, 0, 0, [(2, 1)])], [], [(0, (false, 61, 0, []), 0, 0, 0, [(1, 1)]), (0, (false, 60, 0, []), 2, 1, 0, [])], [(9, [(5, []), (0, [])]), (9, [(5, []), (0, [(2, 1)])]), (342, [(5, []), (0, [(2, 1)])])]), (84, [(2, (-13))]))] (87, []) 0 15 = true := by decide +kernel
theorem sn_640 {W : Bool} {X : List Int32} : y_Snd (mGw W) mLT1 (J2 W X) X cx_640 := y_ok J2_J mTS2_ok1 mTC2_ok1 mRUp_ok1 (fun _ h => absurd h List.not_mem_nil) ck_640
/-- M.nextFrom -/
def cx_641 : zCtx := (275, ([ui0, (0, 6), ui49, ui49, ui49, ui49, ui49, ui49, ui49], [ur1414, ur2343, ur2344], [], [], [uV2, uV62], [uF2380, uF2350, uF2387], [uG2388]), [([ui0, (0, 6), ui49, ui49, ui49, ui49, ui49, ui49, ui49], [ur1414, ur2343, ur2344], [], [], [uV62], [], [uG2381, (333, [uL67, uL23, uL98, uL104, uL78, uL79, uL131, uL63, uL9, uL63])]), ([ui0, (0, 6), ui49, ui49, ui49, ui49, ui49, ui49, ui49], [ur1414, ur2343, ur2344], [], [], [uV64], [], [uG2382, (333, [uL67, uL23, uL98, uL104, uL78, uL79, uL131, uL63, uL9, uL65])]), ([ui0, (0, 6), ui49, ui49, ui49, ui49, ui49, ui49, ui49], [ur1414, ur2343, ur2344], [], [], [uV389], [], [uG2383, (333, [uL67, uL23, uL98, uL104, uL78, uL79, uL131, uL63, uL9, uL114])]), ([ui0, (0, 6), ui49, ui49, ui49, ui49, ui49, ui49, ui49], [ur1414, ur2343, ur2344], [], [], [uV385], [], [uG2384, (333, [uL67, uL23, uL98, uL104, uL78, uL79, uL131, uL63, uL9, uL211])]), ([ui0, (0, 6), ui49, ui49, ui49, ui49, ui49, ui49, ui49], [ur1414, ur2343, ur2344], [], [], [uV381], [], [uG2385, (333, [uL67, uL23, uL98, uL104, uL78, uL79, uL131, uL63, uL9, uL36])]), ([ui0, (0, 6), ui49, ui49, ui49, ui49, ui49, ui49, ui49], [ur1414, ur2343, ur2344], [], [], [uV3], [], [uG2386, (333, [uL67, uL23, uL98, uL104, uL78, uL79, uL131, uL63, uL9, uL246])]), ([ui0, (0, 6), ui49, ui49, ui49, ui49, ui49, ui49, ui49], [ur1414, ur2343, ur2344], [], [], [uV61], [], [(333, [uL67, uL23, uL98, uL104, uL78, uL79, uL131, uL63, uL9, uL99])])], [], 178, 1, 22)
def cq_641 : List zCtx := [cx_635, cx_636, cx_637, cx_638, cx_639, cx_640]
def cs_641 : List (Nat × List Nat) := [(19, [0, 1, 2, 3, 4, 5])]
def hs_641 : List (Nat × List Nat) := [(0, [1001127]), (26, [1001130]), (27, uN2389), (34, [1001133])]
def ns_641 : List zN := []
set_option maxRecDepth 1000000 in
theorem ca_641 : x_okA mLT1 cq_641 mTS2 mTC2 mRUp cx_641 cs_641 hs_641 ns_641 (91, []) 87 94 = true := by decide +kernel
set_option maxRecDepth 1000000 in
theorem cc_641 : x_okC mLT1 cq_641 mTS2 mTC2 mRUp cx_641 cs_641 hs_641 ns_641 (91, []) 87 94 = true := by decide +kernel
theorem ck_641 : x_ok mLT1 cq_641 mTS2 mTC2 mRUp cx_641 cs_641 hs_641 ns_641 (91, []) 87 94 = true := x_ok_of ca_641 (fun _ h => absurd h List.not_mem_nil) cc_641
theorem sn_641 {W : Bool} {X : List Int32} : y_Snd (mGw W) mLT1 (J2 W X) X cx_641 := y_ok J2_J mTS2_ok1 mTC2_ok1 mRUp_ok1 (List.forall_mem_cons.mpr ⟨sn_635, List.forall_mem_cons.mpr ⟨sn_636, List.forall_mem_cons.mpr ⟨sn_637, List.forall_mem_cons.mpr ⟨sn_638, List.forall_mem_cons.mpr ⟨sn_639, List.forall_mem_cons.mpr ⟨sn_640, fun _ h => absurd h List.not_mem_nil⟩⟩⟩⟩⟩⟩) ck_641
/-- M.nextFrom -/
def cx_642 : zCtx := (275, ([ui0, (0, 5), ui49, ui49, ui49, ui49, ui49, ui49, ui49], [ur1414, ur2343, ur2344], [], [], [uV2, uV64], [uF2380, uF2350, uF2387], [uG2388]), [([ui0, (0, 5), ui49, ui49, ui49, ui49, ui49, ui49, ui49], [ur1414, ur2343, ur2344], [], [], [uV64], [], [uG2382, (333, [uL67, uL23, uL98, uL104, uL78, uL79, uL131, uL65, uL9, uL65])]), ([ui0, (0, 5), ui49, ui49, ui49, ui49, ui49, ui49, ui49], [ur1414, ur2343, ur2344], [], [], [uV389], [], [uG2383, (333, [uL67, uL23, uL98, uL104, uL78, uL79, uL131, uL65, uL9, uL114])]), ([ui0, (0, 5), ui49, ui49, ui49, ui49, ui49, ui49, ui49], [ur1414, ur2343, ur2344], [], [], [uV385], [], [uG2384, (333, [uL67, uL23, uL98, uL104, uL78, uL79, uL131, uL65, uL9, uL211])]), ([ui0, (0, 5), ui49, ui49, ui49, ui49, ui49, ui49, ui49], [ur1414, ur2343, ur2344], [], [], [uV381], [], [uG2385, (333, [uL67, uL23, uL98, uL104, uL78, uL79, uL131, uL65, uL9, uL36])]), ([ui0, (0, 5), ui49, ui49, ui49, ui49, ui49, ui49, ui49], [ur1414, ur2343, ur2344], [], [], [uV3], [], [uG2386, (333, [uL67, uL23, uL98, uL104, uL78, uL79, uL131, uL65, uL9, uL246])]), ([ui0, (0, 5), ui49, ui49, ui49, ui49, ui49, ui49, ui49], [ur1414, ur2343, ur2344], [], [], [uV61], [], [(333, [uL67, uL23, uL98, uL104, uL78, uL79, uL131, uL65, uL9, uL99])])], [], 164, 1, 22)
def cq_642 : List zCtx := [cx_636, cx_637, cx_638, cx_639, cx_640]
def cs_642 : List (Nat × List Nat) := [(19, [0, 1, 2, 3, 4])]
def hs_642 : List (Nat × List Nat) := [(0, [1001127]), (26, [1001130]), (27, uN2389), (34, [1001133])]
def ns_642 : List zN := []
set_option maxRecDepth 1000000 in
theorem ca_642 : x_okA mLT1 cq_642 mTS2 mTC2 mRUp cx_642 cs_642 hs_642 ns_642 (77, []) 87 80 = true := by decide +kernel
set_option maxRecDepth 1000000 in
theorem cc_642 : x_okC mLT1 cq_642 mTS2 mTC2 mRUp cx_642 cs_642 hs_642 ns_642 (77, []) 87 80 = true := by decide +kernel
theorem ck_642 : x_ok mLT1 cq_642 mTS2 mTC2 mRUp cx_642 cs_642 hs_642 ns_642 (77, []) 87 80 = true := x_ok_of ca_642 (fun _ h => absurd h List.not_mem_nil) cc_642
theorem sn_642 {W : Bool} {X : List Int32} : y_Snd (mGw W) mLT1 (J2 W X) X cx_642 := y_ok J2_J mTS2_ok1 mTC2_ok1 mRUp_ok1 (List.forall_mem_cons.mpr ⟨sn_636, List.forall_mem_cons.mpr ⟨sn_637, List.forall_mem_cons.mpr ⟨sn_638, List.forall_mem_cons.mpr ⟨sn_639, List.forall_mem_cons.mpr ⟨sn_640, fun _ h => absurd h List.not_mem_nil⟩⟩⟩⟩⟩) ck_642
end
