noncomputable section
/-! ===== readings, by program, checked by the kernel ===== -/
def cx_629pr_0 (t : List (Nat × Bool)) : List (Nat × Bool) := ur1474 :: ur1521 :: ur1522 :: ur1532 :: ur1533 :: ur1534 :: ur1535 :: ur1536 :: t
def cx_629pr_1 (t : List (Nat × Bool)) : List (Nat × Bool) := ur1530 :: ur1531 :: ur1523 :: ur1635 :: ur1636 :: ur2027 :: ur2430 :: ur2431 :: t
def cx_629pr_2 (t : List (Nat × Bool)) : List (Nat × Bool) := ur1525 :: ur2432 :: ur2433 :: ur2434 :: t
def cx_629pf_0 (t : List zFa) : List zFa := uF2028 :: uF1537 :: uF1538 :: uF2169 :: uF2170 :: uF2171 :: uF2172 :: uF2173 :: t
def cx_629pf_1 (t : List zFa) : List zFa := uF1768 :: uF1769 :: uF2174 :: uF2175 :: uF2176 :: uF2177 :: uF2457 :: uF2458 :: t
def cx_629pf_2 (t : List zFa) : List zFa := uF2459 :: uF2460 :: uF2461 :: uF2462 :: uF2463 :: t
def cx_629p : zS := ((cx_589pi_0 (cx_589pi_1 [])), (cx_629pr_0 (cx_629pr_1 (cx_629pr_2 []))), [uL518, uL518], [], [uV2], (cx_629pf_0 (cx_629pf_1 (cx_629pf_2 []))), [uG2349, uG2386, uG2387, uG2388, uG2390, uG2389])
def cx_629q0g_0 (t : List zTg) : List zTg := uG2464 :: uG2465 :: uG2465 :: (328, [uL67, uL98, uL104, uL78, uL79, uL131, uL163, uL4, uL23, uL63]) :: t
def cx_629q0 : zS := ((cx_589pi_0 (cx_589pi_1 [])), (cx_629pr_0 (cx_629pr_1 (cx_629pr_2 []))), [uL518], [], [], [], (cx_629q0g_0 []))
/-- M.fillsPlans -/
def cx_629 : zCtx := (273, cx_629p, [cx_629q0], kc_83, 79793, 5, 108)
def cq_629 : List zCtx := [cx_515, cx_524, cx_529, cx_543, cx_548, cx_622]
def cs_629 : List (Nat × List Nat) := [(15, [0]), (23, [1]), (59, [0]), (67, [2]), (98, [3]), (121, [4]), (141, [5])]
def hs_629 : List (Nat × List Nat) := [(0, [1001096, 1001097, 1001098]), (52, [1001099, 1001100, 1001101]), (75, [1001102, 1001103]), (93, [1000023]), (94, [1001104]), (97, [1000679]), (98, [1001105, 1001106]), (157, [1001107, 1001108, 1001109, 1001110])]
def nd_629_0pi_0 (t : List (Int × Int)) : List (Int × Int) := ui0 :: (0, 1) :: ui31 :: (0, 6) :: ui49 :: ui49 :: ui49 :: ui49 :: t
def nd_629_0pi_1 (t : List (Int × Int)) : List (Int × Int) := ui49 :: ui49 :: (0, 6) :: (0, 6) :: t
def nd_629_0pf_0 (t : List zFa) : List zFa := uF2028 :: uF1537 :: uF1538 :: uF2169 :: uF2170 :: uF2171 :: uF2172 :: uF2173 :: t
def nd_629_0pf_1 (t : List zFa) : List zFa := uF1768 :: uF1769 :: uF2174 :: uF2175 :: uF2176 :: uF2177 :: uF2457 :: uF2458 :: t
def nd_629_0pf_2 (t : List zFa) : List zFa := uF2460 :: uF2461 :: uF2462 :: uF2463 :: t
def nd_629_0pg_0 (t : List zTg) : List zTg := uG2349 :: uG2386 :: uG2387 :: uG2388 :: uG2390 :: uG2389 :: (278, [uL67, uL98, uL104, uL78, uL79, uL131, uL163, uL193]) :: (343, [uL67, uL98, uL104, uL78, uL79, uL131, uL163, uL193, uL23]) :: t
def nd_629_0pg_1 (t : List zTg) : List zTg := (328, [uL67, uL98, uL104, uL78, uL79, uL131, uL163, uL63, uL23, uL63]) :: t
def nd_629_0p : zS := ((nd_629_0pi_0 (nd_629_0pi_1 [])), (cx_629pr_0 (cx_629pr_1 (cx_629pr_2 []))), [uL518, uL193, uL1180], [uV2, uV873], [], (nd_629_0pf_0 (nd_629_0pf_1 (nd_629_0pf_2 []))), (nd_629_0pg_0 (nd_629_0pg_1 [])))
def nd_629_0 : zN := (2, nd_629_0p, (2152, [(11, (-37))]))
def nd_629_1pi_0 (t : List (Int × Int)) : List (Int × Int) := ui0 :: (0, 1) :: ui31 :: (0, 6) :: ui49 :: ui49 :: ui49 :: ui49 :: t
def nd_629_1pi_1 (t : List (Int × Int)) : List (Int × Int) := ui49 :: ui49 :: (0, 6) :: ui438 :: t
def nd_629_1pg_0 (t : List zTg) : List zTg := uG2349 :: uG2386 :: uG2387 :: uG2388 :: uG2390 :: uG2389 :: uG2464 :: uG2465 :: t
def nd_629_1pg_1 (t : List zTg) : List zTg := (328, [uL67, uL98, uL104, uL78, uL79, uL131, uL163, uL193, uL23, uL63]) :: t
def nd_629_1p : zS := ((nd_629_1pi_0 (nd_629_1pi_1 [])), (cx_629pr_0 (cx_629pr_1 (cx_629pr_2 []))), [uL518, uL193, (36, [(11, (-1))])], [uV2, uV873], [], (nd_629_0pf_0 (nd_629_0pf_1 (nd_629_0pf_2 []))), (nd_629_1pg_0 (nd_629_1pg_1 [])))
def nd_629_1 : zN := (83, nd_629_1p, (1924, [(11, (-48))]))
def ns_629 : List zN := [nd_629_0, nd_629_1]
set_option maxRecDepth 1000000 in
theorem ca_629 : x_okA mLT1 cq_629 mTS2 mTC2 mRUp cx_629 cs_629 hs_629 ns_629 (2155, []) 77638 50 = true := by decide +kernel
set_option maxRecDepth 1000000 in
theorem cb_629_0 : x_okB mLT1 cq_629 mTS2 mTC2 mRUp cx_629 cs_629 hs_629 ns_629 (2155, []) 77638 50 nd_629_0 = true := by decide +kernel
set_option maxRecDepth 1000000 in
theorem cb_629_1 : x_okB mLT1 cq_629 mTS2 mTC2 mRUp cx_629 cs_629 hs_629 ns_629 (2155, []) 77638 50 nd_629_1 = true := by decide +kernel
set_option maxRecDepth 1000000 in
theorem cc_629 : x_okC mLT1 cq_629 mTS2 mTC2 mRUp cx_629 cs_629 hs_629 ns_629 (2155, []) 77638 50 = true := by decide +kernel
theorem ck_629 : x_ok mLT1 cq_629 mTS2 mTC2 mRUp cx_629 cs_629 hs_629 ns_629 (2155, []) 77638 50 = true := x_ok_of ca_629 (List.forall_mem_cons.mpr ⟨cb_629_0, List.forall_mem_cons.mpr ⟨cb_629_1, fun _ h => absurd h List.not_mem_nil⟩⟩) cc_629
theorem sn_629 {W : Bool} {X : List Int32} : y_Snd (mGw W) mLT1 (J2 W X) X cx_629 := y_ok J2_J mTS2_ok1 mTC2_ok1 mRUp_ok1 (List.forall_mem_cons.mpr ⟨sn_515, List.forall_mem_cons.mpr ⟨sn_524, List.forall_mem_cons.mpr ⟨sn_529, List.forall_mem_cons.mpr ⟨sn_543, List.forall_mem_cons.mpr ⟨sn_548, List.forall_mem_cons.mpr ⟨sn_622, fun _ h => absurd h List.not_mem_nil⟩⟩⟩⟩⟩⟩) ck_629
/-- M.isIn -/
def cx_630 : zCtx := (276, ([ui0, (0, 6)], [ur1474, ur2429], [], [], [uV2, uV62], [uF2466, uF2436], []), [([ui0, (1, 6)], [ur1474, ur2429], [], [], [uV64], [], [(334, [uL63, uL9])]), ([ui0, (0, 6)], [ur1474, ur2429], [], [], [uV62], [], [uG2467, (342, [uL63, uL9])])], [], 87, 0, 0)
set_option maxRecDepth 1000000 in
theorem ck_630 : x_ok mLT1 [] mTS2 mTC2 mRUp cx_630 [] [(1, [97, 1001114]), (21, [1001137]), (22, [34, 1001138, 1001139]), (28, [1001115])] [(2, ([(0, 3072), (0, 6), (0, 6)], [(12, false), (87, false)], [(0, [(1, 1), (2, (-1))]), (0, [(2, 1)]), (6, [(2, (-1))])], [(2, 0, 0, []), (0, 0, 0, []), (0, 0, 0, [(2, 1)])], [], [(0, (false, 61, 0, []), 0, 0, 0, [(1, 1)]), (0, (false, 60, 0, []), 2, 1, 0, [])], [(9, [(0, []), (0, [])]), (9, [(0, []), (0, [(2, 1)])]), (342, [(0, []), (0, [(2, 1)])])]), (84, [(2, (-13))]))] (87, []) 0 15 = true := by decide +kernel
theorem sn_630 {W : Bool} {X : List Int32} : y_Snd (mGw W) mLT1 (J2 W X) X cx_630 := y_ok J2_J mTS2_ok1 mTC2_ok1 mRUp_ok1 (fun _ h => absurd h List.not_mem_nil) ck_630
/-- M.isIn -/
def cx_631 : zCtx := (276, ([ui0, (0, 6)], [ur1474, ur2429], [], [], [uV2, uV64], [uF2466, uF2436], []), [([ui0, (1, 6)], [ur1474, ur2429], [], [], [uV64], [], [(334, [uL65, uL9])]), ([ui0, (0, 6)], [ur1474, ur2429], [], [], [uV62], [], [uG2468, (342, [uL65, uL9])])], [], 87, 0, 0)
set_option maxRecDepth 1000000 in
theorem ck_631 : x_ok mLT1 [] mTS2 mTC2 mRUp cx_631 [] [(1, [97, 1001114]), (21, [1001137]), (22, [34, 1001138, 1001139]), (28, [1001115])] [(2, ([(0, 3072), (0, 6), (0, 6)], [(12, false), (87, false)], [(0, [(1, 1), (2, (-1))]), (0, [(2, 1)]), (6, [(2, (-1))])], [(2, 0, 0, []), (0, 0, 1, []), (0, 0, 0, [(2, 1)])], [], [(0, (false, 61, 0, []), 0, 0, 0, [(1, 1)]), (0, (false, 60, 0, []), 2, 1, 0, [])], [(9, [(1, []), (0, [])]), (9, [(1, []), (0, [(2, 1)])]), (342, [(1, []), (0, [(2, 1)])])]), (84, [(2, (-13))]))] (87, []) 0 15 = true := by decide +kernel
theorem sn_631 {W : Bool} {X : List Int32} : y_Snd (mGw W) mLT1 (J2 W X) X cx_631 := y_ok J2_J mTS2_ok1 mTC2_ok1 mRUp_ok1 (fun _ h => absurd h List.not_mem_nil) ck_631
/-- M.isIn -/
def cx_632 : zCtx := (276, ([ui0, (0, 6)], [ur1474, ur2429], [], [], [uV2, uV388], [uF2466, uF2436], []), [([ui0, (1, 6)], [ur1474, ur2429], [], [], [uV64], [], [(334, [uL114, uL9])]), ([ui0, (0, 6)], [ur1474, ur2429], [], [], [uV62], [], [uG2469, (342, [uL114, uL9])])], [], 87, 0, 0)
set_option maxRecDepth 1000000 in
theorem ck_632 : x_ok mLT1 [] mTS2 mTC2 mRUp cx_632 [] [(1, [97, 1001114]), (21, [1001137]), (22, [34, 1001138, 1001139]), (28, [1001115])] [(2, ([(0, 3072), (0, 6), (0, 6)], [(12, false), (87, false)], [(0, [(1, 1), (2, (-1))]), (0, [(2, 1)]), (6, [(2, (-1))])], [(2, 0, 0, []), (0, 0, 2, []), (0, 0, 0, [(2, 1)])], [], [(0, (false, 61, 0, []), 0, 0, 0, [(1, 1)]), (0, (false, 60, 0, []), 2, 1, 0, [])], [(9, [(2, []), (0, [])]), (9, [(2, []), (0, [(2, 1)])]), (342, [(2, []), (0, [(2, 1)])])]), (84, [(2, (-13))]))] (87, []) 0 15 = true := by decide +kernel
theorem sn_632 {W : Bool} {X : List Int32} : y_Snd (mGw W) mLT1 (J2 W X) X cx_632 := y_ok J2_J mTS2_ok1 mTC2_ok1 mRUp_ok1 (fun _ h => absurd h List.not_mem_nil) ck_632
/-- M.isIn -/
def cx_633 : zCtx := (276, ([ui0, (0, 6)], [ur1474, ur2429], [], [], [uV2, uV384], [uF2466, uF2436], []), [([ui0, (1, 6)], [ur1474, ur2429], [], [], [uV64], [], [(334, [uL209, uL9])]), ([ui0, (0, 6)], [ur1474, ur2429], [], [], [uV62], [], [uG2470, (342, [uL209, uL9])])], [], 87, 0, 0)
set_option maxRecDepth 1000000 in
theorem ck_633 : x_ok mLT1 [] mTS2 mTC2 mRUp cx_633 [] [(1, [97, 1001114]), (21, [1001137]), (22, [34, 1001138, 1001139]), (28, [1001115])] [(2, ([(0, 3072), (0, 6), (0, 6)], [(12, false), (87, false)], [(0, [(1, 1), (2, (-1))]), (0, [(2, 1)]), (6, [(2, (-1))])], [(2, 0, 0, []), (0, 0, 3, []), (0, 0, 0, [(2, 1)])], [], [(0, (false, 61, 0, []), 0, 0, 0, [(1, 1)]), (0, (false, 60, 0, []), 2, 1, 0, [])], [(9, [(3, []), (0, [])]), (9, [(3, []), (0, [(2, 1)])]), (342, [(3, []), (0, [(2, 1)])])]), (84, [(2, (-13))]))] (87, []) 0 15 = true := by decide +kernel
theorem sn_633 {W : Bool} {X : List Int32} : y_Snd (mGw W) mLT1 (J2 W X) X cx_633 := y_ok J2_J mTS2_ok1 mTC2_ok1 mRUp_ok1 (fun _ h => absurd h List.not_mem_nil) ck_633
/-- M.isIn -/
def cx_634 : zCtx := (276, ([ui0, (0, 6)], [ur1474, ur2429], [], [], [uV2, uV380], [uF2466, uF2436], []), [([ui0, (1, 6)], [ur1474, ur2429], [], [], [uV64], [], [(334, [uL36, uL9])]), ([ui0, (0, 6)], [ur1474, ur2429], [], [], [uV62], [], [uG2471, (342, [uL36, uL9])])], [], 87, 0, 0)
set_option maxRecDepth 1000000 in
theorem ck_634 : x_ok mLT1 [] mTS2 mTC2 mRUp cx_634 [] [(1, [97, 1001114]), (21, [1001137]), (22, [34, 1001138, 1001139]), (28, [1001115])] [(2, ([(0, 3072), (0, 6), (0, 6)], [(12, false), (87, false)], [(0, [(1, 1), (2, (-1))]), (0, [(2, 1)]), (6, [(2, (-1))])], [(2, 0, 0, []), (0, 0, 4, []), (0, 0, 0, [(2, 1)])], [], [(0, (false, 61, 0, []), 0, 0, 0, [(1, 1)]), (0, (false, 60, 0, []), 2, 1, 0, [])], [(9, [(4, []), (0, [])]), (9, [(4, []), (0, [(2, 1)])]), (342, [(4, []), (0, [(2, 1)])])]), (84, [(2, (-13))]))] (87, []) 0 15 = true := by decide +kernel
theorem sn_634 {W : Bool} {X : List Int32} : y_Snd (mGw W) mLT1 (J2 W X) X cx_634 := y_ok J2_J mTS2_ok1 mTC2_ok1 mRUp_ok1 (fun _ h => absurd h List.not_mem_nil) ck_634
/-- M.isIn -/
def cx_635 : zCtx := (276, ([ui0, (0, 6)], [ur1474, ur2429], [], [], [uV2, uV3], [uF2466, uF2436], []), [([ui0, (1, 6)], [ur1474, ur2429], [], [], [uV64], [], [(334, [uL244, uL9])]), ([ui0, (0, 6)], [ur1474, ur2429], [], [], [uV62], [], [uG2472, (342, [uL244, uL9])])], [], 87, 0, 0)
set_option maxRecDepth 1000000 in
theorem ck_635 : x_ok mLT1 [] mTS2 mTC2 mRUp cx_635 [] [(1, [97, 1001114]), (21, [1001137]), (22, [34, 1001138, 1001139]), (28, [1001115])] [(2, ([(0, 3072), (0, 6), (0, 6)], [(12, false), (87, false)], [(0, [(1, 1), (2, (-1))]), (0, [(2, 1)]), (6, [(2, (-1))])], [(2, 0, 0, []), (0, 0, 5, []), (0, 0, 0, [(2, 1)])], [], [(0, (false, 61, 0, []), 0, 0, 0, [(1, 1)]), (0, (false, 60, 0, []), 2, 1, 0, [])], [(9, [(5, []), (0, [])]), (9, [(5, []), (0, [(2, 1)])]), (342, [(5, []), (0, [(2, 1)])])]), (84, [(2, (-13))]))] (87, []) 0 15 = true := by decide +kernel
theorem sn_635 {W : Bool} {X : List Int32} : y_Snd (mGw W) mLT1 (J2 W X) X cx_635 := y_ok J2_J mTS2_ok1 mTC2_ok1 mRUp_ok1 (fun _ h => absurd h List.not_mem_nil) ck_635
/-- M.nextFrom -/
def cx_636 : zCtx := (275, ([ui0, (0, 6), ui49, ui49, ui49, ui49, ui49, ui49, ui49], [ur1474, ur2429, ur2430], [], [], [uV2, uV62], [uF2466, uF2436, uF2473], [uG2474]), [([ui0, (0, 6), ui49, ui49, ui49, ui49, ui49, ui49, ui49], [ur1474, ur2429, ur2430], [], [], [uV62], [], [uG2467, (333, [uL67, uL23, uL98, uL104, uL78, uL79, uL131, uL63, uL9, uL63])]), ([ui0, (0, 6), ui49, ui49, ui49, ui49, ui49, ui49, ui49], [ur1474, ur2429, ur2430], [], [], [uV64], [], [uG2468, (333, [uL67, uL23, uL98, uL104, uL78, uL79, uL131, uL63, uL9, uL65])]), ([ui0, (0, 6), ui49, ui49, ui49, ui49, ui49, ui49, ui49], [ur1474, ur2429, ur2430], [], [], [uV388], [], [uG2469, (333, [uL67, uL23, uL98, uL104, uL78, uL79, uL131, uL63, uL9, uL114])]), ([ui0, (0, 6), ui49, ui49, ui49, ui49, ui49, ui49, ui49], [ur1474, ur2429, ur2430], [], [], [uV384], [], [uG2470, (333, [uL67, uL23, uL98, uL104, uL78, uL79, uL131, uL63, uL9, uL209])]), ([ui0, (0, 6), ui49, ui49, ui49, ui49, ui49, ui49, ui49], [ur1474, ur2429, ur2430], [], [], [uV380], [], [uG2471, (333, [uL67, uL23, uL98, uL104, uL78, uL79, uL131, uL63, uL9, uL36])]), ([ui0, (0, 6), ui49, ui49, ui49, ui49, ui49, ui49, ui49], [ur1474, ur2429, ur2430], [], [], [uV3], [], [uG2472, (333, [uL67, uL23, uL98, uL104, uL78, uL79, uL131, uL63, uL9, uL244])]), ([ui0, (0, 6), ui49, ui49, ui49, ui49, ui49, ui49, ui49], [ur1474, ur2429, ur2430], [], [], [uV61], [], [(333, [uL67, uL23, uL98, uL104, uL78, uL79, uL131, uL63, uL9, uL99])])], [], 178, 1, 22)
def cq_636 : List zCtx := [cx_630, cx_631, cx_632, cx_633, cx_634, cx_635]
def cs_636 : List (Nat × List Nat) := [(19, [0, 1, 2, 3, 4, 5])]
def hs_636 : List (Nat × List Nat) := [(0, [1001113]), (26, [1001116]), (27, uN2475), (34, [1001119])]
def ns_636 : List zN := []
set_option maxRecDepth 1000000 in
theorem ca_636 : x_okA mLT1 cq_636 mTS2 mTC2 mRUp cx_636 cs_636 hs_636 ns_636 (91, []) 87 94 = true := by decide +kernel
set_option maxRecDepth 1000000 in
theorem cc_636 : x_okC mLT1 cq_636 mTS2 mTC2 mRUp cx_636 cs_636 hs_636 ns_636 (91, []) 87 94 = true := by decide +kernel
theorem ck_636 : x_ok mLT1 cq_636 mTS2 mTC2 mRUp cx_636 cs_636 hs_636 ns_636 (91, []) 87 94 = true := x_ok_of ca_636 (fun _ h => absurd h List.not_mem_nil) cc_636
theorem sn_636 {W : Bool} {X : List Int32} : y_Snd (mGw W) mLT1 (J2 W X) X cx_636 := y_ok J2_J mTS2_ok1 mTC2_ok1 mRUp_ok1 (List.forall_mem_cons.mpr ⟨sn_630, List.forall_mem_cons.mpr ⟨sn_631, List.forall_mem_cons.mpr ⟨sn_632, List.forall_mem_cons.mpr ⟨sn_633, List.forall_mem_cons.mpr ⟨sn_634, List.forall_mem_cons.mpr ⟨sn_635, fun _ h => absurd h List.not_mem_nil⟩⟩⟩⟩⟩⟩) ck_636
/-- M.nextFrom -/
def cx_637 : zCtx := (275, ([ui0, (0, 5), ui49, ui49, ui49, ui49, ui49, ui49, ui49], [ur1474, ur2429, ur2430], [], [], [uV2, uV64], [uF2466, uF2436, uF2473], [uG2474]), [([ui0, (0, 5), ui49, ui49, ui49, ui49, ui49, ui49, ui49], [ur1474, ur2429, ur2430], [], [], [uV64], [], [uG2468, (333, [uL67, uL23, uL98, uL104, uL78, uL79, uL131, uL65, uL9, uL65])]), ([ui0, (0, 5), ui49, ui49, ui49, ui49, ui49, ui49, ui49], [ur1474, ur2429, ur2430], [], [], [uV388], [], [uG2469, (333, [uL67, uL23, uL98, uL104, uL78, uL79, uL131, uL65, uL9, uL114])]), ([ui0, (0, 5), ui49, ui49, ui49, ui49, ui49, ui49, ui49], [ur1474, ur2429, ur2430], [], [], [uV384], [], [uG2470, (333, [uL67, uL23, uL98, uL104, uL78, uL79, uL131, uL65, uL9, uL209])]), ([ui0, (0, 5), ui49, ui49, ui49, ui49, ui49, ui49, ui49], [ur1474, ur2429, ur2430], [], [], [uV380], [], [uG2471, (333, [uL67, uL23, uL98, uL104, uL78, uL79, uL131, uL65, uL9, uL36])]), ([ui0, (0, 5), ui49, ui49, ui49, ui49, ui49, ui49, ui49], [ur1474, ur2429, ur2430], [], [], [uV3], [], [uG2472, (333, [uL67, uL23, uL98, uL104, uL78, uL79, uL131, uL65, uL9, uL244])]), ([ui0, (0, 5), ui49, ui49, ui49, ui49, ui49, ui49, ui49], [ur1474, ur2429, ur2430], [], [], [uV61], [], [(333, [uL67, uL23, uL98, uL104, uL78, uL79, uL131, uL65, uL9, uL99])])], [], 164, 1, 22)
def cq_637 : List zCtx := [cx_631, cx_632, cx_633, cx_634, cx_635]
def cs_637 : List (Nat × List Nat) := [(19, [0, 1, 2, 3, 4])]
def hs_637 : List (Nat × List Nat) := [(0, [1001113]), (26, [1001116]), (27, uN2475), (34, [1001119])]
def ns_637 : List zN := []
set_option maxRecDepth 1000000 in
theorem ca_637 : x_okA mLT1 cq_637 mTS2 mTC2 mRUp cx_637 cs_637 hs_637 ns_637 (77, []) 87 80 = true := by decide +kernel
set_option maxRecDepth 1000000 in
theorem cc_637 : x_okC mLT1 cq_637 mTS2 mTC2 mRUp cx_637 cs_637 hs_637 ns_637 (77, []) 87 80 = true := by decide +kernel
theorem ck_637 : x_ok mLT1 cq_637 mTS2 mTC2 mRUp cx_637 cs_637 hs_637 ns_637 (77, []) 87 80 = true := x_ok_of ca_637 (fun _ h => absurd h List.not_mem_nil) cc_637
theorem sn_637 {W : Bool} {X : List Int32} : y_Snd (mGw W) mLT1 (J2 W X) X cx_637 := y_ok J2_J mTS2_ok1 mTC2_ok1 mRUp_ok1 (List.forall_mem_cons.mpr ⟨sn_631, List.forall_mem_cons.mpr ⟨sn_632, List.forall_mem_cons.mpr ⟨sn_633, List.forall_mem_cons.mpr ⟨sn_634, List.forall_mem_cons.mpr ⟨sn_635, fun _ h => absurd h List.not_mem_nil⟩⟩⟩⟩⟩) ck_637
end
