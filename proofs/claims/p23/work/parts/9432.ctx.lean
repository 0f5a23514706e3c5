noncomputable section
/-! ===== readings, by program, checked by the kernel ===== -/
/-- M.isPeace -/
def cx_705 : zCtx := (285, cx_696p, [cx_696q0, cx_696q1], [uk2396, uk2446, uk2397], 1000001016, 4, 87)
set_option maxRecDepth 1000000 in
theorem ck_705 : x_ok mLT1 [cx_689, cx_695, cx_652] mTS2 mTC2 mRUp cx_705 [(32, [0]), (37, [1]), (41, [2])] [(1, [1001218]), (24, [1001219]), (30, [1001220]), (48, [1001221]), (52, [1001222])] [(3, cz_696_0, (576, [(19, (-14))]))] (579, []) 1000000437 19 = true := by decide +kernel
theorem sn_705 {W : Bool} {X : List Int32} : y_Snd (mGw W) mLT1 (J2 W X) X cx_705 := y_ok J2_J mTS2_ok1 mTC2_ok1 mRUp_ok1 (List.forall_mem_cons.mpr ⟨sn_689, List.forall_mem_cons.mpr ⟨sn_695, List.forall_mem_cons.mpr ⟨sn_652, fun _ h => absurd h List.not_mem_nil⟩⟩⟩) ck_705
/-- M.isPeace -/
def cx_706 : zCtx := (285, cx_696p, [cx_696q0, cx_696q1], [uk2396, uk2446, uk2397], 1000001016, 4, 87)
set_option maxRecDepth 1000000 in
theorem ck_706 : x_ok mLT1 [cx_689, cx_695, cx_652] mTS2 mTC2 mRUp cx_706 [(32, [0]), (37, [1]), (41, [2])] [(1, [1001218]), (24, [1001219]), (30, [1001220]), (48, [1001221]), (52, [1001222])] [(3, cz_696_0, (576, [(19, (-14))]))] (579, []) 1000000437 19 = true := by decide +kernel
theorem sn_706 {W : Bool} {X : List Int32} : y_Snd (mGw W) mLT1 (J2 W X) X cx_706 := y_ok J2_J mTS2_ok1 mTC2_ok1 mRUp_ok1 (List.forall_mem_cons.mpr ⟨sn_689, List.forall_mem_cons.mpr ⟨sn_695, List.forall_mem_cons.mpr ⟨sn_652, fun _ h => absurd h List.not_mem_nil⟩⟩⟩) ck_706
/-- M.isPeace -/
def cx_707 : zCtx := (285, cx_696p, [cx_696q0, cx_696q1], [uk2396, uk2446, uk2397], 1000001016, 4, 87)
set_option maxRecDepth 1000000 in
theorem ck_707 : x_ok mLT1 [cx_689, cx_695, cx_652] mTS2 mTC2 mRUp cx_707 [(32, [0]), (37, [1]), (41, [2])] [(1, [1001218]), (24, [1001219]), (30, [1001220]), (48, [1001221]), (52, [1001222])] [(3, cz_696_0, (576, [(19, (-14))]))] (579, []) 1000000437 19 = true := by decide +kernel
theorem sn_707 {W : Bool} {X : List Int32} : y_Snd (mGw W) mLT1 (J2 W X) X cx_707 := y_ok J2_J mTS2_ok1 mTC2_ok1 mRUp_ok1 (List.forall_mem_cons.mpr ⟨sn_689, List.forall_mem_cons.mpr ⟨sn_695, List.forall_mem_cons.mpr ⟨sn_652, fun _ h => absurd h List.not_mem_nil⟩⟩⟩) ck_707
/-- M.isPeace -/
def cx_708 : zCtx := (285, cx_696p, [cx_696q0, cx_696q1], [uk2396, uk2446, uk2397], 1000001016, 4, 87)
set_option maxRecDepth 1000000 in
theorem ck_708 : x_ok mLT1 [cx_689, cx_695, cx_652] mTS2 mTC2 mRUp cx_708 [(32, [0]), (37, [1]), (41, [2])] [(1, [1001218]), (24, [1001219]), (30, [1001220]), (48, [1001221]), (52, [1001222])] [(3, cz_696_0, (576, [(19, (-14))]))] (579, []) 1000000437 19 = true := by decide +kernel
theorem sn_708 {W : Bool} {X : List Int32} : y_Snd (mGw W) mLT1 (J2 W X) X cx_708 := y_ok J2_J mTS2_ok1 mTC2_ok1 mRUp_ok1 (List.forall_mem_cons.mpr ⟨sn_689, List.forall_mem_cons.mpr ⟨sn_695, List.forall_mem_cons.mpr ⟨sn_652, fun _ h => absurd h List.not_mem_nil⟩⟩⟩) ck_708
/-- M.isPeace -/
def cx_709 : zCtx := (285, cx_696p, [cx_696q0, cx_696q1], [uk2396, uk2446, uk2397], 1000001016, 4, 87)
set_option maxRecDepth 1000000 in
theorem ck_709 : x_ok mLT1 [cx_689, cx_695, cx_652] mTS2 mTC2 mRUp cx_709 [(32, [0]), (37, [1]), (41, [2])] [(1, [1001218]), (24, [1001219]), (30, [1001220]), (48, [1001221]), (52, [1001222])] [(3, cz_696_0, (576, [(19, (-14))]))] (579, []) 1000000437 19 = true := by decide +kernel
theorem sn_709 {W : Bool} {X : List Int32} : y_Snd (mGw W) mLT1 (J2 W X) X cx_709 := y_ok J2_J mTS2_ok1 mTC2_ok1 mRUp_ok1 (List.forall_mem_cons.mpr ⟨sn_689, List.forall_mem_cons.mpr ⟨sn_695, List.forall_mem_cons.mpr ⟨sn_652, fun _ h => absurd h List.not_mem_nil⟩⟩⟩) ck_709
/-- M.isPeace -/
def cx_710 : zCtx := (285, cx_696p, [cx_696q0, cx_696q1], [uk2396, uk2446, uk2397], 1000001016, 4, 87)
set_option maxRecDepth 1000000 in
theorem ck_710 : x_ok mLT1 [cx_689, cx_695, cx_652] mTS2 mTC2 mRUp cx_710 [(32, [0]), (37, [1]), (41, [2])] [(1, [1001218]), (24, [1001219]), (30, [1001220]), (48, [1001221]), (52, [1001222])] [(3, cz_696_0, (576, [(19, (-14))]))] (579, []) 1000000437 19 = true := by decide +kernel
theorem sn_710 {W : Bool} {X : List Int32} : y_Snd (mGw W) mLT1 (J2 W X) X cx_710 := y_ok J2_J mTS2_ok1 mTC2_ok1 mRUp_ok1 (List.forall_mem_cons.mpr ⟨sn_689, List.forall_mem_cons.mpr ⟨sn_695, List.forall_mem_cons.mpr ⟨sn_652, fun _ h => absurd h List.not_mem_nil⟩⟩⟩) ck_710
def cx_711pi_0 (t : List (Int × Int)) : List (Int × Int) := ui0 :: ui586 :: (0, 2) :: (0, 1) :: ui49 :: (0, 1) :: (0, 6) :: ui31 :: t
def cx_711pi_1 (t : List (Int × Int)) : List (Int × Int) := (0, 6) :: (0, 6) :: ui49 :: ui49 :: ui196 :: (0, 6) :: t
def cx_711p : zS := ((cx_711pi_0 (cx_711pi_1 [])), (cx_653pr_0 (cx_653pr_1 (cx_653pr_2 []))), [uL1291], [], [uV2, uV11, uV12], (cx_679pf_0 (cx_679pf_1 (cx_679pf_2 (cx_679pf_3 [])))), (cx_679pg_0 []))
def cx_711q0i_0 (t : List (Int × Int)) : List (Int × Int) := ui0 :: ui586 :: (0, 0) :: (0, 1) :: ui49 :: (0, 1) :: (0, 6) :: ui31 :: t
def cx_711q0i_1 (t : List (Int × Int)) : List (Int × Int) := (0, 6) :: (0, 6) :: ui49 :: ui49 :: ui196 :: (0, 6) :: t
def cx_711q0 : zS := ((cx_711q0i_0 (cx_711q0i_1 [])), (cx_653pr_0 (cx_653pr_1 (cx_653pr_2 []))), [], [], [uV62], [], [uG1973, uG2439, (238, [uL1292, uL79, uL63, uL63, uL63, uL63, uL63, uL63, uL1293, uL214, uL63])])
def cx_711q1i_0 (t : List (Int × Int)) : List (Int × Int) := ui0 :: ui586 :: (1, 2) :: (0, 1) :: ui49 :: (0, 1) :: (0, 6) :: ui31 :: t
def cx_711q1i_1 (t : List (Int × Int)) : List (Int × Int) := (0, 6) :: (0, 6) :: ui49 :: ui49 :: ui196 :: (0, 6) :: t
def cx_711q1 : zS := ((cx_711q1i_0 (cx_711q1i_1 [])), (cx_653pr_0 (cx_653pr_1 (cx_653pr_2 []))), [], [], [uV61], [], [uG1973, uG2439, uG2468])
def cx_711q2 : zS := ((cx_711q0i_0 (cx_711q0i_1 [])), (cx_653pr_0 (cx_653pr_1 (cx_653pr_2 []))), [], [], [uV64], [], [uG1973, uG2439, (238, [uL1292, uL79, uL63, uL63, uL63, uL63, uL63, uL63, uL1293, uL214, uL65])])
def cx_711q3i_0 (t : List (Int × Int)) : List (Int × Int) := ui0 :: ui586 :: (1, 1) :: (0, 1) :: ui49 :: (0, 1) :: (0, 6) :: ui31 :: t
def cx_711q3i_1 (t : List (Int × Int)) : List (Int × Int) := (0, 6) :: (0, 6) :: ui49 :: ui49 :: ui196 :: (0, 6) :: ui1294 :: t
def cx_711q3 : zS := ((cx_711q3i_0 (cx_711q3i_1 [])), (cx_653pr_0 (cx_653pr_1 (cx_653pr_2 []))), [], [], [uV356], [], [uG1973, uG2439, uG2469])
def cx_711q4i_0 (t : List (Int × Int)) : List (Int × Int) := ui0 :: ui586 :: (2, 2) :: (0, 1) :: ui49 :: (0, 1) :: (0, 6) :: ui31 :: t
def cx_711q4i_1 (t : List (Int × Int)) : List (Int × Int) := (0, 6) :: (0, 6) :: ui49 :: ui49 :: ui196 :: (0, 6) :: t
def cx_711q4 : zS := ((cx_711q4i_0 (cx_711q4i_1 [])), (cx_653pr_0 (cx_653pr_1 (cx_653pr_2 []))), [], [], [uV61], [], [uG1973, uG2439, uG2468])
def cx_711q5 : zS := ((cx_711pi_0 (cx_711pi_1 [])), (cx_653pr_0 (cx_653pr_1 (cx_653pr_2 []))), [], [], [uV568], [], [uG1973, uG2439, (238, [uL1292, uL79, uL63, uL63, uL63, uL63, uL63, uL63, uL1293, uL214, uL806])])
def cx_711q6 : zS := ((cx_711q0i_0 (cx_711q0i_1 [])), (cx_653pr_0 (cx_653pr_1 (cx_653pr_2 []))), [], [], [uV389], [], [uG1973, uG2439, (238, [uL1292, uL79, uL63, uL63, uL63, uL63, uL63, uL63, uL1293, uL214, uL114])])
def cx_711q7i_0 (t : List (Int × Int)) : List (Int × Int) := ui0 :: ui586 :: (2, 2) :: (0, 1) :: ui49 :: (0, 1) :: (0, 6) :: ui31 :: t
def cx_711q7i_1 (t : List (Int × Int)) : List (Int × Int) := (0, 6) :: (0, 6) :: ui49 :: ui49 :: ui196 :: (0, 6) :: ui1294 :: t
def cx_711q7 : zS := ((cx_711q7i_0 (cx_711q7i_1 [])), (cx_653pr_0 (cx_653pr_1 (cx_653pr_2 []))), [], [], [uV356], [], [uG1973, uG2439, uG2469])
/-- M.peace -/
def cx_711 : zCtx := (284, cx_711p, [cx_711q0, cx_711q1, cx_711q2, cx_711q3, cx_711q4, cx_711q5, cx_711q6, cx_711q7], kc_84, 1000082307, 6, 129)
def cq_711 : List zCtx := [cx_567, cx_517, cx_521, cx_634, cx_682, cx_683, cx_684, cx_685, cx_686, cx_687, cx_688, cx_690, cx_691, cx_692, cx_693, cx_694, cx_696, cx_697, cx_698, cx_699, cx_700, cx_701, cx_702, cx_703, cx_704, cx_705, cx_706, cx_707, cx_708, cx_709, cx_710]
def cs_711 : List (Nat × List Nat) := [(1, [0]), (10, [1]), (19, [2]), (23, [3]), (30, [4]), (56, [5, 6, 7, 8, 9, 10]), (66, [11, 12, 13, 14, 15]), (119, [5, 6, 7, 8, 9, 10]), (128, [5, 6, 7, 8, 9, 10]), (139, [16, 17, 18, 19, 20, 21, 22, 23, 24, 25, 26, 27, 28, 29, 30])]
def hs_711 : List (Nat × List Nat) := [(22, uN2200), (40, [1001224]), (44, [1001225]), (46, [1001223]), (54, [233]), (72, [1001240]), (90, [1001241, 1001242, 1001243]), (91, [1001233, 1001234]), (97, [1001244]), (108, [1001245]), (117, [233, 297]), (145, [1001251]), (164, [1001252, 1001253, 1001254]), (165, [1001249, 1001250]), (171, [1001246, 1001247]), (177, [1001248])]
def nd_711_0pi_0 (t : List (Int × Int)) : List (Int × Int) := ui0 :: ui586 :: (0, 2) :: (0, 1) :: ui49 :: (0, 1) :: (0, 6) :: ui31 :: t
def nd_711_0pi_1 (t : List (Int × Int)) : List (Int × Int) := (0, 6) :: (0, 6) :: ui49 :: ui49 :: ui196 :: (0, 6) :: ui847 :: ui196 :: t
def nd_711_0pr_0 (t : List (Nat × Bool)) : List (Nat × Bool) := ur1414 :: ur1461 :: ur1462 :: ur1472 :: ur1473 :: ur1474 :: ur1475 :: ur1476 :: t
def nd_711_0pr_1 (t : List (Nat × Bool)) : List (Nat × Bool) := ur1470 :: ur1471 :: ur1463 :: ur1575 :: ur1576 :: ur1465 :: ur1963 :: ur1466 :: t
def nd_711_0pr_2 (t : List (Nat × Bool)) : List (Nat × Bool) := ur2344 :: ur2345 :: ur2346 :: ur2347 :: ur2348 :: ur2343 :: ur1469 :: ur1983 :: t
def nd_711_0pf_0 (t : List zFa) : List zFa := uF1970 :: uF2409 :: uF2410 :: uF2411 :: uF2102 :: uF1477 :: uF1478 :: uF2105 :: t
def nd_711_0pf_1 (t : List zFa) : List zFa := uF2106 :: uF2107 :: uF2108 :: uF2109 :: uF1708 :: uF1709 :: uF2110 :: uF2111 :: t
def nd_711_0pf_2 (t : List zFa) : List zFa := uF2112 :: uF1998 :: uF2195 :: uF2251 :: uF2421 :: uF2422 :: uF2423 :: uF2424 :: t
def nd_711_0pf_3 (t : List zFa) : List zFa := uF2425 :: uF2426 :: t
def nd_711_0pg_0 (t : List zTg) : List zTg := uG2437 :: uG2440 :: uG1973 :: uG2115 :: uG2429 :: uG2438 :: uG2197 :: uG2439 :: t
def nd_711_0pg_1 (t : List zTg) : List zTg := uG2470 :: uG2471 :: uG2472 :: uG2473 :: uG2474 :: uG2475 :: (357, [uL79, uL63, uL63, uL63, uL63, uL63, uL63, uL9, uL214, uL208]) :: t
def nd_711_0p : zS := ((nd_711_0pi_0 (nd_711_0pi_1 [])), (nd_711_0pr_0 (nd_711_0pr_1 (nd_711_0pr_2 []))), [uL1291, uL208, uL2476], [uV2, uV11, uV12, uV356, uV113], [], (nd_711_0pf_0 (nd_711_0pf_1 (nd_711_0pf_2 (nd_711_0pf_3 [])))), (nd_711_0pg_0 (nd_711_0pg_1 [])))
def nd_711_0 : zN := (48, nd_711_0p, (81270, [(14, (-16))]))
def nd_711_1pg_0 (t : List zTg) : List zTg := uG2437 :: uG2440 :: uG1973 :: uG2115 :: uG2429 :: uG2438 :: uG2197 :: uG2439 :: t
def nd_711_1pg_1 (t : List zTg) : List zTg := uG2470 :: uG2471 :: uG2472 :: uG2473 :: uG2474 :: uG2475 :: uG2477 :: (359, [uL79, uL63, uL63, uL63, uL63, uL63, uL63, uL9, uL214, uL208, uL63]) :: t
def nd_711_1p : zS := ((nd_711_0pi_0 (nd_711_0pi_1 [])), (nd_711_0pr_0 (nd_711_0pr_1 (nd_711_0pr_2 []))), [uL1291, uL208, uL2476], [uV2, uV11, uV12, uV356, uV113], [], (nd_711_0pf_0 (nd_711_0pf_1 (nd_711_0pf_2 (nd_711_0pf_3 [])))), (nd_711_1pg_0 (nd_711_1pg_1 [])))
def nd_711_1 : zN := (99, nd_711_1p, (80256, [(14, (-1254))]))
def nd_711_2pi_0 (t : List (Int × Int)) : List (Int × Int) := ui0 :: ui586 :: (0, 2) :: (0, 1) :: ui49 :: (0, 1) :: (0, 6) :: ui31 :: t
def nd_711_2pi_1 (t : List (Int × Int)) : List (Int × Int) := (0, 6) :: (0, 6) :: ui49 :: ui49 :: ui196 :: (0, 6) :: ui847 :: ui1118 :: t
def nd_711_2pi_2 (t : List (Int × Int)) : List (Int × Int) := ui196 :: t
def nd_711_2pf_0 (t : List zFa) : List zFa := uF1970 :: (0, (false, 49, 0, []), 0, 0, 0, [(16, 1)]) :: uF2410 :: uF2411 :: uF2102 :: uF1477 :: uF1478 :: uF2105 :: t
def nd_711_2pf_1 (t : List zFa) : List zFa := uF2106 :: uF2107 :: uF2108 :: uF2109 :: uF1708 :: uF1709 :: uF2110 :: uF2111 :: t
def nd_711_2pf_2 (t : List zFa) : List zFa := uF2112 :: uF1998 :: uF2195 :: uF2251 :: uF2421 :: uF2422 :: uF2423 :: uF2424 :: t
def nd_711_2pf_3 (t : List zFa) : List zFa := uF2425 :: uF2426 :: t
def nd_711_2pg_0 (t : List zTg) : List zTg := uG2437 :: uG2440 :: uG1973 :: uG2115 :: uG2429 :: uG2438 :: uG2197 :: uG2439 :: t
def nd_711_2pg_1 (t : List zTg) : List zTg := uG2470 :: uG2471 :: uG2472 :: uG2473 :: uG2474 :: uG2475 :: uG2477 :: (359, [uL79, uL63, uL63, uL63, uL63, uL63, uL63, uL9, uL214, uL208, uL209]) :: t
def nd_711_2p : zS := ((nd_711_2pi_0 (nd_711_2pi_1 (nd_711_2pi_2 []))), (nd_711_0pr_0 (nd_711_0pr_1 (nd_711_0pr_2 []))), [uL1291, uL63, uL1213, uL208, uL2476, ((-1), [(14, (-1)), (15, 1)]), (60, [(15, (-1))]), (59, [(14, (-1))])], [uV2, uV11, uV12, uV356, uV587], [], (nd_711_2pf_0 (nd_711_2pf_1 (nd_711_2pf_2 (nd_711_2pf_3 [])))), (nd_711_2pg_0 (nd_711_2pg_1 [])))
def nd_711_2 : zN := (110, nd_711_2p, (80268, [(14, (-1234)), (15, (-20))]))
def ns_711 : List zN := [nd_711_0, nd_711_1, nd_711_2]
set_option maxRecDepth 1000000 in
theorem ca_711 : x_okA mLT1 cq_711 mTS2 mTC2 mRUp cx_711 cs_711 hs_711 ns_711 (81291, []) 1000001016 28 = true := by decide +kernel
set_option maxRecDepth 1000000 in
theorem cb_711_0 : x_okB mLT1 cq_711 mTS2 mTC2 mRUp cx_711 cs_711 hs_711 ns_711 (81291, []) 1000001016 28 nd_711_0 = true := by decide +kernel
set_option maxRecDepth 1000000 in
theorem cb_711_1 : x_okB mLT1 cq_711 mTS2 mTC2 mRUp cx_711 cs_711 hs_711 ns_711 (81291, []) 1000001016 28 nd_711_1 = true := by decide +kernel
set_option maxRecDepth 1000000 in
theorem cb_711_2 : x_okB mLT1 cq_711 mTS2 mTC2 mRUp cx_711 cs_711 hs_711 ns_711 (81291, []) 1000001016 28 nd_711_2 = true := by decide +kernel
set_option maxRecDepth 1000000 in
theorem cc_711 : x_okC mLT1 cq_711 mTS2 mTC2 mRUp cx_711 cs_711 hs_711 ns_711 (81291, []) 1000001016 28 = true := by decide +kernel
theorem ck_711 : x_ok mLT1 cq_711 mTS2 mTC2 mRUp cx_711 cs_711 hs_711 ns_711 (81291, []) 1000001016 28 = true := x_ok_of ca_711 (List.forall_mem_cons.mpr ⟨cb_711_0, List.forall_mem_cons.mpr ⟨cb_711_1, List.forall_mem_cons.mpr ⟨cb_711_2, fun _ h => absurd h List.not_mem_nil⟩⟩⟩) cc_711
theorem sn_711 {W : Bool} {X : List Int32} : y_Snd (mGw W) mLT1 (J2 W X) X cx_711 := y_ok J2_J mTS2_ok1 mTC2_ok1 mRUp_ok1 (List.forall_mem_cons.mpr ⟨sn_567, List.forall_mem_cons.mpr ⟨sn_517, List.forall_mem_cons.mpr ⟨sn_521, List.forall_mem_cons.mpr ⟨sn_634, List.forall_mem_cons.mpr ⟨sn_682, List.forall_mem_cons.mpr ⟨sn_683, List.forall_mem_cons.mpr ⟨sn_684, List.forall_mem_cons.mpr ⟨sn_685, List.forall_mem_cons.mpr ⟨sn_686, List.forall_mem_cons.mpr ⟨sn_687, List.forall_mem_cons.mpr ⟨sn_688, List.forall_mem_cons.mpr ⟨sn_690, List.forall_mem_cons.mpr ⟨sn_691, List.forall_mem_cons.mpr ⟨sn_692, List.forall_mem_cons.mpr ⟨sn_693, List.forall_mem_cons.mpr ⟨sn_694, List.forall_mem_cons.mpr ⟨sn_696, List.forall_mem_cons.mpr ⟨sn_697, List.forall_mem_cons.mpr ⟨sn_698, List.forall_mem_cons.mpr ⟨sn_699, List.forall_mem_cons.mpr ⟨sn_700, List.forall_mem_cons.mpr ⟨sn_701, List.forall_mem_cons.mpr ⟨sn_702, List.forall_mem_cons.mpr ⟨sn_703, List.forall_mem_cons.mpr ⟨sn_704, List.forall_mem_cons.mpr ⟨sn_705, List.forall_mem_cons.mpr ⟨sn_706, List.forall_mem_cons.mpr ⟨sn_707, List.forall_mem_cons.mpr ⟨sn_708, List.forall_mem_cons.mpr ⟨sn_709, List.forall_mem_cons.mpr ⟨sn_710, fun _ h => absurd h List.not_mem_nil⟩⟩⟩⟩⟩⟩⟩⟩⟩⟩⟩⟩⟩⟩⟩⟩⟩⟩⟩⟩⟩⟩⟩⟩⟩⟩⟩⟩⟩⟩⟩) ck_711
end
