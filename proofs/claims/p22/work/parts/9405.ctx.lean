noncomputable section
/-! ===== readings, by program, checked by the kernel ===== -/
def cx_115pi_0 (t : List (Int × Int)) : List (Int × Int) := ui0 :: ui409 :: (0, 0) :: ui52 :: ui68 :: ui52 :: ui70 :: (0, 5) :: t
def cx_115pi_1 (t : List (Int × Int)) : List (Int × Int) := ui49 :: (0, 6) :: ui48 :: ui68 :: ui31 :: t
def cx_115p : zS := ((cx_115pi_0 (cx_115pi_1 [])), (cx_65pr_0 (cx_65pr_1 [])), [], [], [uV2, uV11], (cx_65pf_0 (cx_65pf_1 (cx_65pf_2 []))), [uG160, uG294, uG295, uG296, uG297])
/-- Parser.parseLaw -/
def cx_115 : zCtx := (62, cx_115p, [([ui0, ui409, (0, 0), ui52, ui68, ui52, ui70, (0, 5), ui49, (0, 6), ui48, ui68, ui31, (1, 2), ui52], [ur158, ur50, ur53, ur71, ur72, ur73, ur172, ur7, ur18, ur19, ur8], [], [], [], [uF214, uF199], [uG298])], [uk170], 9, 0, 0)
set_option maxRecDepth 1000000 in
theorem ck_115 : x_ok mLT [] mTS2 mTC2 mRUp cx_115 [] [(14, uN299)] [] (9, []) 0 12 = true := by decide +kernel
theorem sn_115 {W : Bool} {X : List Int32} : y_Snd (mGw W) mLT (J2 W X) X cx_115 := y_ok J2_J mTS2_ok mTC2_ok mRUp_ok (fun _ h => absurd h List.not_mem_nil) ck_115
def cx_116pr_0 (t : List (Nat × Bool)) : List (Nat × Bool) := ur158 :: ur50 :: ur53 :: ur54 :: ur71 :: ur72 :: ur73 :: ur172 :: t
def cx_116pr_1 (t : List (Nat × Bool)) : List (Nat × Bool) := ur1 :: ur224 :: ur225 :: ur7 :: ur18 :: ur19 :: ur8 :: t
def cx_116pf_0 (t : List zFa) : List zFa := uF181 :: uF182 :: uF20 :: uF151 :: uF183 :: uF44 :: uF45 :: uF46 :: t
def cx_116pf_1 (t : List zFa) : List zFa := uF410 :: uF411 :: uF412 :: uF413 :: uF414 :: uF415 :: uF416 :: uF417 :: t
def cx_116pf_2 (t : List zFa) : List zFa := uF418 :: (11, (false, 4, 0, []), 0, 0, 0, [(5, 1)]) :: t
def cx_116p : zS := ([ui0, (0, 2), (0, 5), ui49, ui52, ui31], (cx_116pr_0 (cx_116pr_1 [])), [], [], [uV2, uV419], (cx_116pf_0 (cx_116pf_1 (cx_116pf_2 []))), [])
def cx_116q1i_0 (t : List (Int × Int)) : List (Int × Int) := ui0 :: (0, 2) :: (0, 5) :: ui49 :: ui52 :: ui31 :: ui49 :: (0, 6) :: t
def cx_116q1i_1 (t : List (Int × Int)) : List (Int × Int) := ui194 :: ui194 :: ui194 :: ui194 :: ui31 :: t
def cx_116q1g_0 (t : List zTg) : List zTg := (41, [uL98, uL63, uL78]) :: (74, [uL98]) :: (76, [uL98, uL79]) :: (87, [uL98, uL264, uL131]) :: (87, [uL98, uL281, uL163]) :: (87, [uL98, uL283, uL169]) :: (87, [uL98, uL285, uL193]) :: (93, [uL98, uL79]) :: t
def cx_116q1g_1 (t : List zTg) : List zTg := (213, [uL98, uL212]) :: t
def cx_116q1 : zS := ((cx_116q1i_0 (cx_116q1i_1 [])), (cx_116pr_0 (cx_116pr_1 [])), [], [], [uV62], [(0, (false, 5, 0, []), 0, 0, 0, [(6, 1)]), (1, (false, 5, 0, []), 0, 0, 0, [(7, 1)]), uF420, uF421, uF422, (1, (false, 10, 0, []), 0, 0, 0, [(11, 1)]), (11, (false, 4, 0, []), 0, 0, 0, [(12, 1)])], (cx_116q1g_0 (cx_116q1g_1 [])))
/-- Parser.parse -/
def cx_116 : zCtx := (54, cx_116p, [([ui0, (0, 2), (0, 5), ui49, ui52, ui31, (1, 5), ui49], [ur158, ur50, ur53, ur54, ur71, ur72, ur73, ur172, ur1, ur224, ur225, ur7, ur18, ur19, ur8], [], [], [uV108], [(0, (false, 5, 0, []), 0, 0, 0, [(7, 1)])], [(41, [uL98, uL78, uL79])]), cx_116q1], kc_5, 241610, 24, 542)
def cq_116 : List zCtx := [cx_4, cx_32, cx_44, cx_53, cx_55, cx_58, cx_61, cx_64, cx_65, cx_114, cx_115]
def cs_116 : List (Nat × List Nat) := [(9, [0]), (26, [1]), (117, [2]), (124, [3]), (138, [4]), (155, [5]), (172, [6]), (190, [7]), (211, [8, 9, 10])]
def hs_116 : List (Nat × List Nat) := [(29, [1000191, 1000192, 1000193, 1000441, 1000471, 1000472, 1000473, 1000474, 1000516, 1000568]), (214, [1000194, 1000442, 1000475, 1000476, 1000477, 1000478, 1000479, 1000480, 1000481, 1000482, 1000517, 1000569, 1000570]), (220, [1000195, 1000196, 1000443, 1000444, 1000483, 1000484, 1000485, 1000486, 1000518, 1000571]), (263, [1000445])]
def nd_116_0pi_0 (t : List (Int × Int)) : List (Int × Int) := ui0 :: (0, 2) :: (0, 5) :: ui49 :: ui52 :: ui31 :: ui141 :: ui68 :: t
def nd_116_0pi_1 (t : List (Int × Int)) : List (Int × Int) := ui69 :: ui52 :: ui70 :: (0, 5) :: ui194 :: ui194 :: ui194 :: ui194 :: t
def nd_116_0pi_2 (t : List (Int × Int)) : List (Int × Int) := ui48 :: (0, 6) :: ui31 :: ui49 :: t
def nd_116_0pf_0 (t : List zFa) : List zFa := uF47 :: uF166 :: uF162 :: uF167 :: (0, (false, 3, 0, []), 0, 0, 0, [(11, 1)]) :: uF165 :: (1, (false, 10, 0, []), 0, 0, 0, [(12, 1)]) :: (1, (false, 9, 0, []), 0, 0, 0, [(13, 1)]) :: t
def nd_116_0pf_1 (t : List zFa) : List zFa := uF423 :: (1, (false, 7, 0, []), 0, 0, 0, [(15, 1)]) :: (1, (false, 6, 0, []), 0, 0, 0, [(16, 1)]) :: (1, (false, 5, 0, []), 0, 0, 0, [(17, 1)]) :: (11, (false, 4, 0, []), 0, 0, 0, [(18, 1)]) :: uF42 :: (0, (false, 4, 0, []), 0, 0, 0, [(19, 1)]) :: uF151 :: t
def nd_116_0pf_2 (t : List zFa) : List zFa := uF183 :: uF44 :: uF45 :: uF46 :: uF410 :: uF411 :: uF412 :: uF413 :: t
def nd_116_0pf_3 (t : List zFa) : List zFa := uF414 :: uF415 :: uF416 :: uF417 :: uF418 :: t
def nd_116_0pg_0 (t : List zTg) : List zTg := (35, [uL98, uL79]) :: (36, [uL98, uL79, uL131, uL163, uL169]) :: (40, [uL98, uL79, uL63, uL63, uL63, uL211, uL210, uL193, uL352, uL78]) :: (43, [uL98, uL79, uL211]) :: (51, [uL79, uL78]) :: (34, [uL98, uL79]) :: (86, [uL98, uL79, uL264, uL207]) :: (86, [uL98, uL79, uL281, uL206]) :: t
def nd_116_0pg_1 (t : List zTg) : List zTg := (86, [uL98, uL79, uL283, uL205]) :: (86, [uL98, uL79, uL285, uL212]) :: (92, [uL98, uL79, uL211]) :: (201, [uL98, uL79, uL275, uL63]) :: t
def nd_116_0p : zS := ((nd_116_0pi_0 (nd_116_0pi_1 (nd_116_0pi_2 []))), (cx_116pr_0 (cx_116pr_1 [])), [], [uV2, uV419, uV108], [], (nd_116_0pf_0 (nd_116_0pf_1 (nd_116_0pf_2 (nd_116_0pf_3 [])))), (nd_116_0pg_0 (nd_116_0pg_1 [])))
def nd_116_0 : zN := (31, nd_116_0p, (10042, [(6, (-25))]))
def nd_116_1pi_0 (t : List (Int × Int)) : List (Int × Int) := ui0 :: (0, 2) :: (0, 5) :: ui49 :: ui52 :: ui31 :: ui143 :: ui49 :: t
def nd_116_1pi_1 (t : List (Int × Int)) : List (Int × Int) := (1, 2) :: ui52 :: ui49 :: ui49 :: ui49 :: ui424 :: (0, 6) :: t
def nd_116_1pf_0 (t : List zFa) : List zFa := (1, (false, 10, 0, []), 0, 0, 0, [(7, 1)]) :: uF161 :: uF162 :: uF422 :: (1, (false, 8, 0, []), 0, 0, 0, [(11, 1)]) :: uF425 :: (1, (false, 6, 0, []), 0, 0, 0, [(13, 1)]) :: (1, (false, 5, 0, []), 0, 0, 0, [(14, 1)]) :: t
def nd_116_1pf_1 (t : List zFa) : List zFa := uF42 :: uF151 :: uF183 :: uF44 :: uF45 :: uF46 :: uF410 :: uF411 :: t
def nd_116_1pf_2 (t : List zFa) : List zFa := uF412 :: uF413 :: uF414 :: uF415 :: uF416 :: uF417 :: uF418 :: t
def nd_116_1p : zS := ((nd_116_1pi_0 (nd_116_1pi_1 [])), (cx_116pr_0 (cx_116pr_1 [])), [], [uV2, uV419, uV108], [], (nd_116_1pf_0 (nd_116_1pf_1 (nd_116_1pf_2 []))), [(41, [uL98, uL131, uL163])])
def nd_116_1 : zN := (31, nd_116_1p, (1220, [(6, (-3))]))
def ns_116 : List zN := [nd_116_0, nd_116_1]
set_option maxRecDepth 1000000 in
theorem ca_116 : x_okA mLT cq_116 mTS2 mTC2 mRUp cx_116 cs_116 hs_116 ns_116 (10060, []) 231550 28 = true := by decide +kernel
set_option maxRecDepth 1000000 in
theorem cb_116_0 : x_okB mLT cq_116 mTS2 mTC2 mRUp cx_116 cs_116 hs_116 ns_116 (10060, []) 231550 28 nd_116_0 = true := by decide +kernel
set_option maxRecDepth 1000000 in
theorem cb_116_1 : x_okB mLT cq_116 mTS2 mTC2 mRUp cx_116 cs_116 hs_116 ns_116 (10060, []) 231550 28 nd_116_1 = true := by decide +kernel
set_option maxRecDepth 1000000 in
theorem cc_116 : x_okC mLT cq_116 mTS2 mTC2 mRUp cx_116 cs_116 hs_116 ns_116 (10060, []) 231550 28 = true := by decide +kernel
theorem ck_116 : x_ok mLT cq_116 mTS2 mTC2 mRUp cx_116 cs_116 hs_116 ns_116 (10060, []) 231550 28 = true := x_ok_of ca_116 (List.forall_mem_cons.mpr ⟨cb_116_0, List.forall_mem_cons.mpr ⟨cb_116_1, fun _ h => absurd h List.not_mem_nil⟩⟩) cc_116
theorem sn_116 {W : Bool} {X : List Int32} : y_Snd (mGw W) mLT (J2 W X) X cx_116 := y_ok J2_J mTS2_ok mTC2_ok mRUp_ok (List.forall_mem_cons.mpr ⟨sn_4, List.forall_mem_cons.mpr ⟨sn_32, List.forall_mem_cons.mpr ⟨sn_44, List.forall_mem_cons.mpr ⟨sn_53, List.forall_mem_cons.mpr ⟨sn_55, List.forall_mem_cons.mpr ⟨sn_58, List.forall_mem_cons.mpr ⟨sn_61, List.forall_mem_cons.mpr ⟨sn_64, List.forall_mem_cons.mpr ⟨sn_65, List.forall_mem_cons.mpr ⟨sn_114, List.forall_mem_cons.mpr ⟨sn_115, fun _ h => absurd h List.not_mem_nil⟩⟩⟩⟩⟩⟩⟩⟩⟩⟩⟩) ck_116
/-- Arrays.fill -/
def cx_117 : zCtx := (2, ([ui0], [ur426], [], [], [uV2, uV62], [], []), [([ui0], [ur426], [], [], [], [], [(270, [uL250])])], [uk427], 70, 0, 0)
set_option maxRecDepth 1000000 in
theorem ck_117 : x_ok mLT [] mTS2 mTC2 mRUp cx_117 [] [(2, [1000430, 1000808]), (14, [1000431, 1000809])] [(5, ([(0, 3072), (0, 6)], [(28, false)], [(6, [(1, (-1))])], [(2, 0, 0, []), (0, 0, 0, []), (0, 0, 0, [(1, 1)]), (0, 0, 6, [])], [], [], [(33, [(0, [])]), (270, [(0, [(1, 1)])])]), (64, [(1, (-10))]))] (70, []) 0 12 = true := by decide +kernel
theorem sn_117 {W : Bool} {X : List Int32} : y_Snd (mGw W) mLT (J2 W X) X cx_117 := y_ok J2_J mTS2_ok mTC2_ok mRUp_ok (fun _ h => absurd h List.not_mem_nil) ck_117
def cx_118pi_0 (t : List (Int × Int)) : List (Int × Int) := ui0 :: (0, 6) :: (0, 6) :: ui49 :: ui49 :: ui49 :: ui49 :: ui49 :: t
def cx_118pi_1 (t : List (Int × Int)) : List (Int × Int) := ui49 :: ui49 :: ui49 :: (0, 6) :: t
def cx_118pf_0 (t : List zFa) : List zFa := uF38 :: uF39 :: uF40 :: uF41 :: (1, (false, 2, 0, []), 2, 2, 0, []) :: (2, (true, 0, 0, []), 0, 0, 0, [(5, 1)]) :: (2, (true, 0, 1, []), 0, 0, 0, [(6, 1)]) :: (2, (true, 0, 2, []), 0, 0, 0, [(7, 1)]) :: t
def cx_118pf_1 (t : List zFa) : List zFa := (2, (true, 0, 3, []), 0, 0, 0, [(8, 1)]) :: (2, (true, 0, 4, []), 0, 0, 0, [(9, 1)]) :: (2, (true, 0, 5, []), 0, 0, 0, [(10, 1)]) :: uF428 :: uF429 :: uF430 :: t
def cx_118p : zS := ((cx_118pi_0 (cx_118pi_1 [])), [ur431, ur50, ur224, ur432, ur426], [], [], [uV2, uV419], (cx_118pf_0 (cx_118pf_1 [])), [])
/-- State.begin -/
def cx_118 : zCtx := (100, cx_118p, [([ui0, (0, 6), (0, 6), ui49, ui49, ui49, ui49, ui49, ui49, ui49, ui49, (0, 6)], [ur431, ur50, ur224, ur432, ur426], [], [], [], [(0, (false, 5, 0, []), 0, 0, 0, [(11, 1)]), uF51, (0, (false, 7, 0, []), 0, 0, 0, []), (0, (false, 8, 0, []), 0, 0, 0, [])], [uG433])], [(6, false, 5), uk434, uk435, (6, false, 8), uk436, uk427], 96, 1, 64)
set_option maxRecDepth 1000000 in
theorem ck_118 : x_ok mLT [cx_117] mTS2 mTC2 mRUp cx_118 [(20, [0])] [(46, [1000810])] [] (26, []) 70 29 = true := by decide +kernel
theorem sn_118 {W : Bool} {X : List Int32} : y_Snd (mGw W) mLT (J2 W X) X cx_118 := y_ok J2_J mTS2_ok mTC2_ok mRUp_ok (List.forall_mem_cons.mpr ⟨sn_117, fun _ h => absurd h List.not_mem_nil⟩) ck_118
/-- History.clear -/
def cx_119 : zCtx := (39, ([ui0, ui437, ui438, (0, 7)], [ur439], [], [], [uV2], [uF181, uF182, uF20], []), [([ui0, ui437, ui438, (0, 7)], [ur439], [], [], [], [uF127, uF440, uF165], [])], [(7, false, 2), (7, false, 3), (7, false, 4)], 10, 0, 0)
set_option maxRecDepth 1000000 in
theorem ck_119 : x_ok mLT [] mTS2 mTC2 mRUp cx_119 [] [] [] (10, []) 0 13 = true := by decide +kernel
theorem sn_119 {W : Bool} {X : List Int32} : y_Snd (mGw W) mLT (J2 W X) X cx_119 := y_ok J2_J mTS2_ok mTC2_ok mRUp_ok (fun _ h => absurd h List.not_mem_nil) ck_119
def cx_120pi_0 (t : List (Int × Int)) : List (Int × Int) := ui0 :: ui48 :: (0, 7) :: (0, 6) :: (0, 6) :: ui49 :: ui49 :: ui437 :: t
def cx_120pi_1 (t : List (Int × Int)) : List (Int × Int) := ui438 :: (0, 6) :: ui49 :: ui49 :: ui49 :: ui49 :: ui49 :: ui49 :: t
def cx_120pr_0 (t : List (Nat × Bool)) : List (Nat × Bool) := ur441 :: ur50 :: ur442 :: ur443 :: ur444 :: ur439 :: ur431 :: ur432 :: t
def cx_120pr_1 (t : List (Nat × Bool)) : List (Nat × Bool) := ur426 :: ur224 :: t
def cx_120pf_0 (t : List zFa) : List zFa := uF445 :: uF76 :: uF446 :: uF447 :: (4, (false, 8, 0, []), 0, 0, 0, [(1, 1)]) :: uF448 :: uF449 :: (0, (false, 3, 0, []), 2, 6, 0, []) :: t
def cx_120pf_1 (t : List zFa) : List zFa := uF450 :: uF451 :: (6, (false, 7, 0, []), 0, 0, 0, [(5, 1)]) :: uF452 :: uF453 :: uF454 :: uF310 :: uF311 :: t
def cx_120pf_2 (t : List zFa) : List zFa := uF188 :: uF413 :: (9, (true, 0, 0, []), 0, 0, 0, [(10, 1)]) :: (9, (true, 0, 1, []), 0, 0, 0, [(11, 1)]) :: (9, (true, 0, 2, []), 0, 0, 0, [(12, 1)]) :: (9, (true, 0, 3, []), 0, 0, 0, [(13, 1)]) :: (9, (true, 0, 4, []), 0, 0, 0, [(14, 1)]) :: (9, (true, 0, 5, []), 0, 0, 0, [(15, 1)]) :: t
def cx_120p : zS := ((cx_120pi_0 (cx_120pi_1 [])), (cx_120pr_0 (cx_120pr_1 [])), [], [], [uV2], (cx_120pf_0 (cx_120pf_1 (cx_120pf_2 []))), [])
def cx_120q0f_0 (t : List zFa) : List zFa := uF455 :: uF456 :: (4, (false, 8, 0, []), 0, 0, 0, []) :: (5, (false, 4, 0, []), 0, 0, 0, []) :: (6, (false, 5, 0, []), 0, 0, 0, [(9, 1)]) :: (6, (false, 6, 0, []), 0, 0, 0, []) :: (6, (false, 7, 0, []), 0, 0, 0, []) :: (6, (false, 8, 0, []), 0, 0, 0, []) :: t
def cx_120q0f_1 (t : List zFa) : List zFa := (5, (false, 2, 0, []), 0, 0, 0, []) :: (5, (false, 3, 0, []), 0, 0, 0, []) :: t
def cx_120q0 : zS := ((cx_120pi_0 (cx_120pi_1 [])), (cx_120pr_0 (cx_120pr_1 [])), [], [], [], (cx_120q0f_0 (cx_120q0f_1 [])), [uG433])
/-- HairRope.beginSpareText -/
def cx_120 : zCtx := (140, cx_120p, [cx_120q0], kc_6, 122, 2, 85)
set_option maxRecDepth 1000000 in
theorem ck_120 : x_ok mLT [cx_118, cx_119] mTS2 mTC2 mRUp cx_120 [(35, [0]), (42, [1])] [] [] (26, []) 96 29 = true := by decide +kernel
theorem sn_120 {W : Bool} {X : List Int32} : y_Snd (mGw W) mLT (J2 W X) X cx_120 := y_ok J2_J mTS2_ok mTC2_ok mRUp_ok (List.forall_mem_cons.mpr ⟨sn_118, List.forall_mem_cons.mpr ⟨sn_119, fun _ h => absurd h List.not_mem_nil⟩⟩) ck_120
def cx_121pi_0 (t : List (Int × Int)) : List (Int × Int) := ui0 :: ui52 :: ui48 :: ui31 :: (0, 7) :: (0, 6) :: (0, 6) :: ui49 :: t
def cx_121pi_1 (t : List (Int × Int)) : List (Int × Int) := ui49 :: ui437 :: ui438 :: (0, 6) :: t
def cx_121pr_0 (t : List (Nat × Bool)) : List (Nat × Bool) := ur441 :: ur50 :: ur442 :: ur443 :: ur53 :: ur54 :: ur71 :: ur72 :: t
def cx_121pr_1 (t : List (Nat × Bool)) : List (Nat × Bool) := ur73 :: ur172 :: ur158 :: ur444 :: ur1 :: ur224 :: ur225 :: ur7 :: t
def cx_121pr_2 (t : List (Nat × Bool)) : List (Nat × Bool) := ur18 :: ur19 :: ur8 :: ur439 :: ur431 :: ur432 :: ur426 :: t
def cx_121pf_0 (t : List zFa) : List zFa := uF445 :: uF76 :: uF446 :: uF101 :: (4, (false, 5, 0, []), 0, 0, 0, [(1, 1)]) :: uF457 :: uF458 :: uF459 :: t
def cx_121pf_1 (t : List zFa) : List zFa := uF460 :: uF461 :: (0, (false, 1, 0, []), 2, 10, 0, []) :: (10, (false, 0, 0, []), 2, 4, 0, []) :: uF462 :: uF463 :: uF464 :: uF465 :: t
def cx_121pf_2 (t : List zFa) : List zFa := uF466 :: (1, (false, 4, 0, []), 2, 15, 0, []) :: (15, (false, 0, 0, []), 2, 16, 0, []) :: (15, (false, 1, 0, []), 2, 17, 0, []) :: (15, (false, 2, 0, []), 2, 18, 0, []) :: (15, (false, 4, 0, []), 0, 0, 0, [(3, 1)]) :: (0, (false, 4, 0, []), 2, 19, 0, []) :: uF467 :: t
def cx_121pf_3 (t : List zFa) : List zFa := (0, (false, 3, 0, []), 2, 20, 0, []) :: uF468 :: uF469 :: uF470 :: uF471 :: uF472 :: uF473 :: (20, (false, 0, 0, []), 2, 21, 0, []) :: t
def cx_121pf_4 (t : List zFa) : List zFa := uF474 :: uF428 :: t
def cx_121p : zS := ((cx_121pi_0 (cx_121pi_1 [])), (cx_121pr_0 (cx_121pr_1 (cx_121pr_2 []))), [], [], [uV2], (cx_121pf_0 (cx_121pf_1 (cx_121pf_2 (cx_121pf_3 (cx_121pf_4 []))))), [uG475])
def cx_121q0i_0 (t : List (Int × Int)) : List (Int × Int) := ui0 :: ui52 :: ui48 :: ui31 :: (0, 7) :: (0, 6) :: (0, 6) :: ui49 :: t
def cx_121q0i_1 (t : List (Int × Int)) : List (Int × Int) := ui49 :: ui437 :: ui438 :: (0, 6) :: (0, 6) :: ui194 :: ui194 :: ui194 :: t
def cx_121q0i_2 (t : List (Int × Int)) : List (Int × Int) := ui194 :: ui31 :: t
def cx_121q0f_0 (t : List zFa) : List zFa := uF455 :: uF456 :: (11, (false, 8, 0, []), 0, 0, 0, []) :: (0, (false, 10, 0, []), 0, 0, (-1), []) :: uF476 :: (1, (false, 5, 0, []), 0, 0, 0, [(12, 1)]) :: (1, (false, 7, 0, []), 0, 0, 0, [(13, 1)]) :: uF423 :: t
def cx_121q0f_1 (t : List zFa) : List zFa := (1, (false, 9, 0, []), 0, 0, 0, [(15, 1)]) :: (1, (false, 10, 0, []), 0, 0, 0, [(16, 1)]) :: (15, (false, 4, 0, []), 0, 0, 0, [(17, 1)]) :: (19, (false, 4, 0, []), 0, 0, 0, []) :: (20, (false, 5, 0, []), 0, 0, 0, [(12, 1)]) :: (20, (false, 6, 0, []), 0, 0, 0, []) :: (20, (false, 7, 0, []), 0, 0, 0, []) :: (20, (false, 8, 0, []), 0, 0, 0, []) :: t
def cx_121q0f_2 (t : List zFa) : List zFa := (19, (false, 2, 0, []), 0, 0, 0, []) :: (19, (false, 3, 0, []), 0, 0, 0, []) :: t
def cx_121q0g_0 (t : List zTg) : List zTg := uG477 :: (74, [uL9]) :: (76, [uL9, uL212]) :: (87, [uL9, uL264, uL205]) :: (87, [uL9, uL281, uL206]) :: (87, [uL9, uL283, uL207]) :: (87, [uL9, uL285, uL210]) :: (93, [uL9, uL212]) :: t
def cx_121q0g_1 (t : List zTg) : List zTg := (213, [uL9, uL211]) :: uG433 :: t
def cx_121q0 : zS := ((cx_121q0i_0 (cx_121q0i_1 (cx_121q0i_2 []))), (cx_121pr_0 (cx_121pr_1 (cx_121pr_2 []))), [], [], [uV62], (cx_121q0f_0 (cx_121q0f_1 (cx_121q0f_2 []))), (cx_121q0g_0 (cx_121q0g_1 [])))
def cx_121q1i_0 (t : List (Int × Int)) : List (Int × Int) := ui0 :: ui52 :: ui48 :: ui31 :: (0, 7) :: (0, 6) :: (0, 6) :: ui49 :: t
def cx_121q1i_1 (t : List (Int × Int)) : List (Int × Int) := ui49 :: ui437 :: ui438 :: (0, 6) :: (1, 5) :: ui49 :: t
def cx_121q1f_0 (t : List zFa) : List zFa := uF446 :: uF445 :: uF463 :: uF478 :: uF476 :: uF467 :: uF468 :: uF469 :: t
def cx_121q1f_1 (t : List zFa) : List zFa := uF470 :: uF471 :: uF472 :: uF473 :: t
def cx_121q1 : zS := ((cx_121q1i_0 (cx_121q1i_1 [])), (cx_121pr_0 (cx_121pr_1 (cx_121pr_2 []))), [], [], [uV196], (cx_121q1f_0 (cx_121q1f_1 [])), [(47, [uL9, uL212, uL205]), uG475])
/-- HairRope.read -/
def cx_121 : zCtx := (139, cx_121p, [cx_121q0, cx_121q1], kc_7, 241632, 25, 564)
set_option maxRecDepth 1000000 in
theorem ck_121 : x_ok mLT [cx_116, cx_120] mTS2 mTC2 mRUp cx_121 [(8, [0]), (44, [1])] [(28, [1000197, 1000198])] [] (22, []) 241610 25 = true := by decide +kernel
theorem sn_121 {W : Bool} {X : List Int32} : y_Snd (mGw W) mLT (J2 W X) X cx_121 := y_ok J2_J mTS2_ok mTC2_ok mRUp_ok (List.forall_mem_cons.mpr ⟨sn_116, List.forall_mem_cons.mpr ⟨sn_120, fun _ h => absurd h List.not_mem_nil⟩⟩) ck_121
/-- Tape.put -/
def cx_122 : zCtx := (114, ([ui0, ui49, ui479, ui52], [ur53, ur54], [uL480], [], [uV2, uV11], [uF55, uF21], [uG481]), [([ui0, ui49, ui479, ui52], [ur53, ur54], [], [], [], [uF482], [uG481, uG484])], [uk485, uk486], 109, 0, 0)
set_option maxRecDepth 1000000 in
theorem ck_122 : x_ok mLT1 [] mTS2 mTC2 mRUp cx_122 [] [(34, [1000421]), (35, [1000422]), (53, [1000423])] [] (109, []) 0 112 = true := by decide +kernel
theorem sn_122 {W : Bool} {X : List Int32} : y_Snd (mGw W) mLT1 (J2 W X) X cx_122 := y_ok J2_J mTS2_ok1 mTC2_ok1 mRUp_ok1 (fun _ h => absurd h List.not_mem_nil) ck_122
/-- Tape.put -/
def cx_123 : zCtx := (114, ([ui0, ui49, ui487, ui52, ui49], [ur53, ur54], [uL480], [], [uV2, uV11], [uF55, uF21], [uG481, uG489]), [([ui0, ui49, ui487, ui52, ui49], [ur53, ur54], [], [], [], [uF482], [uG481, uG489, uG484])], [uk485, uk486], 109, 0, 0)
set_option maxRecDepth 1000000 in
theorem ck_123 : x_ok mLT1 [] mTS2 mTC2 mRUp cx_123 [] [(34, [1000421]), (35, [1000422]), (53, [1000423])] [] (109, []) 0 112 = true := by decide +kernel
theorem sn_123 {W : Bool} {X : List Int32} : y_Snd (mGw W) mLT1 (J2 W X) X cx_123 := y_ok J2_J mTS2_ok1 mTC2_ok1 mRUp_ok1 (fun _ h => absurd h List.not_mem_nil) ck_123
/-- Tape.put -/
def cx_124 : zCtx := (114, ([ui0, ui49, ui490, ui52, ui49, ui49], [ur53, ur54], [uL480], [], [uV2, uV11], [uF55, uF21], [uG481, uG489, uG492]), [([ui0, ui49, ui490, ui52, ui49, ui49], [ur53, ur54], [], [], [], [uF482], [uG481, uG489, uG492, uG484])], [uk485, uk486], 109, 0, 0)
set_option maxRecDepth 1000000 in
theorem ck_124 : x_ok mLT1 [] mTS2 mTC2 mRUp cx_124 [] [(34, [1000421]), (35, [1000422]), (53, [1000423])] [] (109, []) 0 112 = true := by decide +kernel
theorem sn_124 {W : Bool} {X : List Int32} : y_Snd (mGw W) mLT1 (J2 W X) X cx_124 := y_ok J2_J mTS2_ok1 mTC2_ok1 mRUp_ok1 (fun _ h => absurd h List.not_mem_nil) ck_124
/-- Tape.put -/
def cx_125 : zCtx := (114, ([ui0, ui49, ui493, ui52, ui49, ui49, ui49], [ur53, ur54], [uL480], [], [uV2, uV11], [uF55, uF21], [uG481, uG489, uG492, uG495]), [([ui0, ui49, ui493, ui52, ui49, ui49, ui49], [ur53, ur54], [], [], [], [uF482], [uG481, uG489, uG492, uG495, uG484])], [uk485, uk486], 109, 0, 0)
set_option maxRecDepth 1000000 in
theorem ck_125 : x_ok mLT1 [] mTS2 mTC2 mRUp cx_125 [] [(34, [1000421]), (35, [1000422]), (53, [1000423])] [] (109, []) 0 112 = true := by decide +kernel
theorem sn_125 {W : Bool} {X : List Int32} : y_Snd (mGw W) mLT1 (J2 W X) X cx_125 := y_ok J2_J mTS2_ok1 mTC2_ok1 mRUp_ok1 (fun _ h => absurd h List.not_mem_nil) ck_125
/-- Tape.put -/
def cx_126 : zCtx := (114, ([ui0, ui49, ui496, ui52, ui49, ui49, ui49, ui49], [ur53, ur54], [uL480], [], [uV2, uV11], [uF55, uF21], [uG481, uG489, uG492, uG495, uG498]), [([ui0, ui49, ui496, ui52, ui49, ui49, ui49, ui49], [ur53, ur54], [], [], [], [uF482], [uG481, uG489, uG492, uG495, uG498, uG484])], [uk485, uk486], 109, 0, 0)
set_option maxRecDepth 1000000 in
theorem ck_126 : x_ok mLT1 [] mTS2 mTC2 mRUp cx_126 [] [(34, [1000421]), (35, [1000422]), (53, [1000423])] [] (109, []) 0 112 = true := by decide +kernel
theorem sn_126 {W : Bool} {X : List Int32} : y_Snd (mGw W) mLT1 (J2 W X) X cx_126 := y_ok J2_J mTS2_ok1 mTC2_ok1 mRUp_ok1 (fun _ h => absurd h List.not_mem_nil) ck_126
/-- HairRope.feed -/
def cx_127 : zCtx := (137, ([ui0, ui49, ui49, ui49, ui49, ui49, ui52, ui52], [ur441, ur53, ur54], [uL499], [], [uV2, uV11, uV12, uV58, uV97, uV75], [uF21, uF500, uF501], [uG502]), [([ui0, ui49, ui49, ui49, ui49, ui49, ui52, ui52], [ur441, ur53, ur54], [uL503], [], [uV61], [uF500], [uG502]), ([ui0, ui49, ui49, ui49, ui49, ui49, ui52, ui52], [ur441, ur53, ur54], [uL504], [], [uV505], [(1, (false, 5, 0, []), 0, 0, 20, [(6, 1)])], [uG502, (72, [uL78, uL9, uL506]), (72, [uL506, uL67, uL507]), (72, [uL507, uL23, uL508]), (72, [uL508, uL98, uL509]), (72, [uL509, uL104, uL510])])], [uk485, uk486], 138, 1, 22)
set_option maxRecDepth 1000000 in
theorem ck_127 : x_ok mLT1 [cx_122, cx_123, cx_124, cx_125, cx_126] mTS2 mTC2 mRUp cx_127 [(20, [0]), (28, [1]), (36, [2]), (45, [3]), (54, [4])] [] [] (29, []) 109 32 = true := by decide +kernel
theorem sn_127 {W : Bool} {X : List Int32} : y_Snd (mGw W) mLT1 (J2 W X) X cx_127 := y_ok J2_J mTS2_ok1 mTC2_ok1 mRUp_ok1 (List.forall_mem_cons.mpr ⟨sn_122, List.forall_mem_cons.mpr ⟨sn_123, List.forall_mem_cons.mpr ⟨sn_124, List.forall_mem_cons.mpr ⟨sn_125, List.forall_mem_cons.mpr ⟨sn_126, fun _ h => absurd h List.not_mem_nil⟩⟩⟩⟩⟩) ck_127
/-- HairRope.back -/
def cx_128 : zCtx := (138, ([ui0, ui49, ui52], [ur441, ur53], [], [], [uV2, uV11], [uF21, uF511], []), [([ui0, ui512, ui52], [ur441, ur53], [uL513], [], [uV61], [uF511], []), ([ui0, ui52, ui52], [ur441, ur53], [uL514], [], [uV515], [(1, (false, 5, 0, []), 0, 0, 0, [(1, (-1)), (2, 1)])], []), ([ui0, ui260, ui52], [ur441, ur53], [], [], [uV61], [uF511], [])], [uk485], 18, 0, 0)
set_option maxRecDepth 1000000 in
theorem ck_128 : x_ok mLT1 [] mTS2 mTC2 mRUp cx_128 [] [] [] (18, []) 0 21 = true := by decide +kernel
theorem sn_128 {W : Bool} {X : List Int32} : y_Snd (mGw W) mLT1 (J2 W X) X cx_128 := y_ok J2_J mTS2_ok1 mTC2_ok1 mRUp_ok1 (fun _ h => absurd h List.not_mem_nil) ck_128
/-- HairRope.place -/
def cx_129 : zCtx := (141, ([ui0], [ur441], [], [], [uV2], [], []), [([ui0, ui49], [ur441], [], [], [uV11], [], [])], [], 3, 0, 0)
set_option maxRecDepth 1000000 in
theorem ck_129 : x_ok mLT1 [] mTS2 mTC2 mRUp cx_129 [] [] [] (3, []) 0 6 = true := by decide +kernel
theorem sn_129 {W : Bool} {X : List Int32} : y_Snd (mGw W) mLT1 (J2 W X) X cx_129 := y_ok J2_J mTS2_ok1 mTC2_ok1 mRUp_ok1 (fun _ h => absurd h List.not_mem_nil) ck_129
/-- HairRope.isHouse -/
def cx_130 : zCtx := (143, ([ui0, ui49, (0, 6)], [ur441, ur442, ur443], [], [], [uV2, uV11], [uF13, uF516, uF303], []), [([ui0, (0, 5), (1, 6)], [ur441, ur442, ur443], [uL57], [], [uV64], [], []), ([ui0, ui517, (0, 6)], [ur441, ur442, ur443], [uL60], [], [uV62], [], []), ([ui0, ui260, (0, 6)], [ur441, ur442, ur443], [], [], [uV62], [], [])], [], 14, 0, 0)
set_option maxRecDepth 1000000 in
theorem ck_130 : x_ok mLT1 [] mTS2 mTC2 mRUp cx_130 [] [] [] (14, []) 0 17 = true := by decide +kernel
theorem sn_130 {W : Bool} {X : List Int32} : y_Snd (mGw W) mLT1 (J2 W X) X cx_130 := y_ok J2_J mTS2_ok1 mTC2_ok1 mRUp_ok1 (fun _ h => absurd h List.not_mem_nil) ck_130
def cx_131pi_0 (t : List (Int × Int)) : List (Int × Int) := ui0 :: (0, 5) :: (0, 6) :: (0, 6) :: ui49 :: ui49 :: ui49 :: ui49 :: t
def cx_131pi_1 (t : List (Int × Int)) : List (Int × Int) := ui49 :: ui49 :: ui49 :: ui49 :: ui49 :: t
def cx_131p : zS := ((cx_131pi_0 (cx_131pi_1 [])), [ur431], [uL518], [], [uV2, uV11], [uF39, uF95, uF139, uF519], [uG520])
/-- State.placeOf -/
def cx_131 : zCtx := (101, cx_131p, [([ui0, (0, 5), (1, 6), (0, 6), ui49, ui49, ui49, ui49, ui49, ui49, ui49, ui49, ui49, (0, 5)], [ur431], [uL521, uL518], [], [uV408], [], [uG522]), ([ui0, (0, 5), (0, 6), (0, 6), ui49, ui49, ui49, ui49, ui49, ui49, ui49, ui49, ui49], [ur431], [uL518], [], [uV61], [], [uG523])], [], 105, 0, 0)
def cz_131_0i_0 (t : List (Int × Int)) : List (Int × Int) := ui0 :: (0, 5) :: (0, 6) :: (0, 6) :: ui49 :: ui49 :: ui49 :: ui49 :: t
def cz_131_0i_1 (t : List (Int × Int)) : List (Int × Int) := ui49 :: ui49 :: ui49 :: ui49 :: ui49 :: (0, 6) :: t
def cz_131_0g_0 (t : List zTg) : List zTg := uG524 :: uG520 :: uG525 :: t
def cz_131_0 : zS := ((cz_131_0i_0 (cz_131_0i_1 [])), [ur431], [uL518], [uV2, uV11, uV408], [], [uF39, uF95, uF139, uF519], (cz_131_0g_0 []))
set_option maxRecDepth 1000000 in
theorem ck_131 : x_ok mLT1 [] mTS2 mTC2 mRUp cx_131 [] [(0, [1000811]), (23, [1000012]), (26, [1000814]), (28, [1000812, 1000813]), (34, [1000815])] [(2, cz_131_0, (102, [(13, (-16))]))] (105, []) 0 18 = true := by decide +kernel
theorem sn_131 {W : Bool} {X : List Int32} : y_Snd (mGw W) mLT1 (J2 W X) X cx_131 := y_ok J2_J mTS2_ok1 mTC2_ok1 mRUp_ok1 (fun _ h => absurd h List.not_mem_nil) ck_131
def cx_132pi_0 (t : List (Int × Int)) : List (Int × Int) := ui0 :: (0, 5) :: ui243 :: (0, 6) :: (0, 6) :: ui49 :: ui49 :: ui49 :: t
def cx_132pi_1 (t : List (Int × Int)) : List (Int × Int) := ui49 :: ui49 :: ui49 :: ui49 :: ui49 :: ui49 :: t
def cx_132p : zS := ((cx_132pi_0 (cx_132pi_1 [])), [ur442, ur431], [uL518, uL9, uL526, uL527, uL528], [], [uV2, uV419, uV11, uV12], [uF529, uF530, uF531, uF532], [uG533, uG534])
/-- Rules.strongOf -/
def cx_132 : zCtx := (89, cx_132p, [([ui0, (0, 5), ui243, (0, 6), (0, 6), ui49, ui49, ui49, ui49, ui49, ui49, ui49, ui49, ui49, ui49], [ur442, ur431], [uL518, uL9, uL526, uL527, uL528], [], [uV355], [], [uG535])], [], 14, 0, 0)
set_option maxRecDepth 1000000 in
theorem ck_132 : x_ok mLT1 [] mTS2 mTC2 mRUp cx_132 [] [(16, [1000829, 1000830]), (40, [1000817])] [] (14, []) 0 17 = true := by decide +kernel
theorem sn_132 {W : Bool} {X : List Int32} : y_Snd (mGw W) mLT1 (J2 W X) X cx_132 := y_ok J2_J mTS2_ok1 mTC2_ok1 mRUp_ok1 (fun _ h => absurd h List.not_mem_nil) ck_132
def cx_133p : zS := ((cx_132pi_0 (cx_132pi_1 [])), [ur442, ur431, ur536], [uL518, uL9, uL526, uL527, uL528], [], [uV2, uV419, uV11, uV12], [uF529, uF530, uF531, uF532, uF22], [uG533, uG534])
def cx_133q0i_0 (t : List (Int × Int)) : List (Int × Int) := ui0 :: (0, 5) :: ui243 :: (1, 6) :: (0, 6) :: ui49 :: ui49 :: ui49 :: t
def cx_133q0i_1 (t : List (Int × Int)) : List (Int × Int) := ui49 :: ui49 :: ui49 :: ui49 :: ui49 :: ui49 :: ui49 :: (0, 5) :: t
def cx_133q0i_2 (t : List (Int × Int)) : List (Int × Int) := ui49 :: ui537 :: t
def cx_133q0f_0 (t : List zFa) : List zFa := (2, (true, 0, 8, []), 0, 0, 0, []) :: (2, (true, 0, 7, []), 0, 0, 0, [(14, 1)]) :: (2, (true, 0, 6, []), 0, 0, 0, [(4, 1)]) :: (2, (true, 0, 5, []), 0, 0, 0, [(1, 1)]) :: (2, (true, 0, 4, []), 0, 0, 0, [(15, 1)]) :: (2, (true, 0, 3, []), 0, 0, 0, [(5, 1)]) :: (2, (true, 0, 2, []), 0, 0, 0, []) :: (2, (true, 0, 1, []), 0, 0, 0, [(16, 1)]) :: t
def cx_133q0f_1 (t : List zFa) : List zFa := (2, (true, 0, 0, []), 0, 0, 0, [(17, 1)]) :: t
def cx_133q0g_0 (t : List zTg) : List zTg := (238, [uL34, uL79, uL131, uL163, uL169, uL193, uL212, uL205, uL9, uL63, uL211]) :: (238, [uL258, uL79, uL131, uL163, uL169, uL193, uL212, uL205, uL9, uL63, uL210]) :: (238, [uL34, uL79, uL131, uL163, uL169, uL193, uL212, uL205, uL538, uL63, uL104]) :: (238, [uL539, uL79, uL131, uL163, uL169, uL193, uL212, uL205, uL9, uL63, uL207]) :: (238, [uL34, uL79, uL131, uL163, uL169, uL193, uL212, uL205, uL540, uL63, uL98]) :: (238, [uL34, uL79, uL131, uL163, uL169, uL193, uL212, uL205, uL541, uL63, uL206]) :: t
def cx_133q0 : zS := ((cx_133q0i_0 (cx_133q0i_1 (cx_133q0i_2 []))), [ur442, ur431, ur536], [uL528, uL526, uL518, uL9, uL527], [], [], (cx_133q0f_0 (cx_133q0f_1 [])), (cx_133q0g_0 []))
/-- Rules.lookAt -/
def cx_133 : zCtx := (88, cx_133p, [cx_133q0], [uk542], 79, 1, 64)
set_option maxRecDepth 1000000 in
theorem ck_133 : x_ok mLT1 [cx_132] mTS2 mTC2 mRUp cx_133 [(32, [0])] [(22, [1000816]), (58, [1000818]), (63, uN543), (95, [1000821]), (103, [1000822])] [] (65, []) 14 68 = true := by decide +kernel
theorem sn_133 {W : Bool} {X : List Int32} : y_Snd (mGw W) mLT1 (J2 W X) X cx_133 := y_ok J2_J mTS2_ok1 mTC2_ok1 mRUp_ok1 (List.forall_mem_cons.mpr ⟨sn_132, fun _ h => absurd h List.not_mem_nil⟩) ck_133
/-- Laws.reckon -/
def cx_134 : zCtx := (52, ([ui0, ui49, ui49], [], [], [], [uV3, uV11, uV12], [], []), [([ui0, ui49, (0, 0)], [], [], [], [uV62], [], []), ([ui0, ui49, ui260, ui49], [], [], [], [uV58], [], [uG544]), ([ui0, ui49, ui512, ui49], [], [], [], [uV58], [], [uG544])], [], 8, 0, 0)
set_option maxRecDepth 1000000 in
theorem ck_134 : x_ok mLT1 [] mTS2 mTC2 mRUp cx_134 [] [(50, [1000023])] [] (8, []) 0 11 = true := by decide +kernel
theorem sn_134 {W : Bool} {X : List Int32} : y_Snd (mGw W) mLT1 (J2 W X) X cx_134 := y_ok J2_J mTS2_ok1 mTC2_ok1 mRUp_ok1 (fun _ h => absurd h List.not_mem_nil) ck_134
/-- Laws.reckon -/
def cx_135 : zCtx := (52, ([ui0, (2, 4), ui49, ui49], [], [], [], [uV11, uV12, uV58], [], []), [([ui0, (4, 4), ui49, ui49, ui49], [], [((-4), [(1, 1)]), (4, [(1, (-1))])], [], [uV97], [], [(100, [uL67, uL23, uL98])]), ([ui0, (3, 3), ui49, ui49, ui49], [], [((-3), [(1, 1)]), uL10], [], [uV97], [], [(111, [uL67, uL23, uL98])]), ([ui0, (2, 2), ui49, ui49, ui49], [], [((-2), [(1, 1)]), (2, [(1, (-1))])], [], [uV97], [], [(110, [uL67, uL23, uL98])])], [], 6, 0, 0)
set_option maxRecDepth 1000000 in
theorem ck_135 : x_ok mLT1 [] mTS2 mTC2 mRUp cx_135 [] [(30, [1000637]), (34, [1000638]), (38, [1000639])] [] (6, []) 0 9 = true := by decide +kernel
theorem sn_135 {W : Bool} {X : List Int32} : y_Snd (mGw W) mLT1 (J2 W X) X cx_135 := y_ok J2_J mTS2_ok1 mTC2_ok1 mRUp_ok1 (fun _ h => absurd h List.not_mem_nil) ck_135
/-- Laws.answer -/
def cx_136 : zCtx := (51, ([ui0, (0, 3), ui31], [ur545, ur536, ur546, ur547, ur548, ur549], [], [], [uV2, uV11, uV419], [uF177, uF151, uF550, (0, (false, 2, 0, []), 2, 4, 0, []), uF551], []), [([ui0, (0, 3), ui401, ui49], [ur545, ur536, ur546, ur547, ur548, ur549], [], [], [uV58], [], [(228, [uL67, uL9, uL23])]), ([ui0, (0, 3), ui341], [ur545, ur536, ur546, ur547, ur548, ur549], [], [], [uV62], [], [uG552]), ([ui0, (0, 3), ui31], [ur545, ur536, ur546, ur547, ur548, ur549], [], [], [uV62], [], [uG552])], [uk553], 52949, 1, 22)
set_option maxRecDepth 1000000 in
theorem ck_136 : x_ok mLT1 [cx_134, cx_135] mTS2 mTC2 mRUp cx_136 [(220, [0, 1])] [(20, [1000615]), (90, [1000620]), (93, [1000621]), (131, [1000622, 1000623, 1000624]), (154, [1000625, 1000626]), (184, [1000627, 1000628]), (223, [1000631, 1000632, 1000633, 1000634, 1000635]), (224, [1000636]), (249, [1000629]), (252, [1000630]), (258, [1000616, 1000617, 1000618, 1000619])] [(26, ([(0, 3072), (0, 3), (0, 432), ((-2147483648), 2147483647), (0, 22), (0, 840), ((-2147483648), 2147483647)], [(3, false), (26, false), (21, false), (22, false), (23, false), (24, false)], [], [(2, 0, 0, []), (0, 0, 0, [(1, 1)]), (2, 1, 0, []), (0, 0, 0, [(3, 1)]), (0, 0, 0, [(4, 1)]), (0, 0, 0, [(5, 1)]), (5, 0, 0, []), (5, 0, 0, [])], [], [(0, (false, 4, 0, []), 0, 0, 0, [(2, 1)]), (0, (false, 0, 0, []), 2, 2, 0, []), (0, (false, 1, 0, []), 2, 3, 0, []), (0, (false, 2, 0, []), 2, 4, 0, []), (0, (false, 3, 0, []), 2, 5, 0, [])], [(226, [(0, [(2, 1)]), (0, [(6, 1)]), (0, [(5, 1)]), (0, [(3, 1)]), (0, [(4, 1)])]), (228, [(0, [(2, 1)]), (0, [(1, 1)]), (0, [(6, 1)])])]), (52925, [(4, 6), (5, (-63))]))] (52941, []) 8 71 = true := by decide +kernel
theorem sn_136 {W : Bool} {X : List Int32} : y_Snd (mGw W) mLT1 (J2 W X) X cx_136 := y_ok J2_J mTS2_ok1 mTC2_ok1 mRUp_ok1 (List.forall_mem_cons.mpr ⟨sn_134, List.forall_mem_cons.mpr ⟨sn_135, fun _ h => absurd h List.not_mem_nil⟩⟩) ck_136
def cx_137pi_0 (t : List (Int × Int)) : List (Int × Int) := ui0 :: (0, 5) :: ui31 :: (0, 6) :: (0, 6) :: ui49 :: ui49 :: ui49 :: t
def cx_137pi_1 (t : List (Int × Int)) : List (Int × Int) := ui49 :: ui49 :: ui49 :: ui49 :: ui49 :: t
def cx_137p : zS := ((cx_137pi_0 (cx_137pi_1 [])), [ur442, ur431, ur443, ur545, ur536], [uL518, uL9, uL526], [], [uV2, uV62, uV419, uV11], [uF554, uF555, uF556, uF529, uF530, uF531, uF532, uF430], [uG557])
/-- Rules.lawOf -/
def cx_137 : zCtx := (87, cx_137p, [([ui0, (0, 5), ui31, (1, 6), (0, 6), ui49, ui49, ui49, ui49, ui49, ui49, ui49, ui49, ui537], [ur442, ur431, ur443, ur545, ur536], [uL526, uL518, uL9], [], [uV408], [], [uG558])], [uk553, uk542], 52968, 2, 87)
set_option maxRecDepth 1000000 in
theorem ck_137 : x_ok mLT1 [cx_131, cx_133, cx_136] mTS2 mTC2 mRUp cx_137 [(5, [0]), (8, [1]), (26, [2])] [(29, uN559), (35, uN560)] [] (19, []) 52949 22 = true := by decide +kernel
theorem sn_137 {W : Bool} {X : List Int32} : y_Snd (mGw W) mLT1 (J2 W X) X cx_137 := y_ok J2_J mTS2_ok1 mTC2_ok1 mRUp_ok1 (List.forall_mem_cons.mpr ⟨sn_131, List.forall_mem_cons.mpr ⟨sn_133, List.forall_mem_cons.mpr ⟨sn_136, fun _ h => absurd h List.not_mem_nil⟩⟩⟩) ck_137
def cx_138p : zS := ((cx_137pi_0 (cx_137pi_1 [])), [ur442, ur431, ur443, ur545, ur536], [uL518, uL9, uL526], [], [uV2, uV64, uV419, uV11], [uF554, uF555, uF556, uF529, uF530, uF531, uF532, uF430], [uG557])
/-- Rules.lawOf -/
def cx_138 : zCtx := (87, cx_138p, [([ui0, (0, 5), ui31, (1, 6), (0, 6), ui49, ui49, ui49, ui49, ui49, ui49, ui49, ui49, ui537], [ur442, ur431, ur443, ur545, ur536], [uL526, uL518, uL9], [], [uV408], [], [uG561])], [uk553, uk542], 52968, 2, 87)
set_option maxRecDepth 1000000 in
theorem ck_138 : x_ok mLT1 [cx_131, cx_133, cx_136] mTS2 mTC2 mRUp cx_138 [(5, [0]), (8, [1]), (26, [2])] [(29, uN559), (35, uN560)] [] (19, []) 52949 22 = true := by decide +kernel
theorem sn_138 {W : Bool} {X : List Int32} : y_Snd (mGw W) mLT1 (J2 W X) X cx_138 := y_ok J2_J mTS2_ok1 mTC2_ok1 mRUp_ok1 (List.forall_mem_cons.mpr ⟨sn_131, List.forall_mem_cons.mpr ⟨sn_133, List.forall_mem_cons.mpr ⟨sn_136, fun _ h => absurd h List.not_mem_nil⟩⟩⟩) ck_138
def cx_139p : zS := ((cx_137pi_0 (cx_137pi_1 [])), [ur442, ur431, ur443, ur545, ur536], [uL518, uL9, uL526], [], [uV2, uV384, uV419, uV11], [uF554, uF555, uF556, uF529, uF530, uF531, uF532, uF430], [uG557])
/-- Rules.lawOf -/
def cx_139 : zCtx := (87, cx_139p, [([ui0, (0, 5), ui31, (1, 6), (0, 6), ui49, ui49, ui49, ui49, ui49, ui49, ui49, ui49, ui537], [ur442, ur431, ur443, ur545, ur536], [uL526, uL518, uL9], [], [uV408], [], [(238, [uL36, uL67, uL79, uL131, uL163, uL169, uL193, uL212, uL209, uL9, uL205])])], [uk553, uk542], 52968, 2, 87)
set_option maxRecDepth 1000000 in
theorem ck_139 : x_ok mLT1 [cx_131, cx_133, cx_136] mTS2 mTC2 mRUp cx_139 [(5, [0]), (8, [1]), (26, [2])] [(29, uN559), (35, uN560)] [] (19, []) 52949 22 = true := by decide +kernel
theorem sn_139 {W : Bool} {X : List Int32} : y_Snd (mGw W) mLT1 (J2 W X) X cx_139 := y_ok J2_J mTS2_ok1 mTC2_ok1 mRUp_ok1 (List.forall_mem_cons.mpr ⟨sn_131, List.forall_mem_cons.mpr ⟨sn_133, List.forall_mem_cons.mpr ⟨sn_136, fun _ h => absurd h List.not_mem_nil⟩⟩⟩) ck_139
def cx_140pr_0 (t : List (Nat × Bool)) : List (Nat × Bool) := ur441 :: ur442 :: ur443 :: ur545 :: ur431 :: ur562 :: ur432 :: ur426 :: t
def cx_140pr_1 (t : List (Nat × Bool)) : List (Nat × Bool) := ur563 :: ur564 :: ur565 :: ur536 :: t
def cx_140pf_0 (t : List zFa) : List zFa := uF13 :: uF516 :: uF555 :: uF566 :: uF183 :: uF567 :: uF568 :: uF569 :: t
def cx_140pf_1 (t : List zFa) : List zFa := uF570 :: uF571 :: uF157 :: uF572 :: uF573 :: uF574 :: uF575 :: uF576 :: t
def cx_140pf_2 (t : List zFa) : List zFa := uF577 :: t
def cx_140p : zS := ([ui0, ui49, ui49, ui31, (0, 6), (0, 6), ui49, ui49], (cx_140pr_0 (cx_140pr_1 [])), [], [], [uV2, uV11, uV12], (cx_140pf_0 (cx_140pf_1 (cx_140pf_2 []))), [uG578])
def cx_140q2i_0 (t : List (Int × Int)) : List (Int × Int) := ui0 :: ui49 :: (8, 8) :: ui31 :: (0, 6) :: (0, 6) :: ui49 :: ui49 :: t
def cx_140q2i_1 (t : List (Int × Int)) : List (Int × Int) := ui49 :: t
def cx_140q2 : zS := ((cx_140q2i_0 (cx_140q2i_1 [])), (cx_140pr_0 (cx_140pr_1 [])), [uL9, uL579], [], [uV144], [uF568, uF569, uF570, uF571], [uG578, (260, [uL34, uL63, uL63, uL63, uL63, uL63, uL63, uL63, uL541, uL63, uL131])])
def cx_140q3i_0 (t : List (Int × Int)) : List (Int × Int) := ui0 :: ui49 :: (7, 7) :: ui31 :: (0, 6) :: (0, 6) :: ui49 :: ui49 :: t
def cx_140q3i_1 (t : List (Int × Int)) : List (Int × Int) := ui537 :: t
def cx_140q3 : zS := ((cx_140q3i_0 (cx_140q3i_1 [])), (cx_140pr_0 (cx_140pr_1 [])), [uL9, uL579], [], [uV144], [uF568, uF569, uF570, uF571], [uG578, (260, [uL36, uL23, uL63, uL63, uL63, uL63, uL63, uL63, uL209, uL9, uL131])])
def cx_140q4i_0 (t : List (Int × Int)) : List (Int × Int) := ui0 :: ui49 :: (6, 6) :: ui31 :: (0, 6) :: (0, 6) :: ui49 :: ui49 :: t
def cx_140q4i_1 (t : List (Int × Int)) : List (Int × Int) := ui537 :: t
def cx_140q4 : zS := ((cx_140q4i_0 (cx_140q4i_1 [])), (cx_140pr_0 (cx_140pr_1 [])), [uL9, uL579], [], [uV144], [uF568, uF569, uF570, uF571], [uG578, (260, [uL36, uL23, uL63, uL63, uL63, uL63, uL63, uL63, uL65, uL9, uL131])])
def cx_140q5i_0 (t : List (Int × Int)) : List (Int × Int) := ui0 :: ui49 :: (5, 5) :: ui31 :: (0, 6) :: (0, 6) :: ui49 :: ui49 :: t
def cx_140q5i_1 (t : List (Int × Int)) : List (Int × Int) := ui537 :: t
def cx_140q5 : zS := ((cx_140q5i_0 (cx_140q5i_1 [])), (cx_140pr_0 (cx_140pr_1 [])), [uL9, uL579], [], [uV144], [uF568, uF569, uF570, uF571], [uG578, (260, [uL36, uL23, uL63, uL63, uL63, uL63, uL63, uL63, uL63, uL9, uL131])])
def cx_140q6i_0 (t : List (Int × Int)) : List (Int × Int) := ui0 :: ui49 :: (4, 4) :: ui31 :: (0, 6) :: (0, 6) :: ui49 :: ui49 :: t
def cx_140q6i_1 (t : List (Int × Int)) : List (Int × Int) := ui537 :: t
def cx_140q6 : zS := ((cx_140q6i_0 (cx_140q6i_1 [])), (cx_140pr_0 (cx_140pr_1 [])), [uL9, uL579], [], [uV144], [uF568, uF569, uF570, uF571], [uG578, (260, [uL34, uL63, uL63, uL63, uL63, uL63, uL63, uL63, uL580, uL63, uL131])])
def cx_140q7i_0 (t : List (Int × Int)) : List (Int × Int) := ui0 :: ui49 :: (3, 3) :: ui31 :: (0, 6) :: (0, 6) :: ui49 :: ui49 :: t
def cx_140q7i_1 (t : List (Int × Int)) : List (Int × Int) := ui537 :: t
def cx_140q7 : zS := ((cx_140q7i_0 (cx_140q7i_1 [])), (cx_140pr_0 (cx_140pr_1 [])), [uL9, uL579], [], [uV144], [uF568, uF569, uF570, uF571], [uG578, uG582])
def cx_140q8 : zS := ([ui0, ui49, (2, 2), ui31, (0, 6), (0, 6), ui49, ui49], (cx_140pr_0 (cx_140pr_1 [])), [uL9, uL579], [], [uV583], [uF568, uF569, uF570, uF571], [uG578, (260, [uL250, uL63, uL63, uL63, uL63, uL63, uL63, uL63, uL9, uL63, uL99])])
def cx_140q9i_0 (t : List (Int × Int)) : List (Int × Int) := ui0 :: ui49 :: (1, 1) :: ui31 :: (0, 6) :: (0, 6) :: ui49 :: ui49 :: t
def cx_140q9i_1 (t : List (Int × Int)) : List (Int × Int) := ui49 :: t
def cx_140q9 : zS := ((cx_140q9i_0 (cx_140q9i_1 [])), (cx_140pr_0 (cx_140pr_1 [])), [uL9, uL579], [], [uV144], [uF568, uF569, uF570, uF571], [uG578, (262, [uL9, uL131])])
def cx_140q10i_0 (t : List (Int × Int)) : List (Int × Int) := ui0 :: ui49 :: (0, 0) :: ui31 :: (0, 6) :: (0, 6) :: ui49 :: ui49 :: t
def cx_140q10i_1 (t : List (Int × Int)) : List (Int × Int) := ui537 :: t
def cx_140q10 : zS := ((cx_140q10i_0 (cx_140q10i_1 [])), (cx_140pr_0 (cx_140pr_1 [])), [uL9, uL579], [], [uV144], [uF568, uF569, uF570, uF571], [uG578, (260, [uL34, uL63, uL63, uL63, uL63, uL63, uL63, uL63, uL9, uL63, uL131])])
def cx_140q13i_0 (t : List (Int × Int)) : List (Int × Int) := ui0 :: ui49 :: (2, 2) :: ui31 :: (0, 6) :: (0, 6) :: ui49 :: ui49 :: t
def cx_140q13i_1 (t : List (Int × Int)) : List (Int × Int) := (0, 5) :: t
def cx_140q13 : zS := ((cx_140q13i_0 (cx_140q13i_1 [])), (cx_140pr_0 (cx_140pr_1 [])), [uL9, uL579], [], [uV144], [uF568, uF569, uF570, uF571], [uG578, (260, [uL250, uL63, uL63, uL63, uL63, uL63, uL63, uL63, uL9, uL63, uL131])])
/-- HairRope.house -/
def cx_140 : zCtx := (142, cx_140p, [([ui0, ui49, ui49, ui31, (0, 6), (0, 6), ui49, ui49], [ur441, ur442, ur443, ur545, ur431, ur562, ur432, ur426, ur563, ur564, ur565, ur536], [uL584], [], [uV61], [uF568, uF569, uF570, uF571], [uG578]), ([ui0, ui49, ui49, ui31, (0, 6), (0, 6), ui49, ui49], [ur441, ur442, ur443, ur545, ur431, ur562, ur432, ur426, ur563, ur564, ur565, ur536], [uL585], [], [uV61], [uF568, uF569, uF570, uF571], [uG578]), cx_140q2, cx_140q3, cx_140q4, cx_140q5, cx_140q6, cx_140q7, cx_140q8, cx_140q9, cx_140q10, ([ui0, ui49, ui586, ui31, (0, 6), (0, 6), ui49, ui49], [ur441, ur442, ur443, ur545, ur431, ur562, ur432, ur426, ur563, ur564, ur565, ur536], [uL9, uL579], [], [uV61], [uF568, uF569, uF570, uF571], [uG578]), ([ui0, ui49, ui260, ui31, (0, 6), (0, 6), ui49, ui49], [ur441, ur442, ur443, ur545, ur431, ur562, ur432, ur426, ur563, ur564, ur565, ur536], [uL9, uL579], [], [uV61], [uF568, uF569, uF570, uF571], [uG578]), cx_140q13], [uk553, uk542], 52987, 3, 110)
set_option maxRecDepth 1000000 in
theorem ck_140 : x_ok mLT1 [cx_130, cx_131, cx_137, cx_138, cx_139] mTS2 mTC2 mRUp cx_140 [(2, [0]), (15, [1]), (152, [2]), (166, [3]), (180, [4])] [(81, [1000720, 1000728]), (94, [1000752]), (105, [1000753]), (123, [1000754, 1000755, 1000728]), (141, [1000756, 1000757, 1000728]), (146, [1000733]), (155, [1000728]), (160, [1000733]), (169, [1000728]), (174, [1000733]), (183, [1000728]), (193, [1000758, 1000728])] [] (19, []) 52968 22 = true := by decide +kernel
theorem sn_140 {W : Bool} {X : List Int32} : y_Snd (mGw W) mLT1 (J2 W X) X cx_140 := y_ok J2_J mTS2_ok1 mTC2_ok1 mRUp_ok1 (List.forall_mem_cons.mpr ⟨sn_130, List.forall_mem_cons.mpr ⟨sn_131, List.forall_mem_cons.mpr ⟨sn_137, List.forall_mem_cons.mpr ⟨sn_138, List.forall_mem_cons.mpr ⟨sn_139, fun _ h => absurd h List.not_mem_nil⟩⟩⟩⟩⟩) ck_140
/-- HairRope.areTwo -/
def cx_141 : zCtx := (145, ([ui0, ui49, ui49, (0, 6)], [ur441, ur442, ur443], [], [], [uV2, uV11, uV12], [uF13, uF516, uF152], []), [([ui0, ui260, ui49, (0, 6)], [ur441, ur442, ur443], [], [], [uV62], [], []), ([ui0, ui517, ui49, (0, 6)], [ur441, ur442, ur443], [uL587], [], [uV62], [], []), ([ui0, (0, 5), ui260, (1, 6)], [ur441, ur442, ur443], [uL526], [], [uV62], [], []), ([ui0, (0, 5), ui512, (1, 6)], [ur441, ur442, ur443], [uL480, uL526], [], [uV62], [], []), ([ui0, (0, 4), (1, 5), (1, 6)], [ur441, ur442, ur443], [uL57, uL100, uL526], [], [uV64], [], []), ([ui0, (0, 5), (0, 5), (1, 6)], [ur441, ur442, ur443], [uL514, uL60, uL100, uL526], [], [uV62], [], []), ([ui0, (1, 5), (0, 4), (1, 6)], [ur441, ur442, ur443], [uL513, uL100, uL526], [], [uV64], [], [])], [], 28, 1, 21)
set_option maxRecDepth 1000000 in
theorem ck_141 : x_ok mLT1 [cx_130] mTS2 mTC2 mRUp cx_141 [(2, [0]), (10, [0])] [(16, [1000461])] [] (14, []) 14 17 = true := by decide +kernel
theorem sn_141 {W : Bool} {X : List Int32} : y_Snd (mGw W) mLT1 (J2 W X) X cx_141 := y_ok J2_J mTS2_ok1 mTC2_ok1 mRUp_ok1 (List.forall_mem_cons.mpr ⟨sn_130, fun _ h => absurd h List.not_mem_nil⟩) ck_141
/-- Text.likeOf -/
def cx_142 : zCtx := (135, ([ui0, (0, 5), (0, 5)], [ur443, ur588], [], [], [uV2, uV11, uV12], [uF42], []), [([ui0, (0, 5), (0, 5), ui49], [ur443, ur588], [], [], [uV58], [], [uG590])], [], 24, 1, 20)
set_option maxRecDepth 1000000 in
theorem ck_142 : x_ok mLT1 [cx_51] mTS2 mTC2 mRUp cx_142 [(1, [0]), (8, [0])] [(25, [1000464])] [] (16, []) 8 19 = true := by decide +kernel
theorem sn_142 {W : Bool} {X : List Int32} : y_Snd (mGw W) mLT1 (J2 W X) X cx_142 := y_ok J2_J mTS2_ok1 mTC2_ok1 mRUp_ok1 (List.forall_mem_cons.mpr ⟨sn1_51, fun _ h => absurd h List.not_mem_nil⟩) ck_142
/-- HairRope.likes -/
def cx_143 : zCtx := (144, ([ui0, ui49, ui49, (0, 6)], [ur441, ur442, ur443, ur588], [], [], [uV2, uV11, uV12], [uF13, uF516, uF152, uF155], []), [([ui0, ui49, ui49, (0, 6), ui49], [ur441, ur442, ur443, ur588], [uL526, uL100, uL513, uL9, uL67], [], [uV97], [], [uG591]), ([ui0, (0, 5), (0, 5), (1, 6)], [ur441, ur442, ur443, ur588], [uL526, uL100, uL60, uL514], [], [uV61], [], []), ([ui0, ui49, ui49, (0, 6), ui49], [ur441, ur442, ur443, ur588], [uL526, uL100, uL57, uL9, uL67], [], [uV97], [], [uG591]), ([ui0, (0, 5), ui512, (1, 6)], [ur441, ur442, ur443, ur588], [uL526, uL480], [], [uV61], [], []), ([ui0, (0, 5), ui260, (1, 6)], [ur441, ur442, ur443, ur588], [uL526], [], [uV61], [], []), ([ui0, ui517, ui49, (0, 6)], [ur441, ur442, ur443, ur588], [uL587], [], [uV61], [], []), ([ui0, ui260, ui49, (0, 6)], [ur441, ur442, ur443, ur588], [], [], [uV61], [], [])], [], 41, 2, 43)
set_option maxRecDepth 1000000 in
theorem ck_143 : x_ok mLT1 [cx_141, cx_142] mTS2 mTC2 mRUp cx_143 [(3, [0]), (18, [1])] [] [] (13, []) 28 16 = true := by decide +kernel
theorem sn_143 {W : Bool} {X : List Int32} : y_Snd (mGw W) mLT1 (J2 W X) X cx_143 := y_ok J2_J mTS2_ok1 mTC2_ok1 mRUp_ok1 (List.forall_mem_cons.mpr ⟨sn_141, List.forall_mem_cons.mpr ⟨sn_142, fun _ h => absurd h List.not_mem_nil⟩⟩) ck_143
def cx_144pi_0 (t : List (Int × Int)) : List (Int × Int) := ui0 :: (0, 5) :: (0, 5) :: ui49 :: ui31 :: (0, 6) :: (0, 6) :: ui49 :: t
def cx_144pi_1 (t : List (Int × Int)) : List (Int × Int) := ui49 :: ui49 :: ui49 :: ui49 :: ui49 :: ui49 :: ui49 :: t
def cx_144p : zS := ((cx_144pi_0 (cx_144pi_1 [])), [ur442, ur431, ur443, ur545, ur536], [uL592, uL9, uL593, uL67, uL594], [], [uV2, uV419, uV11, uV12, uV58], [uF554, uF555, uF595, uF596, uF597, uF598, uF599, uF430], [(235, [uL104, uL78, uL79, uL131, uL98, uL163, uL169, uL193, uL212, uL205, uL206]), uG590])
def cx_144q0i_0 (t : List (Int × Int)) : List (Int × Int) := ui0 :: (0, 5) :: (0, 5) :: ui49 :: ui31 :: (1, 6) :: (0, 6) :: ui49 :: t
def cx_144q0i_1 (t : List (Int × Int)) : List (Int × Int) := ui49 :: ui49 :: ui49 :: ui49 :: ui49 :: ui49 :: ui49 :: ui600 :: t
def cx_144q0 : zS := ((cx_144q0i_0 (cx_144q0i_1 [])), [ur442, ur431, ur443, ur545, ur536], [uL594, uL593, uL592, uL9, uL67], [], [uV601], [], [uG602])
/-- Rules.joinOf -/
def cx_144 : zCtx := (90, cx_144p, [cx_144q0], [uk553, uk542], 52984, 2, 87)
set_option maxRecDepth 1000000 in
theorem ck_144 : x_ok mLT1 [cx_131, cx_133, cx_132, cx_136] mTS2 mTC2 mRUp cx_144 [(5, [0]), (8, [1]), (30, [0]), (33, [2]), (53, [3])] [(56, uN603), (62, uN604)] [] (35, []) 52949 38 = true := by decide +kernel
theorem sn_144 {W : Bool} {X : List Int32} : y_Snd (mGw W) mLT1 (J2 W X) X cx_144 := y_ok J2_J mTS2_ok1 mTC2_ok1 mRUp_ok1 (List.forall_mem_cons.mpr ⟨sn_131, List.forall_mem_cons.mpr ⟨sn_133, List.forall_mem_cons.mpr ⟨sn_132, List.forall_mem_cons.mpr ⟨sn_136, fun _ h => absurd h List.not_mem_nil⟩⟩⟩⟩) ck_144
def cx_145pr_0 (t : List (Nat × Bool)) : List (Nat × Bool) := ur441 :: ur442 :: ur443 :: ur545 :: ur431 :: ur588 :: ur562 :: ur432 :: t
def cx_145pr_1 (t : List (Nat × Bool)) : List (Nat × Bool) := ur426 :: ur563 :: ur564 :: ur565 :: ur536 :: t
def cx_145pf_0 (t : List zFa) : List zFa := uF13 :: uF516 :: uF555 :: uF566 :: uF183 :: uF567 :: uF568 :: uF569 :: t
def cx_145pf_1 (t : List zFa) : List zFa := uF570 :: uF571 :: uF605 :: uF410 :: uF606 :: uF607 :: uF608 :: uF609 :: t
def cx_145pf_2 (t : List zFa) : List zFa := uF610 :: uF464 :: t
def cx_145p : zS := ([ui0, ui49, ui49, ui31, (0, 6), (0, 6), ui49, ui49], (cx_145pr_0 (cx_145pr_1 [])), [], [], [uV2, uV11, uV12], (cx_145pf_0 (cx_145pf_1 (cx_145pf_2 []))), [uG578])
def cx_145q0i_0 (t : List (Int × Int)) : List (Int × Int) := ui0 :: ui49 :: ui49 :: ui31 :: (0, 6) :: (0, 6) :: ui49 :: ui49 :: t
def cx_145q0i_1 (t : List (Int × Int)) : List (Int × Int) := ui600 :: t
def cx_145q0 : zS := ((cx_145q0i_0 (cx_145q0i_1 [])), (cx_145pr_0 (cx_145pr_1 [])), [uL9, uL579, uL67, uL528, uL513], [], [uV144], [uF568, uF569, uF570, uF571], [uG578, uG611])
def cx_145q1 : zS := ([ui0, ui49, ui49, ui31, (0, 6), (0, 6), ui49, ui49], (cx_145pr_0 (cx_145pr_1 [])), [uL9, uL579, uL67, uL528, uL60, uL514], [], [uV61], [uF568, uF569, uF570, uF571], [uG578])
def cx_145q2 : zS := ((cx_145q0i_0 (cx_145q0i_1 [])), (cx_145pr_0 (cx_145pr_1 [])), [uL9, uL579, uL67, uL528, uL57], [], [uV144], [uF568, uF569, uF570, uF571], [uG578, uG611])
/-- HairRope.joins -/
def cx_145 : zCtx := (146, cx_145p, [cx_145q0, cx_145q1, cx_145q2, ([ui0, ui49, ui49, ui31, (0, 6), (0, 6), ui49, ui49], [ur441, ur442, ur443, ur545, ur431, ur588, ur562, ur432, ur426, ur563, ur564, ur565, ur536], [uL612], [], [uV61], [uF568, uF569, uF570, uF571], [uG578]), ([ui0, ui49, ui49, ui31, (0, 6), (0, 6), ui49, ui49], [ur441, ur442, ur443, ur545, ur431, ur588, ur562, ur432, ur426, ur563, ur564, ur565, ur536], [uL613], [], [uV61], [uF568, uF569, uF570, uF571], [uG578]), ([ui0, ui49, ui49, ui31, (0, 6), (0, 6), ui49, ui49], [ur441, ur442, ur443, ur545, ur431, ur588, ur562, ur432, ur426, ur563, ur564, ur565, ur536], [uL585], [], [uV61], [uF568, uF569, uF570, uF571], [uG578]), ([ui0, ui49, ui49, ui31, (0, 6), (0, 6), ui49, ui49], [ur441, ur442, ur443, ur545, ur431, ur588, ur562, ur432, ur426, ur563, ur564, ur565, ur536], [uL584], [], [uV61], [uF568, uF569, uF570, uF571], [uG578])], [uk553, uk542], 53004, 3, 111)
set_option maxRecDepth 1000000 in
theorem ck_145 : x_ok mLT1 [cx_141, cx_142, cx_144] mTS2 mTC2 mRUp cx_145 [(3, [0]), (28, [1]), (31, [2])] [(9, [1000733]), (34, [1000728])] [] (20, []) 52984 23 = true := by decide +kernel
theorem sn_145 {W : Bool} {X : List Int32} : y_Snd (mGw W) mLT1 (J2 W X) X cx_145 := y_ok J2_J mTS2_ok1 mTC2_ok1 mRUp_ok1 (List.forall_mem_cons.mpr ⟨sn_141, List.forall_mem_cons.mpr ⟨sn_142, List.forall_mem_cons.mpr ⟨sn_144, fun _ h => absurd h List.not_mem_nil⟩⟩⟩) ck_145
/-- HairRope.isPlace -/
def cx_146 : zCtx := (148, ([ui0, ui49, (0, 6)], [ur441, ur431], [], [], [uV2, uV11], [uF614, uF615], []), [([ui0, (0, 5), (1, 6)], [ur441, ur431], [uL57], [], [uV64], [], []), ([ui0, ui517, (0, 6)], [ur441, ur431], [uL60], [], [uV62], [], []), ([ui0, ui260, (0, 6)], [ur441, ur431], [], [], [uV62], [], [])], [], 13, 0, 0)
set_option maxRecDepth 1000000 in
theorem ck_146 : x_ok mLT1 [] mTS2 mTC2 mRUp cx_146 [] [] [] (13, []) 0 16 = true := by decide +kernel
theorem sn_146 {W : Bool} {X : List Int32} : y_Snd (mGw W) mLT1 (J2 W X) X cx_146 := y_ok J2_J mTS2_ok1 mTC2_ok1 mRUp_ok1 (fun _ h => absurd h List.not_mem_nil) ck_146
def cx_147pf_0 (t : List zFa) : List zFa := uF13 :: uF516 :: uF555 :: uF556 :: uF152 :: uF567 :: uF616 :: uF617 :: t
def cx_147pf_1 (t : List zFa) : List zFa := uF618 :: uF619 :: (4, (false, 2, 0, []), 2, 5, 0, []) :: t
def cx_147p : zS := ([ui0, ui49, ui31, (0, 6), (0, 6), ui49, ui49], [ur441, ur442, ur443, ur545, ur431, ur563], [], [], [uV2, uV11], (cx_147pf_0 (cx_147pf_1 [])), [uG620])
def cx_147q2 : zS := ([ui0, ui49, ui31, (0, 6), (0, 6), ui49, ui49, (0, 5)], [ur441, ur442, ur443, ur545, ur431, ur563], [uL9, uL579], [], [uV142], [uF616, uF617, uF618, uF619], [uG620, uG621])
/-- HairRope.at -/
def cx_147 : zCtx := (147, cx_147p, [([ui0, ui49, ui31, (0, 6), (0, 6), ui49, ui49], [ur441, ur442, ur443, ur545, ur431, ur563], [uL584], [], [uV61], [uF616, uF617, uF618, uF619], [uG620]), ([ui0, ui49, ui31, (0, 6), (0, 6), ui49, ui49], [ur441, ur442, ur443, ur545, ur431, ur563], [uL585], [], [uV61], [uF616, uF617, uF618, uF619], [uG620]), cx_147q2], [], 24, 1, 21)
set_option maxRecDepth 1000000 in
theorem ck_147 : x_ok mLT1 [cx_146] mTS2 mTC2 mRUp cx_147 [(2, [0])] [(16, [1000730])] [] (11, []) 13 14 = true := by decide +kernel
theorem sn_147 {W : Bool} {X : List Int32} : y_Snd (mGw W) mLT1 (J2 W X) X cx_147 := y_ok J2_J mTS2_ok1 mTC2_ok1 mRUp_ok1 (List.forall_mem_cons.mpr ⟨sn_146, fun _ h => absurd h List.not_mem_nil⟩) ck_147
/-- History.pastAt -/
def cx_148 : zCtx := (41, ([ui0, ui437, ui437], [ur439], [], [], [uV2, uV11], [uF150], []), [([ui0, ui437, ui437], [ur439, ur622], [], [], [uV419], [], [uG626]), ([ui0, ui437, ui437], [ur439, ur627], [], [], [uV419], [], [uG629]), ([ui0, ui437, ui437], [ur439, ur630], [], [], [uV419], [], [uG632]), ([ui0, ui437, ui437], [ur439, ur633], [], [], [uV419], [], [uG634]), ([ui0, ui437, ui437], [ur439, ur635], [], [], [uV419], [], [uG637]), ([ui0, ui437, ui437], [ur439, ur638], [], [], [uV419], [], [uG640]), ([ui0, ui437, ui437], [ur439, ur641], [], [], [uV419], [], [uG643]), ([ui0, ui437, ui437], [ur439, ur644], [], [], [uV419], [], [uG646]), ([ui0, ui437, ui437], [ur439, ur647], [], [], [uV419], [], [uG648]), ([ui0, ui437, ui437], [ur439, ur649], [], [], [uV419], [], [uG651]), ([ui0, ui437, ui437], [ur439, ur652], [], [], [uV419], [], [uG654]), ([ui0, ui437, ui437], [ur439, ur655], [], [], [uV419], [], [uG657]), ([ui0, ui437, ui437], [ur439, ur658], [], [], [uV419], [], [uG660]), ([ui0, ui437, ui437], [ur439, ur661], [], [], [uV419], [], [uG663]), ([ui0, ui437, ui437], [ur439, ur664], [], [], [uV419], [], [uG666]), ([ui0, ui437, ui437], [ur439, ur667], [], [], [uV419], [], [uG668]), ([ui0, ui437, ui437], [ur439, ur669], [], [], [uV419], [], [uG671]), ([ui0, ui437, ui437], [ur439, ur672], [], [], [uV419], [], [uG674]), ([ui0, ui437, ui437], [ur439, ur675], [], [], [uV419], [], [uG677]), ([ui0, ui437, ui437], [ur439, ur678], [], [], [uV419], [], [uG680]), ([ui0, ui437, ui437], [ur439, ur681], [], [], [uV419], [], [uG683]), ([ui0, ui437, ui437], [ur439, ur684], [], [], [uV419], [], [uG686]), ([ui0, ui437, ui437], [ur439, ur687], [], [], [uV419], [], [uG689]), ([ui0, ui437, ui437], [ur439, ur690], [], [], [uV419], [], [uG691]), ([ui0, ui437, ui437], [ur439, ur692], [], [], [uV419], [], [uG694]), ([ui0, ui437, ui437], [ur439, ur695], [], [], [uV419], [], [uG697]), ([ui0, ui437, ui437], [ur439, ur698], [], [], [uV419], [], [uG699]), ([ui0, ui437, ui437], [ur439, ur700], [], [], [uV419], [], [uG701]), ([ui0, ui437, ui437], [ur439, ur702], [], [], [uV419], [], [uG703]), ([ui0, ui437, ui437], [ur439, ur704], [], [], [uV419], [], [uG705]), ([ui0, ui437, ui437], [ur439, ur706], [], [], [uV419], [], [uG707]), ([ui0, ui437, ui437], [ur439, ur708], [], [], [uV419], [], [uG709]), ([ui0, ui437, ui437], [ur439, ur710], [], [], [uV419], [], [uG711]), ([ui0, ui437, ui437], [ur439, ur712], [], [], [uV419], [], [uG713]), ([ui0, ui437, ui437], [ur439, ur714], [], [], [uV419], [], [uG715]), ([ui0, ui437, ui437], [ur439, ur716], [], [], [uV419], [], [uG717]), ([ui0, ui437, ui437], [ur439, ur718], [], [], [uV419], [], [uG719]), ([ui0, ui437, ui437], [ur439, ur720], [], [], [uV419], [], [uG721]), ([ui0, ui437, ui437], [ur439, ur722], [], [], [uV419], [], [uG723]), ([ui0, ui437, ui437], [ur439, ur724], [], [], [uV419], [], [uG725])], [], 18, 0, 0)
set_option maxRecDepth 1000000 in
theorem ck_148 : x_ok mLT1 [] mTS2 mTC2 mRUp cx_148 [] [(8, [1000679]), (9, [1000680]), (10, [1000681])] [] (18, []) 0 21 = true := by decide +kernel
theorem sn_148 {W : Bool} {X : List Int32} : y_Snd (mGw W) mLT1 (J2 W X) X cx_148 := y_ok J2_J mTS2_ok1 mTC2_ok1 mRUp_ok1 (fun _ h => absurd h List.not_mem_nil) ck_148
def cx_149pi_0 (t : List (Int × Int)) : List (Int × Int) := ui0 :: (0, 6) :: (0, 6) :: ui49 :: ui49 :: (0, 6) :: (0, 6) :: ui49 :: t
def cx_149pi_1 (t : List (Int × Int)) : List (Int × Int) := ui49 :: ui49 :: ui49 :: ui49 :: ui49 :: ui49 :: ui49 :: ui49 :: t
def cx_149pi_2 (t : List (Int × Int)) : List (Int × Int) := ui49 :: ui49 :: ui49 :: ui49 :: ui49 :: ui49 :: ui49 :: ui49 :: t
def cx_149pi_3 (t : List (Int × Int)) : List (Int × Int) := ui49 :: ui49 :: ui49 :: ui49 :: ui49 :: ui49 :: ui49 :: ui49 :: t
def cx_149pi_4 (t : List (Int × Int)) : List (Int × Int) := ui49 :: ui49 :: ui49 :: ui49 :: ui49 :: ui49 :: ui49 :: t
def cx_149pf_0 (t : List zFa) : List zFa := uF38 :: uF39 :: uF40 :: uF41 :: uF596 :: uF597 :: uF598 :: uF599 :: t
def cx_149pf_1 (t : List zFa) : List zFa := uF501 :: (2, (true, 0, 0, []), 0, 0, 0, [(9, 1)]) :: (2, (true, 0, 1, []), 0, 0, 0, [(10, 1)]) :: (2, (true, 0, 2, []), 0, 0, 0, [(11, 1)]) :: (2, (true, 0, 3, []), 0, 0, 0, [(12, 1)]) :: (2, (true, 0, 4, []), 0, 0, 0, [(13, 1)]) :: (2, (true, 0, 5, []), 0, 0, 0, [(14, 1)]) :: uF726 :: t
def cx_149pf_2 (t : List zFa) : List zFa := (3, (true, 0, 0, []), 0, 0, 0, [(15, 1)]) :: (3, (true, 0, 1, []), 0, 0, 0, [(16, 1)]) :: (3, (true, 0, 2, []), 0, 0, 0, [(17, 1)]) :: (3, (true, 0, 3, []), 0, 0, 0, [(18, 1)]) :: (3, (true, 0, 4, []), 0, 0, 0, [(19, 1)]) :: (3, (true, 0, 5, []), 0, 0, 0, [(20, 1)]) :: uF727 :: (4, (true, 0, 0, []), 0, 0, 0, [(21, 1)]) :: t
def cx_149pf_3 (t : List zFa) : List zFa := (4, (true, 0, 1, []), 0, 0, 0, [(22, 1)]) :: (4, (true, 0, 2, []), 0, 0, 0, [(23, 1)]) :: (4, (true, 0, 3, []), 0, 0, 0, [(24, 1)]) :: (4, (true, 0, 4, []), 0, 0, 0, [(25, 1)]) :: (4, (true, 0, 5, []), 0, 0, 0, [(26, 1)]) :: uF728 :: (5, (true, 0, 0, []), 0, 0, 0, [(27, 1)]) :: (5, (true, 0, 1, []), 0, 0, 0, [(28, 1)]) :: t
def cx_149pf_4 (t : List zFa) : List zFa := (5, (true, 0, 2, []), 0, 0, 0, [(29, 1)]) :: (5, (true, 0, 3, []), 0, 0, 0, [(30, 1)]) :: (5, (true, 0, 4, []), 0, 0, 0, [(31, 1)]) :: (5, (true, 0, 5, []), 0, 0, 0, [(32, 1)]) :: uF309 :: (6, (true, 0, 0, []), 0, 0, 0, [(33, 1)]) :: (6, (true, 0, 1, []), 0, 0, 0, [(34, 1)]) :: (6, (true, 0, 2, []), 0, 0, 0, [(35, 1)]) :: t
def cx_149pf_5 (t : List zFa) : List zFa := (6, (true, 0, 3, []), 0, 0, 0, [(36, 1)]) :: (6, (true, 0, 4, []), 0, 0, 0, [(37, 1)]) :: (6, (true, 0, 5, []), 0, 0, 0, [(38, 1)]) :: t
def cx_149p : zS := ((cx_149pi_0 (cx_149pi_1 (cx_149pi_2 (cx_149pi_3 (cx_149pi_4 []))))), [ur724, ur431, ur432, ur426, ur563, ur564, ur565], [], [], [uV2, uV419], (cx_149pf_0 (cx_149pf_1 (cx_149pf_2 (cx_149pf_3 (cx_149pf_4 (cx_149pf_5 [])))))), [])
def cx_149q0 : zS := ((cx_149pi_0 (cx_149pi_1 (cx_149pi_2 (cx_149pi_3 (cx_149pi_4 []))))), [ur724, ur431, ur432, ur426, ur563, ur564, ur565], [], [], [], [uF126, uF128, uF129, uF729], [uG730])
/-- State.copyFrom -/
def cx_149 : zCtx := (102, cx_149p, [cx_149q0], kc_8, 57, 1, 64)
set_option maxRecDepth 1000000 in
theorem ck_149 : x_ok mLT1 [] mTS2 mTC2 mRUp cx_149 [] [(107, [1000871])] [] (57, []) 0 60 = true := by decide +kernel
theorem sn_149 {W : Bool} {X : List Int32} : y_Snd (mGw W) mLT1 (J2 W X) X cx_149 := y_ok J2_J mTS2_ok1 mTC2_ok1 mRUp_ok1 (fun _ h => absurd h List.not_mem_nil) ck_149
end
