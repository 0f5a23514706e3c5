noncomputable section
/-! ===== readings, by program, checked by the kernel ===== -/
def cx_115pi_0 (t : List (Int × Int)) : List (Int × Int) := ui0 :: ui412 :: (0, 0) :: ui54 :: ui70 :: ui54 :: ui72 :: (0, 5) :: t
def cx_115pi_1 (t : List (Int × Int)) : List (Int × Int) := ui51 :: (0, 6) :: ui50 :: ui70 :: ui31 :: t
def cx_115p : zS := ((cx_115pi_0 (cx_115pi_1 [])), (cx_65pr_0 (cx_65pr_1 [])), [], [], [uV2, uV11], (cx_65pf_0 (cx_65pf_1 (cx_65pf_2 []))), [uG163, uG298, uG299, uG300, uG301])
/-- Parser.parseLaw -/
def cx_115 : zCtx := (62, cx_115p, [([ui0, ui412, (0, 0), ui54, ui70, ui54, ui72, (0, 5), ui51, (0, 6), ui50, ui70, ui31, (1, 2), ui54], [ur161, ur52, ur55, ur73, ur74, ur75, ur177, ur7, ur18, ur19, ur8], [], [], [], [uF219, uF204], [uG302])], [uk174], 9, 0, 0)
set_option maxRecDepth 1000000 in
theorem ck_115 : x_ok mLT [] mTS2 mTC2 mRUp cx_115 [] [(14, uN303)] [] (9, []) 0 12 = true := by decide +kernel
theorem sn_115 {W : Bool} {X : List Int32} : y_Snd (mGw W) mLT (J2 W X) X cx_115 := y_ok J2_J mTS2_ok mTC2_ok mRUp_ok (fun _ h => absurd h List.not_mem_nil) ck_115
def cx_116pr_0 (t : List (Nat × Bool)) : List (Nat × Bool) := ur161 :: ur52 :: ur55 :: ur56 :: ur73 :: ur74 :: ur75 :: ur177 :: t
def cx_116pr_1 (t : List (Nat × Bool)) : List (Nat × Bool) := ur1 :: ur229 :: ur230 :: ur7 :: ur18 :: ur19 :: ur8 :: t
def cx_116pf_0 (t : List zFa) : List zFa := uF186 :: uF187 :: uF20 :: uF153 :: uF188 :: uF46 :: uF47 :: uF48 :: t
def cx_116pf_1 (t : List zFa) : List zFa := uF413 :: uF414 :: uF415 :: uF416 :: uF417 :: uF418 :: uF419 :: uF420 :: t
def cx_116pf_2 (t : List zFa) : List zFa := uF421 :: (11, (false, 4, 0, []), 0, 0, 0, [(5, 1)]) :: t
def cx_116p : zS := ([ui0, (0, 2), (0, 5), ui51, ui54, ui31], (cx_116pr_0 (cx_116pr_1 [])), [], [], [uV2, uV422], (cx_116pf_0 (cx_116pf_1 (cx_116pf_2 []))), [])
def cx_116q1i_0 (t : List (Int × Int)) : List (Int × Int) := ui0 :: (0, 2) :: (0, 5) :: ui51 :: ui54 :: ui31 :: ui51 :: (0, 6) :: t
def cx_116q1i_1 (t : List (Int × Int)) : List (Int × Int) := ui199 :: ui199 :: ui199 :: ui199 :: ui31 :: t
def cx_116q1g_0 (t : List zTg) : List zTg := (41, [uL100, uL65, uL80]) :: (74, [uL100]) :: (76, [uL100, uL81]) :: (87, [uL100, uL268, uL133]) :: (87, [uL100, uL285, uL166]) :: (87, [uL100, uL287, uL173]) :: (87, [uL100, uL289, uL198]) :: (93, [uL100, uL81]) :: t
def cx_116q1g_1 (t : List zTg) : List zTg := (213, [uL100, uL217]) :: t
def cx_116q1 : zS := ((cx_116q1i_0 (cx_116q1i_1 [])), (cx_116pr_0 (cx_116pr_1 [])), [], [], [uV64], [(0, (false, 5, 0, []), 0, 0, 0, [(6, 1)]), (1, (false, 5, 0, []), 0, 0, 0, [(7, 1)]), uF423, uF424, uF425, (1, (false, 10, 0, []), 0, 0, 0, [(11, 1)]), (11, (false, 4, 0, []), 0, 0, 0, [(12, 1)])], (cx_116q1g_0 (cx_116q1g_1 [])))
/-- Parser.parse -/
def cx_116 : zCtx := (54, cx_116p, [([ui0, (0, 2), (0, 5), ui51, ui54, ui31, (1, 5), ui51], [ur161, ur52, ur55, ur56, ur73, ur74, ur75, ur177, ur1, ur229, ur230, ur7, ur18, ur19, ur8], [], [], [uV110], [(0, (false, 5, 0, []), 0, 0, 0, [(7, 1)])], [(41, [uL100, uL80, uL81])]), cx_116q1], kc_5, 241610, 24, 542)
def cq_116 : List zCtx := [cx_4, cx_32, cx_44, cx_53, cx_55, cx_58, cx_61, cx_64, cx_65, cx_114, cx_115]
def cs_116 : List (Nat × List Nat) := [(9, [0]), (26, [1]), (117, [2]), (124, [3]), (138, [4]), (155, [5]), (172, [6]), (190, [7]), (211, [8, 9, 10])]
def hs_116 : List (Nat × List Nat) := [(29, [1000191, 1000192, 1000193, 1000441, 1000471, 1000472, 1000473, 1000474, 1000516, 1000568]), (214, [1000194, 1000442, 1000475, 1000476, 1000477, 1000478, 1000479, 1000480, 1000481, 1000482, 1000517, 1000569, 1000570]), (220, [1000195, 1000196, 1000443, 1000444, 1000483, 1000484, 1000485, 1000486, 1000518, 1000571]), (263, [1000445])]
def nd_116_0pi_0 (t : List (Int × Int)) : List (Int × Int) := ui0 :: (0, 2) :: (0, 5) :: ui51 :: ui54 :: ui31 :: ui143 :: ui70 :: t
def nd_116_0pi_1 (t : List (Int × Int)) : List (Int × Int) := ui71 :: ui54 :: ui72 :: (0, 5) :: ui199 :: ui199 :: ui199 :: ui199 :: t
def nd_116_0pi_2 (t : List (Int × Int)) : List (Int × Int) := ui50 :: (0, 6) :: ui31 :: ui51 :: t
def nd_116_0pf_0 (t : List zFa) : List zFa := uF49 :: uF170 :: uF165 :: uF171 :: (0, (false, 3, 0, []), 0, 0, 0, [(11, 1)]) :: uF169 :: (1, (false, 10, 0, []), 0, 0, 0, [(12, 1)]) :: (1, (false, 9, 0, []), 0, 0, 0, [(13, 1)]) :: t
def nd_116_0pf_1 (t : List zFa) : List zFa := uF426 :: (1, (false, 7, 0, []), 0, 0, 0, [(15, 1)]) :: (1, (false, 6, 0, []), 0, 0, 0, [(16, 1)]) :: (1, (false, 5, 0, []), 0, 0, 0, [(17, 1)]) :: (11, (false, 4, 0, []), 0, 0, 0, [(18, 1)]) :: uF44 :: (0, (false, 4, 0, []), 0, 0, 0, [(19, 1)]) :: uF153 :: t
def nd_116_0pf_2 (t : List zFa) : List zFa := uF188 :: uF46 :: uF47 :: uF48 :: uF413 :: uF414 :: uF415 :: uF416 :: t
def nd_116_0pf_3 (t : List zFa) : List zFa := uF417 :: uF418 :: uF419 :: uF420 :: uF421 :: t
def nd_116_0pg_0 (t : List zTg) : List zTg := (35, [uL100, uL81]) :: (36, [uL100, uL81, uL133, uL166, uL173]) :: (40, [uL100, uL81, uL65, uL65, uL65, uL216, uL215, uL198, uL355, uL80]) :: (43, [uL100, uL81, uL216]) :: (51, [uL81, uL80]) :: (34, [uL100, uL81]) :: (86, [uL100, uL81, uL268, uL212]) :: (86, [uL100, uL81, uL285, uL211]) :: t
def nd_116_0pg_1 (t : List zTg) : List zTg := (86, [uL100, uL81, uL287, uL210]) :: (86, [uL100, uL81, uL289, uL217]) :: (92, [uL100, uL81, uL216]) :: (201, [uL100, uL81, uL279, uL65]) :: t
def nd_116_0p : zS := ((nd_116_0pi_0 (nd_116_0pi_1 (nd_116_0pi_2 []))), (cx_116pr_0 (cx_116pr_1 [])), [], [uV2, uV422, uV110], [], (nd_116_0pf_0 (nd_116_0pf_1 (nd_116_0pf_2 (nd_116_0pf_3 [])))), (nd_116_0pg_0 (nd_116_0pg_1 [])))
def nd_116_0 : zN := (31, nd_116_0p, (10042, [(6, (-25))]))
def nd_116_1pi_0 (t : List (Int × Int)) : List (Int × Int) := ui0 :: (0, 2) :: (0, 5) :: ui51 :: ui54 :: ui31 :: ui145 :: ui51 :: t
def nd_116_1pi_1 (t : List (Int × Int)) : List (Int × Int) := (1, 2) :: ui54 :: ui51 :: ui51 :: ui51 :: ui427 :: (0, 6) :: t
def nd_116_1pf_0 (t : List zFa) : List zFa := (1, (false, 10, 0, []), 0, 0, 0, [(7, 1)]) :: uF164 :: uF165 :: uF425 :: uF428 :: uF429 :: (1, (false, 6, 0, []), 0, 0, 0, [(13, 1)]) :: (1, (false, 5, 0, []), 0, 0, 0, [(14, 1)]) :: t
def nd_116_1pf_1 (t : List zFa) : List zFa := uF44 :: uF153 :: uF188 :: uF46 :: uF47 :: uF48 :: uF413 :: uF414 :: t
def nd_116_1pf_2 (t : List zFa) : List zFa := uF415 :: uF416 :: uF417 :: uF418 :: uF419 :: uF420 :: uF421 :: t
def nd_116_1p : zS := ((nd_116_1pi_0 (nd_116_1pi_1 [])), (cx_116pr_0 (cx_116pr_1 [])), [], [uV2, uV422, uV110], [], (nd_116_1pf_0 (nd_116_1pf_1 (nd_116_1pf_2 []))), [(41, [uL100, uL133, uL166])])
def nd_116_1 : zN := (31, nd_116_1p, (1220, [(6, (-3))]))
def ns_116 : List zN := [nd_116_0, nd_116_1]
set_option maxRecDepth 1000000 in
theorem ca_116 : x_okA mLT cq_116 mTS2 mTC2 mRUp cx_116 cs_116 hs_116 ns_116 (10060, []) 231550 28 = true := by decide +kernel
set_option maxRecDepth 1000000 in
theorem cb_116_0 : x_okB mLT cq_116 mTS2 mTC2 mRUp cx_116 cs_116 hs_116 ns_116 (10060, []) 231550 28 nd_116_0 = true := by decide +kernel
set_option maxRecDepth 1000000 in
theorem cb_116_1 : x_okB mLT cq_116 mTS2 mTC2 mRUp cx_116 cs_116 hs_116 ns_116 (10060, []) 231550 28 nd_116_1 = true := by decide +kernel
set_option maxRecDepth 1000000 in
theorem cc_116 : x_okC mLT cq_116 mTS2 mTC2 mRUp cx_116 cs_116 hs_116 ns_116 (10060, []) 231550 28 = true := by decide +kernel
theorem ck_116 : x_ok mLT cq_116 mTS2 mTC2 mRUp cx_116 cs_116 hs_116 ns_116 (10060, []) 231550 28 = true := x_ok_of ca_116 (List.forall_mem_cons.mpr ⟨cb_116_0, List.forall_mem_cons.mpr ⟨cb_116_1, fun _ h => absurd h List.not_mem_nil⟩⟩) cc_116
theorem sn_116 {W : Bool} {X : List Int32} : y_Snd (mGw W) mLT (J2 W X) X cx_116 := y_ok J2_J mTS2_ok mTC2_ok mRUp_ok (List.forall_mem_cons.mpr ⟨sn_4, List.forall_mem_cons.mpr ⟨sn_32, List.forall_mem_cons.mpr ⟨sn_44, List.forall_mem_cons.mpr ⟨sn_53, List.forall_mem_cons.mpr ⟨sn_55, List.forall_mem_cons.mpr ⟨sn_58, List.forall_mem_cons.mpr ⟨sn_61, List.forall_mem_cons.mpr ⟨sn_64, List.forall_mem_cons.mpr ⟨sn_65, List.forall_mem_cons.mpr ⟨sn_114, List.forall_mem_cons.mpr ⟨sn_115, fun _ h => absurd h List.not_mem_nil⟩⟩⟩⟩⟩⟩⟩⟩⟩⟩⟩) ck_116
/-- Arrays.fill -/
def cx_117 : zCtx := (2, ([ui0], [ur430], [], [], [uV2, uV64], [], []), [([ui0], [ur430], [], [], [], [], [(270, [uL255])])], [uk431], 70, 0, 0)
set_option maxRecDepth 1000000 in
theorem ck_117 : x_ok mLT [] mTS2 mTC2 mRUp cx_117 [] [(2, [1000430, 1000795]), (14, [1000431, 1000796])] [(5, ([(0, 3072), (0, 6)], [(28, false)], [(6, [(1, (-1))])], [(2, 0, 0, []), (0, 0, 0, []), (0, 0, 0, [(1, 1)]), (0, 0, 6, [])], [], [], [(33, [(0, [])]), (270, [(0, [(1, 1)])])]), (64, [(1, (-10))]))] (70, []) 0 12 = true := by decide +kernel
theorem sn_117 {W : Bool} {X : List Int32} : y_Snd (mGw W) mLT (J2 W X) X cx_117 := y_ok J2_J mTS2_ok mTC2_ok mRUp_ok (fun _ h => absurd h List.not_mem_nil) ck_117
def cx_118pi_0 (t : List (Int × Int)) : List (Int × Int) := ui0 :: (0, 6) :: (0, 6) :: ui51 :: ui51 :: ui51 :: ui51 :: ui51 :: t
def cx_118pi_1 (t : List (Int × Int)) : List (Int × Int) := ui51 :: ui51 :: ui51 :: (0, 6) :: t
def cx_118pf_0 (t : List zFa) : List zFa := uF38 :: uF39 :: uF40 :: uF41 :: (1, (false, 2, 0, []), 2, 2, 0, []) :: (2, (true, 0, 0, []), 0, 0, 0, [(5, 1)]) :: (2, (true, 0, 1, []), 0, 0, 0, [(6, 1)]) :: (2, (true, 0, 2, []), 0, 0, 0, [(7, 1)]) :: t
def cx_118pf_1 (t : List zFa) : List zFa := (2, (true, 0, 3, []), 0, 0, 0, [(8, 1)]) :: (2, (true, 0, 4, []), 0, 0, 0, [(9, 1)]) :: (2, (true, 0, 5, []), 0, 0, 0, [(10, 1)]) :: uF432 :: (0, (false, 0, 0, []), 2, 3, 0, []) :: uF433 :: t
def cx_118p : zS := ((cx_118pi_0 (cx_118pi_1 [])), [ur434, ur52, ur229, ur435, ur430], [], [], [uV2, uV422], (cx_118pf_0 (cx_118pf_1 [])), [])
/-- State.begin -/
def cx_118 : zCtx := (100, cx_118p, [([ui0, (0, 6), (0, 6), ui51, ui51, ui51, ui51, ui51, ui51, ui51, ui51, (0, 6)], [ur434, ur52, ur229, ur435, ur430], [], [], [], [(0, (false, 5, 0, []), 0, 0, 0, [(11, 1)]), uF53, (0, (false, 7, 0, []), 0, 0, 0, []), (0, (false, 8, 0, []), 0, 0, 0, [])], [uG436])], [(6, false, 5), uk437, uk438, (6, false, 8), uk439, uk431], 96, 1, 64)
set_option maxRecDepth 1000000 in
theorem ck_118 : x_ok mLT [cx_117] mTS2 mTC2 mRUp cx_118 [(20, [0])] [(46, [1000797])] [] (26, []) 70 29 = true := by decide +kernel
theorem sn_118 {W : Bool} {X : List Int32} : y_Snd (mGw W) mLT (J2 W X) X cx_118 := y_ok J2_J mTS2_ok mTC2_ok mRUp_ok (List.forall_mem_cons.mpr ⟨sn_117, fun _ h => absurd h List.not_mem_nil⟩) ck_118
/-- History.clear -/
def cx_119 : zCtx := (39, ([ui0, ui440, ui441, (0, 7)], [ur442], [], [], [uV2], [uF186, uF187, uF20], []), [([ui0, ui440, ui441, (0, 7)], [ur442], [], [], [], [uF129, uF443, uF169], [])], [(7, false, 2), (7, false, 3), (7, false, 4)], 10, 0, 0)
set_option maxRecDepth 1000000 in
theorem ck_119 : x_ok mLT [] mTS2 mTC2 mRUp cx_119 [] [] [] (10, []) 0 13 = true := by decide +kernel
theorem sn_119 {W : Bool} {X : List Int32} : y_Snd (mGw W) mLT (J2 W X) X cx_119 := y_ok J2_J mTS2_ok mTC2_ok mRUp_ok (fun _ h => absurd h List.not_mem_nil) ck_119
def cx_120pi_0 (t : List (Int × Int)) : List (Int × Int) := ui0 :: ui50 :: (0, 7) :: (0, 6) :: (0, 6) :: ui51 :: ui51 :: ui440 :: t
def cx_120pi_1 (t : List (Int × Int)) : List (Int × Int) := ui441 :: (0, 6) :: ui51 :: ui51 :: ui51 :: ui51 :: ui51 :: ui51 :: t
def cx_120pr_0 (t : List (Nat × Bool)) : List (Nat × Bool) := ur444 :: ur52 :: ur445 :: ur446 :: ur447 :: ur442 :: ur434 :: ur435 :: t
def cx_120pr_1 (t : List (Nat × Bool)) : List (Nat × Bool) := ur430 :: ur229 :: t
def cx_120pf_0 (t : List zFa) : List zFa := uF448 :: uF78 :: uF449 :: uF450 :: (4, (false, 8, 0, []), 0, 0, 0, [(1, 1)]) :: uF451 :: (5, (false, 4, 0, []), 0, 0, 0, [(2, 1)]) :: (0, (false, 3, 0, []), 2, 6, 0, []) :: t
def cx_120pf_1 (t : List zFa) : List zFa := (6, (false, 5, 0, []), 0, 0, 0, [(3, 1)]) :: (6, (false, 6, 0, []), 0, 0, 0, [(4, 1)]) :: (6, (false, 7, 0, []), 0, 0, 0, [(5, 1)]) :: (6, (false, 8, 0, []), 0, 0, 0, [(6, 1)]) :: uF452 :: uF453 :: uF313 :: uF314 :: t
def cx_120pf_2 (t : List zFa) : List zFa := uF193 :: uF416 :: (9, (true, 0, 0, []), 0, 0, 0, [(10, 1)]) :: (9, (true, 0, 1, []), 0, 0, 0, [(11, 1)]) :: (9, (true, 0, 2, []), 0, 0, 0, [(12, 1)]) :: (9, (true, 0, 3, []), 0, 0, 0, [(13, 1)]) :: (9, (true, 0, 4, []), 0, 0, 0, [(14, 1)]) :: (9, (true, 0, 5, []), 0, 0, 0, [(15, 1)]) :: t
def cx_120p : zS := ((cx_120pi_0 (cx_120pi_1 [])), (cx_120pr_0 (cx_120pr_1 [])), [], [], [uV2], (cx_120pf_0 (cx_120pf_1 (cx_120pf_2 []))), [])
def cx_120q0f_0 (t : List zFa) : List zFa := uF454 :: uF455 :: (4, (false, 8, 0, []), 0, 0, 0, []) :: (5, (false, 4, 0, []), 0, 0, 0, []) :: (6, (false, 5, 0, []), 0, 0, 0, [(9, 1)]) :: (6, (false, 6, 0, []), 0, 0, 0, []) :: (6, (false, 7, 0, []), 0, 0, 0, []) :: (6, (false, 8, 0, []), 0, 0, 0, []) :: t
def cx_120q0f_1 (t : List zFa) : List zFa := (5, (false, 2, 0, []), 0, 0, 0, []) :: (5, (false, 3, 0, []), 0, 0, 0, []) :: t
def cx_120q0 : zS := ((cx_120pi_0 (cx_120pi_1 [])), (cx_120pr_0 (cx_120pr_1 [])), [], [], [], (cx_120q0f_0 (cx_120q0f_1 [])), [uG436])
/-- HairRope.beginSpareText -/
def cx_120 : zCtx := (140, cx_120p, [cx_120q0], kc_6, 122, 2, 85)
set_option maxRecDepth 1000000 in
theorem ck_120 : x_ok mLT [cx_118, cx_119] mTS2 mTC2 mRUp cx_120 [(35, [0]), (42, [1])] [] [] (26, []) 96 29 = true := by decide +kernel
theorem sn_120 {W : Bool} {X : List Int32} : y_Snd (mGw W) mLT (J2 W X) X cx_120 := y_ok J2_J mTS2_ok mTC2_ok mRUp_ok (List.forall_mem_cons.mpr ⟨sn_118, List.forall_mem_cons.mpr ⟨sn_119, fun _ h => absurd h List.not_mem_nil⟩⟩) ck_120
def cx_121pi_0 (t : List (Int × Int)) : List (Int × Int) := ui0 :: ui54 :: ui50 :: ui31 :: (0, 7) :: (0, 6) :: (0, 6) :: ui51 :: t
def cx_121pi_1 (t : List (Int × Int)) : List (Int × Int) := ui51 :: ui440 :: ui441 :: (0, 6) :: t
def cx_121pr_0 (t : List (Nat × Bool)) : List (Nat × Bool) := ur444 :: ur52 :: ur445 :: ur446 :: ur55 :: ur56 :: ur73 :: ur74 :: t
def cx_121pr_1 (t : List (Nat × Bool)) : List (Nat × Bool) := ur75 :: ur177 :: ur161 :: ur447 :: ur1 :: ur229 :: ur230 :: ur7 :: t
def cx_121pr_2 (t : List (Nat × Bool)) : List (Nat × Bool) := ur18 :: ur19 :: ur8 :: ur442 :: ur434 :: ur435 :: ur430 :: t
def cx_121pf_0 (t : List zFa) : List zFa := uF448 :: uF78 :: uF449 :: uF103 :: (4, (false, 5, 0, []), 0, 0, 0, [(1, 1)]) :: uF456 :: uF457 :: uF458 :: t
def cx_121pf_1 (t : List zFa) : List zFa := uF459 :: (1, (false, 0, 0, []), 2, 9, 0, []) :: (0, (false, 1, 0, []), 2, 10, 0, []) :: (10, (false, 0, 0, []), 2, 4, 0, []) :: uF460 :: uF461 :: uF462 :: (1, (false, 2, 0, []), 2, 13, 0, []) :: t
def cx_121pf_2 (t : List zFa) : List zFa := (1, (false, 3, 0, []), 2, 14, 0, []) :: (1, (false, 4, 0, []), 2, 15, 0, []) :: (15, (false, 0, 0, []), 2, 16, 0, []) :: (15, (false, 1, 0, []), 2, 17, 0, []) :: (15, (false, 2, 0, []), 2, 18, 0, []) :: (15, (false, 4, 0, []), 0, 0, 0, [(3, 1)]) :: (0, (false, 4, 0, []), 2, 19, 0, []) :: uF463 :: t
def cx_121pf_3 (t : List zFa) : List zFa := (0, (false, 3, 0, []), 2, 20, 0, []) :: uF464 :: uF465 :: uF466 :: uF467 :: uF468 :: uF469 :: (20, (false, 0, 0, []), 2, 21, 0, []) :: t
def cx_121pf_4 (t : List zFa) : List zFa := (20, (false, 1, 0, []), 2, 22, 0, []) :: uF432 :: t
def cx_121p : zS := ((cx_121pi_0 (cx_121pi_1 [])), (cx_121pr_0 (cx_121pr_1 (cx_121pr_2 []))), [], [], [uV2], (cx_121pf_0 (cx_121pf_1 (cx_121pf_2 (cx_121pf_3 (cx_121pf_4 []))))), [uG470])
def cx_121q0i_0 (t : List (Int × Int)) : List (Int × Int) := ui0 :: ui54 :: ui50 :: ui31 :: (0, 7) :: (0, 6) :: (0, 6) :: ui51 :: t
def cx_121q0i_1 (t : List (Int × Int)) : List (Int × Int) := ui51 :: ui440 :: ui441 :: (0, 6) :: (0, 6) :: ui199 :: ui199 :: ui199 :: t
def cx_121q0i_2 (t : List (Int × Int)) : List (Int × Int) := ui199 :: ui31 :: t
def cx_121q0f_0 (t : List zFa) : List zFa := uF454 :: uF455 :: (11, (false, 8, 0, []), 0, 0, 0, []) :: (0, (false, 10, 0, []), 0, 0, (-1), []) :: uF471 :: (1, (false, 5, 0, []), 0, 0, 0, [(12, 1)]) :: (1, (false, 7, 0, []), 0, 0, 0, [(13, 1)]) :: uF426 :: t
def cx_121q0f_1 (t : List zFa) : List zFa := (1, (false, 9, 0, []), 0, 0, 0, [(15, 1)]) :: (1, (false, 10, 0, []), 0, 0, 0, [(16, 1)]) :: (15, (false, 4, 0, []), 0, 0, 0, [(17, 1)]) :: (19, (false, 4, 0, []), 0, 0, 0, []) :: (20, (false, 5, 0, []), 0, 0, 0, [(12, 1)]) :: (20, (false, 6, 0, []), 0, 0, 0, []) :: (20, (false, 7, 0, []), 0, 0, 0, []) :: (20, (false, 8, 0, []), 0, 0, 0, []) :: t
def cx_121q0f_2 (t : List zFa) : List zFa := (19, (false, 2, 0, []), 0, 0, 0, []) :: (19, (false, 3, 0, []), 0, 0, 0, []) :: t
def cx_121q0g_0 (t : List zTg) : List zTg := uG472 :: (74, [uL9]) :: (76, [uL9, uL217]) :: (87, [uL9, uL268, uL210]) :: (87, [uL9, uL285, uL211]) :: (87, [uL9, uL287, uL212]) :: (87, [uL9, uL289, uL215]) :: (93, [uL9, uL217]) :: t
def cx_121q0g_1 (t : List zTg) : List zTg := (213, [uL9, uL216]) :: uG436 :: t
def cx_121q0 : zS := ((cx_121q0i_0 (cx_121q0i_1 (cx_121q0i_2 []))), (cx_121pr_0 (cx_121pr_1 (cx_121pr_2 []))), [], [], [uV64], (cx_121q0f_0 (cx_121q0f_1 (cx_121q0f_2 []))), (cx_121q0g_0 (cx_121q0g_1 [])))
def cx_121q1i_0 (t : List (Int × Int)) : List (Int × Int) := ui0 :: ui54 :: ui50 :: ui31 :: (0, 7) :: (0, 6) :: (0, 6) :: ui51 :: t
def cx_121q1i_1 (t : List (Int × Int)) : List (Int × Int) := ui51 :: ui440 :: ui441 :: (0, 6) :: (1, 5) :: ui51 :: t
def cx_121q1f_0 (t : List zFa) : List zFa := uF449 :: uF448 :: uF461 :: uF473 :: uF471 :: uF463 :: uF464 :: uF465 :: t
def cx_121q1f_1 (t : List zFa) : List zFa := uF466 :: uF467 :: uF468 :: uF469 :: t
def cx_121q1 : zS := ((cx_121q1i_0 (cx_121q1i_1 [])), (cx_121pr_0 (cx_121pr_1 (cx_121pr_2 []))), [], [], [uV201], (cx_121q1f_0 (cx_121q1f_1 [])), [(47, [uL9, uL217, uL210]), uG470])
/-- HairRope.read -/
def cx_121 : zCtx := (139, cx_121p, [cx_121q0, cx_121q1], kc_7, 241632, 25, 564)
set_option maxRecDepth 1000000 in
theorem ck_121 : x_ok mLT [cx_116, cx_120] mTS2 mTC2 mRUp cx_121 [(8, [0]), (44, [1])] [(28, [1000197, 1000198])] [] (22, []) 241610 25 = true := by decide +kernel
theorem sn_121 {W : Bool} {X : List Int32} : y_Snd (mGw W) mLT (J2 W X) X cx_121 := y_ok J2_J mTS2_ok mTC2_ok mRUp_ok (List.forall_mem_cons.mpr ⟨sn_116, List.forall_mem_cons.mpr ⟨sn_120, fun _ h => absurd h List.not_mem_nil⟩⟩) ck_121
/-- Tape.put -/
def cx_122 : zCtx := (114, ([ui0, ui51, ui474, ui54], [ur55, ur56], [uL475], [], [uV2, uV11], [uF57, uF21], [uG476]), [([ui0, ui51, ui474, ui54], [ur55, ur56], [], [], [], [uF477], [uG476, uG479])], [uk480, uk481], 109, 0, 0)
set_option maxRecDepth 1000000 in
theorem ck_122 : x_ok mLT1 [] mTS2 mTC2 mRUp cx_122 [] [(34, [1000421]), (35, [1000422]), (53, [1000423])] [] (109, []) 0 112 = true := by decide +kernel
theorem sn_122 {W : Bool} {X : List Int32} : y_Snd (mGw W) mLT1 (J2 W X) X cx_122 := y_ok J2_J mTS2_ok1 mTC2_ok1 mRUp_ok1 (fun _ h => absurd h List.not_mem_nil) ck_122
/-- Tape.put -/
def cx_123 : zCtx := (114, ([ui0, ui51, ui482, ui54, ui51], [ur55, ur56], [uL475], [], [uV2, uV11], [uF57, uF21], [uG476, uG484]), [([ui0, ui51, ui482, ui54, ui51], [ur55, ur56], [], [], [], [uF477], [uG476, uG484, uG479])], [uk480, uk481], 109, 0, 0)
set_option maxRecDepth 1000000 in
theorem ck_123 : x_ok mLT1 [] mTS2 mTC2 mRUp cx_123 [] [(34, [1000421]), (35, [1000422]), (53, [1000423])] [] (109, []) 0 112 = true := by decide +kernel
theorem sn_123 {W : Bool} {X : List Int32} : y_Snd (mGw W) mLT1 (J2 W X) X cx_123 := y_ok J2_J mTS2_ok1 mTC2_ok1 mRUp_ok1 (fun _ h => absurd h List.not_mem_nil) ck_123
/-- Tape.put -/
def cx_124 : zCtx := (114, ([ui0, ui51, ui485, ui54, ui51, ui51], [ur55, ur56], [uL475], [], [uV2, uV11], [uF57, uF21], [uG476, uG484, uG487]), [([ui0, ui51, ui485, ui54, ui51, ui51], [ur55, ur56], [], [], [], [uF477], [uG476, uG484, uG487, uG479])], [uk480, uk481], 109, 0, 0)
set_option maxRecDepth 1000000 in
theorem ck_124 : x_ok mLT1 [] mTS2 mTC2 mRUp cx_124 [] [(34, [1000421]), (35, [1000422]), (53, [1000423])] [] (109, []) 0 112 = true := by decide +kernel
theorem sn_124 {W : Bool} {X : List Int32} : y_Snd (mGw W) mLT1 (J2 W X) X cx_124 := y_ok J2_J mTS2_ok1 mTC2_ok1 mRUp_ok1 (fun _ h => absurd h List.not_mem_nil) ck_124
/-- Tape.put -/
def cx_125 : zCtx := (114, ([ui0, ui51, ui488, ui54, ui51, ui51, ui51], [ur55, ur56], [uL475], [], [uV2, uV11], [uF57, uF21], [uG476, uG484, uG487, uG490]), [([ui0, ui51, ui488, ui54, ui51, ui51, ui51], [ur55, ur56], [], [], [], [uF477], [uG476, uG484, uG487, uG490, uG479])], [uk480, uk481], 109, 0, 0)
set_option maxRecDepth 1000000 in
theorem ck_125 : x_ok mLT1 [] mTS2 mTC2 mRUp cx_125 [] [(34, [1000421]), (35, [1000422]), (53, [1000423])] [] (109, []) 0 112 = true := by decide +kernel
theorem sn_125 {W : Bool} {X : List Int32} : y_Snd (mGw W) mLT1 (J2 W X) X cx_125 := y_ok J2_J mTS2_ok1 mTC2_ok1 mRUp_ok1 (fun _ h => absurd h List.not_mem_nil) ck_125
/-- Tape.put -/
def cx_126 : zCtx := (114, ([ui0, ui51, ui491, ui54, ui51, ui51, ui51, ui51], [ur55, ur56], [uL475], [], [uV2, uV11], [uF57, uF21], [uG476, uG484, uG487, uG490, uG493]), [([ui0, ui51, ui491, ui54, ui51, ui51, ui51, ui51], [ur55, ur56], [], [], [], [uF477], [uG476, uG484, uG487, uG490, uG493, uG479])], [uk480, uk481], 109, 0, 0)
set_option maxRecDepth 1000000 in
theorem ck_126 : x_ok mLT1 [] mTS2 mTC2 mRUp cx_126 [] [(34, [1000421]), (35, [1000422]), (53, [1000423])] [] (109, []) 0 112 = true := by decide +kernel
theorem sn_126 {W : Bool} {X : List Int32} : y_Snd (mGw W) mLT1 (J2 W X) X cx_126 := y_ok J2_J mTS2_ok1 mTC2_ok1 mRUp_ok1 (fun _ h => absurd h List.not_mem_nil) ck_126
/-- HairRope.feed -/
def cx_127 : zCtx := (137, ([ui0, ui51, ui51, ui51, ui51, ui51, ui54, ui54], [ur444, ur55, ur56], [uL494], [], [uV2, uV11, uV12, uV60, uV99, uV77], [uF21, uF495, uF496], [uG497]), [([ui0, ui51, ui51, ui51, ui51, ui51, ui54, ui54], [ur444, ur55, ur56], [uL498], [], [uV63], [uF495], [uG497]), ([ui0, ui51, ui51, ui51, ui51, ui51, ui54, ui54], [ur444, ur55, ur56], [uL499], [], [uV500], [(1, (false, 5, 0, []), 0, 0, 20, [(6, 1)])], [uG497, (72, [uL80, uL9, uL501]), (72, [uL501, uL69, uL502]), (72, [uL502, uL23, uL503]), (72, [uL503, uL100, uL504]), (72, [uL504, uL106, uL505])])], [uk480, uk481], 138, 1, 22)
set_option maxRecDepth 1000000 in
theorem ck_127 : x_ok mLT1 [cx_122, cx_123, cx_124, cx_125, cx_126] mTS2 mTC2 mRUp cx_127 [(20, [0]), (28, [1]), (36, [2]), (45, [3]), (54, [4])] [] [] (29, []) 109 32 = true := by decide +kernel
theorem sn_127 {W : Bool} {X : List Int32} : y_Snd (mGw W) mLT1 (J2 W X) X cx_127 := y_ok J2_J mTS2_ok1 mTC2_ok1 mRUp_ok1 (List.forall_mem_cons.mpr ⟨sn_122, List.forall_mem_cons.mpr ⟨sn_123, List.forall_mem_cons.mpr ⟨sn_124, List.forall_mem_cons.mpr ⟨sn_125, List.forall_mem_cons.mpr ⟨sn_126, fun _ h => absurd h List.not_mem_nil⟩⟩⟩⟩⟩) ck_127
/-- HairRope.back -/
def cx_128 : zCtx := (138, ([ui0, ui51, ui54], [ur444, ur55], [], [], [uV2, uV11], [uF21, uF506], []), [([ui0, ui507, ui54], [ur444, ur55], [uL508], [], [uV63], [uF506], []), ([ui0, ui54, ui54], [ur444, ur55], [uL509], [], [uV510], [(1, (false, 5, 0, []), 0, 0, 0, [(1, (-1)), (2, 1)])], []), ([ui0, ui265, ui54], [ur444, ur55], [], [], [uV63], [uF506], [])], [uk480], 18, 0, 0)
set_option maxRecDepth 1000000 in
theorem ck_128 : x_ok mLT1 [] mTS2 mTC2 mRUp cx_128 [] [] [] (18, []) 0 21 = true := by decide +kernel
theorem sn_128 {W : Bool} {X : List Int32} : y_Snd (mGw W) mLT1 (J2 W X) X cx_128 := y_ok J2_J mTS2_ok1 mTC2_ok1 mRUp_ok1 (fun _ h => absurd h List.not_mem_nil) ck_128
/-- HairRope.place -/
def cx_129 : zCtx := (141, ([ui0], [ur444], [], [], [uV2], [], []), [([ui0, ui51], [ur444], [], [], [uV11], [], [])], [], 3, 0, 0)
set_option maxRecDepth 1000000 in
theorem ck_129 : x_ok mLT1 [] mTS2 mTC2 mRUp cx_129 [] [] [] (3, []) 0 6 = true := by decide +kernel
theorem sn_129 {W : Bool} {X : List Int32} : y_Snd (mGw W) mLT1 (J2 W X) X cx_129 := y_ok J2_J mTS2_ok1 mTC2_ok1 mRUp_ok1 (fun _ h => absurd h List.not_mem_nil) ck_129
/-- HairRope.isHouse -/
def cx_130 : zCtx := (143, ([ui0, ui51, (0, 6)], [ur444, ur445, ur446], [], [], [uV2, uV11], [uF13, uF511, uF307], []), [([ui0, (0, 5), (1, 6)], [ur444, ur445, ur446], [uL59], [], [uV66], [], []), ([ui0, ui512, (0, 6)], [ur444, ur445, ur446], [uL62], [], [uV64], [], []), ([ui0, ui265, (0, 6)], [ur444, ur445, ur446], [], [], [uV64], [], [])], [], 14, 0, 0)
set_option maxRecDepth 1000000 in
theorem ck_130 : x_ok mLT1 [] mTS2 mTC2 mRUp cx_130 [] [] [] (14, []) 0 17 = true := by decide +kernel
theorem sn_130 {W : Bool} {X : List Int32} : y_Snd (mGw W) mLT1 (J2 W X) X cx_130 := y_ok J2_J mTS2_ok1 mTC2_ok1 mRUp_ok1 (fun _ h => absurd h List.not_mem_nil) ck_130
def cx_131pi_0 (t : List (Int × Int)) : List (Int × Int) := ui0 :: (0, 5) :: (0, 6) :: (0, 6) :: ui51 :: ui51 :: ui51 :: ui51 :: t
def cx_131pi_1 (t : List (Int × Int)) : List (Int × Int) := ui51 :: ui51 :: ui51 :: ui51 :: ui51 :: t
def cx_131p : zS := ((cx_131pi_0 (cx_131pi_1 [])), [ur434], [uL513], [], [uV2, uV11], [uF39, uF97, uF141, uF514], [uG515])
/-- State.placeOf -/
def cx_131 : zCtx := (101, cx_131p, [([ui0, (0, 5), (1, 6), (0, 6), ui51, ui51, ui51, ui51, ui51, ui51, ui51, ui51, ui51, (0, 5)], [ur434], [((-1), [(2, 1), (13, (-1))]), uL513], [], [uV411], [], [(238, [uL255, uL80, uL81, uL133, uL166, uL173, uL198, uL217, uL9, uL65, uL210])]), ([ui0, (0, 5), (0, 6), (0, 6), ui51, ui51, ui51, ui51, ui51, ui51, ui51, ui51, ui51], [ur434], [uL513], [], [uV63], [], [(238, [uL255, uL80, uL81, uL133, uL166, uL173, uL198, uL217, uL9, uL65, uL101])])], [], 105, 0, 0)
def cz_131_0i_0 (t : List (Int × Int)) : List (Int × Int) := ui0 :: (0, 5) :: (0, 6) :: (0, 6) :: ui51 :: ui51 :: ui51 :: ui51 :: t
def cz_131_0i_1 (t : List (Int × Int)) : List (Int × Int) := ui51 :: ui51 :: ui51 :: ui51 :: ui51 :: (0, 6) :: t
def cz_131_0g_0 (t : List zTg) : List zTg := (238, [uL289, uL80, uL81, uL133, uL166, uL173, uL198, uL217, uL9, uL65, uL67]) :: uG515 :: (238, [uL289, uL80, uL81, uL133, uL166, uL173, uL198, uL217, uL9, uL210, uL67]) :: t
def cz_131_0 : zS := ((cz_131_0i_0 (cz_131_0i_1 [])), [ur434], [uL513], [uV2, uV11, uV411], [], [uF39, uF97, uF141, uF514], (cz_131_0g_0 []))
set_option maxRecDepth 1000000 in
theorem ck_131 : x_ok mLT1 [] mTS2 mTC2 mRUp cx_131 [] [(0, [1000798]), (23, [1000012]), (26, [1000801]), (28, [1000799, 1000800]), (34, [1000802])] [(2, cz_131_0, (102, [(13, (-16))]))] (105, []) 0 18 = true := by decide +kernel
theorem sn_131 {W : Bool} {X : List Int32} : y_Snd (mGw W) mLT1 (J2 W X) X cx_131 := y_ok J2_J mTS2_ok1 mTC2_ok1 mRUp_ok1 (fun _ h => absurd h List.not_mem_nil) ck_131
def cx_132pi_0 (t : List (Int × Int)) : List (Int × Int) := ui0 :: (0, 5) :: ui248 :: (0, 6) :: (0, 6) :: ui51 :: ui51 :: ui51 :: t
def cx_132pi_1 (t : List (Int × Int)) : List (Int × Int) := ui51 :: ui51 :: ui51 :: ui51 :: ui51 :: ui51 :: t
def cx_132p : zS := ((cx_132pi_0 (cx_132pi_1 [])), [ur445, ur434], [uL513, uL9, uL516, uL517, uL518], [], [uV2, uV422, uV11, uV12], [uF519, uF520, uF521, uF522], [uG523, uG524])
/-- Rules.strongOf -/
def cx_132 : zCtx := (89, cx_132p, [([ui0, (0, 5), ui248, (0, 6), (0, 6), ui51, ui51, ui51, ui51, ui51, ui51, ui51, ui51, ui51, ui51], [ur445, ur434], [uL513, uL9, uL516, uL517, uL518], [], [uV358], [], [(238, [uL263, uL81, uL133, uL166, uL173, uL198, uL217, uL210, uL9, uL65, uL211])])], [], 14, 0, 0)
set_option maxRecDepth 1000000 in
theorem ck_132 : x_ok mLT1 [] mTS2 mTC2 mRUp cx_132 [] [(16, [1000816, 1000817]), (40, [1000804])] [] (14, []) 0 17 = true := by decide +kernel
theorem sn_132 {W : Bool} {X : List Int32} : y_Snd (mGw W) mLT1 (J2 W X) X cx_132 := y_ok J2_J mTS2_ok1 mTC2_ok1 mRUp_ok1 (fun _ h => absurd h List.not_mem_nil) ck_132
def cx_133p : zS := ((cx_132pi_0 (cx_132pi_1 [])), [ur445, ur434, ur525], [uL513, uL9, uL516, uL517, uL518], [], [uV2, uV422, uV11, uV12], [uF519, uF520, uF521, uF522, uF22], [uG523, uG524])
def cx_133q0i_0 (t : List (Int × Int)) : List (Int × Int) := ui0 :: (0, 5) :: ui248 :: (1, 6) :: (0, 6) :: ui51 :: ui51 :: ui51 :: t
def cx_133q0i_1 (t : List (Int × Int)) : List (Int × Int) := ui51 :: ui51 :: ui51 :: ui51 :: ui51 :: ui51 :: ui51 :: (0, 5) :: t
def cx_133q0i_2 (t : List (Int × Int)) : List (Int × Int) := ui51 :: ui526 :: t
def cx_133q0f_0 (t : List zFa) : List zFa := (2, (true, 0, 8, []), 0, 0, 0, []) :: (2, (true, 0, 7, []), 0, 0, 0, [(14, 1)]) :: (2, (true, 0, 6, []), 0, 0, 0, [(4, 1)]) :: (2, (true, 0, 5, []), 0, 0, 0, [(1, 1)]) :: (2, (true, 0, 4, []), 0, 0, 0, [(15, 1)]) :: (2, (true, 0, 3, []), 0, 0, 0, [(5, 1)]) :: (2, (true, 0, 2, []), 0, 0, 0, []) :: (2, (true, 0, 1, []), 0, 0, 0, [(16, 1)]) :: t
def cx_133q0f_1 (t : List zFa) : List zFa := (2, (true, 0, 0, []), 0, 0, 0, [(17, 1)]) :: t
def cx_133q0g_0 (t : List zTg) : List zTg := (238, [uL34, uL81, uL133, uL166, uL173, uL198, uL217, uL210, uL9, uL65, uL216]) :: (238, [uL263, uL81, uL133, uL166, uL173, uL198, uL217, uL210, uL9, uL65, uL215]) :: (238, [uL34, uL81, uL133, uL166, uL173, uL198, uL217, uL210, uL527, uL65, uL106]) :: (238, [uL528, uL81, uL133, uL166, uL173, uL198, uL217, uL210, uL9, uL65, uL212]) :: (238, [uL34, uL81, uL133, uL166, uL173, uL198, uL217, uL210, uL529, uL65, uL100]) :: (238, [uL34, uL81, uL133, uL166, uL173, uL198, uL217, uL210, uL530, uL65, uL211]) :: t
def cx_133q0 : zS := ((cx_133q0i_0 (cx_133q0i_1 (cx_133q0i_2 []))), [ur445, ur434, ur525], [uL518, uL516, uL513, uL9, uL517], [], [], (cx_133q0f_0 (cx_133q0f_1 [])), (cx_133q0g_0 []))
/-- Rules.lookAt -/
def cx_133 : zCtx := (88, cx_133p, [cx_133q0], [uk531], 79, 1, 64)
set_option maxRecDepth 1000000 in
theorem ck_133 : x_ok mLT1 [cx_132] mTS2 mTC2 mRUp cx_133 [(32, [0])] [(22, [1000803]), (58, [1000805]), (63, [1000806, 1000807]), (95, [1000808]), (103, [1000809])] [] (65, []) 14 68 = true := by decide +kernel
theorem sn_133 {W : Bool} {X : List Int32} : y_Snd (mGw W) mLT1 (J2 W X) X cx_133 := y_ok J2_J mTS2_ok1 mTC2_ok1 mRUp_ok1 (List.forall_mem_cons.mpr ⟨sn_132, fun _ h => absurd h List.not_mem_nil⟩) ck_133
/-- Laws.reckon -/
def cx_134 : zCtx := (52, ([ui0, ui51, ui51], [], [], [], [uV3, uV11, uV12], [], []), [([ui0, ui51, (0, 0)], [], [], [], [uV64], [], []), ([ui0, ui51, ui265, ui51], [], [], [], [uV60], [], [uG532]), ([ui0, ui51, ui507, ui51], [], [], [], [uV60], [], [uG532])], [], 8, 0, 0)
set_option maxRecDepth 1000000 in
theorem ck_134 : x_ok mLT1 [] mTS2 mTC2 mRUp cx_134 [] [(50, [1000023])] [] (8, []) 0 11 = true := by decide +kernel
theorem sn_134 {W : Bool} {X : List Int32} : y_Snd (mGw W) mLT1 (J2 W X) X cx_134 := y_ok J2_J mTS2_ok1 mTC2_ok1 mRUp_ok1 (fun _ h => absurd h List.not_mem_nil) ck_134
/-- Laws.reckon -/
def cx_135 : zCtx := (52, ([ui0, (2, 4), ui51, ui51], [], [], [], [uV11, uV12, uV60], [], []), [([ui0, (4, 4), ui51, ui51, ui51], [], [((-4), [(1, 1)]), (4, [(1, (-1))])], [], [uV99], [], [(100, [uL69, uL23, uL100])]), ([ui0, (3, 3), ui51, ui51, ui51], [], [((-3), [(1, 1)]), uL10], [], [uV99], [], [(111, [uL69, uL23, uL100])]), ([ui0, (2, 2), ui51, ui51, ui51], [], [((-2), [(1, 1)]), (2, [(1, (-1))])], [], [uV99], [], [(110, [uL69, uL23, uL100])])], [], 6, 0, 0)
set_option maxRecDepth 1000000 in
theorem ck_135 : x_ok mLT1 [] mTS2 mTC2 mRUp cx_135 [] [(30, [1000637]), (34, [1000638]), (38, [1000639])] [] (6, []) 0 9 = true := by decide +kernel
theorem sn_135 {W : Bool} {X : List Int32} : y_Snd (mGw W) mLT1 (J2 W X) X cx_135 := y_ok J2_J mTS2_ok1 mTC2_ok1 mRUp_ok1 (fun _ h => absurd h List.not_mem_nil) ck_135
/-- Laws.answer -/
def cx_136 : zCtx := (51, ([ui0, (0, 3), ui31], [ur533, ur525, ur534, ur535, ur536, ur537], [], [], [uV2, uV11, uV422], [uF182, uF153, uF538, (0, (false, 2, 0, []), 2, 4, 0, []), uF539], []), [([ui0, (0, 3), ui404, ui51], [ur533, ur525, ur534, ur535, ur536, ur537], [], [], [uV60], [], [(228, [uL69, uL9, uL23])]), ([ui0, (0, 3), ui344], [ur533, ur525, ur534, ur535, ur536, ur537], [], [], [uV64], [], [uG540]), ([ui0, (0, 3), ui31], [ur533, ur525, ur534, ur535, ur536, ur537], [], [], [uV64], [], [uG540])], [uk541], 52949, 1, 22)
set_option maxRecDepth 1000000 in
theorem ck_136 : x_ok mLT1 [cx_134, cx_135] mTS2 mTC2 mRUp cx_136 [(220, [0, 1])] [(20, [1000615]), (90, [1000620]), (93, [1000621]), (131, [1000622, 1000623, 1000624]), (154, [1000625, 1000626]), (184, [1000627, 1000628]), (223, [1000631, 1000632, 1000633, 1000634, 1000635]), (224, [1000636]), (249, [1000629]), (252, [1000630]), (258, [1000616, 1000617, 1000618, 1000619])] [(26, ([(0, 3072), (0, 3), (0, 432), ((-2147483648), 2147483647), (0, 22), (0, 840), ((-2147483648), 2147483647)], [(3, false), (26, false), (21, false), (22, false), (23, false), (24, false)], [], [(2, 0, 0, []), (0, 0, 0, [(1, 1)]), (2, 1, 0, []), (0, 0, 0, [(3, 1)]), (0, 0, 0, [(4, 1)]), (0, 0, 0, [(5, 1)]), (5, 0, 0, []), (5, 0, 0, [])], [], [(0, (false, 4, 0, []), 0, 0, 0, [(2, 1)]), (0, (false, 0, 0, []), 2, 2, 0, []), (0, (false, 1, 0, []), 2, 3, 0, []), (0, (false, 2, 0, []), 2, 4, 0, []), (0, (false, 3, 0, []), 2, 5, 0, [])], [(226, [(0, [(2, 1)]), (0, [(6, 1)]), (0, [(5, 1)]), (0, [(3, 1)]), (0, [(4, 1)])]), (228, [(0, [(2, 1)]), (0, [(1, 1)]), (0, [(6, 1)])])]), (52925, [(4, 6), (5, (-63))]))] (52941, []) 8 71 = true := by decide +kernel
theorem sn_136 {W : Bool} {X : List Int32} : y_Snd (mGw W) mLT1 (J2 W X) X cx_136 := y_ok J2_J mTS2_ok1 mTC2_ok1 mRUp_ok1 (List.forall_mem_cons.mpr ⟨sn_134, List.forall_mem_cons.mpr ⟨sn_135, fun _ h => absurd h List.not_mem_nil⟩⟩) ck_136
def cx_137pi_0 (t : List (Int × Int)) : List (Int × Int) := ui0 :: (0, 5) :: ui31 :: (0, 6) :: (0, 6) :: ui51 :: ui51 :: ui51 :: t
def cx_137pi_1 (t : List (Int × Int)) : List (Int × Int) := ui51 :: ui51 :: ui51 :: ui51 :: ui51 :: t
def cx_137p : zS := ((cx_137pi_0 (cx_137pi_1 [])), [ur445, ur434, ur446, ur533, ur525], [uL513, uL9, uL516], [], [uV2, uV64, uV422, uV11], [uF542, uF543, uF544, uF519, uF520, uF521, uF522, uF433], [uG545])
/-- Rules.lawOf -/
def cx_137 : zCtx := (87, cx_137p, [([ui0, (0, 5), ui31, (1, 6), (0, 6), ui51, ui51, ui51, ui51, ui51, ui51, ui51, ui51, ui526], [ur445, ur434, ur446, ur533, ur525], [uL516, uL513, uL9], [], [uV411], [], [(238, [uL36, uL69, uL81, uL133, uL166, uL173, uL198, uL217, uL65, uL9, uL210])])], [uk541, uk531], 52968, 2, 87)
set_option maxRecDepth 1000000 in
theorem ck_137 : x_ok mLT1 [cx_131, cx_133, cx_136] mTS2 mTC2 mRUp cx_137 [(5, [0]), (8, [1]), (26, [2])] [(29, uN546), (35, uN547)] [] (19, []) 52949 22 = true := by decide +kernel
theorem sn_137 {W : Bool} {X : List Int32} : y_Snd (mGw W) mLT1 (J2 W X) X cx_137 := y_ok J2_J mTS2_ok1 mTC2_ok1 mRUp_ok1 (List.forall_mem_cons.mpr ⟨sn_131, List.forall_mem_cons.mpr ⟨sn_133, List.forall_mem_cons.mpr ⟨sn_136, fun _ h => absurd h List.not_mem_nil⟩⟩⟩) ck_137
def cx_138p : zS := ((cx_137pi_0 (cx_137pi_1 [])), [ur445, ur434, ur446, ur533, ur525], [uL513, uL9, uL516], [], [uV2, uV66, uV422, uV11], [uF542, uF543, uF544, uF519, uF520, uF521, uF522, uF433], [uG545])
/-- Rules.lawOf -/
def cx_138 : zCtx := (87, cx_138p, [([ui0, (0, 5), ui31, (1, 6), (0, 6), ui51, ui51, ui51, ui51, ui51, ui51, ui51, ui51, ui526], [ur445, ur434, ur446, ur533, ur525], [uL516, uL513, uL9], [], [uV411], [], [(238, [uL36, uL69, uL81, uL133, uL166, uL173, uL198, uL217, uL67, uL9, uL210])])], [uk541, uk531], 52968, 2, 87)
set_option maxRecDepth 1000000 in
theorem ck_138 : x_ok mLT1 [cx_131, cx_133, cx_136] mTS2 mTC2 mRUp cx_138 [(5, [0]), (8, [1]), (26, [2])] [(29, uN546), (35, uN547)] [] (19, []) 52949 22 = true := by decide +kernel
theorem sn_138 {W : Bool} {X : List Int32} : y_Snd (mGw W) mLT1 (J2 W X) X cx_138 := y_ok J2_J mTS2_ok1 mTC2_ok1 mRUp_ok1 (List.forall_mem_cons.mpr ⟨sn_131, List.forall_mem_cons.mpr ⟨sn_133, List.forall_mem_cons.mpr ⟨sn_136, fun _ h => absurd h List.not_mem_nil⟩⟩⟩) ck_138
def cx_139p : zS := ((cx_137pi_0 (cx_137pi_1 [])), [ur445, ur434, ur446, ur533, ur525], [uL513, uL9, uL516], [], [uV2, uV387, uV422, uV11], [uF542, uF543, uF544, uF519, uF520, uF521, uF522, uF433], [uG545])
/-- Rules.lawOf -/
def cx_139 : zCtx := (87, cx_139p, [([ui0, (0, 5), ui31, (1, 6), (0, 6), ui51, ui51, ui51, ui51, ui51, ui51, ui51, ui51, ui526], [ur445, ur434, ur446, ur533, ur525], [uL516, uL513, uL9], [], [uV411], [], [(238, [uL36, uL69, uL81, uL133, uL166, uL173, uL198, uL217, uL214, uL9, uL210])])], [uk541, uk531], 52968, 2, 87)
set_option maxRecDepth 1000000 in
theorem ck_139 : x_ok mLT1 [cx_131, cx_133, cx_136] mTS2 mTC2 mRUp cx_139 [(5, [0]), (8, [1]), (26, [2])] [(29, uN546), (35, uN547)] [] (19, []) 52949 22 = true := by decide +kernel
theorem sn_139 {W : Bool} {X : List Int32} : y_Snd (mGw W) mLT1 (J2 W X) X cx_139 := y_ok J2_J mTS2_ok1 mTC2_ok1 mRUp_ok1 (List.forall_mem_cons.mpr ⟨sn_131, List.forall_mem_cons.mpr ⟨sn_133, List.forall_mem_cons.mpr ⟨sn_136, fun _ h => absurd h List.not_mem_nil⟩⟩⟩) ck_139
def cx_140pr_0 (t : List (Nat × Bool)) : List (Nat × Bool) := ur444 :: ur445 :: ur446 :: ur533 :: ur434 :: ur548 :: ur435 :: ur430 :: t
def cx_140pr_1 (t : List (Nat × Bool)) : List (Nat × Bool) := ur549 :: ur550 :: ur551 :: ur525 :: t
def cx_140pf_0 (t : List zFa) : List zFa := uF13 :: uF511 :: uF543 :: uF552 :: uF188 :: uF553 :: uF554 :: uF555 :: t
def cx_140pf_1 (t : List zFa) : List zFa := uF556 :: uF557 :: uF160 :: uF558 :: uF559 :: uF560 :: uF561 :: uF562 :: t
def cx_140pf_2 (t : List zFa) : List zFa := uF563 :: t
def cx_140p : zS := ([ui0, ui51, ui51, ui31, (0, 6), (0, 6), ui51, ui51], (cx_140pr_0 (cx_140pr_1 [])), [], [], [uV2, uV11, uV12], (cx_140pf_0 (cx_140pf_1 (cx_140pf_2 []))), [uG564])
def cx_140q2i_0 (t : List (Int × Int)) : List (Int × Int) := ui0 :: ui51 :: (8, 8) :: ui31 :: (0, 6) :: (0, 6) :: ui51 :: ui51 :: t
def cx_140q2i_1 (t : List (Int × Int)) : List (Int × Int) := ui51 :: t
def cx_140q2 : zS := ((cx_140q2i_0 (cx_140q2i_1 [])), (cx_140pr_0 (cx_140pr_1 [])), [uL9, uL565], [], [uV146], [uF554, uF555, uF556, uF557], [uG564, (260, [uL34, uL65, uL65, uL65, uL65, uL65, uL65, uL65, uL530, uL65, uL133])])
def cx_140q3i_0 (t : List (Int × Int)) : List (Int × Int) := ui0 :: ui51 :: (7, 7) :: ui31 :: (0, 6) :: (0, 6) :: ui51 :: ui51 :: t
def cx_140q3i_1 (t : List (Int × Int)) : List (Int × Int) := ui526 :: t
def cx_140q3 : zS := ((cx_140q3i_0 (cx_140q3i_1 [])), (cx_140pr_0 (cx_140pr_1 [])), [uL9, uL565], [], [uV146], [uF554, uF555, uF556, uF557], [uG564, (260, [uL36, uL23, uL65, uL65, uL65, uL65, uL65, uL65, uL214, uL9, uL133])])
def cx_140q4i_0 (t : List (Int × Int)) : List (Int × Int) := ui0 :: ui51 :: (6, 6) :: ui31 :: (0, 6) :: (0, 6) :: ui51 :: ui51 :: t
def cx_140q4i_1 (t : List (Int × Int)) : List (Int × Int) := ui526 :: t
def cx_140q4 : zS := ((cx_140q4i_0 (cx_140q4i_1 [])), (cx_140pr_0 (cx_140pr_1 [])), [uL9, uL565], [], [uV146], [uF554, uF555, uF556, uF557], [uG564, (260, [uL36, uL23, uL65, uL65, uL65, uL65, uL65, uL65, uL67, uL9, uL133])])
def cx_140q5i_0 (t : List (Int × Int)) : List (Int × Int) := ui0 :: ui51 :: (5, 5) :: ui31 :: (0, 6) :: (0, 6) :: ui51 :: ui51 :: t
def cx_140q5i_1 (t : List (Int × Int)) : List (Int × Int) := ui526 :: t
def cx_140q5 : zS := ((cx_140q5i_0 (cx_140q5i_1 [])), (cx_140pr_0 (cx_140pr_1 [])), [uL9, uL565], [], [uV146], [uF554, uF555, uF556, uF557], [uG564, (260, [uL36, uL23, uL65, uL65, uL65, uL65, uL65, uL65, uL65, uL9, uL133])])
def cx_140q6i_0 (t : List (Int × Int)) : List (Int × Int) := ui0 :: ui51 :: (4, 4) :: ui31 :: (0, 6) :: (0, 6) :: ui51 :: ui51 :: t
def cx_140q6i_1 (t : List (Int × Int)) : List (Int × Int) := ui526 :: t
def cx_140q6 : zS := ((cx_140q6i_0 (cx_140q6i_1 [])), (cx_140pr_0 (cx_140pr_1 [])), [uL9, uL565], [], [uV146], [uF554, uF555, uF556, uF557], [uG564, (260, [uL34, uL65, uL65, uL65, uL65, uL65, uL65, uL65, uL566, uL65, uL133])])
def cx_140q7i_0 (t : List (Int × Int)) : List (Int × Int) := ui0 :: ui51 :: (3, 3) :: ui31 :: (0, 6) :: (0, 6) :: ui51 :: ui51 :: t
def cx_140q7i_1 (t : List (Int × Int)) : List (Int × Int) := ui526 :: t
def cx_140q7 : zS := ((cx_140q7i_0 (cx_140q7i_1 [])), (cx_140pr_0 (cx_140pr_1 [])), [uL9, uL565], [], [uV146], [uF554, uF555, uF556, uF557], [uG564, uG568])
def cx_140q8 : zS := ([ui0, ui51, (2, 2), ui31, (0, 6), (0, 6), ui51, ui51], (cx_140pr_0 (cx_140pr_1 [])), [uL9, uL565], [], [uV569], [uF554, uF555, uF556, uF557], [uG564, (260, [uL255, uL65, uL65, uL65, uL65, uL65, uL65, uL65, uL9, uL65, uL101])])
def cx_140q9i_0 (t : List (Int × Int)) : List (Int × Int) := ui0 :: ui51 :: (1, 1) :: ui31 :: (0, 6) :: (0, 6) :: ui51 :: ui51 :: t
def cx_140q9i_1 (t : List (Int × Int)) : List (Int × Int) := ui51 :: t
def cx_140q9 : zS := ((cx_140q9i_0 (cx_140q9i_1 [])), (cx_140pr_0 (cx_140pr_1 [])), [uL9, uL565], [], [uV146], [uF554, uF555, uF556, uF557], [uG564, (262, [uL9, uL133])])
def cx_140q10i_0 (t : List (Int × Int)) : List (Int × Int) := ui0 :: ui51 :: (0, 0) :: ui31 :: (0, 6) :: (0, 6) :: ui51 :: ui51 :: t
def cx_140q10i_1 (t : List (Int × Int)) : List (Int × Int) := ui526 :: t
def cx_140q10 : zS := ((cx_140q10i_0 (cx_140q10i_1 [])), (cx_140pr_0 (cx_140pr_1 [])), [uL9, uL565], [], [uV146], [uF554, uF555, uF556, uF557], [uG564, (260, [uL34, uL65, uL65, uL65, uL65, uL65, uL65, uL65, uL9, uL65, uL133])])
def cx_140q13i_0 (t : List (Int × Int)) : List (Int × Int) := ui0 :: ui51 :: (2, 2) :: ui31 :: (0, 6) :: (0, 6) :: ui51 :: ui51 :: t
def cx_140q13i_1 (t : List (Int × Int)) : List (Int × Int) := (0, 5) :: t
def cx_140q13 : zS := ((cx_140q13i_0 (cx_140q13i_1 [])), (cx_140pr_0 (cx_140pr_1 [])), [uL9, uL565], [], [uV146], [uF554, uF555, uF556, uF557], [uG564, (260, [uL255, uL65, uL65, uL65, uL65, uL65, uL65, uL65, uL9, uL65, uL133])])
/-- HairRope.house -/
def cx_140 : zCtx := (142, cx_140p, [([ui0, ui51, ui51, ui31, (0, 6), (0, 6), ui51, ui51], [ur444, ur445, ur446, ur533, ur434, ur548, ur435, ur430, ur549, ur550, ur551, ur525], [uL570], [], [uV63], [uF554, uF555, uF556, uF557], [uG564]), ([ui0, ui51, ui51, ui31, (0, 6), (0, 6), ui51, ui51], [ur444, ur445, ur446, ur533, ur434, ur548, ur435, ur430, ur549, ur550, ur551, ur525], [uL571], [], [uV63], [uF554, uF555, uF556, uF557], [uG564]), cx_140q2, cx_140q3, cx_140q4, cx_140q5, cx_140q6, cx_140q7, cx_140q8, cx_140q9, cx_140q10, ([ui0, ui51, ui572, ui31, (0, 6), (0, 6), ui51, ui51], [ur444, ur445, ur446, ur533, ur434, ur548, ur435, ur430, ur549, ur550, ur551, ur525], [uL9, uL565], [], [uV63], [uF554, uF555, uF556, uF557], [uG564]), ([ui0, ui51, ui265, ui31, (0, 6), (0, 6), ui51, ui51], [ur444, ur445, ur446, ur533, ur434, ur548, ur435, ur430, ur549, ur550, ur551, ur525], [uL9, uL565], [], [uV63], [uF554, uF555, uF556, uF557], [uG564]), cx_140q13], [uk541, uk531], 52987, 3, 110)
set_option maxRecDepth 1000000 in
theorem ck_140 : x_ok mLT1 [cx_130, cx_131, cx_137, cx_138, cx_139] mTS2 mTC2 mRUp cx_140 [(2, [0]), (15, [1]), (152, [2]), (166, [3]), (180, [4])] [(81, [1000720, 1000728]), (94, [1000752]), (105, [1000753]), (123, [1000754, 1000755, 1000728]), (141, [1000756, 1000757, 1000728]), (146, [1000733]), (155, [1000728]), (160, [1000733]), (169, [1000728]), (174, [1000733]), (183, [1000728]), (193, [1000758, 1000728])] [] (19, []) 52968 22 = true := by decide +kernel
theorem sn_140 {W : Bool} {X : List Int32} : y_Snd (mGw W) mLT1 (J2 W X) X cx_140 := y_ok J2_J mTS2_ok1 mTC2_ok1 mRUp_ok1 (List.forall_mem_cons.mpr ⟨sn_130, List.forall_mem_cons.mpr ⟨sn_131, List.forall_mem_cons.mpr ⟨sn_137, List.forall_mem_cons.mpr ⟨sn_138, List.forall_mem_cons.mpr ⟨sn_139, fun _ h => absurd h List.not_mem_nil⟩⟩⟩⟩⟩) ck_140
/-- HairRope.areTwo -/
def cx_141 : zCtx := (145, ([ui0, ui51, ui51, (0, 6)], [ur444, ur445, ur446], [], [], [uV2, uV11, uV12], [uF13, uF511, uF154], []), [([ui0, ui265, ui51, (0, 6)], [ur444, ur445, ur446], [], [], [uV64], [], []), ([ui0, ui512, ui51, (0, 6)], [ur444, ur445, ur446], [uL573], [], [uV64], [], []), ([ui0, (0, 5), ui265, (1, 6)], [ur444, ur445, ur446], [uL516], [], [uV64], [], []), ([ui0, (0, 5), ui507, (1, 6)], [ur444, ur445, ur446], [uL475, uL516], [], [uV64], [], []), ([ui0, (0, 4), (1, 5), (1, 6)], [ur444, ur445, ur446], [uL59, uL102, uL516], [], [uV66], [], []), ([ui0, (0, 5), (0, 5), (1, 6)], [ur444, ur445, ur446], [uL509, uL62, uL102, uL516], [], [uV64], [], []), ([ui0, (1, 5), (0, 4), (1, 6)], [ur444, ur445, ur446], [uL508, uL102, uL516], [], [uV66], [], [])], [], 28, 1, 21)
set_option maxRecDepth 1000000 in
theorem ck_141 : x_ok mLT1 [cx_130] mTS2 mTC2 mRUp cx_141 [(2, [0]), (10, [0])] [(16, [1000461])] [] (14, []) 14 17 = true := by decide +kernel
theorem sn_141 {W : Bool} {X : List Int32} : y_Snd (mGw W) mLT1 (J2 W X) X cx_141 := y_ok J2_J mTS2_ok1 mTC2_ok1 mRUp_ok1 (List.forall_mem_cons.mpr ⟨sn_130, fun _ h => absurd h List.not_mem_nil⟩) ck_141
/-- Text.likeOf -/
def cx_142 : zCtx := (135, ([ui0, (0, 5), (0, 5)], [ur446, ur574], [], [], [uV2, uV11, uV12], [uF44], []), [([ui0, (0, 5), (0, 5), ui51], [ur446, ur574], [], [], [uV60], [], [uG576])], [], 24, 1, 20)
set_option maxRecDepth 1000000 in
theorem ck_142 : x_ok mLT1 [cx_51] mTS2 mTC2 mRUp cx_142 [(1, [0]), (8, [0])] [(25, [1000464])] [] (16, []) 8 19 = true := by decide +kernel
theorem sn_142 {W : Bool} {X : List Int32} : y_Snd (mGw W) mLT1 (J2 W X) X cx_142 := y_ok J2_J mTS2_ok1 mTC2_ok1 mRUp_ok1 (List.forall_mem_cons.mpr ⟨sn1_51, fun _ h => absurd h List.not_mem_nil⟩) ck_142
/-- HairRope.likes -/
def cx_143 : zCtx := (144, ([ui0, ui51, ui51, (0, 6)], [ur444, ur445, ur446, ur574], [], [], [uV2, uV11, uV12], [uF13, uF511, uF154, uF158], []), [([ui0, ui51, ui51, (0, 6), ui51], [ur444, ur445, ur446, ur574], [uL516, uL102, uL508, uL9, uL69], [], [uV99], [], [uG577]), ([ui0, (0, 5), (0, 5), (1, 6)], [ur444, ur445, ur446, ur574], [uL516, uL102, uL62, uL509], [], [uV63], [], []), ([ui0, ui51, ui51, (0, 6), ui51], [ur444, ur445, ur446, ur574], [uL516, uL102, uL59, uL9, uL69], [], [uV99], [], [uG577]), ([ui0, (0, 5), ui507, (1, 6)], [ur444, ur445, ur446, ur574], [uL516, uL475], [], [uV63], [], []), ([ui0, (0, 5), ui265, (1, 6)], [ur444, ur445, ur446, ur574], [uL516], [], [uV63], [], []), ([ui0, ui512, ui51, (0, 6)], [ur444, ur445, ur446, ur574], [uL573], [], [uV63], [], []), ([ui0, ui265, ui51, (0, 6)], [ur444, ur445, ur446, ur574], [], [], [uV63], [], [])], [], 41, 2, 43)
set_option maxRecDepth 1000000 in
theorem ck_143 : x_ok mLT1 [cx_141, cx_142] mTS2 mTC2 mRUp cx_143 [(3, [0]), (18, [1])] [] [] (13, []) 28 16 = true := by decide +kernel
theorem sn_143 {W : Bool} {X : List Int32} : y_Snd (mGw W) mLT1 (J2 W X) X cx_143 := y_ok J2_J mTS2_ok1 mTC2_ok1 mRUp_ok1 (List.forall_mem_cons.mpr ⟨sn_141, List.forall_mem_cons.mpr ⟨sn_142, fun _ h => absurd h List.not_mem_nil⟩⟩) ck_143
def cx_144pi_0 (t : List (Int × Int)) : List (Int × Int) := ui0 :: (0, 5) :: (0, 5) :: ui51 :: ui31 :: (0, 6) :: (0, 6) :: ui51 :: t
def cx_144pi_1 (t : List (Int × Int)) : List (Int × Int) := ui51 :: ui51 :: ui51 :: ui51 :: ui51 :: ui51 :: ui51 :: t
def cx_144p : zS := ((cx_144pi_0 (cx_144pi_1 [])), [ur445, ur434, ur446, ur533, ur525], [uL578, uL9, uL579, uL69, uL580], [], [uV2, uV422, uV11, uV12, uV60], [uF542, uF543, uF581, uF582, uF583, uF584, uF585, uF433], [(235, [uL106, uL80, uL81, uL133, uL100, uL166, uL173, uL198, uL217, uL210, uL211]), uG576])
def cx_144q0i_0 (t : List (Int × Int)) : List (Int × Int) := ui0 :: (0, 5) :: (0, 5) :: ui51 :: ui31 :: (1, 6) :: (0, 6) :: ui51 :: t
def cx_144q0i_1 (t : List (Int × Int)) : List (Int × Int) := ui51 :: ui51 :: ui51 :: ui51 :: ui51 :: ui51 :: ui51 :: ui586 :: t
def cx_144q0 : zS := ((cx_144q0i_0 (cx_144q0i_1 [])), [ur445, ur434, ur446, ur533, ur525], [uL580, uL579, uL578, uL9, uL69], [], [uV587], [], [(238, [uL249, uL100, uL166, uL173, uL198, uL217, uL210, uL211, uL9, uL69, uL212])])
/-- Rules.joinOf -/
def cx_144 : zCtx := (90, cx_144p, [cx_144q0], [uk541, uk531], 52984, 2, 87)
set_option maxRecDepth 1000000 in
theorem ck_144 : x_ok mLT1 [cx_131, cx_133, cx_132, cx_136] mTS2 mTC2 mRUp cx_144 [(5, [0]), (8, [1]), (30, [0]), (33, [2]), (53, [3])] [(56, [1000810, 1000845, 1000846]), (62, uN588)] [] (35, []) 52949 38 = true := by decide +kernel
theorem sn_144 {W : Bool} {X : List Int32} : y_Snd (mGw W) mLT1 (J2 W X) X cx_144 := y_ok J2_J mTS2_ok1 mTC2_ok1 mRUp_ok1 (List.forall_mem_cons.mpr ⟨sn_131, List.forall_mem_cons.mpr ⟨sn_133, List.forall_mem_cons.mpr ⟨sn_132, List.forall_mem_cons.mpr ⟨sn_136, fun _ h => absurd h List.not_mem_nil⟩⟩⟩⟩) ck_144
def cx_145pr_0 (t : List (Nat × Bool)) : List (Nat × Bool) := ur444 :: ur445 :: ur446 :: ur533 :: ur434 :: ur574 :: ur548 :: ur435 :: t
def cx_145pr_1 (t : List (Nat × Bool)) : List (Nat × Bool) := ur430 :: ur549 :: ur550 :: ur551 :: ur525 :: t
def cx_145pf_0 (t : List zFa) : List zFa := uF13 :: uF511 :: uF543 :: uF552 :: uF188 :: uF553 :: uF554 :: uF555 :: t
def cx_145pf_1 (t : List zFa) : List zFa := uF556 :: uF557 :: uF589 :: uF413 :: uF590 :: uF591 :: uF592 :: uF593 :: t
def cx_145pf_2 (t : List zFa) : List zFa := uF594 :: uF462 :: t
def cx_145p : zS := ([ui0, ui51, ui51, ui31, (0, 6), (0, 6), ui51, ui51], (cx_145pr_0 (cx_145pr_1 [])), [], [], [uV2, uV11, uV12], (cx_145pf_0 (cx_145pf_1 (cx_145pf_2 []))), [uG564])
def cx_145q0i_0 (t : List (Int × Int)) : List (Int × Int) := ui0 :: ui51 :: ui51 :: ui31 :: (0, 6) :: (0, 6) :: ui51 :: ui51 :: t
def cx_145q0i_1 (t : List (Int × Int)) : List (Int × Int) := ui586 :: t
def cx_145q0 : zS := ((cx_145q0i_0 (cx_145q0i_1 [])), (cx_145pr_0 (cx_145pr_1 [])), [uL9, uL565, uL69, uL518, uL508], [], [uV146], [uF554, uF555, uF556, uF557], [uG564, uG595])
def cx_145q1 : zS := ([ui0, ui51, ui51, ui31, (0, 6), (0, 6), ui51, ui51], (cx_145pr_0 (cx_145pr_1 [])), [uL9, uL565, uL69, uL518, uL62, uL509], [], [uV63], [uF554, uF555, uF556, uF557], [uG564])
def cx_145q2 : zS := ((cx_145q0i_0 (cx_145q0i_1 [])), (cx_145pr_0 (cx_145pr_1 [])), [uL9, uL565, uL69, uL518, uL59], [], [uV146], [uF554, uF555, uF556, uF557], [uG564, uG595])
/-- HairRope.joins -/
def cx_145 : zCtx := (146, cx_145p, [cx_145q0, cx_145q1, cx_145q2, ([ui0, ui51, ui51, ui31, (0, 6), (0, 6), ui51, ui51], [ur444, ur445, ur446, ur533, ur434, ur574, ur548, ur435, ur430, ur549, ur550, ur551, ur525], [uL596], [], [uV63], [uF554, uF555, uF556, uF557], [uG564]), ([ui0, ui51, ui51, ui31, (0, 6), (0, 6), ui51, ui51], [ur444, ur445, ur446, ur533, ur434, ur574, ur548, ur435, ur430, ur549, ur550, ur551, ur525], [uL597], [], [uV63], [uF554, uF555, uF556, uF557], [uG564]), ([ui0, ui51, ui51, ui31, (0, 6), (0, 6), ui51, ui51], [ur444, ur445, ur446, ur533, ur434, ur574, ur548, ur435, ur430, ur549, ur550, ur551, ur525], [uL571], [], [uV63], [uF554, uF555, uF556, uF557], [uG564]), ([ui0, ui51, ui51, ui31, (0, 6), (0, 6), ui51, ui51], [ur444, ur445, ur446, ur533, ur434, ur574, ur548, ur435, ur430, ur549, ur550, ur551, ur525], [uL570], [], [uV63], [uF554, uF555, uF556, uF557], [uG564])], [uk541, uk531], 53004, 3, 111)
set_option maxRecDepth 1000000 in
theorem ck_145 : x_ok mLT1 [cx_141, cx_142, cx_144] mTS2 mTC2 mRUp cx_145 [(3, [0]), (28, [1]), (31, [2])] [(9, [1000733]), (34, [1000728])] [] (20, []) 52984 23 = true := by decide +kernel
theorem sn_145 {W : Bool} {X : List Int32} : y_Snd (mGw W) mLT1 (J2 W X) X cx_145 := y_ok J2_J mTS2_ok1 mTC2_ok1 mRUp_ok1 (List.forall_mem_cons.mpr ⟨sn_141, List.forall_mem_cons.mpr ⟨sn_142, List.forall_mem_cons.mpr ⟨sn_144, fun _ h => absurd h List.not_mem_nil⟩⟩⟩) ck_145
/-- HairRope.isPlace -/
def cx_146 : zCtx := (148, ([ui0, ui51, (0, 6)], [ur444, ur434], [], [], [uV2, uV11], [uF598, uF599], []), [([ui0, (0, 5), (1, 6)], [ur444, ur434], [uL59], [], [uV66], [], []), ([ui0, ui512, (0, 6)], [ur444, ur434], [uL62], [], [uV64], [], []), ([ui0, ui265, (0, 6)], [ur444, ur434], [], [], [uV64], [], [])], [], 13, 0, 0)
set_option maxRecDepth 1000000 in
theorem ck_146 : x_ok mLT1 [] mTS2 mTC2 mRUp cx_146 [] [] [] (13, []) 0 16 = true := by decide +kernel
theorem sn_146 {W : Bool} {X : List Int32} : y_Snd (mGw W) mLT1 (J2 W X) X cx_146 := y_ok J2_J mTS2_ok1 mTC2_ok1 mRUp_ok1 (fun _ h => absurd h List.not_mem_nil) ck_146
def cx_147pf_0 (t : List zFa) : List zFa := uF13 :: uF511 :: uF543 :: uF544 :: uF154 :: uF553 :: uF600 :: uF601 :: t
def cx_147pf_1 (t : List zFa) : List zFa := uF602 :: uF603 :: (4, (false, 2, 0, []), 2, 5, 0, []) :: t
def cx_147p : zS := ([ui0, ui51, ui31, (0, 6), (0, 6), ui51, ui51], [ur444, ur445, ur446, ur533, ur434, ur549], [], [], [uV2, uV11], (cx_147pf_0 (cx_147pf_1 [])), [uG604])
def cx_147q2 : zS := ([ui0, ui51, ui31, (0, 6), (0, 6), ui51, ui51, (0, 5)], [ur444, ur445, ur446, ur533, ur434, ur549], [uL9, uL565], [], [uV144], [uF600, uF601, uF602, uF603], [uG604, uG605])
/-- HairRope.at -/
def cx_147 : zCtx := (147, cx_147p, [([ui0, ui51, ui31, (0, 6), (0, 6), ui51, ui51], [ur444, ur445, ur446, ur533, ur434, ur549], [uL570], [], [uV63], [uF600, uF601, uF602, uF603], [uG604]), ([ui0, ui51, ui31, (0, 6), (0, 6), ui51, ui51], [ur444, ur445, ur446, ur533, ur434, ur549], [uL571], [], [uV63], [uF600, uF601, uF602, uF603], [uG604]), cx_147q2], [], 24, 1, 21)
set_option maxRecDepth 1000000 in
theorem ck_147 : x_ok mLT1 [cx_146] mTS2 mTC2 mRUp cx_147 [(2, [0])] [(16, [1000730])] [] (11, []) 13 14 = true := by decide +kernel
theorem sn_147 {W : Bool} {X : List Int32} : y_Snd (mGw W) mLT1 (J2 W X) X cx_147 := y_ok J2_J mTS2_ok1 mTC2_ok1 mRUp_ok1 (List.forall_mem_cons.mpr ⟨sn_146, fun _ h => absurd h List.not_mem_nil⟩) ck_147
/-- History.pastAt -/
def cx_148 : zCtx := (41, ([ui0, ui440, ui440], [ur442], [], [], [uV2, uV11], [uF152], []), [([ui0, ui440, ui440], [ur442, ur606], [], [], [uV422], [], [uG610]), ([ui0, ui440, ui440], [ur442, ur611], [], [], [uV422], [], [uG613]), ([ui0, ui440, ui440], [ur442, ur614], [], [], [uV422], [], [uG616]), ([ui0, ui440, ui440], [ur442, ur617], [], [], [uV422], [], [uG618]), ([ui0, ui440, ui440], [ur442, ur619], [], [], [uV422], [], [uG621]), ([ui0, ui440, ui440], [ur442, ur622], [], [], [uV422], [], [uG624]), ([ui0, ui440, ui440], [ur442, ur625], [], [], [uV422], [], [uG627]), ([ui0, ui440, ui440], [ur442, ur628], [], [], [uV422], [], [uG630]), ([ui0, ui440, ui440], [ur442, ur631], [], [], [uV422], [], [uG632]), ([ui0, ui440, ui440], [ur442, ur633], [], [], [uV422], [], [uG635]), ([ui0, ui440, ui440], [ur442, ur636], [], [], [uV422], [], [uG638]), ([ui0, ui440, ui440], [ur442, ur639], [], [], [uV422], [], [uG641]), ([ui0, ui440, ui440], [ur442, ur642], [], [], [uV422], [], [uG644]), ([ui0, ui440, ui440], [ur442, ur645], [], [], [uV422], [], [uG647]), ([ui0, ui440, ui440], [ur442, ur648], [], [], [uV422], [], [uG650]), ([ui0, ui440, ui440], [ur442, ur651], [], [], [uV422], [], [uG652]), ([ui0, ui440, ui440], [ur442, ur653], [], [], [uV422], [], [uG655]), ([ui0, ui440, ui440], [ur442, ur656], [], [], [uV422], [], [uG658]), ([ui0, ui440, ui440], [ur442, ur659], [], [], [uV422], [], [uG661]), ([ui0, ui440, ui440], [ur442, ur662], [], [], [uV422], [], [uG664]), ([ui0, ui440, ui440], [ur442, ur665], [], [], [uV422], [], [uG667]), ([ui0, ui440, ui440], [ur442, ur668], [], [], [uV422], [], [uG670]), ([ui0, ui440, ui440], [ur442, ur671], [], [], [uV422], [], [uG673]), ([ui0, ui440, ui440], [ur442, ur674], [], [], [uV422], [], [uG675]), ([ui0, ui440, ui440], [ur442, ur676], [], [], [uV422], [], [uG678]), ([ui0, ui440, ui440], [ur442, ur679], [], [], [uV422], [], [uG681]), ([ui0, ui440, ui440], [ur442, ur682], [], [], [uV422], [], [uG683]), ([ui0, ui440, ui440], [ur442, ur684], [], [], [uV422], [], [uG685]), ([ui0, ui440, ui440], [ur442, ur686], [], [], [uV422], [], [uG687]), ([ui0, ui440, ui440], [ur442, ur688], [], [], [uV422], [], [uG689]), ([ui0, ui440, ui440], [ur442, ur690], [], [], [uV422], [], [uG691]), ([ui0, ui440, ui440], [ur442, ur692], [], [], [uV422], [], [uG693]), ([ui0, ui440, ui440], [ur442, ur694], [], [], [uV422], [], [uG695]), ([ui0, ui440, ui440], [ur442, ur696], [], [], [uV422], [], [uG697]), ([ui0, ui440, ui440], [ur442, ur698], [], [], [uV422], [], [uG699]), ([ui0, ui440, ui440], [ur442, ur700], [], [], [uV422], [], [uG701]), ([ui0, ui440, ui440], [ur442, ur702], [], [], [uV422], [], [uG703]), ([ui0, ui440, ui440], [ur442, ur704], [], [], [uV422], [], [uG705]), ([ui0, ui440, ui440], [ur442, ur706], [], [], [uV422], [], [uG707]), ([ui0, ui440, ui440], [ur442, ur708], [], [], [uV422], [], [uG709])], [], 18, 0, 0)
set_option maxRecDepth 1000000 in
theorem ck_148 : x_ok mLT1 [] mTS2 mTC2 mRUp cx_148 [] [(8, [1000679]), (9, [1000680]), (10, [1000681])] [] (18, []) 0 21 = true := by decide +kernel
theorem sn_148 {W : Bool} {X : List Int32} : y_Snd (mGw W) mLT1 (J2 W X) X cx_148 := y_ok J2_J mTS2_ok1 mTC2_ok1 mRUp_ok1 (fun _ h => absurd h List.not_mem_nil) ck_148
def cx_149pi_0 (t : List (Int × Int)) : List (Int × Int) := ui0 :: (0, 6) :: (0, 6) :: ui51 :: ui51 :: (0, 6) :: (0, 6) :: ui51 :: t
def cx_149pi_1 (t : List (Int × Int)) : List (Int × Int) := ui51 :: ui51 :: ui51 :: ui51 :: ui51 :: ui51 :: ui51 :: ui51 :: t
def cx_149pi_2 (t : List (Int × Int)) : List (Int × Int) := ui51 :: ui51 :: ui51 :: ui51 :: ui51 :: ui51 :: ui51 :: ui51 :: t
def cx_149pi_3 (t : List (Int × Int)) : List (Int × Int) := ui51 :: ui51 :: ui51 :: ui51 :: ui51 :: ui51 :: ui51 :: ui51 :: t
def cx_149pi_4 (t : List (Int × Int)) : List (Int × Int) := ui51 :: ui51 :: ui51 :: ui51 :: ui51 :: ui51 :: ui51 :: t
def cx_149pf_0 (t : List zFa) : List zFa := uF38 :: uF39 :: uF40 :: uF41 :: uF582 :: uF583 :: uF584 :: uF585 :: t
def cx_149pf_1 (t : List zFa) : List zFa := uF496 :: (2, (true, 0, 0, []), 0, 0, 0, [(9, 1)]) :: (2, (true, 0, 1, []), 0, 0, 0, [(10, 1)]) :: (2, (true, 0, 2, []), 0, 0, 0, [(11, 1)]) :: (2, (true, 0, 3, []), 0, 0, 0, [(12, 1)]) :: (2, (true, 0, 4, []), 0, 0, 0, [(13, 1)]) :: (2, (true, 0, 5, []), 0, 0, 0, [(14, 1)]) :: (1, (false, 1, 0, []), 2, 3, 0, []) :: t
def cx_149pf_2 (t : List zFa) : List zFa := (3, (true, 0, 0, []), 0, 0, 0, [(15, 1)]) :: (3, (true, 0, 1, []), 0, 0, 0, [(16, 1)]) :: (3, (true, 0, 2, []), 0, 0, 0, [(17, 1)]) :: (3, (true, 0, 3, []), 0, 0, 0, [(18, 1)]) :: (3, (true, 0, 4, []), 0, 0, 0, [(19, 1)]) :: (3, (true, 0, 5, []), 0, 0, 0, [(20, 1)]) :: uF710 :: (4, (true, 0, 0, []), 0, 0, 0, [(21, 1)]) :: t
def cx_149pf_3 (t : List zFa) : List zFa := (4, (true, 0, 1, []), 0, 0, 0, [(22, 1)]) :: (4, (true, 0, 2, []), 0, 0, 0, [(23, 1)]) :: (4, (true, 0, 3, []), 0, 0, 0, [(24, 1)]) :: (4, (true, 0, 4, []), 0, 0, 0, [(25, 1)]) :: (4, (true, 0, 5, []), 0, 0, 0, [(26, 1)]) :: uF711 :: (5, (true, 0, 0, []), 0, 0, 0, [(27, 1)]) :: (5, (true, 0, 1, []), 0, 0, 0, [(28, 1)]) :: t
def cx_149pf_4 (t : List zFa) : List zFa := (5, (true, 0, 2, []), 0, 0, 0, [(29, 1)]) :: (5, (true, 0, 3, []), 0, 0, 0, [(30, 1)]) :: (5, (true, 0, 4, []), 0, 0, 0, [(31, 1)]) :: (5, (true, 0, 5, []), 0, 0, 0, [(32, 1)]) :: uF312 :: (6, (true, 0, 0, []), 0, 0, 0, [(33, 1)]) :: (6, (true, 0, 1, []), 0, 0, 0, [(34, 1)]) :: (6, (true, 0, 2, []), 0, 0, 0, [(35, 1)]) :: t
def cx_149pf_5 (t : List zFa) : List zFa := (6, (true, 0, 3, []), 0, 0, 0, [(36, 1)]) :: (6, (true, 0, 4, []), 0, 0, 0, [(37, 1)]) :: (6, (true, 0, 5, []), 0, 0, 0, [(38, 1)]) :: t
def cx_149p : zS := ((cx_149pi_0 (cx_149pi_1 (cx_149pi_2 (cx_149pi_3 (cx_149pi_4 []))))), [ur708, ur434, ur435, ur430, ur549, ur550, ur551], [], [], [uV2, uV422], (cx_149pf_0 (cx_149pf_1 (cx_149pf_2 (cx_149pf_3 (cx_149pf_4 (cx_149pf_5 [])))))), [])
def cx_149q0 : zS := ((cx_149pi_0 (cx_149pi_1 (cx_149pi_2 (cx_149pi_3 (cx_149pi_4 []))))), [ur708, ur434, ur435, ur430, ur549, ur550, ur551], [], [], [], [uF128, uF130, uF131, uF712], [uG713])
/-- State.copyFrom -/
def cx_149 : zCtx := (102, cx_149p, [cx_149q0], kc_8, 57, 1, 64)
set_option maxRecDepth 1000000 in
theorem ck_149 : x_ok mLT1 [] mTS2 mTC2 mRUp cx_149 [] [(107, [1000858])] [] (57, []) 0 60 = true := by decide +kernel
theorem sn_149 {W : Bool} {X : List Int32} : y_Snd (mGw W) mLT1 (J2 W X) X cx_149 := y_ok J2_J mTS2_ok1 mTC2_ok1 mRUp_ok1 (fun _ h => absurd h List.not_mem_nil) ck_149
end
