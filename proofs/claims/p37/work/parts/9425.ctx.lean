noncomputable section
/-! ===== readings, by program, checked by the kernel ===== -/
def cx_537pi_0 (t : List (Int × Int)) : List (Int × Int) := ui0 :: ui51 :: (0, 1) :: ui51 :: (0, 1) :: ui441 :: (0, 6) :: (0, 6) :: t
def cx_537pi_1 (t : List (Int × Int)) : List (Int × Int) := ui51 :: ui51 :: t
def cx_537pg_0 (t : List zTg) : List zTg := uG2094 :: uG1873 :: uG2095 :: uG2096 :: uG1249 :: (260, [uL268, uL65, uL65, uL65, uL65, uL65, uL65, uL65, uL9, uL80, uL65]) :: t
def cx_537p : zS := ((cx_537pi_0 (cx_537pi_1 [])), [ur1299, ur1858, ur1347, ur1462, ur1463], [uL2083], [], [uV2, uV11], [uF1995, uF2097, uF2098, uF2099, uF1862, uF2100, uF2101, uF2102], (cx_537pg_0 []))
/-- M.splice -/
def cx_537 : zCtx := (243, cx_537p, [([ui0, ui51, (0, 1), ui51, (0, 1), ui441, (0, 6), (0, 6), ui51, ui51], [ur1299, ur1858, ur1347, ur1462, ur1463], [], [], [uV63], [], [uG1867, uG1868, uG1249])], [uk1869, uk1870, uk1871], 462, 2, 43)
set_option maxRecDepth 1000000 in
theorem ck_537 : x_ok mLT1 [cx_536, cx_498, cx_507] mTS2 mTC2 mRUp cx_537 [(1, [0]), (6, [1]), (14, [2])] [(4, uN2103), (29, uN2104), (31, [20, 85, 1000908, 1000909, 1000910, 1000827, 1000844, 1000911])] [] (17, []) 445 20 = true := by decide +kernel
theorem sn_537 {W : Bool} {X : List Int32} : y_Snd (mGw W) mLT1 (J2 W X) X cx_537 := y_ok J2_J mTS2_ok1 mTC2_ok1 mRUp_ok1 (List.forall_mem_cons.mpr ⟨sn_536, List.forall_mem_cons.mpr ⟨sn_498, List.forall_mem_cons.mpr ⟨sn_507, fun _ h => absurd h List.not_mem_nil⟩⟩⟩) ck_537
def cx_538pi_0 (t : List (Int × Int)) : List (Int × Int) := ui0 :: ui440 :: (0, 6) :: (0, 6) :: ui51 :: ui51 :: ui51 :: ui51 :: t
def cx_538pi_1 (t : List (Int × Int)) : List (Int × Int) := ui51 :: ui51 :: ui51 :: ui51 :: ui51 :: ui440 :: t
def cx_538pg_0 (t : List zTg) : List zTg := uG2094 :: uG1873 :: uG1867 :: uG1116 :: uG2105 :: (244, [uL69, uL210, uL9, uL65, (0, [(1, 33)])]) :: t
def cx_538p : zS := ((cx_538pi_0 (cx_538pi_1 [])), [ur1299, ur1878, ur1858, ur2106], [(39, [(1, (-1))])], [], [uV2], [uF2107, uF2108, uF2024, uF2109], (cx_538pg_0 []))
def cx_538q0 : zS := ((cx_538pi_0 (cx_538pi_1 [])), [ur1299, ur1878, ur1858, ur2106], [], [], [], [(0, (false, 53, 0, []), 0, 0, 1, [(1, 1)])], [uG1873, uG1874, uG2094, (12, [uL9]), uG792, (242, [uL69, uL210, uL111, uL65]), uG1872])
/-- M.records -/
def cx_538 : zCtx := (244, cx_538p, [cx_538q0], [uk2110, uk1875, uk2111], 1047, 1, 21)
def cq_538 : List zCtx := [cx_493]
def cs_538 : List (Nat × List Nat) := [(94, [0])]
def hs_538 : List (Nat × List Nat) := [(49, [401]), (83, [146, 1000703, 1000704]), (97, [1000705])]
def ns_538 : List zN := []
set_option maxRecDepth 1000000 in
theorem ca_538 : x_okA mLT1 cq_538 mTS2 mTC2 mRUp cx_538 cs_538 hs_538 ns_538 (612, []) 435 615 = true := by decide +kernel
set_option maxRecDepth 1000000 in
theorem cc_538 : x_okC mLT1 cq_538 mTS2 mTC2 mRUp cx_538 cs_538 hs_538 ns_538 (612, []) 435 615 = true := by decide +kernel
theorem ck_538 : x_ok mLT1 cq_538 mTS2 mTC2 mRUp cx_538 cs_538 hs_538 ns_538 (612, []) 435 615 = true := x_ok_of ca_538 (fun _ h => absurd h List.not_mem_nil) cc_538
theorem sn_538 {W : Bool} {X : List Int32} : y_Snd (mGw W) mLT1 (J2 W X) X cx_538 := y_ok J2_J mTS2_ok1 mTC2_ok1 mRUp_ok1 (List.forall_mem_cons.mpr ⟨sn_493, fun _ h => absurd h List.not_mem_nil⟩) ck_538
/-- M.ropeLong -/
def cx_539 : zCtx := (245, ([ui0, ui199, ui199, ui199, ui199, ui199, ui199], [ur1299, ur1858], [], [], [uV2], [uF1862, uF2112, uF2113, uF2114, uF2115, uF2116, uF2117], []), [([ui0, ui199, ui199, ui199, ui199, ui199, ui199], [ur1299, ur1858], [], [], [uV2118], [], [])], [], 30, 0, 0)
set_option maxRecDepth 1000000 in
theorem ck_539 : x_ok mLT1 [] mTS2 mTC2 mRUp cx_539 [] [] [] (30, []) 0 33 = true := by decide +kernel
theorem sn_539 {W : Bool} {X : List Int32} : y_Snd (mGw W) mLT1 (J2 W X) X cx_539 := y_ok J2_J mTS2_ok1 mTC2_ok1 mRUp_ok1 (fun _ h => absurd h List.not_mem_nil) ck_539
def cx_540pi_0 (t : List (Int × Int)) : List (Int × Int) := ui0 :: ui51 :: (0, 1) :: ui51 :: (0, 1) :: ui440 :: (0, 6) :: ui51 :: t
def cx_540pi_1 (t : List (Int × Int)) : List (Int × Int) := ui51 :: (0, 6) :: ui586 :: ui440 :: t
def cx_540pf_0 (t : List zFa) : List zFa := uF1995 :: uF2097 :: uF2098 :: uF2099 :: uF1862 :: uF2100 :: uF2101 :: uF2102 :: t
def cx_540pf_1 (t : List zFa) : List zFa := (0, (false, 54, 0, []), 2, 5, 0, []) :: (0, (false, 47, 0, []), 2, 6, 0, []) :: t
def cx_540pg_0 (t : List zTg) : List zTg := uG2094 :: uG1873 :: uG2095 :: uG2096 :: uG2119 :: uG2120 :: uG2121 :: uG2122 :: t
def cx_540pg_1 (t : List zTg) : List zTg := (244, [uL80, uL198, uL106, uL65, uL2123]) :: t
def cx_540p : zS := ((cx_540pi_0 (cx_540pi_1 [])), [ur1299, ur1858, ur1347, ur1462, ur1463, ur2106, ur1878], [uL2083, uL239, uL2124], [], [uV2, uV11], (cx_540pf_0 (cx_540pf_1 [])), (cx_540pg_0 (cx_540pg_1 [])))
/-- M.splice -/
def cx_540 : zCtx := (243, cx_540p, [([ui0, ui51, (0, 1), ui51, (0, 1), ui440, (0, 6), ui51, ui51, (0, 6), ui586, ui440], [ur1299, ur1858, ur1347, ur1462, ur1463, ur2106, ur1878], [], [], [uV826], [uF2125], [uG1873, uG1874, uG2094, uG2126, uG1867, uG1868, uG2127, (242, [uL80, uL198, uL208, uL65])])], [uk1869, uk1870, uk2110, uk1875, uk1871, uk2111], 1119, 2, 43)
set_option maxRecDepth 1000000 in
theorem ck_540 : x_ok mLT1 [cx_536, cx_498, cx_507, cx_505, cx_538, cx_539] mTS2 mTC2 mRUp cx_540 [(1, [0]), (6, [1]), (14, [2]), (56, [3]), (108, [4]), (112, [5])] [(4, uN2103), (29, uN2104), (31, [20, 85, 1000908, 1000909, 1000910, 1000827, 1000844, 1000911]), (46, [23]), (71, [1000637]), (107, [25, 1000912, 1000913]), (108, [1000914])] [] (72, []) 1047 75 = true := by decide +kernel
theorem sn_540 {W : Bool} {X : List Int32} : y_Snd (mGw W) mLT1 (J2 W X) X cx_540 := y_ok J2_J mTS2_ok1 mTC2_ok1 mRUp_ok1 (List.forall_mem_cons.mpr ⟨sn_536, List.forall_mem_cons.mpr ⟨sn_498, List.forall_mem_cons.mpr ⟨sn_507, List.forall_mem_cons.mpr ⟨sn_505, List.forall_mem_cons.mpr ⟨sn_538, List.forall_mem_cons.mpr ⟨sn_539, fun _ h => absurd h List.not_mem_nil⟩⟩⟩⟩⟩⟩) ck_540
def cx_541pi_0 (t : List (Int × Int)) : List (Int × Int) := ui0 :: ui757 :: (0, 6) :: (0, 6) :: ui51 :: ui51 :: ui51 :: ui51 :: t
def cx_541pi_1 (t : List (Int × Int)) : List (Int × Int) := ui51 :: ui51 :: ui51 :: ui51 :: ui51 :: ui440 :: t
def cx_541pg_0 (t : List zTg) : List zTg := uG2094 :: uG1873 :: uG1867 :: uG1116 :: uG2105 :: (244, [uL69, uL210, uL609, uL67, uL754]) :: t
def cx_541p : zS := ((cx_541pi_0 (cx_541pi_1 [])), [ur1299, ur1878, ur1858, ur2106], [uL2128, uL2129], [], [uV2], [uF2107, uF2108, uF2024, uF2109], (cx_541pg_0 []))
/-- M.records -/
def cx_541 : zCtx := (244, cx_541p, [([ui0, ui757, (0, 6), (0, 6), ui51, ui51, ui51, ui51, ui51, ui51, ui51, ui51, ui51, ui440], [ur1299, ur1878, ur1858, ur2106], [], [], [], [uF2130], [uG1873, uG1874, uG2094, uG2131, uG792, (242, [uL69, uL210, uL608, uL65]), uG1872])], [uk2110, uk1875, uk2111], 1305395, 1, 21)
def cq_541 : List zCtx := [cx_493]
def cs_541 : List (Nat × List Nat) := [(94, [0])]
def hs_541 : List (Nat × List Nat) := [(10, [26, 1000699]), (32, [1000700]), (33, [27, 1000701]), (39, [28, 1000702]), (49, [401]), (83, [146, 1000703, 1000704]), (97, [1000705])]
def nd_541_0pi_0 (t : List (Int × Int)) : List (Int × Int) := ui0 :: ui757 :: (0, 6) :: (0, 6) :: ui51 :: ui51 :: ui51 :: ui51 :: t
def nd_541_0pi_1 (t : List (Int × Int)) : List (Int × Int) := ui51 :: ui51 :: ui51 :: ui51 :: ui51 :: ui440 :: ui54 :: t
def nd_541_0pg_0 (t : List zTg) : List zTg := uG1873 :: uG1867 :: uG1116 :: uG2105 :: (7, [uL211]) :: (250, [uL69, uL210, uL211]) :: t
def nd_541_0p : zS := ((nd_541_0pi_0 (nd_541_0pi_1 [])), [ur1299, ur1878, ur1858, ur2106], [uL2128, uL2129, (1287, [(14, (-1))])], [uV2, uV358], [], [uF2107, uF2108, uF2024, uF2109], (nd_541_0pg_0 []))
def nd_541_0 : zN := (11, nd_541_0p, ((-4000000000000), [(1, 100000032617), (14, (-640))]))
def ns_541 : List zN := [nd_541_0]
set_option maxRecDepth 1000000 in
theorem ca_541 : x_okA mLT1 cq_541 mTS2 mTC2 mRUp cx_541 cs_541 hs_541 ns_541 (1304960, []) 435 620 = true := by decide +kernel
set_option maxRecDepth 1000000 in
theorem cb_541_0 : x_okB mLT1 cq_541 mTS2 mTC2 mRUp cx_541 cs_541 hs_541 ns_541 (1304960, []) 435 620 nd_541_0 = true := by decide +kernel
set_option maxRecDepth 1000000 in
theorem cc_541 : x_okC mLT1 cq_541 mTS2 mTC2 mRUp cx_541 cs_541 hs_541 ns_541 (1304960, []) 435 620 = true := by decide +kernel
theorem ck_541 : x_ok mLT1 cq_541 mTS2 mTC2 mRUp cx_541 cs_541 hs_541 ns_541 (1304960, []) 435 620 = true := x_ok_of ca_541 (List.forall_mem_cons.mpr ⟨cb_541_0, fun _ h => absurd h List.not_mem_nil⟩) cc_541
theorem sn_541 {W : Bool} {X : List Int32} : y_Snd (mGw W) mLT1 (J2 W X) X cx_541 := y_ok J2_J mTS2_ok1 mTC2_ok1 mRUp_ok1 (List.forall_mem_cons.mpr ⟨sn_493, fun _ h => absurd h List.not_mem_nil⟩) ck_541
end
