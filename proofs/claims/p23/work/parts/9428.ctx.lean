noncomputable section
/-! ===== readings, by program, checked by the kernel ===== -/
def cx_592pi_0 (t : List (Int × Int)) : List (Int × Int) := ui0 :: (0, 1) :: ui31 :: (0, 6) :: ui49 :: ui49 :: ui49 :: ui49 :: t
def cx_592pi_1 (t : List (Int × Int)) : List (Int × Int) := ui49 :: ui49 :: (0, 6) :: t
def cx_592pf_0 (t : List zFa) : List zFa := uF1964 :: uF1477 :: uF1478 :: uF2105 :: uF2106 :: uF2107 :: uF2108 :: uF2109 :: t
def cx_592pf_1 (t : List zFa) : List zFa := uF1708 :: uF1709 :: uF2110 :: uF2111 :: uF2112 :: uF1998 :: uF2195 :: uF2308 :: t
def cx_592p : zS := ((cx_592pi_0 (cx_592pi_1 [])), (cx_551pr_0 (cx_551pr_1 [])), [uL512], [], [uV2], (cx_592pf_0 (cx_592pf_1 [])), [uG2290, uG2309, uG2310, uG2311, uG2312, uG2313])
/-- M.spareLeast -/
def cx_592 : zCtx := (263, cx_592p, [([ui0, (0, 1), ui31, (0, 6), ui49, ui49, ui49, ui49, ui49, ui49, (0, 6), ui2265], [ur1414, ur1461, ur1462, ur1472, ur1473, ur1474, ur1475, ur1476, ur1470, ur1471, ur1463, ur1575, ur1576, ur1465, ur1963], [uL512], [], [uV843], [], [(238, [uL647, uL67, uL98, uL104, uL78, uL79, uL131, uL164, uL2314, (0, [(10, 2)]), uL195])])], [uk2141, uk2133, uk2142], 78132, 6, 131)
def cz_592_0i_0 (t : List (Int × Int)) : List (Int × Int) := ui0 :: (0, 1) :: ui31 :: (0, 6) :: ui49 :: ui49 :: ui49 :: ui49 :: t
def cz_592_0i_1 (t : List (Int × Int)) : List (Int × Int) := ui49 :: ui49 :: (0, 6) :: ui2265 :: ui425 :: t
def cz_592_0g_0 (t : List zTg) : List zTg := uG2290 :: uG2309 :: uG2310 :: uG2311 :: uG2312 :: uG2313 :: (238, [uL647, uL67, uL98, uL104, uL78, uL79, uL131, uL164, uL2314, uL214, uL195]) :: t
def cz_592_0 : zS := ((cz_592_0i_0 (cz_592_0i_1 [])), (cx_551pr_0 (cx_551pr_1 [])), [uL512, (0, [(10, 2), (12, (-1))])], [uV2, uV843, uV198], [], (cx_592pf_0 (cx_592pf_1 [])), (cz_592_0g_0 []))
set_option maxRecDepth 1000000 in
theorem ck_592 : x_ok mLT1 [cx_573] mTS2 mTC2 mRUp cx_592 [(21, [0]), (30, [0])] [(4, [1001014]), (25, [1000012, 1001015]), (33, [1001016]), (34, [1001017])] [(6, cz_592_0, (450, [(12, (-20))]))] (455, []) 77677 22 = true := by decide +kernel
theorem sn_592 {W : Bool} {X : List Int32} : y_Snd (mGw W) mLT1 (J2 W X) X cx_592 := y_ok J2_J mTS2_ok1 mTC2_ok1 mRUp_ok1 (List.forall_mem_cons.mpr ⟨sn_573, fun _ h => absurd h List.not_mem_nil⟩) ck_592
def cx_593q0 : zS := ((cx_592pi_0 (cx_592pi_1 [])), (cx_551pr_0 (cx_551pr_1 [])), [], [], [uV568], [], [(238, [uL644, uL67, uL98, uL104, uL78, uL79, uL131, uL164, uL63, uL63, uL806]), uG2313])
def cx_593q1i_0 (t : List (Int × Int)) : List (Int × Int) := ui0 :: (0, 1) :: ui31 :: (0, 6) :: ui49 :: ui49 :: ui49 :: ui49 :: t
def cx_593q1i_1 (t : List (Int × Int)) : List (Int × Int) := ui49 :: ui49 :: (0, 6) :: ui586 :: t
def cx_593q1 : zS := ((cx_593q1i_0 (cx_593q1i_1 [])), (cx_551pr_0 (cx_551pr_1 [])), [], [], [uV843], [], [(238, [uL644, uL67, uL98, uL104, uL78, uL79, uL131, uL164, uL63, uL63, uL195]), uG2313])
/-- M.mostOf -/
def cx_593 : zCtx := (262, cx_592p, [cx_593q0, cx_593q1], [uk2141, uk2133, uk2142], 78143, 7, 153)
set_option maxRecDepth 1000000 in
theorem ck_593 : x_ok mLT1 [cx_592] mTS2 mTC2 mRUp cx_593 [(1, [0])] [(9, [1001018]), (21, [1001019]), (27, [1001020])] [] (11, []) 78132 14 = true := by decide +kernel
theorem sn_593 {W : Bool} {X : List Int32} : y_Snd (mGw W) mLT1 (J2 W X) X cx_593 := y_ok J2_J mTS2_ok1 mTC2_ok1 mRUp_ok1 (List.forall_mem_cons.mpr ⟨sn_592, fun _ h => absurd h List.not_mem_nil⟩) ck_593
def cx_594pi_0 (t : List (Int × Int)) : List (Int × Int) := ui0 :: (0, 1) :: ui49 :: (0, 1) :: ui31 :: (0, 6) :: (0, 6) :: ui49 :: t
def cx_594pi_1 (t : List (Int × Int)) : List (Int × Int) := ui49 :: t
def cx_594pf_0 (t : List zFa) : List zFa := uF1964 :: uF1965 :: uF1966 :: uF1477 :: uF1478 :: uF2105 :: uF2106 :: uF2107 :: t
def cx_594pf_1 (t : List zFa) : List zFa := uF2108 :: uF2109 :: uF1708 :: uF1709 :: uF2110 :: uF2111 :: uF2112 :: uF1998 :: t
def cx_594pf_2 (t : List zFa) : List zFa := uF2195 :: t
def cx_594p : zS := ((cx_594pi_0 (cx_594pi_1 [])), (cx_551pr_0 (cx_551pr_1 [])), [uL577], [], [uV2], (cx_594pf_0 (cx_594pf_1 (cx_594pf_2 []))), [uG2290, uG2315, uG2242, uG2316, uG2312, uG469])
/-- M.most -/
def cx_594 : zCtx := (261, cx_594p, [([ui0, (0, 1), ui49, (0, 1), ui31, (0, 6), (0, 6), ui49, ui49, ui586], [ur1414, ur1461, ur1462, ur1472, ur1473, ur1474, ur1475, ur1476, ur1470, ur1471, ur1463, ur1575, ur1576, ur1465, ur1963], [], [], [uV781], [], [uG1973, uG469, (238, [uL644, uL98, uL63, uL63, uL63, uL63, uL63, uL63, uL63, uL63, uL164])]), ([ui0, (0, 1), ui49, (0, 1), ui31, (0, 6), (0, 6), ui49, ui49], [ur1414, ur1461, ur1462, ur1472, ur1473, ur1474, ur1475, ur1476, ur1470, ur1471, ur1463, ur1575, ur1576, ur1465, ur1963], [], [], [uV568], [], [uG1973, uG469, (238, [uL644, uL98, uL63, uL63, uL63, uL63, uL63, uL63, uL63, uL63, uL806])])], [uk2141, uk1974, uk1975, uk2133, uk2142, uk1976], 78148, 8, 174)
set_option maxRecDepth 1000000 in
theorem ck_594 : x_ok mLT1 [cx_521, cx_593] mTS2 mTC2 mRUp cx_594 [(1, [0]), (5, [1])] [(4, uN2200)] [] (5, []) 78143 8 = true := by decide +kernel
theorem sn_594 {W : Bool} {X : List Int32} : y_Snd (mGw W) mLT1 (J2 W X) X cx_594 := y_ok J2_J mTS2_ok1 mTC2_ok1 mRUp_ok1 (List.forall_mem_cons.mpr ⟨sn_521, List.forall_mem_cons.mpr ⟨sn_593, fun _ h => absurd h List.not_mem_nil⟩⟩) ck_594
def cx_595pi_0 (t : List (Int × Int)) : List (Int × Int) := ui0 :: ui1066 :: (0, 1) :: ui49 :: (0, 1) :: ui31 :: (0, 6) :: (0, 6) :: t
def cx_595pi_1 (t : List (Int × Int)) : List (Int × Int) := ui49 :: ui49 :: t
def cx_595pf_0 (t : List zFa) : List zFa := uF2098 :: uF2204 :: uF2205 :: uF1477 :: uF1478 :: uF2105 :: uF2106 :: uF2107 :: t
def cx_595pf_1 (t : List zFa) : List zFa := uF2108 :: uF2109 :: uF1708 :: uF1709 :: uF2110 :: uF2111 :: uF2112 :: uF1998 :: t
def cx_595pf_2 (t : List zFa) : List zFa := uF2195 :: t
def cx_595p : zS := ((cx_595pi_0 (cx_595pi_1 [])), (cx_551pr_0 (cx_551pr_1 [])), [uL2186], [], [uV2, uV11], (cx_595pf_0 (cx_595pf_1 (cx_595pf_2 []))), [uG2145, uG2317, uG2202, uG2203, uG2255, uG1363])
/-- M.weakest -/
def cx_595 : zCtx := (264, cx_595p, [([ui0, ui1066, (0, 1), ui49, (0, 1), ui31, (0, 6), (0, 6), ui49, ui49], [ur1414, ur1461, ur1462, ur1472, ur1473, ur1474, ur1475, ur1476, ur1470, ur1471, ur1463, ur1575, ur1576, ur1465, ur1963], [], [], [uV61], [], [uG1363])], [], 16, 1, 22)
set_option maxRecDepth 1000000 in
theorem ck_595 : x_ok mLT1 [cx_517] mTS2 mTC2 mRUp cx_595 [(3, [0])] [] [] (7, []) 9 10 = true := by decide +kernel
theorem sn_595 {W : Bool} {X : List Int32} : y_Snd (mGw W) mLT1 (J2 W X) X cx_595 := y_ok J2_J mTS2_ok1 mTC2_ok1 mRUp_ok1 (List.forall_mem_cons.mpr ⟨sn_517, fun _ h => absurd h List.not_mem_nil⟩) ck_595
def cx_596pi_0 (t : List (Int × Int)) : List (Int × Int) := ui0 :: (0, 1) :: (0, 1) :: ui49 :: (0, 1) :: ui31 :: (0, 6) :: (0, 6) :: t
def cx_596pi_1 (t : List (Int × Int)) : List (Int × Int) := ui49 :: ui49 :: t
def cx_596p : zS := ((cx_596pi_0 (cx_596pi_1 [])), (cx_551pr_0 (cx_551pr_1 [])), [uL2186], [], [uV2, uV11], (cx_595pf_0 (cx_595pf_1 (cx_595pf_2 []))), [uG2145, uG2317, uG2202, uG2203, uG2255, uG1363])
def cx_596q0i_0 (t : List (Int × Int)) : List (Int × Int) := ui0 :: (0, 1) :: (0, 1) :: ui49 :: (0, 1) :: ui31 :: (0, 6) :: (0, 6) :: t
def cx_596q0i_1 (t : List (Int × Int)) : List (Int × Int) := ui49 :: ui49 :: ui586 :: t
def cx_596q0 : zS := ((cx_596q0i_0 (cx_596q0i_1 [])), (cx_551pr_0 (cx_551pr_1 [])), [], [], [uV568], [], [uG1973, uG1363, uG2318, uG2319])
def cx_596q1i_0 (t : List (Int × Int)) : List (Int × Int) := ui0 :: (0, 0) :: (0, 1) :: ui49 :: (0, 1) :: ui31 :: (0, 6) :: (0, 6) :: t
def cx_596q1i_1 (t : List (Int × Int)) : List (Int × Int) := ui49 :: ui49 :: ui49 :: ui586 :: ui1890 :: t
def cx_596q1g_0 (t : List zTg) : List zTg := uG1973 :: uG1363 :: uG2320 :: uG2321 :: (107, [uL214, uL114, uL170]) :: t
def cx_596q1 : zS := ((cx_596q1i_0 (cx_596q1i_1 [])), (cx_551pr_0 (cx_551pr_1 [])), [], [], [uV828], [], (cx_596q1g_0 []))
def cx_596q2i_0 (t : List (Int × Int)) : List (Int × Int) := ui0 :: (1, 1) :: (0, 1) :: ui49 :: (0, 1) :: ui31 :: (0, 6) :: (0, 6) :: t
def cx_596q2i_1 (t : List (Int × Int)) : List (Int × Int) := ui49 :: ui49 :: (0, 1) :: ui586 :: ui1890 :: t
def cx_596q2g_0 (t : List zTg) : List zTg := uG1973 :: uG1363 :: uG2320 :: uG2321 :: (108, [uL214, uL114, uL2322]) :: t
def cx_596q2 : zS := ((cx_596q2i_0 (cx_596q2i_1 [])), (cx_551pr_0 (cx_551pr_1 [])), [], [], [uV828], [], (cx_596q2g_0 []))
def cx_596q3 : zS := ((cx_596pi_0 (cx_596pi_1 [])), (cx_551pr_0 (cx_551pr_1 [])), [], [], [uV568], [], [uG1973, uG1363, uG2323, uG2324])
def cx_596q4i_0 (t : List (Int × Int)) : List (Int × Int) := ui0 :: (0, 0) :: (0, 1) :: ui49 :: (0, 1) :: ui31 :: (0, 6) :: (0, 6) :: t
def cx_596q4i_1 (t : List (Int × Int)) : List (Int × Int) := ui49 :: ui49 :: ui49 :: ui1890 :: t
def cx_596q4g_0 (t : List zTg) : List zTg := uG1973 :: uG1363 :: uG2323 :: uG2325 :: (107, [uL195, uL114, uL170]) :: t
def cx_596q4 : zS := ((cx_596q4i_0 (cx_596q4i_1 [])), (cx_551pr_0 (cx_551pr_1 [])), [], [], [uV828], [], (cx_596q4g_0 []))
def cx_596q5i_0 (t : List (Int × Int)) : List (Int × Int) := ui0 :: (1, 1) :: (0, 1) :: ui49 :: (0, 1) :: ui31 :: (0, 6) :: (0, 6) :: t
def cx_596q5i_1 (t : List (Int × Int)) : List (Int × Int) := ui49 :: ui49 :: (0, 1) :: ui1890 :: t
def cx_596q5g_0 (t : List zTg) : List zTg := uG1973 :: uG1363 :: uG2323 :: uG2325 :: (108, [uL195, uL114, uL2322]) :: t
def cx_596q5 : zS := ((cx_596q5i_0 (cx_596q5i_1 [])), (cx_551pr_0 (cx_551pr_1 [])), [], [], [uV828], [], (cx_596q5g_0 []))
/-- M.weakest -/
def cx_596 : zCtx := (264, cx_596p, [cx_596q0, cx_596q1, cx_596q2, cx_596q3, cx_596q4, cx_596q5], [uk2141, uk1974, uk1975, uk2133, uk2142, uk1976], 78170, 8, 174)
set_option maxRecDepth 1000000 in
theorem ck_596 : x_ok mLT1 [cx_517, cx_521, cx_593, cx_574] mTS2 mTC2 mRUp cx_596 [(3, [0]), (12, [1]), (17, [2]), (28, [2]), (33, [3])] [(15, uN2200), (20, [1000728]), (31, [1001021]), (52, [1000023]), (59, [1000679]), (60, [1001022])] [] (27, []) 78143 30 = true := by decide +kernel
theorem sn_596 {W : Bool} {X : List Int32} : y_Snd (mGw W) mLT1 (J2 W X) X cx_596 := y_ok J2_J mTS2_ok1 mTC2_ok1 mRUp_ok1 (List.forall_mem_cons.mpr ⟨sn_517, List.forall_mem_cons.mpr ⟨sn_521, List.forall_mem_cons.mpr ⟨sn_593, List.forall_mem_cons.mpr ⟨sn_574, fun _ h => absurd h List.not_mem_nil⟩⟩⟩⟩) ck_596
def cx_597pi_0 (t : List (Int × Int)) : List (Int × Int) := ui0 :: ui262 :: (0, 1) :: ui49 :: (0, 1) :: ui31 :: (0, 6) :: (0, 6) :: t
def cx_597pi_1 (t : List (Int × Int)) : List (Int × Int) := ui49 :: ui49 :: t
def cx_597p : zS := ((cx_597pi_0 (cx_597pi_1 [])), (cx_551pr_0 (cx_551pr_1 [])), [uL2186], [], [uV2, uV11], (cx_595pf_0 (cx_595pf_1 (cx_595pf_2 []))), [uG2145, uG2317, uG2202, uG2203, uG2255, uG1363])
/-- M.weakest -/
def cx_597 : zCtx := (264, cx_597p, [([ui0, ui262, (0, 1), ui49, (0, 1), ui31, (0, 6), (0, 6), ui49, ui49], [ur1414, ur1461, ur1462, ur1472, ur1473, ur1474, ur1475, ur1476, ur1470, ur1471, ur1463, ur1575, ur1576, ur1465, ur1963], [], [], [uV61], [], [uG1363])], [], 16, 1, 22)
set_option maxRecDepth 1000000 in
theorem ck_597 : x_ok mLT1 [cx_517] mTS2 mTC2 mRUp cx_597 [(3, [0])] [] [] (7, []) 9 10 = true := by decide +kernel
theorem sn_597 {W : Bool} {X : List Int32} : y_Snd (mGw W) mLT1 (J2 W X) X cx_597 := y_ok J2_J mTS2_ok1 mTC2_ok1 mRUp_ok1 (List.forall_mem_cons.mpr ⟨sn_517, fun _ h => absurd h List.not_mem_nil⟩) ck_597
def cx_598pi_0 (t : List (Int × Int)) : List (Int × Int) := ui0 :: (0, 0) :: (0, 1) :: ui49 :: (0, 1) :: ui31 :: (0, 6) :: (0, 6) :: t
def cx_598pi_1 (t : List (Int × Int)) : List (Int × Int) := ui49 :: ui49 :: t
def cx_598p : zS := ((cx_598pi_0 (cx_598pi_1 [])), (cx_551pr_0 (cx_551pr_1 [])), [uL2186], [], [uV2, uV11], (cx_595pf_0 (cx_595pf_1 (cx_595pf_2 []))), [uG2145, uG2317, uG2202, uG2203, uG2255, uG1363])
def cx_598q0i_0 (t : List (Int × Int)) : List (Int × Int) := ui0 :: (0, 0) :: (0, 1) :: ui49 :: (0, 1) :: ui31 :: (0, 6) :: (0, 6) :: t
def cx_598q0i_1 (t : List (Int × Int)) : List (Int × Int) := ui49 :: ui49 :: ui586 :: t
def cx_598q0 : zS := ((cx_598q0i_0 (cx_598q0i_1 [])), (cx_551pr_0 (cx_551pr_1 [])), [], [], [uV568], [], [uG1973, uG1363, uG2318, uG2319])
def cx_598q2 : zS := ((cx_598pi_0 (cx_598pi_1 [])), (cx_551pr_0 (cx_551pr_1 [])), [], [], [uV568], [], [uG1973, uG1363, uG2323, uG2324])
/-- M.weakest -/
def cx_598 : zCtx := (264, cx_598p, [cx_598q0, cx_596q1, cx_598q2, cx_596q4], [uk2141, uk1974, uk1975, uk2133, uk2142, uk1976], 78169, 8, 174)
set_option maxRecDepth 1000000 in
theorem ck_598 : x_ok mLT1 [cx_517, cx_521, cx_593, cx_574] mTS2 mTC2 mRUp cx_598 [(3, [0]), (12, [1]), (17, [2]), (28, [2]), (33, [3])] [(15, uN2200), (20, [1000728]), (31, [1001021]), (52, [1000023])] [] (26, []) 78143 29 = true := by decide +kernel
theorem sn_598 {W : Bool} {X : List Int32} : y_Snd (mGw W) mLT1 (J2 W X) X cx_598 := y_ok J2_J mTS2_ok1 mTC2_ok1 mRUp_ok1 (List.forall_mem_cons.mpr ⟨sn_517, List.forall_mem_cons.mpr ⟨sn_521, List.forall_mem_cons.mpr ⟨sn_593, List.forall_mem_cons.mpr ⟨sn_574, fun _ h => absurd h List.not_mem_nil⟩⟩⟩⟩) ck_598
def cx_599pi_0 (t : List (Int × Int)) : List (Int × Int) := ui0 :: (1, 1) :: (0, 1) :: ui49 :: (0, 1) :: ui31 :: (0, 6) :: (0, 6) :: t
def cx_599pi_1 (t : List (Int × Int)) : List (Int × Int) := ui49 :: ui49 :: t
def cx_599p : zS := ((cx_599pi_0 (cx_599pi_1 [])), (cx_551pr_0 (cx_551pr_1 [])), [uL2186], [], [uV2, uV11], (cx_595pf_0 (cx_595pf_1 (cx_595pf_2 []))), [uG2145, uG2317, uG2202, uG2203, uG2255, uG1363])
def cx_599q0i_0 (t : List (Int × Int)) : List (Int × Int) := ui0 :: (1, 1) :: (0, 1) :: ui49 :: (0, 1) :: ui31 :: (0, 6) :: (0, 6) :: t
def cx_599q0i_1 (t : List (Int × Int)) : List (Int × Int) := ui49 :: ui49 :: ui586 :: t
def cx_599q0 : zS := ((cx_599q0i_0 (cx_599q0i_1 [])), (cx_551pr_0 (cx_551pr_1 [])), [], [], [uV568], [], [uG1973, uG1363, uG2318, uG2319])
def cx_599q2 : zS := ((cx_599pi_0 (cx_599pi_1 [])), (cx_551pr_0 (cx_551pr_1 [])), [], [], [uV568], [], [uG1973, uG1363, uG2323, uG2324])
/-- M.weakest -/
def cx_599 : zCtx := (264, cx_599p, [cx_599q0, cx_596q2, cx_599q2, cx_596q5], [uk2141, uk1974, uk1975, uk2133, uk2142, uk1976], 78170, 8, 174)
set_option maxRecDepth 1000000 in
theorem ck_599 : x_ok mLT1 [cx_517, cx_521, cx_593, cx_574] mTS2 mTC2 mRUp cx_599 [(3, [0]), (12, [1]), (17, [2]), (28, [2]), (33, [3])] [(15, uN2200), (20, [1000728]), (31, [1001021]), (59, [1000679]), (60, [1001022])] [] (27, []) 78143 30 = true := by decide +kernel
theorem sn_599 {W : Bool} {X : List Int32} : y_Snd (mGw W) mLT1 (J2 W X) X cx_599 := y_ok J2_J mTS2_ok1 mTC2_ok1 mRUp_ok1 (List.forall_mem_cons.mpr ⟨sn_517, List.forall_mem_cons.mpr ⟨sn_521, List.forall_mem_cons.mpr ⟨sn_593, List.forall_mem_cons.mpr ⟨sn_574, fun _ h => absurd h List.not_mem_nil⟩⟩⟩⟩) ck_599
def cx_600pi_0 (t : List (Int × Int)) : List (Int × Int) := ui0 :: ui511 :: (0, 1) :: ui49 :: (0, 1) :: (0, 6) :: (0, 6) :: ui49 :: t
def cx_600pi_1 (t : List (Int × Int)) : List (Int × Int) := ui49 :: t
def cx_600p : zS := ((cx_600pi_0 (cx_600pi_1 [])), [ur1414, ur1463, ur1575, ur1576, ur1963], [uL577, (0, [(1, 1), (6, (-1))])], [], [uV2, uV11], [uF2098, uF2204, uF2205, uF1578, uF1968, uF2130, uF2131], [uG2300, uG2301, uG469])
/-- M.below -/
def cx_600 : zCtx := (265, cx_600p, [([ui0, ui511, (0, 1), ui49, (0, 1), (0, 6), (0, 6), ui49, ui49], [ur1414, ur1463, ur1575, ur1576, ur1963], [], [], [uV61], [], [uG1973, uG469])], [uk1974, uk1975, uk1976], 459, 1, 22)
set_option maxRecDepth 1000000 in
theorem ck_600 : x_ok mLT1 [cx_521, cx_517] mTS2 mTC2 mRUp cx_600 [(1, [0]), (15, [1])] [(4, [1000823]), (13, [1000925]), (21, [1001024]), (29, [1001023])] [] (14, []) 445 17 = true := by decide +kernel
theorem sn_600 {W : Bool} {X : List Int32} : y_Snd (mGw W) mLT1 (J2 W X) X cx_600 := y_ok J2_J mTS2_ok1 mTC2_ok1 mRUp_ok1 (List.forall_mem_cons.mpr ⟨sn_521, List.forall_mem_cons.mpr ⟨sn_517, fun _ h => absurd h List.not_mem_nil⟩⟩) ck_600
def cx_601pi_0 (t : List (Int × Int)) : List (Int × Int) := ui0 :: (0, 5) :: (0, 1) :: ui49 :: (0, 1) :: (0, 6) :: (0, 6) :: ui49 :: t
def cx_601pi_1 (t : List (Int × Int)) : List (Int × Int) := ui49 :: ui586 :: t
def cx_601p : zS := ((cx_601pi_0 (cx_601pi_1 [])), [ur1414, ur1463, ur1575, ur1576, ur1963], [uL577, uL9, uL2187], [], [uV2, uV11], [uF2098, uF2204, uF2205, uF1578, uF1968, uF2130, uF2131], [uG2300, uG2301, uG469, (260, [uL65, uL63, uL63, uL63, uL63, uL63, uL63, uL63, uL109, uL78, uL164])])
/-- M.below -/
def cx_601 : zCtx := (265, cx_601p, [([ui0, (0, 5), (0, 1), ui49, (0, 1), (0, 6), (0, 6), ui49, ui49, ui586], [ur1414, ur1463, ur1575, ur1576, ur1963], [], [], [uV781], [], [uG1973, uG469])], [uk1974, uk1975, uk1976], 462, 1, 23)
set_option maxRecDepth 1000000 in
theorem ck_601 : x_ok mLT1 [cx_521, cx_517, cx_572] mTS2 mTC2 mRUp cx_601 [(1, [0]), (15, [1]), (23, [2])] [(4, [1000823]), (13, [1000925]), (21, [1001024]), (26, [1001025]), (29, [1001023])] [] (17, []) 445 20 = true := by decide +kernel
theorem sn_601 {W : Bool} {X : List Int32} : y_Snd (mGw W) mLT1 (J2 W X) X cx_601 := y_ok J2_J mTS2_ok1 mTC2_ok1 mRUp_ok1 (List.forall_mem_cons.mpr ⟨sn_521, List.forall_mem_cons.mpr ⟨sn_517, List.forall_mem_cons.mpr ⟨sn_572, fun _ h => absurd h List.not_mem_nil⟩⟩⟩) ck_601
def cx_602pi_0 (t : List (Int × Int)) : List (Int × Int) := ui0 :: ui262 :: (0, 1) :: ui49 :: (0, 1) :: (0, 6) :: (0, 6) :: ui49 :: t
def cx_602pi_1 (t : List (Int × Int)) : List (Int × Int) := ui49 :: t
def cx_602p : zS := ((cx_602pi_0 (cx_602pi_1 [])), [ur1414, ur1463, ur1575, ur1576, ur1963], [uL577, uL569], [], [uV2, uV11], [uF2098, uF2204, uF2205, uF1578, uF1968, uF2130, uF2131], [uG2300, uG2301, uG469])
/-- M.below -/
def cx_602 : zCtx := (265, cx_602p, [([ui0, ui262, (0, 1), ui49, (0, 1), (0, 6), (0, 6), ui49, ui49], [ur1414, ur1463, ur1575, ur1576, ur1963], [], [], [uV61], [], [uG1973, uG469])], [uk1974, uk1975, uk1976], 459, 1, 22)
set_option maxRecDepth 1000000 in
theorem ck_602 : x_ok mLT1 [cx_521, cx_517] mTS2 mTC2 mRUp cx_602 [(1, [0]), (15, [1])] [(4, [1000823]), (13, [1000925]), (29, [1001023])] [] (14, []) 445 17 = true := by decide +kernel
theorem sn_602 {W : Bool} {X : List Int32} : y_Snd (mGw W) mLT1 (J2 W X) X cx_602 := y_ok J2_J mTS2_ok1 mTC2_ok1 mRUp_ok1 (List.forall_mem_cons.mpr ⟨sn_521, List.forall_mem_cons.mpr ⟨sn_517, fun _ h => absurd h List.not_mem_nil⟩⟩) ck_602
/-- M.copiesStill -/
def cx_603 : zCtx := (267, ([ui0, (0, 1), ui49, (0, 1)], [ur1414], [], [], [uV2], [uF1964, uF1965, uF1966], []), [([ui0, (0, 1), ui49, (0, 1), ui196], [ur1414], [], [], [], [uF2326, uF2103], [uG1977, uG1973])], [uk1974, uk1975, uk1976], 451, 1, 21)
set_option maxRecDepth 1000000 in
theorem ck_603 : x_ok mLT1 [cx_521] mTS2 mTC2 mRUp cx_603 [(1, [0])] [] [] (6, []) 445 9 = true := by decide +kernel
theorem sn_603 {W : Bool} {X : List Int32} : y_Snd (mGw W) mLT1 (J2 W X) X cx_603 := y_ok J2_J mTS2_ok1 mTC2_ok1 mRUp_ok1 (List.forall_mem_cons.mpr ⟨sn_521, fun _ h => absurd h List.not_mem_nil⟩) ck_603
/-- M.belowOf -/
def cx_604 : zCtx := (252, ([ui0, (0, 5)], [ur1414], [], [], [uV2, uV11], [], []), [([ui0, (0, 5), ui49], [ur1414], [], [], [uV12], [], [])], [], 130, 0, 0)
set_option maxRecDepth 1000000 in
theorem ck_604 : x_ok mLT1 [] mTS2 mTC2 mRUp cx_604 [] [] [(6, ([(0, 3072), (0, 5), ((-2147483648), 2147483647), (1, 6)], [(12, false)], [], [(2, 0, 0, []), (0, 0, 0, [(1, 1)]), (0, 0, 0, [(2, 1)]), (0, 0, 0, [(3, 1)])], [], [], []), (146, [(3, (-23))]))] (130, []) 0 25 = true := by decide +kernel
theorem sn_604 {W : Bool} {X : List Int32} : y_Snd (mGw W) mLT1 (J2 W X) X cx_604 := y_ok J2_J mTS2_ok1 mTC2_ok1 mRUp_ok1 (fun _ h => absurd h List.not_mem_nil) ck_604
/-- M.strongFirst -/
def cx_605 : zCtx := (225, ([ui0, (0, 5), (0, 1)], [ur1414], [], [], [uV2, uV11], [uF2098], []), [([ui0, (0, 5), (0, 1), ui196], [ur1414], [], [], [uV58], [], [])], [], 10, 0, 0)
set_option maxRecDepth 1000000 in
theorem ck_605 : x_ok mLT1 [] mTS2 mTC2 mRUp cx_605 [] [] [] (10, []) 0 13 = true := by decide +kernel
theorem sn_605 {W : Bool} {X : List Int32} : y_Snd (mGw W) mLT1 (J2 W X) X cx_605 := y_ok J2_J mTS2_ok1 mTC2_ok1 mRUp_ok1 (fun _ h => absurd h List.not_mem_nil) ck_605
/-- M.strongOf -/
def cx_606 : zCtx := (230, ([ui0, (0, 5), (0, 1)], [ur1414], [], [], [uV2, uV11], [uF2098], []), [([ui0, (0, 5), (0, 1), ui196], [ur1414], [], [], [uV58], [], [])], [], 22, 1, 21)
set_option maxRecDepth 1000000 in
theorem ck_606 : x_ok mLT1 [cx_527, cx_605] mTS2 mTC2 mRUp cx_606 [(2, [0]), (22, [1])] [] [] (12, []) 10 15 = true := by decide +kernel
theorem sn_606 {W : Bool} {X : List Int32} : y_Snd (mGw W) mLT1 (J2 W X) X cx_606 := y_ok J2_J mTS2_ok1 mTC2_ok1 mRUp_ok1 (List.forall_mem_cons.mpr ⟨sn_527, List.forall_mem_cons.mpr ⟨sn_605, fun _ h => absurd h List.not_mem_nil⟩⟩) ck_606
/-- M.placeOf -/
def cx_607 : zCtx := (227, ([ui0, (0, 5)], [ur1414], [], [], [uV2, uV11], [], []), [([ui0, (0, 5), (0, 5)], [ur1414], [], [], [uV12], [], []), ([ui0, (0, 5)], [ur1414], [], [], [uV61], [], [])], [], 113, 0, 0)
set_option maxRecDepth 1000000 in
theorem ck_607 : x_ok mLT1 [] mTS2 mTC2 mRUp cx_607 [] [] [(2, ([(0, 3072), (0, 5), (0, 6)], [(12, false)], [], [(2, 0, 0, []), (0, 0, 0, [(1, 1)]), (0, 0, 0, [(2, 1)])], [], [], []), (110, [(2, (-17))]))] (113, []) 0 19 = true := by decide +kernel
theorem sn_607 {W : Bool} {X : List Int32} : y_Snd (mGw W) mLT1 (J2 W X) X cx_607 := y_ok J2_J mTS2_ok1 mTC2_ok1 mRUp_ok1 (fun _ h => absurd h List.not_mem_nil) ck_607
/-- M.views -/
def cx_608 : zCtx := (229, ([ui0, (0, 5), (0, 1)], [ur1414], [], [], [uV2, uV11], [uF2098], []), [([ui0, (0, 5), (0, 1)], [ur1414], [], [], [], [], [])], [uk2133], 182, 2, 42)
set_option maxRecDepth 1000000 in
theorem ck_608 : x_ok mLT1 [cx_606, cx_527, cx_607] mTS2 mTC2 mRUp cx_608 [(19, [0]), (50, [1]), (58, [2])] [] [] (69, []) 113 72 = true := by decide +kernel
theorem sn_608 {W : Bool} {X : List Int32} : y_Snd (mGw W) mLT1 (J2 W X) X cx_608 := y_ok J2_J mTS2_ok1 mTC2_ok1 mRUp_ok1 (List.forall_mem_cons.mpr ⟨sn_606, List.forall_mem_cons.mpr ⟨sn_527, List.forall_mem_cons.mpr ⟨sn_607, fun _ h => absurd h List.not_mem_nil⟩⟩⟩) ck_608
def cx_609pr_0 (t : List (Nat × Bool)) : List (Nat × Bool) := ur1414 :: ur1461 :: ur1462 :: ur1472 :: ur1473 :: ur1474 :: ur1475 :: ur1476 :: t
def cx_609pr_1 (t : List (Nat × Bool)) : List (Nat × Bool) := ur1470 :: ur1471 :: t
def cx_609pf_0 (t : List zFa) : List zFa := uF2185 :: uF1477 :: uF1478 :: uF2105 :: uF2106 :: uF2107 :: uF2108 :: uF2109 :: t
def cx_609pf_1 (t : List zFa) : List zFa := uF1708 :: uF1709 :: t
def cx_609p : zS := ([ui0, (0, 5), (0, 5), ui196, (0, 1), ui31], (cx_609pr_0 (cx_609pr_1 [])), [], [], [uV2, uV11, uV12, uV58], (cx_609pf_0 (cx_609pf_1 [])), [uG2189, uG2190])
/-- M.joinsBy -/
def cx_609 : zCtx := (241, cx_609p, [([ui0, (0, 5), (0, 5), ui196, (0, 1), ui31], [ur1414, ur1461, ur1462, ur1472, ur1473, ur1474, ur1475, ur1476, ur1470, ur1471], [], [], [uV62], [], [(233, [uL98, uL114, (0, [(3, 10)]), uL63])]), ([ui0, (0, 5), (0, 5), ui196, (0, 1), ui31, ui586], [ur1414, ur1461, ur1462, ur1472, ur1473, ur1474, ur1475, ur1476, ur1470, ur1471], [], [], [uV108], [], [])], [uk2141, uk2133, uk2142], 77629, 3, 63)
set_option maxRecDepth 1000000 in
theorem ck_609 : x_ok mLT1 [cx_608, cx_606, cx_549, cx_536] mTS2 mTC2 mRUp cx_609 [(2, [0]), (20, [1]), (30, [2]), (37, [3])] [] [] (25, []) 77604 28 = true := by decide +kernel
theorem sn_609 {W : Bool} {X : List Int32} : y_Snd (mGw W) mLT1 (J2 W X) X cx_609 := y_ok J2_J mTS2_ok1 mTC2_ok1 mRUp_ok1 (List.forall_mem_cons.mpr ⟨sn_608, List.forall_mem_cons.mpr ⟨sn_606, List.forall_mem_cons.mpr ⟨sn_549, List.forall_mem_cons.mpr ⟨sn_536, fun _ h => absurd h List.not_mem_nil⟩⟩⟩⟩) ck_609
def cx_610pf_0 (t : List zFa) : List zFa := uF2102 :: uF1477 :: uF1478 :: uF2105 :: uF2106 :: uF2107 :: uF2108 :: uF2109 :: t
def cx_610pf_1 (t : List zFa) : List zFa := uF1708 :: uF1709 :: t
def cx_610p : zS := ([ui0, (0, 5), (0, 5), (0, 1), ui31], (cx_609pr_0 (cx_609pr_1 [])), [], [], [uV2, uV11, uV12], (cx_610pf_0 (cx_610pf_1 [])), [uG2115, uG2196])
/-- M.joinsOf -/
def cx_610 : zCtx := (240, cx_610p, [([ui0, (0, 5), (0, 5), (0, 1), ui31, ui586], [ur1414, ur1461, ur1462, ur1472, ur1473, ur1474, ur1475, ur1476, ur1470, ur1471], [], [], [uV75], [], [])], [uk2141, uk2133, uk2142], 77638, 4, 86)
set_option maxRecDepth 1000000 in
theorem ck_610 : x_ok mLT1 [cx_547, cx_609] mTS2 mTC2 mRUp cx_610 [(6, [0]), (9, [1])] [] [] (9, []) 77629 12 = true := by decide +kernel
theorem sn_610 {W : Bool} {X : List Int32} : y_Snd (mGw W) mLT1 (J2 W X) X cx_610 := y_ok J2_J mTS2_ok1 mTC2_ok1 mRUp_ok1 (List.forall_mem_cons.mpr ⟨sn_547, List.forall_mem_cons.mpr ⟨sn_609, fun _ h => absurd h List.not_mem_nil⟩⟩) ck_610
/-- M.spareAt -/
def cx_611 : zCtx := (251, ([ui0, ui805, (0, 1), ui31], [ur1414, ur1461, ur1462, ur1472, ur1473, ur1474, ur1475, ur1476, ur1470, ur1471], [], [], [uV2, uV11], [uF2098, uF1477, uF1478, uF2105, uF2106, uF2107, uF2108, uF2109, uF1708, uF1709], [uG2145, uG2146]), [([ui0, ui805, (0, 1), ui31, ui49], [ur1414, ur1461, ur1462, ur1472, ur1473, ur1474, ur1475, ur1476, ur1470, ur1471], [], [], [uV97], [], [])], [uk2141, uk2133, uk2142], 77677, 5, 108)
set_option maxRecDepth 1000000 in
theorem ck_611 : x_ok mLT1 [cx_604, cx_610] mTS2 mTC2 mRUp cx_611 [(32, [0]), (58, [1]), (63, [0])] [] [] (39, []) 77638 42 = true := by decide +kernel
theorem sn_611 {W : Bool} {X : List Int32} : y_Snd (mGw W) mLT1 (J2 W X) X cx_611 := y_ok J2_J mTS2_ok1 mTC2_ok1 mRUp_ok1 (List.forall_mem_cons.mpr ⟨sn_604, List.forall_mem_cons.mpr ⟨sn_610, fun _ h => absurd h List.not_mem_nil⟩⟩) ck_611
/-- M.breaksAt -/
def cx_612 : zCtx := (250, ([ui0, ui586, (0, 1), ui31], [ur1414, ur1461, ur1462, ur1472, ur1473, ur1474, ur1475, ur1476, ur1470, ur1471], [], [], [uV2, uV11], [uF2098, uF1477, uF1478, uF2105, uF2106, uF2107, uF2108, uF2109, uF1708, uF1709], [uG2145, uG2146]), [([ui0, ui586, (0, 1), ui31, ui805], [ur1414, ur1461, ur1462, ur1472, ur1473, ur1474, ur1475, ur1476, ur1470, ur1471], [], [], [uV97], [], []), ([ui0, ui586, (0, 1), ui31], [ur1414, ur1461, ur1462, ur1472, ur1473, ur1474, ur1475, ur1476, ur1470, ur1471], [], [], [uV61], [], [])], [uk2141, uk2133, uk2142], 78042, 6, 131)
def cz_612_0f_0 (t : List zFa) : List zFa := uF2098 :: uF1477 :: uF1478 :: uF2105 :: uF2106 :: uF2107 :: uF2108 :: uF2109 :: t
def cz_612_0f_1 (t : List zFa) : List zFa := uF1708 :: uF1709 :: t
def cz_612_0 : zS := ([ui0, ui586, (0, 1), ui31, ui425], (cx_609pr_0 (cx_609pr_1 [])), [], [uV2, uV11, uV97], [], (cz_612_0f_0 (cz_612_0f_1 [])), [uG2145, uG2146])
set_option maxRecDepth 1000000 in
theorem ck_612 : x_ok mLT1 [cx_611] mTS2 mTC2 mRUp cx_612 [(17, [0])] [] [(2, cz_612_0, (362, [(4, (-16))]))] (365, []) 77677 18 = true := by decide +kernel
theorem sn_612 {W : Bool} {X : List Int32} : y_Snd (mGw W) mLT1 (J2 W X) X cx_612 := y_ok J2_J mTS2_ok1 mTC2_ok1 mRUp_ok1 (List.forall_mem_cons.mpr ⟨sn_611, fun _ h => absurd h List.not_mem_nil⟩) ck_612
/-- M.growsOf -/
def cx_613 : zCtx := (228, ([ui0, (0, 5), (0, 1), ui31], [ur1414, ur1461, ur1462, ur1472, ur1473, ur1474, ur1475, ur1476, ur1470, ur1471], [], [], [uV2, uV11], [uF2098, uF1477, uF1478, uF2105, uF2106, uF2107, uF2108, uF2109, uF1708, uF1709], [uG2145, uG2146]), [([ui0, (0, 5), (0, 1), ui31], [ur1414, ur1461, ur1462, ur1472, ur1473, ur1474, ur1475, ur1476, ur1470, ur1471], [], [], [uV62], [], [(233, [uL67, uL63, uL65, uL63])]), ([ui0, (0, 5), (0, 1), ui31, ui525], [ur1414, ur1461, ur1462, ur1472, ur1473, ur1474, ur1475, ur1476, ur1470, ur1471], [], [], [uV97], [], [])], [uk2141, uk2133, uk2142], 77615, 3, 63)
set_option maxRecDepth 1000000 in
theorem ck_613 : x_ok mLT1 [cx_608, cx_535, cx_536] mTS2 mTC2 mRUp cx_613 [(2, [0]), (8, [1]), (14, [2])] [] [] (11, []) 77604 14 = true := by decide +kernel
theorem sn_613 {W : Bool} {X : List Int32} : y_Snd (mGw W) mLT1 (J2 W X) X cx_613 := y_ok J2_J mTS2_ok1 mTC2_ok1 mRUp_ok1 (List.forall_mem_cons.mpr ⟨sn_608, List.forall_mem_cons.mpr ⟨sn_535, List.forall_mem_cons.mpr ⟨sn_536, fun _ h => absurd h List.not_mem_nil⟩⟩⟩) ck_613
/-- M.weakensOf -/
def cx_614 : zCtx := (234, ([ui0, (0, 5), (0, 1), ui31], [ur1414, ur1461, ur1462, ur1472, ur1473, ur1474, ur1475, ur1476, ur1470, ur1471], [], [], [uV2, uV11], [uF2098, uF1477, uF1478, uF2105, uF2106, uF2107, uF2108, uF2109, uF1708, uF1709], [uG2145, uG2146]), [([ui0, (0, 5), (0, 1), ui31], [ur1414, ur1461, ur1462, ur1472, ur1473, ur1474, ur1475, ur1476, ur1470, ur1471], [], [], [uV62], [], [(233, [uL67, uL65, uL65, uL63])]), ([ui0, (0, 5), (0, 1), ui31, ui525], [ur1414, ur1461, ur1462, ur1472, ur1473, ur1474, ur1475, ur1476, ur1470, ur1471], [], [], [uV97], [], [])], [uk2141, uk2133, uk2142], 77615, 3, 63)
set_option maxRecDepth 1000000 in
theorem ck_614 : x_ok mLT1 [cx_608, cx_539, cx_536] mTS2 mTC2 mRUp cx_614 [(2, [0]), (8, [1]), (14, [2])] [] [] (11, []) 77604 14 = true := by decide +kernel
theorem sn_614 {W : Bool} {X : List Int32} : y_Snd (mGw W) mLT1 (J2 W X) X cx_614 := y_ok J2_J mTS2_ok1 mTC2_ok1 mRUp_ok1 (List.forall_mem_cons.mpr ⟨sn_608, List.forall_mem_cons.mpr ⟨sn_539, List.forall_mem_cons.mpr ⟨sn_536, fun _ h => absurd h List.not_mem_nil⟩⟩⟩) ck_614
/-- M.isBlighted -/
def cx_615 : zCtx := (257, ([ui0, (0, 5), (0, 1), ui2283, (0, 1)], [ur1414], [], [], [uV2, uV11], [uF2098, uF2204, uF2205], []), [([ui0, (0, 5), (0, 1), ui2283, (0, 0)], [ur1414], [], [], [uV64], [], []), ([ui0, (0, 5), (0, 1), ui2283, (0, 0)], [ur1414], [], [], [uV62], [], []), ([ui0, (0, 5), (0, 1), ui2283, (1, 1)], [ur1414], [], [], [uV62], [], [])], [], 47, 2, 43)
set_option maxRecDepth 1000000 in
theorem ck_615 : x_ok mLT1 [cx_584] mTS2 mTC2 mRUp cx_615 [(20, [0])] [] [] (22, []) 25 25 = true := by decide +kernel
theorem sn_615 {W : Bool} {X : List Int32} : y_Snd (mGw W) mLT1 (J2 W X) X cx_615 := y_ok J2_J mTS2_ok1 mTC2_ok1 mRUp_ok1 (List.forall_mem_cons.mpr ⟨sn_584, fun _ h => absurd h List.not_mem_nil⟩) ck_615
def cx_616pf_0 (t : List zFa) : List zFa := uF1964 :: uF1965 :: uF1966 :: uF1477 :: uF1478 :: uF2105 :: uF2106 :: uF2107 :: t
def cx_616pf_1 (t : List zFa) : List zFa := uF2108 :: uF2109 :: uF1708 :: uF1709 :: t
def cx_616p : zS := ([ui0, (0, 1), ui2327, (0, 1), ui31], (cx_609pr_0 (cx_609pr_1 [])), [], [], [uV2], (cx_616pf_0 (cx_616pf_1 [])), [uG2290, uG2315])
/-- M.yearGoes -/
def cx_616 : zCtx := (256, cx_616p, [([ui0, (0, 1), ui2327, (0, 1), ui31], [ur1414, ur1461, ur1462, ur1472, ur1473, ur1474, ur1475, ur1476, ur1470, ur1471], [], [], [], [], [])], [uk2141, uk2133, uk2142, uk1976, uk2295, uk2296], 78112, 4, 84)
def cq_616 : List zCtx := [cx_613, cx_614, cx_615, cx_536, cx_527]
def cs_616 : List (Nat × List Nat) := [(22, [0]), (33, [1]), (65, [2]), (98, [3]), (104, [4]), (137, [3])]
def hs_616 : List (Nat × List Nat) := []
def nd_616_0p : zS := ([ui0, (0, 1), ui2327, (0, 1), ui31, (0, 6)], (cx_609pr_0 (cx_609pr_1 [])), [], [uV2, uV75], [], (cx_616pf_0 (cx_616pf_1 [])), [uG2290, uG2315])
def nd_616_0 : zN := (2, nd_616_0p, (494, [(5, (-24))]))
def nd_616_1pr_0 (t : List (Nat × Bool)) : List (Nat × Bool) := ur1414 :: ur1461 :: ur1462 :: ur1472 :: ur1473 :: ur1474 :: ur1475 :: ur1476 :: t
def nd_616_1pr_1 (t : List (Nat × Bool)) : List (Nat × Bool) := ur1470 :: ur1471 :: ur1463 :: t
def nd_616_1pf_0 (t : List zFa) : List zFa := uF2110 :: uF1964 :: uF1965 :: uF1966 :: uF1477 :: uF1478 :: uF2105 :: uF2106 :: t
def nd_616_1pf_1 (t : List zFa) : List zFa := uF2107 :: uF2108 :: uF2109 :: uF1708 :: uF1709 :: t
def nd_616_1p : zS := ([ui0, (0, 1), ui2327, (0, 1), ui31, (0, 6)], (nd_616_1pr_0 (nd_616_1pr_1 [])), [], [uV2, uV75], [], (nd_616_1pf_0 (nd_616_1pf_1 [])), [uG2290, uG2315])
def nd_616_1 : zN := (45, nd_616_1p, (340, [(5, (-54))]))
def ns_616 : List zN := [nd_616_0, nd_616_1]
set_option maxRecDepth 1000000 in
theorem ca_616 : x_okA mLT1 cq_616 mTS2 mTC2 mRUp cx_616 cs_616 hs_616 ns_616 (497, []) 77615 56 = true := by decide +kernel
set_option maxRecDepth 1000000 in
theorem cb_616_0 : x_okB mLT1 cq_616 mTS2 mTC2 mRUp cx_616 cs_616 hs_616 ns_616 (497, []) 77615 56 nd_616_0 = true := by decide +kernel
set_option maxRecDepth 1000000 in
theorem cb_616_1 : x_okB mLT1 cq_616 mTS2 mTC2 mRUp cx_616 cs_616 hs_616 ns_616 (497, []) 77615 56 nd_616_1 = true := by decide +kernel
set_option maxRecDepth 1000000 in
theorem cc_616 : x_okC mLT1 cq_616 mTS2 mTC2 mRUp cx_616 cs_616 hs_616 ns_616 (497, []) 77615 56 = true := by decide +kernel
theorem ck_616 : x_ok mLT1 cq_616 mTS2 mTC2 mRUp cx_616 cs_616 hs_616 ns_616 (497, []) 77615 56 = true := x_ok_of ca_616 (List.forall_mem_cons.mpr ⟨cb_616_0, List.forall_mem_cons.mpr ⟨cb_616_1, fun _ h => absurd h List.not_mem_nil⟩⟩) cc_616
theorem sn_616 {W : Bool} {X : List Int32} : y_Snd (mGw W) mLT1 (J2 W X) X cx_616 := y_ok J2_J mTS2_ok1 mTC2_ok1 mRUp_ok1 (List.forall_mem_cons.mpr ⟨sn_613, List.forall_mem_cons.mpr ⟨sn_614, List.forall_mem_cons.mpr ⟨sn_615, List.forall_mem_cons.mpr ⟨sn_536, List.forall_mem_cons.mpr ⟨sn_527, fun _ h => absurd h List.not_mem_nil⟩⟩⟩⟩⟩) ck_616
def cx_617pf_0 (t : List zFa) : List zFa := uF2098 :: uF2204 :: uF2205 :: uF1477 :: uF1478 :: uF2105 :: uF2106 :: uF2107 :: t
def cx_617pf_1 (t : List zFa) : List zFa := uF2108 :: uF2109 :: uF1708 :: uF1709 :: t
def cx_617p : zS := ([ui0, ui49, (0, 1), ui49, (0, 1), ui31], (cx_609pr_0 (cx_609pr_1 [])), [], [], [uV2, uV11], (cx_617pf_0 (cx_617pf_1 [])), [uG2145, uG2317])
/-- M.lasts -/
def cx_617 : zCtx := (266, cx_617p, [([ui0, ui802, (0, 1), ui49, (0, 1), ui31], [ur1414, ur1461, ur1462, ur1472, ur1473, ur1474, ur1475, ur1476, ur1470, ur1471], [], [], [uV61], [uF2204, uF2205], []), ([ui0, ui262, (0, 1), ui49, (0, 1), ui31], [ur1414, ur1461, ur1462, ur1472, ur1473, ur1474, ur1475, ur1476, ur1470, ur1471], [], [], [uV61], [uF2204, uF2205], []), ([ui0, ui586, (0, 1), ui49, (0, 1), ui31, ui1219, ui196], [ur1414, ur1461, ur1462, ur1472, ur1473, ur1474, ur1475, ur1476, ur1470, ur1471], [], [], [uV108], [uF2326, uF2328], []), ([ui0, ui586, (0, 1), ui49, (0, 1), ui31, ui196], [ur1414, ur1461, ur1462, ur1472, ur1473, ur1474, ur1475, ur1476, ur1470, ur1471], [], [], [uV568], [uF2326, uF2329], [])], kc_82, 78881, 7, 153)
def cz_617_0f_0 (t : List zFa) : List zFa := uF2326 :: uF2328 :: uF2098 :: uF1477 :: uF1478 :: uF2105 :: uF2106 :: uF2107 :: t
def cz_617_0f_1 (t : List zFa) : List zFa := uF2108 :: uF2109 :: uF1708 :: uF1709 :: t
def cz_617_0 : zS := ([ui0, ui586, (0, 1), ui49, (0, 1), ui31, ui847, ui196], (cx_609pr_0 (cx_609pr_1 [])), [], [uV2, uV11, uV108], [], (cz_617_0f_0 (cz_617_0f_1 [])), [uG2145, uG2317])
set_option maxRecDepth 1000000 in
theorem ck_617 : x_ok mLT1 [cx_567, cx_603, cx_612, cx_616] mTS2 mTC2 mRUp cx_617 [(1, [0]), (10, [1]), (23, [2]), (32, [3])] [] [(15, cz_617_0, (761, [(6, (-12))]))] (769, []) 78112 14 = true := by decide +kernel
theorem sn_617 {W : Bool} {X : List Int32} : y_Snd (mGw W) mLT1 (J2 W X) X cx_617 := y_ok J2_J mTS2_ok1 mTC2_ok1 mRUp_ok1 (List.forall_mem_cons.mpr ⟨sn_567, List.forall_mem_cons.mpr ⟨sn_603, List.forall_mem_cons.mpr ⟨sn_612, List.forall_mem_cons.mpr ⟨sn_616, fun _ h => absurd h List.not_mem_nil⟩⟩⟩⟩) ck_617
def cx_618pi_0 (t : List (Int × Int)) : List (Int × Int) := ui0 :: ui1066 :: (0, 1) :: ui49 :: (0, 1) :: ui31 :: (0, 6) :: (0, 6) :: t
def cx_618pi_1 (t : List (Int × Int)) : List (Int × Int) := ui49 :: ui49 :: (0, 6) :: t
def cx_618pf_0 (t : List zFa) : List zFa := uF2098 :: uF2204 :: uF2205 :: uF1477 :: uF1478 :: uF2105 :: uF2106 :: uF2107 :: t
def cx_618pf_1 (t : List zFa) : List zFa := uF2108 :: uF2109 :: uF1708 :: uF1709 :: uF2110 :: uF2111 :: uF2112 :: uF1998 :: t
def cx_618pf_2 (t : List zFa) : List zFa := uF2195 :: uF2308 :: t
def cx_618p : zS := ((cx_618pi_0 (cx_618pi_1 [])), (cx_551pr_0 (cx_551pr_1 [])), [uL2186], [], [uV2, uV11], (cx_618pf_0 (cx_618pf_1 (cx_618pf_2 []))), [uG2145, uG2317, uG2202, uG2203, uG2255, uG1363])
/-- M.quarrel -/
def cx_618 : zCtx := (268, cx_618p, [([ui0, ui1066, (0, 1), ui49, (0, 1), ui31, (0, 6), (0, 6), ui49, ui49, (0, 6)], [ur1414, ur1461, ur1462, ur1472, ur1473, ur1474, ur1475, ur1476, ur1470, ur1471, ur1463, ur1575, ur1576, ur1465, ur1963], [], [], [uV61], [], [uG1363])], [], 16, 1, 22)
set_option maxRecDepth 1000000 in
theorem ck_618 : x_ok mLT1 [cx_517] mTS2 mTC2 mRUp cx_618 [(3, [0])] [] [] (7, []) 9 10 = true := by decide +kernel
theorem sn_618 {W : Bool} {X : List Int32} : y_Snd (mGw W) mLT1 (J2 W X) X cx_618 := y_ok J2_J mTS2_ok1 mTC2_ok1 mRUp_ok1 (List.forall_mem_cons.mpr ⟨sn_517, fun _ h => absurd h List.not_mem_nil⟩) ck_618
def cx_619pi_0 (t : List (Int × Int)) : List (Int × Int) := ui0 :: ui262 :: (0, 1) :: ui49 :: (0, 1) :: ui31 :: (0, 6) :: (0, 6) :: t
def cx_619pi_1 (t : List (Int × Int)) : List (Int × Int) := ui49 :: ui49 :: (0, 6) :: t
def cx_619p : zS := ((cx_619pi_0 (cx_619pi_1 [])), (cx_551pr_0 (cx_551pr_1 [])), [uL2186], [], [uV2, uV11], (cx_618pf_0 (cx_618pf_1 (cx_618pf_2 []))), [uG2145, uG2317, uG2202, uG2203, uG2255, uG1363])
/-- M.quarrel -/
def cx_619 : zCtx := (268, cx_619p, [([ui0, ui262, (0, 1), ui49, (0, 1), ui31, (0, 6), (0, 6), ui49, ui49, (0, 6)], [ur1414, ur1461, ur1462, ur1472, ur1473, ur1474, ur1475, ur1476, ur1470, ur1471, ur1463, ur1575, ur1576, ur1465, ur1963], [], [], [uV61], [], [uG1363])], [], 16, 1, 22)
set_option maxRecDepth 1000000 in
theorem ck_619 : x_ok mLT1 [cx_517] mTS2 mTC2 mRUp cx_619 [(3, [0])] [] [] (7, []) 9 10 = true := by decide +kernel
theorem sn_619 {W : Bool} {X : List Int32} : y_Snd (mGw W) mLT1 (J2 W X) X cx_619 := y_ok J2_J mTS2_ok1 mTC2_ok1 mRUp_ok1 (List.forall_mem_cons.mpr ⟨sn_517, fun _ h => absurd h List.not_mem_nil⟩) ck_619
def cx_620pi_0 (t : List (Int × Int)) : List (Int × Int) := ui0 :: (0, 0) :: (0, 1) :: ui49 :: (0, 1) :: ui31 :: (0, 6) :: (0, 6) :: t
def cx_620pi_1 (t : List (Int × Int)) : List (Int × Int) := ui49 :: ui49 :: (0, 6) :: t
def cx_620p : zS := ((cx_620pi_0 (cx_620pi_1 [])), (cx_551pr_0 (cx_551pr_1 [])), [uL2186], [], [uV2, uV11], (cx_618pf_0 (cx_618pf_1 (cx_618pf_2 []))), [uG2145, uG2317, uG2202, uG2203, uG2255, uG1363])
def cx_620q0i_0 (t : List (Int × Int)) : List (Int × Int) := ui0 :: (0, 0) :: (0, 1) :: ui49 :: (0, 1) :: ui31 :: (0, 6) :: (0, 6) :: t
def cx_620q0i_1 (t : List (Int × Int)) : List (Int × Int) := ui49 :: ui49 :: (0, 6) :: ui49 :: ui49 :: t
def cx_620q0 : zS := ((cx_620q0i_0 (cx_620q0i_1 [])), (cx_551pr_0 (cx_551pr_1 [])), [], [], [uV843], [], [uG1973, uG1363, (238, [uL641, uL104, uL63, uL63, uL63, uL63, uL63, uL63, uL79, uL195, uL214])])
/-- M.quarrel -/
def cx_620 : zCtx := (268, cx_620p, [cx_620q0], [uk2141, uk1974, uk1975, uk2133, uk2142, uk1976], 77828, 5, 108)
def cz_620_0i_0 (t : List (Int × Int)) : List (Int × Int) := ui0 :: (0, 0) :: (0, 1) :: ui49 :: (0, 1) :: ui31 :: (0, 6) :: (0, 6) :: t
def cz_620_0i_1 (t : List (Int × Int)) : List (Int × Int) := ui49 :: ui49 :: (0, 6) :: ui1332 :: ui1121 :: (1, 6) :: ui196 :: t
def cz_620_0r_0 (t : List (Nat × Bool)) : List (Nat × Bool) := ur1414 :: ur1461 :: ur1462 :: ur1472 :: ur1473 :: ur1474 :: ur1475 :: ur1476 :: t
def cz_620_0r_1 (t : List (Nat × Bool)) : List (Nat × Bool) := ur1470 :: ur1471 :: ur1463 :: ur1575 :: ur1576 :: ur1465 :: ur1963 :: ur1469 :: t
def cz_620_0r_2 (t : List (Nat × Bool)) : List (Nat × Bool) := ur1983 :: t
def cz_620_0f_0 (t : List zFa) : List zFa := uF1970 :: (0, (false, 49, 0, []), 0, 0, 0, [(14, 1)]) :: (0, (false, 30, 0, []), 2, 15, 0, []) :: (0, (false, 47, 0, []), 2, 16, 0, []) :: uF2098 :: uF1477 :: uF1478 :: uF2105 :: t
def cz_620_0f_1 (t : List zFa) : List zFa := uF2106 :: uF2107 :: uF2108 :: uF2109 :: uF1708 :: uF1709 :: uF2110 :: uF2111 :: t
def cz_620_0f_2 (t : List zFa) : List zFa := uF2112 :: uF1998 :: uF2195 :: (14, (true, 0, 24, []), 0, 0, 0, [(7, 1)]) :: t
def cz_620_0g_0 (t : List zTg) : List zTg := uG1973 :: uG2145 :: uG2317 :: uG2202 :: uG2203 :: uG2255 :: uG1363 :: (237, [uL78, uL104, uL63, uL63, uL63, uL63, uL63, uL63]) :: t
def cz_620_0g_1 (t : List zTg) : List zTg := (237, [uL78, uL63, uL63, uL63, uL63, uL63, uL63, uL63]) :: (238, [uL641, uL104, uL63, uL63, uL63, uL63, uL63, uL63, uL207, uL195, uL214]) :: t
def cz_620_0 : zS := ((cz_620_0i_0 (cz_620_0i_1 [])), (cz_620_0r_0 (cz_620_0r_1 (cz_620_0r_2 []))), [uL2186, uL2330], [uV2, uV11, uV843, uV198, uV409, uV113], [], (cz_620_0f_0 (cz_620_0f_1 (cz_620_0f_2 []))), (cz_620_0g_0 (cz_620_0g_1 [])))
set_option maxRecDepth 1000000 in
theorem ck_620 : x_ok mLT1 [cx_517, cx_521, cx_551] mTS2 mTC2 mRUp cx_620 [(3, [0]), (12, [1]), (57, [2])] [(15, uN2331), (22, [1001278]), (47, [1001279]), (57, [1001280]), (60, [1001281]), (69, [1000012]), (75, uN2332), (81, [1001284]), (87, [1001285])] [(24, cz_620_0, (209, [(1, (-100000000000)), (13, (-33))]))] (190, []) 77638 35 = true := by decide +kernel
theorem sn_620 {W : Bool} {X : List Int32} : y_Snd (mGw W) mLT1 (J2 W X) X cx_620 := y_ok J2_J mTS2_ok1 mTC2_ok1 mRUp_ok1 (List.forall_mem_cons.mpr ⟨sn_517, List.forall_mem_cons.mpr ⟨sn_521, List.forall_mem_cons.mpr ⟨sn_551, fun _ h => absurd h List.not_mem_nil⟩⟩⟩) ck_620
def cx_621pi_0 (t : List (Int × Int)) : List (Int × Int) := ui0 :: (1, 1) :: (0, 1) :: ui49 :: (0, 1) :: ui31 :: (0, 6) :: (0, 6) :: t
def cx_621pi_1 (t : List (Int × Int)) : List (Int × Int) := ui49 :: ui49 :: (0, 6) :: t
def cx_621p : zS := ((cx_621pi_0 (cx_621pi_1 [])), (cx_551pr_0 (cx_551pr_1 [])), [uL2186], [], [uV2, uV11], (cx_618pf_0 (cx_618pf_1 (cx_618pf_2 []))), [uG2145, uG2317, uG2202, uG2203, uG2255, uG1363])
def cx_621q0i_0 (t : List (Int × Int)) : List (Int × Int) := ui0 :: (1, 1) :: (0, 1) :: ui49 :: (0, 1) :: ui31 :: (0, 6) :: (0, 6) :: t
def cx_621q0i_1 (t : List (Int × Int)) : List (Int × Int) := ui49 :: ui49 :: (0, 6) :: ui49 :: ui49 :: t
def cx_621q0 : zS := ((cx_621q0i_0 (cx_621q0i_1 [])), (cx_551pr_0 (cx_551pr_1 [])), [], [], [uV843], [], [uG1973, uG1363, (238, [uL641, uL104, uL63, uL63, uL63, uL63, uL63, uL63, uL79, uL214, uL195])])
/-- M.quarrel -/
def cx_621 : zCtx := (268, cx_621p, [cx_621q0], [uk2141, uk1974, uk1975, uk2133, uk2142, uk1976], 77827, 5, 108)
def cz_621_0i_0 (t : List (Int × Int)) : List (Int × Int) := ui0 :: (1, 1) :: (0, 1) :: ui49 :: (0, 1) :: ui31 :: (0, 6) :: (0, 6) :: t
def cz_621_0i_1 (t : List (Int × Int)) : List (Int × Int) := ui49 :: ui49 :: (0, 6) :: ui1332 :: ui1121 :: (1, 6) :: ui196 :: t
def cz_621_0 : zS := ((cz_621_0i_0 (cz_621_0i_1 [])), (cz_620_0r_0 (cz_620_0r_1 (cz_620_0r_2 []))), [uL2186, uL2330], [uV2, uV11, uV843, uV198, uV409, uV113], [], (cz_620_0f_0 (cz_620_0f_1 (cz_620_0f_2 []))), (cz_620_0g_0 (cz_620_0g_1 [])))
set_option maxRecDepth 1000000 in
theorem ck_621 : x_ok mLT1 [cx_517, cx_521, cx_551] mTS2 mTC2 mRUp cx_621 [(3, [0]), (12, [1]), (57, [2])] [(15, uN2331), (22, [1001278]), (47, [1001279]), (57, [1001280]), (60, [1001281]), (69, [1000012]), (75, uN2332), (81, [1001284]), (87, [1001285])] [(24, cz_621_0, ((-99999999792), [(1, 100000000000), (13, (-33))]))] (189, []) 77638 35 = true := by decide +kernel
theorem sn_621 {W : Bool} {X : List Int32} : y_Snd (mGw W) mLT1 (J2 W X) X cx_621 := y_ok J2_J mTS2_ok1 mTC2_ok1 mRUp_ok1 (List.forall_mem_cons.mpr ⟨sn_517, List.forall_mem_cons.mpr ⟨sn_521, List.forall_mem_cons.mpr ⟨sn_551, fun _ h => absurd h List.not_mem_nil⟩⟩⟩) ck_621
/-- M.greyest -/
def cx_622 : zCtx := (269, ([ui0, ui1066, (0, 1), (0, 6), (0, 6), ui49, ui49], [ur1414, ur1463, ur1983], [uL512], [], [uV2, uV11], [uF2098, uF1578, uF2121], [uG2100, uG605]), [([ui0, ui1066, (0, 1), (0, 6), (0, 6), ui49, ui49], [ur1414, ur1463, ur1983], [], [], [uV61], [], [uG605])], [], 16, 1, 22)
set_option maxRecDepth 1000000 in
theorem ck_622 : x_ok mLT1 [cx_517] mTS2 mTC2 mRUp cx_622 [(3, [0])] [] [] (7, []) 9 10 = true := by decide +kernel
theorem sn_622 {W : Bool} {X : List Int32} : y_Snd (mGw W) mLT1 (J2 W X) X cx_622 := y_ok J2_J mTS2_ok1 mTC2_ok1 mRUp_ok1 (List.forall_mem_cons.mpr ⟨sn_517, fun _ h => absurd h List.not_mem_nil⟩) ck_622
/-- M.greyest -/
def cx_623 : zCtx := (269, ([ui0, ui262, (0, 1), (0, 6), (0, 6), ui49, ui49], [ur1414, ur1463, ur1983], [uL512], [], [uV2, uV11], [uF2098, uF1578, uF2121], [uG2100, uG605]), [([ui0, ui262, (0, 1), (0, 6), (0, 6), ui49, ui49], [ur1414, ur1463, ur1983], [], [], [uV61], [], [uG605])], [], 16, 1, 22)
set_option maxRecDepth 1000000 in
theorem ck_623 : x_ok mLT1 [cx_517] mTS2 mTC2 mRUp cx_623 [(3, [0])] [] [] (7, []) 9 10 = true := by decide +kernel
theorem sn_623 {W : Bool} {X : List Int32} : y_Snd (mGw W) mLT1 (J2 W X) X cx_623 := y_ok J2_J mTS2_ok1 mTC2_ok1 mRUp_ok1 (List.forall_mem_cons.mpr ⟨sn_517, fun _ h => absurd h List.not_mem_nil⟩) ck_623
/-- M.greyest -/
def cx_624 : zCtx := (269, ([ui0, (0, 0), (0, 1), (0, 6), (0, 6), ui49, ui49], [ur1414, ur1463, ur1983], [uL512], [], [uV2, uV11], [uF2098, uF1578, uF2121], [uG2100, uG605]), [([ui0, (0, 0), (0, 1), (0, 6), (0, 6), ui49, ui49, ui49], [ur1414, ur1463, ur1983], [], [], [uV142], [], [uG605, uG2333])], [], 248, 1, 22)
def cz_624_0i_0 (t : List (Int × Int)) : List (Int × Int) := ui0 :: (0, 0) :: (0, 1) :: (0, 6) :: (0, 6) :: ui49 :: ui49 :: ui1332 :: t
def cz_624_0i_1 (t : List (Int × Int)) : List (Int × Int) := (0, 6) :: t
def cz_624_0 : zS := ((cz_624_0i_0 (cz_624_0i_1 [])), [ur1414, ur1463, ur1983], [uL512, uL131, uL2334], [uV2, uV11, uV142, uV144], [], [uF2098, uF1578, uF2121], [uG2100, uG605, uG2335])
set_option maxRecDepth 1000000 in
theorem ck_624 : x_ok mLT1 [cx_517] mTS2 mTC2 mRUp cx_624 [(3, [0])] [(13, [1001286]), (24, [1000863]), (65, uN2336), (68, uN2337), (70, [1001289]), (76, [1001292]), (105, [1001291])] [(16, cz_624_0, (229, [(1, (-100000000000)), (8, (-36))]))] (239, []) 9 38 = true := by decide +kernel
theorem sn_624 {W : Bool} {X : List Int32} : y_Snd (mGw W) mLT1 (J2 W X) X cx_624 := y_ok J2_J mTS2_ok1 mTC2_ok1 mRUp_ok1 (List.forall_mem_cons.mpr ⟨sn_517, fun _ h => absurd h List.not_mem_nil⟩) ck_624
/-- M.greyest -/
def cx_625 : zCtx := (269, ([ui0, (1, 1), (0, 1), (0, 6), (0, 6), ui49, ui49], [ur1414, ur1463, ur1983], [uL512], [], [uV2, uV11], [uF2098, uF1578, uF2121], [uG2100, uG605]), [([ui0, (1, 1), (0, 1), (0, 6), (0, 6), ui49, ui49, ui49, (0, 5)], [ur1414, ur1463, ur1983], [], [], [uV142], [], [uG605, (238, [uL635, uL63, uL63, uL63, uL63, uL63, uL63, uL63, uL98, uL131, uL63]), (238, [uL670, uL63, uL63, uL63, uL63, uL63, uL63, uL63, uL131, uL63, uL79])]), ([ui0, (1, 1), (0, 1), (0, 6), (0, 6), ui49, ui49, ui49], [ur1414, ur1463, ur1983], [((-1), [(7, (-1))])], [], [uV142], [], [uG605, uG2333])], [], 257, 1, 22)
def cz_625_0i_0 (t : List (Int × Int)) : List (Int × Int) := ui0 :: (1, 1) :: (0, 1) :: (0, 6) :: (0, 6) :: ui49 :: ui49 :: ui1332 :: t
def cz_625_0i_1 (t : List (Int × Int)) : List (Int × Int) := (0, 6) :: t
def cz_625_0 : zS := ((cz_625_0i_0 (cz_625_0i_1 [])), [ur1414, ur1463, ur1983], [uL512, uL131, uL2334], [uV2, uV11, uV142, uV144], [], [uF2098, uF1578, uF2121], [uG2100, uG605, uG2335])
set_option maxRecDepth 1000000 in
theorem ck_625 : x_ok mLT1 [cx_517] mTS2 mTC2 mRUp cx_625 [(3, [0])] [(13, [1001286]), (24, [1000863]), (65, uN2336), (68, uN2337), (70, [1001289]), (76, [1001292]), (88, [1000739]), (105, [1001291])] [(16, cz_625_0, ((-99999999762), [(1, 100000000000), (8, (-36))]))] (248, []) 9 38 = true := by decide +kernel
theorem sn_625 {W : Bool} {X : List Int32} : y_Snd (mGw W) mLT1 (J2 W X) X cx_625 := y_ok J2_J mTS2_ok1 mTC2_ok1 mRUp_ok1 (List.forall_mem_cons.mpr ⟨sn_517, fun _ h => absurd h List.not_mem_nil⟩) ck_625
/-- M.share -/
def cx_626 : zCtx := (270, ([ui0, ui49, (0, 1), ui49, (0, 1), (0, 6), (0, 6), ui49, ui49], [ur1414, ur1963, ur1463], [uL577, uL165], [], [uV2, uV11], [uF2098, uF2204, uF2205, uF1967, uF2207], [uG2300, uG469]), [([ui0, ui49, (0, 1), ui49, (0, 1), (0, 6), (0, 6), ui49, ui49], [ur1414, ur1963, ur1463], [uL165], [], [uV61], [], [uG469])], [], 26, 2, 43)
set_option maxRecDepth 1000000 in
theorem ck_626 : x_ok mLT1 [cx_518] mTS2 mTC2 mRUp cx_626 [(2, [0])] [] [] (6, []) 20 9 = true := by decide +kernel
theorem sn_626 {W : Bool} {X : List Int32} : y_Snd (mGw W) mLT1 (J2 W X) X cx_626 := y_ok J2_J mTS2_ok1 mTC2_ok1 mRUp_ok1 (List.forall_mem_cons.mpr ⟨sn_518, fun _ h => absurd h List.not_mem_nil⟩) ck_626
def cx_627q1i_0 (t : List (Int × Int)) : List (Int × Int) := ui0 :: (0, 5) :: (0, 1) :: ui49 :: (0, 1) :: (0, 6) :: (0, 6) :: ui49 :: t
def cx_627q1i_1 (t : List (Int × Int)) : List (Int × Int) := ui49 :: ui49 :: ui49 :: ui49 :: t
def cx_627q1g_0 (t : List zTg) : List zTg := uG1973 :: uG469 :: (238, [uL34, uL63, uL63, uL63, uL63, uL63, uL63, uL63, uL566, uL63, uL170]) :: (238, [uL65, uL63, uL63, uL63, uL63, uL63, uL63, uL63, uL63, uL78, uL195]) :: (107, [(0, [(10, 1000)]), uL195, uL164]) :: t
def cx_627q1 : zS := ((cx_627q1i_0 (cx_627q1i_1 [])), [ur1414, ur1963, ur1463], [((-1), [(10, 1)]), uL9, uL578], [], [uV781], [], (cx_627q1g_0 []))
/-- M.share -/
def cx_627 : zCtx := (270, ([ui0, (0, 5), (0, 1), ui49, (0, 1), (0, 6), (0, 6), ui49, ui49], [ur1414, ur1963, ur1463], [uL577, uL9, uL578], [], [uV2, uV11], [uF2098, uF2204, uF2205, uF1967, uF2207], [uG2300, uG469]), [([ui0, (0, 5), (0, 1), ui49, (0, 1), (0, 6), (0, 6), ui49, ui49, ui49], [ur1414, ur1963, ur1463], [(0, [(9, (-1))]), uL9, uL578], [], [uV62], [], [uG1973, uG469, (238, [uL34, uL63, uL63, uL63, uL63, uL63, uL63, uL63, uL566, uL63, uL164])]), cx_627q1], [uk1974, uk1975, uk1976], 468, 2, 43)
set_option maxRecDepth 1000000 in
theorem ck_627 : x_ok mLT1 [cx_518, cx_521, cx_527, cx_569] mTS2 mTC2 mRUp cx_627 [(2, [0]), (11, [1]), (16, [2]), (36, [3])] [(14, [1000823]), (22, [64, 1000824]), (34, [1000824]), (39, [1000925, 1001277, 1000023]), (43, [1000824])] [] (23, []) 445 26 = true := by decide +kernel
theorem sn_627 {W : Bool} {X : List Int32} : y_Snd (mGw W) mLT1 (J2 W X) X cx_627 := y_ok J2_J mTS2_ok1 mTC2_ok1 mRUp_ok1 (List.forall_mem_cons.mpr ⟨sn_518, List.forall_mem_cons.mpr ⟨sn_521, List.forall_mem_cons.mpr ⟨sn_527, List.forall_mem_cons.mpr ⟨sn_569, fun _ h => absurd h List.not_mem_nil⟩⟩⟩⟩) ck_627
/-- M.share -/
def cx_628 : zCtx := (270, ([ui0, ui49, (0, 1), ui49, (0, 1), (0, 6), (0, 6), ui49, ui49], [ur1414, ur1963, ur1463], [uL577, uL569], [], [uV2, uV11], [uF2098, uF2204, uF2205, uF1967, uF2207], [uG2300, uG469]), [([ui0, ui49, (0, 1), ui49, (0, 1), (0, 6), (0, 6), ui49, ui49], [ur1414, ur1963, ur1463], [uL569], [], [uV61], [], [uG469])], [], 26, 2, 43)
set_option maxRecDepth 1000000 in
theorem ck_628 : x_ok mLT1 [cx_518] mTS2 mTC2 mRUp cx_628 [(2, [0])] [] [] (6, []) 20 9 = true := by decide +kernel
theorem sn_628 {W : Bool} {X : List Int32} : y_Snd (mGw W) mLT1 (J2 W X) X cx_628 := y_ok J2_J mTS2_ok1 mTC2_ok1 mRUp_ok1 (List.forall_mem_cons.mpr ⟨sn_518, fun _ h => absurd h List.not_mem_nil⟩) ck_628
/-- M.spareLeast -/
def cx_629 : zCtx := (263, ([ui0, (0, 1), ui31], [ur1414, ur1461, ur1462, ur1472, ur1473, ur1474, ur1475, ur1476, ur1470, ur1471], [], [], [uV2], [uF1964, uF1477, uF1478, uF2105, uF2106, uF2107, uF2108, uF2109, uF1708, uF1709], [uG2290, uG2309]), [([ui0, (0, 1), ui31, ui49], [ur1414, ur1461, ur1462, ur1472, ur1473, ur1474, ur1475, ur1476, ur1470, ur1471], [], [], [uV58], [], [])], [uk2141, uk2133, uk2142], 78132, 6, 131)
def cz_629_0f_0 (t : List zFa) : List zFa := uF1964 :: uF1477 :: uF1478 :: uF2105 :: uF2106 :: uF2107 :: uF2108 :: uF2109 :: t
def cz_629_0f_1 (t : List zFa) : List zFa := uF1708 :: uF1709 :: t
def cz_629_0 : zS := ([ui0, (0, 1), ui31, ui49, ui425], (cx_609pr_0 (cx_609pr_1 [])), [], [uV2, uV58, uV97], [], (cz_629_0f_0 (cz_629_0f_1 [])), [uG2290, uG2309])
set_option maxRecDepth 1000000 in
theorem ck_629 : x_ok mLT1 [cx_611] mTS2 mTC2 mRUp cx_629 [(21, [0]), (30, [0])] [] [(6, cz_629_0, (450, [(4, (-20))]))] (455, []) 77677 22 = true := by decide +kernel
theorem sn_629 {W : Bool} {X : List Int32} : y_Snd (mGw W) mLT1 (J2 W X) X cx_629 := y_ok J2_J mTS2_ok1 mTC2_ok1 mRUp_ok1 (List.forall_mem_cons.mpr ⟨sn_611, fun _ h => absurd h List.not_mem_nil⟩) ck_629
/-- M.mostOf -/
def cx_630 : zCtx := (262, ([ui0, (0, 1), ui31], [ur1414, ur1461, ur1462, ur1472, ur1473, ur1474, ur1475, ur1476, ur1470, ur1471], [], [], [uV2], [uF1964, uF1477, uF1478, uF2105, uF2106, uF2107, uF2108, uF2109, uF1708, uF1709], [uG2290, uG2309]), [([ui0, (0, 1), ui31], [ur1414, ur1461, ur1462, ur1472, ur1473, ur1474, ur1475, ur1476, ur1470, ur1471], [], [], [uV568], [], []), ([ui0, (0, 1), ui31], [ur1414, ur1461, ur1462, ur1472, ur1473, ur1474, ur1475, ur1476, ur1470, ur1471], [], [], [(0, 0, 999, [])], [], []), ([ui0, (0, 1), ui31, ui586], [ur1414, ur1461, ur1462, ur1472, ur1473, ur1474, ur1475, ur1476, ur1470, ur1471], [], [], [uV58], [], [])], [uk2141, uk2133, uk2142], 78143, 7, 153)
set_option maxRecDepth 1000000 in
theorem ck_630 : x_ok mLT1 [cx_629] mTS2 mTC2 mRUp cx_630 [(1, [0])] [] [] (11, []) 78132 14 = true := by decide +kernel
theorem sn_630 {W : Bool} {X : List Int32} : y_Snd (mGw W) mLT1 (J2 W X) X cx_630 := y_ok J2_J mTS2_ok1 mTC2_ok1 mRUp_ok1 (List.forall_mem_cons.mpr ⟨sn_629, fun _ h => absurd h List.not_mem_nil⟩) ck_630
def cx_631p : zS := ([ui0, (0, 1), ui49, (0, 1), ui31], (cx_609pr_0 (cx_609pr_1 [])), [], [], [uV2], (cx_616pf_0 (cx_616pf_1 [])), [uG2290, uG2315])
/-- M.swap -/
def cx_631 : zCtx := (271, cx_631p, [([ui0, (0, 1), ui49, (0, 1), ui31, ui1331, ui196], [ur1414, ur1461, ur1462, ur1472, ur1473, ur1474, ur1475, ur1476, ur1470, ur1471], [], [], [uV75], [uF1970, uF2329], [uG1973])], [uk2141, uk1974, uk1975, uk2133, uk2142, uk1976], 79721, 8, 174)
def cz_631_0i_0 (t : List (Int × Int)) : List (Int × Int) := ui0 :: (0, 1) :: ui49 :: (0, 1) :: ui31 :: ui1121 :: ui1331 :: (0, 6) :: t
def cz_631_0i_1 (t : List (Int × Int)) : List (Int × Int) := ui196 :: t
def cz_631_0r_0 (t : List (Nat × Bool)) : List (Nat × Bool) := ur1414 :: ur1461 :: ur1462 :: ur1472 :: ur1473 :: ur1474 :: ur1475 :: ur1476 :: t
def cz_631_0r_1 (t : List (Nat × Bool)) : List (Nat × Bool) := ur1470 :: ur1471 :: ur1469 :: ur1983 :: ur1963 :: t
def cz_631_0f_0 (t : List zFa) : List zFa := uF1970 :: uF2338 :: uF2339 :: uF2340 :: uF2341 :: uF1964 :: uF1477 :: uF1478 :: t
def cz_631_0f_1 (t : List zFa) : List zFa := uF2105 :: uF2106 :: uF2107 :: uF2108 :: uF2109 :: uF1708 :: uF1709 :: t
def cz_631_0 : zS := ((cz_631_0i_0 (cz_631_0i_1 [])), (cz_631_0r_0 (cz_631_0r_1 [])), [], [uV2, uV75, uV108, uV142, uV113], [], (cz_631_0f_0 (cz_631_0f_1 [])), [uG1973, uG2290, uG2315])
def cz_631_1i_0 (t : List (Int × Int)) : List (Int × Int) := ui0 :: (0, 1) :: ui49 :: (0, 1) :: ui31 :: ui1121 :: ui1331 :: (0, 5) :: t
def cz_631_1i_1 (t : List (Int × Int)) : List (Int × Int) := (1, 6) :: ui196 :: t
def cz_631_1f_0 (t : List zFa) : List zFa := uF1970 :: uF2342 :: uF2339 :: uF2340 :: uF2341 :: uF1964 :: uF1477 :: uF1478 :: t
def cz_631_1f_1 (t : List zFa) : List zFa := uF2105 :: uF2106 :: uF2107 :: uF2108 :: uF2109 :: uF1708 :: uF1709 :: t
def cz_631_1 : zS := ((cz_631_1i_0 (cz_631_1i_1 [])), (cz_631_0r_0 (cz_631_0r_1 [])), [], [uV2, uV75, uV108, uV142, uV144], [], (cz_631_1f_0 (cz_631_1f_1 [])), [uG1973, uG2290, uG2315])
set_option maxRecDepth 1000000 in
theorem ck_631 : x_ok mLT1 [cx_521, cx_630] mTS2 mTC2 mRUp cx_631 [(1, [0]), (5, [1]), (43, [0]), (85, [1]), (104, [1])] [] [(14, cz_631_0, (1568, [(7, (-260))])), (30, cz_631_1, (1605, [(7, (-212)), (8, (-48))]))] (1578, []) 78143 50 = true := by decide +kernel
theorem sn_631 {W : Bool} {X : List Int32} : y_Snd (mGw W) mLT1 (J2 W X) X cx_631 := y_ok J2_J mTS2_ok1 mTC2_ok1 mRUp_ok1 (List.forall_mem_cons.mpr ⟨sn_521, List.forall_mem_cons.mpr ⟨sn_630, fun _ h => absurd h List.not_mem_nil⟩⟩) ck_631
end
