noncomputable section
/-! ===== readings, by program, checked by the kernel ===== -/
def cx_589pi_0 (t : List (Int × Int)) : List (Int × Int) := ui0 :: (0, 1) :: ui31 :: (0, 6) :: ui49 :: ui49 :: ui49 :: ui49 :: t
def cx_589pi_1 (t : List (Int × Int)) : List (Int × Int) := ui49 :: ui49 :: (0, 6) :: t
def cx_589pf_0 (t : List zFa) : List zFa := uF2028 :: uF1537 :: uF1538 :: uF2169 :: uF2170 :: uF2171 :: uF2172 :: uF2173 :: t
def cx_589pf_1 (t : List zFa) : List zFa := uF1768 :: uF1769 :: uF2174 :: uF2175 :: uF2176 :: uF2062 :: uF2254 :: uF2385 :: t
def cx_589p : zS := ((cx_589pi_0 (cx_589pi_1 [])), (cx_548pr_0 (cx_548pr_1 [])), [uL518], [], [uV2], (cx_589pf_0 (cx_589pf_1 [])), [uG2349, uG2386, uG2387, uG2388, uG2389, uG2390])
/-- M.spareLeast -/
def cx_589 : zCtx := (263, cx_589p, [([ui0, (0, 1), ui31, (0, 6), ui49, ui49, ui49, ui49, ui49, ui49, (0, 6), ui2325], [ur1474, ur1521, ur1522, ur1532, ur1533, ur1534, ur1535, ur1536, ur1530, ur1531, ur1523, ur1635, ur1636, ur1525, ur2027], [uL518], [], [uV873], [], [(238, [uL662, uL67, uL98, uL104, uL78, uL79, uL131, uL163, uL2391, (0, [(10, 2)]), uL193])])], [uk2205, uk2197, uk2206], 78132, 6, 131)
def cz_589_0i_0 (t : List (Int × Int)) : List (Int × Int) := ui0 :: (0, 1) :: ui31 :: (0, 6) :: ui49 :: ui49 :: ui49 :: ui49 :: t
def cz_589_0i_1 (t : List (Int × Int)) : List (Int × Int) := ui49 :: ui49 :: (0, 6) :: ui2325 :: ui424 :: t
def cz_589_0g_0 (t : List zTg) : List zTg := uG2349 :: uG2386 :: uG2387 :: uG2388 :: uG2389 :: uG2390 :: (238, [uL662, uL67, uL98, uL104, uL78, uL79, uL131, uL163, uL2391, uL212, uL193]) :: t
def cz_589_0 : zS := ((cz_589_0i_0 (cz_589_0i_1 [])), (cx_548pr_0 (cx_548pr_1 [])), [uL518, (0, [(10, 2), (12, (-1))])], [uV2, uV873, uV196], [], (cx_589pf_0 (cx_589pf_1 [])), (cz_589_0g_0 []))
set_option maxRecDepth 1000000 in
theorem ck_589 : x_ok mLT1 [cx_570] mTS2 mTC2 mRUp cx_589 [(21, [0]), (30, [0])] [(4, [1001017]), (25, [1000012, 1001018]), (33, [1001019]), (34, [1001020])] [(6, cz_589_0, (450, [(12, (-20))]))] (455, []) 77677 22 = true := by decide +kernel
theorem sn_589 {W : Bool} {X : List Int32} : y_Snd (mGw W) mLT1 (J2 W X) X cx_589 := y_ok J2_J mTS2_ok1 mTC2_ok1 mRUp_ok1 (List.forall_mem_cons.mpr ⟨sn_570, fun _ h => absurd h List.not_mem_nil⟩) ck_589
def cx_590q0 : zS := ((cx_589pi_0 (cx_589pi_1 [])), (cx_548pr_0 (cx_548pr_1 [])), [], [], [uV583], [], [(238, [uL659, uL67, uL98, uL104, uL78, uL79, uL131, uL163, uL63, uL63, uL825]), uG2390])
def cx_590q1i_0 (t : List (Int × Int)) : List (Int × Int) := ui0 :: (0, 1) :: ui31 :: (0, 6) :: ui49 :: ui49 :: ui49 :: ui49 :: t
def cx_590q1i_1 (t : List (Int × Int)) : List (Int × Int) := ui49 :: ui49 :: (0, 6) :: ui600 :: t
def cx_590q1 : zS := ((cx_590q1i_0 (cx_590q1i_1 [])), (cx_548pr_0 (cx_548pr_1 [])), [], [], [uV873], [], [(238, [uL659, uL67, uL98, uL104, uL78, uL79, uL131, uL163, uL63, uL63, uL193]), uG2390])
/-- M.mostOf -/
def cx_590 : zCtx := (262, cx_589p, [cx_590q0, cx_590q1], [uk2205, uk2197, uk2206], 78143, 7, 153)
set_option maxRecDepth 1000000 in
theorem ck_590 : x_ok mLT1 [cx_589] mTS2 mTC2 mRUp cx_590 [(1, [0])] [(9, [1001021]), (21, [1001022]), (27, [1001023])] [] (11, []) 78132 14 = true := by decide +kernel
theorem sn_590 {W : Bool} {X : List Int32} : y_Snd (mGw W) mLT1 (J2 W X) X cx_590 := y_ok J2_J mTS2_ok1 mTC2_ok1 mRUp_ok1 (List.forall_mem_cons.mpr ⟨sn_589, fun _ h => absurd h List.not_mem_nil⟩) ck_590
def cx_591pi_0 (t : List (Int × Int)) : List (Int × Int) := ui0 :: (0, 1) :: ui49 :: (0, 1) :: ui31 :: (0, 6) :: (0, 6) :: ui49 :: t
def cx_591pi_1 (t : List (Int × Int)) : List (Int × Int) := ui49 :: t
def cx_591pf_0 (t : List zFa) : List zFa := uF2028 :: uF2029 :: uF2030 :: uF1537 :: uF1538 :: uF2169 :: uF2170 :: uF2171 :: t
def cx_591pf_1 (t : List zFa) : List zFa := uF2172 :: uF2173 :: uF1768 :: uF1769 :: uF2174 :: uF2175 :: uF2176 :: uF2062 :: t
def cx_591pf_2 (t : List zFa) : List zFa := uF2254 :: t
def cx_591p : zS := ((cx_591pi_0 (cx_591pi_1 [])), (cx_548pr_0 (cx_548pr_1 [])), [uL592], [], [uV2], (cx_591pf_0 (cx_591pf_1 (cx_591pf_2 []))), [uG2349, uG2392, uG2301, uG2393, uG2389, uG475])
/-- M.most -/
def cx_591 : zCtx := (261, cx_591p, [([ui0, (0, 1), ui49, (0, 1), ui31, (0, 6), (0, 6), ui49, ui49, ui600], [ur1474, ur1521, ur1522, ur1532, ur1533, ur1534, ur1535, ur1536, ur1530, ur1531, ur1523, ur1635, ur1636, ur1525, ur2027], [], [], [uV799], [], [uG2037, uG475, (238, [uL659, uL98, uL63, uL63, uL63, uL63, uL63, uL63, uL63, uL63, uL163])]), ([ui0, (0, 1), ui49, (0, 1), ui31, (0, 6), (0, 6), ui49, ui49], [ur1474, ur1521, ur1522, ur1532, ur1533, ur1534, ur1535, ur1536, ur1530, ur1531, ur1523, ur1635, ur1636, ur1525, ur2027], [], [], [uV583], [], [uG2037, uG475, (238, [uL659, uL98, uL63, uL63, uL63, uL63, uL63, uL63, uL63, uL63, uL825])])], [uk2205, uk2038, uk2039, uk2197, uk2206, uk2040], 78148, 8, 174)
set_option maxRecDepth 1000000 in
theorem ck_591 : x_ok mLT1 [cx_518, cx_590] mTS2 mTC2 mRUp cx_591 [(1, [0]), (5, [1])] [(4, uN2259)] [] (5, []) 78143 8 = true := by decide +kernel
theorem sn_591 {W : Bool} {X : List Int32} : y_Snd (mGw W) mLT1 (J2 W X) X cx_591 := y_ok J2_J mTS2_ok1 mTC2_ok1 mRUp_ok1 (List.forall_mem_cons.mpr ⟨sn_518, List.forall_mem_cons.mpr ⟨sn_590, fun _ h => absurd h List.not_mem_nil⟩⟩) ck_591
def cx_592pi_0 (t : List (Int × Int)) : List (Int × Int) := ui0 :: ui1096 :: (0, 1) :: ui49 :: (0, 1) :: ui31 :: (0, 6) :: (0, 6) :: t
def cx_592pi_1 (t : List (Int × Int)) : List (Int × Int) := ui49 :: ui49 :: t
def cx_592pf_0 (t : List zFa) : List zFa := uF2162 :: uF2263 :: uF2264 :: uF1537 :: uF1538 :: uF2169 :: uF2170 :: uF2171 :: t
def cx_592pf_1 (t : List zFa) : List zFa := uF2172 :: uF2173 :: uF1768 :: uF1769 :: uF2174 :: uF2175 :: uF2176 :: uF2062 :: t
def cx_592pf_2 (t : List zFa) : List zFa := uF2254 :: t
def cx_592p : zS := ((cx_592pi_0 (cx_592pi_1 [])), (cx_548pr_0 (cx_548pr_1 [])), [uL2250], [], [uV2, uV11], (cx_592pf_0 (cx_592pf_1 (cx_592pf_2 []))), [uG2209, uG2394, uG2261, uG2262, uG2314, uG1390])
/-- M.weakest -/
def cx_592 : zCtx := (264, cx_592p, [([ui0, ui1096, (0, 1), ui49, (0, 1), ui31, (0, 6), (0, 6), ui49, ui49], [ur1474, ur1521, ur1522, ur1532, ur1533, ur1534, ur1535, ur1536, ur1530, ur1531, ur1523, ur1635, ur1636, ur1525, ur2027], [], [], [uV61], [], [uG1390])], [], 16, 1, 22)
set_option maxRecDepth 1000000 in
theorem ck_592 : x_ok mLT1 [cx_514] mTS2 mTC2 mRUp cx_592 [(3, [0])] [] [] (7, []) 9 10 = true := by decide +kernel
theorem sn_592 {W : Bool} {X : List Int32} : y_Snd (mGw W) mLT1 (J2 W X) X cx_592 := y_ok J2_J mTS2_ok1 mTC2_ok1 mRUp_ok1 (List.forall_mem_cons.mpr ⟨sn_514, fun _ h => absurd h List.not_mem_nil⟩) ck_592
def cx_593pi_0 (t : List (Int × Int)) : List (Int × Int) := ui0 :: (0, 1) :: (0, 1) :: ui49 :: (0, 1) :: ui31 :: (0, 6) :: (0, 6) :: t
def cx_593pi_1 (t : List (Int × Int)) : List (Int × Int) := ui49 :: ui49 :: t
def cx_593p : zS := ((cx_593pi_0 (cx_593pi_1 [])), (cx_548pr_0 (cx_548pr_1 [])), [uL2250], [], [uV2, uV11], (cx_592pf_0 (cx_592pf_1 (cx_592pf_2 []))), [uG2209, uG2394, uG2261, uG2262, uG2314, uG1390])
def cx_593q0i_0 (t : List (Int × Int)) : List (Int × Int) := ui0 :: (0, 1) :: (0, 1) :: ui49 :: (0, 1) :: ui31 :: (0, 6) :: (0, 6) :: t
def cx_593q0i_1 (t : List (Int × Int)) : List (Int × Int) := ui49 :: ui49 :: ui600 :: t
def cx_593q0 : zS := ((cx_593q0i_0 (cx_593q0i_1 [])), (cx_548pr_0 (cx_548pr_1 [])), [], [], [uV583], [], [uG2037, uG1390, uG2395, uG2396])
def cx_593q1i_0 (t : List (Int × Int)) : List (Int × Int) := ui0 :: (0, 0) :: (0, 1) :: ui49 :: (0, 1) :: ui31 :: (0, 6) :: (0, 6) :: t
def cx_593q1i_1 (t : List (Int × Int)) : List (Int × Int) := ui49 :: ui49 :: ui49 :: ui600 :: ui1953 :: t
def cx_593q1g_0 (t : List zTg) : List zTg := uG2037 :: uG1390 :: uG2397 :: uG2398 :: (107, [uL212, uL114, uL169]) :: t
def cx_593q1 : zS := ((cx_593q1i_0 (cx_593q1i_1 [])), (cx_548pr_0 (cx_548pr_1 [])), [], [], [uV854], [], (cx_593q1g_0 []))
def cx_593q2i_0 (t : List (Int × Int)) : List (Int × Int) := ui0 :: (1, 1) :: (0, 1) :: ui49 :: (0, 1) :: ui31 :: (0, 6) :: (0, 6) :: t
def cx_593q2i_1 (t : List (Int × Int)) : List (Int × Int) := ui49 :: ui49 :: (0, 1) :: ui600 :: ui1953 :: t
def cx_593q2g_0 (t : List zTg) : List zTg := uG2037 :: uG1390 :: uG2397 :: uG2398 :: (108, [uL212, uL114, uL2399]) :: t
def cx_593q2 : zS := ((cx_593q2i_0 (cx_593q2i_1 [])), (cx_548pr_0 (cx_548pr_1 [])), [], [], [uV854], [], (cx_593q2g_0 []))
def cx_593q3 : zS := ((cx_593pi_0 (cx_593pi_1 [])), (cx_548pr_0 (cx_548pr_1 [])), [], [], [uV583], [], [uG2037, uG1390, uG2400, uG2401])
def cx_593q4i_0 (t : List (Int × Int)) : List (Int × Int) := ui0 :: (0, 0) :: (0, 1) :: ui49 :: (0, 1) :: ui31 :: (0, 6) :: (0, 6) :: t
def cx_593q4i_1 (t : List (Int × Int)) : List (Int × Int) := ui49 :: ui49 :: ui49 :: ui1953 :: t
def cx_593q4g_0 (t : List zTg) : List zTg := uG2037 :: uG1390 :: uG2400 :: uG2402 :: (107, [uL193, uL114, uL169]) :: t
def cx_593q4 : zS := ((cx_593q4i_0 (cx_593q4i_1 [])), (cx_548pr_0 (cx_548pr_1 [])), [], [], [uV854], [], (cx_593q4g_0 []))
def cx_593q5i_0 (t : List (Int × Int)) : List (Int × Int) := ui0 :: (1, 1) :: (0, 1) :: ui49 :: (0, 1) :: ui31 :: (0, 6) :: (0, 6) :: t
def cx_593q5i_1 (t : List (Int × Int)) : List (Int × Int) := ui49 :: ui49 :: (0, 1) :: ui1953 :: t
def cx_593q5g_0 (t : List zTg) : List zTg := uG2037 :: uG1390 :: uG2400 :: uG2402 :: (108, [uL193, uL114, uL2399]) :: t
def cx_593q5 : zS := ((cx_593q5i_0 (cx_593q5i_1 [])), (cx_548pr_0 (cx_548pr_1 [])), [], [], [uV854], [], (cx_593q5g_0 []))
/-- M.weakest -/
def cx_593 : zCtx := (264, cx_593p, [cx_593q0, cx_593q1, cx_593q2, cx_593q3, cx_593q4, cx_593q5], [uk2205, uk2038, uk2039, uk2197, uk2206, uk2040], 78170, 8, 174)
set_option maxRecDepth 1000000 in
theorem ck_593 : x_ok mLT1 [cx_514, cx_518, cx_590, cx_571] mTS2 mTC2 mRUp cx_593 [(3, [0]), (12, [1]), (17, [2]), (28, [2]), (33, [3])] [(15, uN2259), (20, [1000728]), (31, [1001024]), (52, [1000023]), (59, [1000679]), (60, [1001025])] [] (27, []) 78143 30 = true := by decide +kernel
theorem sn_593 {W : Bool} {X : List Int32} : y_Snd (mGw W) mLT1 (J2 W X) X cx_593 := y_ok J2_J mTS2_ok1 mTC2_ok1 mRUp_ok1 (List.forall_mem_cons.mpr ⟨sn_514, List.forall_mem_cons.mpr ⟨sn_518, List.forall_mem_cons.mpr ⟨sn_590, List.forall_mem_cons.mpr ⟨sn_571, fun _ h => absurd h List.not_mem_nil⟩⟩⟩⟩) ck_593
def cx_594pi_0 (t : List (Int × Int)) : List (Int × Int) := ui0 :: ui260 :: (0, 1) :: ui49 :: (0, 1) :: ui31 :: (0, 6) :: (0, 6) :: t
def cx_594pi_1 (t : List (Int × Int)) : List (Int × Int) := ui49 :: ui49 :: t
def cx_594p : zS := ((cx_594pi_0 (cx_594pi_1 [])), (cx_548pr_0 (cx_548pr_1 [])), [uL2250], [], [uV2, uV11], (cx_592pf_0 (cx_592pf_1 (cx_592pf_2 []))), [uG2209, uG2394, uG2261, uG2262, uG2314, uG1390])
/-- M.weakest -/
def cx_594 : zCtx := (264, cx_594p, [([ui0, ui260, (0, 1), ui49, (0, 1), ui31, (0, 6), (0, 6), ui49, ui49], [ur1474, ur1521, ur1522, ur1532, ur1533, ur1534, ur1535, ur1536, ur1530, ur1531, ur1523, ur1635, ur1636, ur1525, ur2027], [], [], [uV61], [], [uG1390])], [], 16, 1, 22)
set_option maxRecDepth 1000000 in
theorem ck_594 : x_ok mLT1 [cx_514] mTS2 mTC2 mRUp cx_594 [(3, [0])] [] [] (7, []) 9 10 = true := by decide +kernel
theorem sn_594 {W : Bool} {X : List Int32} : y_Snd (mGw W) mLT1 (J2 W X) X cx_594 := y_ok J2_J mTS2_ok1 mTC2_ok1 mRUp_ok1 (List.forall_mem_cons.mpr ⟨sn_514, fun _ h => absurd h List.not_mem_nil⟩) ck_594
def cx_595pi_0 (t : List (Int × Int)) : List (Int × Int) := ui0 :: (0, 0) :: (0, 1) :: ui49 :: (0, 1) :: ui31 :: (0, 6) :: (0, 6) :: t
def cx_595pi_1 (t : List (Int × Int)) : List (Int × Int) := ui49 :: ui49 :: t
def cx_595p : zS := ((cx_595pi_0 (cx_595pi_1 [])), (cx_548pr_0 (cx_548pr_1 [])), [uL2250], [], [uV2, uV11], (cx_592pf_0 (cx_592pf_1 (cx_592pf_2 []))), [uG2209, uG2394, uG2261, uG2262, uG2314, uG1390])
def cx_595q0i_0 (t : List (Int × Int)) : List (Int × Int) := ui0 :: (0, 0) :: (0, 1) :: ui49 :: (0, 1) :: ui31 :: (0, 6) :: (0, 6) :: t
def cx_595q0i_1 (t : List (Int × Int)) : List (Int × Int) := ui49 :: ui49 :: ui600 :: t
def cx_595q0 : zS := ((cx_595q0i_0 (cx_595q0i_1 [])), (cx_548pr_0 (cx_548pr_1 [])), [], [], [uV583], [], [uG2037, uG1390, uG2395, uG2396])
def cx_595q2 : zS := ((cx_595pi_0 (cx_595pi_1 [])), (cx_548pr_0 (cx_548pr_1 [])), [], [], [uV583], [], [uG2037, uG1390, uG2400, uG2401])
/-- M.weakest -/
def cx_595 : zCtx := (264, cx_595p, [cx_595q0, cx_593q1, cx_595q2, cx_593q4], [uk2205, uk2038, uk2039, uk2197, uk2206, uk2040], 78169, 8, 174)
set_option maxRecDepth 1000000 in
theorem ck_595 : x_ok mLT1 [cx_514, cx_518, cx_590, cx_571] mTS2 mTC2 mRUp cx_595 [(3, [0]), (12, [1]), (17, [2]), (28, [2]), (33, [3])] [(15, uN2259), (20, [1000728]), (31, [1001024]), (52, [1000023])] [] (26, []) 78143 29 = true := by decide +kernel
theorem sn_595 {W : Bool} {X : List Int32} : y_Snd (mGw W) mLT1 (J2 W X) X cx_595 := y_ok J2_J mTS2_ok1 mTC2_ok1 mRUp_ok1 (List.forall_mem_cons.mpr ⟨sn_514, List.forall_mem_cons.mpr ⟨sn_518, List.forall_mem_cons.mpr ⟨sn_590, List.forall_mem_cons.mpr ⟨sn_571, fun _ h => absurd h List.not_mem_nil⟩⟩⟩⟩) ck_595
def cx_596pi_0 (t : List (Int × Int)) : List (Int × Int) := ui0 :: (1, 1) :: (0, 1) :: ui49 :: (0, 1) :: ui31 :: (0, 6) :: (0, 6) :: t
def cx_596pi_1 (t : List (Int × Int)) : List (Int × Int) := ui49 :: ui49 :: t
def cx_596p : zS := ((cx_596pi_0 (cx_596pi_1 [])), (cx_548pr_0 (cx_548pr_1 [])), [uL2250], [], [uV2, uV11], (cx_592pf_0 (cx_592pf_1 (cx_592pf_2 []))), [uG2209, uG2394, uG2261, uG2262, uG2314, uG1390])
def cx_596q0i_0 (t : List (Int × Int)) : List (Int × Int) := ui0 :: (1, 1) :: (0, 1) :: ui49 :: (0, 1) :: ui31 :: (0, 6) :: (0, 6) :: t
def cx_596q0i_1 (t : List (Int × Int)) : List (Int × Int) := ui49 :: ui49 :: ui600 :: t
def cx_596q0 : zS := ((cx_596q0i_0 (cx_596q0i_1 [])), (cx_548pr_0 (cx_548pr_1 [])), [], [], [uV583], [], [uG2037, uG1390, uG2395, uG2396])
def cx_596q2 : zS := ((cx_596pi_0 (cx_596pi_1 [])), (cx_548pr_0 (cx_548pr_1 [])), [], [], [uV583], [], [uG2037, uG1390, uG2400, uG2401])
/-- M.weakest -/
def cx_596 : zCtx := (264, cx_596p, [cx_596q0, cx_593q2, cx_596q2, cx_593q5], [uk2205, uk2038, uk2039, uk2197, uk2206, uk2040], 78170, 8, 174)
set_option maxRecDepth 1000000 in
theorem ck_596 : x_ok mLT1 [cx_514, cx_518, cx_590, cx_571] mTS2 mTC2 mRUp cx_596 [(3, [0]), (12, [1]), (17, [2]), (28, [2]), (33, [3])] [(15, uN2259), (20, [1000728]), (31, [1001024]), (59, [1000679]), (60, [1001025])] [] (27, []) 78143 30 = true := by decide +kernel
theorem sn_596 {W : Bool} {X : List Int32} : y_Snd (mGw W) mLT1 (J2 W X) X cx_596 := y_ok J2_J mTS2_ok1 mTC2_ok1 mRUp_ok1 (List.forall_mem_cons.mpr ⟨sn_514, List.forall_mem_cons.mpr ⟨sn_518, List.forall_mem_cons.mpr ⟨sn_590, List.forall_mem_cons.mpr ⟨sn_571, fun _ h => absurd h List.not_mem_nil⟩⟩⟩⟩) ck_596
def cx_597pi_0 (t : List (Int × Int)) : List (Int × Int) := ui0 :: ui517 :: (0, 1) :: ui49 :: (0, 1) :: (0, 6) :: (0, 6) :: ui49 :: t
def cx_597pi_1 (t : List (Int × Int)) : List (Int × Int) := ui49 :: t
def cx_597p : zS := ((cx_597pi_0 (cx_597pi_1 [])), [ur1474, ur1523, ur1635, ur1636, ur2027], [uL592, uL1391], [], [uV2, uV11], [uF2162, uF2263, uF2264, uF1638, uF2032, uF2194, uF2195], [uG2371, uG2372, uG475])
/-- M.below -/
def cx_597 : zCtx := (265, cx_597p, [([ui0, ui517, (0, 1), ui49, (0, 1), (0, 6), (0, 6), ui49, ui49], [ur1474, ur1523, ur1635, ur1636, ur2027], [], [], [uV61], [], [uG2037, uG475])], [uk2038, uk2039, uk2040], 459, 1, 22)
set_option maxRecDepth 1000000 in
theorem ck_597 : x_ok mLT1 [cx_518, cx_514] mTS2 mTC2 mRUp cx_597 [(1, [0]), (15, [1])] [(4, [1000831]), (13, [1000928]), (21, [1001027]), (29, [1001026])] [] (14, []) 445 17 = true := by decide +kernel
theorem sn_597 {W : Bool} {X : List Int32} : y_Snd (mGw W) mLT1 (J2 W X) X cx_597 := y_ok J2_J mTS2_ok1 mTC2_ok1 mRUp_ok1 (List.forall_mem_cons.mpr ⟨sn_518, List.forall_mem_cons.mpr ⟨sn_514, fun _ h => absurd h List.not_mem_nil⟩⟩) ck_597
def cx_598pi_0 (t : List (Int × Int)) : List (Int × Int) := ui0 :: (0, 5) :: (0, 1) :: ui49 :: (0, 1) :: (0, 6) :: (0, 6) :: ui49 :: t
def cx_598pi_1 (t : List (Int × Int)) : List (Int × Int) := ui49 :: ui600 :: t
def cx_598p : zS := ((cx_598pi_0 (cx_598pi_1 [])), [ur1474, ur1523, ur1635, ur1636, ur2027], [uL592, uL9, uL1392], [], [uV2, uV11], [uF2162, uF2263, uF2264, uF1638, uF2032, uF2194, uF2195], [uG2371, uG2372, uG475, (260, [uL65, uL63, uL63, uL63, uL63, uL63, uL63, uL63, uL109, uL78, uL163])])
/-- M.below -/
def cx_598 : zCtx := (265, cx_598p, [([ui0, (0, 5), (0, 1), ui49, (0, 1), (0, 6), (0, 6), ui49, ui49, ui600], [ur1474, ur1523, ur1635, ur1636, ur2027], [], [], [uV799], [], [uG2037, uG475])], [uk2038, uk2039, uk2040], 462, 1, 23)
set_option maxRecDepth 1000000 in
theorem ck_598 : x_ok mLT1 [cx_518, cx_514, cx_569] mTS2 mTC2 mRUp cx_598 [(1, [0]), (15, [1]), (23, [2])] [(4, [1000831]), (13, [1000928]), (21, [1001027]), (26, [1001028]), (29, [1001026])] [] (17, []) 445 20 = true := by decide +kernel
theorem sn_598 {W : Bool} {X : List Int32} : y_Snd (mGw W) mLT1 (J2 W X) X cx_598 := y_ok J2_J mTS2_ok1 mTC2_ok1 mRUp_ok1 (List.forall_mem_cons.mpr ⟨sn_518, List.forall_mem_cons.mpr ⟨sn_514, List.forall_mem_cons.mpr ⟨sn_569, fun _ h => absurd h List.not_mem_nil⟩⟩⟩) ck_598
def cx_599pi_0 (t : List (Int × Int)) : List (Int × Int) := ui0 :: ui260 :: (0, 1) :: ui49 :: (0, 1) :: (0, 6) :: (0, 6) :: ui49 :: t
def cx_599pi_1 (t : List (Int × Int)) : List (Int × Int) := ui49 :: t
def cx_599p : zS := ((cx_599pi_0 (cx_599pi_1 [])), [ur1474, ur1523, ur1635, ur1636, ur2027], [uL592, uL584], [], [uV2, uV11], [uF2162, uF2263, uF2264, uF1638, uF2032, uF2194, uF2195], [uG2371, uG2372, uG475])
/-- M.below -/
def cx_599 : zCtx := (265, cx_599p, [([ui0, ui260, (0, 1), ui49, (0, 1), (0, 6), (0, 6), ui49, ui49], [ur1474, ur1523, ur1635, ur1636, ur2027], [], [], [uV61], [], [uG2037, uG475])], [uk2038, uk2039, uk2040], 459, 1, 22)
set_option maxRecDepth 1000000 in
theorem ck_599 : x_ok mLT1 [cx_518, cx_514] mTS2 mTC2 mRUp cx_599 [(1, [0]), (15, [1])] [(4, [1000831]), (13, [1000928]), (29, [1001026])] [] (14, []) 445 17 = true := by decide +kernel
theorem sn_599 {W : Bool} {X : List Int32} : y_Snd (mGw W) mLT1 (J2 W X) X cx_599 := y_ok J2_J mTS2_ok1 mTC2_ok1 mRUp_ok1 (List.forall_mem_cons.mpr ⟨sn_518, List.forall_mem_cons.mpr ⟨sn_514, fun _ h => absurd h List.not_mem_nil⟩⟩) ck_599
def cx_600pi_0 (t : List (Int × Int)) : List (Int × Int) := ui0 :: ui820 :: (0, 1) :: ui49 :: (0, 1) :: ui31 :: (0, 6) :: (0, 6) :: t
def cx_600pi_1 (t : List (Int × Int)) : List (Int × Int) := ui49 :: ui49 :: ui194 :: ui194 :: (0, 6) :: t
def cx_600pr_0 (t : List (Nat × Bool)) : List (Nat × Bool) := ur1474 :: ur1521 :: ur1522 :: ur1532 :: ur1533 :: ur1534 :: ur1535 :: ur1536 :: t
def cx_600pr_1 (t : List (Nat × Bool)) : List (Nat × Bool) := ur1530 :: ur1531 :: ur1523 :: ur1635 :: ur1636 :: ur2027 :: ur2047 :: ur1528 :: t
def cx_600pr_2 (t : List (Nat × Bool)) : List (Nat × Bool) := ur1529 :: ur2343 :: ur2344 :: ur1525 :: t
def cx_600pf_0 (t : List zFa) : List zFa := uF2162 :: uF2263 :: uF2264 :: uF1537 :: uF1538 :: uF2169 :: uF2170 :: uF2171 :: t
def cx_600pf_1 (t : List zFa) : List zFa := uF2172 :: uF2173 :: uF1768 :: uF1769 :: uF2174 :: uF2175 :: uF2176 :: uF2177 :: t
def cx_600pf_2 (t : List zFa) : List zFa := uF2342 :: uF2377 :: uF2378 :: uF2403 :: uF2404 :: (10, (true, 0, 0, [(2, 1)]), 0, 0, 0, [(12, 1)]) :: uF2405 :: t
def cx_600pg_0 (t : List zTg) : List zTg := uG2209 :: uG2394 :: uG2261 :: uG2262 :: uG1390 :: uG2406 :: uG2407 :: uG2314 :: t
def cx_600p : zS := ((cx_600pi_0 (cx_600pi_1 [])), (cx_600pr_0 (cx_600pr_1 (cx_600pr_2 []))), [uL2250], [], [uV2, uV11], (cx_600pf_0 (cx_600pf_1 (cx_600pf_2 []))), (cx_600pg_0 []))
/-- M.lasts -/
def cx_600 : zCtx := (266, cx_600p, [([ui0, ui820, (0, 1), ui49, (0, 1), ui31, (0, 6), (0, 6), ui49, ui49, ui194, ui194, (0, 6)], [ur1474, ur1521, ur1522, ur1532, ur1533, ur1534, ur1535, ur1536, ur1530, ur1531, ur1523, ur1635, ur1636, ur2027, ur2047, ur1528, ur1529, ur2343, ur2344, ur1525], [], [], [uV61], [], [uG1390])], [], 19, 2, 42)
set_option maxRecDepth 1000000 in
theorem ck_600 : x_ok mLT1 [cx_564] mTS2 mTC2 mRUp cx_600 [(1, [0])] [] [] (5, []) 14 8 = true := by decide +kernel
theorem sn_600 {W : Bool} {X : List Int32} : y_Snd (mGw W) mLT1 (J2 W X) X cx_600 := y_ok J2_J mTS2_ok1 mTC2_ok1 mRUp_ok1 (List.forall_mem_cons.mpr ⟨sn_564, fun _ h => absurd h List.not_mem_nil⟩) ck_600
/-- M.copiesStill -/
def cx_601 : zCtx := (267, ([ui0, (0, 1), ui49, (0, 1)], [ur1474], [], [], [uV2], [uF2028, uF2029, uF2030], []), [([ui0, (0, 1), ui49, (0, 1), ui194], [ur1474], [], [], [], [uF2408, uF2167], [uG2041, uG2037])], [uk2038, uk2039, uk2040], 451, 1, 21)
set_option maxRecDepth 1000000 in
theorem ck_601 : x_ok mLT1 [cx_518] mTS2 mTC2 mRUp cx_601 [(1, [0])] [] [] (6, []) 445 9 = true := by decide +kernel
theorem sn_601 {W : Bool} {X : List Int32} : y_Snd (mGw W) mLT1 (J2 W X) X cx_601 := y_ok J2_J mTS2_ok1 mTC2_ok1 mRUp_ok1 (List.forall_mem_cons.mpr ⟨sn_518, fun _ h => absurd h List.not_mem_nil⟩) ck_601
def cx_602pi_0 (t : List (Int × Int)) : List (Int × Int) := ui0 :: (0, 5) :: (0, 1) :: ui194 :: (0, 6) :: ui49 :: ui49 :: ui49 :: t
def cx_602pi_1 (t : List (Int × Int)) : List (Int × Int) := ui49 :: ui49 :: t
def cx_602p : zS := ((cx_602pi_0 (cx_602pi_1 [])), [ur1474, ur1523, ur2027], [uL786, uL9, uL579], [], [uV2, uV11], [uF2162, uF2263, uF1638, uF2191, uF2408], [uG2226, (237, [uL98, uL104, uL63, uL63, uL78, uL79, uL131, uL163])])
/-- M.isBlighted -/
def cx_602 : zCtx := (257, cx_602p, [([ui0, (0, 5), (0, 1), ui194, (0, 6), ui49, ui49, ui49, ui49, ui49], [ur1474, ur1523, ur2027], [uL786, uL9, uL579], [], [uV62], [], [(238, [uL665, uL104, uL63, uL63, uL78, uL79, uL131, uL163, uL9, uL63, uL63])])], [], 5, 0, 0)
set_option maxRecDepth 1000000 in
theorem ck_602 : x_ok mLT1 [] mTS2 mTC2 mRUp cx_602 [] [(39, [1001198])] [] (5, []) 0 8 = true := by decide +kernel
theorem sn_602 {W : Bool} {X : List Int32} : y_Snd (mGw W) mLT1 (J2 W X) X cx_602 := y_ok J2_J mTS2_ok1 mTC2_ok1 mRUp_ok1 (fun _ h => absurd h List.not_mem_nil) ck_602
def cx_603pr_0 (t : List (Nat × Bool)) : List (Nat × Bool) := ur1474 :: ur1521 :: ur1522 :: ur1532 :: ur1533 :: ur1534 :: ur1535 :: ur1536 :: t
def cx_603pr_1 (t : List (Nat × Bool)) : List (Nat × Bool) := ur1530 :: ur1531 :: ur1523 :: ur1635 :: ur1636 :: ur2027 :: ur2343 :: ur2344 :: t
def cx_603pf_0 (t : List zFa) : List zFa := uF2028 :: uF2029 :: uF1537 :: uF1538 :: uF2169 :: uF2170 :: uF2171 :: uF2172 :: t
def cx_603pf_1 (t : List zFa) : List zFa := uF2173 :: uF1768 :: uF1769 :: uF2174 :: uF2175 :: uF2176 :: uF2177 :: uF2408 :: t
def cx_603pf_2 (t : List zFa) : List zFa := uF2409 :: uF2410 :: (10, (true, 0, 0, [(1, 1)]), 0, 0, 0, [(6, 1)]) :: t
def cx_603p : zS := ([ui0, (0, 1), ui194, ui31, (0, 6), ui836, (0, 6)], (cx_603pr_0 (cx_603pr_1 [])), [uL786], [], [uV2], (cx_603pf_0 (cx_603pf_1 (cx_603pf_2 []))), [uG2349, uG2350, uG2351, uG2352, uG2411])
/-- M.yearGoes -/
def cx_603 : zCtx := (256, cx_603p, [([ui0, (0, 1), ui194, ui31, (0, 6), ui836, (0, 6)], [ur1474, ur1521, ur1522, ur1532, ur1533, ur1534, ur1535, ur1536, ur1530, ur1531, ur1523, ur1635, ur1636, ur2027, ur2343, ur2344], [uL786], [], [], [], [(237, [uL98, uL23, uL63, uL63, uL36, uL203, uL63, uL98])])], [uk2205, uk2197, uk2206, uk2040, uk2355, uk2356], 78112, 4, 84)
def cz_603_0f_0 (t : List zFa) : List zFa := uF2028 :: uF2029 :: uF1537 :: uF1538 :: uF2169 :: uF2170 :: uF2171 :: uF2172 :: t
def cz_603_0f_1 (t : List zFa) : List zFa := uF2173 :: uF1768 :: uF1769 :: uF2174 :: uF2175 :: uF2176 :: uF2177 :: uF2408 :: t
def cz_603_0f_2 (t : List zFa) : List zFa := uF2409 :: uF2410 :: t
def cz_603_0g_0 (t : List zTg) : List zTg := uG2349 :: uG2350 :: uG2351 :: uG2352 :: uG2411 :: (266, [uL23, uL63, uL63, uL36, uL104, uL63, uL98, uL79]) :: t
def cz_603_0 : zS := ([ui0, (0, 1), ui194, ui31, (0, 6), ui836, (0, 6), (0, 6)], (cx_603pr_0 (cx_603pr_1 [])), [uL786, uL2412], [uV2, uV142], [], (cz_603_0f_0 (cz_603_0f_1 (cz_603_0f_2 []))), (cz_603_0g_0 []))
def cz_603_1g_0 (t : List zTg) : List zTg := uG2349 :: uG2350 :: uG2351 :: uG2352 :: (266, [uL23, uL63, uL63, uL36, uL104, uL63, uL98, uL98]) :: (237, [uL98, uL23, uL63, uL63, uL36, uL104, uL79, uL98]) :: t
def cz_603_1 : zS := ([ui0, (0, 1), ui194, ui31, (0, 6), ui836, (0, 6), (0, 6)], (cx_603pr_0 (cx_603pr_1 [])), [uL786, uL2412], [uV2, uV142], [], (cz_603_0f_0 (cz_603_0f_1 (cz_603_0f_2 []))), (cz_603_1g_0 []))
set_option maxRecDepth 1000000 in
theorem ck_603 : x_ok mLT1 [cx_534, cx_537, cx_602, cx_533, cx_524] mTS2 mTC2 mRUp cx_603 [(22, [0]), (33, [1]), (65, [2]), (98, [3]), (104, [4]), (137, [3])] [(1, [1000995]), (15, [1000463]), (37, [1000996]), (43, [1000462]), (58, [1000463]), (62, uN2357), (101, uN2359), (140, uN2360), (141, uN2361), (147, uN2362), (156, [1000637]), (158, [1001011])] [(2, cz_603_0, (494, [(7, (-24))])), (45, cz_603_1, (340, [(7, (-54))]))] (497, []) 77615 56 = true := by decide +kernel
theorem sn_603 {W : Bool} {X : List Int32} : y_Snd (mGw W) mLT1 (J2 W X) X cx_603 := y_ok J2_J mTS2_ok1 mTC2_ok1 mRUp_ok1 (List.forall_mem_cons.mpr ⟨sn_534, List.forall_mem_cons.mpr ⟨sn_537, List.forall_mem_cons.mpr ⟨sn_602, List.forall_mem_cons.mpr ⟨sn_533, List.forall_mem_cons.mpr ⟨sn_524, fun _ h => absurd h List.not_mem_nil⟩⟩⟩⟩⟩) ck_603
def cx_604pi_0 (t : List (Int × Int)) : List (Int × Int) := ui0 :: ui600 :: (0, 1) :: ui49 :: (0, 1) :: ui31 :: (0, 6) :: (0, 6) :: t
def cx_604pi_1 (t : List (Int × Int)) : List (Int × Int) := ui49 :: ui49 :: ui194 :: ui194 :: (0, 6) :: t
def cx_604p : zS := ((cx_604pi_0 (cx_604pi_1 [])), (cx_600pr_0 (cx_600pr_1 (cx_600pr_2 []))), [uL2250], [], [uV2, uV11], (cx_600pf_0 (cx_600pf_1 (cx_600pf_2 []))), (cx_600pg_0 []))
def cx_604q0i_0 (t : List (Int × Int)) : List (Int × Int) := ui0 :: ui600 :: (0, 1) :: ui49 :: (0, 1) :: ui31 :: (0, 6) :: (0, 6) :: t
def cx_604q0i_1 (t : List (Int × Int)) : List (Int × Int) := ui49 :: ui49 :: ui194 :: ui194 :: (0, 6) :: ui1289 :: t
def cx_604q0 : zS := ((cx_604q0i_0 (cx_604q0i_1 [])), (cx_600pr_0 (cx_600pr_1 (cx_600pr_2 []))), [], [], [uV408], [], [uG1390, (238, [uL768, uL104, uL63, uL63, uL63, uL63, uL63, uL63, uL2413, uL63, uL205])])
def cx_604q1 : zS := ((cx_604pi_0 (cx_604pi_1 [])), (cx_600pr_0 (cx_600pr_1 (cx_600pr_2 []))), [], [], [uV583], [], [uG1390, (238, [uL768, uL104, uL63, uL63, uL63, uL63, uL63, uL63, uL2413, uL63, uL825])])
/-- M.lasts -/
def cx_604 : zCtx := (266, cx_604p, [cx_604q0, cx_604q1], kc_82, 78881, 7, 153)
def cz_604_0i_0 (t : List (Int × Int)) : List (Int × Int) := ui0 :: ui600 :: (0, 1) :: ui49 :: (0, 1) :: ui31 :: (0, 6) :: (0, 6) :: t
def cz_604_0i_1 (t : List (Int × Int)) : List (Int × Int) := ui49 :: ui49 :: ui194 :: ui194 :: (0, 6) :: ui877 :: ui194 :: t
def cz_604_0f_0 (t : List zFa) : List zFa := uF2408 :: uF2414 :: uF2162 :: uF1537 :: uF1538 :: uF2169 :: uF2170 :: uF2171 :: t
def cz_604_0f_1 (t : List zFa) : List zFa := uF2172 :: uF2173 :: uF1768 :: uF1769 :: uF2174 :: uF2175 :: uF2176 :: uF2177 :: t
def cz_604_0f_2 (t : List zFa) : List zFa := uF2342 :: uF2377 :: uF2378 :: uF2403 :: uF2404 :: uF2405 :: t
def cz_604_0g_0 (t : List zTg) : List zTg := uG2209 :: uG2394 :: uG2261 :: uG2262 :: uG2406 :: uG2407 :: uG2314 :: uG1390 :: t
def cz_604_0g_1 (t : List zTg) : List zTg := (237, [uL78, uL104, uL63, uL63, uL36, uL205, uL63, uL78]) :: (238, [uL766, uL104, uL63, uL63, uL63, uL63, uL63, uL63, uL2413, uL205, uL63]) :: t
def cz_604_0 : zS := ((cz_604_0i_0 (cz_604_0i_1 [])), (cx_600pr_0 (cx_600pr_1 (cx_600pr_2 []))), [uL2250, uL205, (61, [(13, (-1))])], [uV2, uV11, uV408], [], (cz_604_0f_0 (cz_604_0f_1 (cz_604_0f_2 []))), (cz_604_0g_0 (cz_604_0g_1 [])))
set_option maxRecDepth 1000000 in
theorem ck_604 : x_ok mLT1 [cx_564, cx_601, cx_571, cx_603] mTS2 mTC2 mRUp cx_604 [(1, [0]), (10, [1]), (23, [2]), (32, [3])] [(13, [1000831, 1001194, 1001233]), (29, [1001235]), (31, [1001234]), (41, [1001236])] [(15, cz_604_0, (761, [(13, (-12))]))] (769, []) 78112 14 = true := by decide +kernel
theorem sn_604 {W : Bool} {X : List Int32} : y_Snd (mGw W) mLT1 (J2 W X) X cx_604 := y_ok J2_J mTS2_ok1 mTC2_ok1 mRUp_ok1 (List.forall_mem_cons.mpr ⟨sn_564, List.forall_mem_cons.mpr ⟨sn_601, List.forall_mem_cons.mpr ⟨sn_571, List.forall_mem_cons.mpr ⟨sn_603, fun _ h => absurd h List.not_mem_nil⟩⟩⟩⟩) ck_604
def cx_605pi_0 (t : List (Int × Int)) : List (Int × Int) := ui0 :: ui260 :: (0, 1) :: ui49 :: (0, 1) :: ui31 :: (0, 6) :: (0, 6) :: t
def cx_605pi_1 (t : List (Int × Int)) : List (Int × Int) := ui49 :: ui49 :: ui194 :: ui194 :: (0, 6) :: t
def cx_605p : zS := ((cx_605pi_0 (cx_605pi_1 [])), (cx_600pr_0 (cx_600pr_1 (cx_600pr_2 []))), [uL2250], [], [uV2, uV11], (cx_600pf_0 (cx_600pf_1 (cx_600pf_2 []))), (cx_600pg_0 []))
/-- M.lasts -/
def cx_605 : zCtx := (266, cx_605p, [([ui0, ui260, (0, 1), ui49, (0, 1), ui31, (0, 6), (0, 6), ui49, ui49, ui194, ui194, (0, 6)], [ur1474, ur1521, ur1522, ur1532, ur1533, ur1534, ur1535, ur1536, ur1530, ur1531, ur1523, ur1635, ur1636, ur2027, ur2047, ur1528, ur1529, ur2343, ur2344, ur1525], [], [], [uV61], [], [uG1390])], [], 19, 2, 42)
set_option maxRecDepth 1000000 in
theorem ck_605 : x_ok mLT1 [cx_564] mTS2 mTC2 mRUp cx_605 [(1, [0])] [] [] (5, []) 14 8 = true := by decide +kernel
theorem sn_605 {W : Bool} {X : List Int32} : y_Snd (mGw W) mLT1 (J2 W X) X cx_605 := y_ok J2_J mTS2_ok1 mTC2_ok1 mRUp_ok1 (List.forall_mem_cons.mpr ⟨sn_564, fun _ h => absurd h List.not_mem_nil⟩) ck_605
def cx_606pi_0 (t : List (Int × Int)) : List (Int × Int) := ui0 :: ui1096 :: (0, 1) :: ui49 :: (0, 1) :: ui31 :: (0, 6) :: (0, 6) :: t
def cx_606pi_1 (t : List (Int × Int)) : List (Int × Int) := ui49 :: ui49 :: (0, 6) :: t
def cx_606pf_0 (t : List zFa) : List zFa := uF2162 :: uF2263 :: uF2264 :: uF1537 :: uF1538 :: uF2169 :: uF2170 :: uF2171 :: t
def cx_606pf_1 (t : List zFa) : List zFa := uF2172 :: uF2173 :: uF1768 :: uF1769 :: uF2174 :: uF2175 :: uF2176 :: uF2062 :: t
def cx_606pf_2 (t : List zFa) : List zFa := uF2254 :: uF2385 :: t
def cx_606p : zS := ((cx_606pi_0 (cx_606pi_1 [])), (cx_548pr_0 (cx_548pr_1 [])), [uL2250], [], [uV2, uV11], (cx_606pf_0 (cx_606pf_1 (cx_606pf_2 []))), [uG2209, uG2394, uG2261, uG2262, uG2314, uG1390])
/-- M.quarrel -/
def cx_606 : zCtx := (268, cx_606p, [([ui0, ui1096, (0, 1), ui49, (0, 1), ui31, (0, 6), (0, 6), ui49, ui49, (0, 6)], [ur1474, ur1521, ur1522, ur1532, ur1533, ur1534, ur1535, ur1536, ur1530, ur1531, ur1523, ur1635, ur1636, ur1525, ur2027], [], [], [uV61], [], [uG1390])], [], 16, 1, 22)
set_option maxRecDepth 1000000 in
theorem ck_606 : x_ok mLT1 [cx_514] mTS2 mTC2 mRUp cx_606 [(3, [0])] [] [] (7, []) 9 10 = true := by decide +kernel
theorem sn_606 {W : Bool} {X : List Int32} : y_Snd (mGw W) mLT1 (J2 W X) X cx_606 := y_ok J2_J mTS2_ok1 mTC2_ok1 mRUp_ok1 (List.forall_mem_cons.mpr ⟨sn_514, fun _ h => absurd h List.not_mem_nil⟩) ck_606
def cx_607pi_0 (t : List (Int × Int)) : List (Int × Int) := ui0 :: ui260 :: (0, 1) :: ui49 :: (0, 1) :: ui31 :: (0, 6) :: (0, 6) :: t
def cx_607pi_1 (t : List (Int × Int)) : List (Int × Int) := ui49 :: ui49 :: (0, 6) :: t
def cx_607p : zS := ((cx_607pi_0 (cx_607pi_1 [])), (cx_548pr_0 (cx_548pr_1 [])), [uL2250], [], [uV2, uV11], (cx_606pf_0 (cx_606pf_1 (cx_606pf_2 []))), [uG2209, uG2394, uG2261, uG2262, uG2314, uG1390])
/-- M.quarrel -/
def cx_607 : zCtx := (268, cx_607p, [([ui0, ui260, (0, 1), ui49, (0, 1), ui31, (0, 6), (0, 6), ui49, ui49, (0, 6)], [ur1474, ur1521, ur1522, ur1532, ur1533, ur1534, ur1535, ur1536, ur1530, ur1531, ur1523, ur1635, ur1636, ur1525, ur2027], [], [], [uV61], [], [uG1390])], [], 16, 1, 22)
set_option maxRecDepth 1000000 in
theorem ck_607 : x_ok mLT1 [cx_514] mTS2 mTC2 mRUp cx_607 [(3, [0])] [] [] (7, []) 9 10 = true := by decide +kernel
theorem sn_607 {W : Bool} {X : List Int32} : y_Snd (mGw W) mLT1 (J2 W X) X cx_607 := y_ok J2_J mTS2_ok1 mTC2_ok1 mRUp_ok1 (List.forall_mem_cons.mpr ⟨sn_514, fun _ h => absurd h List.not_mem_nil⟩) ck_607
def cx_608pi_0 (t : List (Int × Int)) : List (Int × Int) := ui0 :: (0, 0) :: (0, 1) :: ui49 :: (0, 1) :: ui31 :: (0, 6) :: (0, 6) :: t
def cx_608pi_1 (t : List (Int × Int)) : List (Int × Int) := ui49 :: ui49 :: (0, 6) :: t
def cx_608p : zS := ((cx_608pi_0 (cx_608pi_1 [])), (cx_548pr_0 (cx_548pr_1 [])), [uL2250], [], [uV2, uV11], (cx_606pf_0 (cx_606pf_1 (cx_606pf_2 []))), [uG2209, uG2394, uG2261, uG2262, uG2314, uG1390])
def cx_608q0i_0 (t : List (Int × Int)) : List (Int × Int) := ui0 :: (0, 0) :: (0, 1) :: ui49 :: (0, 1) :: ui31 :: (0, 6) :: (0, 6) :: t
def cx_608q0i_1 (t : List (Int × Int)) : List (Int × Int) := ui49 :: ui49 :: (0, 6) :: ui49 :: ui49 :: t
def cx_608q0 : zS := ((cx_608q0i_0 (cx_608q0i_1 [])), (cx_548pr_0 (cx_548pr_1 [])), [], [], [uV873], [], [uG2037, uG1390, (238, [uL656, uL104, uL63, uL63, uL63, uL63, uL63, uL63, uL79, uL193, uL212])])
/-- M.quarrel -/
def cx_608 : zCtx := (268, cx_608p, [cx_608q0], [uk2205, uk2038, uk2039, uk2197, uk2206, uk2040], 77828, 5, 108)
def cz_608_0i_0 (t : List (Int × Int)) : List (Int × Int) := ui0 :: (0, 0) :: (0, 1) :: ui49 :: (0, 1) :: ui31 :: (0, 6) :: (0, 6) :: t
def cz_608_0i_1 (t : List (Int × Int)) : List (Int × Int) := ui49 :: ui49 :: (0, 6) :: ui1358 :: ui1156 :: (1, 6) :: ui194 :: t
def cz_608_0r_0 (t : List (Nat × Bool)) : List (Nat × Bool) := ur1474 :: ur1521 :: ur1522 :: ur1532 :: ur1533 :: ur1534 :: ur1535 :: ur1536 :: t
def cz_608_0r_1 (t : List (Nat × Bool)) : List (Nat × Bool) := ur1530 :: ur1531 :: ur1523 :: ur1635 :: ur1636 :: ur1525 :: ur2027 :: ur1529 :: t
def cz_608_0r_2 (t : List (Nat × Bool)) : List (Nat × Bool) := ur2047 :: t
def cz_608_0f_0 (t : List zFa) : List zFa := uF2034 :: uF2414 :: (0, (false, 30, 0, []), 2, 15, 0, []) :: (0, (false, 47, 0, []), 2, 16, 0, []) :: uF2162 :: uF1537 :: uF1538 :: uF2169 :: t
def cz_608_0f_1 (t : List zFa) : List zFa := uF2170 :: uF2171 :: uF2172 :: uF2173 :: uF1768 :: uF1769 :: uF2174 :: uF2175 :: t
def cz_608_0f_2 (t : List zFa) : List zFa := uF2176 :: uF2062 :: uF2254 :: (14, (true, 0, 24, []), 0, 0, 0, [(7, 1)]) :: t
def cz_608_0g_0 (t : List zTg) : List zTg := uG2037 :: uG2209 :: uG2394 :: uG2261 :: uG2262 :: uG2314 :: uG1390 :: (237, [uL78, uL104, uL63, uL63, uL63, uL63, uL63, uL63]) :: t
def cz_608_0g_1 (t : List zTg) : List zTg := (237, [uL78, uL63, uL63, uL63, uL63, uL63, uL63, uL63]) :: (238, [uL656, uL104, uL63, uL63, uL63, uL63, uL63, uL63, uL205, uL193, uL212]) :: t
def cz_608_0 : zS := ((cz_608_0i_0 (cz_608_0i_1 [])), (cz_608_0r_0 (cz_608_0r_1 (cz_608_0r_2 []))), [uL2250, uL2415], [uV2, uV11, uV873, uV196, uV408, uV113], [], (cz_608_0f_0 (cz_608_0f_1 (cz_608_0f_2 []))), (cz_608_0g_0 (cz_608_0g_1 [])))
set_option maxRecDepth 1000000 in
theorem ck_608 : x_ok mLT1 [cx_514, cx_518, cx_548] mTS2 mTC2 mRUp cx_608 [(3, [0]), (12, [1]), (57, [2])] [(15, uN2416), (22, [1001237]), (47, [1001238]), (57, [1001239]), (60, [1001240]), (69, [1000012]), (75, uN2417), (81, [1001243]), (87, [1001244])] [(24, cz_608_0, (209, [(1, (-100000000000)), (13, (-33))]))] (190, []) 77638 35 = true := by decide +kernel
theorem sn_608 {W : Bool} {X : List Int32} : y_Snd (mGw W) mLT1 (J2 W X) X cx_608 := y_ok J2_J mTS2_ok1 mTC2_ok1 mRUp_ok1 (List.forall_mem_cons.mpr ⟨sn_514, List.forall_mem_cons.mpr ⟨sn_518, List.forall_mem_cons.mpr ⟨sn_548, fun _ h => absurd h List.not_mem_nil⟩⟩⟩) ck_608
def cx_609pi_0 (t : List (Int × Int)) : List (Int × Int) := ui0 :: (1, 1) :: (0, 1) :: ui49 :: (0, 1) :: ui31 :: (0, 6) :: (0, 6) :: t
def cx_609pi_1 (t : List (Int × Int)) : List (Int × Int) := ui49 :: ui49 :: (0, 6) :: t
def cx_609p : zS := ((cx_609pi_0 (cx_609pi_1 [])), (cx_548pr_0 (cx_548pr_1 [])), [uL2250], [], [uV2, uV11], (cx_606pf_0 (cx_606pf_1 (cx_606pf_2 []))), [uG2209, uG2394, uG2261, uG2262, uG2314, uG1390])
def cx_609q0i_0 (t : List (Int × Int)) : List (Int × Int) := ui0 :: (1, 1) :: (0, 1) :: ui49 :: (0, 1) :: ui31 :: (0, 6) :: (0, 6) :: t
def cx_609q0i_1 (t : List (Int × Int)) : List (Int × Int) := ui49 :: ui49 :: (0, 6) :: ui49 :: ui49 :: t
def cx_609q0 : zS := ((cx_609q0i_0 (cx_609q0i_1 [])), (cx_548pr_0 (cx_548pr_1 [])), [], [], [uV873], [], [uG2037, uG1390, (238, [uL656, uL104, uL63, uL63, uL63, uL63, uL63, uL63, uL79, uL212, uL193])])
/-- M.quarrel -/
def cx_609 : zCtx := (268, cx_609p, [cx_609q0], [uk2205, uk2038, uk2039, uk2197, uk2206, uk2040], 77827, 5, 108)
def cz_609_0i_0 (t : List (Int × Int)) : List (Int × Int) := ui0 :: (1, 1) :: (0, 1) :: ui49 :: (0, 1) :: ui31 :: (0, 6) :: (0, 6) :: t
def cz_609_0i_1 (t : List (Int × Int)) : List (Int × Int) := ui49 :: ui49 :: (0, 6) :: ui1358 :: ui1156 :: (1, 6) :: ui194 :: t
def cz_609_0 : zS := ((cz_609_0i_0 (cz_609_0i_1 [])), (cz_608_0r_0 (cz_608_0r_1 (cz_608_0r_2 []))), [uL2250, uL2415], [uV2, uV11, uV873, uV196, uV408, uV113], [], (cz_608_0f_0 (cz_608_0f_1 (cz_608_0f_2 []))), (cz_608_0g_0 (cz_608_0g_1 [])))
set_option maxRecDepth 1000000 in
theorem ck_609 : x_ok mLT1 [cx_514, cx_518, cx_548] mTS2 mTC2 mRUp cx_609 [(3, [0]), (12, [1]), (57, [2])] [(15, uN2416), (22, [1001237]), (47, [1001238]), (57, [1001239]), (60, [1001240]), (69, [1000012]), (75, uN2417), (81, [1001243]), (87, [1001244])] [(24, cz_609_0, ((-99999999792), [(1, 100000000000), (13, (-33))]))] (189, []) 77638 35 = true := by decide +kernel
theorem sn_609 {W : Bool} {X : List Int32} : y_Snd (mGw W) mLT1 (J2 W X) X cx_609 := y_ok J2_J mTS2_ok1 mTC2_ok1 mRUp_ok1 (List.forall_mem_cons.mpr ⟨sn_514, List.forall_mem_cons.mpr ⟨sn_518, List.forall_mem_cons.mpr ⟨sn_548, fun _ h => absurd h List.not_mem_nil⟩⟩⟩) ck_609
/-- M.greyest -/
def cx_610 : zCtx := (269, ([ui0, ui1096, (0, 1), (0, 6), (0, 6), ui49, ui49], [ur1474, ur1523, ur2047], [uL518], [], [uV2, uV11], [uF2162, uF1638, uF2185], [uG2164, uG620]), [([ui0, ui1096, (0, 1), (0, 6), (0, 6), ui49, ui49], [ur1474, ur1523, ur2047], [], [], [uV61], [], [uG620])], [], 16, 1, 22)
set_option maxRecDepth 1000000 in
theorem ck_610 : x_ok mLT1 [cx_514] mTS2 mTC2 mRUp cx_610 [(3, [0])] [] [] (7, []) 9 10 = true := by decide +kernel
theorem sn_610 {W : Bool} {X : List Int32} : y_Snd (mGw W) mLT1 (J2 W X) X cx_610 := y_ok J2_J mTS2_ok1 mTC2_ok1 mRUp_ok1 (List.forall_mem_cons.mpr ⟨sn_514, fun _ h => absurd h List.not_mem_nil⟩) ck_610
/-- M.greyest -/
def cx_611 : zCtx := (269, ([ui0, ui260, (0, 1), (0, 6), (0, 6), ui49, ui49], [ur1474, ur1523, ur2047], [uL518], [], [uV2, uV11], [uF2162, uF1638, uF2185], [uG2164, uG620]), [([ui0, ui260, (0, 1), (0, 6), (0, 6), ui49, ui49], [ur1474, ur1523, ur2047], [], [], [uV61], [], [uG620])], [], 16, 1, 22)
set_option maxRecDepth 1000000 in
theorem ck_611 : x_ok mLT1 [cx_514] mTS2 mTC2 mRUp cx_611 [(3, [0])] [] [] (7, []) 9 10 = true := by decide +kernel
theorem sn_611 {W : Bool} {X : List Int32} : y_Snd (mGw W) mLT1 (J2 W X) X cx_611 := y_ok J2_J mTS2_ok1 mTC2_ok1 mRUp_ok1 (List.forall_mem_cons.mpr ⟨sn_514, fun _ h => absurd h List.not_mem_nil⟩) ck_611
/-- M.greyest -/
def cx_612 : zCtx := (269, ([ui0, (0, 0), (0, 1), (0, 6), (0, 6), ui49, ui49], [ur1474, ur1523, ur2047], [uL518], [], [uV2, uV11], [uF2162, uF1638, uF2185], [uG2164, uG620]), [([ui0, (0, 0), (0, 1), (0, 6), (0, 6), ui49, ui49, ui49], [ur1474, ur1523, ur2047], [], [], [uV142], [], [uG620, uG2418])], [], 248, 1, 22)
def cz_612_0i_0 (t : List (Int × Int)) : List (Int × Int) := ui0 :: (0, 0) :: (0, 1) :: (0, 6) :: (0, 6) :: ui49 :: ui49 :: ui1358 :: t
def cz_612_0i_1 (t : List (Int × Int)) : List (Int × Int) := (0, 6) :: t
def cz_612_0 : zS := ((cz_612_0i_0 (cz_612_0i_1 [])), [ur1474, ur1523, ur2047], [uL518, uL131, uL2419], [uV2, uV11, uV142, uV144], [], [uF2162, uF1638, uF2185], [uG2164, uG620, uG2420])
set_option maxRecDepth 1000000 in
theorem ck_612 : x_ok mLT1 [cx_514] mTS2 mTC2 mRUp cx_612 [(3, [0])] [(13, [1001245]), (24, [1000866]), (65, uN2421), (68, uN2422), (70, [1001248]), (76, [1001251]), (105, [1001250])] [(16, cz_612_0, (229, [(1, (-100000000000)), (8, (-36))]))] (239, []) 9 38 = true := by decide +kernel
theorem sn_612 {W : Bool} {X : List Int32} : y_Snd (mGw W) mLT1 (J2 W X) X cx_612 := y_ok J2_J mTS2_ok1 mTC2_ok1 mRUp_ok1 (List.forall_mem_cons.mpr ⟨sn_514, fun _ h => absurd h List.not_mem_nil⟩) ck_612
/-- M.greyest -/
def cx_613 : zCtx := (269, ([ui0, (1, 1), (0, 1), (0, 6), (0, 6), ui49, ui49], [ur1474, ur1523, ur2047], [uL518], [], [uV2, uV11], [uF2162, uF1638, uF2185], [uG2164, uG620]), [([ui0, (1, 1), (0, 1), (0, 6), (0, 6), ui49, ui49, ui49, (0, 5)], [ur1474, ur1523, ur2047], [], [], [uV142], [], [uG620, (238, [uL650, uL63, uL63, uL63, uL63, uL63, uL63, uL63, uL98, uL131, uL63]), (238, [uL685, uL63, uL63, uL63, uL63, uL63, uL63, uL63, uL131, uL63, uL79])]), ([ui0, (1, 1), (0, 1), (0, 6), (0, 6), ui49, ui49, ui49], [ur1474, ur1523, ur2047], [((-1), [(7, (-1))])], [], [uV142], [], [uG620, uG2418])], [], 257, 1, 22)
def cz_613_0i_0 (t : List (Int × Int)) : List (Int × Int) := ui0 :: (1, 1) :: (0, 1) :: (0, 6) :: (0, 6) :: ui49 :: ui49 :: ui1358 :: t
def cz_613_0i_1 (t : List (Int × Int)) : List (Int × Int) := (0, 6) :: t
def cz_613_0 : zS := ((cz_613_0i_0 (cz_613_0i_1 [])), [ur1474, ur1523, ur2047], [uL518, uL131, uL2419], [uV2, uV11, uV142, uV144], [], [uF2162, uF1638, uF2185], [uG2164, uG620, uG2420])
set_option maxRecDepth 1000000 in
theorem ck_613 : x_ok mLT1 [cx_514] mTS2 mTC2 mRUp cx_613 [(3, [0])] [(13, [1001245]), (24, [1000866]), (65, uN2421), (68, uN2422), (70, [1001248]), (76, [1001251]), (88, [1000739]), (105, [1001250])] [(16, cz_613_0, ((-99999999762), [(1, 100000000000), (8, (-36))]))] (248, []) 9 38 = true := by decide +kernel
theorem sn_613 {W : Bool} {X : List Int32} : y_Snd (mGw W) mLT1 (J2 W X) X cx_613 := y_ok J2_J mTS2_ok1 mTC2_ok1 mRUp_ok1 (List.forall_mem_cons.mpr ⟨sn_514, fun _ h => absurd h List.not_mem_nil⟩) ck_613
/-- M.share -/
def cx_614 : zCtx := (270, ([ui0, ui49, (0, 1), ui49, (0, 1), (0, 6), (0, 6), ui49, ui49], [ur1474, ur2027, ur1523], [uL592, uL164], [], [uV2, uV11], [uF2162, uF2263, uF2264, uF2031, uF2266], [uG2371, uG475]), [([ui0, ui49, (0, 1), ui49, (0, 1), (0, 6), (0, 6), ui49, ui49], [ur1474, ur2027, ur1523], [uL164], [], [uV61], [], [uG475])], [], 26, 2, 43)
set_option maxRecDepth 1000000 in
theorem ck_614 : x_ok mLT1 [cx_515] mTS2 mTC2 mRUp cx_614 [(2, [0])] [] [] (6, []) 20 9 = true := by decide +kernel
theorem sn_614 {W : Bool} {X : List Int32} : y_Snd (mGw W) mLT1 (J2 W X) X cx_614 := y_ok J2_J mTS2_ok1 mTC2_ok1 mRUp_ok1 (List.forall_mem_cons.mpr ⟨sn_515, fun _ h => absurd h List.not_mem_nil⟩) ck_614
def cx_615q1i_0 (t : List (Int × Int)) : List (Int × Int) := ui0 :: (0, 5) :: (0, 1) :: ui49 :: (0, 1) :: (0, 6) :: (0, 6) :: ui49 :: t
def cx_615q1i_1 (t : List (Int × Int)) : List (Int × Int) := ui49 :: ui49 :: ui49 :: ui49 :: t
def cx_615q1g_0 (t : List zTg) : List zTg := uG2037 :: uG475 :: (238, [uL34, uL63, uL63, uL63, uL63, uL63, uL63, uL63, uL581, uL63, uL169]) :: (238, [uL65, uL63, uL63, uL63, uL63, uL63, uL63, uL63, uL63, uL78, uL193]) :: (107, [(0, [(10, 1000)]), uL193, uL163]) :: t
def cx_615q1 : zS := ((cx_615q1i_0 (cx_615q1i_1 [])), [ur1474, ur2027, ur1523], [((-1), [(10, 1)]), uL9, uL593], [], [uV799], [], (cx_615q1g_0 []))
/-- M.share -/
def cx_615 : zCtx := (270, ([ui0, (0, 5), (0, 1), ui49, (0, 1), (0, 6), (0, 6), ui49, ui49], [ur1474, ur2027, ur1523], [uL592, uL9, uL593], [], [uV2, uV11], [uF2162, uF2263, uF2264, uF2031, uF2266], [uG2371, uG475]), [([ui0, (0, 5), (0, 1), ui49, (0, 1), (0, 6), (0, 6), ui49, ui49, ui49], [ur1474, ur2027, ur1523], [(0, [(9, (-1))]), uL9, uL593], [], [uV62], [], [uG2037, uG475, (238, [uL34, uL63, uL63, uL63, uL63, uL63, uL63, uL63, uL581, uL63, uL163])]), cx_615q1], [uk2038, uk2039, uk2040], 468, 2, 43)
set_option maxRecDepth 1000000 in
theorem ck_615 : x_ok mLT1 [cx_515, cx_518, cx_524, cx_566] mTS2 mTC2 mRUp cx_615 [(2, [0]), (11, [1]), (16, [2]), (36, [3])] [(14, [1000831]), (22, [64, 1000832]), (34, [1000832]), (39, [1000928, 1001222, 1000023]), (43, [1000832])] [] (23, []) 445 26 = true := by decide +kernel
theorem sn_615 {W : Bool} {X : List Int32} : y_Snd (mGw W) mLT1 (J2 W X) X cx_615 := y_ok J2_J mTS2_ok1 mTC2_ok1 mRUp_ok1 (List.forall_mem_cons.mpr ⟨sn_515, List.forall_mem_cons.mpr ⟨sn_518, List.forall_mem_cons.mpr ⟨sn_524, List.forall_mem_cons.mpr ⟨sn_566, fun _ h => absurd h List.not_mem_nil⟩⟩⟩⟩) ck_615
/-- M.share -/
def cx_616 : zCtx := (270, ([ui0, ui49, (0, 1), ui49, (0, 1), (0, 6), (0, 6), ui49, ui49], [ur1474, ur2027, ur1523], [uL592, uL584], [], [uV2, uV11], [uF2162, uF2263, uF2264, uF2031, uF2266], [uG2371, uG475]), [([ui0, ui49, (0, 1), ui49, (0, 1), (0, 6), (0, 6), ui49, ui49], [ur1474, ur2027, ur1523], [uL584], [], [uV61], [], [uG475])], [], 26, 2, 43)
set_option maxRecDepth 1000000 in
theorem ck_616 : x_ok mLT1 [cx_515] mTS2 mTC2 mRUp cx_616 [(2, [0])] [] [] (6, []) 20 9 = true := by decide +kernel
theorem sn_616 {W : Bool} {X : List Int32} : y_Snd (mGw W) mLT1 (J2 W X) X cx_616 := y_ok J2_J mTS2_ok1 mTC2_ok1 mRUp_ok1 (List.forall_mem_cons.mpr ⟨sn_515, fun _ h => absurd h List.not_mem_nil⟩) ck_616
/-- M.belowOf -/
def cx_617 : zCtx := (252, ([ui0, (0, 5)], [ur1474], [], [], [uV2, uV11], [], []), [([ui0, (0, 5), ui49], [ur1474], [], [], [uV12], [], [])], [], 130, 0, 0)
set_option maxRecDepth 1000000 in
theorem ck_617 : x_ok mLT1 [] mTS2 mTC2 mRUp cx_617 [] [] [(6, ([(0, 3072), (0, 5), ((-2147483648), 2147483647), (1, 6)], [(12, false)], [], [(2, 0, 0, []), (0, 0, 0, [(1, 1)]), (0, 0, 0, [(2, 1)]), (0, 0, 0, [(3, 1)])], [], [], []), (146, [(3, (-23))]))] (130, []) 0 25 = true := by decide +kernel
theorem sn_617 {W : Bool} {X : List Int32} : y_Snd (mGw W) mLT1 (J2 W X) X cx_617 := y_ok J2_J mTS2_ok1 mTC2_ok1 mRUp_ok1 (fun _ h => absurd h List.not_mem_nil) ck_617
/-- M.strongFirst -/
def cx_618 : zCtx := (225, ([ui0, (0, 5), (0, 1)], [ur1474], [], [], [uV2, uV11], [uF2162], []), [([ui0, (0, 5), (0, 1), ui194], [ur1474], [], [], [uV58], [], [])], [], 10, 0, 0)
set_option maxRecDepth 1000000 in
theorem ck_618 : x_ok mLT1 [] mTS2 mTC2 mRUp cx_618 [] [] [] (10, []) 0 13 = true := by decide +kernel
theorem sn_618 {W : Bool} {X : List Int32} : y_Snd (mGw W) mLT1 (J2 W X) X cx_618 := y_ok J2_J mTS2_ok1 mTC2_ok1 mRUp_ok1 (fun _ h => absurd h List.not_mem_nil) ck_618
/-- M.strongOf -/
def cx_619 : zCtx := (230, ([ui0, (0, 5), (0, 1)], [ur1474], [], [], [uV2, uV11], [uF2162], []), [([ui0, (0, 5), (0, 1), ui194], [ur1474], [], [], [uV58], [], [])], [], 22, 1, 21)
set_option maxRecDepth 1000000 in
theorem ck_619 : x_ok mLT1 [cx_524, cx_618] mTS2 mTC2 mRUp cx_619 [(2, [0]), (22, [1])] [] [] (12, []) 10 15 = true := by decide +kernel
theorem sn_619 {W : Bool} {X : List Int32} : y_Snd (mGw W) mLT1 (J2 W X) X cx_619 := y_ok J2_J mTS2_ok1 mTC2_ok1 mRUp_ok1 (List.forall_mem_cons.mpr ⟨sn_524, List.forall_mem_cons.mpr ⟨sn_618, fun _ h => absurd h List.not_mem_nil⟩⟩) ck_619
/-- M.placeOf -/
def cx_620 : zCtx := (227, ([ui0, (0, 5)], [ur1474], [], [], [uV2, uV11], [], []), [([ui0, (0, 5), (0, 5)], [ur1474], [], [], [uV12], [], []), ([ui0, (0, 5)], [ur1474], [], [], [uV61], [], [])], [], 113, 0, 0)
set_option maxRecDepth 1000000 in
theorem ck_620 : x_ok mLT1 [] mTS2 mTC2 mRUp cx_620 [] [] [(2, ([(0, 3072), (0, 5), (0, 6)], [(12, false)], [], [(2, 0, 0, []), (0, 0, 0, [(1, 1)]), (0, 0, 0, [(2, 1)])], [], [], []), (110, [(2, (-17))]))] (113, []) 0 19 = true := by decide +kernel
theorem sn_620 {W : Bool} {X : List Int32} : y_Snd (mGw W) mLT1 (J2 W X) X cx_620 := y_ok J2_J mTS2_ok1 mTC2_ok1 mRUp_ok1 (fun _ h => absurd h List.not_mem_nil) ck_620
/-- M.views -/
def cx_621 : zCtx := (229, ([ui0, (0, 5), (0, 1)], [ur1474], [], [], [uV2, uV11], [uF2162], []), [([ui0, (0, 5), (0, 1)], [ur1474], [], [], [], [], [])], [uk2197], 182, 2, 42)
set_option maxRecDepth 1000000 in
theorem ck_621 : x_ok mLT1 [cx_619, cx_524, cx_620] mTS2 mTC2 mRUp cx_621 [(19, [0]), (50, [1]), (58, [2])] [] [] (69, []) 113 72 = true := by decide +kernel
theorem sn_621 {W : Bool} {X : List Int32} : y_Snd (mGw W) mLT1 (J2 W X) X cx_621 := y_ok J2_J mTS2_ok1 mTC2_ok1 mRUp_ok1 (List.forall_mem_cons.mpr ⟨sn_619, List.forall_mem_cons.mpr ⟨sn_524, List.forall_mem_cons.mpr ⟨sn_620, fun _ h => absurd h List.not_mem_nil⟩⟩⟩) ck_621
def cx_622pr_0 (t : List (Nat × Bool)) : List (Nat × Bool) := ur1474 :: ur1521 :: ur1522 :: ur1532 :: ur1533 :: ur1534 :: ur1535 :: ur1536 :: t
def cx_622pr_1 (t : List (Nat × Bool)) : List (Nat × Bool) := ur1530 :: ur1531 :: t
def cx_622pf_0 (t : List zFa) : List zFa := uF2249 :: uF1537 :: uF1538 :: uF2169 :: uF2170 :: uF2171 :: uF2172 :: uF2173 :: t
def cx_622pf_1 (t : List zFa) : List zFa := uF1768 :: uF1769 :: t
def cx_622p : zS := ([ui0, (0, 5), (0, 5), ui194, (0, 1), ui31], (cx_622pr_0 (cx_622pr_1 [])), [], [], [uV2, uV11, uV12, uV58], (cx_622pf_0 (cx_622pf_1 [])), [uG2252, uG2253])
/-- M.joinsBy -/
def cx_622 : zCtx := (241, cx_622p, [([ui0, (0, 5), (0, 5), ui194, (0, 1), ui31], [ur1474, ur1521, ur1522, ur1532, ur1533, ur1534, ur1535, ur1536, ur1530, ur1531], [], [], [uV62], [], [(233, [uL98, uL114, (0, [(3, 10)]), uL63])]), ([ui0, (0, 5), (0, 5), ui194, (0, 1), ui31, ui600], [ur1474, ur1521, ur1522, ur1532, ur1533, ur1534, ur1535, ur1536, ur1530, ur1531], [], [], [uV108], [], [])], [uk2205, uk2197, uk2206], 77629, 3, 63)
set_option maxRecDepth 1000000 in
theorem ck_622 : x_ok mLT1 [cx_621, cx_619, cx_546, cx_533] mTS2 mTC2 mRUp cx_622 [(2, [0]), (20, [1]), (30, [2]), (37, [3])] [] [] (25, []) 77604 28 = true := by decide +kernel
theorem sn_622 {W : Bool} {X : List Int32} : y_Snd (mGw W) mLT1 (J2 W X) X cx_622 := y_ok J2_J mTS2_ok1 mTC2_ok1 mRUp_ok1 (List.forall_mem_cons.mpr ⟨sn_621, List.forall_mem_cons.mpr ⟨sn_619, List.forall_mem_cons.mpr ⟨sn_546, List.forall_mem_cons.mpr ⟨sn_533, fun _ h => absurd h List.not_mem_nil⟩⟩⟩⟩) ck_622
def cx_623pf_0 (t : List zFa) : List zFa := uF2166 :: uF1537 :: uF1538 :: uF2169 :: uF2170 :: uF2171 :: uF2172 :: uF2173 :: t
def cx_623pf_1 (t : List zFa) : List zFa := uF1768 :: uF1769 :: t
def cx_623p : zS := ([ui0, (0, 5), (0, 5), (0, 1), ui31], (cx_622pr_0 (cx_622pr_1 [])), [], [], [uV2, uV11, uV12], (cx_623pf_0 (cx_623pf_1 [])), [uG2179, uG2255])
/-- M.joinsOf -/
def cx_623 : zCtx := (240, cx_623p, [([ui0, (0, 5), (0, 5), (0, 1), ui31, ui600], [ur1474, ur1521, ur1522, ur1532, ur1533, ur1534, ur1535, ur1536, ur1530, ur1531], [], [], [uV75], [], [])], [uk2205, uk2197, uk2206], 77638, 4, 86)
set_option maxRecDepth 1000000 in
theorem ck_623 : x_ok mLT1 [cx_544, cx_622] mTS2 mTC2 mRUp cx_623 [(6, [0]), (9, [1])] [] [] (9, []) 77629 12 = true := by decide +kernel
theorem sn_623 {W : Bool} {X : List Int32} : y_Snd (mGw W) mLT1 (J2 W X) X cx_623 := y_ok J2_J mTS2_ok1 mTC2_ok1 mRUp_ok1 (List.forall_mem_cons.mpr ⟨sn_544, List.forall_mem_cons.mpr ⟨sn_622, fun _ h => absurd h List.not_mem_nil⟩⟩) ck_623
/-- M.spareAt -/
def cx_624 : zCtx := (251, ([ui0, ui824, (0, 1), ui31], [ur1474, ur1521, ur1522, ur1532, ur1533, ur1534, ur1535, ur1536, ur1530, ur1531], [], [], [uV2, uV11], [uF2162, uF1537, uF1538, uF2169, uF2170, uF2171, uF2172, uF2173, uF1768, uF1769], [uG2209, uG2210]), [([ui0, ui824, (0, 1), ui31, ui49], [ur1474, ur1521, ur1522, ur1532, ur1533, ur1534, ur1535, ur1536, ur1530, ur1531], [], [], [uV97], [], [])], [uk2205, uk2197, uk2206], 77677, 5, 108)
set_option maxRecDepth 1000000 in
theorem ck_624 : x_ok mLT1 [cx_617, cx_623] mTS2 mTC2 mRUp cx_624 [(32, [0]), (58, [1]), (63, [0])] [] [] (39, []) 77638 42 = true := by decide +kernel
theorem sn_624 {W : Bool} {X : List Int32} : y_Snd (mGw W) mLT1 (J2 W X) X cx_624 := y_ok J2_J mTS2_ok1 mTC2_ok1 mRUp_ok1 (List.forall_mem_cons.mpr ⟨sn_617, List.forall_mem_cons.mpr ⟨sn_623, fun _ h => absurd h List.not_mem_nil⟩⟩) ck_624
/-- M.spareLeast -/
def cx_625 : zCtx := (263, ([ui0, (0, 1), ui31], [ur1474, ur1521, ur1522, ur1532, ur1533, ur1534, ur1535, ur1536, ur1530, ur1531], [], [], [uV2], [uF2028, uF1537, uF1538, uF2169, uF2170, uF2171, uF2172, uF2173, uF1768, uF1769], [uG2349, uG2386]), [([ui0, (0, 1), ui31, ui49], [ur1474, ur1521, ur1522, ur1532, ur1533, ur1534, ur1535, ur1536, ur1530, ur1531], [], [], [uV58], [], [])], [uk2205, uk2197, uk2206], 78132, 6, 131)
def cz_625_0f_0 (t : List zFa) : List zFa := uF2028 :: uF1537 :: uF1538 :: uF2169 :: uF2170 :: uF2171 :: uF2172 :: uF2173 :: t
def cz_625_0f_1 (t : List zFa) : List zFa := uF1768 :: uF1769 :: t
def cz_625_0 : zS := ([ui0, (0, 1), ui31, ui49, ui424], (cx_622pr_0 (cx_622pr_1 [])), [], [uV2, uV58, uV97], [], (cz_625_0f_0 (cz_625_0f_1 [])), [uG2349, uG2386])
set_option maxRecDepth 1000000 in
theorem ck_625 : x_ok mLT1 [cx_624] mTS2 mTC2 mRUp cx_625 [(21, [0]), (30, [0])] [] [(6, cz_625_0, (450, [(4, (-20))]))] (455, []) 77677 22 = true := by decide +kernel
theorem sn_625 {W : Bool} {X : List Int32} : y_Snd (mGw W) mLT1 (J2 W X) X cx_625 := y_ok J2_J mTS2_ok1 mTC2_ok1 mRUp_ok1 (List.forall_mem_cons.mpr ⟨sn_624, fun _ h => absurd h List.not_mem_nil⟩) ck_625
/-- M.mostOf -/
def cx_626 : zCtx := (262, ([ui0, (0, 1), ui31], [ur1474, ur1521, ur1522, ur1532, ur1533, ur1534, ur1535, ur1536, ur1530, ur1531], [], [], [uV2], [uF2028, uF1537, uF1538, uF2169, uF2170, uF2171, uF2172, uF2173, uF1768, uF1769], [uG2349, uG2386]), [([ui0, (0, 1), ui31], [ur1474, ur1521, ur1522, ur1532, ur1533, ur1534, ur1535, ur1536, ur1530, ur1531], [], [], [uV583], [], []), ([ui0, (0, 1), ui31], [ur1474, ur1521, ur1522, ur1532, ur1533, ur1534, ur1535, ur1536, ur1530, ur1531], [], [], [(0, 0, 999, [])], [], []), ([ui0, (0, 1), ui31, ui600], [ur1474, ur1521, ur1522, ur1532, ur1533, ur1534, ur1535, ur1536, ur1530, ur1531], [], [], [uV58], [], [])], [uk2205, uk2197, uk2206], 78143, 7, 153)
set_option maxRecDepth 1000000 in
theorem ck_626 : x_ok mLT1 [cx_625] mTS2 mTC2 mRUp cx_626 [(1, [0])] [] [] (11, []) 78132 14 = true := by decide +kernel
theorem sn_626 {W : Bool} {X : List Int32} : y_Snd (mGw W) mLT1 (J2 W X) X cx_626 := y_ok J2_J mTS2_ok1 mTC2_ok1 mRUp_ok1 (List.forall_mem_cons.mpr ⟨sn_625, fun _ h => absurd h List.not_mem_nil⟩) ck_626
def cx_627pf_0 (t : List zFa) : List zFa := uF2028 :: uF2029 :: uF2030 :: uF1537 :: uF1538 :: uF2169 :: uF2170 :: uF2171 :: t
def cx_627pf_1 (t : List zFa) : List zFa := uF2172 :: uF2173 :: uF1768 :: uF1769 :: t
def cx_627p : zS := ([ui0, (0, 1), ui49, (0, 1), ui31], (cx_622pr_0 (cx_622pr_1 [])), [], [], [uV2], (cx_627pf_0 (cx_627pf_1 [])), [uG2349, uG2392])
/-- M.swap -/
def cx_627 : zCtx := (271, cx_627p, [([ui0, (0, 1), ui49, (0, 1), ui31, ui1357, ui194], [ur1474, ur1521, ur1522, ur1532, ur1533, ur1534, ur1535, ur1536, ur1530, ur1531], [], [], [uV75], [uF2034, uF2423], [uG2037])], [uk2205, uk2038, uk2039, uk2197, uk2206, uk2040], 79721, 8, 174)
def cz_627_0i_0 (t : List (Int × Int)) : List (Int × Int) := ui0 :: (0, 1) :: ui49 :: (0, 1) :: ui31 :: ui1156 :: ui1357 :: (0, 6) :: t
def cz_627_0i_1 (t : List (Int × Int)) : List (Int × Int) := ui194 :: t
def cz_627_0r_0 (t : List (Nat × Bool)) : List (Nat × Bool) := ur1474 :: ur1521 :: ur1522 :: ur1532 :: ur1533 :: ur1534 :: ur1535 :: ur1536 :: t
def cz_627_0r_1 (t : List (Nat × Bool)) : List (Nat × Bool) := ur1530 :: ur1531 :: ur1529 :: ur2047 :: ur2027 :: t
def cz_627_0f_0 (t : List zFa) : List zFa := uF2034 :: uF2424 :: uF2425 :: uF2426 :: uF2427 :: uF2028 :: uF1537 :: uF1538 :: t
def cz_627_0f_1 (t : List zFa) : List zFa := uF2169 :: uF2170 :: uF2171 :: uF2172 :: uF2173 :: uF1768 :: uF1769 :: t
def cz_627_0 : zS := ((cz_627_0i_0 (cz_627_0i_1 [])), (cz_627_0r_0 (cz_627_0r_1 [])), [], [uV2, uV75, uV108, uV142, uV113], [], (cz_627_0f_0 (cz_627_0f_1 [])), [uG2037, uG2349, uG2392])
def cz_627_1i_0 (t : List (Int × Int)) : List (Int × Int) := ui0 :: (0, 1) :: ui49 :: (0, 1) :: ui31 :: ui1156 :: ui1357 :: (0, 5) :: t
def cz_627_1i_1 (t : List (Int × Int)) : List (Int × Int) := (1, 6) :: ui194 :: t
def cz_627_1f_0 (t : List zFa) : List zFa := uF2034 :: uF2428 :: uF2425 :: uF2426 :: uF2427 :: uF2028 :: uF1537 :: uF1538 :: t
def cz_627_1f_1 (t : List zFa) : List zFa := uF2169 :: uF2170 :: uF2171 :: uF2172 :: uF2173 :: uF1768 :: uF1769 :: t
def cz_627_1 : zS := ((cz_627_1i_0 (cz_627_1i_1 [])), (cz_627_0r_0 (cz_627_0r_1 [])), [], [uV2, uV75, uV108, uV142, uV144], [], (cz_627_1f_0 (cz_627_1f_1 [])), [uG2037, uG2349, uG2392])
set_option maxRecDepth 1000000 in
theorem ck_627 : x_ok mLT1 [cx_518, cx_626] mTS2 mTC2 mRUp cx_627 [(1, [0]), (5, [1]), (43, [0]), (85, [1]), (104, [1])] [] [(14, cz_627_0, (1568, [(7, (-260))])), (30, cz_627_1, (1605, [(7, (-212)), (8, (-48))]))] (1578, []) 78143 50 = true := by decide +kernel
theorem sn_627 {W : Bool} {X : List Int32} : y_Snd (mGw W) mLT1 (J2 W X) X cx_627 := y_ok J2_J mTS2_ok1 mTC2_ok1 mRUp_ok1 (List.forall_mem_cons.mpr ⟨sn_518, List.forall_mem_cons.mpr ⟨sn_626, fun _ h => absurd h List.not_mem_nil⟩⟩) ck_627
def cx_628pi_0 (t : List (Int × Int)) : List (Int × Int) := ui0 :: ui820 :: (0, 1) :: ui49 :: (0, 1) :: (0, 6) :: ui31 :: (0, 6) :: t
def cx_628pi_1 (t : List (Int × Int)) : List (Int × Int) := (0, 6) :: ui49 :: ui49 :: ui194 :: (0, 6) :: t
def cx_628pr_0 (t : List (Nat × Bool)) : List (Nat × Bool) := ur1474 :: ur2429 :: ur1521 :: ur1522 :: ur1532 :: ur1533 :: ur1534 :: ur1535 :: t
def cx_628pr_1 (t : List (Nat × Bool)) : List (Nat × Bool) := ur1536 :: ur1530 :: ur1531 :: ur1523 :: ur1635 :: ur1636 :: ur1525 :: ur2027 :: t
def cx_628pr_2 (t : List (Nat × Bool)) : List (Nat × Bool) := ur1526 :: ur2430 :: ur2431 :: ur2432 :: ur2433 :: ur2434 :: t
def cx_628pf_0 (t : List zFa) : List zFa := uF2162 :: uF2263 :: uF2264 :: uF2435 :: uF2436 :: uF2437 :: uF2438 :: uF2439 :: t
def cx_628pf_1 (t : List zFa) : List zFa := uF2440 :: uF2441 :: uF2442 :: uF2443 :: uF2444 :: uF2445 :: uF2446 :: uF2447 :: t
def cx_628pf_2 (t : List zFa) : List zFa := uF2448 :: uF2449 :: uF2450 :: uF2451 :: uF2452 :: uF2453 :: uF2454 :: uF2455 :: t
def cx_628pf_3 (t : List zFa) : List zFa := uF2456 :: (11, (true, 0, 0, [(2, 1)]), 0, 0, 0, [(12, 1)]) :: t
def cx_628pg_0 (t : List zTg) : List zTg := uG2209 :: uG2311 :: uG2312 :: uG2313 :: uG2314 :: uG2184 :: uG2315 :: t
def cx_628p : zS := ((cx_628pi_0 (cx_628pi_1 [])), (cx_628pr_0 (cx_628pr_1 (cx_628pr_2 []))), [uL1224], [], [uV2, uV11], (cx_628pf_0 (cx_628pf_1 (cx_628pf_2 (cx_628pf_3 [])))), (cx_628pg_0 []))
/-- M.orders -/
def cx_628 : zCtx := (272, cx_628p, [([ui0, ui820, (0, 1), ui49, (0, 1), (0, 6), ui31, (0, 6), (0, 6), ui49, ui49, ui194, (0, 6)], [ur1474, ur2429, ur1521, ur1522, ur1532, ur1533, ur1534, ur1535, ur1536, ur1530, ur1531, ur1523, ur1635, ur1636, ur1525, ur2027, ur1526, ur2430, ur2431, ur2432, ur2433, ur2434], [], [], [uV61], [], [uG2184])], [], 19, 2, 42)
set_option maxRecDepth 1000000 in
theorem ck_628 : x_ok mLT1 [cx_564] mTS2 mTC2 mRUp cx_628 [(1, [0])] [] [] (5, []) 14 8 = true := by decide +kernel
theorem sn_628 {W : Bool} {X : List Int32} : y_Snd (mGw W) mLT1 (J2 W X) X cx_628 := y_ok J2_J mTS2_ok1 mTC2_ok1 mRUp_ok1 (List.forall_mem_cons.mpr ⟨sn_564, fun _ h => absurd h List.not_mem_nil⟩) ck_628
end
