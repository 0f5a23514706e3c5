noncomputable section
/-! ===== readings, by program, checked by the kernel ===== -/
def cx_579pi_0 (t : List (Int × Int)) : List (Int × Int) := ui0 :: (0, 1) :: ui31 :: (0, 6) :: ui49 :: ui49 :: ui49 :: ui49 :: t
def cx_579pi_1 (t : List (Int × Int)) : List (Int × Int) := ui49 :: ui49 :: (0, 6) :: t
def cx_579pf_0 (t : List zFa) : List zFa := uF1886 :: uF1394 :: uF1395 :: uF2027 :: uF2028 :: uF2029 :: uF2030 :: uF2031 :: t
def cx_579pf_1 (t : List zFa) : List zFa := uF1625 :: uF1626 :: uF2032 :: uF2033 :: uF2034 :: uF1920 :: uF2113 :: uF2227 :: t
def cx_579p : zS := ((cx_579pi_0 (cx_579pi_1 [])), (cx_538pr_0 (cx_538pr_1 [])), [uL511], [], [uV2], (cx_579pf_0 (cx_579pf_1 [])), [uG2209, uG2228, uG2229, uG2230, uG2231, uG2232])
/-- M.spareLeast -/
def cx_579 : zCtx := (263, cx_579p, [([ui0, (0, 1), ui31, (0, 6), ui49, ui49, ui49, ui49, ui49, ui49, (0, 6), ui2184], [ur1331, ur1378, ur1379, ur1389, ur1390, ur1391, ur1392, ur1393, ur1387, ur1388, ur1380, ur1492, ur1493, ur1382, ur1885], [uL511], [], [uV840], [], [(238, [uL644, uL67, uL98, uL104, uL78, uL79, uL131, uL164, uL2233, (0, [(10, 2)]), uL195])])], [uk2063, uk2055, uk2064], 78132, 6, 131)
def cz_579_0i_0 (t : List (Int × Int)) : List (Int × Int) := ui0 :: (0, 1) :: ui31 :: (0, 6) :: ui49 :: ui49 :: ui49 :: ui49 :: t
def cz_579_0i_1 (t : List (Int × Int)) : List (Int × Int) := ui49 :: ui49 :: (0, 6) :: ui2184 :: ui425 :: t
def cz_579_0g_0 (t : List zTg) : List zTg := uG2209 :: uG2228 :: uG2229 :: uG2230 :: uG2231 :: uG2232 :: (238, [uL644, uL67, uL98, uL104, uL78, uL79, uL131, uL164, uL2233, uL214, uL195]) :: t
def cz_579_0 : zS := ((cz_579_0i_0 (cz_579_0i_1 [])), (cx_538pr_0 (cx_538pr_1 [])), [uL511, (0, [(10, 2), (12, (-1))])], [uV2, uV840, uV198], [], (cx_579pf_0 (cx_579pf_1 [])), (cz_579_0g_0 []))
set_option maxRecDepth 1000000 in
theorem ck_579 : x_ok mLT1 [cx_560] mTS2 mTC2 mRUp cx_579 [(21, [0]), (30, [0])] [(4, [1001008]), (25, [1000012, 1001009]), (33, [1001010]), (34, [1001011])] [(6, cz_579_0, (450, [(12, (-20))]))] (455, []) 77677 22 = true := by decide +kernel
theorem sn_579 {W : Bool} {X : List Int32} : y_Snd (mGw W) mLT1 (J2 W X) X cx_579 := y_ok J2_J mTS2_ok1 mTC2_ok1 mRUp_ok1 (List.forall_mem_cons.mpr ⟨sn_560, fun _ h => absurd h List.not_mem_nil⟩) ck_579
def cx_580q0 : zS := ((cx_579pi_0 (cx_579pi_1 [])), (cx_538pr_0 (cx_538pr_1 [])), [], [], [uV567], [], [(238, [uL641, uL67, uL98, uL104, uL78, uL79, uL131, uL164, uL63, uL63, uL803]), uG2232])
def cx_580q1i_0 (t : List (Int × Int)) : List (Int × Int) := ui0 :: (0, 1) :: ui31 :: (0, 6) :: ui49 :: ui49 :: ui49 :: ui49 :: t
def cx_580q1i_1 (t : List (Int × Int)) : List (Int × Int) := ui49 :: ui49 :: (0, 6) :: ui584 :: t
def cx_580q1 : zS := ((cx_580q1i_0 (cx_580q1i_1 [])), (cx_538pr_0 (cx_538pr_1 [])), [], [], [uV840], [], [(238, [uL641, uL67, uL98, uL104, uL78, uL79, uL131, uL164, uL63, uL63, uL195]), uG2232])
/-- M.mostOf -/
def cx_580 : zCtx := (262, cx_579p, [cx_580q0, cx_580q1], [uk2063, uk2055, uk2064], 78143, 7, 153)
set_option maxRecDepth 1000000 in
theorem ck_580 : x_ok mLT1 [cx_579] mTS2 mTC2 mRUp cx_580 [(1, [0])] [(9, [1001012]), (21, [1001013]), (27, [1001014])] [] (11, []) 78132 14 = true := by decide +kernel
theorem sn_580 {W : Bool} {X : List Int32} : y_Snd (mGw W) mLT1 (J2 W X) X cx_580 := y_ok J2_J mTS2_ok1 mTC2_ok1 mRUp_ok1 (List.forall_mem_cons.mpr ⟨sn_579, fun _ h => absurd h List.not_mem_nil⟩) ck_580
def cx_581pi_0 (t : List (Int × Int)) : List (Int × Int) := ui0 :: (0, 1) :: ui49 :: (0, 1) :: ui31 :: (0, 6) :: (0, 6) :: ui49 :: t
def cx_581pi_1 (t : List (Int × Int)) : List (Int × Int) := ui49 :: t
def cx_581pf_0 (t : List zFa) : List zFa := uF1886 :: uF1887 :: uF1888 :: uF1394 :: uF1395 :: uF2027 :: uF2028 :: uF2029 :: t
def cx_581pf_1 (t : List zFa) : List zFa := uF2030 :: uF2031 :: uF1625 :: uF1626 :: uF2032 :: uF2033 :: uF2034 :: uF1920 :: t
def cx_581pf_2 (t : List zFa) : List zFa := uF2113 :: t
def cx_581p : zS := ((cx_581pi_0 (cx_581pi_1 [])), (cx_538pr_0 (cx_538pr_1 [])), [uL576], [], [uV2], (cx_581pf_0 (cx_581pf_1 (cx_581pf_2 []))), [uG2209, uG2234, uG2160, uG2235, uG2231, uG468])
/-- M.most -/
def cx_581 : zCtx := (261, cx_581p, [([ui0, (0, 1), ui49, (0, 1), ui31, (0, 6), (0, 6), ui49, ui49, ui584], [ur1331, ur1378, ur1379, ur1389, ur1390, ur1391, ur1392, ur1393, ur1387, ur1388, ur1380, ur1492, ur1493, ur1382, ur1885], [], [], [uV778], [], [uG1895, uG468, (238, [uL641, uL98, uL63, uL63, uL63, uL63, uL63, uL63, uL63, uL63, uL164])]), ([ui0, (0, 1), ui49, (0, 1), ui31, (0, 6), (0, 6), ui49, ui49], [ur1331, ur1378, ur1379, ur1389, ur1390, ur1391, ur1392, ur1393, ur1387, ur1388, ur1380, ur1492, ur1493, ur1382, ur1885], [], [], [uV567], [], [uG1895, uG468, (238, [uL641, uL98, uL63, uL63, uL63, uL63, uL63, uL63, uL63, uL63, uL803])])], [uk2063, uk1896, uk1897, uk2055, uk2064, uk1898], 78148, 8, 174)
set_option maxRecDepth 1000000 in
theorem ck_581 : x_ok mLT1 [cx_508, cx_580] mTS2 mTC2 mRUp cx_581 [(1, [0]), (5, [1])] [(4, uN2118)] [] (5, []) 78143 8 = true := by decide +kernel
theorem sn_581 {W : Bool} {X : List Int32} : y_Snd (mGw W) mLT1 (J2 W X) X cx_581 := y_ok J2_J mTS2_ok1 mTC2_ok1 mRUp_ok1 (List.forall_mem_cons.mpr ⟨sn_508, List.forall_mem_cons.mpr ⟨sn_580, fun _ h => absurd h List.not_mem_nil⟩⟩) ck_581
def cx_582pi_0 (t : List (Int × Int)) : List (Int × Int) := ui0 :: ui1063 :: (0, 1) :: ui49 :: (0, 1) :: ui31 :: (0, 6) :: (0, 6) :: t
def cx_582pi_1 (t : List (Int × Int)) : List (Int × Int) := ui49 :: ui49 :: t
def cx_582pf_0 (t : List zFa) : List zFa := uF2020 :: uF2122 :: uF2123 :: uF1394 :: uF1395 :: uF2027 :: uF2028 :: uF2029 :: t
def cx_582pf_1 (t : List zFa) : List zFa := uF2030 :: uF2031 :: uF1625 :: uF1626 :: uF2032 :: uF2033 :: uF2034 :: uF1920 :: t
def cx_582pf_2 (t : List zFa) : List zFa := uF2113 :: t
def cx_582p : zS := ((cx_582pi_0 (cx_582pi_1 [])), (cx_538pr_0 (cx_538pr_1 [])), [uL2108], [], [uV2, uV11], (cx_582pf_0 (cx_582pf_1 (cx_582pf_2 []))), [uG2067, uG2236, uG2120, uG2121, uG2173, uG1280])
/-- M.weakest -/
def cx_582 : zCtx := (264, cx_582p, [([ui0, ui1063, (0, 1), ui49, (0, 1), ui31, (0, 6), (0, 6), ui49, ui49], [ur1331, ur1378, ur1379, ur1389, ur1390, ur1391, ur1392, ur1393, ur1387, ur1388, ur1380, ur1492, ur1493, ur1382, ur1885], [], [], [uV61], [], [uG1280])], [], 16, 1, 22)
set_option maxRecDepth 1000000 in
theorem ck_582 : x_ok mLT1 [cx_504] mTS2 mTC2 mRUp cx_582 [(3, [0])] [] [] (7, []) 9 10 = true := by decide +kernel
theorem sn_582 {W : Bool} {X : List Int32} : y_Snd (mGw W) mLT1 (J2 W X) X cx_582 := y_ok J2_J mTS2_ok1 mTC2_ok1 mRUp_ok1 (List.forall_mem_cons.mpr ⟨sn_504, fun _ h => absurd h List.not_mem_nil⟩) ck_582
def cx_583pi_0 (t : List (Int × Int)) : List (Int × Int) := ui0 :: (0, 1) :: (0, 1) :: ui49 :: (0, 1) :: ui31 :: (0, 6) :: (0, 6) :: t
def cx_583pi_1 (t : List (Int × Int)) : List (Int × Int) := ui49 :: ui49 :: t
def cx_583p : zS := ((cx_583pi_0 (cx_583pi_1 [])), (cx_538pr_0 (cx_538pr_1 [])), [uL2108], [], [uV2, uV11], (cx_582pf_0 (cx_582pf_1 (cx_582pf_2 []))), [uG2067, uG2236, uG2120, uG2121, uG2173, uG1280])
def cx_583q0i_0 (t : List (Int × Int)) : List (Int × Int) := ui0 :: (0, 1) :: (0, 1) :: ui49 :: (0, 1) :: ui31 :: (0, 6) :: (0, 6) :: t
def cx_583q0i_1 (t : List (Int × Int)) : List (Int × Int) := ui49 :: ui49 :: ui584 :: t
def cx_583q0 : zS := ((cx_583q0i_0 (cx_583q0i_1 [])), (cx_538pr_0 (cx_538pr_1 [])), [], [], [uV567], [], [uG1895, uG1280, uG2237, uG2238])
def cx_583q1i_0 (t : List (Int × Int)) : List (Int × Int) := ui0 :: (0, 0) :: (0, 1) :: ui49 :: (0, 1) :: ui31 :: (0, 6) :: (0, 6) :: t
def cx_583q1i_1 (t : List (Int × Int)) : List (Int × Int) := ui49 :: ui49 :: ui49 :: ui584 :: ui1811 :: t
def cx_583q1g_0 (t : List zTg) : List zTg := uG1895 :: uG1280 :: uG2239 :: uG2240 :: (107, [uL214, uL114, uL170]) :: t
def cx_583q1 : zS := ((cx_583q1i_0 (cx_583q1i_1 [])), (cx_538pr_0 (cx_538pr_1 [])), [], [], [uV825], [], (cx_583q1g_0 []))
def cx_583q2i_0 (t : List (Int × Int)) : List (Int × Int) := ui0 :: (1, 1) :: (0, 1) :: ui49 :: (0, 1) :: ui31 :: (0, 6) :: (0, 6) :: t
def cx_583q2i_1 (t : List (Int × Int)) : List (Int × Int) := ui49 :: ui49 :: (0, 1) :: ui584 :: ui1811 :: t
def cx_583q2g_0 (t : List zTg) : List zTg := uG1895 :: uG1280 :: uG2239 :: uG2240 :: (108, [uL214, uL114, uL2241]) :: t
def cx_583q2 : zS := ((cx_583q2i_0 (cx_583q2i_1 [])), (cx_538pr_0 (cx_538pr_1 [])), [], [], [uV825], [], (cx_583q2g_0 []))
def cx_583q3 : zS := ((cx_583pi_0 (cx_583pi_1 [])), (cx_538pr_0 (cx_538pr_1 [])), [], [], [uV567], [], [uG1895, uG1280, uG2242, uG2243])
def cx_583q4i_0 (t : List (Int × Int)) : List (Int × Int) := ui0 :: (0, 0) :: (0, 1) :: ui49 :: (0, 1) :: ui31 :: (0, 6) :: (0, 6) :: t
def cx_583q4i_1 (t : List (Int × Int)) : List (Int × Int) := ui49 :: ui49 :: ui49 :: ui1811 :: t
def cx_583q4g_0 (t : List zTg) : List zTg := uG1895 :: uG1280 :: uG2242 :: uG2244 :: (107, [uL195, uL114, uL170]) :: t
def cx_583q4 : zS := ((cx_583q4i_0 (cx_583q4i_1 [])), (cx_538pr_0 (cx_538pr_1 [])), [], [], [uV825], [], (cx_583q4g_0 []))
def cx_583q5i_0 (t : List (Int × Int)) : List (Int × Int) := ui0 :: (1, 1) :: (0, 1) :: ui49 :: (0, 1) :: ui31 :: (0, 6) :: (0, 6) :: t
def cx_583q5i_1 (t : List (Int × Int)) : List (Int × Int) := ui49 :: ui49 :: (0, 1) :: ui1811 :: t
def cx_583q5g_0 (t : List zTg) : List zTg := uG1895 :: uG1280 :: uG2242 :: uG2244 :: (108, [uL195, uL114, uL2241]) :: t
def cx_583q5 : zS := ((cx_583q5i_0 (cx_583q5i_1 [])), (cx_538pr_0 (cx_538pr_1 [])), [], [], [uV825], [], (cx_583q5g_0 []))
/-- M.weakest -/
def cx_583 : zCtx := (264, cx_583p, [cx_583q0, cx_583q1, cx_583q2, cx_583q3, cx_583q4, cx_583q5], [uk2063, uk1896, uk1897, uk2055, uk2064, uk1898], 78170, 8, 174)
set_option maxRecDepth 1000000 in
theorem ck_583 : x_ok mLT1 [cx_504, cx_508, cx_580, cx_561] mTS2 mTC2 mRUp cx_583 [(3, [0]), (12, [1]), (17, [2]), (28, [2]), (33, [3])] [(15, uN2118), (20, [1000728]), (31, [1001015]), (52, [1000023]), (59, [1000679]), (60, [1001016])] [] (27, []) 78143 30 = true := by decide +kernel
theorem sn_583 {W : Bool} {X : List Int32} : y_Snd (mGw W) mLT1 (J2 W X) X cx_583 := y_ok J2_J mTS2_ok1 mTC2_ok1 mRUp_ok1 (List.forall_mem_cons.mpr ⟨sn_504, List.forall_mem_cons.mpr ⟨sn_508, List.forall_mem_cons.mpr ⟨sn_580, List.forall_mem_cons.mpr ⟨sn_561, fun _ h => absurd h List.not_mem_nil⟩⟩⟩⟩) ck_583
def cx_584pi_0 (t : List (Int × Int)) : List (Int × Int) := ui0 :: ui262 :: (0, 1) :: ui49 :: (0, 1) :: ui31 :: (0, 6) :: (0, 6) :: t
def cx_584pi_1 (t : List (Int × Int)) : List (Int × Int) := ui49 :: ui49 :: t
def cx_584p : zS := ((cx_584pi_0 (cx_584pi_1 [])), (cx_538pr_0 (cx_538pr_1 [])), [uL2108], [], [uV2, uV11], (cx_582pf_0 (cx_582pf_1 (cx_582pf_2 []))), [uG2067, uG2236, uG2120, uG2121, uG2173, uG1280])
/-- M.weakest -/
def cx_584 : zCtx := (264, cx_584p, [([ui0, ui262, (0, 1), ui49, (0, 1), ui31, (0, 6), (0, 6), ui49, ui49], [ur1331, ur1378, ur1379, ur1389, ur1390, ur1391, ur1392, ur1393, ur1387, ur1388, ur1380, ur1492, ur1493, ur1382, ur1885], [], [], [uV61], [], [uG1280])], [], 16, 1, 22)
set_option maxRecDepth 1000000 in
theorem ck_584 : x_ok mLT1 [cx_504] mTS2 mTC2 mRUp cx_584 [(3, [0])] [] [] (7, []) 9 10 = true := by decide +kernel
theorem sn_584 {W : Bool} {X : List Int32} : y_Snd (mGw W) mLT1 (J2 W X) X cx_584 := y_ok J2_J mTS2_ok1 mTC2_ok1 mRUp_ok1 (List.forall_mem_cons.mpr ⟨sn_504, fun _ h => absurd h List.not_mem_nil⟩) ck_584
def cx_585pi_0 (t : List (Int × Int)) : List (Int × Int) := ui0 :: (0, 0) :: (0, 1) :: ui49 :: (0, 1) :: ui31 :: (0, 6) :: (0, 6) :: t
def cx_585pi_1 (t : List (Int × Int)) : List (Int × Int) := ui49 :: ui49 :: t
def cx_585p : zS := ((cx_585pi_0 (cx_585pi_1 [])), (cx_538pr_0 (cx_538pr_1 [])), [uL2108], [], [uV2, uV11], (cx_582pf_0 (cx_582pf_1 (cx_582pf_2 []))), [uG2067, uG2236, uG2120, uG2121, uG2173, uG1280])
def cx_585q0i_0 (t : List (Int × Int)) : List (Int × Int) := ui0 :: (0, 0) :: (0, 1) :: ui49 :: (0, 1) :: ui31 :: (0, 6) :: (0, 6) :: t
def cx_585q0i_1 (t : List (Int × Int)) : List (Int × Int) := ui49 :: ui49 :: ui584 :: t
def cx_585q0 : zS := ((cx_585q0i_0 (cx_585q0i_1 [])), (cx_538pr_0 (cx_538pr_1 [])), [], [], [uV567], [], [uG1895, uG1280, uG2237, uG2238])
def cx_585q2 : zS := ((cx_585pi_0 (cx_585pi_1 [])), (cx_538pr_0 (cx_538pr_1 [])), [], [], [uV567], [], [uG1895, uG1280, uG2242, uG2243])
/-- M.weakest -/
def cx_585 : zCtx := (264, cx_585p, [cx_585q0, cx_583q1, cx_585q2, cx_583q4], [uk2063, uk1896, uk1897, uk2055, uk2064, uk1898], 78169, 8, 174)
set_option maxRecDepth 1000000 in
theorem ck_585 : x_ok mLT1 [cx_504, cx_508, cx_580, cx_561] mTS2 mTC2 mRUp cx_585 [(3, [0]), (12, [1]), (17, [2]), (28, [2]), (33, [3])] [(15, uN2118), (20, [1000728]), (31, [1001015]), (52, [1000023])] [] (26, []) 78143 29 = true := by decide +kernel
theorem sn_585 {W : Bool} {X : List Int32} : y_Snd (mGw W) mLT1 (J2 W X) X cx_585 := y_ok J2_J mTS2_ok1 mTC2_ok1 mRUp_ok1 (List.forall_mem_cons.mpr ⟨sn_504, List.forall_mem_cons.mpr ⟨sn_508, List.forall_mem_cons.mpr ⟨sn_580, List.forall_mem_cons.mpr ⟨sn_561, fun _ h => absurd h List.not_mem_nil⟩⟩⟩⟩) ck_585
def cx_586pi_0 (t : List (Int × Int)) : List (Int × Int) := ui0 :: (1, 1) :: (0, 1) :: ui49 :: (0, 1) :: ui31 :: (0, 6) :: (0, 6) :: t
def cx_586pi_1 (t : List (Int × Int)) : List (Int × Int) := ui49 :: ui49 :: t
def cx_586p : zS := ((cx_586pi_0 (cx_586pi_1 [])), (cx_538pr_0 (cx_538pr_1 [])), [uL2108], [], [uV2, uV11], (cx_582pf_0 (cx_582pf_1 (cx_582pf_2 []))), [uG2067, uG2236, uG2120, uG2121, uG2173, uG1280])
def cx_586q0i_0 (t : List (Int × Int)) : List (Int × Int) := ui0 :: (1, 1) :: (0, 1) :: ui49 :: (0, 1) :: ui31 :: (0, 6) :: (0, 6) :: t
def cx_586q0i_1 (t : List (Int × Int)) : List (Int × Int) := ui49 :: ui49 :: ui584 :: t
def cx_586q0 : zS := ((cx_586q0i_0 (cx_586q0i_1 [])), (cx_538pr_0 (cx_538pr_1 [])), [], [], [uV567], [], [uG1895, uG1280, uG2237, uG2238])
def cx_586q2 : zS := ((cx_586pi_0 (cx_586pi_1 [])), (cx_538pr_0 (cx_538pr_1 [])), [], [], [uV567], [], [uG1895, uG1280, uG2242, uG2243])
/-- M.weakest -/
def cx_586 : zCtx := (264, cx_586p, [cx_586q0, cx_583q2, cx_586q2, cx_583q5], [uk2063, uk1896, uk1897, uk2055, uk2064, uk1898], 78170, 8, 174)
set_option maxRecDepth 1000000 in
theorem ck_586 : x_ok mLT1 [cx_504, cx_508, cx_580, cx_561] mTS2 mTC2 mRUp cx_586 [(3, [0]), (12, [1]), (17, [2]), (28, [2]), (33, [3])] [(15, uN2118), (20, [1000728]), (31, [1001015]), (59, [1000679]), (60, [1001016])] [] (27, []) 78143 30 = true := by decide +kernel
theorem sn_586 {W : Bool} {X : List Int32} : y_Snd (mGw W) mLT1 (J2 W X) X cx_586 := y_ok J2_J mTS2_ok1 mTC2_ok1 mRUp_ok1 (List.forall_mem_cons.mpr ⟨sn_504, List.forall_mem_cons.mpr ⟨sn_508, List.forall_mem_cons.mpr ⟨sn_580, List.forall_mem_cons.mpr ⟨sn_561, fun _ h => absurd h List.not_mem_nil⟩⟩⟩⟩) ck_586
def cx_587pi_0 (t : List (Int × Int)) : List (Int × Int) := ui0 :: ui510 :: (0, 1) :: ui49 :: (0, 1) :: (0, 6) :: (0, 6) :: ui49 :: t
def cx_587pi_1 (t : List (Int × Int)) : List (Int × Int) := ui49 :: t
def cx_587p : zS := ((cx_587pi_0 (cx_587pi_1 [])), [ur1331, ur1380, ur1492, ur1493, ur1885], [uL576, (0, [(1, 1), (6, (-1))])], [], [uV2, uV11], [uF2020, uF2122, uF2123, uF1495, uF1890, uF2052, uF2053], [uG2219, uG2220, uG468])
/-- M.below -/
def cx_587 : zCtx := (265, cx_587p, [([ui0, ui510, (0, 1), ui49, (0, 1), (0, 6), (0, 6), ui49, ui49], [ur1331, ur1380, ur1492, ur1493, ur1885], [], [], [uV61], [], [uG1895, uG468])], [uk1896, uk1897, uk1898], 459, 1, 22)
set_option maxRecDepth 1000000 in
theorem ck_587 : x_ok mLT1 [cx_508, cx_504] mTS2 mTC2 mRUp cx_587 [(1, [0]), (15, [1])] [(4, [1000822]), (13, [1000919]), (21, [1001018]), (29, [1001017])] [] (14, []) 445 17 = true := by decide +kernel
theorem sn_587 {W : Bool} {X : List Int32} : y_Snd (mGw W) mLT1 (J2 W X) X cx_587 := y_ok J2_J mTS2_ok1 mTC2_ok1 mRUp_ok1 (List.forall_mem_cons.mpr ⟨sn_508, List.forall_mem_cons.mpr ⟨sn_504, fun _ h => absurd h List.not_mem_nil⟩⟩) ck_587
def cx_588pi_0 (t : List (Int × Int)) : List (Int × Int) := ui0 :: (0, 5) :: (0, 1) :: ui49 :: (0, 1) :: (0, 6) :: (0, 6) :: ui49 :: t
def cx_588pi_1 (t : List (Int × Int)) : List (Int × Int) := ui49 :: ui584 :: t
def cx_588p : zS := ((cx_588pi_0 (cx_588pi_1 [])), [ur1331, ur1380, ur1492, ur1493, ur1885], [uL576, uL9, uL2109], [], [uV2, uV11], [uF2020, uF2122, uF2123, uF1495, uF1890, uF2052, uF2053], [uG2219, uG2220, uG468, (260, [uL65, uL63, uL63, uL63, uL63, uL63, uL63, uL63, uL109, uL78, uL164])])
/-- M.below -/
def cx_588 : zCtx := (265, cx_588p, [([ui0, (0, 5), (0, 1), ui49, (0, 1), (0, 6), (0, 6), ui49, ui49, ui584], [ur1331, ur1380, ur1492, ur1493, ur1885], [], [], [uV778], [], [uG1895, uG468])], [uk1896, uk1897, uk1898], 462, 1, 23)
set_option maxRecDepth 1000000 in
theorem ck_588 : x_ok mLT1 [cx_508, cx_504, cx_559] mTS2 mTC2 mRUp cx_588 [(1, [0]), (15, [1]), (23, [2])] [(4, [1000822]), (13, [1000919]), (21, [1001018]), (26, [1001019]), (29, [1001017])] [] (17, []) 445 20 = true := by decide +kernel
theorem sn_588 {W : Bool} {X : List Int32} : y_Snd (mGw W) mLT1 (J2 W X) X cx_588 := y_ok J2_J mTS2_ok1 mTC2_ok1 mRUp_ok1 (List.forall_mem_cons.mpr ⟨sn_508, List.forall_mem_cons.mpr ⟨sn_504, List.forall_mem_cons.mpr ⟨sn_559, fun _ h => absurd h List.not_mem_nil⟩⟩⟩) ck_588
def cx_589pi_0 (t : List (Int × Int)) : List (Int × Int) := ui0 :: ui262 :: (0, 1) :: ui49 :: (0, 1) :: (0, 6) :: (0, 6) :: ui49 :: t
def cx_589pi_1 (t : List (Int × Int)) : List (Int × Int) := ui49 :: t
def cx_589p : zS := ((cx_589pi_0 (cx_589pi_1 [])), [ur1331, ur1380, ur1492, ur1493, ur1885], [uL576, uL568], [], [uV2, uV11], [uF2020, uF2122, uF2123, uF1495, uF1890, uF2052, uF2053], [uG2219, uG2220, uG468])
/-- M.below -/
def cx_589 : zCtx := (265, cx_589p, [([ui0, ui262, (0, 1), ui49, (0, 1), (0, 6), (0, 6), ui49, ui49], [ur1331, ur1380, ur1492, ur1493, ur1885], [], [], [uV61], [], [uG1895, uG468])], [uk1896, uk1897, uk1898], 459, 1, 22)
set_option maxRecDepth 1000000 in
theorem ck_589 : x_ok mLT1 [cx_508, cx_504] mTS2 mTC2 mRUp cx_589 [(1, [0]), (15, [1])] [(4, [1000822]), (13, [1000919]), (29, [1001017])] [] (14, []) 445 17 = true := by decide +kernel
theorem sn_589 {W : Bool} {X : List Int32} : y_Snd (mGw W) mLT1 (J2 W X) X cx_589 := y_ok J2_J mTS2_ok1 mTC2_ok1 mRUp_ok1 (List.forall_mem_cons.mpr ⟨sn_508, List.forall_mem_cons.mpr ⟨sn_504, fun _ h => absurd h List.not_mem_nil⟩⟩) ck_589
/-- M.copiesStill -/
def cx_590 : zCtx := (267, ([ui0, (0, 1), ui49, (0, 1)], [ur1331], [], [], [uV2], [uF1886, uF1887, uF1888], []), [([ui0, (0, 1), ui49, (0, 1), ui196], [ur1331], [], [], [], [uF2245, uF2025], [uG1899, uG1895])], [uk1896, uk1897, uk1898], 451, 1, 21)
set_option maxRecDepth 1000000 in
theorem ck_590 : x_ok mLT1 [cx_508] mTS2 mTC2 mRUp cx_590 [(1, [0])] [] [] (6, []) 445 9 = true := by decide +kernel
theorem sn_590 {W : Bool} {X : List Int32} : y_Snd (mGw W) mLT1 (J2 W X) X cx_590 := y_ok J2_J mTS2_ok1 mTC2_ok1 mRUp_ok1 (List.forall_mem_cons.mpr ⟨sn_508, fun _ h => absurd h List.not_mem_nil⟩) ck_590
/-- M.belowOf -/
def cx_591 : zCtx := (252, ([ui0, (0, 5)], [ur1331], [], [], [uV2, uV11], [], []), [([ui0, (0, 5), ui49], [ur1331], [], [], [uV12], [], [])], [], 130, 0, 0)
set_option maxRecDepth 1000000 in
theorem ck_591 : x_ok mLT1 [] mTS2 mTC2 mRUp cx_591 [] [] [(6, ([(0, 3072), (0, 5), ((-2147483648), 2147483647), (1, 6)], [(12, false)], [], [(2, 0, 0, []), (0, 0, 0, [(1, 1)]), (0, 0, 0, [(2, 1)]), (0, 0, 0, [(3, 1)])], [], [], []), (146, [(3, (-23))]))] (130, []) 0 25 = true := by decide +kernel
theorem sn_591 {W : Bool} {X : List Int32} : y_Snd (mGw W) mLT1 (J2 W X) X cx_591 := y_ok J2_J mTS2_ok1 mTC2_ok1 mRUp_ok1 (fun _ h => absurd h List.not_mem_nil) ck_591
/-- M.strongFirst -/
def cx_592 : zCtx := (225, ([ui0, (0, 5), (0, 1)], [ur1331], [], [], [uV2, uV11], [uF2020], []), [([ui0, (0, 5), (0, 1), ui196], [ur1331], [], [], [uV58], [], [])], [], 10, 0, 0)
set_option maxRecDepth 1000000 in
theorem ck_592 : x_ok mLT1 [] mTS2 mTC2 mRUp cx_592 [] [] [] (10, []) 0 13 = true := by decide +kernel
theorem sn_592 {W : Bool} {X : List Int32} : y_Snd (mGw W) mLT1 (J2 W X) X cx_592 := y_ok J2_J mTS2_ok1 mTC2_ok1 mRUp_ok1 (fun _ h => absurd h List.not_mem_nil) ck_592
/-- M.strongOf -/
def cx_593 : zCtx := (230, ([ui0, (0, 5), (0, 1)], [ur1331], [], [], [uV2, uV11], [uF2020], []), [([ui0, (0, 5), (0, 1), ui196], [ur1331], [], [], [uV58], [], [])], [], 22, 1, 21)
set_option maxRecDepth 1000000 in
theorem ck_593 : x_ok mLT1 [cx_514, cx_592] mTS2 mTC2 mRUp cx_593 [(2, [0]), (22, [1])] [] [] (12, []) 10 15 = true := by decide +kernel
theorem sn_593 {W : Bool} {X : List Int32} : y_Snd (mGw W) mLT1 (J2 W X) X cx_593 := y_ok J2_J mTS2_ok1 mTC2_ok1 mRUp_ok1 (List.forall_mem_cons.mpr ⟨sn_514, List.forall_mem_cons.mpr ⟨sn_592, fun _ h => absurd h List.not_mem_nil⟩⟩) ck_593
/-- M.placeOf -/
def cx_594 : zCtx := (227, ([ui0, (0, 5)], [ur1331], [], [], [uV2, uV11], [], []), [([ui0, (0, 5), (0, 5)], [ur1331], [], [], [uV12], [], []), ([ui0, (0, 5)], [ur1331], [], [], [uV61], [], [])], [], 113, 0, 0)
set_option maxRecDepth 1000000 in
theorem ck_594 : x_ok mLT1 [] mTS2 mTC2 mRUp cx_594 [] [] [(2, ([(0, 3072), (0, 5), (0, 6)], [(12, false)], [], [(2, 0, 0, []), (0, 0, 0, [(1, 1)]), (0, 0, 0, [(2, 1)])], [], [], []), (110, [(2, (-17))]))] (113, []) 0 19 = true := by decide +kernel
theorem sn_594 {W : Bool} {X : List Int32} : y_Snd (mGw W) mLT1 (J2 W X) X cx_594 := y_ok J2_J mTS2_ok1 mTC2_ok1 mRUp_ok1 (fun _ h => absurd h List.not_mem_nil) ck_594
/-- M.views -/
def cx_595 : zCtx := (229, ([ui0, (0, 5), (0, 1)], [ur1331], [], [], [uV2, uV11], [uF2020], []), [([ui0, (0, 5), (0, 1)], [ur1331], [], [], [], [], [])], [uk2055], 182, 2, 42)
set_option maxRecDepth 1000000 in
theorem ck_595 : x_ok mLT1 [cx_593, cx_514, cx_594] mTS2 mTC2 mRUp cx_595 [(19, [0]), (50, [1]), (58, [2])] [] [] (69, []) 113 72 = true := by decide +kernel
theorem sn_595 {W : Bool} {X : List Int32} : y_Snd (mGw W) mLT1 (J2 W X) X cx_595 := y_ok J2_J mTS2_ok1 mTC2_ok1 mRUp_ok1 (List.forall_mem_cons.mpr ⟨sn_593, List.forall_mem_cons.mpr ⟨sn_514, List.forall_mem_cons.mpr ⟨sn_594, fun _ h => absurd h List.not_mem_nil⟩⟩⟩) ck_595
def cx_596pr_0 (t : List (Nat × Bool)) : List (Nat × Bool) := ur1331 :: ur1378 :: ur1379 :: ur1389 :: ur1390 :: ur1391 :: ur1392 :: ur1393 :: t
def cx_596pr_1 (t : List (Nat × Bool)) : List (Nat × Bool) := ur1387 :: ur1388 :: t
def cx_596pf_0 (t : List zFa) : List zFa := uF2107 :: uF1394 :: uF1395 :: uF2027 :: uF2028 :: uF2029 :: uF2030 :: uF2031 :: t
def cx_596pf_1 (t : List zFa) : List zFa := uF1625 :: uF1626 :: t
def cx_596p : zS := ([ui0, (0, 5), (0, 5), ui196, (0, 1), ui31], (cx_596pr_0 (cx_596pr_1 [])), [], [], [uV2, uV11, uV12, uV58], (cx_596pf_0 (cx_596pf_1 [])), [uG2111, uG2112])
/-- M.joinsBy -/
def cx_596 : zCtx := (241, cx_596p, [([ui0, (0, 5), (0, 5), ui196, (0, 1), ui31], [ur1331, ur1378, ur1379, ur1389, ur1390, ur1391, ur1392, ur1393, ur1387, ur1388], [], [], [uV62], [], [(233, [uL98, uL114, (0, [(3, 10)]), uL63])]), ([ui0, (0, 5), (0, 5), ui196, (0, 1), ui31, ui584], [ur1331, ur1378, ur1379, ur1389, ur1390, ur1391, ur1392, ur1393, ur1387, ur1388], [], [], [uV108], [], [])], [uk2063, uk2055, uk2064], 77629, 3, 63)
set_option maxRecDepth 1000000 in
theorem ck_596 : x_ok mLT1 [cx_595, cx_593, cx_536, cx_523] mTS2 mTC2 mRUp cx_596 [(2, [0]), (20, [1]), (30, [2]), (37, [3])] [] [] (25, []) 77604 28 = true := by decide +kernel
theorem sn_596 {W : Bool} {X : List Int32} : y_Snd (mGw W) mLT1 (J2 W X) X cx_596 := y_ok J2_J mTS2_ok1 mTC2_ok1 mRUp_ok1 (List.forall_mem_cons.mpr ⟨sn_595, List.forall_mem_cons.mpr ⟨sn_593, List.forall_mem_cons.mpr ⟨sn_536, List.forall_mem_cons.mpr ⟨sn_523, fun _ h => absurd h List.not_mem_nil⟩⟩⟩⟩) ck_596
def cx_597pf_0 (t : List zFa) : List zFa := uF2024 :: uF1394 :: uF1395 :: uF2027 :: uF2028 :: uF2029 :: uF2030 :: uF2031 :: t
def cx_597pf_1 (t : List zFa) : List zFa := uF1625 :: uF1626 :: t
def cx_597p : zS := ([ui0, (0, 5), (0, 5), (0, 1), ui31], (cx_596pr_0 (cx_596pr_1 [])), [], [], [uV2, uV11, uV12], (cx_597pf_0 (cx_597pf_1 [])), [uG2037, uG2114])
/-- M.joinsOf -/
def cx_597 : zCtx := (240, cx_597p, [([ui0, (0, 5), (0, 5), (0, 1), ui31, ui584], [ur1331, ur1378, ur1379, ur1389, ur1390, ur1391, ur1392, ur1393, ur1387, ur1388], [], [], [uV75], [], [])], [uk2063, uk2055, uk2064], 77638, 4, 86)
set_option maxRecDepth 1000000 in
theorem ck_597 : x_ok mLT1 [cx_534, cx_596] mTS2 mTC2 mRUp cx_597 [(6, [0]), (9, [1])] [] [] (9, []) 77629 12 = true := by decide +kernel
theorem sn_597 {W : Bool} {X : List Int32} : y_Snd (mGw W) mLT1 (J2 W X) X cx_597 := y_ok J2_J mTS2_ok1 mTC2_ok1 mRUp_ok1 (List.forall_mem_cons.mpr ⟨sn_534, List.forall_mem_cons.mpr ⟨sn_596, fun _ h => absurd h List.not_mem_nil⟩⟩) ck_597
/-- M.spareAt -/
def cx_598 : zCtx := (251, ([ui0, ui802, (0, 1), ui31], [ur1331, ur1378, ur1379, ur1389, ur1390, ur1391, ur1392, ur1393, ur1387, ur1388], [], [], [uV2, uV11], [uF2020, uF1394, uF1395, uF2027, uF2028, uF2029, uF2030, uF2031, uF1625, uF1626], [uG2067, uG2068]), [([ui0, ui802, (0, 1), ui31, ui49], [ur1331, ur1378, ur1379, ur1389, ur1390, ur1391, ur1392, ur1393, ur1387, ur1388], [], [], [uV97], [], [])], [uk2063, uk2055, uk2064], 77677, 5, 108)
set_option maxRecDepth 1000000 in
theorem ck_598 : x_ok mLT1 [cx_591, cx_597] mTS2 mTC2 mRUp cx_598 [(32, [0]), (58, [1]), (63, [0])] [] [] (39, []) 77638 42 = true := by decide +kernel
theorem sn_598 {W : Bool} {X : List Int32} : y_Snd (mGw W) mLT1 (J2 W X) X cx_598 := y_ok J2_J mTS2_ok1 mTC2_ok1 mRUp_ok1 (List.forall_mem_cons.mpr ⟨sn_591, List.forall_mem_cons.mpr ⟨sn_597, fun _ h => absurd h List.not_mem_nil⟩⟩) ck_598
/-- M.breaksAt -/
def cx_599 : zCtx := (250, ([ui0, ui584, (0, 1), ui31], [ur1331, ur1378, ur1379, ur1389, ur1390, ur1391, ur1392, ur1393, ur1387, ur1388], [], [], [uV2, uV11], [uF2020, uF1394, uF1395, uF2027, uF2028, uF2029, uF2030, uF2031, uF1625, uF1626], [uG2067, uG2068]), [([ui0, ui584, (0, 1), ui31, ui802], [ur1331, ur1378, ur1379, ur1389, ur1390, ur1391, ur1392, ur1393, ur1387, ur1388], [], [], [uV97], [], []), ([ui0, ui584, (0, 1), ui31], [ur1331, ur1378, ur1379, ur1389, ur1390, ur1391, ur1392, ur1393, ur1387, ur1388], [], [], [uV61], [], [])], [uk2063, uk2055, uk2064], 78042, 6, 131)
def cz_599_0f_0 (t : List zFa) : List zFa := uF2020 :: uF1394 :: uF1395 :: uF2027 :: uF2028 :: uF2029 :: uF2030 :: uF2031 :: t
def cz_599_0f_1 (t : List zFa) : List zFa := uF1625 :: uF1626 :: t
def cz_599_0 : zS := ([ui0, ui584, (0, 1), ui31, ui425], (cx_596pr_0 (cx_596pr_1 [])), [], [uV2, uV11, uV97], [], (cz_599_0f_0 (cz_599_0f_1 [])), [uG2067, uG2068])
set_option maxRecDepth 1000000 in
theorem ck_599 : x_ok mLT1 [cx_598] mTS2 mTC2 mRUp cx_599 [(17, [0])] [] [(2, cz_599_0, (362, [(4, (-16))]))] (365, []) 77677 18 = true := by decide +kernel
theorem sn_599 {W : Bool} {X : List Int32} : y_Snd (mGw W) mLT1 (J2 W X) X cx_599 := y_ok J2_J mTS2_ok1 mTC2_ok1 mRUp_ok1 (List.forall_mem_cons.mpr ⟨sn_598, fun _ h => absurd h List.not_mem_nil⟩) ck_599
/-- M.growsOf -/
def cx_600 : zCtx := (228, ([ui0, (0, 5), (0, 1), ui31], [ur1331, ur1378, ur1379, ur1389, ur1390, ur1391, ur1392, ur1393, ur1387, ur1388], [], [], [uV2, uV11], [uF2020, uF1394, uF1395, uF2027, uF2028, uF2029, uF2030, uF2031, uF1625, uF1626], [uG2067, uG2068]), [([ui0, (0, 5), (0, 1), ui31], [ur1331, ur1378, ur1379, ur1389, ur1390, ur1391, ur1392, ur1393, ur1387, ur1388], [], [], [uV62], [], [(233, [uL67, uL63, uL65, uL63])]), ([ui0, (0, 5), (0, 1), ui31, ui524], [ur1331, ur1378, ur1379, ur1389, ur1390, ur1391, ur1392, ur1393, ur1387, ur1388], [], [], [uV97], [], [])], [uk2063, uk2055, uk2064], 77615, 3, 63)
set_option maxRecDepth 1000000 in
theorem ck_600 : x_ok mLT1 [cx_595, cx_522, cx_523] mTS2 mTC2 mRUp cx_600 [(2, [0]), (8, [1]), (14, [2])] [] [] (11, []) 77604 14 = true := by decide +kernel
theorem sn_600 {W : Bool} {X : List Int32} : y_Snd (mGw W) mLT1 (J2 W X) X cx_600 := y_ok J2_J mTS2_ok1 mTC2_ok1 mRUp_ok1 (List.forall_mem_cons.mpr ⟨sn_595, List.forall_mem_cons.mpr ⟨sn_522, List.forall_mem_cons.mpr ⟨sn_523, fun _ h => absurd h List.not_mem_nil⟩⟩⟩) ck_600
/-- M.weakensOf -/
def cx_601 : zCtx := (234, ([ui0, (0, 5), (0, 1), ui31], [ur1331, ur1378, ur1379, ur1389, ur1390, ur1391, ur1392, ur1393, ur1387, ur1388], [], [], [uV2, uV11], [uF2020, uF1394, uF1395, uF2027, uF2028, uF2029, uF2030, uF2031, uF1625, uF1626], [uG2067, uG2068]), [([ui0, (0, 5), (0, 1), ui31], [ur1331, ur1378, ur1379, ur1389, ur1390, ur1391, ur1392, ur1393, ur1387, ur1388], [], [], [uV62], [], [(233, [uL67, uL65, uL65, uL63])]), ([ui0, (0, 5), (0, 1), ui31, ui524], [ur1331, ur1378, ur1379, ur1389, ur1390, ur1391, ur1392, ur1393, ur1387, ur1388], [], [], [uV97], [], [])], [uk2063, uk2055, uk2064], 77615, 3, 63)
set_option maxRecDepth 1000000 in
theorem ck_601 : x_ok mLT1 [cx_595, cx_526, cx_523] mTS2 mTC2 mRUp cx_601 [(2, [0]), (8, [1]), (14, [2])] [] [] (11, []) 77604 14 = true := by decide +kernel
theorem sn_601 {W : Bool} {X : List Int32} : y_Snd (mGw W) mLT1 (J2 W X) X cx_601 := y_ok J2_J mTS2_ok1 mTC2_ok1 mRUp_ok1 (List.forall_mem_cons.mpr ⟨sn_595, List.forall_mem_cons.mpr ⟨sn_526, List.forall_mem_cons.mpr ⟨sn_523, fun _ h => absurd h List.not_mem_nil⟩⟩⟩) ck_601
/-- M.isBlighted -/
def cx_602 : zCtx := (257, ([ui0, (0, 5), (0, 1), ui2202, (0, 1)], [ur1331], [], [], [uV2, uV11], [uF2020, uF2122, uF2123], []), [([ui0, (0, 5), (0, 1), ui2202, (0, 0)], [ur1331], [], [], [uV64], [], []), ([ui0, (0, 5), (0, 1), ui2202, (0, 0)], [ur1331], [], [], [uV62], [], []), ([ui0, (0, 5), (0, 1), ui2202, (1, 1)], [ur1331], [], [], [uV62], [], [])], [], 47, 2, 43)
set_option maxRecDepth 1000000 in
theorem ck_602 : x_ok mLT1 [cx_571] mTS2 mTC2 mRUp cx_602 [(20, [0])] [] [] (22, []) 25 25 = true := by decide +kernel
theorem sn_602 {W : Bool} {X : List Int32} : y_Snd (mGw W) mLT1 (J2 W X) X cx_602 := y_ok J2_J mTS2_ok1 mTC2_ok1 mRUp_ok1 (List.forall_mem_cons.mpr ⟨sn_571, fun _ h => absurd h List.not_mem_nil⟩) ck_602
def cx_603pf_0 (t : List zFa) : List zFa := uF1886 :: uF1887 :: uF1888 :: uF1394 :: uF1395 :: uF2027 :: uF2028 :: uF2029 :: t
def cx_603pf_1 (t : List zFa) : List zFa := uF2030 :: uF2031 :: uF1625 :: uF1626 :: t
def cx_603p : zS := ([ui0, (0, 1), ui2246, (0, 1), ui31], (cx_596pr_0 (cx_596pr_1 [])), [], [], [uV2], (cx_603pf_0 (cx_603pf_1 [])), [uG2209, uG2234])
/-- M.yearGoes -/
def cx_603 : zCtx := (256, cx_603p, [([ui0, (0, 1), ui2246, (0, 1), ui31], [ur1331, ur1378, ur1379, ur1389, ur1390, ur1391, ur1392, ur1393, ur1387, ur1388], [], [], [], [], [])], [uk2063, uk2055, uk2064, uk1898, uk2214, uk2215], 78112, 4, 84)
def cq_603 : List zCtx := [cx_600, cx_601, cx_602, cx_523, cx_514]
def cs_603 : List (Nat × List Nat) := [(22, [0]), (33, [1]), (65, [2]), (98, [3]), (104, [4]), (137, [3])]
def hs_603 : List (Nat × List Nat) := []
def nd_603_0p : zS := ([ui0, (0, 1), ui2246, (0, 1), ui31, (0, 6)], (cx_596pr_0 (cx_596pr_1 [])), [], [uV2, uV75], [], (cx_603pf_0 (cx_603pf_1 [])), [uG2209, uG2234])
def nd_603_0 : zN := (2, nd_603_0p, (494, [(5, (-24))]))
def nd_603_1pr_0 (t : List (Nat × Bool)) : List (Nat × Bool) := ur1331 :: ur1378 :: ur1379 :: ur1389 :: ur1390 :: ur1391 :: ur1392 :: ur1393 :: t
def nd_603_1pr_1 (t : List (Nat × Bool)) : List (Nat × Bool) := ur1387 :: ur1388 :: ur1380 :: t
def nd_603_1pf_0 (t : List zFa) : List zFa := uF2032 :: uF1886 :: uF1887 :: uF1888 :: uF1394 :: uF1395 :: uF2027 :: uF2028 :: t
def nd_603_1pf_1 (t : List zFa) : List zFa := uF2029 :: uF2030 :: uF2031 :: uF1625 :: uF1626 :: t
def nd_603_1p : zS := ([ui0, (0, 1), ui2246, (0, 1), ui31, (0, 6)], (nd_603_1pr_0 (nd_603_1pr_1 [])), [], [uV2, uV75], [], (nd_603_1pf_0 (nd_603_1pf_1 [])), [uG2209, uG2234])
def nd_603_1 : zN := (45, nd_603_1p, (340, [(5, (-54))]))
def ns_603 : List zN := [nd_603_0, nd_603_1]
set_option maxRecDepth 1000000 in
theorem ca_603 : x_okA mLT1 cq_603 mTS2 mTC2 mRUp cx_603 cs_603 hs_603 ns_603 (497, []) 77615 56 = true := by decide +kernel
set_option maxRecDepth 1000000 in
theorem cb_603_0 : x_okB mLT1 cq_603 mTS2 mTC2 mRUp cx_603 cs_603 hs_603 ns_603 (497, []) 77615 56 nd_603_0 = true := by decide +kernel
set_option maxRecDepth 1000000 in
theorem cb_603_1 : x_okB mLT1 cq_603 mTS2 mTC2 mRUp cx_603 cs_603 hs_603 ns_603 (497, []) 77615 56 nd_603_1 = true := by decide +kernel
set_option maxRecDepth 1000000 in
theorem cc_603 : x_okC mLT1 cq_603 mTS2 mTC2 mRUp cx_603 cs_603 hs_603 ns_603 (497, []) 77615 56 = true := by decide +kernel
theorem ck_603 : x_ok mLT1 cq_603 mTS2 mTC2 mRUp cx_603 cs_603 hs_603 ns_603 (497, []) 77615 56 = true := x_ok_of ca_603 (List.forall_mem_cons.mpr ⟨cb_603_0, List.forall_mem_cons.mpr ⟨cb_603_1, fun _ h => absurd h List.not_mem_nil⟩⟩) cc_603
theorem sn_603 {W : Bool} {X : List Int32} : y_Snd (mGw W) mLT1 (J2 W X) X cx_603 := y_ok J2_J mTS2_ok1 mTC2_ok1 mRUp_ok1 (List.forall_mem_cons.mpr ⟨sn_600, List.forall_mem_cons.mpr ⟨sn_601, List.forall_mem_cons.mpr ⟨sn_602, List.forall_mem_cons.mpr ⟨sn_523, List.forall_mem_cons.mpr ⟨sn_514, fun _ h => absurd h List.not_mem_nil⟩⟩⟩⟩⟩) ck_603
def cx_604pf_0 (t : List zFa) : List zFa := uF2020 :: uF2122 :: uF2123 :: uF1394 :: uF1395 :: uF2027 :: uF2028 :: uF2029 :: t
def cx_604pf_1 (t : List zFa) : List zFa := uF2030 :: uF2031 :: uF1625 :: uF1626 :: t
def cx_604p : zS := ([ui0, ui49, (0, 1), ui49, (0, 1), ui31], (cx_596pr_0 (cx_596pr_1 [])), [], [], [uV2, uV11], (cx_604pf_0 (cx_604pf_1 [])), [uG2067, uG2236])
/-- M.lasts -/
def cx_604 : zCtx := (266, cx_604p, [([ui0, ui799, (0, 1), ui49, (0, 1), ui31], [ur1331, ur1378, ur1379, ur1389, ur1390, ur1391, ur1392, ur1393, ur1387, ur1388], [], [], [uV61], [uF2122, uF2123], []), ([ui0, ui262, (0, 1), ui49, (0, 1), ui31], [ur1331, ur1378, ur1379, ur1389, ur1390, ur1391, ur1392, ur1393, ur1387, ur1388], [], [], [uV61], [uF2122, uF2123], []), ([ui0, ui584, (0, 1), ui49, (0, 1), ui31, ui1204, ui196], [ur1331, ur1378, ur1379, ur1389, ur1390, ur1391, ur1392, ur1393, ur1387, ur1388], [], [], [uV108], [uF2245, uF2247], []), ([ui0, ui584, (0, 1), ui49, (0, 1), ui31, ui196], [ur1331, ur1378, ur1379, ur1389, ur1390, ur1391, ur1392, ur1393, ur1387, ur1388], [], [], [uV567], [uF2245, uF2248], [])], kc_82, 78881, 7, 153)
def cz_604_0f_0 (t : List zFa) : List zFa := uF2245 :: uF2247 :: uF2020 :: uF1394 :: uF1395 :: uF2027 :: uF2028 :: uF2029 :: t
def cz_604_0f_1 (t : List zFa) : List zFa := uF2030 :: uF2031 :: uF1625 :: uF1626 :: t
def cz_604_0 : zS := ([ui0, ui584, (0, 1), ui49, (0, 1), ui31, ui844, ui196], (cx_596pr_0 (cx_596pr_1 [])), [], [uV2, uV11, uV108], [], (cz_604_0f_0 (cz_604_0f_1 [])), [uG2067, uG2236])
set_option maxRecDepth 1000000 in
theorem ck_604 : x_ok mLT1 [cx_554, cx_590, cx_599, cx_603] mTS2 mTC2 mRUp cx_604 [(1, [0]), (10, [1]), (23, [2]), (32, [3])] [] [(15, cz_604_0, (761, [(6, (-12))]))] (769, []) 78112 14 = true := by decide +kernel
theorem sn_604 {W : Bool} {X : List Int32} : y_Snd (mGw W) mLT1 (J2 W X) X cx_604 := y_ok J2_J mTS2_ok1 mTC2_ok1 mRUp_ok1 (List.forall_mem_cons.mpr ⟨sn_554, List.forall_mem_cons.mpr ⟨sn_590, List.forall_mem_cons.mpr ⟨sn_599, List.forall_mem_cons.mpr ⟨sn_603, fun _ h => absurd h List.not_mem_nil⟩⟩⟩⟩) ck_604
def cx_605pi_0 (t : List (Int × Int)) : List (Int × Int) := ui0 :: ui1063 :: (0, 1) :: ui49 :: (0, 1) :: ui31 :: (0, 6) :: (0, 6) :: t
def cx_605pi_1 (t : List (Int × Int)) : List (Int × Int) := ui49 :: ui49 :: (0, 6) :: t
def cx_605pf_0 (t : List zFa) : List zFa := uF2020 :: uF2122 :: uF2123 :: uF1394 :: uF1395 :: uF2027 :: uF2028 :: uF2029 :: t
def cx_605pf_1 (t : List zFa) : List zFa := uF2030 :: uF2031 :: uF1625 :: uF1626 :: uF2032 :: uF2033 :: uF2034 :: uF1920 :: t
def cx_605pf_2 (t : List zFa) : List zFa := uF2113 :: uF2227 :: t
def cx_605p : zS := ((cx_605pi_0 (cx_605pi_1 [])), (cx_538pr_0 (cx_538pr_1 [])), [uL2108], [], [uV2, uV11], (cx_605pf_0 (cx_605pf_1 (cx_605pf_2 []))), [uG2067, uG2236, uG2120, uG2121, uG2173, uG1280])
/-- M.quarrel -/
def cx_605 : zCtx := (268, cx_605p, [([ui0, ui1063, (0, 1), ui49, (0, 1), ui31, (0, 6), (0, 6), ui49, ui49, (0, 6)], [ur1331, ur1378, ur1379, ur1389, ur1390, ur1391, ur1392, ur1393, ur1387, ur1388, ur1380, ur1492, ur1493, ur1382, ur1885], [], [], [uV61], [], [uG1280])], [], 16, 1, 22)
set_option maxRecDepth 1000000 in
theorem ck_605 : x_ok mLT1 [cx_504] mTS2 mTC2 mRUp cx_605 [(3, [0])] [] [] (7, []) 9 10 = true := by decide +kernel
theorem sn_605 {W : Bool} {X : List Int32} : y_Snd (mGw W) mLT1 (J2 W X) X cx_605 := y_ok J2_J mTS2_ok1 mTC2_ok1 mRUp_ok1 (List.forall_mem_cons.mpr ⟨sn_504, fun _ h => absurd h List.not_mem_nil⟩) ck_605
def cx_606pi_0 (t : List (Int × Int)) : List (Int × Int) := ui0 :: ui262 :: (0, 1) :: ui49 :: (0, 1) :: ui31 :: (0, 6) :: (0, 6) :: t
def cx_606pi_1 (t : List (Int × Int)) : List (Int × Int) := ui49 :: ui49 :: (0, 6) :: t
def cx_606p : zS := ((cx_606pi_0 (cx_606pi_1 [])), (cx_538pr_0 (cx_538pr_1 [])), [uL2108], [], [uV2, uV11], (cx_605pf_0 (cx_605pf_1 (cx_605pf_2 []))), [uG2067, uG2236, uG2120, uG2121, uG2173, uG1280])
/-- M.quarrel -/
def cx_606 : zCtx := (268, cx_606p, [([ui0, ui262, (0, 1), ui49, (0, 1), ui31, (0, 6), (0, 6), ui49, ui49, (0, 6)], [ur1331, ur1378, ur1379, ur1389, ur1390, ur1391, ur1392, ur1393, ur1387, ur1388, ur1380, ur1492, ur1493, ur1382, ur1885], [], [], [uV61], [], [uG1280])], [], 16, 1, 22)
set_option maxRecDepth 1000000 in
theorem ck_606 : x_ok mLT1 [cx_504] mTS2 mTC2 mRUp cx_606 [(3, [0])] [] [] (7, []) 9 10 = true := by decide +kernel
theorem sn_606 {W : Bool} {X : List Int32} : y_Snd (mGw W) mLT1 (J2 W X) X cx_606 := y_ok J2_J mTS2_ok1 mTC2_ok1 mRUp_ok1 (List.forall_mem_cons.mpr ⟨sn_504, fun _ h => absurd h List.not_mem_nil⟩) ck_606
def cx_607pi_0 (t : List (Int × Int)) : List (Int × Int) := ui0 :: (0, 0) :: (0, 1) :: ui49 :: (0, 1) :: ui31 :: (0, 6) :: (0, 6) :: t
def cx_607pi_1 (t : List (Int × Int)) : List (Int × Int) := ui49 :: ui49 :: (0, 6) :: t
def cx_607p : zS := ((cx_607pi_0 (cx_607pi_1 [])), (cx_538pr_0 (cx_538pr_1 [])), [uL2108], [], [uV2, uV11], (cx_605pf_0 (cx_605pf_1 (cx_605pf_2 []))), [uG2067, uG2236, uG2120, uG2121, uG2173, uG1280])
def cx_607q0i_0 (t : List (Int × Int)) : List (Int × Int) := ui0 :: (0, 0) :: (0, 1) :: ui49 :: (0, 1) :: ui31 :: (0, 6) :: (0, 6) :: t
def cx_607q0i_1 (t : List (Int × Int)) : List (Int × Int) := ui49 :: ui49 :: (0, 6) :: ui49 :: ui49 :: t
def cx_607q0 : zS := ((cx_607q0i_0 (cx_607q0i_1 [])), (cx_538pr_0 (cx_538pr_1 [])), [], [], [uV840], [], [uG1895, uG1280, (238, [uL638, uL104, uL63, uL63, uL63, uL63, uL63, uL63, uL79, uL195, uL214])])
/-- M.quarrel -/
def cx_607 : zCtx := (268, cx_607p, [cx_607q0], [uk2063, uk1896, uk1897, uk2055, uk2064, uk1898], 77828, 5, 108)
def cz_607_0i_0 (t : List (Int × Int)) : List (Int × Int) := ui0 :: (0, 0) :: (0, 1) :: ui49 :: (0, 1) :: ui31 :: (0, 6) :: (0, 6) :: t
def cz_607_0i_1 (t : List (Int × Int)) : List (Int × Int) := ui49 :: ui49 :: (0, 6) :: ui1249 :: ui1106 :: (1, 6) :: ui196 :: t
def cz_607_0r_0 (t : List (Nat × Bool)) : List (Nat × Bool) := ur1331 :: ur1378 :: ur1379 :: ur1389 :: ur1390 :: ur1391 :: ur1392 :: ur1393 :: t
def cz_607_0r_1 (t : List (Nat × Bool)) : List (Nat × Bool) := ur1387 :: ur1388 :: ur1380 :: ur1492 :: ur1493 :: ur1382 :: ur1885 :: ur1386 :: t
def cz_607_0r_2 (t : List (Nat × Bool)) : List (Nat × Bool) := ur1905 :: t
def cz_607_0f_0 (t : List zFa) : List zFa := uF1892 :: (0, (false, 49, 0, []), 0, 0, 0, [(14, 1)]) :: (0, (false, 30, 0, []), 2, 15, 0, []) :: (0, (false, 47, 0, []), 2, 16, 0, []) :: uF2020 :: uF1394 :: uF1395 :: uF2027 :: t
def cz_607_0f_1 (t : List zFa) : List zFa := uF2028 :: uF2029 :: uF2030 :: uF2031 :: uF1625 :: uF1626 :: uF2032 :: uF2033 :: t
def cz_607_0f_2 (t : List zFa) : List zFa := uF2034 :: uF1920 :: uF2113 :: (14, (true, 0, 24, []), 0, 0, 0, [(7, 1)]) :: t
def cz_607_0g_0 (t : List zTg) : List zTg := uG1895 :: uG2067 :: uG2236 :: uG2120 :: uG2121 :: uG2173 :: uG1280 :: (237, [uL78, uL104, uL63, uL63, uL63, uL63, uL63, uL63]) :: t
def cz_607_0g_1 (t : List zTg) : List zTg := (237, [uL78, uL63, uL63, uL63, uL63, uL63, uL63, uL63]) :: (238, [uL638, uL104, uL63, uL63, uL63, uL63, uL63, uL63, uL207, uL195, uL214]) :: t
def cz_607_0 : zS := ((cz_607_0i_0 (cz_607_0i_1 [])), (cz_607_0r_0 (cz_607_0r_1 (cz_607_0r_2 []))), [uL2108, uL2249], [uV2, uV11, uV840, uV198, uV409, uV113], [], (cz_607_0f_0 (cz_607_0f_1 (cz_607_0f_2 []))), (cz_607_0g_0 (cz_607_0g_1 [])))
set_option maxRecDepth 1000000 in
theorem ck_607 : x_ok mLT1 [cx_504, cx_508, cx_538] mTS2 mTC2 mRUp cx_607 [(3, [0]), (12, [1]), (57, [2])] [(15, uN2250), (22, [1001172]), (47, [1001173]), (57, [1001174]), (60, [1001175]), (69, [1000012]), (75, uN2251), (81, [1001178]), (87, [1001179])] [(24, cz_607_0, (209, [(1, (-100000000000)), (13, (-33))]))] (190, []) 77638 35 = true := by decide +kernel
theorem sn_607 {W : Bool} {X : List Int32} : y_Snd (mGw W) mLT1 (J2 W X) X cx_607 := y_ok J2_J mTS2_ok1 mTC2_ok1 mRUp_ok1 (List.forall_mem_cons.mpr ⟨sn_504, List.forall_mem_cons.mpr ⟨sn_508, List.forall_mem_cons.mpr ⟨sn_538, fun _ h => absurd h List.not_mem_nil⟩⟩⟩) ck_607
def cx_608pi_0 (t : List (Int × Int)) : List (Int × Int) := ui0 :: (1, 1) :: (0, 1) :: ui49 :: (0, 1) :: ui31 :: (0, 6) :: (0, 6) :: t
def cx_608pi_1 (t : List (Int × Int)) : List (Int × Int) := ui49 :: ui49 :: (0, 6) :: t
def cx_608p : zS := ((cx_608pi_0 (cx_608pi_1 [])), (cx_538pr_0 (cx_538pr_1 [])), [uL2108], [], [uV2, uV11], (cx_605pf_0 (cx_605pf_1 (cx_605pf_2 []))), [uG2067, uG2236, uG2120, uG2121, uG2173, uG1280])
def cx_608q0i_0 (t : List (Int × Int)) : List (Int × Int) := ui0 :: (1, 1) :: (0, 1) :: ui49 :: (0, 1) :: ui31 :: (0, 6) :: (0, 6) :: t
def cx_608q0i_1 (t : List (Int × Int)) : List (Int × Int) := ui49 :: ui49 :: (0, 6) :: ui49 :: ui49 :: t
def cx_608q0 : zS := ((cx_608q0i_0 (cx_608q0i_1 [])), (cx_538pr_0 (cx_538pr_1 [])), [], [], [uV840], [], [uG1895, uG1280, (238, [uL638, uL104, uL63, uL63, uL63, uL63, uL63, uL63, uL79, uL214, uL195])])
/-- M.quarrel -/
def cx_608 : zCtx := (268, cx_608p, [cx_608q0], [uk2063, uk1896, uk1897, uk2055, uk2064, uk1898], 77827, 5, 108)
def cz_608_0i_0 (t : List (Int × Int)) : List (Int × Int) := ui0 :: (1, 1) :: (0, 1) :: ui49 :: (0, 1) :: ui31 :: (0, 6) :: (0, 6) :: t
def cz_608_0i_1 (t : List (Int × Int)) : List (Int × Int) := ui49 :: ui49 :: (0, 6) :: ui1249 :: ui1106 :: (1, 6) :: ui196 :: t
def cz_608_0 : zS := ((cz_608_0i_0 (cz_608_0i_1 [])), (cz_607_0r_0 (cz_607_0r_1 (cz_607_0r_2 []))), [uL2108, uL2249], [uV2, uV11, uV840, uV198, uV409, uV113], [], (cz_607_0f_0 (cz_607_0f_1 (cz_607_0f_2 []))), (cz_607_0g_0 (cz_607_0g_1 [])))
set_option maxRecDepth 1000000 in
theorem ck_608 : x_ok mLT1 [cx_504, cx_508, cx_538] mTS2 mTC2 mRUp cx_608 [(3, [0]), (12, [1]), (57, [2])] [(15, uN2250), (22, [1001172]), (47, [1001173]), (57, [1001174]), (60, [1001175]), (69, [1000012]), (75, uN2251), (81, [1001178]), (87, [1001179])] [(24, cz_608_0, ((-99999999792), [(1, 100000000000), (13, (-33))]))] (189, []) 77638 35 = true := by decide +kernel
theorem sn_608 {W : Bool} {X : List Int32} : y_Snd (mGw W) mLT1 (J2 W X) X cx_608 := y_ok J2_J mTS2_ok1 mTC2_ok1 mRUp_ok1 (List.forall_mem_cons.mpr ⟨sn_504, List.forall_mem_cons.mpr ⟨sn_508, List.forall_mem_cons.mpr ⟨sn_538, fun _ h => absurd h List.not_mem_nil⟩⟩⟩) ck_608
/-- M.greyest -/
def cx_609 : zCtx := (269, ([ui0, ui1063, (0, 1), (0, 6), (0, 6), ui49, ui49], [ur1331, ur1380, ur1905], [uL511], [], [uV2, uV11], [uF2020, uF1495, uF2043], [uG2022, uG602]), [([ui0, ui1063, (0, 1), (0, 6), (0, 6), ui49, ui49], [ur1331, ur1380, ur1905], [], [], [uV61], [], [uG602])], [], 16, 1, 22)
set_option maxRecDepth 1000000 in
theorem ck_609 : x_ok mLT1 [cx_504] mTS2 mTC2 mRUp cx_609 [(3, [0])] [] [] (7, []) 9 10 = true := by decide +kernel
theorem sn_609 {W : Bool} {X : List Int32} : y_Snd (mGw W) mLT1 (J2 W X) X cx_609 := y_ok J2_J mTS2_ok1 mTC2_ok1 mRUp_ok1 (List.forall_mem_cons.mpr ⟨sn_504, fun _ h => absurd h List.not_mem_nil⟩) ck_609
/-- M.greyest -/
def cx_610 : zCtx := (269, ([ui0, ui262, (0, 1), (0, 6), (0, 6), ui49, ui49], [ur1331, ur1380, ur1905], [uL511], [], [uV2, uV11], [uF2020, uF1495, uF2043], [uG2022, uG602]), [([ui0, ui262, (0, 1), (0, 6), (0, 6), ui49, ui49], [ur1331, ur1380, ur1905], [], [], [uV61], [], [uG602])], [], 16, 1, 22)
set_option maxRecDepth 1000000 in
theorem ck_610 : x_ok mLT1 [cx_504] mTS2 mTC2 mRUp cx_610 [(3, [0])] [] [] (7, []) 9 10 = true := by decide +kernel
theorem sn_610 {W : Bool} {X : List Int32} : y_Snd (mGw W) mLT1 (J2 W X) X cx_610 := y_ok J2_J mTS2_ok1 mTC2_ok1 mRUp_ok1 (List.forall_mem_cons.mpr ⟨sn_504, fun _ h => absurd h List.not_mem_nil⟩) ck_610
/-- M.greyest -/
def cx_611 : zCtx := (269, ([ui0, (0, 0), (0, 1), (0, 6), (0, 6), ui49, ui49], [ur1331, ur1380, ur1905], [uL511], [], [uV2, uV11], [uF2020, uF1495, uF2043], [uG2022, uG602]), [([ui0, (0, 0), (0, 1), (0, 6), (0, 6), ui49, ui49, ui49], [ur1331, ur1380, ur1905], [], [], [uV142], [], [uG602, uG2252])], [], 248, 1, 22)
def cz_611_0i_0 (t : List (Int × Int)) : List (Int × Int) := ui0 :: (0, 0) :: (0, 1) :: (0, 6) :: (0, 6) :: ui49 :: ui49 :: ui1249 :: t
def cz_611_0i_1 (t : List (Int × Int)) : List (Int × Int) := (0, 6) :: t
def cz_611_0 : zS := ((cz_611_0i_0 (cz_611_0i_1 [])), [ur1331, ur1380, ur1905], [uL511, uL131, uL2253], [uV2, uV11, uV142, uV144], [], [uF2020, uF1495, uF2043], [uG2022, uG602, uG2254])
set_option maxRecDepth 1000000 in
theorem ck_611 : x_ok mLT1 [cx_504] mTS2 mTC2 mRUp cx_611 [(3, [0])] [(13, [1001180]), (24, [1000857]), (65, uN2255), (68, uN2256), (70, [1001183]), (76, [1001186]), (105, [1001185])] [(16, cz_611_0, (229, [(1, (-100000000000)), (8, (-36))]))] (239, []) 9 38 = true := by decide +kernel
theorem sn_611 {W : Bool} {X : List Int32} : y_Snd (mGw W) mLT1 (J2 W X) X cx_611 := y_ok J2_J mTS2_ok1 mTC2_ok1 mRUp_ok1 (List.forall_mem_cons.mpr ⟨sn_504, fun _ h => absurd h List.not_mem_nil⟩) ck_611
/-- M.greyest -/
def cx_612 : zCtx := (269, ([ui0, (1, 1), (0, 1), (0, 6), (0, 6), ui49, ui49], [ur1331, ur1380, ur1905], [uL511], [], [uV2, uV11], [uF2020, uF1495, uF2043], [uG2022, uG602]), [([ui0, (1, 1), (0, 1), (0, 6), (0, 6), ui49, ui49, ui49, (0, 5)], [ur1331, ur1380, ur1905], [], [], [uV142], [], [uG602, (238, [uL632, uL63, uL63, uL63, uL63, uL63, uL63, uL63, uL98, uL131, uL63]), (238, [uL667, uL63, uL63, uL63, uL63, uL63, uL63, uL63, uL131, uL63, uL79])]), ([ui0, (1, 1), (0, 1), (0, 6), (0, 6), ui49, ui49, ui49], [ur1331, ur1380, ur1905], [((-1), [(7, (-1))])], [], [uV142], [], [uG602, uG2252])], [], 257, 1, 22)
def cz_612_0i_0 (t : List (Int × Int)) : List (Int × Int) := ui0 :: (1, 1) :: (0, 1) :: (0, 6) :: (0, 6) :: ui49 :: ui49 :: ui1249 :: t
def cz_612_0i_1 (t : List (Int × Int)) : List (Int × Int) := (0, 6) :: t
def cz_612_0 : zS := ((cz_612_0i_0 (cz_612_0i_1 [])), [ur1331, ur1380, ur1905], [uL511, uL131, uL2253], [uV2, uV11, uV142, uV144], [], [uF2020, uF1495, uF2043], [uG2022, uG602, uG2254])
set_option maxRecDepth 1000000 in
theorem ck_612 : x_ok mLT1 [cx_504] mTS2 mTC2 mRUp cx_612 [(3, [0])] [(13, [1001180]), (24, [1000857]), (65, uN2255), (68, uN2256), (70, [1001183]), (76, [1001186]), (88, [1000739]), (105, [1001185])] [(16, cz_612_0, ((-99999999762), [(1, 100000000000), (8, (-36))]))] (248, []) 9 38 = true := by decide +kernel
theorem sn_612 {W : Bool} {X : List Int32} : y_Snd (mGw W) mLT1 (J2 W X) X cx_612 := y_ok J2_J mTS2_ok1 mTC2_ok1 mRUp_ok1 (List.forall_mem_cons.mpr ⟨sn_504, fun _ h => absurd h List.not_mem_nil⟩) ck_612
/-- M.share -/
def cx_613 : zCtx := (270, ([ui0, ui49, (0, 1), ui49, (0, 1), (0, 6), (0, 6), ui49, ui49], [ur1331, ur1885, ur1380], [uL576, uL165], [], [uV2, uV11], [uF2020, uF2122, uF2123, uF1889, uF2125], [uG2219, uG468]), [([ui0, ui49, (0, 1), ui49, (0, 1), (0, 6), (0, 6), ui49, ui49], [ur1331, ur1885, ur1380], [uL165], [], [uV61], [], [uG468])], [], 26, 2, 43)
set_option maxRecDepth 1000000 in
theorem ck_613 : x_ok mLT1 [cx_505] mTS2 mTC2 mRUp cx_613 [(2, [0])] [] [] (6, []) 20 9 = true := by decide +kernel
theorem sn_613 {W : Bool} {X : List Int32} : y_Snd (mGw W) mLT1 (J2 W X) X cx_613 := y_ok J2_J mTS2_ok1 mTC2_ok1 mRUp_ok1 (List.forall_mem_cons.mpr ⟨sn_505, fun _ h => absurd h List.not_mem_nil⟩) ck_613
def cx_614q1i_0 (t : List (Int × Int)) : List (Int × Int) := ui0 :: (0, 5) :: (0, 1) :: ui49 :: (0, 1) :: (0, 6) :: (0, 6) :: ui49 :: t
def cx_614q1i_1 (t : List (Int × Int)) : List (Int × Int) := ui49 :: ui49 :: ui49 :: ui49 :: t
def cx_614q1g_0 (t : List zTg) : List zTg := uG1895 :: uG468 :: (238, [uL34, uL63, uL63, uL63, uL63, uL63, uL63, uL63, uL565, uL63, uL170]) :: (238, [uL65, uL63, uL63, uL63, uL63, uL63, uL63, uL63, uL63, uL78, uL195]) :: (107, [(0, [(10, 1000)]), uL195, uL164]) :: t
def cx_614q1 : zS := ((cx_614q1i_0 (cx_614q1i_1 [])), [ur1331, ur1885, ur1380], [((-1), [(10, 1)]), uL9, uL577], [], [uV778], [], (cx_614q1g_0 []))
/-- M.share -/
def cx_614 : zCtx := (270, ([ui0, (0, 5), (0, 1), ui49, (0, 1), (0, 6), (0, 6), ui49, ui49], [ur1331, ur1885, ur1380], [uL576, uL9, uL577], [], [uV2, uV11], [uF2020, uF2122, uF2123, uF1889, uF2125], [uG2219, uG468]), [([ui0, (0, 5), (0, 1), ui49, (0, 1), (0, 6), (0, 6), ui49, ui49, ui49], [ur1331, ur1885, ur1380], [(0, [(9, (-1))]), uL9, uL577], [], [uV62], [], [uG1895, uG468, (238, [uL34, uL63, uL63, uL63, uL63, uL63, uL63, uL63, uL565, uL63, uL164])]), cx_614q1], [uk1896, uk1897, uk1898], 468, 2, 43)
set_option maxRecDepth 1000000 in
theorem ck_614 : x_ok mLT1 [cx_505, cx_508, cx_514, cx_556] mTS2 mTC2 mRUp cx_614 [(2, [0]), (11, [1]), (16, [2]), (36, [3])] [(14, [1000822]), (22, [64, 1000823]), (34, [1000823]), (39, [1000919, 1001171, 1000023]), (43, [1000823])] [] (23, []) 445 26 = true := by decide +kernel
theorem sn_614 {W : Bool} {X : List Int32} : y_Snd (mGw W) mLT1 (J2 W X) X cx_614 := y_ok J2_J mTS2_ok1 mTC2_ok1 mRUp_ok1 (List.forall_mem_cons.mpr ⟨sn_505, List.forall_mem_cons.mpr ⟨sn_508, List.forall_mem_cons.mpr ⟨sn_514, List.forall_mem_cons.mpr ⟨sn_556, fun _ h => absurd h List.not_mem_nil⟩⟩⟩⟩) ck_614
/-- M.share -/
def cx_615 : zCtx := (270, ([ui0, ui49, (0, 1), ui49, (0, 1), (0, 6), (0, 6), ui49, ui49], [ur1331, ur1885, ur1380], [uL576, uL568], [], [uV2, uV11], [uF2020, uF2122, uF2123, uF1889, uF2125], [uG2219, uG468]), [([ui0, ui49, (0, 1), ui49, (0, 1), (0, 6), (0, 6), ui49, ui49], [ur1331, ur1885, ur1380], [uL568], [], [uV61], [], [uG468])], [], 26, 2, 43)
set_option maxRecDepth 1000000 in
theorem ck_615 : x_ok mLT1 [cx_505] mTS2 mTC2 mRUp cx_615 [(2, [0])] [] [] (6, []) 20 9 = true := by decide +kernel
theorem sn_615 {W : Bool} {X : List Int32} : y_Snd (mGw W) mLT1 (J2 W X) X cx_615 := y_ok J2_J mTS2_ok1 mTC2_ok1 mRUp_ok1 (List.forall_mem_cons.mpr ⟨sn_505, fun _ h => absurd h List.not_mem_nil⟩) ck_615
/-- M.spareLeast -/
def cx_616 : zCtx := (263, ([ui0, (0, 1), ui31], [ur1331, ur1378, ur1379, ur1389, ur1390, ur1391, ur1392, ur1393, ur1387, ur1388], [], [], [uV2], [uF1886, uF1394, uF1395, uF2027, uF2028, uF2029, uF2030, uF2031, uF1625, uF1626], [uG2209, uG2228]), [([ui0, (0, 1), ui31, ui49], [ur1331, ur1378, ur1379, ur1389, ur1390, ur1391, ur1392, ur1393, ur1387, ur1388], [], [], [uV58], [], [])], [uk2063, uk2055, uk2064], 78132, 6, 131)
def cz_616_0f_0 (t : List zFa) : List zFa := uF1886 :: uF1394 :: uF1395 :: uF2027 :: uF2028 :: uF2029 :: uF2030 :: uF2031 :: t
def cz_616_0f_1 (t : List zFa) : List zFa := uF1625 :: uF1626 :: t
def cz_616_0 : zS := ([ui0, (0, 1), ui31, ui49, ui425], (cx_596pr_0 (cx_596pr_1 [])), [], [uV2, uV58, uV97], [], (cz_616_0f_0 (cz_616_0f_1 [])), [uG2209, uG2228])
set_option maxRecDepth 1000000 in
theorem ck_616 : x_ok mLT1 [cx_598] mTS2 mTC2 mRUp cx_616 [(21, [0]), (30, [0])] [] [(6, cz_616_0, (450, [(4, (-20))]))] (455, []) 77677 22 = true := by decide +kernel
theorem sn_616 {W : Bool} {X : List Int32} : y_Snd (mGw W) mLT1 (J2 W X) X cx_616 := y_ok J2_J mTS2_ok1 mTC2_ok1 mRUp_ok1 (List.forall_mem_cons.mpr ⟨sn_598, fun _ h => absurd h List.not_mem_nil⟩) ck_616
/-- M.mostOf -/
def cx_617 : zCtx := (262, ([ui0, (0, 1), ui31], [ur1331, ur1378, ur1379, ur1389, ur1390, ur1391, ur1392, ur1393, ur1387, ur1388], [], [], [uV2], [uF1886, uF1394, uF1395, uF2027, uF2028, uF2029, uF2030, uF2031, uF1625, uF1626], [uG2209, uG2228]), [([ui0, (0, 1), ui31], [ur1331, ur1378, ur1379, ur1389, ur1390, ur1391, ur1392, ur1393, ur1387, ur1388], [], [], [uV567], [], []), ([ui0, (0, 1), ui31], [ur1331, ur1378, ur1379, ur1389, ur1390, ur1391, ur1392, ur1393, ur1387, ur1388], [], [], [(0, 0, 999, [])], [], []), ([ui0, (0, 1), ui31, ui584], [ur1331, ur1378, ur1379, ur1389, ur1390, ur1391, ur1392, ur1393, ur1387, ur1388], [], [], [uV58], [], [])], [uk2063, uk2055, uk2064], 78143, 7, 153)
set_option maxRecDepth 1000000 in
theorem ck_617 : x_ok mLT1 [cx_616] mTS2 mTC2 mRUp cx_617 [(1, [0])] [] [] (11, []) 78132 14 = true := by decide +kernel
theorem sn_617 {W : Bool} {X : List Int32} : y_Snd (mGw W) mLT1 (J2 W X) X cx_617 := y_ok J2_J mTS2_ok1 mTC2_ok1 mRUp_ok1 (List.forall_mem_cons.mpr ⟨sn_616, fun _ h => absurd h List.not_mem_nil⟩) ck_617
def cx_618p : zS := ([ui0, (0, 1), ui49, (0, 1), ui31], (cx_596pr_0 (cx_596pr_1 [])), [], [], [uV2], (cx_603pf_0 (cx_603pf_1 [])), [uG2209, uG2234])
/-- M.swap -/
def cx_618 : zCtx := (271, cx_618p, [([ui0, (0, 1), ui49, (0, 1), ui31, ui1248, ui196], [ur1331, ur1378, ur1379, ur1389, ur1390, ur1391, ur1392, ur1393, ur1387, ur1388], [], [], [uV75], [uF1892, uF2248], [uG1895])], [uk2063, uk1896, uk1897, uk2055, uk2064, uk1898], 79721, 8, 174)
def cz_618_0i_0 (t : List (Int × Int)) : List (Int × Int) := ui0 :: (0, 1) :: ui49 :: (0, 1) :: ui31 :: ui1106 :: ui1248 :: (0, 6) :: t
def cz_618_0i_1 (t : List (Int × Int)) : List (Int × Int) := ui196 :: t
def cz_618_0r_0 (t : List (Nat × Bool)) : List (Nat × Bool) := ur1331 :: ur1378 :: ur1379 :: ur1389 :: ur1390 :: ur1391 :: ur1392 :: ur1393 :: t
def cz_618_0r_1 (t : List (Nat × Bool)) : List (Nat × Bool) := ur1387 :: ur1388 :: ur1386 :: ur1905 :: ur1885 :: t
def cz_618_0f_0 (t : List zFa) : List zFa := uF1892 :: uF2257 :: uF2258 :: uF2259 :: uF2260 :: uF1886 :: uF1394 :: uF1395 :: t
def cz_618_0f_1 (t : List zFa) : List zFa := uF2027 :: uF2028 :: uF2029 :: uF2030 :: uF2031 :: uF1625 :: uF1626 :: t
def cz_618_0 : zS := ((cz_618_0i_0 (cz_618_0i_1 [])), (cz_618_0r_0 (cz_618_0r_1 [])), [], [uV2, uV75, uV108, uV142, uV113], [], (cz_618_0f_0 (cz_618_0f_1 [])), [uG1895, uG2209, uG2234])
def cz_618_1i_0 (t : List (Int × Int)) : List (Int × Int) := ui0 :: (0, 1) :: ui49 :: (0, 1) :: ui31 :: ui1106 :: ui1248 :: (0, 5) :: t
def cz_618_1i_1 (t : List (Int × Int)) : List (Int × Int) := (1, 6) :: ui196 :: t
def cz_618_1f_0 (t : List zFa) : List zFa := uF1892 :: uF2261 :: uF2258 :: uF2259 :: uF2260 :: uF1886 :: uF1394 :: uF1395 :: t
def cz_618_1f_1 (t : List zFa) : List zFa := uF2027 :: uF2028 :: uF2029 :: uF2030 :: uF2031 :: uF1625 :: uF1626 :: t
def cz_618_1 : zS := ((cz_618_1i_0 (cz_618_1i_1 [])), (cz_618_0r_0 (cz_618_0r_1 [])), [], [uV2, uV75, uV108, uV142, uV144], [], (cz_618_1f_0 (cz_618_1f_1 [])), [uG1895, uG2209, uG2234])
set_option maxRecDepth 1000000 in
theorem ck_618 : x_ok mLT1 [cx_508, cx_617] mTS2 mTC2 mRUp cx_618 [(1, [0]), (5, [1]), (43, [0]), (85, [1]), (104, [1])] [] [(14, cz_618_0, (1568, [(7, (-260))])), (30, cz_618_1, (1605, [(7, (-212)), (8, (-48))]))] (1578, []) 78143 50 = true := by decide +kernel
theorem sn_618 {W : Bool} {X : List Int32} : y_Snd (mGw W) mLT1 (J2 W X) X cx_618 := y_ok J2_J mTS2_ok1 mTC2_ok1 mRUp_ok1 (List.forall_mem_cons.mpr ⟨sn_508, List.forall_mem_cons.mpr ⟨sn_617, fun _ h => absurd h List.not_mem_nil⟩⟩) ck_618
end
