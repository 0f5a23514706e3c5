noncomputable section
/-! ===== readings, by program, checked by the kernel ===== -/
def cx_572pi_0 (t : List (Int × Int)) : List (Int × Int) := ui0 :: (0, 1) :: ui31 :: (0, 6) :: ui51 :: ui51 :: ui51 :: ui51 :: t
def cx_572pi_1 (t : List (Int × Int)) : List (Int × Int) := ui51 :: ui51 :: (0, 6) :: t
def cx_572pf_0 (t : List zFa) : List zFa := uF1859 :: uF1361 :: uF1362 :: uF2002 :: uF2003 :: uF2004 :: uF2005 :: uF2006 :: t
def cx_572pf_1 (t : List zFa) : List zFa := uF1597 :: uF1598 :: uF2007 :: uF2008 :: uF2009 :: uF1895 :: uF2088 :: uF2201 :: t
def cx_572p : zS := ((cx_572pi_0 (cx_572pi_1 [])), (cx_531pr_0 (cx_531pr_1 [])), [uL513], [], [uV2], (cx_572pf_0 (cx_572pf_1 [])), [uG2183, uG2202, uG2203, uG2204, uG2205, uG2206])
/-- M.spareLeast -/
def cx_572 : zCtx := (263, cx_572p, [([ui0, (0, 1), ui31, (0, 6), ui51, ui51, ui51, ui51, ui51, ui51, (0, 6), ui2158], [ur1299, ur1345, ur1346, ur1356, ur1357, ur1358, ur1359, ur1360, ur1354, ur1355, ur1347, ur1462, ur1463, ur1349, ur1858], [uL513], [], [uV841], [], [(238, [uL646, uL69, uL100, uL106, uL80, uL81, uL133, uL166, uL2207, (0, [(10, 2)]), uL198])])], [uk2038, uk2030, uk2039], 78132, 6, 131)
def cz_572_0i_0 (t : List (Int × Int)) : List (Int × Int) := ui0 :: (0, 1) :: ui31 :: (0, 6) :: ui51 :: ui51 :: ui51 :: ui51 :: t
def cz_572_0i_1 (t : List (Int × Int)) : List (Int × Int) := ui51 :: ui51 :: (0, 6) :: ui2158 :: ui427 :: t
def cz_572_0g_0 (t : List zTg) : List zTg := uG2183 :: uG2202 :: uG2203 :: uG2204 :: uG2205 :: uG2206 :: (238, [uL646, uL69, uL100, uL106, uL80, uL81, uL133, uL166, uL2207, uL217, uL198]) :: t
def cz_572_0 : zS := ((cz_572_0i_0 (cz_572_0i_1 [])), (cx_531pr_0 (cx_531pr_1 [])), [uL513, (0, [(10, 2), (12, (-1))])], [uV2, uV841, uV201], [], (cx_572pf_0 (cx_572pf_1 [])), (cz_572_0g_0 []))
set_option maxRecDepth 1000000 in
theorem ck_572 : x_ok mLT1 [cx_553] mTS2 mTC2 mRUp cx_572 [(21, [0]), (30, [0])] [(4, [1001004]), (25, [1000012, 1001005]), (33, [1001006]), (34, [1001007])] [(6, cz_572_0, (450, [(12, (-20))]))] (455, []) 77677 22 = true := by decide +kernel
theorem sn_572 {W : Bool} {X : List Int32} : y_Snd (mGw W) mLT1 (J2 W X) X cx_572 := y_ok J2_J mTS2_ok1 mTC2_ok1 mRUp_ok1 (List.forall_mem_cons.mpr ⟨sn_553, fun _ h => absurd h List.not_mem_nil⟩) ck_572
def cx_573q0 : zS := ((cx_572pi_0 (cx_572pi_1 [])), (cx_531pr_0 (cx_531pr_1 [])), [], [], [uV569], [], [(238, [uL643, uL69, uL100, uL106, uL80, uL81, uL133, uL166, uL65, uL65, uL804]), uG2206])
def cx_573q1i_0 (t : List (Int × Int)) : List (Int × Int) := ui0 :: (0, 1) :: ui31 :: (0, 6) :: ui51 :: ui51 :: ui51 :: ui51 :: t
def cx_573q1i_1 (t : List (Int × Int)) : List (Int × Int) := ui51 :: ui51 :: (0, 6) :: ui586 :: t
def cx_573q1 : zS := ((cx_573q1i_0 (cx_573q1i_1 [])), (cx_531pr_0 (cx_531pr_1 [])), [], [], [uV841], [], [(238, [uL643, uL69, uL100, uL106, uL80, uL81, uL133, uL166, uL65, uL65, uL198]), uG2206])
/-- M.mostOf -/
def cx_573 : zCtx := (262, cx_572p, [cx_573q0, cx_573q1], [uk2038, uk2030, uk2039], 78143, 7, 153)
set_option maxRecDepth 1000000 in
theorem ck_573 : x_ok mLT1 [cx_572] mTS2 mTC2 mRUp cx_573 [(1, [0])] [(9, [1001008]), (21, [1001009]), (27, [1001010])] [] (11, []) 78132 14 = true := by decide +kernel
theorem sn_573 {W : Bool} {X : List Int32} : y_Snd (mGw W) mLT1 (J2 W X) X cx_573 := y_ok J2_J mTS2_ok1 mTC2_ok1 mRUp_ok1 (List.forall_mem_cons.mpr ⟨sn_572, fun _ h => absurd h List.not_mem_nil⟩) ck_573
def cx_574pi_0 (t : List (Int × Int)) : List (Int × Int) := ui0 :: (0, 1) :: ui51 :: (0, 1) :: ui31 :: (0, 6) :: (0, 6) :: ui51 :: t
def cx_574pi_1 (t : List (Int × Int)) : List (Int × Int) := ui51 :: t
def cx_574pf_0 (t : List zFa) : List zFa := uF1859 :: uF1860 :: uF1861 :: uF1361 :: uF1362 :: uF2002 :: uF2003 :: uF2004 :: t
def cx_574pf_1 (t : List zFa) : List zFa := uF2005 :: uF2006 :: uF1597 :: uF1598 :: uF2007 :: uF2008 :: uF2009 :: uF1895 :: t
def cx_574pf_2 (t : List zFa) : List zFa := uF2088 :: t
def cx_574p : zS := ((cx_574pi_0 (cx_574pi_1 [])), (cx_531pr_0 (cx_531pr_1 [])), [uL578], [], [uV2], (cx_574pf_0 (cx_574pf_1 (cx_574pf_2 []))), [uG2183, uG2208, uG2135, uG2209, uG2205, uG470])
/-- M.most -/
def cx_574 : zCtx := (261, cx_574p, [([ui0, (0, 1), ui51, (0, 1), ui31, (0, 6), (0, 6), ui51, ui51, ui586], [ur1299, ur1345, ur1346, ur1356, ur1357, ur1358, ur1359, ur1360, ur1354, ur1355, ur1347, ur1462, ur1463, ur1349, ur1858], [], [], [uV779], [], [uG1868, uG470, (238, [uL643, uL100, uL65, uL65, uL65, uL65, uL65, uL65, uL65, uL65, uL166])]), ([ui0, (0, 1), ui51, (0, 1), ui31, (0, 6), (0, 6), ui51, ui51], [ur1299, ur1345, ur1346, ur1356, ur1357, ur1358, ur1359, ur1360, ur1354, ur1355, ur1347, ur1462, ur1463, ur1349, ur1858], [], [], [uV569], [], [uG1868, uG470, (238, [uL643, uL100, uL65, uL65, uL65, uL65, uL65, uL65, uL65, uL65, uL804])])], [uk2038, uk1869, uk1870, uk2030, uk2039, uk1871], 78148, 8, 174)
set_option maxRecDepth 1000000 in
theorem ck_574 : x_ok mLT1 [cx_501, cx_573] mTS2 mTC2 mRUp cx_574 [(1, [0]), (5, [1])] [(4, uN2093)] [] (5, []) 78143 8 = true := by decide +kernel
theorem sn_574 {W : Bool} {X : List Int32} : y_Snd (mGw W) mLT1 (J2 W X) X cx_574 := y_ok J2_J mTS2_ok1 mTC2_ok1 mRUp_ok1 (List.forall_mem_cons.mpr ⟨sn_501, List.forall_mem_cons.mpr ⟨sn_573, fun _ h => absurd h List.not_mem_nil⟩⟩) ck_574
def cx_575pi_0 (t : List (Int × Int)) : List (Int × Int) := ui0 :: ui1063 :: (0, 1) :: ui51 :: (0, 1) :: ui31 :: (0, 6) :: (0, 6) :: t
def cx_575pi_1 (t : List (Int × Int)) : List (Int × Int) := ui51 :: ui51 :: t
def cx_575pf_0 (t : List zFa) : List zFa := uF1995 :: uF2097 :: uF2098 :: uF1361 :: uF1362 :: uF2002 :: uF2003 :: uF2004 :: t
def cx_575pf_1 (t : List zFa) : List zFa := uF2005 :: uF2006 :: uF1597 :: uF1598 :: uF2007 :: uF2008 :: uF2009 :: uF1895 :: t
def cx_575pf_2 (t : List zFa) : List zFa := uF2088 :: t
def cx_575p : zS := ((cx_575pi_0 (cx_575pi_1 [])), (cx_531pr_0 (cx_531pr_1 [])), [uL2083], [], [uV2, uV11], (cx_575pf_0 (cx_575pf_1 (cx_575pf_2 []))), [uG2042, uG2210, uG2095, uG2096, uG2148, uG1249])
/-- M.weakest -/
def cx_575 : zCtx := (264, cx_575p, [([ui0, ui1063, (0, 1), ui51, (0, 1), ui31, (0, 6), (0, 6), ui51, ui51], [ur1299, ur1345, ur1346, ur1356, ur1357, ur1358, ur1359, ur1360, ur1354, ur1355, ur1347, ur1462, ur1463, ur1349, ur1858], [], [], [uV63], [], [uG1249])], [], 16, 1, 22)
set_option maxRecDepth 1000000 in
theorem ck_575 : x_ok mLT1 [cx_497] mTS2 mTC2 mRUp cx_575 [(3, [0])] [] [] (7, []) 9 10 = true := by decide +kernel
theorem sn_575 {W : Bool} {X : List Int32} : y_Snd (mGw W) mLT1 (J2 W X) X cx_575 := y_ok J2_J mTS2_ok1 mTC2_ok1 mRUp_ok1 (List.forall_mem_cons.mpr ⟨sn_497, fun _ h => absurd h List.not_mem_nil⟩) ck_575
def cx_576pi_0 (t : List (Int × Int)) : List (Int × Int) := ui0 :: (0, 1) :: (0, 1) :: ui51 :: (0, 1) :: ui31 :: (0, 6) :: (0, 6) :: t
def cx_576pi_1 (t : List (Int × Int)) : List (Int × Int) := ui51 :: ui51 :: t
def cx_576p : zS := ((cx_576pi_0 (cx_576pi_1 [])), (cx_531pr_0 (cx_531pr_1 [])), [uL2083], [], [uV2, uV11], (cx_575pf_0 (cx_575pf_1 (cx_575pf_2 []))), [uG2042, uG2210, uG2095, uG2096, uG2148, uG1249])
def cx_576q0i_0 (t : List (Int × Int)) : List (Int × Int) := ui0 :: (0, 1) :: (0, 1) :: ui51 :: (0, 1) :: ui31 :: (0, 6) :: (0, 6) :: t
def cx_576q0i_1 (t : List (Int × Int)) : List (Int × Int) := ui51 :: ui51 :: ui586 :: t
def cx_576q0 : zS := ((cx_576q0i_0 (cx_576q0i_1 [])), (cx_531pr_0 (cx_531pr_1 [])), [], [], [uV569], [], [uG1868, uG1249, uG2211, uG2212])
def cx_576q1i_0 (t : List (Int × Int)) : List (Int × Int) := ui0 :: (0, 0) :: (0, 1) :: ui51 :: (0, 1) :: ui31 :: (0, 6) :: (0, 6) :: t
def cx_576q1i_1 (t : List (Int × Int)) : List (Int × Int) := ui51 :: ui51 :: ui51 :: ui586 :: ui1784 :: t
def cx_576q1g_0 (t : List zTg) : List zTg := uG1868 :: uG1249 :: uG2213 :: uG2214 :: (107, [uL217, uL116, uL173]) :: t
def cx_576q1 : zS := ((cx_576q1i_0 (cx_576q1i_1 [])), (cx_531pr_0 (cx_531pr_1 [])), [], [], [uV826], [], (cx_576q1g_0 []))
def cx_576q2i_0 (t : List (Int × Int)) : List (Int × Int) := ui0 :: (1, 1) :: (0, 1) :: ui51 :: (0, 1) :: ui31 :: (0, 6) :: (0, 6) :: t
def cx_576q2i_1 (t : List (Int × Int)) : List (Int × Int) := ui51 :: ui51 :: (0, 1) :: ui586 :: ui1784 :: t
def cx_576q2g_0 (t : List zTg) : List zTg := uG1868 :: uG1249 :: uG2213 :: uG2214 :: (108, [uL217, uL116, uL2215]) :: t
def cx_576q2 : zS := ((cx_576q2i_0 (cx_576q2i_1 [])), (cx_531pr_0 (cx_531pr_1 [])), [], [], [uV826], [], (cx_576q2g_0 []))
def cx_576q3 : zS := ((cx_576pi_0 (cx_576pi_1 [])), (cx_531pr_0 (cx_531pr_1 [])), [], [], [uV569], [], [uG1868, uG1249, uG2216, uG2217])
def cx_576q4i_0 (t : List (Int × Int)) : List (Int × Int) := ui0 :: (0, 0) :: (0, 1) :: ui51 :: (0, 1) :: ui31 :: (0, 6) :: (0, 6) :: t
def cx_576q4i_1 (t : List (Int × Int)) : List (Int × Int) := ui51 :: ui51 :: ui51 :: ui1784 :: t
def cx_576q4g_0 (t : List zTg) : List zTg := uG1868 :: uG1249 :: uG2216 :: uG2218 :: (107, [uL198, uL116, uL173]) :: t
def cx_576q4 : zS := ((cx_576q4i_0 (cx_576q4i_1 [])), (cx_531pr_0 (cx_531pr_1 [])), [], [], [uV826], [], (cx_576q4g_0 []))
def cx_576q5i_0 (t : List (Int × Int)) : List (Int × Int) := ui0 :: (1, 1) :: (0, 1) :: ui51 :: (0, 1) :: ui31 :: (0, 6) :: (0, 6) :: t
def cx_576q5i_1 (t : List (Int × Int)) : List (Int × Int) := ui51 :: ui51 :: (0, 1) :: ui1784 :: t
def cx_576q5g_0 (t : List zTg) : List zTg := uG1868 :: uG1249 :: uG2216 :: uG2218 :: (108, [uL198, uL116, uL2215]) :: t
def cx_576q5 : zS := ((cx_576q5i_0 (cx_576q5i_1 [])), (cx_531pr_0 (cx_531pr_1 [])), [], [], [uV826], [], (cx_576q5g_0 []))
/-- M.weakest -/
def cx_576 : zCtx := (264, cx_576p, [cx_576q0, cx_576q1, cx_576q2, cx_576q3, cx_576q4, cx_576q5], [uk2038, uk1869, uk1870, uk2030, uk2039, uk1871], 78170, 8, 174)
set_option maxRecDepth 1000000 in
theorem ck_576 : x_ok mLT1 [cx_497, cx_501, cx_573, cx_554] mTS2 mTC2 mRUp cx_576 [(3, [0]), (12, [1]), (17, [2]), (28, [2]), (33, [3])] [(15, uN2093), (20, [1000728]), (31, [1001011]), (52, [1000023]), (59, [1000679]), (60, [1001012])] [] (27, []) 78143 30 = true := by decide +kernel
theorem sn_576 {W : Bool} {X : List Int32} : y_Snd (mGw W) mLT1 (J2 W X) X cx_576 := y_ok J2_J mTS2_ok1 mTC2_ok1 mRUp_ok1 (List.forall_mem_cons.mpr ⟨sn_497, List.forall_mem_cons.mpr ⟨sn_501, List.forall_mem_cons.mpr ⟨sn_573, List.forall_mem_cons.mpr ⟨sn_554, fun _ h => absurd h List.not_mem_nil⟩⟩⟩⟩) ck_576
def cx_577pi_0 (t : List (Int × Int)) : List (Int × Int) := ui0 :: ui265 :: (0, 1) :: ui51 :: (0, 1) :: ui31 :: (0, 6) :: (0, 6) :: t
def cx_577pi_1 (t : List (Int × Int)) : List (Int × Int) := ui51 :: ui51 :: t
def cx_577p : zS := ((cx_577pi_0 (cx_577pi_1 [])), (cx_531pr_0 (cx_531pr_1 [])), [uL2083], [], [uV2, uV11], (cx_575pf_0 (cx_575pf_1 (cx_575pf_2 []))), [uG2042, uG2210, uG2095, uG2096, uG2148, uG1249])
/-- M.weakest -/
def cx_577 : zCtx := (264, cx_577p, [([ui0, ui265, (0, 1), ui51, (0, 1), ui31, (0, 6), (0, 6), ui51, ui51], [ur1299, ur1345, ur1346, ur1356, ur1357, ur1358, ur1359, ur1360, ur1354, ur1355, ur1347, ur1462, ur1463, ur1349, ur1858], [], [], [uV63], [], [uG1249])], [], 16, 1, 22)
set_option maxRecDepth 1000000 in
theorem ck_577 : x_ok mLT1 [cx_497] mTS2 mTC2 mRUp cx_577 [(3, [0])] [] [] (7, []) 9 10 = true := by decide +kernel
theorem sn_577 {W : Bool} {X : List Int32} : y_Snd (mGw W) mLT1 (J2 W X) X cx_577 := y_ok J2_J mTS2_ok1 mTC2_ok1 mRUp_ok1 (List.forall_mem_cons.mpr ⟨sn_497, fun _ h => absurd h List.not_mem_nil⟩) ck_577
def cx_578pi_0 (t : List (Int × Int)) : List (Int × Int) := ui0 :: (0, 0) :: (0, 1) :: ui51 :: (0, 1) :: ui31 :: (0, 6) :: (0, 6) :: t
def cx_578pi_1 (t : List (Int × Int)) : List (Int × Int) := ui51 :: ui51 :: t
def cx_578p : zS := ((cx_578pi_0 (cx_578pi_1 [])), (cx_531pr_0 (cx_531pr_1 [])), [uL2083], [], [uV2, uV11], (cx_575pf_0 (cx_575pf_1 (cx_575pf_2 []))), [uG2042, uG2210, uG2095, uG2096, uG2148, uG1249])
def cx_578q0i_0 (t : List (Int × Int)) : List (Int × Int) := ui0 :: (0, 0) :: (0, 1) :: ui51 :: (0, 1) :: ui31 :: (0, 6) :: (0, 6) :: t
def cx_578q0i_1 (t : List (Int × Int)) : List (Int × Int) := ui51 :: ui51 :: ui586 :: t
def cx_578q0 : zS := ((cx_578q0i_0 (cx_578q0i_1 [])), (cx_531pr_0 (cx_531pr_1 [])), [], [], [uV569], [], [uG1868, uG1249, uG2211, uG2212])
def cx_578q2 : zS := ((cx_578pi_0 (cx_578pi_1 [])), (cx_531pr_0 (cx_531pr_1 [])), [], [], [uV569], [], [uG1868, uG1249, uG2216, uG2217])
/-- M.weakest -/
def cx_578 : zCtx := (264, cx_578p, [cx_578q0, cx_576q1, cx_578q2, cx_576q4], [uk2038, uk1869, uk1870, uk2030, uk2039, uk1871], 78169, 8, 174)
set_option maxRecDepth 1000000 in
theorem ck_578 : x_ok mLT1 [cx_497, cx_501, cx_573, cx_554] mTS2 mTC2 mRUp cx_578 [(3, [0]), (12, [1]), (17, [2]), (28, [2]), (33, [3])] [(15, uN2093), (20, [1000728]), (31, [1001011]), (52, [1000023])] [] (26, []) 78143 29 = true := by decide +kernel
theorem sn_578 {W : Bool} {X : List Int32} : y_Snd (mGw W) mLT1 (J2 W X) X cx_578 := y_ok J2_J mTS2_ok1 mTC2_ok1 mRUp_ok1 (List.forall_mem_cons.mpr ⟨sn_497, List.forall_mem_cons.mpr ⟨sn_501, List.forall_mem_cons.mpr ⟨sn_573, List.forall_mem_cons.mpr ⟨sn_554, fun _ h => absurd h List.not_mem_nil⟩⟩⟩⟩) ck_578
def cx_579pi_0 (t : List (Int × Int)) : List (Int × Int) := ui0 :: (1, 1) :: (0, 1) :: ui51 :: (0, 1) :: ui31 :: (0, 6) :: (0, 6) :: t
def cx_579pi_1 (t : List (Int × Int)) : List (Int × Int) := ui51 :: ui51 :: t
def cx_579p : zS := ((cx_579pi_0 (cx_579pi_1 [])), (cx_531pr_0 (cx_531pr_1 [])), [uL2083], [], [uV2, uV11], (cx_575pf_0 (cx_575pf_1 (cx_575pf_2 []))), [uG2042, uG2210, uG2095, uG2096, uG2148, uG1249])
def cx_579q0i_0 (t : List (Int × Int)) : List (Int × Int) := ui0 :: (1, 1) :: (0, 1) :: ui51 :: (0, 1) :: ui31 :: (0, 6) :: (0, 6) :: t
def cx_579q0i_1 (t : List (Int × Int)) : List (Int × Int) := ui51 :: ui51 :: ui586 :: t
def cx_579q0 : zS := ((cx_579q0i_0 (cx_579q0i_1 [])), (cx_531pr_0 (cx_531pr_1 [])), [], [], [uV569], [], [uG1868, uG1249, uG2211, uG2212])
def cx_579q2 : zS := ((cx_579pi_0 (cx_579pi_1 [])), (cx_531pr_0 (cx_531pr_1 [])), [], [], [uV569], [], [uG1868, uG1249, uG2216, uG2217])
/-- M.weakest -/
def cx_579 : zCtx := (264, cx_579p, [cx_579q0, cx_576q2, cx_579q2, cx_576q5], [uk2038, uk1869, uk1870, uk2030, uk2039, uk1871], 78170, 8, 174)
set_option maxRecDepth 1000000 in
theorem ck_579 : x_ok mLT1 [cx_497, cx_501, cx_573, cx_554] mTS2 mTC2 mRUp cx_579 [(3, [0]), (12, [1]), (17, [2]), (28, [2]), (33, [3])] [(15, uN2093), (20, [1000728]), (31, [1001011]), (59, [1000679]), (60, [1001012])] [] (27, []) 78143 30 = true := by decide +kernel
theorem sn_579 {W : Bool} {X : List Int32} : y_Snd (mGw W) mLT1 (J2 W X) X cx_579 := y_ok J2_J mTS2_ok1 mTC2_ok1 mRUp_ok1 (List.forall_mem_cons.mpr ⟨sn_497, List.forall_mem_cons.mpr ⟨sn_501, List.forall_mem_cons.mpr ⟨sn_573, List.forall_mem_cons.mpr ⟨sn_554, fun _ h => absurd h List.not_mem_nil⟩⟩⟩⟩) ck_579
def cx_580pi_0 (t : List (Int × Int)) : List (Int × Int) := ui0 :: ui512 :: (0, 1) :: ui51 :: (0, 1) :: (0, 6) :: (0, 6) :: ui51 :: t
def cx_580pi_1 (t : List (Int × Int)) : List (Int × Int) := ui51 :: t
def cx_580p : zS := ((cx_580pi_0 (cx_580pi_1 [])), [ur1299, ur1347, ur1462, ur1463, ur1858], [uL578, (0, [(1, 1), (6, (-1))])], [], [uV2, uV11], [uF1995, uF2097, uF2098, uF1465, uF1863, uF2027, uF2028], [uG2193, uG2194, uG470])
/-- M.below -/
def cx_580 : zCtx := (265, cx_580p, [([ui0, ui512, (0, 1), ui51, (0, 1), (0, 6), (0, 6), ui51, ui51], [ur1299, ur1347, ur1462, ur1463, ur1858], [], [], [uV63], [], [uG1868, uG470])], [uk1869, uk1870, uk1871], 459, 1, 22)
set_option maxRecDepth 1000000 in
theorem ck_580 : x_ok mLT1 [cx_501, cx_497] mTS2 mTC2 mRUp cx_580 [(1, [0]), (15, [1])] [(4, [1000818]), (13, [1000915]), (21, [1001014]), (29, [1001013])] [] (14, []) 445 17 = true := by decide +kernel
theorem sn_580 {W : Bool} {X : List Int32} : y_Snd (mGw W) mLT1 (J2 W X) X cx_580 := y_ok J2_J mTS2_ok1 mTC2_ok1 mRUp_ok1 (List.forall_mem_cons.mpr ⟨sn_501, List.forall_mem_cons.mpr ⟨sn_497, fun _ h => absurd h List.not_mem_nil⟩⟩) ck_580
def cx_581pi_0 (t : List (Int × Int)) : List (Int × Int) := ui0 :: (0, 5) :: (0, 1) :: ui51 :: (0, 1) :: (0, 6) :: (0, 6) :: ui51 :: t
def cx_581pi_1 (t : List (Int × Int)) : List (Int × Int) := ui51 :: ui586 :: t
def cx_581p : zS := ((cx_581pi_0 (cx_581pi_1 [])), [ur1299, ur1347, ur1462, ur1463, ur1858], [uL578, uL9, uL2084], [], [uV2, uV11], [uF1995, uF2097, uF2098, uF1465, uF1863, uF2027, uF2028], [uG2193, uG2194, uG470, (260, [uL67, uL65, uL65, uL65, uL65, uL65, uL65, uL65, uL111, uL80, uL166])])
/-- M.below -/
def cx_581 : zCtx := (265, cx_581p, [([ui0, (0, 5), (0, 1), ui51, (0, 1), (0, 6), (0, 6), ui51, ui51, ui586], [ur1299, ur1347, ur1462, ur1463, ur1858], [], [], [uV779], [], [uG1868, uG470])], [uk1869, uk1870, uk1871], 462, 1, 23)
set_option maxRecDepth 1000000 in
theorem ck_581 : x_ok mLT1 [cx_501, cx_497, cx_552] mTS2 mTC2 mRUp cx_581 [(1, [0]), (15, [1]), (23, [2])] [(4, [1000818]), (13, [1000915]), (21, [1001014]), (26, [1001015]), (29, [1001013])] [] (17, []) 445 20 = true := by decide +kernel
theorem sn_581 {W : Bool} {X : List Int32} : y_Snd (mGw W) mLT1 (J2 W X) X cx_581 := y_ok J2_J mTS2_ok1 mTC2_ok1 mRUp_ok1 (List.forall_mem_cons.mpr ⟨sn_501, List.forall_mem_cons.mpr ⟨sn_497, List.forall_mem_cons.mpr ⟨sn_552, fun _ h => absurd h List.not_mem_nil⟩⟩⟩) ck_581
def cx_582pi_0 (t : List (Int × Int)) : List (Int × Int) := ui0 :: ui265 :: (0, 1) :: ui51 :: (0, 1) :: (0, 6) :: (0, 6) :: ui51 :: t
def cx_582pi_1 (t : List (Int × Int)) : List (Int × Int) := ui51 :: t
def cx_582p : zS := ((cx_582pi_0 (cx_582pi_1 [])), [ur1299, ur1347, ur1462, ur1463, ur1858], [uL578, uL570], [], [uV2, uV11], [uF1995, uF2097, uF2098, uF1465, uF1863, uF2027, uF2028], [uG2193, uG2194, uG470])
/-- M.below -/
def cx_582 : zCtx := (265, cx_582p, [([ui0, ui265, (0, 1), ui51, (0, 1), (0, 6), (0, 6), ui51, ui51], [ur1299, ur1347, ur1462, ur1463, ur1858], [], [], [uV63], [], [uG1868, uG470])], [uk1869, uk1870, uk1871], 459, 1, 22)
set_option maxRecDepth 1000000 in
theorem ck_582 : x_ok mLT1 [cx_501, cx_497] mTS2 mTC2 mRUp cx_582 [(1, [0]), (15, [1])] [(4, [1000818]), (13, [1000915]), (29, [1001013])] [] (14, []) 445 17 = true := by decide +kernel
theorem sn_582 {W : Bool} {X : List Int32} : y_Snd (mGw W) mLT1 (J2 W X) X cx_582 := y_ok J2_J mTS2_ok1 mTC2_ok1 mRUp_ok1 (List.forall_mem_cons.mpr ⟨sn_501, List.forall_mem_cons.mpr ⟨sn_497, fun _ h => absurd h List.not_mem_nil⟩⟩) ck_582
/-- M.copiesStill -/
def cx_583 : zCtx := (267, ([ui0, (0, 1), ui51, (0, 1)], [ur1299], [], [], [uV2], [uF1859, uF1860, uF1861], []), [([ui0, (0, 1), ui51, (0, 1), ui199], [ur1299], [], [], [], [uF2219, uF2000], [uG1872, uG1868])], [uk1869, uk1870, uk1871], 451, 1, 21)
set_option maxRecDepth 1000000 in
theorem ck_583 : x_ok mLT1 [cx_501] mTS2 mTC2 mRUp cx_583 [(1, [0])] [] [] (6, []) 445 9 = true := by decide +kernel
theorem sn_583 {W : Bool} {X : List Int32} : y_Snd (mGw W) mLT1 (J2 W X) X cx_583 := y_ok J2_J mTS2_ok1 mTC2_ok1 mRUp_ok1 (List.forall_mem_cons.mpr ⟨sn_501, fun _ h => absurd h List.not_mem_nil⟩) ck_583
/-- M.belowOf -/
def cx_584 : zCtx := (252, ([ui0, (0, 5)], [ur1299], [], [], [uV2, uV11], [], []), [([ui0, (0, 5), ui51], [ur1299], [], [], [uV12], [], [])], [], 130, 0, 0)
set_option maxRecDepth 1000000 in
theorem ck_584 : x_ok mLT1 [] mTS2 mTC2 mRUp cx_584 [] [] [(6, ([(0, 3072), (0, 5), ((-2147483648), 2147483647), (1, 6)], [(12, false)], [], [(2, 0, 0, []), (0, 0, 0, [(1, 1)]), (0, 0, 0, [(2, 1)]), (0, 0, 0, [(3, 1)])], [], [], []), (146, [(3, (-23))]))] (130, []) 0 25 = true := by decide +kernel
theorem sn_584 {W : Bool} {X : List Int32} : y_Snd (mGw W) mLT1 (J2 W X) X cx_584 := y_ok J2_J mTS2_ok1 mTC2_ok1 mRUp_ok1 (fun _ h => absurd h List.not_mem_nil) ck_584
/-- M.strongFirst -/
def cx_585 : zCtx := (225, ([ui0, (0, 5), (0, 1)], [ur1299], [], [], [uV2, uV11], [uF1995], []), [([ui0, (0, 5), (0, 1), ui199], [ur1299], [], [], [uV60], [], [])], [], 10, 0, 0)
set_option maxRecDepth 1000000 in
theorem ck_585 : x_ok mLT1 [] mTS2 mTC2 mRUp cx_585 [] [] [] (10, []) 0 13 = true := by decide +kernel
theorem sn_585 {W : Bool} {X : List Int32} : y_Snd (mGw W) mLT1 (J2 W X) X cx_585 := y_ok J2_J mTS2_ok1 mTC2_ok1 mRUp_ok1 (fun _ h => absurd h List.not_mem_nil) ck_585
/-- M.strongOf -/
def cx_586 : zCtx := (230, ([ui0, (0, 5), (0, 1)], [ur1299], [], [], [uV2, uV11], [uF1995], []), [([ui0, (0, 5), (0, 1), ui199], [ur1299], [], [], [uV60], [], [])], [], 22, 1, 21)
set_option maxRecDepth 1000000 in
theorem ck_586 : x_ok mLT1 [cx_507, cx_585] mTS2 mTC2 mRUp cx_586 [(2, [0]), (22, [1])] [] [] (12, []) 10 15 = true := by decide +kernel
theorem sn_586 {W : Bool} {X : List Int32} : y_Snd (mGw W) mLT1 (J2 W X) X cx_586 := y_ok J2_J mTS2_ok1 mTC2_ok1 mRUp_ok1 (List.forall_mem_cons.mpr ⟨sn_507, List.forall_mem_cons.mpr ⟨sn_585, fun _ h => absurd h List.not_mem_nil⟩⟩) ck_586
/-- M.placeOf -/
def cx_587 : zCtx := (227, ([ui0, (0, 5)], [ur1299], [], [], [uV2, uV11], [], []), [([ui0, (0, 5), (0, 5)], [ur1299], [], [], [uV12], [], []), ([ui0, (0, 5)], [ur1299], [], [], [uV63], [], [])], [], 113, 0, 0)
set_option maxRecDepth 1000000 in
theorem ck_587 : x_ok mLT1 [] mTS2 mTC2 mRUp cx_587 [] [] [(2, ([(0, 3072), (0, 5), (0, 6)], [(12, false)], [], [(2, 0, 0, []), (0, 0, 0, [(1, 1)]), (0, 0, 0, [(2, 1)])], [], [], []), (110, [(2, (-17))]))] (113, []) 0 19 = true := by decide +kernel
theorem sn_587 {W : Bool} {X : List Int32} : y_Snd (mGw W) mLT1 (J2 W X) X cx_587 := y_ok J2_J mTS2_ok1 mTC2_ok1 mRUp_ok1 (fun _ h => absurd h List.not_mem_nil) ck_587
/-- M.views -/
def cx_588 : zCtx := (229, ([ui0, (0, 5), (0, 1)], [ur1299], [], [], [uV2, uV11], [uF1995], []), [([ui0, (0, 5), (0, 1)], [ur1299], [], [], [], [], [])], [uk2030], 182, 2, 42)
set_option maxRecDepth 1000000 in
theorem ck_588 : x_ok mLT1 [cx_586, cx_507, cx_587] mTS2 mTC2 mRUp cx_588 [(19, [0]), (50, [1]), (58, [2])] [] [] (69, []) 113 72 = true := by decide +kernel
theorem sn_588 {W : Bool} {X : List Int32} : y_Snd (mGw W) mLT1 (J2 W X) X cx_588 := y_ok J2_J mTS2_ok1 mTC2_ok1 mRUp_ok1 (List.forall_mem_cons.mpr ⟨sn_586, List.forall_mem_cons.mpr ⟨sn_507, List.forall_mem_cons.mpr ⟨sn_587, fun _ h => absurd h List.not_mem_nil⟩⟩⟩) ck_588
def cx_589pr_0 (t : List (Nat × Bool)) : List (Nat × Bool) := ur1299 :: ur1345 :: ur1346 :: ur1356 :: ur1357 :: ur1358 :: ur1359 :: ur1360 :: t
def cx_589pr_1 (t : List (Nat × Bool)) : List (Nat × Bool) := ur1354 :: ur1355 :: t
def cx_589pf_0 (t : List zFa) : List zFa := uF2082 :: uF1361 :: uF1362 :: uF2002 :: uF2003 :: uF2004 :: uF2005 :: uF2006 :: t
def cx_589pf_1 (t : List zFa) : List zFa := uF1597 :: uF1598 :: t
def cx_589p : zS := ([ui0, (0, 5), (0, 5), ui199, (0, 1), ui31], (cx_589pr_0 (cx_589pr_1 [])), [], [], [uV2, uV11, uV12, uV60], (cx_589pf_0 (cx_589pf_1 [])), [uG2086, uG2087])
/-- M.joinsBy -/
def cx_589 : zCtx := (241, cx_589p, [([ui0, (0, 5), (0, 5), ui199, (0, 1), ui31], [ur1299, ur1345, ur1346, ur1356, ur1357, ur1358, ur1359, ur1360, ur1354, ur1355], [], [], [uV64], [], [(233, [uL100, uL116, (0, [(3, 10)]), uL65])]), ([ui0, (0, 5), (0, 5), ui199, (0, 1), ui31, ui586], [ur1299, ur1345, ur1346, ur1356, ur1357, ur1358, ur1359, ur1360, ur1354, ur1355], [], [], [uV110], [], [])], [uk2038, uk2030, uk2039], 77629, 3, 63)
set_option maxRecDepth 1000000 in
theorem ck_589 : x_ok mLT1 [cx_588, cx_586, cx_529, cx_516] mTS2 mTC2 mRUp cx_589 [(2, [0]), (20, [1]), (30, [2]), (37, [3])] [] [] (25, []) 77604 28 = true := by decide +kernel
theorem sn_589 {W : Bool} {X : List Int32} : y_Snd (mGw W) mLT1 (J2 W X) X cx_589 := y_ok J2_J mTS2_ok1 mTC2_ok1 mRUp_ok1 (List.forall_mem_cons.mpr ⟨sn_588, List.forall_mem_cons.mpr ⟨sn_586, List.forall_mem_cons.mpr ⟨sn_529, List.forall_mem_cons.mpr ⟨sn_516, fun _ h => absurd h List.not_mem_nil⟩⟩⟩⟩) ck_589
def cx_590pf_0 (t : List zFa) : List zFa := uF1999 :: uF1361 :: uF1362 :: uF2002 :: uF2003 :: uF2004 :: uF2005 :: uF2006 :: t
def cx_590pf_1 (t : List zFa) : List zFa := uF1597 :: uF1598 :: t
def cx_590p : zS := ([ui0, (0, 5), (0, 5), (0, 1), ui31], (cx_589pr_0 (cx_589pr_1 [])), [], [], [uV2, uV11, uV12], (cx_590pf_0 (cx_590pf_1 [])), [uG2012, uG2089])
/-- M.joinsOf -/
def cx_590 : zCtx := (240, cx_590p, [([ui0, (0, 5), (0, 5), (0, 1), ui31, ui586], [ur1299, ur1345, ur1346, ur1356, ur1357, ur1358, ur1359, ur1360, ur1354, ur1355], [], [], [uV77], [], [])], [uk2038, uk2030, uk2039], 77638, 4, 86)
set_option maxRecDepth 1000000 in
theorem ck_590 : x_ok mLT1 [cx_527, cx_589] mTS2 mTC2 mRUp cx_590 [(6, [0]), (9, [1])] [] [] (9, []) 77629 12 = true := by decide +kernel
theorem sn_590 {W : Bool} {X : List Int32} : y_Snd (mGw W) mLT1 (J2 W X) X cx_590 := y_ok J2_J mTS2_ok1 mTC2_ok1 mRUp_ok1 (List.forall_mem_cons.mpr ⟨sn_527, List.forall_mem_cons.mpr ⟨sn_589, fun _ h => absurd h List.not_mem_nil⟩⟩) ck_590
/-- M.spareAt -/
def cx_591 : zCtx := (251, ([ui0, ui803, (0, 1), ui31], [ur1299, ur1345, ur1346, ur1356, ur1357, ur1358, ur1359, ur1360, ur1354, ur1355], [], [], [uV2, uV11], [uF1995, uF1361, uF1362, uF2002, uF2003, uF2004, uF2005, uF2006, uF1597, uF1598], [uG2042, uG2043]), [([ui0, ui803, (0, 1), ui31, ui51], [ur1299, ur1345, ur1346, ur1356, ur1357, ur1358, ur1359, ur1360, ur1354, ur1355], [], [], [uV99], [], [])], [uk2038, uk2030, uk2039], 77677, 5, 108)
set_option maxRecDepth 1000000 in
theorem ck_591 : x_ok mLT1 [cx_584, cx_590] mTS2 mTC2 mRUp cx_591 [(32, [0]), (58, [1]), (63, [0])] [] [] (39, []) 77638 42 = true := by decide +kernel
theorem sn_591 {W : Bool} {X : List Int32} : y_Snd (mGw W) mLT1 (J2 W X) X cx_591 := y_ok J2_J mTS2_ok1 mTC2_ok1 mRUp_ok1 (List.forall_mem_cons.mpr ⟨sn_584, List.forall_mem_cons.mpr ⟨sn_590, fun _ h => absurd h List.not_mem_nil⟩⟩) ck_591
/-- M.breaksAt -/
def cx_592 : zCtx := (250, ([ui0, ui586, (0, 1), ui31], [ur1299, ur1345, ur1346, ur1356, ur1357, ur1358, ur1359, ur1360, ur1354, ur1355], [], [], [uV2, uV11], [uF1995, uF1361, uF1362, uF2002, uF2003, uF2004, uF2005, uF2006, uF1597, uF1598], [uG2042, uG2043]), [([ui0, ui586, (0, 1), ui31, ui803], [ur1299, ur1345, ur1346, ur1356, ur1357, ur1358, ur1359, ur1360, ur1354, ur1355], [], [], [uV99], [], []), ([ui0, ui586, (0, 1), ui31], [ur1299, ur1345, ur1346, ur1356, ur1357, ur1358, ur1359, ur1360, ur1354, ur1355], [], [], [uV63], [], [])], [uk2038, uk2030, uk2039], 78042, 6, 131)
def cz_592_0f_0 (t : List zFa) : List zFa := uF1995 :: uF1361 :: uF1362 :: uF2002 :: uF2003 :: uF2004 :: uF2005 :: uF2006 :: t
def cz_592_0f_1 (t : List zFa) : List zFa := uF1597 :: uF1598 :: t
def cz_592_0 : zS := ([ui0, ui586, (0, 1), ui31, ui427], (cx_589pr_0 (cx_589pr_1 [])), [], [uV2, uV11, uV99], [], (cz_592_0f_0 (cz_592_0f_1 [])), [uG2042, uG2043])
set_option maxRecDepth 1000000 in
theorem ck_592 : x_ok mLT1 [cx_591] mTS2 mTC2 mRUp cx_592 [(17, [0])] [] [(2, cz_592_0, (362, [(4, (-16))]))] (365, []) 77677 18 = true := by decide +kernel
theorem sn_592 {W : Bool} {X : List Int32} : y_Snd (mGw W) mLT1 (J2 W X) X cx_592 := y_ok J2_J mTS2_ok1 mTC2_ok1 mRUp_ok1 (List.forall_mem_cons.mpr ⟨sn_591, fun _ h => absurd h List.not_mem_nil⟩) ck_592
/-- M.growsOf -/
def cx_593 : zCtx := (228, ([ui0, (0, 5), (0, 1), ui31], [ur1299, ur1345, ur1346, ur1356, ur1357, ur1358, ur1359, ur1360, ur1354, ur1355], [], [], [uV2, uV11], [uF1995, uF1361, uF1362, uF2002, uF2003, uF2004, uF2005, uF2006, uF1597, uF1598], [uG2042, uG2043]), [([ui0, (0, 5), (0, 1), ui31], [ur1299, ur1345, ur1346, ur1356, ur1357, ur1358, ur1359, ur1360, ur1354, ur1355], [], [], [uV64], [], [(233, [uL69, uL65, uL67, uL65])]), ([ui0, (0, 5), (0, 1), ui31, ui526], [ur1299, ur1345, ur1346, ur1356, ur1357, ur1358, ur1359, ur1360, ur1354, ur1355], [], [], [uV99], [], [])], [uk2038, uk2030, uk2039], 77615, 3, 63)
set_option maxRecDepth 1000000 in
theorem ck_593 : x_ok mLT1 [cx_588, cx_515, cx_516] mTS2 mTC2 mRUp cx_593 [(2, [0]), (8, [1]), (14, [2])] [] [] (11, []) 77604 14 = true := by decide +kernel
theorem sn_593 {W : Bool} {X : List Int32} : y_Snd (mGw W) mLT1 (J2 W X) X cx_593 := y_ok J2_J mTS2_ok1 mTC2_ok1 mRUp_ok1 (List.forall_mem_cons.mpr ⟨sn_588, List.forall_mem_cons.mpr ⟨sn_515, List.forall_mem_cons.mpr ⟨sn_516, fun _ h => absurd h List.not_mem_nil⟩⟩⟩) ck_593
/-- M.weakensOf -/
def cx_594 : zCtx := (234, ([ui0, (0, 5), (0, 1), ui31], [ur1299, ur1345, ur1346, ur1356, ur1357, ur1358, ur1359, ur1360, ur1354, ur1355], [], [], [uV2, uV11], [uF1995, uF1361, uF1362, uF2002, uF2003, uF2004, uF2005, uF2006, uF1597, uF1598], [uG2042, uG2043]), [([ui0, (0, 5), (0, 1), ui31], [ur1299, ur1345, ur1346, ur1356, ur1357, ur1358, ur1359, ur1360, ur1354, ur1355], [], [], [uV64], [], [(233, [uL69, uL67, uL67, uL65])]), ([ui0, (0, 5), (0, 1), ui31, ui526], [ur1299, ur1345, ur1346, ur1356, ur1357, ur1358, ur1359, ur1360, ur1354, ur1355], [], [], [uV99], [], [])], [uk2038, uk2030, uk2039], 77615, 3, 63)
set_option maxRecDepth 1000000 in
theorem ck_594 : x_ok mLT1 [cx_588, cx_519, cx_516] mTS2 mTC2 mRUp cx_594 [(2, [0]), (8, [1]), (14, [2])] [] [] (11, []) 77604 14 = true := by decide +kernel
theorem sn_594 {W : Bool} {X : List Int32} : y_Snd (mGw W) mLT1 (J2 W X) X cx_594 := y_ok J2_J mTS2_ok1 mTC2_ok1 mRUp_ok1 (List.forall_mem_cons.mpr ⟨sn_588, List.forall_mem_cons.mpr ⟨sn_519, List.forall_mem_cons.mpr ⟨sn_516, fun _ h => absurd h List.not_mem_nil⟩⟩⟩) ck_594
/-- M.isBlighted -/
def cx_595 : zCtx := (257, ([ui0, (0, 5), (0, 1), ui2176, (0, 1)], [ur1299], [], [], [uV2, uV11], [uF1995, uF2097, uF2098], []), [([ui0, (0, 5), (0, 1), ui2176, (0, 0)], [ur1299], [], [], [uV66], [], []), ([ui0, (0, 5), (0, 1), ui2176, (0, 0)], [ur1299], [], [], [uV64], [], []), ([ui0, (0, 5), (0, 1), ui2176, (1, 1)], [ur1299], [], [], [uV64], [], [])], [], 47, 2, 43)
set_option maxRecDepth 1000000 in
theorem ck_595 : x_ok mLT1 [cx_564] mTS2 mTC2 mRUp cx_595 [(20, [0])] [] [] (22, []) 25 25 = true := by decide +kernel
theorem sn_595 {W : Bool} {X : List Int32} : y_Snd (mGw W) mLT1 (J2 W X) X cx_595 := y_ok J2_J mTS2_ok1 mTC2_ok1 mRUp_ok1 (List.forall_mem_cons.mpr ⟨sn_564, fun _ h => absurd h List.not_mem_nil⟩) ck_595
def cx_596pf_0 (t : List zFa) : List zFa := uF1859 :: uF1860 :: uF1861 :: uF1361 :: uF1362 :: uF2002 :: uF2003 :: uF2004 :: t
def cx_596pf_1 (t : List zFa) : List zFa := uF2005 :: uF2006 :: uF1597 :: uF1598 :: t
def cx_596p : zS := ([ui0, (0, 1), ui2220, (0, 1), ui31], (cx_589pr_0 (cx_589pr_1 [])), [], [], [uV2], (cx_596pf_0 (cx_596pf_1 [])), [uG2183, uG2208])
/-- M.yearGoes -/
def cx_596 : zCtx := (256, cx_596p, [([ui0, (0, 1), ui2220, (0, 1), ui31], [ur1299, ur1345, ur1346, ur1356, ur1357, ur1358, ur1359, ur1360, ur1354, ur1355], [], [], [], [], [])], [uk2038, uk2030, uk2039, uk1871, uk2188, uk2189], 78112, 4, 84)
def cq_596 : List zCtx := [cx_593, cx_594, cx_595, cx_516, cx_507]
def cs_596 : List (Nat × List Nat) := [(22, [0]), (33, [1]), (65, [2]), (98, [3]), (104, [4]), (137, [3])]
def hs_596 : List (Nat × List Nat) := []
def nd_596_0p : zS := ([ui0, (0, 1), ui2220, (0, 1), ui31, (0, 6)], (cx_589pr_0 (cx_589pr_1 [])), [], [uV2, uV77], [], (cx_596pf_0 (cx_596pf_1 [])), [uG2183, uG2208])
def nd_596_0 : zN := (2, nd_596_0p, (494, [(5, (-24))]))
def nd_596_1pr_0 (t : List (Nat × Bool)) : List (Nat × Bool) := ur1299 :: ur1345 :: ur1346 :: ur1356 :: ur1357 :: ur1358 :: ur1359 :: ur1360 :: t
def nd_596_1pr_1 (t : List (Nat × Bool)) : List (Nat × Bool) := ur1354 :: ur1355 :: ur1347 :: t
def nd_596_1pf_0 (t : List zFa) : List zFa := uF2007 :: uF1859 :: uF1860 :: uF1861 :: uF1361 :: uF1362 :: uF2002 :: uF2003 :: t
def nd_596_1pf_1 (t : List zFa) : List zFa := uF2004 :: uF2005 :: uF2006 :: uF1597 :: uF1598 :: t
def nd_596_1p : zS := ([ui0, (0, 1), ui2220, (0, 1), ui31, (0, 6)], (nd_596_1pr_0 (nd_596_1pr_1 [])), [], [uV2, uV77], [], (nd_596_1pf_0 (nd_596_1pf_1 [])), [uG2183, uG2208])
def nd_596_1 : zN := (45, nd_596_1p, (340, [(5, (-54))]))
def ns_596 : List zN := [nd_596_0, nd_596_1]
set_option maxRecDepth 1000000 in
theorem ca_596 : x_okA mLT1 cq_596 mTS2 mTC2 mRUp cx_596 cs_596 hs_596 ns_596 (497, []) 77615 56 = true := by decide +kernel
set_option maxRecDepth 1000000 in
theorem cb_596_0 : x_okB mLT1 cq_596 mTS2 mTC2 mRUp cx_596 cs_596 hs_596 ns_596 (497, []) 77615 56 nd_596_0 = true := by decide +kernel
set_option maxRecDepth 1000000 in
theorem cb_596_1 : x_okB mLT1 cq_596 mTS2 mTC2 mRUp cx_596 cs_596 hs_596 ns_596 (497, []) 77615 56 nd_596_1 = true := by decide +kernel
set_option maxRecDepth 1000000 in
theorem cc_596 : x_okC mLT1 cq_596 mTS2 mTC2 mRUp cx_596 cs_596 hs_596 ns_596 (497, []) 77615 56 = true := by decide +kernel
theorem ck_596 : x_ok mLT1 cq_596 mTS2 mTC2 mRUp cx_596 cs_596 hs_596 ns_596 (497, []) 77615 56 = true := x_ok_of ca_596 (List.forall_mem_cons.mpr ⟨cb_596_0, List.forall_mem_cons.mpr ⟨cb_596_1, fun _ h => absurd h List.not_mem_nil⟩⟩) cc_596
theorem sn_596 {W : Bool} {X : List Int32} : y_Snd (mGw W) mLT1 (J2 W X) X cx_596 := y_ok J2_J mTS2_ok1 mTC2_ok1 mRUp_ok1 (List.forall_mem_cons.mpr ⟨sn_593, List.forall_mem_cons.mpr ⟨sn_594, List.forall_mem_cons.mpr ⟨sn_595, List.forall_mem_cons.mpr ⟨sn_516, List.forall_mem_cons.mpr ⟨sn_507, fun _ h => absurd h List.not_mem_nil⟩⟩⟩⟩⟩) ck_596
def cx_597pf_0 (t : List zFa) : List zFa := uF1995 :: uF2097 :: uF2098 :: uF1361 :: uF1362 :: uF2002 :: uF2003 :: uF2004 :: t
def cx_597pf_1 (t : List zFa) : List zFa := uF2005 :: uF2006 :: uF1597 :: uF1598 :: t
def cx_597p : zS := ([ui0, ui51, (0, 1), ui51, (0, 1), ui31], (cx_589pr_0 (cx_589pr_1 [])), [], [], [uV2, uV11], (cx_597pf_0 (cx_597pf_1 [])), [uG2042, uG2210])
/-- M.lasts -/
def cx_597 : zCtx := (266, cx_597p, [([ui0, ui800, (0, 1), ui51, (0, 1), ui31], [ur1299, ur1345, ur1346, ur1356, ur1357, ur1358, ur1359, ur1360, ur1354, ur1355], [], [], [uV63], [uF2097, uF2098], []), ([ui0, ui265, (0, 1), ui51, (0, 1), ui31], [ur1299, ur1345, ur1346, ur1356, ur1357, ur1358, ur1359, ur1360, ur1354, ur1355], [], [], [uV63], [uF2097, uF2098], []), ([ui0, ui586, (0, 1), ui51, (0, 1), ui31, ui1087, ui199], [ur1299, ur1345, ur1346, ur1356, ur1357, ur1358, ur1359, ur1360, ur1354, ur1355], [], [], [uV110], [uF2219, uF2221], []), ([ui0, ui586, (0, 1), ui51, (0, 1), ui31, ui199], [ur1299, ur1345, ur1346, ur1356, ur1357, ur1358, ur1359, ur1360, ur1354, ur1355], [], [], [uV569], [uF2219, uF2222], [])], kc_82, 78881, 7, 153)
def cz_597_0f_0 (t : List zFa) : List zFa := uF2219 :: uF2221 :: uF1995 :: uF1361 :: uF1362 :: uF2002 :: uF2003 :: uF2004 :: t
def cz_597_0f_1 (t : List zFa) : List zFa := uF2005 :: uF2006 :: uF1597 :: uF1598 :: t
def cz_597_0 : zS := ([ui0, ui586, (0, 1), ui51, (0, 1), ui31, ui845, ui199], (cx_589pr_0 (cx_589pr_1 [])), [], [uV2, uV11, uV110], [], (cz_597_0f_0 (cz_597_0f_1 [])), [uG2042, uG2210])
set_option maxRecDepth 1000000 in
theorem ck_597 : x_ok mLT1 [cx_547, cx_583, cx_592, cx_596] mTS2 mTC2 mRUp cx_597 [(1, [0]), (10, [1]), (23, [2]), (32, [3])] [] [(15, cz_597_0, (761, [(6, (-12))]))] (769, []) 78112 14 = true := by decide +kernel
theorem sn_597 {W : Bool} {X : List Int32} : y_Snd (mGw W) mLT1 (J2 W X) X cx_597 := y_ok J2_J mTS2_ok1 mTC2_ok1 mRUp_ok1 (List.forall_mem_cons.mpr ⟨sn_547, List.forall_mem_cons.mpr ⟨sn_583, List.forall_mem_cons.mpr ⟨sn_592, List.forall_mem_cons.mpr ⟨sn_596, fun _ h => absurd h List.not_mem_nil⟩⟩⟩⟩) ck_597
def cx_598pi_0 (t : List (Int × Int)) : List (Int × Int) := ui0 :: ui1063 :: (0, 1) :: ui51 :: (0, 1) :: ui31 :: (0, 6) :: (0, 6) :: t
def cx_598pi_1 (t : List (Int × Int)) : List (Int × Int) := ui51 :: ui51 :: (0, 6) :: t
def cx_598pf_0 (t : List zFa) : List zFa := uF1995 :: uF2097 :: uF2098 :: uF1361 :: uF1362 :: uF2002 :: uF2003 :: uF2004 :: t
def cx_598pf_1 (t : List zFa) : List zFa := uF2005 :: uF2006 :: uF1597 :: uF1598 :: uF2007 :: uF2008 :: uF2009 :: uF1895 :: t
def cx_598pf_2 (t : List zFa) : List zFa := uF2088 :: uF2201 :: t
def cx_598p : zS := ((cx_598pi_0 (cx_598pi_1 [])), (cx_531pr_0 (cx_531pr_1 [])), [uL2083], [], [uV2, uV11], (cx_598pf_0 (cx_598pf_1 (cx_598pf_2 []))), [uG2042, uG2210, uG2095, uG2096, uG2148, uG1249])
/-- M.quarrel -/
def cx_598 : zCtx := (268, cx_598p, [([ui0, ui1063, (0, 1), ui51, (0, 1), ui31, (0, 6), (0, 6), ui51, ui51, (0, 6)], [ur1299, ur1345, ur1346, ur1356, ur1357, ur1358, ur1359, ur1360, ur1354, ur1355, ur1347, ur1462, ur1463, ur1349, ur1858], [], [], [uV63], [], [uG1249])], [], 16, 1, 22)
set_option maxRecDepth 1000000 in
theorem ck_598 : x_ok mLT1 [cx_497] mTS2 mTC2 mRUp cx_598 [(3, [0])] [] [] (7, []) 9 10 = true := by decide +kernel
theorem sn_598 {W : Bool} {X : List Int32} : y_Snd (mGw W) mLT1 (J2 W X) X cx_598 := y_ok J2_J mTS2_ok1 mTC2_ok1 mRUp_ok1 (List.forall_mem_cons.mpr ⟨sn_497, fun _ h => absurd h List.not_mem_nil⟩) ck_598
def cx_599pi_0 (t : List (Int × Int)) : List (Int × Int) := ui0 :: ui265 :: (0, 1) :: ui51 :: (0, 1) :: ui31 :: (0, 6) :: (0, 6) :: t
def cx_599pi_1 (t : List (Int × Int)) : List (Int × Int) := ui51 :: ui51 :: (0, 6) :: t
def cx_599p : zS := ((cx_599pi_0 (cx_599pi_1 [])), (cx_531pr_0 (cx_531pr_1 [])), [uL2083], [], [uV2, uV11], (cx_598pf_0 (cx_598pf_1 (cx_598pf_2 []))), [uG2042, uG2210, uG2095, uG2096, uG2148, uG1249])
/-- M.quarrel -/
def cx_599 : zCtx := (268, cx_599p, [([ui0, ui265, (0, 1), ui51, (0, 1), ui31, (0, 6), (0, 6), ui51, ui51, (0, 6)], [ur1299, ur1345, ur1346, ur1356, ur1357, ur1358, ur1359, ur1360, ur1354, ur1355, ur1347, ur1462, ur1463, ur1349, ur1858], [], [], [uV63], [], [uG1249])], [], 16, 1, 22)
set_option maxRecDepth 1000000 in
theorem ck_599 : x_ok mLT1 [cx_497] mTS2 mTC2 mRUp cx_599 [(3, [0])] [] [] (7, []) 9 10 = true := by decide +kernel
theorem sn_599 {W : Bool} {X : List Int32} : y_Snd (mGw W) mLT1 (J2 W X) X cx_599 := y_ok J2_J mTS2_ok1 mTC2_ok1 mRUp_ok1 (List.forall_mem_cons.mpr ⟨sn_497, fun _ h => absurd h List.not_mem_nil⟩) ck_599
def cx_600pi_0 (t : List (Int × Int)) : List (Int × Int) := ui0 :: (0, 0) :: (0, 1) :: ui51 :: (0, 1) :: ui31 :: (0, 6) :: (0, 6) :: t
def cx_600pi_1 (t : List (Int × Int)) : List (Int × Int) := ui51 :: ui51 :: (0, 6) :: t
def cx_600p : zS := ((cx_600pi_0 (cx_600pi_1 [])), (cx_531pr_0 (cx_531pr_1 [])), [uL2083], [], [uV2, uV11], (cx_598pf_0 (cx_598pf_1 (cx_598pf_2 []))), [uG2042, uG2210, uG2095, uG2096, uG2148, uG1249])
def cx_600q0i_0 (t : List (Int × Int)) : List (Int × Int) := ui0 :: (0, 0) :: (0, 1) :: ui51 :: (0, 1) :: ui31 :: (0, 6) :: (0, 6) :: t
def cx_600q0i_1 (t : List (Int × Int)) : List (Int × Int) := ui51 :: ui51 :: (0, 6) :: ui51 :: ui51 :: t
def cx_600q0 : zS := ((cx_600q0i_0 (cx_600q0i_1 [])), (cx_531pr_0 (cx_531pr_1 [])), [], [], [uV841], [], [uG1868, uG1249, (238, [uL640, uL106, uL65, uL65, uL65, uL65, uL65, uL65, uL81, uL198, uL217])])
/-- M.quarrel -/
def cx_600 : zCtx := (268, cx_600p, [cx_600q0], [uk2038, uk1869, uk1870, uk2030, uk2039, uk1871], 77828, 5, 108)
def cz_600_0i_0 (t : List (Int × Int)) : List (Int × Int) := ui0 :: (0, 0) :: (0, 1) :: ui51 :: (0, 1) :: ui31 :: (0, 6) :: (0, 6) :: t
def cz_600_0i_1 (t : List (Int × Int)) : List (Int × Int) := ui51 :: ui51 :: (0, 6) :: ui1156 :: ui1157 :: (1, 6) :: ui199 :: t
def cz_600_0r_0 (t : List (Nat × Bool)) : List (Nat × Bool) := ur1299 :: ur1345 :: ur1346 :: ur1356 :: ur1357 :: ur1358 :: ur1359 :: ur1360 :: t
def cz_600_0r_1 (t : List (Nat × Bool)) : List (Nat × Bool) := ur1354 :: ur1355 :: ur1347 :: ur1462 :: ur1463 :: ur1349 :: ur1858 :: ur1353 :: t
def cz_600_0r_2 (t : List (Nat × Bool)) : List (Nat × Bool) := ur1878 :: t
def cz_600_0f_0 (t : List zFa) : List zFa := uF1865 :: (0, (false, 49, 0, []), 0, 0, 0, [(14, 1)]) :: (0, (false, 30, 0, []), 2, 15, 0, []) :: (0, (false, 47, 0, []), 2, 16, 0, []) :: uF1995 :: uF1361 :: uF1362 :: uF2002 :: t
def cz_600_0f_1 (t : List zFa) : List zFa := uF2003 :: uF2004 :: uF2005 :: uF2006 :: uF1597 :: uF1598 :: uF2007 :: uF2008 :: t
def cz_600_0f_2 (t : List zFa) : List zFa := uF2009 :: uF1895 :: uF2088 :: (14, (true, 0, 24, []), 0, 0, 0, [(7, 1)]) :: t
def cz_600_0g_0 (t : List zTg) : List zTg := uG1868 :: uG2042 :: uG2210 :: uG2095 :: uG2096 :: uG2148 :: uG1249 :: (237, [uL80, uL106, uL65, uL65, uL65, uL65, uL65, uL65]) :: t
def cz_600_0g_1 (t : List zTg) : List zTg := (237, [uL80, uL65, uL65, uL65, uL65, uL65, uL65, uL65]) :: (238, [uL640, uL106, uL65, uL65, uL65, uL65, uL65, uL65, uL210, uL198, uL217]) :: t
def cz_600_0 : zS := ((cz_600_0i_0 (cz_600_0i_1 [])), (cz_600_0r_0 (cz_600_0r_1 (cz_600_0r_2 []))), [uL2083, uL2223], [uV2, uV11, uV841, uV201, uV411, uV115], [], (cz_600_0f_0 (cz_600_0f_1 (cz_600_0f_2 []))), (cz_600_0g_0 (cz_600_0g_1 [])))
set_option maxRecDepth 1000000 in
theorem ck_600 : x_ok mLT1 [cx_497, cx_501, cx_531] mTS2 mTC2 mRUp cx_600 [(3, [0]), (12, [1]), (57, [2])] [(15, uN2224), (22, [1001060]), (47, [1001061]), (57, [1001062]), (60, [1001063]), (69, [1000012]), (75, uN2225), (81, [1001066]), (87, [1001067])] [(24, cz_600_0, (209, [(1, (-100000000000)), (13, (-33))]))] (190, []) 77638 35 = true := by decide +kernel
theorem sn_600 {W : Bool} {X : List Int32} : y_Snd (mGw W) mLT1 (J2 W X) X cx_600 := y_ok J2_J mTS2_ok1 mTC2_ok1 mRUp_ok1 (List.forall_mem_cons.mpr ⟨sn_497, List.forall_mem_cons.mpr ⟨sn_501, List.forall_mem_cons.mpr ⟨sn_531, fun _ h => absurd h List.not_mem_nil⟩⟩⟩) ck_600
def cx_601pi_0 (t : List (Int × Int)) : List (Int × Int) := ui0 :: (1, 1) :: (0, 1) :: ui51 :: (0, 1) :: ui31 :: (0, 6) :: (0, 6) :: t
def cx_601pi_1 (t : List (Int × Int)) : List (Int × Int) := ui51 :: ui51 :: (0, 6) :: t
def cx_601p : zS := ((cx_601pi_0 (cx_601pi_1 [])), (cx_531pr_0 (cx_531pr_1 [])), [uL2083], [], [uV2, uV11], (cx_598pf_0 (cx_598pf_1 (cx_598pf_2 []))), [uG2042, uG2210, uG2095, uG2096, uG2148, uG1249])
def cx_601q0i_0 (t : List (Int × Int)) : List (Int × Int) := ui0 :: (1, 1) :: (0, 1) :: ui51 :: (0, 1) :: ui31 :: (0, 6) :: (0, 6) :: t
def cx_601q0i_1 (t : List (Int × Int)) : List (Int × Int) := ui51 :: ui51 :: (0, 6) :: ui51 :: ui51 :: t
def cx_601q0 : zS := ((cx_601q0i_0 (cx_601q0i_1 [])), (cx_531pr_0 (cx_531pr_1 [])), [], [], [uV841], [], [uG1868, uG1249, (238, [uL640, uL106, uL65, uL65, uL65, uL65, uL65, uL65, uL81, uL217, uL198])])
/-- M.quarrel -/
def cx_601 : zCtx := (268, cx_601p, [cx_601q0], [uk2038, uk1869, uk1870, uk2030, uk2039, uk1871], 77827, 5, 108)
def cz_601_0i_0 (t : List (Int × Int)) : List (Int × Int) := ui0 :: (1, 1) :: (0, 1) :: ui51 :: (0, 1) :: ui31 :: (0, 6) :: (0, 6) :: t
def cz_601_0i_1 (t : List (Int × Int)) : List (Int × Int) := ui51 :: ui51 :: (0, 6) :: ui1156 :: ui1157 :: (1, 6) :: ui199 :: t
def cz_601_0 : zS := ((cz_601_0i_0 (cz_601_0i_1 [])), (cz_600_0r_0 (cz_600_0r_1 (cz_600_0r_2 []))), [uL2083, uL2223], [uV2, uV11, uV841, uV201, uV411, uV115], [], (cz_600_0f_0 (cz_600_0f_1 (cz_600_0f_2 []))), (cz_600_0g_0 (cz_600_0g_1 [])))
set_option maxRecDepth 1000000 in
theorem ck_601 : x_ok mLT1 [cx_497, cx_501, cx_531] mTS2 mTC2 mRUp cx_601 [(3, [0]), (12, [1]), (57, [2])] [(15, uN2224), (22, [1001060]), (47, [1001061]), (57, [1001062]), (60, [1001063]), (69, [1000012]), (75, uN2225), (81, [1001066]), (87, [1001067])] [(24, cz_601_0, ((-99999999792), [(1, 100000000000), (13, (-33))]))] (189, []) 77638 35 = true := by decide +kernel
theorem sn_601 {W : Bool} {X : List Int32} : y_Snd (mGw W) mLT1 (J2 W X) X cx_601 := y_ok J2_J mTS2_ok1 mTC2_ok1 mRUp_ok1 (List.forall_mem_cons.mpr ⟨sn_497, List.forall_mem_cons.mpr ⟨sn_501, List.forall_mem_cons.mpr ⟨sn_531, fun _ h => absurd h List.not_mem_nil⟩⟩⟩) ck_601
/-- M.greyest -/
def cx_602 : zCtx := (269, ([ui0, ui1063, (0, 1), (0, 6), (0, 6), ui51, ui51], [ur1299, ur1347, ur1878], [uL513], [], [uV2, uV11], [uF1995, uF1465, uF2018], [uG1997, uG604]), [([ui0, ui1063, (0, 1), (0, 6), (0, 6), ui51, ui51], [ur1299, ur1347, ur1878], [], [], [uV63], [], [uG604])], [], 16, 1, 22)
set_option maxRecDepth 1000000 in
theorem ck_602 : x_ok mLT1 [cx_497] mTS2 mTC2 mRUp cx_602 [(3, [0])] [] [] (7, []) 9 10 = true := by decide +kernel
theorem sn_602 {W : Bool} {X : List Int32} : y_Snd (mGw W) mLT1 (J2 W X) X cx_602 := y_ok J2_J mTS2_ok1 mTC2_ok1 mRUp_ok1 (List.forall_mem_cons.mpr ⟨sn_497, fun _ h => absurd h List.not_mem_nil⟩) ck_602
/-- M.greyest -/
def cx_603 : zCtx := (269, ([ui0, ui265, (0, 1), (0, 6), (0, 6), ui51, ui51], [ur1299, ur1347, ur1878], [uL513], [], [uV2, uV11], [uF1995, uF1465, uF2018], [uG1997, uG604]), [([ui0, ui265, (0, 1), (0, 6), (0, 6), ui51, ui51], [ur1299, ur1347, ur1878], [], [], [uV63], [], [uG604])], [], 16, 1, 22)
set_option maxRecDepth 1000000 in
theorem ck_603 : x_ok mLT1 [cx_497] mTS2 mTC2 mRUp cx_603 [(3, [0])] [] [] (7, []) 9 10 = true := by decide +kernel
theorem sn_603 {W : Bool} {X : List Int32} : y_Snd (mGw W) mLT1 (J2 W X) X cx_603 := y_ok J2_J mTS2_ok1 mTC2_ok1 mRUp_ok1 (List.forall_mem_cons.mpr ⟨sn_497, fun _ h => absurd h List.not_mem_nil⟩) ck_603
/-- M.greyest -/
def cx_604 : zCtx := (269, ([ui0, (0, 0), (0, 1), (0, 6), (0, 6), ui51, ui51], [ur1299, ur1347, ur1878], [uL513], [], [uV2, uV11], [uF1995, uF1465, uF2018], [uG1997, uG604]), [([ui0, (0, 0), (0, 1), (0, 6), (0, 6), ui51, ui51, ui51], [ur1299, ur1347, ur1878], [], [], [uV144], [], [uG604, uG2226])], [], 248, 1, 22)
def cz_604_0i_0 (t : List (Int × Int)) : List (Int × Int) := ui0 :: (0, 0) :: (0, 1) :: (0, 6) :: (0, 6) :: ui51 :: ui51 :: ui1156 :: t
def cz_604_0i_1 (t : List (Int × Int)) : List (Int × Int) := (0, 6) :: t
def cz_604_0 : zS := ((cz_604_0i_0 (cz_604_0i_1 [])), [ur1299, ur1347, ur1878], [uL513, uL133, uL2227], [uV2, uV11, uV144, uV146], [], [uF1995, uF1465, uF2018], [uG1997, uG604, uG2228])
set_option maxRecDepth 1000000 in
theorem ck_604 : x_ok mLT1 [cx_497] mTS2 mTC2 mRUp cx_604 [(3, [0])] [(13, [1001068]), (24, [1000853]), (65, uN2229), (68, uN2230), (70, [1001071]), (76, [1001074]), (105, [1001073])] [(16, cz_604_0, (229, [(1, (-100000000000)), (8, (-36))]))] (239, []) 9 38 = true := by decide +kernel
theorem sn_604 {W : Bool} {X : List Int32} : y_Snd (mGw W) mLT1 (J2 W X) X cx_604 := y_ok J2_J mTS2_ok1 mTC2_ok1 mRUp_ok1 (List.forall_mem_cons.mpr ⟨sn_497, fun _ h => absurd h List.not_mem_nil⟩) ck_604
/-- M.greyest -/
def cx_605 : zCtx := (269, ([ui0, (1, 1), (0, 1), (0, 6), (0, 6), ui51, ui51], [ur1299, ur1347, ur1878], [uL513], [], [uV2, uV11], [uF1995, uF1465, uF2018], [uG1997, uG604]), [([ui0, (1, 1), (0, 1), (0, 6), (0, 6), ui51, ui51, ui51, (0, 5)], [ur1299, ur1347, ur1878], [], [], [uV144], [], [uG604, (238, [uL634, uL65, uL65, uL65, uL65, uL65, uL65, uL65, uL100, uL133, uL65]), (238, [uL669, uL65, uL65, uL65, uL65, uL65, uL65, uL65, uL133, uL65, uL81])]), ([ui0, (1, 1), (0, 1), (0, 6), (0, 6), ui51, ui51, ui51], [ur1299, ur1347, ur1878], [((-1), [(7, (-1))])], [], [uV144], [], [uG604, uG2226])], [], 257, 1, 22)
def cz_605_0i_0 (t : List (Int × Int)) : List (Int × Int) := ui0 :: (1, 1) :: (0, 1) :: (0, 6) :: (0, 6) :: ui51 :: ui51 :: ui1156 :: t
def cz_605_0i_1 (t : List (Int × Int)) : List (Int × Int) := (0, 6) :: t
def cz_605_0 : zS := ((cz_605_0i_0 (cz_605_0i_1 [])), [ur1299, ur1347, ur1878], [uL513, uL133, uL2227], [uV2, uV11, uV144, uV146], [], [uF1995, uF1465, uF2018], [uG1997, uG604, uG2228])
set_option maxRecDepth 1000000 in
theorem ck_605 : x_ok mLT1 [cx_497] mTS2 mTC2 mRUp cx_605 [(3, [0])] [(13, [1001068]), (24, [1000853]), (65, uN2229), (68, uN2230), (70, [1001071]), (76, [1001074]), (88, [1000739]), (105, [1001073])] [(16, cz_605_0, ((-99999999762), [(1, 100000000000), (8, (-36))]))] (248, []) 9 38 = true := by decide +kernel
theorem sn_605 {W : Bool} {X : List Int32} : y_Snd (mGw W) mLT1 (J2 W X) X cx_605 := y_ok J2_J mTS2_ok1 mTC2_ok1 mRUp_ok1 (List.forall_mem_cons.mpr ⟨sn_497, fun _ h => absurd h List.not_mem_nil⟩) ck_605
/-- M.share -/
def cx_606 : zCtx := (270, ([ui0, ui51, (0, 1), ui51, (0, 1), (0, 6), (0, 6), ui51, ui51], [ur1299, ur1858, ur1347], [uL578, uL168], [], [uV2, uV11], [uF1995, uF2097, uF2098, uF1862, uF2100], [uG2193, uG470]), [([ui0, ui51, (0, 1), ui51, (0, 1), (0, 6), (0, 6), ui51, ui51], [ur1299, ur1858, ur1347], [uL168], [], [uV63], [], [uG470])], [], 26, 2, 43)
set_option maxRecDepth 1000000 in
theorem ck_606 : x_ok mLT1 [cx_498] mTS2 mTC2 mRUp cx_606 [(2, [0])] [] [] (6, []) 20 9 = true := by decide +kernel
theorem sn_606 {W : Bool} {X : List Int32} : y_Snd (mGw W) mLT1 (J2 W X) X cx_606 := y_ok J2_J mTS2_ok1 mTC2_ok1 mRUp_ok1 (List.forall_mem_cons.mpr ⟨sn_498, fun _ h => absurd h List.not_mem_nil⟩) ck_606
def cx_607q1i_0 (t : List (Int × Int)) : List (Int × Int) := ui0 :: (0, 5) :: (0, 1) :: ui51 :: (0, 1) :: (0, 6) :: (0, 6) :: ui51 :: t
def cx_607q1i_1 (t : List (Int × Int)) : List (Int × Int) := ui51 :: ui51 :: ui51 :: ui51 :: t
def cx_607q1g_0 (t : List zTg) : List zTg := uG1868 :: uG470 :: (238, [uL34, uL65, uL65, uL65, uL65, uL65, uL65, uL65, uL567, uL65, uL173]) :: (238, [uL67, uL65, uL65, uL65, uL65, uL65, uL65, uL65, uL65, uL80, uL198]) :: (107, [(0, [(10, 1000)]), uL198, uL166]) :: t
def cx_607q1 : zS := ((cx_607q1i_0 (cx_607q1i_1 [])), [ur1299, ur1858, ur1347], [((-1), [(10, 1)]), uL9, uL579], [], [uV779], [], (cx_607q1g_0 []))
/-- M.share -/
def cx_607 : zCtx := (270, ([ui0, (0, 5), (0, 1), ui51, (0, 1), (0, 6), (0, 6), ui51, ui51], [ur1299, ur1858, ur1347], [uL578, uL9, uL579], [], [uV2, uV11], [uF1995, uF2097, uF2098, uF1862, uF2100], [uG2193, uG470]), [([ui0, (0, 5), (0, 1), ui51, (0, 1), (0, 6), (0, 6), ui51, ui51, ui51], [ur1299, ur1858, ur1347], [(0, [(9, (-1))]), uL9, uL579], [], [uV64], [], [uG1868, uG470, (238, [uL34, uL65, uL65, uL65, uL65, uL65, uL65, uL65, uL567, uL65, uL166])]), cx_607q1], [uk1869, uk1870, uk1871], 468, 2, 43)
set_option maxRecDepth 1000000 in
theorem ck_607 : x_ok mLT1 [cx_498, cx_501, cx_507, cx_549] mTS2 mTC2 mRUp cx_607 [(2, [0]), (11, [1]), (16, [2]), (36, [3])] [(14, [1000818]), (22, [64, 1000819]), (34, [1000819]), (39, [1000915, 1001059, 1000023]), (43, [1000819])] [] (23, []) 445 26 = true := by decide +kernel
theorem sn_607 {W : Bool} {X : List Int32} : y_Snd (mGw W) mLT1 (J2 W X) X cx_607 := y_ok J2_J mTS2_ok1 mTC2_ok1 mRUp_ok1 (List.forall_mem_cons.mpr ⟨sn_498, List.forall_mem_cons.mpr ⟨sn_501, List.forall_mem_cons.mpr ⟨sn_507, List.forall_mem_cons.mpr ⟨sn_549, fun _ h => absurd h List.not_mem_nil⟩⟩⟩⟩) ck_607
/-- M.share -/
def cx_608 : zCtx := (270, ([ui0, ui51, (0, 1), ui51, (0, 1), (0, 6), (0, 6), ui51, ui51], [ur1299, ur1858, ur1347], [uL578, uL570], [], [uV2, uV11], [uF1995, uF2097, uF2098, uF1862, uF2100], [uG2193, uG470]), [([ui0, ui51, (0, 1), ui51, (0, 1), (0, 6), (0, 6), ui51, ui51], [ur1299, ur1858, ur1347], [uL570], [], [uV63], [], [uG470])], [], 26, 2, 43)
set_option maxRecDepth 1000000 in
theorem ck_608 : x_ok mLT1 [cx_498] mTS2 mTC2 mRUp cx_608 [(2, [0])] [] [] (6, []) 20 9 = true := by decide +kernel
theorem sn_608 {W : Bool} {X : List Int32} : y_Snd (mGw W) mLT1 (J2 W X) X cx_608 := y_ok J2_J mTS2_ok1 mTC2_ok1 mRUp_ok1 (List.forall_mem_cons.mpr ⟨sn_498, fun _ h => absurd h List.not_mem_nil⟩) ck_608
/-- M.spareLeast -/
def cx_609 : zCtx := (263, ([ui0, (0, 1), ui31], [ur1299, ur1345, ur1346, ur1356, ur1357, ur1358, ur1359, ur1360, ur1354, ur1355], [], [], [uV2], [uF1859, uF1361, uF1362, uF2002, uF2003, uF2004, uF2005, uF2006, uF1597, uF1598], [uG2183, uG2202]), [([ui0, (0, 1), ui31, ui51], [ur1299, ur1345, ur1346, ur1356, ur1357, ur1358, ur1359, ur1360, ur1354, ur1355], [], [], [uV60], [], [])], [uk2038, uk2030, uk2039], 78132, 6, 131)
def cz_609_0f_0 (t : List zFa) : List zFa := uF1859 :: uF1361 :: uF1362 :: uF2002 :: uF2003 :: uF2004 :: uF2005 :: uF2006 :: t
def cz_609_0f_1 (t : List zFa) : List zFa := uF1597 :: uF1598 :: t
def cz_609_0 : zS := ([ui0, (0, 1), ui31, ui51, ui427], (cx_589pr_0 (cx_589pr_1 [])), [], [uV2, uV60, uV99], [], (cz_609_0f_0 (cz_609_0f_1 [])), [uG2183, uG2202])
set_option maxRecDepth 1000000 in
theorem ck_609 : x_ok mLT1 [cx_591] mTS2 mTC2 mRUp cx_609 [(21, [0]), (30, [0])] [] [(6, cz_609_0, (450, [(4, (-20))]))] (455, []) 77677 22 = true := by decide +kernel
theorem sn_609 {W : Bool} {X : List Int32} : y_Snd (mGw W) mLT1 (J2 W X) X cx_609 := y_ok J2_J mTS2_ok1 mTC2_ok1 mRUp_ok1 (List.forall_mem_cons.mpr ⟨sn_591, fun _ h => absurd h List.not_mem_nil⟩) ck_609
/-- M.mostOf -/
def cx_610 : zCtx := (262, ([ui0, (0, 1), ui31], [ur1299, ur1345, ur1346, ur1356, ur1357, ur1358, ur1359, ur1360, ur1354, ur1355], [], [], [uV2], [uF1859, uF1361, uF1362, uF2002, uF2003, uF2004, uF2005, uF2006, uF1597, uF1598], [uG2183, uG2202]), [([ui0, (0, 1), ui31], [ur1299, ur1345, ur1346, ur1356, ur1357, ur1358, ur1359, ur1360, ur1354, ur1355], [], [], [uV569], [], []), ([ui0, (0, 1), ui31], [ur1299, ur1345, ur1346, ur1356, ur1357, ur1358, ur1359, ur1360, ur1354, ur1355], [], [], [(0, 0, 999, [])], [], []), ([ui0, (0, 1), ui31, ui586], [ur1299, ur1345, ur1346, ur1356, ur1357, ur1358, ur1359, ur1360, ur1354, ur1355], [], [], [uV60], [], [])], [uk2038, uk2030, uk2039], 78143, 7, 153)
set_option maxRecDepth 1000000 in
theorem ck_610 : x_ok mLT1 [cx_609] mTS2 mTC2 mRUp cx_610 [(1, [0])] [] [] (11, []) 78132 14 = true := by decide +kernel
theorem sn_610 {W : Bool} {X : List Int32} : y_Snd (mGw W) mLT1 (J2 W X) X cx_610 := y_ok J2_J mTS2_ok1 mTC2_ok1 mRUp_ok1 (List.forall_mem_cons.mpr ⟨sn_609, fun _ h => absurd h List.not_mem_nil⟩) ck_610
def cx_611p : zS := ([ui0, (0, 1), ui51, (0, 1), ui31], (cx_589pr_0 (cx_589pr_1 [])), [], [], [uV2], (cx_596pf_0 (cx_596pf_1 [])), [uG2183, uG2208])
/-- M.swap -/
def cx_611 : zCtx := (271, cx_611p, [([ui0, (0, 1), ui51, (0, 1), ui31, ui1155, ui199], [ur1299, ur1345, ur1346, ur1356, ur1357, ur1358, ur1359, ur1360, ur1354, ur1355], [], [], [uV77], [uF1865, uF2222], [uG1868])], [uk2038, uk1869, uk1870, uk2030, uk2039, uk1871], 79721, 8, 174)
def cz_611_0i_0 (t : List (Int × Int)) : List (Int × Int) := ui0 :: (0, 1) :: ui51 :: (0, 1) :: ui31 :: ui1157 :: ui1155 :: (0, 6) :: t
def cz_611_0i_1 (t : List (Int × Int)) : List (Int × Int) := ui199 :: t
def cz_611_0r_0 (t : List (Nat × Bool)) : List (Nat × Bool) := ur1299 :: ur1345 :: ur1346 :: ur1356 :: ur1357 :: ur1358 :: ur1359 :: ur1360 :: t
def cz_611_0r_1 (t : List (Nat × Bool)) : List (Nat × Bool) := ur1354 :: ur1355 :: ur1353 :: ur1878 :: ur1858 :: t
def cz_611_0f_0 (t : List zFa) : List zFa := uF1865 :: uF2231 :: uF2232 :: uF2233 :: uF2234 :: uF1859 :: uF1361 :: uF1362 :: t
def cz_611_0f_1 (t : List zFa) : List zFa := uF2002 :: uF2003 :: uF2004 :: uF2005 :: uF2006 :: uF1597 :: uF1598 :: t
def cz_611_0 : zS := ((cz_611_0i_0 (cz_611_0i_1 [])), (cz_611_0r_0 (cz_611_0r_1 [])), [], [uV2, uV77, uV110, uV144, uV115], [], (cz_611_0f_0 (cz_611_0f_1 [])), [uG1868, uG2183, uG2208])
def cz_611_1i_0 (t : List (Int × Int)) : List (Int × Int) := ui0 :: (0, 1) :: ui51 :: (0, 1) :: ui31 :: ui1157 :: ui1155 :: (0, 5) :: t
def cz_611_1i_1 (t : List (Int × Int)) : List (Int × Int) := (1, 6) :: ui199 :: t
def cz_611_1f_0 (t : List zFa) : List zFa := uF1865 :: uF2235 :: uF2232 :: uF2233 :: uF2234 :: uF1859 :: uF1361 :: uF1362 :: t
def cz_611_1f_1 (t : List zFa) : List zFa := uF2002 :: uF2003 :: uF2004 :: uF2005 :: uF2006 :: uF1597 :: uF1598 :: t
def cz_611_1 : zS := ((cz_611_1i_0 (cz_611_1i_1 [])), (cz_611_0r_0 (cz_611_0r_1 [])), [], [uV2, uV77, uV110, uV144, uV146], [], (cz_611_1f_0 (cz_611_1f_1 [])), [uG1868, uG2183, uG2208])
set_option maxRecDepth 1000000 in
theorem ck_611 : x_ok mLT1 [cx_501, cx_610] mTS2 mTC2 mRUp cx_611 [(1, [0]), (5, [1]), (43, [0]), (85, [1]), (104, [1])] [] [(14, cz_611_0, (1568, [(7, (-260))])), (30, cz_611_1, (1605, [(7, (-212)), (8, (-48))]))] (1578, []) 78143 50 = true := by decide +kernel
theorem sn_611 {W : Bool} {X : List Int32} : y_Snd (mGw W) mLT1 (J2 W X) X cx_611 := y_ok J2_J mTS2_ok1 mTC2_ok1 mRUp_ok1 (List.forall_mem_cons.mpr ⟨sn_501, List.forall_mem_cons.mpr ⟨sn_610, fun _ h => absurd h List.not_mem_nil⟩⟩) ck_611
end
