noncomputable section
/-! ===== readings, by program, checked by the kernel ===== -/
/-- M.givesBits -/
def cx_691 : zCtx := (289, ([ui0, ui51, ui51, ui51, ui51, ui51, ui51, ui51], [ur1299, ur2281], [], [], [uV2], [uF2288], [uG2289]), [([ui0, ui51, ui51, ui51, ui51, ui51, ui51, ui51, ui845], [ur1299, ur2281], [], [], [uV146], [], [(238, [uL1118, uL9, uL69, uL23, uL100, uL106, uL80, uL81, uL255, uL65, uL133])])], [], 112, 0, 0)
def cz_691_0i_0 (t : List (Int × Int)) : List (Int × Int) := ui0 :: ui51 :: ui51 :: ui51 :: ui51 :: ui51 :: ui51 :: ui51 :: t
def cz_691_0i_1 (t : List (Int × Int)) : List (Int × Int) := ui845 :: (0, 6) :: t
def cz_691_0 : zS := ((cz_691_0i_0 (cz_691_0i_1 [])), [ur1299, ur2281], [uL166, uL2290, uL133, (63, [(8, (-1))])], [uV2, uV146, uV779], [], [uF2288], [uG2289, (238, [uL1118, uL9, uL69, uL23, uL100, uL106, uL80, uL81, uL166, uL65, uL133])])
set_option maxRecDepth 1000000 in
theorem ck_691 : x_ok mLT1 [] mTS2 mTC2 mRUp cx_691 [] [(2, [1001044]), (22, [1000789]), (23, [1000667]), (25, [1001045, 1001046])] [(4, cz_691_0, (107, [(9, (-17))]))] (112, []) 0 19 = true := by decide +kernel
theorem sn_691 {W : Bool} {X : List Int32} : y_Snd (mGw W) mLT1 (J2 W X) X cx_691 := y_ok J2_J mTS2_ok1 mTC2_ok1 mRUp_ok1 (fun _ h => absurd h List.not_mem_nil) ck_691
/-- M.isEnough -/
def cx_692 : zCtx := (292, ([ui0, ui845, (0, 1), ui51, ui51, ui51, ui51, ui51, ui51, ui51, ui199], [ur1299, ur2281, ur1350], [], [], [uV2, uV11], [uF1995, uF2288, uF2291], [uG2292, uG2151]), [([ui0, ui845, (0, 1), ui51, ui51, ui51, ui51, ui51, ui51, ui51, ui199, ui2293], [ur1299, ur2281, ur1350], [(0, [(10, (-1)), (11, 1)])], [], [uV66], [], [uG2294]), ([ui0, ui845, (0, 1), ui51, ui51, ui51, ui51, ui51, ui51, ui51, ui199, ui2293], [ur1299, ur2281, ur1350], [uL1146], [], [uV64], [], [uG2294])], [], 138, 0, 0)
def cz_692_0i_0 (t : List (Int × Int)) : List (Int × Int) := ui0 :: ui845 :: (0, 1) :: ui51 :: ui51 :: ui51 :: ui51 :: ui51 :: t
def cz_692_0i_1 (t : List (Int × Int)) : List (Int × Int) := ui51 :: ui51 :: ui199 :: ui1187 :: (0, 6) :: t
def cz_692_0 : zS := ((cz_692_0i_0 (cz_692_0i_1 [])), [ur1299, ur2281, ur1350], [uL217, (6, [(12, (-1))]), uL198, (0, [(11, (-1)), (12, 9999)])], [uV2, uV11, uV841, uV201], [], [uF1995, uF2288, uF2291], [uG2292, uG2151, (238, [uL1133, uL23, uL100, uL106, uL80, uL81, uL133, uL166, uL9, uL217, uL198])])
set_option maxRecDepth 1000000 in
theorem ck_692 : x_ok mLT1 [] mTS2 mTC2 mRUp cx_692 [] [(2, [1001048]), (12, [1000424]), (14, [1000668]), (15, [1001049]), (28, [1001050, 1001051, 1001052, 1001053]), (47, [1001054]), (51, [1001055])] [(4, cz_692_0, (133, [(12, (-20))]))] (138, []) 0 22 = true := by decide +kernel
theorem sn_692 {W : Bool} {X : List Int32} : y_Snd (mGw W) mLT1 (J2 W X) X cx_692 := y_ok J2_J mTS2_ok1 mTC2_ok1 mRUp_ok1 (fun _ h => absurd h List.not_mem_nil) ck_692
def cx_693pi_0 (t : List (Int × Int)) : List (Int × Int) := ui0 :: (0, 1) :: ui51 :: (0, 1) :: ui31 :: (0, 6) :: (0, 6) :: ui51 :: t
def cx_693pi_1 (t : List (Int × Int)) : List (Int × Int) := ui51 :: ui199 :: (0, 6) :: t
def cx_693pr_0 (t : List (Nat × Bool)) : List (Nat × Bool) := ur1299 :: ur1345 :: ur1346 :: ur1356 :: ur1357 :: ur1358 :: ur1359 :: ur1360 :: t
def cx_693pr_1 (t : List (Nat × Bool)) : List (Nat × Bool) := ur1354 :: ur1355 :: ur1347 :: ur1462 :: ur1463 :: ur1349 :: ur1858 :: ur1350 :: t
def cx_693pr_2 (t : List (Nat × Bool)) : List (Nat × Bool) := ur2281 :: t
def cx_693pf_0 (t : List zFa) : List zFa := uF1859 :: uF1860 :: uF1861 :: uF1361 :: uF1362 :: uF2002 :: uF2003 :: uF2004 :: t
def cx_693pf_1 (t : List zFa) : List zFa := uF2005 :: uF2006 :: uF1597 :: uF1598 :: uF2007 :: uF2008 :: uF2009 :: uF1895 :: t
def cx_693pf_2 (t : List zFa) : List zFa := uF2088 :: uF2144 :: uF2295 :: uF2285 :: t
def cx_693pg_0 (t : List zTg) : List zTg := uG2183 :: uG2208 :: uG2135 :: uG2209 :: uG2205 :: uG470 :: uG2296 :: t
def cx_693p : zS := ((cx_693pi_0 (cx_693pi_1 [])), (cx_693pr_0 (cx_693pr_1 (cx_693pr_2 []))), [uL578], [], [uV2], (cx_693pf_0 (cx_693pf_1 (cx_693pf_2 []))), (cx_693pg_0 []))
def cx_693q0i_0 (t : List (Int × Int)) : List (Int × Int) := ui0 :: (0, 1) :: ui51 :: (0, 1) :: ui31 :: (0, 6) :: (0, 6) :: ui51 :: t
def cx_693q0i_1 (t : List (Int × Int)) : List (Int × Int) := ui51 :: ui199 :: (0, 6) :: ui51 :: t
def cx_693q0 : zS := ((cx_693q0i_0 (cx_693q0i_1 [])), (cx_693pr_0 (cx_693pr_1 (cx_693pr_2 []))), [], [], [uV841], [], [uG1868, uG470, (238, [uL1145, uL100, uL65, uL65, uL65, uL65, uL65, uL65, uL166, uL106, uL198])])
/-- M.pivots -/
def cx_693 : zCtx := (295, cx_693p, [cx_693q0], kc_87, 79973, 6, 129)
def cz_693_0i_0 (t : List (Int × Int)) : List (Int × Int) := ui0 :: (0, 1) :: ui51 :: (0, 1) :: ui31 :: (0, 6) :: (0, 6) :: ui51 :: t
def cz_693_0i_1 (t : List (Int × Int)) : List (Int × Int) := ui51 :: ui199 :: (0, 6) :: ui51 :: (0, 6) :: ui199 :: t
def cz_693_0r_0 (t : List (Nat × Bool)) : List (Nat × Bool) := ur1299 :: ur1345 :: ur1346 :: ur1356 :: ur1357 :: ur1358 :: ur1359 :: ur1360 :: t
def cz_693_0r_1 (t : List (Nat × Bool)) : List (Nat × Bool) := ur1354 :: ur1355 :: ur1347 :: ur1462 :: ur1463 :: ur1349 :: ur1858 :: ur1350 :: t
def cz_693_0r_2 (t : List (Nat × Bool)) : List (Nat × Bool) := ur2281 :: ur2282 :: ur1353 :: ur1878 :: t
def cz_693_0f_0 (t : List zFa) : List zFa := (0, (false, 56, 0, []), 2, 17, 0, []) :: uF1865 :: (0, (false, 49, 0, []), 0, 0, 0, [(13, 1)]) :: (0, (false, 30, 0, []), 2, 18, 0, []) :: (0, (false, 47, 0, []), 2, 19, 0, []) :: uF1859 :: uF1361 :: uF1362 :: t
def cz_693_0f_1 (t : List zFa) : List zFa := uF2002 :: uF2003 :: uF2004 :: uF2005 :: uF2006 :: uF1597 :: uF1598 :: uF2007 :: t
def cz_693_0f_2 (t : List zFa) : List zFa := uF2008 :: uF2009 :: uF1895 :: uF2088 :: uF2144 :: uF2295 :: t
def cz_693_0g_0 (t : List zTg) : List zTg := uG1868 :: uG2183 :: uG2135 :: uG2205 :: uG2296 :: uG2208 :: uG2209 :: uG470 :: t
def cz_693_0g_1 (t : List zTg) : List zTg := (278, [uL100, uL65, uL65, uL65, uL65, uL65, uL65, uL255]) :: (238, [uL1145, uL100, uL65, uL65, uL65, uL65, uL65, uL65, uL166, uL217, uL198]) :: t
def cz_693_0 : zS := ((cz_693_0i_0 (cz_693_0i_1 [])), (cz_693_0r_0 (cz_693_0r_1 (cz_693_0r_2 []))), [uL578, uL217, (0, [(5, 1), (12, (-1))])], [uV2, uV841, uV201], [], (cz_693_0f_0 (cz_693_0f_1 (cz_693_0f_2 []))), (cz_693_0g_0 (cz_693_0g_1 [])))
set_option maxRecDepth 1000000 in
theorem ck_693 : x_ok mLT1 [cx_501, cx_690, cx_691, cx_692] mTS2 mTC2 mRUp cx_693 [(1, [0]), (5, [1]), (27, [2]), (36, [3])] [(4, uN2093), (8, [1001042]), (25, [1001043]), (32, [1000789]), (34, [1000717]), (35, [1000668]), (36, [1001047]), (46, [1000667]), (48, [1001056, 1001057]), (54, [1001058])] [(12, cz_693_0, (171, [(12, (-27))]))] (180, []) 79793 29 = true := by decide +kernel
theorem sn_693 {W : Bool} {X : List Int32} : y_Snd (mGw W) mLT1 (J2 W X) X cx_693 := y_ok J2_J mTS2_ok1 mTC2_ok1 mRUp_ok1 (List.forall_mem_cons.mpr ⟨sn_501, List.forall_mem_cons.mpr ⟨sn_690, List.forall_mem_cons.mpr ⟨sn_691, List.forall_mem_cons.mpr ⟨sn_692, fun _ h => absurd h List.not_mem_nil⟩⟩⟩⟩) ck_693
def cx_694pf_0 (t : List zFa) : List zFa := uF2082 :: uF1866 :: uF2297 :: uF1361 :: uF1362 :: uF2002 :: uF2003 :: uF2004 :: t
def cx_694pf_1 (t : List zFa) : List zFa := uF2005 :: uF2006 :: uF1597 :: uF1598 :: t
def cx_694p : zS := ([ui0, (0, 5), ui844, ui844, (0, 1), ui51, (0, 1), ui31], (cx_589pr_0 (cx_589pr_1 [])), [], [], [uV2, uV11, uV12, uV60], (cx_694pf_0 (cx_694pf_1 [])), [uG2086, uG2298])
/-- M.harvestOf -/
def cx_694 : zCtx := (297, cx_694p, [([ui0, (0, 5), ui844, ui844, (0, 1), ui51, (0, 1), ui31, ui51, ui199], [ur1299, ur1345, ur1346, ur1356, ur1357, ur1358, ur1359, ur1360, ur1354, ur1355], [], [], [uV146], [uF2219, uF2235], [])], kc_82, 79798, 5, 105)
def cz_694_0i_0 (t : List (Int × Int)) : List (Int × Int) := ui0 :: (0, 5) :: ui844 :: ui844 :: (0, 1) :: ui51 :: (0, 1) :: ui31 :: t
def cz_694_0i_1 (t : List (Int × Int)) : List (Int × Int) := ui51 :: ui1073 :: ui199 :: t
def cz_694_0f_0 (t : List zFa) : List zFa := uF2219 :: uF2270 :: uF2082 :: uF1361 :: uF1362 :: uF2002 :: uF2003 :: uF2004 :: t
def cz_694_0f_1 (t : List zFa) : List zFa := uF2005 :: uF2006 :: uF1597 :: uF1598 :: t
def cz_694_0 : zS := ((cz_694_0i_0 (cz_694_0i_1 [])), (cx_589pr_0 (cx_589pr_1 [])), [], [uV2, uV11, uV12, uV60, uV146, uV779], [], (cz_694_0f_0 (cz_694_0f_1 [])), [uG2086, uG2298])
set_option maxRecDepth 1000000 in
theorem ck_694 : x_ok mLT1 [cx_583, cx_596] mTS2 mTC2 mRUp cx_694 [(1, [0]), (17, [1])] [] [(10, cz_694_0, (1706, [(9, (-27))]))] (1686, []) 78112 29 = true := by decide +kernel
theorem sn_694 {W : Bool} {X : List Int32} : y_Snd (mGw W) mLT1 (J2 W X) X cx_694 := y_ok J2_J mTS2_ok1 mTC2_ok1 mRUp_ok1 (List.forall_mem_cons.mpr ⟨sn_583, List.forall_mem_cons.mpr ⟨sn_596, fun _ h => absurd h List.not_mem_nil⟩⟩) ck_694
def cx_695p : zS := ([ui0, ui51, ui51, ui51, (0, 1), ui51, (0, 1), ui31], (cx_589pr_0 (cx_589pr_1 [])), [], [], [uV2, uV11, uV12, uV60], (cx_694pf_0 (cx_694pf_1 [])), [uG2086, uG2298])
/-- M.harvest -/
def cx_695 : zCtx := (296, cx_695p, [([ui0, (0, 5), ui1175, ui51, (0, 1), ui51, (0, 1), ui31], [ur1299, ur1345, ur1346, ur1356, ur1357, ur1358, ur1359, ur1360, ur1354, ur1355], [], [], [uV63], [uF1866, uF2297], []), ([ui0, (0, 5), ui839, ui51, (0, 1), ui51, (0, 1), ui31], [ur1299, ur1345, ur1346, ur1356, ur1357, ur1358, ur1359, ur1360, ur1354, ur1355], [], [], [uV63], [uF1866, uF2297], []), ([ui0, (0, 5), ui844, ui265, (0, 1), ui51, (0, 1), ui31], [ur1299, ur1345, ur1346, ur1356, ur1357, ur1358, ur1359, ur1360, ur1354, ur1355], [], [], [uV63], [uF1866, uF2297], []), ([ui0, (0, 5), ui844, ui1063, (0, 1), ui51, (0, 1), ui31], [ur1299, ur1345, ur1346, ur1356, ur1357, ur1358, ur1359, ur1360, ur1354, ur1355], [], [], [uV63], [uF1866, uF2297], []), ([ui0, ui512, ui51, ui51, (0, 1), ui51, (0, 1), ui31], [ur1299, ur1345, ur1346, ur1356, ur1357, ur1358, ur1359, ur1360, ur1354, ur1355], [], [], [uV63], [uF1866, uF2297], []), ([ui0, ui265, ui51, ui51, (0, 1), ui51, (0, 1), ui31], [ur1299, ur1345, ur1346, ur1356, ur1357, ur1358, ur1359, ur1360, ur1354, ur1355], [], [], [uV63], [uF1866, uF2297], []), ([ui0, (0, 5), ui844, (0, 0), (0, 1), ui51, (0, 1), ui31, ui845, ui51, (0, 1)], [ur1299, ur1345, ur1346, ur1356, ur1357, ur1358, ur1359, ur1360, ur1354, ur1355], [], [], [uV146], [uF2235, uF2299], []), ([ui0, (0, 5), ui844, (1, 1), (0, 1), ui51, (0, 1), ui31, ui2271, ui51, (0, 1)], [ur1299, ur1345, ur1346, ur1356, ur1357, ur1358, ur1359, ur1360, ur1354, ur1355], [], [], [uV146], [uF2235, uF2299], [])], kc_82, 81005, 6, 130)
def cz_695_0i_0 (t : List (Int × Int)) : List (Int × Int) := ui0 :: (0, 5) :: ui844 :: (0, 1) :: (0, 1) :: ui51 :: (0, 1) :: ui31 :: t
def cz_695_0i_1 (t : List (Int × Int)) : List (Int × Int) := ui845 :: ui2271 :: ui1073 :: ui51 :: (0, 1) :: t
def cz_695_0f_0 (t : List zFa) : List zFa := uF2082 :: uF2274 :: uF2300 :: uF1361 :: uF1362 :: uF2002 :: uF2003 :: uF2004 :: t
def cz_695_0f_1 (t : List zFa) : List zFa := uF2005 :: uF2006 :: uF1597 :: uF1598 :: t
def cz_695_0 : zS := ((cz_695_0i_0 (cz_695_0i_1 [])), (cx_589pr_0 (cx_589pr_1 [])), [], [uV2, uV11, uV12, uV60, uV146, uV779, uV826, uV115], [], (cz_695_0f_0 (cz_695_0f_1 [])), [uG2086, uG2298])
set_option maxRecDepth 1000000 in
theorem ck_695 : x_ok mLT1 [cx_612, cx_497, cx_694] mTS2 mTC2 mRUp cx_695 [(2, [0]), (12, [1]), (21, [1]), (49, [2])] [] [(38, cz_695_0, (1205, [(10, (-19))]))] (1207, []) 79798 23 = true := by decide +kernel
theorem sn_695 {W : Bool} {X : List Int32} : y_Snd (mGw W) mLT1 (J2 W X) X cx_695 := y_ok J2_J mTS2_ok1 mTC2_ok1 mRUp_ok1 (List.forall_mem_cons.mpr ⟨sn_612, List.forall_mem_cons.mpr ⟨sn_497, List.forall_mem_cons.mpr ⟨sn_694, fun _ h => absurd h List.not_mem_nil⟩⟩⟩) ck_695
def cx_696p : zS := ([ui0, ui1087, (0, 1), ui2220, (0, 0), ui31], (cx_589pr_0 (cx_589pr_1 [])), [], [], [uV2, uV11], (cx_597pf_0 (cx_597pf_1 [])), [uG2042, uG2210])
/-- M.goes -/
def cx_696 : zCtx := (255, cx_696p, [([ui0, ui1087, (0, 1), ui2220, (0, 0), ui31], [ur1299, ur1345, ur1346, ur1356, ur1357, ur1358, ur1359, ur1360, ur1354, ur1355], [], [], [], [], [])], [uk2038, uk2030, uk2039, uk1871, uk2188, uk2189], 78623, 5, 105)
def cz_696_0 : zS := ([ui0, ui1087, (0, 1), ui2220, (0, 0), ui31, ui845], (cx_589pr_0 (cx_589pr_1 [])), [], [uV2, uV11, uV110], [], (cx_597pf_0 (cx_597pf_1 [])), [uG2042, uG2210])
set_option maxRecDepth 1000000 in
theorem ck_696 : x_ok mLT1 [cx_596] mTS2 mTC2 mRUp cx_696 [(8, [0])] [] [(2, cz_696_0, (508, [(4, (-100000000000)), (6, (-8))]))] (511, []) 78112 10 = true := by decide +kernel
theorem sn_696 {W : Bool} {X : List Int32} : y_Snd (mGw W) mLT1 (J2 W X) X cx_696 := y_ok J2_J mTS2_ok1 mTC2_ok1 mRUp_ok1 (List.forall_mem_cons.mpr ⟨sn_596, fun _ h => absurd h List.not_mem_nil⟩) ck_696
/-- M.then -/
def cx_697 : zCtx := (298, cx_695p, [([ui0, (0, 5), ui1087, ui265, (0, 1), ui51, (0, 1), ui31], [ur1299, ur1345, ur1346, ur1356, ur1357, ur1358, ur1359, ur1360, ur1354, ur1355], [], [], [uV63], [uF1866, uF2297], []), ([ui0, (0, 5), ui1087, ui1063, (0, 1), ui51, (0, 1), ui31], [ur1299, ur1345, ur1346, ur1356, ur1357, ur1358, ur1359, ur1360, ur1354, ur1355], [], [], [uV63], [uF1866, uF2297], []), ([ui0, (0, 5), ui1087, (0, 0), (0, 1), ui51, (0, 1), ui31, ui199, ui199], [ur1299, ur1345, ur1346, ur1356, ur1357, ur1358, ur1359, ur1360, ur1354, ur1355], [], [], [uV146], [uF1865, uF2235], []), ([ui0, (0, 5), ui1087, (1, 1), (0, 1), ui51, (0, 1), ui31, ui199, ui199], [ur1299, ur1345, ur1346, ur1356, ur1357, ur1358, ur1359, ur1360, ur1354, ur1355], [], [], [uV146], [uF1865, uF2235], []), ([ui0, (0, 5), ui839, ui51, (0, 1), ui51, (0, 1), ui31], [ur1299, ur1345, ur1346, ur1356, ur1357, ur1358, ur1359, ur1360, ur1354, ur1355], [], [], [uV63], [uF1866, uF2297], []), ([ui0, (0, 5), ui265, ui51, (0, 1), ui51, (0, 1), ui31], [ur1299, ur1345, ur1346, ur1356, ur1357, ur1358, ur1359, ur1360, ur1354, ur1355], [], [], [uV63], [uF1866, uF2297], []), ([ui0, ui512, ui51, ui51, (0, 1), ui51, (0, 1), ui31], [ur1299, ur1345, ur1346, ur1356, ur1357, ur1358, ur1359, ur1360, ur1354, ur1355], [], [], [uV63], [uF1866, uF2297], []), ([ui0, ui265, ui51, ui51, (0, 1), ui51, (0, 1), ui31], [ur1299, ur1345, ur1346, ur1356, ur1357, ur1358, ur1359, ur1360, ur1354, ur1355], [], [], [uV63], [uF1866, uF2297], [])], kc_82, 78649, 6, 127)
set_option maxRecDepth 1000000 in
theorem ck_697 : x_ok mLT1 [cx_612, cx_559, cx_497, cx_501, cx_696] mTS2 mTC2 mRUp cx_697 [(2, [0]), (9, [1]), (18, [2]), (27, [3]), (32, [4])] [] [] (26, []) 78623 29 = true := by decide +kernel
theorem sn_697 {W : Bool} {X : List Int32} : y_Snd (mGw W) mLT1 (J2 W X) X cx_697 := y_ok J2_J mTS2_ok1 mTC2_ok1 mRUp_ok1 (List.forall_mem_cons.mpr ⟨sn_612, List.forall_mem_cons.mpr ⟨sn_559, List.forall_mem_cons.mpr ⟨sn_497, List.forall_mem_cons.mpr ⟨sn_501, List.forall_mem_cons.mpr ⟨sn_696, fun _ h => absurd h List.not_mem_nil⟩⟩⟩⟩⟩) ck_697
/-- M.isMark -/
def cx_698 : zCtx := (300, ([ui0, ui51], [], [], [], [uV11], [], []), [([ui0, ui265], [], [], [], [uV64], [], []), ([ui0, ui1159], [], [], [], [uV64], [], []), ([ui0, ui526], [], [], [], [uV66], [], [])], [], 14, 1, 22)
set_option maxRecDepth 1000000 in
theorem ck_698 : x_ok mLT1 [cx_497] mTS2 mTC2 mRUp cx_698 [(4, [0])] [] [] (5, []) 9 8 = true := by decide +kernel
theorem sn_698 {W : Bool} {X : List Int32} : y_Snd (mGw W) mLT1 (J2 W X) X cx_698 := y_ok J2_J mTS2_ok1 mTC2_ok1 mRUp_ok1 (List.forall_mem_cons.mpr ⟨sn_497, fun _ h => absurd h List.not_mem_nil⟩) ck_698
def cx_699pi_0 (t : List (Int × Int)) : List (Int × Int) := ui0 :: ui51 :: ui51 :: ui51 :: ui51 :: (0, 1) :: ui51 :: (0, 1) :: t
def cx_699pi_1 (t : List (Int × Int)) : List (Int × Int) := ui31 :: t
def cx_699pf_0 (t : List zFa) : List zFa := uF2301 :: uF2222 :: uF2302 :: uF1361 :: uF1362 :: uF2002 :: uF2003 :: uF2004 :: t
def cx_699pf_1 (t : List zFa) : List zFa := uF2005 :: uF2006 :: uF1597 :: uF1598 :: t
def cx_699p : zS := ((cx_699pi_0 (cx_699pi_1 [])), (cx_589pr_0 (cx_589pr_1 [])), [], [], [uV2, uV11, uV12, uV60, uV99], (cx_699pf_0 (cx_699pf_1 [])), [uG2303, uG2304])
/-- M.year -/
def cx_699 : zCtx := (299, cx_699p, [([ui0, ui51, ui51, ui51, ui51, (0, 1), ui51, (0, 1), ui31], [ur1299, ur1345, ur1346, ur1356, ur1357, ur1358, ur1359, ur1360, ur1354, ur1355], [], [], [uV63], [uF2222, uF2302], []), ([ui0, (0, 5), ui526, ui1087, ui1160, (0, 1), ui51, (0, 1), ui31, ui51, ui51, (0, 1)], [ur1299, ur1345, ur1346, ur1356, ur1357, ur1358, ur1359, ur1360, ur1354, ur1355], [], [], [uV779], [uF2270, (0, (false, 50, 0, []), 0, 0, 0, [(11, 1)])], [])], kc_82, 79176, 6, 127)
def cz_699_0i_0 (t : List (Int × Int)) : List (Int × Int) := ui0 :: (0, 5) :: ui526 :: ui1087 :: ui1160 :: (0, 1) :: ui51 :: (0, 1) :: t
def cz_699_0i_1 (t : List (Int × Int)) : List (Int × Int) := ui31 :: ui51 :: ui427 :: ui51 :: (0, 1) :: t
def cz_699_0f_0 (t : List zFa) : List zFa := uF2301 :: uF2274 :: uF2300 :: uF1361 :: uF1362 :: uF2002 :: uF2003 :: uF2004 :: t
def cz_699_0f_1 (t : List zFa) : List zFa := uF2005 :: uF2006 :: uF1597 :: uF1598 :: t
def cz_699_0 : zS := ((cz_699_0i_0 (cz_699_0i_1 [])), (cx_589pr_0 (cx_589pr_1 [])), [], [uV2, uV11, uV12, uV60, uV99, uV779, uV826], [], (cz_699_0f_0 (cz_699_0f_1 [])), [uG2303, uG2304])
set_option maxRecDepth 1000000 in
theorem ck_699 : x_ok mLT1 [cx_612, cx_698, cx_559, cx_497, cx_501, cx_696] mTS2 mTC2 mRUp cx_699 [(2, [0]), (9, [1]), (16, [2]), (27, [3]), (49, [4]), (65, [5])] [] [(41, cz_699_0, (533, [(10, (-24))]))] (553, []) 78623 26 = true := by decide +kernel
theorem sn_699 {W : Bool} {X : List Int32} : y_Snd (mGw W) mLT1 (J2 W X) X cx_699 := y_ok J2_J mTS2_ok1 mTC2_ok1 mRUp_ok1 (List.forall_mem_cons.mpr ⟨sn_612, List.forall_mem_cons.mpr ⟨sn_698, List.forall_mem_cons.mpr ⟨sn_559, List.forall_mem_cons.mpr ⟨sn_497, List.forall_mem_cons.mpr ⟨sn_501, List.forall_mem_cons.mpr ⟨sn_696, fun _ h => absurd h List.not_mem_nil⟩⟩⟩⟩⟩⟩) ck_699
/-- M.tell -/
def cx_700 : zCtx := (301, ([ui0, ui51, ui51, (0, 1), ui50], [ur1299, ur2305, ur2306, ur2307], [], [], [uV2, uV11, uV12, uV60], [uF2308, uF2309, uF2310, uF2311], [uG1165]), [([ui0, ui265, ui51, (0, 1), ui1161], [ur1299, ur2305, ur2306, ur2307], [], [], [uV63], [uF2308], [uG1165]), ([ui0, ui264, ui51, (0, 1), ui1161], [ur1299, ur2305, ur2306, ur2307], [], [], [uV63], [uF2308], [uG1165]), ([ui0, (0, 5), ui526, (0, 1), ui1161], [ur1299, ur2305, ur2306, ur2307], [], [], [uV99], [uF2312], []), ([ui0, (0, 5), ui1159, (0, 1), ui1161], [ur1299, ur2305, ur2306, ur2307], [], [], [uV63], [uF2308], [uG1165]), ([ui0, (0, 5), ui265, (0, 1), ui1161], [ur1299, ur2305, ur2306, ur2307], [], [], [uV63], [uF2308], [uG1165]), ([ui0, ui51, ui51, (0, 1), ui1173], [ur1299, ur2305, ur2306, ur2307], [], [], [uV63], [uF2308], [uG1165])], [uk2313, uk2314, uk2315, uk2316], 55, 2, 42)
set_option maxRecDepth 1000000 in
theorem ck_700 : x_ok mLT1 [cx_497, cx_698] mTS2 mTC2 mRUp cx_700 [(12, [0]), (19, [1])] [(57, [1001170])] [] (41, []) 14 44 = true := by decide +kernel
theorem sn_700 {W : Bool} {X : List Int32} : y_Snd (mGw W) mLT1 (J2 W X) X cx_700 := y_ok J2_J mTS2_ok1 mTC2_ok1 mRUp_ok1 (List.forall_mem_cons.mpr ⟨sn_497, List.forall_mem_cons.mpr ⟨sn_698, fun _ h => absurd h List.not_mem_nil⟩⟩) ck_700
/-- M.tell -/
def cx_701 : zCtx := (301, ([ui0, (0, 5), ui526, (0, 1), ui1161], [ur1299, ur2305, ur2306, ur2307], [uL1166], [], [uV2, uV11, uV12, uV60], [uF2308, uF2309, uF2310, uF2311], [uG1167]), [([ui0, (0, 5), ui526, (0, 1), ui1161], [ur1299, ur2305, ur2306, ur2307], [uL1166], [], [uV99], [uF2312], [uG1165, uG1167])], [uk2313, uk2314, uk2315, uk2316], 55, 2, 42)
set_option maxRecDepth 1000000 in
theorem ck_701 : x_ok mLT1 [cx_497, cx_698] mTS2 mTC2 mRUp cx_701 [(12, [0]), (19, [1])] [(57, [1001170])] [] (41, []) 14 44 = true := by decide +kernel
theorem sn_701 {W : Bool} {X : List Int32} : y_Snd (mGw W) mLT1 (J2 W X) X cx_701 := y_ok J2_J mTS2_ok1 mTC2_ok1 mRUp_ok1 (List.forall_mem_cons.mpr ⟨sn_497, List.forall_mem_cons.mpr ⟨sn_698, fun _ h => absurd h List.not_mem_nil⟩⟩) ck_701
/-- M.forget -/
def cx_702 : zCtx := (302, ([ui0, ui50], [ur1299], [], [], [uV2], [(0, (false, 63, 0, []), 0, 0, 0, [(1, 1)])], []), [([ui0, ui50], [ur1299], [], [], [uV11], [uF1954], [])], [uk2313], 8, 0, 0)
set_option maxRecDepth 1000000 in
theorem ck_702 : x_ok mLT1 [] mTS2 mTC2 mRUp cx_702 [] [] [] (8, []) 0 11 = true := by decide +kernel
theorem sn_702 {W : Bool} {X : List Int32} : y_Snd (mGw W) mLT1 (J2 W X) X cx_702 := y_ok J2_J mTS2_ok1 mTC2_ok1 mRUp_ok1 (fun _ h => absurd h List.not_mem_nil) ck_702
/-- M.isAsked -/
def cx_703 : zCtx := (304, ([ui0, ui51, ui51, ui50], [ur1299], [], [], [uV2, uV11, uV12], [(0, (false, 63, 0, []), 0, 0, 0, [(3, 1)])], []), [([ui0, ui265, ui51, ui50], [ur1299], [], [], [uV64], [], []), ([ui0, ui507, ui51, ui50], [ur1299], [uL1335], [], [uV64], [], []), ([ui0, ui50, ui1175, ui50], [ur1299], [uL68], [], [uV64], [], []), ([ui0, ui50, ui1174, ui50], [ur1299], [uL68], [], [uV64], [], []), ([ui0, ui50, (1, 6), ui50], [ur1299], [uL68], [], [uV66], [], [])], [], 23, 1, 22)
set_option maxRecDepth 1000000 in
theorem ck_703 : x_ok mLT1 [cx_497] mTS2 mTC2 mRUp cx_703 [(6, [0]), (16, [0])] [] [] (14, []) 9 17 = true := by decide +kernel
theorem sn_703 {W : Bool} {X : List Int32} : y_Snd (mGw W) mLT1 (J2 W X) X cx_703 := y_ok J2_J mTS2_ok1 mTC2_ok1 mRUp_ok1 (List.forall_mem_cons.mpr ⟨sn_497, fun _ h => absurd h List.not_mem_nil⟩) ck_703
def cx_704pi_0 (t : List (Int × Int)) : List (Int × Int) := ui0 :: ui507 :: ui51 :: ui51 :: (0, 1) :: ui51 :: (0, 1) :: ui50 :: t
def cx_704pi_1 (t : List (Int × Int)) : List (Int × Int) := ui31 :: (0, 6) :: (0, 6) :: ui51 :: ui51 :: (0, 6) :: t
def cx_704pr_0 (t : List (Nat × Bool)) : List (Nat × Bool) := ur1299 :: ur1345 :: ur1346 :: ur1356 :: ur1357 :: ur1358 :: ur1359 :: ur1360 :: t
def cx_704pr_1 (t : List (Nat × Bool)) : List (Nat × Bool) := ur1354 :: ur1355 :: ur1347 :: ur1462 :: ur1463 :: ur1349 :: ur1858 :: ur1878 :: t
def cx_704pr_2 (t : List (Nat × Bool)) : List (Nat × Bool) := ur2282 :: ur2281 :: ur2305 :: ur2306 :: ur2307 :: ur2317 :: ur2318 :: t
def cx_704pf_0 (t : List zFa) : List zFa := uF2082 :: uF1866 :: uF2297 :: uF2319 :: uF1361 :: uF1362 :: uF2002 :: uF2003 :: t
def cx_704pf_1 (t : List zFa) : List zFa := uF2004 :: uF2005 :: uF2006 :: uF1597 :: uF1598 :: uF2007 :: uF2008 :: uF2009 :: t
def cx_704pf_2 (t : List zFa) : List zFa := uF1895 :: uF2088 :: (10, (true, 0, 0, [(4, 1)]), 0, 0, 0, [(13, 1)]) :: uF2320 :: uF2321 :: uF2322 :: uF2323 :: uF2324 :: t
def cx_704pf_3 (t : List zFa) : List zFa := uF2325 :: uF2326 :: uF2327 :: t
def cx_704pg_0 (t : List zTg) : List zTg := uG2086 :: uG2328 :: uG2329 :: uG2330 :: uG2331 :: uG2332 :: uG1165 :: t
def cx_704p : zS := ((cx_704pi_0 (cx_704pi_1 [])), (cx_704pr_0 (cx_704pr_1 (cx_704pr_2 []))), [uL2290, uL2333], [], [uV2, uV11, uV12, uV60], (cx_704pf_0 (cx_704pf_1 (cx_704pf_2 (cx_704pf_3 [])))), (cx_704pg_0 []))
def cx_704q0 : zS := ((cx_704pi_0 (cx_704pi_1 [])), (cx_704pr_0 (cx_704pr_1 (cx_704pr_2 []))), [uL2333], [], [uV63], [], [uG2332, uG1165])
/-- M.rows -/
def cx_704 : zCtx := (303, cx_704p, [cx_704q0], [], 30, 2, 44)
set_option maxRecDepth 1000000 in
theorem ck_704 : x_ok mLT1 [cx_703] mTS2 mTC2 mRUp cx_704 [(3, [0])] [] [] (7, []) 23 10 = true := by decide +kernel
theorem sn_704 {W : Bool} {X : List Int32} : y_Snd (mGw W) mLT1 (J2 W X) X cx_704 := y_ok J2_J mTS2_ok1 mTC2_ok1 mRUp_ok1 (List.forall_mem_cons.mpr ⟨sn_703, fun _ h => absurd h List.not_mem_nil⟩) ck_704
def cx_705pi_0 (t : List (Int × Int)) : List (Int × Int) := ui0 :: ui50 :: ui1174 :: ui51 :: (0, 1) :: ui51 :: (0, 1) :: ui50 :: t
def cx_705pi_1 (t : List (Int × Int)) : List (Int × Int) := ui31 :: (0, 6) :: (0, 6) :: ui51 :: ui51 :: (0, 6) :: t
def cx_705p : zS := ((cx_705pi_0 (cx_705pi_1 [])), (cx_704pr_0 (cx_704pr_1 (cx_704pr_2 []))), [uL2290, uL9, uL2334], [], [uV2, uV11, uV12, uV60], (cx_704pf_0 (cx_704pf_1 (cx_704pf_2 (cx_704pf_3 [])))), (cx_704pg_0 []))
def cx_705q0 : zS := ((cx_705pi_0 (cx_705pi_1 [])), (cx_704pr_0 (cx_704pr_1 (cx_704pr_2 []))), [uL9, uL2334], [], [uV63], [], [uG2332, uG1165])
/-- M.rows -/
def cx_705 : zCtx := (303, cx_705p, [cx_705q0], [], 30, 2, 44)
set_option maxRecDepth 1000000 in
theorem ck_705 : x_ok mLT1 [cx_703] mTS2 mTC2 mRUp cx_705 [(3, [0])] [] [] (7, []) 23 10 = true := by decide +kernel
theorem sn_705 {W : Bool} {X : List Int32} : y_Snd (mGw W) mLT1 (J2 W X) X cx_705 := y_ok J2_J mTS2_ok1 mTC2_ok1 mRUp_ok1 (List.forall_mem_cons.mpr ⟨sn_703, fun _ h => absurd h List.not_mem_nil⟩) ck_705
def cx_706pi_0 (t : List (Int × Int)) : List (Int × Int) := ui0 :: ui50 :: (1, 6) :: ui1063 :: (0, 1) :: ui51 :: (0, 1) :: ui50 :: t
def cx_706pi_1 (t : List (Int × Int)) : List (Int × Int) := ui31 :: (0, 6) :: (0, 6) :: ui51 :: ui51 :: (0, 6) :: t
def cx_706p : zS := ((cx_706pi_0 (cx_706pi_1 [])), (cx_704pr_0 (cx_704pr_1 (cx_704pr_2 []))), [uL2290, uL9, uL2334], [], [uV2, uV11, uV12, uV60], (cx_704pf_0 (cx_704pf_1 (cx_704pf_2 (cx_704pf_3 [])))), (cx_704pg_0 []))
def cx_706q0 : zS := ((cx_706pi_0 (cx_706pi_1 [])), (cx_704pr_0 (cx_704pr_1 (cx_704pr_2 []))), [uL9, uL2334], [], [uV63], [], [uG2332, uG1165])
/-- M.rows -/
def cx_706 : zCtx := (303, cx_706p, [cx_706q0], [], 35, 2, 44)
set_option maxRecDepth 1000000 in
theorem ck_706 : x_ok mLT1 [cx_703, cx_497] mTS2 mTC2 mRUp cx_706 [(3, [0]), (12, [1])] [] [] (12, []) 23 15 = true := by decide +kernel
theorem sn_706 {W : Bool} {X : List Int32} : y_Snd (mGw W) mLT1 (J2 W X) X cx_706 := y_ok J2_J mTS2_ok1 mTC2_ok1 mRUp_ok1 (List.forall_mem_cons.mpr ⟨sn_703, List.forall_mem_cons.mpr ⟨sn_497, fun _ h => absurd h List.not_mem_nil⟩⟩) ck_706
def cx_707pi_0 (t : List (Int × Int)) : List (Int × Int) := ui0 :: ui50 :: (1, 6) :: ui265 :: (0, 1) :: ui51 :: (0, 1) :: ui50 :: t
def cx_707pi_1 (t : List (Int × Int)) : List (Int × Int) := ui31 :: (0, 6) :: (0, 6) :: ui51 :: ui51 :: (0, 6) :: t
def cx_707p : zS := ((cx_707pi_0 (cx_707pi_1 [])), (cx_704pr_0 (cx_704pr_1 (cx_704pr_2 []))), [uL2290, uL9, uL2334], [], [uV2, uV11, uV12, uV60], (cx_704pf_0 (cx_704pf_1 (cx_704pf_2 (cx_704pf_3 [])))), (cx_704pg_0 []))
def cx_707q0 : zS := ((cx_707pi_0 (cx_707pi_1 [])), (cx_704pr_0 (cx_704pr_1 (cx_704pr_2 []))), [uL9, uL2334], [], [uV63], [], [uG2332, uG1165])
/-- M.rows -/
def cx_707 : zCtx := (303, cx_707p, [cx_707q0], [], 35, 2, 44)
set_option maxRecDepth 1000000 in
theorem ck_707 : x_ok mLT1 [cx_703, cx_497] mTS2 mTC2 mRUp cx_707 [(3, [0]), (12, [1])] [] [] (12, []) 23 15 = true := by decide +kernel
theorem sn_707 {W : Bool} {X : List Int32} : y_Snd (mGw W) mLT1 (J2 W X) X cx_707 := y_ok J2_J mTS2_ok1 mTC2_ok1 mRUp_ok1 (List.forall_mem_cons.mpr ⟨sn_703, List.forall_mem_cons.mpr ⟨sn_497, fun _ h => absurd h List.not_mem_nil⟩⟩) ck_707
/-- M.sixes -/
def cx_708 : zCtx := (305, ([ui0, (0, 6)], [], [], [], [uV11], [], []), [([ui0, (0, 6), ui51], [], [uL151, (46656, [(2, (-1))])], [], [uV12], [], [(304, [uL9, uL69])])], [], 140, 0, 0)
set_option maxRecDepth 1000000 in
theorem ck_708 : x_ok mLT1 [] mTS2 mTC2 mRUp cx_708 [] [(2, [1001111]), (13, [1001112, 1001113]), (20, [1001114])] [(4, ([(0, 3072), (0, 6)], [], [(0, []), (0, [(1, 1)])], [(0, 0, 0, [(1, 1)]), (0, 0, 1, []), (0, 0, 0, [])], [], [], [(304, [(0, []), (1, [])])]), (10, [(1, 20)])), (4, ([(0, 3072), (1, 6)], [], [(0, []), (0, [(1, 1)]), (1, []), ((-1), [(1, 1)])], [(0, 0, 0, [(1, 1)]), (0, 0, 6, []), (0, 0, 1, [])], [], [], [(304, [(1, []), (6, [])])]), ((-10), [(1, 20)])), (4, ([(0, 3072), (2, 6)], [], [(0, []), (0, [(1, 1)]), (1, []), ((-1), [(1, 1)]), (2, []), ((-2), [(1, 1)])], [(0, 0, 0, [(1, 1)]), (0, 0, 36, []), (0, 0, 2, [])], [], [], [(304, [(2, []), (36, [])])]), ((-30), [(1, 20)])), (4, ([(0, 3072), (3, 6)], [], [(0, []), (0, [(1, 1)]), (1, []), ((-1), [(1, 1)]), (2, []), ((-2), [(1, 1)]), (3, []), ((-3), [(1, 1)])], [(0, 0, 0, [(1, 1)]), (0, 0, 216, []), (0, 0, 3, [])], [], [], [(304, [(3, []), (216, [])])]), ((-50), [(1, 20)])), (4, ([(0, 3072), (4, 6)], [], [(0, []), (0, [(1, 1)]), (1, []), ((-1), [(1, 1)]), (2, []), ((-2), [(1, 1)]), (3, []), ((-3), [(1, 1)]), (4, []), ((-4), [(1, 1)])], [(0, 0, 0, [(1, 1)]), (0, 0, 1296, []), (0, 0, 4, [])], [], [], [(304, [(4, []), (1296, [])])]), ((-70), [(1, 20)])), (4, ([(0, 3072), (5, 6)], [], [(0, []), (0, [(1, 1)]), (1, []), ((-1), [(1, 1)]), (2, []), ((-2), [(1, 1)]), (3, []), ((-3), [(1, 1)]), (4, []), ((-4), [(1, 1)]), (5, []), ((-5), [(1, 1)])], [(0, 0, 0, [(1, 1)]), (0, 0, 7776, []), (0, 0, 5, [])], [], [], [(304, [(5, []), (7776, [])])]), ((-90), [(1, 20)])), (4, ([(0, 3072), (6, 6)], [], [(0, []), (0, [(1, 1)]), (1, []), ((-1), [(1, 1)]), (2, []), ((-2), [(1, 1)]), (3, []), ((-3), [(1, 1)]), (4, []), ((-4), [(1, 1)]), (5, []), ((-5), [(1, 1)]), (6, []), ((-6), [(1, 1)])], [(0, 0, 0, [(1, 1)]), (0, 0, 46656, []), (0, 0, 6, [])], [], [], [(304, [(6, []), (46656, [])])]), ((-200000000000), [(1, 33333333335)]))] (140, []) 0 12 = true := by decide +kernel
theorem sn_708 {W : Bool} {X : List Int32} : y_Snd (mGw W) mLT1 (J2 W X) X cx_708 := y_ok J2_J mTS2_ok1 mTC2_ok1 mRUp_ok1 (fun _ h => absurd h List.not_mem_nil) ck_708
def cx_709pi_0 (t : List (Int × Int)) : List (Int × Int) := ui0 :: ui1198 :: ui50 :: (1, 6) :: (0, 1) :: (0, 6) :: ui50 :: (0, 6) :: t
def cx_709pi_1 (t : List (Int × Int)) : List (Int × Int) := ui51 :: ui2335 :: t
def cx_709pr_0 (t : List (Nat × Bool)) : List (Nat × Bool) := ur1299 :: ur1347 :: ur1858 :: ur1878 :: ur2282 :: ur2305 :: ur2306 :: ur2307 :: t
def cx_709pr_1 (t : List (Nat × Bool)) : List (Nat × Bool) := ur2317 :: t
def cx_709pf_0 (t : List zFa) : List zFa := uF2082 :: uF1465 :: uF2024 :: uF2336 :: uF2337 :: uF2338 :: uF2339 :: uF2340 :: t
def cx_709pf_1 (t : List zFa) : List zFa := uF2341 :: uF2342 :: (1, (true, 0, 0, [(4, 1)]), 0, 0, 0, [(7, 1)]) :: t
def cx_709p : zS := ((cx_709pi_0 (cx_709pi_1 [])), (cx_709pr_0 (cx_709pr_1 [])), [uL578, uL109, uL2343], [], [uV2, uV11, uV12, uV60], (cx_709pf_0 (cx_709pf_1 [])), [uG2344, uG2345, uG2346, uG1165, uG2347])
/-- M.doesFit -/
def cx_709 : zCtx := (306, cx_709p, [([ui0, ui1198, ui50, (1, 6), (0, 1), (0, 6), ui50, (0, 6), ui51, ui2335], [ur1299, ur1347, ur1858, ur1878, ur2282, ur2305, ur2306, ur2307, ur2317], [], [], [uV64], [], [uG2344, uG2345, uG2346, uG1165, uG2347, (302, [uL106, uL69, uL23, uL9, uL65])]), ([ui0, ui1198, ui50, (1, 6), (0, 1), (0, 6), ui50, (0, 6), ui51, ui2335], [ur1299, ur1347, ur1858, ur1878, ur2282, ur2305, ur2306, ur2307, ur2317], [], [], [uV66], [], [uG2344, uG2345, uG2346, uG1165, uG2347, (302, [uL106, uL69, uL23, uL9, uL67]), uG2348])], [(92, true, 0)], 1039, 2, 43)
def cz_709_0i_0 (t : List (Int × Int)) : List (Int × Int) := ui0 :: ui1198 :: ui50 :: (1, 6) :: (0, 1) :: (0, 6) :: ui50 :: (0, 6) :: t
def cz_709_0i_1 (t : List (Int × Int)) : List (Int × Int) := ui51 :: ui2335 :: ui1198 :: ui845 :: ui248 :: t
def cz_709_0f_0 (t : List zFa) : List zFa := uF2082 :: uF1465 :: uF2024 :: uF2336 :: uF2337 :: uF2338 :: uF2339 :: uF2340 :: t
def cz_709_0f_1 (t : List zFa) : List zFa := uF2341 :: uF2342 :: t
def cz_709_0g_0 (t : List zTg) : List zTg := uG2344 :: uG2345 :: uG2346 :: uG1165 :: uG2347 :: (300, [uL106, uL23, uL9, uL217, uL173, uL198]) :: t
def cz_709_0 : zS := ((cz_709_0i_0 (cz_709_0i_1 [])), (cx_709pr_0 (cx_709pr_1 [])), [uL578, uL109, uL2343, (1, [(12, 1)]), uL1135, uL173, uL198, uL2349], [uV2, uV11, uV12, uV60, uV826, uV841, uV201], [], (cz_709_0f_0 (cz_709_0f_1 [])), (cz_709_0g_0 []))
def cz_709_1i_0 (t : List (Int × Int)) : List (Int × Int) := ui0 :: ui1198 :: ui50 :: (1, 6) :: (0, 1) :: (0, 6) :: ui50 :: (0, 6) :: t
def cz_709_1i_1 (t : List (Int × Int)) : List (Int × Int) := ui51 :: ui2335 :: ui1198 :: ui845 :: ui427 :: t
def cz_709_1g_0 (t : List zTg) : List zTg := uG2344 :: uG2345 :: uG2346 :: uG1165 :: uG2347 :: uG2348 :: (303, [uL106, uL69, uL23, uL9, uL217]) :: t
def cz_709_1 : zS := ((cz_709_1i_0 (cz_709_1i_1 [])), (cx_709pr_0 (cx_709pr_1 [])), [uL578, uL109, uL2343, uL173, uL198, uL2349, uL217, (0, [(2, 1), (12, (-1))])], [uV2, uV11, uV12, uV60, uV826, uV841, uV201], [], (cz_709_0f_0 (cz_709_0f_1 [])), (cz_709_1g_0 []))
set_option maxRecDepth 1000000 in
theorem ck_709 : x_ok mLT1 [cx_498] mTS2 mTC2 mRUp cx_709 [(43, [0])] [(9, [1001116]), (26, [1000679]), (27, [1001117]), (32, [1000023]), (33, [1001118]), (43, [1001119]), (49, [1001120]), (58, [1000424]), (60, [1000668]), (61, [1001049]), (65, [1001121, 1001122, 1001123, 1001124]), (77, [1000789]), (78, [1000667]), (81, [1001125]), (87, [1001126]), (149, [1001127, 1001128, 1001129]), (151, [1001130, 1001131]), (157, [1001132])] [(11, cz_709_0, (800, [(12, 42)])), (90, cz_709_1, (753, [(12, (-34))]))] (1019, []) 20 44 = true := by decide +kernel
theorem sn_709 {W : Bool} {X : List Int32} : y_Snd (mGw W) mLT1 (J2 W X) X cx_709 := y_ok J2_J mTS2_ok1 mTC2_ok1 mRUp_ok1 (List.forall_mem_cons.mpr ⟨sn_498, fun _ h => absurd h List.not_mem_nil⟩) ck_709
def cx_710pi_0 (t : List (Int × Int)) : List (Int × Int) := ui0 :: ui50 :: (1, 6) :: (0, 0) :: (0, 1) :: ui51 :: (0, 1) :: ui50 :: t
def cx_710pi_1 (t : List (Int × Int)) : List (Int × Int) := ui31 :: (0, 6) :: (0, 6) :: ui51 :: ui51 :: (0, 6) :: t
def cx_710p : zS := ((cx_710pi_0 (cx_710pi_1 [])), (cx_704pr_0 (cx_704pr_1 (cx_704pr_2 []))), [uL2290, uL9, uL2334], [], [uV2, uV11, uV12, uV60], (cx_704pf_0 (cx_704pf_1 (cx_704pf_2 (cx_704pf_3 [])))), (cx_704pg_0 []))
def cx_710q0i_0 (t : List (Int × Int)) : List (Int × Int) := ui0 :: ui50 :: (1, 6) :: (0, 0) :: (0, 1) :: ui51 :: (0, 1) :: ui50 :: t
def cx_710q0i_1 (t : List (Int × Int)) : List (Int × Int) := ui31 :: (0, 6) :: (0, 6) :: ui51 :: ui51 :: (0, 6) :: ui51 :: t
def cx_710q0 : zS := ((cx_710q0i_0 (cx_710q0i_1 [])), (cx_704pr_0 (cx_704pr_1 (cx_704pr_2 []))), [uL9, uL2334], [], [uV358], [], [uG1868, uG2332, uG1165, (296, [uL166, uL9, uL69, uL65, uL211])])
/-- M.rows -/
def cx_710 : zCtx := (303, cx_710p, [cx_710q0], kc_88, 733008, 6, 129)
def cz_710_0i_0 (t : List (Int × Int)) : List (Int × Int) := ui0 :: ui50 :: (1, 6) :: (0, 0) :: (0, 1) :: ui51 :: (0, 1) :: ui50 :: t
def cz_710_0i_1 (t : List (Int × Int)) : List (Int × Int) := ui31 :: (0, 6) :: (0, 6) :: ui51 :: ui51 :: (0, 6) :: ui1229 :: ui2350 :: t
def cz_710_0i_2 (t : List (Int × Int)) : List (Int × Int) := ui2351 :: ui199 :: ui2335 :: t
def cz_710_0r_0 (t : List (Nat × Bool)) : List (Nat × Bool) := ur1299 :: ur1345 :: ur1346 :: ur1356 :: ur1357 :: ur1358 :: ur1359 :: ur1360 :: t
def cz_710_0r_1 (t : List (Nat × Bool)) : List (Nat × Bool) := ur1354 :: ur1355 :: ur1347 :: ur1462 :: ur1463 :: ur1349 :: ur1858 :: ur1878 :: t
def cz_710_0r_2 (t : List (Nat × Bool)) : List (Nat × Bool) := ur2282 :: ur2281 :: ur2305 :: ur2306 :: ur2307 :: ur2317 :: ur2318 :: ur1353 :: t
def cz_710_0f_0 (t : List zFa) : List zFa := uF1865 :: uF1890 :: uF2352 :: uF2082 :: uF2319 :: uF1361 :: uF1362 :: uF2002 :: t
def cz_710_0f_1 (t : List zFa) : List zFa := uF2003 :: uF2004 :: uF2005 :: uF2006 :: uF1597 :: uF1598 :: uF2007 :: uF2008 :: t
def cz_710_0f_2 (t : List zFa) : List zFa := uF2009 :: uF1895 :: uF2088 :: uF2320 :: uF2321 :: uF2322 :: uF2323 :: uF2324 :: t
def cz_710_0f_3 (t : List zFa) : List zFa := uF2325 :: uF2326 :: uF2327 :: t
def cz_710_0g_0 (t : List zTg) : List zTg := uG1868 :: uG2086 :: uG2329 :: uG2331 :: uG2328 :: uG2330 :: uG2332 :: uG2353 :: t
def cz_710_0g_1 (t : List zTg) : List zTg := uG2354 :: uG1165 :: uG2355 :: (305, [uL166, uL9, uL69, uL2356, uL211, uL212]) :: t
def cz_710_0 : zS := ((cz_710_0i_0 (cz_710_0i_1 (cz_710_0i_2 []))), (cz_710_0r_0 (cz_710_0r_1 (cz_710_0r_2 []))), [uL2334, uL2290, uL9, uL2356, uL2357, uL211, uL2358], [uV2, uV11, uV12, uV60, uV358, uV587, uV1495], [], (cz_710_0f_0 (cz_710_0f_1 (cz_710_0f_2 (cz_710_0f_3 [])))), (cz_710_0g_0 (cz_710_0g_1 [])))
set_option maxRecDepth 1000000 in
theorem ck_710 : x_ok mLT1 [cx_703, cx_497, cx_501, cx_690, cx_708, cx_709] mTS2 mTC2 mRUp cx_710 [(3, [0]), (12, [1]), (21, [2]), (25, [3]), (36, [4]), (53, [5])] [(24, uN2093), (41, [1001115]), (69, uN2359), (75, [1001135])] [(43, cz_710_0, (21, [(3, (-100000000000)), (16, 14)]))] (653215, []) 79793 26 = true := by decide +kernel
theorem sn_710 {W : Bool} {X : List Int32} : y_Snd (mGw W) mLT1 (J2 W X) X cx_710 := y_ok J2_J mTS2_ok1 mTC2_ok1 mRUp_ok1 (List.forall_mem_cons.mpr ⟨sn_703, List.forall_mem_cons.mpr ⟨sn_497, List.forall_mem_cons.mpr ⟨sn_501, List.forall_mem_cons.mpr ⟨sn_690, List.forall_mem_cons.mpr ⟨sn_708, List.forall_mem_cons.mpr ⟨sn_709, fun _ h => absurd h List.not_mem_nil⟩⟩⟩⟩⟩⟩) ck_710
def cx_711pi_0 (t : List (Int × Int)) : List (Int × Int) := ui0 :: ui50 :: (1, 6) :: (1, 1) :: (0, 1) :: ui51 :: (0, 1) :: ui50 :: t
def cx_711pi_1 (t : List (Int × Int)) : List (Int × Int) := ui31 :: (0, 6) :: (0, 6) :: ui51 :: ui51 :: (0, 6) :: t
def cx_711p : zS := ((cx_711pi_0 (cx_711pi_1 [])), (cx_704pr_0 (cx_704pr_1 (cx_704pr_2 []))), [uL2290, uL9, uL2334], [], [uV2, uV11, uV12, uV60], (cx_704pf_0 (cx_704pf_1 (cx_704pf_2 (cx_704pf_3 [])))), (cx_704pg_0 []))
def cx_711q0i_0 (t : List (Int × Int)) : List (Int × Int) := ui0 :: ui50 :: (1, 6) :: (1, 1) :: (0, 1) :: ui51 :: (0, 1) :: ui50 :: t
def cx_711q0i_1 (t : List (Int × Int)) : List (Int × Int) := ui31 :: (0, 6) :: (0, 6) :: ui51 :: ui51 :: (0, 6) :: ui51 :: t
def cx_711q0 : zS := ((cx_711q0i_0 (cx_711q0i_1 [])), (cx_704pr_0 (cx_704pr_1 (cx_704pr_2 []))), [uL9, uL2334], [], [uV358], [], [uG1868, uG2332, uG1165, (296, [uL166, uL9, uL69, uL67, uL211])])
/-- M.rows -/
def cx_711 : zCtx := (303, cx_711p, [cx_711q0], kc_88, 733007, 6, 129)
def cz_711_0i_0 (t : List (Int × Int)) : List (Int × Int) := ui0 :: ui50 :: (1, 6) :: (1, 1) :: (0, 1) :: ui51 :: (0, 1) :: ui50 :: t
def cz_711_0i_1 (t : List (Int × Int)) : List (Int × Int) := ui31 :: (0, 6) :: (0, 6) :: ui51 :: ui51 :: (0, 6) :: ui1229 :: ui2350 :: t
def cz_711_0i_2 (t : List (Int × Int)) : List (Int × Int) := ui2351 :: ui199 :: ui2335 :: t
def cz_711_0 : zS := ((cz_711_0i_0 (cz_711_0i_1 (cz_711_0i_2 []))), (cz_710_0r_0 (cz_710_0r_1 (cz_710_0r_2 []))), [uL2334, uL2290, uL9, uL2356, uL2357, uL211, uL2358], [uV2, uV11, uV12, uV60, uV358, uV587, uV1495], [], (cz_710_0f_0 (cz_710_0f_1 (cz_710_0f_2 (cz_710_0f_3 [])))), (cz_710_0g_0 (cz_710_0g_1 [])))
set_option maxRecDepth 1000000 in
theorem ck_711 : x_ok mLT1 [cx_703, cx_497, cx_501, cx_690, cx_708, cx_709] mTS2 mTC2 mRUp cx_711 [(3, [0]), (12, [1]), (21, [2]), (25, [3]), (36, [4]), (53, [5])] [(24, uN2093), (41, [1001115]), (69, uN2359), (75, [1001135])] [(43, cz_711_0, ((-99999999980), [(3, 100000000000), (16, 14)]))] (653214, []) 79793 26 = true := by decide +kernel
theorem sn_711 {W : Bool} {X : List Int32} : y_Snd (mGw W) mLT1 (J2 W X) X cx_711 := y_ok J2_J mTS2_ok1 mTC2_ok1 mRUp_ok1 (List.forall_mem_cons.mpr ⟨sn_703, List.forall_mem_cons.mpr ⟨sn_497, List.forall_mem_cons.mpr ⟨sn_501, List.forall_mem_cons.mpr ⟨sn_690, List.forall_mem_cons.mpr ⟨sn_708, List.forall_mem_cons.mpr ⟨sn_709, fun _ h => absurd h List.not_mem_nil⟩⟩⟩⟩⟩⟩) ck_711
def cx_712pi_0 (t : List (Int × Int)) : List (Int × Int) := ui0 :: ui50 :: ui1175 :: ui51 :: (0, 1) :: ui51 :: (0, 1) :: ui50 :: t
def cx_712pi_1 (t : List (Int × Int)) : List (Int × Int) := ui31 :: (0, 6) :: (0, 6) :: ui51 :: ui51 :: (0, 6) :: t
def cx_712p : zS := ((cx_712pi_0 (cx_712pi_1 [])), (cx_704pr_0 (cx_704pr_1 (cx_704pr_2 []))), [uL2290, uL9, uL2334], [], [uV2, uV11, uV12, uV60], (cx_704pf_0 (cx_704pf_1 (cx_704pf_2 (cx_704pf_3 [])))), (cx_704pg_0 []))
def cx_712q0 : zS := ((cx_712pi_0 (cx_712pi_1 [])), (cx_704pr_0 (cx_704pr_1 (cx_704pr_2 []))), [uL9, uL2334], [], [uV63], [], [uG2332, uG1165])
/-- M.rows -/
def cx_712 : zCtx := (303, cx_712p, [cx_712q0], [], 30, 2, 44)
set_option maxRecDepth 1000000 in
theorem ck_712 : x_ok mLT1 [cx_703] mTS2 mTC2 mRUp cx_712 [(3, [0])] [] [] (7, []) 23 10 = true := by decide +kernel
theorem sn_712 {W : Bool} {X : List Int32} : y_Snd (mGw W) mLT1 (J2 W X) X cx_712 := y_ok J2_J mTS2_ok1 mTC2_ok1 mRUp_ok1 (List.forall_mem_cons.mpr ⟨sn_703, fun _ h => absurd h List.not_mem_nil⟩) ck_712
def cx_713pi_0 (t : List (Int × Int)) : List (Int × Int) := ui0 :: ui265 :: ui51 :: ui51 :: (0, 1) :: ui51 :: (0, 1) :: ui50 :: t
def cx_713pi_1 (t : List (Int × Int)) : List (Int × Int) := ui31 :: (0, 6) :: (0, 6) :: ui51 :: ui51 :: (0, 6) :: t
def cx_713p : zS := ((cx_713pi_0 (cx_713pi_1 [])), (cx_704pr_0 (cx_704pr_1 (cx_704pr_2 []))), [uL2290, uL570], [], [uV2, uV11, uV12, uV60], (cx_704pf_0 (cx_704pf_1 (cx_704pf_2 (cx_704pf_3 [])))), (cx_704pg_0 []))
def cx_713q0 : zS := ((cx_713pi_0 (cx_713pi_1 [])), (cx_704pr_0 (cx_704pr_1 (cx_704pr_2 []))), [uL570], [], [uV63], [], [uG2332, uG1165])
/-- M.rows -/
def cx_713 : zCtx := (303, cx_713p, [cx_713q0], [], 30, 2, 44)
set_option maxRecDepth 1000000 in
theorem ck_713 : x_ok mLT1 [cx_703] mTS2 mTC2 mRUp cx_713 [(3, [0])] [] [] (7, []) 23 10 = true := by decide +kernel
theorem sn_713 {W : Bool} {X : List Int32} : y_Snd (mGw W) mLT1 (J2 W X) X cx_713 := y_ok J2_J mTS2_ok1 mTC2_ok1 mRUp_ok1 (List.forall_mem_cons.mpr ⟨sn_703, fun _ h => absurd h List.not_mem_nil⟩) ck_713
/-- M.feel -/
def cx_714 : zCtx := (307, cx_704p, [cx_704q0], [], 30, 2, 44)
set_option maxRecDepth 1000000 in
theorem ck_714 : x_ok mLT1 [cx_703] mTS2 mTC2 mRUp cx_714 [(3, [0])] [] [] (7, []) 23 10 = true := by decide +kernel
theorem sn_714 {W : Bool} {X : List Int32} : y_Snd (mGw W) mLT1 (J2 W X) X cx_714 := y_ok J2_J mTS2_ok1 mTC2_ok1 mRUp_ok1 (List.forall_mem_cons.mpr ⟨sn_703, fun _ h => absurd h List.not_mem_nil⟩) ck_714
/-- M.feel -/
def cx_715 : zCtx := (307, cx_705p, [cx_705q0], [], 30, 2, 44)
set_option maxRecDepth 1000000 in
theorem ck_715 : x_ok mLT1 [cx_703] mTS2 mTC2 mRUp cx_715 [(3, [0])] [] [] (7, []) 23 10 = true := by decide +kernel
theorem sn_715 {W : Bool} {X : List Int32} : y_Snd (mGw W) mLT1 (J2 W X) X cx_715 := y_ok J2_J mTS2_ok1 mTC2_ok1 mRUp_ok1 (List.forall_mem_cons.mpr ⟨sn_703, fun _ h => absurd h List.not_mem_nil⟩) ck_715
def cx_716pi_0 (t : List (Int × Int)) : List (Int × Int) := ui0 :: ui50 :: (1, 6) :: ui1159 :: (0, 1) :: ui51 :: (0, 1) :: ui50 :: t
def cx_716pi_1 (t : List (Int × Int)) : List (Int × Int) := ui31 :: (0, 6) :: (0, 6) :: ui51 :: ui51 :: (0, 6) :: t
def cx_716p : zS := ((cx_716pi_0 (cx_716pi_1 [])), (cx_704pr_0 (cx_704pr_1 (cx_704pr_2 []))), [uL2290, uL9, uL2334], [], [uV2, uV11, uV12, uV60], (cx_704pf_0 (cx_704pf_1 (cx_704pf_2 (cx_704pf_3 [])))), (cx_704pg_0 []))
def cx_716q0 : zS := ((cx_716pi_0 (cx_716pi_1 [])), (cx_704pr_0 (cx_704pr_1 (cx_704pr_2 []))), [uL9, uL2334], [], [uV63], [], [uG2332, uG1165])
/-- M.feel -/
def cx_716 : zCtx := (307, cx_716p, [cx_716q0], [], 33, 2, 44)
set_option maxRecDepth 1000000 in
theorem ck_716 : x_ok mLT1 [cx_703, cx_698] mTS2 mTC2 mRUp cx_716 [(3, [0]), (10, [1])] [] [] (10, []) 23 13 = true := by decide +kernel
theorem sn_716 {W : Bool} {X : List Int32} : y_Snd (mGw W) mLT1 (J2 W X) X cx_716 := y_ok J2_J mTS2_ok1 mTC2_ok1 mRUp_ok1 (List.forall_mem_cons.mpr ⟨sn_703, List.forall_mem_cons.mpr ⟨sn_698, fun _ h => absurd h List.not_mem_nil⟩⟩) ck_716
def cx_717pi_0 (t : List (Int × Int)) : List (Int × Int) := ui0 :: ui50 :: (1, 6) :: ui526 :: (0, 1) :: ui51 :: (0, 1) :: ui50 :: t
def cx_717pi_1 (t : List (Int × Int)) : List (Int × Int) := ui31 :: (0, 6) :: (0, 6) :: ui51 :: ui51 :: (0, 6) :: t
def cx_717p : zS := ((cx_717pi_0 (cx_717pi_1 [])), (cx_704pr_0 (cx_704pr_1 (cx_704pr_2 []))), [uL2290, uL9, uL2334], [], [uV2, uV11, uV12, uV60], (cx_704pf_0 (cx_704pf_1 (cx_704pf_2 (cx_704pf_3 [])))), (cx_704pg_0 []))
def cx_717q0i_0 (t : List (Int × Int)) : List (Int × Int) := ui0 :: ui50 :: (1, 6) :: ui526 :: (0, 1) :: ui51 :: (0, 1) :: ui50 :: t
def cx_717q0i_1 (t : List (Int × Int)) : List (Int × Int) := ui31 :: (0, 6) :: (0, 6) :: ui51 :: ui51 :: (0, 6) :: ui51 :: t
def cx_717q0 : zS := ((cx_717q0i_0 (cx_717q0i_1 [])), (cx_704pr_0 (cx_704pr_1 (cx_704pr_2 []))), [uL9, uL2334], [], [uV358], [], [uG1868, uG2332, uG1165, (298, [uL166, uL9, uL69, uL23, uL211])])
/-- M.feel -/
def cx_717 : zCtx := (307, cx_717p, [cx_717q0], kc_89, 7451756, 6, 129)
def cq_717 : List zCtx := [cx_703, cx_698, cx_501, cx_690, cx_708, cx_709]
def cs_717 : List (Nat × List Nat) := [(3, [0]), (10, [1]), (19, [2]), (23, [3]), (59, [4]), (70, [5])]
def hs_717 : List (Nat × List Nat) := [(22, uN2093), (27, [1001145]), (44, [1001146]), (54, [1001147]), (73, [1001148]), (82, [1001149]), (115, [1001153]), (118, [1001154, 1001155]), (124, [1001150, 1001151]), (130, [1001152]), (158, [1001156]), (216, [1001157, 1001158, 1001159, 1001160, 1001161, 1001162]), (222, [1001163, 1001164])]
def nd_717_0pi_0 (t : List (Int × Int)) : List (Int × Int) := ui0 :: ui50 :: (1, 6) :: ui526 :: (0, 1) :: ui51 :: (0, 1) :: ui50 :: t
def nd_717_0pi_1 (t : List (Int × Int)) : List (Int × Int) := ui31 :: (0, 6) :: (0, 6) :: ui51 :: ui51 :: (0, 6) :: (0, 6) :: ui199 :: t
def nd_717_0pl_0 (t : List zV) : List zV := uV2 :: uV11 :: uV12 :: uV60 :: uV358 :: uV115 :: uV115 :: uV115 :: t
def nd_717_0pl_1 (t : List zV) : List zV := uV115 :: t
def nd_717_0pf_0 (t : List zFa) : List zFa := uF1865 :: (0, (false, 49, 0, []), 0, 0, 0, [(15, 1)]) :: uF2352 :: uF2082 :: uF2319 :: uF1361 :: uF1362 :: uF2002 :: t
def nd_717_0pf_1 (t : List zFa) : List zFa := uF2003 :: uF2004 :: uF2005 :: uF2006 :: uF1597 :: uF1598 :: uF2007 :: uF2008 :: t
def nd_717_0pf_2 (t : List zFa) : List zFa := uF2009 :: uF1895 :: uF2088 :: uF2320 :: uF2321 :: uF2322 :: uF2323 :: uF2324 :: t
def nd_717_0pf_3 (t : List zFa) : List zFa := uF2325 :: uF2326 :: uF2327 :: t
def nd_717_0pg_0 (t : List zTg) : List zTg := uG1868 :: uG2086 :: uG2329 :: uG2331 :: uG2328 :: uG2330 :: uG2332 :: uG2353 :: t
def nd_717_0pg_1 (t : List zTg) : List zTg := uG2354 :: uG1165 :: (314, [uL211]) :: t
def nd_717_0p : zS := ((nd_717_0pi_0 (nd_717_0pi_1 [])), (cz_710_0r_0 (cz_710_0r_1 (cz_710_0r_2 []))), [uL2334, uL2290, uL9, uL211, (6, [(14, (-1))])], (nd_717_0pl_0 (nd_717_0pl_1 [])), [], (nd_717_0pf_0 (nd_717_0pf_1 (nd_717_0pf_2 (nd_717_0pf_3 [])))), (nd_717_0pg_0 (nd_717_0pg_1 [])))
def nd_717_0 : zN := (29, nd_717_0p, (7371948, [(14, (-11))]))
def nd_717_1pi_0 (t : List (Int × Int)) : List (Int × Int) := ui0 :: ui50 :: (1, 6) :: ui526 :: (0, 1) :: ui51 :: (0, 1) :: ui50 :: t
def nd_717_1pi_1 (t : List (Int × Int)) : List (Int × Int) := ui31 :: (0, 6) :: (0, 6) :: ui51 :: ui51 :: (0, 6) :: ui1229 :: ui1229 :: t
def nd_717_1pi_2 (t : List (Int × Int)) : List (Int × Int) := ui199 :: t
def nd_717_1pl_0 (t : List zV) : List zV := uV2 :: uV11 :: uV12 :: uV60 :: uV358 :: uV587 :: uV115 :: uV115 :: t
def nd_717_1pl_1 (t : List zV) : List zV := uV115 :: t
def nd_717_1pf_0 (t : List zFa) : List zFa := uF1865 :: (0, (false, 49, 0, []), 0, 0, 0, [(16, 1)]) :: uF2352 :: uF2082 :: uF2319 :: uF1361 :: uF1362 :: uF2002 :: t
def nd_717_1pf_1 (t : List zFa) : List zFa := uF2003 :: uF2004 :: uF2005 :: uF2006 :: uF1597 :: uF1598 :: uF2007 :: uF2008 :: t
def nd_717_1pf_2 (t : List zFa) : List zFa := uF2009 :: uF1895 :: uF2088 :: uF2320 :: uF2321 :: uF2322 :: uF2323 :: uF2324 :: t
def nd_717_1pf_3 (t : List zFa) : List zFa := uF2325 :: uF2326 :: uF2327 :: t
def nd_717_1pg_0 (t : List zTg) : List zTg := uG1868 :: uG2086 :: uG2329 :: uG2331 :: uG2328 :: uG2330 :: uG2332 :: uG2353 :: t
def nd_717_1pg_1 (t : List zTg) : List zTg := uG2354 :: uG1165 :: (306, [uL166, uL9, uL69, uL23, uL212]) :: (309, [uL166, uL9, uL69, uL212, uL211]) :: t
def nd_717_1p : zS := ((nd_717_1pi_0 (nd_717_1pi_1 (nd_717_1pi_2 []))), (cz_710_0r_0 (cz_710_0r_1 (cz_710_0r_2 []))), [uL2334, uL2290, uL9, uL212, (46656, [(15, (-1))]), uL211, uL2358], (nd_717_1pl_0 (nd_717_1pl_1 [])), [], (nd_717_1pf_0 (nd_717_1pf_1 (nd_717_1pf_2 (nd_717_1pf_3 [])))), (nd_717_1pg_0 (nd_717_1pg_1 [])))
def nd_717_1 : zN := (56, nd_717_1p, (7371874, [(15, (-158))]))
def nd_717_2pi_0 (t : List (Int × Int)) : List (Int × Int) := ui0 :: ui50 :: (1, 6) :: ui526 :: (0, 1) :: ui51 :: (0, 1) :: ui50 :: t
def nd_717_2pi_1 (t : List (Int × Int)) : List (Int × Int) := ui31 :: (0, 6) :: (0, 6) :: ui51 :: ui51 :: (0, 6) :: ui2335 :: ui1198 :: t
def nd_717_2pi_2 (t : List (Int × Int)) : List (Int × Int) := (0, 6) :: ui199 :: ui2335 :: t
def nd_717_2pc_0 (t : List zL) : List zL := uL2334 :: uL2290 :: uL9 :: uL65 :: uL2360 :: uL212 :: ((-1), [(15, (-1)), (18, 1)]) :: uL211 :: t
def nd_717_2pc_1 (t : List zL) : List zL := uL2358 :: uL215 :: uL1715 :: t
def nd_717_2pl_0 (t : List zV) : List zV := uV2 :: uV11 :: uV12 :: uV60 :: uV358 :: uV587 :: uV1495 :: uV115 :: t
def nd_717_2pl_1 (t : List zV) : List zV := uV115 :: t
def nd_717_2pg_0 (t : List zTg) : List zTg := uG2329 :: uG1868 :: uG2086 :: uG2331 :: uG2328 :: uG2330 :: uG2332 :: uG2353 :: t
def nd_717_2pg_1 (t : List zTg) : List zTg := uG2354 :: uG1165 :: (301, [uL166, uL69, uL212]) :: (307, [uL166, uL9, uL69, uL23, uL212, uL215]) :: (309, [uL166, uL9, uL69, (1, [(15, 1)]), uL211]) :: uG2355 :: t
def nd_717_2p : zS := ((nd_717_2pi_0 (nd_717_2pi_1 (nd_717_2pi_2 []))), (cz_710_0r_0 (cz_710_0r_1 (cz_710_0r_2 []))), (nd_717_2pc_0 (nd_717_2pc_1 [])), (nd_717_2pl_0 (nd_717_2pl_1 [])), [], (cz_710_0f_0 (cz_710_0f_1 (cz_710_0f_2 (cz_710_0f_3 [])))), (nd_717_2pg_0 (nd_717_2pg_1 [])))
def nd_717_2 : zN := (85, nd_717_2p, (7371860, [(15, (-158)), (16, (-23))]))
def nd_717_3pi_0 (t : List (Int × Int)) : List (Int × Int) := ui0 :: ui50 :: (1, 6) :: ui526 :: (0, 1) :: ui51 :: (0, 1) :: ui50 :: t
def nd_717_3pi_1 (t : List (Int × Int)) : List (Int × Int) := ui31 :: (0, 6) :: (0, 6) :: ui51 :: ui51 :: (0, 6) :: ui1229 :: ui1156 :: t
def nd_717_3pi_2 (t : List (Int × Int)) : List (Int × Int) := ui1229 :: (0, 6) :: ui199 :: ui2335 :: t
def nd_717_3pc_0 (t : List zL) : List zL := uL2334 :: uL2290 :: uL9 :: uL65 :: uL2360 :: uL216 :: (0, [(2, 1), (17, (-1))]) :: uL211 :: t
def nd_717_3pc_1 (t : List zL) : List zL := uL2358 :: t
def nd_717_3pl_0 (t : List zV) : List zV := uV2 :: uV11 :: uV12 :: uV60 :: uV358 :: uV587 :: uV1495 :: (0, 0, 0, [(17, 1)]) :: t
def nd_717_3pl_1 (t : List zV) : List zV := uV115 :: t
def nd_717_3pf_0 (t : List zFa) : List zFa := uF1865 :: (0, (false, 49, 0, []), 0, 0, 0, [(18, 1)]) :: uF2352 :: uF2082 :: uF2319 :: uF1361 :: uF1362 :: uF2002 :: t
def nd_717_3pf_1 (t : List zFa) : List zFa := uF2003 :: uF2004 :: uF2005 :: uF2006 :: uF1597 :: uF1598 :: uF2007 :: uF2008 :: t
def nd_717_3pf_2 (t : List zFa) : List zFa := uF2009 :: uF1895 :: uF2088 :: uF2320 :: uF2321 :: uF2322 :: uF2323 :: uF2324 :: t
def nd_717_3pf_3 (t : List zFa) : List zFa := uF2325 :: uF2326 :: uF2327 :: t
def nd_717_3pg_0 (t : List zTg) : List zTg := uG1868 :: uG2086 :: uG2329 :: uG2331 :: uG2328 :: uG2330 :: uG2332 :: uG2353 :: t
def nd_717_3pg_1 (t : List zTg) : List zTg := uG2354 :: uG1165 :: (304, [uL69, uL355]) :: (306, [uL166, uL9, uL69, uL23, uL355]) :: (309, [uL166, uL9, uL69, uL355, uL211]) :: (311, [uL211, uL216, uL212, uL215]) :: t
def nd_717_3p : zS := ((nd_717_3pi_0 (nd_717_3pi_1 (nd_717_3pi_2 []))), (cz_710_0r_0 (cz_710_0r_1 (cz_710_0r_2 []))), (nd_717_3pc_0 (nd_717_3pc_1 [])), (nd_717_3pl_0 (nd_717_3pl_1 [])), [], (nd_717_3pf_0 (nd_717_3pf_1 (nd_717_3pf_2 (nd_717_3pf_3 [])))), (nd_717_3pg_0 (nd_717_3pg_1 [])))
def nd_717_3 : zN := (140, nd_717_3p, (215, [(17, (-35))]))
def ns_717 : List zN := [nd_717_0, nd_717_1, nd_717_2, nd_717_3]
set_option maxRecDepth 1000000 in
theorem ca_717 : x_okA mLT1 cq_717 mTS2 mTC2 mRUp cx_717 cs_717 hs_717 ns_717 (7371963, []) 79793 37 = true := by decide +kernel
set_option maxRecDepth 1000000 in
theorem cb_717_0 : x_okB mLT1 cq_717 mTS2 mTC2 mRUp cx_717 cs_717 hs_717 ns_717 (7371963, []) 79793 37 nd_717_0 = true := by decide +kernel
set_option maxRecDepth 1000000 in
theorem cb_717_1 : x_okB mLT1 cq_717 mTS2 mTC2 mRUp cx_717 cs_717 hs_717 ns_717 (7371963, []) 79793 37 nd_717_1 = true := by decide +kernel
set_option maxRecDepth 1000000 in
theorem cb_717_2 : x_okB mLT1 cq_717 mTS2 mTC2 mRUp cx_717 cs_717 hs_717 ns_717 (7371963, []) 79793 37 nd_717_2 = true := by decide +kernel
set_option maxRecDepth 1000000 in
theorem cb_717_3 : x_okB mLT1 cq_717 mTS2 mTC2 mRUp cx_717 cs_717 hs_717 ns_717 (7371963, []) 79793 37 nd_717_3 = true := by decide +kernel
set_option maxRecDepth 1000000 in
theorem cc_717 : x_okC mLT1 cq_717 mTS2 mTC2 mRUp cx_717 cs_717 hs_717 ns_717 (7371963, []) 79793 37 = true := by decide +kernel
theorem ck_717 : x_ok mLT1 cq_717 mTS2 mTC2 mRUp cx_717 cs_717 hs_717 ns_717 (7371963, []) 79793 37 = true := x_ok_of ca_717 (List.forall_mem_cons.mpr ⟨cb_717_0, List.forall_mem_cons.mpr ⟨cb_717_1, List.forall_mem_cons.mpr ⟨cb_717_2, List.forall_mem_cons.mpr ⟨cb_717_3, fun _ h => absurd h List.not_mem_nil⟩⟩⟩⟩) cc_717
theorem sn_717 {W : Bool} {X : List Int32} : y_Snd (mGw W) mLT1 (J2 W X) X cx_717 := y_ok J2_J mTS2_ok1 mTC2_ok1 mRUp_ok1 (List.forall_mem_cons.mpr ⟨sn_703, List.forall_mem_cons.mpr ⟨sn_698, List.forall_mem_cons.mpr ⟨sn_501, List.forall_mem_cons.mpr ⟨sn_690, List.forall_mem_cons.mpr ⟨sn_708, List.forall_mem_cons.mpr ⟨sn_709, fun _ h => absurd h List.not_mem_nil⟩⟩⟩⟩⟩⟩) ck_717
/-- M.feel -/
def cx_718 : zCtx := (307, cx_707p, [cx_707q0], [], 33, 2, 44)
set_option maxRecDepth 1000000 in
theorem ck_718 : x_ok mLT1 [cx_703, cx_698] mTS2 mTC2 mRUp cx_718 [(3, [0]), (10, [1])] [] [] (10, []) 23 13 = true := by decide +kernel
theorem sn_718 {W : Bool} {X : List Int32} : y_Snd (mGw W) mLT1 (J2 W X) X cx_718 := y_ok J2_J mTS2_ok1 mTC2_ok1 mRUp_ok1 (List.forall_mem_cons.mpr ⟨sn_703, List.forall_mem_cons.mpr ⟨sn_698, fun _ h => absurd h List.not_mem_nil⟩⟩) ck_718
/-- M.feel -/
def cx_719 : zCtx := (307, cx_712p, [cx_712q0], [], 30, 2, 44)
set_option maxRecDepth 1000000 in
theorem ck_719 : x_ok mLT1 [cx_703] mTS2 mTC2 mRUp cx_719 [(3, [0])] [] [] (7, []) 23 10 = true := by decide +kernel
theorem sn_719 {W : Bool} {X : List Int32} : y_Snd (mGw W) mLT1 (J2 W X) X cx_719 := y_ok J2_J mTS2_ok1 mTC2_ok1 mRUp_ok1 (List.forall_mem_cons.mpr ⟨sn_703, fun _ h => absurd h List.not_mem_nil⟩) ck_719
/-- M.feel -/
def cx_720 : zCtx := (307, cx_713p, [cx_713q0], [], 30, 2, 44)
set_option maxRecDepth 1000000 in
theorem ck_720 : x_ok mLT1 [cx_703] mTS2 mTC2 mRUp cx_720 [(3, [0])] [] [] (7, []) 23 10 = true := by decide +kernel
theorem sn_720 {W : Bool} {X : List Int32} : y_Snd (mGw W) mLT1 (J2 W X) X cx_720 := y_ok J2_J mTS2_ok1 mTC2_ok1 mRUp_ok1 (List.forall_mem_cons.mpr ⟨sn_703, fun _ h => absurd h List.not_mem_nil⟩) ck_720
/-- M.hold -/
def cx_721 : zCtx := (308, ([ui0, ui1242, (0, 1), (0, 1), (0, 1)], [ur1299, ur1877, ur1878, ur2361], [], [], [uV2, uV11], [uF2362, uF2363, uF2364, uF2365, uF2018, uF2366], [uG1873, uG2367]), [([ui0, ui1242, (0, 1), (0, 1), (0, 1)], [ur1299, ur1877, ur1878, ur2361], [], [], [uV64], [uF2363, uF2364, uF2365], [])], [], 16, 1, 22)
set_option maxRecDepth 1000000 in
theorem ck_721 : x_ok mLT1 [cx_497] mTS2 mTC2 mRUp cx_721 [(3, [0])] [] [] (7, []) 9 10 = true := by decide +kernel
theorem sn_721 {W : Bool} {X : List Int32} : y_Snd (mGw W) mLT1 (J2 W X) X cx_721 := y_ok J2_J mTS2_ok1 mTC2_ok1 mRUp_ok1 (List.forall_mem_cons.mpr ⟨sn_497, fun _ h => absurd h List.not_mem_nil⟩) ck_721
/-- M.hold -/
def cx_722 : zCtx := (308, ([ui0, (0, 1), (0, 1), (0, 1), (0, 6), (0, 1), (0, 1), (0, 1)], [ur1299, ur1877, ur1878, ur2361], [], [], [uV2, uV64], [uF2362, uF2368, uF2369, uF2370, uF2018, uF2366], [uG1873, uG2367, uG2371, (248, [uL116, uL100])]), [([ui0, (0, 1), (0, 1), (0, 1), (0, 6), (0, 1), (0, 1), (0, 1)], [ur1299, ur1877, ur1878, ur2361], [], [], [uV66], [(1, (true, 0, 0, []), 0, 0, 1, []), uF2369, uF2370], [uG2372, uG2367, (13, [uL65]), uG2371, uG2372])], [uk2373, uk2374], 587, 1, 22)
def cq_722 : List zCtx := [cx_497]
def cs_722 : List (Nat × List Nat) := [(3, [0])]
def hs_722 : List (Nat × List Nat) := [(11, [977]), (49, [210, 1000707, 1000708, 1000709])]
def ns_722 : List zN := []
set_option maxRecDepth 1000000 in
theorem ca_722 : x_okA mLT1 cq_722 mTS2 mTC2 mRUp cx_722 cs_722 hs_722 ns_722 (578, []) 9 581 = true := by decide +kernel
set_option maxRecDepth 1000000 in
theorem cc_722 : x_okC mLT1 cq_722 mTS2 mTC2 mRUp cx_722 cs_722 hs_722 ns_722 (578, []) 9 581 = true := by decide +kernel
theorem ck_722 : x_ok mLT1 cq_722 mTS2 mTC2 mRUp cx_722 cs_722 hs_722 ns_722 (578, []) 9 581 = true := x_ok_of ca_722 (fun _ h => absurd h List.not_mem_nil) cc_722
theorem sn_722 {W : Bool} {X : List Int32} : y_Snd (mGw W) mLT1 (J2 W X) X cx_722 := y_ok J2_J mTS2_ok1 mTC2_ok1 mRUp_ok1 (List.forall_mem_cons.mpr ⟨sn_497, fun _ h => absurd h List.not_mem_nil⟩) ck_722
end
