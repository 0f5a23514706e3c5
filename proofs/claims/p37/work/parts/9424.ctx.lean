noncomputable section
/-! ===== readings, by program, checked by the kernel ===== -/
/-- M.termOf -/
def cx_514 : zCtx := (232, ([ui0, ui768, ui1761, (0, 1)], [ur1299, ur1354, ur1355, ur2031, ur2029], [uL509, uL2032, uL59], [], [uV2, uV11, uV12], [uF1622, uF1623, uF2033, uF2034, uF2035], [uG2036]), [([ui0, ui768, ui1761, (0, 1)], [ur1299, ur1354, ur1355, ur2031, ur2029], [uL509, uL2032, uL59], [], [uV64], [(0, (false, 46, 0, []), 0, 0, 1, [])], [uG2037, (231, [uL9, uL69, (2147483648, [])])]), ([ui0, ui768, ui1761, (0, 1), ui51], [ur1299, ur1354, ur1355, ur2031, ur2029], [uL509, uL2032, uL59], [], [uV99], [uF2033], [uG2037, (231, [uL9, uL69, uL100])])], [uk2038, uk2039], 66386, 0, 0)
def cz_514_0 : zS := ([ui0, ui768, ui1761, (0, 1), ui70, ui1562, ((-2147483648), 2147483648)], [ur1299, ur1354, ur1355, ur2031, ur2029], [uL509, uL2032, uL59, (0, [(1, 1), (4, 500), (5, (-1))]), uL59], [uV2, uV11, uV12, uV99, uV77, uV115, uV115, uV115], [], [uF1622, uF1623, uF2034, uF2035, uF2033], [uG2037, uG2036, (0, [uL9, uL100, uL106]), (229, [uL80, uL106, uL69, uL100]), (231, [uL9, uL69, uL80])])
set_option maxRecDepth 1000000 in
theorem ck_514 : x_ok mLT1 [] mTS2 mTC2 mRUp cx_514 [] [(3, [133, 1000641]), (11, [1000640]), (15, [264]), (59, [1000642, 1000643]), (97, [1000644]), (121, [1000637]), (135, [1000638]), (149, [1000639]), (157, [1000023]), (158, [1000645, 1000646, 1000647, 1000648, 1000649]), (159, [1000650]), (171, [1000651])] [(5, cz_514_0, (66376, [(4, 21), (5, (-79))]))] (66386, []) 0 52 = true := by decide +kernel
theorem sn_514 {W : Bool} {X : List Int32} : y_Snd (mGw W) mLT1 (J2 W X) X cx_514 := y_ok J2_J mTS2_ok1 mTC2_ok1 mRUp_ok1 (fun _ h => absurd h List.not_mem_nil) ck_514
def cx_515pr_0 (t : List (Nat × Bool)) : List (Nat × Bool) := ur1299 :: ur1356 :: ur1357 :: ur1358 :: ur1359 :: ur1360 :: ur1345 :: ur1346 :: t
def cx_515pr_1 (t : List (Nat × Bool)) : List (Nat × Bool) := ur1354 :: ur1355 :: ur2031 :: ur2029 :: t
def cx_515pf_0 (t : List zFa) : List zFa := uF1995 :: uF1589 :: uF1590 :: uF1591 :: uF1592 :: uF1593 :: uF1594 :: uF1595 :: t
def cx_515pf_1 (t : List zFa) : List zFa := uF1597 :: uF1598 :: uF2040 :: uF2041 :: t
def cx_515p : zS := ([ui0, (1, 1), (0, 1), ui31], (cx_515pr_0 (cx_515pr_1 [])), [], [], [uV2, uV64, uV11], (cx_515pf_0 (cx_515pf_1 [])), [uG2042, uG2043])
/-- M.lawTells -/
def cx_515 : zCtx := (231, cx_515p, [([ui0, (1, 1), (0, 1), ui31, ui1564, ui1564], [ur1299, ur1356, ur1357, ur1358, ur1359, ur1360, ur1345, ur1346, ur1354, ur1355, ur2031, ur2029], [uL1434, uL1433], [], [uV11], [uF2044, uF2045], [uG2046, uG2046]), ([ui0, (1, 1), (0, 1), ui31, ui51, ui2047, ui1564], [ur1299, ur1356, ur1357, ur1358, ur1359, ur1360, ur1345, ur1346, ur1354, ur1355, ur2031, ur2029], [], [], [uV99], [uF2048, uF2049], [(233, [uL69, uL65, uL9, uL100])]), ([ui0, (1, 1), (0, 1), ui31, ui1564, ui1564], [ur1299, ur1356, ur1357, ur1358, ur1359, ur1360, ur1345, ur1346, ur1354, ur1355, ur2031, ur2029], [], [], [uV64], [uF2044, uF2045], [(233, [uL69, uL65, uL9, uL65])])], [uk2038, uk2039], 77604, 1, 27)
def cz_515_0f_0 (t : List zFa) : List zFa := uF2048 :: uF2049 :: uF1995 :: uF1589 :: uF1590 :: uF1591 :: uF1592 :: uF1593 :: t
def cz_515_0f_1 (t : List zFa) : List zFa := uF1594 :: uF1595 :: uF1597 :: uF1598 :: uF2040 :: uF2041 :: uF2050 :: t
def cz_515_0 : zS := ([ui0, (1, 1), (0, 1), ui31, ui1564, ui1564, ui1564, ui51], (cx_515pr_0 (cx_515pr_1 [])), [uL2051], [uV2, uV64, uV11, (0, 0, 0, [(2, 4)]), uV99, uV115, uV115], [], (cz_515_0f_0 (cz_515_0f_1 [])), [uG2042, uG2043, uG2052, (233, [uL69, uL65, uL9, uL81])])
set_option maxRecDepth 1000000 in
theorem ck_515 : x_ok mLT1 [cx_514] mTS2 mTC2 mRUp cx_515 [(75, [0]), (95, [0]), (134, [0])] [(21, [1000655]), (24, [1000656]), (37, uN2053), (50, [12553]), (75, [1000652]), (95, [1000653]), (107, uN2054), (134, [1000654]), (146, uN2055), (150, uN2056), (153, [1000661]), (159, [1000666])] [(39, cz_515_0, ((-99999988807), [(1, 100000000000), (4, (-43))]))] (11218, []) 66386 59 = true := by decide +kernel
theorem sn_515 {W : Bool} {X : List Int32} : y_Snd (mGw W) mLT1 (J2 W X) X cx_515 := y_ok J2_J mTS2_ok1 mTC2_ok1 mRUp_ok1 (List.forall_mem_cons.mpr ⟨sn_514, fun _ h => absurd h List.not_mem_nil⟩) ck_515
/-- M.within -/
def cx_516 : zCtx := (233, ([ui0, ui51, (0, 0), ui2057], [], [], [], [uV11, uV12, uV60], [], []), [([ui0, ui265, (0, 0), ui2057], [], [uL59], [], [uV12], [], []), ([ui0, ui1159, (0, 0), ui2057], [], [uL1335, uL62], [], [uV60], [], []), ([ui0, ui586, (0, 0), ui2057], [], [uL68, uL62], [], [uV11], [], [])], [], 9, 0, 0)
set_option maxRecDepth 1000000 in
theorem ck_516 : x_ok mLT1 [] mTS2 mTC2 mRUp cx_516 [] [] [] (9, []) 0 12 = true := by decide +kernel
theorem sn_516 {W : Bool} {X : List Int32} : y_Snd (mGw W) mLT1 (J2 W X) X cx_516 := y_ok J2_J mTS2_ok1 mTC2_ok1 mRUp_ok1 (fun _ h => absurd h List.not_mem_nil) ck_516
def cx_517pi_0 (t : List (Int × Int)) : List (Int × Int) := ui0 :: (0, 5) :: (0, 1) :: ui31 :: (0, 6) :: ui51 :: ui51 :: ui51 :: t
def cx_517pi_1 (t : List (Int × Int)) : List (Int × Int) := ui51 :: ui51 :: ui51 :: t
def cx_517pr_0 (t : List (Nat × Bool)) : List (Nat × Bool) := ur1299 :: ur1345 :: ur1346 :: ur1356 :: ur1357 :: ur1358 :: ur1359 :: ur1360 :: t
def cx_517pr_1 (t : List (Nat × Bool)) : List (Nat × Bool) := ur1354 :: ur1355 :: ur1347 :: ur1462 :: ur1463 :: ur1858 :: ur2029 :: t
def cx_517pf_0 (t : List zFa) : List zFa := uF1995 :: uF1361 :: uF1362 :: uF2002 :: uF2003 :: uF2004 :: uF2005 :: uF2006 :: t
def cx_517pf_1 (t : List zFa) : List zFa := uF1597 :: uF1598 :: uF2007 :: uF2008 :: uF2009 :: uF2010 :: uF2058 :: t
def cx_517p : zS := ((cx_517pi_0 (cx_517pi_1 [])), (cx_517pr_0 (cx_517pr_1 [])), [uL766, uL9, uL565], [], [uV2, uV11], (cx_517pf_0 (cx_517pf_1 [])), [uG2042, uG2043, uG2059, uG2060, uG2061])
/-- M.growsOf -/
def cx_517 : zCtx := (228, cx_517p, [([ui0, (0, 5), (0, 1), ui31, (1, 6), ui51, ui51, ui51, ui51, ui51, ui51, ui526], [ur1299, ur1345, ur1346, ur1356, ur1357, ur1358, ur1359, ur1360, ur1354, ur1355, ur1347, ur1462, ur1463, ur1858, ur2029], [uL565, uL766, uL9], [], [uV841], [], [(238, [uL36, uL23, uL106, uL80, uL81, uL133, uL166, uL173, uL65, uL9, uL198])])], [uk2038, uk2030, uk2039], 77615, 3, 63)
set_option maxRecDepth 1000000 in
theorem ck_517 : x_ok mLT1 [cx_513, cx_515, cx_516] mTS2 mTC2 mRUp cx_517 [(2, [0]), (8, [1]), (14, [2])] [(11, uN2062), (17, uN547)] [] (11, []) 77604 14 = true := by decide +kernel
theorem sn_517 {W : Bool} {X : List Int32} : y_Snd (mGw W) mLT1 (J2 W X) X cx_517 := y_ok J2_J mTS2_ok1 mTC2_ok1 mRUp_ok1 (List.forall_mem_cons.mpr ⟨sn_513, List.forall_mem_cons.mpr ⟨sn_515, List.forall_mem_cons.mpr ⟨sn_516, fun _ h => absurd h List.not_mem_nil⟩⟩⟩) ck_517
def cx_518pi_0 (t : List (Int × Int)) : List (Int × Int) := ui0 :: (0, 5) :: (5, 5) :: (0, 1) :: ui51 :: (0, 1) :: ui31 :: (0, 6) :: t
def cx_518pi_1 (t : List (Int × Int)) : List (Int × Int) := (0, 6) :: ui51 :: ui51 :: t
def cx_518p : zS := ((cx_518pi_0 (cx_518pi_1 [])), (cx_499pr_0 (cx_499pr_1 [])), [uL2011], [], [uV2, uV11, uV12], (cx_499pf_0 (cx_499pf_1 [])), [uG2012, uG2014, uG2015, uG2016, uG2017])
def cx_518q0i_0 (t : List (Int × Int)) : List (Int × Int) := ui0 :: (0, 5) :: (5, 5) :: (0, 1) :: ui51 :: (0, 1) :: ui31 :: (0, 6) :: t
def cx_518q0i_1 (t : List (Int × Int)) : List (Int × Int) := (0, 6) :: ui51 :: ui51 :: ui51 :: t
def cx_518q0 : zS := ((cx_518q0i_0 (cx_518q0i_1 [])), (cx_499pr_0 (cx_499pr_1 [])), [uL9, uL2021], [], [uV841], [], [uG1868, uG2017, (238, [uL36, uL80, uL65, uL65, uL65, uL65, uL65, uL65, uL65, uL9, uL198])])
/-- M.house -/
def cx_518 : zCtx := (221, cx_518p, [cx_518q0, ([ui0, (0, 5), (5, 5), (0, 1), ui51, (0, 1), ui31, (0, 6), (0, 6), ui51, ui51], [ur1299, ur1345, ur1346, ur1356, ur1357, ur1358, ur1359, ur1360, ur1354, ur1355, ur1347, ur1462, ur1463, ur1858], [uL1199], [], [uV63], [], [uG2017])], [uk2038, uk1869, uk1870, uk2030, uk2039, uk1871], 77627, 4, 84)
set_option maxRecDepth 1000000 in
theorem ck_518 : x_ok mLT1 [cx_498, cx_501, cx_517] mTS2 mTC2 mRUp cx_518 [(2, [0]), (11, [1]), (118, [2])] [(14, [1000818]), (15, [1000830])] [] (12, []) 77615 15 = true := by decide +kernel
theorem sn_518 {W : Bool} {X : List Int32} : y_Snd (mGw W) mLT1 (J2 W X) X cx_518 := y_ok J2_J mTS2_ok1 mTC2_ok1 mRUp_ok1 (List.forall_mem_cons.mpr ⟨sn_498, List.forall_mem_cons.mpr ⟨sn_501, List.forall_mem_cons.mpr ⟨sn_517, fun _ h => absurd h List.not_mem_nil⟩⟩⟩) ck_518
def cx_519p : zS := ([ui0, (1, 1), (0, 1), ui31], (cx_515pr_0 (cx_515pr_1 [])), [], [], [uV2, uV66, uV11], (cx_515pf_0 (cx_515pf_1 [])), [uG2042, uG2043])
/-- M.lawTells -/
def cx_519 : zCtx := (231, cx_519p, [([ui0, (1, 1), (0, 1), ui31, ui1564, ui1564], [ur1299, ur1356, ur1357, ur1358, ur1359, ur1360, ur1345, ur1346, ur1354, ur1355, ur2031, ur2029], [uL1434, uL1433], [], [uV11], [uF2063, uF2064], [uG2065, uG2065]), ([ui0, (1, 1), (0, 1), ui31, ui51, ui2047, ui1564], [ur1299, ur1356, ur1357, ur1358, ur1359, ur1360, ur1345, ur1346, ur1354, ur1355, ur2031, ur2029], [], [], [uV99], [uF2066, uF2067], [(233, [uL69, uL67, uL9, uL100])]), ([ui0, (1, 1), (0, 1), ui31, ui1564, ui1564], [ur1299, ur1356, ur1357, ur1358, ur1359, ur1360, ur1345, ur1346, ur1354, ur1355, ur2031, ur2029], [], [], [uV64], [uF2063, uF2064], [(233, [uL69, uL67, uL9, uL65])])], [uk2038, uk2039], 77604, 1, 27)
def cz_519_0f_0 (t : List zFa) : List zFa := uF2066 :: uF2067 :: uF1995 :: uF1589 :: uF1590 :: uF1591 :: uF1592 :: uF1593 :: t
def cz_519_0f_1 (t : List zFa) : List zFa := uF1594 :: uF1595 :: uF1597 :: uF1598 :: uF2040 :: uF2041 :: uF2050 :: t
def cz_519_0 : zS := ([ui0, (1, 1), (0, 1), ui31, ui1564, ui1564, ui1564, ui51], (cx_515pr_0 (cx_515pr_1 [])), [uL2051], [uV2, uV66, uV11, (0, 0, 1, [(2, 4)]), uV99, uV115, uV115], [], (cz_519_0f_0 (cz_519_0f_1 [])), [uG2042, uG2043, uG2052, (233, [uL69, uL67, uL9, uL81])])
set_option maxRecDepth 1000000 in
theorem ck_519 : x_ok mLT1 [cx_514] mTS2 mTC2 mRUp cx_519 [(75, [0]), (95, [0]), (134, [0])] [(21, [1000655]), (24, [1000656]), (37, uN2053), (50, [12553]), (75, [1000652]), (95, [1000653]), (107, uN2054), (134, [1000654]), (146, uN2055), (150, uN2056), (153, [1000661]), (159, [1000666])] [(39, cz_519_0, ((-99999988807), [(1, 100000000000), (4, (-43))]))] (11218, []) 66386 59 = true := by decide +kernel
theorem sn_519 {W : Bool} {X : List Int32} : y_Snd (mGw W) mLT1 (J2 W X) X cx_519 := y_ok J2_J mTS2_ok1 mTC2_ok1 mRUp_ok1 (List.forall_mem_cons.mpr ⟨sn_514, fun _ h => absurd h List.not_mem_nil⟩) ck_519
/-- M.weakensOf -/
def cx_520 : zCtx := (234, cx_517p, [([ui0, (0, 5), (0, 1), ui31, (1, 6), ui51, ui51, ui51, ui51, ui51, ui51, ui526], [ur1299, ur1345, ur1346, ur1356, ur1357, ur1358, ur1359, ur1360, ur1354, ur1355, ur1347, ur1462, ur1463, ur1858, ur2029], [uL565, uL766, uL9], [], [uV841], [], [(238, [uL36, uL23, uL106, uL80, uL81, uL133, uL166, uL173, uL67, uL9, uL198])])], [uk2038, uk2030, uk2039], 77615, 3, 63)
set_option maxRecDepth 1000000 in
theorem ck_520 : x_ok mLT1 [cx_513, cx_519, cx_516] mTS2 mTC2 mRUp cx_520 [(2, [0]), (8, [1]), (14, [2])] [(11, uN2062), (17, uN547)] [] (11, []) 77604 14 = true := by decide +kernel
theorem sn_520 {W : Bool} {X : List Int32} : y_Snd (mGw W) mLT1 (J2 W X) X cx_520 := y_ok J2_J mTS2_ok1 mTC2_ok1 mRUp_ok1 (List.forall_mem_cons.mpr ⟨sn_513, List.forall_mem_cons.mpr ⟨sn_519, List.forall_mem_cons.mpr ⟨sn_516, fun _ h => absurd h List.not_mem_nil⟩⟩⟩) ck_520
def cx_521pi_0 (t : List (Int × Int)) : List (Int × Int) := ui0 :: (0, 5) :: (6, 6) :: (0, 1) :: ui51 :: (0, 1) :: ui31 :: (0, 6) :: t
def cx_521pi_1 (t : List (Int × Int)) : List (Int × Int) := (0, 6) :: ui51 :: ui51 :: t
def cx_521p : zS := ((cx_521pi_0 (cx_521pi_1 [])), (cx_499pr_0 (cx_499pr_1 [])), [uL2011], [], [uV2, uV11, uV12], (cx_499pf_0 (cx_499pf_1 [])), [uG2012, uG2014, uG2015, uG2016, uG2017])
def cx_521q0i_0 (t : List (Int × Int)) : List (Int × Int) := ui0 :: (0, 5) :: (6, 6) :: (0, 1) :: ui51 :: (0, 1) :: ui31 :: (0, 6) :: t
def cx_521q0i_1 (t : List (Int × Int)) : List (Int × Int) := (0, 6) :: ui51 :: ui51 :: ui51 :: t
def cx_521q0 : zS := ((cx_521q0i_0 (cx_521q0i_1 [])), (cx_499pr_0 (cx_499pr_1 [])), [uL9, uL2021], [], [uV841], [], [uG1868, uG2017, (238, [uL36, uL80, uL65, uL65, uL65, uL65, uL65, uL65, uL67, uL9, uL198])])
/-- M.house -/
def cx_521 : zCtx := (221, cx_521p, [cx_521q0, ([ui0, (0, 5), (6, 6), (0, 1), ui51, (0, 1), ui31, (0, 6), (0, 6), ui51, ui51], [ur1299, ur1345, ur1346, ur1356, ur1357, ur1358, ur1359, ur1360, ur1354, ur1355, ur1347, ur1462, ur1463, ur1858], [uL1199], [], [uV63], [], [uG2017])], [uk2038, uk1869, uk1870, uk2030, uk2039, uk1871], 77627, 4, 84)
set_option maxRecDepth 1000000 in
theorem ck_521 : x_ok mLT1 [cx_498, cx_501, cx_520] mTS2 mTC2 mRUp cx_521 [(2, [0]), (11, [1]), (124, [2])] [(14, [1000818]), (15, [1000830])] [] (12, []) 77615 15 = true := by decide +kernel
theorem sn_521 {W : Bool} {X : List Int32} : y_Snd (mGw W) mLT1 (J2 W X) X cx_521 := y_ok J2_J mTS2_ok1 mTC2_ok1 mRUp_ok1 (List.forall_mem_cons.mpr ⟨sn_498, List.forall_mem_cons.mpr ⟨sn_501, List.forall_mem_cons.mpr ⟨sn_520, fun _ h => absurd h List.not_mem_nil⟩⟩⟩) ck_521
def cx_522p : zS := ([ui0, ui51, (0, 1), ui31], (cx_515pr_0 (cx_515pr_1 [])), [], [], [uV2, uV387, uV11], (cx_515pf_0 (cx_515pf_1 [])), [uG2042, uG2043])
/-- M.lawTells -/
def cx_522 : zCtx := (231, cx_522p, [([ui0, ui51, (0, 1), ui31, ui1564, ui1564], [ur1299, ur1356, ur1357, ur1358, ur1359, ur1360, ur1345, ur1346, ur1354, ur1355, ur2031, ur2029], [uL1434, uL1433], [], [uV11], [uF2068, uF2069], [uG2070, uG2070]), ([ui0, ui51, (0, 1), ui31, ui51, ui2047, ui1564], [ur1299, ur1356, ur1357, ur1358, ur1359, ur1360, ur1345, ur1346, ur1354, ur1355, ur2031, ur2029], [], [], [uV99], [uF2071, uF2072], [(233, [uL69, uL214, uL9, uL100])]), ([ui0, ui51, (0, 1), ui31, ui1564, ui1564], [ur1299, ur1356, ur1357, ur1358, ur1359, ur1360, ur1345, ur1346, ur1354, ur1355, ur2031, ur2029], [], [], [uV64], [uF2068, uF2069], [(233, [uL69, uL214, uL9, uL65])])], [uk2038, uk2039], 77604, 1, 27)
def cz_522_0f_0 (t : List zFa) : List zFa := uF2071 :: uF2072 :: uF1995 :: uF1589 :: uF1590 :: uF1591 :: uF1592 :: uF1593 :: t
def cz_522_0f_1 (t : List zFa) : List zFa := uF1594 :: uF1595 :: uF1597 :: uF1598 :: uF2040 :: uF2041 :: uF2050 :: t
def cz_522_0 : zS := ([ui0, ui51, (0, 1), ui31, ui1564, ui1564, ui1564, ui51], (cx_515pr_0 (cx_515pr_1 [])), [uL2051], [uV2, uV387, uV11, (0, 0, 3, [(2, 4)]), uV99, uV115, uV115], [], (cz_522_0f_0 (cz_522_0f_1 [])), [uG2042, uG2043, uG2052, (233, [uL69, uL214, uL9, uL81])])
set_option maxRecDepth 1000000 in
theorem ck_522 : x_ok mLT1 [cx_514] mTS2 mTC2 mRUp cx_522 [(75, [0]), (95, [0]), (134, [0])] [(21, [1000655]), (24, [1000656]), (37, uN2053), (50, [12553]), (75, [1000652]), (95, [1000653]), (107, uN2054), (134, [1000654]), (146, uN2055), (150, uN2056), (153, [1000661]), (159, [1000666])] [(39, cz_522_0, (11193, [(4, (-43))]))] (11218, []) 66386 59 = true := by decide +kernel
theorem sn_522 {W : Bool} {X : List Int32} : y_Snd (mGw W) mLT1 (J2 W X) X cx_522 := y_ok J2_J mTS2_ok1 mTC2_ok1 mRUp_ok1 (List.forall_mem_cons.mpr ⟨sn_514, fun _ h => absurd h List.not_mem_nil⟩) ck_522
/-- M.costsOf -/
def cx_523 : zCtx := (235, cx_517p, [([ui0, (0, 5), (0, 1), ui31, (1, 6), ui51, ui51, ui51, ui51, ui51, ui51, ui526], [ur1299, ur1345, ur1346, ur1356, ur1357, ur1358, ur1359, ur1360, ur1354, ur1355, ur1347, ur1462, ur1463, ur1858, ur2029], [uL565, uL766, uL9], [], [uV841], [], [(238, [uL36, uL23, uL106, uL80, uL81, uL133, uL166, uL173, uL214, uL9, uL198])])], [uk2038, uk2030, uk2039], 77618, 3, 63)
set_option maxRecDepth 1000000 in
theorem ck_523 : x_ok mLT1 [cx_513, cx_522, cx_516] mTS2 mTC2 mRUp cx_523 [(2, [0]), (13, [1]), (19, [2])] [(16, [1000843, 1000842, 1000812]), (22, uN547)] [] (14, []) 77604 17 = true := by decide +kernel
theorem sn_523 {W : Bool} {X : List Int32} : y_Snd (mGw W) mLT1 (J2 W X) X cx_523 := y_ok J2_J mTS2_ok1 mTC2_ok1 mRUp_ok1 (List.forall_mem_cons.mpr ⟨sn_513, List.forall_mem_cons.mpr ⟨sn_522, List.forall_mem_cons.mpr ⟨sn_516, fun _ h => absurd h List.not_mem_nil⟩⟩⟩) ck_523
def cx_524pi_0 (t : List (Int × Int)) : List (Int × Int) := ui0 :: (0, 5) :: (7, 7) :: (0, 1) :: ui51 :: (0, 1) :: ui31 :: (0, 6) :: t
def cx_524pi_1 (t : List (Int × Int)) : List (Int × Int) := (0, 6) :: ui51 :: ui51 :: t
def cx_524p : zS := ((cx_524pi_0 (cx_524pi_1 [])), (cx_499pr_0 (cx_499pr_1 [])), [uL2011], [], [uV2, uV11, uV12], (cx_499pf_0 (cx_499pf_1 [])), [uG2012, uG2014, uG2015, uG2016, uG2017])
def cx_524q0i_0 (t : List (Int × Int)) : List (Int × Int) := ui0 :: (0, 5) :: (7, 7) :: (0, 1) :: ui51 :: (0, 1) :: ui31 :: (0, 6) :: t
def cx_524q0i_1 (t : List (Int × Int)) : List (Int × Int) := (0, 6) :: ui51 :: ui51 :: ui51 :: t
def cx_524q0 : zS := ((cx_524q0i_0 (cx_524q0i_1 [])), (cx_499pr_0 (cx_499pr_1 [])), [uL9, uL2021], [], [uV841], [], [uG1868, uG2017, (238, [uL36, uL80, uL65, uL65, uL65, uL65, uL65, uL65, uL214, uL9, uL198])])
/-- M.house -/
def cx_524 : zCtx := (221, cx_524p, [cx_524q0, ([ui0, (0, 5), (7, 7), (0, 1), ui51, (0, 1), ui31, (0, 6), (0, 6), ui51, ui51], [ur1299, ur1345, ur1346, ur1356, ur1357, ur1358, ur1359, ur1360, ur1354, ur1355, ur1347, ur1462, ur1463, ur1858], [uL1199], [], [uV63], [], [uG2017])], [uk2038, uk1869, uk1870, uk2030, uk2039, uk1871], 77630, 4, 84)
set_option maxRecDepth 1000000 in
theorem ck_524 : x_ok mLT1 [cx_498, cx_501, cx_523] mTS2 mTC2 mRUp cx_524 [(2, [0]), (11, [1]), (130, [2])] [(14, [1000818]), (15, [1000830])] [] (12, []) 77618 15 = true := by decide +kernel
theorem sn_524 {W : Bool} {X : List Int32} : y_Snd (mGw W) mLT1 (J2 W X) X cx_524 := y_ok J2_J mTS2_ok1 mTC2_ok1 mRUp_ok1 (List.forall_mem_cons.mpr ⟨sn_498, List.forall_mem_cons.mpr ⟨sn_501, List.forall_mem_cons.mpr ⟨sn_523, fun _ h => absurd h List.not_mem_nil⟩⟩⟩) ck_524
def cx_525pi_0 (t : List (Int × Int)) : List (Int × Int) := ui0 :: (0, 5) :: (8, 8) :: (0, 1) :: ui51 :: (0, 1) :: ui31 :: (0, 6) :: t
def cx_525pi_1 (t : List (Int × Int)) : List (Int × Int) := (0, 6) :: ui51 :: ui51 :: t
def cx_525p : zS := ((cx_525pi_0 (cx_525pi_1 [])), (cx_499pr_0 (cx_499pr_1 [])), [uL2011], [], [uV2, uV11, uV12], (cx_499pf_0 (cx_499pf_1 [])), [uG2012, uG2014, uG2015, uG2016, uG2017])
def cx_525q0i_0 (t : List (Int × Int)) : List (Int × Int) := ui0 :: (0, 5) :: (8, 8) :: (0, 1) :: ui51 :: (0, 1) :: ui31 :: (0, 6) :: t
def cx_525q0i_1 (t : List (Int × Int)) : List (Int × Int) := (0, 6) :: ui51 :: ui51 :: ui51 :: t
def cx_525q0 : zS := ((cx_525q0i_0 (cx_525q0i_1 [])), (cx_499pr_0 (cx_499pr_1 [])), [uL9, uL2021], [], [uV841], [], [uG1868, uG2017, (238, [uL34, uL65, uL65, uL65, uL65, uL65, uL65, uL65, uL530, uL65, uL198])])
/-- M.house -/
def cx_525 : zCtx := (221, cx_525p, [cx_525q0, ([ui0, (0, 5), (8, 8), (0, 1), ui51, (0, 1), ui31, (0, 6), (0, 6), ui51, ui51], [ur1299, ur1345, ur1346, ur1356, ur1357, ur1358, ur1359, ur1360, ur1354, ur1355, ur1347, ur1462, ur1463, ur1858], [uL1199], [], [uV63], [], [uG2017])], [uk1869, uk1870, uk1871], 460, 2, 43)
set_option maxRecDepth 1000000 in
theorem ck_525 : x_ok mLT1 [cx_498, cx_501] mTS2 mTC2 mRUp cx_525 [(2, [0]), (11, [1])] [(14, [1000818]), (143, [1000844])] [] (15, []) 445 18 = true := by decide +kernel
theorem sn_525 {W : Bool} {X : List Int32} : y_Snd (mGw W) mLT1 (J2 W X) X cx_525 := y_ok J2_J mTS2_ok1 mTC2_ok1 mRUp_ok1 (List.forall_mem_cons.mpr ⟨sn_498, List.forall_mem_cons.mpr ⟨sn_501, fun _ h => absurd h List.not_mem_nil⟩⟩) ck_525
/-- M.areTwo -/
def cx_526 : zCtx := (237, ([ui0, ui51, ui51, (0, 1), (0, 6)], [ur1299, ur1347], [], [], [uV2, uV11, uV12], [uF1999, uF1465], [uG2073]), [([ui0, (0, 4), (1, 5), (0, 1), (1, 6)], [ur1299, ur1347], [uL59, uL518, uL565], [], [uV66], [], []), ([ui0, (0, 5), (0, 5), (0, 1), (1, 6)], [ur1299, ur1347], [uL509, uL62, uL518, uL565], [], [uV64], [], []), ([ui0, (1, 5), (0, 4), (0, 1), (1, 6)], [ur1299, ur1347], [uL508, uL518, uL565], [], [uV66], [], []), ([ui0, (0, 5), ui507, (0, 1), (1, 6)], [ur1299, ur1347], [uL596, uL565], [], [uV64], [], []), ([ui0, (0, 5), ui265, (0, 1), (1, 6)], [ur1299, ur1347], [uL518, uL565], [], [uV64], [], []), ([ui0, ui512, ui51, (0, 1), (0, 6)], [ur1299, ur1347], [uL571], [], [uV64], [], []), ([ui0, ui265, ui51, (0, 1), (0, 6)], [ur1299, ur1347], [uL565], [], [uV64], [], [])], [], 34, 2, 43)
set_option maxRecDepth 1000000 in
theorem ck_526 : x_ok mLT1 [cx_498] mTS2 mTC2 mRUp cx_526 [(2, [0]), (10, [0])] [(16, [1000461])] [] (14, []) 20 17 = true := by decide +kernel
theorem sn_526 {W : Bool} {X : List Int32} : y_Snd (mGw W) mLT1 (J2 W X) X cx_526 := y_ok J2_J mTS2_ok1 mTC2_ok1 mRUp_ok1 (List.forall_mem_cons.mpr ⟨sn_498, fun _ h => absurd h List.not_mem_nil⟩) ck_526
/-- M.likeOf -/
def cx_527 : zCtx := (238, ([ui0, (0, 5), (0, 5), (0, 1)], [ur1299, ur1349], [], [], [uV2, uV11, uV12], [uF1999, (0, (false, 26, 0, []), 2, 1, 0, [])], []), [([ui0, (0, 5), (0, 5), (0, 1), ui199], [ur1299, ur1349], [], [], [uV99], [], [(84, [uL2074, uL100])])], [], 14, 0, 0)
set_option maxRecDepth 1000000 in
theorem ck_527 : x_ok mLT1 [] mTS2 mTC2 mRUp cx_527 [] [(19, [1000465])] [] (14, []) 0 17 = true := by decide +kernel
theorem sn_527 {W : Bool} {X : List Int32} : y_Snd (mGw W) mLT1 (J2 W X) X cx_527 := y_ok J2_J mTS2_ok1 mTC2_ok1 mRUp_ok1 (fun _ h => absurd h List.not_mem_nil) ck_527
/-- M.likes -/
def cx_528 : zCtx := (236, ([ui0, ui51, ui51, (0, 1), (0, 6)], [ur1299, ur1347, ur1349], [], [], [uV2, uV11, uV12], [uF1999, uF1465, (0, (false, 26, 0, []), 2, 2, 0, [])], [uG2073]), [([ui0, ui265, ui51, (0, 1), (0, 6)], [ur1299, ur1347, ur1349], [uL565], [], [uV63], [], []), ([ui0, ui512, ui51, (0, 1), (0, 6)], [ur1299, ur1347, ur1349], [uL571], [], [uV63], [], []), ([ui0, (0, 5), ui265, (0, 1), (1, 6)], [ur1299, ur1347, ur1349], [uL565, uL518], [], [uV63], [], []), ([ui0, (0, 5), ui507, (0, 1), (1, 6)], [ur1299, ur1347, ur1349], [uL565, uL596], [], [uV63], [], []), ([ui0, ui51, ui51, (0, 1), (0, 6), ui199], [ur1299, ur1347, ur1349], [uL565, uL518, uL508, uL9, uL69], [], [uV77], [], [uG2075]), ([ui0, (0, 5), (0, 5), (0, 1), (1, 6)], [ur1299, ur1347, ur1349], [uL565, uL518, uL62, uL509], [], [uV63], [], []), ([ui0, ui51, ui51, (0, 1), (0, 6), ui199], [ur1299, ur1347, ur1349], [uL565, uL518, uL59, uL9, uL69], [], [uV77], [], [uG2075])], [], 45, 3, 65)
set_option maxRecDepth 1000000 in
theorem ck_528 : x_ok mLT1 [cx_526, cx_527] mTS2 mTC2 mRUp cx_528 [(3, [0]), (12, [1])] [] [] (11, []) 34 14 = true := by decide +kernel
theorem sn_528 {W : Bool} {X : List Int32} : y_Snd (mGw W) mLT1 (J2 W X) X cx_528 := y_ok J2_J mTS2_ok1 mTC2_ok1 mRUp_ok1 (List.forall_mem_cons.mpr ⟨sn_526, List.forall_mem_cons.mpr ⟨sn_527, fun _ h => absurd h List.not_mem_nil⟩⟩) ck_528
def cx_529p : zS := ([ui0, ui2076, (0, 1), ui31], (cx_515pr_0 (cx_515pr_1 [])), [], [], [uV2, uV391, uV11], (cx_515pf_0 (cx_515pf_1 [])), [uG2042, uG2043])
/-- M.lawTells -/
def cx_529 : zCtx := (231, cx_529p, [([ui0, ui2076, (0, 1), ui31, ui1564, ui1564], [ur1299, ur1356, ur1357, ur1358, ur1359, ur1360, ur1345, ur1346, ur1354, ur1355, ur2031, ur2029], [uL1434, uL1433], [], [uV11], [uF2077, uF2078], [uG2079, uG2079]), ([ui0, ui2076, (0, 1), ui31, ui51, ui2047, ui1564], [ur1299, ur1356, ur1357, ur1358, ur1359, ur1360, ur1345, ur1346, ur1354, ur1355, ur2031, ur2029], [], [], [uV99], [uF2080, uF2081], [(233, [uL69, uL116, uL9, uL100])]), ([ui0, ui2076, (0, 1), ui31, ui1564, ui1564], [ur1299, ur1356, ur1357, ur1358, ur1359, ur1360, ur1345, ur1346, ur1354, ur1355, ur2031, ur2029], [], [], [uV64], [uF2077, uF2078], [(233, [uL69, uL116, uL9, uL65])])], [uk2038, uk2039], 77604, 1, 27)
def cz_529_0f_0 (t : List zFa) : List zFa := uF2080 :: uF2081 :: uF1995 :: uF1589 :: uF1590 :: uF1591 :: uF1592 :: uF1593 :: t
def cz_529_0f_1 (t : List zFa) : List zFa := uF1594 :: uF1595 :: uF1597 :: uF1598 :: uF2040 :: uF2041 :: uF2050 :: t
def cz_529_0 : zS := ([ui0, ui2076, (0, 1), ui31, ui1564, ui1564, ui1564, ui51], (cx_515pr_0 (cx_515pr_1 [])), [uL2051], [uV2, uV391, uV11, (0, 0, 2, [(2, 4)]), uV99, uV115, uV115], [], (cz_529_0f_0 (cz_529_0f_1 [])), [uG2042, uG2043, uG2052, (233, [uL69, uL116, uL9, uL81])])
set_option maxRecDepth 1000000 in
theorem ck_529 : x_ok mLT1 [cx_514] mTS2 mTC2 mRUp cx_529 [(75, [0]), (95, [0]), (134, [0])] [(21, [1000655]), (24, [1000656]), (37, uN2053), (50, [12553]), (75, [1000652]), (95, [1000653]), (107, uN2054), (134, [1000654]), (146, uN2055), (150, uN2056), (153, [1000661]), (159, [1000666])] [(39, cz_529_0, (11193, [(4, (-43))]))] (11218, []) 66386 59 = true := by decide +kernel
theorem sn_529 {W : Bool} {X : List Int32} : y_Snd (mGw W) mLT1 (J2 W X) X cx_529 := y_ok J2_J mTS2_ok1 mTC2_ok1 mRUp_ok1 (List.forall_mem_cons.mpr ⟨sn_514, fun _ h => absurd h List.not_mem_nil⟩) ck_529
def cx_530pi_0 (t : List (Int × Int)) : List (Int × Int) := ui0 :: (0, 5) :: (0, 5) :: ui199 :: (0, 1) :: ui31 :: (0, 6) :: ui51 :: t
def cx_530pi_1 (t : List (Int × Int)) : List (Int × Int) := ui51 :: ui51 :: ui51 :: ui51 :: ui51 :: t
def cx_530pf_0 (t : List zFa) : List zFa := uF2082 :: uF1361 :: uF1362 :: uF2002 :: uF2003 :: uF2004 :: uF2005 :: uF2006 :: t
def cx_530pf_1 (t : List zFa) : List zFa := uF1597 :: uF1598 :: uF2007 :: uF2008 :: uF2009 :: uF2010 :: uF2058 :: t
def cx_530p : zS := ((cx_530pi_0 (cx_530pi_1 [])), (cx_517pr_0 (cx_517pr_1 [])), [uL2083, uL9, uL2084, uL69, uL2085], [], [uV2, uV11, uV12, uV60], (cx_530pf_0 (cx_530pf_1 [])), [uG2086, uG2087, (85, [uL100, uL80, uL1640]), (200, [uL100, uL1640, uL67, uL80]), (237, [uL80, uL106, uL81, uL133, uL166, uL173, uL198, uL217]), uG576])
def cx_530q0i_0 (t : List (Int × Int)) : List (Int × Int) := ui0 :: (0, 5) :: (0, 5) :: ui199 :: (0, 1) :: ui31 :: (1, 6) :: ui51 :: t
def cx_530q0i_1 (t : List (Int × Int)) : List (Int × Int) := ui51 :: ui51 :: ui51 :: ui51 :: ui51 :: ui586 :: t
def cx_530q0 : zS := ((cx_530q0i_0 (cx_530q0i_1 [])), (cx_517pr_0 (cx_517pr_1 [])), [uL2085, uL2084, uL2083, uL9, uL69], [], [uV411], [], [(238, [uL249, uL106, uL81, uL133, uL166, uL173, uL198, uL217, uL9, uL69, uL210])])
/-- M.joinsBy -/
def cx_530 : zCtx := (241, cx_530p, [cx_530q0], [uk2038, uk2030, uk2039], 77629, 3, 63)
set_option maxRecDepth 1000000 in
theorem ck_530 : x_ok mLT1 [cx_513, cx_512, cx_529, cx_516] mTS2 mTC2 mRUp cx_530 [(2, [0]), (20, [1]), (30, [2]), (37, [3])] [(33, [1000851, 1000852, 1000846]), (40, uN588)] [] (25, []) 77604 28 = true := by decide +kernel
theorem sn_530 {W : Bool} {X : List Int32} : y_Snd (mGw W) mLT1 (J2 W X) X cx_530 := y_ok J2_J mTS2_ok1 mTC2_ok1 mRUp_ok1 (List.forall_mem_cons.mpr ⟨sn_513, List.forall_mem_cons.mpr ⟨sn_512, List.forall_mem_cons.mpr ⟨sn_529, List.forall_mem_cons.mpr ⟨sn_516, fun _ h => absurd h List.not_mem_nil⟩⟩⟩⟩) ck_530
def cx_531pi_0 (t : List (Int × Int)) : List (Int × Int) := ui0 :: (0, 5) :: (0, 5) :: (0, 1) :: ui31 :: (0, 6) :: ui51 :: ui51 :: t
def cx_531pi_1 (t : List (Int × Int)) : List (Int × Int) := ui51 :: ui51 :: ui51 :: ui51 :: t
def cx_531pr_0 (t : List (Nat × Bool)) : List (Nat × Bool) := ur1299 :: ur1345 :: ur1346 :: ur1356 :: ur1357 :: ur1358 :: ur1359 :: ur1360 :: t
def cx_531pr_1 (t : List (Nat × Bool)) : List (Nat × Bool) := ur1354 :: ur1355 :: ur1347 :: ur1462 :: ur1463 :: ur1349 :: ur1858 :: t
def cx_531pf_0 (t : List zFa) : List zFa := uF1999 :: uF1361 :: uF1362 :: uF2002 :: uF2003 :: uF2004 :: uF2005 :: uF2006 :: t
def cx_531pf_1 (t : List zFa) : List zFa := uF1597 :: uF1598 :: uF2007 :: uF2008 :: uF2009 :: uF1895 :: uF2088 :: t
def cx_531p : zS := ((cx_531pi_0 (cx_531pi_1 [])), (cx_531pr_0 (cx_531pr_1 [])), [uL578, uL9, uL579, uL69, uL580], [], [uV2, uV11, uV12], (cx_531pf_0 (cx_531pf_1 [])), [uG2012, uG2089, (85, [uL23, uL106, uL2013]), (200, [uL23, uL2013, uL67, uL106]), uG2090, (237, [uL106, uL100, uL80, uL81, uL133, uL166, uL173, uL198])])
def cx_531q0i_0 (t : List (Int × Int)) : List (Int × Int) := ui0 :: (0, 5) :: (0, 5) :: (0, 1) :: ui31 :: (1, 6) :: ui51 :: ui51 :: t
def cx_531q0i_1 (t : List (Int × Int)) : List (Int × Int) := ui51 :: ui51 :: ui51 :: ui51 :: ui586 :: t
def cx_531q0 : zS := ((cx_531q0i_0 (cx_531q0i_1 [])), (cx_531pr_0 (cx_531pr_1 [])), [uL579, uL580, uL578, uL9, uL69], [], [uV201], [], [(238, [uL249, uL100, uL80, uL81, uL133, uL166, uL173, uL198, uL9, uL69, uL217])])
/-- M.joinsOf -/
def cx_531 : zCtx := (240, cx_531p, [cx_531q0], [uk2038, uk2030, uk2039], 77638, 4, 86)
set_option maxRecDepth 1000000 in
theorem ck_531 : x_ok mLT1 [cx_527, cx_530] mTS2 mTC2 mRUp cx_531 [(6, [0]), (9, [1])] [(9, [1000850])] [] (9, []) 77629 12 = true := by decide +kernel
theorem sn_531 {W : Bool} {X : List Int32} : y_Snd (mGw W) mLT1 (J2 W X) X cx_531 := y_ok J2_J mTS2_ok1 mTC2_ok1 mRUp_ok1 (List.forall_mem_cons.mpr ⟨sn_527, List.forall_mem_cons.mpr ⟨sn_530, fun _ h => absurd h List.not_mem_nil⟩⟩) ck_531
def cx_532pf_0 (t : List zFa) : List zFa := uF1999 :: uF2000 :: uF2001 :: uF1361 :: uF1362 :: uF2002 :: uF2003 :: uF2004 :: t
def cx_532pf_1 (t : List zFa) : List zFa := uF2005 :: uF2006 :: uF1597 :: uF1598 :: uF2007 :: uF2008 :: uF2009 :: uF1895 :: t
def cx_532pf_2 (t : List zFa) : List zFa := uF2088 :: t
def cx_532p : zS := ((cx_499pi_0 (cx_499pi_1 [])), (cx_531pr_0 (cx_531pr_1 [])), [uL2011], [], [uV2, uV11, uV12], (cx_532pf_0 (cx_532pf_1 (cx_532pf_2 []))), [uG2012, uG2014, uG2015, uG2016, uG2090, uG2017])
def cx_532q4i_0 (t : List (Int × Int)) : List (Int × Int) := ui0 :: ui51 :: ui51 :: (0, 1) :: ui51 :: (0, 1) :: ui31 :: (0, 6) :: t
def cx_532q4i_1 (t : List (Int × Int)) : List (Int × Int) := (0, 6) :: ui51 :: ui51 :: ui586 :: t
def cx_532q4 : zS := ((cx_532q4i_0 (cx_532q4i_1 [])), (cx_531pr_0 (cx_531pr_1 [])), [uL9, uL2021, uL69, uL2091, uL508], [], [uV841], [], [uG2092, uG2017])
def cx_532q5 : zS := ((cx_499pi_0 (cx_499pi_1 [])), (cx_531pr_0 (cx_531pr_1 [])), [uL9, uL2021, uL69, uL2091, uL62, uL509], [], [uV63], [], [uG2017])
def cx_532q6 : zS := ((cx_532q4i_0 (cx_532q4i_1 [])), (cx_531pr_0 (cx_531pr_1 [])), [uL9, uL2021, uL69, uL2091, uL59], [], [uV841], [], [uG2092, uG2017])
/-- M.joins -/
def cx_532 : zCtx := (239, cx_532p, [([ui0, ui51, ui51, (0, 1), ui51, (0, 1), ui31, (0, 6), (0, 6), ui51, ui51], [ur1299, ur1345, ur1346, ur1356, ur1357, ur1358, ur1359, ur1360, ur1354, ur1355, ur1347, ur1462, ur1463, ur1349, ur1858], [uL570], [], [uV63], [], [uG2017]), ([ui0, ui51, ui51, (0, 1), ui51, (0, 1), ui31, (0, 6), (0, 6), ui51, ui51], [ur1299, ur1345, ur1346, ur1356, ur1357, ur1358, ur1359, ur1360, ur1354, ur1355, ur1347, ur1462, ur1463, ur1349, ur1858], [uL1199], [], [uV63], [], [uG2017]), ([ui0, ui51, ui51, (0, 1), ui51, (0, 1), ui31, (0, 6), (0, 6), ui51, ui51], [ur1299, ur1345, ur1346, ur1356, ur1357, ur1358, ur1359, ur1360, ur1354, ur1355, ur1347, ur1462, ur1463, ur1349, ur1858], [uL597], [], [uV63], [], [uG2017]), ([ui0, ui51, ui51, (0, 1), ui51, (0, 1), ui31, (0, 6), (0, 6), ui51, ui51], [ur1299, ur1345, ur1346, ur1356, ur1357, ur1358, ur1359, ur1360, ur1354, ur1355, ur1347, ur1462, ur1463, ur1349, ur1858], [uL1178], [], [uV63], [], [uG2017]), cx_532q4, cx_532q5, cx_532q6], [uk2038, uk1869, uk1870, uk2030, uk2039, uk1871], 77650, 5, 108)
set_option maxRecDepth 1000000 in
theorem ck_532 : x_ok mLT1 [cx_526, cx_501, cx_531] mTS2 mTC2 mRUp cx_532 [(3, [0]), (12, [1]), (18, [2])] [(15, uN2093)] [] (12, []) 77638 15 = true := by decide +kernel
theorem sn_532 {W : Bool} {X : List Int32} : y_Snd (mGw W) mLT1 (J2 W X) X cx_532 := y_ok J2_J mTS2_ok1 mTC2_ok1 mRUp_ok1 (List.forall_mem_cons.mpr ⟨sn_526, List.forall_mem_cons.mpr ⟨sn_501, List.forall_mem_cons.mpr ⟨sn_531, fun _ h => absurd h List.not_mem_nil⟩⟩⟩) ck_532
/-- M.at -/
def cx_533 : zCtx := (242, ([ui0, ui512, (0, 1), (0, 6), (0, 6), ui51, ui51], [ur1299, ur1347, ur1878], [uL513, uL571], [], [uV2, uV11], [uF1995, uF1465, uF2018], [uG1997, uG604]), [([ui0, ui512, (0, 1), (0, 6), (0, 6), ui51, ui51], [ur1299, ur1347, ur1878], [], [], [uV63], [], [uG604])], [], 21, 1, 22)
set_option maxRecDepth 1000000 in
theorem ck_533 : x_ok mLT1 [cx_497] mTS2 mTC2 mRUp cx_533 [(11, [0])] [(9, [1000853]), (17, [1000855]), (29, [1000854])] [] (12, []) 9 15 = true := by decide +kernel
theorem sn_533 {W : Bool} {X : List Int32} : y_Snd (mGw W) mLT1 (J2 W X) X cx_533 := y_ok J2_J mTS2_ok1 mTC2_ok1 mRUp_ok1 (List.forall_mem_cons.mpr ⟨sn_497, fun _ h => absurd h List.not_mem_nil⟩) ck_533
/-- M.at -/
def cx_534 : zCtx := (242, ([ui0, (0, 5), (0, 1), (0, 6), (0, 6), ui51, ui51, (0, 5)], [ur1299, ur1347, ur1878], [uL513, uL9, uL565], [], [uV2, uV11], [uF1995, uF1465, uF2018], [uG1997, uG604, uG605]), [([ui0, (0, 5), (0, 1), (0, 6), (0, 6), ui51, ui51, (0, 5)], [ur1299, ur1347, ur1878], [], [], [uV144], [], [uG604])], [], 27, 1, 22)
set_option maxRecDepth 1000000 in
theorem ck_534 : x_ok mLT1 [cx_497] mTS2 mTC2 mRUp cx_534 [(11, [0])] [(9, [1000853]), (17, [1000855]), (26, [1000856, 1000857]), (29, [1000854])] [] (18, []) 9 21 = true := by decide +kernel
theorem sn_534 {W : Bool} {X : List Int32} : y_Snd (mGw W) mLT1 (J2 W X) X cx_534 := y_ok J2_J mTS2_ok1 mTC2_ok1 mRUp_ok1 (List.forall_mem_cons.mpr ⟨sn_497, fun _ h => absurd h List.not_mem_nil⟩) ck_534
/-- M.at -/
def cx_535 : zCtx := (242, ([ui0, ui265, (0, 1), (0, 6), (0, 6), ui51, ui51], [ur1299, ur1347, ur1878], [uL513, uL570], [], [uV2, uV11], [uF1995, uF1465, uF2018], [uG1997, uG604]), [([ui0, ui265, (0, 1), (0, 6), (0, 6), ui51, ui51], [ur1299, ur1347, ur1878], [], [], [uV63], [], [uG604])], [], 21, 1, 22)
set_option maxRecDepth 1000000 in
theorem ck_535 : x_ok mLT1 [cx_497] mTS2 mTC2 mRUp cx_535 [(11, [0])] [(9, [1000853]), (29, [1000854])] [] (12, []) 9 15 = true := by decide +kernel
theorem sn_535 {W : Bool} {X : List Int32} : y_Snd (mGw W) mLT1 (J2 W X) X cx_535 := y_ok J2_J mTS2_ok1 mTC2_ok1 mRUp_ok1 (List.forall_mem_cons.mpr ⟨sn_497, fun _ h => absurd h List.not_mem_nil⟩) ck_535
/-- M.copies -/
def cx_536 : zCtx := (224, ([ui0, (0, 1), ui51, (0, 1), ui199], [ur1299, ur1858, ur1878, ur1353], [], [], [uV2], [uF1859, uF1860, uF1861, uF1862, uF2018, uF2019, uF1864], [uG1873]), [([ui0, (0, 1), ui51, (0, 1), ui199, (0, 6)], [ur1299, ur1858, ur1878, ur1353], [], [], [], [uF1865, uF2000, uF2020], [uG1872, uG1867, uG1868, uG1872])], [uk1869, uk1870, uk1871], 445, 0, 0)
def cq_536 : List zCtx := []
def cs_536 : List (Nat × List Nat) := []
def hs_536 : List (Nat × List Nat) := [(0, [81]), (26, [82, 1000698])]
def ns_536 : List zN := []
set_option maxRecDepth 1000000 in
theorem ca_536 : x_okA mLT1 cq_536 mTS2 mTC2 mRUp cx_536 cs_536 hs_536 ns_536 (445, []) 0 448 = true := by decide +kernel
set_option maxRecDepth 1000000 in
theorem cc_536 : x_okC mLT1 cq_536 mTS2 mTC2 mRUp cx_536 cs_536 hs_536 ns_536 (445, []) 0 448 = true := by decide +kernel
theorem ck_536 : x_ok mLT1 cq_536 mTS2 mTC2 mRUp cx_536 cs_536 hs_536 ns_536 (445, []) 0 448 = true := x_ok_of ca_536 (fun _ h => absurd h List.not_mem_nil) cc_536
theorem sn_536 {W : Bool} {X : List Int32} : y_Snd (mGw W) mLT1 (J2 W X) X cx_536 := y_ok J2_J mTS2_ok1 mTC2_ok1 mRUp_ok1 (fun _ h => absurd h List.not_mem_nil) ck_536
end
