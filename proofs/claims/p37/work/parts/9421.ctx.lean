noncomputable section
/-! ===== readings, by program, checked by the kernel ===== -/
/-- M.is -/
def cx_480 : zCtx := (202, ([ui0, ui1459, (0, 2), ui1311], [ur1299, ur1313], [], [], [uV2, uV1782], [uF1389, uF1390, uF1239, uF1391], []), [([ui0, ui1459, (0, 0), ui1783], [ur1299, ur1313], [], [], [uV66], [], []), ([ui0, ui1459, (0, 0), ui1784], [ur1299, ur1313], [], [], [uV64], [], []), ([ui0, ui1459, (0, 0), (14, 41)], [ur1299, ur1313], [], [], [uV64], [], []), ([ui0, ui1459, (1, 2), ui1311], [ur1299, ur1313], [], [], [uV64], [], [])], [], 13, 0, 0)
set_option maxRecDepth 1000000 in
theorem ck_480 : x_ok mLT1 [] mTS2 mTC2 mRUp cx_480 [] [] [] (13, []) 0 16 = true := by decide +kernel
theorem sn_480 {W : Bool} {X : List Int32} : y_Snd (mGw W) mLT1 (J2 W X) X cx_480 := y_ok J2_J mTS2_ok1 mTC2_ok1 mRUp_ok1 (fun _ h => absurd h List.not_mem_nil) ck_480
/-- M.must -/
def cx_481 : zCtx := (208, ([ui0, ui1459, (1, 2), ui54, ui54], [ur1299], [], [], [uV2, uV1782], [uF1389, uF1390, uF1392, uF181], [uG1460]), [([ui0, ui1459, (1, 2), ui54, ui54], [ur1299], [], [], [], [], [])], [], 21, 1, 21)
set_option maxRecDepth 1000000 in
theorem ck_481 : x_ok mLT1 [cx_480, cx_414] mTS2 mTC2 mRUp cx_481 [(2, [0]), (17, [1])] [(15, uN1425)] [] (8, []) 13 11 = true := by decide +kernel
theorem sn_481 {W : Bool} {X : List Int32} : y_Snd (mGw W) mLT1 (J2 W X) X cx_481 := y_ok J2_J mTS2_ok1 mTC2_ok1 mRUp_ok1 (List.forall_mem_cons.mpr ⟨sn_480, List.forall_mem_cons.mpr ⟨sn_414, fun _ h => absurd h List.not_mem_nil⟩⟩) ck_481
def cx_482p : zS := ([ui0, ui1785, (0, 0), ui54, ui54, ui1311, ui54], [ur1299, ur1313, ur1314, ur1315, ur1316], [uL289], [], [uV2, uV1782], (cx_406pf_0 (cx_406pf_1 [])), [uG1401, uG1402, (62, [uL100, uL9, uL269, uL106, uL80])])
/-- M.must -/
def cx_482 : zCtx := (208, cx_482p, [([ui0, ui1785, (0, 0), ui54, ui54, ui1311, ui54, (1, 2)], [ur1299, ur1313, ur1314, ur1315, ur1316], [uL65], [], [], [uF1404, uF1421, uF1389], [uG1422]), ([ui0, (4, 399), (0, 0), ui54, ui54, ui1783, ui54], [ur1299, ur1313, ur1314, ur1315, ur1316], [uL67, ((-13), [(5, 1)]), (13, [(5, (-1))]), uL65, uL65], [], [], [uF1406, uF1390, uF1392], [uG1407, uG1403, uG1407])], [uk1408, uk1397, uk1398], 33, 2, 41)
set_option maxRecDepth 1000000 in
theorem ck_482 : x_ok mLT1 [cx_480, cx_406, cx_409] mTS2 mTC2 mRUp cx_482 [(2, [0]), (9, [1]), (17, [2])] [(9, [1000243]), (15, uN1425)] [] (8, []) 25 11 = true := by decide +kernel
theorem sn_482 {W : Bool} {X : List Int32} : y_Snd (mGw W) mLT1 (J2 W X) X cx_482 := y_ok J2_J mTS2_ok1 mTC2_ok1 mRUp_ok1 (List.forall_mem_cons.mpr ⟨sn_480, List.forall_mem_cons.mpr ⟨sn_406, List.forall_mem_cons.mpr ⟨sn_409, fun _ h => absurd h List.not_mem_nil⟩⟩⟩) ck_482
/-- M.is -/
def cx_483 : zCtx := (202, ([ui0, ui1459, (0, 2), ui1311], [ur1299, ur1313], [], [], [uV2, uV1786], [uF1389, uF1390, uF1239, uF1391], []), [([ui0, ui1459, (0, 0), ui1787], [ur1299, ur1313], [], [], [uV66], [], []), ([ui0, ui1459, (0, 0), (0, 30)], [ur1299, ur1313], [], [], [uV64], [], []), ([ui0, ui1459, (0, 0), (32, 41)], [ur1299, ur1313], [], [], [uV64], [], []), ([ui0, ui1459, (1, 2), ui1311], [ur1299, ur1313], [], [], [uV64], [], [])], [], 13, 0, 0)
set_option maxRecDepth 1000000 in
theorem ck_483 : x_ok mLT1 [] mTS2 mTC2 mRUp cx_483 [] [] [] (13, []) 0 16 = true := by decide +kernel
theorem sn_483 {W : Bool} {X : List Int32} : y_Snd (mGw W) mLT1 (J2 W X) X cx_483 := y_ok J2_J mTS2_ok1 mTC2_ok1 mRUp_ok1 (fun _ h => absurd h List.not_mem_nil) ck_483
/-- M.must -/
def cx_484 : zCtx := (208, ([ui0, ui1459, (1, 2), ui54, ui54], [ur1299], [], [], [uV2, uV1786], [uF1389, uF1390, uF1392, uF181], [uG1460]), [([ui0, ui1459, (1, 2), ui54, ui54], [ur1299], [], [], [], [], [])], [], 21, 1, 21)
set_option maxRecDepth 1000000 in
theorem ck_484 : x_ok mLT1 [cx_483, cx_414] mTS2 mTC2 mRUp cx_484 [(2, [0]), (17, [1])] [(15, uN1425)] [] (8, []) 13 11 = true := by decide +kernel
theorem sn_484 {W : Bool} {X : List Int32} : y_Snd (mGw W) mLT1 (J2 W X) X cx_484 := y_ok J2_J mTS2_ok1 mTC2_ok1 mRUp_ok1 (List.forall_mem_cons.mpr ⟨sn_483, List.forall_mem_cons.mpr ⟨sn_414, fun _ h => absurd h List.not_mem_nil⟩⟩) ck_484
def cx_485p : zS := ([ui0, ui1788, (0, 0), ui54, ui54, ui1311, ui54], [ur1299, ur1313, ur1314, ur1315, ur1316], [uL634], [], [uV2, uV1786], (cx_406pf_0 (cx_406pf_1 [])), [uG1401, uG1402, (62, [uL100, uL9, uL527, uL106, uL80])])
/-- M.must -/
def cx_485 : zCtx := (208, cx_485p, [([ui0, ui1788, (0, 0), ui54, ui54, ui1311, ui54, (1, 2)], [ur1299, ur1313, ur1314, ur1315, ur1316], [uL65], [], [], [uF1404, uF1421, uF1389], [uG1422]), ([ui0, (6, 399), (0, 0), ui54, ui54, ui1787, ui54], [ur1299, ur1313, ur1314, ur1315, ur1316], [uL67, ((-31), [(5, 1)]), (31, [(5, (-1))]), uL65, uL65], [], [], [uF1406, uF1390, uF1392], [uG1407, uG1403, uG1407])], [uk1408, uk1397, uk1398], 33, 2, 41)
set_option maxRecDepth 1000000 in
theorem ck_485 : x_ok mLT1 [cx_483, cx_406, cx_409] mTS2 mTC2 mRUp cx_485 [(2, [0]), (9, [1]), (17, [2])] [(9, [1000243]), (15, uN1425)] [] (8, []) 25 11 = true := by decide +kernel
theorem sn_485 {W : Bool} {X : List Int32} : y_Snd (mGw W) mLT1 (J2 W X) X cx_485 := y_ok J2_J mTS2_ok1 mTC2_ok1 mRUp_ok1 (List.forall_mem_cons.mpr ⟨sn_483, List.forall_mem_cons.mpr ⟨sn_406, List.forall_mem_cons.mpr ⟨sn_409, fun _ h => absurd h List.not_mem_nil⟩⟩⟩) ck_485
def cx_486pi_0 (t : List (Int × Int)) : List (Int × Int) := ui0 :: ui408 :: (0, 0) :: (0, 0) :: ui54 :: ui1561 :: ui768 :: ui1563 :: t
def cx_486pi_1 (t : List (Int × Int)) : List (Int × Int) := (0, 1) :: ui1564 :: (0, 2) :: ui1562 :: ui1562 :: ui54 :: ui306 :: (0, 6) :: t
def cx_486pi_2 (t : List (Int × Int)) : List (Int × Int) := (0, 1) :: ui50 :: (0, 5) :: ui54 :: ui70 :: (0, 1) :: ui31 :: t
def cx_486pr_0 (t : List (Nat × Bool)) : List (Nat × Bool) := ur1299 :: ur1359 :: ur1360 :: ur1313 :: ur1314 :: ur1315 :: ur1316 :: ur1348 :: t
def cx_486pr_1 (t : List (Nat × Bool)) : List (Nat × Bool) := ur1354 :: ur1355 :: ur1345 :: ur1346 :: ur1356 :: ur1357 :: ur1358 :: t
def cx_486pf_0 (t : List zFa) : List zFa := uF1389 :: uF1565 :: uF1410 :: uF1395 :: uF1566 :: uF1567 :: uF1568 :: uF1569 :: t
def cx_486pf_1 (t : List zFa) : List zFa := uF1570 :: uF1596 :: (0, (false, 5, 0, []), 2, 3, 0, []) :: (0, (false, 6, 0, []), 2, 4, 0, []) :: (0, (false, 7, 0, []), 2, 5, 0, []) :: uF1236 :: uF1723 :: uF1724 :: t
def cx_486pf_2 (t : List zFa) : List zFa := uF1789 :: uF1790 :: uF1726 :: uF1727 :: uF1597 :: uF1598 :: (0, (false, 31, 0, []), 2, 10, 0, []) :: (0, (false, 32, 0, []), 2, 11, 0, []) :: t
def cx_486pf_3 (t : List zFa) : List zFa := uF1372 :: uF1373 :: uF1374 :: t
def cx_486pg_0 (t : List zTg) : List zTg := uG1791 :: uG1737 :: uG1738 :: (216, [uL210, uL9, uL133, uL80, uL65, uL106, uL65]) :: uG1792 :: t
def cx_486p : zS := ((cx_486pi_0 (cx_486pi_1 (cx_486pi_2 []))), (cx_486pr_0 (cx_486pr_1 [])), [uL1572, uL65, ((-2), [(1, 1), (6, (-1)), (8, 420)]), uL1740], [], [uV2], (cx_486pf_0 (cx_486pf_1 (cx_486pf_2 (cx_486pf_3 [])))), (cx_486pg_0 []))
def cx_486q0i_0 (t : List (Int × Int)) : List (Int × Int) := ui0 :: ui1445 :: (0, 0) :: (0, 0) :: ui54 :: ui1561 :: ui1582 :: ui1563 :: t
def cx_486q0i_1 (t : List (Int × Int)) : List (Int × Int) := (0, 1) :: ui1564 :: (0, 2) :: ui1562 :: ui1562 :: ui54 :: ui306 :: (0, 6) :: t
def cx_486q0i_2 (t : List (Int × Int)) : List (Int × Int) := (0, 1) :: ui50 :: (0, 5) :: ui54 :: ui70 :: (0, 1) :: ui31 :: ui1704 :: t
def cx_486q0i_3 (t : List (Int × Int)) : List (Int × Int) := (0, 0) :: ui1459 :: ui1563 :: t
def cx_486q0f_0 (t : List zFa) : List zFa := uF1576 :: uF1793 :: uF1750 :: uF1794 :: uF1752 :: uF1410 :: uF1395 :: uF1790 :: t
def cx_486q0f_1 (t : List zFa) : List zFa := uF1790 :: uF1565 :: uF1577 :: uF1790 :: t
def cx_486q0g_0 (t : List zTg) : List zTg := uG1791 :: uG1792 :: (0, [uL80, uL67, uL1651]) :: uG1756 :: (40, [uL210, uL1653, uL211, uL67, uL69, uL212, uL216, uL279, uL355, uL410]) :: (71, [uL210, uL1653]) :: (216, [uL210, uL1653, uL133, uL1651, uL1655, uL106, uL36]) :: t
def cx_486q0 : zS := ((cx_486q0i_0 (cx_486q0i_1 (cx_486q0i_2 (cx_486q0i_3 [])))), (cx_486pr_0 (cx_486pr_1 [])), [((-2), [(8, 420), (23, (-1)), (25, 1)]), (0, [(1, (-1)), (6, 1), (23, (-1)), (25, 1)]), ((-1), [(1, (-1)), (25, 1)]), (0, [(6, (-1)), (23, 1)]), uL1759], [], [], (cx_486q0f_0 (cx_486q0f_1 [])), (cx_486q0g_0 []))
def cx_486q1i_0 (t : List (Int × Int)) : List (Int × Int) := ui0 :: ui408 :: (0, 0) :: (0, 0) :: ui54 :: ui1561 :: ui768 :: ui1563 :: t
def cx_486q1i_1 (t : List (Int × Int)) : List (Int × Int) := (0, 1) :: ui1564 :: (0, 2) :: ui1562 :: ui1562 :: ui54 :: ui306 :: (0, 6) :: t
def cx_486q1i_2 (t : List (Int × Int)) : List (Int × Int) := (0, 1) :: ui50 :: (0, 5) :: ui54 :: ui70 :: (0, 1) :: ui31 :: ui1562 :: t
def cx_486q1i_3 (t : List (Int × Int)) : List (Int × Int) := ui54 :: (1, 2) :: ui408 :: ui427 :: (0, 7) :: t
def cx_486q1f_0 (t : List zFa) : List zFa := uF1576 :: uF1793 :: uF1742 :: uF1743 :: uF1744 :: uF1794 :: uF1790 :: (0, (false, 43, 0, []), 0, 0, 0, [(27, 1)]) :: t
def cx_486q1f_1 (t : List zFa) : List zFa := (0, (false, 12, 0, []), 0, 0, 0, [(28, 1)]) :: uF1790 :: uF1577 :: uF1790 :: t
def cx_486q1 : zS := ((cx_486q1i_0 (cx_486q1i_1 (cx_486q1i_2 (cx_486q1i_3 [])))), (cx_486pr_0 (cx_486pr_1 [])), [uL1741], [], [], (cx_486q1f_0 (cx_486q1f_1 [])), [uG1791, uG1792, uG1747])
/-- M.term -/
def cx_486 : zCtx := (219, cx_486p, [cx_486q0, cx_486q1], kc_76, 14189250, 4, 83)
set_option maxRecDepth 1000000 in
theorem ck_486 : x_ok mLT1 [cx_479] mTS2 mTC2 mRUp cx_486 [(21, [0])] [(0, [1000610])] [] (26, []) 14189224 29 = true := by decide +kernel
theorem sn_486 {W : Bool} {X : List Int32} : y_Snd (mGw W) mLT1 (J2 W X) X cx_486 := y_ok J2_J mTS2_ok1 mTC2_ok1 mRUp_ok1 (List.forall_mem_cons.mpr ⟨sn_479, fun _ h => absurd h List.not_mem_nil⟩) ck_486
/-- M.is -/
def cx_487 : zCtx := (202, ([ui0, ui1459, (0, 2), ui1311], [ur1299, ur1313], [], [], [uV2, uV1795], [uF1389, uF1390, uF1239, uF1391], []), [([ui0, ui1459, (0, 0), ui1796], [ur1299, ur1313], [], [], [uV66], [], []), ([ui0, ui1459, (0, 0), (0, 31)], [ur1299, ur1313], [], [], [uV64], [], []), ([ui0, ui1459, (0, 0), (33, 41)], [ur1299, ur1313], [], [], [uV64], [], []), ([ui0, ui1459, (1, 2), ui1311], [ur1299, ur1313], [], [], [uV64], [], [])], [], 13, 0, 0)
set_option maxRecDepth 1000000 in
theorem ck_487 : x_ok mLT1 [] mTS2 mTC2 mRUp cx_487 [] [] [] (13, []) 0 16 = true := by decide +kernel
theorem sn_487 {W : Bool} {X : List Int32} : y_Snd (mGw W) mLT1 (J2 W X) X cx_487 := y_ok J2_J mTS2_ok1 mTC2_ok1 mRUp_ok1 (fun _ h => absurd h List.not_mem_nil) ck_487
/-- M.must -/
def cx_488 : zCtx := (208, ([ui0, ui1459, (1, 2), ui54, ui54], [ur1299], [], [], [uV2, uV1795], [uF1389, uF1390, uF1392, uF181], [uG1460]), [([ui0, ui1459, (1, 2), ui54, ui54], [ur1299], [], [], [], [], [])], [], 21, 1, 21)
set_option maxRecDepth 1000000 in
theorem ck_488 : x_ok mLT1 [cx_487, cx_414] mTS2 mTC2 mRUp cx_488 [(2, [0]), (17, [1])] [(15, uN1425)] [] (8, []) 13 11 = true := by decide +kernel
theorem sn_488 {W : Bool} {X : List Int32} : y_Snd (mGw W) mLT1 (J2 W X) X cx_488 := y_ok J2_J mTS2_ok1 mTC2_ok1 mRUp_ok1 (List.forall_mem_cons.mpr ⟨sn_487, List.forall_mem_cons.mpr ⟨sn_414, fun _ h => absurd h List.not_mem_nil⟩⟩) ck_488
def cx_489p : zS := ([ui0, ui1797, (0, 0), ui54, ui54, ui1311, ui54], [ur1299, ur1313, ur1314, ur1315, ur1316], [uL527], [], [uV2, uV1795], (cx_406pf_0 (cx_406pf_1 [])), [uG1401, uG1402, (62, [uL100, uL9, uL629, uL106, uL80])])
/-- M.must -/
def cx_489 : zCtx := (208, cx_489p, [([ui0, ui1797, (0, 0), ui54, ui54, ui1311, ui54, (1, 2)], [ur1299, ur1313, ur1314, ur1315, ur1316], [uL65], [], [], [uF1404, uF1421, uF1389], [uG1422]), ([ui0, (8, 399), (0, 0), ui54, ui54, ui1796, ui54], [ur1299, ur1313, ur1314, ur1315, ur1316], [uL67, ((-32), [(5, 1)]), (32, [(5, (-1))]), uL65, uL65], [], [], [uF1406, uF1390, uF1392], [uG1407, uG1403, uG1407])], [uk1408, uk1397, uk1398], 33, 2, 41)
set_option maxRecDepth 1000000 in
theorem ck_489 : x_ok mLT1 [cx_487, cx_406, cx_409] mTS2 mTC2 mRUp cx_489 [(2, [0]), (9, [1]), (17, [2])] [(9, [1000243]), (15, uN1425)] [] (8, []) 25 11 = true := by decide +kernel
theorem sn_489 {W : Bool} {X : List Int32} : y_Snd (mGw W) mLT1 (J2 W X) X cx_489 := y_ok J2_J mTS2_ok1 mTC2_ok1 mRUp_ok1 (List.forall_mem_cons.mpr ⟨sn_487, List.forall_mem_cons.mpr ⟨sn_406, List.forall_mem_cons.mpr ⟨sn_409, fun _ h => absurd h List.not_mem_nil⟩⟩⟩) ck_489
def cx_490pi_0 (t : List (Int × Int)) : List (Int × Int) := ui0 :: (0, 3) :: ui350 :: (0, 0) :: (0, 0) :: ui54 :: (0, 1) :: ui1581 :: t
def cx_490pi_1 (t : List (Int × Int)) : List (Int × Int) := ui1582 :: ui1563 :: (0, 2) :: ui1562 :: ui1562 :: ui54 :: (0, 6) :: ui50 :: t
def cx_490pi_2 (t : List (Int × Int)) : List (Int × Int) := (0, 5) :: ui54 :: ui70 :: ui54 :: (0, 6) :: ui50 :: (0, 5) :: ui51 :: t
def cx_490pi_3 (t : List (Int × Int)) : List (Int × Int) := (0, 1) :: ui31 :: t
def cx_490pr_0 (t : List (Nat × Bool)) : List (Nat × Bool) := ur1299 :: ur1356 :: ur1357 :: ur1358 :: ur1359 :: ur1360 :: ur1345 :: ur1346 :: t
def cx_490pr_1 (t : List (Nat × Bool)) : List (Nat × Bool) := ur1313 :: ur1314 :: ur1315 :: ur1316 :: ur1348 :: ur1461 :: ur1354 :: ur1355 :: t
def cx_490pf_0 (t : List zFa) : List zFa := uF1409 :: uF1583 :: uF1584 :: uF1585 :: uF1464 :: uF1586 :: uF1587 :: uF1588 :: t
def cx_490pf_1 (t : List zFa) : List zFa := uF1589 :: uF1590 :: uF1591 :: uF1592 :: uF1593 :: uF1594 :: uF1595 :: uF1596 :: t
def cx_490pf_2 (t : List zFa) : List zFa := uF1798 :: uF1799 :: uF1800 :: uF460 :: uF1801 :: uF1802 :: uF1803 :: uF1804 :: t
def cx_490pf_3 (t : List zFa) : List zFa := uF1805 :: uF1806 :: uF1807 :: uF1808 :: t
def cx_490pg_0 (t : List zTg) : List zTg := uG1599 :: uG1809 :: uG1810 :: uG1811 :: (216, [uL210, uL69, uL80, uL133, uL65, uL81, uL65]) :: uG1812 :: uG1813 :: uG1814 :: t
def cx_490p : zS := ((cx_490pi_0 (cx_490pi_1 (cx_490pi_2 (cx_490pi_3 [])))), (cx_490pr_0 (cx_490pr_1 [])), [((-1), [(2, 1), (6, 420), (8, (-1))]), ((-1), [(2, 1), (6, 520), (7, (-4))]), uL151], [], [uV2, uV11], (cx_490pf_0 (cx_490pf_1 (cx_490pf_2 (cx_490pf_3 [])))), (cx_490pg_0 []))
def cx_490q0i_0 (t : List (Int × Int)) : List (Int × Int) := ui0 :: (0, 3) :: ui350 :: (0, 0) :: (0, 0) :: ui54 :: (0, 1) :: ui1581 :: t
def cx_490q0i_1 (t : List (Int × Int)) : List (Int × Int) := ui1582 :: ui1563 :: (0, 2) :: ui1562 :: ui1562 :: ui54 :: (0, 6) :: ui50 :: t
def cx_490q0i_2 (t : List (Int × Int)) : List (Int × Int) := (0, 5) :: ui54 :: ui70 :: ui54 :: (0, 6) :: ui50 :: (0, 5) :: ui51 :: t
def cx_490q0i_3 (t : List (Int × Int)) : List (Int × Int) := (0, 1) :: ui31 :: ui1815 :: ui54 :: (1, 2) :: ui350 :: (0, 7) :: ui1562 :: t
def cx_490q0i_4 (t : List (Int × Int)) : List (Int × Int) := ui1563 :: ui1564 :: ui1564 :: ui1562 :: (0, 2) :: ui1562 :: ui1562 :: t
def cx_490q0 : zS := ((cx_490q0i_0 (cx_490q0i_1 (cx_490q0i_2 (cx_490q0i_3 (cx_490q0i_4 []))))), (cx_490pr_0 (cx_490pr_1 [])), [(0, [(2, (-1)), (29, 1)])], [], [], [(0, (false, 33, 0, []), 0, 0, 0, [(26, 1)]), (0, (false, 14, 0, []), 0, 0, 0, [(27, 1)]), (0, (false, 13, 0, []), 0, 0, 0, [(28, 1)]), (0, (false, 11, 0, []), 0, 0, 0, [(29, 1)]), (0, (false, 12, 0, []), 0, 0, 0, [(30, 1)]), (0, (false, 39, 0, []), 0, 0, 0, [(31, 1)]), (0, (false, 43, 0, []), 0, 0, 0, [(32, 1)]), uF1803], [uG1814, (3, [uL80, uL1816, uL1817, uL1818, uL1819, uL1820, uL1821]), (41, [uL210, uL1661, uL1656])])
def cx_490q1i_0 (t : List (Int × Int)) : List (Int × Int) := ui0 :: (0, 3) :: ui1423 :: (0, 0) :: (0, 0) :: ui54 :: (0, 1) :: ui1581 :: t
def cx_490q1i_1 (t : List (Int × Int)) : List (Int × Int) := ui1582 :: ui1563 :: (0, 2) :: ui1562 :: ui1562 :: ui54 :: (0, 6) :: ui50 :: t
def cx_490q1i_2 (t : List (Int × Int)) : List (Int × Int) := (0, 5) :: ui54 :: ui70 :: ui54 :: (0, 6) :: ui50 :: (0, 5) :: ui51 :: t
def cx_490q1i_3 (t : List (Int × Int)) : List (Int × Int) := (0, 1) :: ui31 :: ui1785 :: (1, 230) :: (0, 0) :: ui1704 :: (0, 2) :: ui1562 :: t
def cx_490q1i_4 (t : List (Int × Int)) : List (Int × Int) := ui1562 :: t
def cx_490q1f_0 (t : List zFa) : List zFa := uF1744 :: uF1584 :: uF1585 :: (0, (false, 33, 0, []), 0, 0, 0, [(27, 1)]) :: uF1746 :: uF1822 :: uF1803 :: uF1803 :: t
def cx_490q1f_1 (t : List zFa) : List zFa := uF1583 :: uF1803 :: uF1803 :: t
def cx_490q1g_0 (t : List zTg) : List zTg := uG1814 :: uG1823 :: uG1824 :: uG1825 :: (3, [uL80, uL1656, uL1656, uL1660, uL1780, uL1826, uL1827]) :: uG1748 :: (40, [uL210, uL1655, uL65, uL65, uL65, uL211, uL212, uL215, uL216, (1, [(18, 1)])]) :: (64, [uL210, uL1655, uL211]) :: t
def cx_490q1g_1 (t : List zTg) : List zTg := (216, [uL210, uL1655, uL80, uL1660, uL65, uL1656, uL65]) :: t
def cx_490q1 : zS := ((cx_490q1i_0 (cx_490q1i_1 (cx_490q1i_2 (cx_490q1i_3 (cx_490q1i_4 []))))), (cx_490pr_0 (cx_490pr_1 [])), [(0, [(6, 420), (26, 1), (29, (-1))]), (0, [(6, 520), (26, 1), (27, (-4))]), uL1754, ((-1), [(2, (-1)), (26, 1)])], [], [], (cx_490q1f_0 (cx_490q1f_1 [])), (cx_490q1g_0 (cx_490q1g_1 [])))
/-- M.tellLaw -/
def cx_490 : zCtx := (214, cx_490p, [cx_490q0, cx_490q1], kc_77, 14197530, 5, 103)
def cq_490 : List zCtx := [cx_451, cx_452, cx_405, cx_406, cx_453, cx_479, cx_481, cx_482, cx_484, cx_485, cx_449, cx_486, cx_488, cx_489, cx_423, cx_424]
def cs_490 : List (Nat × List Nat) := [(2, [0]), (22, [1]), (35, [2]), (50, [3]), (77, [4, 5]), (83, [6, 7]), (107, [5]), (113, [8, 9]), (117, [10, 11]), (123, [12, 13]), (140, [10, 11]), (145, [14, 15])]
def hs_490 : List (Nat × List Nat) := [(0, uN1601), (5, uN1602), (19, [1000246]), (33, [1000378]), (49, [1000379]), (53, [1000380, 1000381, 1000596, 35, 1000610, 1000611]), (80, [11, 740, 741, 35, 1000246, 1000382, 1000612]), (86, [1000383, 1000384, 1000597]), (110, [12, 740, 741, 35, 1000246, 1000385, 1000612]), (116, [1000386, 1000387, 1000598]), (117, [35]), (120, [13, 740, 741, 35, 1000246, 1000388, 1000612]), (126, [1000389, 1000390, 1000599]), (129, [1000600, 1000391, 1000392, 35, 1000610, 1000611]), (140, [35]), (143, [13, 740, 741, 1000246, 1000393, 1000612]), (148, uN1603), (156, [1000601]), (170, [1000602]), (187, [14, 1000302, 1000603])]
def nd_490_0pi_0 (t : List (Int × Int)) : List (Int × Int) := ui0 :: (0, 3) :: ui1423 :: (0, 0) :: (0, 0) :: ui54 :: (0, 1) :: ui1581 :: t
def nd_490_0pi_1 (t : List (Int × Int)) : List (Int × Int) := ui1582 :: ui1563 :: (0, 2) :: ui1562 :: ui1562 :: ui54 :: (0, 6) :: ui50 :: t
def nd_490_0pi_2 (t : List (Int × Int)) : List (Int × Int) := (0, 5) :: ui54 :: ui70 :: ui54 :: (0, 6) :: ui50 :: (0, 5) :: ui51 :: t
def nd_490_0pi_3 (t : List (Int × Int)) : List (Int × Int) := (0, 1) :: ui31 :: (0, 4) :: ui408 :: ui1581 :: ui1582 :: ui1563 :: (0, 2) :: t
def nd_490_0pi_4 (t : List (Int × Int)) : List (Int × Int) := ui1562 :: ui1562 :: ui70 :: ui409 :: (0, 6) :: ui50 :: (0, 5) :: ui51 :: t
def nd_490_0pf_0 (t : List zFa) : List zFa := (0, (false, 11, 0, []), 0, 0, 0, [(27, 1)]) :: uF1584 :: uF1585 :: uF1583 :: uF1464 :: (0, (false, 33, 0, []), 0, 0, 0, [(28, 1)]) :: uF1822 :: (0, (false, 43, 0, []), 0, 0, 0, [(30, 1)]) :: t
def nd_490_0pf_1 (t : List zFa) : List zFa := uF1589 :: uF1590 :: uF1591 :: uF1592 :: uF1593 :: uF1594 :: uF1595 :: uF1596 :: t
def nd_490_0pf_2 (t : List zFa) : List zFa := uF1798 :: uF1799 :: uF1800 :: uF460 :: uF1801 :: uF1802 :: uF1803 :: uF1804 :: t
def nd_490_0pf_3 (t : List zFa) : List zFa := uF1805 :: uF1806 :: uF1807 :: uF1808 :: t
def nd_490_0pg_0 (t : List zTg) : List zTg := uG1823 :: uG1824 :: uG1825 :: uG1809 :: uG1810 :: uG1811 :: uG1812 :: uG1813 :: t
def nd_490_0pg_1 (t : List zTg) : List zTg := uG1814 :: (3, [uL80, uL81, uL1661, uL1660, uL1826, uL1827, uL1816]) :: (58, [uL210, uL1656]) :: (40, [uL210, uL1656, (30, [(26, 1)]), uL65, uL65, uL211, uL212, uL215, uL216, uL279]) :: (216, [uL210, uL1656, uL80, uL1660, uL65, uL1661, uL65]) :: (222, [uL210, uL1817, uL80, uL9, uL81]) :: (40, [uL210, uL1817, uL1818, uL65, uL65, uL1819, uL1820, uL1821, uL1828, uL279]) :: t
def nd_490_0p : zS := ((nd_490_0pi_0 (nd_490_0pi_1 (nd_490_0pi_2 (nd_490_0pi_3 (nd_490_0pi_4 []))))), (cx_490pr_0 (cx_490pr_1 [])), [((-2), [(6, 420), (27, 1), (29, (-1))]), ((-2), [(6, 520), (27, 1), (28, (-4))]), uL1765], [uV2, uV11, uV144, (0, 0, 0, [(26, 1)])], [], (nd_490_0pf_0 (nd_490_0pf_1 (nd_490_0pf_2 (nd_490_0pf_3 [])))), (nd_490_0pg_0 (nd_490_0pg_1 [])))
def nd_490_0 : zN := (12, nd_490_0p, ((-3000000000000), [(3, (-3000000000000)), (4, (-3000000000000)), (26, (-1680)), (35, 100000000267)]))
def ns_490 : List zN := [nd_490_0]
set_option maxRecDepth 1000000 in
theorem ca_490 : x_okA mLT1 cq_490 mTS2 mTC2 mRUp cx_490 cs_490 hs_490 ns_490 (8280, []) 14189250 76 = true := by decide +kernel
set_option maxRecDepth 1000000 in
theorem cb_490_0 : x_okB mLT1 cq_490 mTS2 mTC2 mRUp cx_490 cs_490 hs_490 ns_490 (8280, []) 14189250 76 nd_490_0 = true := by decide +kernel
set_option maxRecDepth 1000000 in
theorem cc_490 : x_okC mLT1 cq_490 mTS2 mTC2 mRUp cx_490 cs_490 hs_490 ns_490 (8280, []) 14189250 76 = true := by decide +kernel
theorem ck_490 : x_ok mLT1 cq_490 mTS2 mTC2 mRUp cx_490 cs_490 hs_490 ns_490 (8280, []) 14189250 76 = true := x_ok_of ca_490 (List.forall_mem_cons.mpr ⟨cb_490_0, fun _ h => absurd h List.not_mem_nil⟩) cc_490
theorem sn_490 {W : Bool} {X : List Int32} : y_Snd (mGw W) mLT1 (J2 W X) X cx_490 := y_ok J2_J mTS2_ok1 mTC2_ok1 mRUp_ok1 (List.forall_mem_cons.mpr ⟨sn_451, List.forall_mem_cons.mpr ⟨sn_452, List.forall_mem_cons.mpr ⟨sn_405, List.forall_mem_cons.mpr ⟨sn_406, List.forall_mem_cons.mpr ⟨sn_453, List.forall_mem_cons.mpr ⟨sn_479, List.forall_mem_cons.mpr ⟨sn_481, List.forall_mem_cons.mpr ⟨sn_482, List.forall_mem_cons.mpr ⟨sn_484, List.forall_mem_cons.mpr ⟨sn_485, List.forall_mem_cons.mpr ⟨sn_449, List.forall_mem_cons.mpr ⟨sn_486, List.forall_mem_cons.mpr ⟨sn_488, List.forall_mem_cons.mpr ⟨sn_489, List.forall_mem_cons.mpr ⟨sn_423, List.forall_mem_cons.mpr ⟨sn_424, fun _ h => absurd h List.not_mem_nil⟩⟩⟩⟩⟩⟩⟩⟩⟩⟩⟩⟩⟩⟩⟩⟩) ck_490
def cx_491pi_0 (t : List (Int × Int)) : List (Int × Int) := ui0 :: ui70 :: (0, 0) :: (0, 0) :: ui54 :: (0, 5) :: ui54 :: (0, 1) :: t
def cx_491pi_1 (t : List (Int × Int)) : List (Int × Int) := (0, 6) :: ui1581 :: ui1582 :: ui1563 :: (0, 2) :: ui1562 :: ui1562 :: ui54 :: t
def cx_491pi_2 (t : List (Int × Int)) : List (Int × Int) := ui50 :: ui70 :: ui1311 :: ui54 :: (0, 1) :: (0, 6) :: ui199 :: ui199 :: t
def cx_491pi_3 (t : List (Int × Int)) : List (Int × Int) := ui199 :: ui199 :: ui199 :: ui199 :: ui199 :: ui199 :: (0, 1) :: (0, 6) :: t
def cx_491pi_4 (t : List (Int × Int)) : List (Int × Int) := (0, 1) :: ui31 :: t
def cx_491pr_0 (t : List (Nat × Bool)) : List (Nat × Bool) := ur1299 :: ur1347 :: ur1313 :: ur1314 :: ur1315 :: ur1316 :: ur1348 :: ur1461 :: t
def cx_491pr_1 (t : List (Nat × Bool)) : List (Nat × Bool) := ur1349 :: ur1350 :: ur1351 :: ur1352 :: ur1353 :: ur1462 :: ur1463 :: ur1354 :: t
def cx_491pr_2 (t : List (Nat × Bool)) : List (Nat × Bool) := ur1355 :: ur1345 :: ur1346 :: ur1356 :: ur1357 :: ur1358 :: ur1359 :: ur1360 :: t
def cx_491pf_0 (t : List zFa) : List zFa := uF1389 :: uF1565 :: uF1410 :: uF1395 :: (0, (false, 15, 0, []), 0, 0, 0, [(5, 1)]) :: (0, (false, 16, 0, []), 0, 0, 0, [(6, 1)]) :: (0, (false, 19, 0, []), 0, 0, 0, [(7, 1)]) :: uF1829 :: t
def cx_491pf_1 (t : List zFa) : List zFa := (0, (false, 33, 0, []), 0, 0, 0, [(9, 1)]) :: (0, (false, 39, 0, []), 0, 0, 0, [(10, 1)]) :: (0, (false, 43, 0, []), 0, 0, 0, [(11, 1)]) :: uF1465 :: uF1830 :: uF1571 :: uF1191 :: uF1192 :: t
def cx_491pf_2 (t : List zFa) : List zFa := uF1329 :: uF1330 :: uF1467 :: uF1831 :: uF1469 :: (2, (true, 0, 0, [(1, 1)]), 0, 0, 0, [(18, 1)]) :: (3, (true, 0, 0, [(1, 1)]), 0, 0, 0, [(19, 1)]) :: (0, (false, 26, 0, []), 2, 8, 0, []) :: t
def cx_491pf_3 (t : List zFa) : List zFa := (0, (false, 27, 0, []), 2, 9, 0, []) :: (9, (true, 0, 0, [(7, 1)]), 0, 0, 0, [(22, 1)]) :: (0, (false, 28, 0, []), 2, 10, 0, []) :: (10, (true, 0, 0, [(7, 1)]), 0, 0, 0, [(23, 1)]) :: (0, (false, 29, 0, []), 2, 11, 0, []) :: (11, (true, 0, 0, [(7, 1)]), 0, 0, 0, [(24, 1)]) :: (0, (false, 30, 0, []), 2, 12, 0, []) :: (12, (true, 0, 0, [(7, 1)]), 0, 0, 0, [(25, 1)]) :: t
def cx_491pf_4 (t : List zFa) : List zFa := (0, (false, 23, 0, []), 2, 13, 0, []) :: (0, (false, 24, 0, []), 2, 14, 0, []) :: (0, (false, 40, 0, []), 2, 15, 0, []) :: (0, (false, 41, 0, []), 2, 16, 0, []) :: (0, (false, 31, 0, []), 2, 17, 0, []) :: (0, (false, 32, 0, []), 2, 18, 0, []) :: (0, (false, 34, 0, []), 2, 19, 0, []) :: (0, (false, 35, 0, []), 2, 20, 0, []) :: t
def cx_491pf_5 (t : List zFa) : List zFa := (0, (false, 36, 0, []), 2, 21, 0, []) :: (0, (false, 37, 0, []), 2, 22, 0, []) :: (0, (false, 38, 0, []), 2, 23, 0, []) :: t
def cx_491pg_0 (t : List zTg) : List zTg := (3, [uL81, uL166, uL166, uL173, uL217, uL210, uL211]) :: uG1648 :: (40, [uL212, uL9, uL65, uL65, uL65, uL133, uL215, uL106, uL80, uL216]) :: (64, [uL212, uL9, uL133]) :: uG1832 :: (78, [uL212, uL9, uL81]) :: uG1833 :: (86, [uL212, uL9, uL268, uL1650]) :: t
def cx_491pg_1 (t : List zTg) : List zTg := (86, [uL212, uL9, uL285, uL1651]) :: (86, [uL212, uL9, uL287, uL1652]) :: (86, [uL212, uL9, uL289, uL1653]) :: uG1834 :: uG1835 :: uG1836 :: uG1837 :: uG1838 :: t
def cx_491pg_2 (t : List zTg) : List zTg := (95, [uL212, uL9, uL133, uL81, (0, [(7, 6), (8, 1)])]) :: (216, [uL212, uL9, uL81, uL173, uL65, uL166, uL65]) :: uG1839 :: t
def cx_491p : zS := ((cx_491pi_0 (cx_491pi_1 (cx_491pi_2 (cx_491pi_3 (cx_491pi_4 []))))), (cx_491pr_0 (cx_491pr_1 (cx_491pr_2 []))), [(0, [(1, 1), (7, 420), (10, (-1))]), (0, [(1, 1), (7, 520), (9, (-4))]), ((-1), [(18, 1)])], [], [uV2], (cx_491pf_0 (cx_491pf_1 (cx_491pf_2 (cx_491pf_3 (cx_491pf_4 (cx_491pf_5 [])))))), (cx_491pg_0 (cx_491pg_1 (cx_491pg_2 []))))
def cx_491q0i_0 (t : List (Int × Int)) : List (Int × Int) := ui0 :: ui70 :: (0, 0) :: (0, 0) :: ui54 :: (0, 5) :: ui54 :: (0, 1) :: t
def cx_491q0i_1 (t : List (Int × Int)) : List (Int × Int) := (0, 6) :: ui1581 :: ui1582 :: ui1563 :: (0, 2) :: ui1562 :: ui1562 :: ui54 :: t
def cx_491q0i_2 (t : List (Int × Int)) : List (Int × Int) := ui50 :: ui70 :: ui1311 :: ui54 :: (0, 1) :: (0, 6) :: ui199 :: ui199 :: t
def cx_491q0i_3 (t : List (Int × Int)) : List (Int × Int) := ui199 :: ui199 :: ui199 :: ui199 :: ui199 :: ui199 :: (0, 1) :: (0, 6) :: t
def cx_491q0i_4 (t : List (Int × Int)) : List (Int × Int) := (0, 1) :: ui31 :: ui54 :: (1, 2) :: ui70 :: (0, 7) :: (0, 5) :: ui54 :: t
def cx_491q0i_5 (t : List (Int × Int)) : List (Int × Int) := ui1815 :: ui1562 :: ui1563 :: ui1564 :: ui1564 :: ui1562 :: (0, 2) :: ui1562 :: t
def cx_491q0i_6 (t : List (Int × Int)) : List (Int × Int) := ui1562 :: t
def cx_491q0f_0 (t : List zFa) : List zFa := (0, (false, 14, 0, []), 0, 0, 0, [(34, 1)]) :: (0, (false, 13, 0, []), 0, 0, 0, [(35, 1)]) :: uF1840 :: uF1831 :: uF1831 :: (0, (false, 12, 0, []), 0, 0, 0, [(37, 1)]) :: uF1841 :: uF1842 :: t
def cx_491q0f_1 (t : List zFa) : List zFa := uF1829 :: uF1843 :: uF1844 :: uF1845 :: uF1831 :: uF1830 :: t
def cx_491q0g_0 (t : List zTg) : List zTg := uG1846 :: uG1832 :: uG1833 :: uG1834 :: uG1835 :: uG1836 :: uG1837 :: uG1838 :: t
def cx_491q0g_1 (t : List zTg) : List zTg := uG1839 :: (3, [uL81, uL1847, uL1848, uL1849, uL1850, uL1851, uL1852]) :: (41, [uL212, uL1818, uL1817]) :: uG1832 :: uG1833 :: uG1834 :: uG1835 :: uG1836 :: t
def cx_491q0g_2 (t : List zTg) : List zTg := uG1837 :: uG1838 :: t
def cx_491q0 : zS := ((cx_491q0i_0 (cx_491q0i_1 (cx_491q0i_2 (cx_491q0i_3 (cx_491q0i_4 (cx_491q0i_5 (cx_491q0i_6 []))))))), (cx_491pr_0 (cx_491pr_1 (cx_491pr_2 []))), [(0, [(1, (-1)), (36, 1)])], [], [], (cx_491q0f_0 (cx_491q0f_1 [])), (cx_491q0g_0 (cx_491q0g_1 (cx_491q0g_2 []))))
def cx_491q1i_0 (t : List (Int × Int)) : List (Int × Int) := ui0 :: ui407 :: (0, 0) :: (0, 0) :: ui54 :: (0, 5) :: ui54 :: (0, 1) :: t
def cx_491q1i_1 (t : List (Int × Int)) : List (Int × Int) := (0, 6) :: ui1581 :: ui1582 :: ui1563 :: (0, 2) :: ui1562 :: ui1562 :: ui54 :: t
def cx_491q1i_2 (t : List (Int × Int)) : List (Int × Int) := ui50 :: ui70 :: ui1853 :: ui54 :: (0, 1) :: (0, 6) :: ui199 :: ui199 :: t
def cx_491q1i_3 (t : List (Int × Int)) : List (Int × Int) := ui199 :: ui199 :: ui199 :: ui199 :: ui199 :: ui199 :: (0, 1) :: (0, 6) :: t
def cx_491q1i_4 (t : List (Int × Int)) : List (Int × Int) := (0, 1) :: ui31 :: ui199 :: ui1459 :: ui50 :: (0, 5) :: ui54 :: (0, 6) :: t
def cx_491q1i_5 (t : List (Int × Int)) : List (Int × Int) := ui1581 :: ui1582 :: ui1563 :: ui199 :: ui199 :: ui199 :: (0, 2) :: ui1562 :: t
def cx_491q1i_6 (t : List (Int × Int)) : List (Int × Int) := ui1562 :: t
def cx_491q1f_0 (t : List zFa) : List zFa := (12, (true, 0, 0, [(7, 1)]), 0, 0, 0, [(34, 1)]) :: (0, (false, 11, 0, []), 0, 0, 0, [(35, 1)]) :: uF1410 :: uF1395 :: uF1854 :: uF1854 :: uF1565 :: (0, (false, 15, 0, []), 0, 0, 0, [(37, 1)]) :: t
def cx_491q1f_1 (t : List zFa) : List zFa := (0, (false, 16, 0, []), 0, 0, 0, [(38, 1)]) :: uF1855 :: uF1843 :: uF1844 :: uF1845 :: uF1854 :: (9, (true, 0, 0, [(7, 1)]), 0, 0, 0, [(43, 1)]) :: (10, (true, 0, 0, [(7, 1)]), 0, 0, 0, [(44, 1)]) :: t
def cx_491q1f_2 (t : List zFa) : List zFa := (11, (true, 0, 0, [(7, 1)]), 0, 0, 0, [(45, 1)]) :: (1, (true, 0, 0, [(7, 1)]), 0, 0, 0, [(39, 1)]) :: t
def cx_491q1g_0 (t : List zTg) : List zTg := (58, [uL212, uL1490]) :: uG1659 :: (68, [uL212, uL9, uL355]) :: uG1846 :: uG1832 :: uG1833 :: uG1834 :: uG1835 :: t
def cx_491q1g_1 (t : List zTg) : List zTg := uG1836 :: uG1837 :: uG1838 :: uG1839 :: (3, [uL81, uL1856, uL1856, uL1857, uL1850, uL1851, uL1852]) :: (58, [uL212, uL1818]) :: (40, [uL212, uL1818, uL65, uL65, uL65, uL1828, uL1819, uL1820, uL1821, (1, [(17, 1)])]) :: (64, [uL212, uL1818, uL1828]) :: t
def cx_491q1g_2 (t : List zTg) : List zTg := uG1832 :: (78, [uL212, uL1818, uL81]) :: uG1833 :: (86, [uL212, uL1818, uL268, uL1847]) :: (86, [uL212, uL1818, uL285, uL1848]) :: (86, [uL212, uL1818, uL287, uL1849]) :: (86, [uL212, uL1818, uL289, uL1817]) :: uG1834 :: t
def cx_491q1g_3 (t : List zTg) : List zTg := uG1835 :: uG1836 :: uG1837 :: uG1838 :: (95, [uL212, uL1818, uL1828, uL81, (0, [(7, 6), (39, 1)])]) :: (216, [uL212, uL1818, uL81, uL1857, uL65, uL1856, uL65]) :: t
def cx_491q1 : zS := ((cx_491q1i_0 (cx_491q1i_1 (cx_491q1i_2 (cx_491q1i_3 (cx_491q1i_4 (cx_491q1i_5 (cx_491q1i_6 []))))))), (cx_491pr_0 (cx_491pr_1 (cx_491pr_2 []))), [(0, [(1, (-1)), (35, 1)]), (0, [(7, 420), (35, 1), (41, (-1))]), (0, [(7, 520), (35, 1), (40, (-4))]), ((-1000), [(1, (-1000)), (35, 1000)])], [], [], (cx_491q1f_0 (cx_491q1f_1 (cx_491q1f_2 []))), (cx_491q1g_0 (cx_491q1g_1 (cx_491q1g_2 (cx_491q1g_3 [])))))
/-- M.tellOne -/
def cx_491 : zCtx := (203, cx_491p, [cx_491q0, cx_491q1], kc_78, 14197562, 6, 126)
def cq_491 : List zCtx := [cx_407, cx_425, cx_426, cx_435, cx_437, cx_440, cx_443, cx_446, cx_409, cx_406, cx_450, cx_490]
def cs_491 : List (Nat × List Nat) := [(76, [0]), (87, [1]), (105, [2]), (116, [3]), (134, [4]), (153, [5]), (172, [6]), (192, [7]), (232, [8]), (244, [9]), (249, [10, 11])]
def hs_491 : List (Nat × List Nat) := [(0, [1000246]), (65, [1000401]), (79, [740, 1000395, 1000396, 1000302, 1000397, 1000520]), (90, [740]), (94, [1000402]), (108, [740, 1000398, 1000399, 1000302, 1000400, 1000453]), (119, [740]), (137, [740]), (156, [740]), (175, [740]), (195, [740]), (230, [1000403, 1000404]), (235, [740]), (243, [1000405, 1000610]), (247, [740, 1000406, 1000407, 1000408, 1000409, 1000410, 1000302, 1000604]), (249, [35]), (252, [740, 743, 1000453, 1000491, 1000492, 1000493, 1000494, 1000495, 1000496, 1000497, 1000498, 1000520, 1000605, 1000606])]
def ns_491 : List zN := []
set_option maxRecDepth 1000000 in
theorem ca_491 : x_okA mLT1 cq_491 mTS2 mTC2 mRUp cx_491 cs_491 hs_491 ns_491 (32, []) 14197530 35 = true := by decide +kernel
set_option maxRecDepth 1000000 in
theorem cc_491 : x_okC mLT1 cq_491 mTS2 mTC2 mRUp cx_491 cs_491 hs_491 ns_491 (32, []) 14197530 35 = true := by decide +kernel
theorem ck_491 : x_ok mLT1 cq_491 mTS2 mTC2 mRUp cx_491 cs_491 hs_491 ns_491 (32, []) 14197530 35 = true := x_ok_of ca_491 (fun _ h => absurd h List.not_mem_nil) cc_491
theorem sn_491 {W : Bool} {X : List Int32} : y_Snd (mGw W) mLT1 (J2 W X) X cx_491 := y_ok J2_J mTS2_ok1 mTC2_ok1 mRUp_ok1 (List.forall_mem_cons.mpr ⟨sn_407, List.forall_mem_cons.mpr ⟨sn_425, List.forall_mem_cons.mpr ⟨sn_426, List.forall_mem_cons.mpr ⟨sn_435, List.forall_mem_cons.mpr ⟨sn_437, List.forall_mem_cons.mpr ⟨sn_440, List.forall_mem_cons.mpr ⟨sn_443, List.forall_mem_cons.mpr ⟨sn_446, List.forall_mem_cons.mpr ⟨sn_409, List.forall_mem_cons.mpr ⟨sn_406, List.forall_mem_cons.mpr ⟨sn_450, List.forall_mem_cons.mpr ⟨sn_490, fun _ h => absurd h List.not_mem_nil⟩⟩⟩⟩⟩⟩⟩⟩⟩⟩⟩⟩) ck_491
end
