noncomputable section
/-! ===== readings, by program, checked by the kernel ===== -/
/-- M.is -/
def cx_497 : zCtx := (202, ([ui0, ui1632, (0, 2), ui1486], [ur1474, ur1488], [], [], [uV2, uV1951], [uF1565, uF1566, uF1492, uF1567], []), [([ui0, ui1632, (0, 0), ui1952], [ur1474, ur1488], [], [], [uV64], [], []), ([ui0, ui1632, (0, 0), ui1953], [ur1474, ur1488], [], [], [uV62], [], []), ([ui0, ui1632, (0, 0), (14, 41)], [ur1474, ur1488], [], [], [uV62], [], []), ([ui0, ui1632, (1, 2), ui1486], [ur1474, ur1488], [], [], [uV62], [], [])], [], 13, 0, 0)
set_option maxRecDepth 1000000 in
theorem ck_497 : x_ok mLT1 [] mTS2 mTC2 mRUp cx_497 [] [] [] (13, []) 0 16 = true := by decide +kernel
theorem sn_497 {W : Bool} {X : List Int32} : y_Snd (mGw W) mLT1 (J2 W X) X cx_497 := y_ok J2_J mTS2_ok1 mTC2_ok1 mRUp_ok1 (fun _ h => absurd h List.not_mem_nil) ck_497
/-- M.must -/
def cx_498 : zCtx := (208, ([ui0, ui1632, (1, 2), ui52, ui52], [ur1474], [], [], [uV2, uV1951], [uF1565, uF1566, uF1568, uF176], [uG1633]), [([ui0, ui1632, (1, 2), ui52, ui52], [ur1474], [], [], [], [], [])], [], 21, 1, 21)
set_option maxRecDepth 1000000 in
theorem ck_498 : x_ok mLT1 [cx_497, cx_431] mTS2 mTC2 mRUp cx_498 [(2, [0]), (17, [1])] [(15, uN1599)] [] (8, []) 13 11 = true := by decide +kernel
theorem sn_498 {W : Bool} {X : List Int32} : y_Snd (mGw W) mLT1 (J2 W X) X cx_498 := y_ok J2_J mTS2_ok1 mTC2_ok1 mRUp_ok1 (List.forall_mem_cons.mpr ⟨sn_497, List.forall_mem_cons.mpr ⟨sn_431, fun _ h => absurd h List.not_mem_nil⟩⟩) ck_498
def cx_499p : zS := ([ui0, ui1954, (0, 0), ui52, ui52, ui1486, ui52], [ur1474, ur1488, ur1489, ur1490, ur1491], [uL285], [], [uV2, uV1951], (cx_423pf_0 (cx_423pf_1 [])), [uG1577, uG1578, (62, [uL98, uL9, uL265, uL104, uL78])])
/-- M.must -/
def cx_499 : zCtx := (208, cx_499p, [([ui0, ui1954, (0, 0), ui52, ui52, ui1486, ui52, (1, 2)], [ur1474, ur1488, ur1489, ur1490, ur1491], [uL63], [], [], [uF1219, uF1595, uF1565], [uG1596]), ([ui0, (4, 399), (0, 0), ui52, ui52, ui1952, ui52], [ur1474, ur1488, ur1489, ur1490, ur1491], [uL65, ((-13), [(5, 1)]), (13, [(5, (-1))]), uL63, uL63], [], [], [uF1581, uF1566, uF1568], [uG1582, uG1579, uG1582])], [uk1583, uk1573, uk1574], 33, 2, 41)
set_option maxRecDepth 1000000 in
theorem ck_499 : x_ok mLT1 [cx_497, cx_423, cx_426] mTS2 mTC2 mRUp cx_499 [(2, [0]), (9, [1]), (17, [2])] [(9, [1000243]), (15, uN1599)] [] (8, []) 25 11 = true := by decide +kernel
theorem sn_499 {W : Bool} {X : List Int32} : y_Snd (mGw W) mLT1 (J2 W X) X cx_499 := y_ok J2_J mTS2_ok1 mTC2_ok1 mRUp_ok1 (List.forall_mem_cons.mpr ⟨sn_497, List.forall_mem_cons.mpr ⟨sn_423, List.forall_mem_cons.mpr ⟨sn_426, fun _ h => absurd h List.not_mem_nil⟩⟩⟩) ck_499
/-- M.is -/
def cx_500 : zCtx := (202, ([ui0, ui1632, (0, 2), ui1486], [ur1474, ur1488], [], [], [uV2, uV1955], [uF1565, uF1566, uF1492, uF1567], []), [([ui0, ui1632, (0, 0), ui1956], [ur1474, ur1488], [], [], [uV64], [], []), ([ui0, ui1632, (0, 0), (0, 30)], [ur1474, ur1488], [], [], [uV62], [], []), ([ui0, ui1632, (0, 0), (32, 41)], [ur1474, ur1488], [], [], [uV62], [], []), ([ui0, ui1632, (1, 2), ui1486], [ur1474, ur1488], [], [], [uV62], [], [])], [], 13, 0, 0)
set_option maxRecDepth 1000000 in
theorem ck_500 : x_ok mLT1 [] mTS2 mTC2 mRUp cx_500 [] [] [] (13, []) 0 16 = true := by decide +kernel
theorem sn_500 {W : Bool} {X : List Int32} : y_Snd (mGw W) mLT1 (J2 W X) X cx_500 := y_ok J2_J mTS2_ok1 mTC2_ok1 mRUp_ok1 (fun _ h => absurd h List.not_mem_nil) ck_500
/-- M.must -/
def cx_501 : zCtx := (208, ([ui0, ui1632, (1, 2), ui52, ui52], [ur1474], [], [], [uV2, uV1955], [uF1565, uF1566, uF1568, uF176], [uG1633]), [([ui0, ui1632, (1, 2), ui52, ui52], [ur1474], [], [], [], [], [])], [], 21, 1, 21)
set_option maxRecDepth 1000000 in
theorem ck_501 : x_ok mLT1 [cx_500, cx_431] mTS2 mTC2 mRUp cx_501 [(2, [0]), (17, [1])] [(15, uN1599)] [] (8, []) 13 11 = true := by decide +kernel
theorem sn_501 {W : Bool} {X : List Int32} : y_Snd (mGw W) mLT1 (J2 W X) X cx_501 := y_ok J2_J mTS2_ok1 mTC2_ok1 mRUp_ok1 (List.forall_mem_cons.mpr ⟨sn_500, List.forall_mem_cons.mpr ⟨sn_431, fun _ h => absurd h List.not_mem_nil⟩⟩) ck_501
def cx_502p : zS := ([ui0, ui1957, (0, 0), ui52, ui52, ui1486, ui52], [ur1474, ur1488, ur1489, ur1490, ur1491], [uL650], [], [uV2, uV1955], (cx_423pf_0 (cx_423pf_1 [])), [uG1577, uG1578, (62, [uL98, uL9, uL538, uL104, uL78])])
/-- M.must -/
def cx_502 : zCtx := (208, cx_502p, [([ui0, ui1957, (0, 0), ui52, ui52, ui1486, ui52, (1, 2)], [ur1474, ur1488, ur1489, ur1490, ur1491], [uL63], [], [], [uF1219, uF1595, uF1565], [uG1596]), ([ui0, (6, 399), (0, 0), ui52, ui52, ui1956, ui52], [ur1474, ur1488, ur1489, ur1490, ur1491], [uL65, ((-31), [(5, 1)]), (31, [(5, (-1))]), uL63, uL63], [], [], [uF1581, uF1566, uF1568], [uG1582, uG1579, uG1582])], [uk1583, uk1573, uk1574], 33, 2, 41)
set_option maxRecDepth 1000000 in
theorem ck_502 : x_ok mLT1 [cx_500, cx_423, cx_426] mTS2 mTC2 mRUp cx_502 [(2, [0]), (9, [1]), (17, [2])] [(9, [1000243]), (15, uN1599)] [] (8, []) 25 11 = true := by decide +kernel
theorem sn_502 {W : Bool} {X : List Int32} : y_Snd (mGw W) mLT1 (J2 W X) X cx_502 := y_ok J2_J mTS2_ok1 mTC2_ok1 mRUp_ok1 (List.forall_mem_cons.mpr ⟨sn_500, List.forall_mem_cons.mpr ⟨sn_423, List.forall_mem_cons.mpr ⟨sn_426, fun _ h => absurd h List.not_mem_nil⟩⟩⟩) ck_502
def cx_503pi_0 (t : List (Int × Int)) : List (Int × Int) := ui0 :: ui405 :: (0, 0) :: (0, 0) :: ui52 :: ui1733 :: ui788 :: ui1735 :: t
def cx_503pi_1 (t : List (Int × Int)) : List (Int × Int) := (0, 1) :: ui1736 :: (0, 2) :: ui1734 :: ui1734 :: ui52 :: ui302 :: (0, 6) :: t
def cx_503pi_2 (t : List (Int × Int)) : List (Int × Int) := (0, 1) :: ui48 :: (0, 5) :: ui52 :: ui68 :: (0, 1) :: ui31 :: t
def cx_503pr_0 (t : List (Nat × Bool)) : List (Nat × Bool) := ur1474 :: ur1535 :: ur1536 :: ur1488 :: ur1489 :: ur1490 :: ur1491 :: ur1524 :: t
def cx_503pr_1 (t : List (Nat × Bool)) : List (Nat × Bool) := ur1530 :: ur1531 :: ur1521 :: ur1522 :: ur1532 :: ur1533 :: ur1534 :: t
def cx_503pf_0 (t : List zFa) : List zFa := uF1565 :: uF1737 :: uF1585 :: uF1571 :: uF1738 :: uF1739 :: uF1740 :: uF1741 :: t
def cx_503pf_1 (t : List zFa) : List zFa := uF1742 :: uF1767 :: (0, (false, 5, 0, []), 2, 3, 0, []) :: (0, (false, 6, 0, []), 2, 4, 0, []) :: (0, (false, 7, 0, []), 2, 5, 0, []) :: (0, (false, 8, 0, []), 2, 6, 0, []) :: uF1892 :: uF1893 :: t
def cx_503pf_2 (t : List zFa) : List zFa := uF1958 :: uF1959 :: uF1895 :: uF1896 :: uF1768 :: uF1769 :: (0, (false, 31, 0, []), 2, 10, 0, []) :: (0, (false, 32, 0, []), 2, 11, 0, []) :: t
def cx_503pf_3 (t : List zFa) : List zFa := uF1548 :: uF1549 :: uF1550 :: t
def cx_503pg_0 (t : List zTg) : List zTg := uG1960 :: uG1906 :: uG1907 :: (216, [uL205, uL9, uL131, uL78, uL63, uL104, uL63]) :: uG1961 :: t
def cx_503p : zS := ((cx_503pi_0 (cx_503pi_1 (cx_503pi_2 []))), (cx_503pr_0 (cx_503pr_1 [])), [uL1744, uL63, ((-2), [(1, 1), (6, (-1)), (8, 420)]), uL1909], [], [uV2], (cx_503pf_0 (cx_503pf_1 (cx_503pf_2 (cx_503pf_3 [])))), (cx_503pg_0 []))
def cx_503q0i_0 (t : List (Int × Int)) : List (Int × Int) := ui0 :: ui1619 :: (0, 0) :: (0, 0) :: ui52 :: ui1733 :: ui1754 :: ui1735 :: t
def cx_503q0i_1 (t : List (Int × Int)) : List (Int × Int) := (0, 1) :: ui1736 :: (0, 2) :: ui1734 :: ui1734 :: ui52 :: ui302 :: (0, 6) :: t
def cx_503q0i_2 (t : List (Int × Int)) : List (Int × Int) := (0, 1) :: ui48 :: (0, 5) :: ui52 :: ui68 :: (0, 1) :: ui31 :: ui1873 :: t
def cx_503q0i_3 (t : List (Int × Int)) : List (Int × Int) := (0, 0) :: ui1632 :: ui1735 :: t
def cx_503q0f_0 (t : List zFa) : List zFa := uF1748 :: uF1962 :: uF1919 :: uF1963 :: uF1921 :: uF1585 :: uF1571 :: uF1959 :: t
def cx_503q0f_1 (t : List zFa) : List zFa := uF1959 :: uF1737 :: uF1749 :: uF1959 :: t
def cx_503q0g_0 (t : List zTg) : List zTg := uG1960 :: uG1961 :: (0, [uL78, uL65, uL1821]) :: uG1925 :: (40, [uL205, uL1823, uL206, uL65, uL67, uL207, uL211, uL275, uL352, uL407]) :: (71, [uL205, uL1823]) :: (216, [uL205, uL1823, uL131, uL1821, uL1825, uL104, uL36]) :: t
def cx_503q0 : zS := ((cx_503q0i_0 (cx_503q0i_1 (cx_503q0i_2 (cx_503q0i_3 [])))), (cx_503pr_0 (cx_503pr_1 [])), [((-2), [(8, 420), (23, (-1)), (25, 1)]), (0, [(1, (-1)), (6, 1), (23, (-1)), (25, 1)]), ((-1), [(1, (-1)), (25, 1)]), (0, [(6, (-1)), (23, 1)]), uL1928], [], [], (cx_503q0f_0 (cx_503q0f_1 [])), (cx_503q0g_0 []))
def cx_503q1i_0 (t : List (Int × Int)) : List (Int × Int) := ui0 :: ui405 :: (0, 0) :: (0, 0) :: ui52 :: ui1733 :: ui788 :: ui1735 :: t
def cx_503q1i_1 (t : List (Int × Int)) : List (Int × Int) := (0, 1) :: ui1736 :: (0, 2) :: ui1734 :: ui1734 :: ui52 :: ui302 :: (0, 6) :: t
def cx_503q1i_2 (t : List (Int × Int)) : List (Int × Int) := (0, 1) :: ui48 :: (0, 5) :: ui52 :: ui68 :: (0, 1) :: ui31 :: ui1734 :: t
def cx_503q1i_3 (t : List (Int × Int)) : List (Int × Int) := ui52 :: (1, 2) :: ui405 :: ui424 :: (0, 7) :: t
def cx_503q1f_0 (t : List zFa) : List zFa := uF1748 :: uF1962 :: uF1911 :: uF1912 :: uF1913 :: uF1963 :: uF1959 :: (0, (false, 43, 0, []), 0, 0, 0, [(27, 1)]) :: t
def cx_503q1f_1 (t : List zFa) : List zFa := (0, (false, 12, 0, []), 0, 0, 0, [(28, 1)]) :: uF1959 :: uF1749 :: uF1959 :: t
def cx_503q1 : zS := ((cx_503q1i_0 (cx_503q1i_1 (cx_503q1i_2 (cx_503q1i_3 [])))), (cx_503pr_0 (cx_503pr_1 [])), [uL1910], [], [], (cx_503q1f_0 (cx_503q1f_1 [])), [uG1960, uG1961, uG1916])
/-- M.term -/
def cx_503 : zCtx := (219, cx_503p, [cx_503q0, cx_503q1], kc_76, 14189250, 4, 83)
set_option maxRecDepth 1000000 in
theorem ck_503 : x_ok mLT1 [cx_496] mTS2 mTC2 mRUp cx_503 [(21, [0])] [(0, [1000610])] [] (26, []) 14189224 29 = true := by decide +kernel
theorem sn_503 {W : Bool} {X : List Int32} : y_Snd (mGw W) mLT1 (J2 W X) X cx_503 := y_ok J2_J mTS2_ok1 mTC2_ok1 mRUp_ok1 (List.forall_mem_cons.mpr ⟨sn_496, fun _ h => absurd h List.not_mem_nil⟩) ck_503
/-- M.is -/
def cx_504 : zCtx := (202, ([ui0, ui1632, (0, 2), ui1486], [ur1474, ur1488], [], [], [uV2, uV1964], [uF1565, uF1566, uF1492, uF1567], []), [([ui0, ui1632, (0, 0), ui1965], [ur1474, ur1488], [], [], [uV64], [], []), ([ui0, ui1632, (0, 0), (0, 31)], [ur1474, ur1488], [], [], [uV62], [], []), ([ui0, ui1632, (0, 0), (33, 41)], [ur1474, ur1488], [], [], [uV62], [], []), ([ui0, ui1632, (1, 2), ui1486], [ur1474, ur1488], [], [], [uV62], [], [])], [], 13, 0, 0)
set_option maxRecDepth 1000000 in
theorem ck_504 : x_ok mLT1 [] mTS2 mTC2 mRUp cx_504 [] [] [] (13, []) 0 16 = true := by decide +kernel
theorem sn_504 {W : Bool} {X : List Int32} : y_Snd (mGw W) mLT1 (J2 W X) X cx_504 := y_ok J2_J mTS2_ok1 mTC2_ok1 mRUp_ok1 (fun _ h => absurd h List.not_mem_nil) ck_504
/-- M.must -/
def cx_505 : zCtx := (208, ([ui0, ui1632, (1, 2), ui52, ui52], [ur1474], [], [], [uV2, uV1964], [uF1565, uF1566, uF1568, uF176], [uG1633]), [([ui0, ui1632, (1, 2), ui52, ui52], [ur1474], [], [], [], [], [])], [], 21, 1, 21)
set_option maxRecDepth 1000000 in
theorem ck_505 : x_ok mLT1 [cx_504, cx_431] mTS2 mTC2 mRUp cx_505 [(2, [0]), (17, [1])] [(15, uN1599)] [] (8, []) 13 11 = true := by decide +kernel
theorem sn_505 {W : Bool} {X : List Int32} : y_Snd (mGw W) mLT1 (J2 W X) X cx_505 := y_ok J2_J mTS2_ok1 mTC2_ok1 mRUp_ok1 (List.forall_mem_cons.mpr ⟨sn_504, List.forall_mem_cons.mpr ⟨sn_431, fun _ h => absurd h List.not_mem_nil⟩⟩) ck_505
def cx_506p : zS := ([ui0, ui1966, (0, 0), ui52, ui52, ui1486, ui52], [ur1474, ur1488, ur1489, ur1490, ur1491], [uL538], [], [uV2, uV1964], (cx_423pf_0 (cx_423pf_1 [])), [uG1577, uG1578, (62, [uL98, uL9, uL645, uL104, uL78])])
/-- M.must -/
def cx_506 : zCtx := (208, cx_506p, [([ui0, ui1966, (0, 0), ui52, ui52, ui1486, ui52, (1, 2)], [ur1474, ur1488, ur1489, ur1490, ur1491], [uL63], [], [], [uF1219, uF1595, uF1565], [uG1596]), ([ui0, (8, 399), (0, 0), ui52, ui52, ui1965, ui52], [ur1474, ur1488, ur1489, ur1490, ur1491], [uL65, ((-32), [(5, 1)]), (32, [(5, (-1))]), uL63, uL63], [], [], [uF1581, uF1566, uF1568], [uG1582, uG1579, uG1582])], [uk1583, uk1573, uk1574], 33, 2, 41)
set_option maxRecDepth 1000000 in
theorem ck_506 : x_ok mLT1 [cx_504, cx_423, cx_426] mTS2 mTC2 mRUp cx_506 [(2, [0]), (9, [1]), (17, [2])] [(9, [1000243]), (15, uN1599)] [] (8, []) 25 11 = true := by decide +kernel
theorem sn_506 {W : Bool} {X : List Int32} : y_Snd (mGw W) mLT1 (J2 W X) X cx_506 := y_ok J2_J mTS2_ok1 mTC2_ok1 mRUp_ok1 (List.forall_mem_cons.mpr ⟨sn_504, List.forall_mem_cons.mpr ⟨sn_423, List.forall_mem_cons.mpr ⟨sn_426, fun _ h => absurd h List.not_mem_nil⟩⟩⟩) ck_506
def cx_507pi_0 (t : List (Int × Int)) : List (Int × Int) := ui0 :: (0, 3) :: ui347 :: (0, 0) :: (0, 0) :: ui52 :: (0, 1) :: ui1753 :: t
def cx_507pi_1 (t : List (Int × Int)) : List (Int × Int) := ui1754 :: ui1735 :: (0, 2) :: ui1734 :: ui1734 :: ui52 :: (0, 6) :: ui48 :: t
def cx_507pi_2 (t : List (Int × Int)) : List (Int × Int) := (0, 5) :: ui52 :: ui68 :: ui52 :: (0, 6) :: ui48 :: (0, 5) :: ui49 :: t
def cx_507pi_3 (t : List (Int × Int)) : List (Int × Int) := (0, 1) :: ui31 :: t
def cx_507pr_0 (t : List (Nat × Bool)) : List (Nat × Bool) := ur1474 :: ur1532 :: ur1533 :: ur1534 :: ur1535 :: ur1536 :: ur1521 :: ur1522 :: t
def cx_507pr_1 (t : List (Nat × Bool)) : List (Nat × Bool) := ur1488 :: ur1489 :: ur1490 :: ur1491 :: ur1524 :: ur1634 :: ur1530 :: ur1531 :: t
def cx_507pf_0 (t : List zFa) : List zFa := uF1584 :: uF1755 :: uF1756 :: uF1187 :: uF1637 :: uF1757 :: uF1758 :: uF1759 :: t
def cx_507pf_1 (t : List zFa) : List zFa := uF1760 :: uF1761 :: uF1762 :: uF1763 :: uF1764 :: uF1765 :: uF1766 :: uF1767 :: t
def cx_507pf_2 (t : List zFa) : List zFa := uF1967 :: uF1968 :: uF1969 :: uF462 :: uF1970 :: uF1971 :: uF1972 :: uF1973 :: t
def cx_507pf_3 (t : List zFa) : List zFa := uF1974 :: uF1975 :: uF1976 :: uF1977 :: t
def cx_507pg_0 (t : List zTg) : List zTg := uG1770 :: uG1978 :: uG1979 :: uG1980 :: (216, [uL205, uL67, uL78, uL131, uL63, uL79, uL63]) :: uG1981 :: uG1982 :: uG1983 :: t
def cx_507p : zS := ((cx_507pi_0 (cx_507pi_1 (cx_507pi_2 (cx_507pi_3 [])))), (cx_507pr_0 (cx_507pr_1 [])), [((-1), [(2, 1), (6, 420), (8, (-1))]), ((-1), [(2, 1), (6, 520), (7, (-4))]), uL149], [], [uV2, uV11], (cx_507pf_0 (cx_507pf_1 (cx_507pf_2 (cx_507pf_3 [])))), (cx_507pg_0 []))
def cx_507q0i_0 (t : List (Int × Int)) : List (Int × Int) := ui0 :: (0, 3) :: ui347 :: (0, 0) :: (0, 0) :: ui52 :: (0, 1) :: ui1753 :: t
def cx_507q0i_1 (t : List (Int × Int)) : List (Int × Int) := ui1754 :: ui1735 :: (0, 2) :: ui1734 :: ui1734 :: ui52 :: (0, 6) :: ui48 :: t
def cx_507q0i_2 (t : List (Int × Int)) : List (Int × Int) := (0, 5) :: ui52 :: ui68 :: ui52 :: (0, 6) :: ui48 :: (0, 5) :: ui49 :: t
def cx_507q0i_3 (t : List (Int × Int)) : List (Int × Int) := (0, 1) :: ui31 :: ui1984 :: ui52 :: (1, 2) :: ui347 :: (0, 7) :: ui1734 :: t
def cx_507q0i_4 (t : List (Int × Int)) : List (Int × Int) := ui1735 :: ui1736 :: ui1736 :: ui1734 :: (0, 2) :: ui1734 :: ui1734 :: t
def cx_507q0 : zS := ((cx_507q0i_0 (cx_507q0i_1 (cx_507q0i_2 (cx_507q0i_3 (cx_507q0i_4 []))))), (cx_507pr_0 (cx_507pr_1 [])), [(0, [(2, (-1)), (29, 1)])], [], [], [(0, (false, 33, 0, []), 0, 0, 0, [(26, 1)]), (0, (false, 14, 0, []), 0, 0, 0, [(27, 1)]), (0, (false, 13, 0, []), 0, 0, 0, [(28, 1)]), (0, (false, 11, 0, []), 0, 0, 0, [(29, 1)]), (0, (false, 12, 0, []), 0, 0, 0, [(30, 1)]), (0, (false, 39, 0, []), 0, 0, 0, [(31, 1)]), (0, (false, 43, 0, []), 0, 0, 0, [(32, 1)]), uF1972], [uG1983, (3, [uL78, uL1985, uL1986, uL1987, uL1988, uL1989, uL1990]), (41, [uL205, uL1832, uL1826])])
def cx_507q1i_0 (t : List (Int × Int)) : List (Int × Int) := ui0 :: (0, 3) :: ui1597 :: (0, 0) :: (0, 0) :: ui52 :: (0, 1) :: ui1753 :: t
def cx_507q1i_1 (t : List (Int × Int)) : List (Int × Int) := ui1754 :: ui1735 :: (0, 2) :: ui1734 :: ui1734 :: ui52 :: (0, 6) :: ui48 :: t
def cx_507q1i_2 (t : List (Int × Int)) : List (Int × Int) := (0, 5) :: ui52 :: ui68 :: ui52 :: (0, 6) :: ui48 :: (0, 5) :: ui49 :: t
def cx_507q1i_3 (t : List (Int × Int)) : List (Int × Int) := (0, 1) :: ui31 :: ui1954 :: (1, 230) :: (0, 0) :: ui1873 :: (0, 2) :: ui1734 :: t
def cx_507q1i_4 (t : List (Int × Int)) : List (Int × Int) := ui1734 :: t
def cx_507q1f_0 (t : List zFa) : List zFa := uF1913 :: uF1756 :: uF1187 :: (0, (false, 33, 0, []), 0, 0, 0, [(27, 1)]) :: uF1915 :: uF1991 :: uF1972 :: uF1972 :: t
def cx_507q1f_1 (t : List zFa) : List zFa := uF1755 :: uF1972 :: uF1972 :: t
def cx_507q1g_0 (t : List zTg) : List zTg := uG1983 :: uG1992 :: uG1993 :: uG1994 :: (3, [uL78, uL1826, uL1826, uL1831, uL1949, uL1995, uL1996]) :: uG1917 :: (40, [uL205, uL1825, uL63, uL63, uL63, uL206, uL207, uL210, uL211, (1, [(18, 1)])]) :: (64, [uL205, uL1825, uL206]) :: t
def cx_507q1g_1 (t : List zTg) : List zTg := (216, [uL205, uL1825, uL78, uL1831, uL63, uL1826, uL63]) :: t
def cx_507q1 : zS := ((cx_507q1i_0 (cx_507q1i_1 (cx_507q1i_2 (cx_507q1i_3 (cx_507q1i_4 []))))), (cx_507pr_0 (cx_507pr_1 [])), [(0, [(6, 420), (26, 1), (29, (-1))]), (0, [(6, 520), (26, 1), (27, (-4))]), uL1923, ((-1), [(2, (-1)), (26, 1)])], [], [], (cx_507q1f_0 (cx_507q1f_1 [])), (cx_507q1g_0 (cx_507q1g_1 [])))
/-- M.tellLaw -/
def cx_507 : zCtx := (214, cx_507p, [cx_507q0, cx_507q1], kc_77, 14197530, 5, 103)
def cq_507 : List zCtx := [cx_468, cx_469, cx_422, cx_423, cx_470, cx_496, cx_498, cx_499, cx_501, cx_502, cx_466, cx_503, cx_505, cx_506, cx_440, cx_441]
def cs_507 : List (Nat × List Nat) := [(2, [0]), (22, [1]), (35, [2]), (50, [3]), (77, [4, 5]), (83, [6, 7]), (107, [5]), (113, [8, 9]), (117, [10, 11]), (123, [12, 13]), (140, [10, 11]), (145, [14, 15])]
def hs_507 : List (Nat × List Nat) := [(0, uN1772), (5, uN1773), (19, [1000246]), (33, [1000378]), (49, [1000379]), (53, [1000380, 1000381, 1000596, 35, 1000610, 1000611]), (80, [11, 740, 741, 35, 1000246, 1000382, 1000612]), (86, [1000383, 1000384, 1000597]), (110, [12, 740, 741, 35, 1000246, 1000385, 1000612]), (116, [1000386, 1000387, 1000598]), (117, [35]), (120, [13, 740, 741, 35, 1000246, 1000388, 1000612]), (126, [1000389, 1000390, 1000599]), (129, [1000600, 1000391, 1000392, 35, 1000610, 1000611]), (140, [35]), (143, [13, 740, 741, 1000246, 1000393, 1000612]), (148, uN1774), (156, [1000601]), (170, [1000602]), (187, [14, 1000302, 1000603])]
def nd_507_0pi_0 (t : List (Int × Int)) : List (Int × Int) := ui0 :: (0, 3) :: ui1597 :: (0, 0) :: (0, 0) :: ui52 :: (0, 1) :: ui1753 :: t
def nd_507_0pi_1 (t : List (Int × Int)) : List (Int × Int) := ui1754 :: ui1735 :: (0, 2) :: ui1734 :: ui1734 :: ui52 :: (0, 6) :: ui48 :: t
def nd_507_0pi_2 (t : List (Int × Int)) : List (Int × Int) := (0, 5) :: ui52 :: ui68 :: ui52 :: (0, 6) :: ui48 :: (0, 5) :: ui49 :: t
def nd_507_0pi_3 (t : List (Int × Int)) : List (Int × Int) := (0, 1) :: ui31 :: (0, 4) :: ui405 :: ui1753 :: ui1754 :: ui1735 :: (0, 2) :: t
def nd_507_0pi_4 (t : List (Int × Int)) : List (Int × Int) := ui1734 :: ui1734 :: ui68 :: ui406 :: (0, 6) :: ui48 :: (0, 5) :: ui49 :: t
def nd_507_0pf_0 (t : List zFa) : List zFa := (0, (false, 11, 0, []), 0, 0, 0, [(27, 1)]) :: uF1756 :: uF1187 :: uF1755 :: uF1637 :: (0, (false, 33, 0, []), 0, 0, 0, [(28, 1)]) :: uF1991 :: (0, (false, 43, 0, []), 0, 0, 0, [(30, 1)]) :: t
def nd_507_0pf_1 (t : List zFa) : List zFa := uF1760 :: uF1761 :: uF1762 :: uF1763 :: uF1764 :: uF1765 :: uF1766 :: uF1767 :: t
def nd_507_0pf_2 (t : List zFa) : List zFa := uF1967 :: uF1968 :: uF1969 :: uF462 :: uF1970 :: uF1971 :: uF1972 :: uF1973 :: t
def nd_507_0pf_3 (t : List zFa) : List zFa := uF1974 :: uF1975 :: uF1976 :: uF1977 :: t
def nd_507_0pg_0 (t : List zTg) : List zTg := uG1992 :: uG1993 :: uG1994 :: uG1978 :: uG1979 :: uG1980 :: uG1981 :: uG1982 :: t
def nd_507_0pg_1 (t : List zTg) : List zTg := uG1983 :: (3, [uL78, uL79, uL1832, uL1831, uL1995, uL1996, uL1985]) :: (58, [uL205, uL1826]) :: (40, [uL205, uL1826, (30, [(26, 1)]), uL63, uL63, uL206, uL207, uL210, uL211, uL275]) :: (216, [uL205, uL1826, uL78, uL1831, uL63, uL1832, uL63]) :: (222, [uL205, uL1986, uL78, uL9, uL79]) :: (40, [uL205, uL1986, uL1987, uL63, uL63, uL1988, uL1989, uL1990, uL1997, uL275]) :: t
def nd_507_0p : zS := ((nd_507_0pi_0 (nd_507_0pi_1 (nd_507_0pi_2 (nd_507_0pi_3 (nd_507_0pi_4 []))))), (cx_507pr_0 (cx_507pr_1 [])), [((-2), [(6, 420), (27, 1), (29, (-1))]), ((-2), [(6, 520), (27, 1), (28, (-4))]), uL1934], [uV2, uV11, uV142, (0, 0, 0, [(26, 1)])], [], (nd_507_0pf_0 (nd_507_0pf_1 (nd_507_0pf_2 (nd_507_0pf_3 [])))), (nd_507_0pg_0 (nd_507_0pg_1 [])))
def nd_507_0 : zN := (12, nd_507_0p, ((-3000000000000), [(3, (-3000000000000)), (4, (-3000000000000)), (26, (-1680)), (35, 100000000267)]))
def ns_507 : List zN := [nd_507_0]
set_option maxRecDepth 1000000 in
theorem ca_507 : x_okA mLT1 cq_507 mTS2 mTC2 mRUp cx_507 cs_507 hs_507 ns_507 (8280, []) 14189250 76 = true := by decide +kernel
set_option maxRecDepth 1000000 in
theorem cb_507_0 : x_okB mLT1 cq_507 mTS2 mTC2 mRUp cx_507 cs_507 hs_507 ns_507 (8280, []) 14189250 76 nd_507_0 = true := by decide +kernel
set_option maxRecDepth 1000000 in
theorem cc_507 : x_okC mLT1 cq_507 mTS2 mTC2 mRUp cx_507 cs_507 hs_507 ns_507 (8280, []) 14189250 76 = true := by decide +kernel
theorem ck_507 : x_ok mLT1 cq_507 mTS2 mTC2 mRUp cx_507 cs_507 hs_507 ns_507 (8280, []) 14189250 76 = true := x_ok_of ca_507 (List.forall_mem_cons.mpr ⟨cb_507_0, fun _ h => absurd h List.not_mem_nil⟩) cc_507
theorem sn_507 {W : Bool} {X : List Int32} : y_Snd (mGw W) mLT1 (J2 W X) X cx_507 := y_ok J2_J mTS2_ok1 mTC2_ok1 mRUp_ok1 (List.forall_mem_cons.mpr ⟨sn_468, List.forall_mem_cons.mpr ⟨sn_469, List.forall_mem_cons.mpr ⟨sn_422, List.forall_mem_cons.mpr ⟨sn_423, List.forall_mem_cons.mpr ⟨sn_470, List.forall_mem_cons.mpr ⟨sn_496, List.forall_mem_cons.mpr ⟨sn_498, List.forall_mem_cons.mpr ⟨sn_499, List.forall_mem_cons.mpr ⟨sn_501, List.forall_mem_cons.mpr ⟨sn_502, List.forall_mem_cons.mpr ⟨sn_466, List.forall_mem_cons.mpr ⟨sn_503, List.forall_mem_cons.mpr ⟨sn_505, List.forall_mem_cons.mpr ⟨sn_506, List.forall_mem_cons.mpr ⟨sn_440, List.forall_mem_cons.mpr ⟨sn_441, fun _ h => absurd h List.not_mem_nil⟩⟩⟩⟩⟩⟩⟩⟩⟩⟩⟩⟩⟩⟩⟩⟩) ck_507
def cx_508pi_0 (t : List (Int × Int)) : List (Int × Int) := ui0 :: ui68 :: (0, 0) :: (0, 0) :: ui52 :: (0, 5) :: ui52 :: (0, 1) :: t
def cx_508pi_1 (t : List (Int × Int)) : List (Int × Int) := (0, 6) :: ui1753 :: ui1754 :: ui1735 :: (0, 2) :: ui1734 :: ui1734 :: ui52 :: t
def cx_508pi_2 (t : List (Int × Int)) : List (Int × Int) := ui48 :: ui68 :: ui1486 :: ui52 :: (0, 1) :: (0, 6) :: ui194 :: ui194 :: t
def cx_508pi_3 (t : List (Int × Int)) : List (Int × Int) := ui194 :: ui194 :: ui194 :: ui194 :: ui194 :: ui194 :: (0, 1) :: (0, 6) :: t
def cx_508pi_4 (t : List (Int × Int)) : List (Int × Int) := (0, 1) :: ui31 :: t
def cx_508pr_0 (t : List (Nat × Bool)) : List (Nat × Bool) := ur1474 :: ur1523 :: ur1488 :: ur1489 :: ur1490 :: ur1491 :: ur1524 :: ur1634 :: t
def cx_508pr_1 (t : List (Nat × Bool)) : List (Nat × Bool) := ur1525 :: ur1526 :: ur1527 :: ur1528 :: ur1529 :: ur1635 :: ur1636 :: ur1530 :: t
def cx_508pr_2 (t : List (Nat × Bool)) : List (Nat × Bool) := ur1531 :: ur1521 :: ur1522 :: ur1532 :: ur1533 :: ur1534 :: ur1535 :: ur1536 :: t
def cx_508pf_0 (t : List zFa) : List zFa := uF1565 :: uF1737 :: uF1585 :: uF1571 :: (0, (false, 15, 0, []), 0, 0, 0, [(5, 1)]) :: (0, (false, 16, 0, []), 0, 0, 0, [(6, 1)]) :: (0, (false, 19, 0, []), 0, 0, 0, [(7, 1)]) :: uF1998 :: t
def cx_508pf_1 (t : List zFa) : List zFa := (0, (false, 33, 0, []), 0, 0, 0, [(9, 1)]) :: (0, (false, 39, 0, []), 0, 0, 0, [(10, 1)]) :: (0, (false, 43, 0, []), 0, 0, 0, [(11, 1)]) :: uF1638 :: uF1999 :: uF1743 :: uF1159 :: uF1160 :: t
def cx_508pf_2 (t : List zFa) : List zFa := uF1505 :: uF1506 :: uF1640 :: uF2000 :: uF1642 :: (2, (true, 0, 0, [(1, 1)]), 0, 0, 0, [(18, 1)]) :: (3, (true, 0, 0, [(1, 1)]), 0, 0, 0, [(19, 1)]) :: (0, (false, 26, 0, []), 2, 8, 0, []) :: t
def cx_508pf_3 (t : List zFa) : List zFa := (0, (false, 27, 0, []), 2, 9, 0, []) :: (9, (true, 0, 0, [(7, 1)]), 0, 0, 0, [(22, 1)]) :: (0, (false, 28, 0, []), 2, 10, 0, []) :: (10, (true, 0, 0, [(7, 1)]), 0, 0, 0, [(23, 1)]) :: (0, (false, 29, 0, []), 2, 11, 0, []) :: (11, (true, 0, 0, [(7, 1)]), 0, 0, 0, [(24, 1)]) :: (0, (false, 30, 0, []), 2, 12, 0, []) :: (12, (true, 0, 0, [(7, 1)]), 0, 0, 0, [(25, 1)]) :: t
def cx_508pf_4 (t : List zFa) : List zFa := (0, (false, 23, 0, []), 2, 13, 0, []) :: (0, (false, 24, 0, []), 2, 14, 0, []) :: (0, (false, 40, 0, []), 2, 15, 0, []) :: (0, (false, 41, 0, []), 2, 16, 0, []) :: (0, (false, 31, 0, []), 2, 17, 0, []) :: (0, (false, 32, 0, []), 2, 18, 0, []) :: (0, (false, 34, 0, []), 2, 19, 0, []) :: (0, (false, 35, 0, []), 2, 20, 0, []) :: t
def cx_508pf_5 (t : List zFa) : List zFa := (0, (false, 36, 0, []), 2, 21, 0, []) :: (0, (false, 37, 0, []), 2, 22, 0, []) :: (0, (false, 38, 0, []), 2, 23, 0, []) :: t
def cx_508pg_0 (t : List zTg) : List zTg := (3, [uL79, uL163, uL163, uL169, uL212, uL205, uL206]) :: uG1819 :: (40, [uL207, uL9, uL63, uL63, uL63, uL131, uL210, uL104, uL78, uL211]) :: (64, [uL207, uL9, uL131]) :: uG2001 :: (78, [uL207, uL9, uL79]) :: uG2002 :: (86, [uL207, uL9, uL264, uL1820]) :: t
def cx_508pg_1 (t : List zTg) : List zTg := (86, [uL207, uL9, uL281, uL1821]) :: (86, [uL207, uL9, uL283, uL1822]) :: (86, [uL207, uL9, uL285, uL1823]) :: uG2003 :: uG2004 :: uG2005 :: uG2006 :: uG2007 :: t
def cx_508pg_2 (t : List zTg) : List zTg := (95, [uL207, uL9, uL131, uL79, (0, [(7, 6), (8, 1)])]) :: (216, [uL207, uL9, uL79, uL169, uL63, uL163, uL63]) :: uG2008 :: t
def cx_508p : zS := ((cx_508pi_0 (cx_508pi_1 (cx_508pi_2 (cx_508pi_3 (cx_508pi_4 []))))), (cx_508pr_0 (cx_508pr_1 (cx_508pr_2 []))), [(0, [(1, 1), (7, 420), (10, (-1))]), (0, [(1, 1), (7, 520), (9, (-4))]), uL1229], [], [uV2], (cx_508pf_0 (cx_508pf_1 (cx_508pf_2 (cx_508pf_3 (cx_508pf_4 (cx_508pf_5 [])))))), (cx_508pg_0 (cx_508pg_1 (cx_508pg_2 []))))
def cx_508q0i_0 (t : List (Int × Int)) : List (Int × Int) := ui0 :: ui68 :: (0, 0) :: (0, 0) :: ui52 :: (0, 5) :: ui52 :: (0, 1) :: t
def cx_508q0i_1 (t : List (Int × Int)) : List (Int × Int) := (0, 6) :: ui1753 :: ui1754 :: ui1735 :: (0, 2) :: ui1734 :: ui1734 :: ui52 :: t
def cx_508q0i_2 (t : List (Int × Int)) : List (Int × Int) := ui48 :: ui68 :: ui1486 :: ui52 :: (0, 1) :: (0, 6) :: ui194 :: ui194 :: t
def cx_508q0i_3 (t : List (Int × Int)) : List (Int × Int) := ui194 :: ui194 :: ui194 :: ui194 :: ui194 :: ui194 :: (0, 1) :: (0, 6) :: t
def cx_508q0i_4 (t : List (Int × Int)) : List (Int × Int) := (0, 1) :: ui31 :: ui52 :: (1, 2) :: ui68 :: (0, 7) :: (0, 5) :: ui52 :: t
def cx_508q0i_5 (t : List (Int × Int)) : List (Int × Int) := ui1984 :: ui1734 :: ui1735 :: ui1736 :: ui1736 :: ui1734 :: (0, 2) :: ui1734 :: t
def cx_508q0i_6 (t : List (Int × Int)) : List (Int × Int) := ui1734 :: t
def cx_508q0f_0 (t : List zFa) : List zFa := (0, (false, 14, 0, []), 0, 0, 0, [(34, 1)]) :: (0, (false, 13, 0, []), 0, 0, 0, [(35, 1)]) :: uF2009 :: uF2000 :: uF2000 :: (0, (false, 12, 0, []), 0, 0, 0, [(37, 1)]) :: uF2010 :: uF2011 :: t
def cx_508q0f_1 (t : List zFa) : List zFa := uF1998 :: uF2012 :: uF2013 :: uF2014 :: uF2000 :: uF1999 :: t
def cx_508q0g_0 (t : List zTg) : List zTg := uG2015 :: uG2001 :: uG2002 :: uG2003 :: uG2004 :: uG2005 :: uG2006 :: uG2007 :: t
def cx_508q0g_1 (t : List zTg) : List zTg := uG2008 :: (3, [uL79, uL2016, uL2017, uL2018, uL2019, uL2020, uL2021]) :: (41, [uL207, uL1987, uL1986]) :: uG2001 :: uG2002 :: uG2003 :: uG2004 :: uG2005 :: t
def cx_508q0g_2 (t : List zTg) : List zTg := uG2006 :: uG2007 :: t
def cx_508q0 : zS := ((cx_508q0i_0 (cx_508q0i_1 (cx_508q0i_2 (cx_508q0i_3 (cx_508q0i_4 (cx_508q0i_5 (cx_508q0i_6 []))))))), (cx_508pr_0 (cx_508pr_1 (cx_508pr_2 []))), [(0, [(1, (-1)), (36, 1)])], [], [], (cx_508q0f_0 (cx_508q0f_1 [])), (cx_508q0g_0 (cx_508q0g_1 (cx_508q0g_2 []))))
def cx_508q1i_0 (t : List (Int × Int)) : List (Int × Int) := ui0 :: ui404 :: (0, 0) :: (0, 0) :: ui52 :: (0, 5) :: ui52 :: (0, 1) :: t
def cx_508q1i_1 (t : List (Int × Int)) : List (Int × Int) := (0, 6) :: ui1753 :: ui1754 :: ui1735 :: (0, 2) :: ui1734 :: ui1734 :: ui52 :: t
def cx_508q1i_2 (t : List (Int × Int)) : List (Int × Int) := ui48 :: ui68 :: ui2022 :: ui52 :: (0, 1) :: (0, 6) :: ui194 :: ui194 :: t
def cx_508q1i_3 (t : List (Int × Int)) : List (Int × Int) := ui194 :: ui194 :: ui194 :: ui194 :: ui194 :: ui194 :: (0, 1) :: (0, 6) :: t
def cx_508q1i_4 (t : List (Int × Int)) : List (Int × Int) := (0, 1) :: ui31 :: ui194 :: ui1632 :: ui48 :: (0, 5) :: ui52 :: (0, 6) :: t
def cx_508q1i_5 (t : List (Int × Int)) : List (Int × Int) := ui1753 :: ui1754 :: ui1735 :: ui194 :: ui194 :: ui194 :: (0, 2) :: ui1734 :: t
def cx_508q1i_6 (t : List (Int × Int)) : List (Int × Int) := ui1734 :: t
def cx_508q1f_0 (t : List zFa) : List zFa := (12, (true, 0, 0, [(7, 1)]), 0, 0, 0, [(34, 1)]) :: (0, (false, 11, 0, []), 0, 0, 0, [(35, 1)]) :: uF1585 :: uF1571 :: uF2023 :: uF2023 :: uF1737 :: (0, (false, 15, 0, []), 0, 0, 0, [(37, 1)]) :: t
def cx_508q1f_1 (t : List zFa) : List zFa := (0, (false, 16, 0, []), 0, 0, 0, [(38, 1)]) :: uF2024 :: uF2012 :: uF2013 :: uF2014 :: uF2023 :: (9, (true, 0, 0, [(7, 1)]), 0, 0, 0, [(43, 1)]) :: (10, (true, 0, 0, [(7, 1)]), 0, 0, 0, [(44, 1)]) :: t
def cx_508q1f_2 (t : List zFa) : List zFa := (11, (true, 0, 0, [(7, 1)]), 0, 0, 0, [(45, 1)]) :: (1, (true, 0, 0, [(7, 1)]), 0, 0, 0, [(39, 1)]) :: t
def cx_508q1g_0 (t : List zTg) : List zTg := (58, [uL207, uL1663]) :: uG1829 :: (68, [uL207, uL9, uL352]) :: uG2015 :: uG2001 :: uG2002 :: uG2003 :: uG2004 :: t
def cx_508q1g_1 (t : List zTg) : List zTg := uG2005 :: uG2006 :: uG2007 :: uG2008 :: (3, [uL79, uL2025, uL2025, uL2026, uL2019, uL2020, uL2021]) :: (58, [uL207, uL1987]) :: (40, [uL207, uL1987, uL63, uL63, uL63, uL1997, uL1988, uL1989, uL1990, (1, [(17, 1)])]) :: (64, [uL207, uL1987, uL1997]) :: t
def cx_508q1g_2 (t : List zTg) : List zTg := uG2001 :: (78, [uL207, uL1987, uL79]) :: uG2002 :: (86, [uL207, uL1987, uL264, uL2016]) :: (86, [uL207, uL1987, uL281, uL2017]) :: (86, [uL207, uL1987, uL283, uL2018]) :: (86, [uL207, uL1987, uL285, uL1986]) :: uG2003 :: t
def cx_508q1g_3 (t : List zTg) : List zTg := uG2004 :: uG2005 :: uG2006 :: uG2007 :: (95, [uL207, uL1987, uL1997, uL79, (0, [(7, 6), (39, 1)])]) :: (216, [uL207, uL1987, uL79, uL2026, uL63, uL2025, uL63]) :: t
def cx_508q1 : zS := ((cx_508q1i_0 (cx_508q1i_1 (cx_508q1i_2 (cx_508q1i_3 (cx_508q1i_4 (cx_508q1i_5 (cx_508q1i_6 []))))))), (cx_508pr_0 (cx_508pr_1 (cx_508pr_2 []))), [(0, [(1, (-1)), (35, 1)]), (0, [(7, 420), (35, 1), (41, (-1))]), (0, [(7, 520), (35, 1), (40, (-4))]), ((-1000), [(1, (-1000)), (35, 1000)])], [], [], (cx_508q1f_0 (cx_508q1f_1 (cx_508q1f_2 []))), (cx_508q1g_0 (cx_508q1g_1 (cx_508q1g_2 (cx_508q1g_3 [])))))
/-- M.tellOne -/
def cx_508 : zCtx := (203, cx_508p, [cx_508q0, cx_508q1], kc_78, 14197562, 6, 126)
def cq_508 : List zCtx := [cx_424, cx_442, cx_443, cx_452, cx_454, cx_457, cx_460, cx_463, cx_426, cx_423, cx_467, cx_507]
def cs_508 : List (Nat × List Nat) := [(76, [0]), (87, [1]), (105, [2]), (116, [3]), (134, [4]), (153, [5]), (172, [6]), (192, [7]), (232, [8]), (244, [9]), (249, [10, 11])]
def hs_508 : List (Nat × List Nat) := [(0, [1000246]), (65, [1000401]), (79, [740, 1000395, 1000396, 1000302, 1000397, 1000520]), (90, [740]), (94, [1000402]), (108, [740, 1000398, 1000399, 1000302, 1000400, 1000453]), (119, [740]), (137, [740]), (156, [740]), (175, [740]), (195, [740]), (230, [1000403, 1000404]), (235, [740]), (243, [1000405, 1000610]), (247, [740, 1000406, 1000407, 1000408, 1000409, 1000410, 1000302, 1000604]), (249, [35]), (252, [740, 743, 1000453, 1000491, 1000492, 1000493, 1000494, 1000495, 1000496, 1000497, 1000498, 1000520, 1000605, 1000606])]
def ns_508 : List zN := []
set_option maxRecDepth 1000000 in
theorem ca_508 : x_okA mLT1 cq_508 mTS2 mTC2 mRUp cx_508 cs_508 hs_508 ns_508 (32, []) 14197530 35 = true := by decide +kernel
set_option maxRecDepth 1000000 in
theorem cc_508 : x_okC mLT1 cq_508 mTS2 mTC2 mRUp cx_508 cs_508 hs_508 ns_508 (32, []) 14197530 35 = true := by decide +kernel
theorem ck_508 : x_ok mLT1 cq_508 mTS2 mTC2 mRUp cx_508 cs_508 hs_508 ns_508 (32, []) 14197530 35 = true := x_ok_of ca_508 (fun _ h => absurd h List.not_mem_nil) cc_508
theorem sn_508 {W : Bool} {X : List Int32} : y_Snd (mGw W) mLT1 (J2 W X) X cx_508 := y_ok J2_J mTS2_ok1 mTC2_ok1 mRUp_ok1 (List.forall_mem_cons.mpr ⟨sn_424, List.forall_mem_cons.mpr ⟨sn_442, List.forall_mem_cons.mpr ⟨sn_443, List.forall_mem_cons.mpr ⟨sn_452, List.forall_mem_cons.mpr ⟨sn_454, List.forall_mem_cons.mpr ⟨sn_457, List.forall_mem_cons.mpr ⟨sn_460, List.forall_mem_cons.mpr ⟨sn_463, List.forall_mem_cons.mpr ⟨sn_426, List.forall_mem_cons.mpr ⟨sn_423, List.forall_mem_cons.mpr ⟨sn_467, List.forall_mem_cons.mpr ⟨sn_507, fun _ h => absurd h List.not_mem_nil⟩⟩⟩⟩⟩⟩⟩⟩⟩⟩⟩⟩) ck_508
end
