noncomputable section
/-! ===== readings, by program, checked by the kernel ===== -/
def cx_476pi_0 (t : List (Int × Int)) : List (Int × Int) := ui0 :: ui1669 :: ui427 :: ui1562 :: (0, 1) :: ui1564 :: ui1564 :: (0, 2) :: t
def cx_476pi_1 (t : List (Int × Int)) : List (Int × Int) := ui1562 :: ui1562 :: (0, 8) :: (0, 3) :: ui1562 :: ui54 :: ui70 :: ui1564 :: t
def cx_476pi_2 (t : List (Int × Int)) : List (Int × Int) := (0, 1) :: ui31 :: t
def cx_476p : zS := ((cx_476pi_0 (cx_476pi_1 (cx_476pi_2 []))), (cx_453pr_0 (cx_453pr_1 [])), [uL573, uL1676, uL1677, uL1678], [], [uV2, uV64], (cx_466pf_0 (cx_466pf_1 [])), (cx_466pg_0 []))
def cx_476q1i_0 (t : List (Int × Int)) : List (Int × Int) := ui0 :: ui1669 :: (0, 0) :: ui1562 :: (0, 1) :: ui1564 :: ui1564 :: (0, 2) :: t
def cx_476q1i_1 (t : List (Int × Int)) : List (Int × Int) := ui1562 :: ui1562 :: (0, 8) :: (0, 3) :: ui1562 :: ui54 :: ui70 :: ui1564 :: t
def cx_476q1i_2 (t : List (Int × Int)) : List (Int × Int) := (0, 1) :: ui31 :: t
def cx_476q1 : zS := ((cx_476q1i_0 (cx_476q1i_1 (cx_476q1i_2 []))), (cx_453pr_0 (cx_453pr_1 [])), [uL1677, uL65, uL573], [], [], [uF1672, uF1671], (cx_466q0g_0 []))
def cx_476q2i_0 (t : List (Int × Int)) : List (Int × Int) := ui0 :: ui1669 :: ui1670 :: ui1562 :: (0, 1) :: ui1564 :: ui1564 :: (0, 2) :: t
def cx_476q2i_1 (t : List (Int × Int)) : List (Int × Int) := ui1562 :: ui1562 :: (1, 8) :: (1, 3) :: ui1562 :: ui54 :: ui70 :: ui1564 :: t
def cx_476q2i_2 (t : List (Int × Int)) : List (Int × Int) := (0, 1) :: ui31 :: ui1681 :: t
def cx_476q2 : zS := ((cx_476q2i_0 (cx_476q2i_1 (cx_476q2i_2 []))), (cx_453pr_0 (cx_453pr_1 [])), [uL1684, uL1685, uL1686], [], [], [uF1687, uF1688], (cx_466q1g_0 []))
def cx_476q3i_0 (t : List (Int × Int)) : List (Int × Int) := ui0 :: ui1669 :: ui1670 :: ui1562 :: (0, 1) :: ui1564 :: ui1564 :: (0, 2) :: t
def cx_476q3i_1 (t : List (Int × Int)) : List (Int × Int) := ui1562 :: ui1562 :: (0, 8) :: (1, 3) :: ui1562 :: ui54 :: ui70 :: ui1564 :: t
def cx_476q3i_2 (t : List (Int × Int)) : List (Int × Int) := (0, 1) :: ui31 :: (0, 0) :: t
def cx_476q3 : zS := ((cx_476q3i_0 (cx_476q3i_1 (cx_476q3i_2 []))), (cx_453pr_0 (cx_453pr_1 [])), [uL1684, uL1685, uL1686], [], [], [uF1687, uF1688], (cx_466q1g_0 []))
/-- M.comesOut -/
def cx_476 : zCtx := (218, cx_476p, [cx_466q0, cx_476q1, cx_476q2, cx_476q3], [uk1644, uk1620, uk1645, uk1646], 107, 1, 22)
def cz_476_0i_0 (t : List (Int × Int)) : List (Int × Int) := ui0 :: ui1669 :: ui1670 :: ui1562 :: (0, 1) :: ui1564 :: ui1564 :: (0, 2) :: t
def cz_476_0i_1 (t : List (Int × Int)) : List (Int × Int) := ui1562 :: ui1562 :: (0, 8) :: (1, 3) :: ui1562 :: ui54 :: ui70 :: ui1564 :: t
def cz_476_0i_2 (t : List (Int × Int)) : List (Int × Int) := (0, 1) :: ui31 :: ui1689 :: ui98 :: (0, 3) :: t
def cz_476_0 : zS := ((cz_476_0i_0 (cz_476_0i_1 (cz_476_0i_2 []))), (cx_453pr_0 (cx_453pr_1 [])), [uL1693, uL1694, uL1695, uL573, uL1676, uL1677, uL1678, uL1696], [uV2, uV64, uV1697], [], (cz_466_0f_0 (cz_466_0f_1 [])), (cz_466_0g_0 []))
set_option maxRecDepth 1000000 in
theorem ck_476 : x_ok mLT1 [cx_462, cx_463, cx_464, cx_465] mTS2 mTC2 mRUp cx_476 [(85, [0, 1, 2, 3])] [(0, uN1698), (4, [3]), (17, [2]), (41, uN1699), (88, uN1700), (91, uN1720)] [(0, cz_476_0, (15, [(20, 35)]))] (88, []) 19 40 = true := by decide +kernel
theorem sn_476 {W : Bool} {X : List Int32} : y_Snd (mGw W) mLT1 (J2 W X) X cx_476 := y_ok J2_J mTS2_ok1 mTC2_ok1 mRUp_ok1 (List.forall_mem_cons.mpr ⟨sn_462, List.forall_mem_cons.mpr ⟨sn_463, List.forall_mem_cons.mpr ⟨sn_464, List.forall_mem_cons.mpr ⟨sn_465, fun _ h => absurd h List.not_mem_nil⟩⟩⟩⟩) ck_476
def cx_477pi_0 (t : List (Int × Int)) : List (Int × Int) := ui0 :: ui1721 :: ui1681 :: ui1562 :: (0, 1) :: ui1564 :: ui1564 :: (0, 2) :: t
def cx_477pi_1 (t : List (Int × Int)) : List (Int × Int) := ui1562 :: ui1562 :: (1, 8) :: (0, 3) :: ui1562 :: (0, 1) :: ui31 :: t
def cx_477p : zS := ((cx_477pi_0 (cx_477pi_1 [])), (cx_453pr_0 (cx_453pr_1 [])), [uL573, uL1676, uL1677, uL1678], [], [uV2, uV64], (cx_466pf_0 (cx_466pf_1 [])), [uG1637, uG1673, uG1674, uG1705])
def cx_477q0i_0 (t : List (Int × Int)) : List (Int × Int) := ui0 :: ui1721 :: ui1681 :: ui1562 :: (0, 1) :: ui1564 :: ui1564 :: (0, 2) :: t
def cx_477q0i_1 (t : List (Int × Int)) : List (Int × Int) := ui1562 :: ui1562 :: (1, 8) :: (0, 0) :: ui1562 :: (0, 1) :: ui31 :: t
def cx_477q0 : zS := ((cx_477q0i_0 (cx_477q0i_1 [])), (cx_453pr_0 (cx_453pr_1 [])), [uL1677, uL65, uL573], [], [], [uF1672, uF1671], [uG1637, uG1705, uG1679, uG1674])
def cx_477q1i_0 (t : List (Int × Int)) : List (Int × Int) := ui0 :: ui1721 :: ui1722 :: ui1562 :: (0, 1) :: ui1564 :: ui1564 :: (0, 2) :: t
def cx_477q1i_1 (t : List (Int × Int)) : List (Int × Int) := ui1562 :: ui1562 :: (1, 8) :: (1, 3) :: ui1562 :: (0, 1) :: ui31 :: ui1160 :: t
def cx_477q1 : zS := ((cx_477q1i_0 (cx_477q1i_1 [])), (cx_453pr_0 (cx_453pr_1 [])), [uL1706, uL1707, uL1708], [], [], [uF1709, uF1710], [uG1637, uG1705, uG1711, uG1712])
/-- M.comesOut -/
def cx_477 : zCtx := (218, cx_477p, [cx_477q0, cx_477q1], [uk1644, uk1620, uk1645, uk1646], 107, 1, 22)
def cz_477_0i_0 (t : List (Int × Int)) : List (Int × Int) := ui0 :: ui1721 :: ui1722 :: ui1562 :: (0, 1) :: ui1564 :: ui1564 :: (0, 2) :: t
def cz_477_0i_1 (t : List (Int × Int)) : List (Int × Int) := ui1562 :: ui1562 :: (1, 8) :: (1, 3) :: ui1562 :: (0, 1) :: ui31 :: ui1689 :: t
def cz_477_0i_2 (t : List (Int × Int)) : List (Int × Int) := ui1160 :: (0, 3) :: t
def cz_477_0 : zS := ((cz_477_0i_0 (cz_477_0i_1 (cz_477_0i_2 []))), (cx_453pr_0 (cx_453pr_1 [])), [uL1714, uL1715, uL1716, uL573, uL1676, uL1677, uL1678, uL1717], [uV2, uV64, uV587], [], (cz_475_0f_0 (cz_475_0f_1 [])), [uG1637, uG1705, uG1718, uG1719])
set_option maxRecDepth 1000000 in
theorem ck_477 : x_ok mLT1 [cx_471, cx_472, cx_473, cx_474] mTS2 mTC2 mRUp cx_477 [(85, [0, 1, 2, 3])] [(0, uN1698), (4, [3]), (17, [2]), (41, uN1699), (88, uN1700)] [(0, cz_477_0, (15, [(17, 35)]))] (88, []) 19 40 = true := by decide +kernel
theorem sn_477 {W : Bool} {X : List Int32} : y_Snd (mGw W) mLT1 (J2 W X) X cx_477 := y_ok J2_J mTS2_ok1 mTC2_ok1 mRUp_ok1 (List.forall_mem_cons.mpr ⟨sn_471, List.forall_mem_cons.mpr ⟨sn_472, List.forall_mem_cons.mpr ⟨sn_473, List.forall_mem_cons.mpr ⟨sn_474, fun _ h => absurd h List.not_mem_nil⟩⟩⟩⟩) ck_477
def cx_478p : zS := ((cx_476pi_0 (cx_476pi_1 (cx_476pi_2 []))), (cx_453pr_0 (cx_453pr_1 [])), [uL573, uL1676, uL1677, uL1678], [], [uV2, uV66], (cx_466pf_0 (cx_466pf_1 [])), (cx_466pg_0 []))
def cx_478q0i_0 (t : List (Int × Int)) : List (Int × Int) := ui0 :: ui1669 :: ui1670 :: ui1562 :: (0, 1) :: ui1564 :: ui1564 :: (0, 2) :: t
def cx_478q0i_1 (t : List (Int × Int)) : List (Int × Int) := ui1562 :: ui1562 :: (0, 8) :: (1, 1) :: ui1562 :: ui54 :: ui70 :: ui1564 :: t
def cx_478q0i_2 (t : List (Int × Int)) : List (Int × Int) := (0, 1) :: ui31 :: (0, 1) :: t
def cx_478q0g_0 (t : List zTg) : List zTg := uG1637 :: uG1675 :: (1, [uL69, uL173, uL279]) :: uG1674 :: (216, [uL210, uL211, uL100, uL9, uL69, uL212, uL214]) :: t
def cx_478q0 : zS := ((cx_478q0i_0 (cx_478q0i_1 (cx_478q0i_2 []))), (cx_453pr_0 (cx_453pr_1 [])), [uL1677, uL65, uL573], [], [], [uF1672, uF1671], (cx_478q0g_0 []))
def cx_478q1i_0 (t : List (Int × Int)) : List (Int × Int) := ui0 :: ui1669 :: ui1670 :: ui1562 :: (0, 1) :: ui1564 :: ui1564 :: (0, 2) :: t
def cx_478q1i_1 (t : List (Int × Int)) : List (Int × Int) := ui1562 :: ui1562 :: (1, 8) :: (0, 0) :: ui1562 :: ui54 :: ui70 :: ui1564 :: t
def cx_478q1i_2 (t : List (Int × Int)) : List (Int × Int) := (0, 1) :: ui31 :: (0, 1) :: t
def cx_478q1 : zS := ((cx_478q1i_0 (cx_478q1i_1 (cx_478q1i_2 []))), (cx_453pr_0 (cx_453pr_1 [])), [uL1677, uL65, uL573], [], [], [uF1672, uF1671], (cx_478q0g_0 []))
def cx_478q2i_0 (t : List (Int × Int)) : List (Int × Int) := ui0 :: ui1669 :: (0, 0) :: ui1562 :: (0, 1) :: ui1564 :: ui1564 :: (0, 2) :: t
def cx_478q2i_1 (t : List (Int × Int)) : List (Int × Int) := ui1562 :: ui1562 :: (0, 8) :: (0, 3) :: ui1562 :: ui54 :: ui70 :: ui1564 :: t
def cx_478q2i_2 (t : List (Int × Int)) : List (Int × Int) := (0, 1) :: ui31 :: (0, 1) :: t
def cx_478q2 : zS := ((cx_478q2i_0 (cx_478q2i_1 (cx_478q2i_2 []))), (cx_453pr_0 (cx_453pr_1 [])), [uL1677, uL65, uL573], [], [], [uF1672, uF1671], (cx_478q0g_0 []))
def cx_478q3i_0 (t : List (Int × Int)) : List (Int × Int) := ui0 :: ui1669 :: ui1670 :: ui1562 :: (0, 1) :: ui1564 :: ui1564 :: (0, 2) :: t
def cx_478q3i_1 (t : List (Int × Int)) : List (Int × Int) := ui1562 :: ui1562 :: (0, 8) :: (2, 3) :: ui1562 :: ui54 :: ui70 :: ui1564 :: t
def cx_478q3i_2 (t : List (Int × Int)) : List (Int × Int) := (0, 1) :: ui31 :: ui1681 :: (0, 1) :: t
def cx_478q3g_0 (t : List zTg) : List zTg := uG1637 :: uG1675 :: (1, [uL279, uL173, uL355]) :: uG1683 :: (216, [uL210, uL211, uL100, uL1682, uL279, uL212, uL214]) :: t
def cx_478q3 : zS := ((cx_478q3i_0 (cx_478q3i_1 (cx_478q3i_2 []))), (cx_453pr_0 (cx_453pr_1 [])), [uL1684, uL1685, uL1686], [], [], [uF1687, uF1688], (cx_478q3g_0 []))
def cx_478q4i_0 (t : List (Int × Int)) : List (Int × Int) := ui0 :: ui1669 :: ui1670 :: ui1562 :: (0, 1) :: ui1564 :: ui1564 :: (0, 2) :: t
def cx_478q4i_1 (t : List (Int × Int)) : List (Int × Int) := ui1562 :: ui1562 :: (0, 8) :: (2, 3) :: ui1562 :: ui54 :: ui70 :: ui1564 :: t
def cx_478q4i_2 (t : List (Int × Int)) : List (Int × Int) := (0, 1) :: ui31 :: (0, 0) :: (0, 1) :: t
def cx_478q4 : zS := ((cx_478q4i_0 (cx_478q4i_1 (cx_478q4i_2 []))), (cx_453pr_0 (cx_453pr_1 [])), [uL1684, uL1685, uL1686], [], [], [uF1687, uF1688], (cx_478q3g_0 []))
/-- M.comesOut -/
def cx_478 : zCtx := (218, cx_478p, [cx_478q0, cx_478q1, cx_478q2, cx_478q3, cx_478q4], [uk1644, uk1620, uk1645, uk1646], 424, 1, 22)
def cz_478_0i_0 (t : List (Int × Int)) : List (Int × Int) := ui0 :: ui1669 :: ui1670 :: ui1562 :: (0, 1) :: ui1564 :: ui1564 :: (0, 2) :: t
def cz_478_0i_1 (t : List (Int × Int)) : List (Int × Int) := ui1562 :: ui1562 :: (0, 8) :: (2, 3) :: ui1562 :: ui54 :: ui70 :: ui1564 :: t
def cz_478_0i_2 (t : List (Int × Int)) : List (Int × Int) := (0, 1) :: ui31 :: (10, 15) :: ui98 :: (0, 3) :: t
def cz_478_0g_0 (t : List zTg) : List zTg := uG1637 :: uG1675 :: uG1690 :: uG1692 :: (216, [uL210, uL211, uL100, uL1691, uL355, uL212, uL67]) :: t
def cz_478_0 : zS := ((cz_478_0i_0 (cz_478_0i_1 (cz_478_0i_2 []))), (cx_453pr_0 (cx_453pr_1 [])), [uL1693, uL1694, uL1695, uL573, uL1676, uL1677, uL1678, uL1696], [uV2, uV66, uV1697], [], (cz_466_0f_0 (cz_466_0f_1 [])), (cz_478_0g_0 []))
set_option maxRecDepth 1000000 in
theorem ck_478 : x_ok mLT1 [cx_464, cx_465] mTS2 mTC2 mRUp cx_478 [(85, [0, 1])] [(0, uN1698), (4, [3]), (17, [2]), (41, uN1699), (88, uN1700), (91, uN1720)] [(0, cz_478_0, (65, [(18, 1), (20, 110)]))] (405, []) 19 46 = true := by decide +kernel
theorem sn_478 {W : Bool} {X : List Int32} : y_Snd (mGw W) mLT1 (J2 W X) X cx_478 := y_ok J2_J mTS2_ok1 mTC2_ok1 mRUp_ok1 (List.forall_mem_cons.mpr ⟨sn_464, List.forall_mem_cons.mpr ⟨sn_465, fun _ h => absurd h List.not_mem_nil⟩⟩) ck_478
def cx_479pi_0 (t : List (Int × Int)) : List (Int × Int) := ui0 :: ui408 :: (0, 0) :: (0, 0) :: ui54 :: ui1582 :: ui1563 :: (0, 1) :: t
def cx_479pi_1 (t : List (Int × Int)) : List (Int × Int) := ui1564 :: ui1564 :: (0, 2) :: ui1562 :: ui1562 :: ui54 :: ui306 :: (0, 6) :: t
def cx_479pi_2 (t : List (Int × Int)) : List (Int × Int) := (0, 1) :: ui50 :: (0, 5) :: ui54 :: ui70 :: ui1564 :: (0, 1) :: ui31 :: t
def cx_479pr_0 (t : List (Nat × Bool)) : List (Nat × Bool) := ur1299 :: ur1604 :: ur1313 :: ur1314 :: ur1315 :: ur1316 :: ur1348 :: ur1354 :: t
def cx_479pr_1 (t : List (Nat × Bool)) : List (Nat × Bool) := ur1355 :: ur1345 :: ur1346 :: ur1356 :: ur1357 :: ur1358 :: ur1359 :: ur1360 :: t
def cx_479pf_0 (t : List zFa) : List zFa := uF1389 :: uF1565 :: uF1410 :: uF1395 :: uF1605 :: uF1606 :: uF1607 :: uF1596 :: t
def cx_479pf_1 (t : List zFa) : List zFa := uF1191 :: uF1192 :: uF1329 :: uF1330 :: uF1723 :: uF1724 :: uF1467 :: uF1725 :: t
def cx_479pf_2 (t : List zFa) : List zFa := uF1726 :: uF1727 :: uF1728 :: uF1729 :: uF1730 :: uF1731 :: uF1732 :: uF1733 :: t
def cx_479pf_3 (t : List zFa) : List zFa := uF1734 :: uF1735 :: uF1736 :: t
def cx_479pg_0 (t : List zTg) : List zTg := uG1618 :: uG1737 :: uG1738 :: (216, [uL210, uL9, uL81, uL106, uL65, uL1649, uL65]) :: uG1739 :: t
def cx_479p : zS := ((cx_479pi_0 (cx_479pi_1 (cx_479pi_2 []))), (cx_479pr_0 (cx_479pr_1 [])), [uL1617, uL1740], [], [uV2], (cx_479pf_0 (cx_479pf_1 (cx_479pf_2 (cx_479pf_3 [])))), (cx_479pg_0 []))
def cx_479q0i_0 (t : List (Int × Int)) : List (Int × Int) := ui0 :: ui408 :: (0, 0) :: (0, 0) :: ui54 :: ui1582 :: ui1563 :: (0, 1) :: t
def cx_479q0i_1 (t : List (Int × Int)) : List (Int × Int) := ui1564 :: ui1564 :: (0, 2) :: ui1562 :: ui1562 :: ui54 :: ui306 :: (0, 6) :: t
def cx_479q0i_2 (t : List (Int × Int)) : List (Int × Int) := (0, 1) :: ui50 :: (0, 5) :: ui54 :: ui70 :: ui1564 :: (0, 1) :: ui31 :: t
def cx_479q0i_3 (t : List (Int × Int)) : List (Int × Int) := ui54 :: (1, 2) :: ui408 :: ui1562 :: ui427 :: (0, 7) :: t
def cx_479q0 : zS := ((cx_479q0i_0 (cx_479q0i_1 (cx_479q0i_2 (cx_479q0i_3 [])))), (cx_479pr_0 (cx_479pr_1 [])), [uL1741], [], [], [uF1742, uF1743, uF1744, uF1745, uF1725, uF1746, (0, (false, 12, 0, []), 0, 0, 0, [(29, 1)]), uF1725], [uG1618, uG1739, uG1747])
def cx_479q1i_0 (t : List (Int × Int)) : List (Int × Int) := ui0 :: ui408 :: (0, 0) :: (0, 0) :: ui54 :: ui1582 :: ui1563 :: (0, 1) :: t
def cx_479q1i_1 (t : List (Int × Int)) : List (Int × Int) := ui1564 :: ui1564 :: (0, 2) :: ui1562 :: ui1562 :: ui54 :: ui306 :: (0, 6) :: t
def cx_479q1i_2 (t : List (Int × Int)) : List (Int × Int) := (0, 1) :: ui50 :: (0, 5) :: ui54 :: ui70 :: ui1564 :: (0, 1) :: ui31 :: t
def cx_479q1i_3 (t : List (Int × Int)) : List (Int × Int) := (0, 0) :: ui1704 :: ui1459 :: ui1563 :: t
def cx_479q1g_0 (t : List zTg) : List zTg := uG1618 :: uG1739 :: (0, [uL106, uL67, uL1653]) :: uG1748 :: (40, [uL210, uL1655, uL211, uL67, uL69, uL212, uL216, uL279, uL355, uL410]) :: (71, [uL210, uL1655]) :: (216, [uL210, uL1655, uL81, uL1653, uL1656, uL1649, uL36]) :: t
def cx_479q1 : zS := ((cx_479q1i_0 (cx_479q1i_1 (cx_479q1i_2 (cx_479q1i_3 [])))), (cx_479pr_0 (cx_479pr_1 [])), [((-2), [(7, 420), (25, (-1)), (26, 1)]), (0, [(1, (-1)), (5, 1), (25, (-1)), (26, 1)]), ((-1), [(1, (-1)), (26, 1)]), uL1749, uL1741], [], [], [uF1750, uF1751, uF1744, uF1410, uF1395, uF1725, uF1725, uF1565], (cx_479q1g_0 []))
/-- M.expression -/
def cx_479 : zCtx := (215, cx_479p, [cx_479q0, cx_479q1], kc_75, 14189224, 3, 61)
def cq_479 : List zCtx := [cx_454, cx_405, cx_406, cx_456, cx_457, cx_460, cx_461, cx_466, cx_467, cx_468, cx_469, cx_470, cx_409, cx_414, cx_475, cx_476, cx_477, cx_478]
def cs_479 : List (Nat × List Nat) := [(26, [0]), (43, [1]), (57, [2, 3]), (85, [4, 5]), (99, [6]), (115, [7]), (139, [2]), (148, [8]), (157, [9]), (166, [10]), (175, [11]), (201, [12, 13]), (206, [7, 14, 15, 16]), (214, [10]), (223, [11]), (234, [15, 17]), (266, [2])]
def hs_479 : List (Nat × List Nat) := [(5, [5, 6]), (24, [1000246]), (42, [1000350]), (56, [1000351]), (60, [3, 1000352, 1000353]), (71, [4]), (81, [1000589]), (84, [1000338, 1000339]), (85, [3]), (97, [1000246]), (115, [1000609]), (118, [2]), (138, [1000354]), (142, [1000355, 1000356, 1000590]), (187, [1000372, 1000373, 1000374]), (200, [1000357, 1000358, 1000359]), (206, [1000609]), (234, [1000609]), (237, [3]), (255, [4]), (265, [1000360, 1000361, 1000362, 1000363]), (269, [1000364, 1000365, 1000366, 1000367, 1000368, 1000369, 1000370, 1000371, 1000591, 1000592, 1000593, 1000594])]
def nd_479_0pi_0 (t : List (Int × Int)) : List (Int × Int) := ui0 :: ui408 :: (0, 0) :: (0, 0) :: ui54 :: ui1582 :: ui1563 :: (0, 1) :: t
def nd_479_0pi_1 (t : List (Int × Int)) : List (Int × Int) := ui1564 :: ui1564 :: (0, 2) :: ui1562 :: ui1562 :: ui54 :: ui306 :: (0, 6) :: t
def nd_479_0pi_2 (t : List (Int × Int)) : List (Int × Int) := (0, 1) :: ui50 :: (0, 5) :: ui54 :: ui70 :: ui1564 :: (0, 1) :: ui31 :: t
def nd_479_0pi_3 (t : List (Int × Int)) : List (Int × Int) := ui98 :: ui408 :: (0, 6) :: (0, 822) :: (0, 3) :: t
def nd_479_0pf_0 (t : List zFa) : List zFa := uF1750 :: uF1752 :: uF1753 :: uF1410 :: uF1395 :: uF1745 :: uF1607 :: uF1596 :: t
def nd_479_0pf_1 (t : List zFa) : List zFa := uF1191 :: uF1192 :: uF1329 :: uF1330 :: uF1723 :: uF1724 :: uF1467 :: uF1725 :: t
def nd_479_0pf_2 (t : List zFa) : List zFa := uF1726 :: uF1727 :: uF1728 :: uF1729 :: uF1730 :: uF1731 :: uF1732 :: uF1733 :: t
def nd_479_0pf_3 (t : List zFa) : List zFa := uF1734 :: uF1735 :: uF1736 :: t
def nd_479_0pg_0 (t : List zTg) : List zTg := uG1618 :: uG1739 :: (1, [uL1652, uL1754, uL1661]) :: (0, [uL106, uL1755, uL1656]) :: uG1756 :: (40, [uL210, uL1653, uL211, uL65, uL1655, uL212, uL216, uL279, uL355, uL410]) :: (216, [uL210, uL1653, uL81, uL1656, uL1652, uL1649, uL65]) :: t
def nd_479_0p : zS := ((nd_479_0pi_0 (nd_479_0pi_1 (nd_479_0pi_2 (nd_479_0pi_3 [])))), (cx_479pr_0 (cx_479pr_1 [])), [uL1757, uL1758, uL1759, uL1760, uL1755, uL1754], [uV2, uV12, uV66], [], (nd_479_0pf_0 (nd_479_0pf_1 (nd_479_0pf_2 (nd_479_0pf_3 [])))), (nd_479_0pg_0 []))
def nd_479_0 : zN := (12, nd_479_0p, (14180160, [(1, 35520), (2, (-96000000000000)), (3, (-96000000000000)), (25, (-35520)), (26, 480)]))
def nd_479_1pi_0 (t : List (Int × Int)) : List (Int × Int) := ui0 :: ui408 :: (0, 0) :: (0, 0) :: ui54 :: ui1582 :: ui1563 :: (0, 1) :: t
def nd_479_1pi_1 (t : List (Int × Int)) : List (Int × Int) := ui1564 :: ui1564 :: (0, 2) :: ui1562 :: ui1562 :: ui54 :: ui306 :: (0, 6) :: t
def nd_479_1pi_2 (t : List (Int × Int)) : List (Int × Int) := (0, 1) :: ui50 :: (0, 5) :: ui54 :: ui70 :: ui1564 :: (0, 1) :: ui31 :: t
def nd_479_1pi_3 (t : List (Int × Int)) : List (Int × Int) := ui427 :: ui408 :: (0, 6) :: ui1562 :: (0, 3) :: t
def nd_479_1p : zS := ((nd_479_1pi_0 (nd_479_1pi_1 (nd_479_1pi_2 (nd_479_1pi_3 [])))), (cx_479pr_0 (cx_479pr_1 [])), [uL1757, uL1758, uL1759, uL1760, uL1755, uL1754], [uV2, uV12, uV66], [], (nd_479_0pf_0 (nd_479_0pf_1 (nd_479_0pf_2 (nd_479_0pf_3 [])))), (nd_479_0pg_0 []))
def nd_479_1 : zN := (23, nd_479_1p, (14174400, [(1, 35520), (2, (-96000000000000)), (3, (-96000000000000)), (25, (-35520)), (26, 480)]))
def nd_479_2pi_0 (t : List (Int × Int)) : List (Int × Int) := ui0 :: ui408 :: (0, 0) :: (0, 0) :: ui54 :: ui1582 :: ui1563 :: (0, 1) :: t
def nd_479_2pi_1 (t : List (Int × Int)) : List (Int × Int) := ui1564 :: ui1564 :: (0, 2) :: ui1562 :: ui1562 :: ui54 :: ui306 :: (0, 6) :: t
def nd_479_2pi_2 (t : List (Int × Int)) : List (Int × Int) := (0, 1) :: ui50 :: (0, 5) :: ui54 :: ui70 :: ui1564 :: (0, 1) :: ui31 :: t
def nd_479_2pi_3 (t : List (Int × Int)) : List (Int × Int) := ui1459 :: ui1761 :: ui427 :: (0, 6) :: (0, 3) :: t
def nd_479_2pf_0 (t : List zFa) : List zFa := uF1762 :: uF1410 :: uF1395 :: uF1751 :: uF1725 :: uF1763 :: uF1764 :: uF1607 :: t
def nd_479_2pf_1 (t : List zFa) : List zFa := uF1596 :: uF1191 :: uF1192 :: uF1329 :: uF1330 :: uF1723 :: uF1724 :: uF1467 :: t
def nd_479_2pf_2 (t : List zFa) : List zFa := uF1725 :: uF1726 :: uF1727 :: uF1728 :: uF1729 :: uF1730 :: uF1731 :: uF1732 :: t
def nd_479_2pf_3 (t : List zFa) : List zFa := uF1733 :: uF1734 :: uF1735 :: uF1736 :: t
def nd_479_2pg_0 (t : List zTg) : List zTg := uG1618 :: uG1739 :: uG1766 :: uG1767 :: uG1768 :: uG1769 :: uG1770 :: t
def nd_479_2p : zS := ((nd_479_2pi_0 (nd_479_2pi_1 (nd_479_2pi_2 (nd_479_2pi_3 [])))), (cx_479pr_0 (cx_479pr_1 [])), [uL1771, uL1772, uL1773, uL1749, uL1774, uL1765], [uV2, uV12, uV66], [], (nd_479_2pf_0 (nd_479_2pf_1 (nd_479_2pf_2 (nd_479_2pf_3 [])))), (nd_479_2pg_0 []))
def nd_479_2 : zN := (96, nd_479_2p, (14200320, [(1, 35520), (2, (-96000000000000)), (3, (-96000000000000)), (24, (-35520)), (27, 480)]))
def nd_479_3pi_0 (t : List (Int × Int)) : List (Int × Int) := ui0 :: ui408 :: (0, 0) :: (0, 0) :: ui54 :: ui1582 :: ui1563 :: (0, 1) :: t
def nd_479_3pi_1 (t : List (Int × Int)) : List (Int × Int) := ui1564 :: ui1564 :: (0, 2) :: ui1562 :: ui1562 :: ui54 :: ui306 :: (0, 6) :: t
def nd_479_3pi_2 (t : List (Int × Int)) : List (Int × Int) := (0, 1) :: ui50 :: (0, 5) :: ui54 :: ui70 :: ui1564 :: (0, 1) :: ui31 :: t
def nd_479_3pi_3 (t : List (Int × Int)) : List (Int × Int) := ui1459 :: ui427 :: (0, 6) :: (0, 3) :: ui1702 :: ui54 :: t
def nd_479_3pf_0 (t : List zFa) : List zFa := uF1762 :: uF1410 :: uF1395 :: (0, (false, 39, 0, []), 0, 0, 1, [(5, 1)]) :: uF1725 :: (0, (false, 43, 0, []), 0, 0, 0, [(25, 1)]) :: uF1753 :: uF1607 :: t
def nd_479_3pf_1 (t : List zFa) : List zFa := uF1596 :: uF1191 :: uF1192 :: uF1329 :: uF1330 :: uF1723 :: uF1724 :: uF1467 :: t
def nd_479_3pf_2 (t : List zFa) : List zFa := uF1725 :: uF1726 :: uF1727 :: uF1728 :: uF1729 :: uF1730 :: uF1731 :: uF1732 :: t
def nd_479_3pf_3 (t : List zFa) : List zFa := uF1733 :: uF1734 :: uF1735 :: uF1736 :: (3, (true, 0, 0, [(24, 1)]), 0, 0, 0, [(29, 1)]) :: (2, (true, 0, 0, [(24, 1)]), 0, 0, 0, [(28, 1)]) :: t
def nd_479_3pg_0 (t : List zTg) : List zTg := (59, [uL210, uL1652, uL1661, uL1660]) :: uG1618 :: uG1739 :: (1, [uL1653, uL1754, uL1656]) :: (0, [uL106, (1, [(2, 1), (25, 1), (26, (-1))]), uL208]) :: uG1768 :: (40, [uL210, uL1652, uL211, uL67, uL1655, uL212, uL216, uL279, uL355, uL410]) :: (216, [uL210, uL1652, uL81, uL208, uL1653, uL1649, uL65]) :: t
def nd_479_3p : zS := ((nd_479_3pi_0 (nd_479_3pi_1 (nd_479_3pi_2 (nd_479_3pi_3 [])))), (cx_479pr_0 (cx_479pr_1 [])), [uL1775, uL1776, uL1777, uL1773, uL67, uL1778, uL1754], [uV2, uV12, uV66], [], (nd_479_3pf_0 (nd_479_3pf_1 (nd_479_3pf_2 (nd_479_3pf_3 [])))), (nd_479_3pg_0 []))
def nd_479_3 : zN := (210, nd_479_3p, uL1779)
def nd_479_4pi_0 (t : List (Int × Int)) : List (Int × Int) := ui0 :: ui408 :: (0, 0) :: (0, 0) :: ui54 :: ui1582 :: ui1563 :: (0, 1) :: t
def nd_479_4pi_1 (t : List (Int × Int)) : List (Int × Int) := ui1564 :: ui1564 :: (0, 2) :: ui1562 :: ui1562 :: ui54 :: ui306 :: (0, 6) :: t
def nd_479_4pi_2 (t : List (Int × Int)) : List (Int × Int) := (0, 1) :: ui50 :: (0, 5) :: ui54 :: ui70 :: ui1564 :: (0, 1) :: ui31 :: t
def nd_479_4pi_3 (t : List (Int × Int)) : List (Int × Int) := ui1459 :: ui427 :: (0, 6) :: (0, 3) :: ui1701 :: ui54 :: t
def nd_479_4p : zS := ((nd_479_4pi_0 (nd_479_4pi_1 (nd_479_4pi_2 (nd_479_4pi_3 [])))), (cx_479pr_0 (cx_479pr_1 [])), [uL1775, uL1776, uL1777, uL1773, uL67, uL1778, uL1754], [uV2, uV12, uV66], [], (nd_479_3pf_0 (nd_479_3pf_1 (nd_479_3pf_2 (nd_479_3pf_3 [])))), (nd_479_3pg_0 []))
def nd_479_4 : zN := (210, nd_479_4p, uL1779)
def nd_479_5pi_0 (t : List (Int × Int)) : List (Int × Int) := ui0 :: ui408 :: (0, 0) :: (0, 0) :: ui54 :: ui1582 :: ui1563 :: (0, 1) :: t
def nd_479_5pi_1 (t : List (Int × Int)) : List (Int × Int) := ui1564 :: ui1564 :: (0, 2) :: ui1562 :: ui1562 :: ui54 :: ui306 :: (0, 6) :: t
def nd_479_5pi_2 (t : List (Int × Int)) : List (Int × Int) := (0, 1) :: ui50 :: (0, 5) :: ui54 :: ui70 :: ui1564 :: (0, 1) :: ui31 :: t
def nd_479_5pi_3 (t : List (Int × Int)) : List (Int × Int) := ui1459 :: ui427 :: (0, 6) :: (0, 3) :: (9, 9) :: ui54 :: t
def nd_479_5p : zS := ((nd_479_5pi_0 (nd_479_5pi_1 (nd_479_5pi_2 (nd_479_5pi_3 [])))), (cx_479pr_0 (cx_479pr_1 [])), [uL1775, uL1776, uL1777, uL1773, uL67, uL1778, uL1754], [uV2, uV12, uV66], [], (nd_479_3pf_0 (nd_479_3pf_1 (nd_479_3pf_2 (nd_479_3pf_3 [])))), (nd_479_3pg_0 []))
def nd_479_5 : zN := (210, nd_479_5p, uL1779)
def nd_479_6pi_0 (t : List (Int × Int)) : List (Int × Int) := ui0 :: ui408 :: (0, 0) :: (0, 0) :: ui54 :: ui1582 :: ui1563 :: (0, 1) :: t
def nd_479_6pi_1 (t : List (Int × Int)) : List (Int × Int) := ui1564 :: ui1564 :: (0, 2) :: ui1562 :: ui1562 :: ui54 :: ui306 :: (0, 6) :: t
def nd_479_6pi_2 (t : List (Int × Int)) : List (Int × Int) := (0, 1) :: ui50 :: (0, 5) :: ui54 :: ui70 :: ui1564 :: (0, 1) :: ui31 :: t
def nd_479_6pi_3 (t : List (Int × Int)) : List (Int × Int) := ui1459 :: ui427 :: (0, 6) :: (0, 3) :: (8, 8) :: ui54 :: t
def nd_479_6p : zS := ((nd_479_6pi_0 (nd_479_6pi_1 (nd_479_6pi_2 (nd_479_6pi_3 [])))), (cx_479pr_0 (cx_479pr_1 [])), [uL1775, uL1776, uL1777, uL1773, uL67, uL1778, uL1754], [uV2, uV12, uV66], [], (nd_479_3pf_0 (nd_479_3pf_1 (nd_479_3pf_2 (nd_479_3pf_3 [])))), (nd_479_3pg_0 []))
def nd_479_6 : zN := (210, nd_479_6p, uL1779)
def nd_479_7pi_0 (t : List (Int × Int)) : List (Int × Int) := ui0 :: ui408 :: (0, 0) :: (0, 0) :: ui54 :: ui1582 :: ui1563 :: (0, 1) :: t
def nd_479_7pi_1 (t : List (Int × Int)) : List (Int × Int) := ui1564 :: ui1564 :: (0, 2) :: ui1562 :: ui1562 :: ui54 :: ui306 :: (0, 6) :: t
def nd_479_7pi_2 (t : List (Int × Int)) : List (Int × Int) := (0, 1) :: ui50 :: (0, 5) :: ui54 :: ui70 :: ui1564 :: (0, 1) :: ui31 :: t
def nd_479_7pi_3 (t : List (Int × Int)) : List (Int × Int) := ui1459 :: ui1761 :: ui427 :: (0, 6) :: (0, 3) :: ui1702 :: ui54 :: t
def nd_479_7pf_0 (t : List zFa) : List zFa := uF1762 :: uF1410 :: uF1395 :: uF1751 :: uF1725 :: uF1763 :: uF1764 :: uF1607 :: t
def nd_479_7pf_1 (t : List zFa) : List zFa := uF1596 :: uF1191 :: uF1192 :: uF1329 :: uF1330 :: uF1723 :: uF1724 :: uF1467 :: t
def nd_479_7pf_2 (t : List zFa) : List zFa := uF1725 :: uF1726 :: uF1727 :: uF1728 :: uF1729 :: uF1730 :: uF1731 :: uF1732 :: t
def nd_479_7pf_3 (t : List zFa) : List zFa := uF1733 :: uF1734 :: uF1735 :: uF1736 :: (3, (true, 0, 0, [(24, 1)]), 0, 0, 0, [(30, 1)]) :: (2, (true, 0, 0, [(24, 1)]), 0, 0, 0, [(29, 1)]) :: t
def nd_479_7pg_0 (t : List zTg) : List zTg := (59, [uL210, uL1652, uL1660, uL1780]) :: uG1618 :: uG1739 :: uG1766 :: uG1767 :: uG1768 :: uG1769 :: uG1770 :: t
def nd_479_7p : zS := ((nd_479_7pi_0 (nd_479_7pi_1 (nd_479_7pi_2 (nd_479_7pi_3 [])))), (cx_479pr_0 (cx_479pr_1 [])), [uL1781, uL1771, uL1772, uL1773, uL1749, uL1774, uL1765], [uV2, uV12, uV66], [], (nd_479_7pf_0 (nd_479_7pf_1 (nd_479_7pf_2 (nd_479_7pf_3 [])))), (nd_479_7pg_0 []))
def nd_479_7 : zN := (210, nd_479_7p, ((-96000000000000), [(1, 35520), (2, (-96000000000000)), (3, (-96000000000000)), (24, (-35520)), (27, 480), (29, 6400000945024)]))
def nd_479_8pi_0 (t : List (Int × Int)) : List (Int × Int) := ui0 :: ui408 :: (0, 0) :: (0, 0) :: ui54 :: ui1582 :: ui1563 :: (0, 1) :: t
def nd_479_8pi_1 (t : List (Int × Int)) : List (Int × Int) := ui1564 :: ui1564 :: (0, 2) :: ui1562 :: ui1562 :: ui54 :: ui306 :: (0, 6) :: t
def nd_479_8pi_2 (t : List (Int × Int)) : List (Int × Int) := (0, 1) :: ui50 :: (0, 5) :: ui54 :: ui70 :: ui1564 :: (0, 1) :: ui31 :: t
def nd_479_8pi_3 (t : List (Int × Int)) : List (Int × Int) := ui1459 :: ui1761 :: ui427 :: (0, 6) :: (0, 3) :: ui1701 :: ui54 :: t
def nd_479_8p : zS := ((nd_479_8pi_0 (nd_479_8pi_1 (nd_479_8pi_2 (nd_479_8pi_3 [])))), (cx_479pr_0 (cx_479pr_1 [])), [uL1781, uL1771, uL1772, uL1773, uL1749, uL1774, uL1765], [uV2, uV12, uV66], [], (nd_479_7pf_0 (nd_479_7pf_1 (nd_479_7pf_2 (nd_479_7pf_3 [])))), (nd_479_7pg_0 []))
def nd_479_8 : zN := (210, nd_479_8p, ((-96000000000000), [(1, 35520), (2, (-96000000000000)), (3, (-96000000000000)), (24, (-35505)), (29, 9600001417440)]))
def nd_479_9pi_0 (t : List (Int × Int)) : List (Int × Int) := ui0 :: ui408 :: (0, 0) :: (0, 0) :: ui54 :: ui1582 :: ui1563 :: (0, 1) :: t
def nd_479_9pi_1 (t : List (Int × Int)) : List (Int × Int) := ui1564 :: ui1564 :: (0, 2) :: ui1562 :: ui1562 :: ui54 :: ui306 :: (0, 6) :: t
def nd_479_9pi_2 (t : List (Int × Int)) : List (Int × Int) := (0, 1) :: ui50 :: (0, 5) :: ui54 :: ui70 :: ui1564 :: (0, 1) :: ui31 :: t
def nd_479_9pi_3 (t : List (Int × Int)) : List (Int × Int) := ui1459 :: ui1761 :: ui427 :: (0, 6) :: (0, 3) :: (9, 9) :: ui54 :: t
def nd_479_9p : zS := ((nd_479_9pi_0 (nd_479_9pi_1 (nd_479_9pi_2 (nd_479_9pi_3 [])))), (cx_479pr_0 (cx_479pr_1 [])), [uL1781, uL1771, uL1772, uL1773, uL1749, uL1774, uL1765], [uV2, uV12, uV66], [], (nd_479_7pf_0 (nd_479_7pf_1 (nd_479_7pf_2 (nd_479_7pf_3 [])))), (nd_479_7pg_0 []))
def nd_479_9 : zN := (210, nd_479_9p, ((-96000000000000), [(1, 35520), (2, (-96000000000000)), (3, (-96000000000000)), (24, (-35505)), (29, 10666668241920)]))
def nd_479_10pi_0 (t : List (Int × Int)) : List (Int × Int) := ui0 :: ui408 :: (0, 0) :: (0, 0) :: ui54 :: ui1582 :: ui1563 :: (0, 1) :: t
def nd_479_10pi_1 (t : List (Int × Int)) : List (Int × Int) := ui1564 :: ui1564 :: (0, 2) :: ui1562 :: ui1562 :: ui54 :: ui306 :: (0, 6) :: t
def nd_479_10pi_2 (t : List (Int × Int)) : List (Int × Int) := (0, 1) :: ui50 :: (0, 5) :: ui54 :: ui70 :: ui1564 :: (0, 1) :: ui31 :: t
def nd_479_10pi_3 (t : List (Int × Int)) : List (Int × Int) := ui1459 :: ui1761 :: ui427 :: (0, 6) :: (0, 3) :: (8, 8) :: ui54 :: t
def nd_479_10p : zS := ((nd_479_10pi_0 (nd_479_10pi_1 (nd_479_10pi_2 (nd_479_10pi_3 [])))), (cx_479pr_0 (cx_479pr_1 [])), [uL1781, uL1771, uL1772, uL1773, uL1749, uL1774, uL1765], [uV2, uV12, uV66], [], (nd_479_7pf_0 (nd_479_7pf_1 (nd_479_7pf_2 (nd_479_7pf_3 [])))), (nd_479_7pg_0 []))
def nd_479_10 : zN := (210, nd_479_10p, ((-96000000000000), [(1, 35520), (2, (-96000000000000)), (3, (-96000000000000)), (24, (-35496)), (29, 12000001772145)]))
def ns_479 : List zN := [nd_479_0, nd_479_1, nd_479_2, nd_479_3, nd_479_4, nd_479_5, nd_479_6, nd_479_7, nd_479_8, nd_479_9, nd_479_10]
set_option maxRecDepth 1000000 in
theorem ca_479 : x_okA mLT1 cq_479 mTS2 mTC2 mRUp cx_479 cs_479 hs_479 ns_479 (14188800, []) 424 64 = true := by decide +kernel
set_option maxRecDepth 1000000 in
theorem cb_479_0 : x_okB mLT1 cq_479 mTS2 mTC2 mRUp cx_479 cs_479 hs_479 ns_479 (14188800, []) 424 64 nd_479_0 = true := by decide +kernel
set_option maxRecDepth 1000000 in
theorem cb_479_1 : x_okB mLT1 cq_479 mTS2 mTC2 mRUp cx_479 cs_479 hs_479 ns_479 (14188800, []) 424 64 nd_479_1 = true := by decide +kernel
set_option maxRecDepth 1000000 in
theorem cb_479_2 : x_okB mLT1 cq_479 mTS2 mTC2 mRUp cx_479 cs_479 hs_479 ns_479 (14188800, []) 424 64 nd_479_2 = true := by decide +kernel
set_option maxRecDepth 1000000 in
theorem cb_479_3 : x_okB mLT1 cq_479 mTS2 mTC2 mRUp cx_479 cs_479 hs_479 ns_479 (14188800, []) 424 64 nd_479_3 = true := by decide +kernel
set_option maxRecDepth 1000000 in
theorem cb_479_4 : x_okB mLT1 cq_479 mTS2 mTC2 mRUp cx_479 cs_479 hs_479 ns_479 (14188800, []) 424 64 nd_479_4 = true := by decide +kernel
set_option maxRecDepth 1000000 in
theorem cb_479_5 : x_okB mLT1 cq_479 mTS2 mTC2 mRUp cx_479 cs_479 hs_479 ns_479 (14188800, []) 424 64 nd_479_5 = true := by decide +kernel
set_option maxRecDepth 1000000 in
theorem cb_479_6 : x_okB mLT1 cq_479 mTS2 mTC2 mRUp cx_479 cs_479 hs_479 ns_479 (14188800, []) 424 64 nd_479_6 = true := by decide +kernel
set_option maxRecDepth 1000000 in
theorem cb_479_7 : x_okB mLT1 cq_479 mTS2 mTC2 mRUp cx_479 cs_479 hs_479 ns_479 (14188800, []) 424 64 nd_479_7 = true := by decide +kernel
set_option maxRecDepth 1000000 in
theorem cb_479_8 : x_okB mLT1 cq_479 mTS2 mTC2 mRUp cx_479 cs_479 hs_479 ns_479 (14188800, []) 424 64 nd_479_8 = true := by decide +kernel
set_option maxRecDepth 1000000 in
theorem cb_479_9 : x_okB mLT1 cq_479 mTS2 mTC2 mRUp cx_479 cs_479 hs_479 ns_479 (14188800, []) 424 64 nd_479_9 = true := by decide +kernel
set_option maxRecDepth 1000000 in
theorem cb_479_10 : x_okB mLT1 cq_479 mTS2 mTC2 mRUp cx_479 cs_479 hs_479 ns_479 (14188800, []) 424 64 nd_479_10 = true := by decide +kernel
set_option maxRecDepth 1000000 in
theorem cc_479 : x_okC mLT1 cq_479 mTS2 mTC2 mRUp cx_479 cs_479 hs_479 ns_479 (14188800, []) 424 64 = true := by decide +kernel
theorem ck_479 : x_ok mLT1 cq_479 mTS2 mTC2 mRUp cx_479 cs_479 hs_479 ns_479 (14188800, []) 424 64 = true := x_ok_of ca_479 (List.forall_mem_cons.mpr ⟨cb_479_0, List.forall_mem_cons.mpr ⟨cb_479_1, List.forall_mem_cons.mpr ⟨cb_479_2, List.forall_mem_cons.mpr ⟨cb_479_3, List.forall_mem_cons.mpr ⟨cb_479_4, List.forall_mem_cons.mpr ⟨cb_479_5, List.forall_mem_cons.mpr ⟨cb_479_6, List.forall_mem_cons.mpr ⟨cb_479_7, List.forall_mem_cons.mpr ⟨cb_479_8, List.forall_mem_cons.mpr ⟨cb_479_9, List.forall_mem_cons.mpr ⟨cb_479_10, fun _ h => absurd h List.not_mem_nil⟩⟩⟩⟩⟩⟩⟩⟩⟩⟩⟩) cc_479
theorem sn_479 {W : Bool} {X : List Int32} : y_Snd (mGw W) mLT1 (J2 W X) X cx_479 := y_ok J2_J mTS2_ok1 mTC2_ok1 mRUp_ok1 (List.forall_mem_cons.mpr ⟨sn_454, List.forall_mem_cons.mpr ⟨sn_405, List.forall_mem_cons.mpr ⟨sn_406, List.forall_mem_cons.mpr ⟨sn_456, List.forall_mem_cons.mpr ⟨sn_457, List.forall_mem_cons.mpr ⟨sn_460, List.forall_mem_cons.mpr ⟨sn_461, List.forall_mem_cons.mpr ⟨sn_466, List.forall_mem_cons.mpr ⟨sn_467, List.forall_mem_cons.mpr ⟨sn_468, List.forall_mem_cons.mpr ⟨sn_469, List.forall_mem_cons.mpr ⟨sn_470, List.forall_mem_cons.mpr ⟨sn_409, List.forall_mem_cons.mpr ⟨sn_414, List.forall_mem_cons.mpr ⟨sn_475, List.forall_mem_cons.mpr ⟨sn_476, List.forall_mem_cons.mpr ⟨sn_477, List.forall_mem_cons.mpr ⟨sn_478, fun _ h => absurd h List.not_mem_nil⟩⟩⟩⟩⟩⟩⟩⟩⟩⟩⟩⟩⟩⟩⟩⟩⟩⟩) ck_479
end
