noncomputable section
/-! ===== readings, by program, checked by the kernel ===== -/
def cx_483pi_0 (t : List (Int × Int)) : List (Int × Int) := ui0 :: ui1697 :: ui425 :: ui1591 :: (0, 1) :: ui1593 :: ui1593 :: (0, 2) :: t
def cx_483pi_1 (t : List (Int × Int)) : List (Int × Int) := ui1591 :: ui1591 :: (0, 8) :: (0, 3) :: ui1591 :: ui52 :: ui68 :: ui1593 :: t
def cx_483pi_2 (t : List (Int × Int)) : List (Int × Int) := (0, 1) :: ui31 :: t
def cx_483p : zS := ((cx_483pi_0 (cx_483pi_1 (cx_483pi_2 []))), (cx_460pr_0 (cx_460pr_1 [])), [uL571, uL1704, uL1705, uL1706], [], [uV2, uV62], (cx_473pf_0 (cx_473pf_1 [])), (cx_473pg_0 []))
def cx_483q1i_0 (t : List (Int × Int)) : List (Int × Int) := ui0 :: ui1697 :: (0, 0) :: ui1591 :: (0, 1) :: ui1593 :: ui1593 :: (0, 2) :: t
def cx_483q1i_1 (t : List (Int × Int)) : List (Int × Int) := ui1591 :: ui1591 :: (0, 8) :: (0, 3) :: ui1591 :: ui52 :: ui68 :: ui1593 :: t
def cx_483q1i_2 (t : List (Int × Int)) : List (Int × Int) := (0, 1) :: ui31 :: t
def cx_483q1 : zS := ((cx_483q1i_0 (cx_483q1i_1 (cx_483q1i_2 []))), (cx_460pr_0 (cx_460pr_1 [])), [uL1705, uL63, uL571], [], [], [uF1700, uF1699], (cx_473q0g_0 []))
def cx_483q2i_0 (t : List (Int × Int)) : List (Int × Int) := ui0 :: ui1697 :: ui1698 :: ui1591 :: (0, 1) :: ui1593 :: ui1593 :: (0, 2) :: t
def cx_483q2i_1 (t : List (Int × Int)) : List (Int × Int) := ui1591 :: ui1591 :: (1, 8) :: (1, 3) :: ui1591 :: ui52 :: ui68 :: ui1593 :: t
def cx_483q2i_2 (t : List (Int × Int)) : List (Int × Int) := (0, 1) :: ui31 :: ui1709 :: t
def cx_483q2 : zS := ((cx_483q2i_0 (cx_483q2i_1 (cx_483q2i_2 []))), (cx_460pr_0 (cx_460pr_1 [])), [uL1712, uL1713, uL1714], [], [], [uF1715, uF1716], (cx_473q1g_0 []))
def cx_483q3i_0 (t : List (Int × Int)) : List (Int × Int) := ui0 :: ui1697 :: ui1698 :: ui1591 :: (0, 1) :: ui1593 :: ui1593 :: (0, 2) :: t
def cx_483q3i_1 (t : List (Int × Int)) : List (Int × Int) := ui1591 :: ui1591 :: (0, 8) :: (1, 3) :: ui1591 :: ui52 :: ui68 :: ui1593 :: t
def cx_483q3i_2 (t : List (Int × Int)) : List (Int × Int) := (0, 1) :: ui31 :: (0, 0) :: t
def cx_483q3 : zS := ((cx_483q3i_0 (cx_483q3i_1 (cx_483q3i_2 []))), (cx_460pr_0 (cx_460pr_1 [])), [uL1712, uL1713, uL1714], [], [], [uF1715, uF1716], (cx_473q1g_0 []))
/-- M.comesOut -/
def cx_483 : zCtx := (218, cx_483p, [cx_473q0, cx_483q1, cx_483q2, cx_483q3], [uk1672, uk1648, uk1673, uk1674], 107, 1, 22)
def cz_483_0i_0 (t : List (Int × Int)) : List (Int × Int) := ui0 :: ui1697 :: ui1698 :: ui1591 :: (0, 1) :: ui1593 :: ui1593 :: (0, 2) :: t
def cz_483_0i_1 (t : List (Int × Int)) : List (Int × Int) := ui1591 :: ui1591 :: (0, 8) :: (1, 3) :: ui1591 :: ui52 :: ui68 :: ui1593 :: t
def cz_483_0i_2 (t : List (Int × Int)) : List (Int × Int) := (0, 1) :: ui31 :: ui1717 :: ui96 :: (0, 3) :: t
def cz_483_0 : zS := ((cz_483_0i_0 (cz_483_0i_1 (cz_483_0i_2 []))), (cx_460pr_0 (cx_460pr_1 [])), [uL1721, uL1722, uL1723, uL571, uL1704, uL1705, uL1706, uL1724], [uV2, uV62, uV1178], [], (cz_473_0f_0 (cz_473_0f_1 [])), (cz_473_0g_0 []))
set_option maxRecDepth 1000000 in
theorem ck_483 : x_ok mLT1 [cx_469, cx_470, cx_471, cx_472] mTS2 mTC2 mRUp cx_483 [(85, [0, 1, 2, 3])] [(0, uN1725), (4, [3]), (17, [2]), (41, uN1726), (88, uN1727), (91, uN1747)] [(0, cz_483_0, (15, [(20, 35)]))] (88, []) 19 40 = true := by decide +kernel
theorem sn_483 {W : Bool} {X : List Int32} : y_Snd (mGw W) mLT1 (J2 W X) X cx_483 := y_ok J2_J mTS2_ok1 mTC2_ok1 mRUp_ok1 (List.forall_mem_cons.mpr ⟨sn_469, List.forall_mem_cons.mpr ⟨sn_470, List.forall_mem_cons.mpr ⟨sn_471, List.forall_mem_cons.mpr ⟨sn_472, fun _ h => absurd h List.not_mem_nil⟩⟩⟩⟩) ck_483
def cx_484pi_0 (t : List (Int × Int)) : List (Int × Int) := ui0 :: ui1748 :: ui1709 :: ui1591 :: (0, 1) :: ui1593 :: ui1593 :: (0, 2) :: t
def cx_484pi_1 (t : List (Int × Int)) : List (Int × Int) := ui1591 :: ui1591 :: (1, 8) :: (0, 3) :: ui1591 :: (0, 1) :: ui31 :: t
def cx_484p : zS := ((cx_484pi_0 (cx_484pi_1 [])), (cx_460pr_0 (cx_460pr_1 [])), [uL571, uL1704, uL1705, uL1706], [], [uV2, uV62], (cx_473pf_0 (cx_473pf_1 [])), [uG1665, uG1701, uG1702, uG1732])
def cx_484q0i_0 (t : List (Int × Int)) : List (Int × Int) := ui0 :: ui1748 :: ui1709 :: ui1591 :: (0, 1) :: ui1593 :: ui1593 :: (0, 2) :: t
def cx_484q0i_1 (t : List (Int × Int)) : List (Int × Int) := ui1591 :: ui1591 :: (1, 8) :: (0, 0) :: ui1591 :: (0, 1) :: ui31 :: t
def cx_484q0 : zS := ((cx_484q0i_0 (cx_484q0i_1 [])), (cx_460pr_0 (cx_460pr_1 [])), [uL1705, uL63, uL571], [], [], [uF1700, uF1699], [uG1665, uG1732, uG1707, uG1702])
def cx_484q1i_0 (t : List (Int × Int)) : List (Int × Int) := ui0 :: ui1748 :: ui1749 :: ui1591 :: (0, 1) :: ui1593 :: ui1593 :: (0, 2) :: t
def cx_484q1i_1 (t : List (Int × Int)) : List (Int × Int) := ui1591 :: ui1591 :: (1, 8) :: (1, 3) :: ui1591 :: (0, 1) :: ui31 :: ui1251 :: t
def cx_484q1 : zS := ((cx_484q1i_0 (cx_484q1i_1 [])), (cx_460pr_0 (cx_460pr_1 [])), [uL1733, uL1734, uL1735], [], [], [uF1736, uF1737], [uG1665, uG1732, uG1738, uG1739])
/-- M.comesOut -/
def cx_484 : zCtx := (218, cx_484p, [cx_484q0, cx_484q1], [uk1672, uk1648, uk1673, uk1674], 107, 1, 22)
def cz_484_0i_0 (t : List (Int × Int)) : List (Int × Int) := ui0 :: ui1748 :: ui1749 :: ui1591 :: (0, 1) :: ui1593 :: ui1593 :: (0, 2) :: t
def cz_484_0i_1 (t : List (Int × Int)) : List (Int × Int) := ui1591 :: ui1591 :: (1, 8) :: (1, 3) :: ui1591 :: (0, 1) :: ui31 :: ui1717 :: t
def cz_484_0i_2 (t : List (Int × Int)) : List (Int × Int) := ui1251 :: (0, 3) :: t
def cz_484_0 : zS := ((cz_484_0i_0 (cz_484_0i_1 (cz_484_0i_2 []))), (cx_460pr_0 (cx_460pr_1 [])), [uL1741, uL1742, uL1743, uL571, uL1704, uL1705, uL1706, uL1744], [uV2, uV62, uV585], [], (cz_482_0f_0 (cz_482_0f_1 [])), [uG1665, uG1732, uG1745, uG1746])
set_option maxRecDepth 1000000 in
theorem ck_484 : x_ok mLT1 [cx_478, cx_479, cx_480, cx_481] mTS2 mTC2 mRUp cx_484 [(85, [0, 1, 2, 3])] [(0, uN1725), (4, [3]), (17, [2]), (41, uN1726), (88, uN1727)] [(0, cz_484_0, (15, [(17, 35)]))] (88, []) 19 40 = true := by decide +kernel
theorem sn_484 {W : Bool} {X : List Int32} : y_Snd (mGw W) mLT1 (J2 W X) X cx_484 := y_ok J2_J mTS2_ok1 mTC2_ok1 mRUp_ok1 (List.forall_mem_cons.mpr ⟨sn_478, List.forall_mem_cons.mpr ⟨sn_479, List.forall_mem_cons.mpr ⟨sn_480, List.forall_mem_cons.mpr ⟨sn_481, fun _ h => absurd h List.not_mem_nil⟩⟩⟩⟩) ck_484
def cx_485p : zS := ((cx_483pi_0 (cx_483pi_1 (cx_483pi_2 []))), (cx_460pr_0 (cx_460pr_1 [])), [uL571, uL1704, uL1705, uL1706], [], [uV2, uV64], (cx_473pf_0 (cx_473pf_1 [])), (cx_473pg_0 []))
def cx_485q0i_0 (t : List (Int × Int)) : List (Int × Int) := ui0 :: ui1697 :: ui1698 :: ui1591 :: (0, 1) :: ui1593 :: ui1593 :: (0, 2) :: t
def cx_485q0i_1 (t : List (Int × Int)) : List (Int × Int) := ui1591 :: ui1591 :: (0, 8) :: (1, 1) :: ui1591 :: ui52 :: ui68 :: ui1593 :: t
def cx_485q0i_2 (t : List (Int × Int)) : List (Int × Int) := (0, 1) :: ui31 :: (0, 1) :: t
def cx_485q0g_0 (t : List zTg) : List zTg := uG1665 :: uG1703 :: (1, [uL67, uL170, uL277]) :: uG1702 :: (216, [uL207, uL208, uL98, uL9, uL67, uL209, uL211]) :: t
def cx_485q0 : zS := ((cx_485q0i_0 (cx_485q0i_1 (cx_485q0i_2 []))), (cx_460pr_0 (cx_460pr_1 [])), [uL1705, uL63, uL571], [], [], [uF1700, uF1699], (cx_485q0g_0 []))
def cx_485q1i_0 (t : List (Int × Int)) : List (Int × Int) := ui0 :: ui1697 :: ui1698 :: ui1591 :: (0, 1) :: ui1593 :: ui1593 :: (0, 2) :: t
def cx_485q1i_1 (t : List (Int × Int)) : List (Int × Int) := ui1591 :: ui1591 :: (1, 8) :: (0, 0) :: ui1591 :: ui52 :: ui68 :: ui1593 :: t
def cx_485q1i_2 (t : List (Int × Int)) : List (Int × Int) := (0, 1) :: ui31 :: (0, 1) :: t
def cx_485q1 : zS := ((cx_485q1i_0 (cx_485q1i_1 (cx_485q1i_2 []))), (cx_460pr_0 (cx_460pr_1 [])), [uL1705, uL63, uL571], [], [], [uF1700, uF1699], (cx_485q0g_0 []))
def cx_485q2i_0 (t : List (Int × Int)) : List (Int × Int) := ui0 :: ui1697 :: (0, 0) :: ui1591 :: (0, 1) :: ui1593 :: ui1593 :: (0, 2) :: t
def cx_485q2i_1 (t : List (Int × Int)) : List (Int × Int) := ui1591 :: ui1591 :: (0, 8) :: (0, 3) :: ui1591 :: ui52 :: ui68 :: ui1593 :: t
def cx_485q2i_2 (t : List (Int × Int)) : List (Int × Int) := (0, 1) :: ui31 :: (0, 1) :: t
def cx_485q2 : zS := ((cx_485q2i_0 (cx_485q2i_1 (cx_485q2i_2 []))), (cx_460pr_0 (cx_460pr_1 [])), [uL1705, uL63, uL571], [], [], [uF1700, uF1699], (cx_485q0g_0 []))
def cx_485q3i_0 (t : List (Int × Int)) : List (Int × Int) := ui0 :: ui1697 :: ui1698 :: ui1591 :: (0, 1) :: ui1593 :: ui1593 :: (0, 2) :: t
def cx_485q3i_1 (t : List (Int × Int)) : List (Int × Int) := ui1591 :: ui1591 :: (0, 8) :: (2, 3) :: ui1591 :: ui52 :: ui68 :: ui1593 :: t
def cx_485q3i_2 (t : List (Int × Int)) : List (Int × Int) := (0, 1) :: ui31 :: ui1709 :: (0, 1) :: t
def cx_485q3g_0 (t : List zTg) : List zTg := uG1665 :: uG1703 :: (1, [uL277, uL170, uL353]) :: uG1711 :: (216, [uL207, uL208, uL98, uL1710, uL277, uL209, uL211]) :: t
def cx_485q3 : zS := ((cx_485q3i_0 (cx_485q3i_1 (cx_485q3i_2 []))), (cx_460pr_0 (cx_460pr_1 [])), [uL1712, uL1713, uL1714], [], [], [uF1715, uF1716], (cx_485q3g_0 []))
def cx_485q4i_0 (t : List (Int × Int)) : List (Int × Int) := ui0 :: ui1697 :: ui1698 :: ui1591 :: (0, 1) :: ui1593 :: ui1593 :: (0, 2) :: t
def cx_485q4i_1 (t : List (Int × Int)) : List (Int × Int) := ui1591 :: ui1591 :: (0, 8) :: (2, 3) :: ui1591 :: ui52 :: ui68 :: ui1593 :: t
def cx_485q4i_2 (t : List (Int × Int)) : List (Int × Int) := (0, 1) :: ui31 :: (0, 0) :: (0, 1) :: t
def cx_485q4 : zS := ((cx_485q4i_0 (cx_485q4i_1 (cx_485q4i_2 []))), (cx_460pr_0 (cx_460pr_1 [])), [uL1712, uL1713, uL1714], [], [], [uF1715, uF1716], (cx_485q3g_0 []))
/-- M.comesOut -/
def cx_485 : zCtx := (218, cx_485p, [cx_485q0, cx_485q1, cx_485q2, cx_485q3, cx_485q4], [uk1672, uk1648, uk1673, uk1674], 424, 1, 22)
def cz_485_0i_0 (t : List (Int × Int)) : List (Int × Int) := ui0 :: ui1697 :: ui1698 :: ui1591 :: (0, 1) :: ui1593 :: ui1593 :: (0, 2) :: t
def cz_485_0i_1 (t : List (Int × Int)) : List (Int × Int) := ui1591 :: ui1591 :: (0, 8) :: (2, 3) :: ui1591 :: ui52 :: ui68 :: ui1593 :: t
def cz_485_0i_2 (t : List (Int × Int)) : List (Int × Int) := (0, 1) :: ui31 :: (10, 15) :: ui96 :: (0, 3) :: t
def cz_485_0g_0 (t : List zTg) : List zTg := uG1665 :: uG1703 :: uG1718 :: uG1720 :: (216, [uL207, uL208, uL98, uL1719, uL353, uL209, uL65]) :: t
def cz_485_0 : zS := ((cz_485_0i_0 (cz_485_0i_1 (cz_485_0i_2 []))), (cx_460pr_0 (cx_460pr_1 [])), [uL1721, uL1722, uL1723, uL571, uL1704, uL1705, uL1706, uL1724], [uV2, uV64, uV1178], [], (cz_473_0f_0 (cz_473_0f_1 [])), (cz_485_0g_0 []))
set_option maxRecDepth 1000000 in
theorem ck_485 : x_ok mLT1 [cx_471, cx_472] mTS2 mTC2 mRUp cx_485 [(85, [0, 1])] [(0, uN1725), (4, [3]), (17, [2]), (41, uN1726), (88, uN1727), (91, uN1747)] [(0, cz_485_0, (65, [(18, 1), (20, 110)]))] (405, []) 19 46 = true := by decide +kernel
theorem sn_485 {W : Bool} {X : List Int32} : y_Snd (mGw W) mLT1 (J2 W X) X cx_485 := y_ok J2_J mTS2_ok1 mTC2_ok1 mRUp_ok1 (List.forall_mem_cons.mpr ⟨sn_471, List.forall_mem_cons.mpr ⟨sn_472, fun _ h => absurd h List.not_mem_nil⟩⟩) ck_485
def cx_486pi_0 (t : List (Int × Int)) : List (Int × Int) := ui0 :: ui406 :: (0, 0) :: (0, 0) :: ui52 :: ui1611 :: ui1592 :: (0, 1) :: t
def cx_486pi_1 (t : List (Int × Int)) : List (Int × Int) := ui1593 :: ui1593 :: (0, 2) :: ui1591 :: ui1591 :: ui52 :: ui304 :: (0, 6) :: t
def cx_486pi_2 (t : List (Int × Int)) : List (Int × Int) := (0, 1) :: ui48 :: (0, 5) :: ui52 :: ui68 :: ui1593 :: (0, 1) :: ui31 :: t
def cx_486pr_0 (t : List (Nat × Bool)) : List (Nat × Bool) := ur1331 :: ur1632 :: ur1345 :: ur1346 :: ur1347 :: ur1348 :: ur1381 :: ur1387 :: t
def cx_486pr_1 (t : List (Nat × Bool)) : List (Nat × Bool) := ur1388 :: ur1378 :: ur1379 :: ur1389 :: ur1390 :: ur1391 :: ur1392 :: ur1393 :: t
def cx_486pf_0 (t : List zFa) : List zFa := uF1422 :: uF1594 :: uF1442 :: uF1428 :: uF1633 :: uF1634 :: uF1635 :: uF1624 :: t
def cx_486pf_1 (t : List zFa) : List zFa := uF1109 :: uF1110 :: uF1362 :: uF1363 :: uF1750 :: uF1751 :: uF1497 :: uF1752 :: t
def cx_486pf_2 (t : List zFa) : List zFa := uF1753 :: uF1754 :: uF1755 :: uF1756 :: uF1757 :: uF1758 :: uF1759 :: uF1760 :: t
def cx_486pf_3 (t : List zFa) : List zFa := uF1761 :: uF1762 :: uF1763 :: t
def cx_486pg_0 (t : List zTg) : List zTg := uG1646 :: uG1764 :: uG1765 :: (216, [uL207, uL9, uL79, uL104, uL63, uL1176, uL63]) :: uG1766 :: t
def cx_486p : zS := ((cx_486pi_0 (cx_486pi_1 (cx_486pi_2 []))), (cx_486pr_0 (cx_486pr_1 [])), [uL1645, uL1767], [], [uV2], (cx_486pf_0 (cx_486pf_1 (cx_486pf_2 (cx_486pf_3 [])))), (cx_486pg_0 []))
def cx_486q0i_0 (t : List (Int × Int)) : List (Int × Int) := ui0 :: ui406 :: (0, 0) :: (0, 0) :: ui52 :: ui1611 :: ui1592 :: (0, 1) :: t
def cx_486q0i_1 (t : List (Int × Int)) : List (Int × Int) := ui1593 :: ui1593 :: (0, 2) :: ui1591 :: ui1591 :: ui52 :: ui304 :: (0, 6) :: t
def cx_486q0i_2 (t : List (Int × Int)) : List (Int × Int) := (0, 1) :: ui48 :: (0, 5) :: ui52 :: ui68 :: ui1593 :: (0, 1) :: ui31 :: t
def cx_486q0i_3 (t : List (Int × Int)) : List (Int × Int) := ui52 :: (1, 2) :: ui406 :: ui1591 :: ui425 :: (0, 7) :: t
def cx_486q0 : zS := ((cx_486q0i_0 (cx_486q0i_1 (cx_486q0i_2 (cx_486q0i_3 [])))), (cx_486pr_0 (cx_486pr_1 [])), [uL1768], [], [], [uF1769, uF1770, uF1771, uF1772, uF1752, uF1773, (0, (false, 12, 0, []), 0, 0, 0, [(29, 1)]), uF1752], [uG1646, uG1766, uG1774])
def cx_486q1i_0 (t : List (Int × Int)) : List (Int × Int) := ui0 :: ui406 :: (0, 0) :: (0, 0) :: ui52 :: ui1611 :: ui1592 :: (0, 1) :: t
def cx_486q1i_1 (t : List (Int × Int)) : List (Int × Int) := ui1593 :: ui1593 :: (0, 2) :: ui1591 :: ui1591 :: ui52 :: ui304 :: (0, 6) :: t
def cx_486q1i_2 (t : List (Int × Int)) : List (Int × Int) := (0, 1) :: ui48 :: (0, 5) :: ui52 :: ui68 :: ui1593 :: (0, 1) :: ui31 :: t
def cx_486q1i_3 (t : List (Int × Int)) : List (Int × Int) := (0, 0) :: ui1731 :: ui1489 :: ui1592 :: t
def cx_486q1g_0 (t : List zTg) : List zTg := uG1646 :: uG1766 :: (0, [uL104, uL65, uL1680]) :: uG1775 :: (40, [uL207, uL1682, uL208, uL65, uL67, uL209, uL213, uL277, uL353, uL408]) :: (71, [uL207, uL1682]) :: (216, [uL207, uL1682, uL79, uL1680, uL1683, uL1176, uL36]) :: t
def cx_486q1 : zS := ((cx_486q1i_0 (cx_486q1i_1 (cx_486q1i_2 (cx_486q1i_3 [])))), (cx_486pr_0 (cx_486pr_1 [])), [((-2), [(7, 420), (25, (-1)), (26, 1)]), (0, [(1, (-1)), (5, 1), (25, (-1)), (26, 1)]), ((-1), [(1, (-1)), (26, 1)]), uL1776, uL1768], [], [], [uF1777, uF1778, uF1771, uF1442, uF1428, uF1752, uF1752, uF1594], (cx_486q1g_0 []))
/-- M.expression -/
def cx_486 : zCtx := (215, cx_486p, [cx_486q0, cx_486q1], kc_75, 14189224, 3, 61)
def cq_486 : List zCtx := [cx_461, cx_412, cx_413, cx_463, cx_464, cx_467, cx_468, cx_473, cx_474, cx_475, cx_476, cx_477, cx_416, cx_421, cx_482, cx_483, cx_484, cx_485]
def cs_486 : List (Nat × List Nat) := [(26, [0]), (43, [1]), (57, [2, 3]), (85, [4, 5]), (99, [6]), (115, [7]), (139, [2]), (148, [8]), (157, [9]), (166, [10]), (175, [11]), (201, [12, 13]), (206, [7, 14, 15, 16]), (214, [10]), (223, [11]), (234, [15, 17]), (266, [2])]
def hs_486 : List (Nat × List Nat) := [(5, [5, 6]), (24, [1000246]), (42, [1000350]), (56, [1000351]), (60, [3, 1000352, 1000353]), (71, [4]), (81, [1000589]), (84, [1000338, 1000339]), (85, [3]), (97, [1000246]), (115, [1000609]), (118, [2]), (138, [1000354]), (142, [1000355, 1000356, 1000590]), (187, [1000372, 1000373, 1000374]), (200, [1000357, 1000358, 1000359]), (206, [1000609]), (234, [1000609]), (237, [3]), (255, [4]), (265, [1000360, 1000361, 1000362, 1000363]), (269, [1000364, 1000365, 1000366, 1000367, 1000368, 1000369, 1000370, 1000371, 1000591, 1000592, 1000593, 1000594])]
def nd_486_0pi_0 (t : List (Int × Int)) : List (Int × Int) := ui0 :: ui406 :: (0, 0) :: (0, 0) :: ui52 :: ui1611 :: ui1592 :: (0, 1) :: t
def nd_486_0pi_1 (t : List (Int × Int)) : List (Int × Int) := ui1593 :: ui1593 :: (0, 2) :: ui1591 :: ui1591 :: ui52 :: ui304 :: (0, 6) :: t
def nd_486_0pi_2 (t : List (Int × Int)) : List (Int × Int) := (0, 1) :: ui48 :: (0, 5) :: ui52 :: ui68 :: ui1593 :: (0, 1) :: ui31 :: t
def nd_486_0pi_3 (t : List (Int × Int)) : List (Int × Int) := ui96 :: ui406 :: (0, 6) :: (0, 822) :: (0, 3) :: t
def nd_486_0pf_0 (t : List zFa) : List zFa := uF1777 :: uF1779 :: uF1780 :: uF1442 :: uF1428 :: uF1772 :: uF1635 :: uF1624 :: t
def nd_486_0pf_1 (t : List zFa) : List zFa := uF1109 :: uF1110 :: uF1362 :: uF1363 :: uF1750 :: uF1751 :: uF1497 :: uF1752 :: t
def nd_486_0pf_2 (t : List zFa) : List zFa := uF1753 :: uF1754 :: uF1755 :: uF1756 :: uF1757 :: uF1758 :: uF1759 :: uF1760 :: t
def nd_486_0pf_3 (t : List zFa) : List zFa := uF1761 :: uF1762 :: uF1763 :: t
def nd_486_0pg_0 (t : List zTg) : List zTg := uG1646 :: uG1766 :: (1, [uL1679, uL1781, uL1689]) :: (0, [uL104, uL1782, uL1683]) :: uG1783 :: (40, [uL207, uL1680, uL208, uL63, uL1682, uL209, uL213, uL277, uL353, uL408]) :: (216, [uL207, uL1680, uL79, uL1683, uL1679, uL1176, uL63]) :: t
def nd_486_0p : zS := ((nd_486_0pi_0 (nd_486_0pi_1 (nd_486_0pi_2 (nd_486_0pi_3 [])))), (cx_486pr_0 (cx_486pr_1 [])), [uL1784, uL1785, uL1786, uL1787, uL1782, uL1781], [uV2, uV12, uV64], [], (nd_486_0pf_0 (nd_486_0pf_1 (nd_486_0pf_2 (nd_486_0pf_3 [])))), (nd_486_0pg_0 []))
def nd_486_0 : zN := (12, nd_486_0p, (14180160, [(1, 35520), (2, (-96000000000000)), (3, (-96000000000000)), (25, (-35520)), (26, 480)]))
def nd_486_1pi_0 (t : List (Int × Int)) : List (Int × Int) := ui0 :: ui406 :: (0, 0) :: (0, 0) :: ui52 :: ui1611 :: ui1592 :: (0, 1) :: t
def nd_486_1pi_1 (t : List (Int × Int)) : List (Int × Int) := ui1593 :: ui1593 :: (0, 2) :: ui1591 :: ui1591 :: ui52 :: ui304 :: (0, 6) :: t
def nd_486_1pi_2 (t : List (Int × Int)) : List (Int × Int) := (0, 1) :: ui48 :: (0, 5) :: ui52 :: ui68 :: ui1593 :: (0, 1) :: ui31 :: t
def nd_486_1pi_3 (t : List (Int × Int)) : List (Int × Int) := ui425 :: ui406 :: (0, 6) :: ui1591 :: (0, 3) :: t
def nd_486_1p : zS := ((nd_486_1pi_0 (nd_486_1pi_1 (nd_486_1pi_2 (nd_486_1pi_3 [])))), (cx_486pr_0 (cx_486pr_1 [])), [uL1784, uL1785, uL1786, uL1787, uL1782, uL1781], [uV2, uV12, uV64], [], (nd_486_0pf_0 (nd_486_0pf_1 (nd_486_0pf_2 (nd_486_0pf_3 [])))), (nd_486_0pg_0 []))
def nd_486_1 : zN := (23, nd_486_1p, (14174400, [(1, 35520), (2, (-96000000000000)), (3, (-96000000000000)), (25, (-35520)), (26, 480)]))
def nd_486_2pi_0 (t : List (Int × Int)) : List (Int × Int) := ui0 :: ui406 :: (0, 0) :: (0, 0) :: ui52 :: ui1611 :: ui1592 :: (0, 1) :: t
def nd_486_2pi_1 (t : List (Int × Int)) : List (Int × Int) := ui1593 :: ui1593 :: (0, 2) :: ui1591 :: ui1591 :: ui52 :: ui304 :: (0, 6) :: t
def nd_486_2pi_2 (t : List (Int × Int)) : List (Int × Int) := (0, 1) :: ui48 :: (0, 5) :: ui52 :: ui68 :: ui1593 :: (0, 1) :: ui31 :: t
def nd_486_2pi_3 (t : List (Int × Int)) : List (Int × Int) := ui1489 :: ui1788 :: ui425 :: (0, 6) :: (0, 3) :: t
def nd_486_2pf_0 (t : List zFa) : List zFa := uF1789 :: uF1442 :: uF1428 :: uF1778 :: uF1752 :: uF1790 :: uF1791 :: uF1635 :: t
def nd_486_2pf_1 (t : List zFa) : List zFa := uF1624 :: uF1109 :: uF1110 :: uF1362 :: uF1363 :: uF1750 :: uF1751 :: uF1497 :: t
def nd_486_2pf_2 (t : List zFa) : List zFa := uF1752 :: uF1753 :: uF1754 :: uF1755 :: uF1756 :: uF1757 :: uF1758 :: uF1759 :: t
def nd_486_2pf_3 (t : List zFa) : List zFa := uF1760 :: uF1761 :: uF1762 :: uF1763 :: t
def nd_486_2pg_0 (t : List zTg) : List zTg := uG1646 :: uG1766 :: uG1793 :: uG1794 :: uG1795 :: uG1796 :: uG1797 :: t
def nd_486_2p : zS := ((nd_486_2pi_0 (nd_486_2pi_1 (nd_486_2pi_2 (nd_486_2pi_3 [])))), (cx_486pr_0 (cx_486pr_1 [])), [uL1798, uL1799, uL1800, uL1776, uL1801, uL1792], [uV2, uV12, uV64], [], (nd_486_2pf_0 (nd_486_2pf_1 (nd_486_2pf_2 (nd_486_2pf_3 [])))), (nd_486_2pg_0 []))
def nd_486_2 : zN := (96, nd_486_2p, (14200320, [(1, 35520), (2, (-96000000000000)), (3, (-96000000000000)), (24, (-35520)), (27, 480)]))
def nd_486_3pi_0 (t : List (Int × Int)) : List (Int × Int) := ui0 :: ui406 :: (0, 0) :: (0, 0) :: ui52 :: ui1611 :: ui1592 :: (0, 1) :: t
def nd_486_3pi_1 (t : List (Int × Int)) : List (Int × Int) := ui1593 :: ui1593 :: (0, 2) :: ui1591 :: ui1591 :: ui52 :: ui304 :: (0, 6) :: t
def nd_486_3pi_2 (t : List (Int × Int)) : List (Int × Int) := (0, 1) :: ui48 :: (0, 5) :: ui52 :: ui68 :: ui1593 :: (0, 1) :: ui31 :: t
def nd_486_3pi_3 (t : List (Int × Int)) : List (Int × Int) := ui1489 :: ui425 :: (0, 6) :: (0, 3) :: ui1729 :: ui52 :: t
def nd_486_3pf_0 (t : List zFa) : List zFa := uF1789 :: uF1442 :: uF1428 :: (0, (false, 39, 0, []), 0, 0, 1, [(5, 1)]) :: uF1752 :: (0, (false, 43, 0, []), 0, 0, 0, [(25, 1)]) :: uF1780 :: uF1635 :: t
def nd_486_3pf_1 (t : List zFa) : List zFa := uF1624 :: uF1109 :: uF1110 :: uF1362 :: uF1363 :: uF1750 :: uF1751 :: uF1497 :: t
def nd_486_3pf_2 (t : List zFa) : List zFa := uF1752 :: uF1753 :: uF1754 :: uF1755 :: uF1756 :: uF1757 :: uF1758 :: uF1759 :: t
def nd_486_3pf_3 (t : List zFa) : List zFa := uF1760 :: uF1761 :: uF1762 :: uF1763 :: (3, (true, 0, 0, [(24, 1)]), 0, 0, 0, [(29, 1)]) :: (2, (true, 0, 0, [(24, 1)]), 0, 0, 0, [(28, 1)]) :: t
def nd_486_3pg_0 (t : List zTg) : List zTg := (59, [uL207, uL1679, uL1689, uL1688]) :: uG1646 :: uG1766 :: (1, [uL1680, uL1781, uL1683]) :: (0, [uL104, (1, [(2, 1), (25, 1), (26, (-1))]), uL205]) :: uG1795 :: (40, [uL207, uL1679, uL208, uL65, uL1682, uL209, uL213, uL277, uL353, uL408]) :: (216, [uL207, uL1679, uL79, uL205, uL1680, uL1176, uL63]) :: t
def nd_486_3p : zS := ((nd_486_3pi_0 (nd_486_3pi_1 (nd_486_3pi_2 (nd_486_3pi_3 [])))), (cx_486pr_0 (cx_486pr_1 [])), [uL1802, uL1803, uL1804, uL1800, uL65, uL1805, uL1781], [uV2, uV12, uV64], [], (nd_486_3pf_0 (nd_486_3pf_1 (nd_486_3pf_2 (nd_486_3pf_3 [])))), (nd_486_3pg_0 []))
def nd_486_3 : zN := (210, nd_486_3p, uL1806)
def nd_486_4pi_0 (t : List (Int × Int)) : List (Int × Int) := ui0 :: ui406 :: (0, 0) :: (0, 0) :: ui52 :: ui1611 :: ui1592 :: (0, 1) :: t
def nd_486_4pi_1 (t : List (Int × Int)) : List (Int × Int) := ui1593 :: ui1593 :: (0, 2) :: ui1591 :: ui1591 :: ui52 :: ui304 :: (0, 6) :: t
def nd_486_4pi_2 (t : List (Int × Int)) : List (Int × Int) := (0, 1) :: ui48 :: (0, 5) :: ui52 :: ui68 :: ui1593 :: (0, 1) :: ui31 :: t
def nd_486_4pi_3 (t : List (Int × Int)) : List (Int × Int) := ui1489 :: ui425 :: (0, 6) :: (0, 3) :: ui1728 :: ui52 :: t
def nd_486_4p : zS := ((nd_486_4pi_0 (nd_486_4pi_1 (nd_486_4pi_2 (nd_486_4pi_3 [])))), (cx_486pr_0 (cx_486pr_1 [])), [uL1802, uL1803, uL1804, uL1800, uL65, uL1805, uL1781], [uV2, uV12, uV64], [], (nd_486_3pf_0 (nd_486_3pf_1 (nd_486_3pf_2 (nd_486_3pf_3 [])))), (nd_486_3pg_0 []))
def nd_486_4 : zN := (210, nd_486_4p, uL1806)
def nd_486_5pi_0 (t : List (Int × Int)) : List (Int × Int) := ui0 :: ui406 :: (0, 0) :: (0, 0) :: ui52 :: ui1611 :: ui1592 :: (0, 1) :: t
def nd_486_5pi_1 (t : List (Int × Int)) : List (Int × Int) := ui1593 :: ui1593 :: (0, 2) :: ui1591 :: ui1591 :: ui52 :: ui304 :: (0, 6) :: t
def nd_486_5pi_2 (t : List (Int × Int)) : List (Int × Int) := (0, 1) :: ui48 :: (0, 5) :: ui52 :: ui68 :: ui1593 :: (0, 1) :: ui31 :: t
def nd_486_5pi_3 (t : List (Int × Int)) : List (Int × Int) := ui1489 :: ui425 :: (0, 6) :: (0, 3) :: (9, 9) :: ui52 :: t
def nd_486_5p : zS := ((nd_486_5pi_0 (nd_486_5pi_1 (nd_486_5pi_2 (nd_486_5pi_3 [])))), (cx_486pr_0 (cx_486pr_1 [])), [uL1802, uL1803, uL1804, uL1800, uL65, uL1805, uL1781], [uV2, uV12, uV64], [], (nd_486_3pf_0 (nd_486_3pf_1 (nd_486_3pf_2 (nd_486_3pf_3 [])))), (nd_486_3pg_0 []))
def nd_486_5 : zN := (210, nd_486_5p, uL1806)
def nd_486_6pi_0 (t : List (Int × Int)) : List (Int × Int) := ui0 :: ui406 :: (0, 0) :: (0, 0) :: ui52 :: ui1611 :: ui1592 :: (0, 1) :: t
def nd_486_6pi_1 (t : List (Int × Int)) : List (Int × Int) := ui1593 :: ui1593 :: (0, 2) :: ui1591 :: ui1591 :: ui52 :: ui304 :: (0, 6) :: t
def nd_486_6pi_2 (t : List (Int × Int)) : List (Int × Int) := (0, 1) :: ui48 :: (0, 5) :: ui52 :: ui68 :: ui1593 :: (0, 1) :: ui31 :: t
def nd_486_6pi_3 (t : List (Int × Int)) : List (Int × Int) := ui1489 :: ui425 :: (0, 6) :: (0, 3) :: (8, 8) :: ui52 :: t
def nd_486_6p : zS := ((nd_486_6pi_0 (nd_486_6pi_1 (nd_486_6pi_2 (nd_486_6pi_3 [])))), (cx_486pr_0 (cx_486pr_1 [])), [uL1802, uL1803, uL1804, uL1800, uL65, uL1805, uL1781], [uV2, uV12, uV64], [], (nd_486_3pf_0 (nd_486_3pf_1 (nd_486_3pf_2 (nd_486_3pf_3 [])))), (nd_486_3pg_0 []))
def nd_486_6 : zN := (210, nd_486_6p, uL1806)
def nd_486_7pi_0 (t : List (Int × Int)) : List (Int × Int) := ui0 :: ui406 :: (0, 0) :: (0, 0) :: ui52 :: ui1611 :: ui1592 :: (0, 1) :: t
def nd_486_7pi_1 (t : List (Int × Int)) : List (Int × Int) := ui1593 :: ui1593 :: (0, 2) :: ui1591 :: ui1591 :: ui52 :: ui304 :: (0, 6) :: t
def nd_486_7pi_2 (t : List (Int × Int)) : List (Int × Int) := (0, 1) :: ui48 :: (0, 5) :: ui52 :: ui68 :: ui1593 :: (0, 1) :: ui31 :: t
def nd_486_7pi_3 (t : List (Int × Int)) : List (Int × Int) := ui1489 :: ui1788 :: ui425 :: (0, 6) :: (0, 3) :: ui1729 :: ui52 :: t
def nd_486_7pf_0 (t : List zFa) : List zFa := uF1789 :: uF1442 :: uF1428 :: uF1778 :: uF1752 :: uF1790 :: uF1791 :: uF1635 :: t
def nd_486_7pf_1 (t : List zFa) : List zFa := uF1624 :: uF1109 :: uF1110 :: uF1362 :: uF1363 :: uF1750 :: uF1751 :: uF1497 :: t
def nd_486_7pf_2 (t : List zFa) : List zFa := uF1752 :: uF1753 :: uF1754 :: uF1755 :: uF1756 :: uF1757 :: uF1758 :: uF1759 :: t
def nd_486_7pf_3 (t : List zFa) : List zFa := uF1760 :: uF1761 :: uF1762 :: uF1763 :: (3, (true, 0, 0, [(24, 1)]), 0, 0, 0, [(30, 1)]) :: (2, (true, 0, 0, [(24, 1)]), 0, 0, 0, [(29, 1)]) :: t
def nd_486_7pg_0 (t : List zTg) : List zTg := (59, [uL207, uL1679, uL1688, uL1807]) :: uG1646 :: uG1766 :: uG1793 :: uG1794 :: uG1795 :: uG1796 :: uG1797 :: t
def nd_486_7p : zS := ((nd_486_7pi_0 (nd_486_7pi_1 (nd_486_7pi_2 (nd_486_7pi_3 [])))), (cx_486pr_0 (cx_486pr_1 [])), [uL1808, uL1798, uL1799, uL1800, uL1776, uL1801, uL1792], [uV2, uV12, uV64], [], (nd_486_7pf_0 (nd_486_7pf_1 (nd_486_7pf_2 (nd_486_7pf_3 [])))), (nd_486_7pg_0 []))
def nd_486_7 : zN := (210, nd_486_7p, ((-96000000000000), [(1, 35520), (2, (-96000000000000)), (3, (-96000000000000)), (24, (-35520)), (27, 480), (29, 6400000945024)]))
def nd_486_8pi_0 (t : List (Int × Int)) : List (Int × Int) := ui0 :: ui406 :: (0, 0) :: (0, 0) :: ui52 :: ui1611 :: ui1592 :: (0, 1) :: t
def nd_486_8pi_1 (t : List (Int × Int)) : List (Int × Int) := ui1593 :: ui1593 :: (0, 2) :: ui1591 :: ui1591 :: ui52 :: ui304 :: (0, 6) :: t
def nd_486_8pi_2 (t : List (Int × Int)) : List (Int × Int) := (0, 1) :: ui48 :: (0, 5) :: ui52 :: ui68 :: ui1593 :: (0, 1) :: ui31 :: t
def nd_486_8pi_3 (t : List (Int × Int)) : List (Int × Int) := ui1489 :: ui1788 :: ui425 :: (0, 6) :: (0, 3) :: ui1728 :: ui52 :: t
def nd_486_8p : zS := ((nd_486_8pi_0 (nd_486_8pi_1 (nd_486_8pi_2 (nd_486_8pi_3 [])))), (cx_486pr_0 (cx_486pr_1 [])), [uL1808, uL1798, uL1799, uL1800, uL1776, uL1801, uL1792], [uV2, uV12, uV64], [], (nd_486_7pf_0 (nd_486_7pf_1 (nd_486_7pf_2 (nd_486_7pf_3 [])))), (nd_486_7pg_0 []))
def nd_486_8 : zN := (210, nd_486_8p, ((-96000000000000), [(1, 35520), (2, (-96000000000000)), (3, (-96000000000000)), (24, (-35505)), (29, 9600001417440)]))
def nd_486_9pi_0 (t : List (Int × Int)) : List (Int × Int) := ui0 :: ui406 :: (0, 0) :: (0, 0) :: ui52 :: ui1611 :: ui1592 :: (0, 1) :: t
def nd_486_9pi_1 (t : List (Int × Int)) : List (Int × Int) := ui1593 :: ui1593 :: (0, 2) :: ui1591 :: ui1591 :: ui52 :: ui304 :: (0, 6) :: t
def nd_486_9pi_2 (t : List (Int × Int)) : List (Int × Int) := (0, 1) :: ui48 :: (0, 5) :: ui52 :: ui68 :: ui1593 :: (0, 1) :: ui31 :: t
def nd_486_9pi_3 (t : List (Int × Int)) : List (Int × Int) := ui1489 :: ui1788 :: ui425 :: (0, 6) :: (0, 3) :: (9, 9) :: ui52 :: t
def nd_486_9p : zS := ((nd_486_9pi_0 (nd_486_9pi_1 (nd_486_9pi_2 (nd_486_9pi_3 [])))), (cx_486pr_0 (cx_486pr_1 [])), [uL1808, uL1798, uL1799, uL1800, uL1776, uL1801, uL1792], [uV2, uV12, uV64], [], (nd_486_7pf_0 (nd_486_7pf_1 (nd_486_7pf_2 (nd_486_7pf_3 [])))), (nd_486_7pg_0 []))
def nd_486_9 : zN := (210, nd_486_9p, ((-96000000000000), [(1, 35520), (2, (-96000000000000)), (3, (-96000000000000)), (24, (-35505)), (29, 10666668241920)]))
def nd_486_10pi_0 (t : List (Int × Int)) : List (Int × Int) := ui0 :: ui406 :: (0, 0) :: (0, 0) :: ui52 :: ui1611 :: ui1592 :: (0, 1) :: t
def nd_486_10pi_1 (t : List (Int × Int)) : List (Int × Int) := ui1593 :: ui1593 :: (0, 2) :: ui1591 :: ui1591 :: ui52 :: ui304 :: (0, 6) :: t
def nd_486_10pi_2 (t : List (Int × Int)) : List (Int × Int) := (0, 1) :: ui48 :: (0, 5) :: ui52 :: ui68 :: ui1593 :: (0, 1) :: ui31 :: t
def nd_486_10pi_3 (t : List (Int × Int)) : List (Int × Int) := ui1489 :: ui1788 :: ui425 :: (0, 6) :: (0, 3) :: (8, 8) :: ui52 :: t
def nd_486_10p : zS := ((nd_486_10pi_0 (nd_486_10pi_1 (nd_486_10pi_2 (nd_486_10pi_3 [])))), (cx_486pr_0 (cx_486pr_1 [])), [uL1808, uL1798, uL1799, uL1800, uL1776, uL1801, uL1792], [uV2, uV12, uV64], [], (nd_486_7pf_0 (nd_486_7pf_1 (nd_486_7pf_2 (nd_486_7pf_3 [])))), (nd_486_7pg_0 []))
def nd_486_10 : zN := (210, nd_486_10p, ((-96000000000000), [(1, 35520), (2, (-96000000000000)), (3, (-96000000000000)), (24, (-35496)), (29, 12000001772145)]))
def ns_486 : List zN := [nd_486_0, nd_486_1, nd_486_2, nd_486_3, nd_486_4, nd_486_5, nd_486_6, nd_486_7, nd_486_8, nd_486_9, nd_486_10]
set_option maxRecDepth 1000000 in
theorem ca_486 : x_okA mLT1 cq_486 mTS2 mTC2 mRUp cx_486 cs_486 hs_486 ns_486 (14188800, []) 424 64 = true := by decide +kernel
set_option maxRecDepth 1000000 in
theorem cb_486_0 : x_okB mLT1 cq_486 mTS2 mTC2 mRUp cx_486 cs_486 hs_486 ns_486 (14188800, []) 424 64 nd_486_0 = true := by decide +kernel
set_option maxRecDepth 1000000 in
theorem cb_486_1 : x_okB mLT1 cq_486 mTS2 mTC2 mRUp cx_486 cs_486 hs_486 ns_486 (14188800, []) 424 64 nd_486_1 = true := by decide +kernel
set_option maxRecDepth 1000000 in
theorem cb_486_2 : x_okB mLT1 cq_486 mTS2 mTC2 mRUp cx_486 cs_486 hs_486 ns_486 (14188800, []) 424 64 nd_486_2 = true := by decide +kernel
set_option maxRecDepth 1000000 in
theorem cb_486_3 : x_okB mLT1 cq_486 mTS2 mTC2 mRUp cx_486 cs_486 hs_486 ns_486 (14188800, []) 424 64 nd_486_3 = true := by decide +kernel
set_option maxRecDepth 1000000 in
theorem cb_486_4 : x_okB mLT1 cq_486 mTS2 mTC2 mRUp cx_486 cs_486 hs_486 ns_486 (14188800, []) 424 64 nd_486_4 = true := by decide +kernel
set_option maxRecDepth 1000000 in
theorem cb_486_5 : x_okB mLT1 cq_486 mTS2 mTC2 mRUp cx_486 cs_486 hs_486 ns_486 (14188800, []) 424 64 nd_486_5 = true := by decide +kernel
set_option maxRecDepth 1000000 in
theorem cb_486_6 : x_okB mLT1 cq_486 mTS2 mTC2 mRUp cx_486 cs_486 hs_486 ns_486 (14188800, []) 424 64 nd_486_6 = true := by decide +kernel
set_option maxRecDepth 1000000 in
theorem cb_486_7 : x_okB mLT1 cq_486 mTS2 mTC2 mRUp cx_486 cs_486 hs_486 ns_486 (14188800, []) 424 64 nd_486_7 = true := by decide +kernel
set_option maxRecDepth 1000000 in
theorem cb_486_8 : x_okB mLT1 cq_486 mTS2 mTC2 mRUp cx_486 cs_486 hs_486 ns_486 (14188800, []) 424 64 nd_486_8 = true := by decide +kernel
set_option maxRecDepth 1000000 in
theorem cb_486_9 : x_okB mLT1 cq_486 mTS2 mTC2 mRUp cx_486 cs_486 hs_486 ns_486 (14188800, []) 424 64 nd_486_9 = true := by decide +kernel
set_option maxRecDepth 1000000 in
theorem cb_486_10 : x_okB mLT1 cq_486 mTS2 mTC2 mRUp cx_486 cs_486 hs_486 ns_486 (14188800, []) 424 64 nd_486_10 = true := by decide +kernel
set_option maxRecDepth 1000000 in
theorem cc_486 : x_okC mLT1 cq_486 mTS2 mTC2 mRUp cx_486 cs_486 hs_486 ns_486 (14188800, []) 424 64 = true := by decide +kernel
theorem ck_486 : x_ok mLT1 cq_486 mTS2 mTC2 mRUp cx_486 cs_486 hs_486 ns_486 (14188800, []) 424 64 = true := x_ok_of ca_486 (List.forall_mem_cons.mpr ⟨cb_486_0, List.forall_mem_cons.mpr ⟨cb_486_1, List.forall_mem_cons.mpr ⟨cb_486_2, List.forall_mem_cons.mpr ⟨cb_486_3, List.forall_mem_cons.mpr ⟨cb_486_4, List.forall_mem_cons.mpr ⟨cb_486_5, List.forall_mem_cons.mpr ⟨cb_486_6, List.forall_mem_cons.mpr ⟨cb_486_7, List.forall_mem_cons.mpr ⟨cb_486_8, List.forall_mem_cons.mpr ⟨cb_486_9, List.forall_mem_cons.mpr ⟨cb_486_10, fun _ h => absurd h List.not_mem_nil⟩⟩⟩⟩⟩⟩⟩⟩⟩⟩⟩) cc_486
theorem sn_486 {W : Bool} {X : List Int32} : y_Snd (mGw W) mLT1 (J2 W X) X cx_486 := y_ok J2_J mTS2_ok1 mTC2_ok1 mRUp_ok1 (List.forall_mem_cons.mpr ⟨sn_461, List.forall_mem_cons.mpr ⟨sn_412, List.forall_mem_cons.mpr ⟨sn_413, List.forall_mem_cons.mpr ⟨sn_463, List.forall_mem_cons.mpr ⟨sn_464, List.forall_mem_cons.mpr ⟨sn_467, List.forall_mem_cons.mpr ⟨sn_468, List.forall_mem_cons.mpr ⟨sn_473, List.forall_mem_cons.mpr ⟨sn_474, List.forall_mem_cons.mpr ⟨sn_475, List.forall_mem_cons.mpr ⟨sn_476, List.forall_mem_cons.mpr ⟨sn_477, List.forall_mem_cons.mpr ⟨sn_416, List.forall_mem_cons.mpr ⟨sn_421, List.forall_mem_cons.mpr ⟨sn_482, List.forall_mem_cons.mpr ⟨sn_483, List.forall_mem_cons.mpr ⟨sn_484, List.forall_mem_cons.mpr ⟨sn_485, fun _ h => absurd h List.not_mem_nil⟩⟩⟩⟩⟩⟩⟩⟩⟩⟩⟩⟩⟩⟩⟩⟩⟩⟩) ck_486
end
