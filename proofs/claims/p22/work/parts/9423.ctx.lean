noncomputable section
/-! ===== readings, by program, checked by the kernel ===== -/
/-- M.begins -/
def cx_509 : zCtx := (190, ([ui0, (0, 1), ui49, (0, 1), (0, 6)], [ur1474, ur2027, ur1635, ur1523], [], [], [uV2], [uF2028, uF2029, uF2030, uF2031, uF2032, uF1539, uF2033], []), [([ui0, (0, 1), ui49, (0, 1), (0, 6), ui194], [ur1474, ur2027, ur1635, ur1523], [], [], [], [uF2034, uF2035, uF2033], [uG2036, uG2037, (273, [uL9, uL98])])], [uk2038, uk2039, uk2040], 494, 0, 0)
def cq_509 : List zCtx := []
def cs_509 : List (Nat × List Nat) := []
def hs_509 : List (Nat × List Nat) := [(0, [81]), (21, [83, 1000744]), (36, [1000745]), (56, [1000746])]
def nd_509_0 : zN := (23, ([ui0, (0, 1), ui49, (0, 1), (0, 6), (0, 6)], [ur1474, ur2027, ur1635, ur1523], [uL1608], [uV2, uV75], [], [uF2028, uF2029, uF2030, uF2031, uF2032, uF1539, uF2033], [uG2036, uG2037, (273, [uL9, uL104])]), (156, [(5, (-23))]))
def ns_509 : List zN := [nd_509_0]
set_option maxRecDepth 1000000 in
theorem ca_509 : x_okA mLT1 cq_509 mTS2 mTC2 mRUp cx_509 cs_509 hs_509 ns_509 (494, []) 0 340 = true := by decide +kernel
set_option maxRecDepth 1000000 in
theorem cb_509_0 : x_okB mLT1 cq_509 mTS2 mTC2 mRUp cx_509 cs_509 hs_509 ns_509 (494, []) 0 340 nd_509_0 = true := by decide +kernel
set_option maxRecDepth 1000000 in
theorem cc_509 : x_okC mLT1 cq_509 mTS2 mTC2 mRUp cx_509 cs_509 hs_509 ns_509 (494, []) 0 340 = true := by decide +kernel
theorem ck_509 : x_ok mLT1 cq_509 mTS2 mTC2 mRUp cx_509 cs_509 hs_509 ns_509 (494, []) 0 340 = true := x_ok_of ca_509 (List.forall_mem_cons.mpr ⟨cb_509_0, fun _ h => absurd h List.not_mem_nil⟩) cc_509
theorem sn_509 {W : Bool} {X : List Int32} : y_Snd (mGw W) mLT1 (J2 W X) X cx_509 := y_ok J2_J mTS2_ok1 mTC2_ok1 mRUp_ok1 (fun _ h => absurd h List.not_mem_nil) ck_509
/-- M.keepsRow -/
def cx_510 : zCtx := (191, ([ui0], [ur1474], [], [], [uV2], [], [uG2036]), [([ui0], [ur1474], [], [], [], [], [uG2041, uG2042, uG2043, uG2041])], [uk2044], 435, 0, 0)
def cq_510 : List zCtx := []
def cs_510 : List (Nat × List Nat) := []
def hs_510 : List (Nat × List Nat) := [(0, [17]), (26, [274, 1000698])]
def ns_510 : List zN := []
set_option maxRecDepth 1000000 in
theorem ca_510 : x_okA mLT1 cq_510 mTS2 mTC2 mRUp cx_510 cs_510 hs_510 ns_510 (435, []) 0 438 = true := by decide +kernel
set_option maxRecDepth 1000000 in
theorem cc_510 : x_okC mLT1 cq_510 mTS2 mTC2 mRUp cx_510 cs_510 hs_510 ns_510 (435, []) 0 438 = true := by decide +kernel
theorem ck_510 : x_ok mLT1 cq_510 mTS2 mTC2 mRUp cx_510 cs_510 hs_510 ns_510 (435, []) 0 438 = true := x_ok_of ca_510 (fun _ h => absurd h List.not_mem_nil) cc_510
theorem sn_510 {W : Bool} {X : List Int32} : y_Snd (mGw W) mLT1 (J2 W X) X cx_510 := y_ok J2_J mTS2_ok1 mTC2_ok1 mRUp_ok1 (fun _ h => absurd h List.not_mem_nil) ck_510
def cx_511pi_0 (t : List (Int × Int)) : List (Int × Int) := ui0 :: ui52 :: ui52 :: ui141 :: ui68 :: (0, 7) :: (0, 2) :: ui52 :: t
def cx_511pi_1 (t : List (Int × Int)) : List (Int × Int) := (0, 5) :: ui52 :: ui2045 :: (0, 1) :: (0, 1) :: (0, 6) :: ui1736 :: ui1734 :: t
def cx_511pi_2 (t : List (Int × Int)) : List (Int × Int) := ui1735 :: ui49 :: (0, 1) :: ui438 :: ui48 :: (0, 1) :: (0, 6) :: ui194 :: t
def cx_511pi_3 (t : List (Int × Int)) : List (Int × Int) := ui194 :: ui194 :: ui194 :: (0, 1) :: (0, 6) :: (0, 1) :: ui31 :: (0, 1) :: t
def cx_511pi_4 (t : List (Int × Int)) : List (Int × Int) := (0, 1) :: (0, 1) :: t
def cx_511pr_0 (t : List (Nat × Bool)) : List (Nat × Bool) := ur1474 :: ur1521 :: ur1522 :: ur1523 :: ur1475 :: ur1485 :: ur1504 :: ur1524 :: t
def cx_511pr_1 (t : List (Nat × Bool)) : List (Nat × Bool) := ur1488 :: ur1489 :: ur1490 :: ur1491 :: ur1634 :: ur1525 :: ur1526 :: ur1527 :: t
def cx_511pr_2 (t : List (Nat × Bool)) : List (Nat × Bool) := ur1528 :: ur1529 :: ur1635 :: ur1636 :: ur1530 :: ur1531 :: ur1532 :: ur1533 :: t
def cx_511pr_3 (t : List (Nat × Bool)) : List (Nat × Bool) := ur1534 :: ur1535 :: ur1536 :: ur2046 :: ur2047 :: ur2027 :: t
def cx_511pf_0 (t : List zFa) : List zFa := uF181 :: uF177 :: uF1216 :: uF1217 :: uF1218 :: uF2048 :: uF1246 :: uF2049 :: t
def cx_511pf_1 (t : List zFa) : List zFa := uF2050 :: uF2051 :: uF2052 :: uF2053 :: uF2054 :: uF2055 :: uF2056 :: uF1882 :: t
def cx_511pf_2 (t : List zFa) : List zFa := uF2057 :: uF2058 :: uF2059 :: uF2060 :: uF1537 :: uF1538 :: uF1539 :: uF430 :: t
def cx_511pf_3 (t : List zFa) : List zFa := uF551 :: uF1162 :: uF1958 :: uF1967 :: uF1968 :: uF1969 :: uF462 :: uF2061 :: t
def cx_511pf_4 (t : List zFa) : List zFa := uF2062 :: uF2063 :: uF2064 :: uF2065 :: uF2066 :: uF2067 :: uF2068 :: uF2069 :: t
def cx_511pf_5 (t : List zFa) : List zFa := uF2070 :: uF2071 :: uF2072 :: uF2073 :: uF2074 :: uF2075 :: uF2076 :: uF2077 :: t
def cx_511pf_6 (t : List zFa) : List zFa := uF2078 :: uF2079 :: uF2080 :: uF2081 :: t
def cx_511pg_0 (t : List zTg) : List zTg := uG2082 :: uG2042 :: uG2083 :: uG1508 :: uG2085 :: uG2086 :: uG2087 :: uG2088 :: t
def cx_511pg_1 (t : List zTg) : List zTg := uG2089 :: uG2090 :: uG2091 :: uG2092 :: t
def cx_511p : zS := ((cx_511pi_0 (cx_511pi_1 (cx_511pi_2 (cx_511pi_3 (cx_511pi_4 []))))), (cx_511pr_0 (cx_511pr_1 (cx_511pr_2 (cx_511pr_3 [])))), [], [], [uV2], (cx_511pf_0 (cx_511pf_1 (cx_511pf_2 (cx_511pf_3 (cx_511pf_4 (cx_511pf_5 (cx_511pf_6 []))))))), (cx_511pg_0 (cx_511pg_1 [])))
def cx_511q0i_0 (t : List (Int × Int)) : List (Int × Int) := ui0 :: ui52 :: ui52 :: ui141 :: ui68 :: (0, 7) :: (0, 2) :: ui52 :: t
def cx_511q0i_1 (t : List (Int × Int)) : List (Int × Int) := (0, 5) :: ui52 :: ui2045 :: (0, 1) :: (0, 1) :: (0, 6) :: ui1736 :: ui1734 :: t
def cx_511q0i_2 (t : List (Int × Int)) : List (Int × Int) := ui1735 :: ui49 :: (0, 1) :: ui438 :: ui48 :: (0, 1) :: (0, 6) :: ui194 :: t
def cx_511q0i_3 (t : List (Int × Int)) : List (Int × Int) := ui194 :: ui194 :: ui194 :: (0, 1) :: (0, 6) :: (0, 1) :: ui31 :: (0, 1) :: t
def cx_511q0i_4 (t : List (Int × Int)) : List (Int × Int) := (0, 1) :: (0, 1) :: (1, 2) :: ui52 :: ui68 :: ui48 :: (0, 7) :: (0, 5) :: t
def cx_511q0i_5 (t : List (Int × Int)) : List (Int × Int) := ui52 :: (0, 6) :: ui1984 :: ui1734 :: ui1735 :: t
def cx_511q0f_0 (t : List zFa) : List zFa := uF2093 :: (0, (false, 14, 0, []), 0, 0, 0, [(35, 1)]) :: (0, (false, 13, 0, []), 0, 0, 0, [(34, 1)]) :: uF2009 :: uF2094 :: uF2094 :: (0, (false, 12, 0, []), 0, 0, 0, [(38, 1)]) :: (0, (false, 15, 0, []), 0, 0, 0, [(39, 1)]) :: t
def cx_511q0f_1 (t : List zFa) : List zFa := (0, (false, 16, 0, []), 0, 0, 0, [(40, 1)]) :: (0, (false, 20, 0, []), 0, 0, 0, [(41, 1)]) :: (0, (false, 33, 0, []), 0, 0, 0, [(42, 1)]) :: (0, (false, 39, 0, []), 0, 0, 0, [(43, 1)]) :: (0, (false, 43, 0, []), 0, 0, 0, [(44, 1)]) :: uF2094 :: (3, (true, 0, 1, [(11, (-1))]), 0, 0, 0, [(41, 1)]) :: uF2095 :: t
def cx_511q0f_2 (t : List zFa) : List zFa := uF165 :: uF32 :: uF2052 :: uF2057 :: uF2058 :: uF2059 :: uF2060 :: uF2077 :: t
def cx_511q0f_3 (t : List zFa) : List zFa := uF2078 :: uF2079 :: t
def cx_511q0g_0 (t : List zTg) : List zTg := uG2082 :: uG2085 :: uG2086 :: uG2087 :: uG2088 :: uG2089 :: uG2090 :: uG2091 :: t
def cx_511q0g_1 (t : List zTg) : List zTg := uG2092 :: uG2096 :: uG2097 :: uG2098 :: uG2099 :: uG2100 :: uG2101 :: uG1509 :: t
def cx_511q0g_2 (t : List zTg) : List zTg := uG1507 :: uG2042 :: uG2102 :: uG1508 :: uG2085 :: uG2086 :: uG2087 :: uG2088 :: t
def cx_511q0g_3 (t : List zTg) : List zTg := uG2089 :: uG2090 :: uG2091 :: t
def cx_511q0 : zS := ((cx_511q0i_0 (cx_511q0i_1 (cx_511q0i_2 (cx_511q0i_3 (cx_511q0i_4 (cx_511q0i_5 [])))))), (cx_511pr_0 (cx_511pr_1 (cx_511pr_2 (cx_511pr_3 [])))), [], [], [uV2103], (cx_511q0f_0 (cx_511q0f_1 (cx_511q0f_2 (cx_511q0f_3 [])))), (cx_511q0g_0 (cx_511q0g_1 (cx_511q0g_2 (cx_511q0g_3 [])))))
def cx_511q1i_0 (t : List (Int × Int)) : List (Int × Int) := ui0 :: ui52 :: ui52 :: ui141 :: ui68 :: (0, 7) :: (0, 2) :: ui52 :: t
def cx_511q1i_1 (t : List (Int × Int)) : List (Int × Int) := (0, 5) :: ui52 :: ui2045 :: (0, 1) :: (0, 1) :: (0, 6) :: ui1736 :: ui1734 :: t
def cx_511q1i_2 (t : List (Int × Int)) : List (Int × Int) := ui1735 :: ui49 :: (0, 1) :: ui438 :: ui48 :: (0, 1) :: (0, 6) :: ui194 :: t
def cx_511q1i_3 (t : List (Int × Int)) : List (Int × Int) := ui194 :: ui194 :: ui194 :: (0, 1) :: (0, 6) :: (0, 1) :: ui31 :: (0, 1) :: t
def cx_511q1i_4 (t : List (Int × Int)) : List (Int × Int) := (0, 1) :: (0, 1) :: (1, 5) :: ui52 :: ui1754 :: ui1753 :: ui194 :: ui194 :: t
def cx_511q1i_5 (t : List (Int × Int)) : List (Int × Int) := ui194 :: ui194 :: ui48 :: (0, 6) :: ui68 :: ui1735 :: t
def cx_511q1f_0 (t : List zFa) : List zFa := uF2093 :: uF2104 :: uF2105 :: uF2106 :: uF2107 :: uF2108 :: uF2109 :: uF2110 :: t
def cx_511q1f_1 (t : List zFa) : List zFa := (0, (false, 20, 0, []), 0, 0, 0, [(43, 1)]) :: uF2095 :: (0, (false, 15, 0, []), 0, 0, 0, [(34, 1)]) :: uF2111 :: uF2112 :: uF2113 :: uF165 :: uF32 :: t
def cx_511q1f_2 (t : List zFa) : List zFa := uF1246 :: (0, (false, 16, 0, []), 0, 0, 0, [(35, 1)]) :: uF2052 :: (0, (false, 43, 0, []), 0, 0, 0, [(45, 1)]) :: uF2057 :: uF2058 :: uF2059 :: uF2060 :: t
def cx_511q1f_3 (t : List zFa) : List zFa := uF2077 :: uF2078 :: uF2079 :: (3, (true, 0, 1, [(11, (-1))]), 0, 0, 0, [(43, 1)]) :: t
def cx_511q1g_0 (t : List zTg) : List zTg := uG2082 :: uG2114 :: uG2115 :: uG2096 :: uG2097 :: uG2098 :: uG2099 :: uG2100 :: t
def cx_511q1g_1 (t : List zTg) : List zTg := uG2101 :: uG2085 :: uG2086 :: uG2087 :: uG2088 :: uG2089 :: uG2090 :: uG2092 :: t
def cx_511q1g_2 (t : List zTg) : List zTg := uG1509 :: uG1507 :: uG2042 :: uG2091 :: uG2102 :: uG1508 :: uG2085 :: uG2086 :: t
def cx_511q1g_3 (t : List zTg) : List zTg := uG2087 :: uG2088 :: uG2089 :: uG2090 :: uG2091 :: t
def cx_511q1 : zS := ((cx_511q1i_0 (cx_511q1i_1 (cx_511q1i_2 (cx_511q1i_3 (cx_511q1i_4 (cx_511q1i_5 [])))))), (cx_511pr_0 (cx_511pr_1 (cx_511pr_2 (cx_511pr_3 [])))), [uL2116, uL2117], [], [uV2103], (cx_511q1f_0 (cx_511q1f_1 (cx_511q1f_2 (cx_511q1f_3 [])))), (cx_511q1g_0 (cx_511q1g_1 (cx_511q1g_2 (cx_511q1g_3 [])))))
def cx_511q2i_0 (t : List (Int × Int)) : List (Int × Int) := ui0 :: ui52 :: ui52 :: ui141 :: ui68 :: (0, 7) :: (0, 2) :: ui52 :: t
def cx_511q2i_1 (t : List (Int × Int)) : List (Int × Int) := (0, 5) :: ui52 :: ui2045 :: (0, 1) :: (0, 1) :: (0, 6) :: ui1736 :: ui1734 :: t
def cx_511q2i_2 (t : List (Int × Int)) : List (Int × Int) := ui1735 :: ui49 :: (0, 1) :: ui438 :: ui48 :: (0, 1) :: (0, 6) :: ui194 :: t
def cx_511q2i_3 (t : List (Int × Int)) : List (Int × Int) := ui194 :: ui194 :: ui194 :: (0, 1) :: (0, 6) :: (0, 1) :: ui31 :: (0, 1) :: t
def cx_511q2i_4 (t : List (Int × Int)) : List (Int × Int) := (0, 1) :: (0, 1) :: ui194 :: (0, 6) :: ui1754 :: ui1753 :: ui194 :: ui194 :: t
def cx_511q2i_5 (t : List (Int × Int)) : List (Int × Int) := ui194 :: ui194 :: ui48 :: (0, 0) :: ui68 :: ui52 :: ui1735 :: (0, 6) :: t
def cx_511q2i_6 (t : List (Int × Int)) : List (Int × Int) := ui194 :: ui194 :: ui194 :: ui194 :: t
def cx_511q2f_0 (t : List zFa) : List zFa := uF2118 :: uF2119 :: uF2120 :: uF2121 :: uF2122 :: uF2034 :: (0, (false, 49, 0, []), 0, 0, 0, [(34, 1)]) :: uF2123 :: t
def cx_511q2f_1 (t : List zFa) : List zFa := uF2124 :: uF2125 :: uF2104 :: uF2105 :: uF2106 :: uF2107 :: uF2108 :: uF2109 :: t
def cx_511q2f_2 (t : List zFa) : List zFa := uF2110 :: (0, (false, 20, 0, []), 0, 0, 0, [(35, 1)]) :: uF2095 :: uF2126 :: uF2111 :: uF2112 :: uF2113 :: uF165 :: t
def cx_511q2f_3 (t : List zFa) : List zFa := uF32 :: uF1246 :: uF2127 :: uF2128 :: uF2123 :: t
def cx_511q2g_0 (t : List zTg) : List zTg := uG2041 :: uG2042 :: uG2043 :: uG2036 :: uG2037 :: uG477 :: uG2129 :: uG2114 :: t
def cx_511q2g_1 (t : List zTg) : List zTg := uG2115 :: uG2096 :: uG2097 :: uG2098 :: uG2099 :: uG2100 :: uG2101 :: uG2085 :: t
def cx_511q2g_2 (t : List zTg) : List zTg := uG2086 :: uG2087 :: uG2088 :: uG2089 :: uG2090 :: uG2092 :: uG1509 :: uG1507 :: t
def cx_511q2g_3 (t : List zTg) : List zTg := uG2091 :: uG477 :: uG1508 :: uG2115 :: (76, [uL9, uL2020]) :: (85, [uL2084, uL2020, uL193]) :: (87, [uL9, uL264, uL2021]) :: (88, [uL2084, uL2021, uL193]) :: t
def cx_511q2g_4 (t : List zTg) : List zTg := (87, [uL9, uL281, uL2130]) :: (89, [uL2084, uL2130, uL193]) :: (87, [uL9, uL283, uL2131]) :: (90, [uL2084, uL2131, uL193]) :: (87, [uL9, uL285, uL2132]) :: (91, [uL2084, uL2132, uL193]) :: (96, [uL9, uL2020, uL2084]) :: uG2114 :: t
def cx_511q2g_5 (t : List zTg) : List zTg := (275, [uL2084, uL2020]) :: t
def cx_511q2 : zS := ((cx_511q2i_0 (cx_511q2i_1 (cx_511q2i_2 (cx_511q2i_3 (cx_511q2i_4 (cx_511q2i_5 (cx_511q2i_6 []))))))), (cx_511pr_0 (cx_511pr_1 (cx_511pr_2 (cx_511pr_3 [])))), [uL2116, uL2117], [], [uV62], (cx_511q2f_0 (cx_511q2f_1 (cx_511q2f_2 (cx_511q2f_3 [])))), (cx_511q2g_0 (cx_511q2g_1 (cx_511q2g_2 (cx_511q2g_3 (cx_511q2g_4 (cx_511q2g_5 [])))))))
/-- M.read -/
def cx_511 : zCtx := (195, cx_511p, [cx_511q0, cx_511q1, cx_511q2], kc_79, 68207627, 7, 147)
def cq_511 : List zCtx := [cx_419, cx_420, cx_421, cx_508, cx_509, cx_510]
def cs_511 : List (Nat × List Nat) := [(42, [0]), (85, [1]), (121, [2]), (128, [3]), (200, [4]), (204, [5])]
def hs_511 : List (Nat × List Nat) := [(9, [1000412]), (30, [1000413]), (36, [1000414]), (88, [10]), (109, uN2133), (119, [1000246]), (131, [740, 1000411]), (134, uN2134), (174, [16]), (178, [1000419]), (186, [16]), (190, [1000419]), (191, [15, 1000457, 1000507, 1000508, 1000509, 1000510]), (192, [1000420]), (207, [1000747])]
def nd_511_0pi_0 (t : List (Int × Int)) : List (Int × Int) := ui0 :: ui52 :: ui52 :: ui141 :: ui68 :: (0, 7) :: (0, 2) :: ui52 :: t
def nd_511_0pi_1 (t : List (Int × Int)) : List (Int × Int) := (0, 5) :: ui52 :: ui2045 :: (0, 1) :: (0, 1) :: (0, 6) :: ui1736 :: ui1734 :: t
def nd_511_0pi_2 (t : List (Int × Int)) : List (Int × Int) := ui1735 :: ui49 :: (0, 1) :: ui438 :: ui48 :: (0, 1) :: (0, 6) :: ui194 :: t
def nd_511_0pi_3 (t : List (Int × Int)) : List (Int × Int) := ui194 :: ui194 :: ui194 :: (0, 1) :: (0, 6) :: (0, 1) :: ui31 :: (0, 1) :: t
def nd_511_0pi_4 (t : List (Int × Int)) : List (Int × Int) := (0, 1) :: (0, 1) :: ui52 :: t
def nd_511_0pf_0 (t : List zFa) : List zFa := uF32 :: uF181 :: uF1216 :: uF1217 :: uF1218 :: uF2048 :: uF1246 :: uF2049 :: t
def nd_511_0pf_1 (t : List zFa) : List zFa := uF2050 :: uF2051 :: uF2052 :: uF2053 :: uF2054 :: uF2055 :: uF2056 :: uF1882 :: t
def nd_511_0pf_2 (t : List zFa) : List zFa := uF2057 :: uF2058 :: uF2059 :: uF2060 :: uF1537 :: uF1538 :: uF1539 :: uF430 :: t
def nd_511_0pf_3 (t : List zFa) : List zFa := uF551 :: uF1162 :: uF1958 :: uF1967 :: uF1968 :: uF1969 :: uF462 :: uF2061 :: t
def nd_511_0pf_4 (t : List zFa) : List zFa := uF2062 :: uF2063 :: uF2064 :: uF2065 :: uF2066 :: uF2067 :: uF2068 :: uF2069 :: t
def nd_511_0pf_5 (t : List zFa) : List zFa := uF2070 :: uF2071 :: uF2072 :: uF2073 :: uF2074 :: uF2075 :: uF2076 :: uF2077 :: t
def nd_511_0pf_6 (t : List zFa) : List zFa := uF2078 :: uF2079 :: uF2080 :: uF2081 :: t
def nd_511_0pg_0 (t : List zTg) : List zTg := uG2082 :: uG2042 :: uG2083 :: uG1508 :: uG2085 :: uG2086 :: uG2087 :: uG2088 :: t
def nd_511_0pg_1 (t : List zTg) : List zTg := uG2089 :: uG2090 :: uG2091 :: uG2092 :: (54, [uL1986]) :: t
def nd_511_0p : zS := ((nd_511_0pi_0 (nd_511_0pi_1 (nd_511_0pi_2 (nd_511_0pi_3 (nd_511_0pi_4 []))))), (cx_511pr_0 (cx_511pr_1 (cx_511pr_2 (cx_511pr_3 [])))), [uL2135], [uV2, uV2103], [], (nd_511_0pf_0 (nd_511_0pf_1 (nd_511_0pf_2 (nd_511_0pf_3 (nd_511_0pf_4 (nd_511_0pf_5 (nd_511_0pf_6 []))))))), (nd_511_0pg_0 (nd_511_0pg_1 [])))
def nd_511_0 : zN := (10, nd_511_0p, (429320, [(34, (-15))]))
def nd_511_1pi_0 (t : List (Int × Int)) : List (Int × Int) := ui0 :: ui52 :: ui52 :: ui141 :: ui68 :: (0, 7) :: (0, 2) :: ui52 :: t
def nd_511_1pi_1 (t : List (Int × Int)) : List (Int × Int) := (0, 5) :: ui52 :: ui2045 :: (0, 1) :: (0, 1) :: (0, 6) :: ui1736 :: ui1734 :: t
def nd_511_1pi_2 (t : List (Int × Int)) : List (Int × Int) := ui1735 :: ui49 :: (0, 1) :: ui438 :: ui48 :: (0, 1) :: (0, 6) :: ui194 :: t
def nd_511_1pi_3 (t : List (Int × Int)) : List (Int × Int) := ui194 :: ui194 :: ui194 :: (0, 1) :: (0, 6) :: (0, 1) :: ui31 :: (0, 1) :: t
def nd_511_1pi_4 (t : List (Int × Int)) : List (Int × Int) := (0, 1) :: (0, 1) :: ui52 :: ui1754 :: ui1753 :: ui194 :: ui194 :: ui194 :: t
def nd_511_1pi_5 (t : List (Int × Int)) : List (Int × Int) := ui194 :: ui48 :: (0, 6) :: (0, 5) :: ui68 :: ui52 :: ui1735 :: (0, 2) :: t
def nd_511_1pi_6 (t : List (Int × Int)) : List (Int × Int) := ui1734 :: ui1734 :: ui68 :: t
def nd_511_1pf_0 (t : List zFa) : List zFa := (0, (false, 39, 0, []), 0, 0, 0, [(35, 1)]) :: (0, (false, 33, 0, []), 0, 0, 0, [(36, 1)]) :: (17, (true, 0, 1, [(11, (-1))]), 0, 0, 0, [(37, 1)]) :: (16, (true, 0, 1, [(11, (-1))]), 0, 0, 0, [(38, 1)]) :: (15, (true, 0, 1, [(11, (-1))]), 0, 0, 0, [(39, 1)]) :: (14, (true, 0, 1, [(11, (-1))]), 0, 0, 0, [(40, 1)]) :: uF2136 :: (0, (false, 20, 0, []), 0, 0, 0, [(42, 1)]) :: t
def nd_511_1pf_1 (t : List zFa) : List zFa := uF2095 :: uF2126 :: uF2111 :: uF2112 :: uF2113 :: uF165 :: uF32 :: uF1246 :: t
def nd_511_1pf_2 (t : List zFa) : List zFa := uF2127 :: uF2051 :: uF2052 :: uF2128 :: uF2057 :: uF2058 :: uF2059 :: uF2060 :: t
def nd_511_1pf_3 (t : List zFa) : List zFa := uF1537 :: uF1538 :: uF1539 :: uF430 :: uF551 :: uF1162 :: uF1958 :: uF1967 :: t
def nd_511_1pf_4 (t : List zFa) : List zFa := uF1968 :: uF1969 :: uF462 :: uF2061 :: uF2062 :: uF2063 :: uF2064 :: uF2065 :: t
def nd_511_1pf_5 (t : List zFa) : List zFa := uF2066 :: uF2067 :: uF2068 :: uF2069 :: uF2070 :: uF2071 :: uF2072 :: uF2073 :: t
def nd_511_1pf_6 (t : List zFa) : List zFa := uF2074 :: uF2075 :: uF2076 :: uF2077 :: uF2078 :: uF2079 :: uF2080 :: uF2081 :: t
def nd_511_1pf_7 (t : List zFa) : List zFa := (3, (true, 0, 1, [(11, (-1))]), 0, 0, 0, [(42, 1)]) :: t
def nd_511_1pg_0 (t : List zTg) : List zTg := uG2096 :: uG2097 :: uG2098 :: uG2099 :: uG2100 :: uG2101 :: uG2085 :: uG2086 :: t
def nd_511_1pg_1 (t : List zTg) : List zTg := uG2087 :: uG2088 :: uG2089 :: uG2090 :: uG2092 :: uG1509 :: uG1507 :: uG2042 :: t
def nd_511_1pg_2 (t : List zTg) : List zTg := uG2083 :: uG1508 :: uG2091 :: (3, [uL2084, uL1988, uL1988, uL1987, uL2020, uL2021, uL2130]) :: (58, [uL9, uL2017]) :: (40, [uL9, uL2017, uL63, uL63, uL63, uL2137, uL2026, uL2016, uL2018, uL2131]) :: (64, [uL9, uL2017, uL2137]) :: (78, [uL9, uL2017, uL2084]) :: t
def nd_511_1pg_3 (t : List zTg) : List zTg := uG2085 :: uG2086 :: (86, [uL9, uL2017, uL264, uL2025]) :: (86, [uL9, uL2017, uL281, uL1997]) :: (86, [uL9, uL2017, uL283, uL1990]) :: (86, [uL9, uL2017, uL285, uL1989]) :: uG2087 :: uG2088 :: t
def nd_511_1pg_4 (t : List zTg) : List zTg := uG2089 :: uG2090 :: (95, [uL9, uL2017, uL2137, uL2084, (6, [(11, (-6)), (42, 1)])]) :: uG2091 :: (216, [uL9, uL2017, uL2084, uL1987, uL63, uL1988, uL63]) :: t
def nd_511_1p : zS := ((nd_511_1pi_0 (nd_511_1pi_1 (nd_511_1pi_2 (nd_511_1pi_3 (nd_511_1pi_4 (nd_511_1pi_5 (nd_511_1pi_6 []))))))), (cx_511pr_0 (cx_511pr_1 (cx_511pr_2 (cx_511pr_3 [])))), [(0, [(1, (-1)), (34, 1)]), uL2135, (420, [(11, (-420)), (35, (-1)), (44, 1)]), (520, [(11, (-520)), (36, (-4)), (44, 1)])], [uV2, uV2103], [], (nd_511_1pf_0 (nd_511_1pf_1 (nd_511_1pf_2 (nd_511_1pf_3 (nd_511_1pf_4 (nd_511_1pf_5 (nd_511_1pf_6 (nd_511_1pf_7 [])))))))), (nd_511_1pg_0 (nd_511_1pg_1 (nd_511_1pg_2 (nd_511_1pg_3 (nd_511_1pg_4 []))))))
def nd_511_1 : zN := (112, nd_511_1p, (399273, [(44, (-998))]))
def ns_511 : List zN := [nd_511_0, nd_511_1]
set_option maxRecDepth 1000000 in
theorem ca_511 : x_okA mLT1 cq_511 mTS2 mTC2 mRUp cx_511 cs_511 hs_511 ns_511 (429327, []) 67778300 76 = true := by decide +kernel
set_option maxRecDepth 1000000 in
theorem cb_511_0 : x_okB mLT1 cq_511 mTS2 mTC2 mRUp cx_511 cs_511 hs_511 ns_511 (429327, []) 67778300 76 nd_511_0 = true := by decide +kernel
set_option maxRecDepth 1000000 in
theorem cb_511_1 : x_okB mLT1 cq_511 mTS2 mTC2 mRUp cx_511 cs_511 hs_511 ns_511 (429327, []) 67778300 76 nd_511_1 = true := by decide +kernel
set_option maxRecDepth 1000000 in
theorem cc_511 : x_okC mLT1 cq_511 mTS2 mTC2 mRUp cx_511 cs_511 hs_511 ns_511 (429327, []) 67778300 76 = true := by decide +kernel
theorem ck_511 : x_ok mLT1 cq_511 mTS2 mTC2 mRUp cx_511 cs_511 hs_511 ns_511 (429327, []) 67778300 76 = true := x_ok_of ca_511 (List.forall_mem_cons.mpr ⟨cb_511_0, List.forall_mem_cons.mpr ⟨cb_511_1, fun _ h => absurd h List.not_mem_nil⟩⟩) cc_511
theorem sn_511 {W : Bool} {X : List Int32} : y_Snd (mGw W) mLT1 (J2 W X) X cx_511 := y_ok J2_J mTS2_ok1 mTC2_ok1 mRUp_ok1 (List.forall_mem_cons.mpr ⟨sn_419, List.forall_mem_cons.mpr ⟨sn_420, List.forall_mem_cons.mpr ⟨sn_421, List.forall_mem_cons.mpr ⟨sn_508, List.forall_mem_cons.mpr ⟨sn_509, List.forall_mem_cons.mpr ⟨sn_510, fun _ h => absurd h List.not_mem_nil⟩⟩⟩⟩⟩⟩) ck_511
end
