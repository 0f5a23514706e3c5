noncomputable section
/-! ===== readings, by program, checked by the kernel ===== -/
def cx_512pi_0 (t : List (Int × Int)) : List (Int × Int) := ui0 :: ui52 :: ui52 :: ui141 :: ui68 :: (0, 7) :: (0, 2) :: ui52 :: t
def cx_512pi_1 (t : List (Int × Int)) : List (Int × Int) := (0, 5) :: ui52 :: ui2045 :: (0, 1) :: (0, 1) :: (0, 6) :: ui1736 :: ui1734 :: t
def cx_512pi_2 (t : List (Int × Int)) : List (Int × Int) := ui1735 :: ui49 :: (0, 1) :: ui438 :: ui48 :: (0, 1) :: (0, 6) :: ui194 :: t
def cx_512pi_3 (t : List (Int × Int)) : List (Int × Int) := ui194 :: ui194 :: ui194 :: (0, 1) :: (0, 6) :: (0, 1) :: ui31 :: (0, 1) :: t
def cx_512pi_4 (t : List (Int × Int)) : List (Int × Int) := (0, 1) :: (0, 1) :: (0, 6) :: (0, 6) :: ui49 :: ui49 :: t
def cx_512pg_0 (t : List zTg) : List zTg := uG2082 :: uG2042 :: uG2083 :: uG1508 :: uG2085 :: uG2086 :: uG2087 :: uG2088 :: t
def cx_512pg_1 (t : List zTg) : List zTg := uG2089 :: uG2090 :: uG2091 :: uG2092 :: uG2138 :: t
def cx_512p : zS := ((cx_512pi_0 (cx_512pi_1 (cx_512pi_2 (cx_512pi_3 (cx_512pi_4 []))))), (cx_511pr_0 (cx_511pr_1 (cx_511pr_2 (cx_511pr_3 [])))), [], [], [uV2], (cx_511pf_0 (cx_511pf_1 (cx_511pf_2 (cx_511pf_3 (cx_511pf_4 (cx_511pf_5 (cx_511pf_6 []))))))), (cx_512pg_0 (cx_512pg_1 [])))
def cx_512q0i_0 (t : List (Int × Int)) : List (Int × Int) := ui0 :: ui52 :: ui52 :: ui141 :: ui68 :: (0, 7) :: (0, 2) :: ui52 :: t
def cx_512q0i_1 (t : List (Int × Int)) : List (Int × Int) := (0, 5) :: ui52 :: ui2045 :: (0, 1) :: (0, 1) :: (0, 6) :: ui1736 :: ui1734 :: t
def cx_512q0i_2 (t : List (Int × Int)) : List (Int × Int) := ui1735 :: ui49 :: (0, 1) :: ui438 :: ui48 :: (0, 1) :: (0, 6) :: ui194 :: t
def cx_512q0i_3 (t : List (Int × Int)) : List (Int × Int) := ui194 :: ui194 :: ui194 :: (0, 1) :: (0, 6) :: (0, 1) :: ui31 :: (0, 1) :: t
def cx_512q0i_4 (t : List (Int × Int)) : List (Int × Int) := (0, 1) :: (0, 1) :: (0, 6) :: (0, 6) :: ui49 :: ui49 :: (1, 2) :: ui52 :: t
def cx_512q0i_5 (t : List (Int × Int)) : List (Int × Int) := ui68 :: ui48 :: (0, 7) :: (0, 5) :: ui52 :: (0, 6) :: ui1984 :: ui1734 :: t
def cx_512q0i_6 (t : List (Int × Int)) : List (Int × Int) := ui1735 :: t
def cx_512q0f_0 (t : List zFa) : List zFa := uF2139 :: (0, (false, 14, 0, []), 0, 0, 0, [(39, 1)]) :: (0, (false, 13, 0, []), 0, 0, 0, [(38, 1)]) :: (0, (false, 11, 0, []), 0, 0, 0, [(40, 1)]) :: uF2136 :: uF2136 :: (0, (false, 12, 0, []), 0, 0, 0, [(42, 1)]) :: uF2126 :: t
def cx_512q0f_1 (t : List zFa) : List zFa := (0, (false, 16, 0, []), 0, 0, 0, [(44, 1)]) :: (0, (false, 20, 0, []), 0, 0, 0, [(45, 1)]) :: (0, (false, 33, 0, []), 0, 0, 0, [(46, 1)]) :: (0, (false, 39, 0, []), 0, 0, 0, [(47, 1)]) :: (0, (false, 43, 0, []), 0, 0, 0, [(48, 1)]) :: uF2136 :: (3, (true, 0, 1, [(11, (-1))]), 0, 0, 0, [(45, 1)]) :: uF2095 :: t
def cx_512q0f_2 (t : List zFa) : List zFa := uF165 :: uF32 :: uF2052 :: uF2057 :: uF2058 :: uF2059 :: uF2060 :: uF2077 :: t
def cx_512q0f_3 (t : List zFa) : List zFa := uF2078 :: uF2079 :: t
def cx_512q0g_0 (t : List zTg) : List zTg := uG2082 :: uG2085 :: uG2086 :: uG2087 :: uG2088 :: uG2089 :: uG2090 :: uG2091 :: t
def cx_512q0g_1 (t : List zTg) : List zTg := uG2092 :: uG2096 :: uG2097 :: uG2098 :: uG2099 :: uG2100 :: uG2101 :: uG1509 :: t
def cx_512q0g_2 (t : List zTg) : List zTg := uG1507 :: uG2042 :: uG2138 :: uG2140 :: uG1508 :: uG2085 :: uG2086 :: uG2087 :: t
def cx_512q0g_3 (t : List zTg) : List zTg := uG2088 :: uG2089 :: uG2090 :: uG2091 :: uG2138 :: t
def cx_512q0 : zS := ((cx_512q0i_0 (cx_512q0i_1 (cx_512q0i_2 (cx_512q0i_3 (cx_512q0i_4 (cx_512q0i_5 (cx_512q0i_6 []))))))), (cx_511pr_0 (cx_511pr_1 (cx_511pr_2 (cx_511pr_3 [])))), [], [], [uV2141], (cx_512q0f_0 (cx_512q0f_1 (cx_512q0f_2 (cx_512q0f_3 [])))), (cx_512q0g_0 (cx_512q0g_1 (cx_512q0g_2 (cx_512q0g_3 [])))))
def cx_512q1i_0 (t : List (Int × Int)) : List (Int × Int) := ui0 :: ui52 :: ui52 :: ui141 :: ui68 :: (0, 7) :: (0, 2) :: ui52 :: t
def cx_512q1i_1 (t : List (Int × Int)) : List (Int × Int) := (0, 5) :: ui52 :: ui2045 :: (0, 1) :: (0, 1) :: (0, 6) :: ui1736 :: ui1734 :: t
def cx_512q1i_2 (t : List (Int × Int)) : List (Int × Int) := ui1735 :: ui49 :: (0, 1) :: ui438 :: ui48 :: (0, 1) :: (0, 6) :: ui194 :: t
def cx_512q1i_3 (t : List (Int × Int)) : List (Int × Int) := ui194 :: ui194 :: ui194 :: (0, 1) :: (0, 6) :: (0, 1) :: ui31 :: (0, 1) :: t
def cx_512q1i_4 (t : List (Int × Int)) : List (Int × Int) := (0, 1) :: (0, 1) :: (0, 6) :: (0, 6) :: ui49 :: ui49 :: (1, 5) :: ui52 :: t
def cx_512q1i_5 (t : List (Int × Int)) : List (Int × Int) := ui1754 :: ui1753 :: ui194 :: ui194 :: ui194 :: ui194 :: ui48 :: (0, 6) :: t
def cx_512q1i_6 (t : List (Int × Int)) : List (Int × Int) := ui68 :: ui1735 :: t
def cx_512q1f_0 (t : List zFa) : List zFa := uF2139 :: uF2142 :: uF2143 :: uF2144 :: uF2145 :: uF2146 :: uF2147 :: uF2148 :: t
def cx_512q1f_1 (t : List zFa) : List zFa := (0, (false, 20, 0, []), 0, 0, 0, [(47, 1)]) :: uF2095 :: uF2010 :: uF2111 :: uF2112 :: uF2149 :: uF165 :: uF32 :: t
def cx_512q1f_2 (t : List zFa) : List zFa := uF1246 :: uF2011 :: uF2052 :: (0, (false, 43, 0, []), 0, 0, 0, [(49, 1)]) :: uF2057 :: uF2058 :: uF2059 :: uF2060 :: t
def cx_512q1f_3 (t : List zFa) : List zFa := uF2077 :: uF2078 :: uF2079 :: (3, (true, 0, 1, [(11, (-1))]), 0, 0, 0, [(47, 1)]) :: t
def cx_512q1g_0 (t : List zTg) : List zTg := uG2082 :: uG2114 :: uG2115 :: uG2096 :: uG2097 :: uG2098 :: uG2099 :: uG2100 :: t
def cx_512q1g_1 (t : List zTg) : List zTg := uG2101 :: uG2085 :: uG2086 :: uG2087 :: uG2088 :: uG2089 :: uG2090 :: uG2092 :: t
def cx_512q1g_2 (t : List zTg) : List zTg := uG1509 :: uG1507 :: uG2042 :: uG2091 :: uG2138 :: uG2140 :: uG1508 :: uG2085 :: t
def cx_512q1g_3 (t : List zTg) : List zTg := uG2086 :: uG2087 :: uG2088 :: uG2089 :: uG2090 :: uG2091 :: uG2138 :: t
def cx_512q1 : zS := ((cx_512q1i_0 (cx_512q1i_1 (cx_512q1i_2 (cx_512q1i_3 (cx_512q1i_4 (cx_512q1i_5 (cx_512q1i_6 []))))))), (cx_511pr_0 (cx_511pr_1 (cx_511pr_2 (cx_511pr_3 [])))), [uL2150, uL2151], [], [uV2141], (cx_512q1f_0 (cx_512q1f_1 (cx_512q1f_2 (cx_512q1f_3 [])))), (cx_512q1g_0 (cx_512q1g_1 (cx_512q1g_2 (cx_512q1g_3 [])))))
def cx_512q2i_0 (t : List (Int × Int)) : List (Int × Int) := ui0 :: ui52 :: ui52 :: ui141 :: ui68 :: (0, 7) :: (0, 2) :: ui52 :: t
def cx_512q2i_1 (t : List (Int × Int)) : List (Int × Int) := (0, 5) :: ui52 :: ui2045 :: (0, 1) :: (0, 1) :: (0, 6) :: ui1736 :: ui1734 :: t
def cx_512q2i_2 (t : List (Int × Int)) : List (Int × Int) := ui1735 :: ui49 :: (0, 1) :: ui438 :: ui48 :: (0, 1) :: (0, 6) :: ui194 :: t
def cx_512q2i_3 (t : List (Int × Int)) : List (Int × Int) := ui194 :: ui194 :: ui194 :: (0, 1) :: (0, 6) :: (0, 1) :: ui31 :: (0, 1) :: t
def cx_512q2i_4 (t : List (Int × Int)) : List (Int × Int) := (0, 1) :: (0, 1) :: (0, 6) :: (0, 6) :: ui49 :: ui49 :: ui194 :: (0, 6) :: t
def cx_512q2i_5 (t : List (Int × Int)) : List (Int × Int) := ui1754 :: ui1753 :: ui194 :: ui194 :: ui194 :: ui194 :: ui48 :: (0, 0) :: t
def cx_512q2i_6 (t : List (Int × Int)) : List (Int × Int) := ui68 :: ui52 :: ui1735 :: (0, 6) :: ui194 :: ui194 :: ui194 :: ui194 :: t
def cx_512q2f_0 (t : List zFa) : List zFa := uF2118 :: uF2119 :: uF2120 :: uF2121 :: uF2122 :: uF2034 :: (0, (false, 49, 0, []), 0, 0, 0, [(38, 1)]) :: uF2152 :: t
def cx_512q2f_1 (t : List zFa) : List zFa := uF2124 :: uF2125 :: uF2142 :: uF2143 :: uF2144 :: uF2145 :: uF2146 :: uF2147 :: t
def cx_512q2f_2 (t : List zFa) : List zFa := uF2148 :: uF2024 :: uF2095 :: uF2153 :: uF2111 :: uF2112 :: uF2149 :: uF165 :: t
def cx_512q2f_3 (t : List zFa) : List zFa := uF32 :: uF1246 :: uF2154 :: uF2155 :: uF2152 :: t
def cx_512q2g_0 (t : List zTg) : List zTg := uG2041 :: uG2042 :: uG2043 :: uG2036 :: uG2037 :: uG477 :: uG2129 :: uG2114 :: t
def cx_512q2g_1 (t : List zTg) : List zTg := uG2115 :: uG2096 :: uG2097 :: uG2098 :: uG2099 :: uG2100 :: uG2101 :: uG2085 :: t
def cx_512q2g_2 (t : List zTg) : List zTg := uG2086 :: uG2087 :: uG2088 :: uG2089 :: uG2090 :: uG2092 :: uG1509 :: uG1507 :: t
def cx_512q2g_3 (t : List zTg) : List zTg := uG2091 :: uG477 :: uG1508 :: uG2115 :: (76, [uL9, uL2132]) :: (85, [uL2084, uL2132, uL193]) :: (87, [uL9, uL264, uL2156]) :: (88, [uL2084, uL2156, uL193]) :: t
def cx_512q2g_4 (t : List zTg) : List zTg := (87, [uL9, uL281, uL2157]) :: (89, [uL2084, uL2157, uL193]) :: (87, [uL9, uL283, uL2158]) :: (90, [uL2084, uL2158, uL193]) :: (87, [uL9, uL285, uL2159]) :: (91, [uL2084, uL2159, uL193]) :: (96, [uL9, uL2132, uL2084]) :: uG2114 :: t
def cx_512q2g_5 (t : List zTg) : List zTg := (275, [uL2084, uL2132]) :: t
def cx_512q2 : zS := ((cx_512q2i_0 (cx_512q2i_1 (cx_512q2i_2 (cx_512q2i_3 (cx_512q2i_4 (cx_512q2i_5 (cx_512q2i_6 []))))))), (cx_511pr_0 (cx_511pr_1 (cx_511pr_2 (cx_511pr_3 [])))), [uL2150, uL2151], [], [uV62], (cx_512q2f_0 (cx_512q2f_1 (cx_512q2f_2 (cx_512q2f_3 [])))), (cx_512q2g_0 (cx_512q2g_1 (cx_512q2g_2 (cx_512q2g_3 (cx_512q2g_4 (cx_512q2g_5 [])))))))
/-- M.read -/
def cx_512 : zCtx := (195, cx_512p, [cx_512q0, cx_512q1, cx_512q2], kc_79, 68207627, 7, 147)
def cq_512 : List zCtx := [cx_419, cx_420, cx_421, cx_508, cx_509, cx_510]
def cs_512 : List (Nat × List Nat) := [(42, [0]), (85, [1]), (121, [2]), (128, [3]), (200, [4]), (204, [5])]
def hs_512 : List (Nat × List Nat) := [(9, [1000412]), (30, [1000413]), (36, [1000414]), (88, [10]), (109, uN2133), (119, [1000246]), (131, [740, 1000411]), (134, uN2134), (174, [16]), (178, [1000419]), (186, [16]), (190, [1000419]), (191, [15, 1000457, 1000507, 1000508, 1000509, 1000510]), (192, [1000420]), (207, [1000747])]
def nd_512_0pi_0 (t : List (Int × Int)) : List (Int × Int) := ui0 :: ui52 :: ui52 :: ui141 :: ui68 :: (0, 7) :: (0, 2) :: ui52 :: t
def nd_512_0pi_1 (t : List (Int × Int)) : List (Int × Int) := (0, 5) :: ui52 :: ui2045 :: (0, 1) :: (0, 1) :: (0, 6) :: ui1736 :: ui1734 :: t
def nd_512_0pi_2 (t : List (Int × Int)) : List (Int × Int) := ui1735 :: ui49 :: (0, 1) :: ui438 :: ui48 :: (0, 1) :: (0, 6) :: ui194 :: t
def nd_512_0pi_3 (t : List (Int × Int)) : List (Int × Int) := ui194 :: ui194 :: ui194 :: (0, 1) :: (0, 6) :: (0, 1) :: ui31 :: (0, 1) :: t
def nd_512_0pi_4 (t : List (Int × Int)) : List (Int × Int) := (0, 1) :: (0, 1) :: (0, 6) :: (0, 6) :: ui49 :: ui49 :: ui52 :: t
def nd_512_0pg_0 (t : List zTg) : List zTg := uG2082 :: uG2042 :: uG2083 :: uG1508 :: uG2085 :: uG2086 :: uG2087 :: uG2088 :: t
def nd_512_0pg_1 (t : List zTg) : List zTg := uG2089 :: uG2090 :: uG2091 :: uG2092 :: uG2138 :: (54, [uL1990]) :: t
def nd_512_0p : zS := ((nd_512_0pi_0 (nd_512_0pi_1 (nd_512_0pi_2 (nd_512_0pi_3 (nd_512_0pi_4 []))))), (cx_511pr_0 (cx_511pr_1 (cx_511pr_2 (cx_511pr_3 [])))), [uL2160], [uV2, uV2141], [], (nd_511_0pf_0 (nd_511_0pf_1 (nd_511_0pf_2 (nd_511_0pf_3 (nd_511_0pf_4 (nd_511_0pf_5 (nd_511_0pf_6 []))))))), (nd_512_0pg_0 (nd_512_0pg_1 [])))
def nd_512_0 : zN := (10, nd_512_0p, (429320, [(38, (-15))]))
def nd_512_1pi_0 (t : List (Int × Int)) : List (Int × Int) := ui0 :: ui52 :: ui52 :: ui141 :: ui68 :: (0, 7) :: (0, 2) :: ui52 :: t
def nd_512_1pi_1 (t : List (Int × Int)) : List (Int × Int) := (0, 5) :: ui52 :: ui2045 :: (0, 1) :: (0, 1) :: (0, 6) :: ui1736 :: ui1734 :: t
def nd_512_1pi_2 (t : List (Int × Int)) : List (Int × Int) := ui1735 :: ui49 :: (0, 1) :: ui438 :: ui48 :: (0, 1) :: (0, 6) :: ui194 :: t
def nd_512_1pi_3 (t : List (Int × Int)) : List (Int × Int) := ui194 :: ui194 :: ui194 :: (0, 1) :: (0, 6) :: (0, 1) :: ui31 :: (0, 1) :: t
def nd_512_1pi_4 (t : List (Int × Int)) : List (Int × Int) := (0, 1) :: (0, 1) :: (0, 6) :: (0, 6) :: ui49 :: ui49 :: ui52 :: ui1754 :: t
def nd_512_1pi_5 (t : List (Int × Int)) : List (Int × Int) := ui1753 :: ui194 :: ui194 :: ui194 :: ui194 :: ui48 :: (0, 6) :: (0, 5) :: t
def nd_512_1pi_6 (t : List (Int × Int)) : List (Int × Int) := ui68 :: ui52 :: ui1735 :: (0, 2) :: ui1734 :: ui1734 :: ui68 :: t
def nd_512_1pf_0 (t : List zFa) : List zFa := (0, (false, 39, 0, []), 0, 0, 0, [(39, 1)]) :: uF2012 :: (17, (true, 0, 1, [(11, (-1))]), 0, 0, 0, [(41, 1)]) :: (16, (true, 0, 1, [(11, (-1))]), 0, 0, 0, [(42, 1)]) :: (15, (true, 0, 1, [(11, (-1))]), 0, 0, 0, [(43, 1)]) :: (14, (true, 0, 1, [(11, (-1))]), 0, 0, 0, [(44, 1)]) :: (7, (true, 0, 1, [(11, (-1))]), 0, 0, 0, [(45, 1)]) :: (0, (false, 20, 0, []), 0, 0, 0, [(46, 1)]) :: t
def nd_512_1pf_1 (t : List zFa) : List zFa := uF2095 :: uF2153 :: uF2111 :: uF2112 :: uF2149 :: uF165 :: uF32 :: uF1246 :: t
def nd_512_1pf_2 (t : List zFa) : List zFa := uF2154 :: uF2051 :: uF2052 :: uF2155 :: uF2057 :: uF2058 :: uF2059 :: uF2060 :: t
def nd_512_1pf_3 (t : List zFa) : List zFa := uF1537 :: uF1538 :: uF1539 :: uF430 :: uF551 :: uF1162 :: uF1958 :: uF1967 :: t
def nd_512_1pf_4 (t : List zFa) : List zFa := uF1968 :: uF1969 :: uF462 :: uF2061 :: uF2062 :: uF2063 :: uF2064 :: uF2065 :: t
def nd_512_1pf_5 (t : List zFa) : List zFa := uF2066 :: uF2067 :: uF2068 :: uF2069 :: uF2070 :: uF2071 :: uF2072 :: uF2073 :: t
def nd_512_1pf_6 (t : List zFa) : List zFa := uF2074 :: uF2075 :: uF2076 :: uF2077 :: uF2078 :: uF2079 :: uF2080 :: uF2081 :: t
def nd_512_1pf_7 (t : List zFa) : List zFa := (3, (true, 0, 1, [(11, (-1))]), 0, 0, 0, [(46, 1)]) :: t
def nd_512_1pg_0 (t : List zTg) : List zTg := uG2096 :: uG2097 :: uG2098 :: uG2099 :: uG2100 :: uG2101 :: uG2085 :: uG2086 :: t
def nd_512_1pg_1 (t : List zTg) : List zTg := uG2087 :: uG2088 :: uG2089 :: uG2090 :: uG2092 :: uG1509 :: uG1507 :: uG2042 :: t
def nd_512_1pg_2 (t : List zTg) : List zTg := uG2083 :: uG1508 :: uG2091 :: uG2138 :: (3, [uL2084, uL2025, uL2025, uL1997, uL2132, uL2156, uL2157]) :: (58, [uL9, uL2021]) :: (40, [uL9, uL2021, uL63, uL63, uL63, uL2019, uL2018, uL2020, uL2130, uL2158]) :: (64, [uL9, uL2021, uL2019]) :: t
def nd_512_1pg_3 (t : List zTg) : List zTg := (78, [uL9, uL2021, uL2084]) :: uG2085 :: uG2086 :: (86, [uL9, uL2021, uL264, uL2017]) :: (86, [uL9, uL2021, uL281, uL2016]) :: (86, [uL9, uL2021, uL283, uL2137]) :: (86, [uL9, uL2021, uL285, uL2026]) :: uG2087 :: t
def nd_512_1pg_4 (t : List zTg) : List zTg := uG2088 :: uG2089 :: uG2090 :: (95, [uL9, uL2021, uL2019, uL2084, (6, [(11, (-6)), (46, 1)])]) :: uG2091 :: (216, [uL9, uL2021, uL2084, uL1997, uL63, uL2025, uL63]) :: t
def nd_512_1p : zS := ((nd_512_1pi_0 (nd_512_1pi_1 (nd_512_1pi_2 (nd_512_1pi_3 (nd_512_1pi_4 (nd_512_1pi_5 (nd_512_1pi_6 []))))))), (cx_511pr_0 (cx_511pr_1 (cx_511pr_2 (cx_511pr_3 [])))), [(0, [(1, (-1)), (38, 1)]), uL2160, (420, [(11, (-420)), (39, (-1)), (48, 1)]), (520, [(11, (-520)), (40, (-4)), (48, 1)])], [uV2, uV2141], [], (nd_512_1pf_0 (nd_512_1pf_1 (nd_512_1pf_2 (nd_512_1pf_3 (nd_512_1pf_4 (nd_512_1pf_5 (nd_512_1pf_6 (nd_512_1pf_7 [])))))))), (nd_512_1pg_0 (nd_512_1pg_1 (nd_512_1pg_2 (nd_512_1pg_3 (nd_512_1pg_4 []))))))
def nd_512_1 : zN := (112, nd_512_1p, (399273, [(48, (-998))]))
def ns_512 : List zN := [nd_512_0, nd_512_1]
set_option maxRecDepth 1000000 in
theorem ca_512 : x_okA mLT1 cq_512 mTS2 mTC2 mRUp cx_512 cs_512 hs_512 ns_512 (429327, []) 67778300 76 = true := by decide +kernel
set_option maxRecDepth 1000000 in
theorem cb_512_0 : x_okB mLT1 cq_512 mTS2 mTC2 mRUp cx_512 cs_512 hs_512 ns_512 (429327, []) 67778300 76 nd_512_0 = true := by decide +kernel
set_option maxRecDepth 1000000 in
theorem cb_512_1 : x_okB mLT1 cq_512 mTS2 mTC2 mRUp cx_512 cs_512 hs_512 ns_512 (429327, []) 67778300 76 nd_512_1 = true := by decide +kernel
set_option maxRecDepth 1000000 in
theorem cc_512 : x_okC mLT1 cq_512 mTS2 mTC2 mRUp cx_512 cs_512 hs_512 ns_512 (429327, []) 67778300 76 = true := by decide +kernel
theorem ck_512 : x_ok mLT1 cq_512 mTS2 mTC2 mRUp cx_512 cs_512 hs_512 ns_512 (429327, []) 67778300 76 = true := x_ok_of ca_512 (List.forall_mem_cons.mpr ⟨cb_512_0, List.forall_mem_cons.mpr ⟨cb_512_1, fun _ h => absurd h List.not_mem_nil⟩⟩) cc_512
theorem sn_512 {W : Bool} {X : List Int32} : y_Snd (mGw W) mLT1 (J2 W X) X cx_512 := y_ok J2_J mTS2_ok1 mTC2_ok1 mRUp_ok1 (List.forall_mem_cons.mpr ⟨sn_419, List.forall_mem_cons.mpr ⟨sn_420, List.forall_mem_cons.mpr ⟨sn_421, List.forall_mem_cons.mpr ⟨sn_508, List.forall_mem_cons.mpr ⟨sn_509, List.forall_mem_cons.mpr ⟨sn_510, fun _ h => absurd h List.not_mem_nil⟩⟩⟩⟩⟩⟩) ck_512
/-- M.place -/
def cx_513 : zCtx := (220, ([ui0, ui2045], [ur1474], [], [], [uV2], [(0, (false, 17, 0, []), 0, 0, 0, [(1, 1)])], []), [([ui0, ui2045], [ur1474], [], [], [uV11], [], [])], [], 3, 0, 0)
set_option maxRecDepth 1000000 in
theorem ck_513 : x_ok mLT1 [] mTS2 mTC2 mRUp cx_513 [] [] [] (3, []) 0 6 = true := by decide +kernel
theorem sn_513 {W : Bool} {X : List Int32} : y_Snd (mGw W) mLT1 (J2 W X) X cx_513 := y_ok J2_J mTS2_ok1 mTC2_ok1 mRUp_ok1 (fun _ h => absurd h List.not_mem_nil) ck_513
/-- M.in -/
def cx_514 : zCtx := (223, ([ui0, ui49, (0, 1), ui2161], [], [], [], [uV11, uV12, uV58], [], []), [([ui0, ui600, (0, 1), ui600], [], [uL66, uL60], [], [uV64], [], []), ([ui0, ui517, (0, 1), ui2161], [], [uL1510, uL60], [], [uV62], [], []), ([ui0, ui1306, (0, 1), ui2161], [], [uL57], [], [uV62], [], [])], [], 9, 0, 0)
set_option maxRecDepth 1000000 in
theorem ck_514 : x_ok mLT1 [] mTS2 mTC2 mRUp cx_514 [] [] [] (9, []) 0 12 = true := by decide +kernel
theorem sn_514 {W : Bool} {X : List Int32} : y_Snd (mGw W) mLT1 (J2 W X) X cx_514 := y_ok J2_J mTS2_ok1 mTC2_ok1 mRUp_ok1 (fun _ h => absurd h List.not_mem_nil) ck_514
/-- M.isHouse -/
def cx_515 : zCtx := (222, ([ui0, ui49, (0, 1), (0, 6)], [ur1474, ur1523], [], [], [uV2, uV11], [uF2162, uF1638], [uG2164]), [([ui0, ui260, (0, 1), (0, 6)], [ur1474, ur1523], [uL526], [], [uV62], [], []), ([ui0, ui517, (0, 1), (0, 6)], [ur1474, ur1523], [uL587, uL587], [], [uV62], [], []), ([ui0, (0, 5), (0, 1), (1, 6)], [ur1474, ur1523], [uL526, uL9, uL526], [], [uV64], [], [])], [], 20, 1, 22)
set_option maxRecDepth 1000000 in
theorem ck_515 : x_ok mLT1 [cx_514] mTS2 mTC2 mRUp cx_515 [(13, [0])] [(16, uN2165)] [] (11, []) 9 14 = true := by decide +kernel
theorem sn_515 {W : Bool} {X : List Int32} : y_Snd (mGw W) mLT1 (J2 W X) X cx_515 := y_ok J2_J mTS2_ok1 mTC2_ok1 mRUp_ok1 (List.forall_mem_cons.mpr ⟨sn_514, fun _ h => absurd h List.not_mem_nil⟩) ck_515
def cx_516pi_0 (t : List (Int × Int)) : List (Int × Int) := ui0 :: ui49 :: ui49 :: (0, 1) :: ui49 :: (0, 1) :: ui31 :: (0, 6) :: t
def cx_516pi_1 (t : List (Int × Int)) : List (Int × Int) := (0, 6) :: ui49 :: ui49 :: t
def cx_516pr_0 (t : List (Nat × Bool)) : List (Nat × Bool) := ur1474 :: ur1521 :: ur1522 :: ur1532 :: ur1533 :: ur1534 :: ur1535 :: ur1536 :: t
def cx_516pr_1 (t : List (Nat × Bool)) : List (Nat × Bool) := ur1530 :: ur1531 :: ur1523 :: ur1635 :: ur1636 :: ur2027 :: t
def cx_516pf_0 (t : List zFa) : List zFa := uF2166 :: uF2167 :: uF2168 :: uF1537 :: uF1538 :: uF2169 :: uF2170 :: uF2171 :: t
def cx_516pf_1 (t : List zFa) : List zFa := uF2172 :: uF2173 :: uF1768 :: uF1769 :: uF2174 :: uF2175 :: uF2176 :: uF2177 :: t
def cx_516p : zS := ((cx_516pi_0 (cx_516pi_1 [])), (cx_516pr_0 (cx_516pr_1 [])), [uL1224, uL2178], [], [uV2, uV11, uV12], (cx_516pf_0 (cx_516pf_1 [])), [uG2179, uG2181, uG2182, uG2183, uG2184])
/-- M.house -/
def cx_516 : zCtx := (221, cx_516p, [([ui0, ui49, ui49, (0, 1), ui49, (0, 1), ui31, (0, 6), (0, 6), ui49, ui49], [ur1474, ur1521, ur1522, ur1532, ur1533, ur1534, ur1535, ur1536, ur1530, ur1531, ur1523, ur1635, ur1636, ur2027], [uL2178], [], [uV61], [], [uG2184])], [], 26, 2, 43)
set_option maxRecDepth 1000000 in
theorem ck_516 : x_ok mLT1 [cx_515] mTS2 mTC2 mRUp cx_516 [(2, [0])] [] [] (6, []) 20 9 = true := by decide +kernel
theorem sn_516 {W : Bool} {X : List Int32} : y_Snd (mGw W) mLT1 (J2 W X) X cx_516 := y_ok J2_J mTS2_ok1 mTC2_ok1 mRUp_ok1 (List.forall_mem_cons.mpr ⟨sn_515, fun _ h => absurd h List.not_mem_nil⟩) ck_516
def cx_517p : zS := ((cx_516pi_0 (cx_516pi_1 [])), (cx_516pr_0 (cx_516pr_1 [])), [uL1224, uL584], [], [uV2, uV11, uV12], (cx_516pf_0 (cx_516pf_1 [])), [uG2179, uG2181, uG2182, uG2183, uG2184])
/-- M.house -/
def cx_517 : zCtx := (221, cx_517p, [([ui0, ui49, ui49, (0, 1), ui49, (0, 1), ui31, (0, 6), (0, 6), ui49, ui49], [ur1474, ur1521, ur1522, ur1532, ur1533, ur1534, ur1535, ur1536, ur1530, ur1531, ur1523, ur1635, ur1636, ur2027], [uL584], [], [uV61], [], [uG2184])], [], 26, 2, 43)
set_option maxRecDepth 1000000 in
theorem ck_517 : x_ok mLT1 [cx_515] mTS2 mTC2 mRUp cx_517 [(2, [0])] [] [] (6, []) 20 9 = true := by decide +kernel
theorem sn_517 {W : Bool} {X : List Int32} : y_Snd (mGw W) mLT1 (J2 W X) X cx_517 := y_ok J2_J mTS2_ok1 mTC2_ok1 mRUp_ok1 (List.forall_mem_cons.mpr ⟨sn_515, fun _ h => absurd h List.not_mem_nil⟩) ck_517
/-- M.copies -/
def cx_518 : zCtx := (224, ([ui0, (0, 1), ui49, (0, 1), ui194], [ur1474, ur2027, ur2047, ur1529], [], [], [uV2], [uF2028, uF2029, uF2030, uF2031, uF2185, uF2186, uF2033], []), [([ui0, (0, 1), ui49, (0, 1), ui194, (0, 6)], [ur1474, ur2027, ur2047, ur1529], [], [], [], [uF2034, uF2167, uF2187], [uG2041, uG2037, uG2041])], [uk2038, uk2039, uk2040], 445, 0, 0)
def cq_518 : List zCtx := []
def cs_518 : List (Nat × List Nat) := []
def hs_518 : List (Nat × List Nat) := [(0, [81]), (26, [82, 1000698])]
def ns_518 : List zN := []
set_option maxRecDepth 1000000 in
theorem ca_518 : x_okA mLT1 cq_518 mTS2 mTC2 mRUp cx_518 cs_518 hs_518 ns_518 (445, []) 0 448 = true := by decide +kernel
set_option maxRecDepth 1000000 in
theorem cc_518 : x_okC mLT1 cq_518 mTS2 mTC2 mRUp cx_518 cs_518 hs_518 ns_518 (445, []) 0 448 = true := by decide +kernel
theorem ck_518 : x_ok mLT1 cq_518 mTS2 mTC2 mRUp cx_518 cs_518 hs_518 ns_518 (445, []) 0 448 = true := x_ok_of ca_518 (fun _ h => absurd h List.not_mem_nil) cc_518
theorem sn_518 {W : Bool} {X : List Int32} : y_Snd (mGw W) mLT1 (J2 W X) X cx_518 := y_ok J2_J mTS2_ok1 mTC2_ok1 mRUp_ok1 (fun _ h => absurd h List.not_mem_nil) ck_518
def cx_519pi_0 (t : List (Int × Int)) : List (Int × Int) := ui0 :: (0, 5) :: ui586 :: (0, 1) :: ui49 :: (0, 1) :: ui31 :: (0, 6) :: t
def cx_519pi_1 (t : List (Int × Int)) : List (Int × Int) := (0, 6) :: ui49 :: ui49 :: t
def cx_519p : zS := ((cx_519pi_0 (cx_519pi_1 [])), (cx_516pr_0 (cx_516pr_1 [])), [uL1224], [], [uV2, uV11, uV12], (cx_516pf_0 (cx_516pf_1 [])), [uG2179, uG2181, uG2182, uG2183, uG2184])
/-- M.house -/
def cx_519 : zCtx := (221, cx_519p, [([ui0, (0, 5), ui586, (0, 1), ui49, (0, 1), ui31, (0, 6), (0, 6), ui49, ui49], [ur1474, ur1521, ur1522, ur1532, ur1533, ur1534, ur1535, ur1536, ur1530, ur1531, ur1523, ur1635, ur1636, ur2027], [uL9, uL2188], [], [uV61], [], [uG2037, uG2184]), ([ui0, (0, 5), ui586, (0, 1), ui49, (0, 1), ui31, (0, 6), (0, 6), ui49, ui49], [ur1474, ur1521, ur1522, ur1532, ur1533, ur1534, ur1535, ur1536, ur1530, ur1531, ur1523, ur1635, ur1636, ur2027], [uL2178], [], [uV61], [], [uG2184])], [uk2038, uk2039, uk2040], 455, 2, 43)
set_option maxRecDepth 1000000 in
theorem ck_519 : x_ok mLT1 [cx_515, cx_518] mTS2 mTC2 mRUp cx_519 [(2, [0]), (11, [1])] [(14, [1000831])] [] (10, []) 445 13 = true := by decide +kernel
theorem sn_519 {W : Bool} {X : List Int32} : y_Snd (mGw W) mLT1 (J2 W X) X cx_519 := y_ok J2_J mTS2_ok1 mTC2_ok1 mRUp_ok1 (List.forall_mem_cons.mpr ⟨sn_515, List.forall_mem_cons.mpr ⟨sn_518, fun _ h => absurd h List.not_mem_nil⟩⟩) ck_519
def cx_520pi_0 (t : List (Int × Int)) : List (Int × Int) := ui0 :: (0, 5) :: ui260 :: (0, 1) :: ui49 :: (0, 1) :: ui31 :: (0, 6) :: t
def cx_520pi_1 (t : List (Int × Int)) : List (Int × Int) := (0, 6) :: ui49 :: ui49 :: t
def cx_520p : zS := ((cx_520pi_0 (cx_520pi_1 [])), (cx_516pr_0 (cx_516pr_1 [])), [uL1224], [], [uV2, uV11, uV12], (cx_516pf_0 (cx_516pf_1 [])), [uG2179, uG2181, uG2182, uG2183, uG2184])
/-- M.house -/
def cx_520 : zCtx := (221, cx_520p, [([ui0, (0, 5), ui260, (0, 1), ui49, (0, 1), ui31, (0, 6), (0, 6), ui49, ui49], [ur1474, ur1521, ur1522, ur1532, ur1533, ur1534, ur1535, ur1536, ur1530, ur1531, ur1523, ur1635, ur1636, ur2027], [uL9, uL2188], [], [uV61], [], [uG2037, uG2184]), ([ui0, (0, 5), ui260, (0, 1), ui49, (0, 1), ui31, (0, 6), (0, 6), ui49, ui49], [ur1474, ur1521, ur1522, ur1532, ur1533, ur1534, ur1535, ur1536, ur1530, ur1531, ur1523, ur1635, ur1636, ur2027], [uL2178], [], [uV61], [], [uG2184])], [uk2038, uk2039, uk2040], 455, 2, 43)
set_option maxRecDepth 1000000 in
theorem ck_520 : x_ok mLT1 [cx_515, cx_518] mTS2 mTC2 mRUp cx_520 [(2, [0]), (11, [1])] [(14, [1000831])] [] (10, []) 445 13 = true := by decide +kernel
theorem sn_520 {W : Bool} {X : List Int32} : y_Snd (mGw W) mLT1 (J2 W X) X cx_520 := y_ok J2_J mTS2_ok1 mTC2_ok1 mRUp_ok1 (List.forall_mem_cons.mpr ⟨sn_515, List.forall_mem_cons.mpr ⟨sn_518, fun _ h => absurd h List.not_mem_nil⟩⟩) ck_520
def cx_521pi_0 (t : List (Int × Int)) : List (Int × Int) := ui0 :: (0, 5) :: (0, 0) :: (0, 1) :: ui49 :: (0, 1) :: ui31 :: (0, 6) :: t
def cx_521pi_1 (t : List (Int × Int)) : List (Int × Int) := (0, 6) :: ui49 :: ui49 :: t
def cx_521p : zS := ((cx_521pi_0 (cx_521pi_1 [])), (cx_516pr_0 (cx_516pr_1 [])), [uL1224], [], [uV2, uV11, uV12], (cx_516pf_0 (cx_516pf_1 [])), [uG2179, uG2181, uG2182, uG2183, uG2184])
def cx_521q0i_0 (t : List (Int × Int)) : List (Int × Int) := ui0 :: (0, 5) :: (0, 0) :: (0, 1) :: ui49 :: (0, 1) :: ui31 :: (0, 6) :: t
def cx_521q0i_1 (t : List (Int × Int)) : List (Int × Int) := (0, 6) :: ui49 :: ui49 :: ui49 :: t
def cx_521q0 : zS := ((cx_521q0i_0 (cx_521q0i_1 [])), (cx_516pr_0 (cx_516pr_1 [])), [uL9, uL2188], [], [uV873], [], [uG2037, uG2184, (238, [uL34, uL63, uL63, uL63, uL63, uL63, uL63, uL63, uL9, uL63, uL193])])
/-- M.house -/
def cx_521 : zCtx := (221, cx_521p, [cx_521q0, ([ui0, (0, 5), (0, 0), (0, 1), ui49, (0, 1), ui31, (0, 6), (0, 6), ui49, ui49], [ur1474, ur1521, ur1522, ur1532, ur1533, ur1534, ur1535, ur1536, ur1530, ur1531, ur1523, ur1635, ur1636, ur2027], [uL2178], [], [uV61], [], [uG2184])], [uk2038, uk2039, uk2040], 458, 2, 43)
set_option maxRecDepth 1000000 in
theorem ck_521 : x_ok mLT1 [cx_515, cx_518] mTS2 mTC2 mRUp cx_521 [(2, [0]), (11, [1])] [(14, [1000831]), (70, [1000840])] [] (13, []) 445 16 = true := by decide +kernel
theorem sn_521 {W : Bool} {X : List Int32} : y_Snd (mGw W) mLT1 (J2 W X) X cx_521 := y_ok J2_J mTS2_ok1 mTC2_ok1 mRUp_ok1 (List.forall_mem_cons.mpr ⟨sn_515, List.forall_mem_cons.mpr ⟨sn_518, fun _ h => absurd h List.not_mem_nil⟩⟩) ck_521
/-- M.strongFirst -/
def cx_522 : zCtx := (225, ([ui0, (0, 5), (0, 1), (0, 6)], [ur1474, ur1635, ur1636], [uL9, uL526], [], [uV2, uV11], [uF2162, (0, (false, 23, 0, []), 2, 1, 0, []), (0, (false, 24, 0, []), 2, 2, 0, [])], [uG2189]), [([ui0, (0, 5), (0, 1), (0, 6), ui194], [ur1474, ur1635, ur1636], [uL9, uL526], [], [uV97], [], [(262, [uL9, uL98])])], [], 10, 0, 0)
set_option maxRecDepth 1000000 in
theorem ck_522 : x_ok mLT1 [] mTS2 mTC2 mRUp cx_522 [] [(14, [1000841])] [] (10, []) 0 13 = true := by decide +kernel
theorem sn_522 {W : Bool} {X : List Int32} : y_Snd (mGw W) mLT1 (J2 W X) X cx_522 := y_ok J2_J mTS2_ok1 mTC2_ok1 mRUp_ok1 (fun _ h => absurd h List.not_mem_nil) ck_522
def cx_523pi_0 (t : List (Int × Int)) : List (Int × Int) := ui0 :: (0, 5) :: (1, 1) :: (0, 1) :: ui49 :: (0, 1) :: ui31 :: (0, 6) :: t
def cx_523pi_1 (t : List (Int × Int)) : List (Int × Int) := (0, 6) :: ui49 :: ui49 :: t
def cx_523p : zS := ((cx_523pi_0 (cx_523pi_1 [])), (cx_516pr_0 (cx_516pr_1 [])), [uL1224], [], [uV2, uV11, uV12], (cx_516pf_0 (cx_516pf_1 [])), [uG2179, uG2181, uG2182, uG2183, uG2184])
/-- M.house -/
def cx_523 : zCtx := (221, cx_523p, [([ui0, (0, 5), (1, 1), (0, 1), ui49, (0, 1), ui31, (0, 6), (0, 6), ui49, ui49, ui49], [ur1474, ur1521, ur1522, ur1532, ur1533, ur1534, ur1535, ur1536, ur1530, ur1531, ur1523, ur1635, ur1636, ur2027], [uL9, uL2188], [], [uV873], [], [uG2037, uG2184, (262, [uL9, uL193])]), ([ui0, (0, 5), (1, 1), (0, 1), ui49, (0, 1), ui31, (0, 6), (0, 6), ui49, ui49], [ur1474, ur1521, ur1522, ur1532, ur1533, ur1534, ur1535, ur1536, ur1530, ur1531, ur1523, ur1635, ur1636, ur2027], [uL2178], [], [uV61], [], [uG2184])], [uk2038, uk2039, uk2040], 457, 2, 43)
set_option maxRecDepth 1000000 in
theorem ck_523 : x_ok mLT1 [cx_515, cx_518, cx_522] mTS2 mTC2 mRUp cx_523 [(2, [0]), (11, [1]), (73, [2])] [(14, [1000831])] [] (12, []) 445 15 = true := by decide +kernel
theorem sn_523 {W : Bool} {X : List Int32} : y_Snd (mGw W) mLT1 (J2 W X) X cx_523 := y_ok J2_J mTS2_ok1 mTC2_ok1 mRUp_ok1 (List.forall_mem_cons.mpr ⟨sn_515, List.forall_mem_cons.mpr ⟨sn_518, List.forall_mem_cons.mpr ⟨sn_522, fun _ h => absurd h List.not_mem_nil⟩⟩⟩) ck_523
/-- M.hasPlait -/
def cx_524 : zCtx := (226, ([ui0, (0, 5), ui194], [ur1474, ur2027], [], [], [uV2, uV11], [uF2031, (1, (true, 0, 6, [(1, 1)]), 0, 0, 0, [(2, 1)])], []), [([ui0, (0, 5), ui2190], [ur1474, ur2027], [], [], [uV64], [], []), ([ui0, (0, 5), (0, 0)], [ur1474, ur2027], [], [], [uV62], [], [])], [], 10, 0, 0)
set_option maxRecDepth 1000000 in
theorem ck_524 : x_ok mLT1 [] mTS2 mTC2 mRUp cx_524 [] [] [] (10, []) 0 13 = true := by decide +kernel
theorem sn_524 {W : Bool} {X : List Int32} : y_Snd (mGw W) mLT1 (J2 W X) X cx_524 := y_ok J2_J mTS2_ok1 mTC2_ok1 mRUp_ok1 (fun _ h => absurd h List.not_mem_nil) ck_524
def cx_525pi_0 (t : List (Int × Int)) : List (Int × Int) := ui0 :: (0, 5) :: (0, 1) :: (0, 6) :: ui49 :: ui49 :: ui49 :: ui49 :: t
def cx_525pi_1 (t : List (Int × Int)) : List (Int × Int) := ui49 :: ui49 :: ui49 :: (0, 6) :: t
def cx_525p : zS := ((cx_525pi_0 (cx_525pi_1 [])), [ur1474, ur1523, ur2027], [uL518, uL9, uL526], [], [uV2, uV11], [uF2162, uF1638, uF2191, uF2192], [uG2164, uG2193])
/-- M.placeOf -/
def cx_525 : zCtx := (227, cx_525p, [([ui0, (0, 5), (0, 1), (0, 6), ui49, ui49, ui49, ui49, ui49, ui49, ui49, (0, 6), (0, 5)], [ur1474, ur1523, ur2027], [uL518, uL9, uL526], [], [uV196], [], [(238, [uL250, uL98, uL104, uL78, uL79, uL131, uL163, uL169, uL9, uL63, uL212])]), ([ui0, (0, 5), (0, 1), (0, 6), ui49, ui49, ui49, ui49, ui49, ui49, ui49, (0, 6)], [ur1474, ur1523, ur2027], [uL518, uL9, uL526], [], [uV61], [], [(238, [uL250, uL98, uL104, uL78, uL79, uL131, uL163, uL169, uL9, uL63, uL99])])], [], 113, 0, 0)
def cz_525_0i_0 (t : List (Int × Int)) : List (Int × Int) := ui0 :: (0, 5) :: (0, 1) :: (0, 6) :: ui49 :: ui49 :: ui49 :: ui49 :: t
def cz_525_0i_1 (t : List (Int × Int)) : List (Int × Int) := ui49 :: ui49 :: ui49 :: (0, 6) :: (0, 6) :: t
def cz_525_0g_0 (t : List zTg) : List zTg := (238, [uL285, uL98, uL104, uL78, uL79, uL131, uL163, uL169, uL9, uL63, uL65]) :: uG2164 :: uG2193 :: (238, [uL285, uL98, uL104, uL78, uL79, uL131, uL163, uL169, uL9, uL212, uL65]) :: t
def cz_525_0 : zS := ((cz_525_0i_0 (cz_525_0i_1 [])), [ur1474, ur1523, ur2027], [uL518, uL9, uL526], [uV2, uV11, uV196], [], [uF2162, uF1638, uF2191], (cz_525_0g_0 []))
set_option maxRecDepth 1000000 in
theorem ck_525 : x_ok mLT1 [] mTS2 mTC2 mRUp cx_525 [] [(1, [1000834]), (23, [1000012]), (26, [1000837]), (28, [1000835, 1000836]), (34, [1000838])] [(2, cz_525_0, (110, [(12, (-17))]))] (113, []) 0 19 = true := by decide +kernel
theorem sn_525 {W : Bool} {X : List Int32} : y_Snd (mGw W) mLT1 (J2 W X) X cx_525 := y_ok J2_J mTS2_ok1 mTC2_ok1 mRUp_ok1 (fun _ h => absurd h List.not_mem_nil) ck_525
def cx_526pi_0 (t : List (Int × Int)) : List (Int × Int) := ui0 :: (0, 5) :: (2, 2) :: (0, 1) :: ui49 :: (0, 1) :: ui31 :: (0, 6) :: t
def cx_526pi_1 (t : List (Int × Int)) : List (Int × Int) := (0, 6) :: ui49 :: ui49 :: t
def cx_526p : zS := ((cx_526pi_0 (cx_526pi_1 [])), (cx_516pr_0 (cx_516pr_1 [])), [uL1224], [], [uV2, uV11, uV12], (cx_516pf_0 (cx_516pf_1 [])), [uG2179, uG2181, uG2182, uG2183, uG2184])
def cx_526q1i_0 (t : List (Int × Int)) : List (Int × Int) := ui0 :: (0, 5) :: (2, 2) :: (0, 1) :: ui49 :: (0, 1) :: ui31 :: (0, 6) :: t
def cx_526q1i_1 (t : List (Int × Int)) : List (Int × Int) := (0, 6) :: ui49 :: ui49 :: (0, 5) :: t
def cx_526q1 : zS := ((cx_526q1i_0 (cx_526q1i_1 [])), (cx_516pr_0 (cx_516pr_1 [])), [uL9, uL2188], [], [uV873], [], [uG2037, uG2184, (238, [uL250, uL63, uL63, uL63, uL63, uL63, uL63, uL63, uL9, uL63, uL193])])
/-- M.house -/
def cx_526 : zCtx := (221, cx_526p, [([ui0, (0, 5), (2, 2), (0, 1), ui49, (0, 1), ui31, (0, 6), (0, 6), ui49, ui49], [ur1474, ur1521, ur1522, ur1532, ur1533, ur1534, ur1535, ur1536, ur1530, ur1531, ur1523, ur1635, ur1636, ur2027], [uL9, uL2188], [], [uV583], [], [uG2037, uG2184, uG784]), cx_526q1, ([ui0, (0, 5), (2, 2), (0, 1), ui49, (0, 1), ui31, (0, 6), (0, 6), ui49, ui49], [ur1474, ur1521, ur1522, ur1532, ur1533, ur1534, ur1535, ur1536, ur1530, ur1531, ur1523, ur1635, ur1636, ur2027], [uL2178], [], [uV61], [], [uG2184])], [uk2038, uk2039, uk2040], 462, 2, 43)
set_option maxRecDepth 1000000 in
theorem ck_526 : x_ok mLT1 [cx_515, cx_518, cx_524, cx_525] mTS2 mTC2 mRUp cx_526 [(2, [0]), (11, [1]), (79, [2]), (87, [3])] [(14, [1000831]), (85, [1000832]), (90, [1000839]), (93, [1000832, 1000833])] [] (17, []) 445 20 = true := by decide +kernel
theorem sn_526 {W : Bool} {X : List Int32} : y_Snd (mGw W) mLT1 (J2 W X) X cx_526 := y_ok J2_J mTS2_ok1 mTC2_ok1 mRUp_ok1 (List.forall_mem_cons.mpr ⟨sn_515, List.forall_mem_cons.mpr ⟨sn_518, List.forall_mem_cons.mpr ⟨sn_524, List.forall_mem_cons.mpr ⟨sn_525, fun _ h => absurd h List.not_mem_nil⟩⟩⟩⟩) ck_526
def cx_527pi_0 (t : List (Int × Int)) : List (Int × Int) := ui0 :: (0, 5) :: (3, 3) :: (0, 1) :: ui49 :: (0, 1) :: ui31 :: (0, 6) :: t
def cx_527pi_1 (t : List (Int × Int)) : List (Int × Int) := (0, 6) :: ui49 :: ui49 :: t
def cx_527p : zS := ((cx_527pi_0 (cx_527pi_1 [])), (cx_516pr_0 (cx_516pr_1 [])), [uL1224], [], [uV2, uV11, uV12], (cx_516pf_0 (cx_516pf_1 [])), [uG2179, uG2181, uG2182, uG2183, uG2184])
def cx_527q0i_0 (t : List (Int × Int)) : List (Int × Int) := ui0 :: (0, 5) :: (3, 3) :: (0, 1) :: ui49 :: (0, 1) :: ui31 :: (0, 6) :: t
def cx_527q0i_1 (t : List (Int × Int)) : List (Int × Int) := (0, 6) :: ui49 :: ui49 :: ui49 :: t
def cx_527q0 : zS := ((cx_527q0i_0 (cx_527q0i_1 [])), (cx_516pr_0 (cx_516pr_1 [])), [uL9, uL2188], [], [uV873], [], [uG2037, uG2184, (238, [uL34, uL63, uL63, uL63, uL63, uL63, uL63, uL63, uL581, uL63, uL193])])
/-- M.house -/
def cx_527 : zCtx := (221, cx_527p, [cx_527q0, ([ui0, (0, 5), (3, 3), (0, 1), ui49, (0, 1), ui31, (0, 6), (0, 6), ui49, ui49], [ur1474, ur1521, ur1522, ur1532, ur1533, ur1534, ur1535, ur1536, ur1530, ur1531, ur1523, ur1635, ur1636, ur2027], [uL2178], [], [uV61], [], [uG2184])], [uk2038, uk2039, uk2040], 460, 2, 43)
set_option maxRecDepth 1000000 in
theorem ck_527 : x_ok mLT1 [cx_515, cx_518] mTS2 mTC2 mRUp cx_527 [(2, [0]), (11, [1])] [(14, [1000831]), (105, [1000832])] [] (15, []) 445 18 = true := by decide +kernel
theorem sn_527 {W : Bool} {X : List Int32} : y_Snd (mGw W) mLT1 (J2 W X) X cx_527 := y_ok J2_J mTS2_ok1 mTC2_ok1 mRUp_ok1 (List.forall_mem_cons.mpr ⟨sn_515, List.forall_mem_cons.mpr ⟨sn_518, fun _ h => absurd h List.not_mem_nil⟩⟩) ck_527
def cx_528pi_0 (t : List (Int × Int)) : List (Int × Int) := ui0 :: (0, 5) :: (4, 4) :: (0, 1) :: ui49 :: (0, 1) :: ui31 :: (0, 6) :: t
def cx_528pi_1 (t : List (Int × Int)) : List (Int × Int) := (0, 6) :: ui49 :: ui49 :: t
def cx_528p : zS := ((cx_528pi_0 (cx_528pi_1 [])), (cx_516pr_0 (cx_516pr_1 [])), [uL1224], [], [uV2, uV11, uV12], (cx_516pf_0 (cx_516pf_1 [])), [uG2179, uG2181, uG2182, uG2183, uG2184])
def cx_528q0i_0 (t : List (Int × Int)) : List (Int × Int) := ui0 :: (0, 5) :: (4, 4) :: (0, 1) :: ui49 :: (0, 1) :: ui31 :: (0, 6) :: t
def cx_528q0i_1 (t : List (Int × Int)) : List (Int × Int) := (0, 6) :: ui49 :: ui49 :: ui49 :: t
def cx_528q0 : zS := ((cx_528q0i_0 (cx_528q0i_1 [])), (cx_516pr_0 (cx_516pr_1 [])), [uL9, uL2188], [], [uV873], [], [uG2037, uG2184, (238, [uL34, uL63, uL63, uL63, uL63, uL63, uL63, uL63, uL580, uL63, uL193])])
/-- M.house -/
def cx_528 : zCtx := (221, cx_528p, [cx_528q0, ([ui0, (0, 5), (4, 4), (0, 1), ui49, (0, 1), ui31, (0, 6), (0, 6), ui49, ui49], [ur1474, ur1521, ur1522, ur1532, ur1533, ur1534, ur1535, ur1536, ur1530, ur1531, ur1523, ur1635, ur1636, ur2027], [uL2178], [], [uV61], [], [uG2184])], [uk2038, uk2039, uk2040], 460, 2, 43)
set_option maxRecDepth 1000000 in
theorem ck_528 : x_ok mLT1 [cx_515, cx_518] mTS2 mTC2 mRUp cx_528 [(2, [0]), (11, [1])] [(14, [1000831]), (115, [1000842])] [] (15, []) 445 18 = true := by decide +kernel
theorem sn_528 {W : Bool} {X : List Int32} : y_Snd (mGw W) mLT1 (J2 W X) X cx_528 := y_ok J2_J mTS2_ok1 mTC2_ok1 mRUp_ok1 (List.forall_mem_cons.mpr ⟨sn_515, List.forall_mem_cons.mpr ⟨sn_518, fun _ h => absurd h List.not_mem_nil⟩⟩) ck_528
def cx_529pi_0 (t : List (Int × Int)) : List (Int × Int) := ui0 :: (0, 5) :: (0, 1) :: (0, 6) :: ui49 :: ui49 :: ui49 :: ui49 :: t
def cx_529pi_1 (t : List (Int × Int)) : List (Int × Int) := ui49 :: ui49 :: ui49 :: t
def cx_529p : zS := ((cx_529pi_0 (cx_529pi_1 [])), [ur1474, ur1523, ur1635, ur1636, ur2027], [uL518, uL9, uL526], [], [uV2, uV11], [uF2162, uF1638, uF2032, uF2194, uF2195], [uG2164, uG2189, uG2193])
/-- M.strongOf -/
def cx_529 : zCtx := (230, cx_529p, [([ui0, (0, 5), (0, 1), (1, 6), ui49, ui49, ui49, ui49, ui49, ui49, ui49, ui194], [ur1474, ur1523, ur1635, ur1636, ur2027], [uL526, uL518, uL9], [], [uV873], [], [(238, [uL258, uL98, uL104, uL78, uL79, uL131, uL163, uL169, uL9, uL63, uL193])])], [], 22, 1, 21)
set_option maxRecDepth 1000000 in
theorem ck_529 : x_ok mLT1 [cx_524, cx_522] mTS2 mTC2 mRUp cx_529 [(2, [0]), (22, [1])] [(17, [1000845, 1000847, 1000848]), (25, [1000845, 1000846])] [] (12, []) 10 15 = true := by decide +kernel
theorem sn_529 {W : Bool} {X : List Int32} : y_Snd (mGw W) mLT1 (J2 W X) X cx_529 := y_ok J2_J mTS2_ok1 mTC2_ok1 mRUp_ok1 (List.forall_mem_cons.mpr ⟨sn_524, List.forall_mem_cons.mpr ⟨sn_522, fun _ h => absurd h List.not_mem_nil⟩⟩) ck_529
def cx_530p : zS := ((cx_529pi_0 (cx_529pi_1 [])), [ur1474, ur1523, ur1635, ur1636, ur2027, ur2196], [uL518, uL9, uL526], [], [uV2, uV11], [uF2162, uF1638, uF2032, uF2194, uF2195, (0, (false, 44, 0, []), 2, 5, 0, [])], [uG2164, uG2189, uG2193])
def cx_530q0i_0 (t : List (Int × Int)) : List (Int × Int) := ui0 :: (0, 5) :: (0, 1) :: (1, 6) :: ui49 :: ui49 :: ui49 :: ui49 :: t
def cx_530q0i_1 (t : List (Int × Int)) : List (Int × Int) := ui49 :: ui49 :: ui49 :: ui49 :: (0, 6) :: (0, 5) :: ui49 :: ui194 :: t
def cx_530q0i_2 (t : List (Int × Int)) : List (Int × Int) := ui194 :: t
def cx_530q0f_0 (t : List zFa) : List zFa := (5, (true, 0, 8, []), 0, 0, 0, []) :: (5, (true, 0, 7, []), 0, 0, 0, [(11, 1)]) :: (5, (true, 0, 6, []), 0, 0, 0, [(12, 1)]) :: (5, (true, 0, 5, []), 0, 0, 0, [(1, 1)]) :: (5, (true, 0, 4, []), 0, 0, 0, [(13, 1)]) :: (5, (true, 0, 3, []), 0, 0, 0, [(14, 1)]) :: (5, (true, 0, 2, []), 0, 0, 0, []) :: (5, (true, 0, 1, []), 0, 0, 0, [(15, 1)]) :: t
def cx_530q0f_1 (t : List zFa) : List zFa := (5, (true, 0, 0, []), 0, 0, 0, [(16, 1)]) :: t
def cx_530q0g_0 (t : List zTg) : List zTg := (238, [uL34, uL98, uL104, uL78, uL79, uL131, uL163, uL169, uL9, uL63, uL210]) :: (238, [uL258, uL98, uL104, uL78, uL79, uL131, uL163, uL169, uL9, uL63, uL207]) :: (238, [uL34, uL98, uL104, uL78, uL79, uL131, uL163, uL169, uL538, uL63, uL206]) :: (238, [uL539, uL98, uL104, uL78, uL79, uL131, uL163, uL169, uL9, uL63, uL205]) :: (238, [uL34, uL98, uL104, uL78, uL79, uL131, uL163, uL169, uL540, uL63, uL212]) :: (238, [uL34, uL98, uL104, uL78, uL79, uL131, uL163, uL169, uL541, uL63, uL193]) :: t
def cx_530q0 : zS := ((cx_530q0i_0 (cx_530q0i_1 (cx_530q0i_2 []))), [ur1474, ur1523, ur1635, ur1636, ur2027, ur2196], [uL526, uL518, uL9], [], [], (cx_530q0f_0 (cx_530q0f_1 [])), (cx_530q0g_0 []))
/-- M.views -/
def cx_530 : zCtx := (229, cx_530p, [cx_530q0], [uk2197], 182, 2, 42)
set_option maxRecDepth 1000000 in
theorem ck_530 : x_ok mLT1 [cx_529, cx_524, cx_525] mTS2 mTC2 mRUp cx_530 [(19, [0]), (50, [1]), (58, [2])] [(11, [1000844]), (42, [1000849]), (56, [1000845]), (61, [1000845, 1000839, 1000853]), (64, [1000845, 1000850]), (86, [1000851]), (102, [1000852])] [] (69, []) 113 72 = true := by decide +kernel
theorem sn_530 {W : Bool} {X : List Int32} : y_Snd (mGw W) mLT1 (J2 W X) X cx_530 := y_ok J2_J mTS2_ok1 mTC2_ok1 mRUp_ok1 (List.forall_mem_cons.mpr ⟨sn_529, List.forall_mem_cons.mpr ⟨sn_524, List.forall_mem_cons.mpr ⟨sn_525, fun _ h => absurd h List.not_mem_nil⟩⟩⟩) ck_530
end
