noncomputable section
/-! ===== readings, by program, checked by the kernel ===== -/
def cx_515pi_0 (t : List (Int × Int)) : List (Int × Int) := ui0 :: ui52 :: ui52 :: ui141 :: ui68 :: (0, 7) :: (0, 2) :: ui52 :: t
def cx_515pi_1 (t : List (Int × Int)) : List (Int × Int) := (0, 5) :: ui52 :: ui1981 :: (0, 1) :: (0, 1) :: (0, 6) :: ui1676 :: ui1674 :: t
def cx_515pi_2 (t : List (Int × Int)) : List (Int × Int) := ui1675 :: ui49 :: (0, 1) :: ui440 :: ui48 :: (0, 1) :: (0, 6) :: ui196 :: t
def cx_515pi_3 (t : List (Int × Int)) : List (Int × Int) := ui196 :: ui196 :: ui196 :: (0, 1) :: (0, 6) :: (0, 1) :: ui31 :: (0, 1) :: t
def cx_515pi_4 (t : List (Int × Int)) : List (Int × Int) := (0, 1) :: (0, 1) :: (0, 6) :: (0, 6) :: ui49 :: ui49 :: t
def cx_515pg_0 (t : List zTg) : List zTg := uG2018 :: uG1978 :: uG2019 :: uG1448 :: uG2021 :: uG2022 :: uG2023 :: uG2024 :: t
def cx_515pg_1 (t : List zTg) : List zTg := uG2025 :: uG2026 :: uG2027 :: uG2028 :: uG2074 :: t
def cx_515p : zS := ((cx_515pi_0 (cx_515pi_1 (cx_515pi_2 (cx_515pi_3 (cx_515pi_4 []))))), (cx_514pr_0 (cx_514pr_1 (cx_514pr_2 (cx_514pr_3 [])))), [], [], [uV2], (cx_514pf_0 (cx_514pf_1 (cx_514pf_2 (cx_514pf_3 (cx_514pf_4 (cx_514pf_5 (cx_514pf_6 []))))))), (cx_515pg_0 (cx_515pg_1 [])))
def cx_515q0i_0 (t : List (Int × Int)) : List (Int × Int) := ui0 :: ui52 :: ui52 :: ui141 :: ui68 :: (0, 7) :: (0, 2) :: ui52 :: t
def cx_515q0i_1 (t : List (Int × Int)) : List (Int × Int) := (0, 5) :: ui52 :: ui1981 :: (0, 1) :: (0, 1) :: (0, 6) :: ui1676 :: ui1674 :: t
def cx_515q0i_2 (t : List (Int × Int)) : List (Int × Int) := ui1675 :: ui49 :: (0, 1) :: ui440 :: ui48 :: (0, 1) :: (0, 6) :: ui196 :: t
def cx_515q0i_3 (t : List (Int × Int)) : List (Int × Int) := ui196 :: ui196 :: ui196 :: (0, 1) :: (0, 6) :: (0, 1) :: ui31 :: (0, 1) :: t
def cx_515q0i_4 (t : List (Int × Int)) : List (Int × Int) := (0, 1) :: (0, 1) :: (0, 6) :: (0, 6) :: ui49 :: ui49 :: (1, 2) :: ui52 :: t
def cx_515q0i_5 (t : List (Int × Int)) : List (Int × Int) := ui68 :: ui48 :: (0, 7) :: (0, 5) :: ui52 :: (0, 6) :: ui1921 :: ui1674 :: t
def cx_515q0i_6 (t : List (Int × Int)) : List (Int × Int) := ui1675 :: t
def cx_515q0f_0 (t : List zFa) : List zFa := uF2075 :: (0, (false, 14, 0, []), 0, 0, 0, [(39, 1)]) :: (0, (false, 13, 0, []), 0, 0, 0, [(38, 1)]) :: (0, (false, 11, 0, []), 0, 0, 0, [(40, 1)]) :: uF2072 :: uF2072 :: (0, (false, 12, 0, []), 0, 0, 0, [(42, 1)]) :: uF2062 :: t
def cx_515q0f_1 (t : List zFa) : List zFa := (0, (false, 16, 0, []), 0, 0, 0, [(44, 1)]) :: (0, (false, 20, 0, []), 0, 0, 0, [(45, 1)]) :: (0, (false, 33, 0, []), 0, 0, 0, [(46, 1)]) :: (0, (false, 39, 0, []), 0, 0, 0, [(47, 1)]) :: (0, (false, 43, 0, []), 0, 0, 0, [(48, 1)]) :: uF2072 :: (3, (true, 0, 1, [(11, (-1))]), 0, 0, 0, [(45, 1)]) :: uF2031 :: t
def cx_515q0f_2 (t : List zFa) : List zFa := uF166 :: uF32 :: uF1988 :: uF1993 :: uF1994 :: uF1995 :: uF1996 :: uF2013 :: t
def cx_515q0f_3 (t : List zFa) : List zFa := uF2014 :: uF2015 :: t
def cx_515q0g_0 (t : List zTg) : List zTg := uG2018 :: uG2021 :: uG2022 :: uG2023 :: uG2024 :: uG2025 :: uG2026 :: uG2027 :: t
def cx_515q0g_1 (t : List zTg) : List zTg := uG2028 :: uG2032 :: uG2033 :: uG2034 :: uG2035 :: uG2036 :: uG2037 :: uG1449 :: t
def cx_515q0g_2 (t : List zTg) : List zTg := uG1447 :: uG1978 :: uG2074 :: uG2076 :: uG1448 :: uG2021 :: uG2022 :: uG2023 :: t
def cx_515q0g_3 (t : List zTg) : List zTg := uG2024 :: uG2025 :: uG2026 :: uG2027 :: uG2074 :: t
def cx_515q0 : zS := ((cx_515q0i_0 (cx_515q0i_1 (cx_515q0i_2 (cx_515q0i_3 (cx_515q0i_4 (cx_515q0i_5 (cx_515q0i_6 []))))))), (cx_514pr_0 (cx_514pr_1 (cx_514pr_2 (cx_514pr_3 [])))), [], [], [uV2077], (cx_515q0f_0 (cx_515q0f_1 (cx_515q0f_2 (cx_515q0f_3 [])))), (cx_515q0g_0 (cx_515q0g_1 (cx_515q0g_2 (cx_515q0g_3 [])))))
def cx_515q1i_0 (t : List (Int × Int)) : List (Int × Int) := ui0 :: ui52 :: ui52 :: ui141 :: ui68 :: (0, 7) :: (0, 2) :: ui52 :: t
def cx_515q1i_1 (t : List (Int × Int)) : List (Int × Int) := (0, 5) :: ui52 :: ui1981 :: (0, 1) :: (0, 1) :: (0, 6) :: ui1676 :: ui1674 :: t
def cx_515q1i_2 (t : List (Int × Int)) : List (Int × Int) := ui1675 :: ui49 :: (0, 1) :: ui440 :: ui48 :: (0, 1) :: (0, 6) :: ui196 :: t
def cx_515q1i_3 (t : List (Int × Int)) : List (Int × Int) := ui196 :: ui196 :: ui196 :: (0, 1) :: (0, 6) :: (0, 1) :: ui31 :: (0, 1) :: t
def cx_515q1i_4 (t : List (Int × Int)) : List (Int × Int) := (0, 1) :: (0, 1) :: (0, 6) :: (0, 6) :: ui49 :: ui49 :: (1, 5) :: ui52 :: t
def cx_515q1i_5 (t : List (Int × Int)) : List (Int × Int) := ui1694 :: ui1693 :: ui196 :: ui196 :: ui196 :: ui196 :: ui48 :: (0, 6) :: t
def cx_515q1i_6 (t : List (Int × Int)) : List (Int × Int) := ui68 :: ui1675 :: t
def cx_515q1f_0 (t : List zFa) : List zFa := uF2075 :: uF2078 :: uF2079 :: uF2080 :: uF2081 :: uF2082 :: uF2083 :: uF2084 :: t
def cx_515q1f_1 (t : List zFa) : List zFa := (0, (false, 20, 0, []), 0, 0, 0, [(47, 1)]) :: uF2031 :: uF1947 :: uF2047 :: uF2048 :: uF2085 :: uF166 :: uF32 :: t
def cx_515q1f_2 (t : List zFa) : List zFa := uF1209 :: uF1948 :: uF1988 :: (0, (false, 43, 0, []), 0, 0, 0, [(49, 1)]) :: uF1993 :: uF1994 :: uF1995 :: uF1996 :: t
def cx_515q1f_3 (t : List zFa) : List zFa := uF2013 :: uF2014 :: uF2015 :: (3, (true, 0, 1, [(11, (-1))]), 0, 0, 0, [(47, 1)]) :: t
def cx_515q1g_0 (t : List zTg) : List zTg := uG2018 :: uG2050 :: uG2051 :: uG2032 :: uG2033 :: uG2034 :: uG2035 :: uG2036 :: t
def cx_515q1g_1 (t : List zTg) : List zTg := uG2037 :: uG2021 :: uG2022 :: uG2023 :: uG2024 :: uG2025 :: uG2026 :: uG2028 :: t
def cx_515q1g_2 (t : List zTg) : List zTg := uG1449 :: uG1447 :: uG1978 :: uG2027 :: uG2074 :: uG2076 :: uG1448 :: uG2021 :: t
def cx_515q1g_3 (t : List zTg) : List zTg := uG2022 :: uG2023 :: uG2024 :: uG2025 :: uG2026 :: uG2027 :: uG2074 :: t
def cx_515q1 : zS := ((cx_515q1i_0 (cx_515q1i_1 (cx_515q1i_2 (cx_515q1i_3 (cx_515q1i_4 (cx_515q1i_5 (cx_515q1i_6 []))))))), (cx_514pr_0 (cx_514pr_1 (cx_514pr_2 (cx_514pr_3 [])))), [uL2086, uL2087], [], [uV2077], (cx_515q1f_0 (cx_515q1f_1 (cx_515q1f_2 (cx_515q1f_3 [])))), (cx_515q1g_0 (cx_515q1g_1 (cx_515q1g_2 (cx_515q1g_3 [])))))
def cx_515q2i_0 (t : List (Int × Int)) : List (Int × Int) := ui0 :: ui52 :: ui52 :: ui141 :: ui68 :: (0, 7) :: (0, 2) :: ui52 :: t
def cx_515q2i_1 (t : List (Int × Int)) : List (Int × Int) := (0, 5) :: ui52 :: ui1981 :: (0, 1) :: (0, 1) :: (0, 6) :: ui1676 :: ui1674 :: t
def cx_515q2i_2 (t : List (Int × Int)) : List (Int × Int) := ui1675 :: ui49 :: (0, 1) :: ui440 :: ui48 :: (0, 1) :: (0, 6) :: ui196 :: t
def cx_515q2i_3 (t : List (Int × Int)) : List (Int × Int) := ui196 :: ui196 :: ui196 :: (0, 1) :: (0, 6) :: (0, 1) :: ui31 :: (0, 1) :: t
def cx_515q2i_4 (t : List (Int × Int)) : List (Int × Int) := (0, 1) :: (0, 1) :: (0, 6) :: (0, 6) :: ui49 :: ui49 :: ui196 :: (0, 6) :: t
def cx_515q2i_5 (t : List (Int × Int)) : List (Int × Int) := ui1694 :: ui1693 :: ui196 :: ui196 :: ui196 :: ui196 :: ui48 :: (0, 0) :: t
def cx_515q2i_6 (t : List (Int × Int)) : List (Int × Int) := ui68 :: ui52 :: ui1675 :: (0, 6) :: ui196 :: ui196 :: ui196 :: ui196 :: t
def cx_515q2f_0 (t : List zFa) : List zFa := uF2054 :: uF2055 :: uF2056 :: uF2057 :: uF2058 :: uF1970 :: (0, (false, 49, 0, []), 0, 0, 0, [(38, 1)]) :: uF2088 :: t
def cx_515q2f_1 (t : List zFa) : List zFa := uF2060 :: uF2061 :: uF2078 :: uF2079 :: uF2080 :: uF2081 :: uF2082 :: uF2083 :: t
def cx_515q2f_2 (t : List zFa) : List zFa := uF2084 :: uF1960 :: uF2031 :: uF2089 :: uF2047 :: uF2048 :: uF2085 :: uF166 :: t
def cx_515q2f_3 (t : List zFa) : List zFa := uF32 :: uF1209 :: uF2090 :: uF2091 :: uF2088 :: t
def cx_515q2g_0 (t : List zTg) : List zTg := uG1977 :: uG1978 :: uG1979 :: uG1972 :: uG1973 :: uG471 :: uG2065 :: uG2050 :: t
def cx_515q2g_1 (t : List zTg) : List zTg := uG2051 :: uG2032 :: uG2033 :: uG2034 :: uG2035 :: uG2036 :: uG2037 :: uG2021 :: t
def cx_515q2g_2 (t : List zTg) : List zTg := uG2022 :: uG2023 :: uG2024 :: uG2025 :: uG2026 :: uG2028 :: uG1449 :: uG1447 :: t
def cx_515q2g_3 (t : List zTg) : List zTg := uG2027 :: uG471 :: uG1448 :: uG2051 :: (76, [uL9, uL2068]) :: (85, [uL2020, uL2068, uL195]) :: (87, [uL9, uL266, uL2092]) :: (88, [uL2020, uL2092, uL195]) :: t
def cx_515q2g_4 (t : List zTg) : List zTg := (87, [uL9, uL283, uL2093]) :: (89, [uL2020, uL2093, uL195]) :: (87, [uL9, uL285, uL2094]) :: (90, [uL2020, uL2094, uL195]) :: (87, [uL9, uL287, uL2095]) :: (91, [uL2020, uL2095, uL195]) :: (96, [uL9, uL2068, uL2020]) :: uG2050 :: t
def cx_515q2g_5 (t : List zTg) : List zTg := (275, [uL2020, uL2068]) :: t
def cx_515q2 : zS := ((cx_515q2i_0 (cx_515q2i_1 (cx_515q2i_2 (cx_515q2i_3 (cx_515q2i_4 (cx_515q2i_5 (cx_515q2i_6 []))))))), (cx_514pr_0 (cx_514pr_1 (cx_514pr_2 (cx_514pr_3 [])))), [uL2086, uL2087], [], [uV62], (cx_515q2f_0 (cx_515q2f_1 (cx_515q2f_2 (cx_515q2f_3 [])))), (cx_515q2g_0 (cx_515q2g_1 (cx_515q2g_2 (cx_515q2g_3 (cx_515q2g_4 (cx_515q2g_5 [])))))))
/-- M.read -/
def cx_515 : zCtx := (195, cx_515p, [cx_515q0, cx_515q1, cx_515q2], kc_79, 68207627, 7, 147)
def cq_515 : List zCtx := [cx_422, cx_423, cx_424, cx_511, cx_512, cx_513]
def cs_515 : List (Nat × List Nat) := [(42, [0]), (85, [1]), (121, [2]), (128, [3]), (200, [4]), (204, [5])]
def hs_515 : List (Nat × List Nat) := [(9, [1000412]), (30, [1000413]), (36, [1000414]), (88, [10]), (109, uN2069), (119, [1000246]), (131, [740, 1000411]), (134, uN2070), (174, [16]), (178, [1000419]), (186, [16]), (190, [1000419]), (191, [15, 1000457, 1000507, 1000508, 1000509, 1000510]), (192, [1000420]), (207, [1000747])]
def nd_515_0pi_0 (t : List (Int × Int)) : List (Int × Int) := ui0 :: ui52 :: ui52 :: ui141 :: ui68 :: (0, 7) :: (0, 2) :: ui52 :: t
def nd_515_0pi_1 (t : List (Int × Int)) : List (Int × Int) := (0, 5) :: ui52 :: ui1981 :: (0, 1) :: (0, 1) :: (0, 6) :: ui1676 :: ui1674 :: t
def nd_515_0pi_2 (t : List (Int × Int)) : List (Int × Int) := ui1675 :: ui49 :: (0, 1) :: ui440 :: ui48 :: (0, 1) :: (0, 6) :: ui196 :: t
def nd_515_0pi_3 (t : List (Int × Int)) : List (Int × Int) := ui196 :: ui196 :: ui196 :: (0, 1) :: (0, 6) :: (0, 1) :: ui31 :: (0, 1) :: t
def nd_515_0pi_4 (t : List (Int × Int)) : List (Int × Int) := (0, 1) :: (0, 1) :: (0, 6) :: (0, 6) :: ui49 :: ui49 :: ui52 :: t
def nd_515_0pg_0 (t : List zTg) : List zTg := uG2018 :: uG1978 :: uG2019 :: uG1448 :: uG2021 :: uG2022 :: uG2023 :: uG2024 :: t
def nd_515_0pg_1 (t : List zTg) : List zTg := uG2025 :: uG2026 :: uG2027 :: uG2028 :: uG2074 :: (54, [uL1927]) :: t
def nd_515_0p : zS := ((nd_515_0pi_0 (nd_515_0pi_1 (nd_515_0pi_2 (nd_515_0pi_3 (nd_515_0pi_4 []))))), (cx_514pr_0 (cx_514pr_1 (cx_514pr_2 (cx_514pr_3 [])))), [uL2096], [uV2, uV2077], [], (nd_514_0pf_0 (nd_514_0pf_1 (nd_514_0pf_2 (nd_514_0pf_3 (nd_514_0pf_4 (nd_514_0pf_5 (nd_514_0pf_6 []))))))), (nd_515_0pg_0 (nd_515_0pg_1 [])))
def nd_515_0 : zN := (10, nd_515_0p, (429320, [(38, (-15))]))
def nd_515_1pi_0 (t : List (Int × Int)) : List (Int × Int) := ui0 :: ui52 :: ui52 :: ui141 :: ui68 :: (0, 7) :: (0, 2) :: ui52 :: t
def nd_515_1pi_1 (t : List (Int × Int)) : List (Int × Int) := (0, 5) :: ui52 :: ui1981 :: (0, 1) :: (0, 1) :: (0, 6) :: ui1676 :: ui1674 :: t
def nd_515_1pi_2 (t : List (Int × Int)) : List (Int × Int) := ui1675 :: ui49 :: (0, 1) :: ui440 :: ui48 :: (0, 1) :: (0, 6) :: ui196 :: t
def nd_515_1pi_3 (t : List (Int × Int)) : List (Int × Int) := ui196 :: ui196 :: ui196 :: (0, 1) :: (0, 6) :: (0, 1) :: ui31 :: (0, 1) :: t
def nd_515_1pi_4 (t : List (Int × Int)) : List (Int × Int) := (0, 1) :: (0, 1) :: (0, 6) :: (0, 6) :: ui49 :: ui49 :: ui52 :: ui1694 :: t
def nd_515_1pi_5 (t : List (Int × Int)) : List (Int × Int) := ui1693 :: ui196 :: ui196 :: ui196 :: ui196 :: ui48 :: (0, 6) :: (0, 5) :: t
def nd_515_1pi_6 (t : List (Int × Int)) : List (Int × Int) := ui68 :: ui52 :: ui1675 :: (0, 2) :: ui1674 :: ui1674 :: ui68 :: t
def nd_515_1pf_0 (t : List zFa) : List zFa := (0, (false, 39, 0, []), 0, 0, 0, [(39, 1)]) :: uF1949 :: (17, (true, 0, 1, [(11, (-1))]), 0, 0, 0, [(41, 1)]) :: (16, (true, 0, 1, [(11, (-1))]), 0, 0, 0, [(42, 1)]) :: (15, (true, 0, 1, [(11, (-1))]), 0, 0, 0, [(43, 1)]) :: (14, (true, 0, 1, [(11, (-1))]), 0, 0, 0, [(44, 1)]) :: (7, (true, 0, 1, [(11, (-1))]), 0, 0, 0, [(45, 1)]) :: (0, (false, 20, 0, []), 0, 0, 0, [(46, 1)]) :: t
def nd_515_1pf_1 (t : List zFa) : List zFa := uF2031 :: uF2089 :: uF2047 :: uF2048 :: uF2085 :: uF166 :: uF32 :: uF1209 :: t
def nd_515_1pf_2 (t : List zFa) : List zFa := uF2090 :: uF1987 :: uF1988 :: uF2091 :: uF1993 :: uF1994 :: uF1995 :: uF1996 :: t
def nd_515_1pf_3 (t : List zFa) : List zFa := uF1477 :: uF1478 :: uF1479 :: uF432 :: uF538 :: uF1127 :: uF1895 :: uF1904 :: t
def nd_515_1pf_4 (t : List zFa) : List zFa := uF1905 :: uF1906 :: uF459 :: uF1997 :: uF1998 :: uF1999 :: uF2000 :: uF2001 :: t
def nd_515_1pf_5 (t : List zFa) : List zFa := uF2002 :: uF2003 :: uF2004 :: uF2005 :: uF2006 :: uF2007 :: uF2008 :: uF2009 :: t
def nd_515_1pf_6 (t : List zFa) : List zFa := uF2010 :: uF2011 :: uF2012 :: uF2013 :: uF2014 :: uF2015 :: uF2016 :: uF2017 :: t
def nd_515_1pf_7 (t : List zFa) : List zFa := (3, (true, 0, 1, [(11, (-1))]), 0, 0, 0, [(46, 1)]) :: t
def nd_515_1pg_0 (t : List zTg) : List zTg := uG2032 :: uG2033 :: uG2034 :: uG2035 :: uG2036 :: uG2037 :: uG2021 :: uG2022 :: t
def nd_515_1pg_1 (t : List zTg) : List zTg := uG2023 :: uG2024 :: uG2025 :: uG2026 :: uG2028 :: uG1449 :: uG1447 :: uG1978 :: t
def nd_515_1pg_2 (t : List zTg) : List zTg := uG2019 :: uG1448 :: uG2027 :: uG2074 :: (3, [uL2020, uL1961, uL1961, uL1934, uL2068, uL2092, uL2093]) :: (58, [uL9, uL1958]) :: (40, [uL9, uL1958, uL63, uL63, uL63, uL1956, uL1955, uL1957, uL2066, uL2094]) :: (64, [uL9, uL1958, uL1956]) :: t
def nd_515_1pg_3 (t : List zTg) : List zTg := (78, [uL9, uL1958, uL2020]) :: uG2021 :: uG2022 :: (86, [uL9, uL1958, uL266, uL1954]) :: (86, [uL9, uL1958, uL283, uL1953]) :: (86, [uL9, uL1958, uL285, uL2073]) :: (86, [uL9, uL1958, uL287, uL1962]) :: uG2023 :: t
def nd_515_1pg_4 (t : List zTg) : List zTg := uG2024 :: uG2025 :: uG2026 :: (95, [uL9, uL1958, uL1956, uL2020, (6, [(11, (-6)), (46, 1)])]) :: uG2027 :: (216, [uL9, uL1958, uL2020, uL1934, uL63, uL1961, uL63]) :: t
def nd_515_1p : zS := ((nd_515_1pi_0 (nd_515_1pi_1 (nd_515_1pi_2 (nd_515_1pi_3 (nd_515_1pi_4 (nd_515_1pi_5 (nd_515_1pi_6 []))))))), (cx_514pr_0 (cx_514pr_1 (cx_514pr_2 (cx_514pr_3 [])))), [(0, [(1, (-1)), (38, 1)]), uL2096, (420, [(11, (-420)), (39, (-1)), (48, 1)]), (520, [(11, (-520)), (40, (-4)), (48, 1)])], [uV2, uV2077], [], (nd_515_1pf_0 (nd_515_1pf_1 (nd_515_1pf_2 (nd_515_1pf_3 (nd_515_1pf_4 (nd_515_1pf_5 (nd_515_1pf_6 (nd_515_1pf_7 [])))))))), (nd_515_1pg_0 (nd_515_1pg_1 (nd_515_1pg_2 (nd_515_1pg_3 (nd_515_1pg_4 []))))))
def nd_515_1 : zN := (112, nd_515_1p, (399273, [(48, (-998))]))
def ns_515 : List zN := [nd_515_0, nd_515_1]
set_option maxRecDepth 1000000 in
theorem ca_515 : x_okA mLT1 cq_515 mTS2 mTC2 mRUp cx_515 cs_515 hs_515 ns_515 (429327, []) 67778300 76 = true := by decide +kernel
set_option maxRecDepth 1000000 in
theorem cb_515_0 : x_okB mLT1 cq_515 mTS2 mTC2 mRUp cx_515 cs_515 hs_515 ns_515 (429327, []) 67778300 76 nd_515_0 = true := by decide +kernel
set_option maxRecDepth 1000000 in
theorem cb_515_1 : x_okB mLT1 cq_515 mTS2 mTC2 mRUp cx_515 cs_515 hs_515 ns_515 (429327, []) 67778300 76 nd_515_1 = true := by decide +kernel
set_option maxRecDepth 1000000 in
theorem cc_515 : x_okC mLT1 cq_515 mTS2 mTC2 mRUp cx_515 cs_515 hs_515 ns_515 (429327, []) 67778300 76 = true := by decide +kernel
theorem ck_515 : x_ok mLT1 cq_515 mTS2 mTC2 mRUp cx_515 cs_515 hs_515 ns_515 (429327, []) 67778300 76 = true := x_ok_of ca_515 (List.forall_mem_cons.mpr ⟨cb_515_0, List.forall_mem_cons.mpr ⟨cb_515_1, fun _ h => absurd h List.not_mem_nil⟩⟩) cc_515
theorem sn_515 {W : Bool} {X : List Int32} : y_Snd (mGw W) mLT1 (J2 W X) X cx_515 := y_ok J2_J mTS2_ok1 mTC2_ok1 mRUp_ok1 (List.forall_mem_cons.mpr ⟨sn_422, List.forall_mem_cons.mpr ⟨sn_423, List.forall_mem_cons.mpr ⟨sn_424, List.forall_mem_cons.mpr ⟨sn_511, List.forall_mem_cons.mpr ⟨sn_512, List.forall_mem_cons.mpr ⟨sn_513, fun _ h => absurd h List.not_mem_nil⟩⟩⟩⟩⟩⟩) ck_515
/-- M.place -/
def cx_516 : zCtx := (220, ([ui0, ui1981], [ur1414], [], [], [uV2], [(0, (false, 17, 0, []), 0, 0, 0, [(1, 1)])], []), [([ui0, ui1981], [ur1414], [], [], [uV11], [], [])], [], 3, 0, 0)
set_option maxRecDepth 1000000 in
theorem ck_516 : x_ok mLT1 [] mTS2 mTC2 mRUp cx_516 [] [] [] (3, []) 0 6 = true := by decide +kernel
theorem sn_516 {W : Bool} {X : List Int32} : y_Snd (mGw W) mLT1 (J2 W X) X cx_516 := y_ok J2_J mTS2_ok1 mTC2_ok1 mRUp_ok1 (fun _ h => absurd h List.not_mem_nil) ck_516
/-- M.in -/
def cx_517 : zCtx := (223, ([ui0, ui49, (0, 1), ui2097], [], [], [], [uV11, uV12, uV58], [], []), [([ui0, ui586, (0, 1), ui586], [], [uL66, uL60], [], [uV64], [], []), ([ui0, ui511, (0, 1), ui2097], [], [uL1450, uL60], [], [uV62], [], []), ([ui0, ui1343, (0, 1), ui2097], [], [uL57], [], [uV62], [], [])], [], 9, 0, 0)
set_option maxRecDepth 1000000 in
theorem ck_517 : x_ok mLT1 [] mTS2 mTC2 mRUp cx_517 [] [] [] (9, []) 0 12 = true := by decide +kernel
theorem sn_517 {W : Bool} {X : List Int32} : y_Snd (mGw W) mLT1 (J2 W X) X cx_517 := y_ok J2_J mTS2_ok1 mTC2_ok1 mRUp_ok1 (fun _ h => absurd h List.not_mem_nil) ck_517
/-- M.isHouse -/
def cx_518 : zCtx := (222, ([ui0, ui49, (0, 1), (0, 6)], [ur1414, ur1463], [], [], [uV2, uV11], [uF2098, uF1578], [uG2100]), [([ui0, ui262, (0, 1), (0, 6)], [ur1414, ur1463], [uL515], [], [uV62], [], []), ([ui0, ui511, (0, 1), (0, 6)], [ur1414, ur1463], [uL572, uL572], [], [uV62], [], []), ([ui0, (0, 5), (0, 1), (1, 6)], [ur1414, ur1463], [uL515, uL9, uL515], [], [uV64], [], [])], [], 20, 1, 22)
set_option maxRecDepth 1000000 in
theorem ck_518 : x_ok mLT1 [cx_517] mTS2 mTC2 mRUp cx_518 [(13, [0])] [(16, uN2101)] [] (11, []) 9 14 = true := by decide +kernel
theorem sn_518 {W : Bool} {X : List Int32} : y_Snd (mGw W) mLT1 (J2 W X) X cx_518 := y_ok J2_J mTS2_ok1 mTC2_ok1 mRUp_ok1 (List.forall_mem_cons.mpr ⟨sn_517, fun _ h => absurd h List.not_mem_nil⟩) ck_518
def cx_519pi_0 (t : List (Int × Int)) : List (Int × Int) := ui0 :: ui49 :: ui49 :: (0, 1) :: ui49 :: (0, 1) :: ui31 :: (0, 6) :: t
def cx_519pi_1 (t : List (Int × Int)) : List (Int × Int) := (0, 6) :: ui49 :: ui49 :: t
def cx_519pr_0 (t : List (Nat × Bool)) : List (Nat × Bool) := ur1414 :: ur1461 :: ur1462 :: ur1472 :: ur1473 :: ur1474 :: ur1475 :: ur1476 :: t
def cx_519pr_1 (t : List (Nat × Bool)) : List (Nat × Bool) := ur1470 :: ur1471 :: ur1463 :: ur1575 :: ur1576 :: ur1963 :: t
def cx_519pf_0 (t : List zFa) : List zFa := uF2102 :: uF2103 :: uF2104 :: uF1477 :: uF1478 :: uF2105 :: uF2106 :: uF2107 :: t
def cx_519pf_1 (t : List zFa) : List zFa := uF2108 :: uF2109 :: uF1708 :: uF1709 :: uF2110 :: uF2111 :: uF2112 :: uF2113 :: t
def cx_519p : zS := ((cx_519pi_0 (cx_519pi_1 [])), (cx_519pr_0 (cx_519pr_1 [])), [uL1187, uL2114], [], [uV2, uV11, uV12], (cx_519pf_0 (cx_519pf_1 [])), [uG2115, uG2117, uG2118, uG2119, uG2120])
/-- M.house -/
def cx_519 : zCtx := (221, cx_519p, [([ui0, ui49, ui49, (0, 1), ui49, (0, 1), ui31, (0, 6), (0, 6), ui49, ui49], [ur1414, ur1461, ur1462, ur1472, ur1473, ur1474, ur1475, ur1476, ur1470, ur1471, ur1463, ur1575, ur1576, ur1963], [uL2114], [], [uV61], [], [uG2120])], [], 26, 2, 43)
set_option maxRecDepth 1000000 in
theorem ck_519 : x_ok mLT1 [cx_518] mTS2 mTC2 mRUp cx_519 [(2, [0])] [] [] (6, []) 20 9 = true := by decide +kernel
theorem sn_519 {W : Bool} {X : List Int32} : y_Snd (mGw W) mLT1 (J2 W X) X cx_519 := y_ok J2_J mTS2_ok1 mTC2_ok1 mRUp_ok1 (List.forall_mem_cons.mpr ⟨sn_518, fun _ h => absurd h List.not_mem_nil⟩) ck_519
def cx_520p : zS := ((cx_519pi_0 (cx_519pi_1 [])), (cx_519pr_0 (cx_519pr_1 [])), [uL1187, uL569], [], [uV2, uV11, uV12], (cx_519pf_0 (cx_519pf_1 [])), [uG2115, uG2117, uG2118, uG2119, uG2120])
/-- M.house -/
def cx_520 : zCtx := (221, cx_520p, [([ui0, ui49, ui49, (0, 1), ui49, (0, 1), ui31, (0, 6), (0, 6), ui49, ui49], [ur1414, ur1461, ur1462, ur1472, ur1473, ur1474, ur1475, ur1476, ur1470, ur1471, ur1463, ur1575, ur1576, ur1963], [uL569], [], [uV61], [], [uG2120])], [], 26, 2, 43)
set_option maxRecDepth 1000000 in
theorem ck_520 : x_ok mLT1 [cx_518] mTS2 mTC2 mRUp cx_520 [(2, [0])] [] [] (6, []) 20 9 = true := by decide +kernel
theorem sn_520 {W : Bool} {X : List Int32} : y_Snd (mGw W) mLT1 (J2 W X) X cx_520 := y_ok J2_J mTS2_ok1 mTC2_ok1 mRUp_ok1 (List.forall_mem_cons.mpr ⟨sn_518, fun _ h => absurd h List.not_mem_nil⟩) ck_520
/-- M.copies -/
def cx_521 : zCtx := (224, ([ui0, (0, 1), ui49, (0, 1), ui196], [ur1414, ur1963, ur1983, ur1469], [], [], [uV2], [uF1964, uF1965, uF1966, uF1967, uF2121, uF2122, uF1969], []), [([ui0, (0, 1), ui49, (0, 1), ui196, (0, 6)], [ur1414, ur1963, ur1983, ur1469], [], [], [], [uF1970, uF2103, uF2123], [uG1977, uG1973, uG1977])], [uk1974, uk1975, uk1976], 445, 0, 0)
def cq_521 : List zCtx := []
def cs_521 : List (Nat × List Nat) := []
def hs_521 : List (Nat × List Nat) := [(0, [81]), (26, [82, 1000698])]
def ns_521 : List zN := []
set_option maxRecDepth 1000000 in
theorem ca_521 : x_okA mLT1 cq_521 mTS2 mTC2 mRUp cx_521 cs_521 hs_521 ns_521 (445, []) 0 448 = true := by decide +kernel
set_option maxRecDepth 1000000 in
theorem cc_521 : x_okC mLT1 cq_521 mTS2 mTC2 mRUp cx_521 cs_521 hs_521 ns_521 (445, []) 0 448 = true := by decide +kernel
theorem ck_521 : x_ok mLT1 cq_521 mTS2 mTC2 mRUp cx_521 cs_521 hs_521 ns_521 (445, []) 0 448 = true := x_ok_of ca_521 (fun _ h => absurd h List.not_mem_nil) cc_521
theorem sn_521 {W : Bool} {X : List Int32} : y_Snd (mGw W) mLT1 (J2 W X) X cx_521 := y_ok J2_J mTS2_ok1 mTC2_ok1 mRUp_ok1 (fun _ h => absurd h List.not_mem_nil) ck_521
def cx_522pi_0 (t : List (Int × Int)) : List (Int × Int) := ui0 :: (0, 5) :: ui571 :: (0, 1) :: ui49 :: (0, 1) :: ui31 :: (0, 6) :: t
def cx_522pi_1 (t : List (Int × Int)) : List (Int × Int) := (0, 6) :: ui49 :: ui49 :: t
def cx_522p : zS := ((cx_522pi_0 (cx_522pi_1 [])), (cx_519pr_0 (cx_519pr_1 [])), [uL1187], [], [uV2, uV11, uV12], (cx_519pf_0 (cx_519pf_1 [])), [uG2115, uG2117, uG2118, uG2119, uG2120])
/-- M.house -/
def cx_522 : zCtx := (221, cx_522p, [([ui0, (0, 5), ui571, (0, 1), ui49, (0, 1), ui31, (0, 6), (0, 6), ui49, ui49], [ur1414, ur1461, ur1462, ur1472, ur1473, ur1474, ur1475, ur1476, ur1470, ur1471, ur1463, ur1575, ur1576, ur1963], [uL9, uL2124], [], [uV61], [], [uG1973, uG2120]), ([ui0, (0, 5), ui571, (0, 1), ui49, (0, 1), ui31, (0, 6), (0, 6), ui49, ui49], [ur1414, ur1461, ur1462, ur1472, ur1473, ur1474, ur1475, ur1476, ur1470, ur1471, ur1463, ur1575, ur1576, ur1963], [uL2114], [], [uV61], [], [uG2120])], [uk1974, uk1975, uk1976], 455, 2, 43)
set_option maxRecDepth 1000000 in
theorem ck_522 : x_ok mLT1 [cx_518, cx_521] mTS2 mTC2 mRUp cx_522 [(2, [0]), (11, [1])] [(14, [1000823])] [] (10, []) 445 13 = true := by decide +kernel
theorem sn_522 {W : Bool} {X : List Int32} : y_Snd (mGw W) mLT1 (J2 W X) X cx_522 := y_ok J2_J mTS2_ok1 mTC2_ok1 mRUp_ok1 (List.forall_mem_cons.mpr ⟨sn_518, List.forall_mem_cons.mpr ⟨sn_521, fun _ h => absurd h List.not_mem_nil⟩⟩) ck_522
def cx_523pi_0 (t : List (Int × Int)) : List (Int × Int) := ui0 :: (0, 5) :: ui262 :: (0, 1) :: ui49 :: (0, 1) :: ui31 :: (0, 6) :: t
def cx_523pi_1 (t : List (Int × Int)) : List (Int × Int) := (0, 6) :: ui49 :: ui49 :: t
def cx_523p : zS := ((cx_523pi_0 (cx_523pi_1 [])), (cx_519pr_0 (cx_519pr_1 [])), [uL1187], [], [uV2, uV11, uV12], (cx_519pf_0 (cx_519pf_1 [])), [uG2115, uG2117, uG2118, uG2119, uG2120])
/-- M.house -/
def cx_523 : zCtx := (221, cx_523p, [([ui0, (0, 5), ui262, (0, 1), ui49, (0, 1), ui31, (0, 6), (0, 6), ui49, ui49], [ur1414, ur1461, ur1462, ur1472, ur1473, ur1474, ur1475, ur1476, ur1470, ur1471, ur1463, ur1575, ur1576, ur1963], [uL9, uL2124], [], [uV61], [], [uG1973, uG2120]), ([ui0, (0, 5), ui262, (0, 1), ui49, (0, 1), ui31, (0, 6), (0, 6), ui49, ui49], [ur1414, ur1461, ur1462, ur1472, ur1473, ur1474, ur1475, ur1476, ur1470, ur1471, ur1463, ur1575, ur1576, ur1963], [uL2114], [], [uV61], [], [uG2120])], [uk1974, uk1975, uk1976], 455, 2, 43)
set_option maxRecDepth 1000000 in
theorem ck_523 : x_ok mLT1 [cx_518, cx_521] mTS2 mTC2 mRUp cx_523 [(2, [0]), (11, [1])] [(14, [1000823])] [] (10, []) 445 13 = true := by decide +kernel
theorem sn_523 {W : Bool} {X : List Int32} : y_Snd (mGw W) mLT1 (J2 W X) X cx_523 := y_ok J2_J mTS2_ok1 mTC2_ok1 mRUp_ok1 (List.forall_mem_cons.mpr ⟨sn_518, List.forall_mem_cons.mpr ⟨sn_521, fun _ h => absurd h List.not_mem_nil⟩⟩) ck_523
def cx_524pi_0 (t : List (Int × Int)) : List (Int × Int) := ui0 :: (0, 5) :: (0, 0) :: (0, 1) :: ui49 :: (0, 1) :: ui31 :: (0, 6) :: t
def cx_524pi_1 (t : List (Int × Int)) : List (Int × Int) := (0, 6) :: ui49 :: ui49 :: t
def cx_524p : zS := ((cx_524pi_0 (cx_524pi_1 [])), (cx_519pr_0 (cx_519pr_1 [])), [uL1187], [], [uV2, uV11, uV12], (cx_519pf_0 (cx_519pf_1 [])), [uG2115, uG2117, uG2118, uG2119, uG2120])
def cx_524q0i_0 (t : List (Int × Int)) : List (Int × Int) := ui0 :: (0, 5) :: (0, 0) :: (0, 1) :: ui49 :: (0, 1) :: ui31 :: (0, 6) :: t
def cx_524q0i_1 (t : List (Int × Int)) : List (Int × Int) := (0, 6) :: ui49 :: ui49 :: ui49 :: t
def cx_524q0 : zS := ((cx_524q0i_0 (cx_524q0i_1 [])), (cx_519pr_0 (cx_519pr_1 [])), [uL9, uL2124], [], [uV843], [], [uG1973, uG2120, (238, [uL34, uL63, uL63, uL63, uL63, uL63, uL63, uL63, uL9, uL63, uL195])])
/-- M.house -/
def cx_524 : zCtx := (221, cx_524p, [cx_524q0, ([ui0, (0, 5), (0, 0), (0, 1), ui49, (0, 1), ui31, (0, 6), (0, 6), ui49, ui49], [ur1414, ur1461, ur1462, ur1472, ur1473, ur1474, ur1475, ur1476, ur1470, ur1471, ur1463, ur1575, ur1576, ur1963], [uL2114], [], [uV61], [], [uG2120])], [uk1974, uk1975, uk1976], 458, 2, 43)
set_option maxRecDepth 1000000 in
theorem ck_524 : x_ok mLT1 [cx_518, cx_521] mTS2 mTC2 mRUp cx_524 [(2, [0]), (11, [1])] [(14, [1000823]), (70, [1000832])] [] (13, []) 445 16 = true := by decide +kernel
theorem sn_524 {W : Bool} {X : List Int32} : y_Snd (mGw W) mLT1 (J2 W X) X cx_524 := y_ok J2_J mTS2_ok1 mTC2_ok1 mRUp_ok1 (List.forall_mem_cons.mpr ⟨sn_518, List.forall_mem_cons.mpr ⟨sn_521, fun _ h => absurd h List.not_mem_nil⟩⟩) ck_524
/-- M.strongFirst -/
def cx_525 : zCtx := (225, ([ui0, (0, 5), (0, 1), (0, 6)], [ur1414, ur1575, ur1576], [uL9, uL515], [], [uV2, uV11], [uF2098, (0, (false, 23, 0, []), 2, 1, 0, []), (0, (false, 24, 0, []), 2, 2, 0, [])], [uG2125]), [([ui0, (0, 5), (0, 1), (0, 6), ui196], [ur1414, ur1575, ur1576], [uL9, uL515], [], [uV97], [], [(262, [uL9, uL98])])], [], 10, 0, 0)
set_option maxRecDepth 1000000 in
theorem ck_525 : x_ok mLT1 [] mTS2 mTC2 mRUp cx_525 [] [(14, [1000833])] [] (10, []) 0 13 = true := by decide +kernel
theorem sn_525 {W : Bool} {X : List Int32} : y_Snd (mGw W) mLT1 (J2 W X) X cx_525 := y_ok J2_J mTS2_ok1 mTC2_ok1 mRUp_ok1 (fun _ h => absurd h List.not_mem_nil) ck_525
def cx_526pi_0 (t : List (Int × Int)) : List (Int × Int) := ui0 :: (0, 5) :: (1, 1) :: (0, 1) :: ui49 :: (0, 1) :: ui31 :: (0, 6) :: t
def cx_526pi_1 (t : List (Int × Int)) : List (Int × Int) := (0, 6) :: ui49 :: ui49 :: t
def cx_526p : zS := ((cx_526pi_0 (cx_526pi_1 [])), (cx_519pr_0 (cx_519pr_1 [])), [uL1187], [], [uV2, uV11, uV12], (cx_519pf_0 (cx_519pf_1 [])), [uG2115, uG2117, uG2118, uG2119, uG2120])
/-- M.house -/
def cx_526 : zCtx := (221, cx_526p, [([ui0, (0, 5), (1, 1), (0, 1), ui49, (0, 1), ui31, (0, 6), (0, 6), ui49, ui49, ui49], [ur1414, ur1461, ur1462, ur1472, ur1473, ur1474, ur1475, ur1476, ur1470, ur1471, ur1463, ur1575, ur1576, ur1963], [uL9, uL2124], [], [uV843], [], [uG1973, uG2120, (262, [uL9, uL195])]), ([ui0, (0, 5), (1, 1), (0, 1), ui49, (0, 1), ui31, (0, 6), (0, 6), ui49, ui49], [ur1414, ur1461, ur1462, ur1472, ur1473, ur1474, ur1475, ur1476, ur1470, ur1471, ur1463, ur1575, ur1576, ur1963], [uL2114], [], [uV61], [], [uG2120])], [uk1974, uk1975, uk1976], 457, 2, 43)
set_option maxRecDepth 1000000 in
theorem ck_526 : x_ok mLT1 [cx_518, cx_521, cx_525] mTS2 mTC2 mRUp cx_526 [(2, [0]), (11, [1]), (73, [2])] [(14, [1000823])] [] (12, []) 445 15 = true := by decide +kernel
theorem sn_526 {W : Bool} {X : List Int32} : y_Snd (mGw W) mLT1 (J2 W X) X cx_526 := y_ok J2_J mTS2_ok1 mTC2_ok1 mRUp_ok1 (List.forall_mem_cons.mpr ⟨sn_518, List.forall_mem_cons.mpr ⟨sn_521, List.forall_mem_cons.mpr ⟨sn_525, fun _ h => absurd h List.not_mem_nil⟩⟩⟩) ck_526
/-- M.hasPlait -/
def cx_527 : zCtx := (226, ([ui0, (0, 5), ui196], [ur1414, ur1963], [], [], [uV2, uV11], [uF1967, (1, (true, 0, 6, [(1, 1)]), 0, 0, 0, [(2, 1)])], []), [([ui0, (0, 5), ui2126], [ur1414, ur1963], [], [], [uV64], [], []), ([ui0, (0, 5), (0, 0)], [ur1414, ur1963], [], [], [uV62], [], [])], [], 10, 0, 0)
set_option maxRecDepth 1000000 in
theorem ck_527 : x_ok mLT1 [] mTS2 mTC2 mRUp cx_527 [] [] [] (10, []) 0 13 = true := by decide +kernel
theorem sn_527 {W : Bool} {X : List Int32} : y_Snd (mGw W) mLT1 (J2 W X) X cx_527 := y_ok J2_J mTS2_ok1 mTC2_ok1 mRUp_ok1 (fun _ h => absurd h List.not_mem_nil) ck_527
def cx_528pi_0 (t : List (Int × Int)) : List (Int × Int) := ui0 :: (0, 5) :: (0, 1) :: (0, 6) :: ui49 :: ui49 :: ui49 :: ui49 :: t
def cx_528pi_1 (t : List (Int × Int)) : List (Int × Int) := ui49 :: ui49 :: ui49 :: (0, 6) :: t
def cx_528p : zS := ((cx_528pi_0 (cx_528pi_1 [])), [ur1414, ur1463, ur1963], [uL512, uL9, uL515], [], [uV2, uV11], [uF2098, uF1578, uF2127, uF2128], [uG2100, uG2129])
/-- M.placeOf -/
def cx_528 : zCtx := (227, cx_528p, [([ui0, (0, 5), (0, 1), (0, 6), ui49, ui49, ui49, ui49, ui49, ui49, ui49, (0, 6), (0, 5)], [ur1414, ur1463, ur1963], [uL512, uL9, uL515], [], [uV198], [], [(238, [uL252, uL98, uL104, uL78, uL79, uL131, uL164, uL170, uL9, uL63, uL214])]), ([ui0, (0, 5), (0, 1), (0, 6), ui49, ui49, ui49, ui49, ui49, ui49, ui49, (0, 6)], [ur1414, ur1463, ur1963], [uL512, uL9, uL515], [], [uV61], [], [(238, [uL252, uL98, uL104, uL78, uL79, uL131, uL164, uL170, uL9, uL63, uL99])])], [], 113, 0, 0)
def cz_528_0i_0 (t : List (Int × Int)) : List (Int × Int) := ui0 :: (0, 5) :: (0, 1) :: (0, 6) :: ui49 :: ui49 :: ui49 :: ui49 :: t
def cz_528_0i_1 (t : List (Int × Int)) : List (Int × Int) := ui49 :: ui49 :: ui49 :: (0, 6) :: (0, 6) :: t
def cz_528_0g_0 (t : List zTg) : List zTg := (238, [uL287, uL98, uL104, uL78, uL79, uL131, uL164, uL170, uL9, uL63, uL65]) :: uG2100 :: uG2129 :: (238, [uL287, uL98, uL104, uL78, uL79, uL131, uL164, uL170, uL9, uL214, uL65]) :: t
def cz_528_0 : zS := ((cz_528_0i_0 (cz_528_0i_1 [])), [ur1414, ur1463, ur1963], [uL512, uL9, uL515], [uV2, uV11, uV198], [], [uF2098, uF1578, uF2127], (cz_528_0g_0 []))
set_option maxRecDepth 1000000 in
theorem ck_528 : x_ok mLT1 [] mTS2 mTC2 mRUp cx_528 [] [(1, [1000826]), (23, [1000012]), (26, [1000829]), (28, [1000827, 1000828]), (34, [1000830])] [(2, cz_528_0, (110, [(12, (-17))]))] (113, []) 0 19 = true := by decide +kernel
theorem sn_528 {W : Bool} {X : List Int32} : y_Snd (mGw W) mLT1 (J2 W X) X cx_528 := y_ok J2_J mTS2_ok1 mTC2_ok1 mRUp_ok1 (fun _ h => absurd h List.not_mem_nil) ck_528
def cx_529pi_0 (t : List (Int × Int)) : List (Int × Int) := ui0 :: (0, 5) :: (2, 2) :: (0, 1) :: ui49 :: (0, 1) :: ui31 :: (0, 6) :: t
def cx_529pi_1 (t : List (Int × Int)) : List (Int × Int) := (0, 6) :: ui49 :: ui49 :: t
def cx_529p : zS := ((cx_529pi_0 (cx_529pi_1 [])), (cx_519pr_0 (cx_519pr_1 [])), [uL1187], [], [uV2, uV11, uV12], (cx_519pf_0 (cx_519pf_1 [])), [uG2115, uG2117, uG2118, uG2119, uG2120])
def cx_529q1i_0 (t : List (Int × Int)) : List (Int × Int) := ui0 :: (0, 5) :: (2, 2) :: (0, 1) :: ui49 :: (0, 1) :: ui31 :: (0, 6) :: t
def cx_529q1i_1 (t : List (Int × Int)) : List (Int × Int) := (0, 6) :: ui49 :: ui49 :: (0, 5) :: t
def cx_529q1 : zS := ((cx_529q1i_0 (cx_529q1i_1 [])), (cx_519pr_0 (cx_519pr_1 [])), [uL9, uL2124], [], [uV843], [], [uG1973, uG2120, (238, [uL252, uL63, uL63, uL63, uL63, uL63, uL63, uL63, uL9, uL63, uL195])])
/-- M.house -/
def cx_529 : zCtx := (221, cx_529p, [([ui0, (0, 5), (2, 2), (0, 1), ui49, (0, 1), ui31, (0, 6), (0, 6), ui49, ui49], [ur1414, ur1461, ur1462, ur1472, ur1473, ur1474, ur1475, ur1476, ur1470, ur1471, ur1463, ur1575, ur1576, ur1963], [uL9, uL2124], [], [uV568], [], [uG1973, uG2120, uG766]), cx_529q1, ([ui0, (0, 5), (2, 2), (0, 1), ui49, (0, 1), ui31, (0, 6), (0, 6), ui49, ui49], [ur1414, ur1461, ur1462, ur1472, ur1473, ur1474, ur1475, ur1476, ur1470, ur1471, ur1463, ur1575, ur1576, ur1963], [uL2114], [], [uV61], [], [uG2120])], [uk1974, uk1975, uk1976], 462, 2, 43)
set_option maxRecDepth 1000000 in
theorem ck_529 : x_ok mLT1 [cx_518, cx_521, cx_527, cx_528] mTS2 mTC2 mRUp cx_529 [(2, [0]), (11, [1]), (79, [2]), (87, [3])] [(14, [1000823]), (85, [1000824]), (90, [1000831]), (93, [1000824, 1000825])] [] (17, []) 445 20 = true := by decide +kernel
theorem sn_529 {W : Bool} {X : List Int32} : y_Snd (mGw W) mLT1 (J2 W X) X cx_529 := y_ok J2_J mTS2_ok1 mTC2_ok1 mRUp_ok1 (List.forall_mem_cons.mpr ⟨sn_518, List.forall_mem_cons.mpr ⟨sn_521, List.forall_mem_cons.mpr ⟨sn_527, List.forall_mem_cons.mpr ⟨sn_528, fun _ h => absurd h List.not_mem_nil⟩⟩⟩⟩) ck_529
def cx_530pi_0 (t : List (Int × Int)) : List (Int × Int) := ui0 :: (0, 5) :: (3, 3) :: (0, 1) :: ui49 :: (0, 1) :: ui31 :: (0, 6) :: t
def cx_530pi_1 (t : List (Int × Int)) : List (Int × Int) := (0, 6) :: ui49 :: ui49 :: t
def cx_530p : zS := ((cx_530pi_0 (cx_530pi_1 [])), (cx_519pr_0 (cx_519pr_1 [])), [uL1187], [], [uV2, uV11, uV12], (cx_519pf_0 (cx_519pf_1 [])), [uG2115, uG2117, uG2118, uG2119, uG2120])
def cx_530q0i_0 (t : List (Int × Int)) : List (Int × Int) := ui0 :: (0, 5) :: (3, 3) :: (0, 1) :: ui49 :: (0, 1) :: ui31 :: (0, 6) :: t
def cx_530q0i_1 (t : List (Int × Int)) : List (Int × Int) := (0, 6) :: ui49 :: ui49 :: ui49 :: t
def cx_530q0 : zS := ((cx_530q0i_0 (cx_530q0i_1 [])), (cx_519pr_0 (cx_519pr_1 [])), [uL9, uL2124], [], [uV843], [], [uG1973, uG2120, (238, [uL34, uL63, uL63, uL63, uL63, uL63, uL63, uL63, uL566, uL63, uL195])])
/-- M.house -/
def cx_530 : zCtx := (221, cx_530p, [cx_530q0, ([ui0, (0, 5), (3, 3), (0, 1), ui49, (0, 1), ui31, (0, 6), (0, 6), ui49, ui49], [ur1414, ur1461, ur1462, ur1472, ur1473, ur1474, ur1475, ur1476, ur1470, ur1471, ur1463, ur1575, ur1576, ur1963], [uL2114], [], [uV61], [], [uG2120])], [uk1974, uk1975, uk1976], 460, 2, 43)
set_option maxRecDepth 1000000 in
theorem ck_530 : x_ok mLT1 [cx_518, cx_521] mTS2 mTC2 mRUp cx_530 [(2, [0]), (11, [1])] [(14, [1000823]), (105, [1000824])] [] (15, []) 445 18 = true := by decide +kernel
theorem sn_530 {W : Bool} {X : List Int32} : y_Snd (mGw W) mLT1 (J2 W X) X cx_530 := y_ok J2_J mTS2_ok1 mTC2_ok1 mRUp_ok1 (List.forall_mem_cons.mpr ⟨sn_518, List.forall_mem_cons.mpr ⟨sn_521, fun _ h => absurd h List.not_mem_nil⟩⟩) ck_530
def cx_531pi_0 (t : List (Int × Int)) : List (Int × Int) := ui0 :: (0, 5) :: (4, 4) :: (0, 1) :: ui49 :: (0, 1) :: ui31 :: (0, 6) :: t
def cx_531pi_1 (t : List (Int × Int)) : List (Int × Int) := (0, 6) :: ui49 :: ui49 :: t
def cx_531p : zS := ((cx_531pi_0 (cx_531pi_1 [])), (cx_519pr_0 (cx_519pr_1 [])), [uL1187], [], [uV2, uV11, uV12], (cx_519pf_0 (cx_519pf_1 [])), [uG2115, uG2117, uG2118, uG2119, uG2120])
def cx_531q0i_0 (t : List (Int × Int)) : List (Int × Int) := ui0 :: (0, 5) :: (4, 4) :: (0, 1) :: ui49 :: (0, 1) :: ui31 :: (0, 6) :: t
def cx_531q0i_1 (t : List (Int × Int)) : List (Int × Int) := (0, 6) :: ui49 :: ui49 :: ui49 :: t
def cx_531q0 : zS := ((cx_531q0i_0 (cx_531q0i_1 [])), (cx_519pr_0 (cx_519pr_1 [])), [uL9, uL2124], [], [uV843], [], [uG1973, uG2120, (238, [uL34, uL63, uL63, uL63, uL63, uL63, uL63, uL63, uL565, uL63, uL195])])
/-- M.house -/
def cx_531 : zCtx := (221, cx_531p, [cx_531q0, ([ui0, (0, 5), (4, 4), (0, 1), ui49, (0, 1), ui31, (0, 6), (0, 6), ui49, ui49], [ur1414, ur1461, ur1462, ur1472, ur1473, ur1474, ur1475, ur1476, ur1470, ur1471, ur1463, ur1575, ur1576, ur1963], [uL2114], [], [uV61], [], [uG2120])], [uk1974, uk1975, uk1976], 460, 2, 43)
set_option maxRecDepth 1000000 in
theorem ck_531 : x_ok mLT1 [cx_518, cx_521] mTS2 mTC2 mRUp cx_531 [(2, [0]), (11, [1])] [(14, [1000823]), (115, [1000834])] [] (15, []) 445 18 = true := by decide +kernel
theorem sn_531 {W : Bool} {X : List Int32} : y_Snd (mGw W) mLT1 (J2 W X) X cx_531 := y_ok J2_J mTS2_ok1 mTC2_ok1 mRUp_ok1 (List.forall_mem_cons.mpr ⟨sn_518, List.forall_mem_cons.mpr ⟨sn_521, fun _ h => absurd h List.not_mem_nil⟩⟩) ck_531
def cx_532pi_0 (t : List (Int × Int)) : List (Int × Int) := ui0 :: (0, 5) :: (0, 1) :: (0, 6) :: ui49 :: ui49 :: ui49 :: ui49 :: t
def cx_532pi_1 (t : List (Int × Int)) : List (Int × Int) := ui49 :: ui49 :: ui49 :: t
def cx_532p : zS := ((cx_532pi_0 (cx_532pi_1 [])), [ur1414, ur1463, ur1575, ur1576, ur1963], [uL512, uL9, uL515], [], [uV2, uV11], [uF2098, uF1578, uF1968, uF2130, uF2131], [uG2100, uG2125, uG2129])
/-- M.strongOf -/
def cx_532 : zCtx := (230, cx_532p, [([ui0, (0, 5), (0, 1), (1, 6), ui49, ui49, ui49, ui49, ui49, ui49, ui49, ui196], [ur1414, ur1463, ur1575, ur1576, ur1963], [uL515, uL512, uL9], [], [uV843], [], [(238, [uL260, uL98, uL104, uL78, uL79, uL131, uL164, uL170, uL9, uL63, uL195])])], [], 22, 1, 21)
set_option maxRecDepth 1000000 in
theorem ck_532 : x_ok mLT1 [cx_527, cx_525] mTS2 mTC2 mRUp cx_532 [(2, [0]), (22, [1])] [(17, [1000837, 1000839, 1000840]), (25, [1000837, 1000838])] [] (12, []) 10 15 = true := by decide +kernel
theorem sn_532 {W : Bool} {X : List Int32} : y_Snd (mGw W) mLT1 (J2 W X) X cx_532 := y_ok J2_J mTS2_ok1 mTC2_ok1 mRUp_ok1 (List.forall_mem_cons.mpr ⟨sn_527, List.forall_mem_cons.mpr ⟨sn_525, fun _ h => absurd h List.not_mem_nil⟩⟩) ck_532
def cx_533p : zS := ((cx_532pi_0 (cx_532pi_1 [])), [ur1414, ur1463, ur1575, ur1576, ur1963, ur2132], [uL512, uL9, uL515], [], [uV2, uV11], [uF2098, uF1578, uF1968, uF2130, uF2131, (0, (false, 44, 0, []), 2, 5, 0, [])], [uG2100, uG2125, uG2129])
def cx_533q0i_0 (t : List (Int × Int)) : List (Int × Int) := ui0 :: (0, 5) :: (0, 1) :: (1, 6) :: ui49 :: ui49 :: ui49 :: ui49 :: t
def cx_533q0i_1 (t : List (Int × Int)) : List (Int × Int) := ui49 :: ui49 :: ui49 :: ui49 :: (0, 6) :: (0, 5) :: ui49 :: ui196 :: t
def cx_533q0i_2 (t : List (Int × Int)) : List (Int × Int) := ui196 :: t
def cx_533q0f_0 (t : List zFa) : List zFa := (5, (true, 0, 8, []), 0, 0, 0, []) :: (5, (true, 0, 7, []), 0, 0, 0, [(11, 1)]) :: (5, (true, 0, 6, []), 0, 0, 0, [(12, 1)]) :: (5, (true, 0, 5, []), 0, 0, 0, [(1, 1)]) :: (5, (true, 0, 4, []), 0, 0, 0, [(13, 1)]) :: (5, (true, 0, 3, []), 0, 0, 0, [(14, 1)]) :: (5, (true, 0, 2, []), 0, 0, 0, []) :: (5, (true, 0, 1, []), 0, 0, 0, [(15, 1)]) :: t
def cx_533q0f_1 (t : List zFa) : List zFa := (5, (true, 0, 0, []), 0, 0, 0, [(16, 1)]) :: t
def cx_533q0g_0 (t : List zTg) : List zTg := (238, [uL34, uL98, uL104, uL78, uL79, uL131, uL164, uL170, uL9, uL63, uL212]) :: (238, [uL260, uL98, uL104, uL78, uL79, uL131, uL164, uL170, uL9, uL63, uL209]) :: (238, [uL34, uL98, uL104, uL78, uL79, uL131, uL164, uL170, uL526, uL63, uL208]) :: (238, [uL527, uL98, uL104, uL78, uL79, uL131, uL164, uL170, uL9, uL63, uL207]) :: (238, [uL34, uL98, uL104, uL78, uL79, uL131, uL164, uL170, uL528, uL63, uL214]) :: (238, [uL34, uL98, uL104, uL78, uL79, uL131, uL164, uL170, uL529, uL63, uL195]) :: t
def cx_533q0 : zS := ((cx_533q0i_0 (cx_533q0i_1 (cx_533q0i_2 []))), [ur1414, ur1463, ur1575, ur1576, ur1963, ur2132], [uL515, uL512, uL9], [], [], (cx_533q0f_0 (cx_533q0f_1 [])), (cx_533q0g_0 []))
/-- M.views -/
def cx_533 : zCtx := (229, cx_533p, [cx_533q0], [uk2133], 182, 2, 42)
set_option maxRecDepth 1000000 in
theorem ck_533 : x_ok mLT1 [cx_532, cx_527, cx_528] mTS2 mTC2 mRUp cx_533 [(19, [0]), (50, [1]), (58, [2])] [(11, [1000836]), (42, [1000841]), (56, [1000837]), (61, [1000837, 1000831, 1000845]), (64, [1000837, 1000842]), (86, [1000843]), (102, [1000844])] [] (69, []) 113 72 = true := by decide +kernel
theorem sn_533 {W : Bool} {X : List Int32} : y_Snd (mGw W) mLT1 (J2 W X) X cx_533 := y_ok J2_J mTS2_ok1 mTC2_ok1 mRUp_ok1 (List.forall_mem_cons.mpr ⟨sn_532, List.forall_mem_cons.mpr ⟨sn_527, List.forall_mem_cons.mpr ⟨sn_528, fun _ h => absurd h List.not_mem_nil⟩⟩⟩) ck_533
end
