noncomputable section
/-! ===== readings, by program, checked by the kernel ===== -/
/-- M.begins -/
def cx_512 : zCtx := (190, ([ui0, (0, 1), ui49, (0, 1), (0, 6)], [ur1414, ur1963, ur1575, ur1463], [], [], [uV2], [uF1964, uF1965, uF1966, uF1967, uF1968, uF1479, uF1969], []), [([ui0, (0, 1), ui49, (0, 1), (0, 6), ui196], [ur1414, ur1963, ur1575, ur1463], [], [], [], [uF1970, uF1971, uF1969], [uG1972, uG1973, (273, [uL9, uL98])])], [uk1974, uk1975, uk1976], 494, 0, 0)
def cq_512 : List zCtx := []
def cs_512 : List (Nat × List Nat) := []
def hs_512 : List (Nat × List Nat) := [(0, [81]), (21, [83, 1000744]), (36, [1000745]), (56, [1000746])]
def nd_512_0 : zN := (23, ([ui0, (0, 1), ui49, (0, 1), (0, 6), (0, 6)], [ur1414, ur1963, ur1575, ur1463], [uL1548], [uV2, uV75], [], [uF1964, uF1965, uF1966, uF1967, uF1968, uF1479, uF1969], [uG1972, uG1973, (273, [uL9, uL104])]), (156, [(5, (-23))]))
def ns_512 : List zN := [nd_512_0]
set_option maxRecDepth 1000000 in
theorem ca_512 : x_okA mLT1 cq_512 mTS2 mTC2 mRUp cx_512 cs_512 hs_512 ns_512 (494, []) 0 340 = true := by decide +kernel
set_option maxRecDepth 1000000 in
theorem cb_512_0 : x_okB mLT1 cq_512 mTS2 mTC2 mRUp cx_512 cs_512 hs_512 ns_512 (494, []) 0 340 nd_512_0 = true := by decide +kernel
set_option maxRecDepth 1000000 in
theorem cc_512 : x_okC mLT1 cq_512 mTS2 mTC2 mRUp cx_512 cs_512 hs_512 ns_512 (494, []) 0 340 = true := by decide +kernel
theorem ck_512 : x_ok mLT1 cq_512 mTS2 mTC2 mRUp cx_512 cs_512 hs_512 ns_512 (494, []) 0 340 = true := x_ok_of ca_512 (List.forall_mem_cons.mpr ⟨cb_512_0, fun _ h => absurd h List.not_mem_nil⟩) cc_512
theorem sn_512 {W : Bool} {X : List Int32} : y_Snd (mGw W) mLT1 (J2 W X) X cx_512 := y_ok J2_J mTS2_ok1 mTC2_ok1 mRUp_ok1 (fun _ h => absurd h List.not_mem_nil) ck_512
/-- M.keepsRow -/
def cx_513 : zCtx := (191, ([ui0], [ur1414], [], [], [uV2], [], [uG1972]), [([ui0], [ur1414], [], [], [], [], [uG1977, uG1978, uG1979, uG1977])], [uk1980], 435, 0, 0)
def cq_513 : List zCtx := []
def cs_513 : List (Nat × List Nat) := []
def hs_513 : List (Nat × List Nat) := [(0, [17]), (26, [274, 1000698])]
def ns_513 : List zN := []
set_option maxRecDepth 1000000 in
theorem ca_513 : x_okA mLT1 cq_513 mTS2 mTC2 mRUp cx_513 cs_513 hs_513 ns_513 (435, []) 0 438 = true := by decide +kernel
set_option maxRecDepth 1000000 in
theorem cc_513 : x_okC mLT1 cq_513 mTS2 mTC2 mRUp cx_513 cs_513 hs_513 ns_513 (435, []) 0 438 = true := by decide +kernel
theorem ck_513 : x_ok mLT1 cq_513 mTS2 mTC2 mRUp cx_513 cs_513 hs_513 ns_513 (435, []) 0 438 = true := x_ok_of ca_513 (fun _ h => absurd h List.not_mem_nil) cc_513
theorem sn_513 {W : Bool} {X : List Int32} : y_Snd (mGw W) mLT1 (J2 W X) X cx_513 := y_ok J2_J mTS2_ok1 mTC2_ok1 mRUp_ok1 (fun _ h => absurd h List.not_mem_nil) ck_513
def cx_514pi_0 (t : List (Int × Int)) : List (Int × Int) := ui0 :: ui52 :: ui52 :: ui141 :: ui68 :: (0, 7) :: (0, 2) :: ui52 :: t
def cx_514pi_1 (t : List (Int × Int)) : List (Int × Int) := (0, 5) :: ui52 :: ui1981 :: (0, 1) :: (0, 1) :: (0, 6) :: ui1676 :: ui1674 :: t
def cx_514pi_2 (t : List (Int × Int)) : List (Int × Int) := ui1675 :: ui49 :: (0, 1) :: ui440 :: ui48 :: (0, 1) :: (0, 6) :: ui196 :: t
def cx_514pi_3 (t : List (Int × Int)) : List (Int × Int) := ui196 :: ui196 :: ui196 :: (0, 1) :: (0, 6) :: (0, 1) :: ui31 :: (0, 1) :: t
def cx_514pi_4 (t : List (Int × Int)) : List (Int × Int) := (0, 1) :: (0, 1) :: t
def cx_514pr_0 (t : List (Nat × Bool)) : List (Nat × Bool) := ur1414 :: ur1461 :: ur1462 :: ur1463 :: ur1415 :: ur1425 :: ur1444 :: ur1464 :: t
def cx_514pr_1 (t : List (Nat × Bool)) : List (Nat × Bool) := ur1428 :: ur1429 :: ur1430 :: ur1431 :: ur1574 :: ur1465 :: ur1466 :: ur1467 :: t
def cx_514pr_2 (t : List (Nat × Bool)) : List (Nat × Bool) := ur1468 :: ur1469 :: ur1575 :: ur1576 :: ur1470 :: ur1471 :: ur1472 :: ur1473 :: t
def cx_514pr_3 (t : List (Nat × Bool)) : List (Nat × Bool) := ur1474 :: ur1475 :: ur1476 :: ur1982 :: ur1983 :: ur1963 :: t
def cx_514pf_0 (t : List zFa) : List zFa := uF183 :: uF179 :: uF1179 :: uF1180 :: uF1181 :: uF1984 :: uF1209 :: uF1985 :: t
def cx_514pf_1 (t : List zFa) : List zFa := uF1986 :: uF1987 :: uF1988 :: uF1989 :: uF1990 :: uF1991 :: uF1992 :: uF1819 :: t
def cx_514pf_2 (t : List zFa) : List zFa := uF1993 :: uF1994 :: uF1995 :: uF1996 :: uF1477 :: uF1478 :: uF1479 :: uF432 :: t
def cx_514pf_3 (t : List zFa) : List zFa := uF538 :: uF1127 :: uF1895 :: uF1904 :: uF1905 :: uF1906 :: uF459 :: uF1997 :: t
def cx_514pf_4 (t : List zFa) : List zFa := uF1998 :: uF1999 :: uF2000 :: uF2001 :: uF2002 :: uF2003 :: uF2004 :: uF2005 :: t
def cx_514pf_5 (t : List zFa) : List zFa := uF2006 :: uF2007 :: uF2008 :: uF2009 :: uF2010 :: uF2011 :: uF2012 :: uF2013 :: t
def cx_514pf_6 (t : List zFa) : List zFa := uF2014 :: uF2015 :: uF2016 :: uF2017 :: t
def cx_514pg_0 (t : List zTg) : List zTg := uG2018 :: uG1978 :: uG2019 :: uG1448 :: uG2021 :: uG2022 :: uG2023 :: uG2024 :: t
def cx_514pg_1 (t : List zTg) : List zTg := uG2025 :: uG2026 :: uG2027 :: uG2028 :: t
def cx_514p : zS := ((cx_514pi_0 (cx_514pi_1 (cx_514pi_2 (cx_514pi_3 (cx_514pi_4 []))))), (cx_514pr_0 (cx_514pr_1 (cx_514pr_2 (cx_514pr_3 [])))), [], [], [uV2], (cx_514pf_0 (cx_514pf_1 (cx_514pf_2 (cx_514pf_3 (cx_514pf_4 (cx_514pf_5 (cx_514pf_6 []))))))), (cx_514pg_0 (cx_514pg_1 [])))
def cx_514q0i_0 (t : List (Int × Int)) : List (Int × Int) := ui0 :: ui52 :: ui52 :: ui141 :: ui68 :: (0, 7) :: (0, 2) :: ui52 :: t
def cx_514q0i_1 (t : List (Int × Int)) : List (Int × Int) := (0, 5) :: ui52 :: ui1981 :: (0, 1) :: (0, 1) :: (0, 6) :: ui1676 :: ui1674 :: t
def cx_514q0i_2 (t : List (Int × Int)) : List (Int × Int) := ui1675 :: ui49 :: (0, 1) :: ui440 :: ui48 :: (0, 1) :: (0, 6) :: ui196 :: t
def cx_514q0i_3 (t : List (Int × Int)) : List (Int × Int) := ui196 :: ui196 :: ui196 :: (0, 1) :: (0, 6) :: (0, 1) :: ui31 :: (0, 1) :: t
def cx_514q0i_4 (t : List (Int × Int)) : List (Int × Int) := (0, 1) :: (0, 1) :: (1, 2) :: ui52 :: ui68 :: ui48 :: (0, 7) :: (0, 5) :: t
def cx_514q0i_5 (t : List (Int × Int)) : List (Int × Int) := ui52 :: (0, 6) :: ui1921 :: ui1674 :: ui1675 :: t
def cx_514q0f_0 (t : List zFa) : List zFa := uF2029 :: (0, (false, 14, 0, []), 0, 0, 0, [(35, 1)]) :: (0, (false, 13, 0, []), 0, 0, 0, [(34, 1)]) :: uF1946 :: uF2030 :: uF2030 :: (0, (false, 12, 0, []), 0, 0, 0, [(38, 1)]) :: (0, (false, 15, 0, []), 0, 0, 0, [(39, 1)]) :: t
def cx_514q0f_1 (t : List zFa) : List zFa := (0, (false, 16, 0, []), 0, 0, 0, [(40, 1)]) :: (0, (false, 20, 0, []), 0, 0, 0, [(41, 1)]) :: (0, (false, 33, 0, []), 0, 0, 0, [(42, 1)]) :: (0, (false, 39, 0, []), 0, 0, 0, [(43, 1)]) :: (0, (false, 43, 0, []), 0, 0, 0, [(44, 1)]) :: uF2030 :: (3, (true, 0, 1, [(11, (-1))]), 0, 0, 0, [(41, 1)]) :: uF2031 :: t
def cx_514q0f_2 (t : List zFa) : List zFa := uF166 :: uF32 :: uF1988 :: uF1993 :: uF1994 :: uF1995 :: uF1996 :: uF2013 :: t
def cx_514q0f_3 (t : List zFa) : List zFa := uF2014 :: uF2015 :: t
def cx_514q0g_0 (t : List zTg) : List zTg := uG2018 :: uG2021 :: uG2022 :: uG2023 :: uG2024 :: uG2025 :: uG2026 :: uG2027 :: t
def cx_514q0g_1 (t : List zTg) : List zTg := uG2028 :: uG2032 :: uG2033 :: uG2034 :: uG2035 :: uG2036 :: uG2037 :: uG1449 :: t
def cx_514q0g_2 (t : List zTg) : List zTg := uG1447 :: uG1978 :: uG2038 :: uG1448 :: uG2021 :: uG2022 :: uG2023 :: uG2024 :: t
def cx_514q0g_3 (t : List zTg) : List zTg := uG2025 :: uG2026 :: uG2027 :: t
def cx_514q0 : zS := ((cx_514q0i_0 (cx_514q0i_1 (cx_514q0i_2 (cx_514q0i_3 (cx_514q0i_4 (cx_514q0i_5 [])))))), (cx_514pr_0 (cx_514pr_1 (cx_514pr_2 (cx_514pr_3 [])))), [], [], [uV2039], (cx_514q0f_0 (cx_514q0f_1 (cx_514q0f_2 (cx_514q0f_3 [])))), (cx_514q0g_0 (cx_514q0g_1 (cx_514q0g_2 (cx_514q0g_3 [])))))
def cx_514q1i_0 (t : List (Int × Int)) : List (Int × Int) := ui0 :: ui52 :: ui52 :: ui141 :: ui68 :: (0, 7) :: (0, 2) :: ui52 :: t
def cx_514q1i_1 (t : List (Int × Int)) : List (Int × Int) := (0, 5) :: ui52 :: ui1981 :: (0, 1) :: (0, 1) :: (0, 6) :: ui1676 :: ui1674 :: t
def cx_514q1i_2 (t : List (Int × Int)) : List (Int × Int) := ui1675 :: ui49 :: (0, 1) :: ui440 :: ui48 :: (0, 1) :: (0, 6) :: ui196 :: t
def cx_514q1i_3 (t : List (Int × Int)) : List (Int × Int) := ui196 :: ui196 :: ui196 :: (0, 1) :: (0, 6) :: (0, 1) :: ui31 :: (0, 1) :: t
def cx_514q1i_4 (t : List (Int × Int)) : List (Int × Int) := (0, 1) :: (0, 1) :: (1, 5) :: ui52 :: ui1694 :: ui1693 :: ui196 :: ui196 :: t
def cx_514q1i_5 (t : List (Int × Int)) : List (Int × Int) := ui196 :: ui196 :: ui48 :: (0, 6) :: ui68 :: ui1675 :: t
def cx_514q1f_0 (t : List zFa) : List zFa := uF2029 :: uF2040 :: uF2041 :: uF2042 :: uF2043 :: uF2044 :: uF2045 :: uF2046 :: t
def cx_514q1f_1 (t : List zFa) : List zFa := (0, (false, 20, 0, []), 0, 0, 0, [(43, 1)]) :: uF2031 :: (0, (false, 15, 0, []), 0, 0, 0, [(34, 1)]) :: uF2047 :: uF2048 :: uF2049 :: uF166 :: uF32 :: t
def cx_514q1f_2 (t : List zFa) : List zFa := uF1209 :: (0, (false, 16, 0, []), 0, 0, 0, [(35, 1)]) :: uF1988 :: (0, (false, 43, 0, []), 0, 0, 0, [(45, 1)]) :: uF1993 :: uF1994 :: uF1995 :: uF1996 :: t
def cx_514q1f_3 (t : List zFa) : List zFa := uF2013 :: uF2014 :: uF2015 :: (3, (true, 0, 1, [(11, (-1))]), 0, 0, 0, [(43, 1)]) :: t
def cx_514q1g_0 (t : List zTg) : List zTg := uG2018 :: uG2050 :: uG2051 :: uG2032 :: uG2033 :: uG2034 :: uG2035 :: uG2036 :: t
def cx_514q1g_1 (t : List zTg) : List zTg := uG2037 :: uG2021 :: uG2022 :: uG2023 :: uG2024 :: uG2025 :: uG2026 :: uG2028 :: t
def cx_514q1g_2 (t : List zTg) : List zTg := uG1449 :: uG1447 :: uG1978 :: uG2027 :: uG2038 :: uG1448 :: uG2021 :: uG2022 :: t
def cx_514q1g_3 (t : List zTg) : List zTg := uG2023 :: uG2024 :: uG2025 :: uG2026 :: uG2027 :: t
def cx_514q1 : zS := ((cx_514q1i_0 (cx_514q1i_1 (cx_514q1i_2 (cx_514q1i_3 (cx_514q1i_4 (cx_514q1i_5 [])))))), (cx_514pr_0 (cx_514pr_1 (cx_514pr_2 (cx_514pr_3 [])))), [uL2052, uL2053], [], [uV2039], (cx_514q1f_0 (cx_514q1f_1 (cx_514q1f_2 (cx_514q1f_3 [])))), (cx_514q1g_0 (cx_514q1g_1 (cx_514q1g_2 (cx_514q1g_3 [])))))
def cx_514q2i_0 (t : List (Int × Int)) : List (Int × Int) := ui0 :: ui52 :: ui52 :: ui141 :: ui68 :: (0, 7) :: (0, 2) :: ui52 :: t
def cx_514q2i_1 (t : List (Int × Int)) : List (Int × Int) := (0, 5) :: ui52 :: ui1981 :: (0, 1) :: (0, 1) :: (0, 6) :: ui1676 :: ui1674 :: t
def cx_514q2i_2 (t : List (Int × Int)) : List (Int × Int) := ui1675 :: ui49 :: (0, 1) :: ui440 :: ui48 :: (0, 1) :: (0, 6) :: ui196 :: t
def cx_514q2i_3 (t : List (Int × Int)) : List (Int × Int) := ui196 :: ui196 :: ui196 :: (0, 1) :: (0, 6) :: (0, 1) :: ui31 :: (0, 1) :: t
def cx_514q2i_4 (t : List (Int × Int)) : List (Int × Int) := (0, 1) :: (0, 1) :: ui196 :: (0, 6) :: ui1694 :: ui1693 :: ui196 :: ui196 :: t
def cx_514q2i_5 (t : List (Int × Int)) : List (Int × Int) := ui196 :: ui196 :: ui48 :: (0, 0) :: ui68 :: ui52 :: ui1675 :: (0, 6) :: t
def cx_514q2i_6 (t : List (Int × Int)) : List (Int × Int) := ui196 :: ui196 :: ui196 :: ui196 :: t
def cx_514q2f_0 (t : List zFa) : List zFa := uF2054 :: uF2055 :: uF2056 :: uF2057 :: uF2058 :: uF1970 :: (0, (false, 49, 0, []), 0, 0, 0, [(34, 1)]) :: uF2059 :: t
def cx_514q2f_1 (t : List zFa) : List zFa := uF2060 :: uF2061 :: uF2040 :: uF2041 :: uF2042 :: uF2043 :: uF2044 :: uF2045 :: t
def cx_514q2f_2 (t : List zFa) : List zFa := uF2046 :: (0, (false, 20, 0, []), 0, 0, 0, [(35, 1)]) :: uF2031 :: uF2062 :: uF2047 :: uF2048 :: uF2049 :: uF166 :: t
def cx_514q2f_3 (t : List zFa) : List zFa := uF32 :: uF1209 :: uF2063 :: uF2064 :: uF2059 :: t
def cx_514q2g_0 (t : List zTg) : List zTg := uG1977 :: uG1978 :: uG1979 :: uG1972 :: uG1973 :: uG471 :: uG2065 :: uG2050 :: t
def cx_514q2g_1 (t : List zTg) : List zTg := uG2051 :: uG2032 :: uG2033 :: uG2034 :: uG2035 :: uG2036 :: uG2037 :: uG2021 :: t
def cx_514q2g_2 (t : List zTg) : List zTg := uG2022 :: uG2023 :: uG2024 :: uG2025 :: uG2026 :: uG2028 :: uG1449 :: uG1447 :: t
def cx_514q2g_3 (t : List zTg) : List zTg := uG2027 :: uG471 :: uG1448 :: uG2051 :: (76, [uL9, uL1957]) :: (85, [uL2020, uL1957, uL195]) :: (87, [uL9, uL266, uL1958]) :: (88, [uL2020, uL1958, uL195]) :: t
def cx_514q2g_4 (t : List zTg) : List zTg := (87, [uL9, uL283, uL2066]) :: (89, [uL2020, uL2066, uL195]) :: (87, [uL9, uL285, uL2067]) :: (90, [uL2020, uL2067, uL195]) :: (87, [uL9, uL287, uL2068]) :: (91, [uL2020, uL2068, uL195]) :: (96, [uL9, uL1957, uL2020]) :: uG2050 :: t
def cx_514q2g_5 (t : List zTg) : List zTg := (275, [uL2020, uL1957]) :: t
def cx_514q2 : zS := ((cx_514q2i_0 (cx_514q2i_1 (cx_514q2i_2 (cx_514q2i_3 (cx_514q2i_4 (cx_514q2i_5 (cx_514q2i_6 []))))))), (cx_514pr_0 (cx_514pr_1 (cx_514pr_2 (cx_514pr_3 [])))), [uL2052, uL2053], [], [uV62], (cx_514q2f_0 (cx_514q2f_1 (cx_514q2f_2 (cx_514q2f_3 [])))), (cx_514q2g_0 (cx_514q2g_1 (cx_514q2g_2 (cx_514q2g_3 (cx_514q2g_4 (cx_514q2g_5 [])))))))
/-- M.read -/
def cx_514 : zCtx := (195, cx_514p, [cx_514q0, cx_514q1, cx_514q2], kc_79, 68207627, 7, 147)
def cq_514 : List zCtx := [cx_422, cx_423, cx_424, cx_511, cx_512, cx_513]
def cs_514 : List (Nat × List Nat) := [(42, [0]), (85, [1]), (121, [2]), (128, [3]), (200, [4]), (204, [5])]
def hs_514 : List (Nat × List Nat) := [(9, [1000412]), (30, [1000413]), (36, [1000414]), (88, [10]), (109, uN2069), (119, [1000246]), (131, [740, 1000411]), (134, uN2070), (174, [16]), (178, [1000419]), (186, [16]), (190, [1000419]), (191, [15, 1000457, 1000507, 1000508, 1000509, 1000510]), (192, [1000420]), (207, [1000747])]
def nd_514_0pi_0 (t : List (Int × Int)) : List (Int × Int) := ui0 :: ui52 :: ui52 :: ui141 :: ui68 :: (0, 7) :: (0, 2) :: ui52 :: t
def nd_514_0pi_1 (t : List (Int × Int)) : List (Int × Int) := (0, 5) :: ui52 :: ui1981 :: (0, 1) :: (0, 1) :: (0, 6) :: ui1676 :: ui1674 :: t
def nd_514_0pi_2 (t : List (Int × Int)) : List (Int × Int) := ui1675 :: ui49 :: (0, 1) :: ui440 :: ui48 :: (0, 1) :: (0, 6) :: ui196 :: t
def nd_514_0pi_3 (t : List (Int × Int)) : List (Int × Int) := ui196 :: ui196 :: ui196 :: (0, 1) :: (0, 6) :: (0, 1) :: ui31 :: (0, 1) :: t
def nd_514_0pi_4 (t : List (Int × Int)) : List (Int × Int) := (0, 1) :: (0, 1) :: ui52 :: t
def nd_514_0pf_0 (t : List zFa) : List zFa := uF32 :: uF183 :: uF1179 :: uF1180 :: uF1181 :: uF1984 :: uF1209 :: uF1985 :: t
def nd_514_0pf_1 (t : List zFa) : List zFa := uF1986 :: uF1987 :: uF1988 :: uF1989 :: uF1990 :: uF1991 :: uF1992 :: uF1819 :: t
def nd_514_0pf_2 (t : List zFa) : List zFa := uF1993 :: uF1994 :: uF1995 :: uF1996 :: uF1477 :: uF1478 :: uF1479 :: uF432 :: t
def nd_514_0pf_3 (t : List zFa) : List zFa := uF538 :: uF1127 :: uF1895 :: uF1904 :: uF1905 :: uF1906 :: uF459 :: uF1997 :: t
def nd_514_0pf_4 (t : List zFa) : List zFa := uF1998 :: uF1999 :: uF2000 :: uF2001 :: uF2002 :: uF2003 :: uF2004 :: uF2005 :: t
def nd_514_0pf_5 (t : List zFa) : List zFa := uF2006 :: uF2007 :: uF2008 :: uF2009 :: uF2010 :: uF2011 :: uF2012 :: uF2013 :: t
def nd_514_0pf_6 (t : List zFa) : List zFa := uF2014 :: uF2015 :: uF2016 :: uF2017 :: t
def nd_514_0pg_0 (t : List zTg) : List zTg := uG2018 :: uG1978 :: uG2019 :: uG1448 :: uG2021 :: uG2022 :: uG2023 :: uG2024 :: t
def nd_514_0pg_1 (t : List zTg) : List zTg := uG2025 :: uG2026 :: uG2027 :: uG2028 :: (54, [uL1923]) :: t
def nd_514_0p : zS := ((nd_514_0pi_0 (nd_514_0pi_1 (nd_514_0pi_2 (nd_514_0pi_3 (nd_514_0pi_4 []))))), (cx_514pr_0 (cx_514pr_1 (cx_514pr_2 (cx_514pr_3 [])))), [uL2071], [uV2, uV2039], [], (nd_514_0pf_0 (nd_514_0pf_1 (nd_514_0pf_2 (nd_514_0pf_3 (nd_514_0pf_4 (nd_514_0pf_5 (nd_514_0pf_6 []))))))), (nd_514_0pg_0 (nd_514_0pg_1 [])))
def nd_514_0 : zN := (10, nd_514_0p, (429320, [(34, (-15))]))
def nd_514_1pi_0 (t : List (Int × Int)) : List (Int × Int) := ui0 :: ui52 :: ui52 :: ui141 :: ui68 :: (0, 7) :: (0, 2) :: ui52 :: t
def nd_514_1pi_1 (t : List (Int × Int)) : List (Int × Int) := (0, 5) :: ui52 :: ui1981 :: (0, 1) :: (0, 1) :: (0, 6) :: ui1676 :: ui1674 :: t
def nd_514_1pi_2 (t : List (Int × Int)) : List (Int × Int) := ui1675 :: ui49 :: (0, 1) :: ui440 :: ui48 :: (0, 1) :: (0, 6) :: ui196 :: t
def nd_514_1pi_3 (t : List (Int × Int)) : List (Int × Int) := ui196 :: ui196 :: ui196 :: (0, 1) :: (0, 6) :: (0, 1) :: ui31 :: (0, 1) :: t
def nd_514_1pi_4 (t : List (Int × Int)) : List (Int × Int) := (0, 1) :: (0, 1) :: ui52 :: ui1694 :: ui1693 :: ui196 :: ui196 :: ui196 :: t
def nd_514_1pi_5 (t : List (Int × Int)) : List (Int × Int) := ui196 :: ui48 :: (0, 6) :: (0, 5) :: ui68 :: ui52 :: ui1675 :: (0, 2) :: t
def nd_514_1pi_6 (t : List (Int × Int)) : List (Int × Int) := ui1674 :: ui1674 :: ui68 :: t
def nd_514_1pf_0 (t : List zFa) : List zFa := (0, (false, 39, 0, []), 0, 0, 0, [(35, 1)]) :: (0, (false, 33, 0, []), 0, 0, 0, [(36, 1)]) :: (17, (true, 0, 1, [(11, (-1))]), 0, 0, 0, [(37, 1)]) :: (16, (true, 0, 1, [(11, (-1))]), 0, 0, 0, [(38, 1)]) :: (15, (true, 0, 1, [(11, (-1))]), 0, 0, 0, [(39, 1)]) :: (14, (true, 0, 1, [(11, (-1))]), 0, 0, 0, [(40, 1)]) :: uF2072 :: (0, (false, 20, 0, []), 0, 0, 0, [(42, 1)]) :: t
def nd_514_1pf_1 (t : List zFa) : List zFa := uF2031 :: uF2062 :: uF2047 :: uF2048 :: uF2049 :: uF166 :: uF32 :: uF1209 :: t
def nd_514_1pf_2 (t : List zFa) : List zFa := uF2063 :: uF1987 :: uF1988 :: uF2064 :: uF1993 :: uF1994 :: uF1995 :: uF1996 :: t
def nd_514_1pf_3 (t : List zFa) : List zFa := uF1477 :: uF1478 :: uF1479 :: uF432 :: uF538 :: uF1127 :: uF1895 :: uF1904 :: t
def nd_514_1pf_4 (t : List zFa) : List zFa := uF1905 :: uF1906 :: uF459 :: uF1997 :: uF1998 :: uF1999 :: uF2000 :: uF2001 :: t
def nd_514_1pf_5 (t : List zFa) : List zFa := uF2002 :: uF2003 :: uF2004 :: uF2005 :: uF2006 :: uF2007 :: uF2008 :: uF2009 :: t
def nd_514_1pf_6 (t : List zFa) : List zFa := uF2010 :: uF2011 :: uF2012 :: uF2013 :: uF2014 :: uF2015 :: uF2016 :: uF2017 :: t
def nd_514_1pf_7 (t : List zFa) : List zFa := (3, (true, 0, 1, [(11, (-1))]), 0, 0, 0, [(42, 1)]) :: t
def nd_514_1pg_0 (t : List zTg) : List zTg := uG2032 :: uG2033 :: uG2034 :: uG2035 :: uG2036 :: uG2037 :: uG2021 :: uG2022 :: t
def nd_514_1pg_1 (t : List zTg) : List zTg := uG2023 :: uG2024 :: uG2025 :: uG2026 :: uG2028 :: uG1449 :: uG1447 :: uG1978 :: t
def nd_514_1pg_2 (t : List zTg) : List zTg := uG2019 :: uG1448 :: uG2027 :: (3, [uL2020, uL1925, uL1925, uL1924, uL1957, uL1958, uL2066]) :: (58, [uL9, uL1954]) :: (40, [uL9, uL1954, uL63, uL63, uL63, uL2073, uL1962, uL1953, uL1955, uL2067]) :: (64, [uL9, uL1954, uL2073]) :: (78, [uL9, uL1954, uL2020]) :: t
def nd_514_1pg_3 (t : List zTg) : List zTg := uG2021 :: uG2022 :: (86, [uL9, uL1954, uL266, uL1961]) :: (86, [uL9, uL1954, uL283, uL1934]) :: (86, [uL9, uL1954, uL285, uL1927]) :: (86, [uL9, uL1954, uL287, uL1926]) :: uG2023 :: uG2024 :: t
def nd_514_1pg_4 (t : List zTg) : List zTg := uG2025 :: uG2026 :: (95, [uL9, uL1954, uL2073, uL2020, (6, [(11, (-6)), (42, 1)])]) :: uG2027 :: (216, [uL9, uL1954, uL2020, uL1924, uL63, uL1925, uL63]) :: t
def nd_514_1p : zS := ((nd_514_1pi_0 (nd_514_1pi_1 (nd_514_1pi_2 (nd_514_1pi_3 (nd_514_1pi_4 (nd_514_1pi_5 (nd_514_1pi_6 []))))))), (cx_514pr_0 (cx_514pr_1 (cx_514pr_2 (cx_514pr_3 [])))), [(0, [(1, (-1)), (34, 1)]), uL2071, (420, [(11, (-420)), (35, (-1)), (44, 1)]), (520, [(11, (-520)), (36, (-4)), (44, 1)])], [uV2, uV2039], [], (nd_514_1pf_0 (nd_514_1pf_1 (nd_514_1pf_2 (nd_514_1pf_3 (nd_514_1pf_4 (nd_514_1pf_5 (nd_514_1pf_6 (nd_514_1pf_7 [])))))))), (nd_514_1pg_0 (nd_514_1pg_1 (nd_514_1pg_2 (nd_514_1pg_3 (nd_514_1pg_4 []))))))
def nd_514_1 : zN := (112, nd_514_1p, (399273, [(44, (-998))]))
def ns_514 : List zN := [nd_514_0, nd_514_1]
set_option maxRecDepth 1000000 in
theorem ca_514 : x_okA mLT1 cq_514 mTS2 mTC2 mRUp cx_514 cs_514 hs_514 ns_514 (429327, []) 67778300 76 = true := by decide +kernel
set_option maxRecDepth 1000000 in
theorem cb_514_0 : x_okB mLT1 cq_514 mTS2 mTC2 mRUp cx_514 cs_514 hs_514 ns_514 (429327, []) 67778300 76 nd_514_0 = true := by decide +kernel
set_option maxRecDepth 1000000 in
theorem cb_514_1 : x_okB mLT1 cq_514 mTS2 mTC2 mRUp cx_514 cs_514 hs_514 ns_514 (429327, []) 67778300 76 nd_514_1 = true := by decide +kernel
set_option maxRecDepth 1000000 in
theorem cc_514 : x_okC mLT1 cq_514 mTS2 mTC2 mRUp cx_514 cs_514 hs_514 ns_514 (429327, []) 67778300 76 = true := by decide +kernel
theorem ck_514 : x_ok mLT1 cq_514 mTS2 mTC2 mRUp cx_514 cs_514 hs_514 ns_514 (429327, []) 67778300 76 = true := x_ok_of ca_514 (List.forall_mem_cons.mpr ⟨cb_514_0, List.forall_mem_cons.mpr ⟨cb_514_1, fun _ h => absurd h List.not_mem_nil⟩⟩) cc_514
theorem sn_514 {W : Bool} {X : List Int32} : y_Snd (mGw W) mLT1 (J2 W X) X cx_514 := y_ok J2_J mTS2_ok1 mTC2_ok1 mRUp_ok1 (List.forall_mem_cons.mpr ⟨sn_422, List.forall_mem_cons.mpr ⟨sn_423, List.forall_mem_cons.mpr ⟨sn_424, List.forall_mem_cons.mpr ⟨sn_511, List.forall_mem_cons.mpr ⟨sn_512, List.forall_mem_cons.mpr ⟨sn_513, fun _ h => absurd h List.not_mem_nil⟩⟩⟩⟩⟩⟩) ck_514
end
