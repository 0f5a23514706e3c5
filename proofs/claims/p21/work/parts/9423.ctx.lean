noncomputable section
/-! ===== readings, by program, checked by the kernel ===== -/
/-- M.begins -/
def cx_499 : zCtx := (190, ([ui0, (0, 1), ui49, (0, 1), (0, 6)], [ur1331, ur1885, ur1492, ur1380], [], [], [uV2], [uF1886, uF1887, uF1888, uF1889, uF1890, uF1396, uF1891], []), [([ui0, (0, 1), ui49, (0, 1), (0, 6), ui196], [ur1331, ur1885, ur1492, ur1380], [], [], [], [uF1892, uF1893, uF1891], [uG1894, uG1895, (273, [uL9, uL98])])], [uk1896, uk1897, uk1898], 494, 0, 0)
def cq_499 : List zCtx := []
def cs_499 : List (Nat × List Nat) := []
def hs_499 : List (Nat × List Nat) := [(0, [81]), (21, [83, 1000744]), (36, [1000745]), (56, [1000746])]
def nd_499_0 : zN := (23, ([ui0, (0, 1), ui49, (0, 1), (0, 6), (0, 6)], [ur1331, ur1885, ur1492, ur1380], [uL1465], [uV2, uV75], [], [uF1886, uF1887, uF1888, uF1889, uF1890, uF1396, uF1891], [uG1894, uG1895, (273, [uL9, uL104])]), (156, [(5, (-23))]))
def ns_499 : List zN := [nd_499_0]
set_option maxRecDepth 1000000 in
theorem ca_499 : x_okA mLT1 cq_499 mTS2 mTC2 mRUp cx_499 cs_499 hs_499 ns_499 (494, []) 0 340 = true := by decide +kernel
set_option maxRecDepth 1000000 in
theorem cb_499_0 : x_okB mLT1 cq_499 mTS2 mTC2 mRUp cx_499 cs_499 hs_499 ns_499 (494, []) 0 340 nd_499_0 = true := by decide +kernel
set_option maxRecDepth 1000000 in
theorem cc_499 : x_okC mLT1 cq_499 mTS2 mTC2 mRUp cx_499 cs_499 hs_499 ns_499 (494, []) 0 340 = true := by decide +kernel
theorem ck_499 : x_ok mLT1 cq_499 mTS2 mTC2 mRUp cx_499 cs_499 hs_499 ns_499 (494, []) 0 340 = true := x_ok_of ca_499 (List.forall_mem_cons.mpr ⟨cb_499_0, fun _ h => absurd h List.not_mem_nil⟩) cc_499
theorem sn_499 {W : Bool} {X : List Int32} : y_Snd (mGw W) mLT1 (J2 W X) X cx_499 := y_ok J2_J mTS2_ok1 mTC2_ok1 mRUp_ok1 (fun _ h => absurd h List.not_mem_nil) ck_499
/-- M.keepsRow -/
def cx_500 : zCtx := (191, ([ui0], [ur1331], [], [], [uV2], [], [uG1894]), [([ui0], [ur1331], [], [], [], [], [uG1899, uG1900, uG1901, uG1899])], [uk1902], 435, 0, 0)
def cq_500 : List zCtx := []
def cs_500 : List (Nat × List Nat) := []
def hs_500 : List (Nat × List Nat) := [(0, [17]), (26, [274, 1000698])]
def ns_500 : List zN := []
set_option maxRecDepth 1000000 in
theorem ca_500 : x_okA mLT1 cq_500 mTS2 mTC2 mRUp cx_500 cs_500 hs_500 ns_500 (435, []) 0 438 = true := by decide +kernel
set_option maxRecDepth 1000000 in
theorem cc_500 : x_okC mLT1 cq_500 mTS2 mTC2 mRUp cx_500 cs_500 hs_500 ns_500 (435, []) 0 438 = true := by decide +kernel
theorem ck_500 : x_ok mLT1 cq_500 mTS2 mTC2 mRUp cx_500 cs_500 hs_500 ns_500 (435, []) 0 438 = true := x_ok_of ca_500 (fun _ h => absurd h List.not_mem_nil) cc_500
theorem sn_500 {W : Bool} {X : List Int32} : y_Snd (mGw W) mLT1 (J2 W X) X cx_500 := y_ok J2_J mTS2_ok1 mTC2_ok1 mRUp_ok1 (fun _ h => absurd h List.not_mem_nil) ck_500
def cx_501pi_0 (t : List (Int × Int)) : List (Int × Int) := ui0 :: ui52 :: ui52 :: ui141 :: ui68 :: (0, 7) :: (0, 2) :: ui52 :: t
def cx_501pi_1 (t : List (Int × Int)) : List (Int × Int) := (0, 5) :: ui52 :: ui1903 :: (0, 1) :: (0, 1) :: (0, 6) :: ui1593 :: ui1591 :: t
def cx_501pi_2 (t : List (Int × Int)) : List (Int × Int) := ui1592 :: ui49 :: (0, 1) :: ui439 :: ui48 :: (0, 1) :: (0, 6) :: ui196 :: t
def cx_501pi_3 (t : List (Int × Int)) : List (Int × Int) := ui196 :: ui196 :: ui196 :: (0, 1) :: (0, 6) :: (0, 1) :: ui31 :: (0, 1) :: t
def cx_501pi_4 (t : List (Int × Int)) : List (Int × Int) := (0, 1) :: (0, 1) :: t
def cx_501pr_0 (t : List (Nat × Bool)) : List (Nat × Bool) := ur1331 :: ur1378 :: ur1379 :: ur1380 :: ur1332 :: ur1342 :: ur1361 :: ur1381 :: t
def cx_501pr_1 (t : List (Nat × Bool)) : List (Nat × Bool) := ur1345 :: ur1346 :: ur1347 :: ur1348 :: ur1491 :: ur1382 :: ur1383 :: ur1384 :: t
def cx_501pr_2 (t : List (Nat × Bool)) : List (Nat × Bool) := ur1385 :: ur1386 :: ur1492 :: ur1493 :: ur1387 :: ur1388 :: ur1389 :: ur1390 :: t
def cx_501pr_3 (t : List (Nat × Bool)) : List (Nat × Bool) := ur1391 :: ur1392 :: ur1393 :: ur1904 :: ur1905 :: ur1885 :: t
def cx_501pf_0 (t : List zFa) : List zFa := uF183 :: uF179 :: uF1164 :: uF1165 :: uF1166 :: uF1906 :: uF1194 :: uF1907 :: t
def cx_501pf_1 (t : List zFa) : List zFa := uF1908 :: uF1909 :: uF1910 :: uF1911 :: uF1912 :: uF1913 :: uF1914 :: uF1740 :: t
def cx_501pf_2 (t : List zFa) : List zFa := uF1915 :: uF1916 :: uF1917 :: uF1918 :: uF1394 :: uF1395 :: uF1396 :: uF431 :: t
def cx_501pf_3 (t : List zFa) : List zFa := uF537 :: uF1112 :: uF1816 :: uF1825 :: uF1826 :: uF1827 :: uF458 :: uF1919 :: t
def cx_501pf_4 (t : List zFa) : List zFa := uF1920 :: uF1921 :: uF1922 :: uF1923 :: uF1924 :: uF1925 :: uF1926 :: uF1927 :: t
def cx_501pf_5 (t : List zFa) : List zFa := uF1928 :: uF1929 :: uF1930 :: uF1931 :: uF1932 :: uF1933 :: uF1934 :: uF1935 :: t
def cx_501pf_6 (t : List zFa) : List zFa := uF1936 :: uF1937 :: uF1938 :: uF1939 :: t
def cx_501pg_0 (t : List zTg) : List zTg := uG1940 :: uG1900 :: uG1941 :: uG1365 :: uG1943 :: uG1944 :: uG1945 :: uG1946 :: t
def cx_501pg_1 (t : List zTg) : List zTg := uG1947 :: uG1948 :: uG1949 :: uG1950 :: t
def cx_501p : zS := ((cx_501pi_0 (cx_501pi_1 (cx_501pi_2 (cx_501pi_3 (cx_501pi_4 []))))), (cx_501pr_0 (cx_501pr_1 (cx_501pr_2 (cx_501pr_3 [])))), [], [], [uV2], (cx_501pf_0 (cx_501pf_1 (cx_501pf_2 (cx_501pf_3 (cx_501pf_4 (cx_501pf_5 (cx_501pf_6 []))))))), (cx_501pg_0 (cx_501pg_1 [])))
def cx_501q0i_0 (t : List (Int × Int)) : List (Int × Int) := ui0 :: ui52 :: ui52 :: ui141 :: ui68 :: (0, 7) :: (0, 2) :: ui52 :: t
def cx_501q0i_1 (t : List (Int × Int)) : List (Int × Int) := (0, 5) :: ui52 :: ui1903 :: (0, 1) :: (0, 1) :: (0, 6) :: ui1593 :: ui1591 :: t
def cx_501q0i_2 (t : List (Int × Int)) : List (Int × Int) := ui1592 :: ui49 :: (0, 1) :: ui439 :: ui48 :: (0, 1) :: (0, 6) :: ui196 :: t
def cx_501q0i_3 (t : List (Int × Int)) : List (Int × Int) := ui196 :: ui196 :: ui196 :: (0, 1) :: (0, 6) :: (0, 1) :: ui31 :: (0, 1) :: t
def cx_501q0i_4 (t : List (Int × Int)) : List (Int × Int) := (0, 1) :: (0, 1) :: (1, 2) :: ui52 :: ui68 :: ui48 :: (0, 7) :: (0, 5) :: t
def cx_501q0i_5 (t : List (Int × Int)) : List (Int × Int) := ui52 :: (0, 6) :: ui1842 :: ui1591 :: ui1592 :: t
def cx_501q0f_0 (t : List zFa) : List zFa := uF1951 :: (0, (false, 14, 0, []), 0, 0, 0, [(35, 1)]) :: (0, (false, 13, 0, []), 0, 0, 0, [(34, 1)]) :: uF1867 :: uF1952 :: uF1952 :: (0, (false, 12, 0, []), 0, 0, 0, [(38, 1)]) :: (0, (false, 15, 0, []), 0, 0, 0, [(39, 1)]) :: t
def cx_501q0f_1 (t : List zFa) : List zFa := (0, (false, 16, 0, []), 0, 0, 0, [(40, 1)]) :: (0, (false, 20, 0, []), 0, 0, 0, [(41, 1)]) :: (0, (false, 33, 0, []), 0, 0, 0, [(42, 1)]) :: (0, (false, 39, 0, []), 0, 0, 0, [(43, 1)]) :: (0, (false, 43, 0, []), 0, 0, 0, [(44, 1)]) :: uF1952 :: (3, (true, 0, 1, [(11, (-1))]), 0, 0, 0, [(41, 1)]) :: uF1953 :: t
def cx_501q0f_2 (t : List zFa) : List zFa := uF166 :: uF32 :: uF1910 :: uF1915 :: uF1916 :: uF1917 :: uF1918 :: uF1935 :: t
def cx_501q0f_3 (t : List zFa) : List zFa := uF1936 :: uF1937 :: t
def cx_501q0g_0 (t : List zTg) : List zTg := uG1940 :: uG1943 :: uG1944 :: uG1945 :: uG1946 :: uG1947 :: uG1948 :: uG1949 :: t
def cx_501q0g_1 (t : List zTg) : List zTg := uG1950 :: uG1954 :: uG1955 :: uG1956 :: uG1957 :: uG1958 :: uG1959 :: uG1366 :: t
def cx_501q0g_2 (t : List zTg) : List zTg := uG1364 :: uG1900 :: uG1960 :: uG1365 :: uG1943 :: uG1944 :: uG1945 :: uG1946 :: t
def cx_501q0g_3 (t : List zTg) : List zTg := uG1947 :: uG1948 :: uG1949 :: t
def cx_501q0 : zS := ((cx_501q0i_0 (cx_501q0i_1 (cx_501q0i_2 (cx_501q0i_3 (cx_501q0i_4 (cx_501q0i_5 [])))))), (cx_501pr_0 (cx_501pr_1 (cx_501pr_2 (cx_501pr_3 [])))), [], [], [uV1961], (cx_501q0f_0 (cx_501q0f_1 (cx_501q0f_2 (cx_501q0f_3 [])))), (cx_501q0g_0 (cx_501q0g_1 (cx_501q0g_2 (cx_501q0g_3 [])))))
def cx_501q1i_0 (t : List (Int × Int)) : List (Int × Int) := ui0 :: ui52 :: ui52 :: ui141 :: ui68 :: (0, 7) :: (0, 2) :: ui52 :: t
def cx_501q1i_1 (t : List (Int × Int)) : List (Int × Int) := (0, 5) :: ui52 :: ui1903 :: (0, 1) :: (0, 1) :: (0, 6) :: ui1593 :: ui1591 :: t
def cx_501q1i_2 (t : List (Int × Int)) : List (Int × Int) := ui1592 :: ui49 :: (0, 1) :: ui439 :: ui48 :: (0, 1) :: (0, 6) :: ui196 :: t
def cx_501q1i_3 (t : List (Int × Int)) : List (Int × Int) := ui196 :: ui196 :: ui196 :: (0, 1) :: (0, 6) :: (0, 1) :: ui31 :: (0, 1) :: t
def cx_501q1i_4 (t : List (Int × Int)) : List (Int × Int) := (0, 1) :: (0, 1) :: (1, 5) :: ui52 :: ui1611 :: ui1610 :: ui196 :: ui196 :: t
def cx_501q1i_5 (t : List (Int × Int)) : List (Int × Int) := ui196 :: ui196 :: ui48 :: (0, 6) :: ui68 :: ui1592 :: t
def cx_501q1f_0 (t : List zFa) : List zFa := uF1951 :: uF1962 :: uF1963 :: uF1964 :: uF1965 :: uF1966 :: uF1967 :: uF1968 :: t
def cx_501q1f_1 (t : List zFa) : List zFa := (0, (false, 20, 0, []), 0, 0, 0, [(43, 1)]) :: uF1953 :: (0, (false, 15, 0, []), 0, 0, 0, [(34, 1)]) :: uF1969 :: uF1970 :: uF1971 :: uF166 :: uF32 :: t
def cx_501q1f_2 (t : List zFa) : List zFa := uF1194 :: (0, (false, 16, 0, []), 0, 0, 0, [(35, 1)]) :: uF1910 :: (0, (false, 43, 0, []), 0, 0, 0, [(45, 1)]) :: uF1915 :: uF1916 :: uF1917 :: uF1918 :: t
def cx_501q1f_3 (t : List zFa) : List zFa := uF1935 :: uF1936 :: uF1937 :: (3, (true, 0, 1, [(11, (-1))]), 0, 0, 0, [(43, 1)]) :: t
def cx_501q1g_0 (t : List zTg) : List zTg := uG1940 :: uG1972 :: uG1973 :: uG1954 :: uG1955 :: uG1956 :: uG1957 :: uG1958 :: t
def cx_501q1g_1 (t : List zTg) : List zTg := uG1959 :: uG1943 :: uG1944 :: uG1945 :: uG1946 :: uG1947 :: uG1948 :: uG1950 :: t
def cx_501q1g_2 (t : List zTg) : List zTg := uG1366 :: uG1364 :: uG1900 :: uG1949 :: uG1960 :: uG1365 :: uG1943 :: uG1944 :: t
def cx_501q1g_3 (t : List zTg) : List zTg := uG1945 :: uG1946 :: uG1947 :: uG1948 :: uG1949 :: t
def cx_501q1 : zS := ((cx_501q1i_0 (cx_501q1i_1 (cx_501q1i_2 (cx_501q1i_3 (cx_501q1i_4 (cx_501q1i_5 [])))))), (cx_501pr_0 (cx_501pr_1 (cx_501pr_2 (cx_501pr_3 [])))), [uL1974, uL1975], [], [uV1961], (cx_501q1f_0 (cx_501q1f_1 (cx_501q1f_2 (cx_501q1f_3 [])))), (cx_501q1g_0 (cx_501q1g_1 (cx_501q1g_2 (cx_501q1g_3 [])))))
def cx_501q2i_0 (t : List (Int × Int)) : List (Int × Int) := ui0 :: ui52 :: ui52 :: ui141 :: ui68 :: (0, 7) :: (0, 2) :: ui52 :: t
def cx_501q2i_1 (t : List (Int × Int)) : List (Int × Int) := (0, 5) :: ui52 :: ui1903 :: (0, 1) :: (0, 1) :: (0, 6) :: ui1593 :: ui1591 :: t
def cx_501q2i_2 (t : List (Int × Int)) : List (Int × Int) := ui1592 :: ui49 :: (0, 1) :: ui439 :: ui48 :: (0, 1) :: (0, 6) :: ui196 :: t
def cx_501q2i_3 (t : List (Int × Int)) : List (Int × Int) := ui196 :: ui196 :: ui196 :: (0, 1) :: (0, 6) :: (0, 1) :: ui31 :: (0, 1) :: t
def cx_501q2i_4 (t : List (Int × Int)) : List (Int × Int) := (0, 1) :: (0, 1) :: ui196 :: (0, 6) :: ui1611 :: ui1610 :: ui196 :: ui196 :: t
def cx_501q2i_5 (t : List (Int × Int)) : List (Int × Int) := ui196 :: ui196 :: ui48 :: (0, 0) :: ui68 :: ui52 :: ui1592 :: (0, 6) :: t
def cx_501q2i_6 (t : List (Int × Int)) : List (Int × Int) := ui196 :: ui196 :: ui196 :: ui196 :: t
def cx_501q2f_0 (t : List zFa) : List zFa := uF1976 :: uF1977 :: uF1978 :: uF1979 :: uF1980 :: uF1892 :: (0, (false, 49, 0, []), 0, 0, 0, [(34, 1)]) :: uF1981 :: t
def cx_501q2f_1 (t : List zFa) : List zFa := uF1982 :: uF1983 :: uF1962 :: uF1963 :: uF1964 :: uF1965 :: uF1966 :: uF1967 :: t
def cx_501q2f_2 (t : List zFa) : List zFa := uF1968 :: (0, (false, 20, 0, []), 0, 0, 0, [(35, 1)]) :: uF1953 :: uF1984 :: uF1969 :: uF1970 :: uF1971 :: uF166 :: t
def cx_501q2f_3 (t : List zFa) : List zFa := uF32 :: uF1194 :: uF1985 :: uF1986 :: uF1981 :: t
def cx_501q2g_0 (t : List zTg) : List zTg := uG1899 :: uG1900 :: uG1901 :: uG1894 :: uG1895 :: uG470 :: uG1987 :: uG1972 :: t
def cx_501q2g_1 (t : List zTg) : List zTg := uG1973 :: uG1954 :: uG1955 :: uG1956 :: uG1957 :: uG1958 :: uG1959 :: uG1943 :: t
def cx_501q2g_2 (t : List zTg) : List zTg := uG1944 :: uG1945 :: uG1946 :: uG1947 :: uG1948 :: uG1950 :: uG1366 :: uG1364 :: t
def cx_501q2g_3 (t : List zTg) : List zTg := uG1949 :: uG470 :: uG1365 :: uG1973 :: (76, [uL9, uL1878]) :: (85, [uL1942, uL1878, uL195]) :: (87, [uL9, uL266, uL1879]) :: (88, [uL1942, uL1879, uL195]) :: t
def cx_501q2g_4 (t : List zTg) : List zTg := (87, [uL9, uL283, uL1988]) :: (89, [uL1942, uL1988, uL195]) :: (87, [uL9, uL285, uL1989]) :: (90, [uL1942, uL1989, uL195]) :: (87, [uL9, uL287, uL1990]) :: (91, [uL1942, uL1990, uL195]) :: (96, [uL9, uL1878, uL1942]) :: uG1972 :: t
def cx_501q2g_5 (t : List zTg) : List zTg := (275, [uL1942, uL1878]) :: t
def cx_501q2 : zS := ((cx_501q2i_0 (cx_501q2i_1 (cx_501q2i_2 (cx_501q2i_3 (cx_501q2i_4 (cx_501q2i_5 (cx_501q2i_6 []))))))), (cx_501pr_0 (cx_501pr_1 (cx_501pr_2 (cx_501pr_3 [])))), [uL1974, uL1975], [], [uV62], (cx_501q2f_0 (cx_501q2f_1 (cx_501q2f_2 (cx_501q2f_3 [])))), (cx_501q2g_0 (cx_501q2g_1 (cx_501q2g_2 (cx_501q2g_3 (cx_501q2g_4 (cx_501q2g_5 [])))))))
/-- M.read -/
def cx_501 : zCtx := (195, cx_501p, [cx_501q0, cx_501q1, cx_501q2], kc_79, 68207627, 7, 147)
def cq_501 : List zCtx := [cx_409, cx_410, cx_411, cx_498, cx_499, cx_500]
def cs_501 : List (Nat × List Nat) := [(42, [0]), (85, [1]), (121, [2]), (128, [3]), (200, [4]), (204, [5])]
def hs_501 : List (Nat × List Nat) := [(9, [1000412]), (30, [1000413]), (36, [1000414]), (88, [10]), (109, uN1991), (119, [1000246]), (131, [740, 1000411]), (134, uN1992), (174, [16]), (178, [1000419]), (186, [16]), (190, [1000419]), (191, [15, 1000457, 1000507, 1000508, 1000509, 1000510]), (192, [1000420]), (207, [1000747])]
def nd_501_0pi_0 (t : List (Int × Int)) : List (Int × Int) := ui0 :: ui52 :: ui52 :: ui141 :: ui68 :: (0, 7) :: (0, 2) :: ui52 :: t
def nd_501_0pi_1 (t : List (Int × Int)) : List (Int × Int) := (0, 5) :: ui52 :: ui1903 :: (0, 1) :: (0, 1) :: (0, 6) :: ui1593 :: ui1591 :: t
def nd_501_0pi_2 (t : List (Int × Int)) : List (Int × Int) := ui1592 :: ui49 :: (0, 1) :: ui439 :: ui48 :: (0, 1) :: (0, 6) :: ui196 :: t
def nd_501_0pi_3 (t : List (Int × Int)) : List (Int × Int) := ui196 :: ui196 :: ui196 :: (0, 1) :: (0, 6) :: (0, 1) :: ui31 :: (0, 1) :: t
def nd_501_0pi_4 (t : List (Int × Int)) : List (Int × Int) := (0, 1) :: (0, 1) :: ui52 :: t
def nd_501_0pf_0 (t : List zFa) : List zFa := uF32 :: uF183 :: uF1164 :: uF1165 :: uF1166 :: uF1906 :: uF1194 :: uF1907 :: t
def nd_501_0pf_1 (t : List zFa) : List zFa := uF1908 :: uF1909 :: uF1910 :: uF1911 :: uF1912 :: uF1913 :: uF1914 :: uF1740 :: t
def nd_501_0pf_2 (t : List zFa) : List zFa := uF1915 :: uF1916 :: uF1917 :: uF1918 :: uF1394 :: uF1395 :: uF1396 :: uF431 :: t
def nd_501_0pf_3 (t : List zFa) : List zFa := uF537 :: uF1112 :: uF1816 :: uF1825 :: uF1826 :: uF1827 :: uF458 :: uF1919 :: t
def nd_501_0pf_4 (t : List zFa) : List zFa := uF1920 :: uF1921 :: uF1922 :: uF1923 :: uF1924 :: uF1925 :: uF1926 :: uF1927 :: t
def nd_501_0pf_5 (t : List zFa) : List zFa := uF1928 :: uF1929 :: uF1930 :: uF1931 :: uF1932 :: uF1933 :: uF1934 :: uF1935 :: t
def nd_501_0pf_6 (t : List zFa) : List zFa := uF1936 :: uF1937 :: uF1938 :: uF1939 :: t
def nd_501_0pg_0 (t : List zTg) : List zTg := uG1940 :: uG1900 :: uG1941 :: uG1365 :: uG1943 :: uG1944 :: uG1945 :: uG1946 :: t
def nd_501_0pg_1 (t : List zTg) : List zTg := uG1947 :: uG1948 :: uG1949 :: uG1950 :: (54, [uL1844]) :: t
def nd_501_0p : zS := ((nd_501_0pi_0 (nd_501_0pi_1 (nd_501_0pi_2 (nd_501_0pi_3 (nd_501_0pi_4 []))))), (cx_501pr_0 (cx_501pr_1 (cx_501pr_2 (cx_501pr_3 [])))), [uL1993], [uV2, uV1961], [], (nd_501_0pf_0 (nd_501_0pf_1 (nd_501_0pf_2 (nd_501_0pf_3 (nd_501_0pf_4 (nd_501_0pf_5 (nd_501_0pf_6 []))))))), (nd_501_0pg_0 (nd_501_0pg_1 [])))
def nd_501_0 : zN := (10, nd_501_0p, (429320, [(34, (-15))]))
def nd_501_1pi_0 (t : List (Int × Int)) : List (Int × Int) := ui0 :: ui52 :: ui52 :: ui141 :: ui68 :: (0, 7) :: (0, 2) :: ui52 :: t
def nd_501_1pi_1 (t : List (Int × Int)) : List (Int × Int) := (0, 5) :: ui52 :: ui1903 :: (0, 1) :: (0, 1) :: (0, 6) :: ui1593 :: ui1591 :: t
def nd_501_1pi_2 (t : List (Int × Int)) : List (Int × Int) := ui1592 :: ui49 :: (0, 1) :: ui439 :: ui48 :: (0, 1) :: (0, 6) :: ui196 :: t
def nd_501_1pi_3 (t : List (Int × Int)) : List (Int × Int) := ui196 :: ui196 :: ui196 :: (0, 1) :: (0, 6) :: (0, 1) :: ui31 :: (0, 1) :: t
def nd_501_1pi_4 (t : List (Int × Int)) : List (Int × Int) := (0, 1) :: (0, 1) :: ui52 :: ui1611 :: ui1610 :: ui196 :: ui196 :: ui196 :: t
def nd_501_1pi_5 (t : List (Int × Int)) : List (Int × Int) := ui196 :: ui48 :: (0, 6) :: (0, 5) :: ui68 :: ui52 :: ui1592 :: (0, 2) :: t
def nd_501_1pi_6 (t : List (Int × Int)) : List (Int × Int) := ui1591 :: ui1591 :: ui68 :: t
def nd_501_1pf_0 (t : List zFa) : List zFa := (0, (false, 39, 0, []), 0, 0, 0, [(35, 1)]) :: (0, (false, 33, 0, []), 0, 0, 0, [(36, 1)]) :: (17, (true, 0, 1, [(11, (-1))]), 0, 0, 0, [(37, 1)]) :: (16, (true, 0, 1, [(11, (-1))]), 0, 0, 0, [(38, 1)]) :: (15, (true, 0, 1, [(11, (-1))]), 0, 0, 0, [(39, 1)]) :: (14, (true, 0, 1, [(11, (-1))]), 0, 0, 0, [(40, 1)]) :: uF1994 :: (0, (false, 20, 0, []), 0, 0, 0, [(42, 1)]) :: t
def nd_501_1pf_1 (t : List zFa) : List zFa := uF1953 :: uF1984 :: uF1969 :: uF1970 :: uF1971 :: uF166 :: uF32 :: uF1194 :: t
def nd_501_1pf_2 (t : List zFa) : List zFa := uF1985 :: uF1909 :: uF1910 :: uF1986 :: uF1915 :: uF1916 :: uF1917 :: uF1918 :: t
def nd_501_1pf_3 (t : List zFa) : List zFa := uF1394 :: uF1395 :: uF1396 :: uF431 :: uF537 :: uF1112 :: uF1816 :: uF1825 :: t
def nd_501_1pf_4 (t : List zFa) : List zFa := uF1826 :: uF1827 :: uF458 :: uF1919 :: uF1920 :: uF1921 :: uF1922 :: uF1923 :: t
def nd_501_1pf_5 (t : List zFa) : List zFa := uF1924 :: uF1925 :: uF1926 :: uF1927 :: uF1928 :: uF1929 :: uF1930 :: uF1931 :: t
def nd_501_1pf_6 (t : List zFa) : List zFa := uF1932 :: uF1933 :: uF1934 :: uF1935 :: uF1936 :: uF1937 :: uF1938 :: uF1939 :: t
def nd_501_1pf_7 (t : List zFa) : List zFa := (3, (true, 0, 1, [(11, (-1))]), 0, 0, 0, [(42, 1)]) :: t
def nd_501_1pg_0 (t : List zTg) : List zTg := uG1954 :: uG1955 :: uG1956 :: uG1957 :: uG1958 :: uG1959 :: uG1943 :: uG1944 :: t
def nd_501_1pg_1 (t : List zTg) : List zTg := uG1945 :: uG1946 :: uG1947 :: uG1948 :: uG1950 :: uG1366 :: uG1364 :: uG1900 :: t
def nd_501_1pg_2 (t : List zTg) : List zTg := uG1941 :: uG1365 :: uG1949 :: (3, [uL1942, uL1846, uL1846, uL1845, uL1878, uL1879, uL1988]) :: (58, [uL9, uL1875]) :: (40, [uL9, uL1875, uL63, uL63, uL63, uL1995, uL1884, uL1874, uL1876, uL1989]) :: (64, [uL9, uL1875, uL1995]) :: (78, [uL9, uL1875, uL1942]) :: t
def nd_501_1pg_3 (t : List zTg) : List zTg := uG1943 :: uG1944 :: (86, [uL9, uL1875, uL266, uL1883]) :: (86, [uL9, uL1875, uL283, uL1855]) :: (86, [uL9, uL1875, uL285, uL1848]) :: (86, [uL9, uL1875, uL287, uL1847]) :: uG1945 :: uG1946 :: t
def nd_501_1pg_4 (t : List zTg) : List zTg := uG1947 :: uG1948 :: (95, [uL9, uL1875, uL1995, uL1942, (6, [(11, (-6)), (42, 1)])]) :: uG1949 :: (216, [uL9, uL1875, uL1942, uL1845, uL63, uL1846, uL63]) :: t
def nd_501_1p : zS := ((nd_501_1pi_0 (nd_501_1pi_1 (nd_501_1pi_2 (nd_501_1pi_3 (nd_501_1pi_4 (nd_501_1pi_5 (nd_501_1pi_6 []))))))), (cx_501pr_0 (cx_501pr_1 (cx_501pr_2 (cx_501pr_3 [])))), [(0, [(1, (-1)), (34, 1)]), uL1993, (420, [(11, (-420)), (35, (-1)), (44, 1)]), (520, [(11, (-520)), (36, (-4)), (44, 1)])], [uV2, uV1961], [], (nd_501_1pf_0 (nd_501_1pf_1 (nd_501_1pf_2 (nd_501_1pf_3 (nd_501_1pf_4 (nd_501_1pf_5 (nd_501_1pf_6 (nd_501_1pf_7 [])))))))), (nd_501_1pg_0 (nd_501_1pg_1 (nd_501_1pg_2 (nd_501_1pg_3 (nd_501_1pg_4 []))))))
def nd_501_1 : zN := (112, nd_501_1p, (399273, [(44, (-998))]))
def ns_501 : List zN := [nd_501_0, nd_501_1]
set_option maxRecDepth 1000000 in
theorem ca_501 : x_okA mLT1 cq_501 mTS2 mTC2 mRUp cx_501 cs_501 hs_501 ns_501 (429327, []) 67778300 76 = true := by decide +kernel
set_option maxRecDepth 1000000 in
theorem cb_501_0 : x_okB mLT1 cq_501 mTS2 mTC2 mRUp cx_501 cs_501 hs_501 ns_501 (429327, []) 67778300 76 nd_501_0 = true := by decide +kernel
set_option maxRecDepth 1000000 in
theorem cb_501_1 : x_okB mLT1 cq_501 mTS2 mTC2 mRUp cx_501 cs_501 hs_501 ns_501 (429327, []) 67778300 76 nd_501_1 = true := by decide +kernel
set_option maxRecDepth 1000000 in
theorem cc_501 : x_okC mLT1 cq_501 mTS2 mTC2 mRUp cx_501 cs_501 hs_501 ns_501 (429327, []) 67778300 76 = true := by decide +kernel
theorem ck_501 : x_ok mLT1 cq_501 mTS2 mTC2 mRUp cx_501 cs_501 hs_501 ns_501 (429327, []) 67778300 76 = true := x_ok_of ca_501 (List.forall_mem_cons.mpr ⟨cb_501_0, List.forall_mem_cons.mpr ⟨cb_501_1, fun _ h => absurd h List.not_mem_nil⟩⟩) cc_501
theorem sn_501 {W : Bool} {X : List Int32} : y_Snd (mGw W) mLT1 (J2 W X) X cx_501 := y_ok J2_J mTS2_ok1 mTC2_ok1 mRUp_ok1 (List.forall_mem_cons.mpr ⟨sn_409, List.forall_mem_cons.mpr ⟨sn_410, List.forall_mem_cons.mpr ⟨sn_411, List.forall_mem_cons.mpr ⟨sn_498, List.forall_mem_cons.mpr ⟨sn_499, List.forall_mem_cons.mpr ⟨sn_500, fun _ h => absurd h List.not_mem_nil⟩⟩⟩⟩⟩⟩) ck_501
end
