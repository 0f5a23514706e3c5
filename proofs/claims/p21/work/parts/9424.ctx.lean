noncomputable section
/-! ===== readings, by program, checked by the kernel ===== -/
def cx_502pi_0 (t : List (Int × Int)) : List (Int × Int) := ui0 :: ui52 :: ui52 :: ui141 :: ui68 :: (0, 7) :: (0, 2) :: ui52 :: t
def cx_502pi_1 (t : List (Int × Int)) : List (Int × Int) := (0, 5) :: ui52 :: ui1903 :: (0, 1) :: (0, 1) :: (0, 6) :: ui1593 :: ui1591 :: t
def cx_502pi_2 (t : List (Int × Int)) : List (Int × Int) := ui1592 :: ui49 :: (0, 1) :: ui439 :: ui48 :: (0, 1) :: (0, 6) :: ui196 :: t
def cx_502pi_3 (t : List (Int × Int)) : List (Int × Int) := ui196 :: ui196 :: ui196 :: (0, 1) :: (0, 6) :: (0, 1) :: ui31 :: (0, 1) :: t
def cx_502pi_4 (t : List (Int × Int)) : List (Int × Int) := (0, 1) :: (0, 1) :: (0, 6) :: (0, 6) :: ui49 :: ui49 :: t
def cx_502pg_0 (t : List zTg) : List zTg := uG1940 :: uG1900 :: uG1941 :: uG1365 :: uG1943 :: uG1944 :: uG1945 :: uG1946 :: t
def cx_502pg_1 (t : List zTg) : List zTg := uG1947 :: uG1948 :: uG1949 :: uG1950 :: uG1996 :: t
def cx_502p : zS := ((cx_502pi_0 (cx_502pi_1 (cx_502pi_2 (cx_502pi_3 (cx_502pi_4 []))))), (cx_501pr_0 (cx_501pr_1 (cx_501pr_2 (cx_501pr_3 [])))), [], [], [uV2], (cx_501pf_0 (cx_501pf_1 (cx_501pf_2 (cx_501pf_3 (cx_501pf_4 (cx_501pf_5 (cx_501pf_6 []))))))), (cx_502pg_0 (cx_502pg_1 [])))
def cx_502q0i_0 (t : List (Int × Int)) : List (Int × Int) := ui0 :: ui52 :: ui52 :: ui141 :: ui68 :: (0, 7) :: (0, 2) :: ui52 :: t
def cx_502q0i_1 (t : List (Int × Int)) : List (Int × Int) := (0, 5) :: ui52 :: ui1903 :: (0, 1) :: (0, 1) :: (0, 6) :: ui1593 :: ui1591 :: t
def cx_502q0i_2 (t : List (Int × Int)) : List (Int × Int) := ui1592 :: ui49 :: (0, 1) :: ui439 :: ui48 :: (0, 1) :: (0, 6) :: ui196 :: t
def cx_502q0i_3 (t : List (Int × Int)) : List (Int × Int) := ui196 :: ui196 :: ui196 :: (0, 1) :: (0, 6) :: (0, 1) :: ui31 :: (0, 1) :: t
def cx_502q0i_4 (t : List (Int × Int)) : List (Int × Int) := (0, 1) :: (0, 1) :: (0, 6) :: (0, 6) :: ui49 :: ui49 :: (1, 2) :: ui52 :: t
def cx_502q0i_5 (t : List (Int × Int)) : List (Int × Int) := ui68 :: ui48 :: (0, 7) :: (0, 5) :: ui52 :: (0, 6) :: ui1842 :: ui1591 :: t
def cx_502q0i_6 (t : List (Int × Int)) : List (Int × Int) := ui1592 :: t
def cx_502q0f_0 (t : List zFa) : List zFa := uF1997 :: (0, (false, 14, 0, []), 0, 0, 0, [(39, 1)]) :: (0, (false, 13, 0, []), 0, 0, 0, [(38, 1)]) :: (0, (false, 11, 0, []), 0, 0, 0, [(40, 1)]) :: uF1994 :: uF1994 :: (0, (false, 12, 0, []), 0, 0, 0, [(42, 1)]) :: uF1984 :: t
def cx_502q0f_1 (t : List zFa) : List zFa := (0, (false, 16, 0, []), 0, 0, 0, [(44, 1)]) :: (0, (false, 20, 0, []), 0, 0, 0, [(45, 1)]) :: (0, (false, 33, 0, []), 0, 0, 0, [(46, 1)]) :: (0, (false, 39, 0, []), 0, 0, 0, [(47, 1)]) :: (0, (false, 43, 0, []), 0, 0, 0, [(48, 1)]) :: uF1994 :: (3, (true, 0, 1, [(11, (-1))]), 0, 0, 0, [(45, 1)]) :: uF1953 :: t
def cx_502q0f_2 (t : List zFa) : List zFa := uF166 :: uF32 :: uF1910 :: uF1915 :: uF1916 :: uF1917 :: uF1918 :: uF1935 :: t
def cx_502q0f_3 (t : List zFa) : List zFa := uF1936 :: uF1937 :: t
def cx_502q0g_0 (t : List zTg) : List zTg := uG1940 :: uG1943 :: uG1944 :: uG1945 :: uG1946 :: uG1947 :: uG1948 :: uG1949 :: t
def cx_502q0g_1 (t : List zTg) : List zTg := uG1950 :: uG1954 :: uG1955 :: uG1956 :: uG1957 :: uG1958 :: uG1959 :: uG1366 :: t
def cx_502q0g_2 (t : List zTg) : List zTg := uG1364 :: uG1900 :: uG1996 :: uG1998 :: uG1365 :: uG1943 :: uG1944 :: uG1945 :: t
def cx_502q0g_3 (t : List zTg) : List zTg := uG1946 :: uG1947 :: uG1948 :: uG1949 :: uG1996 :: t
def cx_502q0 : zS := ((cx_502q0i_0 (cx_502q0i_1 (cx_502q0i_2 (cx_502q0i_3 (cx_502q0i_4 (cx_502q0i_5 (cx_502q0i_6 []))))))), (cx_501pr_0 (cx_501pr_1 (cx_501pr_2 (cx_501pr_3 [])))), [], [], [uV1999], (cx_502q0f_0 (cx_502q0f_1 (cx_502q0f_2 (cx_502q0f_3 [])))), (cx_502q0g_0 (cx_502q0g_1 (cx_502q0g_2 (cx_502q0g_3 [])))))
def cx_502q1i_0 (t : List (Int × Int)) : List (Int × Int) := ui0 :: ui52 :: ui52 :: ui141 :: ui68 :: (0, 7) :: (0, 2) :: ui52 :: t
def cx_502q1i_1 (t : List (Int × Int)) : List (Int × Int) := (0, 5) :: ui52 :: ui1903 :: (0, 1) :: (0, 1) :: (0, 6) :: ui1593 :: ui1591 :: t
def cx_502q1i_2 (t : List (Int × Int)) : List (Int × Int) := ui1592 :: ui49 :: (0, 1) :: ui439 :: ui48 :: (0, 1) :: (0, 6) :: ui196 :: t
def cx_502q1i_3 (t : List (Int × Int)) : List (Int × Int) := ui196 :: ui196 :: ui196 :: (0, 1) :: (0, 6) :: (0, 1) :: ui31 :: (0, 1) :: t
def cx_502q1i_4 (t : List (Int × Int)) : List (Int × Int) := (0, 1) :: (0, 1) :: (0, 6) :: (0, 6) :: ui49 :: ui49 :: (1, 5) :: ui52 :: t
def cx_502q1i_5 (t : List (Int × Int)) : List (Int × Int) := ui1611 :: ui1610 :: ui196 :: ui196 :: ui196 :: ui196 :: ui48 :: (0, 6) :: t
def cx_502q1i_6 (t : List (Int × Int)) : List (Int × Int) := ui68 :: ui1592 :: t
def cx_502q1f_0 (t : List zFa) : List zFa := uF1997 :: uF2000 :: uF2001 :: uF2002 :: uF2003 :: uF2004 :: uF2005 :: uF2006 :: t
def cx_502q1f_1 (t : List zFa) : List zFa := (0, (false, 20, 0, []), 0, 0, 0, [(47, 1)]) :: uF1953 :: uF1868 :: uF1969 :: uF1970 :: uF2007 :: uF166 :: uF32 :: t
def cx_502q1f_2 (t : List zFa) : List zFa := uF1194 :: uF1869 :: uF1910 :: (0, (false, 43, 0, []), 0, 0, 0, [(49, 1)]) :: uF1915 :: uF1916 :: uF1917 :: uF1918 :: t
def cx_502q1f_3 (t : List zFa) : List zFa := uF1935 :: uF1936 :: uF1937 :: (3, (true, 0, 1, [(11, (-1))]), 0, 0, 0, [(47, 1)]) :: t
def cx_502q1g_0 (t : List zTg) : List zTg := uG1940 :: uG1972 :: uG1973 :: uG1954 :: uG1955 :: uG1956 :: uG1957 :: uG1958 :: t
def cx_502q1g_1 (t : List zTg) : List zTg := uG1959 :: uG1943 :: uG1944 :: uG1945 :: uG1946 :: uG1947 :: uG1948 :: uG1950 :: t
def cx_502q1g_2 (t : List zTg) : List zTg := uG1366 :: uG1364 :: uG1900 :: uG1949 :: uG1996 :: uG1998 :: uG1365 :: uG1943 :: t
def cx_502q1g_3 (t : List zTg) : List zTg := uG1944 :: uG1945 :: uG1946 :: uG1947 :: uG1948 :: uG1949 :: uG1996 :: t
def cx_502q1 : zS := ((cx_502q1i_0 (cx_502q1i_1 (cx_502q1i_2 (cx_502q1i_3 (cx_502q1i_4 (cx_502q1i_5 (cx_502q1i_6 []))))))), (cx_501pr_0 (cx_501pr_1 (cx_501pr_2 (cx_501pr_3 [])))), [uL2008, uL2009], [], [uV1999], (cx_502q1f_0 (cx_502q1f_1 (cx_502q1f_2 (cx_502q1f_3 [])))), (cx_502q1g_0 (cx_502q1g_1 (cx_502q1g_2 (cx_502q1g_3 [])))))
def cx_502q2i_0 (t : List (Int × Int)) : List (Int × Int) := ui0 :: ui52 :: ui52 :: ui141 :: ui68 :: (0, 7) :: (0, 2) :: ui52 :: t
def cx_502q2i_1 (t : List (Int × Int)) : List (Int × Int) := (0, 5) :: ui52 :: ui1903 :: (0, 1) :: (0, 1) :: (0, 6) :: ui1593 :: ui1591 :: t
def cx_502q2i_2 (t : List (Int × Int)) : List (Int × Int) := ui1592 :: ui49 :: (0, 1) :: ui439 :: ui48 :: (0, 1) :: (0, 6) :: ui196 :: t
def cx_502q2i_3 (t : List (Int × Int)) : List (Int × Int) := ui196 :: ui196 :: ui196 :: (0, 1) :: (0, 6) :: (0, 1) :: ui31 :: (0, 1) :: t
def cx_502q2i_4 (t : List (Int × Int)) : List (Int × Int) := (0, 1) :: (0, 1) :: (0, 6) :: (0, 6) :: ui49 :: ui49 :: ui196 :: (0, 6) :: t
def cx_502q2i_5 (t : List (Int × Int)) : List (Int × Int) := ui1611 :: ui1610 :: ui196 :: ui196 :: ui196 :: ui196 :: ui48 :: (0, 0) :: t
def cx_502q2i_6 (t : List (Int × Int)) : List (Int × Int) := ui68 :: ui52 :: ui1592 :: (0, 6) :: ui196 :: ui196 :: ui196 :: ui196 :: t
def cx_502q2f_0 (t : List zFa) : List zFa := uF1976 :: uF1977 :: uF1978 :: uF1979 :: uF1980 :: uF1892 :: (0, (false, 49, 0, []), 0, 0, 0, [(38, 1)]) :: uF2010 :: t
def cx_502q2f_1 (t : List zFa) : List zFa := uF1982 :: uF1983 :: uF2000 :: uF2001 :: uF2002 :: uF2003 :: uF2004 :: uF2005 :: t
def cx_502q2f_2 (t : List zFa) : List zFa := uF2006 :: uF1882 :: uF1953 :: uF2011 :: uF1969 :: uF1970 :: uF2007 :: uF166 :: t
def cx_502q2f_3 (t : List zFa) : List zFa := uF32 :: uF1194 :: uF2012 :: uF2013 :: uF2010 :: t
def cx_502q2g_0 (t : List zTg) : List zTg := uG1899 :: uG1900 :: uG1901 :: uG1894 :: uG1895 :: uG470 :: uG1987 :: uG1972 :: t
def cx_502q2g_1 (t : List zTg) : List zTg := uG1973 :: uG1954 :: uG1955 :: uG1956 :: uG1957 :: uG1958 :: uG1959 :: uG1943 :: t
def cx_502q2g_2 (t : List zTg) : List zTg := uG1944 :: uG1945 :: uG1946 :: uG1947 :: uG1948 :: uG1950 :: uG1366 :: uG1364 :: t
def cx_502q2g_3 (t : List zTg) : List zTg := uG1949 :: uG470 :: uG1365 :: uG1973 :: (76, [uL9, uL1990]) :: (85, [uL1942, uL1990, uL195]) :: (87, [uL9, uL266, uL2014]) :: (88, [uL1942, uL2014, uL195]) :: t
def cx_502q2g_4 (t : List zTg) : List zTg := (87, [uL9, uL283, uL2015]) :: (89, [uL1942, uL2015, uL195]) :: (87, [uL9, uL285, uL2016]) :: (90, [uL1942, uL2016, uL195]) :: (87, [uL9, uL287, uL2017]) :: (91, [uL1942, uL2017, uL195]) :: (96, [uL9, uL1990, uL1942]) :: uG1972 :: t
def cx_502q2g_5 (t : List zTg) : List zTg := (275, [uL1942, uL1990]) :: t
def cx_502q2 : zS := ((cx_502q2i_0 (cx_502q2i_1 (cx_502q2i_2 (cx_502q2i_3 (cx_502q2i_4 (cx_502q2i_5 (cx_502q2i_6 []))))))), (cx_501pr_0 (cx_501pr_1 (cx_501pr_2 (cx_501pr_3 [])))), [uL2008, uL2009], [], [uV62], (cx_502q2f_0 (cx_502q2f_1 (cx_502q2f_2 (cx_502q2f_3 [])))), (cx_502q2g_0 (cx_502q2g_1 (cx_502q2g_2 (cx_502q2g_3 (cx_502q2g_4 (cx_502q2g_5 [])))))))
/-- M.read -/
def cx_502 : zCtx := (195, cx_502p, [cx_502q0, cx_502q1, cx_502q2], kc_79, 68207627, 7, 147)
def cq_502 : List zCtx := [cx_409, cx_410, cx_411, cx_498, cx_499, cx_500]
def cs_502 : List (Nat × List Nat) := [(42, [0]), (85, [1]), (121, [2]), (128, [3]), (200, [4]), (204, [5])]
def hs_502 : List (Nat × List Nat) := [(9, [1000412]), (30, [1000413]), (36, [1000414]), (88, [10]), (109, uN1991), (119, [1000246]), (131, [740, 1000411]), (134, uN1992), (174, [16]), (178, [1000419]), (186, [16]), (190, [1000419]), (191, [15, 1000457, 1000507, 1000508, 1000509, 1000510]), (192, [1000420]), (207, [1000747])]
def nd_502_0pi_0 (t : List (Int × Int)) : List (Int × Int) := ui0 :: ui52 :: ui52 :: ui141 :: ui68 :: (0, 7) :: (0, 2) :: ui52 :: t
def nd_502_0pi_1 (t : List (Int × Int)) : List (Int × Int) := (0, 5) :: ui52 :: ui1903 :: (0, 1) :: (0, 1) :: (0, 6) :: ui1593 :: ui1591 :: t
def nd_502_0pi_2 (t : List (Int × Int)) : List (Int × Int) := ui1592 :: ui49 :: (0, 1) :: ui439 :: ui48 :: (0, 1) :: (0, 6) :: ui196 :: t
def nd_502_0pi_3 (t : List (Int × Int)) : List (Int × Int) := ui196 :: ui196 :: ui196 :: (0, 1) :: (0, 6) :: (0, 1) :: ui31 :: (0, 1) :: t
def nd_502_0pi_4 (t : List (Int × Int)) : List (Int × Int) := (0, 1) :: (0, 1) :: (0, 6) :: (0, 6) :: ui49 :: ui49 :: ui52 :: t
def nd_502_0pg_0 (t : List zTg) : List zTg := uG1940 :: uG1900 :: uG1941 :: uG1365 :: uG1943 :: uG1944 :: uG1945 :: uG1946 :: t
def nd_502_0pg_1 (t : List zTg) : List zTg := uG1947 :: uG1948 :: uG1949 :: uG1950 :: uG1996 :: (54, [uL1848]) :: t
def nd_502_0p : zS := ((nd_502_0pi_0 (nd_502_0pi_1 (nd_502_0pi_2 (nd_502_0pi_3 (nd_502_0pi_4 []))))), (cx_501pr_0 (cx_501pr_1 (cx_501pr_2 (cx_501pr_3 [])))), [uL2018], [uV2, uV1999], [], (nd_501_0pf_0 (nd_501_0pf_1 (nd_501_0pf_2 (nd_501_0pf_3 (nd_501_0pf_4 (nd_501_0pf_5 (nd_501_0pf_6 []))))))), (nd_502_0pg_0 (nd_502_0pg_1 [])))
def nd_502_0 : zN := (10, nd_502_0p, (429320, [(38, (-15))]))
def nd_502_1pi_0 (t : List (Int × Int)) : List (Int × Int) := ui0 :: ui52 :: ui52 :: ui141 :: ui68 :: (0, 7) :: (0, 2) :: ui52 :: t
def nd_502_1pi_1 (t : List (Int × Int)) : List (Int × Int) := (0, 5) :: ui52 :: ui1903 :: (0, 1) :: (0, 1) :: (0, 6) :: ui1593 :: ui1591 :: t
def nd_502_1pi_2 (t : List (Int × Int)) : List (Int × Int) := ui1592 :: ui49 :: (0, 1) :: ui439 :: ui48 :: (0, 1) :: (0, 6) :: ui196 :: t
def nd_502_1pi_3 (t : List (Int × Int)) : List (Int × Int) := ui196 :: ui196 :: ui196 :: (0, 1) :: (0, 6) :: (0, 1) :: ui31 :: (0, 1) :: t
def nd_502_1pi_4 (t : List (Int × Int)) : List (Int × Int) := (0, 1) :: (0, 1) :: (0, 6) :: (0, 6) :: ui49 :: ui49 :: ui52 :: ui1611 :: t
def nd_502_1pi_5 (t : List (Int × Int)) : List (Int × Int) := ui1610 :: ui196 :: ui196 :: ui196 :: ui196 :: ui48 :: (0, 6) :: (0, 5) :: t
def nd_502_1pi_6 (t : List (Int × Int)) : List (Int × Int) := ui68 :: ui52 :: ui1592 :: (0, 2) :: ui1591 :: ui1591 :: ui68 :: t
def nd_502_1pf_0 (t : List zFa) : List zFa := (0, (false, 39, 0, []), 0, 0, 0, [(39, 1)]) :: uF1870 :: (17, (true, 0, 1, [(11, (-1))]), 0, 0, 0, [(41, 1)]) :: (16, (true, 0, 1, [(11, (-1))]), 0, 0, 0, [(42, 1)]) :: (15, (true, 0, 1, [(11, (-1))]), 0, 0, 0, [(43, 1)]) :: (14, (true, 0, 1, [(11, (-1))]), 0, 0, 0, [(44, 1)]) :: (7, (true, 0, 1, [(11, (-1))]), 0, 0, 0, [(45, 1)]) :: (0, (false, 20, 0, []), 0, 0, 0, [(46, 1)]) :: t
def nd_502_1pf_1 (t : List zFa) : List zFa := uF1953 :: uF2011 :: uF1969 :: uF1970 :: uF2007 :: uF166 :: uF32 :: uF1194 :: t
def nd_502_1pf_2 (t : List zFa) : List zFa := uF2012 :: uF1909 :: uF1910 :: uF2013 :: uF1915 :: uF1916 :: uF1917 :: uF1918 :: t
def nd_502_1pf_3 (t : List zFa) : List zFa := uF1394 :: uF1395 :: uF1396 :: uF431 :: uF537 :: uF1112 :: uF1816 :: uF1825 :: t
def nd_502_1pf_4 (t : List zFa) : List zFa := uF1826 :: uF1827 :: uF458 :: uF1919 :: uF1920 :: uF1921 :: uF1922 :: uF1923 :: t
def nd_502_1pf_5 (t : List zFa) : List zFa := uF1924 :: uF1925 :: uF1926 :: uF1927 :: uF1928 :: uF1929 :: uF1930 :: uF1931 :: t
def nd_502_1pf_6 (t : List zFa) : List zFa := uF1932 :: uF1933 :: uF1934 :: uF1935 :: uF1936 :: uF1937 :: uF1938 :: uF1939 :: t
def nd_502_1pf_7 (t : List zFa) : List zFa := (3, (true, 0, 1, [(11, (-1))]), 0, 0, 0, [(46, 1)]) :: t
def nd_502_1pg_0 (t : List zTg) : List zTg := uG1954 :: uG1955 :: uG1956 :: uG1957 :: uG1958 :: uG1959 :: uG1943 :: uG1944 :: t
def nd_502_1pg_1 (t : List zTg) : List zTg := uG1945 :: uG1946 :: uG1947 :: uG1948 :: uG1950 :: uG1366 :: uG1364 :: uG1900 :: t
def nd_502_1pg_2 (t : List zTg) : List zTg := uG1941 :: uG1365 :: uG1949 :: uG1996 :: (3, [uL1942, uL1883, uL1883, uL1855, uL1990, uL2014, uL2015]) :: (58, [uL9, uL1879]) :: (40, [uL9, uL1879, uL63, uL63, uL63, uL1877, uL1876, uL1878, uL1988, uL2016]) :: (64, [uL9, uL1879, uL1877]) :: t
def nd_502_1pg_3 (t : List zTg) : List zTg := (78, [uL9, uL1879, uL1942]) :: uG1943 :: uG1944 :: (86, [uL9, uL1879, uL266, uL1875]) :: (86, [uL9, uL1879, uL283, uL1874]) :: (86, [uL9, uL1879, uL285, uL1995]) :: (86, [uL9, uL1879, uL287, uL1884]) :: uG1945 :: t
def nd_502_1pg_4 (t : List zTg) : List zTg := uG1946 :: uG1947 :: uG1948 :: (95, [uL9, uL1879, uL1877, uL1942, (6, [(11, (-6)), (46, 1)])]) :: uG1949 :: (216, [uL9, uL1879, uL1942, uL1855, uL63, uL1883, uL63]) :: t
def nd_502_1p : zS := ((nd_502_1pi_0 (nd_502_1pi_1 (nd_502_1pi_2 (nd_502_1pi_3 (nd_502_1pi_4 (nd_502_1pi_5 (nd_502_1pi_6 []))))))), (cx_501pr_0 (cx_501pr_1 (cx_501pr_2 (cx_501pr_3 [])))), [(0, [(1, (-1)), (38, 1)]), uL2018, (420, [(11, (-420)), (39, (-1)), (48, 1)]), (520, [(11, (-520)), (40, (-4)), (48, 1)])], [uV2, uV1999], [], (nd_502_1pf_0 (nd_502_1pf_1 (nd_502_1pf_2 (nd_502_1pf_3 (nd_502_1pf_4 (nd_502_1pf_5 (nd_502_1pf_6 (nd_502_1pf_7 [])))))))), (nd_502_1pg_0 (nd_502_1pg_1 (nd_502_1pg_2 (nd_502_1pg_3 (nd_502_1pg_4 []))))))
def nd_502_1 : zN := (112, nd_502_1p, (399273, [(48, (-998))]))
def ns_502 : List zN := [nd_502_0, nd_502_1]
set_option maxRecDepth 1000000 in
theorem ca_502 : x_okA mLT1 cq_502 mTS2 mTC2 mRUp cx_502 cs_502 hs_502 ns_502 (429327, []) 67778300 76 = true := by decide +kernel
set_option maxRecDepth 1000000 in
theorem cb_502_0 : x_okB mLT1 cq_502 mTS2 mTC2 mRUp cx_502 cs_502 hs_502 ns_502 (429327, []) 67778300 76 nd_502_0 = true := by decide +kernel
set_option maxRecDepth 1000000 in
theorem cb_502_1 : x_okB mLT1 cq_502 mTS2 mTC2 mRUp cx_502 cs_502 hs_502 ns_502 (429327, []) 67778300 76 nd_502_1 = true := by decide +kernel
set_option maxRecDepth 1000000 in
theorem cc_502 : x_okC mLT1 cq_502 mTS2 mTC2 mRUp cx_502 cs_502 hs_502 ns_502 (429327, []) 67778300 76 = true := by decide +kernel
theorem ck_502 : x_ok mLT1 cq_502 mTS2 mTC2 mRUp cx_502 cs_502 hs_502 ns_502 (429327, []) 67778300 76 = true := x_ok_of ca_502 (List.forall_mem_cons.mpr ⟨cb_502_0, List.forall_mem_cons.mpr ⟨cb_502_1, fun _ h => absurd h List.not_mem_nil⟩⟩) cc_502
theorem sn_502 {W : Bool} {X : List Int32} : y_Snd (mGw W) mLT1 (J2 W X) X cx_502 := y_ok J2_J mTS2_ok1 mTC2_ok1 mRUp_ok1 (List.forall_mem_cons.mpr ⟨sn_409, List.forall_mem_cons.mpr ⟨sn_410, List.forall_mem_cons.mpr ⟨sn_411, List.forall_mem_cons.mpr ⟨sn_498, List.forall_mem_cons.mpr ⟨sn_499, List.forall_mem_cons.mpr ⟨sn_500, fun _ h => absurd h List.not_mem_nil⟩⟩⟩⟩⟩⟩) ck_502
/-- M.place -/
def cx_503 : zCtx := (220, ([ui0, ui1903], [ur1331], [], [], [uV2], [(0, (false, 17, 0, []), 0, 0, 0, [(1, 1)])], []), [([ui0, ui1903], [ur1331], [], [], [uV11], [], [])], [], 3, 0, 0)
set_option maxRecDepth 1000000 in
theorem ck_503 : x_ok mLT1 [] mTS2 mTC2 mRUp cx_503 [] [] [] (3, []) 0 6 = true := by decide +kernel
theorem sn_503 {W : Bool} {X : List Int32} : y_Snd (mGw W) mLT1 (J2 W X) X cx_503 := y_ok J2_J mTS2_ok1 mTC2_ok1 mRUp_ok1 (fun _ h => absurd h List.not_mem_nil) ck_503
/-- M.in -/
def cx_504 : zCtx := (223, ([ui0, ui49, (0, 1), ui2019], [], [], [], [uV11, uV12, uV58], [], []), [([ui0, ui584, (0, 1), ui584], [], [uL66, uL60], [], [uV64], [], []), ([ui0, ui510, (0, 1), ui2019], [], [uL1367, uL60], [], [uV62], [], []), ([ui0, ui1209, (0, 1), ui2019], [], [uL57], [], [uV62], [], [])], [], 9, 0, 0)
set_option maxRecDepth 1000000 in
theorem ck_504 : x_ok mLT1 [] mTS2 mTC2 mRUp cx_504 [] [] [] (9, []) 0 12 = true := by decide +kernel
theorem sn_504 {W : Bool} {X : List Int32} : y_Snd (mGw W) mLT1 (J2 W X) X cx_504 := y_ok J2_J mTS2_ok1 mTC2_ok1 mRUp_ok1 (fun _ h => absurd h List.not_mem_nil) ck_504
/-- M.isHouse -/
def cx_505 : zCtx := (222, ([ui0, ui49, (0, 1), (0, 6)], [ur1331, ur1380], [], [], [uV2, uV11], [uF2020, uF1495], [uG2022]), [([ui0, ui262, (0, 1), (0, 6)], [ur1331, ur1380], [uL514], [], [uV62], [], []), ([ui0, ui510, (0, 1), (0, 6)], [ur1331, ur1380], [uL571, uL571], [], [uV62], [], []), ([ui0, (0, 5), (0, 1), (1, 6)], [ur1331, ur1380], [uL514, uL9, uL514], [], [uV64], [], [])], [], 20, 1, 22)
set_option maxRecDepth 1000000 in
theorem ck_505 : x_ok mLT1 [cx_504] mTS2 mTC2 mRUp cx_505 [(13, [0])] [(16, uN2023)] [] (11, []) 9 14 = true := by decide +kernel
theorem sn_505 {W : Bool} {X : List Int32} : y_Snd (mGw W) mLT1 (J2 W X) X cx_505 := y_ok J2_J mTS2_ok1 mTC2_ok1 mRUp_ok1 (List.forall_mem_cons.mpr ⟨sn_504, fun _ h => absurd h List.not_mem_nil⟩) ck_505
def cx_506pi_0 (t : List (Int × Int)) : List (Int × Int) := ui0 :: ui49 :: ui49 :: (0, 1) :: ui49 :: (0, 1) :: ui31 :: (0, 6) :: t
def cx_506pi_1 (t : List (Int × Int)) : List (Int × Int) := (0, 6) :: ui49 :: ui49 :: t
def cx_506pr_0 (t : List (Nat × Bool)) : List (Nat × Bool) := ur1331 :: ur1378 :: ur1379 :: ur1389 :: ur1390 :: ur1391 :: ur1392 :: ur1393 :: t
def cx_506pr_1 (t : List (Nat × Bool)) : List (Nat × Bool) := ur1387 :: ur1388 :: ur1380 :: ur1492 :: ur1493 :: ur1885 :: t
def cx_506pf_0 (t : List zFa) : List zFa := uF2024 :: uF2025 :: uF2026 :: uF1394 :: uF1395 :: uF2027 :: uF2028 :: uF2029 :: t
def cx_506pf_1 (t : List zFa) : List zFa := uF2030 :: uF2031 :: uF1625 :: uF1626 :: uF2032 :: uF2033 :: uF2034 :: uF2035 :: t
def cx_506p : zS := ((cx_506pi_0 (cx_506pi_1 [])), (cx_506pr_0 (cx_506pr_1 [])), [uL1172, uL2036], [], [uV2, uV11, uV12], (cx_506pf_0 (cx_506pf_1 [])), [uG2037, uG2039, uG2040, uG2041, uG2042])
/-- M.house -/
def cx_506 : zCtx := (221, cx_506p, [([ui0, ui49, ui49, (0, 1), ui49, (0, 1), ui31, (0, 6), (0, 6), ui49, ui49], [ur1331, ur1378, ur1379, ur1389, ur1390, ur1391, ur1392, ur1393, ur1387, ur1388, ur1380, ur1492, ur1493, ur1885], [uL2036], [], [uV61], [], [uG2042])], [], 26, 2, 43)
set_option maxRecDepth 1000000 in
theorem ck_506 : x_ok mLT1 [cx_505] mTS2 mTC2 mRUp cx_506 [(2, [0])] [] [] (6, []) 20 9 = true := by decide +kernel
theorem sn_506 {W : Bool} {X : List Int32} : y_Snd (mGw W) mLT1 (J2 W X) X cx_506 := y_ok J2_J mTS2_ok1 mTC2_ok1 mRUp_ok1 (List.forall_mem_cons.mpr ⟨sn_505, fun _ h => absurd h List.not_mem_nil⟩) ck_506
def cx_507p : zS := ((cx_506pi_0 (cx_506pi_1 [])), (cx_506pr_0 (cx_506pr_1 [])), [uL1172, uL568], [], [uV2, uV11, uV12], (cx_506pf_0 (cx_506pf_1 [])), [uG2037, uG2039, uG2040, uG2041, uG2042])
/-- M.house -/
def cx_507 : zCtx := (221, cx_507p, [([ui0, ui49, ui49, (0, 1), ui49, (0, 1), ui31, (0, 6), (0, 6), ui49, ui49], [ur1331, ur1378, ur1379, ur1389, ur1390, ur1391, ur1392, ur1393, ur1387, ur1388, ur1380, ur1492, ur1493, ur1885], [uL568], [], [uV61], [], [uG2042])], [], 26, 2, 43)
set_option maxRecDepth 1000000 in
theorem ck_507 : x_ok mLT1 [cx_505] mTS2 mTC2 mRUp cx_507 [(2, [0])] [] [] (6, []) 20 9 = true := by decide +kernel
theorem sn_507 {W : Bool} {X : List Int32} : y_Snd (mGw W) mLT1 (J2 W X) X cx_507 := y_ok J2_J mTS2_ok1 mTC2_ok1 mRUp_ok1 (List.forall_mem_cons.mpr ⟨sn_505, fun _ h => absurd h List.not_mem_nil⟩) ck_507
/-- M.copies -/
def cx_508 : zCtx := (224, ([ui0, (0, 1), ui49, (0, 1), ui196], [ur1331, ur1885, ur1905, ur1386], [], [], [uV2], [uF1886, uF1887, uF1888, uF1889, uF2043, uF2044, uF1891], []), [([ui0, (0, 1), ui49, (0, 1), ui196, (0, 6)], [ur1331, ur1885, ur1905, ur1386], [], [], [], [uF1892, uF2025, uF2045], [uG1899, uG1895, uG1899])], [uk1896, uk1897, uk1898], 445, 0, 0)
def cq_508 : List zCtx := []
def cs_508 : List (Nat × List Nat) := []
def hs_508 : List (Nat × List Nat) := [(0, [81]), (26, [82, 1000698])]
def ns_508 : List zN := []
set_option maxRecDepth 1000000 in
theorem ca_508 : x_okA mLT1 cq_508 mTS2 mTC2 mRUp cx_508 cs_508 hs_508 ns_508 (445, []) 0 448 = true := by decide +kernel
set_option maxRecDepth 1000000 in
theorem cc_508 : x_okC mLT1 cq_508 mTS2 mTC2 mRUp cx_508 cs_508 hs_508 ns_508 (445, []) 0 448 = true := by decide +kernel
theorem ck_508 : x_ok mLT1 cq_508 mTS2 mTC2 mRUp cx_508 cs_508 hs_508 ns_508 (445, []) 0 448 = true := x_ok_of ca_508 (fun _ h => absurd h List.not_mem_nil) cc_508
theorem sn_508 {W : Bool} {X : List Int32} : y_Snd (mGw W) mLT1 (J2 W X) X cx_508 := y_ok J2_J mTS2_ok1 mTC2_ok1 mRUp_ok1 (fun _ h => absurd h List.not_mem_nil) ck_508
def cx_509pi_0 (t : List (Int × Int)) : List (Int × Int) := ui0 :: (0, 5) :: ui570 :: (0, 1) :: ui49 :: (0, 1) :: ui31 :: (0, 6) :: t
def cx_509pi_1 (t : List (Int × Int)) : List (Int × Int) := (0, 6) :: ui49 :: ui49 :: t
def cx_509p : zS := ((cx_509pi_0 (cx_509pi_1 [])), (cx_506pr_0 (cx_506pr_1 [])), [uL1172], [], [uV2, uV11, uV12], (cx_506pf_0 (cx_506pf_1 [])), [uG2037, uG2039, uG2040, uG2041, uG2042])
/-- M.house -/
def cx_509 : zCtx := (221, cx_509p, [([ui0, (0, 5), ui570, (0, 1), ui49, (0, 1), ui31, (0, 6), (0, 6), ui49, ui49], [ur1331, ur1378, ur1379, ur1389, ur1390, ur1391, ur1392, ur1393, ur1387, ur1388, ur1380, ur1492, ur1493, ur1885], [uL9, uL2046], [], [uV61], [], [uG1895, uG2042]), ([ui0, (0, 5), ui570, (0, 1), ui49, (0, 1), ui31, (0, 6), (0, 6), ui49, ui49], [ur1331, ur1378, ur1379, ur1389, ur1390, ur1391, ur1392, ur1393, ur1387, ur1388, ur1380, ur1492, ur1493, ur1885], [uL2036], [], [uV61], [], [uG2042])], [uk1896, uk1897, uk1898], 455, 2, 43)
set_option maxRecDepth 1000000 in
theorem ck_509 : x_ok mLT1 [cx_505, cx_508] mTS2 mTC2 mRUp cx_509 [(2, [0]), (11, [1])] [(14, [1000822])] [] (10, []) 445 13 = true := by decide +kernel
theorem sn_509 {W : Bool} {X : List Int32} : y_Snd (mGw W) mLT1 (J2 W X) X cx_509 := y_ok J2_J mTS2_ok1 mTC2_ok1 mRUp_ok1 (List.forall_mem_cons.mpr ⟨sn_505, List.forall_mem_cons.mpr ⟨sn_508, fun _ h => absurd h List.not_mem_nil⟩⟩) ck_509
def cx_510pi_0 (t : List (Int × Int)) : List (Int × Int) := ui0 :: (0, 5) :: ui262 :: (0, 1) :: ui49 :: (0, 1) :: ui31 :: (0, 6) :: t
def cx_510pi_1 (t : List (Int × Int)) : List (Int × Int) := (0, 6) :: ui49 :: ui49 :: t
def cx_510p : zS := ((cx_510pi_0 (cx_510pi_1 [])), (cx_506pr_0 (cx_506pr_1 [])), [uL1172], [], [uV2, uV11, uV12], (cx_506pf_0 (cx_506pf_1 [])), [uG2037, uG2039, uG2040, uG2041, uG2042])
/-- M.house -/
def cx_510 : zCtx := (221, cx_510p, [([ui0, (0, 5), ui262, (0, 1), ui49, (0, 1), ui31, (0, 6), (0, 6), ui49, ui49], [ur1331, ur1378, ur1379, ur1389, ur1390, ur1391, ur1392, ur1393, ur1387, ur1388, ur1380, ur1492, ur1493, ur1885], [uL9, uL2046], [], [uV61], [], [uG1895, uG2042]), ([ui0, (0, 5), ui262, (0, 1), ui49, (0, 1), ui31, (0, 6), (0, 6), ui49, ui49], [ur1331, ur1378, ur1379, ur1389, ur1390, ur1391, ur1392, ur1393, ur1387, ur1388, ur1380, ur1492, ur1493, ur1885], [uL2036], [], [uV61], [], [uG2042])], [uk1896, uk1897, uk1898], 455, 2, 43)
set_option maxRecDepth 1000000 in
theorem ck_510 : x_ok mLT1 [cx_505, cx_508] mTS2 mTC2 mRUp cx_510 [(2, [0]), (11, [1])] [(14, [1000822])] [] (10, []) 445 13 = true := by decide +kernel
theorem sn_510 {W : Bool} {X : List Int32} : y_Snd (mGw W) mLT1 (J2 W X) X cx_510 := y_ok J2_J mTS2_ok1 mTC2_ok1 mRUp_ok1 (List.forall_mem_cons.mpr ⟨sn_505, List.forall_mem_cons.mpr ⟨sn_508, fun _ h => absurd h List.not_mem_nil⟩⟩) ck_510
def cx_511pi_0 (t : List (Int × Int)) : List (Int × Int) := ui0 :: (0, 5) :: (0, 0) :: (0, 1) :: ui49 :: (0, 1) :: ui31 :: (0, 6) :: t
def cx_511pi_1 (t : List (Int × Int)) : List (Int × Int) := (0, 6) :: ui49 :: ui49 :: t
def cx_511p : zS := ((cx_511pi_0 (cx_511pi_1 [])), (cx_506pr_0 (cx_506pr_1 [])), [uL1172], [], [uV2, uV11, uV12], (cx_506pf_0 (cx_506pf_1 [])), [uG2037, uG2039, uG2040, uG2041, uG2042])
def cx_511q0i_0 (t : List (Int × Int)) : List (Int × Int) := ui0 :: (0, 5) :: (0, 0) :: (0, 1) :: ui49 :: (0, 1) :: ui31 :: (0, 6) :: t
def cx_511q0i_1 (t : List (Int × Int)) : List (Int × Int) := (0, 6) :: ui49 :: ui49 :: ui49 :: t
def cx_511q0 : zS := ((cx_511q0i_0 (cx_511q0i_1 [])), (cx_506pr_0 (cx_506pr_1 [])), [uL9, uL2046], [], [uV840], [], [uG1895, uG2042, (238, [uL34, uL63, uL63, uL63, uL63, uL63, uL63, uL63, uL9, uL63, uL195])])
/-- M.house -/
def cx_511 : zCtx := (221, cx_511p, [cx_511q0, ([ui0, (0, 5), (0, 0), (0, 1), ui49, (0, 1), ui31, (0, 6), (0, 6), ui49, ui49], [ur1331, ur1378, ur1379, ur1389, ur1390, ur1391, ur1392, ur1393, ur1387, ur1388, ur1380, ur1492, ur1493, ur1885], [uL2036], [], [uV61], [], [uG2042])], [uk1896, uk1897, uk1898], 458, 2, 43)
set_option maxRecDepth 1000000 in
theorem ck_511 : x_ok mLT1 [cx_505, cx_508] mTS2 mTC2 mRUp cx_511 [(2, [0]), (11, [1])] [(14, [1000822]), (70, [1000831])] [] (13, []) 445 16 = true := by decide +kernel
theorem sn_511 {W : Bool} {X : List Int32} : y_Snd (mGw W) mLT1 (J2 W X) X cx_511 := y_ok J2_J mTS2_ok1 mTC2_ok1 mRUp_ok1 (List.forall_mem_cons.mpr ⟨sn_505, List.forall_mem_cons.mpr ⟨sn_508, fun _ h => absurd h List.not_mem_nil⟩⟩) ck_511
/-- M.strongFirst -/
def cx_512 : zCtx := (225, ([ui0, (0, 5), (0, 1), (0, 6)], [ur1331, ur1492, ur1493], [uL9, uL514], [], [uV2, uV11], [uF2020, (0, (false, 23, 0, []), 2, 1, 0, []), (0, (false, 24, 0, []), 2, 2, 0, [])], [uG2047]), [([ui0, (0, 5), (0, 1), (0, 6), ui196], [ur1331, ur1492, ur1493], [uL9, uL514], [], [uV97], [], [(262, [uL9, uL98])])], [], 10, 0, 0)
set_option maxRecDepth 1000000 in
theorem ck_512 : x_ok mLT1 [] mTS2 mTC2 mRUp cx_512 [] [(14, [1000832])] [] (10, []) 0 13 = true := by decide +kernel
theorem sn_512 {W : Bool} {X : List Int32} : y_Snd (mGw W) mLT1 (J2 W X) X cx_512 := y_ok J2_J mTS2_ok1 mTC2_ok1 mRUp_ok1 (fun _ h => absurd h List.not_mem_nil) ck_512
def cx_513pi_0 (t : List (Int × Int)) : List (Int × Int) := ui0 :: (0, 5) :: (1, 1) :: (0, 1) :: ui49 :: (0, 1) :: ui31 :: (0, 6) :: t
def cx_513pi_1 (t : List (Int × Int)) : List (Int × Int) := (0, 6) :: ui49 :: ui49 :: t
def cx_513p : zS := ((cx_513pi_0 (cx_513pi_1 [])), (cx_506pr_0 (cx_506pr_1 [])), [uL1172], [], [uV2, uV11, uV12], (cx_506pf_0 (cx_506pf_1 [])), [uG2037, uG2039, uG2040, uG2041, uG2042])
/-- M.house -/
def cx_513 : zCtx := (221, cx_513p, [([ui0, (0, 5), (1, 1), (0, 1), ui49, (0, 1), ui31, (0, 6), (0, 6), ui49, ui49, ui49], [ur1331, ur1378, ur1379, ur1389, ur1390, ur1391, ur1392, ur1393, ur1387, ur1388, ur1380, ur1492, ur1493, ur1885], [uL9, uL2046], [], [uV840], [], [uG1895, uG2042, (262, [uL9, uL195])]), ([ui0, (0, 5), (1, 1), (0, 1), ui49, (0, 1), ui31, (0, 6), (0, 6), ui49, ui49], [ur1331, ur1378, ur1379, ur1389, ur1390, ur1391, ur1392, ur1393, ur1387, ur1388, ur1380, ur1492, ur1493, ur1885], [uL2036], [], [uV61], [], [uG2042])], [uk1896, uk1897, uk1898], 457, 2, 43)
set_option maxRecDepth 1000000 in
theorem ck_513 : x_ok mLT1 [cx_505, cx_508, cx_512] mTS2 mTC2 mRUp cx_513 [(2, [0]), (11, [1]), (73, [2])] [(14, [1000822])] [] (12, []) 445 15 = true := by decide +kernel
theorem sn_513 {W : Bool} {X : List Int32} : y_Snd (mGw W) mLT1 (J2 W X) X cx_513 := y_ok J2_J mTS2_ok1 mTC2_ok1 mRUp_ok1 (List.forall_mem_cons.mpr ⟨sn_505, List.forall_mem_cons.mpr ⟨sn_508, List.forall_mem_cons.mpr ⟨sn_512, fun _ h => absurd h List.not_mem_nil⟩⟩⟩) ck_513
/-- M.hasPlait -/
def cx_514 : zCtx := (226, ([ui0, (0, 5), ui196], [ur1331, ur1885], [], [], [uV2, uV11], [uF1889, (1, (true, 0, 6, [(1, 1)]), 0, 0, 0, [(2, 1)])], []), [([ui0, (0, 5), ui2048], [ur1331, ur1885], [], [], [uV64], [], []), ([ui0, (0, 5), (0, 0)], [ur1331, ur1885], [], [], [uV62], [], [])], [], 10, 0, 0)
set_option maxRecDepth 1000000 in
theorem ck_514 : x_ok mLT1 [] mTS2 mTC2 mRUp cx_514 [] [] [] (10, []) 0 13 = true := by decide +kernel
theorem sn_514 {W : Bool} {X : List Int32} : y_Snd (mGw W) mLT1 (J2 W X) X cx_514 := y_ok J2_J mTS2_ok1 mTC2_ok1 mRUp_ok1 (fun _ h => absurd h List.not_mem_nil) ck_514
def cx_515pi_0 (t : List (Int × Int)) : List (Int × Int) := ui0 :: (0, 5) :: (0, 1) :: (0, 6) :: ui49 :: ui49 :: ui49 :: ui49 :: t
def cx_515pi_1 (t : List (Int × Int)) : List (Int × Int) := ui49 :: ui49 :: ui49 :: (0, 6) :: t
def cx_515p : zS := ((cx_515pi_0 (cx_515pi_1 [])), [ur1331, ur1380, ur1885], [uL511, uL9, uL514], [], [uV2, uV11], [uF2020, uF1495, uF2049, uF2050], [uG2022, uG2051])
/-- M.placeOf -/
def cx_515 : zCtx := (227, cx_515p, [([ui0, (0, 5), (0, 1), (0, 6), ui49, ui49, ui49, ui49, ui49, ui49, ui49, (0, 6), (0, 5)], [ur1331, ur1380, ur1885], [uL511, uL9, uL514], [], [uV198], [], [(238, [uL252, uL98, uL104, uL78, uL79, uL131, uL164, uL170, uL9, uL63, uL214])]), ([ui0, (0, 5), (0, 1), (0, 6), ui49, ui49, ui49, ui49, ui49, ui49, ui49, (0, 6)], [ur1331, ur1380, ur1885], [uL511, uL9, uL514], [], [uV61], [], [(238, [uL252, uL98, uL104, uL78, uL79, uL131, uL164, uL170, uL9, uL63, uL99])])], [], 113, 0, 0)
def cz_515_0i_0 (t : List (Int × Int)) : List (Int × Int) := ui0 :: (0, 5) :: (0, 1) :: (0, 6) :: ui49 :: ui49 :: ui49 :: ui49 :: t
def cz_515_0i_1 (t : List (Int × Int)) : List (Int × Int) := ui49 :: ui49 :: ui49 :: (0, 6) :: (0, 6) :: t
def cz_515_0g_0 (t : List zTg) : List zTg := (238, [uL287, uL98, uL104, uL78, uL79, uL131, uL164, uL170, uL9, uL63, uL65]) :: uG2022 :: uG2051 :: (238, [uL287, uL98, uL104, uL78, uL79, uL131, uL164, uL170, uL9, uL214, uL65]) :: t
def cz_515_0 : zS := ((cz_515_0i_0 (cz_515_0i_1 [])), [ur1331, ur1380, ur1885], [uL511, uL9, uL514], [uV2, uV11, uV198], [], [uF2020, uF1495, uF2049], (cz_515_0g_0 []))
set_option maxRecDepth 1000000 in
theorem ck_515 : x_ok mLT1 [] mTS2 mTC2 mRUp cx_515 [] [(1, [1000825]), (23, [1000012]), (26, [1000828]), (28, [1000826, 1000827]), (34, [1000829])] [(2, cz_515_0, (110, [(12, (-17))]))] (113, []) 0 19 = true := by decide +kernel
theorem sn_515 {W : Bool} {X : List Int32} : y_Snd (mGw W) mLT1 (J2 W X) X cx_515 := y_ok J2_J mTS2_ok1 mTC2_ok1 mRUp_ok1 (fun _ h => absurd h List.not_mem_nil) ck_515
def cx_516pi_0 (t : List (Int × Int)) : List (Int × Int) := ui0 :: (0, 5) :: (2, 2) :: (0, 1) :: ui49 :: (0, 1) :: ui31 :: (0, 6) :: t
def cx_516pi_1 (t : List (Int × Int)) : List (Int × Int) := (0, 6) :: ui49 :: ui49 :: t
def cx_516p : zS := ((cx_516pi_0 (cx_516pi_1 [])), (cx_506pr_0 (cx_506pr_1 [])), [uL1172], [], [uV2, uV11, uV12], (cx_506pf_0 (cx_506pf_1 [])), [uG2037, uG2039, uG2040, uG2041, uG2042])
def cx_516q1i_0 (t : List (Int × Int)) : List (Int × Int) := ui0 :: (0, 5) :: (2, 2) :: (0, 1) :: ui49 :: (0, 1) :: ui31 :: (0, 6) :: t
def cx_516q1i_1 (t : List (Int × Int)) : List (Int × Int) := (0, 6) :: ui49 :: ui49 :: (0, 5) :: t
def cx_516q1 : zS := ((cx_516q1i_0 (cx_516q1i_1 [])), (cx_506pr_0 (cx_506pr_1 [])), [uL9, uL2046], [], [uV840], [], [uG1895, uG2042, (238, [uL252, uL63, uL63, uL63, uL63, uL63, uL63, uL63, uL9, uL63, uL195])])
/-- M.house -/
def cx_516 : zCtx := (221, cx_516p, [([ui0, (0, 5), (2, 2), (0, 1), ui49, (0, 1), ui31, (0, 6), (0, 6), ui49, ui49], [ur1331, ur1378, ur1379, ur1389, ur1390, ur1391, ur1392, ur1393, ur1387, ur1388, ur1380, ur1492, ur1493, ur1885], [uL9, uL2046], [], [uV567], [], [uG1895, uG2042, uG763]), cx_516q1, ([ui0, (0, 5), (2, 2), (0, 1), ui49, (0, 1), ui31, (0, 6), (0, 6), ui49, ui49], [ur1331, ur1378, ur1379, ur1389, ur1390, ur1391, ur1392, ur1393, ur1387, ur1388, ur1380, ur1492, ur1493, ur1885], [uL2036], [], [uV61], [], [uG2042])], [uk1896, uk1897, uk1898], 462, 2, 43)
set_option maxRecDepth 1000000 in
theorem ck_516 : x_ok mLT1 [cx_505, cx_508, cx_514, cx_515] mTS2 mTC2 mRUp cx_516 [(2, [0]), (11, [1]), (79, [2]), (87, [3])] [(14, [1000822]), (85, [1000823]), (90, [1000830]), (93, [1000823, 1000824])] [] (17, []) 445 20 = true := by decide +kernel
theorem sn_516 {W : Bool} {X : List Int32} : y_Snd (mGw W) mLT1 (J2 W X) X cx_516 := y_ok J2_J mTS2_ok1 mTC2_ok1 mRUp_ok1 (List.forall_mem_cons.mpr ⟨sn_505, List.forall_mem_cons.mpr ⟨sn_508, List.forall_mem_cons.mpr ⟨sn_514, List.forall_mem_cons.mpr ⟨sn_515, fun _ h => absurd h List.not_mem_nil⟩⟩⟩⟩) ck_516
def cx_517pi_0 (t : List (Int × Int)) : List (Int × Int) := ui0 :: (0, 5) :: (3, 3) :: (0, 1) :: ui49 :: (0, 1) :: ui31 :: (0, 6) :: t
def cx_517pi_1 (t : List (Int × Int)) : List (Int × Int) := (0, 6) :: ui49 :: ui49 :: t
def cx_517p : zS := ((cx_517pi_0 (cx_517pi_1 [])), (cx_506pr_0 (cx_506pr_1 [])), [uL1172], [], [uV2, uV11, uV12], (cx_506pf_0 (cx_506pf_1 [])), [uG2037, uG2039, uG2040, uG2041, uG2042])
def cx_517q0i_0 (t : List (Int × Int)) : List (Int × Int) := ui0 :: (0, 5) :: (3, 3) :: (0, 1) :: ui49 :: (0, 1) :: ui31 :: (0, 6) :: t
def cx_517q0i_1 (t : List (Int × Int)) : List (Int × Int) := (0, 6) :: ui49 :: ui49 :: ui49 :: t
def cx_517q0 : zS := ((cx_517q0i_0 (cx_517q0i_1 [])), (cx_506pr_0 (cx_506pr_1 [])), [uL9, uL2046], [], [uV840], [], [uG1895, uG2042, (238, [uL34, uL63, uL63, uL63, uL63, uL63, uL63, uL63, uL565, uL63, uL195])])
/-- M.house -/
def cx_517 : zCtx := (221, cx_517p, [cx_517q0, ([ui0, (0, 5), (3, 3), (0, 1), ui49, (0, 1), ui31, (0, 6), (0, 6), ui49, ui49], [ur1331, ur1378, ur1379, ur1389, ur1390, ur1391, ur1392, ur1393, ur1387, ur1388, ur1380, ur1492, ur1493, ur1885], [uL2036], [], [uV61], [], [uG2042])], [uk1896, uk1897, uk1898], 460, 2, 43)
set_option maxRecDepth 1000000 in
theorem ck_517 : x_ok mLT1 [cx_505, cx_508] mTS2 mTC2 mRUp cx_517 [(2, [0]), (11, [1])] [(14, [1000822]), (105, [1000823])] [] (15, []) 445 18 = true := by decide +kernel
theorem sn_517 {W : Bool} {X : List Int32} : y_Snd (mGw W) mLT1 (J2 W X) X cx_517 := y_ok J2_J mTS2_ok1 mTC2_ok1 mRUp_ok1 (List.forall_mem_cons.mpr ⟨sn_505, List.forall_mem_cons.mpr ⟨sn_508, fun _ h => absurd h List.not_mem_nil⟩⟩) ck_517
def cx_518pi_0 (t : List (Int × Int)) : List (Int × Int) := ui0 :: (0, 5) :: (4, 4) :: (0, 1) :: ui49 :: (0, 1) :: ui31 :: (0, 6) :: t
def cx_518pi_1 (t : List (Int × Int)) : List (Int × Int) := (0, 6) :: ui49 :: ui49 :: t
def cx_518p : zS := ((cx_518pi_0 (cx_518pi_1 [])), (cx_506pr_0 (cx_506pr_1 [])), [uL1172], [], [uV2, uV11, uV12], (cx_506pf_0 (cx_506pf_1 [])), [uG2037, uG2039, uG2040, uG2041, uG2042])
def cx_518q0i_0 (t : List (Int × Int)) : List (Int × Int) := ui0 :: (0, 5) :: (4, 4) :: (0, 1) :: ui49 :: (0, 1) :: ui31 :: (0, 6) :: t
def cx_518q0i_1 (t : List (Int × Int)) : List (Int × Int) := (0, 6) :: ui49 :: ui49 :: ui49 :: t
def cx_518q0 : zS := ((cx_518q0i_0 (cx_518q0i_1 [])), (cx_506pr_0 (cx_506pr_1 [])), [uL9, uL2046], [], [uV840], [], [uG1895, uG2042, (238, [uL34, uL63, uL63, uL63, uL63, uL63, uL63, uL63, uL564, uL63, uL195])])
/-- M.house -/
def cx_518 : zCtx := (221, cx_518p, [cx_518q0, ([ui0, (0, 5), (4, 4), (0, 1), ui49, (0, 1), ui31, (0, 6), (0, 6), ui49, ui49], [ur1331, ur1378, ur1379, ur1389, ur1390, ur1391, ur1392, ur1393, ur1387, ur1388, ur1380, ur1492, ur1493, ur1885], [uL2036], [], [uV61], [], [uG2042])], [uk1896, uk1897, uk1898], 460, 2, 43)
set_option maxRecDepth 1000000 in
theorem ck_518 : x_ok mLT1 [cx_505, cx_508] mTS2 mTC2 mRUp cx_518 [(2, [0]), (11, [1])] [(14, [1000822]), (115, [1000833])] [] (15, []) 445 18 = true := by decide +kernel
theorem sn_518 {W : Bool} {X : List Int32} : y_Snd (mGw W) mLT1 (J2 W X) X cx_518 := y_ok J2_J mTS2_ok1 mTC2_ok1 mRUp_ok1 (List.forall_mem_cons.mpr ⟨sn_505, List.forall_mem_cons.mpr ⟨sn_508, fun _ h => absurd h List.not_mem_nil⟩⟩) ck_518
def cx_519pi_0 (t : List (Int × Int)) : List (Int × Int) := ui0 :: (0, 5) :: (0, 1) :: (0, 6) :: ui49 :: ui49 :: ui49 :: ui49 :: t
def cx_519pi_1 (t : List (Int × Int)) : List (Int × Int) := ui49 :: ui49 :: ui49 :: t
def cx_519p : zS := ((cx_519pi_0 (cx_519pi_1 [])), [ur1331, ur1380, ur1492, ur1493, ur1885], [uL511, uL9, uL514], [], [uV2, uV11], [uF2020, uF1495, uF1890, uF2052, uF2053], [uG2022, uG2047, uG2051])
/-- M.strongOf -/
def cx_519 : zCtx := (230, cx_519p, [([ui0, (0, 5), (0, 1), (1, 6), ui49, ui49, ui49, ui49, ui49, ui49, ui49, ui196], [ur1331, ur1380, ur1492, ur1493, ur1885], [uL514, uL511, uL9], [], [uV840], [], [(238, [uL260, uL98, uL104, uL78, uL79, uL131, uL164, uL170, uL9, uL63, uL195])])], [], 22, 1, 21)
set_option maxRecDepth 1000000 in
theorem ck_519 : x_ok mLT1 [cx_514, cx_512] mTS2 mTC2 mRUp cx_519 [(2, [0]), (22, [1])] [(17, [1000836, 1000838, 1000839]), (25, [1000836, 1000837])] [] (12, []) 10 15 = true := by decide +kernel
theorem sn_519 {W : Bool} {X : List Int32} : y_Snd (mGw W) mLT1 (J2 W X) X cx_519 := y_ok J2_J mTS2_ok1 mTC2_ok1 mRUp_ok1 (List.forall_mem_cons.mpr ⟨sn_514, List.forall_mem_cons.mpr ⟨sn_512, fun _ h => absurd h List.not_mem_nil⟩⟩) ck_519
def cx_520p : zS := ((cx_519pi_0 (cx_519pi_1 [])), [ur1331, ur1380, ur1492, ur1493, ur1885, ur2054], [uL511, uL9, uL514], [], [uV2, uV11], [uF2020, uF1495, uF1890, uF2052, uF2053, (0, (false, 44, 0, []), 2, 5, 0, [])], [uG2022, uG2047, uG2051])
def cx_520q0i_0 (t : List (Int × Int)) : List (Int × Int) := ui0 :: (0, 5) :: (0, 1) :: (1, 6) :: ui49 :: ui49 :: ui49 :: ui49 :: t
def cx_520q0i_1 (t : List (Int × Int)) : List (Int × Int) := ui49 :: ui49 :: ui49 :: ui49 :: (0, 6) :: (0, 5) :: ui49 :: ui196 :: t
def cx_520q0i_2 (t : List (Int × Int)) : List (Int × Int) := ui196 :: t
def cx_520q0f_0 (t : List zFa) : List zFa := (5, (true, 0, 8, []), 0, 0, 0, []) :: (5, (true, 0, 7, []), 0, 0, 0, [(11, 1)]) :: (5, (true, 0, 6, []), 0, 0, 0, [(12, 1)]) :: (5, (true, 0, 5, []), 0, 0, 0, [(1, 1)]) :: (5, (true, 0, 4, []), 0, 0, 0, [(13, 1)]) :: (5, (true, 0, 3, []), 0, 0, 0, [(14, 1)]) :: (5, (true, 0, 2, []), 0, 0, 0, []) :: (5, (true, 0, 1, []), 0, 0, 0, [(15, 1)]) :: t
def cx_520q0f_1 (t : List zFa) : List zFa := (5, (true, 0, 0, []), 0, 0, 0, [(16, 1)]) :: t
def cx_520q0g_0 (t : List zTg) : List zTg := (238, [uL34, uL98, uL104, uL78, uL79, uL131, uL164, uL170, uL9, uL63, uL212]) :: (238, [uL260, uL98, uL104, uL78, uL79, uL131, uL164, uL170, uL9, uL63, uL209]) :: (238, [uL34, uL98, uL104, uL78, uL79, uL131, uL164, uL170, uL525, uL63, uL208]) :: (238, [uL526, uL98, uL104, uL78, uL79, uL131, uL164, uL170, uL9, uL63, uL207]) :: (238, [uL34, uL98, uL104, uL78, uL79, uL131, uL164, uL170, uL527, uL63, uL214]) :: (238, [uL34, uL98, uL104, uL78, uL79, uL131, uL164, uL170, uL528, uL63, uL195]) :: t
def cx_520q0 : zS := ((cx_520q0i_0 (cx_520q0i_1 (cx_520q0i_2 []))), [ur1331, ur1380, ur1492, ur1493, ur1885, ur2054], [uL514, uL511, uL9], [], [], (cx_520q0f_0 (cx_520q0f_1 [])), (cx_520q0g_0 []))
/-- M.views -/
def cx_520 : zCtx := (229, cx_520p, [cx_520q0], [uk2055], 182, 2, 42)
set_option maxRecDepth 1000000 in
theorem ck_520 : x_ok mLT1 [cx_519, cx_514, cx_515] mTS2 mTC2 mRUp cx_520 [(19, [0]), (50, [1]), (58, [2])] [(11, [1000835]), (42, [1000840]), (56, [1000836]), (61, [1000836, 1000830, 1000844]), (64, [1000836, 1000841]), (86, [1000842]), (102, [1000843])] [] (69, []) 113 72 = true := by decide +kernel
theorem sn_520 {W : Bool} {X : List Int32} : y_Snd (mGw W) mLT1 (J2 W X) X cx_520 := y_ok J2_J mTS2_ok1 mTC2_ok1 mRUp_ok1 (List.forall_mem_cons.mpr ⟨sn_519, List.forall_mem_cons.mpr ⟨sn_514, List.forall_mem_cons.mpr ⟨sn_515, fun _ h => absurd h List.not_mem_nil⟩⟩⟩) ck_520
end
