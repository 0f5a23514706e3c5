noncomputable section
/-! ===== readings, by program, checked by the kernel ===== -/
def cx_495pi_0 (t : List (Int × Int)) : List (Int × Int) := ui0 :: ui54 :: ui54 :: ui143 :: ui70 :: (0, 7) :: (0, 2) :: ui54 :: t
def cx_495pi_1 (t : List (Int × Int)) : List (Int × Int) := (0, 5) :: ui54 :: ui1876 :: (0, 1) :: (0, 1) :: (0, 6) :: ui1564 :: ui1562 :: t
def cx_495pi_2 (t : List (Int × Int)) : List (Int × Int) := ui1563 :: ui51 :: (0, 1) :: ui441 :: ui50 :: (0, 1) :: (0, 6) :: ui199 :: t
def cx_495pi_3 (t : List (Int × Int)) : List (Int × Int) := ui199 :: ui199 :: ui199 :: (0, 1) :: (0, 6) :: (0, 1) :: ui31 :: (0, 1) :: t
def cx_495pi_4 (t : List (Int × Int)) : List (Int × Int) := (0, 1) :: (0, 1) :: (0, 6) :: (0, 6) :: ui51 :: ui51 :: t
def cx_495pg_0 (t : List zTg) : List zTg := uG1915 :: uG1873 :: uG1916 :: uG1333 :: uG1918 :: uG1919 :: uG1920 :: uG1921 :: t
def cx_495pg_1 (t : List zTg) : List zTg := uG1922 :: uG1923 :: uG1924 :: uG1925 :: uG1971 :: t
def cx_495p : zS := ((cx_495pi_0 (cx_495pi_1 (cx_495pi_2 (cx_495pi_3 (cx_495pi_4 []))))), (cx_494pr_0 (cx_494pr_1 (cx_494pr_2 (cx_494pr_3 [])))), [], [], [uV2], (cx_494pf_0 (cx_494pf_1 (cx_494pf_2 (cx_494pf_3 (cx_494pf_4 (cx_494pf_5 (cx_494pf_6 []))))))), (cx_495pg_0 (cx_495pg_1 [])))
def cx_495q0i_0 (t : List (Int × Int)) : List (Int × Int) := ui0 :: ui54 :: ui54 :: ui143 :: ui70 :: (0, 7) :: (0, 2) :: ui54 :: t
def cx_495q0i_1 (t : List (Int × Int)) : List (Int × Int) := (0, 5) :: ui54 :: ui1876 :: (0, 1) :: (0, 1) :: (0, 6) :: ui1564 :: ui1562 :: t
def cx_495q0i_2 (t : List (Int × Int)) : List (Int × Int) := ui1563 :: ui51 :: (0, 1) :: ui441 :: ui50 :: (0, 1) :: (0, 6) :: ui199 :: t
def cx_495q0i_3 (t : List (Int × Int)) : List (Int × Int) := ui199 :: ui199 :: ui199 :: (0, 1) :: (0, 6) :: (0, 1) :: ui31 :: (0, 1) :: t
def cx_495q0i_4 (t : List (Int × Int)) : List (Int × Int) := (0, 1) :: (0, 1) :: (0, 6) :: (0, 6) :: ui51 :: ui51 :: (1, 2) :: ui54 :: t
def cx_495q0i_5 (t : List (Int × Int)) : List (Int × Int) := ui70 :: ui50 :: (0, 7) :: (0, 5) :: ui54 :: (0, 6) :: ui1815 :: ui1562 :: t
def cx_495q0i_6 (t : List (Int × Int)) : List (Int × Int) := ui1563 :: t
def cx_495q0f_0 (t : List zFa) : List zFa := uF1972 :: (0, (false, 14, 0, []), 0, 0, 0, [(39, 1)]) :: (0, (false, 13, 0, []), 0, 0, 0, [(38, 1)]) :: (0, (false, 11, 0, []), 0, 0, 0, [(40, 1)]) :: uF1969 :: uF1969 :: (0, (false, 12, 0, []), 0, 0, 0, [(42, 1)]) :: uF1959 :: t
def cx_495q0f_1 (t : List zFa) : List zFa := (0, (false, 16, 0, []), 0, 0, 0, [(44, 1)]) :: (0, (false, 20, 0, []), 0, 0, 0, [(45, 1)]) :: (0, (false, 33, 0, []), 0, 0, 0, [(46, 1)]) :: (0, (false, 39, 0, []), 0, 0, 0, [(47, 1)]) :: (0, (false, 43, 0, []), 0, 0, 0, [(48, 1)]) :: uF1969 :: (3, (true, 0, 1, [(11, (-1))]), 0, 0, 0, [(45, 1)]) :: uF1928 :: t
def cx_495q0f_2 (t : List zFa) : List zFa := uF169 :: uF32 :: uF1885 :: uF1890 :: uF1891 :: uF1892 :: uF1893 :: uF1910 :: t
def cx_495q0f_3 (t : List zFa) : List zFa := uF1911 :: uF1912 :: t
def cx_495q0g_0 (t : List zTg) : List zTg := uG1915 :: uG1918 :: uG1919 :: uG1920 :: uG1921 :: uG1922 :: uG1923 :: uG1924 :: t
def cx_495q0g_1 (t : List zTg) : List zTg := uG1925 :: uG1929 :: uG1930 :: uG1931 :: uG1932 :: uG1933 :: uG1934 :: uG1334 :: t
def cx_495q0g_2 (t : List zTg) : List zTg := uG1332 :: uG1873 :: uG1971 :: uG1973 :: uG1333 :: uG1918 :: uG1919 :: uG1920 :: t
def cx_495q0g_3 (t : List zTg) : List zTg := uG1921 :: uG1922 :: uG1923 :: uG1924 :: uG1971 :: t
def cx_495q0 : zS := ((cx_495q0i_0 (cx_495q0i_1 (cx_495q0i_2 (cx_495q0i_3 (cx_495q0i_4 (cx_495q0i_5 (cx_495q0i_6 []))))))), (cx_494pr_0 (cx_494pr_1 (cx_494pr_2 (cx_494pr_3 [])))), [], [], [uV1974], (cx_495q0f_0 (cx_495q0f_1 (cx_495q0f_2 (cx_495q0f_3 [])))), (cx_495q0g_0 (cx_495q0g_1 (cx_495q0g_2 (cx_495q0g_3 [])))))
def cx_495q1i_0 (t : List (Int × Int)) : List (Int × Int) := ui0 :: ui54 :: ui54 :: ui143 :: ui70 :: (0, 7) :: (0, 2) :: ui54 :: t
def cx_495q1i_1 (t : List (Int × Int)) : List (Int × Int) := (0, 5) :: ui54 :: ui1876 :: (0, 1) :: (0, 1) :: (0, 6) :: ui1564 :: ui1562 :: t
def cx_495q1i_2 (t : List (Int × Int)) : List (Int × Int) := ui1563 :: ui51 :: (0, 1) :: ui441 :: ui50 :: (0, 1) :: (0, 6) :: ui199 :: t
def cx_495q1i_3 (t : List (Int × Int)) : List (Int × Int) := ui199 :: ui199 :: ui199 :: (0, 1) :: (0, 6) :: (0, 1) :: ui31 :: (0, 1) :: t
def cx_495q1i_4 (t : List (Int × Int)) : List (Int × Int) := (0, 1) :: (0, 1) :: (0, 6) :: (0, 6) :: ui51 :: ui51 :: (1, 5) :: ui54 :: t
def cx_495q1i_5 (t : List (Int × Int)) : List (Int × Int) := ui1582 :: ui1581 :: ui199 :: ui199 :: ui199 :: ui199 :: ui50 :: (0, 6) :: t
def cx_495q1i_6 (t : List (Int × Int)) : List (Int × Int) := ui70 :: ui1563 :: t
def cx_495q1f_0 (t : List zFa) : List zFa := uF1972 :: uF1975 :: uF1976 :: uF1977 :: uF1978 :: uF1979 :: uF1980 :: uF1981 :: t
def cx_495q1f_1 (t : List zFa) : List zFa := (0, (false, 20, 0, []), 0, 0, 0, [(47, 1)]) :: uF1928 :: uF1841 :: uF1944 :: uF1945 :: uF1982 :: uF169 :: uF32 :: t
def cx_495q1f_2 (t : List zFa) : List zFa := uF1414 :: uF1842 :: uF1885 :: (0, (false, 43, 0, []), 0, 0, 0, [(49, 1)]) :: uF1890 :: uF1891 :: uF1892 :: uF1893 :: t
def cx_495q1f_3 (t : List zFa) : List zFa := uF1910 :: uF1911 :: uF1912 :: (3, (true, 0, 1, [(11, (-1))]), 0, 0, 0, [(47, 1)]) :: t
def cx_495q1g_0 (t : List zTg) : List zTg := uG1915 :: uG1947 :: uG1948 :: uG1929 :: uG1930 :: uG1931 :: uG1932 :: uG1933 :: t
def cx_495q1g_1 (t : List zTg) : List zTg := uG1934 :: uG1918 :: uG1919 :: uG1920 :: uG1921 :: uG1922 :: uG1923 :: uG1925 :: t
def cx_495q1g_2 (t : List zTg) : List zTg := uG1334 :: uG1332 :: uG1873 :: uG1924 :: uG1971 :: uG1973 :: uG1333 :: uG1918 :: t
def cx_495q1g_3 (t : List zTg) : List zTg := uG1919 :: uG1920 :: uG1921 :: uG1922 :: uG1923 :: uG1924 :: uG1971 :: t
def cx_495q1 : zS := ((cx_495q1i_0 (cx_495q1i_1 (cx_495q1i_2 (cx_495q1i_3 (cx_495q1i_4 (cx_495q1i_5 (cx_495q1i_6 []))))))), (cx_494pr_0 (cx_494pr_1 (cx_494pr_2 (cx_494pr_3 [])))), [uL1983, uL1984], [], [uV1974], (cx_495q1f_0 (cx_495q1f_1 (cx_495q1f_2 (cx_495q1f_3 [])))), (cx_495q1g_0 (cx_495q1g_1 (cx_495q1g_2 (cx_495q1g_3 [])))))
def cx_495q2i_0 (t : List (Int × Int)) : List (Int × Int) := ui0 :: ui54 :: ui54 :: ui143 :: ui70 :: (0, 7) :: (0, 2) :: ui54 :: t
def cx_495q2i_1 (t : List (Int × Int)) : List (Int × Int) := (0, 5) :: ui54 :: ui1876 :: (0, 1) :: (0, 1) :: (0, 6) :: ui1564 :: ui1562 :: t
def cx_495q2i_2 (t : List (Int × Int)) : List (Int × Int) := ui1563 :: ui51 :: (0, 1) :: ui441 :: ui50 :: (0, 1) :: (0, 6) :: ui199 :: t
def cx_495q2i_3 (t : List (Int × Int)) : List (Int × Int) := ui199 :: ui199 :: ui199 :: (0, 1) :: (0, 6) :: (0, 1) :: ui31 :: (0, 1) :: t
def cx_495q2i_4 (t : List (Int × Int)) : List (Int × Int) := (0, 1) :: (0, 1) :: (0, 6) :: (0, 6) :: ui51 :: ui51 :: ui199 :: (0, 6) :: t
def cx_495q2i_5 (t : List (Int × Int)) : List (Int × Int) := ui1582 :: ui1581 :: ui199 :: ui199 :: ui199 :: ui199 :: ui50 :: (0, 0) :: t
def cx_495q2i_6 (t : List (Int × Int)) : List (Int × Int) := ui70 :: ui54 :: ui1563 :: (0, 6) :: ui199 :: ui199 :: ui199 :: ui199 :: t
def cx_495q2f_0 (t : List zFa) : List zFa := uF1951 :: uF1952 :: uF1953 :: uF1954 :: uF1955 :: uF1865 :: (0, (false, 49, 0, []), 0, 0, 0, [(38, 1)]) :: uF1985 :: t
def cx_495q2f_1 (t : List zFa) : List zFa := uF1957 :: uF1958 :: uF1975 :: uF1976 :: uF1977 :: uF1978 :: uF1979 :: uF1980 :: t
def cx_495q2f_2 (t : List zFa) : List zFa := uF1981 :: uF1855 :: uF1928 :: uF1986 :: uF1944 :: uF1945 :: uF1982 :: uF169 :: t
def cx_495q2f_3 (t : List zFa) : List zFa := uF32 :: uF1414 :: uF1987 :: uF1988 :: uF1985 :: t
def cx_495q2g_0 (t : List zTg) : List zTg := uG1872 :: uG1873 :: uG1874 :: uG1867 :: uG1868 :: uG472 :: uG1962 :: uG1947 :: t
def cx_495q2g_1 (t : List zTg) : List zTg := uG1948 :: uG1929 :: uG1930 :: uG1931 :: uG1932 :: uG1933 :: uG1934 :: uG1918 :: t
def cx_495q2g_2 (t : List zTg) : List zTg := uG1919 :: uG1920 :: uG1921 :: uG1922 :: uG1923 :: uG1925 :: uG1334 :: uG1332 :: t
def cx_495q2g_3 (t : List zTg) : List zTg := uG1924 :: uG472 :: uG1333 :: uG1948 :: (76, [uL9, uL1965]) :: (85, [uL1917, uL1965, uL198]) :: (87, [uL9, uL268, uL1989]) :: (88, [uL1917, uL1989, uL198]) :: t
def cx_495q2g_4 (t : List zTg) : List zTg := (87, [uL9, uL285, uL1990]) :: (89, [uL1917, uL1990, uL198]) :: (87, [uL9, uL287, uL1991]) :: (90, [uL1917, uL1991, uL198]) :: (87, [uL9, uL289, uL1992]) :: (91, [uL1917, uL1992, uL198]) :: (96, [uL9, uL1965, uL1917]) :: uG1947 :: t
def cx_495q2g_5 (t : List zTg) : List zTg := (275, [uL1917, uL1965]) :: t
def cx_495q2 : zS := ((cx_495q2i_0 (cx_495q2i_1 (cx_495q2i_2 (cx_495q2i_3 (cx_495q2i_4 (cx_495q2i_5 (cx_495q2i_6 []))))))), (cx_494pr_0 (cx_494pr_1 (cx_494pr_2 (cx_494pr_3 [])))), [uL1983, uL1984], [], [uV64], (cx_495q2f_0 (cx_495q2f_1 (cx_495q2f_2 (cx_495q2f_3 [])))), (cx_495q2g_0 (cx_495q2g_1 (cx_495q2g_2 (cx_495q2g_3 (cx_495q2g_4 (cx_495q2g_5 [])))))))
/-- M.read -/
def cx_495 : zCtx := (195, cx_495p, [cx_495q0, cx_495q1, cx_495q2], kc_79, 68207627, 7, 147)
def cq_495 : List zCtx := [cx_402, cx_403, cx_404, cx_491, cx_492, cx_493]
def cs_495 : List (Nat × List Nat) := [(42, [0]), (85, [1]), (121, [2]), (128, [3]), (200, [4]), (204, [5])]
def hs_495 : List (Nat × List Nat) := [(9, [1000412]), (30, [1000413]), (36, [1000414]), (88, [10]), (109, uN1966), (119, [1000246]), (131, [740, 1000411]), (134, uN1967), (174, [16]), (178, [1000419]), (186, [16]), (190, [1000419]), (191, [15, 1000457, 1000507, 1000508, 1000509, 1000510]), (192, [1000420]), (207, [1000747])]
def nd_495_0pi_0 (t : List (Int × Int)) : List (Int × Int) := ui0 :: ui54 :: ui54 :: ui143 :: ui70 :: (0, 7) :: (0, 2) :: ui54 :: t
def nd_495_0pi_1 (t : List (Int × Int)) : List (Int × Int) := (0, 5) :: ui54 :: ui1876 :: (0, 1) :: (0, 1) :: (0, 6) :: ui1564 :: ui1562 :: t
def nd_495_0pi_2 (t : List (Int × Int)) : List (Int × Int) := ui1563 :: ui51 :: (0, 1) :: ui441 :: ui50 :: (0, 1) :: (0, 6) :: ui199 :: t
def nd_495_0pi_3 (t : List (Int × Int)) : List (Int × Int) := ui199 :: ui199 :: ui199 :: (0, 1) :: (0, 6) :: (0, 1) :: ui31 :: (0, 1) :: t
def nd_495_0pi_4 (t : List (Int × Int)) : List (Int × Int) := (0, 1) :: (0, 1) :: (0, 6) :: (0, 6) :: ui51 :: ui51 :: ui54 :: t
def nd_495_0pg_0 (t : List zTg) : List zTg := uG1915 :: uG1873 :: uG1916 :: uG1333 :: uG1918 :: uG1919 :: uG1920 :: uG1921 :: t
def nd_495_0pg_1 (t : List zTg) : List zTg := uG1922 :: uG1923 :: uG1924 :: uG1925 :: uG1971 :: (54, [uL1821]) :: t
def nd_495_0p : zS := ((nd_495_0pi_0 (nd_495_0pi_1 (nd_495_0pi_2 (nd_495_0pi_3 (nd_495_0pi_4 []))))), (cx_494pr_0 (cx_494pr_1 (cx_494pr_2 (cx_494pr_3 [])))), [uL1993], [uV2, uV1974], [], (nd_494_0pf_0 (nd_494_0pf_1 (nd_494_0pf_2 (nd_494_0pf_3 (nd_494_0pf_4 (nd_494_0pf_5 (nd_494_0pf_6 []))))))), (nd_495_0pg_0 (nd_495_0pg_1 [])))
def nd_495_0 : zN := (10, nd_495_0p, (429320, [(38, (-15))]))
def nd_495_1pi_0 (t : List (Int × Int)) : List (Int × Int) := ui0 :: ui54 :: ui54 :: ui143 :: ui70 :: (0, 7) :: (0, 2) :: ui54 :: t
def nd_495_1pi_1 (t : List (Int × Int)) : List (Int × Int) := (0, 5) :: ui54 :: ui1876 :: (0, 1) :: (0, 1) :: (0, 6) :: ui1564 :: ui1562 :: t
def nd_495_1pi_2 (t : List (Int × Int)) : List (Int × Int) := ui1563 :: ui51 :: (0, 1) :: ui441 :: ui50 :: (0, 1) :: (0, 6) :: ui199 :: t
def nd_495_1pi_3 (t : List (Int × Int)) : List (Int × Int) := ui199 :: ui199 :: ui199 :: (0, 1) :: (0, 6) :: (0, 1) :: ui31 :: (0, 1) :: t
def nd_495_1pi_4 (t : List (Int × Int)) : List (Int × Int) := (0, 1) :: (0, 1) :: (0, 6) :: (0, 6) :: ui51 :: ui51 :: ui54 :: ui1582 :: t
def nd_495_1pi_5 (t : List (Int × Int)) : List (Int × Int) := ui1581 :: ui199 :: ui199 :: ui199 :: ui199 :: ui50 :: (0, 6) :: (0, 5) :: t
def nd_495_1pi_6 (t : List (Int × Int)) : List (Int × Int) := ui70 :: ui54 :: ui1563 :: (0, 2) :: ui1562 :: ui1562 :: ui70 :: t
def nd_495_1pf_0 (t : List zFa) : List zFa := (0, (false, 39, 0, []), 0, 0, 0, [(39, 1)]) :: uF1843 :: (17, (true, 0, 1, [(11, (-1))]), 0, 0, 0, [(41, 1)]) :: (16, (true, 0, 1, [(11, (-1))]), 0, 0, 0, [(42, 1)]) :: (15, (true, 0, 1, [(11, (-1))]), 0, 0, 0, [(43, 1)]) :: (14, (true, 0, 1, [(11, (-1))]), 0, 0, 0, [(44, 1)]) :: (7, (true, 0, 1, [(11, (-1))]), 0, 0, 0, [(45, 1)]) :: (0, (false, 20, 0, []), 0, 0, 0, [(46, 1)]) :: t
def nd_495_1pf_1 (t : List zFa) : List zFa := uF1928 :: uF1986 :: uF1944 :: uF1945 :: uF1982 :: uF169 :: uF32 :: uF1414 :: t
def nd_495_1pf_2 (t : List zFa) : List zFa := uF1987 :: uF1884 :: uF1885 :: uF1988 :: uF1890 :: uF1891 :: uF1892 :: uF1893 :: t
def nd_495_1pf_3 (t : List zFa) : List zFa := uF1361 :: uF1362 :: uF1363 :: uF433 :: uF539 :: uF1331 :: uF1789 :: uF1798 :: t
def nd_495_1pf_4 (t : List zFa) : List zFa := uF1799 :: uF1800 :: uF460 :: uF1894 :: uF1895 :: uF1896 :: uF1897 :: uF1898 :: t
def nd_495_1pf_5 (t : List zFa) : List zFa := uF1899 :: uF1900 :: uF1901 :: uF1902 :: uF1903 :: uF1904 :: uF1905 :: uF1906 :: t
def nd_495_1pf_6 (t : List zFa) : List zFa := uF1907 :: uF1908 :: uF1909 :: uF1910 :: uF1911 :: uF1912 :: uF1913 :: uF1914 :: t
def nd_495_1pf_7 (t : List zFa) : List zFa := (3, (true, 0, 1, [(11, (-1))]), 0, 0, 0, [(46, 1)]) :: t
def nd_495_1pg_0 (t : List zTg) : List zTg := uG1929 :: uG1930 :: uG1931 :: uG1932 :: uG1933 :: uG1934 :: uG1918 :: uG1919 :: t
def nd_495_1pg_1 (t : List zTg) : List zTg := uG1920 :: uG1921 :: uG1922 :: uG1923 :: uG1925 :: uG1334 :: uG1332 :: uG1873 :: t
def nd_495_1pg_2 (t : List zTg) : List zTg := uG1916 :: uG1333 :: uG1924 :: uG1971 :: (3, [uL1917, uL1856, uL1856, uL1828, uL1965, uL1989, uL1990]) :: (58, [uL9, uL1852]) :: (40, [uL9, uL1852, uL65, uL65, uL65, uL1850, uL1849, uL1851, uL1963, uL1991]) :: (64, [uL9, uL1852, uL1850]) :: t
def nd_495_1pg_3 (t : List zTg) : List zTg := (78, [uL9, uL1852, uL1917]) :: uG1918 :: uG1919 :: (86, [uL9, uL1852, uL268, uL1848]) :: (86, [uL9, uL1852, uL285, uL1847]) :: (86, [uL9, uL1852, uL287, uL1970]) :: (86, [uL9, uL1852, uL289, uL1857]) :: uG1920 :: t
def nd_495_1pg_4 (t : List zTg) : List zTg := uG1921 :: uG1922 :: uG1923 :: (95, [uL9, uL1852, uL1850, uL1917, (6, [(11, (-6)), (46, 1)])]) :: uG1924 :: (216, [uL9, uL1852, uL1917, uL1828, uL65, uL1856, uL65]) :: t
def nd_495_1p : zS := ((nd_495_1pi_0 (nd_495_1pi_1 (nd_495_1pi_2 (nd_495_1pi_3 (nd_495_1pi_4 (nd_495_1pi_5 (nd_495_1pi_6 []))))))), (cx_494pr_0 (cx_494pr_1 (cx_494pr_2 (cx_494pr_3 [])))), [(0, [(1, (-1)), (38, 1)]), uL1993, (420, [(11, (-420)), (39, (-1)), (48, 1)]), (520, [(11, (-520)), (40, (-4)), (48, 1)])], [uV2, uV1974], [], (nd_495_1pf_0 (nd_495_1pf_1 (nd_495_1pf_2 (nd_495_1pf_3 (nd_495_1pf_4 (nd_495_1pf_5 (nd_495_1pf_6 (nd_495_1pf_7 [])))))))), (nd_495_1pg_0 (nd_495_1pg_1 (nd_495_1pg_2 (nd_495_1pg_3 (nd_495_1pg_4 []))))))
def nd_495_1 : zN := (112, nd_495_1p, (399273, [(48, (-998))]))
def ns_495 : List zN := [nd_495_0, nd_495_1]
set_option maxRecDepth 1000000 in
theorem ca_495 : x_okA mLT1 cq_495 mTS2 mTC2 mRUp cx_495 cs_495 hs_495 ns_495 (429327, []) 67778300 76 = true := by decide +kernel
set_option maxRecDepth 1000000 in
theorem cb_495_0 : x_okB mLT1 cq_495 mTS2 mTC2 mRUp cx_495 cs_495 hs_495 ns_495 (429327, []) 67778300 76 nd_495_0 = true := by decide +kernel
set_option maxRecDepth 1000000 in
theorem cb_495_1 : x_okB mLT1 cq_495 mTS2 mTC2 mRUp cx_495 cs_495 hs_495 ns_495 (429327, []) 67778300 76 nd_495_1 = true := by decide +kernel
set_option maxRecDepth 1000000 in
theorem cc_495 : x_okC mLT1 cq_495 mTS2 mTC2 mRUp cx_495 cs_495 hs_495 ns_495 (429327, []) 67778300 76 = true := by decide +kernel
theorem ck_495 : x_ok mLT1 cq_495 mTS2 mTC2 mRUp cx_495 cs_495 hs_495 ns_495 (429327, []) 67778300 76 = true := x_ok_of ca_495 (List.forall_mem_cons.mpr ⟨cb_495_0, List.forall_mem_cons.mpr ⟨cb_495_1, fun _ h => absurd h List.not_mem_nil⟩⟩) cc_495
theorem sn_495 {W : Bool} {X : List Int32} : y_Snd (mGw W) mLT1 (J2 W X) X cx_495 := y_ok J2_J mTS2_ok1 mTC2_ok1 mRUp_ok1 (List.forall_mem_cons.mpr ⟨sn_402, List.forall_mem_cons.mpr ⟨sn_403, List.forall_mem_cons.mpr ⟨sn_404, List.forall_mem_cons.mpr ⟨sn_491, List.forall_mem_cons.mpr ⟨sn_492, List.forall_mem_cons.mpr ⟨sn_493, fun _ h => absurd h List.not_mem_nil⟩⟩⟩⟩⟩⟩) ck_495
/-- M.place -/
def cx_496 : zCtx := (220, ([ui0, ui1876], [ur1299], [], [], [uV2], [(0, (false, 17, 0, []), 0, 0, 0, [(1, 1)])], []), [([ui0, ui1876], [ur1299], [], [], [uV11], [], [])], [], 3, 0, 0)
set_option maxRecDepth 1000000 in
theorem ck_496 : x_ok mLT1 [] mTS2 mTC2 mRUp cx_496 [] [] [] (3, []) 0 6 = true := by decide +kernel
theorem sn_496 {W : Bool} {X : List Int32} : y_Snd (mGw W) mLT1 (J2 W X) X cx_496 := y_ok J2_J mTS2_ok1 mTC2_ok1 mRUp_ok1 (fun _ h => absurd h List.not_mem_nil) ck_496
/-- M.in -/
def cx_497 : zCtx := (223, ([ui0, ui51, (0, 1), ui1994], [], [], [], [uV11, uV12, uV60], [], []), [([ui0, ui586, (0, 1), ui586], [], [uL68, uL62], [], [uV66], [], []), ([ui0, ui512, (0, 1), ui1994], [], [uL1335, uL62], [], [uV64], [], []), ([ui0, ui1175, (0, 1), ui1994], [], [uL59], [], [uV64], [], [])], [], 9, 0, 0)
set_option maxRecDepth 1000000 in
theorem ck_497 : x_ok mLT1 [] mTS2 mTC2 mRUp cx_497 [] [] [] (9, []) 0 12 = true := by decide +kernel
theorem sn_497 {W : Bool} {X : List Int32} : y_Snd (mGw W) mLT1 (J2 W X) X cx_497 := y_ok J2_J mTS2_ok1 mTC2_ok1 mRUp_ok1 (fun _ h => absurd h List.not_mem_nil) ck_497
/-- M.isHouse -/
def cx_498 : zCtx := (222, ([ui0, ui51, (0, 1), (0, 6)], [ur1299, ur1347], [], [], [uV2, uV11], [uF1995, uF1465], [uG1997]), [([ui0, ui265, (0, 1), (0, 6)], [ur1299, ur1347], [uL516], [], [uV64], [], []), ([ui0, ui512, (0, 1), (0, 6)], [ur1299, ur1347], [uL573, uL573], [], [uV64], [], []), ([ui0, (0, 5), (0, 1), (1, 6)], [ur1299, ur1347], [uL516, uL9, uL516], [], [uV66], [], [])], [], 20, 1, 22)
set_option maxRecDepth 1000000 in
theorem ck_498 : x_ok mLT1 [cx_497] mTS2 mTC2 mRUp cx_498 [(13, [0])] [(16, uN1998)] [] (11, []) 9 14 = true := by decide +kernel
theorem sn_498 {W : Bool} {X : List Int32} : y_Snd (mGw W) mLT1 (J2 W X) X cx_498 := y_ok J2_J mTS2_ok1 mTC2_ok1 mRUp_ok1 (List.forall_mem_cons.mpr ⟨sn_497, fun _ h => absurd h List.not_mem_nil⟩) ck_498
def cx_499pi_0 (t : List (Int × Int)) : List (Int × Int) := ui0 :: ui51 :: ui51 :: (0, 1) :: ui51 :: (0, 1) :: ui31 :: (0, 6) :: t
def cx_499pi_1 (t : List (Int × Int)) : List (Int × Int) := (0, 6) :: ui51 :: ui51 :: t
def cx_499pr_0 (t : List (Nat × Bool)) : List (Nat × Bool) := ur1299 :: ur1345 :: ur1346 :: ur1356 :: ur1357 :: ur1358 :: ur1359 :: ur1360 :: t
def cx_499pr_1 (t : List (Nat × Bool)) : List (Nat × Bool) := ur1354 :: ur1355 :: ur1347 :: ur1462 :: ur1463 :: ur1858 :: t
def cx_499pf_0 (t : List zFa) : List zFa := uF1999 :: uF2000 :: uF2001 :: uF1361 :: uF1362 :: uF2002 :: uF2003 :: uF2004 :: t
def cx_499pf_1 (t : List zFa) : List zFa := uF2005 :: uF2006 :: uF1597 :: uF1598 :: uF2007 :: uF2008 :: uF2009 :: uF2010 :: t
def cx_499p : zS := ((cx_499pi_0 (cx_499pi_1 [])), (cx_499pr_0 (cx_499pr_1 [])), [uL2011, uL1199], [], [uV2, uV11, uV12], (cx_499pf_0 (cx_499pf_1 [])), [uG2012, uG2014, uG2015, uG2016, uG2017])
/-- M.house -/
def cx_499 : zCtx := (221, cx_499p, [([ui0, ui51, ui51, (0, 1), ui51, (0, 1), ui31, (0, 6), (0, 6), ui51, ui51], [ur1299, ur1345, ur1346, ur1356, ur1357, ur1358, ur1359, ur1360, ur1354, ur1355, ur1347, ur1462, ur1463, ur1858], [uL1199], [], [uV63], [], [uG2017])], [], 26, 2, 43)
set_option maxRecDepth 1000000 in
theorem ck_499 : x_ok mLT1 [cx_498] mTS2 mTC2 mRUp cx_499 [(2, [0])] [] [] (6, []) 20 9 = true := by decide +kernel
theorem sn_499 {W : Bool} {X : List Int32} : y_Snd (mGw W) mLT1 (J2 W X) X cx_499 := y_ok J2_J mTS2_ok1 mTC2_ok1 mRUp_ok1 (List.forall_mem_cons.mpr ⟨sn_498, fun _ h => absurd h List.not_mem_nil⟩) ck_499
def cx_500p : zS := ((cx_499pi_0 (cx_499pi_1 [])), (cx_499pr_0 (cx_499pr_1 [])), [uL2011, uL570], [], [uV2, uV11, uV12], (cx_499pf_0 (cx_499pf_1 [])), [uG2012, uG2014, uG2015, uG2016, uG2017])
/-- M.house -/
def cx_500 : zCtx := (221, cx_500p, [([ui0, ui51, ui51, (0, 1), ui51, (0, 1), ui31, (0, 6), (0, 6), ui51, ui51], [ur1299, ur1345, ur1346, ur1356, ur1357, ur1358, ur1359, ur1360, ur1354, ur1355, ur1347, ur1462, ur1463, ur1858], [uL570], [], [uV63], [], [uG2017])], [], 26, 2, 43)
set_option maxRecDepth 1000000 in
theorem ck_500 : x_ok mLT1 [cx_498] mTS2 mTC2 mRUp cx_500 [(2, [0])] [] [] (6, []) 20 9 = true := by decide +kernel
theorem sn_500 {W : Bool} {X : List Int32} : y_Snd (mGw W) mLT1 (J2 W X) X cx_500 := y_ok J2_J mTS2_ok1 mTC2_ok1 mRUp_ok1 (List.forall_mem_cons.mpr ⟨sn_498, fun _ h => absurd h List.not_mem_nil⟩) ck_500
/-- M.copies -/
def cx_501 : zCtx := (224, ([ui0, (0, 1), ui51, (0, 1), ui199], [ur1299, ur1858, ur1878, ur1353], [], [], [uV2], [uF1859, uF1860, uF1861, uF1862, uF2018, uF2019, uF1864], []), [([ui0, (0, 1), ui51, (0, 1), ui199, (0, 6)], [ur1299, ur1858, ur1878, ur1353], [], [], [], [uF1865, uF2000, uF2020], [uG1872, uG1868, uG1872])], [uk1869, uk1870, uk1871], 445, 0, 0)
def cq_501 : List zCtx := []
def cs_501 : List (Nat × List Nat) := []
def hs_501 : List (Nat × List Nat) := [(0, [81]), (26, [82, 1000698])]
def ns_501 : List zN := []
set_option maxRecDepth 1000000 in
theorem ca_501 : x_okA mLT1 cq_501 mTS2 mTC2 mRUp cx_501 cs_501 hs_501 ns_501 (445, []) 0 448 = true := by decide +kernel
set_option maxRecDepth 1000000 in
theorem cc_501 : x_okC mLT1 cq_501 mTS2 mTC2 mRUp cx_501 cs_501 hs_501 ns_501 (445, []) 0 448 = true := by decide +kernel
theorem ck_501 : x_ok mLT1 cq_501 mTS2 mTC2 mRUp cx_501 cs_501 hs_501 ns_501 (445, []) 0 448 = true := x_ok_of ca_501 (fun _ h => absurd h List.not_mem_nil) cc_501
theorem sn_501 {W : Bool} {X : List Int32} : y_Snd (mGw W) mLT1 (J2 W X) X cx_501 := y_ok J2_J mTS2_ok1 mTC2_ok1 mRUp_ok1 (fun _ h => absurd h List.not_mem_nil) ck_501
def cx_502pi_0 (t : List (Int × Int)) : List (Int × Int) := ui0 :: (0, 5) :: ui572 :: (0, 1) :: ui51 :: (0, 1) :: ui31 :: (0, 6) :: t
def cx_502pi_1 (t : List (Int × Int)) : List (Int × Int) := (0, 6) :: ui51 :: ui51 :: t
def cx_502p : zS := ((cx_502pi_0 (cx_502pi_1 [])), (cx_499pr_0 (cx_499pr_1 [])), [uL2011], [], [uV2, uV11, uV12], (cx_499pf_0 (cx_499pf_1 [])), [uG2012, uG2014, uG2015, uG2016, uG2017])
/-- M.house -/
def cx_502 : zCtx := (221, cx_502p, [([ui0, (0, 5), ui572, (0, 1), ui51, (0, 1), ui31, (0, 6), (0, 6), ui51, ui51], [ur1299, ur1345, ur1346, ur1356, ur1357, ur1358, ur1359, ur1360, ur1354, ur1355, ur1347, ur1462, ur1463, ur1858], [uL9, uL2021], [], [uV63], [], [uG1868, uG2017]), ([ui0, (0, 5), ui572, (0, 1), ui51, (0, 1), ui31, (0, 6), (0, 6), ui51, ui51], [ur1299, ur1345, ur1346, ur1356, ur1357, ur1358, ur1359, ur1360, ur1354, ur1355, ur1347, ur1462, ur1463, ur1858], [uL1199], [], [uV63], [], [uG2017])], [uk1869, uk1870, uk1871], 455, 2, 43)
set_option maxRecDepth 1000000 in
theorem ck_502 : x_ok mLT1 [cx_498, cx_501] mTS2 mTC2 mRUp cx_502 [(2, [0]), (11, [1])] [(14, [1000818])] [] (10, []) 445 13 = true := by decide +kernel
theorem sn_502 {W : Bool} {X : List Int32} : y_Snd (mGw W) mLT1 (J2 W X) X cx_502 := y_ok J2_J mTS2_ok1 mTC2_ok1 mRUp_ok1 (List.forall_mem_cons.mpr ⟨sn_498, List.forall_mem_cons.mpr ⟨sn_501, fun _ h => absurd h List.not_mem_nil⟩⟩) ck_502
def cx_503pi_0 (t : List (Int × Int)) : List (Int × Int) := ui0 :: (0, 5) :: ui265 :: (0, 1) :: ui51 :: (0, 1) :: ui31 :: (0, 6) :: t
def cx_503pi_1 (t : List (Int × Int)) : List (Int × Int) := (0, 6) :: ui51 :: ui51 :: t
def cx_503p : zS := ((cx_503pi_0 (cx_503pi_1 [])), (cx_499pr_0 (cx_499pr_1 [])), [uL2011], [], [uV2, uV11, uV12], (cx_499pf_0 (cx_499pf_1 [])), [uG2012, uG2014, uG2015, uG2016, uG2017])
/-- M.house -/
def cx_503 : zCtx := (221, cx_503p, [([ui0, (0, 5), ui265, (0, 1), ui51, (0, 1), ui31, (0, 6), (0, 6), ui51, ui51], [ur1299, ur1345, ur1346, ur1356, ur1357, ur1358, ur1359, ur1360, ur1354, ur1355, ur1347, ur1462, ur1463, ur1858], [uL9, uL2021], [], [uV63], [], [uG1868, uG2017]), ([ui0, (0, 5), ui265, (0, 1), ui51, (0, 1), ui31, (0, 6), (0, 6), ui51, ui51], [ur1299, ur1345, ur1346, ur1356, ur1357, ur1358, ur1359, ur1360, ur1354, ur1355, ur1347, ur1462, ur1463, ur1858], [uL1199], [], [uV63], [], [uG2017])], [uk1869, uk1870, uk1871], 455, 2, 43)
set_option maxRecDepth 1000000 in
theorem ck_503 : x_ok mLT1 [cx_498, cx_501] mTS2 mTC2 mRUp cx_503 [(2, [0]), (11, [1])] [(14, [1000818])] [] (10, []) 445 13 = true := by decide +kernel
theorem sn_503 {W : Bool} {X : List Int32} : y_Snd (mGw W) mLT1 (J2 W X) X cx_503 := y_ok J2_J mTS2_ok1 mTC2_ok1 mRUp_ok1 (List.forall_mem_cons.mpr ⟨sn_498, List.forall_mem_cons.mpr ⟨sn_501, fun _ h => absurd h List.not_mem_nil⟩⟩) ck_503
def cx_504pi_0 (t : List (Int × Int)) : List (Int × Int) := ui0 :: (0, 5) :: (0, 0) :: (0, 1) :: ui51 :: (0, 1) :: ui31 :: (0, 6) :: t
def cx_504pi_1 (t : List (Int × Int)) : List (Int × Int) := (0, 6) :: ui51 :: ui51 :: t
def cx_504p : zS := ((cx_504pi_0 (cx_504pi_1 [])), (cx_499pr_0 (cx_499pr_1 [])), [uL2011], [], [uV2, uV11, uV12], (cx_499pf_0 (cx_499pf_1 [])), [uG2012, uG2014, uG2015, uG2016, uG2017])
def cx_504q0i_0 (t : List (Int × Int)) : List (Int × Int) := ui0 :: (0, 5) :: (0, 0) :: (0, 1) :: ui51 :: (0, 1) :: ui31 :: (0, 6) :: t
def cx_504q0i_1 (t : List (Int × Int)) : List (Int × Int) := (0, 6) :: ui51 :: ui51 :: ui51 :: t
def cx_504q0 : zS := ((cx_504q0i_0 (cx_504q0i_1 [])), (cx_499pr_0 (cx_499pr_1 [])), [uL9, uL2021], [], [uV841], [], [uG1868, uG2017, (238, [uL34, uL65, uL65, uL65, uL65, uL65, uL65, uL65, uL9, uL65, uL198])])
/-- M.house -/
def cx_504 : zCtx := (221, cx_504p, [cx_504q0, ([ui0, (0, 5), (0, 0), (0, 1), ui51, (0, 1), ui31, (0, 6), (0, 6), ui51, ui51], [ur1299, ur1345, ur1346, ur1356, ur1357, ur1358, ur1359, ur1360, ur1354, ur1355, ur1347, ur1462, ur1463, ur1858], [uL1199], [], [uV63], [], [uG2017])], [uk1869, uk1870, uk1871], 458, 2, 43)
set_option maxRecDepth 1000000 in
theorem ck_504 : x_ok mLT1 [cx_498, cx_501] mTS2 mTC2 mRUp cx_504 [(2, [0]), (11, [1])] [(14, [1000818]), (70, [1000827])] [] (13, []) 445 16 = true := by decide +kernel
theorem sn_504 {W : Bool} {X : List Int32} : y_Snd (mGw W) mLT1 (J2 W X) X cx_504 := y_ok J2_J mTS2_ok1 mTC2_ok1 mRUp_ok1 (List.forall_mem_cons.mpr ⟨sn_498, List.forall_mem_cons.mpr ⟨sn_501, fun _ h => absurd h List.not_mem_nil⟩⟩) ck_504
/-- M.strongFirst -/
def cx_505 : zCtx := (225, ([ui0, (0, 5), (0, 1), (0, 6)], [ur1299, ur1462, ur1463], [uL9, uL516], [], [uV2, uV11], [uF1995, (0, (false, 23, 0, []), 2, 1, 0, []), (0, (false, 24, 0, []), 2, 2, 0, [])], [uG2022]), [([ui0, (0, 5), (0, 1), (0, 6), ui199], [ur1299, ur1462, ur1463], [uL9, uL516], [], [uV99], [], [(262, [uL9, uL100])])], [], 10, 0, 0)
set_option maxRecDepth 1000000 in
theorem ck_505 : x_ok mLT1 [] mTS2 mTC2 mRUp cx_505 [] [(14, [1000828])] [] (10, []) 0 13 = true := by decide +kernel
theorem sn_505 {W : Bool} {X : List Int32} : y_Snd (mGw W) mLT1 (J2 W X) X cx_505 := y_ok J2_J mTS2_ok1 mTC2_ok1 mRUp_ok1 (fun _ h => absurd h List.not_mem_nil) ck_505
def cx_506pi_0 (t : List (Int × Int)) : List (Int × Int) := ui0 :: (0, 5) :: (1, 1) :: (0, 1) :: ui51 :: (0, 1) :: ui31 :: (0, 6) :: t
def cx_506pi_1 (t : List (Int × Int)) : List (Int × Int) := (0, 6) :: ui51 :: ui51 :: t
def cx_506p : zS := ((cx_506pi_0 (cx_506pi_1 [])), (cx_499pr_0 (cx_499pr_1 [])), [uL2011], [], [uV2, uV11, uV12], (cx_499pf_0 (cx_499pf_1 [])), [uG2012, uG2014, uG2015, uG2016, uG2017])
/-- M.house -/
def cx_506 : zCtx := (221, cx_506p, [([ui0, (0, 5), (1, 1), (0, 1), ui51, (0, 1), ui31, (0, 6), (0, 6), ui51, ui51, ui51], [ur1299, ur1345, ur1346, ur1356, ur1357, ur1358, ur1359, ur1360, ur1354, ur1355, ur1347, ur1462, ur1463, ur1858], [uL9, uL2021], [], [uV841], [], [uG1868, uG2017, (262, [uL9, uL198])]), ([ui0, (0, 5), (1, 1), (0, 1), ui51, (0, 1), ui31, (0, 6), (0, 6), ui51, ui51], [ur1299, ur1345, ur1346, ur1356, ur1357, ur1358, ur1359, ur1360, ur1354, ur1355, ur1347, ur1462, ur1463, ur1858], [uL1199], [], [uV63], [], [uG2017])], [uk1869, uk1870, uk1871], 457, 2, 43)
set_option maxRecDepth 1000000 in
theorem ck_506 : x_ok mLT1 [cx_498, cx_501, cx_505] mTS2 mTC2 mRUp cx_506 [(2, [0]), (11, [1]), (73, [2])] [(14, [1000818])] [] (12, []) 445 15 = true := by decide +kernel
theorem sn_506 {W : Bool} {X : List Int32} : y_Snd (mGw W) mLT1 (J2 W X) X cx_506 := y_ok J2_J mTS2_ok1 mTC2_ok1 mRUp_ok1 (List.forall_mem_cons.mpr ⟨sn_498, List.forall_mem_cons.mpr ⟨sn_501, List.forall_mem_cons.mpr ⟨sn_505, fun _ h => absurd h List.not_mem_nil⟩⟩⟩) ck_506
/-- M.hasPlait -/
def cx_507 : zCtx := (226, ([ui0, (0, 5), ui199], [ur1299, ur1858], [], [], [uV2, uV11], [uF1862, (1, (true, 0, 6, [(1, 1)]), 0, 0, 0, [(2, 1)])], []), [([ui0, (0, 5), ui2023], [ur1299, ur1858], [], [], [uV66], [], []), ([ui0, (0, 5), (0, 0)], [ur1299, ur1858], [], [], [uV64], [], [])], [], 10, 0, 0)
set_option maxRecDepth 1000000 in
theorem ck_507 : x_ok mLT1 [] mTS2 mTC2 mRUp cx_507 [] [] [] (10, []) 0 13 = true := by decide +kernel
theorem sn_507 {W : Bool} {X : List Int32} : y_Snd (mGw W) mLT1 (J2 W X) X cx_507 := y_ok J2_J mTS2_ok1 mTC2_ok1 mRUp_ok1 (fun _ h => absurd h List.not_mem_nil) ck_507
def cx_508pi_0 (t : List (Int × Int)) : List (Int × Int) := ui0 :: (0, 5) :: (0, 1) :: (0, 6) :: ui51 :: ui51 :: ui51 :: ui51 :: t
def cx_508pi_1 (t : List (Int × Int)) : List (Int × Int) := ui51 :: ui51 :: ui51 :: (0, 6) :: t
def cx_508p : zS := ((cx_508pi_0 (cx_508pi_1 [])), [ur1299, ur1347, ur1858], [uL513, uL9, uL516], [], [uV2, uV11], [uF1995, uF1465, uF2024, uF2025], [uG1997, uG2026])
/-- M.placeOf -/
def cx_508 : zCtx := (227, cx_508p, [([ui0, (0, 5), (0, 1), (0, 6), ui51, ui51, ui51, ui51, ui51, ui51, ui51, (0, 6), (0, 5)], [ur1299, ur1347, ur1858], [uL513, uL9, uL516], [], [uV201], [], [(238, [uL255, uL100, uL106, uL80, uL81, uL133, uL166, uL173, uL9, uL65, uL217])]), ([ui0, (0, 5), (0, 1), (0, 6), ui51, ui51, ui51, ui51, ui51, ui51, ui51, (0, 6)], [ur1299, ur1347, ur1858], [uL513, uL9, uL516], [], [uV63], [], [(238, [uL255, uL100, uL106, uL80, uL81, uL133, uL166, uL173, uL9, uL65, uL101])])], [], 113, 0, 0)
def cz_508_0i_0 (t : List (Int × Int)) : List (Int × Int) := ui0 :: (0, 5) :: (0, 1) :: (0, 6) :: ui51 :: ui51 :: ui51 :: ui51 :: t
def cz_508_0i_1 (t : List (Int × Int)) : List (Int × Int) := ui51 :: ui51 :: ui51 :: (0, 6) :: (0, 6) :: t
def cz_508_0g_0 (t : List zTg) : List zTg := (238, [uL289, uL100, uL106, uL80, uL81, uL133, uL166, uL173, uL9, uL65, uL67]) :: uG1997 :: uG2026 :: (238, [uL289, uL100, uL106, uL80, uL81, uL133, uL166, uL173, uL9, uL217, uL67]) :: t
def cz_508_0 : zS := ((cz_508_0i_0 (cz_508_0i_1 [])), [ur1299, ur1347, ur1858], [uL513, uL9, uL516], [uV2, uV11, uV201], [], [uF1995, uF1465, uF2024], (cz_508_0g_0 []))
set_option maxRecDepth 1000000 in
theorem ck_508 : x_ok mLT1 [] mTS2 mTC2 mRUp cx_508 [] [(1, [1000821]), (23, [1000012]), (26, [1000824]), (28, [1000822, 1000823]), (34, [1000825])] [(2, cz_508_0, (110, [(12, (-17))]))] (113, []) 0 19 = true := by decide +kernel
theorem sn_508 {W : Bool} {X : List Int32} : y_Snd (mGw W) mLT1 (J2 W X) X cx_508 := y_ok J2_J mTS2_ok1 mTC2_ok1 mRUp_ok1 (fun _ h => absurd h List.not_mem_nil) ck_508
def cx_509pi_0 (t : List (Int × Int)) : List (Int × Int) := ui0 :: (0, 5) :: (2, 2) :: (0, 1) :: ui51 :: (0, 1) :: ui31 :: (0, 6) :: t
def cx_509pi_1 (t : List (Int × Int)) : List (Int × Int) := (0, 6) :: ui51 :: ui51 :: t
def cx_509p : zS := ((cx_509pi_0 (cx_509pi_1 [])), (cx_499pr_0 (cx_499pr_1 [])), [uL2011], [], [uV2, uV11, uV12], (cx_499pf_0 (cx_499pf_1 [])), [uG2012, uG2014, uG2015, uG2016, uG2017])
def cx_509q1i_0 (t : List (Int × Int)) : List (Int × Int) := ui0 :: (0, 5) :: (2, 2) :: (0, 1) :: ui51 :: (0, 1) :: ui31 :: (0, 6) :: t
def cx_509q1i_1 (t : List (Int × Int)) : List (Int × Int) := (0, 6) :: ui51 :: ui51 :: (0, 5) :: t
def cx_509q1 : zS := ((cx_509q1i_0 (cx_509q1i_1 [])), (cx_499pr_0 (cx_499pr_1 [])), [uL9, uL2021], [], [uV841], [], [uG1868, uG2017, (238, [uL255, uL65, uL65, uL65, uL65, uL65, uL65, uL65, uL9, uL65, uL198])])
/-- M.house -/
def cx_509 : zCtx := (221, cx_509p, [([ui0, (0, 5), (2, 2), (0, 1), ui51, (0, 1), ui31, (0, 6), (0, 6), ui51, ui51], [ur1299, ur1345, ur1346, ur1356, ur1357, ur1358, ur1359, ur1360, ur1354, ur1355, ur1347, ur1462, ur1463, ur1858], [uL9, uL2021], [], [uV569], [], [uG1868, uG2017, uG764]), cx_509q1, ([ui0, (0, 5), (2, 2), (0, 1), ui51, (0, 1), ui31, (0, 6), (0, 6), ui51, ui51], [ur1299, ur1345, ur1346, ur1356, ur1357, ur1358, ur1359, ur1360, ur1354, ur1355, ur1347, ur1462, ur1463, ur1858], [uL1199], [], [uV63], [], [uG2017])], [uk1869, uk1870, uk1871], 462, 2, 43)
set_option maxRecDepth 1000000 in
theorem ck_509 : x_ok mLT1 [cx_498, cx_501, cx_507, cx_508] mTS2 mTC2 mRUp cx_509 [(2, [0]), (11, [1]), (79, [2]), (87, [3])] [(14, [1000818]), (85, [1000819]), (90, [1000826]), (93, [1000819, 1000820])] [] (17, []) 445 20 = true := by decide +kernel
theorem sn_509 {W : Bool} {X : List Int32} : y_Snd (mGw W) mLT1 (J2 W X) X cx_509 := y_ok J2_J mTS2_ok1 mTC2_ok1 mRUp_ok1 (List.forall_mem_cons.mpr ⟨sn_498, List.forall_mem_cons.mpr ⟨sn_501, List.forall_mem_cons.mpr ⟨sn_507, List.forall_mem_cons.mpr ⟨sn_508, fun _ h => absurd h List.not_mem_nil⟩⟩⟩⟩) ck_509
def cx_510pi_0 (t : List (Int × Int)) : List (Int × Int) := ui0 :: (0, 5) :: (3, 3) :: (0, 1) :: ui51 :: (0, 1) :: ui31 :: (0, 6) :: t
def cx_510pi_1 (t : List (Int × Int)) : List (Int × Int) := (0, 6) :: ui51 :: ui51 :: t
def cx_510p : zS := ((cx_510pi_0 (cx_510pi_1 [])), (cx_499pr_0 (cx_499pr_1 [])), [uL2011], [], [uV2, uV11, uV12], (cx_499pf_0 (cx_499pf_1 [])), [uG2012, uG2014, uG2015, uG2016, uG2017])
def cx_510q0i_0 (t : List (Int × Int)) : List (Int × Int) := ui0 :: (0, 5) :: (3, 3) :: (0, 1) :: ui51 :: (0, 1) :: ui31 :: (0, 6) :: t
def cx_510q0i_1 (t : List (Int × Int)) : List (Int × Int) := (0, 6) :: ui51 :: ui51 :: ui51 :: t
def cx_510q0 : zS := ((cx_510q0i_0 (cx_510q0i_1 [])), (cx_499pr_0 (cx_499pr_1 [])), [uL9, uL2021], [], [uV841], [], [uG1868, uG2017, (238, [uL34, uL65, uL65, uL65, uL65, uL65, uL65, uL65, uL567, uL65, uL198])])
/-- M.house -/
def cx_510 : zCtx := (221, cx_510p, [cx_510q0, ([ui0, (0, 5), (3, 3), (0, 1), ui51, (0, 1), ui31, (0, 6), (0, 6), ui51, ui51], [ur1299, ur1345, ur1346, ur1356, ur1357, ur1358, ur1359, ur1360, ur1354, ur1355, ur1347, ur1462, ur1463, ur1858], [uL1199], [], [uV63], [], [uG2017])], [uk1869, uk1870, uk1871], 460, 2, 43)
set_option maxRecDepth 1000000 in
theorem ck_510 : x_ok mLT1 [cx_498, cx_501] mTS2 mTC2 mRUp cx_510 [(2, [0]), (11, [1])] [(14, [1000818]), (105, [1000819])] [] (15, []) 445 18 = true := by decide +kernel
theorem sn_510 {W : Bool} {X : List Int32} : y_Snd (mGw W) mLT1 (J2 W X) X cx_510 := y_ok J2_J mTS2_ok1 mTC2_ok1 mRUp_ok1 (List.forall_mem_cons.mpr ⟨sn_498, List.forall_mem_cons.mpr ⟨sn_501, fun _ h => absurd h List.not_mem_nil⟩⟩) ck_510
def cx_511pi_0 (t : List (Int × Int)) : List (Int × Int) := ui0 :: (0, 5) :: (4, 4) :: (0, 1) :: ui51 :: (0, 1) :: ui31 :: (0, 6) :: t
def cx_511pi_1 (t : List (Int × Int)) : List (Int × Int) := (0, 6) :: ui51 :: ui51 :: t
def cx_511p : zS := ((cx_511pi_0 (cx_511pi_1 [])), (cx_499pr_0 (cx_499pr_1 [])), [uL2011], [], [uV2, uV11, uV12], (cx_499pf_0 (cx_499pf_1 [])), [uG2012, uG2014, uG2015, uG2016, uG2017])
def cx_511q0i_0 (t : List (Int × Int)) : List (Int × Int) := ui0 :: (0, 5) :: (4, 4) :: (0, 1) :: ui51 :: (0, 1) :: ui31 :: (0, 6) :: t
def cx_511q0i_1 (t : List (Int × Int)) : List (Int × Int) := (0, 6) :: ui51 :: ui51 :: ui51 :: t
def cx_511q0 : zS := ((cx_511q0i_0 (cx_511q0i_1 [])), (cx_499pr_0 (cx_499pr_1 [])), [uL9, uL2021], [], [uV841], [], [uG1868, uG2017, (238, [uL34, uL65, uL65, uL65, uL65, uL65, uL65, uL65, uL566, uL65, uL198])])
/-- M.house -/
def cx_511 : zCtx := (221, cx_511p, [cx_511q0, ([ui0, (0, 5), (4, 4), (0, 1), ui51, (0, 1), ui31, (0, 6), (0, 6), ui51, ui51], [ur1299, ur1345, ur1346, ur1356, ur1357, ur1358, ur1359, ur1360, ur1354, ur1355, ur1347, ur1462, ur1463, ur1858], [uL1199], [], [uV63], [], [uG2017])], [uk1869, uk1870, uk1871], 460, 2, 43)
set_option maxRecDepth 1000000 in
theorem ck_511 : x_ok mLT1 [cx_498, cx_501] mTS2 mTC2 mRUp cx_511 [(2, [0]), (11, [1])] [(14, [1000818]), (115, [1000829])] [] (15, []) 445 18 = true := by decide +kernel
theorem sn_511 {W : Bool} {X : List Int32} : y_Snd (mGw W) mLT1 (J2 W X) X cx_511 := y_ok J2_J mTS2_ok1 mTC2_ok1 mRUp_ok1 (List.forall_mem_cons.mpr ⟨sn_498, List.forall_mem_cons.mpr ⟨sn_501, fun _ h => absurd h List.not_mem_nil⟩⟩) ck_511
def cx_512pi_0 (t : List (Int × Int)) : List (Int × Int) := ui0 :: (0, 5) :: (0, 1) :: (0, 6) :: ui51 :: ui51 :: ui51 :: ui51 :: t
def cx_512pi_1 (t : List (Int × Int)) : List (Int × Int) := ui51 :: ui51 :: ui51 :: t
def cx_512p : zS := ((cx_512pi_0 (cx_512pi_1 [])), [ur1299, ur1347, ur1462, ur1463, ur1858], [uL513, uL9, uL516], [], [uV2, uV11], [uF1995, uF1465, uF1863, uF2027, uF2028], [uG1997, uG2022, uG2026])
/-- M.strongOf -/
def cx_512 : zCtx := (230, cx_512p, [([ui0, (0, 5), (0, 1), (1, 6), ui51, ui51, ui51, ui51, ui51, ui51, ui51, ui199], [ur1299, ur1347, ur1462, ur1463, ur1858], [uL516, uL513, uL9], [], [uV841], [], [(238, [uL263, uL100, uL106, uL80, uL81, uL133, uL166, uL173, uL9, uL65, uL198])])], [], 22, 1, 21)
set_option maxRecDepth 1000000 in
theorem ck_512 : x_ok mLT1 [cx_507, cx_505] mTS2 mTC2 mRUp cx_512 [(2, [0]), (22, [1])] [(17, [1000832, 1000834, 1000835]), (25, [1000832, 1000833])] [] (12, []) 10 15 = true := by decide +kernel
theorem sn_512 {W : Bool} {X : List Int32} : y_Snd (mGw W) mLT1 (J2 W X) X cx_512 := y_ok J2_J mTS2_ok1 mTC2_ok1 mRUp_ok1 (List.forall_mem_cons.mpr ⟨sn_507, List.forall_mem_cons.mpr ⟨sn_505, fun _ h => absurd h List.not_mem_nil⟩⟩) ck_512
def cx_513p : zS := ((cx_512pi_0 (cx_512pi_1 [])), [ur1299, ur1347, ur1462, ur1463, ur1858, ur2029], [uL513, uL9, uL516], [], [uV2, uV11], [uF1995, uF1465, uF1863, uF2027, uF2028, (0, (false, 44, 0, []), 2, 5, 0, [])], [uG1997, uG2022, uG2026])
def cx_513q0i_0 (t : List (Int × Int)) : List (Int × Int) := ui0 :: (0, 5) :: (0, 1) :: (1, 6) :: ui51 :: ui51 :: ui51 :: ui51 :: t
def cx_513q0i_1 (t : List (Int × Int)) : List (Int × Int) := ui51 :: ui51 :: ui51 :: ui51 :: (0, 6) :: (0, 5) :: ui51 :: ui199 :: t
def cx_513q0i_2 (t : List (Int × Int)) : List (Int × Int) := ui199 :: t
def cx_513q0f_0 (t : List zFa) : List zFa := (5, (true, 0, 8, []), 0, 0, 0, []) :: (5, (true, 0, 7, []), 0, 0, 0, [(11, 1)]) :: (5, (true, 0, 6, []), 0, 0, 0, [(12, 1)]) :: (5, (true, 0, 5, []), 0, 0, 0, [(1, 1)]) :: (5, (true, 0, 4, []), 0, 0, 0, [(13, 1)]) :: (5, (true, 0, 3, []), 0, 0, 0, [(14, 1)]) :: (5, (true, 0, 2, []), 0, 0, 0, []) :: (5, (true, 0, 1, []), 0, 0, 0, [(15, 1)]) :: t
def cx_513q0f_1 (t : List zFa) : List zFa := (5, (true, 0, 0, []), 0, 0, 0, [(16, 1)]) :: t
def cx_513q0g_0 (t : List zTg) : List zTg := (238, [uL34, uL100, uL106, uL80, uL81, uL133, uL166, uL173, uL9, uL65, uL215]) :: (238, [uL263, uL100, uL106, uL80, uL81, uL133, uL166, uL173, uL9, uL65, uL212]) :: (238, [uL34, uL100, uL106, uL80, uL81, uL133, uL166, uL173, uL527, uL65, uL211]) :: (238, [uL528, uL100, uL106, uL80, uL81, uL133, uL166, uL173, uL9, uL65, uL210]) :: (238, [uL34, uL100, uL106, uL80, uL81, uL133, uL166, uL173, uL529, uL65, uL217]) :: (238, [uL34, uL100, uL106, uL80, uL81, uL133, uL166, uL173, uL530, uL65, uL198]) :: t
def cx_513q0 : zS := ((cx_513q0i_0 (cx_513q0i_1 (cx_513q0i_2 []))), [ur1299, ur1347, ur1462, ur1463, ur1858, ur2029], [uL516, uL513, uL9], [], [], (cx_513q0f_0 (cx_513q0f_1 [])), (cx_513q0g_0 []))
/-- M.views -/
def cx_513 : zCtx := (229, cx_513p, [cx_513q0], [uk2030], 182, 2, 42)
set_option maxRecDepth 1000000 in
theorem ck_513 : x_ok mLT1 [cx_512, cx_507, cx_508] mTS2 mTC2 mRUp cx_513 [(19, [0]), (50, [1]), (58, [2])] [(11, [1000831]), (42, [1000836]), (56, [1000832]), (61, [1000832, 1000826, 1000840]), (64, [1000832, 1000837]), (86, [1000838]), (102, [1000839])] [] (69, []) 113 72 = true := by decide +kernel
theorem sn_513 {W : Bool} {X : List Int32} : y_Snd (mGw W) mLT1 (J2 W X) X cx_513 := y_ok J2_J mTS2_ok1 mTC2_ok1 mRUp_ok1 (List.forall_mem_cons.mpr ⟨sn_512, List.forall_mem_cons.mpr ⟨sn_507, List.forall_mem_cons.mpr ⟨sn_508, fun _ h => absurd h List.not_mem_nil⟩⟩⟩) ck_513
end
