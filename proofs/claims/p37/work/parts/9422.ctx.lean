noncomputable section
/-! ===== readings, by program, checked by the kernel ===== -/
/-- M.begins -/
def cx_492 : zCtx := (190, ([ui0, (0, 1), ui51, (0, 1), (0, 6)], [ur1299, ur1858, ur1462, ur1347], [], [], [uV2], [uF1859, uF1860, uF1861, uF1862, uF1863, uF1363, uF1864], []), [([ui0, (0, 1), ui51, (0, 1), (0, 6), ui199], [ur1299, ur1858, ur1462, ur1347], [], [], [], [uF1865, uF1866, uF1864], [uG1867, uG1868, (273, [uL9, uL100])])], [uk1869, uk1870, uk1871], 494, 0, 0)
def cq_492 : List zCtx := []
def cs_492 : List (Nat × List Nat) := []
def hs_492 : List (Nat × List Nat) := [(0, [81]), (21, [83, 1000744]), (36, [1000745]), (56, [1000746])]
def nd_492_0 : zN := (23, ([ui0, (0, 1), ui51, (0, 1), (0, 6), (0, 6)], [ur1299, ur1858, ur1462, ur1347], [uL1434], [uV2, uV77], [], [uF1859, uF1860, uF1861, uF1862, uF1863, uF1363, uF1864], [uG1867, uG1868, (273, [uL9, uL106])]), (156, [(5, (-23))]))
def ns_492 : List zN := [nd_492_0]
set_option maxRecDepth 1000000 in
theorem ca_492 : x_okA mLT1 cq_492 mTS2 mTC2 mRUp cx_492 cs_492 hs_492 ns_492 (494, []) 0 340 = true := by decide +kernel
set_option maxRecDepth 1000000 in
theorem cb_492_0 : x_okB mLT1 cq_492 mTS2 mTC2 mRUp cx_492 cs_492 hs_492 ns_492 (494, []) 0 340 nd_492_0 = true := by decide +kernel
set_option maxRecDepth 1000000 in
theorem cc_492 : x_okC mLT1 cq_492 mTS2 mTC2 mRUp cx_492 cs_492 hs_492 ns_492 (494, []) 0 340 = true := by decide +kernel
theorem ck_492 : x_ok mLT1 cq_492 mTS2 mTC2 mRUp cx_492 cs_492 hs_492 ns_492 (494, []) 0 340 = true := x_ok_of ca_492 (List.forall_mem_cons.mpr ⟨cb_492_0, fun _ h => absurd h List.not_mem_nil⟩) cc_492
theorem sn_492 {W : Bool} {X : List Int32} : y_Snd (mGw W) mLT1 (J2 W X) X cx_492 := y_ok J2_J mTS2_ok1 mTC2_ok1 mRUp_ok1 (fun _ h => absurd h List.not_mem_nil) ck_492
/-- M.keepsRow -/
def cx_493 : zCtx := (191, ([ui0], [ur1299], [], [], [uV2], [], [uG1867]), [([ui0], [ur1299], [], [], [], [], [uG1872, uG1873, uG1874, uG1872])], [uk1875], 435, 0, 0)
def cq_493 : List zCtx := []
def cs_493 : List (Nat × List Nat) := []
def hs_493 : List (Nat × List Nat) := [(0, [17]), (26, [274, 1000698])]
def ns_493 : List zN := []
set_option maxRecDepth 1000000 in
theorem ca_493 : x_okA mLT1 cq_493 mTS2 mTC2 mRUp cx_493 cs_493 hs_493 ns_493 (435, []) 0 438 = true := by decide +kernel
set_option maxRecDepth 1000000 in
theorem cc_493 : x_okC mLT1 cq_493 mTS2 mTC2 mRUp cx_493 cs_493 hs_493 ns_493 (435, []) 0 438 = true := by decide +kernel
theorem ck_493 : x_ok mLT1 cq_493 mTS2 mTC2 mRUp cx_493 cs_493 hs_493 ns_493 (435, []) 0 438 = true := x_ok_of ca_493 (fun _ h => absurd h List.not_mem_nil) cc_493
theorem sn_493 {W : Bool} {X : List Int32} : y_Snd (mGw W) mLT1 (J2 W X) X cx_493 := y_ok J2_J mTS2_ok1 mTC2_ok1 mRUp_ok1 (fun _ h => absurd h List.not_mem_nil) ck_493
def cx_494pi_0 (t : List (Int × Int)) : List (Int × Int) := ui0 :: ui54 :: ui54 :: ui143 :: ui70 :: (0, 7) :: (0, 2) :: ui54 :: t
def cx_494pi_1 (t : List (Int × Int)) : List (Int × Int) := (0, 5) :: ui54 :: ui1876 :: (0, 1) :: (0, 1) :: (0, 6) :: ui1564 :: ui1562 :: t
def cx_494pi_2 (t : List (Int × Int)) : List (Int × Int) := ui1563 :: ui51 :: (0, 1) :: ui441 :: ui50 :: (0, 1) :: (0, 6) :: ui199 :: t
def cx_494pi_3 (t : List (Int × Int)) : List (Int × Int) := ui199 :: ui199 :: ui199 :: (0, 1) :: (0, 6) :: (0, 1) :: ui31 :: (0, 1) :: t
def cx_494pi_4 (t : List (Int × Int)) : List (Int × Int) := (0, 1) :: (0, 1) :: t
def cx_494pr_0 (t : List (Nat × Bool)) : List (Nat × Bool) := ur1299 :: ur1345 :: ur1346 :: ur1347 :: ur1300 :: ur1310 :: ur1328 :: ur1348 :: t
def cx_494pr_1 (t : List (Nat × Bool)) : List (Nat × Bool) := ur1313 :: ur1314 :: ur1315 :: ur1316 :: ur1461 :: ur1349 :: ur1350 :: ur1351 :: t
def cx_494pr_2 (t : List (Nat × Bool)) : List (Nat × Bool) := ur1352 :: ur1353 :: ur1462 :: ur1463 :: ur1354 :: ur1355 :: ur1356 :: ur1357 :: t
def cx_494pr_3 (t : List (Nat × Bool)) : List (Nat × Bool) := ur1358 :: ur1359 :: ur1360 :: ur1877 :: ur1878 :: ur1858 :: t
def cx_494pf_0 (t : List zFa) : List zFa := uF186 :: uF182 :: uF1097 :: uF1879 :: uF1880 :: uF1881 :: uF1414 :: uF1882 :: t
def cx_494pf_1 (t : List zFa) : List zFa := uF1883 :: uF1884 :: uF1885 :: uF1886 :: uF1887 :: uF1888 :: uF1889 :: uF1713 :: t
def cx_494pf_2 (t : List zFa) : List zFa := uF1890 :: uF1891 :: uF1892 :: uF1893 :: uF1361 :: uF1362 :: uF1363 :: uF433 :: t
def cx_494pf_3 (t : List zFa) : List zFa := uF539 :: uF1331 :: uF1789 :: uF1798 :: uF1799 :: uF1800 :: uF460 :: uF1894 :: t
def cx_494pf_4 (t : List zFa) : List zFa := uF1895 :: uF1896 :: uF1897 :: uF1898 :: uF1899 :: uF1900 :: uF1901 :: uF1902 :: t
def cx_494pf_5 (t : List zFa) : List zFa := uF1903 :: uF1904 :: uF1905 :: uF1906 :: uF1907 :: uF1908 :: uF1909 :: uF1910 :: t
def cx_494pf_6 (t : List zFa) : List zFa := uF1911 :: uF1912 :: uF1913 :: uF1914 :: t
def cx_494pg_0 (t : List zTg) : List zTg := uG1915 :: uG1873 :: uG1916 :: uG1333 :: uG1918 :: uG1919 :: uG1920 :: uG1921 :: t
def cx_494pg_1 (t : List zTg) : List zTg := uG1922 :: uG1923 :: uG1924 :: uG1925 :: t
def cx_494p : zS := ((cx_494pi_0 (cx_494pi_1 (cx_494pi_2 (cx_494pi_3 (cx_494pi_4 []))))), (cx_494pr_0 (cx_494pr_1 (cx_494pr_2 (cx_494pr_3 [])))), [], [], [uV2], (cx_494pf_0 (cx_494pf_1 (cx_494pf_2 (cx_494pf_3 (cx_494pf_4 (cx_494pf_5 (cx_494pf_6 []))))))), (cx_494pg_0 (cx_494pg_1 [])))
def cx_494q0i_0 (t : List (Int × Int)) : List (Int × Int) := ui0 :: ui54 :: ui54 :: ui143 :: ui70 :: (0, 7) :: (0, 2) :: ui54 :: t
def cx_494q0i_1 (t : List (Int × Int)) : List (Int × Int) := (0, 5) :: ui54 :: ui1876 :: (0, 1) :: (0, 1) :: (0, 6) :: ui1564 :: ui1562 :: t
def cx_494q0i_2 (t : List (Int × Int)) : List (Int × Int) := ui1563 :: ui51 :: (0, 1) :: ui441 :: ui50 :: (0, 1) :: (0, 6) :: ui199 :: t
def cx_494q0i_3 (t : List (Int × Int)) : List (Int × Int) := ui199 :: ui199 :: ui199 :: (0, 1) :: (0, 6) :: (0, 1) :: ui31 :: (0, 1) :: t
def cx_494q0i_4 (t : List (Int × Int)) : List (Int × Int) := (0, 1) :: (0, 1) :: (1, 2) :: ui54 :: ui70 :: ui50 :: (0, 7) :: (0, 5) :: t
def cx_494q0i_5 (t : List (Int × Int)) : List (Int × Int) := ui54 :: (0, 6) :: ui1815 :: ui1562 :: ui1563 :: t
def cx_494q0f_0 (t : List zFa) : List zFa := uF1926 :: (0, (false, 14, 0, []), 0, 0, 0, [(35, 1)]) :: (0, (false, 13, 0, []), 0, 0, 0, [(34, 1)]) :: uF1840 :: uF1927 :: uF1927 :: (0, (false, 12, 0, []), 0, 0, 0, [(38, 1)]) :: (0, (false, 15, 0, []), 0, 0, 0, [(39, 1)]) :: t
def cx_494q0f_1 (t : List zFa) : List zFa := (0, (false, 16, 0, []), 0, 0, 0, [(40, 1)]) :: (0, (false, 20, 0, []), 0, 0, 0, [(41, 1)]) :: (0, (false, 33, 0, []), 0, 0, 0, [(42, 1)]) :: (0, (false, 39, 0, []), 0, 0, 0, [(43, 1)]) :: (0, (false, 43, 0, []), 0, 0, 0, [(44, 1)]) :: uF1927 :: (3, (true, 0, 1, [(11, (-1))]), 0, 0, 0, [(41, 1)]) :: uF1928 :: t
def cx_494q0f_2 (t : List zFa) : List zFa := uF169 :: uF32 :: uF1885 :: uF1890 :: uF1891 :: uF1892 :: uF1893 :: uF1910 :: t
def cx_494q0f_3 (t : List zFa) : List zFa := uF1911 :: uF1912 :: t
def cx_494q0g_0 (t : List zTg) : List zTg := uG1915 :: uG1918 :: uG1919 :: uG1920 :: uG1921 :: uG1922 :: uG1923 :: uG1924 :: t
def cx_494q0g_1 (t : List zTg) : List zTg := uG1925 :: uG1929 :: uG1930 :: uG1931 :: uG1932 :: uG1933 :: uG1934 :: uG1334 :: t
def cx_494q0g_2 (t : List zTg) : List zTg := uG1332 :: uG1873 :: uG1935 :: uG1333 :: uG1918 :: uG1919 :: uG1920 :: uG1921 :: t
def cx_494q0g_3 (t : List zTg) : List zTg := uG1922 :: uG1923 :: uG1924 :: t
def cx_494q0 : zS := ((cx_494q0i_0 (cx_494q0i_1 (cx_494q0i_2 (cx_494q0i_3 (cx_494q0i_4 (cx_494q0i_5 [])))))), (cx_494pr_0 (cx_494pr_1 (cx_494pr_2 (cx_494pr_3 [])))), [], [], [uV1936], (cx_494q0f_0 (cx_494q0f_1 (cx_494q0f_2 (cx_494q0f_3 [])))), (cx_494q0g_0 (cx_494q0g_1 (cx_494q0g_2 (cx_494q0g_3 [])))))
def cx_494q1i_0 (t : List (Int × Int)) : List (Int × Int) := ui0 :: ui54 :: ui54 :: ui143 :: ui70 :: (0, 7) :: (0, 2) :: ui54 :: t
def cx_494q1i_1 (t : List (Int × Int)) : List (Int × Int) := (0, 5) :: ui54 :: ui1876 :: (0, 1) :: (0, 1) :: (0, 6) :: ui1564 :: ui1562 :: t
def cx_494q1i_2 (t : List (Int × Int)) : List (Int × Int) := ui1563 :: ui51 :: (0, 1) :: ui441 :: ui50 :: (0, 1) :: (0, 6) :: ui199 :: t
def cx_494q1i_3 (t : List (Int × Int)) : List (Int × Int) := ui199 :: ui199 :: ui199 :: (0, 1) :: (0, 6) :: (0, 1) :: ui31 :: (0, 1) :: t
def cx_494q1i_4 (t : List (Int × Int)) : List (Int × Int) := (0, 1) :: (0, 1) :: (1, 5) :: ui54 :: ui1582 :: ui1581 :: ui199 :: ui199 :: t
def cx_494q1i_5 (t : List (Int × Int)) : List (Int × Int) := ui199 :: ui199 :: ui50 :: (0, 6) :: ui70 :: ui1563 :: t
def cx_494q1f_0 (t : List zFa) : List zFa := uF1926 :: uF1937 :: uF1938 :: uF1939 :: uF1940 :: uF1941 :: uF1942 :: uF1943 :: t
def cx_494q1f_1 (t : List zFa) : List zFa := (0, (false, 20, 0, []), 0, 0, 0, [(43, 1)]) :: uF1928 :: (0, (false, 15, 0, []), 0, 0, 0, [(34, 1)]) :: uF1944 :: uF1945 :: uF1946 :: uF169 :: uF32 :: t
def cx_494q1f_2 (t : List zFa) : List zFa := uF1414 :: (0, (false, 16, 0, []), 0, 0, 0, [(35, 1)]) :: uF1885 :: (0, (false, 43, 0, []), 0, 0, 0, [(45, 1)]) :: uF1890 :: uF1891 :: uF1892 :: uF1893 :: t
def cx_494q1f_3 (t : List zFa) : List zFa := uF1910 :: uF1911 :: uF1912 :: (3, (true, 0, 1, [(11, (-1))]), 0, 0, 0, [(43, 1)]) :: t
def cx_494q1g_0 (t : List zTg) : List zTg := uG1915 :: uG1947 :: uG1948 :: uG1929 :: uG1930 :: uG1931 :: uG1932 :: uG1933 :: t
def cx_494q1g_1 (t : List zTg) : List zTg := uG1934 :: uG1918 :: uG1919 :: uG1920 :: uG1921 :: uG1922 :: uG1923 :: uG1925 :: t
def cx_494q1g_2 (t : List zTg) : List zTg := uG1334 :: uG1332 :: uG1873 :: uG1924 :: uG1935 :: uG1333 :: uG1918 :: uG1919 :: t
def cx_494q1g_3 (t : List zTg) : List zTg := uG1920 :: uG1921 :: uG1922 :: uG1923 :: uG1924 :: t
def cx_494q1 : zS := ((cx_494q1i_0 (cx_494q1i_1 (cx_494q1i_2 (cx_494q1i_3 (cx_494q1i_4 (cx_494q1i_5 [])))))), (cx_494pr_0 (cx_494pr_1 (cx_494pr_2 (cx_494pr_3 [])))), [uL1949, uL1950], [], [uV1936], (cx_494q1f_0 (cx_494q1f_1 (cx_494q1f_2 (cx_494q1f_3 [])))), (cx_494q1g_0 (cx_494q1g_1 (cx_494q1g_2 (cx_494q1g_3 [])))))
def cx_494q2i_0 (t : List (Int × Int)) : List (Int × Int) := ui0 :: ui54 :: ui54 :: ui143 :: ui70 :: (0, 7) :: (0, 2) :: ui54 :: t
def cx_494q2i_1 (t : List (Int × Int)) : List (Int × Int) := (0, 5) :: ui54 :: ui1876 :: (0, 1) :: (0, 1) :: (0, 6) :: ui1564 :: ui1562 :: t
def cx_494q2i_2 (t : List (Int × Int)) : List (Int × Int) := ui1563 :: ui51 :: (0, 1) :: ui441 :: ui50 :: (0, 1) :: (0, 6) :: ui199 :: t
def cx_494q2i_3 (t : List (Int × Int)) : List (Int × Int) := ui199 :: ui199 :: ui199 :: (0, 1) :: (0, 6) :: (0, 1) :: ui31 :: (0, 1) :: t
def cx_494q2i_4 (t : List (Int × Int)) : List (Int × Int) := (0, 1) :: (0, 1) :: ui199 :: (0, 6) :: ui1582 :: ui1581 :: ui199 :: ui199 :: t
def cx_494q2i_5 (t : List (Int × Int)) : List (Int × Int) := ui199 :: ui199 :: ui50 :: (0, 0) :: ui70 :: ui54 :: ui1563 :: (0, 6) :: t
def cx_494q2i_6 (t : List (Int × Int)) : List (Int × Int) := ui199 :: ui199 :: ui199 :: ui199 :: t
def cx_494q2f_0 (t : List zFa) : List zFa := uF1951 :: uF1952 :: uF1953 :: uF1954 :: uF1955 :: uF1865 :: (0, (false, 49, 0, []), 0, 0, 0, [(34, 1)]) :: uF1956 :: t
def cx_494q2f_1 (t : List zFa) : List zFa := uF1957 :: uF1958 :: uF1937 :: uF1938 :: uF1939 :: uF1940 :: uF1941 :: uF1942 :: t
def cx_494q2f_2 (t : List zFa) : List zFa := uF1943 :: (0, (false, 20, 0, []), 0, 0, 0, [(35, 1)]) :: uF1928 :: uF1959 :: uF1944 :: uF1945 :: uF1946 :: uF169 :: t
def cx_494q2f_3 (t : List zFa) : List zFa := uF32 :: uF1414 :: uF1960 :: uF1961 :: uF1956 :: t
def cx_494q2g_0 (t : List zTg) : List zTg := uG1872 :: uG1873 :: uG1874 :: uG1867 :: uG1868 :: uG472 :: uG1962 :: uG1947 :: t
def cx_494q2g_1 (t : List zTg) : List zTg := uG1948 :: uG1929 :: uG1930 :: uG1931 :: uG1932 :: uG1933 :: uG1934 :: uG1918 :: t
def cx_494q2g_2 (t : List zTg) : List zTg := uG1919 :: uG1920 :: uG1921 :: uG1922 :: uG1923 :: uG1925 :: uG1334 :: uG1332 :: t
def cx_494q2g_3 (t : List zTg) : List zTg := uG1924 :: uG472 :: uG1333 :: uG1948 :: (76, [uL9, uL1851]) :: (85, [uL1917, uL1851, uL198]) :: (87, [uL9, uL268, uL1852]) :: (88, [uL1917, uL1852, uL198]) :: t
def cx_494q2g_4 (t : List zTg) : List zTg := (87, [uL9, uL285, uL1963]) :: (89, [uL1917, uL1963, uL198]) :: (87, [uL9, uL287, uL1964]) :: (90, [uL1917, uL1964, uL198]) :: (87, [uL9, uL289, uL1965]) :: (91, [uL1917, uL1965, uL198]) :: (96, [uL9, uL1851, uL1917]) :: uG1947 :: t
def cx_494q2g_5 (t : List zTg) : List zTg := (275, [uL1917, uL1851]) :: t
def cx_494q2 : zS := ((cx_494q2i_0 (cx_494q2i_1 (cx_494q2i_2 (cx_494q2i_3 (cx_494q2i_4 (cx_494q2i_5 (cx_494q2i_6 []))))))), (cx_494pr_0 (cx_494pr_1 (cx_494pr_2 (cx_494pr_3 [])))), [uL1949, uL1950], [], [uV64], (cx_494q2f_0 (cx_494q2f_1 (cx_494q2f_2 (cx_494q2f_3 [])))), (cx_494q2g_0 (cx_494q2g_1 (cx_494q2g_2 (cx_494q2g_3 (cx_494q2g_4 (cx_494q2g_5 [])))))))
/-- M.read -/
def cx_494 : zCtx := (195, cx_494p, [cx_494q0, cx_494q1, cx_494q2], kc_79, 68207627, 7, 147)
def cq_494 : List zCtx := [cx_402, cx_403, cx_404, cx_491, cx_492, cx_493]
def cs_494 : List (Nat × List Nat) := [(42, [0]), (85, [1]), (121, [2]), (128, [3]), (200, [4]), (204, [5])]
def hs_494 : List (Nat × List Nat) := [(9, [1000412]), (30, [1000413]), (36, [1000414]), (88, [10]), (109, uN1966), (119, [1000246]), (131, [740, 1000411]), (134, uN1967), (174, [16]), (178, [1000419]), (186, [16]), (190, [1000419]), (191, [15, 1000457, 1000507, 1000508, 1000509, 1000510]), (192, [1000420]), (207, [1000747])]
def nd_494_0pi_0 (t : List (Int × Int)) : List (Int × Int) := ui0 :: ui54 :: ui54 :: ui143 :: ui70 :: (0, 7) :: (0, 2) :: ui54 :: t
def nd_494_0pi_1 (t : List (Int × Int)) : List (Int × Int) := (0, 5) :: ui54 :: ui1876 :: (0, 1) :: (0, 1) :: (0, 6) :: ui1564 :: ui1562 :: t
def nd_494_0pi_2 (t : List (Int × Int)) : List (Int × Int) := ui1563 :: ui51 :: (0, 1) :: ui441 :: ui50 :: (0, 1) :: (0, 6) :: ui199 :: t
def nd_494_0pi_3 (t : List (Int × Int)) : List (Int × Int) := ui199 :: ui199 :: ui199 :: (0, 1) :: (0, 6) :: (0, 1) :: ui31 :: (0, 1) :: t
def nd_494_0pi_4 (t : List (Int × Int)) : List (Int × Int) := (0, 1) :: (0, 1) :: ui54 :: t
def nd_494_0pf_0 (t : List zFa) : List zFa := uF32 :: uF186 :: uF1097 :: uF1879 :: uF1880 :: uF1881 :: uF1414 :: uF1882 :: t
def nd_494_0pf_1 (t : List zFa) : List zFa := uF1883 :: uF1884 :: uF1885 :: uF1886 :: uF1887 :: uF1888 :: uF1889 :: uF1713 :: t
def nd_494_0pf_2 (t : List zFa) : List zFa := uF1890 :: uF1891 :: uF1892 :: uF1893 :: uF1361 :: uF1362 :: uF1363 :: uF433 :: t
def nd_494_0pf_3 (t : List zFa) : List zFa := uF539 :: uF1331 :: uF1789 :: uF1798 :: uF1799 :: uF1800 :: uF460 :: uF1894 :: t
def nd_494_0pf_4 (t : List zFa) : List zFa := uF1895 :: uF1896 :: uF1897 :: uF1898 :: uF1899 :: uF1900 :: uF1901 :: uF1902 :: t
def nd_494_0pf_5 (t : List zFa) : List zFa := uF1903 :: uF1904 :: uF1905 :: uF1906 :: uF1907 :: uF1908 :: uF1909 :: uF1910 :: t
def nd_494_0pf_6 (t : List zFa) : List zFa := uF1911 :: uF1912 :: uF1913 :: uF1914 :: t
def nd_494_0pg_0 (t : List zTg) : List zTg := uG1915 :: uG1873 :: uG1916 :: uG1333 :: uG1918 :: uG1919 :: uG1920 :: uG1921 :: t
def nd_494_0pg_1 (t : List zTg) : List zTg := uG1922 :: uG1923 :: uG1924 :: uG1925 :: (54, [uL1817]) :: t
def nd_494_0p : zS := ((nd_494_0pi_0 (nd_494_0pi_1 (nd_494_0pi_2 (nd_494_0pi_3 (nd_494_0pi_4 []))))), (cx_494pr_0 (cx_494pr_1 (cx_494pr_2 (cx_494pr_3 [])))), [uL1968], [uV2, uV1936], [], (nd_494_0pf_0 (nd_494_0pf_1 (nd_494_0pf_2 (nd_494_0pf_3 (nd_494_0pf_4 (nd_494_0pf_5 (nd_494_0pf_6 []))))))), (nd_494_0pg_0 (nd_494_0pg_1 [])))
def nd_494_0 : zN := (10, nd_494_0p, (429320, [(34, (-15))]))
def nd_494_1pi_0 (t : List (Int × Int)) : List (Int × Int) := ui0 :: ui54 :: ui54 :: ui143 :: ui70 :: (0, 7) :: (0, 2) :: ui54 :: t
def nd_494_1pi_1 (t : List (Int × Int)) : List (Int × Int) := (0, 5) :: ui54 :: ui1876 :: (0, 1) :: (0, 1) :: (0, 6) :: ui1564 :: ui1562 :: t
def nd_494_1pi_2 (t : List (Int × Int)) : List (Int × Int) := ui1563 :: ui51 :: (0, 1) :: ui441 :: ui50 :: (0, 1) :: (0, 6) :: ui199 :: t
def nd_494_1pi_3 (t : List (Int × Int)) : List (Int × Int) := ui199 :: ui199 :: ui199 :: (0, 1) :: (0, 6) :: (0, 1) :: ui31 :: (0, 1) :: t
def nd_494_1pi_4 (t : List (Int × Int)) : List (Int × Int) := (0, 1) :: (0, 1) :: ui54 :: ui1582 :: ui1581 :: ui199 :: ui199 :: ui199 :: t
def nd_494_1pi_5 (t : List (Int × Int)) : List (Int × Int) := ui199 :: ui50 :: (0, 6) :: (0, 5) :: ui70 :: ui54 :: ui1563 :: (0, 2) :: t
def nd_494_1pi_6 (t : List (Int × Int)) : List (Int × Int) := ui1562 :: ui1562 :: ui70 :: t
def nd_494_1pf_0 (t : List zFa) : List zFa := (0, (false, 39, 0, []), 0, 0, 0, [(35, 1)]) :: (0, (false, 33, 0, []), 0, 0, 0, [(36, 1)]) :: (17, (true, 0, 1, [(11, (-1))]), 0, 0, 0, [(37, 1)]) :: (16, (true, 0, 1, [(11, (-1))]), 0, 0, 0, [(38, 1)]) :: (15, (true, 0, 1, [(11, (-1))]), 0, 0, 0, [(39, 1)]) :: (14, (true, 0, 1, [(11, (-1))]), 0, 0, 0, [(40, 1)]) :: uF1969 :: (0, (false, 20, 0, []), 0, 0, 0, [(42, 1)]) :: t
def nd_494_1pf_1 (t : List zFa) : List zFa := uF1928 :: uF1959 :: uF1944 :: uF1945 :: uF1946 :: uF169 :: uF32 :: uF1414 :: t
def nd_494_1pf_2 (t : List zFa) : List zFa := uF1960 :: uF1884 :: uF1885 :: uF1961 :: uF1890 :: uF1891 :: uF1892 :: uF1893 :: t
def nd_494_1pf_3 (t : List zFa) : List zFa := uF1361 :: uF1362 :: uF1363 :: uF433 :: uF539 :: uF1331 :: uF1789 :: uF1798 :: t
def nd_494_1pf_4 (t : List zFa) : List zFa := uF1799 :: uF1800 :: uF460 :: uF1894 :: uF1895 :: uF1896 :: uF1897 :: uF1898 :: t
def nd_494_1pf_5 (t : List zFa) : List zFa := uF1899 :: uF1900 :: uF1901 :: uF1902 :: uF1903 :: uF1904 :: uF1905 :: uF1906 :: t
def nd_494_1pf_6 (t : List zFa) : List zFa := uF1907 :: uF1908 :: uF1909 :: uF1910 :: uF1911 :: uF1912 :: uF1913 :: uF1914 :: t
def nd_494_1pf_7 (t : List zFa) : List zFa := (3, (true, 0, 1, [(11, (-1))]), 0, 0, 0, [(42, 1)]) :: t
def nd_494_1pg_0 (t : List zTg) : List zTg := uG1929 :: uG1930 :: uG1931 :: uG1932 :: uG1933 :: uG1934 :: uG1918 :: uG1919 :: t
def nd_494_1pg_1 (t : List zTg) : List zTg := uG1920 :: uG1921 :: uG1922 :: uG1923 :: uG1925 :: uG1334 :: uG1332 :: uG1873 :: t
def nd_494_1pg_2 (t : List zTg) : List zTg := uG1916 :: uG1333 :: uG1924 :: (3, [uL1917, uL1819, uL1819, uL1818, uL1851, uL1852, uL1963]) :: (58, [uL9, uL1848]) :: (40, [uL9, uL1848, uL65, uL65, uL65, uL1970, uL1857, uL1847, uL1849, uL1964]) :: (64, [uL9, uL1848, uL1970]) :: (78, [uL9, uL1848, uL1917]) :: t
def nd_494_1pg_3 (t : List zTg) : List zTg := uG1918 :: uG1919 :: (86, [uL9, uL1848, uL268, uL1856]) :: (86, [uL9, uL1848, uL285, uL1828]) :: (86, [uL9, uL1848, uL287, uL1821]) :: (86, [uL9, uL1848, uL289, uL1820]) :: uG1920 :: uG1921 :: t
def nd_494_1pg_4 (t : List zTg) : List zTg := uG1922 :: uG1923 :: (95, [uL9, uL1848, uL1970, uL1917, (6, [(11, (-6)), (42, 1)])]) :: uG1924 :: (216, [uL9, uL1848, uL1917, uL1818, uL65, uL1819, uL65]) :: t
def nd_494_1p : zS := ((nd_494_1pi_0 (nd_494_1pi_1 (nd_494_1pi_2 (nd_494_1pi_3 (nd_494_1pi_4 (nd_494_1pi_5 (nd_494_1pi_6 []))))))), (cx_494pr_0 (cx_494pr_1 (cx_494pr_2 (cx_494pr_3 [])))), [(0, [(1, (-1)), (34, 1)]), uL1968, (420, [(11, (-420)), (35, (-1)), (44, 1)]), (520, [(11, (-520)), (36, (-4)), (44, 1)])], [uV2, uV1936], [], (nd_494_1pf_0 (nd_494_1pf_1 (nd_494_1pf_2 (nd_494_1pf_3 (nd_494_1pf_4 (nd_494_1pf_5 (nd_494_1pf_6 (nd_494_1pf_7 [])))))))), (nd_494_1pg_0 (nd_494_1pg_1 (nd_494_1pg_2 (nd_494_1pg_3 (nd_494_1pg_4 []))))))
def nd_494_1 : zN := (112, nd_494_1p, (399273, [(44, (-998))]))
def ns_494 : List zN := [nd_494_0, nd_494_1]
set_option maxRecDepth 1000000 in
theorem ca_494 : x_okA mLT1 cq_494 mTS2 mTC2 mRUp cx_494 cs_494 hs_494 ns_494 (429327, []) 67778300 76 = true := by decide +kernel
set_option maxRecDepth 1000000 in
theorem cb_494_0 : x_okB mLT1 cq_494 mTS2 mTC2 mRUp cx_494 cs_494 hs_494 ns_494 (429327, []) 67778300 76 nd_494_0 = true := by decide +kernel
set_option maxRecDepth 1000000 in
theorem cb_494_1 : x_okB mLT1 cq_494 mTS2 mTC2 mRUp cx_494 cs_494 hs_494 ns_494 (429327, []) 67778300 76 nd_494_1 = true := by decide +kernel
set_option maxRecDepth 1000000 in
theorem cc_494 : x_okC mLT1 cq_494 mTS2 mTC2 mRUp cx_494 cs_494 hs_494 ns_494 (429327, []) 67778300 76 = true := by decide +kernel
theorem ck_494 : x_ok mLT1 cq_494 mTS2 mTC2 mRUp cx_494 cs_494 hs_494 ns_494 (429327, []) 67778300 76 = true := x_ok_of ca_494 (List.forall_mem_cons.mpr ⟨cb_494_0, List.forall_mem_cons.mpr ⟨cb_494_1, fun _ h => absurd h List.not_mem_nil⟩⟩) cc_494
theorem sn_494 {W : Bool} {X : List Int32} : y_Snd (mGw W) mLT1 (J2 W X) X cx_494 := y_ok J2_J mTS2_ok1 mTC2_ok1 mRUp_ok1 (List.forall_mem_cons.mpr ⟨sn_402, List.forall_mem_cons.mpr ⟨sn_403, List.forall_mem_cons.mpr ⟨sn_404, List.forall_mem_cons.mpr ⟨sn_491, List.forall_mem_cons.mpr ⟨sn_492, List.forall_mem_cons.mpr ⟨sn_493, fun _ h => absurd h List.not_mem_nil⟩⟩⟩⟩⟩⟩) ck_494
end
