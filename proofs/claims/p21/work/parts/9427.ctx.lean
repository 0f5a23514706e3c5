noncomputable section
/-! ===== readings, by program, checked by the kernel ===== -/
def cx_549pi_0 (t : List (Int × Int)) : List (Int × Int) := ui0 :: ui49 :: (0, 1) :: ui49 :: (0, 1) :: ui755 :: (0, 6) :: ui49 :: t
def cx_549pi_1 (t : List (Int × Int)) : List (Int × Int) := ui49 :: (0, 6) :: ui584 :: ui438 :: t
def cx_549pg_0 (t : List zTg) : List zTg := uG2119 :: uG1900 :: uG2120 :: uG2121 :: uG2144 :: uG2145 :: uG2146 :: uG2147 :: t
def cx_549pg_1 (t : List zTg) : List zTg := (244, [uL78, uL195, uL607, uL65, uL752]) :: t
def cx_549p : zS := ((cx_549pi_0 (cx_549pi_1 [])), [ur1331, ur1885, ur1380, ur1492, ur1493, ur2131, ur1905], [uL2108, uL236, uL2157, uL2158], [], [uV2, uV11], (cx_547pf_0 (cx_547pf_1 [])), (cx_549pg_0 (cx_549pg_1 [])))
/-- M.splice -/
def cx_549 : zCtx := (243, cx_549p, [([ui0, ui49, (0, 1), ui49, (0, 1), ui755, (0, 6), ui49, ui49, (0, 6), ui584, ui438], [ur1331, ur1885, ur1380, ur1492, ur1493, ur2131, ur1905], [], [], [uV825], [uF2155], [uG1900, uG1901, uG2119, uG2156, uG1894, uG1895, uG2152, (242, [uL78, uL195, uL606, uL63])])], [uk1896, uk1897, uk2135, uk1902, uk1898, uk2136], 1305467, 2, 43)
set_option maxRecDepth 1000000 in
theorem ck_549 : x_ok mLT1 [cx_543, cx_505, cx_514, cx_512, cx_548, cx_546] mTS2 mTC2 mRUp cx_549 [(1, [0]), (6, [1]), (14, [2]), (56, [3]), (108, [4]), (112, [5])] [(4, uN2128), (29, uN2129), (31, [20, 85, 1000912, 1000913, 1000914, 1000831, 1000848, 1000915]), (46, [23]), (71, [1000637]), (107, [25, 1000916, 1000917]), (108, [1000918])] [] (72, []) 1305395 75 = true := by decide +kernel
theorem sn_549 {W : Bool} {X : List Int32} : y_Snd (mGw W) mLT1 (J2 W X) X cx_549 := y_ok J2_J mTS2_ok1 mTC2_ok1 mRUp_ok1 (List.forall_mem_cons.mpr ⟨sn_543, List.forall_mem_cons.mpr ⟨sn_505, List.forall_mem_cons.mpr ⟨sn_514, List.forall_mem_cons.mpr ⟨sn_512, List.forall_mem_cons.mpr ⟨sn_548, List.forall_mem_cons.mpr ⟨sn_546, fun _ h => absurd h List.not_mem_nil⟩⟩⟩⟩⟩⟩) ck_549
/-- M.unsplice -/
def cx_550 : zCtx := (246, ([ui0, (0, 1), ui49, (0, 1), ui439, (0, 6), ui49, ui49], [ur1331, ur1380, ur1885], [uL576], [], [uV2], [uF1886, uF1887, uF1888, uF2159, uF1495, uF2049], [uG2119, uG1900, uG2160, uG2161]), [([ui0, (0, 1), ui49, (0, 1), ui439, (0, 6), ui49, ui49], [ur1331, ur1380, ur1885], [], [], [uV61], [], [uG1894, uG1895, uG2161])], [uk1896, uk1897, uk1898], 454, 1, 21)
set_option maxRecDepth 1000000 in
theorem ck_550 : x_ok mLT1 [cx_543] mTS2 mTC2 mRUp cx_550 [(1, [0])] [(4, [1000822]), (11, uN2162)] [] (9, []) 445 12 = true := by decide +kernel
theorem sn_550 {W : Bool} {X : List Int32} : y_Snd (mGw W) mLT1 (J2 W X) X cx_550 := y_ok J2_J mTS2_ok1 mTC2_ok1 mRUp_ok1 (List.forall_mem_cons.mpr ⟨sn_543, fun _ h => absurd h List.not_mem_nil⟩) ck_550
/-- M.loses -/
def cx_551 : zCtx := (247, ([ui0, (0, 6), (0, 6), (0, 1), (0, 6)], [ur1331, ur1885, ur1380], [uL765, uL9, uL507], [], [uV2, uV11], [uF1889, (1, (true, 0, 24, []), 0, 0, 0, [(2, 1)]), uF2024, uF2125], [uG1894, uG2098, (237, [uL98, uL63, uL63, uL63, uL63, uL63, uL63, uL63])]), [([ui0, (0, 6), (0, 6), (0, 1), (0, 6), (0, 6)], [ur1331, ur1885, ur1380], [uL765, uL9, uL507], [], [], [uF2045], [uG1894, (237, [uL98, uL63, uL63, uL63, uL114, uL9, uL63, uL63])])], [uk1898], 307, 0, 0)
set_option maxRecDepth 1000000 in
theorem ck_551 : x_ok mLT1 [] mTS2 mTC2 mRUp cx_551 [] [(1, [1000922]), (8, [20]), (11, [1000923]), (62, [150]), (74, [24, 25, 1000924])] [(0, ([(0, 3072), (0, 5), (1, 6), (0, 1), (1, 6), (0, 5), (0, 5)], [(12, false), (78, false), (56, false)], [((-1), [(4, 1), (5, (-1))]), ((-1), [(1, (-1)), (2, 1)]), (6, [(4, (-1))]), (0, [(1, 1)]), (0, [(1, (-1)), (2, 1)]), (0, [(1, (-1)), (6, 1)])], [(2, 0, 0, []), (0, 0, 0, [(1, 1)]), (0, 0, 0, [(5, 1)])], [], [(1, (true, 0, 24, []), 0, 0, 0, [(6, 1)]), (0, (false, 48, 0, []), 2, 1, 0, []), (0, (false, 18, 0, []), 0, 0, 0, [(3, 1)]), (0, (false, 22, 0, []), 2, 2, 0, [])], [(11, [((-1), [])]), (85, [(0, [(3, 1)]), (0, [(4, 1)]), (1, [(3, (-1))])]), (237, [(0, [(4, 1)]), (0, []), (0, []), (0, []), (2, []), (0, [(6, 1)]), (0, []), (0, [])])]), (7, [(6, 50)]))] (307, []) 0 52 = true := by decide +kernel
theorem sn_551 {W : Bool} {X : List Int32} : y_Snd (mGw W) mLT1 (J2 W X) X cx_551 := y_ok J2_J mTS2_ok1 mTC2_ok1 mRUp_ok1 (fun _ h => absurd h List.not_mem_nil) ck_551
def cx_552pi_0 (t : List (Int × Int)) : List (Int × Int) := ui0 :: (0, 1) :: ui49 :: (0, 1) :: ui438 :: (0, 6) :: ui49 :: ui49 :: t
def cx_552pi_1 (t : List (Int × Int)) : List (Int × Int) := (1, 6) :: (0, 5) :: ui438 :: t
def cx_552pg_0 (t : List zTg) : List zTg := uG2119 :: uG1900 :: uG2160 :: uG2163 :: uG2164 :: uG2165 :: (244, [uL104, uL170, uL98, uL63, (0, [(4, 33)])]) :: t
def cx_552p : zS := ((cx_552pi_0 (cx_552pi_1 [])), [ur1331, ur1380, ur1885, ur2131, ur1905], [uL576, (39, [(4, (-1))])], [], [uV2], [uF1886, uF1887, uF1888, uF2159, uF1495, uF2049, uF2134, uF2166], (cx_552pg_0 []))
/-- M.unsplice -/
def cx_552 : zCtx := (246, cx_552p, [([ui0, (0, 1), ui49, (0, 1), ui438, (0, 6), ui49, ui49, (1, 6), (0, 5), ui438], [ur1331, ur1380, ur1885, ur2131, ur1905], [], [], [uV778], [(0, (false, 53, 0, []), 0, 0, 1, [(4, 1)])], [uG1900, uG1901, uG2119, (12, [uL98]), uG1894, uG2167, (242, [uL104, uL170, uL169, uL63])])], [uk1896, uk1897, uk2135, uk1902, uk1898, uk2136], 1076, 2, 42)
set_option maxRecDepth 1000000 in
theorem ck_552 : x_ok mLT1 [cx_543, cx_551, cx_545] mTS2 mTC2 mRUp cx_552 [(1, [0]), (42, [1]), (46, [2])] [(4, [1000822]), (11, uN2162), (30, uN2168)] [] (29, []) 1047 32 = true := by decide +kernel
theorem sn_552 {W : Bool} {X : List Int32} : y_Snd (mGw W) mLT1 (J2 W X) X cx_552 := y_ok J2_J mTS2_ok1 mTC2_ok1 mRUp_ok1 (List.forall_mem_cons.mpr ⟨sn_543, List.forall_mem_cons.mpr ⟨sn_551, List.forall_mem_cons.mpr ⟨sn_545, fun _ h => absurd h List.not_mem_nil⟩⟩⟩) ck_552
def cx_553pi_0 (t : List (Int × Int)) : List (Int × Int) := ui0 :: (0, 1) :: ui49 :: (0, 1) :: ui755 :: (0, 6) :: ui49 :: ui49 :: t
def cx_553pi_1 (t : List (Int × Int)) : List (Int × Int) := (1, 6) :: (0, 5) :: ui438 :: t
def cx_553pg_0 (t : List zTg) : List zTg := uG2119 :: uG1900 :: uG2160 :: uG2163 :: uG2164 :: uG2165 :: (244, [uL104, uL170, uL607, uL65, uL752]) :: t
def cx_553p : zS := ((cx_553pi_0 (cx_553pi_1 [])), [ur1331, ur1380, ur1885, ur2131, ur1905], [uL576, ((-40), [(4, 1)]), (40, [(4, (-1))])], [], [uV2], [uF1886, uF1887, uF1888, uF2159, uF1495, uF2049, uF2134, uF2166], (cx_553pg_0 []))
/-- M.unsplice -/
def cx_553 : zCtx := (246, cx_553p, [([ui0, (0, 1), ui49, (0, 1), ui755, (0, 6), ui49, ui49, (1, 6), (0, 5), ui438], [ur1331, ur1380, ur1885, ur2131, ur1905], [], [], [uV778], [uF2155], [uG1900, uG1901, uG2119, uG2156, uG1894, uG2167, (242, [uL104, uL170, uL606, uL63])])], [uk1896, uk1897, uk2135, uk1902, uk1898, uk2136], 1305424, 2, 42)
set_option maxRecDepth 1000000 in
theorem ck_553 : x_ok mLT1 [cx_543, cx_551, cx_548] mTS2 mTC2 mRUp cx_553 [(1, [0]), (42, [1]), (46, [2])] [(4, [1000822]), (11, uN2162), (30, uN2168)] [] (29, []) 1305395 32 = true := by decide +kernel
theorem sn_553 {W : Bool} {X : List Int32} : y_Snd (mGw W) mLT1 (J2 W X) X cx_553 := y_ok J2_J mTS2_ok1 mTC2_ok1 mRUp_ok1 (List.forall_mem_cons.mpr ⟨sn_543, List.forall_mem_cons.mpr ⟨sn_551, List.forall_mem_cons.mpr ⟨sn_548, fun _ h => absurd h List.not_mem_nil⟩⟩⟩) ck_553
/-- M.isWeight -/
def cx_554 : zCtx := (249, ([ui0, ui49], [], [], [], [uV11], [], []), [([ui0, ui262], [], [], [], [uV62], [], []), ([ui0, ui799], [], [], [], [uV62], [], []), ([ui0, ui584], [], [], [], [uV64], [], [])], [], 14, 1, 22)
set_option maxRecDepth 1000000 in
theorem ck_554 : x_ok mLT1 [cx_504] mTS2 mTC2 mRUp cx_554 [(5, [0])] [] [] (5, []) 9 8 = true := by decide +kernel
theorem sn_554 {W : Bool} {X : List Int32} : y_Snd (mGw W) mLT1 (J2 W X) X cx_554 := y_ok J2_J mTS2_ok1 mTC2_ok1 mRUp_ok1 (List.forall_mem_cons.mpr ⟨sn_504, fun _ h => absurd h List.not_mem_nil⟩) ck_554
def cx_555pi_0 (t : List (Int × Int)) : List (Int × Int) := ui0 :: ui799 :: (0, 1) :: ui49 :: (0, 1) :: ui439 :: ui31 :: (0, 6) :: t
def cx_555pi_1 (t : List (Int × Int)) : List (Int × Int) := (0, 6) :: ui49 :: ui49 :: ui196 :: t
def cx_555pr_0 (t : List (Nat × Bool)) : List (Nat × Bool) := ur1331 :: ur1378 :: ur1379 :: ur1389 :: ur1390 :: ur1391 :: ur1392 :: ur1393 :: t
def cx_555pr_1 (t : List (Nat × Bool)) : List (Nat × Bool) := ur1387 :: ur1388 :: ur1380 :: ur1492 :: ur1493 :: ur1382 :: ur1885 :: ur1383 :: t
def cx_555pf_0 (t : List zFa) : List zFa := uF2020 :: uF2122 :: uF2123 :: uF2124 :: uF1394 :: uF1395 :: uF2027 :: uF2028 :: t
def cx_555pf_1 (t : List zFa) : List zFa := uF2029 :: uF2030 :: uF2031 :: uF1625 :: uF1626 :: uF2032 :: uF2033 :: uF2034 :: t
def cx_555pf_2 (t : List zFa) : List zFa := uF1920 :: uF2113 :: uF2169 :: t
def cx_555pg_0 (t : List zTg) : List zTg := uG2067 :: uG2119 :: uG1900 :: uG2170 :: uG2171 :: uG2172 :: uG2173 :: uG2174 :: t
def cx_555pg_1 (t : List zTg) : List zTg := uG2042 :: t
def cx_555p : zS := ((cx_555pi_0 (cx_555pi_1 [])), (cx_555pr_0 (cx_555pr_1 [])), [uL1172], [], [uV2, uV11], (cx_555pf_0 (cx_555pf_1 (cx_555pf_2 []))), (cx_555pg_0 (cx_555pg_1 [])))
/-- M.haul -/
def cx_555 : zCtx := (248, cx_555p, [([ui0, ui799, (0, 1), ui49, (0, 1), ui439, ui31, (0, 6), (0, 6), ui49, ui49, ui196], [ur1331, ur1378, ur1379, ur1389, ur1390, ur1391, ur1392, ur1393, ur1387, ur1388, ur1380, ur1492, ur1493, ur1382, ur1885, ur1383], [], [], [uV61], [], [uG1894, uG1895, uG2042])], [uk1896, uk1897, uk1898], 452, 2, 42)
set_option maxRecDepth 1000000 in
theorem ck_555 : x_ok mLT1 [cx_543, cx_554] mTS2 mTC2 mRUp cx_555 [(1, [0]), (5, [1])] [(4, [1000822])] [] (7, []) 445 10 = true := by decide +kernel
theorem sn_555 {W : Bool} {X : List Int32} : y_Snd (mGw W) mLT1 (J2 W X) X cx_555 := y_ok J2_J mTS2_ok1 mTC2_ok1 mRUp_ok1 (List.forall_mem_cons.mpr ⟨sn_543, List.forall_mem_cons.mpr ⟨sn_554, fun _ h => absurd h List.not_mem_nil⟩⟩) ck_555
def cx_556pi_0 (t : List (Int × Int)) : List (Int × Int) := ui0 :: ui196 :: ui196 :: ui196 :: ui196 :: ui196 :: ui196 :: (0, 1) :: t
def cx_556pi_1 (t : List (Int × Int)) : List (Int × Int) := (0, 6) :: ui49 :: ui49 :: ui49 :: ui49 :: ui49 :: ui49 :: ui49 :: t
def cx_556pi_2 (t : List (Int × Int)) : List (Int × Int) := (0, 6) :: t
def cx_556pf_0 (t : List zFa) : List zFa := uF1889 :: uF2137 :: uF2138 :: uF2139 :: uF2140 :: uF2141 :: uF2142 :: (0, (false, 18, 0, []), 0, 0, 0, [(7, 1)]) :: t
def cx_556pf_1 (t : List zFa) : List zFa := uF2125 :: (1, (true, 0, 24, []), 0, 0, 0, [(16, 1)]) :: t
def cx_556p : zS := ((cx_556pi_0 (cx_556pi_1 (cx_556pi_2 []))), [ur1331, ur1885, ur1380], [uL2175], [], [uV2], (cx_556pf_0 (cx_556pf_1 [])), [(85, [uL79, uL131, uL1647]), (237, [uL131, uL164, uL170, uL195, uL214, uL207, uL208, uL209])])
def cx_556q0i_0 (t : List (Int × Int)) : List (Int × Int) := ui0 :: ui1131 :: ui1131 :: ui1131 :: ui1131 :: ui1131 :: ui1131 :: (0, 1) :: t
def cx_556q0i_1 (t : List (Int × Int)) : List (Int × Int) := (0, 6) :: ui49 :: ui49 :: ui49 :: ui49 :: ui49 :: ui49 :: ui49 :: t
def cx_556q0i_2 (t : List (Int × Int)) : List (Int × Int) := (0, 6) :: t
def cx_556q0 : zS := ((cx_556q0i_0 (cx_556q0i_1 (cx_556q0i_2 []))), [ur1331, ur1885, ur1380], [(594, [(1, (-1)), (2, (-1)), (3, (-1)), (4, (-1)), (5, (-1)), (6, (-1))]), uL2176, uL2175], [], [uV2143], [], [(238, [uL65, uL164, uL170, uL195, uL214, uL207, uL208, uL209, uL63, uL212, uL2176])])
/-- M.ropeLong -/
def cx_556 : zCtx := (245, cx_556p, [cx_556q0], [], 30, 0, 0)
set_option maxRecDepth 1000000 in
theorem ck_556 : x_ok mLT1 [] mTS2 mTC2 mRUp cx_556 [] [(47, [1000917, 1000938])] [] (30, []) 0 33 = true := by decide +kernel
theorem sn_556 {W : Bool} {X : List Int32} : y_Snd (mGw W) mLT1 (J2 W X) X cx_556 := y_ok J2_J mTS2_ok1 mTC2_ok1 mRUp_ok1 (fun _ h => absurd h List.not_mem_nil) ck_556
def cx_557pi_0 (t : List (Int × Int)) : List (Int × Int) := ui0 :: ui584 :: (0, 1) :: ui49 :: (0, 1) :: ui439 :: ui31 :: (0, 6) :: t
def cx_557pi_1 (t : List (Int × Int)) : List (Int × Int) := ui49 :: ui49 :: ui196 :: (0, 6) :: ui584 :: t
def cx_557pg_0 (t : List zTg) : List zTg := uG2067 :: uG2119 :: uG1900 :: uG2170 :: uG2171 :: uG2172 :: uG2173 :: uG2177 :: t
def cx_557pg_1 (t : List zTg) : List zTg := uG2178 :: uG2179 :: uG2180 :: t
def cx_557p : zS := ((cx_557pi_0 (cx_557pi_1 [])), (cx_555pr_0 (cx_555pr_1 [])), [uL1172, ((-1), [(10, 1), (12, (-1))])], [], [uV2, uV11], (cx_555pf_0 (cx_555pf_1 (cx_555pf_2 []))), (cx_557pg_0 (cx_557pg_1 [])))
/-- M.haul -/
def cx_557 : zCtx := (248, cx_557p, [([ui0, ui584, (0, 1), ui49, (0, 1), ui439, ui31, (0, 6), ui49, ui49, ui196, (0, 6), ui584], [ur1331, ur1378, ur1379, ur1389, ur1390, ur1391, ur1392, ur1393, ur1387, ur1388, ur1380, ur1492, ur1493, ur1382, ur1885, ur1383], [], [], [uV61], [], [uG1894, uG1895, uG2180])], [uk1896, uk1897, uk1898], 460, 2, 42)
set_option maxRecDepth 1000000 in
theorem ck_557 : x_ok mLT1 [cx_543, cx_554, cx_556] mTS2 mTC2 mRUp cx_557 [(1, [0]), (5, [1]), (12, [2])] [(4, [1000822]), (15, uN2181), (24, uN2182)] [] (15, []) 445 18 = true := by decide +kernel
theorem sn_557 {W : Bool} {X : List Int32} : y_Snd (mGw W) mLT1 (J2 W X) X cx_557 := y_ok J2_J mTS2_ok1 mTC2_ok1 mRUp_ok1 (List.forall_mem_cons.mpr ⟨sn_543, List.forall_mem_cons.mpr ⟨sn_554, List.forall_mem_cons.mpr ⟨sn_556, fun _ h => absurd h List.not_mem_nil⟩⟩⟩) ck_557
def cx_558pi_0 (t : List (Int × Int)) : List (Int × Int) := ui0 :: ui262 :: (0, 1) :: ui49 :: (0, 1) :: ui439 :: ui31 :: (0, 6) :: t
def cx_558pi_1 (t : List (Int × Int)) : List (Int × Int) := (0, 6) :: ui49 :: ui49 :: ui196 :: t
def cx_558p : zS := ((cx_558pi_0 (cx_558pi_1 [])), (cx_555pr_0 (cx_555pr_1 [])), [uL1172], [], [uV2, uV11], (cx_555pf_0 (cx_555pf_1 (cx_555pf_2 []))), (cx_555pg_0 (cx_555pg_1 [])))
/-- M.haul -/
def cx_558 : zCtx := (248, cx_558p, [([ui0, ui262, (0, 1), ui49, (0, 1), ui439, ui31, (0, 6), (0, 6), ui49, ui49, ui196], [ur1331, ur1378, ur1379, ur1389, ur1390, ur1391, ur1392, ur1393, ur1387, ur1388, ur1380, ur1492, ur1493, ur1382, ur1885, ur1383], [], [], [uV61], [], [uG1894, uG1895, uG2042])], [uk1896, uk1897, uk1898], 452, 2, 42)
set_option maxRecDepth 1000000 in
theorem ck_558 : x_ok mLT1 [cx_543, cx_554] mTS2 mTC2 mRUp cx_558 [(1, [0]), (5, [1])] [(4, [1000822])] [] (7, []) 445 10 = true := by decide +kernel
theorem sn_558 {W : Bool} {X : List Int32} : y_Snd (mGw W) mLT1 (J2 W X) X cx_558 := y_ok J2_J mTS2_ok1 mTC2_ok1 mRUp_ok1 (List.forall_mem_cons.mpr ⟨sn_543, List.forall_mem_cons.mpr ⟨sn_554, fun _ h => absurd h List.not_mem_nil⟩⟩) ck_558
def cx_559p : zS := ((cx_515pi_0 (cx_515pi_1 [])), [ur1331, ur1380, ur1885], [uL511, uL9, uL1130], [], [uV2, uV11], [uF2020, uF1495, uF2049, uF2050], [uG2022, uG2051])
/-- M.belowOf -/
def cx_559 : zCtx := (252, cx_559p, [([ui0, (0, 5), (0, 1), (0, 6), ui49, ui49, ui49, ui49, ui49, ui49, ui49, (0, 6), ui767], [ur1331, ur1380, ur1885], [uL511, uL9, uL1130, uL214], [], [uV198], [], [(238, [uL65, uL98, uL104, uL78, uL79, uL131, uL164, uL170, uL109, uL195, uL214])])], [], 130, 0, 0)
def cz_559_0i_0 (t : List (Int × Int)) : List (Int × Int) := ui0 :: (0, 5) :: (0, 1) :: (0, 6) :: ui49 :: ui49 :: ui49 :: ui49 :: t
def cz_559_0i_1 (t : List (Int × Int)) : List (Int × Int) := ui49 :: ui49 :: ui49 :: (0, 6) :: ui767 :: (1, 6) :: t
def cz_559_0 : zS := ((cz_559_0i_0 (cz_559_0i_1 [])), [ur1331, ur1380, ur1885], [uL511, uL9, uL1130, uL214, ((-99), [(1, (-99)), (12, (-1)), (13, 99)]), ((-1), [(1, (-1)), (13, 1)]), (0, [(11, 1), (13, (-1))])], [uV2, uV11, uV198, uV409], [], [uF2020, uF1495, uF2049, uF2050], [uG2022, uG2051, (238, [uL65, uL98, uL104, uL78, uL79, uL131, uL164, uL170, uL109, uL207, uL214])])
set_option maxRecDepth 1000000 in
theorem ck_559 : x_ok mLT1 [] mTS2 mTC2 mRUp cx_559 [] [(2, [1000947]), (35, [1000948]), (36, [1000908])] [(6, cz_559_0, (146, [(13, (-23))]))] (130, []) 0 25 = true := by decide +kernel
theorem sn_559 {W : Bool} {X : List Int32} : y_Snd (mGw W) mLT1 (J2 W X) X cx_559 := y_ok J2_J mTS2_ok1 mTC2_ok1 mRUp_ok1 (fun _ h => absurd h List.not_mem_nil) ck_559
def cx_560pi_0 (t : List (Int × Int)) : List (Int × Int) := ui0 :: ui802 :: (0, 1) :: ui31 :: (0, 6) :: ui49 :: ui49 :: ui49 :: t
def cx_560pi_1 (t : List (Int × Int)) : List (Int × Int) := ui49 :: ui49 :: ui49 :: (0, 6) :: t
def cx_560pf_0 (t : List zFa) : List zFa := uF2020 :: uF1394 :: uF1395 :: uF2027 :: uF2028 :: uF2029 :: uF2030 :: uF2031 :: t
def cx_560pf_1 (t : List zFa) : List zFa := uF1625 :: uF1626 :: uF2032 :: uF2033 :: uF2034 :: uF1920 :: uF2113 :: (14, (true, 0, 24, []), 0, 0, 0, [(11, 1)]) :: t
def cx_560p : zS := ((cx_560pi_0 (cx_560pi_1 [])), (cx_538pr_0 (cx_538pr_1 [])), [uL765, uL9, uL2183], [], [uV2, uV11], (cx_560pf_0 (cx_560pf_1 [])), [uG2067, uG2068, uG2084, uG2085, uG2173, uG2086])
def cx_560q0i_0 (t : List (Int × Int)) : List (Int × Int) := ui0 :: ui802 :: (0, 1) :: ui31 :: (0, 6) :: ui49 :: ui49 :: ui49 :: t
def cx_560q0i_1 (t : List (Int × Int)) : List (Int × Int) := ui49 :: ui49 :: ui49 :: (1, 6) :: ui2184 :: t
def cx_560q0 : zS := ((cx_560q0i_0 (cx_560q0i_1 [])), (cx_538pr_0 (cx_538pr_1 [])), [uL765, uL9, uL2183], [], [uV198], [], [(238, [uL114, uL23, uL104, uL78, uL79, uL131, uL164, uL170, uL9, uL63, uL214])])
/-- M.spareAt -/
def cx_560 : zCtx := (251, cx_560p, [cx_560q0], [uk2063, uk2055, uk2064], 77677, 5, 108)
set_option maxRecDepth 1000000 in
theorem ck_560 : x_ok mLT1 [cx_559, cx_538] mTS2 mTC2 mRUp cx_560 [(32, [0]), (58, [1]), (63, [0])] [(2, [1000023]), (3, [1000731]), (4, [1000943]), (16, [1000679]), (17, [1000944]), (21, [1000945]), (30, [1000946]), (36, [1000949]), (57, [1000945]), (58, [1000952]), (61, [1000953]), (76, [1000954]), (77, [1000950, 1000951])] [] (39, []) 77638 42 = true := by decide +kernel
theorem sn_560 {W : Bool} {X : List Int32} : y_Snd (mGw W) mLT1 (J2 W X) X cx_560 := y_ok J2_J mTS2_ok1 mTC2_ok1 mRUp_ok1 (List.forall_mem_cons.mpr ⟨sn_559, List.forall_mem_cons.mpr ⟨sn_538, fun _ h => absurd h List.not_mem_nil⟩⟩) ck_560
def cx_561pi_0 (t : List (Int × Int)) : List (Int × Int) := ui0 :: ui807 :: (0, 1) :: ui31 :: (0, 6) :: ui49 :: ui49 :: ui49 :: t
def cx_561pi_1 (t : List (Int × Int)) : List (Int × Int) := ui49 :: ui49 :: ui49 :: (0, 6) :: t
def cx_561p : zS := ((cx_561pi_0 (cx_561pi_1 [])), (cx_538pr_0 (cx_538pr_1 [])), [uL765], [], [uV2, uV11], (cx_560pf_0 (cx_560pf_1 [])), [uG2067, uG2068, uG2084, uG2085, uG2173, uG2086])
def cx_561q0i_0 (t : List (Int × Int)) : List (Int × Int) := ui0 :: ui807 :: (0, 1) :: ui31 :: (0, 6) :: ui49 :: ui49 :: ui49 :: t
def cx_561q0i_1 (t : List (Int × Int)) : List (Int × Int) := ui49 :: ui49 :: ui49 :: (1, 6) :: ui802 :: t
def cx_561q0 : zS := ((cx_561q0i_0 (cx_561q0i_1 [])), (cx_538pr_0 (cx_538pr_1 [])), [((-1), [(11, 2), (12, (-1))]), uL765, uL2185], [], [uV198], [], [(238, [uL211, uL23, uL104, uL78, uL79, uL131, uL164, uL170, uL9, uL63, uL214])])
/-- M.breaksAt -/
def cx_561 : zCtx := (250, cx_561p, [cx_561q0, ([ui0, ui807, (0, 1), ui31, (0, 6), ui49, ui49, ui49, ui49, ui49, ui49, (0, 6)], [ur1331, ur1378, ur1379, ur1389, ur1390, ur1391, ur1392, ur1393, ur1387, ur1388, ur1380, ur1492, ur1493, ur1382, ur1885], [uL765], [], [uV61], [], [(238, [uL211, uL23, uL104, uL78, uL79, uL131, uL164, uL170, uL9, uL63, uL99])])], [uk2063, uk2055, uk2064], 78042, 6, 131)
def cz_561_0i_0 (t : List (Int × Int)) : List (Int × Int) := ui0 :: ui807 :: (0, 1) :: ui31 :: (0, 6) :: ui49 :: ui49 :: ui49 :: t
def cz_561_0i_1 (t : List (Int × Int)) : List (Int × Int) := ui49 :: ui49 :: ui49 :: (0, 6) :: ui425 :: t
def cz_561_0g_0 (t : List zTg) : List zTg := uG2067 :: uG2068 :: uG2084 :: uG2085 :: uG2173 :: uG2086 :: (238, [uL527, uL23, uL104, uL78, uL79, uL131, uL164, uL170, uL9, uL214, uL65]) :: t
def cz_561_0 : zS := ((cz_561_0i_0 (cz_561_0i_1 [])), (cx_538pr_0 (cx_538pr_1 [])), [uL765, uL2185], [uV2, uV11, uV198], [], (cx_560pf_0 (cx_560pf_1 [])), (cz_561_0g_0 []))
set_option maxRecDepth 1000000 in
theorem ck_561 : x_ok mLT1 [cx_560] mTS2 mTC2 mRUp cx_561 [(17, [0])] [(1, [1000942]), (21, [1000012]), (24, [1000955]), (26, [1000956]), (32, [1000957])] [(2, cz_561_0, (362, [(12, (-16))]))] (365, []) 77677 18 = true := by decide +kernel
theorem sn_561 {W : Bool} {X : List Int32} : y_Snd (mGw W) mLT1 (J2 W X) X cx_561 := y_ok J2_J mTS2_ok1 mTC2_ok1 mRUp_ok1 (List.forall_mem_cons.mpr ⟨sn_560, fun _ h => absurd h List.not_mem_nil⟩) ck_561
def cx_562pi_0 (t : List (Int × Int)) : List (Int × Int) := ui0 :: ui584 :: (0, 1) :: ui49 :: (0, 1) :: ui438 :: ui31 :: (0, 6) :: t
def cx_562pi_1 (t : List (Int × Int)) : List (Int × Int) := (0, 6) :: ui49 :: ui49 :: ui196 :: (0, 6) :: ui584 :: ui818 :: ui438 :: t
def cx_562pr_0 (t : List (Nat × Bool)) : List (Nat × Bool) := ur1331 :: ur1378 :: ur1379 :: ur1389 :: ur1390 :: ur1391 :: ur1392 :: ur1393 :: t
def cx_562pr_1 (t : List (Nat × Bool)) : List (Nat × Bool) := ur1387 :: ur1388 :: ur1380 :: ur1492 :: ur1493 :: ur1382 :: ur1885 :: ur1383 :: t
def cx_562pr_2 (t : List (Nat × Bool)) : List (Nat × Bool) := ur2131 :: ur1905 :: t
def cx_562pf_0 (t : List zFa) : List zFa := uF2020 :: uF2122 :: uF2123 :: uF2124 :: uF1394 :: uF1395 :: uF2027 :: uF2028 :: t
def cx_562pf_1 (t : List zFa) : List zFa := uF2029 :: uF2030 :: uF2031 :: uF1625 :: uF1626 :: uF2032 :: uF2033 :: uF2034 :: t
def cx_562pf_2 (t : List zFa) : List zFa := uF1920 :: uF2113 :: uF2169 :: (0, (false, 54, 0, []), 2, 16, 0, []) :: (0, (false, 47, 0, []), 2, 17, 0, []) :: t
def cx_562pg_0 (t : List zTg) : List zTg := uG2067 :: uG2119 :: uG1900 :: uG2170 :: uG2171 :: uG2172 :: uG2173 :: uG2174 :: t
def cx_562pg_1 (t : List zTg) : List zTg := uG2186 :: uG2187 :: uG2188 :: uG2189 :: uG2190 :: (244, [uL79, uL209, uL104, uL63, uL2148]) :: t
def cx_562p : zS := ((cx_562pi_0 (cx_562pi_1 [])), (cx_562pr_0 (cx_562pr_1 (cx_562pr_2 []))), [uL1172, uL2191, uL2149], [], [uV2, uV11], (cx_562pf_0 (cx_562pf_1 (cx_562pf_2 []))), (cx_562pg_0 (cx_562pg_1 [])))
def cx_562q0 : zS := ((cx_562pi_0 (cx_562pi_1 [])), (cx_562pr_0 (cx_562pr_1 (cx_562pr_2 []))), [], [], [uV144], [uF2150], [uG1900, uG1901, uG2119, uG2151, uG1894, uG2042, (242, [uL79, uL209, uL205, uL63])])
/-- M.haul -/
def cx_562 : zCtx := (248, cx_562p, [cx_562q0], kc_80, 78073, 7, 153)
set_option maxRecDepth 1000000 in
theorem ck_562 : x_ok mLT1 [cx_543, cx_554, cx_556, cx_561, cx_551, cx_545] mTS2 mTC2 mRUp cx_562 [(1, [0]), (5, [1]), (12, [2]), (31, [3]), (57, [4]), (61, [5])] [(4, [1000822]), (15, uN2181), (24, uN2182), (29, [1000834]), (34, [1000958]), (56, [1000023]), (57, uN2192), (71, [1000857])] [] (31, []) 78042 34 = true := by decide +kernel
theorem sn_562 {W : Bool} {X : List Int32} : y_Snd (mGw W) mLT1 (J2 W X) X cx_562 := y_ok J2_J mTS2_ok1 mTC2_ok1 mRUp_ok1 (List.forall_mem_cons.mpr ⟨sn_543, List.forall_mem_cons.mpr ⟨sn_554, List.forall_mem_cons.mpr ⟨sn_556, List.forall_mem_cons.mpr ⟨sn_561, List.forall_mem_cons.mpr ⟨sn_551, List.forall_mem_cons.mpr ⟨sn_545, fun _ h => absurd h List.not_mem_nil⟩⟩⟩⟩⟩⟩) ck_562
def cx_563pi_0 (t : List (Int × Int)) : List (Int × Int) := ui0 :: ui584 :: (0, 1) :: ui49 :: (0, 1) :: ui755 :: ui31 :: (0, 6) :: t
def cx_563pi_1 (t : List (Int × Int)) : List (Int × Int) := (0, 6) :: ui49 :: ui49 :: ui196 :: (0, 6) :: ui584 :: ui818 :: ui438 :: t
def cx_563pg_0 (t : List zTg) : List zTg := uG2067 :: uG2119 :: uG1900 :: uG2170 :: uG2171 :: uG2172 :: uG2173 :: uG2174 :: t
def cx_563pg_1 (t : List zTg) : List zTg := uG2186 :: uG2187 :: uG2188 :: uG2189 :: uG2190 :: (244, [uL79, uL209, uL607, uL65, uL752]) :: t
def cx_563p : zS := ((cx_563pi_0 (cx_563pi_1 [])), (cx_562pr_0 (cx_562pr_1 (cx_562pr_2 []))), [uL1172, uL2191, uL2157, uL2158], [], [uV2, uV11], (cx_562pf_0 (cx_562pf_1 (cx_562pf_2 []))), (cx_563pg_0 (cx_563pg_1 [])))
def cx_563q0 : zS := ((cx_563pi_0 (cx_563pi_1 [])), (cx_562pr_0 (cx_562pr_1 (cx_562pr_2 []))), [], [], [uV144], [uF2155], [uG1900, uG1901, uG2119, uG2156, uG1894, uG2042, (242, [uL79, uL209, uL606, uL63])])
/-- M.haul -/
def cx_563 : zCtx := (248, cx_563p, [cx_563q0], kc_80, 1305426, 7, 153)
set_option maxRecDepth 1000000 in
theorem ck_563 : x_ok mLT1 [cx_543, cx_554, cx_556, cx_561, cx_551, cx_548] mTS2 mTC2 mRUp cx_563 [(1, [0]), (5, [1]), (12, [2]), (31, [3]), (57, [4]), (61, [5])] [(4, [1000822]), (15, uN2181), (24, uN2182), (29, [1000834]), (34, [1000958]), (56, [1000023]), (57, uN2192), (71, [1000857])] [] (31, []) 1305395 34 = true := by decide +kernel
theorem sn_563 {W : Bool} {X : List Int32} : y_Snd (mGw W) mLT1 (J2 W X) X cx_563 := y_ok J2_J mTS2_ok1 mTC2_ok1 mRUp_ok1 (List.forall_mem_cons.mpr ⟨sn_543, List.forall_mem_cons.mpr ⟨sn_554, List.forall_mem_cons.mpr ⟨sn_556, List.forall_mem_cons.mpr ⟨sn_561, List.forall_mem_cons.mpr ⟨sn_551, List.forall_mem_cons.mpr ⟨sn_548, fun _ h => absurd h List.not_mem_nil⟩⟩⟩⟩⟩⟩) ck_563
def cx_564pi_0 (t : List (Int × Int)) : List (Int × Int) := ui0 :: ui584 :: (0, 1) :: ui49 :: (0, 1) :: ui438 :: ui31 :: (0, 6) :: t
def cx_564pi_1 (t : List (Int × Int)) : List (Int × Int) := ui49 :: ui49 :: ui196 :: (0, 6) :: ui584 :: ui438 :: t
def cx_564pg_0 (t : List zTg) : List zTg := uG2067 :: uG2119 :: uG1900 :: uG2170 :: uG2171 :: uG2172 :: uG2173 :: uG2177 :: t
def cx_564pg_1 (t : List zTg) : List zTg := uG2178 :: uG2179 :: uG2193 :: uG2194 :: uG2195 :: t
def cx_564p : zS := ((cx_564pi_0 (cx_564pi_1 [])), (cx_562pr_0 (cx_562pr_1 (cx_562pr_2 []))), [uL1172, uL2196, uL2149], [], [uV2, uV11], (cx_562pf_0 (cx_562pf_1 (cx_562pf_2 []))), (cx_564pg_0 (cx_564pg_1 [])))
def cx_564q0 : zS := ((cx_564pi_0 (cx_564pi_1 [])), (cx_562pr_0 (cx_562pr_1 (cx_562pr_2 []))), [], [], [uV840], [uF2150], [uG1900, uG1901, uG2119, uG2151, uG1894, uG1895, uG2180, uG2197])
/-- M.haul -/
def cx_564 : zCtx := (248, cx_564p, [cx_564q0], kc_80, 78077, 7, 153)
set_option maxRecDepth 1000000 in
theorem ck_564 : x_ok mLT1 [cx_543, cx_554, cx_556, cx_561, cx_545] mTS2 mTC2 mRUp cx_564 [(1, [0]), (5, [1]), (12, [2]), (31, [3]), (61, [4])] [(4, [1000822]), (15, uN2181), (24, uN2182), (29, [1000834]), (34, [1000958]), (39, uN2198), (48, [1000637]), (50, [1000964]), (71, [1000857])] [] (35, []) 78042 38 = true := by decide +kernel
theorem sn_564 {W : Bool} {X : List Int32} : y_Snd (mGw W) mLT1 (J2 W X) X cx_564 := y_ok J2_J mTS2_ok1 mTC2_ok1 mRUp_ok1 (List.forall_mem_cons.mpr ⟨sn_543, List.forall_mem_cons.mpr ⟨sn_554, List.forall_mem_cons.mpr ⟨sn_556, List.forall_mem_cons.mpr ⟨sn_561, List.forall_mem_cons.mpr ⟨sn_545, fun _ h => absurd h List.not_mem_nil⟩⟩⟩⟩⟩) ck_564
def cx_565pi_0 (t : List (Int × Int)) : List (Int × Int) := ui0 :: ui584 :: (0, 1) :: ui49 :: (0, 1) :: ui755 :: ui31 :: (0, 6) :: t
def cx_565pi_1 (t : List (Int × Int)) : List (Int × Int) := ui49 :: ui49 :: ui196 :: (0, 6) :: ui584 :: ui438 :: t
def cx_565pg_0 (t : List zTg) : List zTg := uG2067 :: uG2119 :: uG1900 :: uG2170 :: uG2171 :: uG2172 :: uG2173 :: uG2177 :: t
def cx_565pg_1 (t : List zTg) : List zTg := uG2178 :: uG2179 :: uG2193 :: uG2194 :: uG2199 :: t
def cx_565p : zS := ((cx_565pi_0 (cx_565pi_1 [])), (cx_562pr_0 (cx_562pr_1 (cx_562pr_2 []))), [uL1172, uL2196, uL2157, uL2158], [], [uV2, uV11], (cx_562pf_0 (cx_562pf_1 (cx_562pf_2 []))), (cx_565pg_0 (cx_565pg_1 [])))
def cx_565q0 : zS := ((cx_565pi_0 (cx_565pi_1 [])), (cx_562pr_0 (cx_562pr_1 (cx_562pr_2 []))), [], [], [uV840], [uF2155], [uG1900, uG1901, uG2119, uG2156, uG1894, uG1895, uG2180, uG2200])
/-- M.haul -/
def cx_565 : zCtx := (248, cx_565p, [cx_565q0], kc_80, 1305430, 7, 153)
set_option maxRecDepth 1000000 in
theorem ck_565 : x_ok mLT1 [cx_543, cx_554, cx_556, cx_561, cx_548] mTS2 mTC2 mRUp cx_565 [(1, [0]), (5, [1]), (12, [2]), (31, [3]), (61, [4])] [(4, [1000822]), (15, uN2181), (24, uN2182), (29, [1000834]), (34, [1000958]), (39, uN2198), (48, [1000637]), (50, [1000964]), (71, [1000857])] [] (35, []) 1305395 38 = true := by decide +kernel
theorem sn_565 {W : Bool} {X : List Int32} : y_Snd (mGw W) mLT1 (J2 W X) X cx_565 := y_ok J2_J mTS2_ok1 mTC2_ok1 mRUp_ok1 (List.forall_mem_cons.mpr ⟨sn_543, List.forall_mem_cons.mpr ⟨sn_554, List.forall_mem_cons.mpr ⟨sn_556, List.forall_mem_cons.mpr ⟨sn_561, List.forall_mem_cons.mpr ⟨sn_548, fun _ h => absurd h List.not_mem_nil⟩⟩⟩⟩⟩) ck_565
/-- M.isLong -/
def cx_566 : zCtx := (254, ([ui0, ui49], [], [], [], [uV11], [], []), [([ui0, ui262], [], [], [], [uV62], [], []), ([ui0, ui838], [], [], [], [uV62], [], []), ([ui0, ui1204], [], [], [], [uV64], [], [])], [], 14, 1, 22)
set_option maxRecDepth 1000000 in
theorem ck_566 : x_ok mLT1 [cx_504] mTS2 mTC2 mRUp cx_566 [(4, [0])] [] [] (5, []) 9 8 = true := by decide +kernel
theorem sn_566 {W : Bool} {X : List Int32} : y_Snd (mGw W) mLT1 (J2 W X) X cx_566 := y_ok J2_J mTS2_ok1 mTC2_ok1 mRUp_ok1 (List.forall_mem_cons.mpr ⟨sn_504, fun _ h => absurd h List.not_mem_nil⟩) ck_566
def cx_567pi_0 (t : List (Int × Int)) : List (Int × Int) := ui0 :: ui838 :: (0, 1) :: ui49 :: (0, 1) :: ui439 :: ui31 :: (0, 6) :: t
def cx_567pi_1 (t : List (Int × Int)) : List (Int × Int) := (0, 6) :: ui49 :: ui49 :: t
def cx_567pr_0 (t : List (Nat × Bool)) : List (Nat × Bool) := ur1331 :: ur1378 :: ur1379 :: ur1389 :: ur1390 :: ur1391 :: ur1392 :: ur1393 :: t
def cx_567pr_1 (t : List (Nat × Bool)) : List (Nat × Bool) := ur1387 :: ur1388 :: ur1380 :: ur1492 :: ur1493 :: ur1885 :: ur1905 :: t
def cx_567pf_0 (t : List zFa) : List zFa := uF2020 :: uF2122 :: uF2123 :: uF2124 :: uF1394 :: uF1395 :: uF2027 :: uF2028 :: t
def cx_567pf_1 (t : List zFa) : List zFa := uF2029 :: uF2030 :: uF2031 :: uF1625 :: uF1626 :: uF2032 :: uF2033 :: uF2034 :: t
def cx_567pf_2 (t : List zFa) : List zFa := uF2035 :: uF2201 :: t
def cx_567p : zS := ((cx_567pi_0 (cx_567pi_1 [])), (cx_567pr_0 (cx_567pr_1 [])), [uL1172], [], [uV2, uV11], (cx_567pf_0 (cx_567pf_1 (cx_567pf_2 []))), [uG2067, uG2119, uG1900, uG2170, uG2171, uG2172, uG2042])
/-- M.years -/
def cx_567 : zCtx := (253, cx_567p, [([ui0, ui838, (0, 1), ui49, (0, 1), ui439, ui31, (0, 6), (0, 6), ui49, ui49], [ur1331, ur1378, ur1379, ur1389, ur1390, ur1391, ur1392, ur1393, ur1387, ur1388, ur1380, ur1492, ur1493, ur1885, ur1905], [], [], [uV61], [], [uG2042])], [], 19, 2, 42)
set_option maxRecDepth 1000000 in
theorem ck_567 : x_ok mLT1 [cx_566] mTS2 mTC2 mRUp cx_567 [(1, [0])] [] [] (5, []) 14 8 = true := by decide +kernel
theorem sn_567 {W : Bool} {X : List Int32} : y_Snd (mGw W) mLT1 (J2 W X) X cx_567 := y_ok J2_J mTS2_ok1 mTC2_ok1 mRUp_ok1 (List.forall_mem_cons.mpr ⟨sn_566, fun _ h => absurd h List.not_mem_nil⟩) ck_567
def cx_568pi_0 (t : List (Int × Int)) : List (Int × Int) := ui0 :: ui262 :: (0, 1) :: ui49 :: (0, 1) :: ui439 :: ui31 :: (0, 6) :: t
def cx_568pi_1 (t : List (Int × Int)) : List (Int × Int) := (0, 6) :: ui49 :: ui49 :: t
def cx_568p : zS := ((cx_568pi_0 (cx_568pi_1 [])), (cx_567pr_0 (cx_567pr_1 [])), [uL1172], [], [uV2, uV11], (cx_567pf_0 (cx_567pf_1 (cx_567pf_2 []))), [uG2067, uG2119, uG1900, uG2170, uG2171, uG2172, uG2042])
/-- M.years -/
def cx_568 : zCtx := (253, cx_568p, [([ui0, ui262, (0, 1), ui49, (0, 1), ui439, ui31, (0, 6), (0, 6), ui49, ui49], [ur1331, ur1378, ur1379, ur1389, ur1390, ur1391, ur1392, ur1393, ur1387, ur1388, ur1380, ur1492, ur1493, ur1885, ur1905], [], [], [uV61], [], [uG2042])], [], 19, 2, 42)
set_option maxRecDepth 1000000 in
theorem ck_568 : x_ok mLT1 [cx_566] mTS2 mTC2 mRUp cx_568 [(1, [0])] [] [] (5, []) 14 8 = true := by decide +kernel
theorem sn_568 {W : Bool} {X : List Int32} : y_Snd (mGw W) mLT1 (J2 W X) X cx_568 := y_ok J2_J mTS2_ok1 mTC2_ok1 mRUp_ok1 (List.forall_mem_cons.mpr ⟨sn_566, fun _ h => absurd h List.not_mem_nil⟩) ck_568
def cx_569pi_0 (t : List (Int × Int)) : List (Int × Int) := ui0 :: (0, 0) :: (0, 1) :: ui49 :: (0, 1) :: ui439 :: ui31 :: (0, 6) :: t
def cx_569pi_1 (t : List (Int × Int)) : List (Int × Int) := (0, 6) :: ui49 :: ui49 :: t
def cx_569p : zS := ((cx_569pi_0 (cx_569pi_1 [])), (cx_567pr_0 (cx_567pr_1 [])), [uL1172], [], [uV2, uV11], (cx_567pf_0 (cx_567pf_1 (cx_567pf_2 []))), [uG2067, uG2119, uG1900, uG2170, uG2171, uG2172, uG2042])
/-- M.years -/
def cx_569 : zCtx := (253, cx_569p, [([ui0, (0, 0), (0, 1), ui49, (0, 1), ui439, ui31, (0, 6), (0, 6), ui49, ui49], [ur1331, ur1378, ur1379, ur1389, ur1390, ur1391, ur1392, ur1393, ur1387, ur1388, ur1380, ur1492, ur1493, ur1885, ur1905], [], [], [uV778], [], [uG2042])], [], 24, 2, 42)
set_option maxRecDepth 1000000 in
theorem ck_569 : x_ok mLT1 [cx_566] mTS2 mTC2 mRUp cx_569 [(1, [0])] [(20, [1000982])] [] (10, []) 14 13 = true := by decide +kernel
theorem sn_569 {W : Bool} {X : List Int32} : y_Snd (mGw W) mLT1 (J2 W X) X cx_569 := y_ok J2_J mTS2_ok1 mTC2_ok1 mRUp_ok1 (List.forall_mem_cons.mpr ⟨sn_566, fun _ h => absurd h List.not_mem_nil⟩) ck_569
/-- M.mixed -/
def cx_570 : zCtx := (259, ([ui0, ui49, ui49], [], [], [], [uV11, uV12], [], []), [([ui0, ui49, ui49, ui49], [], [], [], [uV58], [], [uG829])], [], 14, 0, 0)
set_option maxRecDepth 1000000 in
theorem ck_570 : x_ok mLT1 [] mTS2 mTC2 mRUp cx_570 [] [(2, [1000717]), (6, [1000639]), (10, [1000637]), (16, [1000421]), (17, [1000717]), (18, [1000718])] [] (14, []) 0 17 = true := by decide +kernel
theorem sn_570 {W : Bool} {X : List Int32} : y_Snd (mGw W) mLT1 (J2 W X) X cx_570 := y_ok J2_J mTS2_ok1 mTC2_ok1 mRUp_ok1 (fun _ h => absurd h List.not_mem_nil) ck_570
/-- M.lotOf -/
def cx_571 : zCtx := (258, ([ui0, ui49, ui2202], [ur1331], [], [], [uV2, uV11], [uF1887], []), [([ui0, ui49, ui2202, ui524], [ur1331], [], [], [uV58], [], [(255, [uL67, uL9, uL23])])], [], 25, 1, 22)
set_option maxRecDepth 1000000 in
theorem ck_571 : x_ok mLT1 [cx_570] mTS2 mTC2 mRUp cx_571 [(7, [0]), (11, [0])] [(15, [1000421]), (18, [1000679]), (19, [1000743])] [] (11, []) 14 14 = true := by decide +kernel
theorem sn_571 {W : Bool} {X : List Int32} : y_Snd (mGw W) mLT1 (J2 W X) X cx_571 := y_ok J2_J mTS2_ok1 mTC2_ok1 mRUp_ok1 (List.forall_mem_cons.mpr ⟨sn_570, fun _ h => absurd h List.not_mem_nil⟩) ck_571
def cx_572pi_0 (t : List (Int × Int)) : List (Int × Int) := ui0 :: (0, 5) :: (0, 1) :: ui196 :: (0, 6) :: ui49 :: ui196 :: ui49 :: t
def cx_572pi_1 (t : List (Int × Int)) : List (Int × Int) := ui49 :: ui49 :: ui49 :: t
def cx_572p : zS := ((cx_572pi_0 (cx_572pi_1 [])), [ur1331, ur1380, ur1885, ur1385], [uL765, uL9, uL563], [], [uV2, uV11], [uF2020, uF2122, uF1495, uF2049, uF1892, (0, (false, 29, 0, []), 2, 3, 0, []), (3, (true, 0, 0, [(2, 1)]), 0, 0, 0, [(6, 1)])], [uG2084, (237, [uL98, uL104, uL78, uL23, uL79, uL131, uL164, uL170])])
/-- M.isBlighted -/
def cx_572 : zCtx := (257, cx_572p, [([ui0, (0, 5), (0, 1), ui196, (0, 6), ui49, ui2048, ui49, ui49, ui49, ui49], [ur1331, ur1380, ur1885, ur1385], [uL765, uL9, uL563], [], [uV64], [], [(238, [uL647, uL104, uL78, uL23, uL79, uL131, uL164, uL170, uL9, uL63, uL65])]), ([ui0, (0, 5), (0, 1), ui196, (0, 6), ui49, ui524, ui49, ui49, ui49, ui49], [ur1331, ur1380, ur1885, ur1385], [uL765, uL9, uL563], [], [uV62], [], [(238, [uL647, uL104, uL78, uL23, uL79, uL131, uL164, uL170, uL9, uL63, uL63])])], [], 47, 2, 43)
set_option maxRecDepth 1000000 in
theorem ck_572 : x_ok mLT1 [cx_571] mTS2 mTC2 mRUp cx_572 [(20, [0])] [(17, [1000840, 1000639]), (19, [1000637]), (35, [1000992]), (39, [1000993])] [] (22, []) 25 25 = true := by decide +kernel
theorem sn_572 {W : Bool} {X : List Int32} : y_Snd (mGw W) mLT1 (J2 W X) X cx_572 := y_ok J2_J mTS2_ok1 mTC2_ok1 mRUp_ok1 (List.forall_mem_cons.mpr ⟨sn_571, fun _ h => absurd h List.not_mem_nil⟩) ck_572
def cx_573pr_0 (t : List (Nat × Bool)) : List (Nat × Bool) := ur1331 :: ur1378 :: ur1379 :: ur1389 :: ur1390 :: ur1391 :: ur1392 :: ur1393 :: t
def cx_573pr_1 (t : List (Nat × Bool)) : List (Nat × Bool) := ur1387 :: ur1388 :: ur1380 :: ur1492 :: ur1493 :: ur1885 :: ur1385 :: ur2203 :: t
def cx_573pr_2 (t : List (Nat × Bool)) : List (Nat × Bool) := ur2204 :: t
def cx_573pf_0 (t : List zFa) : List zFa := uF1886 :: uF1887 :: uF1394 :: uF1395 :: uF2027 :: uF2028 :: uF2029 :: uF2030 :: t
def cx_573pf_1 (t : List zFa) : List zFa := uF2031 :: uF1625 :: uF1626 :: uF2032 :: uF2033 :: uF2034 :: uF2035 :: uF1892 :: t
def cx_573pf_2 (t : List zFa) : List zFa := uF2205 :: uF2206 :: uF2207 :: uF2208 :: (10, (true, 0, 0, [(1, 1)]), 0, 0, 0, [(7, 1)]) :: t
def cx_573p : zS := ([ui0, (0, 1), ui196, ui31, (0, 6), ui196, ui807, (0, 6)], (cx_573pr_0 (cx_573pr_1 (cx_573pr_2 []))), [uL765], [], [uV2], (cx_573pf_0 (cx_573pf_1 (cx_573pf_2 []))), [uG2209, uG1894, uG2210, uG2211, uG2212, uG2213])
/-- M.yearGoes -/
def cx_573 : zCtx := (256, cx_573p, [([ui0, (0, 1), ui196, ui31, (0, 6), ui196, ui807, (0, 6)], [ur1331, ur1378, ur1379, ur1389, ur1390, ur1391, ur1392, ur1393, ur1387, ur1388, ur1380, ur1492, ur1493, ur1885, ur1385, ur2203, ur2204], [uL765], [], [], [uF2206], [uG1894, (237, [uL98, uL23, uL104, uL67, uL36, (1, [(6, 1)]), uL63, uL98])])], [uk2063, uk2055, uk2064, uk1898, uk2214, uk2215], 78112, 4, 84)
def cq_573 : List zCtx := [cx_524, cx_527, cx_572, cx_523, cx_514]
def cs_573 : List (Nat × List Nat) := [(22, [0]), (33, [1]), (65, [2]), (98, [3]), (104, [4]), (137, [3])]
def hs_573 : List (Nat × List Nat) := [(1, [1000986]), (15, [1000463]), (37, [1000987]), (43, [1000462]), (58, [1000463]), (62, [1000988, 1000836, 1000989, 1000990, 1000991]), (78, [1000023]), (79, [1000969, 1001000]), (101, [1000994, 1000995]), (140, [1000998, 1000999]), (141, [1000996, 1000997]), (147, [1000462, 1000840, 1001001]), (156, [1000637]), (158, [1001002])]
def nd_573_0pi_0 (t : List (Int × Int)) : List (Int × Int) := ui0 :: (0, 1) :: ui196 :: ui31 :: (0, 6) :: ui196 :: ui807 :: (0, 6) :: t
def nd_573_0pi_1 (t : List (Int × Int)) : List (Int × Int) := (0, 6) :: t
def nd_573_0pf_0 (t : List zFa) : List zFa := uF1886 :: uF1887 :: uF1394 :: uF1395 :: uF2027 :: uF2028 :: uF2029 :: uF2030 :: t
def nd_573_0pf_1 (t : List zFa) : List zFa := uF2031 :: uF1625 :: uF1626 :: uF2032 :: uF2033 :: uF2034 :: uF2035 :: uF1892 :: t
def nd_573_0pf_2 (t : List zFa) : List zFa := uF2205 :: uF2206 :: uF2207 :: uF2208 :: t
def nd_573_0pg_0 (t : List zTg) : List zTg := uG2209 :: uG1894 :: uG2210 :: uG2211 :: uG2212 :: uG2213 :: (266, [uL23, uL104, uL67, uL36, uL78, uL63, uL98, uL131]) :: t
def nd_573_0p : zS := ((nd_573_0pi_0 (nd_573_0pi_1 [])), (cx_573pr_0 (cx_573pr_1 (cx_573pr_2 []))), [uL765, uL2216], [uV2, uV144], [], (nd_573_0pf_0 (nd_573_0pf_1 (nd_573_0pf_2 []))), (nd_573_0pg_0 []))
def nd_573_0 : zN := (2, nd_573_0p, (494, [(8, (-24))]))
def nd_573_1pg_0 (t : List zTg) : List zTg := uG2209 :: uG1894 :: uG2210 :: uG2211 :: uG2212 :: (266, [uL23, uL104, uL67, uL36, uL78, uL63, uL98, uL98]) :: (237, [uL98, uL23, uL104, uL67, uL36, uL78, uL131, uL98]) :: t
def nd_573_1p : zS := ((nd_573_0pi_0 (nd_573_0pi_1 [])), (cx_573pr_0 (cx_573pr_1 (cx_573pr_2 []))), [uL765, uL2216], [uV2, uV144], [], (nd_573_0pf_0 (nd_573_0pf_1 (nd_573_0pf_2 []))), (nd_573_1pg_0 []))
def nd_573_1 : zN := (45, nd_573_1p, (340, [(8, (-54))]))
def ns_573 : List zN := [nd_573_0, nd_573_1]
set_option maxRecDepth 1000000 in
theorem ca_573 : x_okA mLT1 cq_573 mTS2 mTC2 mRUp cx_573 cs_573 hs_573 ns_573 (497, []) 77615 56 = true := by decide +kernel
set_option maxRecDepth 1000000 in
theorem cb_573_0 : x_okB mLT1 cq_573 mTS2 mTC2 mRUp cx_573 cs_573 hs_573 ns_573 (497, []) 77615 56 nd_573_0 = true := by decide +kernel
set_option maxRecDepth 1000000 in
theorem cb_573_1 : x_okB mLT1 cq_573 mTS2 mTC2 mRUp cx_573 cs_573 hs_573 ns_573 (497, []) 77615 56 nd_573_1 = true := by decide +kernel
set_option maxRecDepth 1000000 in
theorem cc_573 : x_okC mLT1 cq_573 mTS2 mTC2 mRUp cx_573 cs_573 hs_573 ns_573 (497, []) 77615 56 = true := by decide +kernel
theorem ck_573 : x_ok mLT1 cq_573 mTS2 mTC2 mRUp cx_573 cs_573 hs_573 ns_573 (497, []) 77615 56 = true := x_ok_of ca_573 (List.forall_mem_cons.mpr ⟨cb_573_0, List.forall_mem_cons.mpr ⟨cb_573_1, fun _ h => absurd h List.not_mem_nil⟩⟩) cc_573
theorem sn_573 {W : Bool} {X : List Int32} : y_Snd (mGw W) mLT1 (J2 W X) X cx_573 := y_ok J2_J mTS2_ok1 mTC2_ok1 mRUp_ok1 (List.forall_mem_cons.mpr ⟨sn_524, List.forall_mem_cons.mpr ⟨sn_527, List.forall_mem_cons.mpr ⟨sn_572, List.forall_mem_cons.mpr ⟨sn_523, List.forall_mem_cons.mpr ⟨sn_514, fun _ h => absurd h List.not_mem_nil⟩⟩⟩⟩⟩) ck_573
def cx_574pf_0 (t : List zFa) : List zFa := uF2020 :: uF2122 :: uF1394 :: uF1395 :: uF2027 :: uF2028 :: uF2029 :: uF2030 :: t
def cx_574pf_1 (t : List zFa) : List zFa := uF2031 :: uF1625 :: uF1626 :: uF2032 :: uF2033 :: uF2034 :: uF2035 :: uF1892 :: t
def cx_574pf_2 (t : List zFa) : List zFa := uF2205 :: uF2217 :: uF2207 :: uF2208 :: (10, (true, 0, 0, [(2, 1)]), 0, 0, 0, [(7, 1)]) :: t
def cx_574p : zS := ([ui0, ui843, (0, 1), ui196, ui31, (0, 6), ui196, (0, 6)], (cx_573pr_0 (cx_573pr_1 (cx_573pr_2 []))), [uL576, uL9], [], [uV2, uV11], (cx_574pf_0 (cx_574pf_1 (cx_574pf_2 []))), [uG2067, uG1894, uG2218, uG2219, uG2220, (237, [uL104, uL98, uL78, uL23, uL36, uL63, uL63, uL104])])
/-- M.goes -/
def cx_574 : zCtx := (255, cx_574p, [([ui0, ui843, (0, 1), ui196, ui31, (0, 6), ui196, (0, 6)], [ur1331, ur1378, ur1379, ur1389, ur1390, ur1391, ur1392, ur1393, ur1387, ur1388, ur1380, ur1492, ur1493, ur1885, ur1385, ur2203, ur2204], [uL576, uL9], [], [], [uF2217], [uG1894, (237, [uL104, uL98, uL78, uL23, uL36, uL9, uL63, uL104])])], [uk2063, uk2055, uk2064, uk1898, uk2214, uk2215], 78623, 5, 105)
def cz_574_0i_0 (t : List (Int × Int)) : List (Int × Int) := ui0 :: ui843 :: (0, 1) :: ui196 :: ui31 :: (0, 6) :: ui196 :: (0, 6) :: t
def cz_574_0i_1 (t : List (Int × Int)) : List (Int × Int) := ui844 :: t
def cz_574_0f_0 (t : List zFa) : List zFa := uF2020 :: uF2122 :: uF1394 :: uF1395 :: uF2027 :: uF2028 :: uF2029 :: uF2030 :: t
def cz_574_0f_1 (t : List zFa) : List zFa := uF2031 :: uF1625 :: uF1626 :: uF2032 :: uF2033 :: uF2034 :: uF2035 :: uF1892 :: t
def cz_574_0f_2 (t : List zFa) : List zFa := uF2205 :: uF2217 :: uF2207 :: uF2208 :: t
def cz_574_0 : zS := ((cz_574_0i_0 (cz_574_0i_1 [])), (cx_573pr_0 (cx_573pr_1 (cx_573pr_2 []))), [uL576, uL9, (0, [(1, 1), (8, (-1))])], [uV2, uV11, uV144], [], (cz_574_0f_0 (cz_574_0f_1 (cz_574_0f_2 []))), [uG2067, uG1894, uG2218, uG2219, uG2220, (237, [uL104, uL98, uL78, uL23, uL36, uL131, uL63, uL104])])
set_option maxRecDepth 1000000 in
theorem ck_574 : x_ok mLT1 [cx_573] mTS2 mTC2 mRUp cx_574 [(8, [0])] [] [(2, cz_574_0, (508, [(8, (-8))]))] (511, []) 78112 10 = true := by decide +kernel
theorem sn_574 {W : Bool} {X : List Int32} : y_Snd (mGw W) mLT1 (J2 W X) X cx_574 := y_ok J2_J mTS2_ok1 mTC2_ok1 mRUp_ok1 (List.forall_mem_cons.mpr ⟨sn_573, fun _ h => absurd h List.not_mem_nil⟩) ck_574
def cx_575pi_0 (t : List (Int × Int)) : List (Int × Int) := ui0 :: ui843 :: (0, 1) :: ui49 :: (0, 1) :: ui438 :: ui31 :: (0, 6) :: t
def cx_575pi_1 (t : List (Int × Int)) : List (Int × Int) := (0, 6) :: ui49 :: ui49 :: ui196 :: ui196 :: ui438 :: (0, 6) :: t
def cx_575pr_0 (t : List (Nat × Bool)) : List (Nat × Bool) := ur1331 :: ur1378 :: ur1379 :: ur1389 :: ur1390 :: ur1391 :: ur1392 :: ur1393 :: t
def cx_575pr_1 (t : List (Nat × Bool)) : List (Nat × Bool) := ur1387 :: ur1388 :: ur1380 :: ur1492 :: ur1493 :: ur1885 :: ur1905 :: ur1385 :: t
def cx_575pr_2 (t : List (Nat × Bool)) : List (Nat × Bool) := ur1386 :: ur2131 :: ur2203 :: ur2204 :: t
def cx_575pf_0 (t : List zFa) : List zFa := uF2020 :: uF2122 :: uF2123 :: uF2124 :: uF1394 :: uF1395 :: uF2027 :: uF2028 :: t
def cx_575pf_1 (t : List zFa) : List zFa := uF2029 :: uF2030 :: uF2031 :: uF1625 :: uF1626 :: uF2032 :: uF2033 :: uF2034 :: t
def cx_575pf_2 (t : List zFa) : List zFa := uF2035 :: uF2201 :: (0, (false, 29, 0, []), 2, 15, 0, []) :: (0, (false, 30, 0, []), 2, 16, 0, []) :: (0, (false, 54, 0, []), 2, 17, 0, []) :: (0, (false, 51, 0, []), 2, 18, 0, []) :: (0, (false, 52, 0, []), 2, 19, 0, []) :: (10, (true, 0, 0, [(2, 1)]), 0, 0, 0, [(14, 1)]) :: t
def cx_575pg_0 (t : List zTg) : List zTg := uG2067 :: uG2119 :: uG1900 :: uG2170 :: uG2171 :: uG2172 :: uG2221 :: uG2222 :: t
def cx_575pg_1 (t : List zTg) : List zTg := uG2223 :: uG2195 :: t
def cx_575p : zS := ((cx_575pi_0 (cx_575pi_1 [])), (cx_575pr_0 (cx_575pr_1 (cx_575pr_2 []))), [uL1172, uL2149], [], [uV2, uV11], (cx_575pf_0 (cx_575pf_1 (cx_575pf_2 []))), (cx_575pg_0 (cx_575pg_1 [])))
def cx_575q0 : zS := ((cx_575pi_0 (cx_575pi_1 [])), (cx_575pr_0 (cx_575pr_1 (cx_575pr_2 []))), [], [], [uV778], [uF2150], [uG1900, uG1901, uG2119, uG2151, uG1894, uG2042, uG2197])
/-- M.years -/
def cx_575 : zCtx := (253, cx_575p, [cx_575q0], kc_81, 78640, 6, 127)
set_option maxRecDepth 1000000 in
theorem ck_575 : x_ok mLT1 [cx_566, cx_543, cx_574, cx_545] mTS2 mTC2 mRUp cx_575 [(1, [0]), (22, [1]), (27, [2]), (31, [3])] [(25, uN2224), (41, [1000982])] [] (17, []) 78623 20 = true := by decide +kernel
theorem sn_575 {W : Bool} {X : List Int32} : y_Snd (mGw W) mLT1 (J2 W X) X cx_575 := y_ok J2_J mTS2_ok1 mTC2_ok1 mRUp_ok1 (List.forall_mem_cons.mpr ⟨sn_566, List.forall_mem_cons.mpr ⟨sn_543, List.forall_mem_cons.mpr ⟨sn_574, List.forall_mem_cons.mpr ⟨sn_545, fun _ h => absurd h List.not_mem_nil⟩⟩⟩⟩) ck_575
def cx_576pi_0 (t : List (Int × Int)) : List (Int × Int) := ui0 :: ui843 :: (0, 1) :: ui49 :: (0, 1) :: ui755 :: ui31 :: (0, 6) :: t
def cx_576pi_1 (t : List (Int × Int)) : List (Int × Int) := (0, 6) :: ui49 :: ui49 :: ui196 :: ui196 :: ui438 :: (0, 6) :: t
def cx_576pg_0 (t : List zTg) : List zTg := uG2067 :: uG2119 :: uG1900 :: uG2170 :: uG2171 :: uG2172 :: uG2221 :: uG2222 :: t
def cx_576pg_1 (t : List zTg) : List zTg := uG2223 :: uG2199 :: t
def cx_576p : zS := ((cx_576pi_0 (cx_576pi_1 [])), (cx_575pr_0 (cx_575pr_1 (cx_575pr_2 []))), [uL1172, uL2157, uL2158], [], [uV2, uV11], (cx_575pf_0 (cx_575pf_1 (cx_575pf_2 []))), (cx_576pg_0 (cx_576pg_1 [])))
def cx_576q0 : zS := ((cx_576pi_0 (cx_576pi_1 [])), (cx_575pr_0 (cx_575pr_1 (cx_575pr_2 []))), [], [], [uV778], [uF2155], [uG1900, uG1901, uG2119, uG2156, uG1894, uG2042, uG2200])
/-- M.years -/
def cx_576 : zCtx := (253, cx_576p, [cx_576q0], kc_81, 1305412, 6, 127)
set_option maxRecDepth 1000000 in
theorem ck_576 : x_ok mLT1 [cx_566, cx_543, cx_574, cx_548] mTS2 mTC2 mRUp cx_576 [(1, [0]), (22, [1]), (27, [2]), (31, [3])] [(25, uN2224), (41, [1000982])] [] (17, []) 1305395 20 = true := by decide +kernel
theorem sn_576 {W : Bool} {X : List Int32} : y_Snd (mGw W) mLT1 (J2 W X) X cx_576 := y_ok J2_J mTS2_ok1 mTC2_ok1 mRUp_ok1 (List.forall_mem_cons.mpr ⟨sn_566, List.forall_mem_cons.mpr ⟨sn_543, List.forall_mem_cons.mpr ⟨sn_574, List.forall_mem_cons.mpr ⟨sn_548, fun _ h => absurd h List.not_mem_nil⟩⟩⟩⟩) ck_576
/-- M.undo -/
def cx_577 : zCtx := (260, ([ui0, (0, 0), (0, 6), (0, 6), ui49, ui49], [ur1331, ur1905, ur2131], [uL2225], [], [uV2], [uF2132, uF2133, uF2226], [uG2119, uG1900, uG791]), [([ui0, (0, 0), (0, 6), (0, 6), ui49, ui49], [ur1331, ur1905, ur2131], [uL2225], [], [uV62], [], [uG791])], [], 5, 0, 0)
set_option maxRecDepth 1000000 in
theorem ck_577 : x_ok mLT1 [] mTS2 mTC2 mRUp cx_577 [] [] [] (5, []) 0 8 = true := by decide +kernel
theorem sn_577 {W : Bool} {X : List Int32} : y_Snd (mGw W) mLT1 (J2 W X) X cx_577 := y_ok J2_J mTS2_ok1 mTC2_ok1 mRUp_ok1 (fun _ h => absurd h List.not_mem_nil) ck_577
/-- M.undo -/
def cx_578 : zCtx := (260, ([ui0, ui1047, (0, 6), (0, 6), ui49, ui49], [ur1331, ur1905, ur2131], [uL160], [], [uV2], [uF2132, uF2133, uF2226], [uG2119, uG1900, (245, [uL67, uL23, uL98, uL104, uL160])]), [([ui0, ui1047, (0, 6), (0, 6), ui49, ui49], [ur1331, ur1905, ur2131], [], [], [uV64], [(0, (false, 53, 0, []), 0, 0, (-1), [(1, 1)])], [uG1900, uG1901, uG791])], [uk2135, uk1902], 610, 0, 0)
def cq_578 : List zCtx := []
def cs_578 : List (Nat × List Nat) := []
def hs_578 : List (Nat × List Nat) := [(9, [17]), (53, [1554, 1000706])]
def ns_578 : List zN := []
set_option maxRecDepth 1000000 in
theorem ca_578 : x_okA mLT1 cq_578 mTS2 mTC2 mRUp cx_578 cs_578 hs_578 ns_578 (610, []) 0 613 = true := by decide +kernel
set_option maxRecDepth 1000000 in
theorem cc_578 : x_okC mLT1 cq_578 mTS2 mTC2 mRUp cx_578 cs_578 hs_578 ns_578 (610, []) 0 613 = true := by decide +kernel
theorem ck_578 : x_ok mLT1 cq_578 mTS2 mTC2 mRUp cx_578 cs_578 hs_578 ns_578 (610, []) 0 613 = true := x_ok_of ca_578 (fun _ h => absurd h List.not_mem_nil) cc_578
theorem sn_578 {W : Bool} {X : List Int32} : y_Snd (mGw W) mLT1 (J2 W X) X cx_578 := y_ok J2_J mTS2_ok1 mTC2_ok1 mRUp_ok1 (fun _ h => absurd h List.not_mem_nil) ck_578
end
