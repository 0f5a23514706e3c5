noncomputable section
/-! ===== readings, by program, checked by the kernel ===== -/
/-- M.nextFrom -/
def cx_629 : zCtx := (275, ([ui0, (0, 5), ui49, ui49, ui49, ui49, ui49, ui49, ui49], [ur1331, ur2262, ur2263], [], [], [uV2, uV389], [uF2299, uF2269, uF2306], [uG2307]), [([ui0, (0, 5), ui49, ui49, ui49, ui49, ui49, ui49, ui49], [ur1331, ur2262, ur2263], [], [], [uV389], [], [uG2302, (333, [uL67, uL23, uL98, uL104, uL78, uL79, uL131, uL114, uL9, uL114])]), ([ui0, (0, 5), ui49, ui49, ui49, ui49, ui49, ui49, ui49], [ur1331, ur2262, ur2263], [], [], [uV385], [], [uG2303, (333, [uL67, uL23, uL98, uL104, uL78, uL79, uL131, uL114, uL9, uL211])]), ([ui0, (0, 5), ui49, ui49, ui49, ui49, ui49, ui49, ui49], [ur1331, ur2262, ur2263], [], [], [uV381], [], [uG2304, (333, [uL67, uL23, uL98, uL104, uL78, uL79, uL131, uL114, uL9, uL36])]), ([ui0, (0, 5), ui49, ui49, ui49, ui49, ui49, ui49, ui49], [ur1331, ur2262, ur2263], [], [], [uV3], [], [uG2305, (333, [uL67, uL23, uL98, uL104, uL78, uL79, uL131, uL114, uL9, uL246])]), ([ui0, (0, 5), ui49, ui49, ui49, ui49, ui49, ui49, ui49], [ur1331, ur2262, ur2263], [], [], [uV61], [], [(333, [uL67, uL23, uL98, uL104, uL78, uL79, uL131, uL114, uL9, uL99])])], [], 150, 1, 22)
set_option maxRecDepth 1000000 in
theorem ck_629 : x_ok mLT1 [cx_623, cx_624, cx_625, cx_626] mTS2 mTC2 mRUp cx_629 [(19, [0, 1, 2, 3])] [(0, [1001104]), (26, [1001107]), (27, uN2308), (34, [1001110])] [] (63, []) 87 66 = true := by decide +kernel
theorem sn_629 {W : Bool} {X : List Int32} : y_Snd (mGw W) mLT1 (J2 W X) X cx_629 := y_ok J2_J mTS2_ok1 mTC2_ok1 mRUp_ok1 (List.forall_mem_cons.mpr ⟨sn_623, List.forall_mem_cons.mpr ⟨sn_624, List.forall_mem_cons.mpr ⟨sn_625, List.forall_mem_cons.mpr ⟨sn_626, fun _ h => absurd h List.not_mem_nil⟩⟩⟩⟩) ck_629
/-- M.nextFrom -/
def cx_630 : zCtx := (275, ([ui0, (0, 5), ui49, ui49, ui49, ui49, ui49, ui49, ui49], [ur1331, ur2262, ur2263], [], [], [uV2, uV385], [uF2299, uF2269, uF2306], [uG2307]), [([ui0, (0, 5), ui49, ui49, ui49, ui49, ui49, ui49, ui49], [ur1331, ur2262, ur2263], [], [], [uV385], [], [uG2303, (333, [uL67, uL23, uL98, uL104, uL78, uL79, uL131, uL211, uL9, uL211])]), ([ui0, (0, 5), ui49, ui49, ui49, ui49, ui49, ui49, ui49], [ur1331, ur2262, ur2263], [], [], [uV381], [], [uG2304, (333, [uL67, uL23, uL98, uL104, uL78, uL79, uL131, uL211, uL9, uL36])]), ([ui0, (0, 5), ui49, ui49, ui49, ui49, ui49, ui49, ui49], [ur1331, ur2262, ur2263], [], [], [uV3], [], [uG2305, (333, [uL67, uL23, uL98, uL104, uL78, uL79, uL131, uL211, uL9, uL246])]), ([ui0, (0, 5), ui49, ui49, ui49, ui49, ui49, ui49, ui49], [ur1331, ur2262, ur2263], [], [], [uV61], [], [(333, [uL67, uL23, uL98, uL104, uL78, uL79, uL131, uL211, uL9, uL99])])], [], 136, 1, 22)
set_option maxRecDepth 1000000 in
theorem ck_630 : x_ok mLT1 [cx_624, cx_625, cx_626] mTS2 mTC2 mRUp cx_630 [(19, [0, 1, 2])] [(0, [1001104]), (26, [1001107]), (27, uN2308), (34, [1001110])] [] (49, []) 87 52 = true := by decide +kernel
theorem sn_630 {W : Bool} {X : List Int32} : y_Snd (mGw W) mLT1 (J2 W X) X cx_630 := y_ok J2_J mTS2_ok1 mTC2_ok1 mRUp_ok1 (List.forall_mem_cons.mpr ⟨sn_624, List.forall_mem_cons.mpr ⟨sn_625, List.forall_mem_cons.mpr ⟨sn_626, fun _ h => absurd h List.not_mem_nil⟩⟩⟩) ck_630
/-- M.nextFrom -/
def cx_631 : zCtx := (275, ([ui0, (0, 5), ui49, ui49, ui49, ui49, ui49, ui49, ui49], [ur1331, ur2262, ur2263], [], [], [uV2, uV381], [uF2299, uF2269, uF2306], [uG2307]), [([ui0, (0, 5), ui49, ui49, ui49, ui49, ui49, ui49, ui49], [ur1331, ur2262, ur2263], [], [], [uV381], [], [uG2304, (333, [uL67, uL23, uL98, uL104, uL78, uL79, uL131, uL36, uL9, uL36])]), ([ui0, (0, 5), ui49, ui49, ui49, ui49, ui49, ui49, ui49], [ur1331, ur2262, ur2263], [], [], [uV3], [], [uG2305, (333, [uL67, uL23, uL98, uL104, uL78, uL79, uL131, uL36, uL9, uL246])]), ([ui0, (0, 5), ui49, ui49, ui49, ui49, ui49, ui49, ui49], [ur1331, ur2262, ur2263], [], [], [uV61], [], [(333, [uL67, uL23, uL98, uL104, uL78, uL79, uL131, uL36, uL9, uL99])])], [], 122, 1, 22)
set_option maxRecDepth 1000000 in
theorem ck_631 : x_ok mLT1 [cx_625, cx_626] mTS2 mTC2 mRUp cx_631 [(19, [0, 1])] [(0, [1001104]), (26, [1001107]), (27, uN2308), (34, [1001110])] [] (35, []) 87 38 = true := by decide +kernel
theorem sn_631 {W : Bool} {X : List Int32} : y_Snd (mGw W) mLT1 (J2 W X) X cx_631 := y_ok J2_J mTS2_ok1 mTC2_ok1 mRUp_ok1 (List.forall_mem_cons.mpr ⟨sn_625, List.forall_mem_cons.mpr ⟨sn_626, fun _ h => absurd h List.not_mem_nil⟩⟩) ck_631
/-- M.nextFrom -/
def cx_632 : zCtx := (275, ([ui0, (0, 5), ui49, ui49, ui49, ui49, ui49, ui49, ui49], [ur1331, ur2262, ur2263], [], [], [uV2, uV3], [uF2299, uF2269, uF2306], [uG2307]), [([ui0, (0, 5), ui49, ui49, ui49, ui49, ui49, ui49, ui49], [ur1331, ur2262, ur2263], [], [], [uV3], [], [uG2305, (333, [uL67, uL23, uL98, uL104, uL78, uL79, uL131, uL246, uL9, uL246])]), ([ui0, (0, 5), ui49, ui49, ui49, ui49, ui49, ui49, ui49], [ur1331, ur2262, ur2263], [], [], [uV61], [], [(333, [uL67, uL23, uL98, uL104, uL78, uL79, uL131, uL246, uL9, uL99])])], [], 108, 1, 22)
set_option maxRecDepth 1000000 in
theorem ck_632 : x_ok mLT1 [cx_626] mTS2 mTC2 mRUp cx_632 [(19, [0])] [(0, [1001104]), (26, [1001107]), (27, uN2308), (34, [1001110])] [] (21, []) 87 24 = true := by decide +kernel
theorem sn_632 {W : Bool} {X : List Int32} : y_Snd (mGw W) mLT1 (J2 W X) X cx_632 := y_ok J2_J mTS2_ok1 mTC2_ok1 mRUp_ok1 (List.forall_mem_cons.mpr ⟨sn_626, fun _ h => absurd h List.not_mem_nil⟩) ck_632
/-- M.nextFrom -/
def cx_633 : zCtx := (275, ([ui0, (0, 5), ui49, ui49, ui49, ui49, ui49, ui49, ui49], [ur1331, ur2262, ur2263], [], [], [uV2, uV315], [uF2299, uF2269, uF2306], [uG2307]), [([ui0, (0, 5), ui49, ui49, ui49, ui49, ui49, ui49, ui49], [ur1331, ur2262, ur2263], [], [], [uV61], [], [(333, [uL67, uL23, uL98, uL104, uL78, uL79, uL131, uL252, uL9, uL99])])], [], 7, 0, 0)
set_option maxRecDepth 1000000 in
theorem ck_633 : x_ok mLT1 [] mTS2 mTC2 mRUp cx_633 [] [(0, [1001104]), (34, [1001110])] [] (7, []) 0 10 = true := by decide +kernel
theorem sn_633 {W : Bool} {X : List Int32} : y_Snd (mGw W) mLT1 (J2 W X) X cx_633 := y_ok J2_J mTS2_ok1 mTC2_ok1 mRUp_ok1 (fun _ h => absurd h List.not_mem_nil) ck_633
def cx_634pi_0 (t : List (Int × Int)) : List (Int × Int) := ui0 :: (0, 6) :: ui2309 :: ui49 :: ui49 :: ui49 :: ui49 :: ui49 :: t
def cx_634pi_1 (t : List (Int × Int)) : List (Int × Int) := ui49 :: ui49 :: ui2310 :: t
def cx_634p : zS := ((cx_634pi_0 (cx_634pi_1 [])), [ur1331, ur2262, ur2263], [], [], [uV2], [uF2299, uF2269, uF2306], [uG2311, uG2312, (329, [uL23, uL98, uL104, uL78, uL79, uL131, uL164, uL170, uL63, uL9])])
def cx_634q0i_0 (t : List (Int × Int)) : List (Int × Int) := ui0 :: (0, 6) :: ui2313 :: ui49 :: ui49 :: ui49 :: ui49 :: ui49 :: t
def cx_634q0i_1 (t : List (Int × Int)) : List (Int × Int) := ui49 :: ui49 :: (0, 335921) :: (1, 6) :: ui2309 :: t
def cx_634q0 : zS := ((cx_634q0i_0 (cx_634q0i_1 [])), [ur1331, ur2262, ur2263], [((-1000), [(2, (-1000)), (12, 1000)]), (335921, [(10, (-1))])], [], [uV64], [uF2314], [(8, [uL195, uL63, uL214]), (329, [uL23, uL98, uL104, uL78, uL79, uL131, uL164, uL265, uL63, uL195]), (330, [uL23, uL98, uL104, uL78, uL79, uL131, uL164, uL170, uL195])])
/-- M.goesToNext -/
def cx_634 : zCtx := (274, cx_634p, [cx_634q0, ([ui0, (0, 6), ui2309, ui49, ui49, ui49, ui49, ui49, ui49, ui49, ui2310, (0, 0)], [ur1331, ur2262, ur2263], [], [], [uV62], [uF2314], [(331, [uL23, uL98, uL104, uL78, uL79, uL131, uL164, uL170])])], [uk2315, uk2316], 338, 2, 44)
def cz_634_0i_0 (t : List (Int × Int)) : List (Int × Int) := ui0 :: (0, 6) :: ui2309 :: ui49 :: ui49 :: ui49 :: ui49 :: ui49 :: t
def cz_634_0i_1 (t : List (Int × Int)) : List (Int × Int) := ui49 :: ui49 :: ui2310 :: (0, 6) :: (0, 6) :: (0, 6) :: t
def cz_634_0g_0 (t : List zTg) : List zTg := (8, [uL195, uL214, uL67]) :: uG2312 :: (329, [uL23, uL98, uL104, uL78, uL79, uL131, uL164, uL170, uL207, uL195]) :: (333, [uL23, uL98, uL104, uL78, uL79, uL131, uL164, uL207, uL195, uL99]) :: t
def cz_634_0 : zS := ((cz_634_0i_0 (cz_634_0i_1 [])), [ur1331, ur2262, ur2263], [], [uV2, uV61], [], [uF2314, uF2269, uF2306], (cz_634_0g_0 []))
set_option maxRecDepth 1000000 in
theorem ck_634 : x_ok mLT1 [cx_627, cx_628, cx_629, cx_630, cx_631, cx_632, cx_633] mTS2 mTC2 mRUp cx_634 [(2, [0]), (39, [1, 2, 3, 4, 5, 6])] [(37, [1001131]), (39, [30, 1]), (51, [1001112]), (52, [32]), (62, [31, 1001111])] [(6, cz_634_0, (17, [(11, 23)]))] (160, []) 178 43 = true := by decide +kernel
theorem sn_634 {W : Bool} {X : List Int32} : y_Snd (mGw W) mLT1 (J2 W X) X cx_634 := y_ok J2_J mTS2_ok1 mTC2_ok1 mRUp_ok1 (List.forall_mem_cons.mpr ⟨sn_627, List.forall_mem_cons.mpr ⟨sn_628, List.forall_mem_cons.mpr ⟨sn_629, List.forall_mem_cons.mpr ⟨sn_630, List.forall_mem_cons.mpr ⟨sn_631, List.forall_mem_cons.mpr ⟨sn_632, List.forall_mem_cons.mpr ⟨sn_633, fun _ h => absurd h List.not_mem_nil⟩⟩⟩⟩⟩⟩⟩) ck_634
def cx_635pi_0 (t : List (Int × Int)) : List (Int × Int) := ui0 :: (0, 1) :: (1, 6) :: (0, 6) :: ui49 :: ui49 :: ui49 :: ui49 :: t
def cx_635pi_1 (t : List (Int × Int)) : List (Int × Int) := ui49 :: ui49 :: ui49 :: ui196 :: ui1163 :: ui2310 :: t
def cx_635pg_0 (t : List zTg) : List zTg := uG2229 :: uG2317 :: uG2318 :: uG2319 :: uG2320 :: uG2321 :: t
def cx_635p : zS := ((cx_635pi_0 (cx_635pi_1 [])), [ur1331, ur1380, ur2263, ur2264, ur2267, ur1383, ur2262], [uL511, uL149, uL768], [], [uV2], [uF1886, uF2322, uF1495, uF2306, uF2323, uF2324, uF2325, uF2326], (cx_635pg_0 []))
/-- M.orderSpare -/
def cx_635 : zCtx := (277, cx_635p, [([ui0, (0, 1), (1, 6), (0, 6), ui49, ui49, ui49, ui49, ui49, ui49, ui49, ui196, ui1163, ui2310, ui2019], [ur1331, ur1380, ur2263, ur2264, ur2267, ur1383, ur2262], [], [], [uV356], [], [(337, [uL98, uL104, uL78, uL79, uL131, uL164, uL170, uL195, uL207, uL208, uL214])])], [], 426, 0, 0)
def cz_635_0i_0 (t : List (Int × Int)) : List (Int × Int) := ui0 :: (0, 1) :: (1, 6) :: (0, 6) :: ui49 :: ui49 :: ui49 :: ui49 :: t
def cz_635_0i_1 (t : List (Int × Int)) : List (Int × Int) := ui49 :: ui49 :: ui49 :: ui196 :: ui1163 :: ui2310 :: ui1054 :: ui767 :: t
def cz_635_0i_2 (t : List (Int × Int)) : List (Int × Int) := ui245 :: t
def cz_635_0c_0 (t : List zL) : List zL := uL511 :: uL149 :: uL768 :: (1, [(16, 1)]) :: ((-1), [(2, 1), (16, (-1))]) :: uL209 :: (594, [(15, (-1))]) :: (594, [(14, 1)]) :: t
def cz_635_0c_1 (t : List zL) : List zL := (999, [(14, (-1))]) :: t
def cz_635_0g_0 (t : List zTg) : List zTg := uG2229 :: uG2320 :: uG2317 :: uG2318 :: uG2319 :: uG2321 :: (335, [uL98, uL104, uL78, uL79, uL131, uL164, uL170, uL67, uL212, uL208, uL209, uL214]) :: t
def cz_635_0 : zS := ((cz_635_0i_0 (cz_635_0i_1 (cz_635_0i_2 []))), [ur1331, ur1380, ur2263, ur2264, ur2267, ur1383, ur2262], (cz_635_0c_0 (cz_635_0c_1 [])), [uV2, uV356, uV585, uV1525, uV113], [], [uF1886, uF2322, uF1495, uF2306, uF2323, uF2324, uF2325, uF2326], (cz_635_0g_0 []))
set_option maxRecDepth 1000000 in
theorem ck_635 : x_ok mLT1 [] mTS2 mTC2 mRUp cx_635 [] [(12, [1001114]), (23, [1001115]), (32, [1001116]), (56, [1001117]), (58, [1001118, 1001119]), (76, [1001132]), (81, [1001133]), (101, [1001132]), (106, [1001133]), (109, [1001120, 1001121, 1001122]), (132, [1001123, 1001124]), (136, [1001125])] [(13, cz_635_0, (81, [(16, 67)]))] (426, []) 0 69 = true := by decide +kernel
theorem sn_635 {W : Bool} {X : List Int32} : y_Snd (mGw W) mLT1 (J2 W X) X cx_635 := y_ok J2_J mTS2_ok1 mTC2_ok1 mRUp_ok1 (fun _ h => absurd h List.not_mem_nil) ck_635
def cx_636pi_0 (t : List (Int × Int)) : List (Int × Int) := ui0 :: ui584 :: (0, 1) :: ui49 :: (0, 1) :: (0, 6) :: ui31 :: (0, 6) :: t
def cx_636pi_1 (t : List (Int × Int)) : List (Int × Int) := (0, 6) :: ui49 :: ui49 :: ui196 :: (0, 6) :: t
def cx_636p : zS := ((cx_636pi_0 (cx_636pi_1 [])), (cx_619pr_0 (cx_619pr_1 (cx_619pr_2 []))), [uL1172], [], [uV2, uV11], (cx_619pf_0 (cx_619pf_1 (cx_619pf_2 (cx_619pf_3 [])))), (cx_619pg_0 []))
def cx_636q0i_0 (t : List (Int × Int)) : List (Int × Int) := ui0 :: ui584 :: (0, 1) :: ui49 :: (0, 1) :: (0, 6) :: ui31 :: (0, 6) :: t
def cx_636q0i_1 (t : List (Int × Int)) : List (Int × Int) := (0, 6) :: ui49 :: ui49 :: ui196 :: (0, 6) :: ui2310 :: t
def cx_636q0 : zS := ((cx_636q0i_0 (cx_636q0i_1 [])), (cx_619pr_0 (cx_619pr_1 (cx_619pr_2 []))), [], [], [uV409], [], [uG1895, uG2042, (238, [uL1187, uL78, uL63, uL63, uL63, uL63, uL63, uL63, uL9, uL195, uL207])])
/-- M.orders -/
def cx_636 : zCtx := (272, cx_636p, [cx_636q0], kc_84, 1000079811, 6, 129)
def cz_636_0i_0 (t : List (Int × Int)) : List (Int × Int) := ui0 :: ui584 :: (0, 1) :: ui49 :: (0, 1) :: (0, 6) :: ui31 :: (0, 6) :: t
def cz_636_0i_1 (t : List (Int × Int)) : List (Int × Int) := (0, 6) :: ui49 :: ui49 :: ui196 :: (0, 6) :: ui510 :: (0, 6) :: ui196 :: t
def cz_636_0i_2 (t : List (Int × Int)) : List (Int × Int) := ui2309 :: ui2310 :: t
def cz_636_0r_0 (t : List (Nat × Bool)) : List (Nat × Bool) := ur1331 :: ur2262 :: ur1378 :: ur1379 :: ur1389 :: ur1390 :: ur1391 :: ur1392 :: t
def cz_636_0r_1 (t : List (Nat × Bool)) : List (Nat × Bool) := ur1393 :: ur1387 :: ur1388 :: ur1380 :: ur1492 :: ur1493 :: ur1382 :: ur1885 :: t
def cz_636_0r_2 (t : List (Nat × Bool)) : List (Nat × Bool) := ur1383 :: ur2263 :: ur2264 :: ur2265 :: ur2266 :: ur2267 :: ur1386 :: ur1905 :: t
def cz_636_0f_0 (t : List zFa) : List zFa := uF2327 :: uF1892 :: (0, (false, 49, 0, []), 0, 0, 0, [(15, 1)]) :: uF2328 :: uF2329 :: uF2020 :: uF2269 :: uF2270 :: t
def cz_636_0f_1 (t : List zFa) : List zFa := uF2271 :: uF2272 :: uF2273 :: uF2274 :: uF2275 :: uF2276 :: uF2277 :: uF2278 :: t
def cz_636_0f_2 (t : List zFa) : List zFa := uF2279 :: uF2280 :: uF2281 :: uF2282 :: uF2283 :: uF2284 :: uF2285 :: uF2286 :: t
def cz_636_0f_3 (t : List zFa) : List zFa := uF2287 :: uF2288 :: uF2289 :: t
def cz_636_0g_0 (t : List zTg) : List zTg := uG1895 :: uG2067 :: uG2170 :: uG2171 :: uG2172 :: uG2173 :: uG2042 :: uG2174 :: t
def cz_636_0g_1 (t : List zTg) : List zTg := uG2330 :: uG2331 :: uG2332 :: uG2333 :: uG2334 :: (338, [uL78, uL63, uL63, uL63, uL63, uL63, uL63, uL9, uL195, uL213, uL207]) :: t
def cz_636_0 : zS := ((cz_636_0i_0 (cz_636_0i_1 (cz_636_0i_2 []))), (cz_636_0r_0 (cz_636_0r_1 (cz_636_0r_2 []))), [uL1172, uL207, (0, [(13, (-1)), (17, 1)])], [uV2, uV11, uV409], [], (cz_636_0f_0 (cz_636_0f_1 (cz_636_0f_2 (cz_636_0f_3 [])))), (cz_636_0g_0 (cz_636_0g_1 [])))
set_option maxRecDepth 1000000 in
theorem ck_636 : x_ok mLT1 [cx_554, cx_508, cx_620, cx_634, cx_635] mTS2 mTC2 mRUp cx_636 [(1, [0]), (10, [1]), (14, [2]), (25, [3]), (32, [4])] [(13, uN2118), (21, [29, 1001102, 1001103]), (36, [1001053, 1001126, 1001127]), (45, [1001113])] [(24, cz_636_0, (1000000005, [(16, (-1000))]))] (1000000018, []) 79793 15 = true := by decide +kernel
theorem sn_636 {W : Bool} {X : List Int32} : y_Snd (mGw W) mLT1 (J2 W X) X cx_636 := y_ok J2_J mTS2_ok1 mTC2_ok1 mRUp_ok1 (List.forall_mem_cons.mpr ⟨sn_554, List.forall_mem_cons.mpr ⟨sn_508, List.forall_mem_cons.mpr ⟨sn_620, List.forall_mem_cons.mpr ⟨sn_634, List.forall_mem_cons.mpr ⟨sn_635, fun _ h => absurd h List.not_mem_nil⟩⟩⟩⟩⟩) ck_636
def cx_637pi_0 (t : List (Int × Int)) : List (Int × Int) := ui0 :: ui262 :: (0, 1) :: ui49 :: (0, 1) :: (0, 6) :: ui31 :: (0, 6) :: t
def cx_637pi_1 (t : List (Int × Int)) : List (Int × Int) := (0, 6) :: ui49 :: ui49 :: ui196 :: (0, 6) :: t
def cx_637p : zS := ((cx_637pi_0 (cx_637pi_1 [])), (cx_619pr_0 (cx_619pr_1 (cx_619pr_2 []))), [uL1172], [], [uV2, uV11], (cx_619pf_0 (cx_619pf_1 (cx_619pf_2 (cx_619pf_3 [])))), (cx_619pg_0 []))
/-- M.orders -/
def cx_637 : zCtx := (272, cx_637p, [([ui0, ui262, (0, 1), ui49, (0, 1), (0, 6), ui31, (0, 6), (0, 6), ui49, ui49, ui196, (0, 6)], [ur1331, ur2262, ur1378, ur1379, ur1389, ur1390, ur1391, ur1392, ur1393, ur1387, ur1388, ur1380, ur1492, ur1493, ur1382, ur1885, ur1383, ur2263, ur2264, ur2265, ur2266, ur2267], [], [], [uV61], [], [uG2042])], [], 19, 2, 42)
set_option maxRecDepth 1000000 in
theorem ck_637 : x_ok mLT1 [cx_554] mTS2 mTC2 mRUp cx_637 [(1, [0])] [] [] (5, []) 14 8 = true := by decide +kernel
theorem sn_637 {W : Bool} {X : List Int32} : y_Snd (mGw W) mLT1 (J2 W X) X cx_637 := y_ok J2_J mTS2_ok1 mTC2_ok1 mRUp_ok1 (List.forall_mem_cons.mpr ⟨sn_554, fun _ h => absurd h List.not_mem_nil⟩) ck_637
def cx_638pi_0 (t : List (Int × Int)) : List (Int × Int) := ui0 :: (0, 1) :: (0, 6) :: (0, 6) :: ui49 :: ui49 :: ui49 :: ui49 :: t
def cx_638pi_1 (t : List (Int × Int)) : List (Int × Int) := ui49 :: ui49 :: ui49 :: ui196 :: ui1163 :: t
def cx_638pg_0 (t : List zTg) : List zTg := uG2229 :: uG2317 :: uG2318 :: uG2319 :: uG2320 :: t
def cx_638p : zS := ((cx_638pi_0 (cx_638pi_1 [])), [ur1331, ur2262, ur1380, ur2263, ur2264, ur2267, ur1383], [uL511], [], [uV2], [uF1886, uF2322, uF2269, uF2125, uF2335, uF2336, uF2337, uF1399], (cx_638pg_0 []))
/-- M.peakOf -/
def cx_638 : zCtx := (279, cx_638p, [([ui0, (0, 1), (0, 6), (0, 6), ui49, ui49, ui49, ui49, ui49, ui49, ui49, ui196, ui1163, ui1106], [ur1331, ur2262, ur1380, ur2263, ur2264, ur2267, ur1383], [], [], [uV409], [], [(238, [uL1188, uL98, uL104, uL78, uL79, uL131, uL164, uL170, uL195, uL214, uL207])])], [uk2315, uk2316], 1000000437, 3, 65)
def cz_638_0i_0 (t : List (Int × Int)) : List (Int × Int) := ui0 :: (0, 1) :: (0, 6) :: (0, 6) :: ui49 :: ui49 :: ui49 :: ui49 :: t
def cz_638_0i_1 (t : List (Int × Int)) : List (Int × Int) := ui49 :: ui49 :: ui49 :: ui196 :: ui1163 :: ui1106 :: (0, 6) :: ui2309 :: t
def cz_638_0i_2 (t : List (Int × Int)) : List (Int × Int) := ui2310 :: t
def cz_638_0g_0 (t : List zTg) : List zTg := (8, [uL208, uL63, uL209]) :: uG2229 :: uG2317 :: uG2318 :: uG2319 :: uG2320 :: (329, [uL98, uL104, uL78, uL79, uL131, uL164, uL170, uL212, uL63, uL208]) :: (339, [uL98, uL104, uL78, uL79, uL131, uL164, uL170, uL195, uL212, uL207, uL214]) :: t
def cz_638_0 : zS := ((cz_638_0i_0 (cz_638_0i_1 (cz_638_0i_2 []))), [ur1331, ur2262, ur1380, ur2263, ur2264, ur2267, ur1383], [uL511, (2, [(13, 1)]), (999, [(13, (-1))])], [uV2, uV409, uV113], [], [uF2327, uF1886, uF2269, uF2125, uF2335, uF2336, uF2337, uF1399], (cz_638_0g_0 []))
set_option maxRecDepth 1000000 in
theorem ck_638 : x_ok mLT1 [cx_634, cx_635] mTS2 mTC2 mRUp cx_638 [(9, [0]), (16, [1])] [(5, [29, 1001102, 1001134]), (31, [1001136, 1001137, 1001138]), (35, [1001135])] [(8, cz_638_0, (1000000005, [(15, (-1000))]))] (1000000011, []) 426 17 = true := by decide +kernel
theorem sn_638 {W : Bool} {X : List Int32} : y_Snd (mGw W) mLT1 (J2 W X) X cx_638 := y_ok J2_J mTS2_ok1 mTC2_ok1 mRUp_ok1 (List.forall_mem_cons.mpr ⟨sn_634, List.forall_mem_cons.mpr ⟨sn_635, fun _ h => absurd h List.not_mem_nil⟩⟩) ck_638
def cx_639pi_0 (t : List (Int × Int)) : List (Int × Int) := ui0 :: (0, 1) :: ui49 :: (0, 1) :: (0, 6) :: ui31 :: (0, 6) :: (0, 6) :: t
def cx_639pi_1 (t : List (Int × Int)) : List (Int × Int) := ui49 :: ui49 :: ui196 :: (0, 6) :: t
def cx_639pr_0 (t : List (Nat × Bool)) : List (Nat × Bool) := ur1331 :: ur1378 :: ur1379 :: ur1389 :: ur1390 :: ur1391 :: ur1392 :: ur1393 :: t
def cx_639pr_1 (t : List (Nat × Bool)) : List (Nat × Bool) := ur1387 :: ur1388 :: ur1380 :: ur1492 :: ur1493 :: ur1382 :: ur1885 :: ur1383 :: t
def cx_639pr_2 (t : List (Nat × Bool)) : List (Nat × Bool) := ur2263 :: ur2264 :: ur2265 :: ur2266 :: ur2267 :: ur2262 :: t
def cx_639pf_0 (t : List zFa) : List zFa := uF1886 :: uF1887 :: uF1888 :: uF2338 :: uF1394 :: uF1395 :: uF2027 :: uF2028 :: t
def cx_639pf_1 (t : List zFa) : List zFa := uF2029 :: uF2030 :: uF2031 :: uF1625 :: uF1626 :: uF2032 :: uF2033 :: uF2034 :: t
def cx_639pf_2 (t : List zFa) : List zFa := uF1920 :: uF2113 :: uF2169 :: uF2339 :: (0, (false, 56, 0, []), 2, 17, 0, []) :: (0, (false, 57, 0, []), 2, 18, 0, []) :: (0, (false, 58, 0, []), 2, 19, 0, []) :: (0, (false, 59, 0, []), 2, 20, 0, []) :: t
def cx_639pf_3 (t : List zFa) : List zFa := (0, (false, 60, 0, []), 2, 21, 0, []) :: (10, (true, 0, 0, [(1, 1)]), 0, 0, 0, [(11, 1)]) :: t
def cx_639pg_0 (t : List zTg) : List zTg := uG2209 :: (224, [uL9, uL1410, uL65, uL104]) :: (85, [uL9, uL78, uL1410]) :: (200, [uL9, uL1410, uL65, uL78]) :: uG2231 :: uG1280 :: (88, [uL9, uL170, uL1410]) :: t
def cx_639p : zS := ((cx_639pi_0 (cx_639pi_1 [])), (cx_639pr_0 (cx_639pr_1 (cx_639pr_2 []))), [uL2108], [], [uV2], (cx_639pf_0 (cx_639pf_1 (cx_639pf_2 (cx_639pf_3 [])))), (cx_639pg_0 []))
def cx_639q0i_0 (t : List (Int × Int)) : List (Int × Int) := ui0 :: (0, 1) :: ui49 :: (0, 1) :: (0, 6) :: ui31 :: (0, 6) :: (0, 6) :: t
def cx_639q0i_1 (t : List (Int × Int)) : List (Int × Int) := ui49 :: ui49 :: ui196 :: (0, 6) :: ui1106 :: t
def cx_639q0 : zS := ((cx_639q0i_0 (cx_639q0i_1 [])), (cx_639pr_0 (cx_639pr_1 (cx_639pr_2 []))), [], [], [uV198], [], [uG1895, uG1280, (238, [uL1188, uL104, uL63, uL63, uL63, uL63, uL63, uL63, uL170, uL63, uL214])])
/-- M.peak -/
def cx_639 : zCtx := (278, cx_639p, [cx_639q0], kc_84, 1000000444, 6, 129)
set_option maxRecDepth 1000000 in
theorem ck_639 : x_ok mLT1 [cx_508, cx_620, cx_638] mTS2 mTC2 mRUp cx_639 [(1, [0]), (5, [1]), (9, [2])] [(4, uN2118)] [] (7, []) 1000000437 10 = true := by decide +kernel
theorem sn_639 {W : Bool} {X : List Int32} : y_Snd (mGw W) mLT1 (J2 W X) X cx_639 := y_ok J2_J mTS2_ok1 mTC2_ok1 mRUp_ok1 (List.forall_mem_cons.mpr ⟨sn_508, List.forall_mem_cons.mpr ⟨sn_620, List.forall_mem_cons.mpr ⟨sn_638, fun _ h => absurd h List.not_mem_nil⟩⟩⟩) ck_639
/-- M.isHouse -/
def cx_640 : zCtx := (222, ([ui0, ui49, (0, 1)], [ur1331], [], [], [uV2, uV11], [uF2020], []), [([ui0, ui262, (0, 1)], [ur1331], [], [], [uV62], [], []), ([ui0, ui510, (0, 1)], [ur1331], [], [], [uV62], [], []), ([ui0, (0, 5), (0, 1)], [ur1331], [], [], [uV64], [], [])], [], 20, 1, 22)
set_option maxRecDepth 1000000 in
theorem ck_640 : x_ok mLT1 [cx_504] mTS2 mTC2 mRUp cx_640 [(13, [0])] [(16, uN2023)] [] (11, []) 9 14 = true := by decide +kernel
theorem sn_640 {W : Bool} {X : List Int32} : y_Snd (mGw W) mLT1 (J2 W X) X cx_640 := y_ok J2_J mTS2_ok1 mTC2_ok1 mRUp_ok1 (List.forall_mem_cons.mpr ⟨sn_504, fun _ h => absurd h List.not_mem_nil⟩) ck_640
/-- M.areTwo -/
def cx_641 : zCtx := (237, ([ui0, (0, 5), (0, 5), (0, 1)], [ur1331], [], [], [uV2, uV11, uV12], [uF2024], []), [([ui0, (0, 4), (1, 5), (0, 1)], [ur1331], [uL57], [], [uV64], [], []), ([ui0, (0, 5), (0, 5), (0, 1)], [ur1331], [uL507, uL60], [], [uV62], [], []), ([ui0, (1, 5), (0, 4), (0, 1)], [ur1331], [uL506], [], [uV64], [], []), ([ui0, (0, 5), (0, 5), (0, 1)], [ur1331], [], [], [uV62], [], [])], [], 34, 2, 43)
set_option maxRecDepth 1000000 in
theorem ck_641 : x_ok mLT1 [cx_640] mTS2 mTC2 mRUp cx_641 [(2, [0]), (10, [0])] [(16, [1000461])] [] (14, []) 20 17 = true := by decide +kernel
theorem sn_641 {W : Bool} {X : List Int32} : y_Snd (mGw W) mLT1 (J2 W X) X cx_641 := y_ok J2_J mTS2_ok1 mTC2_ok1 mRUp_ok1 (List.forall_mem_cons.mpr ⟨sn_640, fun _ h => absurd h List.not_mem_nil⟩) ck_641
/-- M.fillsPlans -/
def cx_642 : zCtx := (273, ([ui0, (0, 1), ui31], [ur1331, ur1378, ur1379, ur1389, ur1390, ur1391, ur1392, ur1393, ur1387, ur1388], [], [], [uV2], [uF1886, uF1394, uF1395, uF2027, uF2028, uF2029, uF2030, uF2031, uF1625, uF1626], [uG2209, uG2228]), [([ui0, (0, 1), ui31], [ur1331, ur1378, ur1379, ur1389, ur1390, ur1391, ur1392, ur1393, ur1387, ur1388], [], [], [], [], [])], kc_83, 79793, 5, 108)
set_option maxRecDepth 1000000 in
theorem ck_642 : x_ok mLT1 [cx_640, cx_514, cx_593, cx_641, cx_597, cx_596] mTS2 mTC2 mRUp cx_642 [(15, [0]), (23, [1]), (59, [0]), (67, [2]), (98, [3]), (121, [4]), (141, [5])] [] [(2, ([(0, 3072), (0, 1), (0, 432), (0, 6)], [(12, false), (65, false), (66, false), (67, false), (68, false), (69, false), (70, false), (71, false), (72, false), (73, false)], [], [(2, 0, 0, []), (0, 0, 0, [(3, 1)])], [], [(0, (false, 18, 0, []), 0, 0, 0, [(1, 1)]), (0, (false, 31, 0, []), 2, 1, 0, []), (0, (false, 32, 0, []), 2, 2, 0, []), (0, (false, 34, 0, []), 2, 3, 0, []), (0, (false, 35, 0, []), 2, 4, 0, []), (0, (false, 36, 0, []), 2, 5, 0, []), (0, (false, 37, 0, []), 2, 6, 0, []), (0, (false, 38, 0, []), 2, 7, 0, []), (0, (false, 40, 0, []), 2, 8, 0, []), (0, (false, 41, 0, []), 2, 9, 0, [])], [(2, [(0, [(1, 1)])]), (224, [(0, [(1, 1)]), (1, [(1, (-1))]), (1, []), (0, [(2, 1)])])]), (2152, [(3, (-37))])), (83, ([(0, 3072), (0, 1), (0, 432), (0, 40)], [(12, false), (65, false), (66, false), (67, false), (68, false), (69, false), (70, false), (71, false), (72, false), (73, false)], [], [(2, 0, 0, []), (0, 0, 0, [(3, 1)])], [], [(0, (false, 18, 0, []), 0, 0, 0, [(1, 1)]), (0, (false, 31, 0, []), 2, 1, 0, []), (0, (false, 32, 0, []), 2, 2, 0, []), (0, (false, 34, 0, []), 2, 3, 0, []), (0, (false, 35, 0, []), 2, 4, 0, []), (0, (false, 36, 0, []), 2, 5, 0, []), (0, (false, 37, 0, []), 2, 6, 0, []), (0, (false, 38, 0, []), 2, 7, 0, []), (0, (false, 40, 0, []), 2, 8, 0, []), (0, (false, 41, 0, []), 2, 9, 0, [])], [(2, [(0, [(1, 1)])]), (224, [(0, [(1, 1)]), (1, [(1, (-1))]), (1, []), (0, [(2, 1)])])]), (1924, [(3, (-48))]))] (2155, []) 77638 50 = true := by decide +kernel
theorem sn_642 {W : Bool} {X : List Int32} : y_Snd (mGw W) mLT1 (J2 W X) X cx_642 := y_ok J2_J mTS2_ok1 mTC2_ok1 mRUp_ok1 (List.forall_mem_cons.mpr ⟨sn_640, List.forall_mem_cons.mpr ⟨sn_514, List.forall_mem_cons.mpr ⟨sn_593, List.forall_mem_cons.mpr ⟨sn_641, List.forall_mem_cons.mpr ⟨sn_597, List.forall_mem_cons.mpr ⟨sn_596, fun _ h => absurd h List.not_mem_nil⟩⟩⟩⟩⟩⟩) ck_642
/-- M.isIn -/
def cx_643 : zCtx := (276, ([ui0, (0, 6)], [ur1331, ur2262], [], [], [uV2, uV62], [uF2299, uF2269], []), [([ui0, (1, 6)], [ur1331, ur2262], [], [], [uV64], [], []), ([ui0, (0, 6)], [ur1331, ur2262], [], [], [uV62], [], [uG2300])], [], 87, 0, 0)
set_option maxRecDepth 1000000 in
theorem ck_643 : x_ok mLT1 [] mTS2 mTC2 mRUp cx_643 [] [(1, [97]), (22, [34])] [(2, ([(0, 3072), (0, 6), (0, 6)], [(12, false), (87, false)], [(0, [(1, 1), (2, (-1))])], [(2, 0, 0, []), (0, 0, 0, []), (0, 0, 0, [(2, 1)])], [], [(0, (false, 61, 0, []), 0, 0, 0, [(1, 1)]), (0, (false, 60, 0, []), 2, 1, 0, [])], [(9, [(0, []), (0, [])]), (9, [(0, []), (0, [(2, 1)])])]), (84, [(2, (-13))]))] (87, []) 0 15 = true := by decide +kernel
theorem sn_643 {W : Bool} {X : List Int32} : y_Snd (mGw W) mLT1 (J2 W X) X cx_643 := y_ok J2_J mTS2_ok1 mTC2_ok1 mRUp_ok1 (fun _ h => absurd h List.not_mem_nil) ck_643
/-- M.isIn -/
def cx_644 : zCtx := (276, ([ui0, (0, 6)], [ur1331, ur2262], [], [], [uV2, uV64], [uF2299, uF2269], []), [([ui0, (1, 6)], [ur1331, ur2262], [], [], [uV64], [], []), ([ui0, (0, 6)], [ur1331, ur2262], [], [], [uV62], [], [uG2301])], [], 87, 0, 0)
set_option maxRecDepth 1000000 in
theorem ck_644 : x_ok mLT1 [] mTS2 mTC2 mRUp cx_644 [] [(1, [97]), (22, [34])] [(2, ([(0, 3072), (0, 6), (0, 6)], [(12, false), (87, false)], [(0, [(1, 1), (2, (-1))])], [(2, 0, 0, []), (0, 0, 1, []), (0, 0, 0, [(2, 1)])], [], [(0, (false, 61, 0, []), 0, 0, 0, [(1, 1)]), (0, (false, 60, 0, []), 2, 1, 0, [])], [(9, [(1, []), (0, [])]), (9, [(1, []), (0, [(2, 1)])])]), (84, [(2, (-13))]))] (87, []) 0 15 = true := by decide +kernel
theorem sn_644 {W : Bool} {X : List Int32} : y_Snd (mGw W) mLT1 (J2 W X) X cx_644 := y_ok J2_J mTS2_ok1 mTC2_ok1 mRUp_ok1 (fun _ h => absurd h List.not_mem_nil) ck_644
/-- M.isIn -/
def cx_645 : zCtx := (276, ([ui0, (0, 6)], [ur1331, ur2262], [], [], [uV2, uV389], [uF2299, uF2269], []), [([ui0, (1, 6)], [ur1331, ur2262], [], [], [uV64], [], []), ([ui0, (0, 6)], [ur1331, ur2262], [], [], [uV62], [], [uG2302])], [], 87, 0, 0)
set_option maxRecDepth 1000000 in
theorem ck_645 : x_ok mLT1 [] mTS2 mTC2 mRUp cx_645 [] [(1, [97]), (22, [34])] [(2, ([(0, 3072), (0, 6), (0, 6)], [(12, false), (87, false)], [(0, [(1, 1), (2, (-1))])], [(2, 0, 0, []), (0, 0, 2, []), (0, 0, 0, [(2, 1)])], [], [(0, (false, 61, 0, []), 0, 0, 0, [(1, 1)]), (0, (false, 60, 0, []), 2, 1, 0, [])], [(9, [(2, []), (0, [])]), (9, [(2, []), (0, [(2, 1)])])]), (84, [(2, (-13))]))] (87, []) 0 15 = true := by decide +kernel
theorem sn_645 {W : Bool} {X : List Int32} : y_Snd (mGw W) mLT1 (J2 W X) X cx_645 := y_ok J2_J mTS2_ok1 mTC2_ok1 mRUp_ok1 (fun _ h => absurd h List.not_mem_nil) ck_645
/-- M.isIn -/
def cx_646 : zCtx := (276, ([ui0, (0, 6)], [ur1331, ur2262], [], [], [uV2, uV385], [uF2299, uF2269], []), [([ui0, (1, 6)], [ur1331, ur2262], [], [], [uV64], [], []), ([ui0, (0, 6)], [ur1331, ur2262], [], [], [uV62], [], [uG2303])], [], 87, 0, 0)
set_option maxRecDepth 1000000 in
theorem ck_646 : x_ok mLT1 [] mTS2 mTC2 mRUp cx_646 [] [(1, [97]), (22, [34])] [(2, ([(0, 3072), (0, 6), (0, 6)], [(12, false), (87, false)], [(0, [(1, 1), (2, (-1))])], [(2, 0, 0, []), (0, 0, 3, []), (0, 0, 0, [(2, 1)])], [], [(0, (false, 61, 0, []), 0, 0, 0, [(1, 1)]), (0, (false, 60, 0, []), 2, 1, 0, [])], [(9, [(3, []), (0, [])]), (9, [(3, []), (0, [(2, 1)])])]), (84, [(2, (-13))]))] (87, []) 0 15 = true := by decide +kernel
theorem sn_646 {W : Bool} {X : List Int32} : y_Snd (mGw W) mLT1 (J2 W X) X cx_646 := y_ok J2_J mTS2_ok1 mTC2_ok1 mRUp_ok1 (fun _ h => absurd h List.not_mem_nil) ck_646
/-- M.isIn -/
def cx_647 : zCtx := (276, ([ui0, (0, 6)], [ur1331, ur2262], [], [], [uV2, uV381], [uF2299, uF2269], []), [([ui0, (1, 6)], [ur1331, ur2262], [], [], [uV64], [], []), ([ui0, (0, 6)], [ur1331, ur2262], [], [], [uV62], [], [uG2304])], [], 87, 0, 0)
set_option maxRecDepth 1000000 in
theorem ck_647 : x_ok mLT1 [] mTS2 mTC2 mRUp cx_647 [] [(1, [97]), (22, [34])] [(2, ([(0, 3072), (0, 6), (0, 6)], [(12, false), (87, false)], [(0, [(1, 1), (2, (-1))])], [(2, 0, 0, []), (0, 0, 4, []), (0, 0, 0, [(2, 1)])], [], [(0, (false, 61, 0, []), 0, 0, 0, [(1, 1)]), (0, (false, 60, 0, []), 2, 1, 0, [])], [(9, [(4, []), (0, [])]), (9, [(4, []), (0, [(2, 1)])])]), (84, [(2, (-13))]))] (87, []) 0 15 = true := by decide +kernel
theorem sn_647 {W : Bool} {X : List Int32} : y_Snd (mGw W) mLT1 (J2 W X) X cx_647 := y_ok J2_J mTS2_ok1 mTC2_ok1 mRUp_ok1 (fun _ h => absurd h List.not_mem_nil) ck_647
/-- M.isIn -/
def cx_648 : zCtx := (276, ([ui0, (0, 6)], [ur1331, ur2262], [], [], [uV2, uV3], [uF2299, uF2269], []), [([ui0, (1, 6)], [ur1331, ur2262], [], [], [uV64], [], []), ([ui0, (0, 6)], [ur1331, ur2262], [], [], [uV62], [], [uG2305])], [], 87, 0, 0)
set_option maxRecDepth 1000000 in
theorem ck_648 : x_ok mLT1 [] mTS2 mTC2 mRUp cx_648 [] [(1, [97]), (22, [34])] [(2, ([(0, 3072), (0, 6), (0, 6)], [(12, false), (87, false)], [(0, [(1, 1), (2, (-1))])], [(2, 0, 0, []), (0, 0, 5, []), (0, 0, 0, [(2, 1)])], [], [(0, (false, 61, 0, []), 0, 0, 0, [(1, 1)]), (0, (false, 60, 0, []), 2, 1, 0, [])], [(9, [(5, []), (0, [])]), (9, [(5, []), (0, [(2, 1)])])]), (84, [(2, (-13))]))] (87, []) 0 15 = true := by decide +kernel
theorem sn_648 {W : Bool} {X : List Int32} : y_Snd (mGw W) mLT1 (J2 W X) X cx_648 := y_ok J2_J mTS2_ok1 mTC2_ok1 mRUp_ok1 (fun _ h => absurd h List.not_mem_nil) ck_648
/-- M.nextFrom -/
def cx_649 : zCtx := (275, ([ui0, (0, 6)], [ur1331, ur2262], [], [], [uV2, uV62], [uF2299, uF2269], []), [([ui0, (0, 6)], [ur1331, ur2262], [], [], [uV62], [], [uG2300]), ([ui0, (0, 6)], [ur1331, ur2262], [], [], [uV64], [], [uG2301]), ([ui0, (0, 6)], [ur1331, ur2262], [], [], [uV389], [], [uG2302]), ([ui0, (0, 6)], [ur1331, ur2262], [], [], [uV385], [], [uG2303]), ([ui0, (0, 6)], [ur1331, ur2262], [], [], [uV381], [], [uG2304]), ([ui0, (0, 6)], [ur1331, ur2262], [], [], [uV3], [], [uG2305]), ([ui0, (0, 6)], [ur1331, ur2262], [], [], [uV61], [], [])], [], 178, 1, 22)
def cq_649 : List zCtx := [cx_643, cx_644, cx_645, cx_646, cx_647, cx_648]
def cs_649 : List (Nat × List Nat) := [(19, [0, 1, 2, 3, 4, 5])]
def hs_649 : List (Nat × List Nat) := []
def ns_649 : List zN := []
set_option maxRecDepth 1000000 in
theorem ca_649 : x_okA mLT1 cq_649 mTS2 mTC2 mRUp cx_649 cs_649 hs_649 ns_649 (91, []) 87 94 = true := by decide +kernel
set_option maxRecDepth 1000000 in
theorem cc_649 : x_okC mLT1 cq_649 mTS2 mTC2 mRUp cx_649 cs_649 hs_649 ns_649 (91, []) 87 94 = true := by decide +kernel
theorem ck_649 : x_ok mLT1 cq_649 mTS2 mTC2 mRUp cx_649 cs_649 hs_649 ns_649 (91, []) 87 94 = true := x_ok_of ca_649 (fun _ h => absurd h List.not_mem_nil) cc_649
theorem sn_649 {W : Bool} {X : List Int32} : y_Snd (mGw W) mLT1 (J2 W X) X cx_649 := y_ok J2_J mTS2_ok1 mTC2_ok1 mRUp_ok1 (List.forall_mem_cons.mpr ⟨sn_643, List.forall_mem_cons.mpr ⟨sn_644, List.forall_mem_cons.mpr ⟨sn_645, List.forall_mem_cons.mpr ⟨sn_646, List.forall_mem_cons.mpr ⟨sn_647, List.forall_mem_cons.mpr ⟨sn_648, fun _ h => absurd h List.not_mem_nil⟩⟩⟩⟩⟩⟩) ck_649
/-- M.nextFrom -/
def cx_650 : zCtx := (275, ([ui0, (0, 5)], [ur1331, ur2262], [], [], [uV2, uV64], [uF2299, uF2269], []), [([ui0, (0, 5)], [ur1331, ur2262], [], [], [uV64], [], [uG2301]), ([ui0, (0, 5)], [ur1331, ur2262], [], [], [uV389], [], [uG2302]), ([ui0, (0, 5)], [ur1331, ur2262], [], [], [uV385], [], [uG2303]), ([ui0, (0, 5)], [ur1331, ur2262], [], [], [uV381], [], [uG2304]), ([ui0, (0, 5)], [ur1331, ur2262], [], [], [uV3], [], [uG2305]), ([ui0, (0, 5)], [ur1331, ur2262], [], [], [uV61], [], [])], [], 164, 1, 22)
set_option maxRecDepth 1000000 in
theorem ck_650 : x_ok mLT1 [cx_644, cx_645, cx_646, cx_647, cx_648] mTS2 mTC2 mRUp cx_650 [(19, [0, 1, 2, 3, 4])] [] [] (77, []) 87 80 = true := by decide +kernel
theorem sn_650 {W : Bool} {X : List Int32} : y_Snd (mGw W) mLT1 (J2 W X) X cx_650 := y_ok J2_J mTS2_ok1 mTC2_ok1 mRUp_ok1 (List.forall_mem_cons.mpr ⟨sn_644, List.forall_mem_cons.mpr ⟨sn_645, List.forall_mem_cons.mpr ⟨sn_646, List.forall_mem_cons.mpr ⟨sn_647, List.forall_mem_cons.mpr ⟨sn_648, fun _ h => absurd h List.not_mem_nil⟩⟩⟩⟩⟩) ck_650
end
