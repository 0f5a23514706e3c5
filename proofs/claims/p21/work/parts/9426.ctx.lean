noncomputable section
/-! ===== readings, by program, checked by the kernel ===== -/
def cx_544pi_0 (t : List (Int × Int)) : List (Int × Int) := ui0 :: ui49 :: (0, 1) :: ui49 :: (0, 1) :: ui439 :: (0, 6) :: (0, 6) :: t
def cx_544pi_1 (t : List (Int × Int)) : List (Int × Int) := ui49 :: ui49 :: t
def cx_544pg_0 (t : List zTg) : List zTg := uG2119 :: uG1900 :: uG2120 :: uG2121 :: uG1280 :: (260, [uL266, uL63, uL63, uL63, uL63, uL63, uL63, uL63, uL9, uL78, uL63]) :: t
def cx_544p : zS := ((cx_544pi_0 (cx_544pi_1 [])), [ur1331, ur1885, ur1380, ur1492, ur1493], [uL2108], [], [uV2, uV11], [uF2020, uF2122, uF2123, uF2124, uF1889, uF2125, uF2126, uF2127], (cx_544pg_0 []))
/-- M.splice -/
def cx_544 : zCtx := (243, cx_544p, [([ui0, ui49, (0, 1), ui49, (0, 1), ui439, (0, 6), (0, 6), ui49, ui49], [ur1331, ur1885, ur1380, ur1492, ur1493], [], [], [uV61], [], [uG1894, uG1895, uG1280])], [uk1896, uk1897, uk1898], 462, 2, 43)
set_option maxRecDepth 1000000 in
theorem ck_544 : x_ok mLT1 [cx_543, cx_505, cx_514] mTS2 mTC2 mRUp cx_544 [(1, [0]), (6, [1]), (14, [2])] [(4, uN2128), (29, uN2129), (31, [20, 85, 1000912, 1000913, 1000914, 1000831, 1000848, 1000915])] [] (17, []) 445 20 = true := by decide +kernel
theorem sn_544 {W : Bool} {X : List Int32} : y_Snd (mGw W) mLT1 (J2 W X) X cx_544 := y_ok J2_J mTS2_ok1 mTC2_ok1 mRUp_ok1 (List.forall_mem_cons.mpr ⟨sn_543, List.forall_mem_cons.mpr ⟨sn_505, List.forall_mem_cons.mpr ⟨sn_514, fun _ h => absurd h List.not_mem_nil⟩⟩⟩) ck_544
def cx_545pi_0 (t : List (Int × Int)) : List (Int × Int) := ui0 :: ui438 :: (0, 6) :: (0, 6) :: ui49 :: ui49 :: ui49 :: ui49 :: t
def cx_545pi_1 (t : List (Int × Int)) : List (Int × Int) := ui49 :: ui49 :: ui49 :: ui49 :: ui49 :: ui438 :: t
def cx_545pg_0 (t : List zTg) : List zTg := uG2119 :: uG1900 :: uG1894 :: uG1084 :: uG2130 :: (244, [uL67, uL207, uL9, uL63, (0, [(1, 33)])]) :: t
def cx_545p : zS := ((cx_545pi_0 (cx_545pi_1 [])), [ur1331, ur1905, ur1885, ur2131], [(39, [(1, (-1))])], [], [uV2], [uF2132, uF2133, uF2049, uF2134], (cx_545pg_0 []))
def cx_545q0 : zS := ((cx_545pi_0 (cx_545pi_1 [])), [ur1331, ur1905, ur1885, ur2131], [], [], [], [(0, (false, 53, 0, []), 0, 0, 1, [(1, 1)])], [uG1900, uG1901, uG2119, (12, [uL9]), uG791, (242, [uL67, uL207, uL109, uL63]), uG1899])
/-- M.records -/
def cx_545 : zCtx := (244, cx_545p, [cx_545q0], [uk2135, uk1902, uk2136], 1047, 1, 21)
def cq_545 : List zCtx := [cx_500]
def cs_545 : List (Nat × List Nat) := [(94, [0])]
def hs_545 : List (Nat × List Nat) := [(49, [401]), (83, [146, 1000703, 1000704]), (97, [1000705])]
def ns_545 : List zN := []
set_option maxRecDepth 1000000 in
theorem ca_545 : x_okA mLT1 cq_545 mTS2 mTC2 mRUp cx_545 cs_545 hs_545 ns_545 (612, []) 435 615 = true := by decide +kernel
set_option maxRecDepth 1000000 in
theorem cc_545 : x_okC mLT1 cq_545 mTS2 mTC2 mRUp cx_545 cs_545 hs_545 ns_545 (612, []) 435 615 = true := by decide +kernel
theorem ck_545 : x_ok mLT1 cq_545 mTS2 mTC2 mRUp cx_545 cs_545 hs_545 ns_545 (612, []) 435 615 = true := x_ok_of ca_545 (fun _ h => absurd h List.not_mem_nil) cc_545
theorem sn_545 {W : Bool} {X : List Int32} : y_Snd (mGw W) mLT1 (J2 W X) X cx_545 := y_ok J2_J mTS2_ok1 mTC2_ok1 mRUp_ok1 (List.forall_mem_cons.mpr ⟨sn_500, fun _ h => absurd h List.not_mem_nil⟩) ck_545
/-- M.ropeLong -/
def cx_546 : zCtx := (245, ([ui0, ui196, ui196, ui196, ui196, ui196, ui196], [ur1331, ur1885], [], [], [uV2], [uF1889, uF2137, uF2138, uF2139, uF2140, uF2141, uF2142], []), [([ui0, ui196, ui196, ui196, ui196, ui196, ui196], [ur1331, ur1885], [], [], [uV2143], [], [])], [], 30, 0, 0)
set_option maxRecDepth 1000000 in
theorem ck_546 : x_ok mLT1 [] mTS2 mTC2 mRUp cx_546 [] [] [] (30, []) 0 33 = true := by decide +kernel
theorem sn_546 {W : Bool} {X : List Int32} : y_Snd (mGw W) mLT1 (J2 W X) X cx_546 := y_ok J2_J mTS2_ok1 mTC2_ok1 mRUp_ok1 (fun _ h => absurd h List.not_mem_nil) ck_546
def cx_547pi_0 (t : List (Int × Int)) : List (Int × Int) := ui0 :: ui49 :: (0, 1) :: ui49 :: (0, 1) :: ui438 :: (0, 6) :: ui49 :: t
def cx_547pi_1 (t : List (Int × Int)) : List (Int × Int) := ui49 :: (0, 6) :: ui584 :: ui438 :: t
def cx_547pf_0 (t : List zFa) : List zFa := uF2020 :: uF2122 :: uF2123 :: uF2124 :: uF1889 :: uF2125 :: uF2126 :: uF2127 :: t
def cx_547pf_1 (t : List zFa) : List zFa := (0, (false, 54, 0, []), 2, 5, 0, []) :: (0, (false, 47, 0, []), 2, 6, 0, []) :: t
def cx_547pg_0 (t : List zTg) : List zTg := uG2119 :: uG1900 :: uG2120 :: uG2121 :: uG2144 :: uG2145 :: uG2146 :: uG2147 :: t
def cx_547pg_1 (t : List zTg) : List zTg := (244, [uL78, uL195, uL104, uL63, uL2148]) :: t
def cx_547p : zS := ((cx_547pi_0 (cx_547pi_1 [])), [ur1331, ur1885, ur1380, ur1492, ur1493, ur2131, ur1905], [uL2108, uL236, uL2149], [], [uV2, uV11], (cx_547pf_0 (cx_547pf_1 [])), (cx_547pg_0 (cx_547pg_1 [])))
/-- M.splice -/
def cx_547 : zCtx := (243, cx_547p, [([ui0, ui49, (0, 1), ui49, (0, 1), ui438, (0, 6), ui49, ui49, (0, 6), ui584, ui438], [ur1331, ur1885, ur1380, ur1492, ur1493, ur2131, ur1905], [], [], [uV825], [uF2150], [uG1900, uG1901, uG2119, uG2151, uG1894, uG1895, uG2152, (242, [uL78, uL195, uL205, uL63])])], [uk1896, uk1897, uk2135, uk1902, uk1898, uk2136], 1119, 2, 43)
set_option maxRecDepth 1000000 in
theorem ck_547 : x_ok mLT1 [cx_543, cx_505, cx_514, cx_512, cx_545, cx_546] mTS2 mTC2 mRUp cx_547 [(1, [0]), (6, [1]), (14, [2]), (56, [3]), (108, [4]), (112, [5])] [(4, uN2128), (29, uN2129), (31, [20, 85, 1000912, 1000913, 1000914, 1000831, 1000848, 1000915]), (46, [23]), (71, [1000637]), (107, [25, 1000916, 1000917]), (108, [1000918])] [] (72, []) 1047 75 = true := by decide +kernel
theorem sn_547 {W : Bool} {X : List Int32} : y_Snd (mGw W) mLT1 (J2 W X) X cx_547 := y_ok J2_J mTS2_ok1 mTC2_ok1 mRUp_ok1 (List.forall_mem_cons.mpr ⟨sn_543, List.forall_mem_cons.mpr ⟨sn_505, List.forall_mem_cons.mpr ⟨sn_514, List.forall_mem_cons.mpr ⟨sn_512, List.forall_mem_cons.mpr ⟨sn_545, List.forall_mem_cons.mpr ⟨sn_546, fun _ h => absurd h List.not_mem_nil⟩⟩⟩⟩⟩⟩) ck_547
def cx_548pi_0 (t : List (Int × Int)) : List (Int × Int) := ui0 :: ui755 :: (0, 6) :: (0, 6) :: ui49 :: ui49 :: ui49 :: ui49 :: t
def cx_548pi_1 (t : List (Int × Int)) : List (Int × Int) := ui49 :: ui49 :: ui49 :: ui49 :: ui49 :: ui438 :: t
def cx_548pg_0 (t : List zTg) : List zTg := uG2119 :: uG1900 :: uG1894 :: uG1084 :: uG2130 :: (244, [uL67, uL207, uL607, uL65, uL752]) :: t
def cx_548p : zS := ((cx_548pi_0 (cx_548pi_1 [])), [ur1331, ur1905, ur1885, ur2131], [uL2153, uL2154], [], [uV2], [uF2132, uF2133, uF2049, uF2134], (cx_548pg_0 []))
/-- M.records -/
def cx_548 : zCtx := (244, cx_548p, [([ui0, ui755, (0, 6), (0, 6), ui49, ui49, ui49, ui49, ui49, ui49, ui49, ui49, ui49, ui438], [ur1331, ur1905, ur1885, ur2131], [], [], [], [uF2155], [uG1900, uG1901, uG2119, uG2156, uG791, (242, [uL67, uL207, uL606, uL63]), uG1899])], [uk2135, uk1902, uk2136], 1305395, 1, 21)
def cq_548 : List zCtx := [cx_500]
def cs_548 : List (Nat × List Nat) := [(94, [0])]
def hs_548 : List (Nat × List Nat) := [(10, [26, 1000699]), (32, [1000700]), (33, [27, 1000701]), (39, [28, 1000702]), (49, [401]), (83, [146, 1000703, 1000704]), (97, [1000705])]
def nd_548_0pi_0 (t : List (Int × Int)) : List (Int × Int) := ui0 :: ui755 :: (0, 6) :: (0, 6) :: ui49 :: ui49 :: ui49 :: ui49 :: t
def nd_548_0pi_1 (t : List (Int × Int)) : List (Int × Int) := ui49 :: ui49 :: ui49 :: ui49 :: ui49 :: ui438 :: ui52 :: t
def nd_548_0pg_0 (t : List zTg) : List zTg := uG1900 :: uG1894 :: uG1084 :: uG2130 :: (7, [uL208]) :: (250, [uL67, uL207, uL208]) :: t
def nd_548_0p : zS := ((nd_548_0pi_0 (nd_548_0pi_1 [])), [ur1331, ur1905, ur1885, ur2131], [uL2153, uL2154, (1287, [(14, (-1))])], [uV2, uV356], [], [uF2132, uF2133, uF2049, uF2134], (nd_548_0pg_0 []))
def nd_548_0 : zN := (11, nd_548_0p, ((-4000000000000), [(1, 100000032617), (14, (-640))]))
def ns_548 : List zN := [nd_548_0]
set_option maxRecDepth 1000000 in
theorem ca_548 : x_okA mLT1 cq_548 mTS2 mTC2 mRUp cx_548 cs_548 hs_548 ns_548 (1304960, []) 435 620 = true := by decide +kernel
set_option maxRecDepth 1000000 in
theorem cb_548_0 : x_okB mLT1 cq_548 mTS2 mTC2 mRUp cx_548 cs_548 hs_548 ns_548 (1304960, []) 435 620 nd_548_0 = true := by decide +kernel
set_option maxRecDepth 1000000 in
theorem cc_548 : x_okC mLT1 cq_548 mTS2 mTC2 mRUp cx_548 cs_548 hs_548 ns_548 (1304960, []) 435 620 = true := by decide +kernel
theorem ck_548 : x_ok mLT1 cq_548 mTS2 mTC2 mRUp cx_548 cs_548 hs_548 ns_548 (1304960, []) 435 620 = true := x_ok_of ca_548 (List.forall_mem_cons.mpr ⟨cb_548_0, fun _ h => absurd h List.not_mem_nil⟩) cc_548
theorem sn_548 {W : Bool} {X : List Int32} : y_Snd (mGw W) mLT1 (J2 W X) X cx_548 := y_ok J2_J mTS2_ok1 mTC2_ok1 mRUp_ok1 (List.forall_mem_cons.mpr ⟨sn_500, fun _ h => absurd h List.not_mem_nil⟩) ck_548
end
