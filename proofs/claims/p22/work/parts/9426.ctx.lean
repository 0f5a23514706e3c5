noncomputable section
/-! ===== readings, by program, checked by the kernel ===== -/
def cx_554pi_0 (t : List (Int × Int)) : List (Int × Int) := ui0 :: ui49 :: (0, 1) :: ui49 :: (0, 1) :: ui438 :: (0, 6) :: (0, 6) :: t
def cx_554pi_1 (t : List (Int × Int)) : List (Int × Int) := ui49 :: ui49 :: t
def cx_554pg_0 (t : List zTg) : List zTg := uG2260 :: uG2042 :: uG2261 :: uG2262 :: uG1390 :: (260, [uL264, uL63, uL63, uL63, uL63, uL63, uL63, uL63, uL9, uL78, uL63]) :: t
def cx_554p : zS := ((cx_554pi_0 (cx_554pi_1 [])), [ur1474, ur2027, ur1523, ur1635, ur1636], [uL2250], [], [uV2, uV11], [uF2162, uF2263, uF2264, uF2265, uF2031, uF2266, uF2267, uF2268], (cx_554pg_0 []))
/-- M.splice -/
def cx_554 : zCtx := (243, cx_554p, [([ui0, ui49, (0, 1), ui49, (0, 1), ui438, (0, 6), (0, 6), ui49, ui49], [ur1474, ur2027, ur1523, ur1635, ur1636], [], [], [uV61], [], [uG2036, uG2037, uG1390])], [uk2038, uk2039, uk2040], 462, 2, 43)
set_option maxRecDepth 1000000 in
theorem ck_554 : x_ok mLT1 [cx_553, cx_515, cx_524] mTS2 mTC2 mRUp cx_554 [(1, [0]), (6, [1]), (14, [2])] [(4, uN2269), (29, uN2270), (31, [20, 85, 1000921, 1000922, 1000923, 1000840, 1000857, 1000924])] [] (17, []) 445 20 = true := by decide +kernel
theorem sn_554 {W : Bool} {X : List Int32} : y_Snd (mGw W) mLT1 (J2 W X) X cx_554 := y_ok J2_J mTS2_ok1 mTC2_ok1 mRUp_ok1 (List.forall_mem_cons.mpr ⟨sn_553, List.forall_mem_cons.mpr ⟨sn_515, List.forall_mem_cons.mpr ⟨sn_524, fun _ h => absurd h List.not_mem_nil⟩⟩⟩) ck_554
def cx_555pi_0 (t : List (Int × Int)) : List (Int × Int) := ui0 :: ui437 :: (0, 6) :: (0, 6) :: ui49 :: ui49 :: ui49 :: ui49 :: t
def cx_555pi_1 (t : List (Int × Int)) : List (Int × Int) := ui49 :: ui49 :: ui49 :: ui49 :: ui49 :: ui437 :: t
def cx_555pg_0 (t : List zTg) : List zTg := uG2260 :: uG2042 :: uG2036 :: uG1117 :: uG2271 :: (244, [uL67, uL205, uL9, uL63, (0, [(1, 33)])]) :: t
def cx_555p : zS := ((cx_555pi_0 (cx_555pi_1 [])), [ur1474, ur2047, ur2027, ur2272], [(39, [(1, (-1))])], [], [uV2], [uF2273, uF2274, uF2191, uF2275], (cx_555pg_0 []))
def cx_555q0 : zS := ((cx_555pi_0 (cx_555pi_1 [])), [ur1474, ur2047, ur2027, ur2272], [], [], [], [(0, (false, 53, 0, []), 0, 0, 1, [(1, 1)])], [uG2042, uG2043, uG2260, (12, [uL9]), uG812, (242, [uL67, uL205, uL109, uL63]), uG2041])
/-- M.records -/
def cx_555 : zCtx := (244, cx_555p, [cx_555q0], [uk2276, uk2044, uk2277], 1047, 1, 21)
def cq_555 : List zCtx := [cx_510]
def cs_555 : List (Nat × List Nat) := [(94, [0])]
def hs_555 : List (Nat × List Nat) := [(49, [401]), (83, [146, 1000703, 1000704]), (97, [1000705])]
def ns_555 : List zN := []
set_option maxRecDepth 1000000 in
theorem ca_555 : x_okA mLT1 cq_555 mTS2 mTC2 mRUp cx_555 cs_555 hs_555 ns_555 (612, []) 435 615 = true := by decide +kernel
set_option maxRecDepth 1000000 in
theorem cc_555 : x_okC mLT1 cq_555 mTS2 mTC2 mRUp cx_555 cs_555 hs_555 ns_555 (612, []) 435 615 = true := by decide +kernel
theorem ck_555 : x_ok mLT1 cq_555 mTS2 mTC2 mRUp cx_555 cs_555 hs_555 ns_555 (612, []) 435 615 = true := x_ok_of ca_555 (fun _ h => absurd h List.not_mem_nil) cc_555
theorem sn_555 {W : Bool} {X : List Int32} : y_Snd (mGw W) mLT1 (J2 W X) X cx_555 := y_ok J2_J mTS2_ok1 mTC2_ok1 mRUp_ok1 (List.forall_mem_cons.mpr ⟨sn_510, fun _ h => absurd h List.not_mem_nil⟩) ck_555
/-- M.ropeLong -/
def cx_556 : zCtx := (245, ([ui0, ui194, ui194, ui194, ui194, ui194, ui194], [ur1474, ur2027], [], [], [uV2], [uF2031, uF2278, uF2279, uF2280, uF2281, uF2282, uF2283], []), [([ui0, ui194, ui194, ui194, ui194, ui194, ui194], [ur1474, ur2027], [], [], [uV2284], [], [])], [], 30, 0, 0)
set_option maxRecDepth 1000000 in
theorem ck_556 : x_ok mLT1 [] mTS2 mTC2 mRUp cx_556 [] [] [] (30, []) 0 33 = true := by decide +kernel
theorem sn_556 {W : Bool} {X : List Int32} : y_Snd (mGw W) mLT1 (J2 W X) X cx_556 := y_ok J2_J mTS2_ok1 mTC2_ok1 mRUp_ok1 (fun _ h => absurd h List.not_mem_nil) ck_556
def cx_557pi_0 (t : List (Int × Int)) : List (Int × Int) := ui0 :: ui49 :: (0, 1) :: ui49 :: (0, 1) :: ui437 :: (0, 6) :: ui49 :: t
def cx_557pi_1 (t : List (Int × Int)) : List (Int × Int) := ui49 :: (0, 6) :: ui600 :: ui437 :: t
def cx_557pf_0 (t : List zFa) : List zFa := uF2162 :: uF2263 :: uF2264 :: uF2265 :: uF2031 :: uF2266 :: uF2267 :: uF2268 :: t
def cx_557pf_1 (t : List zFa) : List zFa := (0, (false, 54, 0, []), 2, 5, 0, []) :: (0, (false, 47, 0, []), 2, 6, 0, []) :: t
def cx_557pg_0 (t : List zTg) : List zTg := uG2260 :: uG2042 :: uG2261 :: uG2262 :: uG2285 :: uG2286 :: uG2287 :: uG2288 :: t
def cx_557pg_1 (t : List zTg) : List zTg := (244, [uL78, uL193, uL104, uL63, uL2289]) :: t
def cx_557p : zS := ((cx_557pi_0 (cx_557pi_1 [])), [ur1474, ur2027, ur1523, ur1635, ur1636, ur2272, ur2047], [uL2250, uL234, uL2290], [], [uV2, uV11], (cx_557pf_0 (cx_557pf_1 [])), (cx_557pg_0 (cx_557pg_1 [])))
/-- M.splice -/
def cx_557 : zCtx := (243, cx_557p, [([ui0, ui49, (0, 1), ui49, (0, 1), ui437, (0, 6), ui49, ui49, (0, 6), ui600, ui437], [ur1474, ur2027, ur1523, ur1635, ur1636, ur2272, ur2047], [], [], [uV854], [uF2291], [uG2042, uG2043, uG2260, uG2292, uG2036, uG2037, uG2293, (242, [uL78, uL193, uL203, uL63])])], [uk2038, uk2039, uk2276, uk2044, uk2040, uk2277], 1119, 2, 43)
set_option maxRecDepth 1000000 in
theorem ck_557 : x_ok mLT1 [cx_553, cx_515, cx_524, cx_522, cx_555, cx_556] mTS2 mTC2 mRUp cx_557 [(1, [0]), (6, [1]), (14, [2]), (56, [3]), (108, [4]), (112, [5])] [(4, uN2269), (29, uN2270), (31, [20, 85, 1000921, 1000922, 1000923, 1000840, 1000857, 1000924]), (46, [23]), (71, [1000637]), (107, [25, 1000925, 1000926]), (108, [1000927])] [] (72, []) 1047 75 = true := by decide +kernel
theorem sn_557 {W : Bool} {X : List Int32} : y_Snd (mGw W) mLT1 (J2 W X) X cx_557 := y_ok J2_J mTS2_ok1 mTC2_ok1 mRUp_ok1 (List.forall_mem_cons.mpr ⟨sn_553, List.forall_mem_cons.mpr ⟨sn_515, List.forall_mem_cons.mpr ⟨sn_524, List.forall_mem_cons.mpr ⟨sn_522, List.forall_mem_cons.mpr ⟨sn_555, List.forall_mem_cons.mpr ⟨sn_556, fun _ h => absurd h List.not_mem_nil⟩⟩⟩⟩⟩⟩) ck_557
def cx_558pi_0 (t : List (Int × Int)) : List (Int × Int) := ui0 :: ui776 :: (0, 6) :: (0, 6) :: ui49 :: ui49 :: ui49 :: ui49 :: t
def cx_558pi_1 (t : List (Int × Int)) : List (Int × Int) := ui49 :: ui49 :: ui49 :: ui49 :: ui49 :: ui437 :: t
def cx_558pg_0 (t : List zTg) : List zTg := uG2260 :: uG2042 :: uG2036 :: uG1117 :: uG2271 :: (244, [uL67, uL205, uL625, uL65, uL773]) :: t
def cx_558p : zS := ((cx_558pi_0 (cx_558pi_1 [])), [ur1474, ur2047, ur2027, ur2272], [uL2294, uL2295], [], [uV2], [uF2273, uF2274, uF2191, uF2275], (cx_558pg_0 []))
/-- M.records -/
def cx_558 : zCtx := (244, cx_558p, [([ui0, ui776, (0, 6), (0, 6), ui49, ui49, ui49, ui49, ui49, ui49, ui49, ui49, ui49, ui437], [ur1474, ur2047, ur2027, ur2272], [], [], [], [uF2296], [uG2042, uG2043, uG2260, uG2297, uG812, (242, [uL67, uL205, uL624, uL63]), uG2041])], [uk2276, uk2044, uk2277], 1305395, 1, 21)
def cq_558 : List zCtx := [cx_510]
def cs_558 : List (Nat × List Nat) := [(94, [0])]
def hs_558 : List (Nat × List Nat) := [(10, [26, 1000699]), (32, [1000700]), (33, [27, 1000701]), (39, [28, 1000702]), (49, [401]), (83, [146, 1000703, 1000704]), (97, [1000705])]
def nd_558_0pi_0 (t : List (Int × Int)) : List (Int × Int) := ui0 :: ui776 :: (0, 6) :: (0, 6) :: ui49 :: ui49 :: ui49 :: ui49 :: t
def nd_558_0pi_1 (t : List (Int × Int)) : List (Int × Int) := ui49 :: ui49 :: ui49 :: ui49 :: ui49 :: ui437 :: ui52 :: t
def nd_558_0pg_0 (t : List zTg) : List zTg := uG2042 :: uG2036 :: uG1117 :: uG2271 :: (7, [uL206]) :: (250, [uL67, uL205, uL206]) :: t
def nd_558_0p : zS := ((nd_558_0pi_0 (nd_558_0pi_1 [])), [ur1474, ur2047, ur2027, ur2272], [uL2294, uL2295, (1287, [(14, (-1))])], [uV2, uV355], [], [uF2273, uF2274, uF2191, uF2275], (nd_558_0pg_0 []))
def nd_558_0 : zN := (11, nd_558_0p, ((-4000000000000), [(1, 100000032617), (14, (-640))]))
def ns_558 : List zN := [nd_558_0]
set_option maxRecDepth 1000000 in
theorem ca_558 : x_okA mLT1 cq_558 mTS2 mTC2 mRUp cx_558 cs_558 hs_558 ns_558 (1304960, []) 435 620 = true := by decide +kernel
set_option maxRecDepth 1000000 in
theorem cb_558_0 : x_okB mLT1 cq_558 mTS2 mTC2 mRUp cx_558 cs_558 hs_558 ns_558 (1304960, []) 435 620 nd_558_0 = true := by decide +kernel
set_option maxRecDepth 1000000 in
theorem cc_558 : x_okC mLT1 cq_558 mTS2 mTC2 mRUp cx_558 cs_558 hs_558 ns_558 (1304960, []) 435 620 = true := by decide +kernel
theorem ck_558 : x_ok mLT1 cq_558 mTS2 mTC2 mRUp cx_558 cs_558 hs_558 ns_558 (1304960, []) 435 620 = true := x_ok_of ca_558 (List.forall_mem_cons.mpr ⟨cb_558_0, fun _ h => absurd h List.not_mem_nil⟩) cc_558
theorem sn_558 {W : Bool} {X : List Int32} : y_Snd (mGw W) mLT1 (J2 W X) X cx_558 := y_ok J2_J mTS2_ok1 mTC2_ok1 mRUp_ok1 (List.forall_mem_cons.mpr ⟨sn_510, fun _ h => absurd h List.not_mem_nil⟩) ck_558
end
