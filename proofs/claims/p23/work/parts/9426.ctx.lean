noncomputable section
/-! ===== readings, by program, checked by the kernel ===== -/
def cx_557pi_0 (t : List (Int × Int)) : List (Int × Int) := ui0 :: ui49 :: (0, 1) :: ui49 :: (0, 1) :: ui440 :: (0, 6) :: (0, 6) :: t
def cx_557pi_1 (t : List (Int × Int)) : List (Int × Int) := ui49 :: ui49 :: t
def cx_557pg_0 (t : List zTg) : List zTg := uG2201 :: uG1978 :: uG2202 :: uG2203 :: uG1363 :: (260, [uL266, uL63, uL63, uL63, uL63, uL63, uL63, uL63, uL9, uL78, uL63]) :: t
def cx_557p : zS := ((cx_557pi_0 (cx_557pi_1 [])), [ur1414, ur1963, ur1463, ur1575, ur1576], [uL2186], [], [uV2, uV11], [uF2098, uF2204, uF2205, uF2206, uF1967, uF2207, uF2208, uF2209], (cx_557pg_0 []))
/-- M.splice -/
def cx_557 : zCtx := (243, cx_557p, [([ui0, ui49, (0, 1), ui49, (0, 1), ui440, (0, 6), (0, 6), ui49, ui49], [ur1414, ur1963, ur1463, ur1575, ur1576], [], [], [uV61], [], [uG1972, uG1973, uG1363])], [uk1974, uk1975, uk1976], 462, 2, 43)
set_option maxRecDepth 1000000 in
theorem ck_557 : x_ok mLT1 [cx_556, cx_518, cx_527] mTS2 mTC2 mRUp cx_557 [(1, [0]), (6, [1]), (14, [2])] [(4, uN2210), (29, uN2211), (31, [20, 85, 1000918, 1000919, 1000920, 1000832, 1000849, 1000921])] [] (17, []) 445 20 = true := by decide +kernel
theorem sn_557 {W : Bool} {X : List Int32} : y_Snd (mGw W) mLT1 (J2 W X) X cx_557 := y_ok J2_J mTS2_ok1 mTC2_ok1 mRUp_ok1 (List.forall_mem_cons.mpr ⟨sn_556, List.forall_mem_cons.mpr ⟨sn_518, List.forall_mem_cons.mpr ⟨sn_527, fun _ h => absurd h List.not_mem_nil⟩⟩⟩) ck_557
def cx_558pi_0 (t : List (Int × Int)) : List (Int × Int) := ui0 :: ui439 :: (0, 6) :: (0, 6) :: ui49 :: ui49 :: ui49 :: ui49 :: t
def cx_558pi_1 (t : List (Int × Int)) : List (Int × Int) := ui49 :: ui49 :: ui49 :: ui49 :: ui49 :: ui439 :: t
def cx_558pg_0 (t : List zTg) : List zTg := uG2201 :: uG1978 :: uG1972 :: uG1087 :: uG2212 :: (244, [uL67, uL207, uL9, uL63, (0, [(1, 33)])]) :: t
def cx_558p : zS := ((cx_558pi_0 (cx_558pi_1 [])), [ur1414, ur1983, ur1963, ur2213], [(39, [(1, (-1))])], [], [uV2], [uF2214, uF2215, uF2127, uF2216], (cx_558pg_0 []))
def cx_558q0 : zS := ((cx_558pi_0 (cx_558pi_1 [])), [ur1414, ur1983, ur1963, ur2213], [], [], [], [(0, (false, 53, 0, []), 0, 0, 1, [(1, 1)])], [uG1978, uG1979, uG2201, (12, [uL9]), uG794, (242, [uL67, uL207, uL109, uL63]), uG1977])
/-- M.records -/
def cx_558 : zCtx := (244, cx_558p, [cx_558q0], [uk2217, uk1980, uk2218], 1047, 1, 21)
def cq_558 : List zCtx := [cx_513]
def cs_558 : List (Nat × List Nat) := [(94, [0])]
def hs_558 : List (Nat × List Nat) := [(49, [401]), (83, [146, 1000703, 1000704]), (97, [1000705])]
def ns_558 : List zN := []
set_option maxRecDepth 1000000 in
theorem ca_558 : x_okA mLT1 cq_558 mTS2 mTC2 mRUp cx_558 cs_558 hs_558 ns_558 (612, []) 435 615 = true := by decide +kernel
set_option maxRecDepth 1000000 in
theorem cc_558 : x_okC mLT1 cq_558 mTS2 mTC2 mRUp cx_558 cs_558 hs_558 ns_558 (612, []) 435 615 = true := by decide +kernel
theorem ck_558 : x_ok mLT1 cq_558 mTS2 mTC2 mRUp cx_558 cs_558 hs_558 ns_558 (612, []) 435 615 = true := x_ok_of ca_558 (fun _ h => absurd h List.not_mem_nil) cc_558
theorem sn_558 {W : Bool} {X : List Int32} : y_Snd (mGw W) mLT1 (J2 W X) X cx_558 := y_ok J2_J mTS2_ok1 mTC2_ok1 mRUp_ok1 (List.forall_mem_cons.mpr ⟨sn_513, fun _ h => absurd h List.not_mem_nil⟩) ck_558
/-- M.ropeLong -/
def cx_559 : zCtx := (245, ([ui0, ui196, ui196, ui196, ui196, ui196, ui196], [ur1414, ur1963], [], [], [uV2], [uF1967, uF2219, uF2220, uF2221, uF2222, uF2223, uF2224], []), [([ui0, ui196, ui196, ui196, ui196, ui196, ui196], [ur1414, ur1963], [], [], [uV2225], [], [])], [], 30, 0, 0)
set_option maxRecDepth 1000000 in
theorem ck_559 : x_ok mLT1 [] mTS2 mTC2 mRUp cx_559 [] [] [] (30, []) 0 33 = true := by decide +kernel
theorem sn_559 {W : Bool} {X : List Int32} : y_Snd (mGw W) mLT1 (J2 W X) X cx_559 := y_ok J2_J mTS2_ok1 mTC2_ok1 mRUp_ok1 (fun _ h => absurd h List.not_mem_nil) ck_559
def cx_560pi_0 (t : List (Int × Int)) : List (Int × Int) := ui0 :: ui49 :: (0, 1) :: ui49 :: (0, 1) :: ui439 :: (0, 6) :: ui49 :: t
def cx_560pi_1 (t : List (Int × Int)) : List (Int × Int) := ui49 :: (0, 6) :: ui586 :: ui439 :: t
def cx_560pf_0 (t : List zFa) : List zFa := uF2098 :: uF2204 :: uF2205 :: uF2206 :: uF1967 :: uF2207 :: uF2208 :: uF2209 :: t
def cx_560pf_1 (t : List zFa) : List zFa := (0, (false, 54, 0, []), 2, 5, 0, []) :: (0, (false, 47, 0, []), 2, 6, 0, []) :: t
def cx_560pg_0 (t : List zTg) : List zTg := uG2201 :: uG1978 :: uG2202 :: uG2203 :: uG2226 :: uG2227 :: uG2228 :: uG2229 :: t
def cx_560pg_1 (t : List zTg) : List zTg := (244, [uL78, uL195, uL104, uL63, uL2230]) :: t
def cx_560p : zS := ((cx_560pi_0 (cx_560pi_1 [])), [ur1414, ur1963, ur1463, ur1575, ur1576, ur2213, ur1983], [uL2186, uL236, uL2231], [], [uV2, uV11], (cx_560pf_0 (cx_560pf_1 [])), (cx_560pg_0 (cx_560pg_1 [])))
/-- M.splice -/
def cx_560 : zCtx := (243, cx_560p, [([ui0, ui49, (0, 1), ui49, (0, 1), ui439, (0, 6), ui49, ui49, (0, 6), ui586, ui439], [ur1414, ur1963, ur1463, ur1575, ur1576, ur2213, ur1983], [], [], [uV828], [uF2232], [uG1978, uG1979, uG2201, uG2233, uG1972, uG1973, uG2234, (242, [uL78, uL195, uL205, uL63])])], [uk1974, uk1975, uk2217, uk1980, uk1976, uk2218], 1119, 2, 43)
set_option maxRecDepth 1000000 in
theorem ck_560 : x_ok mLT1 [cx_556, cx_518, cx_527, cx_525, cx_558, cx_559] mTS2 mTC2 mRUp cx_560 [(1, [0]), (6, [1]), (14, [2]), (56, [3]), (108, [4]), (112, [5])] [(4, uN2210), (29, uN2211), (31, [20, 85, 1000918, 1000919, 1000920, 1000832, 1000849, 1000921]), (46, [23]), (71, [1000637]), (107, [25, 1000922, 1000923]), (108, [1000924])] [] (72, []) 1047 75 = true := by decide +kernel
theorem sn_560 {W : Bool} {X : List Int32} : y_Snd (mGw W) mLT1 (J2 W X) X cx_560 := y_ok J2_J mTS2_ok1 mTC2_ok1 mRUp_ok1 (List.forall_mem_cons.mpr ⟨sn_556, List.forall_mem_cons.mpr ⟨sn_518, List.forall_mem_cons.mpr ⟨sn_527, List.forall_mem_cons.mpr ⟨sn_525, List.forall_mem_cons.mpr ⟨sn_558, List.forall_mem_cons.mpr ⟨sn_559, fun _ h => absurd h List.not_mem_nil⟩⟩⟩⟩⟩⟩) ck_560
def cx_561pi_0 (t : List (Int × Int)) : List (Int × Int) := ui0 :: ui758 :: (0, 6) :: (0, 6) :: ui49 :: ui49 :: ui49 :: ui49 :: t
def cx_561pi_1 (t : List (Int × Int)) : List (Int × Int) := ui49 :: ui49 :: ui49 :: ui49 :: ui49 :: ui439 :: t
def cx_561pg_0 (t : List zTg) : List zTg := uG2201 :: uG1978 :: uG1972 :: uG1087 :: uG2212 :: (244, [uL67, uL207, uL610, uL65, uL755]) :: t
def cx_561p : zS := ((cx_561pi_0 (cx_561pi_1 [])), [ur1414, ur1983, ur1963, ur2213], [uL2235, uL2236], [], [uV2], [uF2214, uF2215, uF2127, uF2216], (cx_561pg_0 []))
/-- M.records -/
def cx_561 : zCtx := (244, cx_561p, [([ui0, ui758, (0, 6), (0, 6), ui49, ui49, ui49, ui49, ui49, ui49, ui49, ui49, ui49, ui439], [ur1414, ur1983, ur1963, ur2213], [], [], [], [uF2237], [uG1978, uG1979, uG2201, uG2238, uG794, (242, [uL67, uL207, uL609, uL63]), uG1977])], [uk2217, uk1980, uk2218], 1305395, 1, 21)
def cq_561 : List zCtx := [cx_513]
def cs_561 : List (Nat × List Nat) := [(94, [0])]
def hs_561 : List (Nat × List Nat) := [(10, [26, 1000699]), (32, [1000700]), (33, [27, 1000701]), (39, [28, 1000702]), (49, [401]), (83, [146, 1000703, 1000704]), (97, [1000705])]
def nd_561_0pi_0 (t : List (Int × Int)) : List (Int × Int) := ui0 :: ui758 :: (0, 6) :: (0, 6) :: ui49 :: ui49 :: ui49 :: ui49 :: t
def nd_561_0pi_1 (t : List (Int × Int)) : List (Int × Int) := ui49 :: ui49 :: ui49 :: ui49 :: ui49 :: ui439 :: ui52 :: t
def nd_561_0pg_0 (t : List zTg) : List zTg := uG1978 :: uG1972 :: uG1087 :: uG2212 :: (7, [uL208]) :: (250, [uL67, uL207, uL208]) :: t
def nd_561_0p : zS := ((nd_561_0pi_0 (nd_561_0pi_1 [])), [ur1414, ur1983, ur1963, ur2213], [uL2235, uL2236, (1287, [(14, (-1))])], [uV2, uV356], [], [uF2214, uF2215, uF2127, uF2216], (nd_561_0pg_0 []))
def nd_561_0 : zN := (11, nd_561_0p, ((-4000000000000), [(1, 100000032617), (14, (-640))]))
def ns_561 : List zN := [nd_561_0]
set_option maxRecDepth 1000000 in
theorem ca_561 : x_okA mLT1 cq_561 mTS2 mTC2 mRUp cx_561 cs_561 hs_561 ns_561 (1304960, []) 435 620 = true := by decide +kernel
set_option maxRecDepth 1000000 in
theorem cb_561_0 : x_okB mLT1 cq_561 mTS2 mTC2 mRUp cx_561 cs_561 hs_561 ns_561 (1304960, []) 435 620 nd_561_0 = true := by decide +kernel
set_option maxRecDepth 1000000 in
theorem cc_561 : x_okC mLT1 cq_561 mTS2 mTC2 mRUp cx_561 cs_561 hs_561 ns_561 (1304960, []) 435 620 = true := by decide +kernel
theorem ck_561 : x_ok mLT1 cq_561 mTS2 mTC2 mRUp cx_561 cs_561 hs_561 ns_561 (1304960, []) 435 620 = true := x_ok_of ca_561 (List.forall_mem_cons.mpr ⟨cb_561_0, fun _ h => absurd h List.not_mem_nil⟩) cc_561
theorem sn_561 {W : Bool} {X : List Int32} : y_Snd (mGw W) mLT1 (J2 W X) X cx_561 := y_ok J2_J mTS2_ok1 mTC2_ok1 mRUp_ok1 (List.forall_mem_cons.mpr ⟨sn_513, fun _ h => absurd h List.not_mem_nil⟩) ck_561
end
