noncomputable section
/-! ===== readings, by program, checked by the kernel ===== -/
/-- M.restore -/
def cx_749 : zCtx := (309, ([ui0, ui440, (0, 1), (0, 1), (0, 1), (0, 6), (0, 6), ui49, ui49], [ur1414, ur1982, ur1983, ur2502], [], [], [uV2, uV389], [uF2214, uF2503, uF2504, uF2505, uF2506, uF2121, uF2507], [uG1978, uG2508, (249, [uL104, uL78, uL79, uL131, uL114])]), [([ui0, ui440, (0, 1), (0, 1), (0, 0), (0, 6), (0, 6), ui49, ui49], [ur1414, ur1982, ur1983, ur2502], [], [], [uV62], [uF2214, uF2504, uF2505, uF2506], [uG1978]), ([ui0, ui440, (0, 1), (0, 1), (1, 1), (0, 6), (0, 6), ui49, ui49], [ur1414, ur1982, ur1983, ur2502], [], [], [uV64], [uF2058, uF2504, uF2505, uF2506], [uG469, uG1978, uG1979, uG469])], [uk2217, uk1980], 590, 1, 22)
def cq_749 : List zCtx := [cx_517]
def cs_749 : List (Nat × List Nat) := [(3, [0])]
def hs_749 : List (Nat × List Nat) := [(20, [17]), (51, [3858, 1000710, 1000711, 1000712])]
def ns_749 : List zN := []
set_option maxRecDepth 1000000 in
theorem ca_749 : x_okA mLT1 cq_749 mTS2 mTC2 mRUp cx_749 cs_749 hs_749 ns_749 (581, []) 9 584 = true := by decide +kernel
set_option maxRecDepth 1000000 in
theorem cc_749 : x_okC mLT1 cq_749 mTS2 mTC2 mRUp cx_749 cs_749 hs_749 ns_749 (581, []) 9 584 = true := by decide +kernel
theorem ck_749 : x_ok mLT1 cq_749 mTS2 mTC2 mRUp cx_749 cs_749 hs_749 ns_749 (581, []) 9 584 = true := x_ok_of ca_749 (fun _ h => absurd h List.not_mem_nil) cc_749
theorem sn_749 {W : Bool} {X : List Int32} : y_Snd (mGw W) mLT1 (J2 W X) X cx_749 := y_ok J2_J mTS2_ok1 mTC2_ok1 mRUp_ok1 (List.forall_mem_cons.mpr ⟨sn_517, fun _ h => absurd h List.not_mem_nil⟩) ck_749
def cx_750pi_0 (t : List (Int × Int)) : List (Int × Int) := ui0 :: ui262 :: ui440 :: (0, 1) :: (0, 1) :: (0, 1) :: (0, 6) :: (0, 6) :: t
def cx_750pi_1 (t : List (Int × Int)) : List (Int × Int) := ui49 :: ui49 :: t
def cx_750p : zS := ((cx_750pi_0 (cx_750pi_1 [])), [ur1414, ur1982, ur1983, ur2502], [], [], [uV2, uV11], [uF2520, uF2503, uF2521, uF2522, uF2523, uF2121, uF2507], [uG1978, uG2508, uG1363])
/-- M.restore -/
def cx_750 : zCtx := (309, cx_750p, [([ui0, ui262, ui440, (0, 1), (0, 1), (0, 1), (0, 6), (0, 6), ui49, ui49], [ur1414, ur1982, ur1983, ur2502], [], [], [uV62], [uF2521, uF2522, uF2523], [uG1363])], [], 16, 1, 22)
set_option maxRecDepth 1000000 in
theorem ck_750 : x_ok mLT1 [cx_517] mTS2 mTC2 mRUp cx_750 [(3, [0])] [] [] (7, []) 9 10 = true := by decide +kernel
theorem sn_750 {W : Bool} {X : List Int32} : y_Snd (mGw W) mLT1 (J2 W X) X cx_750 := y_ok J2_J mTS2_ok1 mTC2_ok1 mRUp_ok1 (List.forall_mem_cons.mpr ⟨sn_517, fun _ h => absurd h List.not_mem_nil⟩) ck_750
/-- M.sumNow -/
def cx_751 : zCtx := (311, ([ui0], [ur1414], [], [], [uV2, uV62], [], []), [([ui0, ui49], [ur1414], [], [], [uV11], [], [])], [], 102, 0, 0)
set_option maxRecDepth 1000000 in
theorem ck_751 : x_ok mLT1 [] mTS2 mTC2 mRUp cx_751 [] [] [(4, ([(0, 3072), ((-2147483648), 2147483647), (0, 6)], [(12, false)], [], [(2, 0, 0, []), (0, 0, 0, []), (0, 0, 0, [(1, 1)]), (0, 0, 0, [(2, 1)])], [], [], []), (97, [(2, (-15))]))] (102, []) 0 17 = true := by decide +kernel
theorem sn_751 {W : Bool} {X : List Int32} : y_Snd (mGw W) mLT1 (J2 W X) X cx_751 := y_ok J2_J mTS2_ok1 mTC2_ok1 mRUp_ok1 (fun _ h => absurd h List.not_mem_nil) ck_751
/-- M.sumNow -/
def cx_752 : zCtx := (311, ([ui0], [ur1414], [], [], [uV2, (0, 0, 18, [])], [], []), [([ui0, ui49], [ur1414], [], [], [uV11], [], [])], [], 102, 0, 0)
set_option maxRecDepth 1000000 in
theorem ck_752 : x_ok mLT1 [] mTS2 mTC2 mRUp cx_752 [] [] [(4, ([(0, 3072), ((-2147483648), 2147483647), (18, 24)], [(12, false)], [], [(2, 0, 0, []), (0, 0, 18, []), (0, 0, 0, [(1, 1)]), (0, 0, 0, [(2, 1)])], [], [], []), (367, [(2, (-15))]))] (102, []) 0 17 = true := by decide +kernel
theorem sn_752 {W : Bool} {X : List Int32} : y_Snd (mGw W) mLT1 (J2 W X) X cx_752 := y_ok J2_J mTS2_ok1 mTC2_ok1 mRUp_ok1 (fun _ h => absurd h List.not_mem_nil) ck_752
/-- M.sumNow -/
def cx_753 : zCtx := (311, ([ui0], [ur1414], [], [], [uV2, (0, 0, 12, [])], [], []), [([ui0, ui49], [ur1414], [], [], [uV11], [], [])], [], 102, 0, 0)
set_option maxRecDepth 1000000 in
theorem ck_753 : x_ok mLT1 [] mTS2 mTC2 mRUp cx_753 [] [] [(4, ([(0, 3072), ((-2147483648), 2147483647), (12, 18)], [(12, false)], [], [(2, 0, 0, []), (0, 0, 12, []), (0, 0, 0, [(1, 1)]), (0, 0, 0, [(2, 1)])], [], [], []), (277, [(2, (-15))]))] (102, []) 0 17 = true := by decide +kernel
theorem sn_753 {W : Bool} {X : List Int32} : y_Snd (mGw W) mLT1 (J2 W X) X cx_753 := y_ok J2_J mTS2_ok1 mTC2_ok1 mRUp_ok1 (fun _ h => absurd h List.not_mem_nil) ck_753
/-- M.count -/
def cx_754 : zCtx := (310, ([ui0, ui49, ui52, (0, 1), ui49, (0, 1), ui440, ui48], [ur1414], [], [], [uV2, uV11], [uF150, uF2102, uF2103, uF2104, (0, (false, 53, 0, []), 0, 0, 0, [(6, 1)]), uF2497], []), [([ui0, ui1412, ui52, (0, 1), ui49, (0, 1), ui440, ui48, ui49, ui196], [ur1414], [], [], [uV144], [uF1970, uF2342], [uG1977, uG1973]), ([ui0, ui2525, ui52, (0, 1), ui49, (0, 1), ui440, ui48, ui196], [ur1414], [], [], [uV64], [uF1970, uF2338], [uG1977, uG1973]), ([ui0, ui2525, ui52, (0, 1), ui49, (0, 1), ui440, ui48, ui196], [ur1414], [], [], [uV62], [uF1970, uF2338], [uG1977, uG1973]), ([ui0, ui2526, ui52, (0, 1), ui49, (0, 1), ui440, ui48, ui196], [ur1414], [], [], [uV385], [uF1970, uF2338], [uG1977, uG1973]), ([ui0, ui2526, ui52, (0, 1), ui49, (0, 1), ui440, ui48, ui196], [ur1414], [], [], [uV389], [uF1970, uF2338], [uG1977, uG1973]), ([ui0, ui49, ui52, (0, 1), ui49, (0, 1), ui440, ui48, ui196], [ur1414], [], [], [uV61], [uF1970, uF2338], [uG1977, uG1973])], [uk1974, uk1975, uk1976], 877, 1, 23)
set_option maxRecDepth 1000000 in
theorem ck_754 : x_ok mLT1 [cx_521, cx_559, cx_751, cx_527, cx_752, cx_753] mTS2 mTC2 mRUp cx_754 [(1, [0]), (125, [1]), (139, [2]), (160, [3]), (241, [1]), (275, [4]), (320, [5])] [] [(145, ([(0, 3072), (7, 7), (0, 2000), (0, 1), ((-2147483648), 2147483647), (0, 1), (0, 40), (0, 20), (0, 63), (0, 6), (0, 9999)], [(12, false), (64, false), (77, false), (78, false)], [], [(2, 0, 0, []), (0, 0, 0, [(1, 1)]), (0, 0, 0, [(8, 1)]), (0, 0, 0, [(9, 1)])], [], [(0, (false, 50, 0, []), 0, 0, 0, []), (0, (false, 49, 0, []), 0, 0, 0, [(10, 1)]), (0, (false, 30, 0, []), 2, 1, 0, []), (0, (false, 47, 0, []), 2, 2, 0, []), (0, (false, 48, 0, []), 2, 3, 0, []), (0, (false, 2, 0, []), 0, 0, 0, [(2, 1)]), (0, (false, 18, 0, []), 0, 0, 0, [(3, 1)]), (0, (false, 53, 0, []), 0, 0, 0, [(6, 1)]), (0, (false, 63, 0, []), 0, 0, 0, [(7, 1)])], [(239, []), (11, [(0, [])])]), ((-300000000000), [(1, 42857142915), (9, (-63))])), (281, ([(0, 3072), (15, 15), (0, 2000), (0, 1), ((-2147483648), 2147483647), (0, 1), (0, 40), (0, 20), (0, 63), (0, 6), (0, 9999)], [(12, false), (64, false), (77, false), (78, false)], [], [(2, 0, 0, []), (0, 0, 0, [(1, 1)]), (0, 0, 0, [(8, 1)]), (0, 0, 0, [(9, 1)])], [], [(0, (false, 50, 0, []), 0, 0, 0, []), (0, (false, 49, 0, []), 0, 0, 0, [(10, 1)]), (0, (false, 30, 0, []), 2, 1, 0, []), (0, (false, 47, 0, []), 2, 2, 0, []), (0, (false, 48, 0, []), 2, 3, 0, []), (0, (false, 2, 0, []), 0, 0, 0, [(2, 1)]), (0, (false, 18, 0, []), 0, 0, 0, [(3, 1)]), (0, (false, 53, 0, []), 0, 0, 0, [(6, 1)]), (0, (false, 63, 0, []), 0, 0, 0, [(7, 1)])], [(239, []), (11, [(0, [])])]), ((-300000000000), [(1, 20000000027), (9, (-63))]))] (432, []) 445 33 = true := by decide +kernel
theorem sn_754 {W : Bool} {X : List Int32} : y_Snd (mGw W) mLT1 (J2 W X) X cx_754 := y_ok J2_J mTS2_ok1 mTC2_ok1 mRUp_ok1 (List.forall_mem_cons.mpr ⟨sn_521, List.forall_mem_cons.mpr ⟨sn_559, List.forall_mem_cons.mpr ⟨sn_751, List.forall_mem_cons.mpr ⟨sn_527, List.forall_mem_cons.mpr ⟨sn_752, List.forall_mem_cons.mpr ⟨sn_753, fun _ h => absurd h List.not_mem_nil⟩⟩⟩⟩⟩⟩) ck_754
end
