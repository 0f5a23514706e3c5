noncomputable section
/-! ===== readings, by program, checked by the kernel ===== -/
def cx_746pi_0 (t : List (Int × Int)) : List (Int × Int) := ui0 :: ui262 :: ui439 :: (0, 1) :: (0, 1) :: (0, 1) :: (0, 6) :: (0, 6) :: t
def cx_746pi_1 (t : List (Int × Int)) : List (Int × Int) := ui49 :: ui49 :: t
def cx_746p : zS := ((cx_746pi_0 (cx_746pi_1 [])), [ur1331, ur1904, ur1905, ur2380], [], [], [uV2, uV11], [uF2398, uF2381, uF2399, uF2400, uF2401, uF2043, uF2385], [uG1900, uG2386, uG1280])
/-- M.restore -/
def cx_746 : zCtx := (309, cx_746p, [([ui0, ui262, ui439, (0, 1), (0, 1), (0, 1), (0, 6), (0, 6), ui49, ui49], [ur1331, ur1904, ur1905, ur2380], [], [], [uV62], [uF2399, uF2400, uF2401], [uG1280])], [], 16, 1, 22)
set_option maxRecDepth 1000000 in
theorem ck_746 : x_ok mLT1 [cx_504] mTS2 mTC2 mRUp cx_746 [(3, [0])] [] [] (7, []) 9 10 = true := by decide +kernel
theorem sn_746 {W : Bool} {X : List Int32} : y_Snd (mGw W) mLT1 (J2 W X) X cx_746 := y_ok J2_J mTS2_ok1 mTC2_ok1 mRUp_ok1 (List.forall_mem_cons.mpr ⟨sn_504, fun _ h => absurd h List.not_mem_nil⟩) ck_746
/-- M.sumNow -/
def cx_747 : zCtx := (311, ([ui0], [ur1331], [], [], [uV2, uV62], [], []), [([ui0, ui49], [ur1331], [], [], [uV11], [], [])], [], 102, 0, 0)
set_option maxRecDepth 1000000 in
theorem ck_747 : x_ok mLT1 [] mTS2 mTC2 mRUp cx_747 [] [] [(4, ([(0, 3072), ((-2147483648), 2147483647), (0, 6)], [(12, false)], [], [(2, 0, 0, []), (0, 0, 0, []), (0, 0, 0, [(1, 1)]), (0, 0, 0, [(2, 1)])], [], [], []), (97, [(2, (-15))]))] (102, []) 0 17 = true := by decide +kernel
theorem sn_747 {W : Bool} {X : List Int32} : y_Snd (mGw W) mLT1 (J2 W X) X cx_747 := y_ok J2_J mTS2_ok1 mTC2_ok1 mRUp_ok1 (fun _ h => absurd h List.not_mem_nil) ck_747
/-- M.sumNow -/
def cx_748 : zCtx := (311, ([ui0], [ur1331], [], [], [uV2, (0, 0, 18, [])], [], []), [([ui0, ui49], [ur1331], [], [], [uV11], [], [])], [], 102, 0, 0)
set_option maxRecDepth 1000000 in
theorem ck_748 : x_ok mLT1 [] mTS2 mTC2 mRUp cx_748 [] [] [(4, ([(0, 3072), ((-2147483648), 2147483647), (18, 24)], [(12, false)], [], [(2, 0, 0, []), (0, 0, 18, []), (0, 0, 0, [(1, 1)]), (0, 0, 0, [(2, 1)])], [], [], []), (367, [(2, (-15))]))] (102, []) 0 17 = true := by decide +kernel
theorem sn_748 {W : Bool} {X : List Int32} : y_Snd (mGw W) mLT1 (J2 W X) X cx_748 := y_ok J2_J mTS2_ok1 mTC2_ok1 mRUp_ok1 (fun _ h => absurd h List.not_mem_nil) ck_748
/-- M.sumNow -/
def cx_749 : zCtx := (311, ([ui0], [ur1331], [], [], [uV2, (0, 0, 12, [])], [], []), [([ui0, ui49], [ur1331], [], [], [uV11], [], [])], [], 102, 0, 0)
set_option maxRecDepth 1000000 in
theorem ck_749 : x_ok mLT1 [] mTS2 mTC2 mRUp cx_749 [] [] [(4, ([(0, 3072), ((-2147483648), 2147483647), (12, 18)], [(12, false)], [], [(2, 0, 0, []), (0, 0, 12, []), (0, 0, 0, [(1, 1)]), (0, 0, 0, [(2, 1)])], [], [], []), (277, [(2, (-15))]))] (102, []) 0 17 = true := by decide +kernel
theorem sn_749 {W : Bool} {X : List Int32} : y_Snd (mGw W) mLT1 (J2 W X) X cx_749 := y_ok J2_J mTS2_ok1 mTC2_ok1 mRUp_ok1 (fun _ h => absurd h List.not_mem_nil) ck_749
/-- M.count -/
def cx_750 : zCtx := (310, ([ui0, ui49, ui52, (0, 1), ui49, (0, 1), ui439, ui48], [ur1331], [], [], [uV2, uV11], [uF150, uF2024, uF2025, uF2026, (0, (false, 53, 0, []), 0, 0, 0, [(6, 1)]), uF2375], []), [([ui0, ui1329, ui52, (0, 1), ui49, (0, 1), ui439, ui48, ui49, ui196], [ur1331], [], [], [uV144], [uF1892, uF2261], [uG1899, uG1895]), ([ui0, ui2403, ui52, (0, 1), ui49, (0, 1), ui439, ui48, ui196], [ur1331], [], [], [uV64], [uF1892, uF2257], [uG1899, uG1895]), ([ui0, ui2403, ui52, (0, 1), ui49, (0, 1), ui439, ui48, ui196], [ur1331], [], [], [uV62], [uF1892, uF2257], [uG1899, uG1895]), ([ui0, ui2404, ui52, (0, 1), ui49, (0, 1), ui439, ui48, ui196], [ur1331], [], [], [uV385], [uF1892, uF2257], [uG1899, uG1895]), ([ui0, ui2404, ui52, (0, 1), ui49, (0, 1), ui439, ui48, ui196], [ur1331], [], [], [uV389], [uF1892, uF2257], [uG1899, uG1895]), ([ui0, ui49, ui52, (0, 1), ui49, (0, 1), ui439, ui48, ui196], [ur1331], [], [], [uV61], [uF1892, uF2257], [uG1899, uG1895])], [uk1896, uk1897, uk1898], 877, 1, 23)
set_option maxRecDepth 1000000 in
theorem ck_750 : x_ok mLT1 [cx_508, cx_546, cx_747, cx_514, cx_748, cx_749] mTS2 mTC2 mRUp cx_750 [(1, [0]), (125, [1]), (139, [2]), (160, [3]), (241, [1]), (275, [4]), (320, [5])] [] [(145, ([(0, 3072), (7, 7), (0, 2000), (0, 1), ((-2147483648), 2147483647), (0, 1), (0, 40), (0, 20), (0, 63), (0, 6), (0, 9999)], [(12, false), (64, false), (77, false), (78, false)], [], [(2, 0, 0, []), (0, 0, 0, [(1, 1)]), (0, 0, 0, [(8, 1)]), (0, 0, 0, [(9, 1)])], [], [(0, (false, 50, 0, []), 0, 0, 0, []), (0, (false, 49, 0, []), 0, 0, 0, [(10, 1)]), (0, (false, 30, 0, []), 2, 1, 0, []), (0, (false, 47, 0, []), 2, 2, 0, []), (0, (false, 48, 0, []), 2, 3, 0, []), (0, (false, 2, 0, []), 0, 0, 0, [(2, 1)]), (0, (false, 18, 0, []), 0, 0, 0, [(3, 1)]), (0, (false, 53, 0, []), 0, 0, 0, [(6, 1)]), (0, (false, 63, 0, []), 0, 0, 0, [(7, 1)])], [(239, []), (11, [(0, [])])]), ((-300000000000), [(1, 42857142915), (9, (-63))])), (281, ([(0, 3072), (15, 15), (0, 2000), (0, 1), ((-2147483648), 2147483647), (0, 1), (0, 40), (0, 20), (0, 63), (0, 6), (0, 9999)], [(12, false), (64, false), (77, false), (78, false)], [], [(2, 0, 0, []), (0, 0, 0, [(1, 1)]), (0, 0, 0, [(8, 1)]), (0, 0, 0, [(9, 1)])], [], [(0, (false, 50, 0, []), 0, 0, 0, []), (0, (false, 49, 0, []), 0, 0, 0, [(10, 1)]), (0, (false, 30, 0, []), 2, 1, 0, []), (0, (false, 47, 0, []), 2, 2, 0, []), (0, (false, 48, 0, []), 2, 3, 0, []), (0, (false, 2, 0, []), 0, 0, 0, [(2, 1)]), (0, (false, 18, 0, []), 0, 0, 0, [(3, 1)]), (0, (false, 53, 0, []), 0, 0, 0, [(6, 1)]), (0, (false, 63, 0, []), 0, 0, 0, [(7, 1)])], [(239, []), (11, [(0, [])])]), ((-300000000000), [(1, 20000000027), (9, (-63))]))] (432, []) 445 33 = true := by decide +kernel
theorem sn_750 {W : Bool} {X : List Int32} : y_Snd (mGw W) mLT1 (J2 W X) X cx_750 := y_ok J2_J mTS2_ok1 mTC2_ok1 mRUp_ok1 (List.forall_mem_cons.mpr ⟨sn_508, List.forall_mem_cons.mpr ⟨sn_546, List.forall_mem_cons.mpr ⟨sn_747, List.forall_mem_cons.mpr ⟨sn_514, List.forall_mem_cons.mpr ⟨sn_748, List.forall_mem_cons.mpr ⟨sn_749, fun _ h => absurd h List.not_mem_nil⟩⟩⟩⟩⟩⟩) ck_750
end
