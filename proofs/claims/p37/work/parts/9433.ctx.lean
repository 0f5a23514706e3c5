noncomputable section
/-! ===== readings, by program, checked by the kernel ===== -/
/-- M.restore -/
def cx_732 : zCtx := (309, ([ui0, ui441, (0, 1), (0, 1), (0, 1), (0, 6), (0, 6), ui51, ui51], [ur1299, ur1877, ur1878, ur2361], [], [], [uV2, uV391], [uF2107, uF2362, uF2363, uF2364, uF2365, uF2018, uF2366], [uG1873, uG2367, (249, [uL106, uL80, uL81, uL133, uL116])]), [([ui0, ui441, (0, 1), (0, 1), (0, 0), (0, 6), (0, 6), ui51, ui51], [ur1299, ur1877, ur1878, ur2361], [], [], [uV64], [uF2107, uF2363, uF2364, uF2365], [uG1873]), ([ui0, ui441, (0, 1), (0, 1), (1, 1), (0, 6), (0, 6), ui51, ui51], [ur1299, ur1877, ur1878, ur2361], [], [], [uV66], [uF1955, uF2363, uF2364, uF2365], [uG470, uG1873, uG1874, uG470])], [uk2110, uk1875], 590, 1, 22)
def cq_732 : List zCtx := [cx_497]
def cs_732 : List (Nat × List Nat) := [(3, [0])]
def hs_732 : List (Nat × List Nat) := [(20, [17]), (51, [3858, 1000710, 1000711, 1000712])]
def ns_732 : List zN := []
set_option maxRecDepth 1000000 in
theorem ca_732 : x_okA mLT1 cq_732 mTS2 mTC2 mRUp cx_732 cs_732 hs_732 ns_732 (581, []) 9 584 = true := by decide +kernel
set_option maxRecDepth 1000000 in
theorem cc_732 : x_okC mLT1 cq_732 mTS2 mTC2 mRUp cx_732 cs_732 hs_732 ns_732 (581, []) 9 584 = true := by decide +kernel
theorem ck_732 : x_ok mLT1 cq_732 mTS2 mTC2 mRUp cx_732 cs_732 hs_732 ns_732 (581, []) 9 584 = true := x_ok_of ca_732 (fun _ h => absurd h List.not_mem_nil) cc_732
theorem sn_732 {W : Bool} {X : List Int32} : y_Snd (mGw W) mLT1 (J2 W X) X cx_732 := y_ok J2_J mTS2_ok1 mTC2_ok1 mRUp_ok1 (List.forall_mem_cons.mpr ⟨sn_497, fun _ h => absurd h List.not_mem_nil⟩) ck_732
def cx_733pi_0 (t : List (Int × Int)) : List (Int × Int) := ui0 :: ui265 :: ui441 :: (0, 1) :: (0, 1) :: (0, 1) :: (0, 6) :: (0, 6) :: t
def cx_733pi_1 (t : List (Int × Int)) : List (Int × Int) := ui51 :: ui51 :: t
def cx_733p : zS := ((cx_733pi_0 (cx_733pi_1 [])), [ur1299, ur1877, ur1878, ur2361], [], [], [uV2, uV11], [uF2379, uF2362, uF2380, uF2381, uF2382, uF2018, uF2366], [uG1873, uG2367, uG1249])
/-- M.restore -/
def cx_733 : zCtx := (309, cx_733p, [([ui0, ui265, ui441, (0, 1), (0, 1), (0, 1), (0, 6), (0, 6), ui51, ui51], [ur1299, ur1877, ur1878, ur2361], [], [], [uV64], [uF2380, uF2381, uF2382], [uG1249])], [], 16, 1, 22)
set_option maxRecDepth 1000000 in
theorem ck_733 : x_ok mLT1 [cx_497] mTS2 mTC2 mRUp cx_733 [(3, [0])] [] [] (7, []) 9 10 = true := by decide +kernel
theorem sn_733 {W : Bool} {X : List Int32} : y_Snd (mGw W) mLT1 (J2 W X) X cx_733 := y_ok J2_J mTS2_ok1 mTC2_ok1 mRUp_ok1 (List.forall_mem_cons.mpr ⟨sn_497, fun _ h => absurd h List.not_mem_nil⟩) ck_733
/-- M.sumNow -/
def cx_734 : zCtx := (311, ([ui0], [ur1299], [], [], [uV2, uV64], [], []), [([ui0, ui51], [ur1299], [], [], [uV11], [], [])], [], 102, 0, 0)
set_option maxRecDepth 1000000 in
theorem ck_734 : x_ok mLT1 [] mTS2 mTC2 mRUp cx_734 [] [] [(4, ([(0, 3072), ((-2147483648), 2147483647), (0, 6)], [(12, false)], [], [(2, 0, 0, []), (0, 0, 0, []), (0, 0, 0, [(1, 1)]), (0, 0, 0, [(2, 1)])], [], [], []), (97, [(2, (-15))]))] (102, []) 0 17 = true := by decide +kernel
theorem sn_734 {W : Bool} {X : List Int32} : y_Snd (mGw W) mLT1 (J2 W X) X cx_734 := y_ok J2_J mTS2_ok1 mTC2_ok1 mRUp_ok1 (fun _ h => absurd h List.not_mem_nil) ck_734
/-- M.sumNow -/
def cx_735 : zCtx := (311, ([ui0], [ur1299], [], [], [uV2, (0, 0, 18, [])], [], []), [([ui0, ui51], [ur1299], [], [], [uV11], [], [])], [], 102, 0, 0)
set_option maxRecDepth 1000000 in
theorem ck_735 : x_ok mLT1 [] mTS2 mTC2 mRUp cx_735 [] [] [(4, ([(0, 3072), ((-2147483648), 2147483647), (18, 24)], [(12, false)], [], [(2, 0, 0, []), (0, 0, 18, []), (0, 0, 0, [(1, 1)]), (0, 0, 0, [(2, 1)])], [], [], []), (367, [(2, (-15))]))] (102, []) 0 17 = true := by decide +kernel
theorem sn_735 {W : Bool} {X : List Int32} : y_Snd (mGw W) mLT1 (J2 W X) X cx_735 := y_ok J2_J mTS2_ok1 mTC2_ok1 mRUp_ok1 (fun _ h => absurd h List.not_mem_nil) ck_735
/-- M.sumNow -/
def cx_736 : zCtx := (311, ([ui0], [ur1299], [], [], [uV2, (0, 0, 12, [])], [], []), [([ui0, ui51], [ur1299], [], [], [uV11], [], [])], [], 102, 0, 0)
set_option maxRecDepth 1000000 in
theorem ck_736 : x_ok mLT1 [] mTS2 mTC2 mRUp cx_736 [] [] [(4, ([(0, 3072), ((-2147483648), 2147483647), (12, 18)], [(12, false)], [], [(2, 0, 0, []), (0, 0, 12, []), (0, 0, 0, [(1, 1)]), (0, 0, 0, [(2, 1)])], [], [], []), (277, [(2, (-15))]))] (102, []) 0 17 = true := by decide +kernel
theorem sn_736 {W : Bool} {X : List Int32} : y_Snd (mGw W) mLT1 (J2 W X) X cx_736 := y_ok J2_J mTS2_ok1 mTC2_ok1 mRUp_ok1 (fun _ h => absurd h List.not_mem_nil) ck_736
/-- M.count -/
def cx_737 : zCtx := (310, ([ui0, ui51, ui54, (0, 1), ui51, (0, 1), ui441, ui50], [ur1299], [], [], [uV2, uV11], [uF152, uF1999, uF2000, uF2001, (0, (false, 53, 0, []), 0, 0, 0, [(6, 1)]), uF2319], []), [([ui0, ui1297, ui54, (0, 1), ui51, (0, 1), ui441, ui50, ui51, ui199], [ur1299], [], [], [uV146], [uF1865, uF2235], [uG1872, uG1868]), ([ui0, ui2384, ui54, (0, 1), ui51, (0, 1), ui441, ui50, ui199], [ur1299], [], [], [uV66], [uF1865, uF2231], [uG1872, uG1868]), ([ui0, ui2384, ui54, (0, 1), ui51, (0, 1), ui441, ui50, ui199], [ur1299], [], [], [uV64], [uF1865, uF2231], [uG1872, uG1868]), ([ui0, ui2385, ui54, (0, 1), ui51, (0, 1), ui441, ui50, ui199], [ur1299], [], [], [uV387], [uF1865, uF2231], [uG1872, uG1868]), ([ui0, ui2385, ui54, (0, 1), ui51, (0, 1), ui441, ui50, ui199], [ur1299], [], [], [uV391], [uF1865, uF2231], [uG1872, uG1868]), ([ui0, ui51, ui54, (0, 1), ui51, (0, 1), ui441, ui50, ui199], [ur1299], [], [], [uV63], [uF1865, uF2231], [uG1872, uG1868])], [uk1869, uk1870, uk1871], 877, 1, 23)
set_option maxRecDepth 1000000 in
theorem ck_737 : x_ok mLT1 [cx_501, cx_539, cx_734, cx_507, cx_735, cx_736] mTS2 mTC2 mRUp cx_737 [(1, [0]), (125, [1]), (139, [2]), (160, [3]), (241, [1]), (275, [4]), (320, [5])] [] [(145, ([(0, 3072), (7, 7), (0, 2000), (0, 1), ((-2147483648), 2147483647), (0, 1), (0, 40), (0, 20), (0, 63), (0, 6), (0, 9999)], [(12, false), (64, false), (77, false), (78, false)], [], [(2, 0, 0, []), (0, 0, 0, [(1, 1)]), (0, 0, 0, [(8, 1)]), (0, 0, 0, [(9, 1)])], [], [(0, (false, 50, 0, []), 0, 0, 0, []), (0, (false, 49, 0, []), 0, 0, 0, [(10, 1)]), (0, (false, 30, 0, []), 2, 1, 0, []), (0, (false, 47, 0, []), 2, 2, 0, []), (0, (false, 48, 0, []), 2, 3, 0, []), (0, (false, 2, 0, []), 0, 0, 0, [(2, 1)]), (0, (false, 18, 0, []), 0, 0, 0, [(3, 1)]), (0, (false, 53, 0, []), 0, 0, 0, [(6, 1)]), (0, (false, 63, 0, []), 0, 0, 0, [(7, 1)])], [(239, []), (11, [(0, [])])]), ((-300000000000), [(1, 42857142915), (9, (-63))])), (281, ([(0, 3072), (15, 15), (0, 2000), (0, 1), ((-2147483648), 2147483647), (0, 1), (0, 40), (0, 20), (0, 63), (0, 6), (0, 9999)], [(12, false), (64, false), (77, false), (78, false)], [], [(2, 0, 0, []), (0, 0, 0, [(1, 1)]), (0, 0, 0, [(8, 1)]), (0, 0, 0, [(9, 1)])], [], [(0, (false, 50, 0, []), 0, 0, 0, []), (0, (false, 49, 0, []), 0, 0, 0, [(10, 1)]), (0, (false, 30, 0, []), 2, 1, 0, []), (0, (false, 47, 0, []), 2, 2, 0, []), (0, (false, 48, 0, []), 2, 3, 0, []), (0, (false, 2, 0, []), 0, 0, 0, [(2, 1)]), (0, (false, 18, 0, []), 0, 0, 0, [(3, 1)]), (0, (false, 53, 0, []), 0, 0, 0, [(6, 1)]), (0, (false, 63, 0, []), 0, 0, 0, [(7, 1)])], [(239, []), (11, [(0, [])])]), ((-300000000000), [(1, 20000000027), (9, (-63))]))] (432, []) 445 33 = true := by decide +kernel
theorem sn_737 {W : Bool} {X : List Int32} : y_Snd (mGw W) mLT1 (J2 W X) X cx_737 := y_ok J2_J mTS2_ok1 mTC2_ok1 mRUp_ok1 (List.forall_mem_cons.mpr ⟨sn_501, List.forall_mem_cons.mpr ⟨sn_539, List.forall_mem_cons.mpr ⟨sn_734, List.forall_mem_cons.mpr ⟨sn_507, List.forall_mem_cons.mpr ⟨sn_735, List.forall_mem_cons.mpr ⟨sn_736, fun _ h => absurd h List.not_mem_nil⟩⟩⟩⟩⟩⟩) ck_737
end
