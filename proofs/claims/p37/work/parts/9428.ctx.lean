noncomputable section
/-! ===== readings, by program, checked by the kernel ===== -/
/-- M.isHouse -/
def cx_612 : zCtx := (222, ([ui0, ui51, (0, 1)], [ur1299], [], [], [uV2, uV11], [uF1995], []), [([ui0, ui265, (0, 1)], [ur1299], [], [], [uV64], [], []), ([ui0, ui512, (0, 1)], [ur1299], [], [], [uV64], [], []), ([ui0, (0, 5), (0, 1)], [ur1299], [], [], [uV66], [], [])], [], 20, 1, 22)
set_option maxRecDepth 1000000 in
theorem ck_612 : x_ok mLT1 [cx_497] mTS2 mTC2 mRUp cx_612 [(13, [0])] [(16, uN1998)] [] (11, []) 9 14 = true := by decide +kernel
theorem sn_612 {W : Bool} {X : List Int32} : y_Snd (mGw W) mLT1 (J2 W X) X cx_612 := y_ok J2_J mTS2_ok1 mTC2_ok1 mRUp_ok1 (List.forall_mem_cons.mpr ⟨sn_497, fun _ h => absurd h List.not_mem_nil⟩) ck_612
/-- M.areTwo -/
def cx_613 : zCtx := (237, ([ui0, (0, 5), (0, 5), (0, 1)], [ur1299], [], [], [uV2, uV11, uV12], [uF1999], []), [([ui0, (0, 4), (1, 5), (0, 1)], [ur1299], [uL59], [], [uV66], [], []), ([ui0, (0, 5), (0, 5), (0, 1)], [ur1299], [uL509, uL62], [], [uV64], [], []), ([ui0, (1, 5), (0, 4), (0, 1)], [ur1299], [uL508], [], [uV66], [], []), ([ui0, (0, 5), (0, 5), (0, 1)], [ur1299], [], [], [uV64], [], [])], [], 34, 2, 43)
set_option maxRecDepth 1000000 in
theorem ck_613 : x_ok mLT1 [cx_612] mTS2 mTC2 mRUp cx_613 [(2, [0]), (10, [0])] [(16, [1000461])] [] (14, []) 20 17 = true := by decide +kernel
theorem sn_613 {W : Bool} {X : List Int32} : y_Snd (mGw W) mLT1 (J2 W X) X cx_613 := y_ok J2_J mTS2_ok1 mTC2_ok1 mRUp_ok1 (List.forall_mem_cons.mpr ⟨sn_612, fun _ h => absurd h List.not_mem_nil⟩) ck_613
/-- M.fillsPlans -/
def cx_614 : zCtx := (273, ([ui0, (0, 1), ui31], [ur1299, ur1345, ur1346, ur1356, ur1357, ur1358, ur1359, ur1360, ur1354, ur1355], [], [], [uV2], [uF1859, uF1361, uF1362, uF2002, uF2003, uF2004, uF2005, uF2006, uF1597, uF1598], [uG2183, uG2202]), [([ui0, (0, 1), ui31], [ur1299, ur1345, ur1346, ur1356, ur1357, ur1358, ur1359, ur1360, ur1354, ur1355], [], [], [], [], [])], kc_83, 79793, 5, 108)
set_option maxRecDepth 1000000 in
theorem ck_614 : x_ok mLT1 [cx_612, cx_507, cx_586, cx_613, cx_590, cx_589] mTS2 mTC2 mRUp cx_614 [(15, [0]), (23, [1]), (59, [0]), (67, [2]), (98, [3]), (121, [4]), (141, [5])] [] [(2, ([(0, 3072), (0, 1), (0, 432), (0, 6)], [(12, false), (65, false), (66, false), (67, false), (68, false), (69, false), (70, false), (71, false), (72, false), (73, false)], [], [(2, 0, 0, []), (0, 0, 0, [(3, 1)])], [], [(0, (false, 18, 0, []), 0, 0, 0, [(1, 1)]), (0, (false, 31, 0, []), 2, 1, 0, []), (0, (false, 32, 0, []), 2, 2, 0, []), (0, (false, 34, 0, []), 2, 3, 0, []), (0, (false, 35, 0, []), 2, 4, 0, []), (0, (false, 36, 0, []), 2, 5, 0, []), (0, (false, 37, 0, []), 2, 6, 0, []), (0, (false, 38, 0, []), 2, 7, 0, []), (0, (false, 40, 0, []), 2, 8, 0, []), (0, (false, 41, 0, []), 2, 9, 0, [])], [(2, [(0, [(1, 1)])]), (224, [(0, [(1, 1)]), (1, [(1, (-1))]), (1, []), (0, [(2, 1)])])]), (2152, [(3, (-37))])), (83, ([(0, 3072), (0, 1), (0, 432), (0, 40)], [(12, false), (65, false), (66, false), (67, false), (68, false), (69, false), (70, false), (71, false), (72, false), (73, false)], [], [(2, 0, 0, []), (0, 0, 0, [(3, 1)])], [], [(0, (false, 18, 0, []), 0, 0, 0, [(1, 1)]), (0, (false, 31, 0, []), 2, 1, 0, []), (0, (false, 32, 0, []), 2, 2, 0, []), (0, (false, 34, 0, []), 2, 3, 0, []), (0, (false, 35, 0, []), 2, 4, 0, []), (0, (false, 36, 0, []), 2, 5, 0, []), (0, (false, 37, 0, []), 2, 6, 0, []), (0, (false, 38, 0, []), 2, 7, 0, []), (0, (false, 40, 0, []), 2, 8, 0, []), (0, (false, 41, 0, []), 2, 9, 0, [])], [(2, [(0, [(1, 1)])]), (224, [(0, [(1, 1)]), (1, [(1, (-1))]), (1, []), (0, [(2, 1)])])]), (1924, [(3, (-48))]))] (2155, []) 77638 50 = true := by decide +kernel
theorem sn_614 {W : Bool} {X : List Int32} : y_Snd (mGw W) mLT1 (J2 W X) X cx_614 := y_ok J2_J mTS2_ok1 mTC2_ok1 mRUp_ok1 (List.forall_mem_cons.mpr ⟨sn_612, List.forall_mem_cons.mpr ⟨sn_507, List.forall_mem_cons.mpr ⟨sn_586, List.forall_mem_cons.mpr ⟨sn_613, List.forall_mem_cons.mpr ⟨sn_590, List.forall_mem_cons.mpr ⟨sn_589, fun _ h => absurd h List.not_mem_nil⟩⟩⟩⟩⟩⟩) ck_614
/-- M.isIn -/
def cx_615 : zCtx := (276, ([ui0, (0, 6)], [ur1299, ur2236], [], [], [uV2, uV64], [uF2237, uF2238], []), [([ui0, (1, 6)], [ur1299, ur2236], [], [], [uV66], [], []), ([ui0, (0, 6)], [ur1299, ur2236], [], [], [uV64], [], [uG2239])], [], 87, 0, 0)
set_option maxRecDepth 1000000 in
theorem ck_615 : x_ok mLT1 [] mTS2 mTC2 mRUp cx_615 [] [(1, [97]), (22, [34])] [(2, ([(0, 3072), (0, 6), (0, 6)], [(12, false), (87, false)], [(0, [(1, 1), (2, (-1))])], [(2, 0, 0, []), (0, 0, 0, []), (0, 0, 0, [(2, 1)])], [], [(0, (false, 61, 0, []), 0, 0, 0, [(1, 1)]), (0, (false, 60, 0, []), 2, 1, 0, [])], [(9, [(0, []), (0, [])]), (9, [(0, []), (0, [(2, 1)])])]), (84, [(2, (-13))]))] (87, []) 0 15 = true := by decide +kernel
theorem sn_615 {W : Bool} {X : List Int32} : y_Snd (mGw W) mLT1 (J2 W X) X cx_615 := y_ok J2_J mTS2_ok1 mTC2_ok1 mRUp_ok1 (fun _ h => absurd h List.not_mem_nil) ck_615
/-- M.isIn -/
def cx_616 : zCtx := (276, ([ui0, (0, 6)], [ur1299, ur2236], [], [], [uV2, uV66], [uF2237, uF2238], []), [([ui0, (1, 6)], [ur1299, ur2236], [], [], [uV66], [], []), ([ui0, (0, 6)], [ur1299, ur2236], [], [], [uV64], [], [uG2240])], [], 87, 0, 0)
set_option maxRecDepth 1000000 in
theorem ck_616 : x_ok mLT1 [] mTS2 mTC2 mRUp cx_616 [] [(1, [97]), (22, [34])] [(2, ([(0, 3072), (0, 6), (0, 6)], [(12, false), (87, false)], [(0, [(1, 1), (2, (-1))])], [(2, 0, 0, []), (0, 0, 1, []), (0, 0, 0, [(2, 1)])], [], [(0, (false, 61, 0, []), 0, 0, 0, [(1, 1)]), (0, (false, 60, 0, []), 2, 1, 0, [])], [(9, [(1, []), (0, [])]), (9, [(1, []), (0, [(2, 1)])])]), (84, [(2, (-13))]))] (87, []) 0 15 = true := by decide +kernel
theorem sn_616 {W : Bool} {X : List Int32} : y_Snd (mGw W) mLT1 (J2 W X) X cx_616 := y_ok J2_J mTS2_ok1 mTC2_ok1 mRUp_ok1 (fun _ h => absurd h List.not_mem_nil) ck_616
/-- M.isIn -/
def cx_617 : zCtx := (276, ([ui0, (0, 6)], [ur1299, ur2236], [], [], [uV2, uV391], [uF2237, uF2238], []), [([ui0, (1, 6)], [ur1299, ur2236], [], [], [uV66], [], []), ([ui0, (0, 6)], [ur1299, ur2236], [], [], [uV64], [], [uG2241])], [], 87, 0, 0)
set_option maxRecDepth 1000000 in
theorem ck_617 : x_ok mLT1 [] mTS2 mTC2 mRUp cx_617 [] [(1, [97]), (22, [34])] [(2, ([(0, 3072), (0, 6), (0, 6)], [(12, false), (87, false)], [(0, [(1, 1), (2, (-1))])], [(2, 0, 0, []), (0, 0, 2, []), (0, 0, 0, [(2, 1)])], [], [(0, (false, 61, 0, []), 0, 0, 0, [(1, 1)]), (0, (false, 60, 0, []), 2, 1, 0, [])], [(9, [(2, []), (0, [])]), (9, [(2, []), (0, [(2, 1)])])]), (84, [(2, (-13))]))] (87, []) 0 15 = true := by decide +kernel
theorem sn_617 {W : Bool} {X : List Int32} : y_Snd (mGw W) mLT1 (J2 W X) X cx_617 := y_ok J2_J mTS2_ok1 mTC2_ok1 mRUp_ok1 (fun _ h => absurd h List.not_mem_nil) ck_617
/-- M.isIn -/
def cx_618 : zCtx := (276, ([ui0, (0, 6)], [ur1299, ur2236], [], [], [uV2, uV387], [uF2237, uF2238], []), [([ui0, (1, 6)], [ur1299, ur2236], [], [], [uV66], [], []), ([ui0, (0, 6)], [ur1299, ur2236], [], [], [uV64], [], [uG2242])], [], 87, 0, 0)
set_option maxRecDepth 1000000 in
theorem ck_618 : x_ok mLT1 [] mTS2 mTC2 mRUp cx_618 [] [(1, [97]), (22, [34])] [(2, ([(0, 3072), (0, 6), (0, 6)], [(12, false), (87, false)], [(0, [(1, 1), (2, (-1))])], [(2, 0, 0, []), (0, 0, 3, []), (0, 0, 0, [(2, 1)])], [], [(0, (false, 61, 0, []), 0, 0, 0, [(1, 1)]), (0, (false, 60, 0, []), 2, 1, 0, [])], [(9, [(3, []), (0, [])]), (9, [(3, []), (0, [(2, 1)])])]), (84, [(2, (-13))]))] (87, []) 0 15 = true := by decide +kernel
theorem sn_618 {W : Bool} {X : List Int32} : y_Snd (mGw W) mLT1 (J2 W X) X cx_618 := y_ok J2_J mTS2_ok1 mTC2_ok1 mRUp_ok1 (fun _ h => absurd h List.not_mem_nil) ck_618
/-- M.isIn -/
def cx_619 : zCtx := (276, ([ui0, (0, 6)], [ur1299, ur2236], [], [], [uV2, uV383], [uF2237, uF2238], []), [([ui0, (1, 6)], [ur1299, ur2236], [], [], [uV66], [], []), ([ui0, (0, 6)], [ur1299, ur2236], [], [], [uV64], [], [uG2243])], [], 87, 0, 0)
set_option maxRecDepth 1000000 in
theorem ck_619 : x_ok mLT1 [] mTS2 mTC2 mRUp cx_619 [] [(1, [97]), (22, [34])] [(2, ([(0, 3072), (0, 6), (0, 6)], [(12, false), (87, false)], [(0, [(1, 1), (2, (-1))])], [(2, 0, 0, []), (0, 0, 4, []), (0, 0, 0, [(2, 1)])], [], [(0, (false, 61, 0, []), 0, 0, 0, [(1, 1)]), (0, (false, 60, 0, []), 2, 1, 0, [])], [(9, [(4, []), (0, [])]), (9, [(4, []), (0, [(2, 1)])])]), (84, [(2, (-13))]))] (87, []) 0 15 = true := by decide +kernel
theorem sn_619 {W : Bool} {X : List Int32} : y_Snd (mGw W) mLT1 (J2 W X) X cx_619 := y_ok J2_J mTS2_ok1 mTC2_ok1 mRUp_ok1 (fun _ h => absurd h List.not_mem_nil) ck_619
/-- M.isIn -/
def cx_620 : zCtx := (276, ([ui0, (0, 6)], [ur1299, ur2236], [], [], [uV2, uV3], [uF2237, uF2238], []), [([ui0, (1, 6)], [ur1299, ur2236], [], [], [uV66], [], []), ([ui0, (0, 6)], [ur1299, ur2236], [], [], [uV64], [], [uG2244])], [], 87, 0, 0)
set_option maxRecDepth 1000000 in
theorem ck_620 : x_ok mLT1 [] mTS2 mTC2 mRUp cx_620 [] [(1, [97]), (22, [34])] [(2, ([(0, 3072), (0, 6), (0, 6)], [(12, false), (87, false)], [(0, [(1, 1), (2, (-1))])], [(2, 0, 0, []), (0, 0, 5, []), (0, 0, 0, [(2, 1)])], [], [(0, (false, 61, 0, []), 0, 0, 0, [(1, 1)]), (0, (false, 60, 0, []), 2, 1, 0, [])], [(9, [(5, []), (0, [])]), (9, [(5, []), (0, [(2, 1)])])]), (84, [(2, (-13))]))] (87, []) 0 15 = true := by decide +kernel
theorem sn_620 {W : Bool} {X : List Int32} : y_Snd (mGw W) mLT1 (J2 W X) X cx_620 := y_ok J2_J mTS2_ok1 mTC2_ok1 mRUp_ok1 (fun _ h => absurd h List.not_mem_nil) ck_620
/-- M.nextFrom -/
def cx_621 : zCtx := (275, ([ui0, (0, 6)], [ur1299, ur2236], [], [], [uV2, uV64], [uF2237, uF2238], []), [([ui0, (0, 6)], [ur1299, ur2236], [], [], [uV64], [], [uG2239]), ([ui0, (0, 6)], [ur1299, ur2236], [], [], [uV66], [], [uG2240]), ([ui0, (0, 6)], [ur1299, ur2236], [], [], [uV391], [], [uG2241]), ([ui0, (0, 6)], [ur1299, ur2236], [], [], [uV387], [], [uG2242]), ([ui0, (0, 6)], [ur1299, ur2236], [], [], [uV383], [], [uG2243]), ([ui0, (0, 6)], [ur1299, ur2236], [], [], [uV3], [], [uG2244]), ([ui0, (0, 6)], [ur1299, ur2236], [], [], [uV63], [], [])], [], 178, 1, 22)
def cq_621 : List zCtx := [cx_615, cx_616, cx_617, cx_618, cx_619, cx_620]
def cs_621 : List (Nat × List Nat) := [(19, [0, 1, 2, 3, 4, 5])]
def hs_621 : List (Nat × List Nat) := []
def ns_621 : List zN := []
set_option maxRecDepth 1000000 in
theorem ca_621 : x_okA mLT1 cq_621 mTS2 mTC2 mRUp cx_621 cs_621 hs_621 ns_621 (91, []) 87 94 = true := by decide +kernel
set_option maxRecDepth 1000000 in
theorem cc_621 : x_okC mLT1 cq_621 mTS2 mTC2 mRUp cx_621 cs_621 hs_621 ns_621 (91, []) 87 94 = true := by decide +kernel
theorem ck_621 : x_ok mLT1 cq_621 mTS2 mTC2 mRUp cx_621 cs_621 hs_621 ns_621 (91, []) 87 94 = true := x_ok_of ca_621 (fun _ h => absurd h List.not_mem_nil) cc_621
theorem sn_621 {W : Bool} {X : List Int32} : y_Snd (mGw W) mLT1 (J2 W X) X cx_621 := y_ok J2_J mTS2_ok1 mTC2_ok1 mRUp_ok1 (List.forall_mem_cons.mpr ⟨sn_615, List.forall_mem_cons.mpr ⟨sn_616, List.forall_mem_cons.mpr ⟨sn_617, List.forall_mem_cons.mpr ⟨sn_618, List.forall_mem_cons.mpr ⟨sn_619, List.forall_mem_cons.mpr ⟨sn_620, fun _ h => absurd h List.not_mem_nil⟩⟩⟩⟩⟩⟩) ck_621
/-- M.nextFrom -/
def cx_622 : zCtx := (275, ([ui0, (0, 5)], [ur1299, ur2236], [], [], [uV2, uV66], [uF2237, uF2238], []), [([ui0, (0, 5)], [ur1299, ur2236], [], [], [uV66], [], [uG2240]), ([ui0, (0, 5)], [ur1299, ur2236], [], [], [uV391], [], [uG2241]), ([ui0, (0, 5)], [ur1299, ur2236], [], [], [uV387], [], [uG2242]), ([ui0, (0, 5)], [ur1299, ur2236], [], [], [uV383], [], [uG2243]), ([ui0, (0, 5)], [ur1299, ur2236], [], [], [uV3], [], [uG2244]), ([ui0, (0, 5)], [ur1299, ur2236], [], [], [uV63], [], [])], [], 164, 1, 22)
set_option maxRecDepth 1000000 in
theorem ck_622 : x_ok mLT1 [cx_616, cx_617, cx_618, cx_619, cx_620] mTS2 mTC2 mRUp cx_622 [(19, [0, 1, 2, 3, 4])] [] [] (77, []) 87 80 = true := by decide +kernel
theorem sn_622 {W : Bool} {X : List Int32} : y_Snd (mGw W) mLT1 (J2 W X) X cx_622 := y_ok J2_J mTS2_ok1 mTC2_ok1 mRUp_ok1 (List.forall_mem_cons.mpr ⟨sn_616, List.forall_mem_cons.mpr ⟨sn_617, List.forall_mem_cons.mpr ⟨sn_618, List.forall_mem_cons.mpr ⟨sn_619, List.forall_mem_cons.mpr ⟨sn_620, fun _ h => absurd h List.not_mem_nil⟩⟩⟩⟩⟩) ck_622
/-- M.nextFrom -/
def cx_623 : zCtx := (275, ([ui0, (0, 5)], [ur1299, ur2236], [], [], [uV2, uV391], [uF2237, uF2238], []), [([ui0, (0, 5)], [ur1299, ur2236], [], [], [uV391], [], [uG2241]), ([ui0, (0, 5)], [ur1299, ur2236], [], [], [uV387], [], [uG2242]), ([ui0, (0, 5)], [ur1299, ur2236], [], [], [uV383], [], [uG2243]), ([ui0, (0, 5)], [ur1299, ur2236], [], [], [uV3], [], [uG2244]), ([ui0, (0, 5)], [ur1299, ur2236], [], [], [uV63], [], [])], [], 150, 1, 22)
set_option maxRecDepth 1000000 in
theorem ck_623 : x_ok mLT1 [cx_617, cx_618, cx_619, cx_620] mTS2 mTC2 mRUp cx_623 [(19, [0, 1, 2, 3])] [] [] (63, []) 87 66 = true := by decide +kernel
theorem sn_623 {W : Bool} {X : List Int32} : y_Snd (mGw W) mLT1 (J2 W X) X cx_623 := y_ok J2_J mTS2_ok1 mTC2_ok1 mRUp_ok1 (List.forall_mem_cons.mpr ⟨sn_617, List.forall_mem_cons.mpr ⟨sn_618, List.forall_mem_cons.mpr ⟨sn_619, List.forall_mem_cons.mpr ⟨sn_620, fun _ h => absurd h List.not_mem_nil⟩⟩⟩⟩) ck_623
/-- M.nextFrom -/
def cx_624 : zCtx := (275, ([ui0, (0, 5)], [ur1299, ur2236], [], [], [uV2, uV387], [uF2237, uF2238], []), [([ui0, (0, 5)], [ur1299, ur2236], [], [], [uV387], [], [uG2242]), ([ui0, (1, 5)], [ur1299, ur2236], [], [], [uV383], [], [uG2243]), ([ui0, (1, 5)], [ur1299, ur2236], [], [], [uV3], [], [uG2244]), ([ui0, (1, 5)], [ur1299, ur2236], [], [], [uV63], [], []), ([ui0, (0, 5)], [ur1299, ur2236], [], [], [uV383], [], [uG2243]), ([ui0, (0, 5)], [ur1299, ur2236], [], [], [uV3], [], [uG2244]), ([ui0, (0, 5)], [ur1299, ur2236], [], [], [uV63], [], [])], [], 136, 1, 22)
set_option maxRecDepth 1000000 in
theorem ck_624 : x_ok mLT1 [cx_618, cx_619, cx_620] mTS2 mTC2 mRUp cx_624 [(19, [0, 1, 2])] [] [] (49, []) 87 52 = true := by decide +kernel
theorem sn_624 {W : Bool} {X : List Int32} : y_Snd (mGw W) mLT1 (J2 W X) X cx_624 := y_ok J2_J mTS2_ok1 mTC2_ok1 mRUp_ok1 (List.forall_mem_cons.mpr ⟨sn_618, List.forall_mem_cons.mpr ⟨sn_619, List.forall_mem_cons.mpr ⟨sn_620, fun _ h => absurd h List.not_mem_nil⟩⟩⟩) ck_624
/-- M.nextFrom -/
def cx_625 : zCtx := (275, ([ui0, (0, 5)], [ur1299, ur2236], [], [], [uV2, uV383], [uF2237, uF2238], []), [([ui0, (0, 5)], [ur1299, ur2236], [], [], [uV383], [], [uG2243]), ([ui0, (1, 5)], [ur1299, ur2236], [], [], [uV3], [], [uG2244]), ([ui0, (1, 5)], [ur1299, ur2236], [], [], [uV63], [], []), ([ui0, (0, 5)], [ur1299, ur2236], [], [], [uV3], [], [uG2244]), ([ui0, (0, 5)], [ur1299, ur2236], [], [], [uV63], [], [])], [], 122, 1, 22)
set_option maxRecDepth 1000000 in
theorem ck_625 : x_ok mLT1 [cx_619, cx_620] mTS2 mTC2 mRUp cx_625 [(19, [0, 1])] [] [] (35, []) 87 38 = true := by decide +kernel
theorem sn_625 {W : Bool} {X : List Int32} : y_Snd (mGw W) mLT1 (J2 W X) X cx_625 := y_ok J2_J mTS2_ok1 mTC2_ok1 mRUp_ok1 (List.forall_mem_cons.mpr ⟨sn_619, List.forall_mem_cons.mpr ⟨sn_620, fun _ h => absurd h List.not_mem_nil⟩⟩) ck_625
/-- M.nextFrom -/
def cx_626 : zCtx := (275, ([ui0, (0, 5)], [ur1299, ur2236], [], [], [uV2, uV3], [uF2237, uF2238], []), [([ui0, (0, 5)], [ur1299, ur2236], [], [], [uV3], [], [uG2244]), ([ui0, (1, 5)], [ur1299, ur2236], [], [], [uV63], [], []), ([ui0, (0, 5)], [ur1299, ur2236], [], [], [uV63], [], [])], [], 108, 1, 22)
set_option maxRecDepth 1000000 in
theorem ck_626 : x_ok mLT1 [cx_620] mTS2 mTC2 mRUp cx_626 [(19, [0])] [] [] (21, []) 87 24 = true := by decide +kernel
theorem sn_626 {W : Bool} {X : List Int32} : y_Snd (mGw W) mLT1 (J2 W X) X cx_626 := y_ok J2_J mTS2_ok1 mTC2_ok1 mRUp_ok1 (List.forall_mem_cons.mpr ⟨sn_620, fun _ h => absurd h List.not_mem_nil⟩) ck_626
/-- M.nextFrom -/
def cx_627 : zCtx := (275, ([ui0, (0, 5)], [ur1299, ur2236], [], [], [uV2, uV317], [uF2237, uF2238], []), [([ui0, (0, 5)], [ur1299, ur2236], [], [], [uV63], [], [])], [], 7, 0, 0)
set_option maxRecDepth 1000000 in
theorem ck_627 : x_ok mLT1 [] mTS2 mTC2 mRUp cx_627 [] [] [] (7, []) 0 10 = true := by decide +kernel
theorem sn_627 {W : Bool} {X : List Int32} : y_Snd (mGw W) mLT1 (J2 W X) X cx_627 := y_ok J2_J mTS2_ok1 mTC2_ok1 mRUp_ok1 (fun _ h => absurd h List.not_mem_nil) ck_627
/-- M.goesToNext -/
def cx_628 : zCtx := (274, ([ui0, (0, 6), ui2245], [ur1299, ur2236], [], [], [uV2], [uF2237, uF2238], [(8, [uL9, uL65, uL69])]), [([ui0, (0, 6), (0, 999999), (1, 6), ui2245], [ur1299, ur2236], [((-1000), [(2, (-1000)), (4, 1000)])], [], [uV66], [uF2246], [(8, [uL23, uL65, uL100])]), ([ui0, (0, 6), ui2245, (0, 0)], [ur1299, ur2236], [], [], [uV64], [uF2246], [])], [uk2247, uk2248], 338, 2, 44)
set_option maxRecDepth 1000000 in
theorem ck_628 : x_ok mLT1 [cx_621, cx_622, cx_623, cx_624, cx_625, cx_626, cx_627] mTS2 mTC2 mRUp cx_628 [(2, [0]), (39, [1, 2, 3, 4, 5, 6])] [(39, [30, 1]), (52, [32]), (62, [31])] [(6, ([(0, 3072), (0, 6), (0, 1000000), (0, 6), (0, 6)], [(12, false), (87, false)], [], [(2, 0, 0, []), (0, 0, (-1), [])], [], [(0, (false, 61, 0, []), 0, 0, 0, [(3, 1)]), (0, (false, 60, 0, []), 2, 1, 0, [])], [(8, [(0, [(3, 1)]), (0, [(4, 1)]), (0, [(2, 1)])])]), (17, [(3, 23)]))] (160, []) 178 43 = true := by decide +kernel
theorem sn_628 {W : Bool} {X : List Int32} : y_Snd (mGw W) mLT1 (J2 W X) X cx_628 := y_ok J2_J mTS2_ok1 mTC2_ok1 mRUp_ok1 (List.forall_mem_cons.mpr ⟨sn_621, List.forall_mem_cons.mpr ⟨sn_622, List.forall_mem_cons.mpr ⟨sn_623, List.forall_mem_cons.mpr ⟨sn_624, List.forall_mem_cons.mpr ⟨sn_625, List.forall_mem_cons.mpr ⟨sn_626, List.forall_mem_cons.mpr ⟨sn_627, fun _ h => absurd h List.not_mem_nil⟩⟩⟩⟩⟩⟩⟩) ck_628
/-- M.orderSpare -/
def cx_629 : zCtx := (277, ([ui0, (0, 1), (1, 6)], [ur1299], [], [], [uV2], [uF1859, uF2249], []), [([ui0, (0, 1), (1, 6)], [ur1299], [], [], [uV63], [], []), ([ui0, (0, 1), (1, 6), ui512], [ur1299], [], [], [uV60], [], [])], [], 426, 0, 0)
set_option maxRecDepth 1000000 in
theorem ck_629 : x_ok mLT1 [] mTS2 mTC2 mRUp cx_629 [] [] [(13, ([(0, 3072), (0, 1), (1, 6), ((-2147483648), 2147483647), ((-2147483648), 2147483647), ((-1), 5)], [(12, false)], [], [(2, 0, 0, []), (0, 0, 0, [(3, 1)]), (0, 0, 0, [(4, 1)]), (0, 0, 0, [(5, 1)]), (5, 0, 0, [])], [], [(0, (false, 18, 0, []), 0, 0, 0, [(1, 1)]), (0, (false, 61, 0, []), 0, 0, 0, [(2, 1)])], []), (81, [(5, 67)]))] (426, []) 0 69 = true := by decide +kernel
theorem sn_629 {W : Bool} {X : List Int32} : y_Snd (mGw W) mLT1 (J2 W X) X cx_629 := y_ok J2_J mTS2_ok1 mTC2_ok1 mRUp_ok1 (fun _ h => absurd h List.not_mem_nil) ck_629
def cx_630pr_0 (t : List (Nat × Bool)) : List (Nat × Bool) := ur1299 :: ur2236 :: ur1345 :: ur1346 :: ur1356 :: ur1357 :: ur1358 :: ur1359 :: t
def cx_630pr_1 (t : List (Nat × Bool)) : List (Nat × Bool) := ur1360 :: ur1354 :: ur1355 :: t
def cx_630pf_0 (t : List zFa) : List zFa := uF1995 :: uF2097 :: uF2098 :: uF2250 :: uF2238 :: uF2251 :: uF2252 :: uF2253 :: t
def cx_630pf_1 (t : List zFa) : List zFa := uF2254 :: uF2255 :: uF2256 :: uF2257 :: uF2258 :: uF2259 :: t
def cx_630p : zS := ([ui0, ui51, (0, 1), ui51, (0, 1), (0, 6), ui31], (cx_630pr_0 (cx_630pr_1 [])), [], [], [uV2, uV11], (cx_630pf_0 (cx_630pf_1 [])), [uG2042, uG2145])
/-- M.orders -/
def cx_630 : zCtx := (272, cx_630p, [([ui0, ui800, (0, 1), ui51, (0, 1), (0, 6), ui31], [ur1299, ur2236, ur1345, ur1346, ur1356, ur1357, ur1358, ur1359, ur1360, ur1354, ur1355], [], [], [uV63], [uF2097, uF2098, uF2250], []), ([ui0, ui265, (0, 1), ui51, (0, 1), (0, 6), ui31], [ur1299, ur2236, ur1345, ur1346, ur1356, ur1357, ur1358, ur1359, ur1360, ur1354, ur1355], [], [], [uV63], [uF2097, uF2098, uF2250], []), ([ui0, ui586, (0, 1), ui51, (0, 1), (0, 6), ui31, ui51, (0, 0), ui199], [ur1299, ur2236, ur1345, ur1346, ur1356, ur1357, ur1358, ur1359, ur1360, ur1354, ur1355], [], [], [uV144], [uF2260, uF1865, uF2235], [uG1872, uG1868])], kc_84, 1000079811, 6, 129)
def cz_630_0i_0 (t : List (Int × Int)) : List (Int × Int) := ui0 :: ui586 :: (0, 1) :: ui51 :: (0, 1) :: (0, 6) :: ui31 :: ui51 :: t
def cz_630_0i_1 (t : List (Int × Int)) : List (Int × Int) := (0, 6) :: ui199 :: ui2245 :: t
def cz_630_0r_0 (t : List (Nat × Bool)) : List (Nat × Bool) := ur1299 :: ur2236 :: ur1345 :: ur1346 :: ur1356 :: ur1357 :: ur1358 :: ur1359 :: t
def cz_630_0r_1 (t : List (Nat × Bool)) : List (Nat × Bool) := ur1360 :: ur1354 :: ur1355 :: ur1353 :: ur1878 :: ur1858 :: t
def cz_630_0f_0 (t : List zFa) : List zFa := uF2260 :: uF1865 :: uF2235 :: uF2261 :: uF2262 :: uF2010 :: uF1995 :: uF2238 :: t
def cz_630_0f_1 (t : List zFa) : List zFa := uF2251 :: uF2252 :: uF2253 :: uF2254 :: uF2255 :: uF2256 :: uF2257 :: uF2258 :: t
def cz_630_0f_2 (t : List zFa) : List zFa := uF2259 :: t
def cz_630_0 : zS := ((cz_630_0i_0 (cz_630_0i_1 [])), (cz_630_0r_0 (cz_630_0r_1 [])), [], [uV2, uV11, uV144], [], (cz_630_0f_0 (cz_630_0f_1 (cz_630_0f_2 []))), [uG1872, uG1868, uG2042, uG2145, uG2263])
set_option maxRecDepth 1000000 in
theorem ck_630 : x_ok mLT1 [cx_547, cx_501, cx_614, cx_628, cx_629] mTS2 mTC2 mRUp cx_630 [(1, [0]), (10, [1]), (14, [2]), (25, [3]), (32, [4])] [(21, [29])] [(24, cz_630_0, (1000000005, [(10, (-1000))]))] (1000000018, []) 79793 15 = true := by decide +kernel
theorem sn_630 {W : Bool} {X : List Int32} : y_Snd (mGw W) mLT1 (J2 W X) X cx_630 := y_ok J2_J mTS2_ok1 mTC2_ok1 mRUp_ok1 (List.forall_mem_cons.mpr ⟨sn_547, List.forall_mem_cons.mpr ⟨sn_501, List.forall_mem_cons.mpr ⟨sn_614, List.forall_mem_cons.mpr ⟨sn_628, List.forall_mem_cons.mpr ⟨sn_629, fun _ h => absurd h List.not_mem_nil⟩⟩⟩⟩⟩) ck_630
/-- M.peakOf -/
def cx_631 : zCtx := (279, ([ui0, (0, 1), (0, 6)], [ur1299, ur2236], [], [], [uV2], [uF1859, uF2249, uF2238], []), [([ui0, (0, 1), (0, 6), ui2264, (0, 0)], [ur1299, ur2236], [], [], [uV60], [uF2265], [])], [uk2247, uk2248], 1000000437, 3, 65)
set_option maxRecDepth 1000000 in
theorem ck_631 : x_ok mLT1 [cx_628, cx_629] mTS2 mTC2 mRUp cx_631 [(9, [0]), (16, [1])] [(5, [29])] [(8, ([(0, 3072), (0, 1), (0, 6), ((-2), 2147483647), (0, 6), (0, 1000000)], [(12, false), (87, false)], [], [(2, 0, 0, []), (0, 0, 0, [(3, 1)]), (5, 0, 0, [])], [], [(0, (false, 61, 0, []), 0, 0, 0, [(4, 1)]), (0, (false, 18, 0, []), 0, 0, 0, [(1, 1)]), (0, (false, 60, 0, []), 2, 1, 0, [])], [(8, [(0, [(4, 1)]), (0, []), (0, [(5, 1)])])]), (1000000005, [(5, (-1000))]))] (1000000011, []) 426 17 = true := by decide +kernel
theorem sn_631 {W : Bool} {X : List Int32} : y_Snd (mGw W) mLT1 (J2 W X) X cx_631 := y_ok J2_J mTS2_ok1 mTC2_ok1 mRUp_ok1 (List.forall_mem_cons.mpr ⟨sn_628, List.forall_mem_cons.mpr ⟨sn_629, fun _ h => absurd h List.not_mem_nil⟩⟩) ck_631
def cx_632pf_0 (t : List zFa) : List zFa := uF1859 :: uF1860 :: uF1861 :: uF2265 :: uF1361 :: uF1362 :: uF2002 :: uF2003 :: t
def cx_632pf_1 (t : List zFa) : List zFa := uF2004 :: uF2005 :: uF2006 :: uF1597 :: uF1598 :: t
def cx_632p : zS := ([ui0, (0, 1), ui51, (0, 1), (0, 6), ui31], (cx_589pr_0 (cx_589pr_1 [])), [], [], [uV2], (cx_632pf_0 (cx_632pf_1 [])), [uG2183, (224, [uL9, uL1377, uL67, uL106])])
/-- M.peak -/
def cx_632 : zCtx := (278, cx_632p, [([ui0, (0, 1), ui51, (0, 1), (0, 6), ui31, ui2264, (0, 0), ui199], [ur1299, ur1345, ur1346, ur1356, ur1357, ur1358, ur1359, ur1360, ur1354, ur1355], [], [], [uV110], [uF2266, uF1865, uF2231], [uG1872, uG1868])], kc_84, 1000000444, 6, 129)
set_option maxRecDepth 1000000 in
theorem ck_632 : x_ok mLT1 [cx_501, cx_614, cx_631] mTS2 mTC2 mRUp cx_632 [(1, [0]), (5, [1]), (9, [2])] [] [] (7, []) 1000000437 10 = true := by decide +kernel
theorem sn_632 {W : Bool} {X : List Int32} : y_Snd (mGw W) mLT1 (J2 W X) X cx_632 := y_ok J2_J mTS2_ok1 mTC2_ok1 mRUp_ok1 (List.forall_mem_cons.mpr ⟨sn_501, List.forall_mem_cons.mpr ⟨sn_614, List.forall_mem_cons.mpr ⟨sn_631, fun _ h => absurd h List.not_mem_nil⟩⟩⟩) ck_632
/-- M.fewestOf -/
def cx_633 : zCtx := (281, ([ui0, ui586, (0, 1), (0, 6)], [ur1299, ur2236], [], [], [uV2, uV11], [uF1995, uF2246, uF2238], []), [([ui0, ui586, (0, 1), (0, 6), ((-2), 6), (0, 0)], [ur1299, ur2236], [], [], [uV99], [uF2250], [])], [uk2247, uk2248, (88, true, 0)], 1000000437, 3, 65)
set_option maxRecDepth 1000000 in
theorem ck_633 : x_ok mLT1 [cx_628, cx_629] mTS2 mTC2 mRUp cx_633 [(9, [0]), (28, [1])] [(5, [29])] [(8, ([(0, 3072), (0, 999), (0, 1), (0, 6), ((-2), 6), (0, 6), (0, 1000000)], [(12, false), (87, false)], [], [(2, 0, 0, []), (0, 0, 0, [(1, 1)]), (0, 0, 0, [(4, 1)]), (5, 0, 0, [])], [], [(0, (false, 61, 0, []), 0, 0, 0, [(5, 1)]), (0, (false, 18, 0, []), 0, 0, 0, [(2, 1)]), (0, (false, 60, 0, []), 2, 1, 0, [])], [(8, [(0, [(5, 1)]), (0, []), (0, [(6, 1)])])]), (1000000005, [(6, (-1000))])), (45, ([(0, 3072), (0, 999), (0, 1), (0, 6), (1, 6), (0, 6), (0, 1000000)], [(12, false), (87, false)], [], [(2, 0, 0, []), (0, 0, 0, [(1, 1)]), (0, 0, 0, [(4, 1)]), (0, 0, 0, [(5, 1)])], [], [(0, (false, 61, 0, []), 0, 0, 0, [(4, 1)]), (0, (false, 18, 0, []), 0, 0, 0, [(2, 1)]), (0, (false, 60, 0, []), 2, 1, 0, [])], [(8, [(0, [(4, 1)]), (0, []), (0, [(6, 1)])])]), (1000000094, [(5, (-14)), (6, (-1000))]))] (1000000011, []) 426 21 = true := by decide +kernel
theorem sn_633 {W : Bool} {X : List Int32} : y_Snd (mGw W) mLT1 (J2 W X) X cx_633 := y_ok J2_J mTS2_ok1 mTC2_ok1 mRUp_ok1 (List.forall_mem_cons.mpr ⟨sn_628, List.forall_mem_cons.mpr ⟨sn_629, fun _ h => absurd h List.not_mem_nil⟩⟩) ck_633
def cx_634pf_0 (t : List zFa) : List zFa := uF1999 :: uF2000 :: uF2001 :: uF2267 :: uF1361 :: uF1362 :: uF2002 :: uF2003 :: t
def cx_634pf_1 (t : List zFa) : List zFa := uF2004 :: uF2005 :: uF2006 :: uF1597 :: uF1598 :: t
def cx_634p : zS := ([ui0, ui51, ui51, (0, 1), ui51, (0, 1), (0, 6), ui31], (cx_589pr_0 (cx_589pr_1 [])), [], [], [uV2, uV11, uV12], (cx_634pf_0 (cx_634pf_1 [])), [uG2012, uG2268])
/-- M.fewest -/
def cx_634 : zCtx := (280, cx_634p, [([ui0, ui586, ui1081, (0, 1), ui51, (0, 1), (0, 6), ui31], [ur1299, ur1345, ur1346, ur1356, ur1357, ur1358, ur1359, ur1360, ur1354, ur1355], [], [], [uV63], [uF2000, uF2001, uF2267], []), ([ui0, ui586, ui126, (0, 1), ui51, (0, 1), (0, 6), ui31, (0, 6), (0, 0), ui199], [ur1299, ur1345, ur1346, ur1356, ur1357, ur1358, ur1359, ur1360, ur1354, ur1355], [], [], [uV146], [uF2269, uF1865, uF2270], [uG1872, uG1868]), ([ui0, ui586, (0, 5), (0, 1), ui51, (0, 1), (0, 6), ui31, (0, 5), (0, 0), ui199], [ur1299, ur1345, ur1346, ur1356, ur1357, ur1358, ur1359, ur1360, ur1354, ur1355], [], [], [uV146], [uF2269, uF1865, uF2270], [uG1872, uG1868]), ([ui0, ui586, ui512, (0, 1), ui51, (0, 1), (0, 6), ui31, (0, 0), ui199], [ur1299, ur1345, ur1346, ur1356, ur1357, ur1358, ur1359, ur1360, ur1354, ur1355], [], [], [uV63], [uF2260, uF1865, uF2235], [uG1872, uG1868]), ([ui0, ui586, ui2271, (0, 1), ui51, (0, 1), (0, 6), ui31, ((-2), (-1)), (0, 0), ui199], [ur1299, ur1345, ur1346, ur1356, ur1357, ur1358, ur1359, ur1360, ur1354, ur1355], [], [], [uV146], [uF2269, uF1865, uF2270], [uG1872, uG1868]), ([ui0, ui800, ui51, (0, 1), ui51, (0, 1), (0, 6), ui31], [ur1299, ur1345, ur1346, ur1356, ur1357, ur1358, ur1359, ur1360, ur1354, ur1355], [], [], [uV63], [uF2000, uF2001, uF2267], []), ([ui0, ui265, ui51, (0, 1), ui51, (0, 1), (0, 6), ui31], [ur1299, ur1345, ur1346, ur1356, ur1357, ur1358, ur1359, ur1360, ur1354, ur1355], [], [], [uV63], [uF2000, uF2001, uF2267], [])], kc_85, 1000000465, 6, 129)
set_option maxRecDepth 1000000 in
theorem ck_634 : x_ok mLT1 [cx_547, cx_501, cx_614, cx_633] mTS2 mTC2 mRUp cx_634 [(1, [0]), (15, [1]), (19, [2]), (24, [3])] [] [] (28, []) 1000000437 31 = true := by decide +kernel
theorem sn_634 {W : Bool} {X : List Int32} : y_Snd (mGw W) mLT1 (J2 W X) X cx_634 := y_ok J2_J mTS2_ok1 mTC2_ok1 mRUp_ok1 (List.forall_mem_cons.mpr ⟨sn_547, List.forall_mem_cons.mpr ⟨sn_501, List.forall_mem_cons.mpr ⟨sn_614, List.forall_mem_cons.mpr ⟨sn_633, fun _ h => absurd h List.not_mem_nil⟩⟩⟩⟩) ck_634
/-- M.needed -/
def cx_635 : zCtx := (282, cx_630p, [([ui0, ui800, (0, 1), ui51, (0, 1), (0, 6), ui31], [ur1299, ur2236, ur1345, ur1346, ur1356, ur1357, ur1358, ur1359, ur1360, ur1354, ur1355], [], [], [uV63], [uF2097, uF2098, uF2250], []), ([ui0, ui265, (0, 1), ui51, (0, 1), (0, 6), ui31], [ur1299, ur2236, ur1345, ur1346, ur1356, ur1357, ur1358, ur1359, ur1360, ur1354, ur1355], [], [], [uV63], [uF2097, uF2098, uF2250], []), ([ui0, ui586, (0, 1), ui51, (0, 1), (0, 6), ui31, (0, 0), ui199], [ur1299, ur2236, ur1345, ur1346, ur1356, ur1357, ur1358, ur1359, ur1360, ur1354, ur1355], [], [], [uV569], [uF2266, uF1865, uF2231], [uG1872, uG1868]), ([ui0, ui586, (0, 1), ui51, (0, 1), (0, 6), ui31, ui845, (0, 0), ui199], [ur1299, ur2236, ur1345, ur1346, ur1356, ur1357, ur1358, ur1359, ur1360, ur1354, ur1355], [], [], [uV144], [uF2260, uF1865, uF2235], [uG1872, uG1868])], kc_84, 1000079814, 6, 129)
def cz_635_0i_0 (t : List (Int × Int)) : List (Int × Int) := ui0 :: ui586 :: (0, 1) :: ui51 :: (0, 1) :: (0, 6) :: ui31 :: ui2272 :: t
def cz_635_0i_1 (t : List (Int × Int)) : List (Int × Int) := (0, 6) :: ui199 :: ui2245 :: t
def cz_635_0 : zS := ((cz_635_0i_0 (cz_635_0i_1 [])), (cz_630_0r_0 (cz_630_0r_1 [])), [], [uV2, uV11, uV144, uV115, uV115], [], (cz_630_0f_0 (cz_630_0f_1 (cz_630_0f_2 []))), [uG1872, uG1868, uG2042, uG2145, uG2263])
def cz_635_1i_0 (t : List (Int × Int)) : List (Int × Int) := ui0 :: ui586 :: (0, 1) :: ui51 :: (0, 1) :: (0, 6) :: ui31 :: ui2272 :: t
def cz_635_1i_1 (t : List (Int × Int)) : List (Int × Int) := ui845 :: (0, 6) :: (1, 6) :: ui199 :: ui2245 :: t
def cz_635_1f_0 (t : List zFa) : List zFa := uF2273 :: uF1865 :: uF2274 :: uF2261 :: uF2262 :: uF2010 :: uF1995 :: uF2238 :: t
def cz_635_1f_1 (t : List zFa) : List zFa := uF2251 :: uF2252 :: uF2253 :: uF2254 :: uF2255 :: uF2256 :: uF2257 :: uF2258 :: t
def cz_635_1f_2 (t : List zFa) : List zFa := uF2259 :: t
def cz_635_1 : zS := ((cz_635_1i_0 (cz_635_1i_1 [])), (cz_630_0r_0 (cz_630_0r_1 [])), [], [uV2, uV11, uV144, uV146, uV779], [], (cz_635_1f_0 (cz_635_1f_1 (cz_635_1f_2 []))), [uG1872, uG1868, uG2042, uG2145, (8, [uL173, uL65, uL217])])
set_option maxRecDepth 1000000 in
theorem ck_635 : x_ok mLT1 [cx_547, cx_501, cx_614, cx_628, cx_629] mTS2 mTC2 mRUp cx_635 [(1, [0]), (10, [1]), (14, [2]), (25, [3]), (32, [4])] [(21, [29])] [(24, cz_635_0, (1000000008, [(10, (-1000))])), (47, cz_635_1, (1000000116, [(9, (-16)), (12, (-1000))]))] (1000000021, []) 79793 18 = true := by decide +kernel
theorem sn_635 {W : Bool} {X : List Int32} : y_Snd (mGw W) mLT1 (J2 W X) X cx_635 := y_ok J2_J mTS2_ok1 mTC2_ok1 mRUp_ok1 (List.forall_mem_cons.mpr ⟨sn_547, List.forall_mem_cons.mpr ⟨sn_501, List.forall_mem_cons.mpr ⟨sn_614, List.forall_mem_cons.mpr ⟨sn_628, List.forall_mem_cons.mpr ⟨sn_629, fun _ h => absurd h List.not_mem_nil⟩⟩⟩⟩⟩) ck_635
def cx_636pf_0 (t : List zFa) : List zFa := uF1995 :: uF2097 :: uF2098 :: uF2250 :: uF1361 :: uF1362 :: uF2002 :: uF2003 :: t
def cx_636pf_1 (t : List zFa) : List zFa := uF2004 :: uF2005 :: uF2006 :: uF1597 :: uF1598 :: t
def cx_636p : zS := ([ui0, ui51, (0, 1), ui51, (0, 1), (0, 6), ui31], (cx_589pr_0 (cx_589pr_1 [])), [], [], [uV2, uV11], (cx_636pf_0 (cx_636pf_1 [])), [uG2042, uG2145])
/-- M.soon -/
def cx_636 : zCtx := (283, cx_636p, [([ui0, ui800, (0, 1), ui51, (0, 1), (0, 6), ui31], [ur1299, ur1345, ur1346, ur1356, ur1357, ur1358, ur1359, ur1360, ur1354, ur1355], [], [], [uV63], [uF2097, uF2098, uF2250], []), ([ui0, ui265, (0, 1), ui51, (0, 1), (0, 6), ui31], [ur1299, ur1345, ur1346, ur1356, ur1357, ur1358, ur1359, ur1360, ur1354, ur1355], [], [], [uV63], [uF2097, uF2098, uF2250], []), ([ui0, ui586, (0, 1), ui51, (0, 1), (0, 6), ui31, ui1087, (0, 0), ui199], [ur1299, ur1345, ur1346, ur1356, ur1357, ur1358, ur1359, ur1360, ur1354, ur1355], [], [], [uV144], [uF2260, uF2219, uF2235], []), ([ui0, ui586, (0, 1), ui51, (0, 1), (0, 6), ui31, ui199, (0, 6)], [ur1299, ur1345, ur1346, ur1356, ur1357, ur1358, ur1359, ur1360, ur1354, ur1355], [], [], [uV569], [uF2219, uF2221, uF2260], [])], kc_86, 1000001332, 6, 129)
def cz_636_0i_0 (t : List (Int × Int)) : List (Int × Int) := ui0 :: ui586 :: (0, 1) :: ui51 :: (0, 1) :: (0, 6) :: ui31 :: ui845 :: t
def cz_636_0i_1 (t : List (Int × Int)) : List (Int × Int) := ui199 :: (0, 6) :: t
def cz_636_0f_0 (t : List zFa) : List zFa := uF2219 :: uF2231 :: uF1995 :: uF2269 :: uF1361 :: uF1362 :: uF2002 :: uF2003 :: t
def cz_636_0f_1 (t : List zFa) : List zFa := uF2004 :: uF2005 :: uF2006 :: uF1597 :: uF1598 :: t
def cz_636_0 : zS := ((cz_636_0i_0 (cz_636_0i_1 [])), (cx_589pr_0 (cx_589pr_1 [])), [], [uV2, uV11, uV144], [], (cz_636_0f_0 (cz_636_0f_1 [])), [uG2042, uG2145])
set_option maxRecDepth 1000000 in
theorem ck_636 : x_ok mLT1 [cx_547, cx_583, cx_614, cx_631, cx_596] mTS2 mTC2 mRUp cx_636 [(1, [0]), (10, [1]), (22, [2]), (26, [3]), (36, [4])] [] [(15, cz_636_0, (887, [(7, (-14))]))] (895, []) 1000000437 16 = true := by decide +kernel
theorem sn_636 {W : Bool} {X : List Int32} : y_Snd (mGw W) mLT1 (J2 W X) X cx_636 := y_ok J2_J mTS2_ok1 mTC2_ok1 mRUp_ok1 (List.forall_mem_cons.mpr ⟨sn_547, List.forall_mem_cons.mpr ⟨sn_583, List.forall_mem_cons.mpr ⟨sn_614, List.forall_mem_cons.mpr ⟨sn_631, List.forall_mem_cons.mpr ⟨sn_596, fun _ h => absurd h List.not_mem_nil⟩⟩⟩⟩⟩) ck_636
/-- M.likesMost -/
def cx_637 : zCtx := (286, ([ui0, ui126], [ur1299], [], [], [uV2, uV11], [], []), [([ui0, ui126], [ur1299], [], [], [], [], [])], [], 3, 0, 0)
set_option maxRecDepth 1000000 in
theorem ck_637 : x_ok mLT1 [] mTS2 mTC2 mRUp cx_637 [] [] [] (3, []) 0 6 = true := by decide +kernel
theorem sn_637 {W : Bool} {X : List Int32} : y_Snd (mGw W) mLT1 (J2 W X) X cx_637 := y_ok J2_J mTS2_ok1 mTC2_ok1 mRUp_ok1 (fun _ h => absurd h List.not_mem_nil) ck_637
/-- M.isPeace -/
def cx_638 : zCtx := (285, ([ui0, ui586, ui126, ui126, (0, 1), (0, 6)], [ur1299], [], [], [uV2, uV11, uV12, uV60], [uF2082, uF2250], []), [([ui0, ui586, ui126, ui126, (0, 1), (0, 6), (0, 0)], [ur1299], [], [], [uV66], [uF2267], []), ([ui0, ui586, ui126, ui126, (0, 1), (0, 6), (0, 0)], [ur1299], [], [], [uV64], [uF2267], [])], [uk2247, uk2275, uk2248], 1000001016, 4, 87)
set_option maxRecDepth 1000000 in
theorem ck_638 : x_ok mLT1 [cx_637, cx_631] mTS2 mTC2 mRUp cx_638 [(32, [0]), (37, [0]), (41, [1])] [] [(3, ([(0, 3072), (0, 999), ((-1), (-1)), ((-1), (-1)), (0, 1), (0, 6), (0, 40)], [(12, false)], [], [(2, 0, 0, []), (0, 0, 0, [(1, 1)]), (0, 0, 0, [(2, 1)]), (0, 0, 0, [(3, 1)]), (0, 0, 0, [(6, 1)])], [], [(0, (false, 18, 0, []), 0, 0, 0, [(4, 1)]), (0, (false, 61, 0, []), 0, 0, 0, [(5, 1)])], []), ((-100000000000), [(2, (-100000000000)), (3, (-576)), (6, (-14))]))] (579, []) 1000000437 19 = true := by decide +kernel
theorem sn_638 {W : Bool} {X : List Int32} : y_Snd (mGw W) mLT1 (J2 W X) X cx_638 := y_ok J2_J mTS2_ok1 mTC2_ok1 mRUp_ok1 (List.forall_mem_cons.mpr ⟨sn_637, List.forall_mem_cons.mpr ⟨sn_631, fun _ h => absurd h List.not_mem_nil⟩⟩) ck_638
/-- M.isPair -/
def cx_639 : zCtx := (287, ([ui0, (0, 9), (0, 1)], [ur1299], [], [], [uV2, uV11], [uF1995], []), [([ui0, (1, 5), (0, 1)], [ur1299], [], [], [uV66], [], []), ([ui0, (1, 9), (0, 1)], [ur1299], [], [], [uV64], [], []), ([ui0, (0, 0), (0, 1)], [ur1299], [], [], [uV64], [], [])], [], 36, 2, 43)
set_option maxRecDepth 1000000 in
theorem ck_639 : x_ok mLT1 [cx_612] mTS2 mTC2 mRUp cx_639 [(16, [0])] [] [] (16, []) 20 19 = true := by decide +kernel
theorem sn_639 {W : Bool} {X : List Int32} : y_Snd (mGw W) mLT1 (J2 W X) X cx_639 := y_ok J2_J mTS2_ok1 mTC2_ok1 mRUp_ok1 (List.forall_mem_cons.mpr ⟨sn_612, fun _ h => absurd h List.not_mem_nil⟩) ck_639
/-- M.isPair -/
def cx_640 : zCtx := (287, ([ui0, (10, 19), (0, 1)], [ur1299], [], [], [uV2, uV11], [uF1995], []), [([ui0, ui2276, (0, 1)], [ur1299], [], [], [uV66], [], []), ([ui0, (12, 19), (0, 1)], [ur1299], [], [], [uV64], [], []), ([ui0, (10, 11), (0, 1)], [ur1299], [], [], [uV64], [], [])], [], 36, 2, 43)
set_option maxRecDepth 1000000 in
theorem ck_640 : x_ok mLT1 [cx_612] mTS2 mTC2 mRUp cx_640 [(16, [0])] [] [] (16, []) 20 19 = true := by decide +kernel
theorem sn_640 {W : Bool} {X : List Int32} : y_Snd (mGw W) mLT1 (J2 W X) X cx_640 := y_ok J2_J mTS2_ok1 mTC2_ok1 mRUp_ok1 (List.forall_mem_cons.mpr ⟨sn_612, fun _ h => absurd h List.not_mem_nil⟩) ck_640
/-- M.isPair -/
def cx_641 : zCtx := (287, ([ui0, ui1853, (0, 1)], [ur1299], [], [], [uV2, uV11], [uF1995], []), [([ui0, ui2277, (0, 1)], [ur1299], [], [], [uV66], [], []), ([ui0, (23, 29), (0, 1)], [ur1299], [], [], [uV64], [], []), ([ui0, (20, 22), (0, 1)], [ur1299], [], [], [uV64], [], [])], [], 36, 2, 43)
set_option maxRecDepth 1000000 in
theorem ck_641 : x_ok mLT1 [cx_612] mTS2 mTC2 mRUp cx_641 [(16, [0])] [] [] (16, []) 20 19 = true := by decide +kernel
theorem sn_641 {W : Bool} {X : List Int32} : y_Snd (mGw W) mLT1 (J2 W X) X cx_641 := y_ok J2_J mTS2_ok1 mTC2_ok1 mRUp_ok1 (List.forall_mem_cons.mpr ⟨sn_612, fun _ h => absurd h List.not_mem_nil⟩) ck_641
/-- M.isPair -/
def cx_642 : zCtx := (287, ([ui0, (30, 39), (0, 1)], [ur1299], [], [], [uV2, uV11], [uF1995], []), [([ui0, ui2278, (0, 1)], [ur1299], [], [], [uV66], [], []), ([ui0, (34, 39), (0, 1)], [ur1299], [], [], [uV64], [], []), ([ui0, (30, 33), (0, 1)], [ur1299], [], [], [uV64], [], [])], [], 36, 2, 43)
set_option maxRecDepth 1000000 in
theorem ck_642 : x_ok mLT1 [cx_612] mTS2 mTC2 mRUp cx_642 [(16, [0])] [] [] (16, []) 20 19 = true := by decide +kernel
theorem sn_642 {W : Bool} {X : List Int32} : y_Snd (mGw W) mLT1 (J2 W X) X cx_642 := y_ok J2_J mTS2_ok1 mTC2_ok1 mRUp_ok1 (List.forall_mem_cons.mpr ⟨sn_612, fun _ h => absurd h List.not_mem_nil⟩) ck_642
/-- M.isPair -/
def cx_643 : zCtx := (287, ([ui0, (40, 49), (0, 1)], [ur1299], [], [], [uV2, uV11], [uF1995], []), [([ui0, ui2279, (0, 1)], [ur1299], [], [], [uV66], [], []), ([ui0, (45, 49), (0, 1)], [ur1299], [], [], [uV64], [], []), ([ui0, (40, 44), (0, 1)], [ur1299], [], [], [uV64], [], [])], [], 36, 2, 43)
set_option maxRecDepth 1000000 in
theorem ck_643 : x_ok mLT1 [cx_612] mTS2 mTC2 mRUp cx_643 [(16, [0])] [] [] (16, []) 20 19 = true := by decide +kernel
theorem sn_643 {W : Bool} {X : List Int32} : y_Snd (mGw W) mLT1 (J2 W X) X cx_643 := y_ok J2_J mTS2_ok1 mTC2_ok1 mRUp_ok1 (List.forall_mem_cons.mpr ⟨sn_612, fun _ h => absurd h List.not_mem_nil⟩) ck_643
/-- M.isPair -/
def cx_644 : zCtx := (287, ([ui0, (50, 59), (0, 1)], [ur1299], [], [], [uV2, uV11], [uF1995], []), [([ui0, (56, 59), (0, 1)], [ur1299], [], [], [uV64], [], []), ([ui0, (50, 55), (0, 1)], [ur1299], [], [], [uV64], [], [])], [], 35, 2, 43)
set_option maxRecDepth 1000000 in
theorem ck_644 : x_ok mLT1 [cx_612] mTS2 mTC2 mRUp cx_644 [(16, [0])] [] [] (15, []) 20 18 = true := by decide +kernel
theorem sn_644 {W : Bool} {X : List Int32} : y_Snd (mGw W) mLT1 (J2 W X) X cx_644 := y_ok J2_J mTS2_ok1 mTC2_ok1 mRUp_ok1 (List.forall_mem_cons.mpr ⟨sn_612, fun _ h => absurd h List.not_mem_nil⟩) ck_644
/-- M.likesMost -/
def cx_645 : zCtx := (286, ([ui0, (1, 5)], [ur1299], [], [], [uV2, uV11], [], []), [([ui0, (1, 5)], [ur1299], [], [], [], [], [])], [uk2275], 43, 0, 0)
set_option maxRecDepth 1000000 in
theorem ck_645 : x_ok mLT1 [] mTS2 mTC2 mRUp cx_645 [] [] [] (43, []) 0 46 = true := by decide +kernel
theorem sn_645 {W : Bool} {X : List Int32} : y_Snd (mGw W) mLT1 (J2 W X) X cx_645 := y_ok J2_J mTS2_ok1 mTC2_ok1 mRUp_ok1 (fun _ h => absurd h List.not_mem_nil) ck_645
/-- M.isPeace -/
def cx_646 : zCtx := (285, ([ui0, ui586, (1, 5), ui126, (0, 1), (0, 0)], [ur1299], [], [], [uV2, uV11, uV12, uV60], [uF2082, uF2250], []), [([ui0, ui586, (1, 5), ui126, (0, 1), (0, 0), (0, 0)], [ur1299], [], [], [uV66], [uF2267], []), ([ui0, ui586, (1, 5), ui126, (0, 1), (0, 0), (0, 0)], [ur1299], [], [], [uV64], [uF2267], [])], [uk2247, uk2275, uk2248], 1000001016, 4, 87)
set_option maxRecDepth 1000000 in
theorem ck_646 : x_ok mLT1 [cx_645, cx_637, cx_631] mTS2 mTC2 mRUp cx_646 [(32, [0]), (37, [1]), (41, [2])] [] [(3, ([(0, 3072), (0, 999), (1, 5), ((-1), (-1)), (0, 1), (0, 0), (0, 40)], [(12, false)], [], [(2, 0, 0, []), (0, 0, 0, [(1, 1)]), (0, 0, 0, [(2, 1)]), (0, 0, 0, [(3, 1)]), (0, 0, 0, [(6, 1)])], [], [(0, (false, 18, 0, []), 0, 0, 0, [(4, 1)]), (0, (false, 61, 0, []), 0, 0, 0, [(5, 1)])], []), ((-99999999424), [(3, (-100000000000)), (5, (-100000000000)), (6, (-14))]))] (579, []) 1000000437 19 = true := by decide +kernel
theorem sn_646 {W : Bool} {X : List Int32} : y_Snd (mGw W) mLT1 (J2 W X) X cx_646 := y_ok J2_J mTS2_ok1 mTC2_ok1 mRUp_ok1 (List.forall_mem_cons.mpr ⟨sn_645, List.forall_mem_cons.mpr ⟨sn_637, List.forall_mem_cons.mpr ⟨sn_631, fun _ h => absurd h List.not_mem_nil⟩⟩⟩) ck_646
/-- M.likesMost -/
def cx_647 : zCtx := (286, ([ui0, ui2276], [ur1299], [], [], [uV2, uV11], [], []), [([ui0, ui2276], [ur1299], [], [], [], [], [])], [uk2275], 43, 0, 0)
set_option maxRecDepth 1000000 in
theorem ck_647 : x_ok mLT1 [] mTS2 mTC2 mRUp cx_647 [] [] [] (43, []) 0 46 = true := by decide +kernel
theorem sn_647 {W : Bool} {X : List Int32} : y_Snd (mGw W) mLT1 (J2 W X) X cx_647 := y_ok J2_J mTS2_ok1 mTC2_ok1 mRUp_ok1 (fun _ h => absurd h List.not_mem_nil) ck_647
/-- M.isPeace -/
def cx_648 : zCtx := (285, ([ui0, ui586, ui2276, ui126, (0, 1), (0, 0)], [ur1299], [], [], [uV2, uV11, uV12, uV60], [uF2082, uF2250], []), [([ui0, ui586, ui2276, ui126, (0, 1), (0, 0), (0, 0)], [ur1299], [], [], [uV66], [uF2267], []), ([ui0, ui586, ui2276, ui126, (0, 1), (0, 0), (0, 0)], [ur1299], [], [], [uV64], [uF2267], [])], [uk2247, uk2275, uk2248], 1000001016, 4, 87)
set_option maxRecDepth 1000000 in
theorem ck_648 : x_ok mLT1 [cx_647, cx_637, cx_631] mTS2 mTC2 mRUp cx_648 [(32, [0]), (37, [1]), (41, [2])] [] [(3, ([(0, 3072), (0, 999), (12, 15), ((-1), (-1)), (0, 1), (0, 0), (0, 40)], [(12, false)], [], [(2, 0, 0, []), (0, 0, 0, [(1, 1)]), (0, 0, 0, [(2, 1)]), (0, 0, 0, [(3, 1)]), (0, 0, 0, [(6, 1)])], [], [(0, (false, 18, 0, []), 0, 0, 0, [(4, 1)]), (0, (false, 61, 0, []), 0, 0, 0, [(5, 1)])], []), ((-99999999424), [(3, (-100000000000)), (5, (-100000000000)), (6, (-14))]))] (579, []) 1000000437 19 = true := by decide +kernel
theorem sn_648 {W : Bool} {X : List Int32} : y_Snd (mGw W) mLT1 (J2 W X) X cx_648 := y_ok J2_J mTS2_ok1 mTC2_ok1 mRUp_ok1 (List.forall_mem_cons.mpr ⟨sn_647, List.forall_mem_cons.mpr ⟨sn_637, List.forall_mem_cons.mpr ⟨sn_631, fun _ h => absurd h List.not_mem_nil⟩⟩⟩) ck_648
/-- M.likesMost -/
def cx_649 : zCtx := (286, ([ui0, ui2277], [ur1299], [], [], [uV2, uV11], [], []), [([ui0, ui2277], [ur1299], [], [], [], [], [])], [uk2275], 43, 0, 0)
set_option maxRecDepth 1000000 in
theorem ck_649 : x_ok mLT1 [] mTS2 mTC2 mRUp cx_649 [] [] [] (43, []) 0 46 = true := by decide +kernel
theorem sn_649 {W : Bool} {X : List Int32} : y_Snd (mGw W) mLT1 (J2 W X) X cx_649 := y_ok J2_J mTS2_ok1 mTC2_ok1 mRUp_ok1 (fun _ h => absurd h List.not_mem_nil) ck_649
/-- M.isPeace -/
def cx_650 : zCtx := (285, ([ui0, ui586, ui2277, ui126, (0, 1), (0, 0)], [ur1299], [], [], [uV2, uV11, uV12, uV60], [uF2082, uF2250], []), [([ui0, ui586, ui2277, ui126, (0, 1), (0, 0), (0, 0)], [ur1299], [], [], [uV66], [uF2267], []), ([ui0, ui586, ui2277, ui126, (0, 1), (0, 0), (0, 0)], [ur1299], [], [], [uV64], [uF2267], [])], [uk2247, uk2275, uk2248], 1000001016, 4, 87)
set_option maxRecDepth 1000000 in
theorem ck_650 : x_ok mLT1 [cx_649, cx_637, cx_631] mTS2 mTC2 mRUp cx_650 [(32, [0]), (37, [1]), (41, [2])] [] [(3, ([(0, 3072), (0, 999), (23, 25), ((-1), (-1)), (0, 1), (0, 0), (0, 40)], [(12, false)], [], [(2, 0, 0, []), (0, 0, 0, [(1, 1)]), (0, 0, 0, [(2, 1)]), (0, 0, 0, [(3, 1)]), (0, 0, 0, [(6, 1)])], [], [(0, (false, 18, 0, []), 0, 0, 0, [(4, 1)]), (0, (false, 61, 0, []), 0, 0, 0, [(5, 1)])], []), ((-99999999424), [(3, (-100000000000)), (5, (-100000000000)), (6, (-14))]))] (579, []) 1000000437 19 = true := by decide +kernel
theorem sn_650 {W : Bool} {X : List Int32} : y_Snd (mGw W) mLT1 (J2 W X) X cx_650 := y_ok J2_J mTS2_ok1 mTC2_ok1 mRUp_ok1 (List.forall_mem_cons.mpr ⟨sn_649, List.forall_mem_cons.mpr ⟨sn_637, List.forall_mem_cons.mpr ⟨sn_631, fun _ h => absurd h List.not_mem_nil⟩⟩⟩) ck_650
/-- M.likesMost -/
def cx_651 : zCtx := (286, ([ui0, ui2278], [ur1299], [], [], [uV2, uV11], [], []), [([ui0, ui2278], [ur1299], [], [], [], [], [])], [uk2275], 43, 0, 0)
set_option maxRecDepth 1000000 in
theorem ck_651 : x_ok mLT1 [] mTS2 mTC2 mRUp cx_651 [] [] [] (43, []) 0 46 = true := by decide +kernel
theorem sn_651 {W : Bool} {X : List Int32} : y_Snd (mGw W) mLT1 (J2 W X) X cx_651 := y_ok J2_J mTS2_ok1 mTC2_ok1 mRUp_ok1 (fun _ h => absurd h List.not_mem_nil) ck_651
end
