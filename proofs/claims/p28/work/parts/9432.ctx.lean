noncomputable section
/-! ===== readings, by program, checked by the kernel ===== -/
/-- M.hold -/
def cx_739 : zCtx := (308, ([(0, 3072), (3, 2147483647), (0, 1), (0, 1), (0, 1)], [(12, false), (94, false), (77, false), (95, false)], [], [], [(2, 0, 0, []), (0, 0, 0, [(1, 1)])], [(0, (false, 69, 0, []), 2, 1, 0, []), (1, (true, 0, 0, []), 0, 0, 0, [(2, 1)]), (1, (true, 0, 1, []), 0, 0, 0, [(3, 1)]), (1, (true, 0, 2, []), 0, 0, 0, [(4, 1)]), (0, (false, 47, 0, []), 2, 2, 0, []), (0, (false, 70, 0, []), 2, 3, 0, [])], [(10, [((-1), [])]), (13, [((-1), [])])]), [([(0, 3072), (3, 2147483647), (0, 1), (0, 1), (0, 1)], [(12, false), (94, false), (77, false), (95, false)], [], [], [(0, 0, 0, [])], [(1, (true, 0, 0, []), 0, 0, 0, [(2, 1)]), (1, (true, 0, 1, []), 0, 0, 0, [(3, 1)]), (1, (true, 0, 2, []), 0, 0, 0, [(4, 1)])], [])], [], 16, 1, 22)
set_option maxRecDepth 1000000 in
theorem ck_739 : x_ok mLT1 [cx_505] mTS2 mTC2 mRUp cx_739 [(3, [0])] [] [] (7, []) 9 10 = true := by decide +kernel
theorem sn_739 {W : Bool} {X : List Int32} : y_Snd (mGw W) mLT1 (J2 W X) X cx_739 := y_ok J2_J mTS2_ok1 mTC2_ok1 mRUp_ok1 (List.forall_mem_cons.mpr ⟨sn_505, fun _ h => absurd h List.not_mem_nil⟩) ck_739
/-- M.hold -/
def cx_740 : zCtx := (308, ([(0, 3072), (0, 1), (0, 1), (0, 1), (0, 6), (0, 1), (0, 1), (0, 1)], [(12, false), (94, false), (77, false), (95, false)], [], [], [(2, 0, 0, []), (0, 0, 0, [])], [(0, (false, 69, 0, []), 2, 1, 0, []), (1, (true, 0, 0, []), 0, 0, 0, [(1, 1)]), (1, (true, 0, 1, []), 0, 0, 0, [(2, 1)]), (1, (true, 0, 2, []), 0, 0, 0, [(3, 1)]), (0, (false, 47, 0, []), 2, 2, 0, []), (0, (false, 70, 0, []), 2, 3, 0, [])], [(10, [((-1), [])]), (13, [((-1), [])]), (247, [(0, []), (0, [(4, 1)]), (0, [(5, 1)]), (0, [(6, 1)]), (0, [(7, 1)])]), (248, [(2, []), (0, [(4, 1)])])]), [([(0, 3072), (0, 1), (0, 1), (0, 1), (0, 6), (0, 1), (0, 1), (0, 1)], [(12, false), (94, false), (77, false), (95, false)], [], [], [(0, 0, 1, [])], [(1, (true, 0, 0, []), 0, 0, 1, []), (1, (true, 0, 1, []), 0, 0, 0, [(2, 1)]), (1, (true, 0, 2, []), 0, 0, 0, [(3, 1)])], [(246, [(0, [(4, 1)]), (1, []), (0, [(6, 1)]), (0, [(7, 1)])]), (13, [((-1), [])]), (13, [(0, [])]), (247, [(0, []), (0, [(4, 1)]), (0, [(5, 1)]), (0, [(6, 1)]), (0, [(7, 1)])]), (246, [(0, [(4, 1)]), (1, []), (0, [(6, 1)]), (0, [(7, 1)])])])], [(94, true, 0), (95, true, 0)], 587, 1, 22)
def cq_740 : List zCtx := [cx_505]
def cs_740 : List (Nat × List Nat) := [(3, [0])]
def hs_740 : List (Nat × List Nat) := [(11, [977]), (49, [210, 1000707, 1000708, 1000709])]
def ns_740 : List zN := []
set_option maxRecDepth 1000000 in
theorem ca_740 : x_okA mLT1 cq_740 mTS2 mTC2 mRUp cx_740 cs_740 hs_740 ns_740 (578, []) 9 581 = true := by decide +kernel
set_option maxRecDepth 1000000 in
theorem cc_740 : x_okC mLT1 cq_740 mTS2 mTC2 mRUp cx_740 cs_740 hs_740 ns_740 (578, []) 9 581 = true := by decide +kernel
theorem ck_740 : x_ok mLT1 cq_740 mTS2 mTC2 mRUp cx_740 cs_740 hs_740 ns_740 (578, []) 9 581 = true := x_ok_of ca_740 (fun _ h => absurd h List.not_mem_nil) cc_740
theorem sn_740 {W : Bool} {X : List Int32} : y_Snd (mGw W) mLT1 (J2 W X) X cx_740 := y_ok J2_J mTS2_ok1 mTC2_ok1 mRUp_ok1 (List.forall_mem_cons.mpr ⟨sn_505, fun _ h => absurd h List.not_mem_nil⟩) ck_740
/-- M.hold -/
def cx_741 : zCtx := (308, ([(0, 3072), (0, 1), (0, 1), (0, 1), (0, 6), (0, 1), (0, 1), (0, 1)], [(12, false), (94, false), (77, false), (95, false)], [], [], [(2, 0, 0, []), (0, 0, 1, [])], [(0, (false, 69, 0, []), 2, 1, 0, []), (1, (true, 0, 0, []), 0, 0, 0, [(1, 1)]), (1, (true, 0, 1, []), 0, 0, 0, [(2, 1)]), (1, (true, 0, 2, []), 0, 0, 0, [(3, 1)]), (0, (false, 47, 0, []), 2, 2, 0, []), (0, (false, 70, 0, []), 2, 3, 0, [])], [(10, [((-1), [])]), (13, [((-1), [])]), (247, [(1, []), (0, [(4, 1)]), (0, [(5, 1)]), (0, [(6, 1)]), (0, [(7, 1)])]), (248, [(3, []), (0, [(4, 1)])])]), [([(0, 3072), (0, 1), (0, 1), (0, 1), (0, 6), (0, 1), (0, 1), (0, 1)], [(12, false), (94, false), (77, false), (95, false)], [], [], [(0, 0, 1, [])], [(1, (true, 0, 1, []), 0, 0, 1, []), (1, (true, 0, 0, []), 0, 0, 0, [(1, 1)]), (1, (true, 0, 2, []), 0, 0, 0, [(3, 1)])], [(246, [(0, [(4, 1)]), (0, [(5, 1)]), (1, []), (0, [(7, 1)])]), (13, [((-1), [])]), (13, [(1, [])]), (247, [(1, []), (0, [(4, 1)]), (0, [(5, 1)]), (0, [(6, 1)]), (0, [(7, 1)])]), (246, [(0, [(4, 1)]), (0, [(5, 1)]), (1, []), (0, [(7, 1)])])])], [(94, true, 0), (95, true, 0)], 587, 1, 22)
def cq_741 : List zCtx := [cx_505]
def cs_741 : List (Nat × List Nat) := [(3, [0])]
def hs_741 : List (Nat × List Nat) := [(11, [977]), (49, [210, 1000707, 1000708, 1000709])]
def ns_741 : List zN := []
set_option maxRecDepth 1000000 in
theorem ca_741 : x_okA mLT1 cq_741 mTS2 mTC2 mRUp cx_741 cs_741 hs_741 ns_741 (578, []) 9 581 = true := by decide +kernel
set_option maxRecDepth 1000000 in
theorem cc_741 : x_okC mLT1 cq_741 mTS2 mTC2 mRUp cx_741 cs_741 hs_741 ns_741 (578, []) 9 581 = true := by decide +kernel
theorem ck_741 : x_ok mLT1 cq_741 mTS2 mTC2 mRUp cx_741 cs_741 hs_741 ns_741 (578, []) 9 581 = true := x_ok_of ca_741 (fun _ h => absurd h List.not_mem_nil) cc_741
theorem sn_741 {W : Bool} {X : List Int32} : y_Snd (mGw W) mLT1 (J2 W X) X cx_741 := y_ok J2_J mTS2_ok1 mTC2_ok1 mRUp_ok1 (List.forall_mem_cons.mpr ⟨sn_505, fun _ h => absurd h List.not_mem_nil⟩) ck_741
end
