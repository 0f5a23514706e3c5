/-! ===== readings, by program, checked by the kernel ===== -/
/-- M.hold -/
def cx_731 : zCtx := (308, ([(0, 3072), (0, 1), (0, 1), (0, 1), (0, 6), (0, 1), (0, 1), (0, 1)], [(12, false), (94, false), (77, false), (95, false)], [], [], [(2, 0, 0, []), (0, 0, 1, [])], [(0, (false, 69, 0, []), 2, 1, 0, []), (1, (true, 0, 0, []), 0, 0, 0, [(1, 1)]), (1, (true, 0, 1, []), 0, 0, 0, [(2, 1)]), (1, (true, 0, 2, []), 0, 0, 0, [(3, 1)]), (0, (false, 47, 0, []), 2, 2, 0, []), (0, (false, 70, 0, []), 2, 3, 0, [])], [(10, [((-1), [])]), (13, [((-1), [])]), (247, [(1, []), (0, [(4, 1)]), (0, [(5, 1)]), (0, [(6, 1)]), (0, [(7, 1)])]), (248, [(3, []), (0, [(4, 1)])])]), [([(0, 3072), (0, 1), (0, 1), (0, 1), (0, 6), (0, 1), (0, 1), (0, 1)], [(12, false), (94, false), (77, false), (95, false)], [], [], [(0, 0, 1, [])], [(1, (true, 0, 1, []), 0, 0, 1, []), (1, (true, 0, 0, []), 0, 0, 0, [(1, 1)]), (1, (true, 0, 2, []), 0, 0, 0, [(3, 1)])], [(246, [(0, [(4, 1)]), (0, [(5, 1)]), (1, []), (0, [(7, 1)])]), (13, [((-1), [])]), (13, [(1, [])]), (247, [(1, []), (0, [(4, 1)]), (0, [(5, 1)]), (0, [(6, 1)]), (0, [(7, 1)])]), (246, [(0, [(4, 1)]), (0, [(5, 1)]), (1, []), (0, [(7, 1)])])])], [(94, true, 0), (95, true, 0)], 587, 1, 22)
def cq_731 : List zCtx := [cx_503]
def cs_731 : List (Nat × List Nat) := [(3, [0])]
def hs_731 : List (Nat × List Nat) := [(11, [977]), (49, [210, 1000707, 1000708, 1000709])]
def ns_731 : List zN := []
set_option maxRecDepth 1000000 in
theorem ca_731 : x_okA mLT1 cq_731 mTS2 mTC2 mRUp cx_731 cs_731 hs_731 ns_731 (578, []) 9 581 = true := by decide +kernel
set_option maxRecDepth 1000000 in
theorem cc_731 : x_okC mLT1 cq_731 mTS2 mTC2 mRUp cx_731 cs_731 hs_731 ns_731 (578, []) 9 581 = true := by decide +kernel
theorem ck_731 : x_ok mLT1 cq_731 mTS2 mTC2 mRUp cx_731 cs_731 hs_731 ns_731 (578, []) 9 581 = true := x_ok_of ca_731 (fun _ h => absurd h List.not_mem_nil) cc_731
theorem sn_731 {W : Bool} {X : List Int32} : y_Snd (mGw W) mLT1 (J2 W X) X cx_731 := y_ok J2_J mTS2_ok1 mTC2_ok1 mRUp_ok1 (List.forall_mem_cons.mpr ⟨sn_503, fun _ h => absurd h List.not_mem_nil⟩) ck_731
/-- M.hold -/
def cx_732 : zCtx := (308, ([(0, 3072), (0, 1), (0, 1), (0, 1), (0, 6), (0, 1), (0, 1), (0, 1)], [(12, false), (94, false), (77, false), (95, false)], [], [], [(2, 0, 0, []), (0, 0, 2, [])], [(0, (false, 69, 0, []), 2, 1, 0, []), (1, (true, 0, 0, []), 0, 0, 0, [(1, 1)]), (1, (true, 0, 1, []), 0, 0, 0, [(2, 1)]), (1, (true, 0, 2, []), 0, 0, 0, [(3, 1)]), (0, (false, 47, 0, []), 2, 2, 0, []), (0, (false, 70, 0, []), 2, 3, 0, [])], [(10, [((-1), [])]), (13, [((-1), [])]), (247, [(2, []), (0, [(4, 1)]), (0, [(5, 1)]), (0, [(6, 1)]), (0, [(7, 1)])]), (248, [(4, []), (0, [(4, 1)])])]), [([(0, 3072), (0, 1), (0, 1), (0, 1), (0, 6), (0, 1), (0, 1), (0, 1)], [(12, false), (94, false), (77, false), (95, false)], [], [], [(0, 0, 1, [])], [(1, (true, 0, 2, []), 0, 0, 1, []), (1, (true, 0, 0, []), 0, 0, 0, [(1, 1)]), (1, (true, 0, 1, []), 0, 0, 0, [(2, 1)])], [(246, [(0, [(4, 1)]), (0, [(5, 1)]), (0, [(6, 1)]), (1, [])]), (13, [((-1), [])]), (13, [(2, [])]), (247, [(2, []), (0, [(4, 1)]), (0, [(5, 1)]), (0, [(6, 1)]), (0, [(7, 1)])]), (246, [(0, [(4, 1)]), (0, [(5, 1)]), (0, [(6, 1)]), (1, [])])])], [(94, true, 0), (95, true, 0)], 587, 1, 22)
def cq_732 : List zCtx := [cx_503]
def cs_732 : List (Nat × List Nat) := [(3, [0])]
def hs_732 : List (Nat × List Nat) := [(11, [977]), (49, [210, 1000707, 1000708, 1000709])]
def ns_732 : List zN := []
set_option maxRecDepth 1000000 in
theorem ca_732 : x_okA mLT1 cq_732 mTS2 mTC2 mRUp cx_732 cs_732 hs_732 ns_732 (578, []) 9 581 = true := by decide +kernel
set_option maxRecDepth 1000000 in
theorem cc_732 : x_okC mLT1 cq_732 mTS2 mTC2 mRUp cx_732 cs_732 hs_732 ns_732 (578, []) 9 581 = true := by decide +kernel
theorem ck_732 : x_ok mLT1 cq_732 mTS2 mTC2 mRUp cx_732 cs_732 hs_732 ns_732 (578, []) 9 581 = true := x_ok_of ca_732 (fun _ h => absurd h List.not_mem_nil) cc_732
theorem sn_732 {W : Bool} {X : List Int32} : y_Snd (mGw W) mLT1 (J2 W X) X cx_732 := y_ok J2_J mTS2_ok1 mTC2_ok1 mRUp_ok1 (List.forall_mem_cons.mpr ⟨sn_503, fun _ h => absurd h List.not_mem_nil⟩) ck_732
