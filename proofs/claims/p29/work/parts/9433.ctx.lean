/-! ===== readings, by program, checked by the kernel ===== -/
/-- M.hold -/
def cx_777 : zCtx := (308, ([(0, 3072), (0, 1), (0, 1), (0, 1), (0, 6), (0, 1), (0, 1), (0, 1)], [(12, false), (94, false), (77, false), (95, false)], [], [], [(2, 0, 0, []), (0, 0, 1, [])], [(0, (false, 69, 0, []), 2, 1, 0, []), (1, (true, 0, 0, []), 0, 0, 0, [(1, 1)]), (1, (true, 0, 1, []), 0, 0, 0, [(2, 1)]), (1, (true, 0, 2, []), 0, 0, 0, [(3, 1)]), (0, (false, 47, 0, []), 2, 2, 0, []), (0, (false, 70, 0, []), 2, 3, 0, [])], [(10, [((-1), [])]), (13, [((-1), [])]), (247, [(1, []), (0, [(4, 1)]), (0, [(5, 1)]), (0, [(6, 1)]), (0, [(7, 1)])]), (248, [(3, []), (0, [(4, 1)])])]), [([(0, 3072), (0, 1), (0, 1), (0, 1), (0, 6), (0, 1), (0, 1), (0, 1)], [(12, false), (94, false), (77, false), (95, false)], [], [], [(0, 0, 1, [])], [(1, (true, 0, 1, []), 0, 0, 1, []), (1, (true, 0, 0, []), 0, 0, 0, [(1, 1)]), (1, (true, 0, 2, []), 0, 0, 0, [(3, 1)])], [(246, [(0, [(4, 1)]), (0, [(5, 1)]), (1, []), (0, [(7, 1)])]), (13, [((-1), [])]), (13, [(1, [])]), (247, [(1, []), (0, [(4, 1)]), (0, [(5, 1)]), (0, [(6, 1)]), (0, [(7, 1)])]), (246, [(0, [(4, 1)]), (0, [(5, 1)]), (1, []), (0, [(7, 1)])])])], [(94, true, 0), (95, true, 0)], 587, 1, 22)
def cq_777 : List zCtx := [cx_553]
def cs_777 : List (Nat × List Nat) := [(3, [0])]
def hs_777 : List (Nat × List Nat) := [(11, [977]), (49, [210, 1000707, 1000708, 1000709])]
def ns_777 : List zN := []
set_option maxRecDepth 1000000 in
theorem ca_777 : x_okA mLT1 cq_777 mTS2 mTC2 mRUp cx_777 cs_777 hs_777 ns_777 (578, []) 9 581 = true := by decide +kernel
set_option maxRecDepth 1000000 in
theorem cc_777 : x_okC mLT1 cq_777 mTS2 mTC2 mRUp cx_777 cs_777 hs_777 ns_777 (578, []) 9 581 = true := by decide +kernel
theorem ck_777 : x_ok mLT1 cq_777 mTS2 mTC2 mRUp cx_777 cs_777 hs_777 ns_777 (578, []) 9 581 = true := x_ok_of ca_777 (fun _ h => absurd h List.not_mem_nil) cc_777
theorem sn_777 {W : Bool} {X : List Int32} : y_Snd (mGw W) mLT1 (J2 W X) X cx_777 := y_ok J2_J mTS2_ok1 mTC2_ok1 mRUp_ok1 (List.forall_mem_cons.mpr ⟨sn_553, fun _ h => absurd h List.not_mem_nil⟩) ck_777
/-- M.hold -/
def cx_778 : zCtx := (308, ([(0, 3072), (0, 1), (0, 1), (0, 1), (0, 6), (0, 1), (0, 1), (0, 1)], [(12, false), (94, false), (77, false), (95, false)], [], [], [(2, 0, 0, []), (0, 0, 2, [])], [(0, (false, 69, 0, []), 2, 1, 0, []), (1, (true, 0, 0, []), 0, 0, 0, [(1, 1)]), (1, (true, 0, 1, []), 0, 0, 0, [(2, 1)]), (1, (true, 0, 2, []), 0, 0, 0, [(3, 1)]), (0, (false, 47, 0, []), 2, 2, 0, []), (0, (false, 70, 0, []), 2, 3, 0, [])], [(10, [((-1), [])]), (13, [((-1), [])]), (247, [(2, []), (0, [(4, 1)]), (0, [(5, 1)]), (0, [(6, 1)]), (0, [(7, 1)])]), (248, [(4, []), (0, [(4, 1)])])]), [([(0, 3072), (0, 1), (0, 1), (0, 1), (0, 6), (0, 1), (0, 1), (0, 1)], [(12, false), (94, false), (77, false), (95, false)], [], [], [(0, 0, 1, [])], [(1, (true, 0, 2, []), 0, 0, 1, []), (1, (true, 0, 0, []), 0, 0, 0, [(1, 1)]), (1, (true, 0, 1, []), 0, 0, 0, [(2, 1)])], [(246, [(0, [(4, 1)]), (0, [(5, 1)]), (0, [(6, 1)]), (1, [])]), (13, [((-1), [])]), (13, [(2, [])]), (247, [(2, []), (0, [(4, 1)]), (0, [(5, 1)]), (0, [(6, 1)]), (0, [(7, 1)])]), (246, [(0, [(4, 1)]), (0, [(5, 1)]), (0, [(6, 1)]), (1, [])])])], [(94, true, 0), (95, true, 0)], 587, 1, 22)
def cq_778 : List zCtx := [cx_553]
def cs_778 : List (Nat × List Nat) := [(3, [0])]
def hs_778 : List (Nat × List Nat) := [(11, [977]), (49, [210, 1000707, 1000708, 1000709])]
def ns_778 : List zN := []
set_option maxRecDepth 1000000 in
theorem ca_778 : x_okA mLT1 cq_778 mTS2 mTC2 mRUp cx_778 cs_778 hs_778 ns_778 (578, []) 9 581 = true := by decide +kernel
set_option maxRecDepth 1000000 in
theorem cc_778 : x_okC mLT1 cq_778 mTS2 mTC2 mRUp cx_778 cs_778 hs_778 ns_778 (578, []) 9 581 = true := by decide +kernel
theorem ck_778 : x_ok mLT1 cq_778 mTS2 mTC2 mRUp cx_778 cs_778 hs_778 ns_778 (578, []) 9 581 = true := x_ok_of ca_778 (fun _ h => absurd h List.not_mem_nil) cc_778
theorem sn_778 {W : Bool} {X : List Int32} : y_Snd (mGw W) mLT1 (J2 W X) X cx_778 := y_ok J2_J mTS2_ok1 mTC2_ok1 mRUp_ok1 (List.forall_mem_cons.mpr ⟨sn_553, fun _ h => absurd h List.not_mem_nil⟩) ck_778
