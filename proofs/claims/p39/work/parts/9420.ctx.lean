/-! ===== readings, by program, checked by the kernel ===== -/
/-- M.hold -/
def cx_516 : zCtx := (308, ([(0, 3072), (0, 1), (0, 1), (0, 1)], [(12, false), (94, false)], [], [], [(2, 0, 0, []), (0, 0, 2, [])], [(0, (false, 69, 0, []), 2, 1, 0, []), (1, (true, 0, 0, []), 0, 0, 0, [(1, 1)]), (1, (true, 0, 1, []), 0, 0, 0, [(2, 1)]), (1, (true, 0, 2, []), 0, 0, 0, [(3, 1)])], [(10, [((-1), [])]), (13, [((-1), [])])]), [([(0, 3072), (0, 1), (0, 1), (0, 1)], [(12, false), (94, false)], [], [], [(0, 0, 1, [])], [(1, (true, 0, 2, []), 0, 0, 1, []), (1, (true, 0, 0, []), 0, 0, 0, [(1, 1)]), (1, (true, 0, 1, []), 0, 0, 0, [(2, 1)])], [(13, [((-1), [])]), (13, [(2, [])])])], [(94, true, 0), (95, true, 0)], 587, 1, 22)
def cq_516 : List zCtx := [cx_368]
def cs_516 : List (Nat × List Nat) := [(3, [0])]
def hs_516 : List (Nat × List Nat) := [(11, [977]), (49, [210])]
def ns_516 : List zN := []
set_option maxRecDepth 1000000 in
theorem ca_516 : x_okA mLT1 cq_516 mTS2 mTC2 mRUp cx_516 cs_516 hs_516 ns_516 (578, []) 9 581 = true := by decide +kernel
set_option maxRecDepth 1000000 in
theorem cc_516 : x_okC mLT1 cq_516 mTS2 mTC2 mRUp cx_516 cs_516 hs_516 ns_516 (578, []) 9 581 = true := by decide +kernel
theorem ck_516 : x_ok mLT1 cq_516 mTS2 mTC2 mRUp cx_516 cs_516 hs_516 ns_516 (578, []) 9 581 = true := x_ok_of ca_516 (fun _ h => absurd h List.not_mem_nil) cc_516
theorem sn_516 {W : Bool} {X : List Int32} : y_Snd (mGw W) mLT1 (J2 W X) X cx_516 := y_ok J2_J mTS2_ok1 mTC2_ok1 mRUp_ok1 (List.forall_mem_cons.mpr ⟨sn_368, fun _ h => absurd h List.not_mem_nil⟩) ck_516
/-- M.hold -/
def cx_517 : zCtx := (308, ([(0, 3072), ((-2147483648), (-1)), (0, 1), (0, 1), (0, 1)], [(12, false), (94, false)], [], [], [(2, 0, 0, []), (0, 0, 0, [(1, 1)])], [(0, (false, 69, 0, []), 2, 1, 0, []), (1, (true, 0, 0, []), 0, 0, 0, [(2, 1)]), (1, (true, 0, 1, []), 0, 0, 0, [(3, 1)]), (1, (true, 0, 2, []), 0, 0, 0, [(4, 1)])], [(10, [((-1), [])]), (13, [((-1), [])])]), [([(0, 3072), ((-2147483648), (-1)), (0, 1), (0, 1), (0, 1)], [(12, false), (94, false)], [], [], [(0, 0, 0, [])], [(1, (true, 0, 0, []), 0, 0, 0, [(2, 1)]), (1, (true, 0, 1, []), 0, 0, 0, [(3, 1)]), (1, (true, 0, 2, []), 0, 0, 0, [(4, 1)])], [])], [], 16, 1, 22)
set_option maxRecDepth 1000000 in
theorem ck_517 : x_ok mLT1 [cx_368] mTS2 mTC2 mRUp cx_517 [(3, [0])] [] [] (7, []) 9 10 = true := by decide +kernel
theorem sn_517 {W : Bool} {X : List Int32} : y_Snd (mGw W) mLT1 (J2 W X) X cx_517 := y_ok J2_J mTS2_ok1 mTC2_ok1 mRUp_ok1 (List.forall_mem_cons.mpr ⟨sn_368, fun _ h => absurd h List.not_mem_nil⟩) ck_517
/-- M.restore -/
def cx_518 : zCtx := (309, ([(0, 3072), (3, 2147483647), (0, 40), (0, 1), (0, 1), (0, 1)], [(12, false), (94, false)], [], [], [(2, 0, 0, []), (0, 0, 0, [(1, 1)])], [(0, (false, 53, 0, []), 0, 0, 0, [(2, 1)]), (0, (false, 69, 0, []), 2, 1, 0, []), (1, (true, 0, 0, []), 0, 0, 0, [(3, 1)]), (1, (true, 0, 1, []), 0, 0, 0, [(4, 1)]), (1, (true, 0, 2, []), 0, 0, 0, [(5, 1)])], [(10, [((-1), [])]), (13, [((-1), [])])]), [([(0, 3072), (3, 2147483647), (0, 40), (0, 1), (0, 1), (0, 1)], [(12, false), (94, false)], [], [], [(0, 0, 0, [])], [(1, (true, 0, 0, []), 0, 0, 0, [(3, 1)]), (1, (true, 0, 1, []), 0, 0, 0, [(4, 1)]), (1, (true, 0, 2, []), 0, 0, 0, [(5, 1)])], [])], [], 16, 1, 22)
set_option maxRecDepth 1000000 in
theorem ck_518 : x_ok mLT1 [cx_368] mTS2 mTC2 mRUp cx_518 [(3, [0])] [] [] (7, []) 9 10 = true := by decide +kernel
theorem sn_518 {W : Bool} {X : List Int32} : y_Snd (mGw W) mLT1 (J2 W X) X cx_518 := y_ok J2_J mTS2_ok1 mTC2_ok1 mRUp_ok1 (List.forall_mem_cons.mpr ⟨sn_368, fun _ h => absurd h List.not_mem_nil⟩) ck_518
/-- M.restore -/
def cx_519 : zCtx := (309, ([(0, 3072), (0, 40), (0, 1), (0, 1), (0, 1)], [(12, false), (94, false)], [], [], [(2, 0, 0, []), (0, 0, 0, [])], [(0, (false, 53, 0, []), 0, 0, 0, [(1, 1)]), (0, (false, 69, 0, []), 2, 1, 0, []), (1, (true, 0, 0, []), 0, 0, 0, [(2, 1)]), (1, (true, 0, 1, []), 0, 0, 0, [(3, 1)]), (1, (true, 0, 2, []), 0, 0, 0, [(4, 1)])], [(10, [((-1), [])]), (13, [((-1), [])])]), [([(0, 3072), (0, 40), (0, 0), (0, 1), (0, 1)], [(12, false), (94, false)], [], [], [(0, 0, 0, [])], [(0, (false, 53, 0, []), 0, 0, 0, [(1, 1)]), (1, (true, 0, 0, []), 0, 0, 0, [(2, 1)]), (1, (true, 0, 1, []), 0, 0, 0, [(3, 1)]), (1, (true, 0, 2, []), 0, 0, 0, [(4, 1)])], [(10, [((-1), [])])]), ([(0, 3072), (0, 40), (1, 1), (0, 1), (0, 1)], [(12, false), (94, false)], [], [], [(0, 0, 1, [])], [(0, (false, 53, 0, []), 0, 0, 0, []), (1, (true, 0, 0, []), 0, 0, 0, [(2, 1)]), (1, (true, 0, 1, []), 0, 0, 0, [(3, 1)]), (1, (true, 0, 2, []), 0, 0, 0, [(4, 1)])], [(10, [((-1), [])]), (10, [(0, [])])])], [(12, false, 53), (77, true, 0)], 590, 1, 22)
def cq_519 : List zCtx := [cx_368]
def cs_519 : List (Nat × List Nat) := [(3, [0])]
def hs_519 : List (Nat × List Nat) := [(20, [17]), (51, [3858])]
def ns_519 : List zN := []
set_option maxRecDepth 1000000 in
theorem ca_519 : x_okA mLT1 cq_519 mTS2 mTC2 mRUp cx_519 cs_519 hs_519 ns_519 (581, []) 9 584 = true := by decide +kernel
set_option maxRecDepth 1000000 in
theorem cc_519 : x_okC mLT1 cq_519 mTS2 mTC2 mRUp cx_519 cs_519 hs_519 ns_519 (581, []) 9 584 = true := by decide +kernel
theorem ck_519 : x_ok mLT1 cq_519 mTS2 mTC2 mRUp cx_519 cs_519 hs_519 ns_519 (581, []) 9 584 = true := x_ok_of ca_519 (fun _ h => absurd h List.not_mem_nil) cc_519
theorem sn_519 {W : Bool} {X : List Int32} : y_Snd (mGw W) mLT1 (J2 W X) X cx_519 := y_ok J2_J mTS2_ok1 mTC2_ok1 mRUp_ok1 (List.forall_mem_cons.mpr ⟨sn_368, fun _ h => absurd h List.not_mem_nil⟩) ck_519
