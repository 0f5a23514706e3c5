/-! ===== readings, by program, checked by the kernel ===== -/
/-- M.restore -/
def cx_520 : zCtx := (309, ([(0, 3072), (0, 40), (0, 1), (0, 1), (0, 1)], [(12, false), (94, false)], [], [], [(2, 0, 0, []), (0, 0, 1, [])], [(0, (false, 53, 0, []), 0, 0, 0, [(1, 1)]), (0, (false, 69, 0, []), 2, 1, 0, []), (1, (true, 0, 0, []), 0, 0, 0, [(2, 1)]), (1, (true, 0, 1, []), 0, 0, 0, [(3, 1)]), (1, (true, 0, 2, []), 0, 0, 0, [(4, 1)])], [(10, [((-1), [])]), (13, [((-1), [])])]), [([(0, 3072), (0, 40), (0, 1), (0, 0), (0, 1)], [(12, false), (94, false)], [], [], [(0, 0, 0, [])], [(0, (false, 53, 0, []), 0, 0, 0, [(1, 1)]), (1, (true, 0, 0, []), 0, 0, 0, [(2, 1)]), (1, (true, 0, 1, []), 0, 0, 0, [(3, 1)]), (1, (true, 0, 2, []), 0, 0, 0, [(4, 1)])], [(10, [((-1), [])])]), ([(0, 3072), (0, 40), (0, 1), (1, 1), (0, 1)], [(12, false), (94, false)], [], [], [(0, 0, 1, [])], [(0, (false, 53, 0, []), 0, 0, 0, []), (1, (true, 0, 0, []), 0, 0, 0, [(2, 1)]), (1, (true, 0, 1, []), 0, 0, 0, [(3, 1)]), (1, (true, 0, 2, []), 0, 0, 0, [(4, 1)])], [(10, [((-1), [])]), (10, [(0, [])])])], [(12, false, 53), (77, true, 0)], 590, 1, 22)
def cq_520 : List zCtx := [cx_368]
def cs_520 : List (Nat × List Nat) := [(3, [0])]
def hs_520 : List (Nat × List Nat) := [(20, [17]), (51, [3858])]
def ns_520 : List zN := []
set_option maxRecDepth 1000000 in
theorem ca_520 : x_okA mLT1 cq_520 mTS2 mTC2 mRUp cx_520 cs_520 hs_520 ns_520 (581, []) 9 584 = true := by decide +kernel
set_option maxRecDepth 1000000 in
theorem cc_520 : x_okC mLT1 cq_520 mTS2 mTC2 mRUp cx_520 cs_520 hs_520 ns_520 (581, []) 9 584 = true := by decide +kernel
theorem ck_520 : x_ok mLT1 cq_520 mTS2 mTC2 mRUp cx_520 cs_520 hs_520 ns_520 (581, []) 9 584 = true := x_ok_of ca_520 (fun _ h => absurd h List.not_mem_nil) cc_520
theorem sn_520 {W : Bool} {X : List Int32} : y_Snd (mGw W) mLT1 (J2 W X) X cx_520 := y_ok J2_J mTS2_ok1 mTC2_ok1 mRUp_ok1 (List.forall_mem_cons.mpr ⟨sn_368, fun _ h => absurd h List.not_mem_nil⟩) ck_520
/-- M.restore -/
def cx_521 : zCtx := (309, ([(0, 3072), (0, 40), (0, 1), (0, 1), (0, 1)], [(12, false), (94, false)], [], [], [(2, 0, 0, []), (0, 0, 2, [])], [(0, (false, 53, 0, []), 0, 0, 0, [(1, 1)]), (0, (false, 69, 0, []), 2, 1, 0, []), (1, (true, 0, 0, []), 0, 0, 0, [(2, 1)]), (1, (true, 0, 1, []), 0, 0, 0, [(3, 1)]), (1, (true, 0, 2, []), 0, 0, 0, [(4, 1)])], [(10, [((-1), [])]), (13, [((-1), [])])]), [([(0, 3072), (0, 40), (0, 1), (0, 1), (0, 0)], [(12, false), (94, false)], [], [], [(0, 0, 0, [])], [(0, (false, 53, 0, []), 0, 0, 0, [(1, 1)]), (1, (true, 0, 0, []), 0, 0, 0, [(2, 1)]), (1, (true, 0, 1, []), 0, 0, 0, [(3, 1)]), (1, (true, 0, 2, []), 0, 0, 0, [(4, 1)])], [(10, [((-1), [])])]), ([(0, 3072), (0, 40), (0, 1), (0, 1), (1, 1)], [(12, false), (94, false)], [], [], [(0, 0, 1, [])], [(0, (false, 53, 0, []), 0, 0, 0, []), (1, (true, 0, 0, []), 0, 0, 0, [(2, 1)]), (1, (true, 0, 1, []), 0, 0, 0, [(3, 1)]), (1, (true, 0, 2, []), 0, 0, 0, [(4, 1)])], [(10, [((-1), [])]), (10, [(0, [])])])], [(12, false, 53), (77, true, 0)], 590, 1, 22)
def cq_521 : List zCtx := [cx_368]
def cs_521 : List (Nat × List Nat) := [(3, [0])]
def hs_521 : List (Nat × List Nat) := [(20, [17]), (51, [3858])]
def ns_521 : List zN := []
set_option maxRecDepth 1000000 in
theorem ca_521 : x_okA mLT1 cq_521 mTS2 mTC2 mRUp cx_521 cs_521 hs_521 ns_521 (581, []) 9 584 = true := by decide +kernel
set_option maxRecDepth 1000000 in
theorem cc_521 : x_okC mLT1 cq_521 mTS2 mTC2 mRUp cx_521 cs_521 hs_521 ns_521 (581, []) 9 584 = true := by decide +kernel
theorem ck_521 : x_ok mLT1 cq_521 mTS2 mTC2 mRUp cx_521 cs_521 hs_521 ns_521 (581, []) 9 584 = true := x_ok_of ca_521 (fun _ h => absurd h List.not_mem_nil) cc_521
theorem sn_521 {W : Bool} {X : List Int32} : y_Snd (mGw W) mLT1 (J2 W X) X cx_521 := y_ok J2_J mTS2_ok1 mTC2_ok1 mRUp_ok1 (List.forall_mem_cons.mpr ⟨sn_368, fun _ h => absurd h List.not_mem_nil⟩) ck_521
