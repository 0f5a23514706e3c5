/-! ===== readings, by program, checked by the kernel ===== -/
/-- M.records -/
def cx_383 : zCtx := (244, ([(0, 3072), (0, 40)], [(12, false)], [], [], [(2, 0, 0, [])], [(0, (false, 53, 0, []), 0, 0, 0, [(1, 1)])], [(12, [((-1), [])]), (10, [((-1), [])]), (11, [((-1), [])])]), [([(0, 3072), (0, 39)], [(12, false)], [], [], [], [(0, (false, 53, 0, []), 0, 0, 1, [(1, 1)])], [(10, [((-1), [])]), (10, [(0, [])]), (12, [((-1), [])]), (12, [(0, [(1, 1)])])]), ([(0, 3072), (40, 40)], [(12, false)], [], [], [], [(0, (false, 53, 0, []), 0, 0, 0, [(1, 1)])], [(10, [((-1), [])]), (10, [(0, [])]), (12, [((-1), [])]), (12, [(39, [])])])], [(12, false, 53), (77, true, 0), (81, true, 0)], 1305395, 1, 21)
def cq_383 : List zCtx := [cx_352]
def cs_383 : List (Nat × List Nat) := [(94, [0])]
def hs_383 : List (Nat × List Nat) := [(10, [26]), (33, [27]), (39, [28]), (49, [401]), (83, [146])]
def nd_383_0 : zN := (11, ([(0, 3072), (40, 40), (0, 2000)], [(12, false)], [(1287, [(2, (-1))])], [(2, 0, 0, []), (0, 0, 0, [(2, 1)])], [], [(0, (false, 53, 0, []), 0, 0, 0, [(1, 1)])], [(10, [((-1), [])]), (11, [((-1), [])]), (7, [(0, [(2, 1)])])]), ((-4000000000000), [(1, 100000032617), (2, (-640))]))
def ns_383 : List zN := [nd_383_0]
set_option maxRecDepth 1000000 in
theorem ca_383 : x_okA mLT1 cq_383 mTS2 mTC2 mRUp cx_383 cs_383 hs_383 ns_383 (1304960, []) 435 620 = true := by decide +kernel
set_option maxRecDepth 1000000 in
theorem cb_383_0 : x_okB mLT1 cq_383 mTS2 mTC2 mRUp cx_383 cs_383 hs_383 ns_383 (1304960, []) 435 620 nd_383_0 = true := by decide +kernel
set_option maxRecDepth 1000000 in
theorem cc_383 : x_okC mLT1 cq_383 mTS2 mTC2 mRUp cx_383 cs_383 hs_383 ns_383 (1304960, []) 435 620 = true := by decide +kernel
theorem ck_383 : x_ok mLT1 cq_383 mTS2 mTC2 mRUp cx_383 cs_383 hs_383 ns_383 (1304960, []) 435 620 = true := x_ok_of ca_383 (List.forall_mem_cons.mpr ⟨cb_383_0, fun _ h => absurd h List.not_mem_nil⟩) cc_383
theorem sn_383 {W : Bool} {X : List Int32} : y_Snd (mGw W) mLT1 (J2 W X) X cx_383 := y_ok J2_J mTS2_ok1 mTC2_ok1 mRUp_ok1 (List.forall_mem_cons.mpr ⟨sn_352, fun _ h => absurd h List.not_mem_nil⟩) ck_383
