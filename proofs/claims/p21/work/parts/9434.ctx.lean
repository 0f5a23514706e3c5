noncomputable section
/-! ===== readings, by program, checked by the kernel ===== -/
/-- M.hold -/
def cx_737 : zCtx := (308, ([ui0, (0, 1), (0, 1), (0, 1), (0, 6), (0, 1), (0, 1), (0, 1)], [ur1331, ur1904, ur1905, ur2380], [], [], [uV2, uV389], [uF2381, uF2387, uF2388, uF2389, uF2043, uF2385], [uG1900, uG2386, uG2396, (248, [uL36, uL98])]), [([ui0, (0, 1), (0, 1), (0, 1), (0, 6), (0, 1), (0, 1), (0, 1)], [ur1331, ur1904, ur1905, ur2380], [], [], [uV64], [(1, (true, 0, 2, []), 0, 0, 1, []), uF2387, uF2388], [uG2397, uG2386, (13, [uL114]), uG2396, uG2397])], [uk2392, uk2393], 587, 1, 22)
def cq_737 : List zCtx := [cx_504]
def cs_737 : List (Nat × List Nat) := [(3, [0])]
def hs_737 : List (Nat × List Nat) := [(11, [977]), (49, [210, 1000707, 1000708, 1000709])]
def ns_737 : List zN := []
set_option maxRecDepth 1000000 in
theorem ca_737 : x_okA mLT1 cq_737 mTS2 mTC2 mRUp cx_737 cs_737 hs_737 ns_737 (578, []) 9 581 = true := by decide +kernel
set_option maxRecDepth 1000000 in
theorem cc_737 : x_okC mLT1 cq_737 mTS2 mTC2 mRUp cx_737 cs_737 hs_737 ns_737 (578, []) 9 581 = true := by decide +kernel
theorem ck_737 : x_ok mLT1 cq_737 mTS2 mTC2 mRUp cx_737 cs_737 hs_737 ns_737 (578, []) 9 581 = true := x_ok_of ca_737 (fun _ h => absurd h List.not_mem_nil) cc_737
theorem sn_737 {W : Bool} {X : List Int32} : y_Snd (mGw W) mLT1 (J2 W X) X cx_737 := y_ok J2_J mTS2_ok1 mTC2_ok1 mRUp_ok1 (List.forall_mem_cons.mpr ⟨sn_504, fun _ h => absurd h List.not_mem_nil⟩) ck_737
/-- M.hold -/
def cx_738 : zCtx := (308, ([ui0, ui262, (0, 1), (0, 1), (0, 1)], [ur1331, ur1904, ur1905, ur2380], [], [], [uV2, uV11], [uF2381, uF2382, uF2383, uF2384, uF2043, uF2385], [uG1900, uG2386]), [([ui0, ui262, (0, 1), (0, 1), (0, 1)], [ur1331, ur1904, ur1905, ur2380], [], [], [uV62], [uF2382, uF2383, uF2384], [])], [], 16, 1, 22)
set_option maxRecDepth 1000000 in
theorem ck_738 : x_ok mLT1 [cx_504] mTS2 mTC2 mRUp cx_738 [(3, [0])] [] [] (7, []) 9 10 = true := by decide +kernel
theorem sn_738 {W : Bool} {X : List Int32} : y_Snd (mGw W) mLT1 (J2 W X) X cx_738 := y_ok J2_J mTS2_ok1 mTC2_ok1 mRUp_ok1 (List.forall_mem_cons.mpr ⟨sn_504, fun _ h => absurd h List.not_mem_nil⟩) ck_738
/-- M.restore -/
def cx_739 : zCtx := (309, ([ui0, ui1273, ui439, (0, 1), (0, 1), (0, 1), (0, 6), (0, 6), ui49, ui49], [ur1331, ur1904, ur1905, ur2380], [], [], [uV2, uV11], [uF2398, uF2381, uF2399, uF2400, uF2401, uF2043, uF2385], [uG1900, uG2386, uG1280]), [([ui0, ui1273, ui439, (0, 1), (0, 1), (0, 1), (0, 6), (0, 6), ui49, ui49], [ur1331, ur1904, ur1905, ur2380], [], [], [uV62], [uF2399, uF2400, uF2401], [uG1280])], [], 16, 1, 22)
set_option maxRecDepth 1000000 in
theorem ck_739 : x_ok mLT1 [cx_504] mTS2 mTC2 mRUp cx_739 [(3, [0])] [] [] (7, []) 9 10 = true := by decide +kernel
theorem sn_739 {W : Bool} {X : List Int32} : y_Snd (mGw W) mLT1 (J2 W X) X cx_739 := y_ok J2_J mTS2_ok1 mTC2_ok1 mRUp_ok1 (List.forall_mem_cons.mpr ⟨sn_504, fun _ h => absurd h List.not_mem_nil⟩) ck_739
/-- M.restore -/
def cx_740 : zCtx := (309, ([ui0, ui439, (0, 1), (0, 1), (0, 1), (0, 6), (0, 6), ui49, ui49], [ur1331, ur1904, ur1905, ur2380], [uL258], [], [uV2, uV62], [uF2132, uF2381, uF2382, uF2383, uF2384, uF2043, uF2385], [uG1900, uG2386, uG468]), [([ui0, ui439, (0, 0), (0, 1), (0, 1), (0, 6), (0, 6), ui49, ui49], [ur1331, ur1904, ur1905, ur2380], [uL258], [], [uV62], [uF2382, uF2383, uF2384], [uG468])], [], 21, 1, 22)
set_option maxRecDepth 1000000 in
theorem ck_740 : x_ok mLT1 [cx_504] mTS2 mTC2 mRUp cx_740 [(3, [0])] [] [] (12, []) 9 15 = true := by decide +kernel
theorem sn_740 {W : Bool} {X : List Int32} : y_Snd (mGw W) mLT1 (J2 W X) X cx_740 := y_ok J2_J mTS2_ok1 mTC2_ok1 mRUp_ok1 (List.forall_mem_cons.mpr ⟨sn_504, fun _ h => absurd h List.not_mem_nil⟩) ck_740
/-- M.restore -/
def cx_741 : zCtx := (309, ([ui0, ui439, (0, 1), (0, 1), (0, 1), (0, 6), (0, 6), ui49, ui49], [ur1331, ur1904, ur1905, ur2380], [uL793], [], [uV2, uV64], [uF2132, uF2381, uF2382, uF2383, uF2384, uF2043, uF2385], [uG1900, uG2386, uG468]), [([ui0, ui439, (0, 1), (0, 0), (0, 1), (0, 6), (0, 6), ui49, ui49], [ur1331, ur1904, ur1905, ur2380], [uL793], [], [uV62], [uF2382, uF2383, uF2384], [uG468])], [], 21, 1, 22)
set_option maxRecDepth 1000000 in
theorem ck_741 : x_ok mLT1 [cx_504] mTS2 mTC2 mRUp cx_741 [(3, [0])] [] [] (12, []) 9 15 = true := by decide +kernel
theorem sn_741 {W : Bool} {X : List Int32} : y_Snd (mGw W) mLT1 (J2 W X) X cx_741 := y_ok J2_J mTS2_ok1 mTC2_ok1 mRUp_ok1 (List.forall_mem_cons.mpr ⟨sn_504, fun _ h => absurd h List.not_mem_nil⟩) ck_741
/-- M.restore -/
def cx_742 : zCtx := (309, ([ui0, ui439, (0, 1), (0, 1), (0, 1), (0, 6), (0, 6), ui49, ui49], [ur1331, ur1904, ur1905, ur2380], [uL2402], [], [uV2, uV389], [uF2132, uF2381, uF2382, uF2383, uF2384, uF2043, uF2385], [uG1900, uG2386, uG468]), [([ui0, ui439, (0, 1), (0, 1), (0, 0), (0, 6), (0, 6), ui49, ui49], [ur1331, ur1904, ur1905, ur2380], [uL2402], [], [uV62], [uF2382, uF2383, uF2384], [uG468])], [], 21, 1, 22)
set_option maxRecDepth 1000000 in
theorem ck_742 : x_ok mLT1 [cx_504] mTS2 mTC2 mRUp cx_742 [(3, [0])] [] [] (12, []) 9 15 = true := by decide +kernel
theorem sn_742 {W : Bool} {X : List Int32} : y_Snd (mGw W) mLT1 (J2 W X) X cx_742 := y_ok J2_J mTS2_ok1 mTC2_ok1 mRUp_ok1 (List.forall_mem_cons.mpr ⟨sn_504, fun _ h => absurd h List.not_mem_nil⟩) ck_742
/-- M.restore -/
def cx_743 : zCtx := (309, ([ui0, ui439, (0, 1), (0, 1), (0, 1), (0, 6), (0, 6), ui49, ui49], [ur1331, ur1904, ur1905, ur2380], [], [], [uV2, uV62], [uF2132, uF2381, uF2382, uF2383, uF2384, uF2043, uF2385], [uG1900, uG2386, (249, [uL104, uL78, uL79, uL131, uL63])]), [([ui0, ui439, (0, 0), (0, 1), (0, 1), (0, 6), (0, 6), ui49, ui49], [ur1331, ur1904, ur1905, ur2380], [], [], [uV62], [uF2132, uF2382, uF2383, uF2384], [uG1900]), ([ui0, ui439, (1, 1), (0, 1), (0, 1), (0, 6), (0, 6), ui49, ui49], [ur1331, ur1904, ur1905, ur2380], [], [], [uV64], [uF1980, uF2382, uF2383, uF2384], [uG468, uG1900, uG1901, uG468])], [uk2135, uk1902], 590, 1, 22)
def cq_743 : List zCtx := [cx_504]
def cs_743 : List (Nat × List Nat) := [(3, [0])]
def hs_743 : List (Nat × List Nat) := [(20, [17]), (51, [3858, 1000710, 1000711, 1000712])]
def ns_743 : List zN := []
set_option maxRecDepth 1000000 in
theorem ca_743 : x_okA mLT1 cq_743 mTS2 mTC2 mRUp cx_743 cs_743 hs_743 ns_743 (581, []) 9 584 = true := by decide +kernel
set_option maxRecDepth 1000000 in
theorem cc_743 : x_okC mLT1 cq_743 mTS2 mTC2 mRUp cx_743 cs_743 hs_743 ns_743 (581, []) 9 584 = true := by decide +kernel
theorem ck_743 : x_ok mLT1 cq_743 mTS2 mTC2 mRUp cx_743 cs_743 hs_743 ns_743 (581, []) 9 584 = true := x_ok_of ca_743 (fun _ h => absurd h List.not_mem_nil) cc_743
theorem sn_743 {W : Bool} {X : List Int32} : y_Snd (mGw W) mLT1 (J2 W X) X cx_743 := y_ok J2_J mTS2_ok1 mTC2_ok1 mRUp_ok1 (List.forall_mem_cons.mpr ⟨sn_504, fun _ h => absurd h List.not_mem_nil⟩) ck_743
end
