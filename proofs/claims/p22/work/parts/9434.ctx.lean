noncomputable section
/-! ===== readings, by program, checked by the kernel ===== -/
/-- M.hold -/
def cx_767 : zCtx := (308, ([ui0, (0, 1), (0, 1), (0, 1), (0, 6), (0, 1), (0, 1), (0, 1)], [ur1474, ur2046, ur2047, ur2564], [], [], [uV2, uV64], [uF2565, uF2571, uF2572, uF2573, uF2185, uF2569], [uG2042, uG2570, uG2578, (248, [uL209, uL98])]), [([ui0, (0, 1), (0, 1), (0, 1), (0, 6), (0, 1), (0, 1), (0, 1)], [ur1474, ur2046, ur2047, ur2564], [], [], [uV64], [(1, (true, 0, 1, []), 0, 0, 1, []), uF2571, uF2573], [uG2579, uG2570, (13, [uL65]), uG2578, uG2579])], [uk2576, uk2577], 587, 1, 22)
def cq_767 : List zCtx := [cx_514]
def cs_767 : List (Nat × List Nat) := [(3, [0])]
def hs_767 : List (Nat × List Nat) := [(11, [977]), (49, [210, 1000707, 1000708, 1000709])]
def ns_767 : List zN := []
set_option maxRecDepth 1000000 in
theorem ca_767 : x_okA mLT1 cq_767 mTS2 mTC2 mRUp cx_767 cs_767 hs_767 ns_767 (578, []) 9 581 = true := by decide +kernel
set_option maxRecDepth 1000000 in
theorem cc_767 : x_okC mLT1 cq_767 mTS2 mTC2 mRUp cx_767 cs_767 hs_767 ns_767 (578, []) 9 581 = true := by decide +kernel
theorem ck_767 : x_ok mLT1 cq_767 mTS2 mTC2 mRUp cx_767 cs_767 hs_767 ns_767 (578, []) 9 581 = true := x_ok_of ca_767 (fun _ h => absurd h List.not_mem_nil) cc_767
theorem sn_767 {W : Bool} {X : List Int32} : y_Snd (mGw W) mLT1 (J2 W X) X cx_767 := y_ok J2_J mTS2_ok1 mTC2_ok1 mRUp_ok1 (List.forall_mem_cons.mpr ⟨sn_514, fun _ h => absurd h List.not_mem_nil⟩) ck_767
/-- M.hold -/
def cx_768 : zCtx := (308, ([ui0, (0, 1), (0, 1), (0, 1), (0, 6), (0, 1), (0, 1), (0, 1)], [ur1474, ur2046, ur2047, ur2564], [], [], [uV2, uV388], [uF2565, uF2571, uF2572, uF2573, uF2185, uF2569], [uG2042, uG2570, uG2580, (248, [uL36, uL98])]), [([ui0, (0, 1), (0, 1), (0, 1), (0, 6), (0, 1), (0, 1), (0, 1)], [ur1474, ur2046, ur2047, ur2564], [], [], [uV64], [(1, (true, 0, 2, []), 0, 0, 1, []), uF2571, uF2572], [uG2581, uG2570, (13, [uL114]), uG2580, uG2581])], [uk2576, uk2577], 587, 1, 22)
def cq_768 : List zCtx := [cx_514]
def cs_768 : List (Nat × List Nat) := [(3, [0])]
def hs_768 : List (Nat × List Nat) := [(11, [977]), (49, [210, 1000707, 1000708, 1000709])]
def ns_768 : List zN := []
set_option maxRecDepth 1000000 in
theorem ca_768 : x_okA mLT1 cq_768 mTS2 mTC2 mRUp cx_768 cs_768 hs_768 ns_768 (578, []) 9 581 = true := by decide +kernel
set_option maxRecDepth 1000000 in
theorem cc_768 : x_okC mLT1 cq_768 mTS2 mTC2 mRUp cx_768 cs_768 hs_768 ns_768 (578, []) 9 581 = true := by decide +kernel
theorem ck_768 : x_ok mLT1 cq_768 mTS2 mTC2 mRUp cx_768 cs_768 hs_768 ns_768 (578, []) 9 581 = true := x_ok_of ca_768 (fun _ h => absurd h List.not_mem_nil) cc_768
theorem sn_768 {W : Bool} {X : List Int32} : y_Snd (mGw W) mLT1 (J2 W X) X cx_768 := y_ok J2_J mTS2_ok1 mTC2_ok1 mRUp_ok1 (List.forall_mem_cons.mpr ⟨sn_514, fun _ h => absurd h List.not_mem_nil⟩) ck_768
end
