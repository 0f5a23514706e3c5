noncomputable section
/-! ===== readings, by program, checked by the kernel ===== -/
/-- M.hold -/
def cx_740 : zCtx := (308, ([ui0, (0, 1), (0, 1), (0, 1), (0, 6), (0, 1), (0, 1), (0, 1)], [ur1414, ur1982, ur1983, ur2502], [], [], [uV2, uV64], [uF2503, uF2509, uF2510, uF2511, uF2121, uF2507], [uG1978, uG2508, uG2516, (248, [uL211, uL98])]), [([ui0, (0, 1), (0, 1), (0, 1), (0, 6), (0, 1), (0, 1), (0, 1)], [ur1414, ur1982, ur1983, ur2502], [], [], [uV64], [(1, (true, 0, 1, []), 0, 0, 1, []), uF2509, uF2511], [uG2517, uG2508, (13, [uL65]), uG2516, uG2517])], [uk2514, uk2515], 587, 1, 22)
def cq_740 : List zCtx := [cx_517]
def cs_740 : List (Nat × List Nat) := [(3, [0])]
def hs_740 : List (Nat × List Nat) := [(11, [977]), (49, [210, 1000707, 1000708, 1000709])]
def ns_740 : List zN := []
set_option maxRecDepth 1000000 in
theorem ca_740 : x_okA mLT1 cq_740 mTS2 mTC2 mRUp cx_740 cs_740 hs_740 ns_740 (578, []) 9 581 = true := by decide +kernel
set_option maxRecDepth 1000000 in
theorem cc_740 : x_okC mLT1 cq_740 mTS2 mTC2 mRUp cx_740 cs_740 hs_740 ns_740 (578, []) 9 581 = true := by decide +kernel
theorem ck_740 : x_ok mLT1 cq_740 mTS2 mTC2 mRUp cx_740 cs_740 hs_740 ns_740 (578, []) 9 581 = true := x_ok_of ca_740 (fun _ h => absurd h List.not_mem_nil) cc_740
theorem sn_740 {W : Bool} {X : List Int32} : y_Snd (mGw W) mLT1 (J2 W X) X cx_740 := y_ok J2_J mTS2_ok1 mTC2_ok1 mRUp_ok1 (List.forall_mem_cons.mpr ⟨sn_517, fun _ h => absurd h List.not_mem_nil⟩) ck_740
/-- M.hold -/
def cx_741 : zCtx := (308, ([ui0, (0, 1), (0, 1), (0, 1), (0, 6), (0, 1), (0, 1), (0, 1)], [ur1414, ur1982, ur1983, ur2502], [], [], [uV2, uV389], [uF2503, uF2509, uF2510, uF2511, uF2121, uF2507], [uG1978, uG2508, uG2518, (248, [uL36, uL98])]), [([ui0, (0, 1), (0, 1), (0, 1), (0, 6), (0, 1), (0, 1), (0, 1)], [ur1414, ur1982, ur1983, ur2502], [], [], [uV64], [(1, (true, 0, 2, []), 0, 0, 1, []), uF2509, uF2510], [uG2519, uG2508, (13, [uL114]), uG2518, uG2519])], [uk2514, uk2515], 587, 1, 22)
def cq_741 : List zCtx := [cx_517]
def cs_741 : List (Nat × List Nat) := [(3, [0])]
def hs_741 : List (Nat × List Nat) := [(11, [977]), (49, [210, 1000707, 1000708, 1000709])]
def ns_741 : List zN := []
set_option maxRecDepth 1000000 in
theorem ca_741 : x_okA mLT1 cq_741 mTS2 mTC2 mRUp cx_741 cs_741 hs_741 ns_741 (578, []) 9 581 = true := by decide +kernel
set_option maxRecDepth 1000000 in
theorem cc_741 : x_okC mLT1 cq_741 mTS2 mTC2 mRUp cx_741 cs_741 hs_741 ns_741 (578, []) 9 581 = true := by decide +kernel
theorem ck_741 : x_ok mLT1 cq_741 mTS2 mTC2 mRUp cx_741 cs_741 hs_741 ns_741 (578, []) 9 581 = true := x_ok_of ca_741 (fun _ h => absurd h List.not_mem_nil) cc_741
theorem sn_741 {W : Bool} {X : List Int32} : y_Snd (mGw W) mLT1 (J2 W X) X cx_741 := y_ok J2_J mTS2_ok1 mTC2_ok1 mRUp_ok1 (List.forall_mem_cons.mpr ⟨sn_517, fun _ h => absurd h List.not_mem_nil⟩) ck_741
end
