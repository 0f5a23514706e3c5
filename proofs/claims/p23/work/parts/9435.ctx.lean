noncomputable section
/-! ===== readings, by program, checked by the kernel ===== -/
/-- M.hold -/
def cx_742 : zCtx := (308, ([ui0, ui262, (0, 1), (0, 1), (0, 1)], [ur1414, ur1982, ur1983, ur2502], [], [], [uV2, uV11], [uF2503, uF2504, uF2505, uF2506, uF2121, uF2507], [uG1978, uG2508]), [([ui0, ui262, (0, 1), (0, 1), (0, 1)], [ur1414, ur1982, ur1983, ur2502], [], [], [uV62], [uF2504, uF2505, uF2506], [])], [], 16, 1, 22)
set_option maxRecDepth 1000000 in
theorem ck_742 : x_ok mLT1 [cx_517] mTS2 mTC2 mRUp cx_742 [(3, [0])] [] [] (7, []) 9 10 = true := by decide +kernel
theorem sn_742 {W : Bool} {X : List Int32} : y_Snd (mGw W) mLT1 (J2 W X) X cx_742 := y_ok J2_J mTS2_ok1 mTC2_ok1 mRUp_ok1 (List.forall_mem_cons.mpr ⟨sn_517, fun _ h => absurd h List.not_mem_nil⟩) ck_742
/-- M.restore -/
def cx_743 : zCtx := (309, ([ui0, ui1301, ui440, (0, 1), (0, 1), (0, 1), (0, 6), (0, 6), ui49, ui49], [ur1414, ur1982, ur1983, ur2502], [], [], [uV2, uV11], [uF2520, uF2503, uF2521, uF2522, uF2523, uF2121, uF2507], [uG1978, uG2508, uG1363]), [([ui0, ui1301, ui440, (0, 1), (0, 1), (0, 1), (0, 6), (0, 6), ui49, ui49], [ur1414, ur1982, ur1983, ur2502], [], [], [uV62], [uF2521, uF2522, uF2523], [uG1363])], [], 16, 1, 22)
set_option maxRecDepth 1000000 in
theorem ck_743 : x_ok mLT1 [cx_517] mTS2 mTC2 mRUp cx_743 [(3, [0])] [] [] (7, []) 9 10 = true := by decide +kernel
theorem sn_743 {W : Bool} {X : List Int32} : y_Snd (mGw W) mLT1 (J2 W X) X cx_743 := y_ok J2_J mTS2_ok1 mTC2_ok1 mRUp_ok1 (List.forall_mem_cons.mpr ⟨sn_517, fun _ h => absurd h List.not_mem_nil⟩) ck_743
/-- M.restore -/
def cx_744 : zCtx := (309, ([ui0, ui440, (0, 1), (0, 1), (0, 1), (0, 6), (0, 6), ui49, ui49], [ur1414, ur1982, ur1983, ur2502], [uL258], [], [uV2, uV62], [uF2214, uF2503, uF2504, uF2505, uF2506, uF2121, uF2507], [uG1978, uG2508, uG469]), [([ui0, ui440, (0, 0), (0, 1), (0, 1), (0, 6), (0, 6), ui49, ui49], [ur1414, ur1982, ur1983, ur2502], [uL258], [], [uV62], [uF2504, uF2505, uF2506], [uG469])], [], 21, 1, 22)
set_option maxRecDepth 1000000 in
theorem ck_744 : x_ok mLT1 [cx_517] mTS2 mTC2 mRUp cx_744 [(3, [0])] [] [] (12, []) 9 15 = true := by decide +kernel
theorem sn_744 {W : Bool} {X : List Int32} : y_Snd (mGw W) mLT1 (J2 W X) X cx_744 := y_ok J2_J mTS2_ok1 mTC2_ok1 mRUp_ok1 (List.forall_mem_cons.mpr ⟨sn_517, fun _ h => absurd h List.not_mem_nil⟩) ck_744
/-- M.restore -/
def cx_745 : zCtx := (309, ([ui0, ui440, (0, 1), (0, 1), (0, 1), (0, 6), (0, 6), ui49, ui49], [ur1414, ur1982, ur1983, ur2502], [uL796], [], [uV2, uV64], [uF2214, uF2503, uF2504, uF2505, uF2506, uF2121, uF2507], [uG1978, uG2508, uG469]), [([ui0, ui440, (0, 1), (0, 0), (0, 1), (0, 6), (0, 6), ui49, ui49], [ur1414, ur1982, ur1983, ur2502], [uL796], [], [uV62], [uF2504, uF2505, uF2506], [uG469])], [], 21, 1, 22)
set_option maxRecDepth 1000000 in
theorem ck_745 : x_ok mLT1 [cx_517] mTS2 mTC2 mRUp cx_745 [(3, [0])] [] [] (12, []) 9 15 = true := by decide +kernel
theorem sn_745 {W : Bool} {X : List Int32} : y_Snd (mGw W) mLT1 (J2 W X) X cx_745 := y_ok J2_J mTS2_ok1 mTC2_ok1 mRUp_ok1 (List.forall_mem_cons.mpr ⟨sn_517, fun _ h => absurd h List.not_mem_nil⟩) ck_745
/-- M.restore -/
def cx_746 : zCtx := (309, ([ui0, ui440, (0, 1), (0, 1), (0, 1), (0, 6), (0, 6), ui49, ui49], [ur1414, ur1982, ur1983, ur2502], [uL2524], [], [uV2, uV389], [uF2214, uF2503, uF2504, uF2505, uF2506, uF2121, uF2507], [uG1978, uG2508, uG469]), [([ui0, ui440, (0, 1), (0, 1), (0, 0), (0, 6), (0, 6), ui49, ui49], [ur1414, ur1982, ur1983, ur2502], [uL2524], [], [uV62], [uF2504, uF2505, uF2506], [uG469])], [], 21, 1, 22)
set_option maxRecDepth 1000000 in
theorem ck_746 : x_ok mLT1 [cx_517] mTS2 mTC2 mRUp cx_746 [(3, [0])] [] [] (12, []) 9 15 = true := by decide +kernel
theorem sn_746 {W : Bool} {X : List Int32} : y_Snd (mGw W) mLT1 (J2 W X) X cx_746 := y_ok J2_J mTS2_ok1 mTC2_ok1 mRUp_ok1 (List.forall_mem_cons.mpr ⟨sn_517, fun _ h => absurd h List.not_mem_nil⟩) ck_746
/-- M.restore -/
def cx_747 : zCtx := (309, ([ui0, ui440, (0, 1), (0, 1), (0, 1), (0, 6), (0, 6), ui49, ui49], [ur1414, ur1982, ur1983, ur2502], [], [], [uV2, uV62], [uF2214, uF2503, uF2504, uF2505, uF2506, uF2121, uF2507], [uG1978, uG2508, (249, [uL104, uL78, uL79, uL131, uL63])]), [([ui0, ui440, (0, 0), (0, 1), (0, 1), (0, 6), (0, 6), ui49, ui49], [ur1414, ur1982, ur1983, ur2502], [], [], [uV62], [uF2214, uF2504, uF2505, uF2506], [uG1978]), ([ui0, ui440, (1, 1), (0, 1), (0, 1), (0, 6), (0, 6), ui49, ui49], [ur1414, ur1982, ur1983, ur2502], [], [], [uV64], [uF2058, uF2504, uF2505, uF2506], [uG469, uG1978, uG1979, uG469])], [uk2217, uk1980], 590, 1, 22)
def cq_747 : List zCtx := [cx_517]
def cs_747 : List (Nat × List Nat) := [(3, [0])]
def hs_747 : List (Nat × List Nat) := [(20, [17]), (51, [3858, 1000710, 1000711, 1000712])]
def ns_747 : List zN := []
set_option maxRecDepth 1000000 in
theorem ca_747 : x_okA mLT1 cq_747 mTS2 mTC2 mRUp cx_747 cs_747 hs_747 ns_747 (581, []) 9 584 = true := by decide +kernel
set_option maxRecDepth 1000000 in
theorem cc_747 : x_okC mLT1 cq_747 mTS2 mTC2 mRUp cx_747 cs_747 hs_747 ns_747 (581, []) 9 584 = true := by decide +kernel
theorem ck_747 : x_ok mLT1 cq_747 mTS2 mTC2 mRUp cx_747 cs_747 hs_747 ns_747 (581, []) 9 584 = true := x_ok_of ca_747 (fun _ h => absurd h List.not_mem_nil) cc_747
theorem sn_747 {W : Bool} {X : List Int32} : y_Snd (mGw W) mLT1 (J2 W X) X cx_747 := y_ok J2_J mTS2_ok1 mTC2_ok1 mRUp_ok1 (List.forall_mem_cons.mpr ⟨sn_517, fun _ h => absurd h List.not_mem_nil⟩) ck_747
/-- M.restore -/
def cx_748 : zCtx := (309, ([ui0, ui440, (0, 1), (0, 1), (0, 1), (0, 6), (0, 6), ui49, ui49], [ur1414, ur1982, ur1983, ur2502], [], [], [uV2, uV64], [uF2214, uF2503, uF2504, uF2505, uF2506, uF2121, uF2507], [uG1978, uG2508, (249, [uL104, uL78, uL79, uL131, uL65])]), [([ui0, ui440, (0, 1), (0, 0), (0, 1), (0, 6), (0, 6), ui49, ui49], [ur1414, ur1982, ur1983, ur2502], [], [], [uV62], [uF2214, uF2504, uF2505, uF2506], [uG1978]), ([ui0, ui440, (0, 1), (1, 1), (0, 1), (0, 6), (0, 6), ui49, ui49], [ur1414, ur1982, ur1983, ur2502], [], [], [uV64], [uF2058, uF2504, uF2505, uF2506], [uG469, uG1978, uG1979, uG469])], [uk2217, uk1980], 590, 1, 22)
def cq_748 : List zCtx := [cx_517]
def cs_748 : List (Nat × List Nat) := [(3, [0])]
def hs_748 : List (Nat × List Nat) := [(20, [17]), (51, [3858, 1000710, 1000711, 1000712])]
def ns_748 : List zN := []
set_option maxRecDepth 1000000 in
theorem ca_748 : x_okA mLT1 cq_748 mTS2 mTC2 mRUp cx_748 cs_748 hs_748 ns_748 (581, []) 9 584 = true := by decide +kernel
set_option maxRecDepth 1000000 in
theorem cc_748 : x_okC mLT1 cq_748 mTS2 mTC2 mRUp cx_748 cs_748 hs_748 ns_748 (581, []) 9 584 = true := by decide +kernel
theorem ck_748 : x_ok mLT1 cq_748 mTS2 mTC2 mRUp cx_748 cs_748 hs_748 ns_748 (581, []) 9 584 = true := x_ok_of ca_748 (fun _ h => absurd h List.not_mem_nil) cc_748
theorem sn_748 {W : Bool} {X : List Int32} : y_Snd (mGw W) mLT1 (J2 W X) X cx_748 := y_ok J2_J mTS2_ok1 mTC2_ok1 mRUp_ok1 (List.forall_mem_cons.mpr ⟨sn_517, fun _ h => absurd h List.not_mem_nil⟩) ck_748
end
