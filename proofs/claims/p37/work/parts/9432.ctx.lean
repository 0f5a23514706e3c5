noncomputable section
/-! ===== readings, by program, checked by the kernel ===== -/
/-- M.hold -/
def cx_725 : zCtx := (308, ([ui0, ui265, (0, 1), (0, 1), (0, 1)], [ur1299, ur1877, ur1878, ur2361], [], [], [uV2, uV11], [uF2362, uF2363, uF2364, uF2365, uF2018, uF2366], [uG1873, uG2367]), [([ui0, ui265, (0, 1), (0, 1), (0, 1)], [ur1299, ur1877, ur1878, ur2361], [], [], [uV64], [uF2363, uF2364, uF2365], [])], [], 16, 1, 22)
set_option maxRecDepth 1000000 in
theorem ck_725 : x_ok mLT1 [cx_497] mTS2 mTC2 mRUp cx_725 [(3, [0])] [] [] (7, []) 9 10 = true := by decide +kernel
theorem sn_725 {W : Bool} {X : List Int32} : y_Snd (mGw W) mLT1 (J2 W X) X cx_725 := y_ok J2_J mTS2_ok1 mTC2_ok1 mRUp_ok1 (List.forall_mem_cons.mpr ⟨sn_497, fun _ h => absurd h List.not_mem_nil⟩) ck_725
/-- M.restore -/
def cx_726 : zCtx := (309, ([ui0, ui1242, ui441, (0, 1), (0, 1), (0, 1), (0, 6), (0, 6), ui51, ui51], [ur1299, ur1877, ur1878, ur2361], [], [], [uV2, uV11], [uF2379, uF2362, uF2380, uF2381, uF2382, uF2018, uF2366], [uG1873, uG2367, uG1249]), [([ui0, ui1242, ui441, (0, 1), (0, 1), (0, 1), (0, 6), (0, 6), ui51, ui51], [ur1299, ur1877, ur1878, ur2361], [], [], [uV64], [uF2380, uF2381, uF2382], [uG1249])], [], 16, 1, 22)
set_option maxRecDepth 1000000 in
theorem ck_726 : x_ok mLT1 [cx_497] mTS2 mTC2 mRUp cx_726 [(3, [0])] [] [] (7, []) 9 10 = true := by decide +kernel
theorem sn_726 {W : Bool} {X : List Int32} : y_Snd (mGw W) mLT1 (J2 W X) X cx_726 := y_ok J2_J mTS2_ok1 mTC2_ok1 mRUp_ok1 (List.forall_mem_cons.mpr ⟨sn_497, fun _ h => absurd h List.not_mem_nil⟩) ck_726
/-- M.restore -/
def cx_727 : zCtx := (309, ([ui0, ui441, (0, 1), (0, 1), (0, 1), (0, 6), (0, 6), ui51, ui51], [ur1299, ur1877, ur1878, ur2361], [uL261], [], [uV2, uV64], [uF2107, uF2362, uF2363, uF2364, uF2365, uF2018, uF2366], [uG1873, uG2367, uG470]), [([ui0, ui441, (0, 0), (0, 1), (0, 1), (0, 6), (0, 6), ui51, ui51], [ur1299, ur1877, ur1878, ur2361], [uL261], [], [uV64], [uF2363, uF2364, uF2365], [uG470])], [], 21, 1, 22)
set_option maxRecDepth 1000000 in
theorem ck_727 : x_ok mLT1 [cx_497] mTS2 mTC2 mRUp cx_727 [(3, [0])] [] [] (12, []) 9 15 = true := by decide +kernel
theorem sn_727 {W : Bool} {X : List Int32} : y_Snd (mGw W) mLT1 (J2 W X) X cx_727 := y_ok J2_J mTS2_ok1 mTC2_ok1 mRUp_ok1 (List.forall_mem_cons.mpr ⟨sn_497, fun _ h => absurd h List.not_mem_nil⟩) ck_727
/-- M.restore -/
def cx_728 : zCtx := (309, ([ui0, ui441, (0, 1), (0, 1), (0, 1), (0, 6), (0, 6), ui51, ui51], [ur1299, ur1877, ur1878, ur2361], [uL794], [], [uV2, uV66], [uF2107, uF2362, uF2363, uF2364, uF2365, uF2018, uF2366], [uG1873, uG2367, uG470]), [([ui0, ui441, (0, 1), (0, 0), (0, 1), (0, 6), (0, 6), ui51, ui51], [ur1299, ur1877, ur1878, ur2361], [uL794], [], [uV64], [uF2363, uF2364, uF2365], [uG470])], [], 21, 1, 22)
set_option maxRecDepth 1000000 in
theorem ck_728 : x_ok mLT1 [cx_497] mTS2 mTC2 mRUp cx_728 [(3, [0])] [] [] (12, []) 9 15 = true := by decide +kernel
theorem sn_728 {W : Bool} {X : List Int32} : y_Snd (mGw W) mLT1 (J2 W X) X cx_728 := y_ok J2_J mTS2_ok1 mTC2_ok1 mRUp_ok1 (List.forall_mem_cons.mpr ⟨sn_497, fun _ h => absurd h List.not_mem_nil⟩) ck_728
/-- M.restore -/
def cx_729 : zCtx := (309, ([ui0, ui441, (0, 1), (0, 1), (0, 1), (0, 6), (0, 6), ui51, ui51], [ur1299, ur1877, ur1878, ur2361], [uL2383], [], [uV2, uV391], [uF2107, uF2362, uF2363, uF2364, uF2365, uF2018, uF2366], [uG1873, uG2367, uG470]), [([ui0, ui441, (0, 1), (0, 1), (0, 0), (0, 6), (0, 6), ui51, ui51], [ur1299, ur1877, ur1878, ur2361], [uL2383], [], [uV64], [uF2363, uF2364, uF2365], [uG470])], [], 21, 1, 22)
set_option maxRecDepth 1000000 in
theorem ck_729 : x_ok mLT1 [cx_497] mTS2 mTC2 mRUp cx_729 [(3, [0])] [] [] (12, []) 9 15 = true := by decide +kernel
theorem sn_729 {W : Bool} {X : List Int32} : y_Snd (mGw W) mLT1 (J2 W X) X cx_729 := y_ok J2_J mTS2_ok1 mTC2_ok1 mRUp_ok1 (List.forall_mem_cons.mpr ⟨sn_497, fun _ h => absurd h List.not_mem_nil⟩) ck_729
/-- M.restore -/
def cx_730 : zCtx := (309, ([ui0, ui441, (0, 1), (0, 1), (0, 1), (0, 6), (0, 6), ui51, ui51], [ur1299, ur1877, ur1878, ur2361], [], [], [uV2, uV64], [uF2107, uF2362, uF2363, uF2364, uF2365, uF2018, uF2366], [uG1873, uG2367, (249, [uL106, uL80, uL81, uL133, uL65])]), [([ui0, ui441, (0, 0), (0, 1), (0, 1), (0, 6), (0, 6), ui51, ui51], [ur1299, ur1877, ur1878, ur2361], [], [], [uV64], [uF2107, uF2363, uF2364, uF2365], [uG1873]), ([ui0, ui441, (1, 1), (0, 1), (0, 1), (0, 6), (0, 6), ui51, ui51], [ur1299, ur1877, ur1878, ur2361], [], [], [uV66], [uF1955, uF2363, uF2364, uF2365], [uG470, uG1873, uG1874, uG470])], [uk2110, uk1875], 590, 1, 22)
def cq_730 : List zCtx := [cx_497]
def cs_730 : List (Nat × List Nat) := [(3, [0])]
def hs_730 : List (Nat × List Nat) := [(20, [17]), (51, [3858, 1000710, 1000711, 1000712])]
def ns_730 : List zN := []
set_option maxRecDepth 1000000 in
theorem ca_730 : x_okA mLT1 cq_730 mTS2 mTC2 mRUp cx_730 cs_730 hs_730 ns_730 (581, []) 9 584 = true := by decide +kernel
set_option maxRecDepth 1000000 in
theorem cc_730 : x_okC mLT1 cq_730 mTS2 mTC2 mRUp cx_730 cs_730 hs_730 ns_730 (581, []) 9 584 = true := by decide +kernel
theorem ck_730 : x_ok mLT1 cq_730 mTS2 mTC2 mRUp cx_730 cs_730 hs_730 ns_730 (581, []) 9 584 = true := x_ok_of ca_730 (fun _ h => absurd h List.not_mem_nil) cc_730
theorem sn_730 {W : Bool} {X : List Int32} : y_Snd (mGw W) mLT1 (J2 W X) X cx_730 := y_ok J2_J mTS2_ok1 mTC2_ok1 mRUp_ok1 (List.forall_mem_cons.mpr ⟨sn_497, fun _ h => absurd h List.not_mem_nil⟩) ck_730
/-- M.restore -/
def cx_731 : zCtx := (309, ([ui0, ui441, (0, 1), (0, 1), (0, 1), (0, 6), (0, 6), ui51, ui51], [ur1299, ur1877, ur1878, ur2361], [], [], [uV2, uV66], [uF2107, uF2362, uF2363, uF2364, uF2365, uF2018, uF2366], [uG1873, uG2367, (249, [uL106, uL80, uL81, uL133, uL67])]), [([ui0, ui441, (0, 1), (0, 0), (0, 1), (0, 6), (0, 6), ui51, ui51], [ur1299, ur1877, ur1878, ur2361], [], [], [uV64], [uF2107, uF2363, uF2364, uF2365], [uG1873]), ([ui0, ui441, (0, 1), (1, 1), (0, 1), (0, 6), (0, 6), ui51, ui51], [ur1299, ur1877, ur1878, ur2361], [], [], [uV66], [uF1955, uF2363, uF2364, uF2365], [uG470, uG1873, uG1874, uG470])], [uk2110, uk1875], 590, 1, 22)
def cq_731 : List zCtx := [cx_497]
def cs_731 : List (Nat × List Nat) := [(3, [0])]
def hs_731 : List (Nat × List Nat) := [(20, [17]), (51, [3858, 1000710, 1000711, 1000712])]
def ns_731 : List zN := []
set_option maxRecDepth 1000000 in
theorem ca_731 : x_okA mLT1 cq_731 mTS2 mTC2 mRUp cx_731 cs_731 hs_731 ns_731 (581, []) 9 584 = true := by decide +kernel
set_option maxRecDepth 1000000 in
theorem cc_731 : x_okC mLT1 cq_731 mTS2 mTC2 mRUp cx_731 cs_731 hs_731 ns_731 (581, []) 9 584 = true := by decide +kernel
theorem ck_731 : x_ok mLT1 cq_731 mTS2 mTC2 mRUp cx_731 cs_731 hs_731 ns_731 (581, []) 9 584 = true := x_ok_of ca_731 (fun _ h => absurd h List.not_mem_nil) cc_731
theorem sn_731 {W : Bool} {X : List Int32} : y_Snd (mGw W) mLT1 (J2 W X) X cx_731 := y_ok J2_J mTS2_ok1 mTC2_ok1 mRUp_ok1 (List.forall_mem_cons.mpr ⟨sn_497, fun _ h => absurd h List.not_mem_nil⟩) ck_731
end
