noncomputable section
/-! ===== readings, by program, checked by the kernel ===== -/
/-- M.hold -/
def cx_769 : zCtx := (308, ([ui0, ui260, (0, 1), (0, 1), (0, 1)], [ur1474, ur2046, ur2047, ur2564], [], [], [uV2, uV11], [uF2565, uF2566, uF2567, uF2568, uF2185, uF2569], [uG2042, uG2570]), [([ui0, ui260, (0, 1), (0, 1), (0, 1)], [ur1474, ur2046, ur2047, ur2564], [], [], [uV62], [uF2566, uF2567, uF2568], [])], [], 16, 1, 22)
set_option maxRecDepth 1000000 in
theorem ck_769 : x_ok mLT1 [cx_514] mTS2 mTC2 mRUp cx_769 [(3, [0])] [] [] (7, []) 9 10 = true := by decide +kernel
theorem sn_769 {W : Bool} {X : List Int32} : y_Snd (mGw W) mLT1 (J2 W X) X cx_769 := y_ok J2_J mTS2_ok1 mTC2_ok1 mRUp_ok1 (List.forall_mem_cons.mpr ⟨sn_514, fun _ h => absurd h List.not_mem_nil⟩) ck_769
/-- M.restore -/
def cx_770 : zCtx := (309, ([ui0, ui1418, ui438, (0, 1), (0, 1), (0, 1), (0, 6), (0, 6), ui49, ui49], [ur1474, ur2046, ur2047, ur2564], [], [], [uV2, uV11], [uF2582, uF2565, uF2583, uF2584, uF2585, uF2185, uF2569], [uG2042, uG2570, uG1390]), [([ui0, ui1418, ui438, (0, 1), (0, 1), (0, 1), (0, 6), (0, 6), ui49, ui49], [ur1474, ur2046, ur2047, ur2564], [], [], [uV62], [uF2583, uF2584, uF2585], [uG1390])], [], 16, 1, 22)
set_option maxRecDepth 1000000 in
theorem ck_770 : x_ok mLT1 [cx_514] mTS2 mTC2 mRUp cx_770 [(3, [0])] [] [] (7, []) 9 10 = true := by decide +kernel
theorem sn_770 {W : Bool} {X : List Int32} : y_Snd (mGw W) mLT1 (J2 W X) X cx_770 := y_ok J2_J mTS2_ok1 mTC2_ok1 mRUp_ok1 (List.forall_mem_cons.mpr ⟨sn_514, fun _ h => absurd h List.not_mem_nil⟩) ck_770
/-- M.restore -/
def cx_771 : zCtx := (309, ([ui0, ui438, (0, 1), (0, 1), (0, 1), (0, 6), (0, 6), ui49, ui49], [ur1474, ur2046, ur2047, ur2564], [uL256], [], [uV2, uV62], [uF2273, uF2565, uF2566, uF2567, uF2568, uF2185, uF2569], [uG2042, uG2570, uG475]), [([ui0, ui438, (0, 0), (0, 1), (0, 1), (0, 6), (0, 6), ui49, ui49], [ur1474, ur2046, ur2047, ur2564], [uL256], [], [uV62], [uF2566, uF2567, uF2568], [uG475])], [], 21, 1, 22)
set_option maxRecDepth 1000000 in
theorem ck_771 : x_ok mLT1 [cx_514] mTS2 mTC2 mRUp cx_771 [(3, [0])] [] [] (12, []) 9 15 = true := by decide +kernel
theorem sn_771 {W : Bool} {X : List Int32} : y_Snd (mGw W) mLT1 (J2 W X) X cx_771 := y_ok J2_J mTS2_ok1 mTC2_ok1 mRUp_ok1 (List.forall_mem_cons.mpr ⟨sn_514, fun _ h => absurd h List.not_mem_nil⟩) ck_771
/-- M.restore -/
def cx_772 : zCtx := (309, ([ui0, ui438, (0, 1), (0, 1), (0, 1), (0, 6), (0, 6), ui49, ui49], [ur1474, ur2046, ur2047, ur2564], [uL814], [], [uV2, uV64], [uF2273, uF2565, uF2566, uF2567, uF2568, uF2185, uF2569], [uG2042, uG2570, uG475]), [([ui0, ui438, (0, 1), (0, 0), (0, 1), (0, 6), (0, 6), ui49, ui49], [ur1474, ur2046, ur2047, ur2564], [uL814], [], [uV62], [uF2566, uF2567, uF2568], [uG475])], [], 21, 1, 22)
set_option maxRecDepth 1000000 in
theorem ck_772 : x_ok mLT1 [cx_514] mTS2 mTC2 mRUp cx_772 [(3, [0])] [] [] (12, []) 9 15 = true := by decide +kernel
theorem sn_772 {W : Bool} {X : List Int32} : y_Snd (mGw W) mLT1 (J2 W X) X cx_772 := y_ok J2_J mTS2_ok1 mTC2_ok1 mRUp_ok1 (List.forall_mem_cons.mpr ⟨sn_514, fun _ h => absurd h List.not_mem_nil⟩) ck_772
/-- M.restore -/
def cx_773 : zCtx := (309, ([ui0, ui438, (0, 1), (0, 1), (0, 1), (0, 6), (0, 6), ui49, ui49], [ur1474, ur2046, ur2047, ur2564], [uL2586], [], [uV2, uV388], [uF2273, uF2565, uF2566, uF2567, uF2568, uF2185, uF2569], [uG2042, uG2570, uG475]), [([ui0, ui438, (0, 1), (0, 1), (0, 0), (0, 6), (0, 6), ui49, ui49], [ur1474, ur2046, ur2047, ur2564], [uL2586], [], [uV62], [uF2566, uF2567, uF2568], [uG475])], [], 21, 1, 22)
set_option maxRecDepth 1000000 in
theorem ck_773 : x_ok mLT1 [cx_514] mTS2 mTC2 mRUp cx_773 [(3, [0])] [] [] (12, []) 9 15 = true := by decide +kernel
theorem sn_773 {W : Bool} {X : List Int32} : y_Snd (mGw W) mLT1 (J2 W X) X cx_773 := y_ok J2_J mTS2_ok1 mTC2_ok1 mRUp_ok1 (List.forall_mem_cons.mpr ⟨sn_514, fun _ h => absurd h List.not_mem_nil⟩) ck_773
/-- M.restore -/
def cx_774 : zCtx := (309, ([ui0, ui438, (0, 1), (0, 1), (0, 1), (0, 6), (0, 6), ui49, ui49], [ur1474, ur2046, ur2047, ur2564], [], [], [uV2, uV62], [uF2273, uF2565, uF2566, uF2567, uF2568, uF2185, uF2569], [uG2042, uG2570, (249, [uL104, uL78, uL79, uL131, uL63])]), [([ui0, ui438, (0, 0), (0, 1), (0, 1), (0, 6), (0, 6), ui49, ui49], [ur1474, ur2046, ur2047, ur2564], [], [], [uV62], [uF2273, uF2566, uF2567, uF2568], [uG2042]), ([ui0, ui438, (1, 1), (0, 1), (0, 1), (0, 6), (0, 6), ui49, ui49], [ur1474, ur2046, ur2047, ur2564], [], [], [uV64], [uF2122, uF2566, uF2567, uF2568], [uG475, uG2042, uG2043, uG475])], [uk2276, uk2044], 590, 1, 22)
def cq_774 : List zCtx := [cx_514]
def cs_774 : List (Nat × List Nat) := [(3, [0])]
def hs_774 : List (Nat × List Nat) := [(20, [17]), (51, [3858, 1000710, 1000711, 1000712])]
def ns_774 : List zN := []
set_option maxRecDepth 1000000 in
theorem ca_774 : x_okA mLT1 cq_774 mTS2 mTC2 mRUp cx_774 cs_774 hs_774 ns_774 (581, []) 9 584 = true := by decide +kernel
set_option maxRecDepth 1000000 in
theorem cc_774 : x_okC mLT1 cq_774 mTS2 mTC2 mRUp cx_774 cs_774 hs_774 ns_774 (581, []) 9 584 = true := by decide +kernel
theorem ck_774 : x_ok mLT1 cq_774 mTS2 mTC2 mRUp cx_774 cs_774 hs_774 ns_774 (581, []) 9 584 = true := x_ok_of ca_774 (fun _ h => absurd h List.not_mem_nil) cc_774
theorem sn_774 {W : Bool} {X : List Int32} : y_Snd (mGw W) mLT1 (J2 W X) X cx_774 := y_ok J2_J mTS2_ok1 mTC2_ok1 mRUp_ok1 (List.forall_mem_cons.mpr ⟨sn_514, fun _ h => absurd h List.not_mem_nil⟩) ck_774
/-- M.restore -/
def cx_775 : zCtx := (309, ([ui0, ui438, (0, 1), (0, 1), (0, 1), (0, 6), (0, 6), ui49, ui49], [ur1474, ur2046, ur2047, ur2564], [], [], [uV2, uV64], [uF2273, uF2565, uF2566, uF2567, uF2568, uF2185, uF2569], [uG2042, uG2570, (249, [uL104, uL78, uL79, uL131, uL65])]), [([ui0, ui438, (0, 1), (0, 0), (0, 1), (0, 6), (0, 6), ui49, ui49], [ur1474, ur2046, ur2047, ur2564], [], [], [uV62], [uF2273, uF2566, uF2567, uF2568], [uG2042]), ([ui0, ui438, (0, 1), (1, 1), (0, 1), (0, 6), (0, 6), ui49, ui49], [ur1474, ur2046, ur2047, ur2564], [], [], [uV64], [uF2122, uF2566, uF2567, uF2568], [uG475, uG2042, uG2043, uG475])], [uk2276, uk2044], 590, 1, 22)
def cq_775 : List zCtx := [cx_514]
def cs_775 : List (Nat × List Nat) := [(3, [0])]
def hs_775 : List (Nat × List Nat) := [(20, [17]), (51, [3858, 1000710, 1000711, 1000712])]
def ns_775 : List zN := []
set_option maxRecDepth 1000000 in
theorem ca_775 : x_okA mLT1 cq_775 mTS2 mTC2 mRUp cx_775 cs_775 hs_775 ns_775 (581, []) 9 584 = true := by decide +kernel
set_option maxRecDepth 1000000 in
theorem cc_775 : x_okC mLT1 cq_775 mTS2 mTC2 mRUp cx_775 cs_775 hs_775 ns_775 (581, []) 9 584 = true := by decide +kernel
theorem ck_775 : x_ok mLT1 cq_775 mTS2 mTC2 mRUp cx_775 cs_775 hs_775 ns_775 (581, []) 9 584 = true := x_ok_of ca_775 (fun _ h => absurd h List.not_mem_nil) cc_775
theorem sn_775 {W : Bool} {X : List Int32} : y_Snd (mGw W) mLT1 (J2 W X) X cx_775 := y_ok J2_J mTS2_ok1 mTC2_ok1 mRUp_ok1 (List.forall_mem_cons.mpr ⟨sn_514, fun _ h => absurd h List.not_mem_nil⟩) ck_775
end
