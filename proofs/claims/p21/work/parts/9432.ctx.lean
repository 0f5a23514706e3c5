noncomputable section
/-! ===== readings, by program, checked by the kernel ===== -/
/-- M.isPeace -/
def cx_691 : zCtx := (285, ([ui0, ui584, ui2351, ui2352, (0, 1), (0, 0)], [ur1331], [], [], [uV2, uV11, uV12, uV58], [uF2107, uF2268], []), [([ui0, ui584, ui2351, ui2352, (0, 1), (0, 0), (0, 0)], [ur1331], [], [], [uV64], [uF2341], []), ([ui0, ui584, ui2351, ui2352, (0, 1), (0, 0), (0, 0)], [ur1331], [], [], [uV62], [uF2341], [])], [uk2315, uk2350, uk2316], 1000001016, 4, 87)
set_option maxRecDepth 1000000 in
theorem ck_691 : x_ok mLT1 [cx_675, cx_677, cx_663] mTS2 mTC2 mRUp cx_691 [(32, [0]), (37, [1]), (41, [2])] [] [(3, ([(0, 3072), (0, 999), (12, 15), (23, 25), (0, 1), (0, 0), (0, 40)], [(12, false)], [], [(2, 0, 0, []), (0, 0, 0, [(1, 1)]), (0, 0, 0, [(2, 1)]), (0, 0, 0, [(3, 1)]), (0, 0, 0, [(6, 1)])], [], [(0, (false, 18, 0, []), 0, 0, 0, [(4, 1)]), (0, (false, 61, 0, []), 0, 0, 0, [(5, 1)])], []), (576, [(5, (-100000000000)), (6, (-14))]))] (579, []) 1000000437 19 = true := by decide +kernel
theorem sn_691 {W : Bool} {X : List Int32} : y_Snd (mGw W) mLT1 (J2 W X) X cx_691 := y_ok J2_J mTS2_ok1 mTC2_ok1 mRUp_ok1 (List.forall_mem_cons.mpr ⟨sn_675, List.forall_mem_cons.mpr ⟨sn_677, List.forall_mem_cons.mpr ⟨sn_663, fun _ h => absurd h List.not_mem_nil⟩⟩⟩) ck_691
/-- M.isPeace -/
def cx_692 : zCtx := (285, ([ui0, ui584, ui2351, ui2353, (0, 1), (0, 0)], [ur1331], [], [], [uV2, uV11, uV12, uV58], [uF2107, uF2268], []), [([ui0, ui584, ui2351, ui2353, (0, 1), (0, 0), (0, 0)], [ur1331], [], [], [uV64], [uF2341], []), ([ui0, ui584, ui2351, ui2353, (0, 1), (0, 0), (0, 0)], [ur1331], [], [], [uV62], [uF2341], [])], [uk2315, uk2350, uk2316], 1000001016, 4, 87)
set_option maxRecDepth 1000000 in
theorem ck_692 : x_ok mLT1 [cx_675, cx_679, cx_663] mTS2 mTC2 mRUp cx_692 [(32, [0]), (37, [1]), (41, [2])] [] [(3, ([(0, 3072), (0, 999), (12, 15), (34, 35), (0, 1), (0, 0), (0, 40)], [(12, false)], [], [(2, 0, 0, []), (0, 0, 0, [(1, 1)]), (0, 0, 0, [(2, 1)]), (0, 0, 0, [(3, 1)]), (0, 0, 0, [(6, 1)])], [], [(0, (false, 18, 0, []), 0, 0, 0, [(4, 1)]), (0, (false, 61, 0, []), 0, 0, 0, [(5, 1)])], []), (576, [(5, (-100000000000)), (6, (-14))]))] (579, []) 1000000437 19 = true := by decide +kernel
theorem sn_692 {W : Bool} {X : List Int32} : y_Snd (mGw W) mLT1 (J2 W X) X cx_692 := y_ok J2_J mTS2_ok1 mTC2_ok1 mRUp_ok1 (List.forall_mem_cons.mpr ⟨sn_675, List.forall_mem_cons.mpr ⟨sn_679, List.forall_mem_cons.mpr ⟨sn_663, fun _ h => absurd h List.not_mem_nil⟩⟩⟩) ck_692
/-- M.isPeace -/
def cx_693 : zCtx := (285, ([ui0, ui584, ui2351, ui2354, (0, 1), (0, 0)], [ur1331], [], [], [uV2, uV11, uV12, uV58], [uF2107, uF2268], []), [([ui0, ui584, ui2351, ui2354, (0, 1), (0, 0), (0, 0)], [ur1331], [], [], [uV64], [uF2341], []), ([ui0, ui584, ui2351, ui2354, (0, 1), (0, 0), (0, 0)], [ur1331], [], [], [uV62], [uF2341], [])], [uk2315, uk2350, uk2316], 1000026492, 4, 87)
set_option maxRecDepth 1000000 in
theorem ck_693 : x_ok mLT1 [cx_675, cx_681, cx_663] mTS2 mTC2 mRUp cx_693 [(32, [0]), (37, [1]), (41, [2])] [] [(3, ([(0, 3072), (0, 999), (12, 15), (45, 45), (0, 1), (0, 0), (0, 40)], [(12, false)], [], [(2, 0, 0, []), (0, 0, 0, [(1, 1)]), (0, 0, 0, [(2, 1)]), (0, 0, 0, [(3, 1)]), (0, 0, 0, [(6, 1)])], [], [(0, (false, 18, 0, []), 0, 0, 0, [(4, 1)]), (0, (false, 61, 0, []), 0, 0, 0, [(5, 1)])], []), ((-4500000000000), [(3, 100000000576), (5, (-4500000000000)), (6, (-630))]))] (26055, []) 1000000437 19 = true := by decide +kernel
theorem sn_693 {W : Bool} {X : List Int32} : y_Snd (mGw W) mLT1 (J2 W X) X cx_693 := y_ok J2_J mTS2_ok1 mTC2_ok1 mRUp_ok1 (List.forall_mem_cons.mpr ⟨sn_675, List.forall_mem_cons.mpr ⟨sn_681, List.forall_mem_cons.mpr ⟨sn_663, fun _ h => absurd h List.not_mem_nil⟩⟩⟩) ck_693
/-- M.isPeace -/
def cx_694 : zCtx := (285, ([ui0, ui584, ui2352, (1, 5), (0, 1), (0, 0)], [ur1331], [], [], [uV2, uV11, uV12, uV58], [uF2107, uF2268], []), [([ui0, ui584, ui2352, (1, 5), (0, 1), (0, 0), (0, 0)], [ur1331], [], [], [uV64], [uF2341], []), ([ui0, ui584, ui2352, (1, 5), (0, 1), (0, 0), (0, 0)], [ur1331], [], [], [uV62], [uF2341], [])], [uk2315, uk2350, uk2316], 1000001016, 4, 87)
set_option maxRecDepth 1000000 in
theorem ck_694 : x_ok mLT1 [cx_677, cx_673, cx_663] mTS2 mTC2 mRUp cx_694 [(32, [0]), (37, [1]), (41, [2])] [] [(3, ([(0, 3072), (0, 999), (23, 25), (1, 5), (0, 1), (0, 0), (0, 40)], [(12, false)], [], [(2, 0, 0, []), (0, 0, 0, [(1, 1)]), (0, 0, 0, [(2, 1)]), (0, 0, 0, [(3, 1)]), (0, 0, 0, [(6, 1)])], [], [(0, (false, 18, 0, []), 0, 0, 0, [(4, 1)]), (0, (false, 61, 0, []), 0, 0, 0, [(5, 1)])], []), (576, [(5, (-100000000000)), (6, (-14))]))] (579, []) 1000000437 19 = true := by decide +kernel
theorem sn_694 {W : Bool} {X : List Int32} : y_Snd (mGw W) mLT1 (J2 W X) X cx_694 := y_ok J2_J mTS2_ok1 mTC2_ok1 mRUp_ok1 (List.forall_mem_cons.mpr ⟨sn_677, List.forall_mem_cons.mpr ⟨sn_673, List.forall_mem_cons.mpr ⟨sn_663, fun _ h => absurd h List.not_mem_nil⟩⟩⟩) ck_694
/-- M.isPeace -/
def cx_695 : zCtx := (285, ([ui0, ui584, ui2352, ui2351, (0, 1), (0, 0)], [ur1331], [], [], [uV2, uV11, uV12, uV58], [uF2107, uF2268], []), [([ui0, ui584, ui2352, ui2351, (0, 1), (0, 0), (0, 0)], [ur1331], [], [], [uV64], [uF2341], []), ([ui0, ui584, ui2352, ui2351, (0, 1), (0, 0), (0, 0)], [ur1331], [], [], [uV62], [uF2341], [])], [uk2315, uk2350, uk2316], 1000001016, 4, 87)
set_option maxRecDepth 1000000 in
theorem ck_695 : x_ok mLT1 [cx_677, cx_675, cx_663] mTS2 mTC2 mRUp cx_695 [(32, [0]), (37, [1]), (41, [2])] [] [(3, ([(0, 3072), (0, 999), (23, 25), (12, 15), (0, 1), (0, 0), (0, 40)], [(12, false)], [], [(2, 0, 0, []), (0, 0, 0, [(1, 1)]), (0, 0, 0, [(2, 1)]), (0, 0, 0, [(3, 1)]), (0, 0, 0, [(6, 1)])], [], [(0, (false, 18, 0, []), 0, 0, 0, [(4, 1)]), (0, (false, 61, 0, []), 0, 0, 0, [(5, 1)])], []), (576, [(5, (-100000000000)), (6, (-14))]))] (579, []) 1000000437 19 = true := by decide +kernel
theorem sn_695 {W : Bool} {X : List Int32} : y_Snd (mGw W) mLT1 (J2 W X) X cx_695 := y_ok J2_J mTS2_ok1 mTC2_ok1 mRUp_ok1 (List.forall_mem_cons.mpr ⟨sn_677, List.forall_mem_cons.mpr ⟨sn_675, List.forall_mem_cons.mpr ⟨sn_663, fun _ h => absurd h List.not_mem_nil⟩⟩⟩) ck_695
/-- M.isPeace -/
def cx_696 : zCtx := (285, ([ui0, ui584, ui2352, ui2352, (0, 1), (0, 0)], [ur1331], [], [], [uV2, uV11, uV12, uV58], [uF2107, uF2268], []), [([ui0, ui584, ui2352, ui2352, (0, 1), (0, 0), (0, 0)], [ur1331], [], [], [uV64], [uF2341], []), ([ui0, ui584, ui2352, ui2352, (0, 1), (0, 0), (0, 0)], [ur1331], [], [], [uV62], [uF2341], [])], [uk2315, uk2350, uk2316], 1000001016, 4, 87)
set_option maxRecDepth 1000000 in
theorem ck_696 : x_ok mLT1 [cx_677, cx_663] mTS2 mTC2 mRUp cx_696 [(32, [0]), (37, [0]), (41, [1])] [] [(3, ([(0, 3072), (0, 999), (23, 25), (23, 25), (0, 1), (0, 0), (0, 40)], [(12, false)], [], [(2, 0, 0, []), (0, 0, 0, [(1, 1)]), (0, 0, 0, [(2, 1)]), (0, 0, 0, [(3, 1)]), (0, 0, 0, [(6, 1)])], [], [(0, (false, 18, 0, []), 0, 0, 0, [(4, 1)]), (0, (false, 61, 0, []), 0, 0, 0, [(5, 1)])], []), (576, [(5, (-100000000000)), (6, (-14))]))] (579, []) 1000000437 19 = true := by decide +kernel
theorem sn_696 {W : Bool} {X : List Int32} : y_Snd (mGw W) mLT1 (J2 W X) X cx_696 := y_ok J2_J mTS2_ok1 mTC2_ok1 mRUp_ok1 (List.forall_mem_cons.mpr ⟨sn_677, List.forall_mem_cons.mpr ⟨sn_663, fun _ h => absurd h List.not_mem_nil⟩⟩) ck_696
/-- M.isPeace -/
def cx_697 : zCtx := (285, ([ui0, ui584, ui2352, ui2353, (0, 1), (0, 0)], [ur1331], [], [], [uV2, uV11, uV12, uV58], [uF2107, uF2268], []), [([ui0, ui584, ui2352, ui2353, (0, 1), (0, 0), (0, 0)], [ur1331], [], [], [uV64], [uF2341], []), ([ui0, ui584, ui2352, ui2353, (0, 1), (0, 0), (0, 0)], [ur1331], [], [], [uV62], [uF2341], [])], [uk2315, uk2350, uk2316], 1000001016, 4, 87)
set_option maxRecDepth 1000000 in
theorem ck_697 : x_ok mLT1 [cx_677, cx_679, cx_663] mTS2 mTC2 mRUp cx_697 [(32, [0]), (37, [1]), (41, [2])] [] [(3, ([(0, 3072), (0, 999), (23, 25), (34, 35), (0, 1), (0, 0), (0, 40)], [(12, false)], [], [(2, 0, 0, []), (0, 0, 0, [(1, 1)]), (0, 0, 0, [(2, 1)]), (0, 0, 0, [(3, 1)]), (0, 0, 0, [(6, 1)])], [], [(0, (false, 18, 0, []), 0, 0, 0, [(4, 1)]), (0, (false, 61, 0, []), 0, 0, 0, [(5, 1)])], []), (576, [(5, (-100000000000)), (6, (-14))]))] (579, []) 1000000437 19 = true := by decide +kernel
theorem sn_697 {W : Bool} {X : List Int32} : y_Snd (mGw W) mLT1 (J2 W X) X cx_697 := y_ok J2_J mTS2_ok1 mTC2_ok1 mRUp_ok1 (List.forall_mem_cons.mpr ⟨sn_677, List.forall_mem_cons.mpr ⟨sn_679, List.forall_mem_cons.mpr ⟨sn_663, fun _ h => absurd h List.not_mem_nil⟩⟩⟩) ck_697
/-- M.isPeace -/
def cx_698 : zCtx := (285, ([ui0, ui584, ui2352, ui2354, (0, 1), (0, 0)], [ur1331], [], [], [uV2, uV11, uV12, uV58], [uF2107, uF2268], []), [([ui0, ui584, ui2352, ui2354, (0, 1), (0, 0), (0, 0)], [ur1331], [], [], [uV64], [uF2341], []), ([ui0, ui584, ui2352, ui2354, (0, 1), (0, 0), (0, 0)], [ur1331], [], [], [uV62], [uF2341], [])], [uk2315, uk2350, uk2316], 1000026492, 4, 87)
set_option maxRecDepth 1000000 in
theorem ck_698 : x_ok mLT1 [cx_677, cx_681, cx_663] mTS2 mTC2 mRUp cx_698 [(32, [0]), (37, [1]), (41, [2])] [] [(3, ([(0, 3072), (0, 999), (23, 25), (45, 45), (0, 1), (0, 0), (0, 40)], [(12, false)], [], [(2, 0, 0, []), (0, 0, 0, [(1, 1)]), (0, 0, 0, [(2, 1)]), (0, 0, 0, [(3, 1)]), (0, 0, 0, [(6, 1)])], [], [(0, (false, 18, 0, []), 0, 0, 0, [(4, 1)]), (0, (false, 61, 0, []), 0, 0, 0, [(5, 1)])], []), ((-4500000000000), [(3, 100000000576), (5, (-4500000000000)), (6, (-630))]))] (26055, []) 1000000437 19 = true := by decide +kernel
theorem sn_698 {W : Bool} {X : List Int32} : y_Snd (mGw W) mLT1 (J2 W X) X cx_698 := y_ok J2_J mTS2_ok1 mTC2_ok1 mRUp_ok1 (List.forall_mem_cons.mpr ⟨sn_677, List.forall_mem_cons.mpr ⟨sn_681, List.forall_mem_cons.mpr ⟨sn_663, fun _ h => absurd h List.not_mem_nil⟩⟩⟩) ck_698
/-- M.isPeace -/
def cx_699 : zCtx := (285, ([ui0, ui584, ui2353, (1, 5), (0, 1), (0, 0)], [ur1331], [], [], [uV2, uV11, uV12, uV58], [uF2107, uF2268], []), [([ui0, ui584, ui2353, (1, 5), (0, 1), (0, 0), (0, 0)], [ur1331], [], [], [uV64], [uF2341], []), ([ui0, ui584, ui2353, (1, 5), (0, 1), (0, 0), (0, 0)], [ur1331], [], [], [uV62], [uF2341], [])], [uk2315, uk2350, uk2316], 1000001016, 4, 87)
set_option maxRecDepth 1000000 in
theorem ck_699 : x_ok mLT1 [cx_679, cx_673, cx_663] mTS2 mTC2 mRUp cx_699 [(32, [0]), (37, [1]), (41, [2])] [] [(3, ([(0, 3072), (0, 999), (34, 35), (1, 5), (0, 1), (0, 0), (0, 40)], [(12, false)], [], [(2, 0, 0, []), (0, 0, 0, [(1, 1)]), (0, 0, 0, [(2, 1)]), (0, 0, 0, [(3, 1)]), (0, 0, 0, [(6, 1)])], [], [(0, (false, 18, 0, []), 0, 0, 0, [(4, 1)]), (0, (false, 61, 0, []), 0, 0, 0, [(5, 1)])], []), (576, [(5, (-100000000000)), (6, (-14))]))] (579, []) 1000000437 19 = true := by decide +kernel
theorem sn_699 {W : Bool} {X : List Int32} : y_Snd (mGw W) mLT1 (J2 W X) X cx_699 := y_ok J2_J mTS2_ok1 mTC2_ok1 mRUp_ok1 (List.forall_mem_cons.mpr ⟨sn_679, List.forall_mem_cons.mpr ⟨sn_673, List.forall_mem_cons.mpr ⟨sn_663, fun _ h => absurd h List.not_mem_nil⟩⟩⟩) ck_699
/-- M.isPeace -/
def cx_700 : zCtx := (285, ([ui0, ui584, ui2353, ui2351, (0, 1), (0, 0)], [ur1331], [], [], [uV2, uV11, uV12, uV58], [uF2107, uF2268], []), [([ui0, ui584, ui2353, ui2351, (0, 1), (0, 0), (0, 0)], [ur1331], [], [], [uV64], [uF2341], []), ([ui0, ui584, ui2353, ui2351, (0, 1), (0, 0), (0, 0)], [ur1331], [], [], [uV62], [uF2341], [])], [uk2315, uk2350, uk2316], 1000001016, 4, 87)
set_option maxRecDepth 1000000 in
theorem ck_700 : x_ok mLT1 [cx_679, cx_675, cx_663] mTS2 mTC2 mRUp cx_700 [(32, [0]), (37, [1]), (41, [2])] [] [(3, ([(0, 3072), (0, 999), (34, 35), (12, 15), (0, 1), (0, 0), (0, 40)], [(12, false)], [], [(2, 0, 0, []), (0, 0, 0, [(1, 1)]), (0, 0, 0, [(2, 1)]), (0, 0, 0, [(3, 1)]), (0, 0, 0, [(6, 1)])], [], [(0, (false, 18, 0, []), 0, 0, 0, [(4, 1)]), (0, (false, 61, 0, []), 0, 0, 0, [(5, 1)])], []), (576, [(5, (-100000000000)), (6, (-14))]))] (579, []) 1000000437 19 = true := by decide +kernel
theorem sn_700 {W : Bool} {X : List Int32} : y_Snd (mGw W) mLT1 (J2 W X) X cx_700 := y_ok J2_J mTS2_ok1 mTC2_ok1 mRUp_ok1 (List.forall_mem_cons.mpr ⟨sn_679, List.forall_mem_cons.mpr ⟨sn_675, List.forall_mem_cons.mpr ⟨sn_663, fun _ h => absurd h List.not_mem_nil⟩⟩⟩) ck_700
/-- M.isPeace -/
def cx_701 : zCtx := (285, ([ui0, ui584, ui2353, ui2352, (0, 1), (0, 0)], [ur1331], [], [], [uV2, uV11, uV12, uV58], [uF2107, uF2268], []), [([ui0, ui584, ui2353, ui2352, (0, 1), (0, 0), (0, 0)], [ur1331], [], [], [uV64], [uF2341], []), ([ui0, ui584, ui2353, ui2352, (0, 1), (0, 0), (0, 0)], [ur1331], [], [], [uV62], [uF2341], [])], [uk2315, uk2350, uk2316], 1000001016, 4, 87)
set_option maxRecDepth 1000000 in
theorem ck_701 : x_ok mLT1 [cx_679, cx_677, cx_663] mTS2 mTC2 mRUp cx_701 [(32, [0]), (37, [1]), (41, [2])] [] [(3, ([(0, 3072), (0, 999), (34, 35), (23, 25), (0, 1), (0, 0), (0, 40)], [(12, false)], [], [(2, 0, 0, []), (0, 0, 0, [(1, 1)]), (0, 0, 0, [(2, 1)]), (0, 0, 0, [(3, 1)]), (0, 0, 0, [(6, 1)])], [], [(0, (false, 18, 0, []), 0, 0, 0, [(4, 1)]), (0, (false, 61, 0, []), 0, 0, 0, [(5, 1)])], []), (576, [(5, (-100000000000)), (6, (-14))]))] (579, []) 1000000437 19 = true := by decide +kernel
theorem sn_701 {W : Bool} {X : List Int32} : y_Snd (mGw W) mLT1 (J2 W X) X cx_701 := y_ok J2_J mTS2_ok1 mTC2_ok1 mRUp_ok1 (List.forall_mem_cons.mpr ⟨sn_679, List.forall_mem_cons.mpr ⟨sn_677, List.forall_mem_cons.mpr ⟨sn_663, fun _ h => absurd h List.not_mem_nil⟩⟩⟩) ck_701
/-- M.isPeace -/
def cx_702 : zCtx := (285, ([ui0, ui584, ui2353, ui2353, (0, 1), (0, 0)], [ur1331], [], [], [uV2, uV11, uV12, uV58], [uF2107, uF2268], []), [([ui0, ui584, ui2353, ui2353, (0, 1), (0, 0), (0, 0)], [ur1331], [], [], [uV64], [uF2341], []), ([ui0, ui584, ui2353, ui2353, (0, 1), (0, 0), (0, 0)], [ur1331], [], [], [uV62], [uF2341], [])], [uk2315, uk2350, uk2316], 1000001016, 4, 87)
set_option maxRecDepth 1000000 in
theorem ck_702 : x_ok mLT1 [cx_679, cx_663] mTS2 mTC2 mRUp cx_702 [(32, [0]), (37, [0]), (41, [1])] [] [(3, ([(0, 3072), (0, 999), (34, 35), (34, 35), (0, 1), (0, 0), (0, 40)], [(12, false)], [], [(2, 0, 0, []), (0, 0, 0, [(1, 1)]), (0, 0, 0, [(2, 1)]), (0, 0, 0, [(3, 1)]), (0, 0, 0, [(6, 1)])], [], [(0, (false, 18, 0, []), 0, 0, 0, [(4, 1)]), (0, (false, 61, 0, []), 0, 0, 0, [(5, 1)])], []), (576, [(5, (-100000000000)), (6, (-14))]))] (579, []) 1000000437 19 = true := by decide +kernel
theorem sn_702 {W : Bool} {X : List Int32} : y_Snd (mGw W) mLT1 (J2 W X) X cx_702 := y_ok J2_J mTS2_ok1 mTC2_ok1 mRUp_ok1 (List.forall_mem_cons.mpr ⟨sn_679, List.forall_mem_cons.mpr ⟨sn_663, fun _ h => absurd h List.not_mem_nil⟩⟩) ck_702
/-- M.isPeace -/
def cx_703 : zCtx := (285, ([ui0, ui584, ui2353, ui2354, (0, 1), (0, 0)], [ur1331], [], [], [uV2, uV11, uV12, uV58], [uF2107, uF2268], []), [([ui0, ui584, ui2353, ui2354, (0, 1), (0, 0), (0, 0)], [ur1331], [], [], [uV64], [uF2341], []), ([ui0, ui584, ui2353, ui2354, (0, 1), (0, 0), (0, 0)], [ur1331], [], [], [uV62], [uF2341], [])], [uk2315, uk2350, uk2316], 1000026492, 4, 87)
set_option maxRecDepth 1000000 in
theorem ck_703 : x_ok mLT1 [cx_679, cx_681, cx_663] mTS2 mTC2 mRUp cx_703 [(32, [0]), (37, [1]), (41, [2])] [] [(3, ([(0, 3072), (0, 999), (34, 35), (45, 45), (0, 1), (0, 0), (0, 40)], [(12, false)], [], [(2, 0, 0, []), (0, 0, 0, [(1, 1)]), (0, 0, 0, [(2, 1)]), (0, 0, 0, [(3, 1)]), (0, 0, 0, [(6, 1)])], [], [(0, (false, 18, 0, []), 0, 0, 0, [(4, 1)]), (0, (false, 61, 0, []), 0, 0, 0, [(5, 1)])], []), ((-4500000000000), [(3, 100000000576), (5, (-4500000000000)), (6, (-630))]))] (26055, []) 1000000437 19 = true := by decide +kernel
theorem sn_703 {W : Bool} {X : List Int32} : y_Snd (mGw W) mLT1 (J2 W X) X cx_703 := y_ok J2_J mTS2_ok1 mTC2_ok1 mRUp_ok1 (List.forall_mem_cons.mpr ⟨sn_679, List.forall_mem_cons.mpr ⟨sn_681, List.forall_mem_cons.mpr ⟨sn_663, fun _ h => absurd h List.not_mem_nil⟩⟩⟩) ck_703
/-- M.isPeace -/
def cx_704 : zCtx := (285, ([ui0, ui584, ui2354, (1, 5), (0, 1), (0, 0)], [ur1331], [], [], [uV2, uV11, uV12, uV58], [uF2107, uF2268], []), [([ui0, ui584, ui2354, (1, 5), (0, 1), (0, 0), (0, 0)], [ur1331], [], [], [uV64], [uF2341], []), ([ui0, ui584, ui2354, (1, 5), (0, 1), (0, 0), (0, 0)], [ur1331], [], [], [uV62], [uF2341], [])], [uk2315, uk2350, uk2316], 1000026492, 4, 87)
set_option maxRecDepth 1000000 in
theorem ck_704 : x_ok mLT1 [cx_681, cx_673, cx_663] mTS2 mTC2 mRUp cx_704 [(32, [0]), (37, [1]), (41, [2])] [] [(3, ([(0, 3072), (0, 999), (45, 45), (1, 5), (0, 1), (0, 0), (0, 40)], [(12, false)], [], [(2, 0, 0, []), (0, 0, 0, [(1, 1)]), (0, 0, 0, [(2, 1)]), (0, 0, 0, [(3, 1)]), (0, 0, 0, [(6, 1)])], [], [(0, (false, 18, 0, []), 0, 0, 0, [(4, 1)]), (0, (false, 61, 0, []), 0, 0, 0, [(5, 1)])], []), ((-4500000000000), [(2, 100000000576), (5, (-4500000000000)), (6, (-630))]))] (26055, []) 1000000437 19 = true := by decide +kernel
theorem sn_704 {W : Bool} {X : List Int32} : y_Snd (mGw W) mLT1 (J2 W X) X cx_704 := y_ok J2_J mTS2_ok1 mTC2_ok1 mRUp_ok1 (List.forall_mem_cons.mpr ⟨sn_681, List.forall_mem_cons.mpr ⟨sn_673, List.forall_mem_cons.mpr ⟨sn_663, fun _ h => absurd h List.not_mem_nil⟩⟩⟩) ck_704
/-- M.isPeace -/
def cx_705 : zCtx := (285, ([ui0, ui584, ui2354, ui2351, (0, 1), (0, 0)], [ur1331], [], [], [uV2, uV11, uV12, uV58], [uF2107, uF2268], []), [([ui0, ui584, ui2354, ui2351, (0, 1), (0, 0), (0, 0)], [ur1331], [], [], [uV64], [uF2341], []), ([ui0, ui584, ui2354, ui2351, (0, 1), (0, 0), (0, 0)], [ur1331], [], [], [uV62], [uF2341], [])], [uk2315, uk2350, uk2316], 1000026492, 4, 87)
set_option maxRecDepth 1000000 in
theorem ck_705 : x_ok mLT1 [cx_681, cx_675, cx_663] mTS2 mTC2 mRUp cx_705 [(32, [0]), (37, [1]), (41, [2])] [] [(3, ([(0, 3072), (0, 999), (45, 45), (12, 15), (0, 1), (0, 0), (0, 40)], [(12, false)], [], [(2, 0, 0, []), (0, 0, 0, [(1, 1)]), (0, 0, 0, [(2, 1)]), (0, 0, 0, [(3, 1)]), (0, 0, 0, [(6, 1)])], [], [(0, (false, 18, 0, []), 0, 0, 0, [(4, 1)]), (0, (false, 61, 0, []), 0, 0, 0, [(5, 1)])], []), ((-4500000000000), [(2, 100000000576), (5, (-4500000000000)), (6, (-630))]))] (26055, []) 1000000437 19 = true := by decide +kernel
theorem sn_705 {W : Bool} {X : List Int32} : y_Snd (mGw W) mLT1 (J2 W X) X cx_705 := y_ok J2_J mTS2_ok1 mTC2_ok1 mRUp_ok1 (List.forall_mem_cons.mpr ⟨sn_681, List.forall_mem_cons.mpr ⟨sn_675, List.forall_mem_cons.mpr ⟨sn_663, fun _ h => absurd h List.not_mem_nil⟩⟩⟩) ck_705
/-- M.isPeace -/
def cx_706 : zCtx := (285, ([ui0, ui584, ui2354, ui2352, (0, 1), (0, 0)], [ur1331], [], [], [uV2, uV11, uV12, uV58], [uF2107, uF2268], []), [([ui0, ui584, ui2354, ui2352, (0, 1), (0, 0), (0, 0)], [ur1331], [], [], [uV64], [uF2341], []), ([ui0, ui584, ui2354, ui2352, (0, 1), (0, 0), (0, 0)], [ur1331], [], [], [uV62], [uF2341], [])], [uk2315, uk2350, uk2316], 1000026492, 4, 87)
set_option maxRecDepth 1000000 in
theorem ck_706 : x_ok mLT1 [cx_681, cx_677, cx_663] mTS2 mTC2 mRUp cx_706 [(32, [0]), (37, [1]), (41, [2])] [] [(3, ([(0, 3072), (0, 999), (45, 45), (23, 25), (0, 1), (0, 0), (0, 40)], [(12, false)], [], [(2, 0, 0, []), (0, 0, 0, [(1, 1)]), (0, 0, 0, [(2, 1)]), (0, 0, 0, [(3, 1)]), (0, 0, 0, [(6, 1)])], [], [(0, (false, 18, 0, []), 0, 0, 0, [(4, 1)]), (0, (false, 61, 0, []), 0, 0, 0, [(5, 1)])], []), ((-4500000000000), [(2, 100000000576), (5, (-4500000000000)), (6, (-630))]))] (26055, []) 1000000437 19 = true := by decide +kernel
theorem sn_706 {W : Bool} {X : List Int32} : y_Snd (mGw W) mLT1 (J2 W X) X cx_706 := y_ok J2_J mTS2_ok1 mTC2_ok1 mRUp_ok1 (List.forall_mem_cons.mpr ⟨sn_681, List.forall_mem_cons.mpr ⟨sn_677, List.forall_mem_cons.mpr ⟨sn_663, fun _ h => absurd h List.not_mem_nil⟩⟩⟩) ck_706
/-- M.isPeace -/
def cx_707 : zCtx := (285, ([ui0, ui584, ui2354, ui2353, (0, 1), (0, 0)], [ur1331], [], [], [uV2, uV11, uV12, uV58], [uF2107, uF2268], []), [([ui0, ui584, ui2354, ui2353, (0, 1), (0, 0), (0, 0)], [ur1331], [], [], [uV64], [uF2341], []), ([ui0, ui584, ui2354, ui2353, (0, 1), (0, 0), (0, 0)], [ur1331], [], [], [uV62], [uF2341], [])], [uk2315, uk2350, uk2316], 1000026492, 4, 87)
set_option maxRecDepth 1000000 in
theorem ck_707 : x_ok mLT1 [cx_681, cx_679, cx_663] mTS2 mTC2 mRUp cx_707 [(32, [0]), (37, [1]), (41, [2])] [] [(3, ([(0, 3072), (0, 999), (45, 45), (34, 35), (0, 1), (0, 0), (0, 40)], [(12, false)], [], [(2, 0, 0, []), (0, 0, 0, [(1, 1)]), (0, 0, 0, [(2, 1)]), (0, 0, 0, [(3, 1)]), (0, 0, 0, [(6, 1)])], [], [(0, (false, 18, 0, []), 0, 0, 0, [(4, 1)]), (0, (false, 61, 0, []), 0, 0, 0, [(5, 1)])], []), ((-4500000000000), [(2, 100000000576), (5, (-4500000000000)), (6, (-630))]))] (26055, []) 1000000437 19 = true := by decide +kernel
theorem sn_707 {W : Bool} {X : List Int32} : y_Snd (mGw W) mLT1 (J2 W X) X cx_707 := y_ok J2_J mTS2_ok1 mTC2_ok1 mRUp_ok1 (List.forall_mem_cons.mpr ⟨sn_681, List.forall_mem_cons.mpr ⟨sn_679, List.forall_mem_cons.mpr ⟨sn_663, fun _ h => absurd h List.not_mem_nil⟩⟩⟩) ck_707
/-- M.isPeace -/
def cx_708 : zCtx := (285, ([ui0, ui584, ui2354, ui2354, (0, 1), (0, 0)], [ur1331], [], [], [uV2, uV11, uV12, uV58], [uF2107, uF2268], []), [([ui0, ui584, ui2354, ui2354, (0, 1), (0, 0), (0, 0)], [ur1331], [], [], [uV64], [uF2341], []), ([ui0, ui584, ui2354, ui2354, (0, 1), (0, 0), (0, 0)], [ur1331], [], [], [uV62], [uF2341], [])], [uk2315, uk2350, uk2316], 1000026492, 4, 87)
set_option maxRecDepth 1000000 in
theorem ck_708 : x_ok mLT1 [cx_681, cx_663] mTS2 mTC2 mRUp cx_708 [(32, [0]), (37, [0]), (41, [1])] [] [(3, ([(0, 3072), (0, 999), (45, 45), (45, 45), (0, 1), (0, 0), (0, 40)], [(12, false)], [], [(2, 0, 0, []), (0, 0, 0, [(1, 1)]), (0, 0, 0, [(2, 1)]), (0, 0, 0, [(3, 1)]), (0, 0, 0, [(6, 1)])], [], [(0, (false, 18, 0, []), 0, 0, 0, [(4, 1)]), (0, (false, 61, 0, []), 0, 0, 0, [(5, 1)])], []), ((-4500000000000), [(2, (-4399999999424)), (3, 4500000000000), (5, (-4500000000000)), (6, (-630))]))] (26055, []) 1000000437 19 = true := by decide +kernel
theorem sn_708 {W : Bool} {X : List Int32} : y_Snd (mGw W) mLT1 (J2 W X) X cx_708 := y_ok J2_J mTS2_ok1 mTC2_ok1 mRUp_ok1 (List.forall_mem_cons.mpr ⟨sn_681, List.forall_mem_cons.mpr ⟨sn_663, fun _ h => absurd h List.not_mem_nil⟩⟩) ck_708
/-- M.peace -/
def cx_709 : zCtx := (284, cx_659p, [([ui0, ui49, ui49, (0, 1), ui49, (0, 1), (0, 6), ui31], [ur1331, ur1378, ur1379, ur1389, ur1390, ur1391, ur1392, ur1393, ur1387, ur1388], [], [], [uV61], [uF2025, uF2026, uF2341], []), ([ui0, ui584, (0, 0), (0, 1), ui49, (0, 1), (0, 6), ui31, (0, 0), ui196], [ur1331, ur1378, ur1379, ur1389, ur1390, ur1391, ur1392, ur1393, ur1387, ur1388], [], [], [uV62], [uF2345, uF1892, uF2261], [uG1899, uG1895]), ([ui0, ui584, (1, 2), (0, 1), ui49, (0, 1), (0, 6), ui31, (0, 0), ui196], [ur1331, ur1378, ur1379, ur1389, ur1390, ur1391, ur1392, ur1393, ur1387, ur1388], [], [], [uV61], [uF2345, uF1892, uF2261], [uG1899, uG1895]), ([ui0, ui584, (0, 0), (0, 1), ui49, (0, 1), (0, 6), ui31, (0, 0), ui196], [ur1331, ur1378, ur1379, ur1389, ur1390, ur1391, ur1392, ur1393, ur1387, ur1388], [], [], [uV64], [uF2345, uF1892, uF2261], [uG1899, uG1895]), ([ui0, ui584, (1, 2), (0, 1), ui49, (0, 1), (0, 6), ui31, (1, 45), (0, 0), ui196], [ur1331, ur1378, ur1379, ur1389, ur1390, ur1391, ur1392, ur1393, ur1387, ur1388], [], [], [uV144], [uF2343, uF1892, uF2344], [uG1899, uG1895]), ([ui0, ui584, (0, 2), (0, 1), ui49, (0, 1), (0, 6), ui31, (0, 0), ui196], [ur1331, ur1378, ur1379, ur1389, ur1390, ur1391, ur1392, ur1393, ur1387, ur1388], [], [], [uV567], [uF2345, uF1892, uF2261], [uG1899, uG1895]), ([ui0, ui584, (0, 0), (0, 1), ui49, (0, 1), (0, 6), ui31, (0, 0), ui196], [ur1331, ur1378, ur1379, ur1389, ur1390, ur1391, ur1392, ur1393, ur1387, ur1388], [], [], [uV389], [uF2345, uF1892, uF2261], [uG1899, uG1895])], kc_84, 1000107788, 6, 129)
def cq_709 : List zCtx := [cx_554, cx_504, cx_508, cx_642, cx_666, cx_667, cx_668, cx_669, cx_670, cx_671, cx_672, cx_674, cx_676, cx_678, cx_680, cx_682, cx_683, cx_684, cx_685, cx_686, cx_687, cx_688, cx_689, cx_690, cx_691, cx_692, cx_693, cx_694, cx_695, cx_696, cx_697, cx_698, cx_699, cx_700, cx_701, cx_702, cx_703, cx_704, cx_705, cx_706, cx_707, cx_708]
def cs_709 : List (Nat × List Nat) := [(1, [0]), (10, [1]), (19, [2]), (23, [3]), (30, [4]), (56, [5, 6, 7, 8, 9, 10]), (66, [11, 12, 13, 14, 15]), (119, [5, 6, 7, 8, 9, 10, 16]), (128, [5, 6, 7, 8, 9, 10]), (139, [17, 18, 19, 20, 21, 22, 23, 24, 25, 26, 27, 28, 29, 30, 31, 32, 33, 34, 35, 36, 37, 38, 39, 40, 41])]
def hs_709 : List (Nat × List Nat) := [(54, [233]), (117, [233, 297])]
def nd_709_0pi_0 (t : List (Int × Int)) : List (Int × Int) := ui0 :: ui584 :: (0, 2) :: (0, 1) :: ui49 :: (0, 1) :: (0, 6) :: ui31 :: t
def nd_709_0pi_1 (t : List (Int × Int)) : List (Int × Int) := ui844 :: (0, 0) :: ui196 :: t
def nd_709_0pf_0 (t : List zFa) : List zFa := uF2343 :: uF1892 :: uF2344 :: uF2258 :: uF2259 :: uF2260 :: uF2024 :: uF1394 :: t
def nd_709_0pf_1 (t : List zFa) : List zFa := uF1395 :: uF2027 :: uF2028 :: uF2029 :: uF2030 :: uF2031 :: uF1625 :: uF1626 :: t
def nd_709_0p : zS := ((nd_709_0pi_0 (nd_709_0pi_1 [])), (cz_618_0r_0 (cz_618_0r_1 [])), [], [uV2, uV11, uV12, uV144, uV113], [], (nd_709_0pf_0 (nd_709_0pf_1 [])), [uG1899, uG1895, uG2037, uG2342])
def nd_709_0 : zN := (48, nd_709_0p, (81275, [(8, (-16)), (9, (-100000000000))]))
def nd_709_1pi_0 (t : List (Int × Int)) : List (Int × Int) := ui0 :: ui584 :: (0, 2) :: (0, 1) :: ui49 :: (0, 1) :: (0, 6) :: ui31 :: t
def nd_709_1pi_1 (t : List (Int × Int)) : List (Int × Int) := ui1592 :: (0, 0) :: ui196 :: t
def nd_709_1p : zS := ((nd_709_1pi_0 (nd_709_1pi_1 [])), (cz_618_0r_0 (cz_618_0r_1 [])), [], [uV2, uV11, uV12, uV144, uV113], [], (nd_709_0pf_0 (nd_709_0pf_1 [])), [uG1899, uG1895, uG2037, uG2342])
def nd_709_1 : zN := (99, nd_709_1p, (80261, [(8, (-1254)), (9, (-100000000000))]))
def nd_709_2pi_0 (t : List (Int × Int)) : List (Int × Int) := ui0 :: ui584 :: (0, 2) :: (0, 1) :: ui49 :: (0, 1) :: (0, 6) :: ui31 :: t
def nd_709_2pi_1 (t : List (Int × Int)) : List (Int × Int) := ui844 :: ui1103 :: (0, 0) :: ui196 :: t
def nd_709_2pf_0 (t : List zFa) : List zFa := (0, (false, 61, 0, []), 0, 0, 0, [(10, 1)]) :: uF1892 :: uF2356 :: uF2258 :: uF2259 :: uF2260 :: uF2024 :: uF1394 :: t
def nd_709_2pf_1 (t : List zFa) : List zFa := uF1395 :: uF2027 :: uF2028 :: uF2029 :: uF2030 :: uF2031 :: uF1625 :: uF1626 :: t
def nd_709_2p : zS := ((nd_709_2pi_0 (nd_709_2pi_1 [])), (cz_618_0r_0 (cz_618_0r_1 [])), [], [uV2, uV11, uV12, uV144, uV778], [], (nd_709_2pf_0 (nd_709_2pf_1 [])), [uG1899, uG1895, uG2037, uG2342])
def nd_709_2 : zN := (110, nd_709_2p, (80273, [(8, (-1234)), (9, (-20)), (10, (-100000000000))]))
def ns_709 : List zN := [nd_709_0, nd_709_1, nd_709_2]
set_option maxRecDepth 1000000 in
theorem ca_709 : x_okA mLT1 cq_709 mTS2 mTC2 mRUp cx_709 cs_709 hs_709 ns_709 (81296, []) 1000026492 28 = true := by decide +kernel
set_option maxRecDepth 1000000 in
theorem cb_709_0 : x_okB mLT1 cq_709 mTS2 mTC2 mRUp cx_709 cs_709 hs_709 ns_709 (81296, []) 1000026492 28 nd_709_0 = true := by decide +kernel
set_option maxRecDepth 1000000 in
theorem cb_709_1 : x_okB mLT1 cq_709 mTS2 mTC2 mRUp cx_709 cs_709 hs_709 ns_709 (81296, []) 1000026492 28 nd_709_1 = true := by decide +kernel
set_option maxRecDepth 1000000 in
theorem cb_709_2 : x_okB mLT1 cq_709 mTS2 mTC2 mRUp cx_709 cs_709 hs_709 ns_709 (81296, []) 1000026492 28 nd_709_2 = true := by decide +kernel
set_option maxRecDepth 1000000 in
theorem cc_709 : x_okC mLT1 cq_709 mTS2 mTC2 mRUp cx_709 cs_709 hs_709 ns_709 (81296, []) 1000026492 28 = true := by decide +kernel
theorem ck_709 : x_ok mLT1 cq_709 mTS2 mTC2 mRUp cx_709 cs_709 hs_709 ns_709 (81296, []) 1000026492 28 = true := x_ok_of ca_709 (List.forall_mem_cons.mpr ⟨cb_709_0, List.forall_mem_cons.mpr ⟨cb_709_1, List.forall_mem_cons.mpr ⟨cb_709_2, fun _ h => absurd h List.not_mem_nil⟩⟩⟩) cc_709
theorem sn_709 {W : Bool} {X : List Int32} : y_Snd (mGw W) mLT1 (J2 W X) X cx_709 := y_ok J2_J mTS2_ok1 mTC2_ok1 mRUp_ok1 (List.forall_mem_cons.mpr ⟨sn_554, List.forall_mem_cons.mpr ⟨sn_504, List.forall_mem_cons.mpr ⟨sn_508, List.forall_mem_cons.mpr ⟨sn_642, List.forall_mem_cons.mpr ⟨sn_666, List.forall_mem_cons.mpr ⟨sn_667, List.forall_mem_cons.mpr ⟨sn_668, List.forall_mem_cons.mpr ⟨sn_669, List.forall_mem_cons.mpr ⟨sn_670, List.forall_mem_cons.mpr ⟨sn_671, List.forall_mem_cons.mpr ⟨sn_672, List.forall_mem_cons.mpr ⟨sn_674, List.forall_mem_cons.mpr ⟨sn_676, List.forall_mem_cons.mpr ⟨sn_678, List.forall_mem_cons.mpr ⟨sn_680, List.forall_mem_cons.mpr ⟨sn_682, List.forall_mem_cons.mpr ⟨sn_683, List.forall_mem_cons.mpr ⟨sn_684, List.forall_mem_cons.mpr ⟨sn_685, List.forall_mem_cons.mpr ⟨sn_686, List.forall_mem_cons.mpr ⟨sn_687, List.forall_mem_cons.mpr ⟨sn_688, List.forall_mem_cons.mpr ⟨sn_689, List.forall_mem_cons.mpr ⟨sn_690, List.forall_mem_cons.mpr ⟨sn_691, List.forall_mem_cons.mpr ⟨sn_692, List.forall_mem_cons.mpr ⟨sn_693, List.forall_mem_cons.mpr ⟨sn_694, List.forall_mem_cons.mpr ⟨sn_695, List.forall_mem_cons.mpr ⟨sn_696, List.forall_mem_cons.mpr ⟨sn_697, List.forall_mem_cons.mpr ⟨sn_698, List.forall_mem_cons.mpr ⟨sn_699, List.forall_mem_cons.mpr ⟨sn_700, List.forall_mem_cons.mpr ⟨sn_701, List.forall_mem_cons.mpr ⟨sn_702, List.forall_mem_cons.mpr ⟨sn_703, List.forall_mem_cons.mpr ⟨sn_704, List.forall_mem_cons.mpr ⟨sn_705, List.forall_mem_cons.mpr ⟨sn_706, List.forall_mem_cons.mpr ⟨sn_707, List.forall_mem_cons.mpr ⟨sn_708, fun _ h => absurd h List.not_mem_nil⟩⟩⟩⟩⟩⟩⟩⟩⟩⟩⟩⟩⟩⟩⟩⟩⟩⟩⟩⟩⟩⟩⟩⟩⟩⟩⟩⟩⟩⟩⟩⟩⟩⟩⟩⟩⟩⟩⟩⟩⟩⟩) ck_709
/-- M.givesBits -/
def cx_710 : zCtx := (289, ([ui0], [ur1331], [], [], [uV2], [], []), [([ui0, ui844], [ur1331], [], [], [uV11], [], [])], [], 112, 0, 0)
set_option maxRecDepth 1000000 in
theorem ck_710 : x_ok mLT1 [] mTS2 mTC2 mRUp cx_710 [] [] [(4, ([(0, 3072), (0, 63), (0, 6)], [(12, false)], [], [(2, 0, 0, []), (0, 0, 0, [(1, 1)]), (0, 0, 0, [(2, 1)])], [], [], []), (107, [(2, (-17))]))] (112, []) 0 19 = true := by decide +kernel
theorem sn_710 {W : Bool} {X : List Int32} : y_Snd (mGw W) mLT1 (J2 W X) X cx_710 := y_ok J2_J mTS2_ok1 mTC2_ok1 mRUp_ok1 (fun _ h => absurd h List.not_mem_nil) ck_710
/-- M.isEnough -/
def cx_711 : zCtx := (292, ([ui0, ui844, (0, 1)], [ur1331], [], [], [uV2, uV11], [uF2020], []), [([ui0, ui844, (0, 1)], [ur1331], [], [], [uV64], [], []), ([ui0, ui844, (0, 1)], [ur1331], [], [], [uV62], [], [])], [], 138, 0, 0)
set_option maxRecDepth 1000000 in
theorem ck_711 : x_ok mLT1 [] mTS2 mTC2 mRUp cx_711 [] [] [(4, ([(0, 3072), (0, 63), (0, 1), ((-2147483648), 2147483647), (0, 6)], [(12, false)], [], [(2, 0, 0, []), (0, 0, 0, [(1, 1)]), (0, 0, 0, [(3, 1)]), (0, 0, 0, [(4, 1)])], [], [(0, (false, 18, 0, []), 0, 0, 0, [(2, 1)])], []), (133, [(4, (-20))]))] (138, []) 0 22 = true := by decide +kernel
theorem sn_711 {W : Bool} {X : List Int32} : y_Snd (mGw W) mLT1 (J2 W X) X cx_711 := y_ok J2_J mTS2_ok1 mTC2_ok1 mRUp_ok1 (fun _ h => absurd h List.not_mem_nil) ck_711
/-- M.costsOf -/
def cx_712 : zCtx := (235, ([ui0, (0, 5), (0, 1), ui31], [ur1331, ur1378, ur1379, ur1389, ur1390, ur1391, ur1392, ur1393, ur1387, ur1388], [], [], [uV2, uV11], [uF2020, uF1394, uF1395, uF2027, uF2028, uF2029, uF2030, uF2031, uF1625, uF1626], [uG2067, uG2068]), [([ui0, (0, 5), (0, 1), ui31], [ur1331, ur1378, ur1379, ur1389, ur1390, ur1391, ur1392, ur1393, ur1387, ur1388], [], [], [uV62], [], []), ([ui0, (0, 5), (0, 1), ui31, ui524], [ur1331, ur1378, ur1379, ur1389, ur1390, ur1391, ur1392, ur1393, ur1387, ur1388], [], [], [uV97], [], [])], [uk2063, uk2055, uk2064], 77618, 3, 63)
set_option maxRecDepth 1000000 in
theorem ck_712 : x_ok mLT1 [cx_595, cx_529, cx_523] mTS2 mTC2 mRUp cx_712 [(2, [0]), (13, [1]), (19, [2])] [] [] (14, []) 77604 17 = true := by decide +kernel
theorem sn_712 {W : Bool} {X : List Int32} : y_Snd (mGw W) mLT1 (J2 W X) X cx_712 := y_ok J2_J mTS2_ok1 mTC2_ok1 mRUp_ok1 (List.forall_mem_cons.mpr ⟨sn_595, List.forall_mem_cons.mpr ⟨sn_529, List.forall_mem_cons.mpr ⟨sn_523, fun _ h => absurd h List.not_mem_nil⟩⟩⟩) ck_712
/-- M.givesCost -/
def cx_713 : zCtx := (293, ([ui0, (0, 5), (0, 1), ui31], [ur1331, ur1378, ur1379, ur1389, ur1390, ur1391, ur1392, ur1393, ur1387, ur1388], [], [], [uV2, uV11], [uF2020, uF1394, uF1395, uF2027, uF2028, uF2029, uF2030, uF2031, uF1625, uF1626], [uG2067, uG2068]), [([ui0, (0, 5), (0, 1), ui31, ui524], [ur1331, ur1378, ur1379, ur1389, ur1390, ur1391, ur1392, ur1393, ur1387, ur1388], [], [], [uV97], [], [])], [uk2063, uk2055, uk2064], 77626, 4, 84)
set_option maxRecDepth 1000000 in
theorem ck_713 : x_ok mLT1 [cx_514, cx_712] mTS2 mTC2 mRUp cx_713 [(2, [0]), (14, [1])] [] [] (8, []) 77618 11 = true := by decide +kernel
theorem sn_713 {W : Bool} {X : List Int32} : y_Snd (mGw W) mLT1 (J2 W X) X cx_713 := y_ok J2_J mTS2_ok1 mTC2_ok1 mRUp_ok1 (List.forall_mem_cons.mpr ⟨sn_514, List.forall_mem_cons.mpr ⟨sn_712, fun _ h => absurd h List.not_mem_nil⟩⟩) ck_713
def cx_714p : zS := ([ui0, (0, 5), ui844, (0, 1), ui31], (cx_596pr_0 (cx_596pr_1 [])), [], [], [uV2, uV11, uV12], (cx_597pf_0 (cx_597pf_1 [])), [uG2037, uG2114])
/-- M.hasOf -/
def cx_714 : zCtx := (291, cx_714p, [([ui0, (0, 5), ui844, (0, 1), ui31, ((-99), 0)], [ur1331, ur1378, ur1379, ur1389, ur1390, ur1391, ur1392, ur1393, ur1387, ur1388], [], [], [uV75], [], []), ([ui0, (0, 5), ui844, (0, 1), ui31, ((-99), 9999)], [ur1331, ur1378, ur1379, ur1389, ur1390, ur1391, ur1392, ur1393, ur1387, ur1388], [], [], [uV75], [], [])], [uk2063, uk2055, uk2064], 77649, 5, 105)
set_option maxRecDepth 1000000 in
theorem ck_714 : x_ok mLT1 [cx_711, cx_713] mTS2 mTC2 mRUp cx_714 [(2, [0]), (32, [1])] [] [] (23, []) 77626 26 = true := by decide +kernel
theorem sn_714 {W : Bool} {X : List Int32} : y_Snd (mGw W) mLT1 (J2 W X) X cx_714 := y_ok J2_J mTS2_ok1 mTC2_ok1 mRUp_ok1 (List.forall_mem_cons.mpr ⟨sn_711, List.forall_mem_cons.mpr ⟨sn_713, fun _ h => absurd h List.not_mem_nil⟩⟩) ck_714
/-- M.isRest -/
def cx_715 : zCtx := (290, ([ui0, ui844, (0, 1), ui31], [ur1331, ur1378, ur1379, ur1389, ur1390, ur1391, ur1392, ur1393, ur1387, ur1388], [], [], [uV2, uV11], [uF2020, uF1394, uF1395, uF2027, uF2028, uF2029, uF2030, uF2031, uF1625, uF1626], [uG2067, uG2068]), [([ui0, ui844, (0, 1), ui31], [ur1331, ur1378, ur1379, ur1389, ur1390, ur1391, ur1392, ur1393, ur1387, ur1388], [], [], [uV62], [], []), ([ui0, ui844, (0, 1), ui31], [ur1331, ur1378, ur1379, ur1389, ur1390, ur1391, ur1392, ur1393, ur1387, ur1388], [], [], [uV64], [], [])], [uk2063, uk2055, uk2064], 77844, 6, 127)
def cz_715_0 : zS := ([ui0, ui844, (0, 1), ui31, ui844, (0, 6)], (cx_596pr_0 (cx_596pr_1 [])), [], [uV2, uV11, uV97, uV75], [], (cz_599_0f_0 (cz_599_0f_1 [])), [uG2067, uG2068])
set_option maxRecDepth 1000000 in
theorem ck_715 : x_ok mLT1 [cx_710, cx_714] mTS2 mTC2 mRUp cx_715 [(1, [0]), (36, [1]), (42, [1])] [] [(7, cz_715_0, (189, [(5, (-30))]))] (195, []) 77649 32 = true := by decide +kernel
theorem sn_715 {W : Bool} {X : List Int32} : y_Snd (mGw W) mLT1 (J2 W X) X cx_715 := y_ok J2_J mTS2_ok1 mTC2_ok1 mRUp_ok1 (List.forall_mem_cons.mpr ⟨sn_710, List.forall_mem_cons.mpr ⟨sn_714, fun _ h => absurd h List.not_mem_nil⟩⟩) ck_715
/-- M.bits -/
def cx_716 : zCtx := (294, ([ui0, ui844], [], [], [], [uV11], [], []), [([ui0, ui844, ui49], [], [], [], [uV12], [], [])], [], 94, 0, 0)
set_option maxRecDepth 1000000 in
theorem ck_716 : x_ok mLT1 [] mTS2 mTC2 mRUp cx_716 [] [] [(4, ([(0, 3072), (0, 63), ((-2147483648), 2147483647), (0, 6)], [], [], [(0, 0, 0, [(1, 1)]), (0, 0, 0, [(2, 1)]), (0, 0, 0, [(3, 1)])], [], [], []), (89, [(3, (-14))]))] (94, []) 0 16 = true := by decide +kernel
theorem sn_716 {W : Bool} {X : List Int32} : y_Snd (mGw W) mLT1 (J2 W X) X cx_716 := y_ok J2_J mTS2_ok1 mTC2_ok1 mRUp_ok1 (fun _ h => absurd h List.not_mem_nil) ck_716
/-- M.rests -/
def cx_717 : zCtx := (288, cx_604p, [([ui0, ui262, (0, 1), ui49, (0, 1), ui31], [ur1331, ur1378, ur1379, ur1389, ur1390, ur1391, ur1392, ur1393, ur1387, ur1388], [], [], [uV61], [uF2122, uF2123], []), ([ui0, ui1063, (0, 1), ui49, (0, 1), ui31], [ur1331, ur1378, ur1379, ur1389, ur1390, ur1391, ur1392, ur1393, ur1387, ur1388], [], [], [uV61], [uF2122, uF2123], []), ([ui0, (0, 0), (0, 1), ui49, (0, 1), ui31, ui49, ui196], [ur1331, ur1378, ur1379, ur1389, ur1390, ur1391, ur1392, ur1393, ur1387, ur1388], [], [], [uV108], [uF1892, uF2247], [uG1899, uG1895]), ([ui0, (1, 1), (0, 1), ui49, (0, 1), ui31, ui1248, ui196], [ur1331, ur1378, ur1379, ur1389, ur1390, ur1391, ur1392, ur1393, ur1387, ur1388], [], [], [uV108], [uF1892, uF2247], [uG1899, uG1895])], kc_87, 81545, 7, 150)
def cz_717_0i_0 (t : List (Int × Int)) : List (Int × Int) := ui0 :: (0, 1) :: (0, 1) :: ui49 :: (0, 1) :: ui31 :: ui49 :: ui1248 :: t
def cz_717_0i_1 (t : List (Int × Int)) : List (Int × Int) := ui1592 :: ui196 :: t
def cz_717_0f_0 (t : List zFa) : List zFa := uF1892 :: uF2261 :: uF2258 :: uF2259 :: uF2260 :: uF2020 :: uF1394 :: uF1395 :: t
def cz_717_0f_1 (t : List zFa) : List zFa := uF2027 :: uF2028 :: uF2029 :: uF2030 :: uF2031 :: uF1625 :: uF1626 :: t
def cz_717_0 : zS := ((cz_717_0i_0 (cz_717_0i_1 [])), (cz_618_0r_0 (cz_618_0r_1 [])), [], [uV2, uV11, uV108, uV142, uV144], [], (cz_717_0f_0 (cz_717_0f_1 [])), [uG1899, uG1895, uG2067, uG2236])
set_option maxRecDepth 1000000 in
theorem ck_717 : x_ok mLT1 [cx_504, cx_508, cx_642, cx_710, cx_715, cx_716] mTS2 mTC2 mRUp cx_717 [(3, [0]), (12, [1]), (16, [2]), (37, [3]), (49, [4]), (67, [5]), (71, [5])] [] [(27, cz_717_0, (1736, [(8, (-27))]))] (1752, []) 79793 29 = true := by decide +kernel
theorem sn_717 {W : Bool} {X : List Int32} : y_Snd (mGw W) mLT1 (J2 W X) X cx_717 := y_ok J2_J mTS2_ok1 mTC2_ok1 mRUp_ok1 (List.forall_mem_cons.mpr ⟨sn_504, List.forall_mem_cons.mpr ⟨sn_508, List.forall_mem_cons.mpr ⟨sn_642, List.forall_mem_cons.mpr ⟨sn_710, List.forall_mem_cons.mpr ⟨sn_715, List.forall_mem_cons.mpr ⟨sn_716, fun _ h => absurd h List.not_mem_nil⟩⟩⟩⟩⟩⟩) ck_717
/-- M.givesBits -/
def cx_718 : zCtx := (289, ([ui0, ui49, ui49, ui49, ui49, ui49, ui49, ui49], [ur1331, ur2263], [], [], [uV2], [uF2357], [uG2358]), [([ui0, ui49, ui49, ui49, ui49, ui49, ui49, ui49, ui844], [ur1331, ur2263], [], [], [uV144], [], [(238, [uL1088, uL9, uL67, uL23, uL98, uL104, uL78, uL79, uL252, uL63, uL131])])], [], 112, 0, 0)
def cz_718_0i_0 (t : List (Int × Int)) : List (Int × Int) := ui0 :: ui49 :: ui49 :: ui49 :: ui49 :: ui49 :: ui49 :: ui49 :: t
def cz_718_0i_1 (t : List (Int × Int)) : List (Int × Int) := ui844 :: (0, 6) :: t
def cz_718_0 : zS := ((cz_718_0i_0 (cz_718_0i_1 [])), [ur1331, ur2263], [uL164, (6, [(9, (-1))]), uL131, (63, [(8, (-1))])], [uV2, uV144, uV778], [], [uF2357], [uG2358, (238, [uL1088, uL9, uL67, uL23, uL98, uL104, uL78, uL79, uL164, uL63, uL131])])
set_option maxRecDepth 1000000 in
theorem ck_718 : x_ok mLT1 [] mTS2 mTC2 mRUp cx_718 [] [(2, [1001156]), (22, [1000789]), (23, [1000667]), (25, [1001157, 1001158])] [(4, cz_718_0, (107, [(9, (-17))]))] (112, []) 0 19 = true := by decide +kernel
theorem sn_718 {W : Bool} {X : List Int32} : y_Snd (mGw W) mLT1 (J2 W X) X cx_718 := y_ok J2_J mTS2_ok1 mTC2_ok1 mRUp_ok1 (fun _ h => absurd h List.not_mem_nil) ck_718
/-- M.isEnough -/
def cx_719 : zCtx := (292, ([ui0, ui844, (0, 1), ui49, ui49, ui49, ui49, ui49, ui49, ui49, ui196], [ur1331, ur2263, ur1383], [], [], [uV2, uV11], [uF2020, uF2357, uF2359], [uG2312, uG2177]), [([ui0, ui844, (0, 1), ui49, ui49, ui49, ui49, ui49, ui49, ui49, ui196, ui2360], [ur1331, ur2263, ur1383], [(0, [(10, (-1)), (11, 1)])], [], [uV64], [], [uG2361]), ([ui0, ui844, (0, 1), ui49, ui49, ui49, ui49, ui49, ui49, ui49, ui196, ui2360], [ur1331, ur2263, ur1383], [uL1239], [], [uV62], [], [uG2361])], [], 138, 0, 0)
def cz_719_0i_0 (t : List (Int × Int)) : List (Int × Int) := ui0 :: ui844 :: (0, 1) :: ui49 :: ui49 :: ui49 :: ui49 :: ui49 :: t
def cz_719_0i_1 (t : List (Int × Int)) : List (Int × Int) := ui49 :: ui49 :: ui196 :: ui1265 :: (0, 6) :: t
def cz_719_0 : zS := ((cz_719_0i_0 (cz_719_0i_1 [])), [ur1331, ur2263, ur1383], [uL214, (6, [(12, (-1))]), uL195, (0, [(11, (-1)), (12, 9999)])], [uV2, uV11, uV840, uV198], [], [uF2020, uF2357, uF2359], [uG2312, uG2177, (238, [uL1132, uL23, uL98, uL104, uL78, uL79, uL131, uL164, uL9, uL214, uL195])])
set_option maxRecDepth 1000000 in
theorem ck_719 : x_ok mLT1 [] mTS2 mTC2 mRUp cx_719 [] [(2, [1001160]), (12, [1000424]), (14, [1000668]), (15, [1001161]), (28, [1001162, 1001163, 1001164, 1001165]), (47, [1001166]), (51, [1001167])] [(4, cz_719_0, (133, [(12, (-20))]))] (138, []) 0 22 = true := by decide +kernel
theorem sn_719 {W : Bool} {X : List Int32} : y_Snd (mGw W) mLT1 (J2 W X) X cx_719 := y_ok J2_J mTS2_ok1 mTC2_ok1 mRUp_ok1 (fun _ h => absurd h List.not_mem_nil) ck_719
def cx_720pi_0 (t : List (Int × Int)) : List (Int × Int) := ui0 :: (0, 1) :: ui49 :: (0, 1) :: ui31 :: (0, 6) :: (0, 6) :: ui49 :: t
def cx_720pi_1 (t : List (Int × Int)) : List (Int × Int) := ui49 :: ui196 :: (0, 6) :: t
def cx_720pr_0 (t : List (Nat × Bool)) : List (Nat × Bool) := ur1331 :: ur1378 :: ur1379 :: ur1389 :: ur1390 :: ur1391 :: ur1392 :: ur1393 :: t
def cx_720pr_1 (t : List (Nat × Bool)) : List (Nat × Bool) := ur1387 :: ur1388 :: ur1380 :: ur1492 :: ur1493 :: ur1382 :: ur1885 :: ur1383 :: t
def cx_720pr_2 (t : List (Nat × Bool)) : List (Nat × Bool) := ur2263 :: t
def cx_720pf_0 (t : List zFa) : List zFa := uF1886 :: uF1887 :: uF1888 :: uF1394 :: uF1395 :: uF2027 :: uF2028 :: uF2029 :: t
def cx_720pf_1 (t : List zFa) : List zFa := uF2030 :: uF2031 :: uF1625 :: uF1626 :: uF2032 :: uF2033 :: uF2034 :: uF1920 :: t
def cx_720pf_2 (t : List zFa) : List zFa := uF2113 :: uF2169 :: uF2339 :: uF2292 :: t
def cx_720pg_0 (t : List zTg) : List zTg := uG2209 :: uG2234 :: uG2160 :: uG2235 :: uG2231 :: uG468 :: uG2362 :: t
def cx_720p : zS := ((cx_720pi_0 (cx_720pi_1 [])), (cx_720pr_0 (cx_720pr_1 (cx_720pr_2 []))), [uL576], [], [uV2], (cx_720pf_0 (cx_720pf_1 (cx_720pf_2 []))), (cx_720pg_0 []))
def cx_720q0i_0 (t : List (Int × Int)) : List (Int × Int) := ui0 :: (0, 1) :: ui49 :: (0, 1) :: ui31 :: (0, 6) :: (0, 6) :: ui49 :: t
def cx_720q0i_1 (t : List (Int × Int)) : List (Int × Int) := ui49 :: ui196 :: (0, 6) :: ui49 :: t
def cx_720q0 : zS := ((cx_720q0i_0 (cx_720q0i_1 [])), (cx_720pr_0 (cx_720pr_1 (cx_720pr_2 []))), [], [], [uV840], [], [uG1895, uG468, (238, [uL1238, uL98, uL63, uL63, uL63, uL63, uL63, uL63, uL164, uL104, uL195])])
/-- M.pivots -/
def cx_720 : zCtx := (295, cx_720p, [cx_720q0], kc_87, 79973, 6, 129)
def cz_720_0i_0 (t : List (Int × Int)) : List (Int × Int) := ui0 :: (0, 1) :: ui49 :: (0, 1) :: ui31 :: (0, 6) :: (0, 6) :: ui49 :: t
def cz_720_0i_1 (t : List (Int × Int)) : List (Int × Int) := ui49 :: ui196 :: (0, 6) :: ui49 :: (0, 6) :: ui196 :: t
def cz_720_0r_0 (t : List (Nat × Bool)) : List (Nat × Bool) := ur1331 :: ur1378 :: ur1379 :: ur1389 :: ur1390 :: ur1391 :: ur1392 :: ur1393 :: t
def cz_720_0r_1 (t : List (Nat × Bool)) : List (Nat × Bool) := ur1387 :: ur1388 :: ur1380 :: ur1492 :: ur1493 :: ur1382 :: ur1885 :: ur1383 :: t
def cz_720_0r_2 (t : List (Nat × Bool)) : List (Nat × Bool) := ur2263 :: ur2267 :: ur2266 :: ur2265 :: ur2264 :: ur1386 :: ur1905 :: t
def cz_720_0f_0 (t : List zFa) : List zFa := (0, (false, 59, 0, []), 2, 17, 0, []) :: uF2295 :: uF2287 :: (0, (false, 56, 0, []), 2, 20, 0, []) :: uF1892 :: uF2363 :: (0, (false, 30, 0, []), 2, 21, 0, []) :: (0, (false, 47, 0, []), 2, 22, 0, []) :: t
def cz_720_0f_1 (t : List zFa) : List zFa := uF1886 :: uF1394 :: uF1395 :: uF2027 :: uF2028 :: uF2029 :: uF2030 :: uF2031 :: t
def cz_720_0f_2 (t : List zFa) : List zFa := uF1625 :: uF1626 :: uF2032 :: uF2033 :: uF2034 :: uF1920 :: uF2113 :: uF2169 :: t
def cz_720_0f_3 (t : List zFa) : List zFa := uF2339 :: t
def cz_720_0g_0 (t : List zTg) : List zTg := uG1895 :: uG2209 :: uG2160 :: uG2231 :: uG2362 :: uG2234 :: uG2235 :: uG468 :: t
def cz_720_0g_1 (t : List zTg) : List zTg := (278, [uL98, uL63, uL63, uL63, uL63, uL63, uL63, uL252]) :: (238, [uL1238, uL98, uL63, uL63, uL63, uL63, uL63, uL63, uL164, uL214, uL195]) :: t
def cz_720_0 : zS := ((cz_720_0i_0 (cz_720_0i_1 [])), (cz_720_0r_0 (cz_720_0r_1 (cz_720_0r_2 []))), [uL576, uL214, (0, [(5, 1), (12, (-1))])], [uV2, uV840, uV198], [], (cz_720_0f_0 (cz_720_0f_1 (cz_720_0f_2 (cz_720_0f_3 [])))), (cz_720_0g_0 (cz_720_0g_1 [])))
set_option maxRecDepth 1000000 in
theorem ck_720 : x_ok mLT1 [cx_508, cx_620, cx_718, cx_719] mTS2 mTC2 mRUp cx_720 [(1, [0]), (5, [1]), (27, [2]), (36, [3])] [(4, uN2118), (8, [1001154]), (25, [1001155]), (32, [1000789]), (34, [1000717]), (35, [1000668]), (36, [1001159]), (46, [1000667]), (48, [1001168, 1001169]), (54, [1001170])] [(12, cz_720_0, (171, [(12, (-27))]))] (180, []) 79793 29 = true := by decide +kernel
theorem sn_720 {W : Bool} {X : List Int32} : y_Snd (mGw W) mLT1 (J2 W X) X cx_720 := y_ok J2_J mTS2_ok1 mTC2_ok1 mRUp_ok1 (List.forall_mem_cons.mpr ⟨sn_508, List.forall_mem_cons.mpr ⟨sn_620, List.forall_mem_cons.mpr ⟨sn_718, List.forall_mem_cons.mpr ⟨sn_719, fun _ h => absurd h List.not_mem_nil⟩⟩⟩⟩) ck_720
def cx_721pf_0 (t : List zFa) : List zFa := uF2107 :: uF1893 :: uF2364 :: uF1394 :: uF1395 :: uF2027 :: uF2028 :: uF2029 :: t
def cx_721pf_1 (t : List zFa) : List zFa := uF2030 :: uF2031 :: uF1625 :: uF1626 :: t
def cx_721p : zS := ([ui0, (0, 5), ui843, ui843, (0, 1), ui49, (0, 1), ui31], (cx_596pr_0 (cx_596pr_1 [])), [], [], [uV2, uV11, uV12, uV58], (cx_721pf_0 (cx_721pf_1 [])), [uG2111, uG2365])
/-- M.harvestOf -/
def cx_721 : zCtx := (297, cx_721p, [([ui0, (0, 5), ui843, ui843, (0, 1), ui49, (0, 1), ui31, ui49, ui196], [ur1331, ur1378, ur1379, ur1389, ur1390, ur1391, ur1392, ur1393, ur1387, ur1388], [], [], [uV144], [uF2245, uF2261], [])], kc_82, 79798, 5, 105)
def cz_721_0i_0 (t : List (Int × Int)) : List (Int × Int) := ui0 :: (0, 5) :: ui843 :: ui843 :: (0, 1) :: ui49 :: (0, 1) :: ui31 :: t
def cz_721_0i_1 (t : List (Int × Int)) : List (Int × Int) := ui49 :: ui1103 :: ui196 :: t
def cz_721_0f_0 (t : List zFa) : List zFa := uF2245 :: uF2344 :: uF2107 :: uF1394 :: uF1395 :: uF2027 :: uF2028 :: uF2029 :: t
def cz_721_0f_1 (t : List zFa) : List zFa := uF2030 :: uF2031 :: uF1625 :: uF1626 :: t
def cz_721_0 : zS := ((cz_721_0i_0 (cz_721_0i_1 [])), (cx_596pr_0 (cx_596pr_1 [])), [], [uV2, uV11, uV12, uV58, uV144, uV778], [], (cz_721_0f_0 (cz_721_0f_1 [])), [uG2111, uG2365])
set_option maxRecDepth 1000000 in
theorem ck_721 : x_ok mLT1 [cx_590, cx_603] mTS2 mTC2 mRUp cx_721 [(1, [0]), (17, [1])] [] [(10, cz_721_0, (1706, [(9, (-27))]))] (1686, []) 78112 29 = true := by decide +kernel
theorem sn_721 {W : Bool} {X : List Int32} : y_Snd (mGw W) mLT1 (J2 W X) X cx_721 := y_ok J2_J mTS2_ok1 mTC2_ok1 mRUp_ok1 (List.forall_mem_cons.mpr ⟨sn_590, List.forall_mem_cons.mpr ⟨sn_603, fun _ h => absurd h List.not_mem_nil⟩⟩) ck_721
end
