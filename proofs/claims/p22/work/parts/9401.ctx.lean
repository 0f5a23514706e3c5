noncomputable section
/-! ===== readings, by program, checked by the kernel ===== -/
/-- Parser.takeInt -/
def cx_40 : zCtx := (58, ([ui0, (1, 2), (0, 5), ui49, ui52, ui52], [ur158, ur50, ur53], [], [], [uV2, uV62, uV190], [uF181, uF182, uF20, uF42, uF151, uF183, uF218], [uG219]), [([ui0, (1, 2), (0, 5), ui49, ui52, ui52, ui49, (1, 2), ui52], [ur158, ur50, ur53], [], [], [uV108], [uF220, uF221], [uG222])], [], 20, 1, 21)
set_option maxRecDepth 1000000 in
theorem ck_40 : x_ok mLT [cx_36] mTS2 mTC2 mRUp cx_40 [(20, [0])] [(0, uN216), (43, uN217)] [] (15, []) 5 18 = true := by decide +kernel
theorem sn_40 {W : Bool} {X : List Int32} : y_Snd (mGw W) mLT (J2 W X) X cx_40 := y_ok J2_J mTS2_ok mTC2_ok mRUp_ok (List.forall_mem_cons.mpr ⟨sn_36, fun _ h => absurd h List.not_mem_nil⟩) ck_40
def cx_41p : zS := ((cx_39pi_0 (cx_39pi_1 [])), [ur158, ur50, ur53, ur71, ur72, ur73], [], [], [uV2, uV64, uV223], (cx_39pf_0 (cx_39pf_1 [])), [uG191, uG192, (40, [uL98, uL104, uL209, uL63, uL63, uL163, uL169, uL67, uL23, uL193])])
def cx_41q1 : zS := ((cx_39q1i_0 (cx_39q1i_1 (cx_39q1i_2 []))), [ur158, ur50, ur53, ur71, ur72, ur73], [uL195], [], [uV196], [uF165, uF197, uF198, uF199, uF200, uF201, uF202], [uG204, uG208, (40, [uL98, uL203, uL36, uL63, uL63, uL163, uL169, uL210, uL211, uL193]), uG213])
/-- Parser.takeInt -/
def cx_41 : zCtx := (58, cx_41p, [([ui0, (0, 0), (0, 5), ui49, ui52, ui68, ui69, ui52, ui70, (0, 6), ui48, ui68, ui49, (1, 2), ui52], [ur158, ur50, ur53, ur71, ur72, ur73], [], [], [uV196], [uF214, uF199], [uG215]), cx_41q1], [uk132, uk133, uk134, uk135, uk170, uk179, uk180], 78, 2, 42)
set_option maxRecDepth 1000000 in
theorem ck_41 : x_ok mLT [cx_35, cx_38] mTS2 mTC2 mRUp cx_41 [(20, [0]), (40, [1])] [(0, uN216), (43, uN217)] [] (25, []) 53 28 = true := by decide +kernel
theorem sn_41 {W : Bool} {X : List Int32} : y_Snd (mGw W) mLT (J2 W X) X cx_41 := y_ok J2_J mTS2_ok mTC2_ok mRUp_ok (List.forall_mem_cons.mpr ⟨sn_35, List.forall_mem_cons.mpr ⟨sn_38, fun _ h => absurd h List.not_mem_nil⟩⟩) ck_41
/-- Parser.takeInt -/
def cx_42 : zCtx := (58, ([ui0, (1, 2), (0, 5), ui49, ui52, ui52], [ur158, ur50, ur53], [], [], [uV2, uV64, uV223], [uF181, uF182, uF20, uF42, uF151, uF183, uF218], [uG219]), [([ui0, (1, 2), (0, 5), ui49, ui52, ui52, ui49, (1, 2), ui52], [ur158, ur50, ur53], [], [], [uV108], [uF220, uF221], [uG222])], [], 20, 1, 21)
set_option maxRecDepth 1000000 in
theorem ck_42 : x_ok mLT [cx_36] mTS2 mTC2 mRUp cx_42 [(20, [0])] [(0, uN216), (43, uN217)] [] (15, []) 5 18 = true := by decide +kernel
theorem sn_42 {W : Bool} {X : List Int32} : y_Snd (mGw W) mLT (J2 W X) X cx_42 := y_ok J2_J mTS2_ok mTC2_ok mRUp_ok (List.forall_mem_cons.mpr ⟨sn_36, fun _ h => absurd h List.not_mem_nil⟩) ck_42
/-- Text.addHouse -/
def cx_43 : zCtx := (132, ([ui0, ui70, ui49, ui49, (0, 5), ui52, ui68, ui68], [ur50, ur172, ur224, ur225], [], [], [uV2, uV173, uV12, uV58], [uF94, uF21, uF76, uF77], [uG226, uG227]), [([ui0, ui70, ui49, ui49, (0, 5), ui52, ui68, ui68], [ur50, ur172, ur224, ur225], [], [], [], [(1, (true, 0, 0, [(4, 1)]), 1, 0, 0, [(1, 1)]), (0, (false, 5, 0, []), 0, 0, 1, [(4, 1)]), (2, (true, 0, 0, [(4, 1)]), 0, 0, 0, [(2, 1)]), (3, (true, 0, 0, [(4, 1)]), 0, 0, 0, [(3, 1)])], [uG226, uG227])], [(96, false, 5), (97, true, 0), (99, true, 0), (100, true, 0)], 32, 0, 0)
set_option maxRecDepth 1000000 in
theorem ck_43 : x_ok mLT [] mTS2 mTC2 mRUp cx_43 [] [] [] (32, []) 0 35 = true := by decide +kernel
theorem sn_43 {W : Bool} {X : List Int32} : y_Snd (mGw W) mLT (J2 W X) X cx_43 := y_ok J2_J mTS2_ok mTC2_ok mRUp_ok (fun _ h => absurd h List.not_mem_nil) ck_43
def cx_44pr_0 (t : List (Nat × Bool)) : List (Nat × Bool) := ur158 :: ur50 :: ur53 :: ur71 :: ur72 :: ur73 :: ur172 :: ur224 :: t
def cx_44pr_1 (t : List (Nat × Bool)) : List (Nat × Bool) := ur225 :: t
def cx_44pf_0 (t : List zFa) : List zFa := uF181 :: uF182 :: uF20 :: uF42 :: uF151 :: uF183 :: uF184 :: uF185 :: t
def cx_44pf_1 (t : List zFa) : List zFa := uF186 :: uF187 :: uF155 :: uF156 :: uF157 :: uF188 :: uF189 :: uF228 :: t
def cx_44pf_2 (t : List zFa) : List zFa := uF229 :: uF230 :: t
def cx_44p : zS := ((cx_39pi_0 (cx_39pi_1 [])), (cx_44pr_0 (cx_44pr_1 [])), [((-256), [(6, 1)]), (256, [(6, (-1))])], [], [uV2], (cx_44pf_0 (cx_44pf_1 (cx_44pf_2 []))), [uG191, uG192, uG231, uG232, (92, [uL98, uL104, uL163])])
def cx_44q1i_0 (t : List (Int × Int)) : List (Int × Int) := ui0 :: (0, 0) :: (0, 5) :: ui49 :: ui52 :: ui68 :: ui69 :: ui52 :: t
def cx_44q1i_1 (t : List (Int × Int)) : List (Int × Int) := ui70 :: (0, 6) :: ui48 :: ui68 :: ui68 :: ui69 :: ui52 :: ui70 :: t
def cx_44q1i_2 (t : List (Int × Int)) : List (Int × Int) := (0, 5) :: ui49 :: t
def cx_44q1 : zS := ((cx_44q1i_0 (cx_44q1i_1 (cx_44q1i_2 []))), (cx_44pr_0 (cx_44pr_1 [])), [uL233, uL234], [], [], [uF165, uF235, uF198, uF199, uF200, uF201, uF202, (1, (false, 5, 0, []), 0, 0, 1, [(9, 1)])], [uG236, uG237, (40, [uL98, uL212, uL63, uL63, uL63, uL238, uL169, uL210, uL211, uL239]), (43, [uL98, uL212, uL238]), (92, [uL98, uL212, uL238])])
/-- Parser.parseHouse -/
def cx_44 : zCtx := (55, cx_44p, [([ui0, (0, 0), (0, 5), ui49, ui52, ui68, ui69, ui52, ui70, (0, 6), ui48, ui68, (1, 2), ui52], [ur158, ur50, ur53, ur71, ur72, ur73, ur172, ur224, ur225], [], [], [], [uF240, uF241], [uG242]), cx_44q1], kc_1, 162, 3, 66)
def cq_44 : List zCtx := [cx_35, cx_36, cx_37, cx_38, cx_39, cx_40, cx_41, cx_42, cx_43]
def cs_44 : List (Nat × List Nat) := [(22, [0]), (44, [0, 1]), (55, [2]), (64, [3]), (71, [4, 5]), (80, [6, 7]), (88, [0, 1]), (101, [8])]
def hs_44 : List (Nat × List Nat) := [(17, [1000109]), (18, [1000110]), (26, [1000111, 1000108, 1000112]), (67, [1000113, 1000114, 1000115]), (85, [1000116]), (92, [1000117]), (104, [1000118, 1000515])]
def ns_44 : List zN := []
set_option maxRecDepth 1000000 in
theorem ca_44 : x_okA mLT cq_44 mTS2 mTC2 mRUp cx_44 cs_44 hs_44 ns_44 (51, []) 111 54 = true := by decide +kernel
set_option maxRecDepth 1000000 in
theorem cc_44 : x_okC mLT cq_44 mTS2 mTC2 mRUp cx_44 cs_44 hs_44 ns_44 (51, []) 111 54 = true := by decide +kernel
theorem ck_44 : x_ok mLT cq_44 mTS2 mTC2 mRUp cx_44 cs_44 hs_44 ns_44 (51, []) 111 54 = true := x_ok_of ca_44 (fun _ h => absurd h List.not_mem_nil) cc_44
theorem sn_44 {W : Bool} {X : List Int32} : y_Snd (mGw W) mLT (J2 W X) X cx_44 := y_ok J2_J mTS2_ok mTC2_ok mRUp_ok (List.forall_mem_cons.mpr ⟨sn_35, List.forall_mem_cons.mpr ⟨sn_36, List.forall_mem_cons.mpr ⟨sn_37, List.forall_mem_cons.mpr ⟨sn_38, List.forall_mem_cons.mpr ⟨sn_39, List.forall_mem_cons.mpr ⟨sn_40, List.forall_mem_cons.mpr ⟨sn_41, List.forall_mem_cons.mpr ⟨sn_42, List.forall_mem_cons.mpr ⟨sn_43, fun _ h => absurd h List.not_mem_nil⟩⟩⟩⟩⟩⟩⟩⟩⟩) ck_44
/-- Text.houseNamed -/
def cx_45 : zCtx := (131, ([ui0, ui70, (0, 6)], [ur50, ur172], [], [], [uV2, uV173], [uF55, uF21], []), [([ui0, ui70, (0, 6), ui243], [ur50, ur172], [], [], [uV58], [], [])], [], 111, 0, 0)
set_option maxRecDepth 1000000 in
theorem ck_45 : x_ok mLT [] mTS2 mTC2 mRUp cx_45 [] [(1, [1000061]), (27, [1000062]), (29, uN174), (35, [1000065])] [(2, ([(0, 3072), ((-9223372036854775808), 9223372036854775807), (0, 6), (0, 6)], [(96, false), (97, false)], [], [(2, 0, 0, []), (1, 0, 0, [(1, 1)]), (5, 0, 0, []), (0, 0, 0, [(3, 1)])], [], [(0, (false, 5, 0, []), 0, 0, 0, [(2, 1)]), (0, (false, 0, 0, []), 2, 1, 0, [])], []), (108, [(3, (-17))]))] (111, []) 0 19 = true := by decide +kernel
theorem sn_45 {W : Bool} {X : List Int32} : y_Snd (mGw W) mLT (J2 W X) X cx_45 := y_ok J2_J mTS2_ok mTC2_ok mRUp_ok (fun _ h => absurd h List.not_mem_nil) ck_45
def cx_46pf_0 (t : List zFa) : List zFa := uF181 :: uF182 :: uF20 :: uF42 :: uF151 :: uF183 :: uF184 :: uF185 :: t
def cx_46pf_1 (t : List zFa) : List zFa := uF186 :: uF187 :: uF155 :: uF156 :: uF157 :: uF188 :: uF189 :: uF228 :: t
def cx_46p : zS := ((cx_39pi_0 (cx_39pi_1 [])), [ur158, ur50, ur53, ur71, ur72, ur73, ur172], [], [], [uV2], (cx_46pf_0 (cx_46pf_1 [])), [uG191, uG192, (40, [uL98, uL104, uL244, uL63, uL63, uL163, uL169, uL67, uL23, uL193]), uG232])
def cx_46q1i_0 (t : List (Int × Int)) : List (Int × Int) := ui0 :: (0, 0) :: (0, 5) :: ui49 :: ui52 :: ui68 :: ui69 :: ui52 :: t
def cx_46q1i_1 (t : List (Int × Int)) : List (Int × Int) := ui70 :: (0, 6) :: ui48 :: ui68 :: ui69 :: ui52 :: ui70 :: (0, 5) :: t
def cx_46q1i_2 (t : List (Int × Int)) : List (Int × Int) := ui49 :: t
def cx_46q1 : zS := ((cx_46q1i_0 (cx_46q1i_1 (cx_46q1i_2 []))), [ur158, ur50, ur53, ur71, ur72, ur73, ur172], [uL195, uL245, uL246], [], [uV61], [uF165, uF197, uF247, uF241, uF248, (0, (false, 3, 0, []), 0, 0, 0, [(15, 1)]), (0, (false, 4, 0, []), 0, 0, 0, [(16, 1)])], [uG204, uG249, (40, [uL98, uL203, uL250, uL63, uL63, uL163, uL169, uL207, uL210, uL193]), uG251, uG252])
def cx_46q2i_0 (t : List (Int × Int)) : List (Int × Int) := ui0 :: (0, 0) :: (0, 5) :: ui49 :: ui52 :: ui68 :: ui69 :: ui52 :: t
def cx_46q2i_1 (t : List (Int × Int)) : List (Int × Int) := ui70 :: (0, 6) :: ui48 :: ui68 :: (0, 5) :: ui69 :: ui52 :: ui70 :: t
def cx_46q2i_2 (t : List (Int × Int)) : List (Int × Int) := (0, 5) :: ui49 :: t
def cx_46q2 : zS := ((cx_46q2i_0 (cx_46q2i_1 (cx_46q2i_2 []))), [ur158, ur50, ur53, ur71, ur72, ur73, ur172], [uL195, uL245, uL246], [], [uV196], [uF165, uF197, uF198, uF199, uF200, uF201, uF202], [uG204, uG208, (40, [uL98, uL203, uL250, uL63, uL63, uL163, uL169, uL210, uL211, uL193]), uG251, uG253])
/-- Parser.takeHouse -/
def cx_46 : zCtx := (60, cx_46p, [([ui0, (0, 0), (0, 5), ui49, ui52, ui68, ui69, ui52, ui70, (0, 6), ui48, ui68, ui49, (1, 2), ui52], [ur158, ur50, ur53, ur71, ur72, ur73, ur172], [], [], [uV196], [uF214, uF199], [uG215]), cx_46q1, cx_46q2], [uk132, uk133, uk134, uk135, uk170, uk179, uk180], 134, 2, 42)
set_option maxRecDepth 1000000 in
theorem ck_46 : x_ok mLT [cx_37, cx_45, cx_35, cx_38] mTS2 mTC2 mRUp cx_46 [(11, [0, 1]), (25, [2]), (38, [3])] [(0, uN254), (41, uN255)] [] (23, []) 111 26 = true := by decide +kernel
theorem sn_46 {W : Bool} {X : List Int32} : y_Snd (mGw W) mLT (J2 W X) X cx_46 := y_ok J2_J mTS2_ok mTC2_ok mRUp_ok (List.forall_mem_cons.mpr ⟨sn_37, List.forall_mem_cons.mpr ⟨sn_45, List.forall_mem_cons.mpr ⟨sn_35, List.forall_mem_cons.mpr ⟨sn_38, fun _ h => absurd h List.not_mem_nil⟩⟩⟩⟩) ck_46
/-- Parser.takeHouse -/
def cx_47 : zCtx := (60, ([ui0, (1, 2), (0, 5), ui49, ui52, ui52], [ur158, ur50, ur53], [], [], [uV2], [uF181, uF182, uF20, uF42, uF151, uF183, uF218], [uG219]), [([ui0, (1, 2), (0, 5), ui49, ui52, ui52, ui49, (1, 2), ui52], [ur158, ur50, ur53], [], [], [uV108], [uF220, uF221], [uG222])], [], 128, 1, 23)
set_option maxRecDepth 1000000 in
theorem ck_47 : x_ok mLT [cx_45, cx_36] mTS2 mTC2 mRUp cx_47 [(11, [0]), (25, [1])] [(0, uN254), (41, uN255)] [] (17, []) 111 20 = true := by decide +kernel
theorem sn_47 {W : Bool} {X : List Int32} : y_Snd (mGw W) mLT (J2 W X) X cx_47 := y_ok J2_J mTS2_ok mTC2_ok mRUp_ok (List.forall_mem_cons.mpr ⟨sn_45, List.forall_mem_cons.mpr ⟨sn_36, fun _ h => absurd h List.not_mem_nil⟩⟩) ck_47
def cx_48p : zS := ((cx_39pi_0 (cx_39pi_1 [])), [ur158, ur50, ur53, ur71, ur72, ur73, ur172], [], [], [uV2], (cx_46pf_0 (cx_46pf_1 [])), [uG191, uG192, (40, [uL98, uL104, uL250, uL63, uL63, uL163, uL169, uL67, uL23, uL193]), uG232])
def cx_48q1i_0 (t : List (Int × Int)) : List (Int × Int) := ui0 :: (0, 0) :: (0, 5) :: ui49 :: ui52 :: ui68 :: ui69 :: ui52 :: t
def cx_48q1i_1 (t : List (Int × Int)) : List (Int × Int) := ui70 :: (0, 6) :: ui48 :: ui68 :: ui69 :: ui52 :: ui70 :: t
def cx_48q1 : zS := ((cx_48q1i_0 (cx_48q1i_1 [])), [ur158, ur50, ur53, ur71, ur72, ur73, ur172], [uL195, uL149, uL245, uL246], [], [uV61], [uF165, uF197, uF247, uF241, uF248, uF182, uF20], [uG204, uG249, uG252])
def cx_48q2 : zS := ((cx_48q1i_0 (cx_48q1i_1 [])), [ur158, ur50, ur53, ur71, ur72, ur73, ur172], [uL195, uL256, uL245, uL246], [], [uV61], [uF165, uF197, uF247, uF241, uF248, (0, (false, 3, 0, []), 0, 0, 4, []), uF257], [uG204, uG249, uG252])
def cx_48q3i_0 (t : List (Int × Int)) : List (Int × Int) := ui0 :: (0, 0) :: (0, 5) :: ui49 :: ui52 :: ui68 :: ui69 :: ui52 :: t
def cx_48q3i_1 (t : List (Int × Int)) : List (Int × Int) := ui70 :: (0, 6) :: ui48 :: ui68 :: (0, 5) :: ui69 :: ui52 :: ui70 :: t
def cx_48q3 : zS := ((cx_48q3i_0 (cx_48q3i_1 [])), [ur158, ur50, ur53, ur71, ur72, ur73, ur172], [uL195, uL245, uL246], [], [uV196], [uF165, uF197, uF198, uF199, uF200, uF182, uF20], [uG204, uG208, uG253])
/-- Parser.takeHouse -/
def cx_48 : zCtx := (60, cx_48p, [([ui0, (0, 0), (0, 5), ui49, ui52, ui68, ui69, ui52, ui70, (0, 6), ui48, ui68, ui49, (1, 2), ui52], [ur158, ur50, ur53, ur71, ur72, ur73, ur172], [], [], [uV196], [uF214, uF199], [uG215]), cx_48q1, cx_48q2, cx_48q3], [uk132, uk133, uk134, uk135, uk170, uk179, uk180], 134, 2, 42)
set_option maxRecDepth 1000000 in
theorem ck_48 : x_ok mLT [cx_37, cx_45, cx_35, cx_38] mTS2 mTC2 mRUp cx_48 [(11, [0, 1]), (25, [2]), (38, [3])] [(0, uN254), (41, uN255)] [] (23, []) 111 26 = true := by decide +kernel
theorem sn_48 {W : Bool} {X : List Int32} : y_Snd (mGw W) mLT (J2 W X) X cx_48 := y_ok J2_J mTS2_ok mTC2_ok mRUp_ok (List.forall_mem_cons.mpr ⟨sn_37, List.forall_mem_cons.mpr ⟨sn_45, List.forall_mem_cons.mpr ⟨sn_35, List.forall_mem_cons.mpr ⟨sn_38, fun _ h => absurd h List.not_mem_nil⟩⟩⟩⟩) ck_48
def cx_49p : zS := ((cx_39pi_0 (cx_39pi_1 [])), [ur158, ur50, ur53, ur71, ur72, ur73], [], [], [uV2, uV62, uV120], (cx_39pf_0 (cx_39pf_1 [])), [uG191, uG192, (40, [uL98, uL104, uL258, uL63, uL63, uL163, uL169, uL67, uL23, uL193])])
def cx_49q1 : zS := ((cx_39q1i_0 (cx_39q1i_1 (cx_39q1i_2 []))), [ur158, ur50, ur53, ur71, ur72, ur73], [uL195], [], [uV196], [uF165, uF197, uF198, uF199, uF200, uF201, uF202], [uG204, uG208, (40, [uL98, uL203, uL34, uL63, uL63, uL163, uL169, uL210, uL211, uL193]), uG213])
/-- Parser.takeInt -/
def cx_49 : zCtx := (58, cx_49p, [([ui0, (0, 0), (0, 5), ui49, ui52, ui68, ui69, ui52, ui70, (0, 6), ui48, ui68, ui49, (1, 2), ui52], [ur158, ur50, ur53, ur71, ur72, ur73], [], [], [uV196], [uF214, uF199], [uG215]), cx_49q1], [uk132, uk133, uk134, uk135, uk170, uk179, uk180], 78, 2, 42)
set_option maxRecDepth 1000000 in
theorem ck_49 : x_ok mLT [cx_35, cx_38] mTS2 mTC2 mRUp cx_49 [(20, [0]), (40, [1])] [(0, uN216), (43, uN217)] [] (25, []) 53 28 = true := by decide +kernel
theorem sn_49 {W : Bool} {X : List Int32} : y_Snd (mGw W) mLT (J2 W X) X cx_49 := y_ok J2_J mTS2_ok mTC2_ok mRUp_ok (List.forall_mem_cons.mpr ⟨sn_35, List.forall_mem_cons.mpr ⟨sn_38, fun _ h => absurd h List.not_mem_nil⟩⟩) ck_49
/-- Parser.takeInt -/
def cx_50 : zCtx := (58, ([ui0, (1, 2), (0, 5), ui49, ui52, ui52], [ur158, ur50, ur53], [], [], [uV2, uV62, uV120], [uF181, uF182, uF20, uF42, uF151, uF183, uF218], [uG219]), [([ui0, (1, 2), (0, 5), ui49, ui52, ui52, ui49, (1, 2), ui52], [ur158, ur50, ur53], [], [], [uV108], [uF220, uF221], [uG222])], [], 20, 1, 21)
set_option maxRecDepth 1000000 in
theorem ck_50 : x_ok mLT [cx_36] mTS2 mTC2 mRUp cx_50 [(20, [0])] [(0, uN216), (43, uN217)] [] (15, []) 5 18 = true := by decide +kernel
theorem sn_50 {W : Bool} {X : List Int32} : y_Snd (mGw W) mLT (J2 W X) X cx_50 := y_ok J2_J mTS2_ok mTC2_ok mRUp_ok (List.forall_mem_cons.mpr ⟨sn_36, fun _ h => absurd h List.not_mem_nil⟩) ck_50
/-- Text.isIn -/
def cx_51 : zCtx := (134, ([ui0, ui49], [], [], [], [uV11], [], []), [([ui0, (0, 5)], [], [], [], [uV64], [], []), ([ui0, ui259], [], [], [], [uV62], [], []), ([ui0, ui260], [], [], [], [uV62], [], [])], [], 8, 0, 0)
set_option maxRecDepth 1000000 in
theorem ck_51 : x_ok mLT [] mTS2 mTC2 mRUp cx_51 [] [] [] (8, []) 0 11 = true := by decide +kernel
theorem sn_51 {W : Bool} {X : List Int32} : y_Snd (mGw W) mLT (J2 W X) X cx_51 := y_ok J2_J mTS2_ok mTC2_ok mRUp_ok (fun _ h => absurd h List.not_mem_nil) ck_51
theorem ck1_51 : x_ok mLT1 [] mTS2 mTC2 mRUp cx_51 [] [] [] (8, []) 0 11 = true := by decide +kernel
theorem sn1_51 {W : Bool} {X : List Int32} : y_Snd (mGw W) mLT1 (J2 W X) X cx_51 := y_ok J2_J mTS2_ok1 mTC2_ok1 mRUp_ok1 (fun _ h => absurd h List.not_mem_nil) ck1_51
/-- Text.setLike -/
def cx_52 : zCtx := (133, ([ui0, ui49, ui49, ui49, ui52, ui68], [ur50, ur1], [], [], [uV2, uV11, uV12, uV58], [uF42], [uG261]), [([ui0, ui49, ui49, ui49, ui52, ui68], [ur50, ur1], [], [], [], [], [(46, [uL98, uL104, uL9, uL67, uL23])])], [uk6], 33, 1, 20)
set_option maxRecDepth 1000000 in
theorem ck_52 : x_ok mLT [cx_51] mTS2 mTC2 mRUp cx_52 [(1, [0]), (8, [0])] [(25, [1000432]), (37, [1000433]), (38, [1000434, 1000435, 1000436, 1000437, 1000438])] [] (25, []) 8 28 = true := by decide +kernel
theorem sn_52 {W : Bool} {X : List Int32} : y_Snd (mGw W) mLT (J2 W X) X cx_52 := y_ok J2_J mTS2_ok mTC2_ok mRUp_ok (List.forall_mem_cons.mpr ⟨sn_51, fun _ h => absurd h List.not_mem_nil⟩) ck_52
def cx_53pf_0 (t : List zFa) : List zFa := uF181 :: uF182 :: uF20 :: uF42 :: uF151 :: uF183 :: uF184 :: uF185 :: t
def cx_53pf_1 (t : List zFa) : List zFa := uF186 :: uF187 :: uF155 :: uF156 :: uF157 :: uF188 :: uF189 :: uF228 :: t
def cx_53pf_2 (t : List zFa) : List zFa := uF262 :: t
def cx_53p : zS := ((cx_39pi_0 (cx_39pi_1 [])), [ur158, ur50, ur53, ur71, ur72, ur73, ur172, ur1], [((-257), [(6, 1)]), (257, [(6, (-1))])], [], [uV2], (cx_53pf_0 (cx_53pf_1 (cx_53pf_2 []))), [uG191, uG192, uG231, uG232, uG261])
def cx_53q1 : zS := ((cx_44q1i_0 (cx_44q1i_1 (cx_44q1i_2 []))), [ur158, ur50, ur53, ur71, ur72, ur73, ur172, ur1], [uL233, (19, [(10, (-1))])], [], [], [uF165, uF235, uF198, uF199, uF200, uF201, uF202, (1, (false, 6, 0, []), 0, 0, 1, [(10, 1)])], [uG236, uG237, (40, [uL98, uL212, uL63, uL63, uL63, uL163, uL263, uL210, uL211, uL239]), (43, [uL98, uL212, uL163]), (34, [uL98, uL212])])
/-- Parser.parseLikes -/
def cx_53 : zCtx := (59, cx_53p, [([ui0, (0, 0), (0, 5), ui49, ui52, ui68, ui69, ui52, ui70, (0, 6), ui48, ui68, (1, 2), ui52], [ur158, ur50, ur53, ur71, ur72, ur73, ur172, ur1], [], [], [], [uF240, uF241], [uG242]), cx_53q1], kc_2, 185, 3, 66)
def cq_53 : List zCtx := [cx_35, cx_46, cx_47, cx_48, cx_38, cx_49, cx_50, cx_36, cx_52]
def cs_53 : List (Nat × List Nat) := [(22, [0]), (27, [1, 2]), (40, [2, 3]), (56, [4]), (63, [5, 6]), (71, [0, 7]), (96, [8])]
def hs_53 : List (Nat × List Nat) := [(17, [1000119]), (18, [1000120]), (26, [1000121, 1000108]), (48, [1000127]), (59, [1000122, 1000123, 1000124, 1000125, 1000126]), (68, [1000128]), (75, [1000129]), (99, [1000108, 1000440])]
def ns_53 : List zN := []
set_option maxRecDepth 1000000 in
theorem ca_53 : x_okA mLT cq_53 mTS2 mTC2 mRUp cx_53 cs_53 hs_53 ns_53 (51, []) 134 54 = true := by decide +kernel
set_option maxRecDepth 1000000 in
theorem cc_53 : x_okC mLT cq_53 mTS2 mTC2 mRUp cx_53 cs_53 hs_53 ns_53 (51, []) 134 54 = true := by decide +kernel
theorem ck_53 : x_ok mLT cq_53 mTS2 mTC2 mRUp cx_53 cs_53 hs_53 ns_53 (51, []) 134 54 = true := x_ok_of ca_53 (fun _ h => absurd h List.not_mem_nil) cc_53
theorem sn_53 {W : Bool} {X : List Int32} : y_Snd (mGw W) mLT (J2 W X) X cx_53 := y_ok J2_J mTS2_ok mTC2_ok mRUp_ok (List.forall_mem_cons.mpr ⟨sn_35, List.forall_mem_cons.mpr ⟨sn_46, List.forall_mem_cons.mpr ⟨sn_47, List.forall_mem_cons.mpr ⟨sn_48, List.forall_mem_cons.mpr ⟨sn_38, List.forall_mem_cons.mpr ⟨sn_49, List.forall_mem_cons.mpr ⟨sn_50, List.forall_mem_cons.mpr ⟨sn_36, List.forall_mem_cons.mpr ⟨sn_52, fun _ h => absurd h List.not_mem_nil⟩⟩⟩⟩⟩⟩⟩⟩⟩) ck_53
end
