noncomputable section
/-! ===== readings, by program, checked by the kernel ===== -/
def cx_54p : zS := ((cx_39pi_0 (cx_39pi_1 [])), [ur158, ur50, ur53, ur71, ur72, ur73], [], [], [uV2, uV64, uV223], (cx_39pf_0 (cx_39pf_1 [])), [uG191, uG192, (40, [uL98, uL104, uL264, uL63, uL63, uL163, uL169, uL67, uL23, uL193])])
def cx_54q1 : zS := ((cx_39q1i_0 (cx_39q1i_1 (cx_39q1i_2 []))), [ur158, ur50, ur53, ur71, ur72, ur73], [uL195], [], [uV196], [uF165, uF197, uF198, uF199, uF200, uF201, uF202], [uG204, uG208, (40, [uL98, uL203, uL265, uL63, uL63, uL163, uL169, uL210, uL211, uL193]), uG213])
/-- Parser.takeInt -/
def cx_54 : zCtx := (58, cx_54p, [([ui0, (0, 0), (0, 5), ui49, ui52, ui68, ui69, ui52, ui70, (0, 6), ui48, ui68, ui49, (1, 2), ui52], [ur158, ur50, ur53, ur71, ur72, ur73], [], [], [uV196], [uF214, uF199], [uG215]), cx_54q1], [uk132, uk133, uk134, uk135, uk170, uk179, uk180], 78, 2, 42)
set_option maxRecDepth 1000000 in
theorem ck_54 : x_ok mLT [cx_35, cx_38] mTS2 mTC2 mRUp cx_54 [(20, [0]), (40, [1])] [(0, uN216), (43, uN217)] [] (25, []) 53 28 = true := by decide +kernel
theorem sn_54 {W : Bool} {X : List Int32} : y_Snd (mGw W) mLT (J2 W X) X cx_54 := y_ok J2_J mTS2_ok mTC2_ok mRUp_ok (List.forall_mem_cons.mpr ⟨sn_35, List.forall_mem_cons.mpr ⟨sn_38, fun _ h => absurd h List.not_mem_nil⟩⟩) ck_54
def cx_55p : zS := ((cx_39pi_0 (cx_39pi_1 [])), [ur158, ur50, ur53, ur71, ur72, ur73, ur172], [((-258), [(6, 1)]), (258, [(6, (-1))])], [], [uV2, uV64, uV223], (cx_46pf_0 (cx_46pf_1 [])), [uG191, uG192, uG231, uG232])
def cx_55q0i_0 (t : List (Int × Int)) : List (Int × Int) := ui0 :: (0, 0) :: (0, 5) :: ui49 :: ui52 :: ui68 :: ui69 :: ui52 :: t
def cx_55q0i_1 (t : List (Int × Int)) : List (Int × Int) := ui70 :: (0, 6) :: ui48 :: ui68 :: ui194 :: ui68 :: ui69 :: ui52 :: t
def cx_55q0i_2 (t : List (Int × Int)) : List (Int × Int) := ui70 :: (0, 5) :: ui49 :: t
def cx_55q0 : zS := ((cx_55q0i_0 (cx_55q0i_1 (cx_55q0i_2 []))), [ur158, ur50, ur53, ur71, ur72, ur73, ur172], [uL266], [], [uV196], [uF165, uF267, uF268, uF269, uF270, uF271, uF272], [uG273, uG274, uG276, uG277, (86, [uL98, uL205, uL264, uL212])])
/-- Parser.parseNumber -/
def cx_55 : zCtx := (61, cx_55p, [cx_55q0, ([ui0, (0, 0), (0, 5), ui49, ui52, ui68, ui69, ui52, ui70, (0, 6), ui48, ui68, ui49, (1, 2), ui52], [ur158, ur50, ur53, ur71, ur72, ur73, ur172], [], [], [uV196], [uF214, uF199], [uG215])], [uk132, uk133, uk134, uk135, uk170, uk179, uk180], 95, 3, 66)
set_option maxRecDepth 1000000 in
theorem ck_55 : x_ok mLT [cx_35, cx_42, cx_54, cx_36] mTS2 mTC2 mRUp cx_55 [(8, [0]), (15, [1, 2]), (22, [0, 3])] [(0, uN278), (12, uN279), (19, [1000136]), (26, uN280)] [] (17, []) 78 20 = true := by decide +kernel
theorem sn_55 {W : Bool} {X : List Int32} : y_Snd (mGw W) mLT (J2 W X) X cx_55 := y_ok J2_J mTS2_ok mTC2_ok mRUp_ok (List.forall_mem_cons.mpr ⟨sn_35, List.forall_mem_cons.mpr ⟨sn_42, List.forall_mem_cons.mpr ⟨sn_54, List.forall_mem_cons.mpr ⟨sn_36, fun _ h => absurd h List.not_mem_nil⟩⟩⟩⟩) ck_55
def cx_56p : zS := ((cx_39pi_0 (cx_39pi_1 [])), [ur158, ur50, ur53, ur71, ur72, ur73], [], [], [uV2, uV62, uV223], (cx_39pf_0 (cx_39pf_1 [])), [uG191, uG192, (40, [uL98, uL104, uL281, uL63, uL63, uL163, uL169, uL67, uL23, uL193])])
/-- Parser.takeInt -/
def cx_56 : zCtx := (58, cx_56p, [([ui0, (0, 0), (0, 5), ui49, ui52, ui68, ui69, ui52, ui70, (0, 6), ui48, ui68, ui49, (1, 2), ui52], [ur158, ur50, ur53, ur71, ur72, ur73], [], [], [uV196], [uF214, uF199], [uG215]), cx_54q1], [uk132, uk133, uk134, uk135, uk170, uk179, uk180], 78, 2, 42)
set_option maxRecDepth 1000000 in
theorem ck_56 : x_ok mLT [cx_35, cx_38] mTS2 mTC2 mRUp cx_56 [(20, [0]), (40, [1])] [(0, uN216), (43, uN217)] [] (25, []) 53 28 = true := by decide +kernel
theorem sn_56 {W : Bool} {X : List Int32} : y_Snd (mGw W) mLT (J2 W X) X cx_56 := y_ok J2_J mTS2_ok mTC2_ok mRUp_ok (List.forall_mem_cons.mpr ⟨sn_35, List.forall_mem_cons.mpr ⟨sn_38, fun _ h => absurd h List.not_mem_nil⟩⟩) ck_56
/-- Parser.takeInt -/
def cx_57 : zCtx := (58, ([ui0, (1, 2), (0, 5), ui49, ui52, ui52], [ur158, ur50, ur53], [], [], [uV2, uV62, uV223], [uF181, uF182, uF20, uF42, uF151, uF183, uF218], [uG219]), [([ui0, (1, 2), (0, 5), ui49, ui52, ui52, ui49, (1, 2), ui52], [ur158, ur50, ur53], [], [], [uV108], [uF220, uF221], [uG222])], [], 20, 1, 21)
set_option maxRecDepth 1000000 in
theorem ck_57 : x_ok mLT [cx_36] mTS2 mTC2 mRUp cx_57 [(20, [0])] [(0, uN216), (43, uN217)] [] (15, []) 5 18 = true := by decide +kernel
theorem sn_57 {W : Bool} {X : List Int32} : y_Snd (mGw W) mLT (J2 W X) X cx_57 := y_ok J2_J mTS2_ok mTC2_ok mRUp_ok (List.forall_mem_cons.mpr ⟨sn_36, fun _ h => absurd h List.not_mem_nil⟩) ck_57
def cx_58p : zS := ((cx_39pi_0 (cx_39pi_1 [])), [ur158, ur50, ur53, ur71, ur72, ur73, ur172], [((-259), [(6, 1)]), (259, [(6, (-1))])], [], [uV2, uV62, uV223], (cx_46pf_0 (cx_46pf_1 [])), [uG191, uG192, uG231, uG232])
def cx_58q0 : zS := ((cx_55q0i_0 (cx_55q0i_1 (cx_55q0i_2 []))), [ur158, ur50, ur53, ur71, ur72, ur73, ur172], [uL266], [], [uV196], [uF165, uF267, uF268, uF269, uF270, uF271, uF272], [uG273, uG274, uG276, uG277, (86, [uL98, uL205, uL281, uL212])])
/-- Parser.parseNumber -/
def cx_58 : zCtx := (61, cx_58p, [cx_58q0, ([ui0, (0, 0), (0, 5), ui49, ui52, ui68, ui69, ui52, ui70, (0, 6), ui48, ui68, ui49, (1, 2), ui52], [ur158, ur50, ur53, ur71, ur72, ur73, ur172], [], [], [uV196], [uF214, uF199], [uG215])], [uk132, uk133, uk134, uk135, uk170, uk179, uk180], 95, 3, 66)
set_option maxRecDepth 1000000 in
theorem ck_58 : x_ok mLT [cx_35, cx_56, cx_57, cx_36] mTS2 mTC2 mRUp cx_58 [(8, [0]), (15, [1, 2]), (22, [0, 3])] [(0, uN278), (12, uN279), (19, [1000136]), (26, uN280)] [] (17, []) 78 20 = true := by decide +kernel
theorem sn_58 {W : Bool} {X : List Int32} : y_Snd (mGw W) mLT (J2 W X) X cx_58 := y_ok J2_J mTS2_ok mTC2_ok mRUp_ok (List.forall_mem_cons.mpr ⟨sn_35, List.forall_mem_cons.mpr ⟨sn_56, List.forall_mem_cons.mpr ⟨sn_57, List.forall_mem_cons.mpr ⟨sn_36, fun _ h => absurd h List.not_mem_nil⟩⟩⟩⟩) ck_58
def cx_59p : zS := ((cx_39pi_0 (cx_39pi_1 [])), [ur158, ur50, ur53, ur71, ur72, ur73], [], [], [uV2, uV62, uV282], (cx_39pf_0 (cx_39pf_1 [])), [uG191, uG192, (40, [uL98, uL104, uL283, uL63, uL63, uL163, uL169, uL67, uL23, uL193])])
/-- Parser.takeInt -/
def cx_59 : zCtx := (58, cx_59p, [([ui0, (0, 0), (0, 5), ui49, ui52, ui68, ui69, ui52, ui70, (0, 6), ui48, ui68, ui49, (1, 2), ui52], [ur158, ur50, ur53, ur71, ur72, ur73], [], [], [uV196], [uF214, uF199], [uG215]), cx_54q1], [uk132, uk133, uk134, uk135, uk170, uk179, uk180], 78, 2, 42)
set_option maxRecDepth 1000000 in
theorem ck_59 : x_ok mLT [cx_35, cx_38] mTS2 mTC2 mRUp cx_59 [(20, [0]), (40, [1])] [(0, uN216), (43, uN217)] [] (25, []) 53 28 = true := by decide +kernel
theorem sn_59 {W : Bool} {X : List Int32} : y_Snd (mGw W) mLT (J2 W X) X cx_59 := y_ok J2_J mTS2_ok mTC2_ok mRUp_ok (List.forall_mem_cons.mpr ⟨sn_35, List.forall_mem_cons.mpr ⟨sn_38, fun _ h => absurd h List.not_mem_nil⟩⟩) ck_59
/-- Parser.takeInt -/
def cx_60 : zCtx := (58, ([ui0, (1, 2), (0, 5), ui49, ui52, ui52], [ur158, ur50, ur53], [], [], [uV2, uV62, uV282], [uF181, uF182, uF20, uF42, uF151, uF183, uF218], [uG219]), [([ui0, (1, 2), (0, 5), ui49, ui52, ui52, ui49, (1, 2), ui52], [ur158, ur50, ur53], [], [], [uV108], [uF220, uF221], [uG222])], [], 20, 1, 21)
set_option maxRecDepth 1000000 in
theorem ck_60 : x_ok mLT [cx_36] mTS2 mTC2 mRUp cx_60 [(20, [0])] [(0, uN216), (43, uN217)] [] (15, []) 5 18 = true := by decide +kernel
theorem sn_60 {W : Bool} {X : List Int32} : y_Snd (mGw W) mLT (J2 W X) X cx_60 := y_ok J2_J mTS2_ok mTC2_ok mRUp_ok (List.forall_mem_cons.mpr ⟨sn_36, fun _ h => absurd h List.not_mem_nil⟩) ck_60
def cx_61p : zS := ((cx_39pi_0 (cx_39pi_1 [])), [ur158, ur50, ur53, ur71, ur72, ur73, ur172], [((-264), [(6, 1)]), (264, [(6, (-1))])], [], [uV2, uV62, uV282], (cx_46pf_0 (cx_46pf_1 [])), [uG191, uG192, uG231, uG232])
def cx_61q0 : zS := ((cx_55q0i_0 (cx_55q0i_1 (cx_55q0i_2 []))), [ur158, ur50, ur53, ur71, ur72, ur73, ur172], [uL266], [], [uV196], [uF165, uF267, uF268, uF269, uF270, uF271, uF272], [uG273, uG274, uG276, uG277, (86, [uL98, uL205, uL283, uL212])])
/-- Parser.parseNumber -/
def cx_61 : zCtx := (61, cx_61p, [cx_61q0, ([ui0, (0, 0), (0, 5), ui49, ui52, ui68, ui69, ui52, ui70, (0, 6), ui48, ui68, ui49, (1, 2), ui52], [ur158, ur50, ur53, ur71, ur72, ur73, ur172], [], [], [uV196], [uF214, uF199], [uG215])], [uk132, uk133, uk134, uk135, uk170, uk179, uk180], 95, 3, 66)
set_option maxRecDepth 1000000 in
theorem ck_61 : x_ok mLT [cx_35, cx_59, cx_60, cx_36] mTS2 mTC2 mRUp cx_61 [(8, [0]), (15, [1, 2]), (22, [0, 3])] [(0, uN278), (12, uN279), (19, [1000136]), (26, uN280)] [] (17, []) 78 20 = true := by decide +kernel
theorem sn_61 {W : Bool} {X : List Int32} : y_Snd (mGw W) mLT (J2 W X) X cx_61 := y_ok J2_J mTS2_ok mTC2_ok mRUp_ok (List.forall_mem_cons.mpr ⟨sn_35, List.forall_mem_cons.mpr ⟨sn_59, List.forall_mem_cons.mpr ⟨sn_60, List.forall_mem_cons.mpr ⟨sn_36, fun _ h => absurd h List.not_mem_nil⟩⟩⟩⟩) ck_61
def cx_62p : zS := ((cx_39pi_0 (cx_39pi_1 [])), [ur158, ur50, ur53, ur71, ur72, ur73], [], [], [uV2, uV62, uV284], (cx_39pf_0 (cx_39pf_1 [])), [uG191, uG192, (40, [uL98, uL104, uL285, uL63, uL63, uL163, uL169, uL67, uL23, uL193])])
/-- Parser.takeInt -/
def cx_62 : zCtx := (58, cx_62p, [([ui0, (0, 0), (0, 5), ui49, ui52, ui68, ui69, ui52, ui70, (0, 6), ui48, ui68, ui49, (1, 2), ui52], [ur158, ur50, ur53, ur71, ur72, ur73], [], [], [uV196], [uF214, uF199], [uG215]), cx_54q1], [uk132, uk133, uk134, uk135, uk170], 74, 2, 42)
set_option maxRecDepth 1000000 in
theorem ck_62 : x_ok mLT [cx_35] mTS2 mTC2 mRUp cx_62 [(20, [0])] [(0, uN216), (43, uN217)] [] (21, []) 53 24 = true := by decide +kernel
theorem sn_62 {W : Bool} {X : List Int32} : y_Snd (mGw W) mLT (J2 W X) X cx_62 := y_ok J2_J mTS2_ok mTC2_ok mRUp_ok (List.forall_mem_cons.mpr ⟨sn_35, fun _ h => absurd h List.not_mem_nil⟩) ck_62
/-- Parser.takeInt -/
def cx_63 : zCtx := (58, ([ui0, (1, 2), (0, 5), ui49, ui52, ui52], [ur158, ur50, ur53], [], [], [uV2, uV62, uV284], [uF181, uF182, uF20, uF42, uF151, uF183, uF218], [uG219]), [([ui0, (1, 2), (0, 5), ui49, ui52, ui52, ui49, (1, 2), ui52], [ur158, ur50, ur53], [], [], [uV108], [uF220, uF221], [uG222])], [], 20, 1, 21)
set_option maxRecDepth 1000000 in
theorem ck_63 : x_ok mLT [cx_36] mTS2 mTC2 mRUp cx_63 [(20, [0])] [(0, uN216), (43, uN217)] [] (15, []) 5 18 = true := by decide +kernel
theorem sn_63 {W : Bool} {X : List Int32} : y_Snd (mGw W) mLT (J2 W X) X cx_63 := y_ok J2_J mTS2_ok mTC2_ok mRUp_ok (List.forall_mem_cons.mpr ⟨sn_36, fun _ h => absurd h List.not_mem_nil⟩) ck_63
def cx_64p : zS := ((cx_39pi_0 (cx_39pi_1 [])), [ur158, ur50, ur53, ur71, ur72, ur73, ur172], [((-265), [(6, 1)]), (265, [(6, (-1))])], [], [uV2, uV62, uV284], (cx_46pf_0 (cx_46pf_1 [])), [uG191, uG192, uG231, uG232])
def cx_64q0 : zS := ((cx_55q0i_0 (cx_55q0i_1 (cx_55q0i_2 []))), [ur158, ur50, ur53, ur71, ur72, ur73, ur172], [uL266], [], [uV196], [uF165, uF267, uF268, uF269, uF270, uF271, uF272], [uG273, uG274, uG276, uG277, (86, [uL98, uL205, uL285, uL212])])
/-- Parser.parseNumber -/
def cx_64 : zCtx := (61, cx_64p, [cx_64q0, ([ui0, (0, 0), (0, 5), ui49, ui52, ui68, ui69, ui52, ui70, (0, 6), ui48, ui68, ui49, (1, 2), ui52], [ur158, ur50, ur53, ur71, ur72, ur73, ur172], [], [], [uV196], [uF214, uF199], [uG215])], [uk132, uk133, uk134, uk135, uk170], 91, 3, 66)
set_option maxRecDepth 1000000 in
theorem ck_64 : x_ok mLT [cx_35, cx_62, cx_63, cx_36] mTS2 mTC2 mRUp cx_64 [(8, [0]), (15, [1, 2]), (22, [0, 3])] [(0, uN278), (12, uN279), (19, [1000136]), (26, uN280)] [] (17, []) 74 20 = true := by decide +kernel
theorem sn_64 {W : Bool} {X : List Int32} : y_Snd (mGw W) mLT (J2 W X) X cx_64 := y_ok J2_J mTS2_ok mTC2_ok mRUp_ok (List.forall_mem_cons.mpr ⟨sn_35, List.forall_mem_cons.mpr ⟨sn_62, List.forall_mem_cons.mpr ⟨sn_63, List.forall_mem_cons.mpr ⟨sn_36, fun _ h => absurd h List.not_mem_nil⟩⟩⟩⟩) ck_64
def cx_65pi_0 (t : List (Int × Int)) : List (Int × Int) := ui0 :: ui286 :: (0, 0) :: ui52 :: ui68 :: ui52 :: ui70 :: (0, 5) :: t
def cx_65pi_1 (t : List (Int × Int)) : List (Int × Int) := ui49 :: (0, 6) :: ui48 :: ui68 :: ui31 :: t
def cx_65pr_0 (t : List (Nat × Bool)) : List (Nat × Bool) := ur158 :: ur50 :: ur53 :: ur71 :: ur72 :: ur73 :: ur172 :: ur7 :: t
def cx_65pr_1 (t : List (Nat × Bool)) : List (Nat × Bool) := ur18 :: ur19 :: ur8 :: t
def cx_65pf_0 (t : List zFa) : List zFa := uF150 :: uF42 :: uF151 :: uF152 :: uF153 :: (2, (false, 6, 0, []), 0, 0, 260, [(1, 1)]) :: uF218 :: uF287 :: t
def cx_65pf_1 (t : List zFa) : List zFa := uF155 :: uF156 :: uF157 :: uF288 :: uF289 :: uF188 :: uF189 :: uF228 :: t
def cx_65pf_2 (t : List zFa) : List zFa := uF290 :: uF291 :: uF292 :: uF293 :: (7, (false, 4, 0, []), 0, 0, 0, [(12, 1)]) :: t
def cx_65p : zS := ((cx_65pi_0 (cx_65pi_1 [])), (cx_65pr_0 (cx_65pr_1 [])), [], [], [uV2, uV11], (cx_65pf_0 (cx_65pf_1 (cx_65pf_2 []))), [uG160, uG294, uG295, uG296, uG297])
/-- Parser.parseLaw -/
def cx_65 : zCtx := (62, cx_65p, [([ui0, ui286, (0, 0), ui52, ui68, ui52, ui70, (0, 5), ui49, (0, 6), ui48, ui68, ui31, (1, 2), ui52], [ur158, ur50, ur53, ur71, ur72, ur73, ur172, ur7, ur18, ur19, ur8], [], [], [], [uF214, uF199], [uG298])], [uk170], 6, 0, 0)
set_option maxRecDepth 1000000 in
theorem ck_65 : x_ok mLT [] mTS2 mTC2 mRUp cx_65 [] [(14, uN299)] [] (6, []) 0 9 = true := by decide +kernel
theorem sn_65 {W : Bool} {X : List Int32} : y_Snd (mGw W) mLT (J2 W X) X cx_65 := y_ok J2_J mTS2_ok mTC2_ok mRUp_ok (fun _ h => absurd h List.not_mem_nil) ck_65
/-- Laws.emit -/
def cx_66 : zCtx := (49, ([ui0, (0, 7), ui194, ui300, ui52, ui68, (0, 5)], [ur7, ur18, ur19], [], [], [uV2, uV11, uV12], [uF20, uF21, uF22], [uG301]), [([ui0, (0, 7), ui194, ui300, ui52, ui68, (0, 5)], [ur7, ur18, ur19], [], [], [], [uF25, uF26, uF27], [uG301])], [uk28, uk29, uk30], 26, 0, 0)
set_option maxRecDepth 1000000 in
theorem ck_66 : x_ok mLT [] mTS2 mTC2 mRUp cx_66 [] [] [] (26, []) 0 29 = true := by decide +kernel
theorem sn_66 {W : Bool} {X : List Int32} : y_Snd (mGw W) mLT (J2 W X) X cx_66 := y_ok J2_J mTS2_ok mTC2_ok mRUp_ok (fun _ h => absurd h List.not_mem_nil) ck_66
def cx_67pi_0 (t : List (Int × Int)) : List (Int × Int) := ui0 :: (0, 0) :: ui52 :: ui68 :: ui69 :: ui52 :: ui70 :: ui302 :: t
def cx_67pi_1 (t : List (Int × Int)) : List (Int × Int) := (0, 5) :: ui49 :: (0, 6) :: ui48 :: ui68 :: ui31 :: t
def cx_67pr_0 (t : List (Nat × Bool)) : List (Nat × Bool) := ur158 :: ur50 :: ur53 :: ur71 :: ur72 :: ur73 :: ur7 :: ur18 :: t
def cx_67pr_1 (t : List (Nat × Bool)) : List (Nat × Bool) := ur19 :: ur8 :: t
def cx_67pf_0 (t : List zFa) : List zFa := uF181 :: uF42 :: uF151 :: uF303 :: (2, (false, 4, 0, []), 0, 0, 0, [(3, 1)]) :: uF304 :: uF218 :: uF287 :: t
def cx_67pf_1 (t : List zFa) : List zFa := uF155 :: uF156 :: uF157 :: uF305 :: uF306 :: uF307 :: uF308 :: uF309 :: t
def cx_67pf_2 (t : List zFa) : List zFa := uF310 :: uF311 :: uF312 :: (6, (false, 4, 0, []), 0, 0, 0, [(13, 1)]) :: t
def cx_67p : zS := ((cx_67pi_0 (cx_67pi_1 [])), (cx_67pr_0 (cx_67pr_1 [])), [uL313], [], [uV2, uV314], (cx_67pf_0 (cx_67pf_1 (cx_67pf_2 []))), [uG315, uG316, uG317, uG318])
def cx_67q1i_0 (t : List (Int × Int)) : List (Int × Int) := ui0 :: (0, 0) :: ui52 :: ui68 :: ui69 :: ui52 :: ui70 :: ui302 :: t
def cx_67q1i_1 (t : List (Int × Int)) : List (Int × Int) := (0, 5) :: ui49 :: (0, 6) :: ui48 :: ui68 :: ui31 :: ui68 :: ui69 :: t
def cx_67q1i_2 (t : List (Int × Int)) : List (Int × Int) := ui52 :: ui70 :: ui31 :: t
def cx_67q1 : zS := ((cx_67q1i_0 (cx_67q1i_1 (cx_67q1i_2 []))), (cx_67pr_0 (cx_67pr_1 [])), [uL319], [], [], [uF165, uF320, uF321, uF322, uF323, uF305, uF306, uF324], [uG325, uG326, uG327, uG328, uG329])
/-- Parser.unit -/
def cx_67 : zCtx := (65, cx_67p, [([ui0, (0, 0), ui52, ui68, ui69, ui52, ui70, ui302, (0, 5), ui49, (0, 6), ui48, ui68, ui31, (1, 2), ui52], [ur158, ur50, ur53, ur71, ur72, ur73, ur7, ur18, ur19, ur8], [], [], [], [uF330, uF269], [uG331]), cx_67q1], kc_3, 89, 2, 42)
set_option maxRecDepth 1000000 in
theorem ck_67 : x_ok mLT [cx_66, cx_35] mTS2 mTC2 mRUp cx_67 [(87, [0]), (92, [1]), (126, [0]), (131, [1])] [(33, [1000138]), (71, uN332), (90, [1000542]), (96, uN333), (113, uN334), (129, [1000544]), (135, uN335), (143, uN336)] [] (36, []) 53 39 = true := by decide +kernel
theorem sn_67 {W : Bool} {X : List Int32} : y_Snd (mGw W) mLT (J2 W X) X cx_67 := y_ok J2_J mTS2_ok mTC2_ok mRUp_ok (List.forall_mem_cons.mpr ⟨sn_66, List.forall_mem_cons.mpr ⟨sn_35, fun _ h => absurd h List.not_mem_nil⟩⟩) ck_67
/-- Parser.unit -/
def cx_68 : zCtx := (65, ([ui0, (1, 2), ui52, ui52], [ur158, ur50, ur53], [], [], [uV2, uV314], [uF181, uF42, uF151, uF303, uF337], [uG338]), [([ui0, (1, 2), ui52, ui52, (1, 2), ui52], [ur158, ur50, ur53], [], [], [], [uF339, uF218], [uG340])], [], 8, 0, 0)
set_option maxRecDepth 1000000 in
theorem ck_68 : x_ok mLT [] mTS2 mTC2 mRUp cx_68 [] [] [] (8, []) 0 11 = true := by decide +kernel
theorem sn_68 {W : Bool} {X : List Int32} : y_Snd (mGw W) mLT (J2 W X) X cx_68 := y_ok J2_J mTS2_ok mTC2_ok mRUp_ok (fun _ h => absurd h List.not_mem_nil) ck_68
/-- Laws.emit -/
def cx_69 : zCtx := (49, ([ui0, (2, 7), (0, 0), ui31], [ur7], [], [], [uV2, uV11, uV12], [uF20], []), [([ui0, (2, 7), (0, 0), ui341], [ur7], [], [], [], [uF27], []), ([ui0, (2, 7), (0, 0), ui342], [ur7], [], [], [], [uF20], [])], [uk28, uk29, uk30], 26, 0, 0)
set_option maxRecDepth 1000000 in
theorem ck_69 : x_ok mLT [] mTS2 mTC2 mRUp cx_69 [] [] [] (26, []) 0 29 = true := by decide +kernel
theorem sn_69 {W : Bool} {X : List Int32} : y_Snd (mGw W) mLT (J2 W X) X cx_69 := y_ok J2_J mTS2_ok mTC2_ok mRUp_ok (fun _ h => absurd h List.not_mem_nil) ck_69
def cx_70p : zS := ((cx_67pi_0 (cx_67pi_1 [])), (cx_67pr_0 (cx_67pr_1 [])), [uL313], [], [uV2, uV314], (cx_67pf_0 (cx_67pf_1 (cx_67pf_2 []))), [uG315, uG316, uG317, uG318, uG343])
def cx_70q0g_0 (t : List zTg) : List zTg := uG325 :: uG326 :: uG327 :: uG344 :: uG345 :: uG346 :: t
def cx_70q0 : zS := ((cx_67q1i_0 (cx_67q1i_1 (cx_67q1i_2 []))), (cx_67pr_0 (cx_67pr_1 [])), [uL319], [], [], [uF165, uF320, uF321, uF322, uF323, uF305, uF306, uF324], (cx_70q0g_0 []))
/-- Parser.part -/
def cx_70 : zCtx := (64, cx_70p, [cx_70q0, ([ui0, (0, 0), ui52, ui68, ui69, ui52, ui70, ui302, (0, 5), ui49, (0, 6), ui48, ui68, ui31, (1, 2), ui52], [ur158, ur50, ur53, ur71, ur72, ur73, ur7, ur18, ur19, ur8], [], [], [], [uF330, uF269], [uG331])], kc_3, 16499, 3, 64)
def cz_70_0i_0 (t : List (Int × Int)) : List (Int × Int) := ui0 :: (0, 0) :: ui52 :: ui147 :: ui69 :: ui52 :: ui70 :: ui302 :: t
def cz_70_0i_1 (t : List (Int × Int)) : List (Int × Int) := (0, 5) :: ui49 :: (0, 6) :: ui48 :: ui68 :: ui31 :: ui68 :: ui347 :: t
def cz_70_0i_2 (t : List (Int × Int)) : List (Int × Int) := ui69 :: ui52 :: ui70 :: ui31 :: t
def cz_70_0f_0 (t : List zFa) : List zFa := uF165 :: (2, (false, 4, 0, []), 0, 0, 0, [(15, 1)]) :: (2, (false, 6, 0, []), 0, 0, 0, [(16, 1)]) :: (2, (false, 7, 0, []), 0, 0, 0, [(17, 1)]) :: (2, (false, 8, 0, []), 1, 0, 0, [(18, 1)]) :: uF305 :: uF306 :: (6, (false, 4, 0, []), 0, 0, 0, [(19, 1)]) :: t
def cz_70_0f_1 (t : List zFa) : List zFa := uF42 :: uF151 :: uF303 :: uF155 :: uF156 :: uF157 :: uF305 :: uF306 :: t
def cz_70_0f_2 (t : List zFa) : List zFa := uF307 :: uF308 :: uF309 :: uF310 :: uF311 :: uF312 :: t
def cz_70_0g_0 (t : List zTg) : List zTg := uG343 :: uG348 :: uG349 :: uG350 :: uG351 :: uG353 :: uG354 :: t
def cz_70_0 : zS := ((cz_70_0i_0 (cz_70_0i_1 (cz_70_0i_2 []))), (cx_67pr_0 (cx_67pr_1 [])), [uL313], [uV2, uV314, uV355, uV113], [], (cz_70_0f_0 (cz_70_0f_1 (cz_70_0f_2 []))), (cz_70_0g_0 []))
def cz_70_1i_0 (t : List (Int × Int)) : List (Int × Int) := ui0 :: (0, 0) :: ui52 :: ui68 :: ui69 :: ui52 :: ui70 :: ui302 :: t
def cz_70_1i_1 (t : List (Int × Int)) : List (Int × Int) := (0, 5) :: ui49 :: (0, 6) :: ui48 :: ui68 :: ui31 :: ui68 :: (1, 2) :: t
def cz_70_1i_2 (t : List (Int × Int)) : List (Int × Int) := ui52 :: t
def cz_70_1f_0 (t : List zFa) : List zFa := uF356 :: uF322 :: uF42 :: uF151 :: uF303 :: uF155 :: uF156 :: uF157 :: t
def cz_70_1f_1 (t : List zFa) : List zFa := uF305 :: uF306 :: uF307 :: uF308 :: uF309 :: uF310 :: uF311 :: uF312 :: t
def cz_70_1 : zS := ((cz_70_1i_0 (cz_70_1i_1 (cz_70_1i_2 []))), (cx_67pr_0 (cx_67pr_1 [])), [uL313], [uV2, uV314, uV355, uV113], [], (cz_70_1f_0 (cz_70_1f_1 [])), [uG343, uG357])
set_option maxRecDepth 1000000 in
theorem ck_70 : x_ok mLT [cx_67, cx_35, cx_68, cx_66, cx_69] mTS2 mTC2 mRUp cx_70 [(2, [0]), (71, [1]), (77, [0, 2]), (89, [3, 4])] [(6, uN358), (63, uN359), (75, uN360), (80, [1000556]), (92, uN361), (98, uN362)] [(7, cz_70_0, (16404, [(1, (-100000000000)), (14, (-41))])), (7, cz_70_1, (1204, [(1, (-100000000000)), (14, (-3))]))] (16410, []) 89 43 = true := by decide +kernel
theorem sn_70 {W : Bool} {X : List Int32} : y_Snd (mGw W) mLT (J2 W X) X cx_70 := y_ok J2_J mTS2_ok mTC2_ok mRUp_ok (List.forall_mem_cons.mpr ⟨sn_67, List.forall_mem_cons.mpr ⟨sn_35, List.forall_mem_cons.mpr ⟨sn_68, List.forall_mem_cons.mpr ⟨sn_66, List.forall_mem_cons.mpr ⟨sn_69, fun _ h => absurd h List.not_mem_nil⟩⟩⟩⟩⟩) ck_70
/-- Parser.part -/
def cx_71 : zCtx := (64, ([ui0, (1, 2), ui52, ui52], [ur158, ur50, ur53], [], [], [uV2, uV314], [uF181, uF42, uF151, uF303, uF337], [uG338]), [([ui0, (1, 2), ui52, ui52, (1, 2), ui52], [ur158, ur50, ur53], [], [], [], [uF339, uF218], [uG340])], [], 21, 1, 22)
set_option maxRecDepth 1000000 in
theorem ck_71 : x_ok mLT [cx_68] mTS2 mTC2 mRUp cx_71 [(2, [0])] [(6, uN358), (98, uN362)] [(7, ([(0, 3072), (1, 2), (0, 2000), (0, 2000), (1, 2), (0, 2000)], [(4, false), (96, false), (1, false)], [(0, [(3, 1), (5, (-1))]), (0, [(3, (-1)), (5, 1)]), (0, [(1, 1), (4, (-1))]), (0, [(1, (-1)), (4, 1)])], [(2, 0, 0, []), (0, 0, 6, []), (0, 0, 0, []), (5, 0, 0, [])], [], [(0, (false, 2, 0, []), 0, 0, 0, [(4, 1)]), (2, (false, 7, 0, []), 0, 0, 0, [(5, 1)]), (0, (false, 2, 0, []), 0, 0, 0, [(1, 1)]), (0, (false, 1, 0, []), 2, 1, 0, []), (0, (false, 0, 0, []), 2, 2, 0, []), (2, (false, 5, 0, []), 0, 0, 0, [(2, 1)]), (2, (false, 7, 0, []), 0, 0, 0, [(3, 1)])], [(41, [(0, [(2, 1)]), (0, [(1, 1)]), (0, [(3, 1)])]), (41, [(0, [(2, 1)]), (0, [(4, 1)]), (0, [(5, 1)])])]), (7, []))] (13, []) 8 10 = true := by decide +kernel
theorem sn_71 {W : Bool} {X : List Int32} : y_Snd (mGw W) mLT (J2 W X) X cx_71 := y_ok J2_J mTS2_ok mTC2_ok mRUp_ok (List.forall_mem_cons.mpr ⟨sn_68, fun _ h => absurd h List.not_mem_nil⟩) ck_71
def cx_72p : zS := ((cx_67pi_0 (cx_67pi_1 [])), (cx_67pr_0 (cx_67pr_1 [])), [uL313], [], [uV2, uV314], (cx_67pf_0 (cx_67pf_1 (cx_67pf_2 []))), [uG315, uG316, uG317, uG318, uG363])
def cx_72q1g_0 (t : List zTg) : List zTg := uG325 :: uG326 :: uG327 :: uG364 :: uG365 :: uG366 :: t
def cx_72q1 : zS := ((cx_67q1i_0 (cx_67q1i_1 (cx_67q1i_2 []))), (cx_67pr_0 (cx_67pr_1 [])), [uL319], [], [], [uF165, uF320, uF321, uF322, uF323, uF305, uF306, uF324], (cx_72q1g_0 []))
/-- Parser.expression -/
def cx_72 : zCtx := (63, cx_72p, [([ui0, (0, 0), ui52, ui68, ui69, ui52, ui70, ui302, (0, 5), ui49, (0, 6), ui48, ui68, ui31, (1, 2), ui52], [ur158, ur50, ur53, ur71, ur72, ur73, ur7, ur18, ur19, ur8], [], [], [], [uF330, uF269], [uG331]), cx_72q1], kc_3, 32909, 4, 87)
def cz_72_0 : zS := ((cz_70_1i_0 (cz_70_1i_1 (cz_70_1i_2 []))), (cx_67pr_0 (cx_67pr_1 [])), [uL313], [uV2, uV314, uV355, uV113], [], (cz_70_1f_0 (cz_70_1f_1 [])), [uG343, uG363, uG357])
def cz_72_1g_0 (t : List zTg) : List zTg := uG343 :: uG363 :: uG348 :: uG349 :: uG350 :: uG351 :: uG367 :: uG368 :: t
def cz_72_1g_1 (t : List zTg) : List zTg := uG369 :: t
def cz_72_1 : zS := ((cz_70_0i_0 (cz_70_0i_1 (cz_70_0i_2 []))), (cx_67pr_0 (cx_67pr_1 [])), [uL313], [uV2, uV314, uV355, uV113], [], (cz_70_0f_0 (cz_70_0f_1 (cz_70_0f_2 []))), (cz_72_1g_0 (cz_72_1g_1 [])))
set_option maxRecDepth 1000000 in
theorem ck_72 : x_ok mLT [cx_70, cx_35, cx_71, cx_66, cx_69] mTS2 mTC2 mRUp cx_72 [(2, [0]), (71, [1]), (77, [0, 2]), (89, [3, 4])] [(0, [1000550]), (6, uN370), (63, uN371), (75, uN372), (80, [1000556]), (92, uN373), (98, uN374)] [(7, cz_72_0, (1204, [(1, (-100000000000)), (14, (-3))])), (7, cz_72_1, (16404, [(1, (-100000000000)), (14, (-41))]))] (16410, []) 16499 43 = true := by decide +kernel
theorem sn_72 {W : Bool} {X : List Int32} : y_Snd (mGw W) mLT (J2 W X) X cx_72 := y_ok J2_J mTS2_ok mTC2_ok mRUp_ok (List.forall_mem_cons.mpr ⟨sn_70, List.forall_mem_cons.mpr ⟨sn_35, List.forall_mem_cons.mpr ⟨sn_71, List.forall_mem_cons.mpr ⟨sn_66, List.forall_mem_cons.mpr ⟨sn_69, fun _ h => absurd h List.not_mem_nil⟩⟩⟩⟩⟩) ck_72
/-- Parser.expression -/
def cx_73 : zCtx := (63, ([ui0, (1, 2), ui52, ui52], [ur158, ur50, ur53], [], [], [uV2, uV314], [uF181, uF42, uF151, uF303, uF337], [uG338]), [([ui0, (1, 2), ui52, ui52, (1, 2), ui52], [ur158, ur50, ur53], [], [], [], [uF339, uF218], [uG340])], [], 34, 2, 45)
set_option maxRecDepth 1000000 in
theorem ck_73 : x_ok mLT [cx_71] mTS2 mTC2 mRUp cx_73 [(2, [0])] [(0, [1000550]), (6, uN370), (98, uN374)] [(7, ([(0, 3072), (1, 2), (0, 2000), (0, 2000), (1, 2), (0, 2000)], [(4, false), (96, false), (1, false)], [(0, [(3, 1), (5, (-1))]), (0, [(3, (-1)), (5, 1)]), (0, [(1, 1), (4, (-1))]), (0, [(1, (-1)), (4, 1)])], [(2, 0, 0, []), (0, 0, 6, []), (0, 0, 0, []), (5, 0, 0, [])], [], [(0, (false, 2, 0, []), 0, 0, 0, [(4, 1)]), (2, (false, 7, 0, []), 0, 0, 0, [(5, 1)]), (0, (false, 2, 0, []), 0, 0, 0, [(1, 1)]), (0, (false, 1, 0, []), 2, 1, 0, []), (0, (false, 0, 0, []), 2, 2, 0, []), (2, (false, 5, 0, []), 0, 0, 0, [(2, 1)]), (2, (false, 7, 0, []), 0, 0, 0, [(3, 1)])], [(41, [(0, [(2, 1)]), (0, [(1, 1)]), (0, [(3, 1)])]), (41, [(0, [(2, 1)]), (0, [(4, 1)]), (0, [(5, 1)])])]), (7, []))] (13, []) 21 10 = true := by decide +kernel
theorem sn_73 {W : Bool} {X : List Int32} : y_Snd (mGw W) mLT (J2 W X) X cx_73 := y_ok J2_J mTS2_ok mTC2_ok mRUp_ok (List.forall_mem_cons.mpr ⟨sn_71, fun _ h => absurd h List.not_mem_nil⟩) ck_73
def cx_74p : zS := ((cx_67pi_0 (cx_67pi_1 [])), (cx_67pr_0 (cx_67pr_1 [])), [uL313], [], [uV2, uV3], (cx_67pf_0 (cx_67pf_1 (cx_67pf_2 []))), [uG315, uG316, uG375, uG318])
def cx_74q0 : zS := ((cx_67q1i_0 (cx_67q1i_1 (cx_67q1i_2 []))), (cx_67pr_0 (cx_67pr_1 [])), [uL319], [], [], [uF165, uF320, uF321, uF322, uF323, uF305, uF306, uF324], [uG325, uG326, uG376, uG328, uG329])
/-- Parser.unit -/
def cx_74 : zCtx := (65, cx_74p, [cx_74q0, ([ui0, (0, 0), ui52, ui68, ui69, ui52, ui70, ui302, (0, 5), ui49, (0, 6), ui48, ui68, ui31, (1, 2), ui52], [ur158, ur50, ur53, ur71, ur72, ur73, ur7, ur18, ur19, ur8], [], [], [], [uF330, uF269], [uG331])], kc_3, 32945, 5, 110)
set_option maxRecDepth 1000000 in
theorem ck_74 : x_ok mLT [cx_35, cx_72, cx_73, cx_36, cx_66] mTS2 mTC2 mRUp cx_74 [(45, [0]), (53, [1, 2]), (59, [0, 3]), (87, [4]), (92, [0]), (126, [4]), (131, [0])] [(42, [1000139]), (49, uN377), (56, [1000141]), (63, uN378), (71, uN332), (90, [1000542]), (96, uN333), (113, uN334), (129, [1000544]), (135, uN335), (143, uN336)] [] (36, []) 32909 39 = true := by decide +kernel
theorem sn_74 {W : Bool} {X : List Int32} : y_Snd (mGw W) mLT (J2 W X) X cx_74 := y_ok J2_J mTS2_ok mTC2_ok mRUp_ok (List.forall_mem_cons.mpr ⟨sn_35, List.forall_mem_cons.mpr ⟨sn_72, List.forall_mem_cons.mpr ⟨sn_73, List.forall_mem_cons.mpr ⟨sn_36, List.forall_mem_cons.mpr ⟨sn_66, fun _ h => absurd h List.not_mem_nil⟩⟩⟩⟩⟩) ck_74
/-- Parser.unit -/
def cx_75 : zCtx := (65, ([ui0, (1, 2), ui52, ui52], [ur158, ur50, ur53], [], [], [uV2, uV3], [uF181, uF42, uF151, uF303, uF337], [uG338]), [([ui0, (1, 2), ui52, ui52, (1, 2), ui52], [ur158, ur50, ur53], [], [], [], [uF339, uF218], [uG340])], [], 8, 0, 0)
set_option maxRecDepth 1000000 in
theorem ck_75 : x_ok mLT [] mTS2 mTC2 mRUp cx_75 [] [] [] (8, []) 0 11 = true := by decide +kernel
theorem sn_75 {W : Bool} {X : List Int32} : y_Snd (mGw W) mLT (J2 W X) X cx_75 := y_ok J2_J mTS2_ok mTC2_ok mRUp_ok (fun _ h => absurd h List.not_mem_nil) ck_75
def cx_76p : zS := ((cx_67pi_0 (cx_67pi_1 [])), (cx_67pr_0 (cx_67pr_1 [])), [uL313], [], [uV2, uV3], (cx_67pf_0 (cx_67pf_1 (cx_67pf_2 []))), [uG315, uG316, uG375, uG318, uG343])
def cx_76q1g_0 (t : List zTg) : List zTg := uG325 :: uG326 :: uG376 :: uG344 :: uG345 :: uG346 :: t
def cx_76q1 : zS := ((cx_67q1i_0 (cx_67q1i_1 (cx_67q1i_2 []))), (cx_67pr_0 (cx_67pr_1 [])), [uL319], [], [], [uF165, uF320, uF321, uF322, uF323, uF305, uF306, uF324], (cx_76q1g_0 []))
/-- Parser.part -/
def cx_76 : zCtx := (64, cx_76p, [([ui0, (0, 0), ui52, ui68, ui69, ui52, ui70, ui302, (0, 5), ui49, (0, 6), ui48, ui68, ui31, (1, 2), ui52], [ur158, ur50, ur53, ur71, ur72, ur73, ur7, ur18, ur19, ur8], [], [], [], [uF330, uF269], [uG331]), cx_76q1], kc_3, 49355, 6, 132)
def cz_76_0 : zS := ((cz_70_1i_0 (cz_70_1i_1 (cz_70_1i_2 []))), (cx_67pr_0 (cx_67pr_1 [])), [uL313], [uV2, uV3, uV355, uV113], [], (cz_70_1f_0 (cz_70_1f_1 [])), [uG343, uG357])
def cz_76_1g_0 (t : List zTg) : List zTg := uG343 :: uG348 :: uG349 :: uG379 :: uG351 :: uG353 :: uG354 :: t
def cz_76_1 : zS := ((cz_70_0i_0 (cz_70_0i_1 (cz_70_0i_2 []))), (cx_67pr_0 (cx_67pr_1 [])), [uL313], [uV2, uV3, uV355, uV113], [], (cz_70_0f_0 (cz_70_0f_1 (cz_70_0f_2 []))), (cz_76_1g_0 []))
set_option maxRecDepth 1000000 in
theorem ck_76 : x_ok mLT [cx_74, cx_35, cx_75, cx_66, cx_69] mTS2 mTC2 mRUp cx_76 [(2, [0]), (71, [1]), (77, [0, 2]), (89, [3, 4])] [(6, uN358), (63, uN359), (75, uN360), (80, [1000556]), (92, uN361), (98, uN362)] [(7, cz_76_0, (1204, [(1, (-100000000000)), (14, (-3))])), (7, cz_76_1, (16404, [(1, (-100000000000)), (14, (-41))]))] (16410, []) 32945 43 = true := by decide +kernel
theorem sn_76 {W : Bool} {X : List Int32} : y_Snd (mGw W) mLT (J2 W X) X cx_76 := y_ok J2_J mTS2_ok mTC2_ok mRUp_ok (List.forall_mem_cons.mpr ⟨sn_74, List.forall_mem_cons.mpr ⟨sn_35, List.forall_mem_cons.mpr ⟨sn_75, List.forall_mem_cons.mpr ⟨sn_66, List.forall_mem_cons.mpr ⟨sn_69, fun _ h => absurd h List.not_mem_nil⟩⟩⟩⟩⟩) ck_76
/-- Parser.part -/
def cx_77 : zCtx := (64, ([ui0, (1, 2), ui52, ui52], [ur158, ur50, ur53], [], [], [uV2, uV3], [uF181, uF42, uF151, uF303, uF337], [uG338]), [([ui0, (1, 2), ui52, ui52, (1, 2), ui52], [ur158, ur50, ur53], [], [], [], [uF339, uF218], [uG340])], [], 21, 1, 22)
set_option maxRecDepth 1000000 in
theorem ck_77 : x_ok mLT [cx_75] mTS2 mTC2 mRUp cx_77 [(2, [0])] [(6, uN358), (98, uN362)] [(7, ([(0, 3072), (1, 2), (0, 2000), (0, 2000), (1, 2), (0, 2000)], [(4, false), (96, false), (1, false)], [(0, [(3, 1), (5, (-1))]), (0, [(3, (-1)), (5, 1)]), (0, [(1, 1), (4, (-1))]), (0, [(1, (-1)), (4, 1)])], [(2, 0, 0, []), (0, 0, 5, []), (0, 0, 0, []), (5, 0, 0, [])], [], [(0, (false, 2, 0, []), 0, 0, 0, [(4, 1)]), (2, (false, 7, 0, []), 0, 0, 0, [(5, 1)]), (0, (false, 2, 0, []), 0, 0, 0, [(1, 1)]), (0, (false, 1, 0, []), 2, 1, 0, []), (0, (false, 0, 0, []), 2, 2, 0, []), (2, (false, 5, 0, []), 0, 0, 0, [(2, 1)]), (2, (false, 7, 0, []), 0, 0, 0, [(3, 1)])], [(41, [(0, [(2, 1)]), (0, [(1, 1)]), (0, [(3, 1)])]), (41, [(0, [(2, 1)]), (0, [(4, 1)]), (0, [(5, 1)])])]), (7, []))] (13, []) 8 10 = true := by decide +kernel
theorem sn_77 {W : Bool} {X : List Int32} : y_Snd (mGw W) mLT (J2 W X) X cx_77 := y_ok J2_J mTS2_ok mTC2_ok mRUp_ok (List.forall_mem_cons.mpr ⟨sn_75, fun _ h => absurd h List.not_mem_nil⟩) ck_77
def cx_78p : zS := ((cx_67pi_0 (cx_67pi_1 [])), (cx_67pr_0 (cx_67pr_1 [])), [uL313], [], [uV2, uV3], (cx_67pf_0 (cx_67pf_1 (cx_67pf_2 []))), [uG315, uG316, uG375, uG318, uG363])
def cx_78q0g_0 (t : List zTg) : List zTg := uG325 :: uG326 :: uG376 :: uG364 :: uG365 :: uG366 :: t
def cx_78q0 : zS := ((cx_67q1i_0 (cx_67q1i_1 (cx_67q1i_2 []))), (cx_67pr_0 (cx_67pr_1 [])), [uL319], [], [], [uF165, uF320, uF321, uF322, uF323, uF305, uF306, uF324], (cx_78q0g_0 []))
/-- Parser.expression -/
def cx_78 : zCtx := (63, cx_78p, [cx_78q0, ([ui0, (0, 0), ui52, ui68, ui69, ui52, ui70, ui302, (0, 5), ui49, (0, 6), ui48, ui68, ui31, (1, 2), ui52], [ur158, ur50, ur53, ur71, ur72, ur73, ur7, ur18, ur19, ur8], [], [], [], [uF330, uF269], [uG331])], kc_3, 65765, 7, 155)
def cz_78_0g_0 (t : List zTg) : List zTg := uG343 :: uG363 :: uG348 :: uG349 :: uG379 :: uG351 :: uG367 :: uG368 :: t
def cz_78_0g_1 (t : List zTg) : List zTg := uG369 :: t
def cz_78_0 : zS := ((cz_70_0i_0 (cz_70_0i_1 (cz_70_0i_2 []))), (cx_67pr_0 (cx_67pr_1 [])), [uL313], [uV2, uV3, uV355, uV113], [], (cz_70_0f_0 (cz_70_0f_1 (cz_70_0f_2 []))), (cz_78_0g_0 (cz_78_0g_1 [])))
def cz_78_1 : zS := ((cz_70_1i_0 (cz_70_1i_1 (cz_70_1i_2 []))), (cx_67pr_0 (cx_67pr_1 [])), [uL313], [uV2, uV3, uV355, uV113], [], (cz_70_1f_0 (cz_70_1f_1 [])), [uG343, uG363, uG357])
set_option maxRecDepth 1000000 in
theorem ck_78 : x_ok mLT [cx_76, cx_35, cx_77, cx_66, cx_69] mTS2 mTC2 mRUp cx_78 [(2, [0]), (71, [1]), (77, [0, 2]), (89, [3, 4])] [(0, [1000550]), (6, uN370), (63, uN371), (75, uN372), (80, [1000556]), (92, uN373), (98, uN374)] [(7, cz_78_0, (16404, [(1, (-100000000000)), (14, (-41))])), (7, cz_78_1, (1204, [(1, (-100000000000)), (14, (-3))]))] (16410, []) 49355 43 = true := by decide +kernel
theorem sn_78 {W : Bool} {X : List Int32} : y_Snd (mGw W) mLT (J2 W X) X cx_78 := y_ok J2_J mTS2_ok mTC2_ok mRUp_ok (List.forall_mem_cons.mpr ⟨sn_76, List.forall_mem_cons.mpr ⟨sn_35, List.forall_mem_cons.mpr ⟨sn_77, List.forall_mem_cons.mpr ⟨sn_66, List.forall_mem_cons.mpr ⟨sn_69, fun _ h => absurd h List.not_mem_nil⟩⟩⟩⟩⟩) ck_78
/-- Parser.expression -/
def cx_79 : zCtx := (63, ([ui0, (1, 2), ui52, ui52], [ur158, ur50, ur53], [], [], [uV2, uV3], [uF181, uF42, uF151, uF303, uF337], [uG338]), [([ui0, (1, 2), ui52, ui52, (1, 2), ui52], [ur158, ur50, ur53], [], [], [], [uF339, uF218], [uG340])], [], 34, 2, 45)
set_option maxRecDepth 1000000 in
theorem ck_79 : x_ok mLT [cx_77] mTS2 mTC2 mRUp cx_79 [(2, [0])] [(0, [1000550]), (6, uN370), (98, uN374)] [(7, ([(0, 3072), (1, 2), (0, 2000), (0, 2000), (1, 2), (0, 2000)], [(4, false), (96, false), (1, false)], [(0, [(3, 1), (5, (-1))]), (0, [(3, (-1)), (5, 1)]), (0, [(1, 1), (4, (-1))]), (0, [(1, (-1)), (4, 1)])], [(2, 0, 0, []), (0, 0, 5, []), (0, 0, 0, []), (5, 0, 0, [])], [], [(0, (false, 2, 0, []), 0, 0, 0, [(4, 1)]), (2, (false, 7, 0, []), 0, 0, 0, [(5, 1)]), (0, (false, 2, 0, []), 0, 0, 0, [(1, 1)]), (0, (false, 1, 0, []), 2, 1, 0, []), (0, (false, 0, 0, []), 2, 2, 0, []), (2, (false, 5, 0, []), 0, 0, 0, [(2, 1)]), (2, (false, 7, 0, []), 0, 0, 0, [(3, 1)])], [(41, [(0, [(2, 1)]), (0, [(1, 1)]), (0, [(3, 1)])]), (41, [(0, [(2, 1)]), (0, [(4, 1)]), (0, [(5, 1)])])]), (7, []))] (13, []) 21 10 = true := by decide +kernel
theorem sn_79 {W : Bool} {X : List Int32} : y_Snd (mGw W) mLT (J2 W X) X cx_79 := y_ok J2_J mTS2_ok mTC2_ok mRUp_ok (List.forall_mem_cons.mpr ⟨sn_77, fun _ h => absurd h List.not_mem_nil⟩) ck_79
def cx_80p : zS := ((cx_67pi_0 (cx_67pi_1 [])), (cx_67pr_0 (cx_67pr_1 [])), [uL313], [], [uV2, uV380], (cx_67pf_0 (cx_67pf_1 (cx_67pf_2 []))), [uG315, uG316, uG381, uG318])
def cx_80q1 : zS := ((cx_67q1i_0 (cx_67q1i_1 (cx_67q1i_2 []))), (cx_67pr_0 (cx_67pr_1 [])), [uL319], [], [], [uF165, uF320, uF321, uF322, uF323, uF305, uF306, uF324], [uG325, uG326, uG382, uG328, uG329])
/-- Parser.unit -/
def cx_80 : zCtx := (65, cx_80p, [([ui0, (0, 0), ui52, ui68, ui69, ui52, ui70, ui302, (0, 5), ui49, (0, 6), ui48, ui68, ui31, (1, 2), ui52], [ur158, ur50, ur53, ur71, ur72, ur73, ur7, ur18, ur19, ur8], [], [], [], [uF330, uF269], [uG331]), cx_80q1], kc_3, 65801, 8, 178)
set_option maxRecDepth 1000000 in
theorem ck_80 : x_ok mLT [cx_35, cx_78, cx_79, cx_36, cx_66] mTS2 mTC2 mRUp cx_80 [(45, [0]), (53, [1, 2]), (59, [0, 3]), (87, [4]), (92, [0]), (126, [4]), (131, [0])] [(42, [1000139]), (49, uN377), (56, [1000141]), (63, uN378), (71, uN332), (90, [1000542]), (96, uN333), (113, uN334), (129, [1000544]), (135, uN335), (143, uN336)] [] (36, []) 65765 39 = true := by decide +kernel
theorem sn_80 {W : Bool} {X : List Int32} : y_Snd (mGw W) mLT (J2 W X) X cx_80 := y_ok J2_J mTS2_ok mTC2_ok mRUp_ok (List.forall_mem_cons.mpr ⟨sn_35, List.forall_mem_cons.mpr ⟨sn_78, List.forall_mem_cons.mpr ⟨sn_79, List.forall_mem_cons.mpr ⟨sn_36, List.forall_mem_cons.mpr ⟨sn_66, fun _ h => absurd h List.not_mem_nil⟩⟩⟩⟩⟩) ck_80
/-- Parser.unit -/
def cx_81 : zCtx := (65, ([ui0, (1, 2), ui52, ui52], [ur158, ur50, ur53], [], [], [uV2, uV380], [uF181, uF42, uF151, uF303, uF337], [uG338]), [([ui0, (1, 2), ui52, ui52, (1, 2), ui52], [ur158, ur50, ur53], [], [], [], [uF339, uF218], [uG340])], [], 8, 0, 0)
set_option maxRecDepth 1000000 in
theorem ck_81 : x_ok mLT [] mTS2 mTC2 mRUp cx_81 [] [] [] (8, []) 0 11 = true := by decide +kernel
theorem sn_81 {W : Bool} {X : List Int32} : y_Snd (mGw W) mLT (J2 W X) X cx_81 := y_ok J2_J mTS2_ok mTC2_ok mRUp_ok (fun _ h => absurd h List.not_mem_nil) ck_81
def cx_82p : zS := ((cx_67pi_0 (cx_67pi_1 [])), (cx_67pr_0 (cx_67pr_1 [])), [uL313], [], [uV2, uV380], (cx_67pf_0 (cx_67pf_1 (cx_67pf_2 []))), [uG315, uG316, uG381, uG318, uG343])
def cx_82q0g_0 (t : List zTg) : List zTg := uG325 :: uG326 :: uG382 :: uG344 :: uG345 :: uG346 :: t
def cx_82q0 : zS := ((cx_67q1i_0 (cx_67q1i_1 (cx_67q1i_2 []))), (cx_67pr_0 (cx_67pr_1 [])), [uL319], [], [], [uF165, uF320, uF321, uF322, uF323, uF305, uF306, uF324], (cx_82q0g_0 []))
/-- Parser.part -/
def cx_82 : zCtx := (64, cx_82p, [cx_82q0, ([ui0, (0, 0), ui52, ui68, ui69, ui52, ui70, ui302, (0, 5), ui49, (0, 6), ui48, ui68, ui31, (1, 2), ui52], [ur158, ur50, ur53, ur71, ur72, ur73, ur7, ur18, ur19, ur8], [], [], [], [uF330, uF269], [uG331])], kc_3, 82211, 9, 200)
def cz_82_0g_0 (t : List zTg) : List zTg := uG343 :: uG348 :: uG349 :: uG383 :: uG351 :: uG353 :: uG354 :: t
def cz_82_0 : zS := ((cz_70_0i_0 (cz_70_0i_1 (cz_70_0i_2 []))), (cx_67pr_0 (cx_67pr_1 [])), [uL313], [uV2, uV380, uV355, uV113], [], (cz_70_0f_0 (cz_70_0f_1 (cz_70_0f_2 []))), (cz_82_0g_0 []))
def cz_82_1 : zS := ((cz_70_1i_0 (cz_70_1i_1 (cz_70_1i_2 []))), (cx_67pr_0 (cx_67pr_1 [])), [uL313], [uV2, uV380, uV355, uV113], [], (cz_70_1f_0 (cz_70_1f_1 [])), [uG343, uG357])
set_option maxRecDepth 1000000 in
theorem ck_82 : x_ok mLT [cx_80, cx_35, cx_81, cx_66, cx_69] mTS2 mTC2 mRUp cx_82 [(2, [0]), (71, [1]), (77, [0, 2]), (89, [3, 4])] [(6, uN358), (63, uN359), (75, uN360), (80, [1000556]), (92, uN361), (98, uN362)] [(7, cz_82_0, (16404, [(1, (-100000000000)), (14, (-41))])), (7, cz_82_1, (1204, [(1, (-100000000000)), (14, (-3))]))] (16410, []) 65801 43 = true := by decide +kernel
theorem sn_82 {W : Bool} {X : List Int32} : y_Snd (mGw W) mLT (J2 W X) X cx_82 := y_ok J2_J mTS2_ok mTC2_ok mRUp_ok (List.forall_mem_cons.mpr ⟨sn_80, List.forall_mem_cons.mpr ⟨sn_35, List.forall_mem_cons.mpr ⟨sn_81, List.forall_mem_cons.mpr ⟨sn_66, List.forall_mem_cons.mpr ⟨sn_69, fun _ h => absurd h List.not_mem_nil⟩⟩⟩⟩⟩) ck_82
end
