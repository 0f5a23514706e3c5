noncomputable section
/-! ===== readings, by program, checked by the kernel ===== -/
def cx_54p : zS := ((cx_39pi_0 (cx_39pi_1 [])), [ur161, ur52, ur55, ur73, ur74, ur75], [], [], [uV2, uV66, uV228], (cx_39pf_0 (cx_39pf_1 [])), [uG196, uG197, (40, [uL100, uL106, uL268, uL65, uL65, uL166, uL173, uL69, uL23, uL198])])
def cx_54q1 : zS := ((cx_39q1i_0 (cx_39q1i_1 (cx_39q1i_2 []))), [ur161, ur52, ur55, ur73, ur74, ur75], [uL200], [], [uV201], [uF169, uF202, uF203, uF204, uF205, uF206, uF207], [uG209, uG213, (40, [uL100, uL208, uL269, uL65, uL65, uL166, uL173, uL215, uL216, uL198]), uG218])
/-- Parser.takeInt -/
def cx_54 : zCtx := (58, cx_54p, [([ui0, (0, 0), (0, 5), ui51, ui54, ui70, ui71, ui54, ui72, (0, 6), ui50, ui70, ui51, (1, 2), ui54], [ur161, ur52, ur55, ur73, ur74, ur75], [], [], [uV201], [uF219, uF204], [uG220]), cx_54q1], [uk134, uk135, uk136, uk137, uk174, uk184, uk185], 78, 2, 42)
set_option maxRecDepth 1000000 in
theorem ck_54 : x_ok mLT [cx_35, cx_38] mTS2 mTC2 mRUp cx_54 [(20, [0]), (40, [1])] [(0, uN221), (43, uN222)] [] (25, []) 53 28 = true := by decide +kernel
theorem sn_54 {W : Bool} {X : List Int32} : y_Snd (mGw W) mLT (J2 W X) X cx_54 := y_ok J2_J mTS2_ok mTC2_ok mRUp_ok (List.forall_mem_cons.mpr ⟨sn_35, List.forall_mem_cons.mpr ⟨sn_38, fun _ h => absurd h List.not_mem_nil⟩⟩) ck_54
def cx_55p : zS := ((cx_39pi_0 (cx_39pi_1 [])), [ur161, ur52, ur55, ur73, ur74, ur75, ur177], [((-258), [(6, 1)]), (258, [(6, (-1))])], [], [uV2, uV66, uV228], (cx_46pf_0 (cx_46pf_1 [])), [uG196, uG197, uG236, uG237])
def cx_55q0i_0 (t : List (Int × Int)) : List (Int × Int) := ui0 :: (0, 0) :: (0, 5) :: ui51 :: ui54 :: ui70 :: ui71 :: ui54 :: t
def cx_55q0i_1 (t : List (Int × Int)) : List (Int × Int) := ui72 :: (0, 6) :: ui50 :: ui70 :: ui199 :: ui70 :: ui71 :: ui54 :: t
def cx_55q0i_2 (t : List (Int × Int)) : List (Int × Int) := ui72 :: (0, 5) :: ui51 :: t
def cx_55q0 : zS := ((cx_55q0i_0 (cx_55q0i_1 (cx_55q0i_2 []))), [ur161, ur52, ur55, ur73, ur74, ur75, ur177], [uL270], [], [uV201], [uF169, uF271, uF272, uF273, uF274, uF275, uF276], [uG277, uG278, uG280, uG281, (86, [uL100, uL210, uL268, uL217])])
/-- Parser.parseNumber -/
def cx_55 : zCtx := (61, cx_55p, [cx_55q0, ([ui0, (0, 0), (0, 5), ui51, ui54, ui70, ui71, ui54, ui72, (0, 6), ui50, ui70, ui51, (1, 2), ui54], [ur161, ur52, ur55, ur73, ur74, ur75, ur177], [], [], [uV201], [uF219, uF204], [uG220])], [uk134, uk135, uk136, uk137, uk174, uk184, uk185], 95, 3, 66)
set_option maxRecDepth 1000000 in
theorem ck_55 : x_ok mLT [cx_35, cx_42, cx_54, cx_36] mTS2 mTC2 mRUp cx_55 [(8, [0]), (15, [1, 2]), (22, [0, 3])] [(0, uN282), (12, uN283), (19, [1000136]), (26, uN284)] [] (17, []) 78 20 = true := by decide +kernel
theorem sn_55 {W : Bool} {X : List Int32} : y_Snd (mGw W) mLT (J2 W X) X cx_55 := y_ok J2_J mTS2_ok mTC2_ok mRUp_ok (List.forall_mem_cons.mpr ⟨sn_35, List.forall_mem_cons.mpr ⟨sn_42, List.forall_mem_cons.mpr ⟨sn_54, List.forall_mem_cons.mpr ⟨sn_36, fun _ h => absurd h List.not_mem_nil⟩⟩⟩⟩) ck_55
def cx_56p : zS := ((cx_39pi_0 (cx_39pi_1 [])), [ur161, ur52, ur55, ur73, ur74, ur75], [], [], [uV2, uV64, uV228], (cx_39pf_0 (cx_39pf_1 [])), [uG196, uG197, (40, [uL100, uL106, uL285, uL65, uL65, uL166, uL173, uL69, uL23, uL198])])
/-- Parser.takeInt -/
def cx_56 : zCtx := (58, cx_56p, [([ui0, (0, 0), (0, 5), ui51, ui54, ui70, ui71, ui54, ui72, (0, 6), ui50, ui70, ui51, (1, 2), ui54], [ur161, ur52, ur55, ur73, ur74, ur75], [], [], [uV201], [uF219, uF204], [uG220]), cx_54q1], [uk134, uk135, uk136, uk137, uk174, uk184, uk185], 78, 2, 42)
set_option maxRecDepth 1000000 in
theorem ck_56 : x_ok mLT [cx_35, cx_38] mTS2 mTC2 mRUp cx_56 [(20, [0]), (40, [1])] [(0, uN221), (43, uN222)] [] (25, []) 53 28 = true := by decide +kernel
theorem sn_56 {W : Bool} {X : List Int32} : y_Snd (mGw W) mLT (J2 W X) X cx_56 := y_ok J2_J mTS2_ok mTC2_ok mRUp_ok (List.forall_mem_cons.mpr ⟨sn_35, List.forall_mem_cons.mpr ⟨sn_38, fun _ h => absurd h List.not_mem_nil⟩⟩) ck_56
/-- Parser.takeInt -/
def cx_57 : zCtx := (58, ([ui0, (1, 2), (0, 5), ui51, ui54, ui54], [ur161, ur52, ur55], [], [], [uV2, uV64, uV228], [uF186, uF187, uF20, uF44, uF153, uF188, uF223], [uG224]), [([ui0, (1, 2), (0, 5), ui51, ui54, ui54, ui51, (1, 2), ui54], [ur161, ur52, ur55], [], [], [uV110], [uF225, uF226], [uG227])], [], 20, 1, 21)
set_option maxRecDepth 1000000 in
theorem ck_57 : x_ok mLT [cx_36] mTS2 mTC2 mRUp cx_57 [(20, [0])] [(0, uN221), (43, uN222)] [] (15, []) 5 18 = true := by decide +kernel
theorem sn_57 {W : Bool} {X : List Int32} : y_Snd (mGw W) mLT (J2 W X) X cx_57 := y_ok J2_J mTS2_ok mTC2_ok mRUp_ok (List.forall_mem_cons.mpr ⟨sn_36, fun _ h => absurd h List.not_mem_nil⟩) ck_57
def cx_58p : zS := ((cx_39pi_0 (cx_39pi_1 [])), [ur161, ur52, ur55, ur73, ur74, ur75, ur177], [((-259), [(6, 1)]), (259, [(6, (-1))])], [], [uV2, uV64, uV228], (cx_46pf_0 (cx_46pf_1 [])), [uG196, uG197, uG236, uG237])
def cx_58q0 : zS := ((cx_55q0i_0 (cx_55q0i_1 (cx_55q0i_2 []))), [ur161, ur52, ur55, ur73, ur74, ur75, ur177], [uL270], [], [uV201], [uF169, uF271, uF272, uF273, uF274, uF275, uF276], [uG277, uG278, uG280, uG281, (86, [uL100, uL210, uL285, uL217])])
/-- Parser.parseNumber -/
def cx_58 : zCtx := (61, cx_58p, [cx_58q0, ([ui0, (0, 0), (0, 5), ui51, ui54, ui70, ui71, ui54, ui72, (0, 6), ui50, ui70, ui51, (1, 2), ui54], [ur161, ur52, ur55, ur73, ur74, ur75, ur177], [], [], [uV201], [uF219, uF204], [uG220])], [uk134, uk135, uk136, uk137, uk174, uk184, uk185], 95, 3, 66)
set_option maxRecDepth 1000000 in
theorem ck_58 : x_ok mLT [cx_35, cx_56, cx_57, cx_36] mTS2 mTC2 mRUp cx_58 [(8, [0]), (15, [1, 2]), (22, [0, 3])] [(0, uN282), (12, uN283), (19, [1000136]), (26, uN284)] [] (17, []) 78 20 = true := by decide +kernel
theorem sn_58 {W : Bool} {X : List Int32} : y_Snd (mGw W) mLT (J2 W X) X cx_58 := y_ok J2_J mTS2_ok mTC2_ok mRUp_ok (List.forall_mem_cons.mpr ⟨sn_35, List.forall_mem_cons.mpr ⟨sn_56, List.forall_mem_cons.mpr ⟨sn_57, List.forall_mem_cons.mpr ⟨sn_36, fun _ h => absurd h List.not_mem_nil⟩⟩⟩⟩) ck_58
def cx_59p : zS := ((cx_39pi_0 (cx_39pi_1 [])), [ur161, ur52, ur55, ur73, ur74, ur75], [], [], [uV2, uV64, uV286], (cx_39pf_0 (cx_39pf_1 [])), [uG196, uG197, (40, [uL100, uL106, uL287, uL65, uL65, uL166, uL173, uL69, uL23, uL198])])
/-- Parser.takeInt -/
def cx_59 : zCtx := (58, cx_59p, [([ui0, (0, 0), (0, 5), ui51, ui54, ui70, ui71, ui54, ui72, (0, 6), ui50, ui70, ui51, (1, 2), ui54], [ur161, ur52, ur55, ur73, ur74, ur75], [], [], [uV201], [uF219, uF204], [uG220]), cx_54q1], [uk134, uk135, uk136, uk137, uk174, uk184, uk185], 78, 2, 42)
set_option maxRecDepth 1000000 in
theorem ck_59 : x_ok mLT [cx_35, cx_38] mTS2 mTC2 mRUp cx_59 [(20, [0]), (40, [1])] [(0, uN221), (43, uN222)] [] (25, []) 53 28 = true := by decide +kernel
theorem sn_59 {W : Bool} {X : List Int32} : y_Snd (mGw W) mLT (J2 W X) X cx_59 := y_ok J2_J mTS2_ok mTC2_ok mRUp_ok (List.forall_mem_cons.mpr ⟨sn_35, List.forall_mem_cons.mpr ⟨sn_38, fun _ h => absurd h List.not_mem_nil⟩⟩) ck_59
/-- Parser.takeInt -/
def cx_60 : zCtx := (58, ([ui0, (1, 2), (0, 5), ui51, ui54, ui54], [ur161, ur52, ur55], [], [], [uV2, uV64, uV286], [uF186, uF187, uF20, uF44, uF153, uF188, uF223], [uG224]), [([ui0, (1, 2), (0, 5), ui51, ui54, ui54, ui51, (1, 2), ui54], [ur161, ur52, ur55], [], [], [uV110], [uF225, uF226], [uG227])], [], 20, 1, 21)
set_option maxRecDepth 1000000 in
theorem ck_60 : x_ok mLT [cx_36] mTS2 mTC2 mRUp cx_60 [(20, [0])] [(0, uN221), (43, uN222)] [] (15, []) 5 18 = true := by decide +kernel
theorem sn_60 {W : Bool} {X : List Int32} : y_Snd (mGw W) mLT (J2 W X) X cx_60 := y_ok J2_J mTS2_ok mTC2_ok mRUp_ok (List.forall_mem_cons.mpr ⟨sn_36, fun _ h => absurd h List.not_mem_nil⟩) ck_60
def cx_61p : zS := ((cx_39pi_0 (cx_39pi_1 [])), [ur161, ur52, ur55, ur73, ur74, ur75, ur177], [((-264), [(6, 1)]), (264, [(6, (-1))])], [], [uV2, uV64, uV286], (cx_46pf_0 (cx_46pf_1 [])), [uG196, uG197, uG236, uG237])
def cx_61q0 : zS := ((cx_55q0i_0 (cx_55q0i_1 (cx_55q0i_2 []))), [ur161, ur52, ur55, ur73, ur74, ur75, ur177], [uL270], [], [uV201], [uF169, uF271, uF272, uF273, uF274, uF275, uF276], [uG277, uG278, uG280, uG281, (86, [uL100, uL210, uL287, uL217])])
/-- Parser.parseNumber -/
def cx_61 : zCtx := (61, cx_61p, [cx_61q0, ([ui0, (0, 0), (0, 5), ui51, ui54, ui70, ui71, ui54, ui72, (0, 6), ui50, ui70, ui51, (1, 2), ui54], [ur161, ur52, ur55, ur73, ur74, ur75, ur177], [], [], [uV201], [uF219, uF204], [uG220])], [uk134, uk135, uk136, uk137, uk174, uk184, uk185], 95, 3, 66)
set_option maxRecDepth 1000000 in
theorem ck_61 : x_ok mLT [cx_35, cx_59, cx_60, cx_36] mTS2 mTC2 mRUp cx_61 [(8, [0]), (15, [1, 2]), (22, [0, 3])] [(0, uN282), (12, uN283), (19, [1000136]), (26, uN284)] [] (17, []) 78 20 = true := by decide +kernel
theorem sn_61 {W : Bool} {X : List Int32} : y_Snd (mGw W) mLT (J2 W X) X cx_61 := y_ok J2_J mTS2_ok mTC2_ok mRUp_ok (List.forall_mem_cons.mpr ⟨sn_35, List.forall_mem_cons.mpr ⟨sn_59, List.forall_mem_cons.mpr ⟨sn_60, List.forall_mem_cons.mpr ⟨sn_36, fun _ h => absurd h List.not_mem_nil⟩⟩⟩⟩) ck_61
def cx_62p : zS := ((cx_39pi_0 (cx_39pi_1 [])), [ur161, ur52, ur55, ur73, ur74, ur75], [], [], [uV2, uV64, uV288], (cx_39pf_0 (cx_39pf_1 [])), [uG196, uG197, (40, [uL100, uL106, uL289, uL65, uL65, uL166, uL173, uL69, uL23, uL198])])
/-- Parser.takeInt -/
def cx_62 : zCtx := (58, cx_62p, [([ui0, (0, 0), (0, 5), ui51, ui54, ui70, ui71, ui54, ui72, (0, 6), ui50, ui70, ui51, (1, 2), ui54], [ur161, ur52, ur55, ur73, ur74, ur75], [], [], [uV201], [uF219, uF204], [uG220]), cx_54q1], [uk134, uk135, uk136, uk137, uk174], 74, 2, 42)
set_option maxRecDepth 1000000 in
theorem ck_62 : x_ok mLT [cx_35] mTS2 mTC2 mRUp cx_62 [(20, [0])] [(0, uN221), (43, uN222)] [] (21, []) 53 24 = true := by decide +kernel
theorem sn_62 {W : Bool} {X : List Int32} : y_Snd (mGw W) mLT (J2 W X) X cx_62 := y_ok J2_J mTS2_ok mTC2_ok mRUp_ok (List.forall_mem_cons.mpr ⟨sn_35, fun _ h => absurd h List.not_mem_nil⟩) ck_62
/-- Parser.takeInt -/
def cx_63 : zCtx := (58, ([ui0, (1, 2), (0, 5), ui51, ui54, ui54], [ur161, ur52, ur55], [], [], [uV2, uV64, uV288], [uF186, uF187, uF20, uF44, uF153, uF188, uF223], [uG224]), [([ui0, (1, 2), (0, 5), ui51, ui54, ui54, ui51, (1, 2), ui54], [ur161, ur52, ur55], [], [], [uV110], [uF225, uF226], [uG227])], [], 20, 1, 21)
set_option maxRecDepth 1000000 in
theorem ck_63 : x_ok mLT [cx_36] mTS2 mTC2 mRUp cx_63 [(20, [0])] [(0, uN221), (43, uN222)] [] (15, []) 5 18 = true := by decide +kernel
theorem sn_63 {W : Bool} {X : List Int32} : y_Snd (mGw W) mLT (J2 W X) X cx_63 := y_ok J2_J mTS2_ok mTC2_ok mRUp_ok (List.forall_mem_cons.mpr ⟨sn_36, fun _ h => absurd h List.not_mem_nil⟩) ck_63
def cx_64p : zS := ((cx_39pi_0 (cx_39pi_1 [])), [ur161, ur52, ur55, ur73, ur74, ur75, ur177], [((-265), [(6, 1)]), (265, [(6, (-1))])], [], [uV2, uV64, uV288], (cx_46pf_0 (cx_46pf_1 [])), [uG196, uG197, uG236, uG237])
def cx_64q0 : zS := ((cx_55q0i_0 (cx_55q0i_1 (cx_55q0i_2 []))), [ur161, ur52, ur55, ur73, ur74, ur75, ur177], [uL270], [], [uV201], [uF169, uF271, uF272, uF273, uF274, uF275, uF276], [uG277, uG278, uG280, uG281, (86, [uL100, uL210, uL289, uL217])])
/-- Parser.parseNumber -/
def cx_64 : zCtx := (61, cx_64p, [cx_64q0, ([ui0, (0, 0), (0, 5), ui51, ui54, ui70, ui71, ui54, ui72, (0, 6), ui50, ui70, ui51, (1, 2), ui54], [ur161, ur52, ur55, ur73, ur74, ur75, ur177], [], [], [uV201], [uF219, uF204], [uG220])], [uk134, uk135, uk136, uk137, uk174], 91, 3, 66)
set_option maxRecDepth 1000000 in
theorem ck_64 : x_ok mLT [cx_35, cx_62, cx_63, cx_36] mTS2 mTC2 mRUp cx_64 [(8, [0]), (15, [1, 2]), (22, [0, 3])] [(0, uN282), (12, uN283), (19, [1000136]), (26, uN284)] [] (17, []) 74 20 = true := by decide +kernel
theorem sn_64 {W : Bool} {X : List Int32} : y_Snd (mGw W) mLT (J2 W X) X cx_64 := y_ok J2_J mTS2_ok mTC2_ok mRUp_ok (List.forall_mem_cons.mpr ⟨sn_35, List.forall_mem_cons.mpr ⟨sn_62, List.forall_mem_cons.mpr ⟨sn_63, List.forall_mem_cons.mpr ⟨sn_36, fun _ h => absurd h List.not_mem_nil⟩⟩⟩⟩) ck_64
def cx_65pi_0 (t : List (Int × Int)) : List (Int × Int) := ui0 :: ui290 :: (0, 0) :: ui54 :: ui70 :: ui54 :: ui72 :: (0, 5) :: t
def cx_65pi_1 (t : List (Int × Int)) : List (Int × Int) := ui51 :: (0, 6) :: ui50 :: ui70 :: ui31 :: t
def cx_65pr_0 (t : List (Nat × Bool)) : List (Nat × Bool) := ur161 :: ur52 :: ur55 :: ur73 :: ur74 :: ur75 :: ur177 :: ur7 :: t
def cx_65pr_1 (t : List (Nat × Bool)) : List (Nat × Bool) := ur18 :: ur19 :: ur8 :: t
def cx_65pf_0 (t : List zFa) : List zFa := uF152 :: uF44 :: uF153 :: uF154 :: uF155 :: (2, (false, 6, 0, []), 0, 0, 260, [(1, 1)]) :: uF223 :: uF291 :: t
def cx_65pf_1 (t : List zFa) : List zFa := uF158 :: uF159 :: uF160 :: uF292 :: uF293 :: uF193 :: uF194 :: uF233 :: t
def cx_65pf_2 (t : List zFa) : List zFa := uF294 :: uF295 :: uF296 :: uF297 :: (7, (false, 4, 0, []), 0, 0, 0, [(12, 1)]) :: t
def cx_65p : zS := ((cx_65pi_0 (cx_65pi_1 [])), (cx_65pr_0 (cx_65pr_1 [])), [], [], [uV2, uV11], (cx_65pf_0 (cx_65pf_1 (cx_65pf_2 []))), [uG163, uG298, uG299, uG300, uG301])
/-- Parser.parseLaw -/
def cx_65 : zCtx := (62, cx_65p, [([ui0, ui290, (0, 0), ui54, ui70, ui54, ui72, (0, 5), ui51, (0, 6), ui50, ui70, ui31, (1, 2), ui54], [ur161, ur52, ur55, ur73, ur74, ur75, ur177, ur7, ur18, ur19, ur8], [], [], [], [uF219, uF204], [uG302])], [uk174], 6, 0, 0)
set_option maxRecDepth 1000000 in
theorem ck_65 : x_ok mLT [] mTS2 mTC2 mRUp cx_65 [] [(14, uN303)] [] (6, []) 0 9 = true := by decide +kernel
theorem sn_65 {W : Bool} {X : List Int32} : y_Snd (mGw W) mLT (J2 W X) X cx_65 := y_ok J2_J mTS2_ok mTC2_ok mRUp_ok (fun _ h => absurd h List.not_mem_nil) ck_65
/-- Laws.emit -/
def cx_66 : zCtx := (49, ([ui0, (0, 7), ui199, ui304, ui54, ui70, (0, 5)], [ur7, ur18, ur19], [], [], [uV2, uV11, uV12], [uF20, uF21, uF22], [uG305]), [([ui0, (0, 7), ui199, ui304, ui54, ui70, (0, 5)], [ur7, ur18, ur19], [], [], [], [uF25, uF26, uF27], [uG305])], [uk28, uk29, uk30], 26, 0, 0)
set_option maxRecDepth 1000000 in
theorem ck_66 : x_ok mLT [] mTS2 mTC2 mRUp cx_66 [] [] [] (26, []) 0 29 = true := by decide +kernel
theorem sn_66 {W : Bool} {X : List Int32} : y_Snd (mGw W) mLT (J2 W X) X cx_66 := y_ok J2_J mTS2_ok mTC2_ok mRUp_ok (fun _ h => absurd h List.not_mem_nil) ck_66
def cx_67pi_0 (t : List (Int × Int)) : List (Int × Int) := ui0 :: (0, 0) :: ui54 :: ui70 :: ui71 :: ui54 :: ui72 :: ui306 :: t
def cx_67pi_1 (t : List (Int × Int)) : List (Int × Int) := (0, 5) :: ui51 :: (0, 6) :: ui50 :: ui70 :: ui31 :: t
def cx_67pr_0 (t : List (Nat × Bool)) : List (Nat × Bool) := ur161 :: ur52 :: ur55 :: ur73 :: ur74 :: ur75 :: ur7 :: ur18 :: t
def cx_67pr_1 (t : List (Nat × Bool)) : List (Nat × Bool) := ur19 :: ur8 :: t
def cx_67pf_0 (t : List zFa) : List zFa := uF186 :: uF44 :: uF153 :: uF307 :: (2, (false, 4, 0, []), 0, 0, 0, [(3, 1)]) :: (2, (false, 6, 0, []), 0, 0, 0, [(4, 1)]) :: uF223 :: uF291 :: t
def cx_67pf_1 (t : List zFa) : List zFa := uF158 :: uF159 :: uF160 :: uF308 :: uF309 :: uF310 :: uF311 :: uF312 :: t
def cx_67pf_2 (t : List zFa) : List zFa := uF313 :: uF314 :: uF315 :: (6, (false, 4, 0, []), 0, 0, 0, [(13, 1)]) :: t
def cx_67p : zS := ((cx_67pi_0 (cx_67pi_1 [])), (cx_67pr_0 (cx_67pr_1 [])), [uL316], [], [uV2, uV317], (cx_67pf_0 (cx_67pf_1 (cx_67pf_2 []))), [uG318, uG319, uG320, uG321])
def cx_67q1i_0 (t : List (Int × Int)) : List (Int × Int) := ui0 :: (0, 0) :: ui54 :: ui70 :: ui71 :: ui54 :: ui72 :: ui306 :: t
def cx_67q1i_1 (t : List (Int × Int)) : List (Int × Int) := (0, 5) :: ui51 :: (0, 6) :: ui50 :: ui70 :: ui31 :: ui70 :: ui71 :: t
def cx_67q1i_2 (t : List (Int × Int)) : List (Int × Int) := ui54 :: ui72 :: ui31 :: t
def cx_67q1 : zS := ((cx_67q1i_0 (cx_67q1i_1 (cx_67q1i_2 []))), (cx_67pr_0 (cx_67pr_1 [])), [uL322], [], [], [uF169, uF323, uF324, uF325, uF326, uF308, uF309, uF327], [uG328, uG329, uG330, uG331, uG332])
/-- Parser.unit -/
def cx_67 : zCtx := (65, cx_67p, [([ui0, (0, 0), ui54, ui70, ui71, ui54, ui72, ui306, (0, 5), ui51, (0, 6), ui50, ui70, ui31, (1, 2), ui54], [ur161, ur52, ur55, ur73, ur74, ur75, ur7, ur18, ur19, ur8], [], [], [], [uF333, uF273], [uG334]), cx_67q1], kc_3, 89, 2, 42)
set_option maxRecDepth 1000000 in
theorem ck_67 : x_ok mLT [cx_66, cx_35] mTS2 mTC2 mRUp cx_67 [(87, [0]), (92, [1]), (126, [0]), (131, [1])] [(33, [1000138]), (71, uN335), (90, [1000542]), (96, uN336), (113, uN337), (129, [1000544]), (135, uN338), (143, uN339)] [] (36, []) 53 39 = true := by decide +kernel
theorem sn_67 {W : Bool} {X : List Int32} : y_Snd (mGw W) mLT (J2 W X) X cx_67 := y_ok J2_J mTS2_ok mTC2_ok mRUp_ok (List.forall_mem_cons.mpr ⟨sn_66, List.forall_mem_cons.mpr ⟨sn_35, fun _ h => absurd h List.not_mem_nil⟩⟩) ck_67
/-- Parser.unit -/
def cx_68 : zCtx := (65, ([ui0, (1, 2), ui54, ui54], [ur161, ur52, ur55], [], [], [uV2, uV317], [uF186, uF44, uF153, uF307, uF340], [uG341]), [([ui0, (1, 2), ui54, ui54, (1, 2), ui54], [ur161, ur52, ur55], [], [], [], [uF342, uF223], [uG343])], [], 8, 0, 0)
set_option maxRecDepth 1000000 in
theorem ck_68 : x_ok mLT [] mTS2 mTC2 mRUp cx_68 [] [] [] (8, []) 0 11 = true := by decide +kernel
theorem sn_68 {W : Bool} {X : List Int32} : y_Snd (mGw W) mLT (J2 W X) X cx_68 := y_ok J2_J mTS2_ok mTC2_ok mRUp_ok (fun _ h => absurd h List.not_mem_nil) ck_68
/-- Laws.emit -/
def cx_69 : zCtx := (49, ([ui0, (2, 7), (0, 0), ui31], [ur7], [], [], [uV2, uV11, uV12], [uF20], []), [([ui0, (2, 7), (0, 0), ui344], [ur7], [], [], [], [uF27], []), ([ui0, (2, 7), (0, 0), ui345], [ur7], [], [], [], [uF20], [])], [uk28, uk29, uk30], 26, 0, 0)
set_option maxRecDepth 1000000 in
theorem ck_69 : x_ok mLT [] mTS2 mTC2 mRUp cx_69 [] [] [] (26, []) 0 29 = true := by decide +kernel
theorem sn_69 {W : Bool} {X : List Int32} : y_Snd (mGw W) mLT (J2 W X) X cx_69 := y_ok J2_J mTS2_ok mTC2_ok mRUp_ok (fun _ h => absurd h List.not_mem_nil) ck_69
def cx_70p : zS := ((cx_67pi_0 (cx_67pi_1 [])), (cx_67pr_0 (cx_67pr_1 [])), [uL316], [], [uV2, uV317], (cx_67pf_0 (cx_67pf_1 (cx_67pf_2 []))), [uG318, uG319, uG320, uG321, uG346])
def cx_70q0g_0 (t : List zTg) : List zTg := uG328 :: uG329 :: uG330 :: uG347 :: uG348 :: uG349 :: t
def cx_70q0 : zS := ((cx_67q1i_0 (cx_67q1i_1 (cx_67q1i_2 []))), (cx_67pr_0 (cx_67pr_1 [])), [uL322], [], [], [uF169, uF323, uF324, uF325, uF326, uF308, uF309, uF327], (cx_70q0g_0 []))
/-- Parser.part -/
def cx_70 : zCtx := (64, cx_70p, [cx_70q0, ([ui0, (0, 0), ui54, ui70, ui71, ui54, ui72, ui306, (0, 5), ui51, (0, 6), ui50, ui70, ui31, (1, 2), ui54], [ur161, ur52, ur55, ur73, ur74, ur75, ur7, ur18, ur19, ur8], [], [], [], [uF333, uF273], [uG334])], kc_3, 16499, 3, 64)
def cz_70_0i_0 (t : List (Int × Int)) : List (Int × Int) := ui0 :: (0, 0) :: ui54 :: ui149 :: ui71 :: ui54 :: ui72 :: ui306 :: t
def cz_70_0i_1 (t : List (Int × Int)) : List (Int × Int) := (0, 5) :: ui51 :: (0, 6) :: ui50 :: ui70 :: ui31 :: ui70 :: ui350 :: t
def cz_70_0i_2 (t : List (Int × Int)) : List (Int × Int) := ui71 :: ui54 :: ui72 :: ui31 :: t
def cz_70_0f_0 (t : List zFa) : List zFa := uF169 :: (2, (false, 4, 0, []), 0, 0, 0, [(15, 1)]) :: (2, (false, 6, 0, []), 0, 0, 0, [(16, 1)]) :: (2, (false, 7, 0, []), 0, 0, 0, [(17, 1)]) :: (2, (false, 8, 0, []), 1, 0, 0, [(18, 1)]) :: uF308 :: uF309 :: (6, (false, 4, 0, []), 0, 0, 0, [(19, 1)]) :: t
def cz_70_0f_1 (t : List zFa) : List zFa := uF44 :: uF153 :: uF307 :: uF158 :: uF159 :: uF160 :: uF308 :: uF309 :: t
def cz_70_0f_2 (t : List zFa) : List zFa := uF310 :: uF311 :: uF312 :: uF313 :: uF314 :: uF315 :: t
def cz_70_0g_0 (t : List zTg) : List zTg := uG346 :: uG351 :: uG352 :: uG353 :: uG354 :: uG356 :: uG357 :: t
def cz_70_0 : zS := ((cz_70_0i_0 (cz_70_0i_1 (cz_70_0i_2 []))), (cx_67pr_0 (cx_67pr_1 [])), [uL316], [uV2, uV317, uV358, uV115], [], (cz_70_0f_0 (cz_70_0f_1 (cz_70_0f_2 []))), (cz_70_0g_0 []))
def cz_70_1i_0 (t : List (Int × Int)) : List (Int × Int) := ui0 :: (0, 0) :: ui54 :: ui70 :: ui71 :: ui54 :: ui72 :: ui306 :: t
def cz_70_1i_1 (t : List (Int × Int)) : List (Int × Int) := (0, 5) :: ui51 :: (0, 6) :: ui50 :: ui70 :: ui31 :: ui70 :: (1, 2) :: t
def cz_70_1i_2 (t : List (Int × Int)) : List (Int × Int) := ui54 :: t
def cz_70_1f_0 (t : List zFa) : List zFa := uF359 :: uF325 :: uF44 :: uF153 :: uF307 :: uF158 :: uF159 :: uF160 :: t
def cz_70_1f_1 (t : List zFa) : List zFa := uF308 :: uF309 :: uF310 :: uF311 :: uF312 :: uF313 :: uF314 :: uF315 :: t
def cz_70_1 : zS := ((cz_70_1i_0 (cz_70_1i_1 (cz_70_1i_2 []))), (cx_67pr_0 (cx_67pr_1 [])), [uL316], [uV2, uV317, uV358, uV115], [], (cz_70_1f_0 (cz_70_1f_1 [])), [uG346, uG360])
set_option maxRecDepth 1000000 in
theorem ck_70 : x_ok mLT [cx_67, cx_35, cx_68, cx_66, cx_69] mTS2 mTC2 mRUp cx_70 [(2, [0]), (71, [1]), (77, [0, 2]), (89, [3, 4])] [(6, uN361), (63, uN362), (75, uN363), (80, [1000556]), (92, uN364), (98, uN365)] [(7, cz_70_0, (16404, [(1, (-100000000000)), (14, (-41))])), (7, cz_70_1, (1204, [(1, (-100000000000)), (14, (-3))]))] (16410, []) 89 43 = true := by decide +kernel
theorem sn_70 {W : Bool} {X : List Int32} : y_Snd (mGw W) mLT (J2 W X) X cx_70 := y_ok J2_J mTS2_ok mTC2_ok mRUp_ok (List.forall_mem_cons.mpr ⟨sn_67, List.forall_mem_cons.mpr ⟨sn_35, List.forall_mem_cons.mpr ⟨sn_68, List.forall_mem_cons.mpr ⟨sn_66, List.forall_mem_cons.mpr ⟨sn_69, fun _ h => absurd h List.not_mem_nil⟩⟩⟩⟩⟩) ck_70
/-- Parser.part -/
def cx_71 : zCtx := (64, ([ui0, (1, 2), ui54, ui54], [ur161, ur52, ur55], [], [], [uV2, uV317], [uF186, uF44, uF153, uF307, uF340], [uG341]), [([ui0, (1, 2), ui54, ui54, (1, 2), ui54], [ur161, ur52, ur55], [], [], [], [uF342, uF223], [uG343])], [], 21, 1, 22)
set_option maxRecDepth 1000000 in
theorem ck_71 : x_ok mLT [cx_68] mTS2 mTC2 mRUp cx_71 [(2, [0])] [(6, uN361), (98, uN365)] [(7, ([(0, 3072), (1, 2), (0, 2000), (0, 2000), (1, 2), (0, 2000)], [(4, false), (96, false), (1, false)], [(0, [(3, 1), (5, (-1))]), (0, [(3, (-1)), (5, 1)]), (0, [(1, 1), (4, (-1))]), (0, [(1, (-1)), (4, 1)])], [(2, 0, 0, []), (0, 0, 6, []), (0, 0, 0, []), (5, 0, 0, [])], [], [(0, (false, 2, 0, []), 0, 0, 0, [(4, 1)]), (2, (false, 7, 0, []), 0, 0, 0, [(5, 1)]), (0, (false, 2, 0, []), 0, 0, 0, [(1, 1)]), (0, (false, 1, 0, []), 2, 1, 0, []), (0, (false, 0, 0, []), 2, 2, 0, []), (2, (false, 5, 0, []), 0, 0, 0, [(2, 1)]), (2, (false, 7, 0, []), 0, 0, 0, [(3, 1)])], [(41, [(0, [(2, 1)]), (0, [(1, 1)]), (0, [(3, 1)])]), (41, [(0, [(2, 1)]), (0, [(4, 1)]), (0, [(5, 1)])])]), (7, []))] (13, []) 8 10 = true := by decide +kernel
theorem sn_71 {W : Bool} {X : List Int32} : y_Snd (mGw W) mLT (J2 W X) X cx_71 := y_ok J2_J mTS2_ok mTC2_ok mRUp_ok (List.forall_mem_cons.mpr ⟨sn_68, fun _ h => absurd h List.not_mem_nil⟩) ck_71
def cx_72p : zS := ((cx_67pi_0 (cx_67pi_1 [])), (cx_67pr_0 (cx_67pr_1 [])), [uL316], [], [uV2, uV317], (cx_67pf_0 (cx_67pf_1 (cx_67pf_2 []))), [uG318, uG319, uG320, uG321, uG366])
def cx_72q1g_0 (t : List zTg) : List zTg := uG328 :: uG329 :: uG330 :: uG367 :: uG368 :: uG369 :: t
def cx_72q1 : zS := ((cx_67q1i_0 (cx_67q1i_1 (cx_67q1i_2 []))), (cx_67pr_0 (cx_67pr_1 [])), [uL322], [], [], [uF169, uF323, uF324, uF325, uF326, uF308, uF309, uF327], (cx_72q1g_0 []))
/-- Parser.expression -/
def cx_72 : zCtx := (63, cx_72p, [([ui0, (0, 0), ui54, ui70, ui71, ui54, ui72, ui306, (0, 5), ui51, (0, 6), ui50, ui70, ui31, (1, 2), ui54], [ur161, ur52, ur55, ur73, ur74, ur75, ur7, ur18, ur19, ur8], [], [], [], [uF333, uF273], [uG334]), cx_72q1], kc_3, 32909, 4, 87)
def cz_72_0 : zS := ((cz_70_1i_0 (cz_70_1i_1 (cz_70_1i_2 []))), (cx_67pr_0 (cx_67pr_1 [])), [uL316], [uV2, uV317, uV358, uV115], [], (cz_70_1f_0 (cz_70_1f_1 [])), [uG346, uG366, uG360])
def cz_72_1g_0 (t : List zTg) : List zTg := uG346 :: uG366 :: uG351 :: uG352 :: uG353 :: uG354 :: uG370 :: uG371 :: t
def cz_72_1g_1 (t : List zTg) : List zTg := uG372 :: t
def cz_72_1 : zS := ((cz_70_0i_0 (cz_70_0i_1 (cz_70_0i_2 []))), (cx_67pr_0 (cx_67pr_1 [])), [uL316], [uV2, uV317, uV358, uV115], [], (cz_70_0f_0 (cz_70_0f_1 (cz_70_0f_2 []))), (cz_72_1g_0 (cz_72_1g_1 [])))
set_option maxRecDepth 1000000 in
theorem ck_72 : x_ok mLT [cx_70, cx_35, cx_71, cx_66, cx_69] mTS2 mTC2 mRUp cx_72 [(2, [0]), (71, [1]), (77, [0, 2]), (89, [3, 4])] [(0, [1000550]), (6, uN373), (63, uN374), (75, uN375), (80, [1000556]), (92, uN376), (98, uN377)] [(7, cz_72_0, (1204, [(1, (-100000000000)), (14, (-3))])), (7, cz_72_1, (16404, [(1, (-100000000000)), (14, (-41))]))] (16410, []) 16499 43 = true := by decide +kernel
theorem sn_72 {W : Bool} {X : List Int32} : y_Snd (mGw W) mLT (J2 W X) X cx_72 := y_ok J2_J mTS2_ok mTC2_ok mRUp_ok (List.forall_mem_cons.mpr ⟨sn_70, List.forall_mem_cons.mpr ⟨sn_35, List.forall_mem_cons.mpr ⟨sn_71, List.forall_mem_cons.mpr ⟨sn_66, List.forall_mem_cons.mpr ⟨sn_69, fun _ h => absurd h List.not_mem_nil⟩⟩⟩⟩⟩) ck_72
/-- Parser.expression -/
def cx_73 : zCtx := (63, ([ui0, (1, 2), ui54, ui54], [ur161, ur52, ur55], [], [], [uV2, uV317], [uF186, uF44, uF153, uF307, uF340], [uG341]), [([ui0, (1, 2), ui54, ui54, (1, 2), ui54], [ur161, ur52, ur55], [], [], [], [uF342, uF223], [uG343])], [], 34, 2, 45)
set_option maxRecDepth 1000000 in
theorem ck_73 : x_ok mLT [cx_71] mTS2 mTC2 mRUp cx_73 [(2, [0])] [(0, [1000550]), (6, uN373), (98, uN377)] [(7, ([(0, 3072), (1, 2), (0, 2000), (0, 2000), (1, 2), (0, 2000)], [(4, false), (96, false), (1, false)], [(0, [(3, 1), (5, (-1))]), (0, [(3, (-1)), (5, 1)]), (0, [(1, 1), (4, (-1))]), (0, [(1, (-1)), (4, 1)])], [(2, 0, 0, []), (0, 0, 6, []), (0, 0, 0, []), (5, 0, 0, [])], [], [(0, (false, 2, 0, []), 0, 0, 0, [(4, 1)]), (2, (false, 7, 0, []), 0, 0, 0, [(5, 1)]), (0, (false, 2, 0, []), 0, 0, 0, [(1, 1)]), (0, (false, 1, 0, []), 2, 1, 0, []), (0, (false, 0, 0, []), 2, 2, 0, []), (2, (false, 5, 0, []), 0, 0, 0, [(2, 1)]), (2, (false, 7, 0, []), 0, 0, 0, [(3, 1)])], [(41, [(0, [(2, 1)]), (0, [(1, 1)]), (0, [(3, 1)])]), (41, [(0, [(2, 1)]), (0, [(4, 1)]), (0, [(5, 1)])])]), (7, []))] (13, []) 21 10 = true := by decide +kernel
theorem sn_73 {W : Bool} {X : List Int32} : y_Snd (mGw W) mLT (J2 W X) X cx_73 := y_ok J2_J mTS2_ok mTC2_ok mRUp_ok (List.forall_mem_cons.mpr ⟨sn_71, fun _ h => absurd h List.not_mem_nil⟩) ck_73
def cx_74p : zS := ((cx_67pi_0 (cx_67pi_1 [])), (cx_67pr_0 (cx_67pr_1 [])), [uL316], [], [uV2, uV3], (cx_67pf_0 (cx_67pf_1 (cx_67pf_2 []))), [uG318, uG319, uG378, uG321])
def cx_74q0 : zS := ((cx_67q1i_0 (cx_67q1i_1 (cx_67q1i_2 []))), (cx_67pr_0 (cx_67pr_1 [])), [uL322], [], [], [uF169, uF323, uF324, uF325, uF326, uF308, uF309, uF327], [uG328, uG329, uG379, uG331, uG332])
/-- Parser.unit -/
def cx_74 : zCtx := (65, cx_74p, [cx_74q0, ([ui0, (0, 0), ui54, ui70, ui71, ui54, ui72, ui306, (0, 5), ui51, (0, 6), ui50, ui70, ui31, (1, 2), ui54], [ur161, ur52, ur55, ur73, ur74, ur75, ur7, ur18, ur19, ur8], [], [], [], [uF333, uF273], [uG334])], kc_3, 32945, 5, 110)
set_option maxRecDepth 1000000 in
theorem ck_74 : x_ok mLT [cx_35, cx_72, cx_73, cx_36, cx_66] mTS2 mTC2 mRUp cx_74 [(45, [0]), (53, [1, 2]), (59, [0, 3]), (87, [4]), (92, [0]), (126, [4]), (131, [0])] [(42, [1000139]), (49, uN380), (56, [1000141]), (63, uN381), (71, uN335), (90, [1000542]), (96, uN336), (113, uN337), (129, [1000544]), (135, uN338), (143, uN339)] [] (36, []) 32909 39 = true := by decide +kernel
theorem sn_74 {W : Bool} {X : List Int32} : y_Snd (mGw W) mLT (J2 W X) X cx_74 := y_ok J2_J mTS2_ok mTC2_ok mRUp_ok (List.forall_mem_cons.mpr ⟨sn_35, List.forall_mem_cons.mpr ⟨sn_72, List.forall_mem_cons.mpr ⟨sn_73, List.forall_mem_cons.mpr ⟨sn_36, List.forall_mem_cons.mpr ⟨sn_66, fun _ h => absurd h List.not_mem_nil⟩⟩⟩⟩⟩) ck_74
/-- Parser.unit -/
def cx_75 : zCtx := (65, ([ui0, (1, 2), ui54, ui54], [ur161, ur52, ur55], [], [], [uV2, uV3], [uF186, uF44, uF153, uF307, uF340], [uG341]), [([ui0, (1, 2), ui54, ui54, (1, 2), ui54], [ur161, ur52, ur55], [], [], [], [uF342, uF223], [uG343])], [], 8, 0, 0)
set_option maxRecDepth 1000000 in
theorem ck_75 : x_ok mLT [] mTS2 mTC2 mRUp cx_75 [] [] [] (8, []) 0 11 = true := by decide +kernel
theorem sn_75 {W : Bool} {X : List Int32} : y_Snd (mGw W) mLT (J2 W X) X cx_75 := y_ok J2_J mTS2_ok mTC2_ok mRUp_ok (fun _ h => absurd h List.not_mem_nil) ck_75
def cx_76p : zS := ((cx_67pi_0 (cx_67pi_1 [])), (cx_67pr_0 (cx_67pr_1 [])), [uL316], [], [uV2, uV3], (cx_67pf_0 (cx_67pf_1 (cx_67pf_2 []))), [uG318, uG319, uG378, uG321, uG346])
def cx_76q1g_0 (t : List zTg) : List zTg := uG328 :: uG329 :: uG379 :: uG347 :: uG348 :: uG349 :: t
def cx_76q1 : zS := ((cx_67q1i_0 (cx_67q1i_1 (cx_67q1i_2 []))), (cx_67pr_0 (cx_67pr_1 [])), [uL322], [], [], [uF169, uF323, uF324, uF325, uF326, uF308, uF309, uF327], (cx_76q1g_0 []))
/-- Parser.part -/
def cx_76 : zCtx := (64, cx_76p, [([ui0, (0, 0), ui54, ui70, ui71, ui54, ui72, ui306, (0, 5), ui51, (0, 6), ui50, ui70, ui31, (1, 2), ui54], [ur161, ur52, ur55, ur73, ur74, ur75, ur7, ur18, ur19, ur8], [], [], [], [uF333, uF273], [uG334]), cx_76q1], kc_3, 49355, 6, 132)
def cz_76_0 : zS := ((cz_70_1i_0 (cz_70_1i_1 (cz_70_1i_2 []))), (cx_67pr_0 (cx_67pr_1 [])), [uL316], [uV2, uV3, uV358, uV115], [], (cz_70_1f_0 (cz_70_1f_1 [])), [uG346, uG360])
def cz_76_1g_0 (t : List zTg) : List zTg := uG346 :: uG351 :: uG352 :: uG382 :: uG354 :: uG356 :: uG357 :: t
def cz_76_1 : zS := ((cz_70_0i_0 (cz_70_0i_1 (cz_70_0i_2 []))), (cx_67pr_0 (cx_67pr_1 [])), [uL316], [uV2, uV3, uV358, uV115], [], (cz_70_0f_0 (cz_70_0f_1 (cz_70_0f_2 []))), (cz_76_1g_0 []))
set_option maxRecDepth 1000000 in
theorem ck_76 : x_ok mLT [cx_74, cx_35, cx_75, cx_66, cx_69] mTS2 mTC2 mRUp cx_76 [(2, [0]), (71, [1]), (77, [0, 2]), (89, [3, 4])] [(6, uN361), (63, uN362), (75, uN363), (80, [1000556]), (92, uN364), (98, uN365)] [(7, cz_76_0, (1204, [(1, (-100000000000)), (14, (-3))])), (7, cz_76_1, (16404, [(1, (-100000000000)), (14, (-41))]))] (16410, []) 32945 43 = true := by decide +kernel
theorem sn_76 {W : Bool} {X : List Int32} : y_Snd (mGw W) mLT (J2 W X) X cx_76 := y_ok J2_J mTS2_ok mTC2_ok mRUp_ok (List.forall_mem_cons.mpr ⟨sn_74, List.forall_mem_cons.mpr ⟨sn_35, List.forall_mem_cons.mpr ⟨sn_75, List.forall_mem_cons.mpr ⟨sn_66, List.forall_mem_cons.mpr ⟨sn_69, fun _ h => absurd h List.not_mem_nil⟩⟩⟩⟩⟩) ck_76
/-- Parser.part -/
def cx_77 : zCtx := (64, ([ui0, (1, 2), ui54, ui54], [ur161, ur52, ur55], [], [], [uV2, uV3], [uF186, uF44, uF153, uF307, uF340], [uG341]), [([ui0, (1, 2), ui54, ui54, (1, 2), ui54], [ur161, ur52, ur55], [], [], [], [uF342, uF223], [uG343])], [], 21, 1, 22)
set_option maxRecDepth 1000000 in
theorem ck_77 : x_ok mLT [cx_75] mTS2 mTC2 mRUp cx_77 [(2, [0])] [(6, uN361), (98, uN365)] [(7, ([(0, 3072), (1, 2), (0, 2000), (0, 2000), (1, 2), (0, 2000)], [(4, false), (96, false), (1, false)], [(0, [(3, 1), (5, (-1))]), (0, [(3, (-1)), (5, 1)]), (0, [(1, 1), (4, (-1))]), (0, [(1, (-1)), (4, 1)])], [(2, 0, 0, []), (0, 0, 5, []), (0, 0, 0, []), (5, 0, 0, [])], [], [(0, (false, 2, 0, []), 0, 0, 0, [(4, 1)]), (2, (false, 7, 0, []), 0, 0, 0, [(5, 1)]), (0, (false, 2, 0, []), 0, 0, 0, [(1, 1)]), (0, (false, 1, 0, []), 2, 1, 0, []), (0, (false, 0, 0, []), 2, 2, 0, []), (2, (false, 5, 0, []), 0, 0, 0, [(2, 1)]), (2, (false, 7, 0, []), 0, 0, 0, [(3, 1)])], [(41, [(0, [(2, 1)]), (0, [(1, 1)]), (0, [(3, 1)])]), (41, [(0, [(2, 1)]), (0, [(4, 1)]), (0, [(5, 1)])])]), (7, []))] (13, []) 8 10 = true := by decide +kernel
theorem sn_77 {W : Bool} {X : List Int32} : y_Snd (mGw W) mLT (J2 W X) X cx_77 := y_ok J2_J mTS2_ok mTC2_ok mRUp_ok (List.forall_mem_cons.mpr ⟨sn_75, fun _ h => absurd h List.not_mem_nil⟩) ck_77
def cx_78p : zS := ((cx_67pi_0 (cx_67pi_1 [])), (cx_67pr_0 (cx_67pr_1 [])), [uL316], [], [uV2, uV3], (cx_67pf_0 (cx_67pf_1 (cx_67pf_2 []))), [uG318, uG319, uG378, uG321, uG366])
def cx_78q0g_0 (t : List zTg) : List zTg := uG328 :: uG329 :: uG379 :: uG367 :: uG368 :: uG369 :: t
def cx_78q0 : zS := ((cx_67q1i_0 (cx_67q1i_1 (cx_67q1i_2 []))), (cx_67pr_0 (cx_67pr_1 [])), [uL322], [], [], [uF169, uF323, uF324, uF325, uF326, uF308, uF309, uF327], (cx_78q0g_0 []))
/-- Parser.expression -/
def cx_78 : zCtx := (63, cx_78p, [cx_78q0, ([ui0, (0, 0), ui54, ui70, ui71, ui54, ui72, ui306, (0, 5), ui51, (0, 6), ui50, ui70, ui31, (1, 2), ui54], [ur161, ur52, ur55, ur73, ur74, ur75, ur7, ur18, ur19, ur8], [], [], [], [uF333, uF273], [uG334])], kc_3, 65765, 7, 155)
def cz_78_0g_0 (t : List zTg) : List zTg := uG346 :: uG366 :: uG351 :: uG352 :: uG382 :: uG354 :: uG370 :: uG371 :: t
def cz_78_0g_1 (t : List zTg) : List zTg := uG372 :: t
def cz_78_0 : zS := ((cz_70_0i_0 (cz_70_0i_1 (cz_70_0i_2 []))), (cx_67pr_0 (cx_67pr_1 [])), [uL316], [uV2, uV3, uV358, uV115], [], (cz_70_0f_0 (cz_70_0f_1 (cz_70_0f_2 []))), (cz_78_0g_0 (cz_78_0g_1 [])))
def cz_78_1 : zS := ((cz_70_1i_0 (cz_70_1i_1 (cz_70_1i_2 []))), (cx_67pr_0 (cx_67pr_1 [])), [uL316], [uV2, uV3, uV358, uV115], [], (cz_70_1f_0 (cz_70_1f_1 [])), [uG346, uG366, uG360])
set_option maxRecDepth 1000000 in
theorem ck_78 : x_ok mLT [cx_76, cx_35, cx_77, cx_66, cx_69] mTS2 mTC2 mRUp cx_78 [(2, [0]), (71, [1]), (77, [0, 2]), (89, [3, 4])] [(0, [1000550]), (6, uN373), (63, uN374), (75, uN375), (80, [1000556]), (92, uN376), (98, uN377)] [(7, cz_78_0, (16404, [(1, (-100000000000)), (14, (-41))])), (7, cz_78_1, (1204, [(1, (-100000000000)), (14, (-3))]))] (16410, []) 49355 43 = true := by decide +kernel
theorem sn_78 {W : Bool} {X : List Int32} : y_Snd (mGw W) mLT (J2 W X) X cx_78 := y_ok J2_J mTS2_ok mTC2_ok mRUp_ok (List.forall_mem_cons.mpr ⟨sn_76, List.forall_mem_cons.mpr ⟨sn_35, List.forall_mem_cons.mpr ⟨sn_77, List.forall_mem_cons.mpr ⟨sn_66, List.forall_mem_cons.mpr ⟨sn_69, fun _ h => absurd h List.not_mem_nil⟩⟩⟩⟩⟩) ck_78
/-- Parser.expression -/
def cx_79 : zCtx := (63, ([ui0, (1, 2), ui54, ui54], [ur161, ur52, ur55], [], [], [uV2, uV3], [uF186, uF44, uF153, uF307, uF340], [uG341]), [([ui0, (1, 2), ui54, ui54, (1, 2), ui54], [ur161, ur52, ur55], [], [], [], [uF342, uF223], [uG343])], [], 34, 2, 45)
set_option maxRecDepth 1000000 in
theorem ck_79 : x_ok mLT [cx_77] mTS2 mTC2 mRUp cx_79 [(2, [0])] [(0, [1000550]), (6, uN373), (98, uN377)] [(7, ([(0, 3072), (1, 2), (0, 2000), (0, 2000), (1, 2), (0, 2000)], [(4, false), (96, false), (1, false)], [(0, [(3, 1), (5, (-1))]), (0, [(3, (-1)), (5, 1)]), (0, [(1, 1), (4, (-1))]), (0, [(1, (-1)), (4, 1)])], [(2, 0, 0, []), (0, 0, 5, []), (0, 0, 0, []), (5, 0, 0, [])], [], [(0, (false, 2, 0, []), 0, 0, 0, [(4, 1)]), (2, (false, 7, 0, []), 0, 0, 0, [(5, 1)]), (0, (false, 2, 0, []), 0, 0, 0, [(1, 1)]), (0, (false, 1, 0, []), 2, 1, 0, []), (0, (false, 0, 0, []), 2, 2, 0, []), (2, (false, 5, 0, []), 0, 0, 0, [(2, 1)]), (2, (false, 7, 0, []), 0, 0, 0, [(3, 1)])], [(41, [(0, [(2, 1)]), (0, [(1, 1)]), (0, [(3, 1)])]), (41, [(0, [(2, 1)]), (0, [(4, 1)]), (0, [(5, 1)])])]), (7, []))] (13, []) 21 10 = true := by decide +kernel
theorem sn_79 {W : Bool} {X : List Int32} : y_Snd (mGw W) mLT (J2 W X) X cx_79 := y_ok J2_J mTS2_ok mTC2_ok mRUp_ok (List.forall_mem_cons.mpr ⟨sn_77, fun _ h => absurd h List.not_mem_nil⟩) ck_79
def cx_80p : zS := ((cx_67pi_0 (cx_67pi_1 [])), (cx_67pr_0 (cx_67pr_1 [])), [uL316], [], [uV2, uV383], (cx_67pf_0 (cx_67pf_1 (cx_67pf_2 []))), [uG318, uG319, uG384, uG321])
def cx_80q1 : zS := ((cx_67q1i_0 (cx_67q1i_1 (cx_67q1i_2 []))), (cx_67pr_0 (cx_67pr_1 [])), [uL322], [], [], [uF169, uF323, uF324, uF325, uF326, uF308, uF309, uF327], [uG328, uG329, uG385, uG331, uG332])
/-- Parser.unit -/
def cx_80 : zCtx := (65, cx_80p, [([ui0, (0, 0), ui54, ui70, ui71, ui54, ui72, ui306, (0, 5), ui51, (0, 6), ui50, ui70, ui31, (1, 2), ui54], [ur161, ur52, ur55, ur73, ur74, ur75, ur7, ur18, ur19, ur8], [], [], [], [uF333, uF273], [uG334]), cx_80q1], kc_3, 65801, 8, 178)
set_option maxRecDepth 1000000 in
theorem ck_80 : x_ok mLT [cx_35, cx_78, cx_79, cx_36, cx_66] mTS2 mTC2 mRUp cx_80 [(45, [0]), (53, [1, 2]), (59, [0, 3]), (87, [4]), (92, [0]), (126, [4]), (131, [0])] [(42, [1000139]), (49, uN380), (56, [1000141]), (63, uN381), (71, uN335), (90, [1000542]), (96, uN336), (113, uN337), (129, [1000544]), (135, uN338), (143, uN339)] [] (36, []) 65765 39 = true := by decide +kernel
theorem sn_80 {W : Bool} {X : List Int32} : y_Snd (mGw W) mLT (J2 W X) X cx_80 := y_ok J2_J mTS2_ok mTC2_ok mRUp_ok (List.forall_mem_cons.mpr ⟨sn_35, List.forall_mem_cons.mpr ⟨sn_78, List.forall_mem_cons.mpr ⟨sn_79, List.forall_mem_cons.mpr ⟨sn_36, List.forall_mem_cons.mpr ⟨sn_66, fun _ h => absurd h List.not_mem_nil⟩⟩⟩⟩⟩) ck_80
/-- Parser.unit -/
def cx_81 : zCtx := (65, ([ui0, (1, 2), ui54, ui54], [ur161, ur52, ur55], [], [], [uV2, uV383], [uF186, uF44, uF153, uF307, uF340], [uG341]), [([ui0, (1, 2), ui54, ui54, (1, 2), ui54], [ur161, ur52, ur55], [], [], [], [uF342, uF223], [uG343])], [], 8, 0, 0)
set_option maxRecDepth 1000000 in
theorem ck_81 : x_ok mLT [] mTS2 mTC2 mRUp cx_81 [] [] [] (8, []) 0 11 = true := by decide +kernel
theorem sn_81 {W : Bool} {X : List Int32} : y_Snd (mGw W) mLT (J2 W X) X cx_81 := y_ok J2_J mTS2_ok mTC2_ok mRUp_ok (fun _ h => absurd h List.not_mem_nil) ck_81
def cx_82p : zS := ((cx_67pi_0 (cx_67pi_1 [])), (cx_67pr_0 (cx_67pr_1 [])), [uL316], [], [uV2, uV383], (cx_67pf_0 (cx_67pf_1 (cx_67pf_2 []))), [uG318, uG319, uG384, uG321, uG346])
def cx_82q0g_0 (t : List zTg) : List zTg := uG328 :: uG329 :: uG385 :: uG347 :: uG348 :: uG349 :: t
def cx_82q0 : zS := ((cx_67q1i_0 (cx_67q1i_1 (cx_67q1i_2 []))), (cx_67pr_0 (cx_67pr_1 [])), [uL322], [], [], [uF169, uF323, uF324, uF325, uF326, uF308, uF309, uF327], (cx_82q0g_0 []))
/-- Parser.part -/
def cx_82 : zCtx := (64, cx_82p, [cx_82q0, ([ui0, (0, 0), ui54, ui70, ui71, ui54, ui72, ui306, (0, 5), ui51, (0, 6), ui50, ui70, ui31, (1, 2), ui54], [ur161, ur52, ur55, ur73, ur74, ur75, ur7, ur18, ur19, ur8], [], [], [], [uF333, uF273], [uG334])], kc_3, 82211, 9, 200)
def cz_82_0g_0 (t : List zTg) : List zTg := uG346 :: uG351 :: uG352 :: uG386 :: uG354 :: uG356 :: uG357 :: t
def cz_82_0 : zS := ((cz_70_0i_0 (cz_70_0i_1 (cz_70_0i_2 []))), (cx_67pr_0 (cx_67pr_1 [])), [uL316], [uV2, uV383, uV358, uV115], [], (cz_70_0f_0 (cz_70_0f_1 (cz_70_0f_2 []))), (cz_82_0g_0 []))
def cz_82_1 : zS := ((cz_70_1i_0 (cz_70_1i_1 (cz_70_1i_2 []))), (cx_67pr_0 (cx_67pr_1 [])), [uL316], [uV2, uV383, uV358, uV115], [], (cz_70_1f_0 (cz_70_1f_1 [])), [uG346, uG360])
set_option maxRecDepth 1000000 in
theorem ck_82 : x_ok mLT [cx_80, cx_35, cx_81, cx_66, cx_69] mTS2 mTC2 mRUp cx_82 [(2, [0]), (71, [1]), (77, [0, 2]), (89, [3, 4])] [(6, uN361), (63, uN362), (75, uN363), (80, [1000556]), (92, uN364), (98, uN365)] [(7, cz_82_0, (16404, [(1, (-100000000000)), (14, (-41))])), (7, cz_82_1, (1204, [(1, (-100000000000)), (14, (-3))]))] (16410, []) 65801 43 = true := by decide +kernel
theorem sn_82 {W : Bool} {X : List Int32} : y_Snd (mGw W) mLT (J2 W X) X cx_82 := y_ok J2_J mTS2_ok mTC2_ok mRUp_ok (List.forall_mem_cons.mpr ⟨sn_80, List.forall_mem_cons.mpr ⟨sn_35, List.forall_mem_cons.mpr ⟨sn_81, List.forall_mem_cons.mpr ⟨sn_66, List.forall_mem_cons.mpr ⟨sn_69, fun _ h => absurd h List.not_mem_nil⟩⟩⟩⟩⟩) ck_82
end
