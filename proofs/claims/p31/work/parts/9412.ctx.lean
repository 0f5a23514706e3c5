noncomputable section
/-! ===== readings, by program, checked by the kernel ===== -/
def cx_225p : zS := ((cx_149pi_0 (cx_149pi_1 (cx_149pi_2 (cx_149pi_3 (cx_149pi_4 []))))), [(6, false), (244, false), (245, false), (246, false), (247, false), (248, false), (249, false)], [], [], [(2, 0, 0, []), (2, 1, 0, [])], (cx_149pf_0 (cx_149pf_1 (cx_149pf_2 (cx_149pf_3 (cx_149pf_4 (cx_149pf_5 [])))))), [])
def cx_225q0 : zS := ((cx_149pi_0 (cx_149pi_1 (cx_149pi_2 (cx_149pi_3 (cx_149pi_4 []))))), [(6, false), (244, false), (245, false), (246, false), (247, false), (248, false), (249, false)], [], [], [], [(0, (false, 5, 0, []), 0, 0, 0, [(5, 1)]), (0, (false, 6, 0, []), 0, 0, 0, [(6, 1)]), (0, (false, 7, 0, []), 0, 0, 0, [(7, 1)]), (0, (false, 8, 0, []), 0, 0, 0, [(8, 1)])], [(241, [(24, []), (0, [(5, 1)]), (0, [(6, 1)]), (0, [(7, 1)]), (0, [(8, 1)])])])
/-- State.copyFrom -/
def cx_225 : zCtx := (102, cx_225p, [cx_225q0], kc_53, 57, 1, 64)
set_option maxRecDepth 1000000 in
theorem ck_225 : x_ok mLT1 [] mTS2 mTC2 mRUp cx_225 [] [(107, [1000870])] [] (57, []) 0 60 = true := by decide +kernel
theorem sn_225 {W : Bool} {X : List Int32} : y_Snd (mGw W) mLT1 (J2 W X) X cx_225 := y_ok J2_J mTS2_ok1 mTC2_ok1 mRUp_ok1 (fun _ h => absurd h List.not_mem_nil) ck_225
def cx_226p : zS := ((cx_149pi_0 (cx_149pi_1 (cx_149pi_2 (cx_149pi_3 (cx_149pi_4 []))))), [(6, false), (250, false), (251, false), (252, false), (253, false), (254, false), (255, false)], [], [], [(2, 0, 0, []), (2, 1, 0, [])], (cx_149pf_0 (cx_149pf_1 (cx_149pf_2 (cx_149pf_3 (cx_149pf_4 (cx_149pf_5 [])))))), [])
def cx_226q0 : zS := ((cx_149pi_0 (cx_149pi_1 (cx_149pi_2 (cx_149pi_3 (cx_149pi_4 []))))), [(6, false), (250, false), (251, false), (252, false), (253, false), (254, false), (255, false)], [], [], [], [(0, (false, 5, 0, []), 0, 0, 0, [(5, 1)]), (0, (false, 6, 0, []), 0, 0, 0, [(6, 1)]), (0, (false, 7, 0, []), 0, 0, 0, [(7, 1)]), (0, (false, 8, 0, []), 0, 0, 0, [(8, 1)])], [(241, [(25, []), (0, [(5, 1)]), (0, [(6, 1)]), (0, [(7, 1)]), (0, [(8, 1)])])])
/-- State.copyFrom -/
def cx_226 : zCtx := (102, cx_226p, [cx_226q0], kc_53, 57, 1, 64)
set_option maxRecDepth 1000000 in
theorem ck_226 : x_ok mLT1 [] mTS2 mTC2 mRUp cx_226 [] [(107, [1000871])] [] (57, []) 0 60 = true := by decide +kernel
theorem sn_226 {W : Bool} {X : List Int32} : y_Snd (mGw W) mLT1 (J2 W X) X cx_226 := y_ok J2_J mTS2_ok1 mTC2_ok1 mRUp_ok1 (fun _ h => absurd h List.not_mem_nil) ck_226
def cx_227p : zS := ((cx_149pi_0 (cx_149pi_1 (cx_149pi_2 (cx_149pi_3 (cx_149pi_4 []))))), [(6, false), (256, false), (257, false), (258, false), (259, false), (260, false), (261, false)], [], [], [(2, 0, 0, []), (2, 1, 0, [])], (cx_149pf_0 (cx_149pf_1 (cx_149pf_2 (cx_149pf_3 (cx_149pf_4 (cx_149pf_5 [])))))), [])
def cx_227q0 : zS := ((cx_149pi_0 (cx_149pi_1 (cx_149pi_2 (cx_149pi_3 (cx_149pi_4 []))))), [(6, false), (256, false), (257, false), (258, false), (259, false), (260, false), (261, false)], [], [], [], [(0, (false, 5, 0, []), 0, 0, 0, [(5, 1)]), (0, (false, 6, 0, []), 0, 0, 0, [(6, 1)]), (0, (false, 7, 0, []), 0, 0, 0, [(7, 1)]), (0, (false, 8, 0, []), 0, 0, 0, [(8, 1)])], [(241, [(26, []), (0, [(5, 1)]), (0, [(6, 1)]), (0, [(7, 1)]), (0, [(8, 1)])])])
/-- State.copyFrom -/
def cx_227 : zCtx := (102, cx_227p, [cx_227q0], kc_53, 57, 1, 64)
set_option maxRecDepth 1000000 in
theorem ck_227 : x_ok mLT1 [] mTS2 mTC2 mRUp cx_227 [] [(107, [1000872])] [] (57, []) 0 60 = true := by decide +kernel
theorem sn_227 {W : Bool} {X : List Int32} : y_Snd (mGw W) mLT1 (J2 W X) X cx_227 := y_ok J2_J mTS2_ok1 mTC2_ok1 mRUp_ok1 (fun _ h => absurd h List.not_mem_nil) ck_227
def cx_228p : zS := ((cx_149pi_0 (cx_149pi_1 (cx_149pi_2 (cx_149pi_3 (cx_149pi_4 []))))), [(6, false), (262, false), (263, false), (264, false), (265, false), (266, false), (267, false)], [], [], [(2, 0, 0, []), (2, 1, 0, [])], (cx_149pf_0 (cx_149pf_1 (cx_149pf_2 (cx_149pf_3 (cx_149pf_4 (cx_149pf_5 [])))))), [])
def cx_228q0 : zS := ((cx_149pi_0 (cx_149pi_1 (cx_149pi_2 (cx_149pi_3 (cx_149pi_4 []))))), [(6, false), (262, false), (263, false), (264, false), (265, false), (266, false), (267, false)], [], [], [], [(0, (false, 5, 0, []), 0, 0, 0, [(5, 1)]), (0, (false, 6, 0, []), 0, 0, 0, [(6, 1)]), (0, (false, 7, 0, []), 0, 0, 0, [(7, 1)]), (0, (false, 8, 0, []), 0, 0, 0, [(8, 1)])], [(241, [(27, []), (0, [(5, 1)]), (0, [(6, 1)]), (0, [(7, 1)]), (0, [(8, 1)])])])
/-- State.copyFrom -/
def cx_228 : zCtx := (102, cx_228p, [cx_228q0], kc_53, 57, 1, 64)
set_option maxRecDepth 1000000 in
theorem ck_228 : x_ok mLT1 [] mTS2 mTC2 mRUp cx_228 [] [(107, [1000873])] [] (57, []) 0 60 = true := by decide +kernel
theorem sn_228 {W : Bool} {X : List Int32} : y_Snd (mGw W) mLT1 (J2 W X) X cx_228 := y_ok J2_J mTS2_ok1 mTC2_ok1 mRUp_ok1 (fun _ h => absurd h List.not_mem_nil) ck_228
def cx_229p : zS := ((cx_149pi_0 (cx_149pi_1 (cx_149pi_2 (cx_149pi_3 (cx_149pi_4 []))))), [(6, false), (268, false), (269, false), (270, false), (271, false), (272, false), (273, false)], [], [], [(2, 0, 0, []), (2, 1, 0, [])], (cx_149pf_0 (cx_149pf_1 (cx_149pf_2 (cx_149pf_3 (cx_149pf_4 (cx_149pf_5 [])))))), [])
def cx_229q0 : zS := ((cx_149pi_0 (cx_149pi_1 (cx_149pi_2 (cx_149pi_3 (cx_149pi_4 []))))), [(6, false), (268, false), (269, false), (270, false), (271, false), (272, false), (273, false)], [], [], [], [(0, (false, 5, 0, []), 0, 0, 0, [(5, 1)]), (0, (false, 6, 0, []), 0, 0, 0, [(6, 1)]), (0, (false, 7, 0, []), 0, 0, 0, [(7, 1)]), (0, (false, 8, 0, []), 0, 0, 0, [(8, 1)])], [(241, [(28, []), (0, [(5, 1)]), (0, [(6, 1)]), (0, [(7, 1)]), (0, [(8, 1)])])])
/-- State.copyFrom -/
def cx_229 : zCtx := (102, cx_229p, [cx_229q0], kc_53, 57, 1, 64)
set_option maxRecDepth 1000000 in
theorem ck_229 : x_ok mLT1 [] mTS2 mTC2 mRUp cx_229 [] [(107, [1000874])] [] (57, []) 0 60 = true := by decide +kernel
theorem sn_229 {W : Bool} {X : List Int32} : y_Snd (mGw W) mLT1 (J2 W X) X cx_229 := y_ok J2_J mTS2_ok1 mTC2_ok1 mRUp_ok1 (fun _ h => absurd h List.not_mem_nil) ck_229
def cx_230p : zS := ((cx_149pi_0 (cx_149pi_1 (cx_149pi_2 (cx_149pi_3 (cx_149pi_4 []))))), [(6, false), (274, false), (275, false), (276, false), (277, false), (278, false), (279, false)], [], [], [(2, 0, 0, []), (2, 1, 0, [])], (cx_149pf_0 (cx_149pf_1 (cx_149pf_2 (cx_149pf_3 (cx_149pf_4 (cx_149pf_5 [])))))), [])
def cx_230q0 : zS := ((cx_149pi_0 (cx_149pi_1 (cx_149pi_2 (cx_149pi_3 (cx_149pi_4 []))))), [(6, false), (274, false), (275, false), (276, false), (277, false), (278, false), (279, false)], [], [], [], [(0, (false, 5, 0, []), 0, 0, 0, [(5, 1)]), (0, (false, 6, 0, []), 0, 0, 0, [(6, 1)]), (0, (false, 7, 0, []), 0, 0, 0, [(7, 1)]), (0, (false, 8, 0, []), 0, 0, 0, [(8, 1)])], [(241, [(29, []), (0, [(5, 1)]), (0, [(6, 1)]), (0, [(7, 1)]), (0, [(8, 1)])])])
/-- State.copyFrom -/
def cx_230 : zCtx := (102, cx_230p, [cx_230q0], kc_53, 57, 1, 64)
set_option maxRecDepth 1000000 in
theorem ck_230 : x_ok mLT1 [] mTS2 mTC2 mRUp cx_230 [] [(107, [1000875])] [] (57, []) 0 60 = true := by decide +kernel
theorem sn_230 {W : Bool} {X : List Int32} : y_Snd (mGw W) mLT1 (J2 W X) X cx_230 := y_ok J2_J mTS2_ok1 mTC2_ok1 mRUp_ok1 (fun _ h => absurd h List.not_mem_nil) ck_230
def cx_231p : zS := ((cx_149pi_0 (cx_149pi_1 (cx_149pi_2 (cx_149pi_3 (cx_149pi_4 []))))), [(6, false), (280, false), (281, false), (282, false), (283, false), (284, false), (285, false)], [], [], [(2, 0, 0, []), (2, 1, 0, [])], (cx_149pf_0 (cx_149pf_1 (cx_149pf_2 (cx_149pf_3 (cx_149pf_4 (cx_149pf_5 [])))))), [])
def cx_231q0 : zS := ((cx_149pi_0 (cx_149pi_1 (cx_149pi_2 (cx_149pi_3 (cx_149pi_4 []))))), [(6, false), (280, false), (281, false), (282, false), (283, false), (284, false), (285, false)], [], [], [], [(0, (false, 5, 0, []), 0, 0, 0, [(5, 1)]), (0, (false, 6, 0, []), 0, 0, 0, [(6, 1)]), (0, (false, 7, 0, []), 0, 0, 0, [(7, 1)]), (0, (false, 8, 0, []), 0, 0, 0, [(8, 1)])], [(241, [(30, []), (0, [(5, 1)]), (0, [(6, 1)]), (0, [(7, 1)]), (0, [(8, 1)])])])
/-- State.copyFrom -/
def cx_231 : zCtx := (102, cx_231p, [cx_231q0], kc_53, 57, 1, 64)
set_option maxRecDepth 1000000 in
theorem ck_231 : x_ok mLT1 [] mTS2 mTC2 mRUp cx_231 [] [(107, [1000876])] [] (57, []) 0 60 = true := by decide +kernel
theorem sn_231 {W : Bool} {X : List Int32} : y_Snd (mGw W) mLT1 (J2 W X) X cx_231 := y_ok J2_J mTS2_ok1 mTC2_ok1 mRUp_ok1 (fun _ h => absurd h List.not_mem_nil) ck_231
def cx_232p : zS := ((cx_149pi_0 (cx_149pi_1 (cx_149pi_2 (cx_149pi_3 (cx_149pi_4 []))))), [(6, false), (286, false), (287, false), (288, false), (289, false), (290, false), (291, false)], [], [], [(2, 0, 0, []), (2, 1, 0, [])], (cx_149pf_0 (cx_149pf_1 (cx_149pf_2 (cx_149pf_3 (cx_149pf_4 (cx_149pf_5 [])))))), [])
def cx_232q0 : zS := ((cx_149pi_0 (cx_149pi_1 (cx_149pi_2 (cx_149pi_3 (cx_149pi_4 []))))), [(6, false), (286, false), (287, false), (288, false), (289, false), (290, false), (291, false)], [], [], [], [(0, (false, 5, 0, []), 0, 0, 0, [(5, 1)]), (0, (false, 6, 0, []), 0, 0, 0, [(6, 1)]), (0, (false, 7, 0, []), 0, 0, 0, [(7, 1)]), (0, (false, 8, 0, []), 0, 0, 0, [(8, 1)])], [(241, [(31, []), (0, [(5, 1)]), (0, [(6, 1)]), (0, [(7, 1)]), (0, [(8, 1)])])])
/-- State.copyFrom -/
def cx_232 : zCtx := (102, cx_232p, [cx_232q0], kc_53, 57, 1, 64)
set_option maxRecDepth 1000000 in
theorem ck_232 : x_ok mLT1 [] mTS2 mTC2 mRUp cx_232 [] [(107, [1000877])] [] (57, []) 0 60 = true := by decide +kernel
theorem sn_232 {W : Bool} {X : List Int32} : y_Snd (mGw W) mLT1 (J2 W X) X cx_232 := y_ok J2_J mTS2_ok1 mTC2_ok1 mRUp_ok1 (fun _ h => absurd h List.not_mem_nil) ck_232
def cx_233p : zS := ((cx_149pi_0 (cx_149pi_1 (cx_149pi_2 (cx_149pi_3 (cx_149pi_4 []))))), [(6, false), (292, false), (293, false), (294, false), (295, false), (296, false), (297, false)], [], [], [(2, 0, 0, []), (2, 1, 0, [])], (cx_149pf_0 (cx_149pf_1 (cx_149pf_2 (cx_149pf_3 (cx_149pf_4 (cx_149pf_5 [])))))), [])
def cx_233q0 : zS := ((cx_149pi_0 (cx_149pi_1 (cx_149pi_2 (cx_149pi_3 (cx_149pi_4 []))))), [(6, false), (292, false), (293, false), (294, false), (295, false), (296, false), (297, false)], [], [], [], [(0, (false, 5, 0, []), 0, 0, 0, [(5, 1)]), (0, (false, 6, 0, []), 0, 0, 0, [(6, 1)]), (0, (false, 7, 0, []), 0, 0, 0, [(7, 1)]), (0, (false, 8, 0, []), 0, 0, 0, [(8, 1)])], [(241, [(32, []), (0, [(5, 1)]), (0, [(6, 1)]), (0, [(7, 1)]), (0, [(8, 1)])])])
/-- State.copyFrom -/
def cx_233 : zCtx := (102, cx_233p, [cx_233q0], kc_53, 57, 1, 64)
set_option maxRecDepth 1000000 in
theorem ck_233 : x_ok mLT1 [] mTS2 mTC2 mRUp cx_233 [] [(107, [1000878])] [] (57, []) 0 60 = true := by decide +kernel
theorem sn_233 {W : Bool} {X : List Int32} : y_Snd (mGw W) mLT1 (J2 W X) X cx_233 := y_ok J2_J mTS2_ok1 mTC2_ok1 mRUp_ok1 (fun _ h => absurd h List.not_mem_nil) ck_233
def cx_234p : zS := ((cx_149pi_0 (cx_149pi_1 (cx_149pi_2 (cx_149pi_3 (cx_149pi_4 []))))), [(6, false), (298, false), (299, false), (300, false), (301, false), (302, false), (303, false)], [], [], [(2, 0, 0, []), (2, 1, 0, [])], (cx_149pf_0 (cx_149pf_1 (cx_149pf_2 (cx_149pf_3 (cx_149pf_4 (cx_149pf_5 [])))))), [])
def cx_234q0 : zS := ((cx_149pi_0 (cx_149pi_1 (cx_149pi_2 (cx_149pi_3 (cx_149pi_4 []))))), [(6, false), (298, false), (299, false), (300, false), (301, false), (302, false), (303, false)], [], [], [], [(0, (false, 5, 0, []), 0, 0, 0, [(5, 1)]), (0, (false, 6, 0, []), 0, 0, 0, [(6, 1)]), (0, (false, 7, 0, []), 0, 0, 0, [(7, 1)]), (0, (false, 8, 0, []), 0, 0, 0, [(8, 1)])], [(241, [(33, []), (0, [(5, 1)]), (0, [(6, 1)]), (0, [(7, 1)]), (0, [(8, 1)])])])
/-- State.copyFrom -/
def cx_234 : zCtx := (102, cx_234p, [cx_234q0], kc_53, 57, 1, 64)
set_option maxRecDepth 1000000 in
theorem ck_234 : x_ok mLT1 [] mTS2 mTC2 mRUp cx_234 [] [(107, [1000879])] [] (57, []) 0 60 = true := by decide +kernel
theorem sn_234 {W : Bool} {X : List Int32} : y_Snd (mGw W) mLT1 (J2 W X) X cx_234 := y_ok J2_J mTS2_ok1 mTC2_ok1 mRUp_ok1 (fun _ h => absurd h List.not_mem_nil) ck_234
def cx_235p : zS := ((cx_149pi_0 (cx_149pi_1 (cx_149pi_2 (cx_149pi_3 (cx_149pi_4 []))))), [(6, false), (304, false), (305, false), (306, false), (307, false), (308, false), (309, false)], [], [], [(2, 0, 0, []), (2, 1, 0, [])], (cx_149pf_0 (cx_149pf_1 (cx_149pf_2 (cx_149pf_3 (cx_149pf_4 (cx_149pf_5 [])))))), [])
def cx_235q0 : zS := ((cx_149pi_0 (cx_149pi_1 (cx_149pi_2 (cx_149pi_3 (cx_149pi_4 []))))), [(6, false), (304, false), (305, false), (306, false), (307, false), (308, false), (309, false)], [], [], [], [(0, (false, 5, 0, []), 0, 0, 0, [(5, 1)]), (0, (false, 6, 0, []), 0, 0, 0, [(6, 1)]), (0, (false, 7, 0, []), 0, 0, 0, [(7, 1)]), (0, (false, 8, 0, []), 0, 0, 0, [(8, 1)])], [(241, [(34, []), (0, [(5, 1)]), (0, [(6, 1)]), (0, [(7, 1)]), (0, [(8, 1)])])])
/-- State.copyFrom -/
def cx_235 : zCtx := (102, cx_235p, [cx_235q0], kc_53, 57, 1, 64)
set_option maxRecDepth 1000000 in
theorem ck_235 : x_ok mLT1 [] mTS2 mTC2 mRUp cx_235 [] [(107, [1000880])] [] (57, []) 0 60 = true := by decide +kernel
theorem sn_235 {W : Bool} {X : List Int32} : y_Snd (mGw W) mLT1 (J2 W X) X cx_235 := y_ok J2_J mTS2_ok1 mTC2_ok1 mRUp_ok1 (fun _ h => absurd h List.not_mem_nil) ck_235
def cx_236p : zS := ((cx_149pi_0 (cx_149pi_1 (cx_149pi_2 (cx_149pi_3 (cx_149pi_4 []))))), [(6, false), (310, false), (311, false), (312, false), (313, false), (314, false), (315, false)], [], [], [(2, 0, 0, []), (2, 1, 0, [])], (cx_149pf_0 (cx_149pf_1 (cx_149pf_2 (cx_149pf_3 (cx_149pf_4 (cx_149pf_5 [])))))), [])
def cx_236q0 : zS := ((cx_149pi_0 (cx_149pi_1 (cx_149pi_2 (cx_149pi_3 (cx_149pi_4 []))))), [(6, false), (310, false), (311, false), (312, false), (313, false), (314, false), (315, false)], [], [], [], [(0, (false, 5, 0, []), 0, 0, 0, [(5, 1)]), (0, (false, 6, 0, []), 0, 0, 0, [(6, 1)]), (0, (false, 7, 0, []), 0, 0, 0, [(7, 1)]), (0, (false, 8, 0, []), 0, 0, 0, [(8, 1)])], [(241, [(35, []), (0, [(5, 1)]), (0, [(6, 1)]), (0, [(7, 1)]), (0, [(8, 1)])])])
/-- State.copyFrom -/
def cx_236 : zCtx := (102, cx_236p, [cx_236q0], kc_53, 57, 1, 64)
set_option maxRecDepth 1000000 in
theorem ck_236 : x_ok mLT1 [] mTS2 mTC2 mRUp cx_236 [] [(107, [1000881])] [] (57, []) 0 60 = true := by decide +kernel
theorem sn_236 {W : Bool} {X : List Int32} : y_Snd (mGw W) mLT1 (J2 W X) X cx_236 := y_ok J2_J mTS2_ok1 mTC2_ok1 mRUp_ok1 (fun _ h => absurd h List.not_mem_nil) ck_236
end
