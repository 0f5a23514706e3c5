noncomputable section
/-! ===== readings, by program, checked by the kernel ===== -/
def cx_213p : zS := ((cx_149pi_0 (cx_149pi_1 (cx_149pi_2 (cx_149pi_3 (cx_149pi_4 []))))), [(6, false), (172, false), (173, false), (174, false), (175, false), (176, false), (177, false)], [], [], [(2, 0, 0, []), (2, 1, 0, [])], (cx_149pf_0 (cx_149pf_1 (cx_149pf_2 (cx_149pf_3 (cx_149pf_4 (cx_149pf_5 [])))))), [])
def cx_213q0 : zS := ((cx_149pi_0 (cx_149pi_1 (cx_149pi_2 (cx_149pi_3 (cx_149pi_4 []))))), [(6, false), (172, false), (173, false), (174, false), (175, false), (176, false), (177, false)], [], [], [], [(0, (false, 5, 0, []), 0, 0, 0, [(5, 1)]), (0, (false, 6, 0, []), 0, 0, 0, [(6, 1)]), (0, (false, 7, 0, []), 0, 0, 0, [(7, 1)]), (0, (false, 8, 0, []), 0, 0, 0, [(8, 1)])], [(241, [(12, []), (0, [(5, 1)]), (0, [(6, 1)]), (0, [(7, 1)]), (0, [(8, 1)])])])
/-- State.copyFrom -/
def cx_213 : zCtx := (102, cx_213p, [cx_213q0], kc_53, 57, 1, 64)
set_option maxRecDepth 1000000 in
theorem ck_213 : x_ok mLT1 [] mTS2 mTC2 mRUp cx_213 [] [(107, [1000858])] [] (57, []) 0 60 = true := by decide +kernel
theorem sn_213 {W : Bool} {X : List Int32} : y_Snd (mGw W) mLT1 (J2 W X) X cx_213 := y_ok J2_J mTS2_ok1 mTC2_ok1 mRUp_ok1 (fun _ h => absurd h List.not_mem_nil) ck_213
def cx_214p : zS := ((cx_149pi_0 (cx_149pi_1 (cx_149pi_2 (cx_149pi_3 (cx_149pi_4 []))))), [(6, false), (178, false), (179, false), (180, false), (181, false), (182, false), (183, false)], [], [], [(2, 0, 0, []), (2, 1, 0, [])], (cx_149pf_0 (cx_149pf_1 (cx_149pf_2 (cx_149pf_3 (cx_149pf_4 (cx_149pf_5 [])))))), [])
def cx_214q0 : zS := ((cx_149pi_0 (cx_149pi_1 (cx_149pi_2 (cx_149pi_3 (cx_149pi_4 []))))), [(6, false), (178, false), (179, false), (180, false), (181, false), (182, false), (183, false)], [], [], [], [(0, (false, 5, 0, []), 0, 0, 0, [(5, 1)]), (0, (false, 6, 0, []), 0, 0, 0, [(6, 1)]), (0, (false, 7, 0, []), 0, 0, 0, [(7, 1)]), (0, (false, 8, 0, []), 0, 0, 0, [(8, 1)])], [(241, [(13, []), (0, [(5, 1)]), (0, [(6, 1)]), (0, [(7, 1)]), (0, [(8, 1)])])])
/-- State.copyFrom -/
def cx_214 : zCtx := (102, cx_214p, [cx_214q0], kc_53, 57, 1, 64)
set_option maxRecDepth 1000000 in
theorem ck_214 : x_ok mLT1 [] mTS2 mTC2 mRUp cx_214 [] [(107, [1000859])] [] (57, []) 0 60 = true := by decide +kernel
theorem sn_214 {W : Bool} {X : List Int32} : y_Snd (mGw W) mLT1 (J2 W X) X cx_214 := y_ok J2_J mTS2_ok1 mTC2_ok1 mRUp_ok1 (fun _ h => absurd h List.not_mem_nil) ck_214
def cx_215p : zS := ((cx_149pi_0 (cx_149pi_1 (cx_149pi_2 (cx_149pi_3 (cx_149pi_4 []))))), [(6, false), (184, false), (185, false), (186, false), (187, false), (188, false), (189, false)], [], [], [(2, 0, 0, []), (2, 1, 0, [])], (cx_149pf_0 (cx_149pf_1 (cx_149pf_2 (cx_149pf_3 (cx_149pf_4 (cx_149pf_5 [])))))), [])
def cx_215q0 : zS := ((cx_149pi_0 (cx_149pi_1 (cx_149pi_2 (cx_149pi_3 (cx_149pi_4 []))))), [(6, false), (184, false), (185, false), (186, false), (187, false), (188, false), (189, false)], [], [], [], [(0, (false, 5, 0, []), 0, 0, 0, [(5, 1)]), (0, (false, 6, 0, []), 0, 0, 0, [(6, 1)]), (0, (false, 7, 0, []), 0, 0, 0, [(7, 1)]), (0, (false, 8, 0, []), 0, 0, 0, [(8, 1)])], [(241, [(14, []), (0, [(5, 1)]), (0, [(6, 1)]), (0, [(7, 1)]), (0, [(8, 1)])])])
/-- State.copyFrom -/
def cx_215 : zCtx := (102, cx_215p, [cx_215q0], kc_53, 57, 1, 64)
set_option maxRecDepth 1000000 in
theorem ck_215 : x_ok mLT1 [] mTS2 mTC2 mRUp cx_215 [] [(107, [1000860])] [] (57, []) 0 60 = true := by decide +kernel
theorem sn_215 {W : Bool} {X : List Int32} : y_Snd (mGw W) mLT1 (J2 W X) X cx_215 := y_ok J2_J mTS2_ok1 mTC2_ok1 mRUp_ok1 (fun _ h => absurd h List.not_mem_nil) ck_215
def cx_216p : zS := ((cx_149pi_0 (cx_149pi_1 (cx_149pi_2 (cx_149pi_3 (cx_149pi_4 []))))), [(6, false), (190, false), (191, false), (192, false), (193, false), (194, false), (195, false)], [], [], [(2, 0, 0, []), (2, 1, 0, [])], (cx_149pf_0 (cx_149pf_1 (cx_149pf_2 (cx_149pf_3 (cx_149pf_4 (cx_149pf_5 [])))))), [])
def cx_216q0 : zS := ((cx_149pi_0 (cx_149pi_1 (cx_149pi_2 (cx_149pi_3 (cx_149pi_4 []))))), [(6, false), (190, false), (191, false), (192, false), (193, false), (194, false), (195, false)], [], [], [], [(0, (false, 5, 0, []), 0, 0, 0, [(5, 1)]), (0, (false, 6, 0, []), 0, 0, 0, [(6, 1)]), (0, (false, 7, 0, []), 0, 0, 0, [(7, 1)]), (0, (false, 8, 0, []), 0, 0, 0, [(8, 1)])], [(241, [(15, []), (0, [(5, 1)]), (0, [(6, 1)]), (0, [(7, 1)]), (0, [(8, 1)])])])
/-- State.copyFrom -/
def cx_216 : zCtx := (102, cx_216p, [cx_216q0], kc_53, 57, 1, 64)
set_option maxRecDepth 1000000 in
theorem ck_216 : x_ok mLT1 [] mTS2 mTC2 mRUp cx_216 [] [(107, [1000861])] [] (57, []) 0 60 = true := by decide +kernel
theorem sn_216 {W : Bool} {X : List Int32} : y_Snd (mGw W) mLT1 (J2 W X) X cx_216 := y_ok J2_J mTS2_ok1 mTC2_ok1 mRUp_ok1 (fun _ h => absurd h List.not_mem_nil) ck_216
def cx_217p : zS := ((cx_149pi_0 (cx_149pi_1 (cx_149pi_2 (cx_149pi_3 (cx_149pi_4 []))))), [(6, false), (196, false), (197, false), (198, false), (199, false), (200, false), (201, false)], [], [], [(2, 0, 0, []), (2, 1, 0, [])], (cx_149pf_0 (cx_149pf_1 (cx_149pf_2 (cx_149pf_3 (cx_149pf_4 (cx_149pf_5 [])))))), [])
def cx_217q0 : zS := ((cx_149pi_0 (cx_149pi_1 (cx_149pi_2 (cx_149pi_3 (cx_149pi_4 []))))), [(6, false), (196, false), (197, false), (198, false), (199, false), (200, false), (201, false)], [], [], [], [(0, (false, 5, 0, []), 0, 0, 0, [(5, 1)]), (0, (false, 6, 0, []), 0, 0, 0, [(6, 1)]), (0, (false, 7, 0, []), 0, 0, 0, [(7, 1)]), (0, (false, 8, 0, []), 0, 0, 0, [(8, 1)])], [(241, [(16, []), (0, [(5, 1)]), (0, [(6, 1)]), (0, [(7, 1)]), (0, [(8, 1)])])])
/-- State.copyFrom -/
def cx_217 : zCtx := (102, cx_217p, [cx_217q0], kc_53, 57, 1, 64)
set_option maxRecDepth 1000000 in
theorem ck_217 : x_ok mLT1 [] mTS2 mTC2 mRUp cx_217 [] [(107, [1000862])] [] (57, []) 0 60 = true := by decide +kernel
theorem sn_217 {W : Bool} {X : List Int32} : y_Snd (mGw W) mLT1 (J2 W X) X cx_217 := y_ok J2_J mTS2_ok1 mTC2_ok1 mRUp_ok1 (fun _ h => absurd h List.not_mem_nil) ck_217
def cx_218p : zS := ((cx_149pi_0 (cx_149pi_1 (cx_149pi_2 (cx_149pi_3 (cx_149pi_4 []))))), [(6, false), (202, false), (203, false), (204, false), (205, false), (206, false), (207, false)], [], [], [(2, 0, 0, []), (2, 1, 0, [])], (cx_149pf_0 (cx_149pf_1 (cx_149pf_2 (cx_149pf_3 (cx_149pf_4 (cx_149pf_5 [])))))), [])
def cx_218q0 : zS := ((cx_149pi_0 (cx_149pi_1 (cx_149pi_2 (cx_149pi_3 (cx_149pi_4 []))))), [(6, false), (202, false), (203, false), (204, false), (205, false), (206, false), (207, false)], [], [], [], [(0, (false, 5, 0, []), 0, 0, 0, [(5, 1)]), (0, (false, 6, 0, []), 0, 0, 0, [(6, 1)]), (0, (false, 7, 0, []), 0, 0, 0, [(7, 1)]), (0, (false, 8, 0, []), 0, 0, 0, [(8, 1)])], [(241, [(17, []), (0, [(5, 1)]), (0, [(6, 1)]), (0, [(7, 1)]), (0, [(8, 1)])])])
/-- State.copyFrom -/
def cx_218 : zCtx := (102, cx_218p, [cx_218q0], kc_53, 57, 1, 64)
set_option maxRecDepth 1000000 in
theorem ck_218 : x_ok mLT1 [] mTS2 mTC2 mRUp cx_218 [] [(107, [1000863])] [] (57, []) 0 60 = true := by decide +kernel
theorem sn_218 {W : Bool} {X : List Int32} : y_Snd (mGw W) mLT1 (J2 W X) X cx_218 := y_ok J2_J mTS2_ok1 mTC2_ok1 mRUp_ok1 (fun _ h => absurd h List.not_mem_nil) ck_218
def cx_219p : zS := ((cx_149pi_0 (cx_149pi_1 (cx_149pi_2 (cx_149pi_3 (cx_149pi_4 []))))), [(6, false), (208, false), (209, false), (210, false), (211, false), (212, false), (213, false)], [], [], [(2, 0, 0, []), (2, 1, 0, [])], (cx_149pf_0 (cx_149pf_1 (cx_149pf_2 (cx_149pf_3 (cx_149pf_4 (cx_149pf_5 [])))))), [])
def cx_219q0 : zS := ((cx_149pi_0 (cx_149pi_1 (cx_149pi_2 (cx_149pi_3 (cx_149pi_4 []))))), [(6, false), (208, false), (209, false), (210, false), (211, false), (212, false), (213, false)], [], [], [], [(0, (false, 5, 0, []), 0, 0, 0, [(5, 1)]), (0, (false, 6, 0, []), 0, 0, 0, [(6, 1)]), (0, (false, 7, 0, []), 0, 0, 0, [(7, 1)]), (0, (false, 8, 0, []), 0, 0, 0, [(8, 1)])], [(241, [(18, []), (0, [(5, 1)]), (0, [(6, 1)]), (0, [(7, 1)]), (0, [(8, 1)])])])
/-- State.copyFrom -/
def cx_219 : zCtx := (102, cx_219p, [cx_219q0], kc_53, 57, 1, 64)
set_option maxRecDepth 1000000 in
theorem ck_219 : x_ok mLT1 [] mTS2 mTC2 mRUp cx_219 [] [(107, [1000864])] [] (57, []) 0 60 = true := by decide +kernel
theorem sn_219 {W : Bool} {X : List Int32} : y_Snd (mGw W) mLT1 (J2 W X) X cx_219 := y_ok J2_J mTS2_ok1 mTC2_ok1 mRUp_ok1 (fun _ h => absurd h List.not_mem_nil) ck_219
def cx_220p : zS := ((cx_149pi_0 (cx_149pi_1 (cx_149pi_2 (cx_149pi_3 (cx_149pi_4 []))))), [(6, false), (214, false), (215, false), (216, false), (217, false), (218, false), (219, false)], [], [], [(2, 0, 0, []), (2, 1, 0, [])], (cx_149pf_0 (cx_149pf_1 (cx_149pf_2 (cx_149pf_3 (cx_149pf_4 (cx_149pf_5 [])))))), [])
def cx_220q0 : zS := ((cx_149pi_0 (cx_149pi_1 (cx_149pi_2 (cx_149pi_3 (cx_149pi_4 []))))), [(6, false), (214, false), (215, false), (216, false), (217, false), (218, false), (219, false)], [], [], [], [(0, (false, 5, 0, []), 0, 0, 0, [(5, 1)]), (0, (false, 6, 0, []), 0, 0, 0, [(6, 1)]), (0, (false, 7, 0, []), 0, 0, 0, [(7, 1)]), (0, (false, 8, 0, []), 0, 0, 0, [(8, 1)])], [(241, [(19, []), (0, [(5, 1)]), (0, [(6, 1)]), (0, [(7, 1)]), (0, [(8, 1)])])])
/-- State.copyFrom -/
def cx_220 : zCtx := (102, cx_220p, [cx_220q0], kc_53, 57, 1, 64)
set_option maxRecDepth 1000000 in
theorem ck_220 : x_ok mLT1 [] mTS2 mTC2 mRUp cx_220 [] [(107, [1000865])] [] (57, []) 0 60 = true := by decide +kernel
theorem sn_220 {W : Bool} {X : List Int32} : y_Snd (mGw W) mLT1 (J2 W X) X cx_220 := y_ok J2_J mTS2_ok1 mTC2_ok1 mRUp_ok1 (fun _ h => absurd h List.not_mem_nil) ck_220
def cx_221p : zS := ((cx_149pi_0 (cx_149pi_1 (cx_149pi_2 (cx_149pi_3 (cx_149pi_4 []))))), [(6, false), (220, false), (221, false), (222, false), (223, false), (224, false), (225, false)], [], [], [(2, 0, 0, []), (2, 1, 0, [])], (cx_149pf_0 (cx_149pf_1 (cx_149pf_2 (cx_149pf_3 (cx_149pf_4 (cx_149pf_5 [])))))), [])
def cx_221q0 : zS := ((cx_149pi_0 (cx_149pi_1 (cx_149pi_2 (cx_149pi_3 (cx_149pi_4 []))))), [(6, false), (220, false), (221, false), (222, false), (223, false), (224, false), (225, false)], [], [], [], [(0, (false, 5, 0, []), 0, 0, 0, [(5, 1)]), (0, (false, 6, 0, []), 0, 0, 0, [(6, 1)]), (0, (false, 7, 0, []), 0, 0, 0, [(7, 1)]), (0, (false, 8, 0, []), 0, 0, 0, [(8, 1)])], [(241, [(20, []), (0, [(5, 1)]), (0, [(6, 1)]), (0, [(7, 1)]), (0, [(8, 1)])])])
/-- State.copyFrom -/
def cx_221 : zCtx := (102, cx_221p, [cx_221q0], kc_53, 57, 1, 64)
set_option maxRecDepth 1000000 in
theorem ck_221 : x_ok mLT1 [] mTS2 mTC2 mRUp cx_221 [] [(107, [1000866])] [] (57, []) 0 60 = true := by decide +kernel
theorem sn_221 {W : Bool} {X : List Int32} : y_Snd (mGw W) mLT1 (J2 W X) X cx_221 := y_ok J2_J mTS2_ok1 mTC2_ok1 mRUp_ok1 (fun _ h => absurd h List.not_mem_nil) ck_221
def cx_222p : zS := ((cx_149pi_0 (cx_149pi_1 (cx_149pi_2 (cx_149pi_3 (cx_149pi_4 []))))), [(6, false), (226, false), (227, false), (228, false), (229, false), (230, false), (231, false)], [], [], [(2, 0, 0, []), (2, 1, 0, [])], (cx_149pf_0 (cx_149pf_1 (cx_149pf_2 (cx_149pf_3 (cx_149pf_4 (cx_149pf_5 [])))))), [])
def cx_222q0 : zS := ((cx_149pi_0 (cx_149pi_1 (cx_149pi_2 (cx_149pi_3 (cx_149pi_4 []))))), [(6, false), (226, false), (227, false), (228, false), (229, false), (230, false), (231, false)], [], [], [], [(0, (false, 5, 0, []), 0, 0, 0, [(5, 1)]), (0, (false, 6, 0, []), 0, 0, 0, [(6, 1)]), (0, (false, 7, 0, []), 0, 0, 0, [(7, 1)]), (0, (false, 8, 0, []), 0, 0, 0, [(8, 1)])], [(241, [(21, []), (0, [(5, 1)]), (0, [(6, 1)]), (0, [(7, 1)]), (0, [(8, 1)])])])
/-- State.copyFrom -/
def cx_222 : zCtx := (102, cx_222p, [cx_222q0], kc_53, 57, 1, 64)
set_option maxRecDepth 1000000 in
theorem ck_222 : x_ok mLT1 [] mTS2 mTC2 mRUp cx_222 [] [(107, [1000867])] [] (57, []) 0 60 = true := by decide +kernel
theorem sn_222 {W : Bool} {X : List Int32} : y_Snd (mGw W) mLT1 (J2 W X) X cx_222 := y_ok J2_J mTS2_ok1 mTC2_ok1 mRUp_ok1 (fun _ h => absurd h List.not_mem_nil) ck_222
def cx_223p : zS := ((cx_149pi_0 (cx_149pi_1 (cx_149pi_2 (cx_149pi_3 (cx_149pi_4 []))))), [(6, false), (232, false), (233, false), (234, false), (235, false), (236, false), (237, false)], [], [], [(2, 0, 0, []), (2, 1, 0, [])], (cx_149pf_0 (cx_149pf_1 (cx_149pf_2 (cx_149pf_3 (cx_149pf_4 (cx_149pf_5 [])))))), [])
def cx_223q0 : zS := ((cx_149pi_0 (cx_149pi_1 (cx_149pi_2 (cx_149pi_3 (cx_149pi_4 []))))), [(6, false), (232, false), (233, false), (234, false), (235, false), (236, false), (237, false)], [], [], [], [(0, (false, 5, 0, []), 0, 0, 0, [(5, 1)]), (0, (false, 6, 0, []), 0, 0, 0, [(6, 1)]), (0, (false, 7, 0, []), 0, 0, 0, [(7, 1)]), (0, (false, 8, 0, []), 0, 0, 0, [(8, 1)])], [(241, [(22, []), (0, [(5, 1)]), (0, [(6, 1)]), (0, [(7, 1)]), (0, [(8, 1)])])])
/-- State.copyFrom -/
def cx_223 : zCtx := (102, cx_223p, [cx_223q0], kc_53, 57, 1, 64)
set_option maxRecDepth 1000000 in
theorem ck_223 : x_ok mLT1 [] mTS2 mTC2 mRUp cx_223 [] [(107, [1000868])] [] (57, []) 0 60 = true := by decide +kernel
theorem sn_223 {W : Bool} {X : List Int32} : y_Snd (mGw W) mLT1 (J2 W X) X cx_223 := y_ok J2_J mTS2_ok1 mTC2_ok1 mRUp_ok1 (fun _ h => absurd h List.not_mem_nil) ck_223
def cx_224p : zS := ((cx_149pi_0 (cx_149pi_1 (cx_149pi_2 (cx_149pi_3 (cx_149pi_4 []))))), [(6, false), (238, false), (239, false), (240, false), (241, false), (242, false), (243, false)], [], [], [(2, 0, 0, []), (2, 1, 0, [])], (cx_149pf_0 (cx_149pf_1 (cx_149pf_2 (cx_149pf_3 (cx_149pf_4 (cx_149pf_5 [])))))), [])
def cx_224q0 : zS := ((cx_149pi_0 (cx_149pi_1 (cx_149pi_2 (cx_149pi_3 (cx_149pi_4 []))))), [(6, false), (238, false), (239, false), (240, false), (241, false), (242, false), (243, false)], [], [], [], [(0, (false, 5, 0, []), 0, 0, 0, [(5, 1)]), (0, (false, 6, 0, []), 0, 0, 0, [(6, 1)]), (0, (false, 7, 0, []), 0, 0, 0, [(7, 1)]), (0, (false, 8, 0, []), 0, 0, 0, [(8, 1)])], [(241, [(23, []), (0, [(5, 1)]), (0, [(6, 1)]), (0, [(7, 1)]), (0, [(8, 1)])])])
/-- State.copyFrom -/
def cx_224 : zCtx := (102, cx_224p, [cx_224q0], kc_53, 57, 1, 64)
set_option maxRecDepth 1000000 in
theorem ck_224 : x_ok mLT1 [] mTS2 mTC2 mRUp cx_224 [] [(107, [1000869])] [] (57, []) 0 60 = true := by decide +kernel
theorem sn_224 {W : Bool} {X : List Int32} : y_Snd (mGw W) mLT1 (J2 W X) X cx_224 := y_ok J2_J mTS2_ok1 mTC2_ok1 mRUp_ok1 (fun _ h => absurd h List.not_mem_nil) ck_224
end
