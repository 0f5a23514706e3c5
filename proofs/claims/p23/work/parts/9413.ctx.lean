noncomputable section
/-! ===== readings, by program, checked by the kernel ===== -/
def cx_237p : zS := ((cx_149pi_0 (cx_149pi_1 (cx_149pi_2 (cx_149pi_3 (cx_149pi_4 []))))), [ur433, ur632, ur1004, ur1005, ur1006, ur1007, ur1008], [], [], [uV2, uV420], (cx_149pf_0 (cx_149pf_1 (cx_149pf_2 (cx_149pf_3 (cx_149pf_4 (cx_149pf_5 [])))))), [])
def cx_237q0 : zS := ((cx_149pi_0 (cx_149pi_1 (cx_149pi_2 (cx_149pi_3 (cx_149pi_4 []))))), [ur433, ur632, ur1004, ur1005, ur1006, ur1007, ur1008], [], [], [], [uF126, uF128, uF129, uF713], [uG745])
/-- State.copyFrom -/
def cx_237 : zCtx := (102, cx_237p, [cx_237q0], kc_53, 57, 1, 64)
set_option maxRecDepth 1000000 in
theorem ck_237 : x_ok mLT1 [] mTS2 mTC2 mRUp cx_237 [] [(107, [1000899])] [] (57, []) 0 60 = true := by decide +kernel
theorem sn_237 {W : Bool} {X : List Int32} : y_Snd (mGw W) mLT1 (J2 W X) X cx_237 := y_ok J2_J mTS2_ok1 mTC2_ok1 mRUp_ok1 (fun _ h => absurd h List.not_mem_nil) ck_237
def cx_238p : zS := ((cx_149pi_0 (cx_149pi_1 (cx_149pi_2 (cx_149pi_3 (cx_149pi_4 []))))), [ur433, ur629, ur1009, ur1010, ur1011, ur1012, ur1013], [], [], [uV2, uV420], (cx_149pf_0 (cx_149pf_1 (cx_149pf_2 (cx_149pf_3 (cx_149pf_4 (cx_149pf_5 [])))))), [])
def cx_238q0 : zS := ((cx_149pi_0 (cx_149pi_1 (cx_149pi_2 (cx_149pi_3 (cx_149pi_4 []))))), [ur433, ur629, ur1009, ur1010, ur1011, ur1012, ur1013], [], [], [], [uF126, uF128, uF129, uF713], [uG746])
/-- State.copyFrom -/
def cx_238 : zCtx := (102, cx_238p, [cx_238q0], kc_53, 57, 1, 64)
set_option maxRecDepth 1000000 in
theorem ck_238 : x_ok mLT1 [] mTS2 mTC2 mRUp cx_238 [] [(107, [1000900])] [] (57, []) 0 60 = true := by decide +kernel
theorem sn_238 {W : Bool} {X : List Int32} : y_Snd (mGw W) mLT1 (J2 W X) X cx_238 := y_ok J2_J mTS2_ok1 mTC2_ok1 mRUp_ok1 (fun _ h => absurd h List.not_mem_nil) ck_238
def cx_239p : zS := ((cx_149pi_0 (cx_149pi_1 (cx_149pi_2 (cx_149pi_3 (cx_149pi_4 []))))), [ur433, ur626, ur1014, ur1015, ur1016, ur1017, ur1018], [], [], [uV2, uV420], (cx_149pf_0 (cx_149pf_1 (cx_149pf_2 (cx_149pf_3 (cx_149pf_4 (cx_149pf_5 [])))))), [])
def cx_239q0 : zS := ((cx_149pi_0 (cx_149pi_1 (cx_149pi_2 (cx_149pi_3 (cx_149pi_4 []))))), [ur433, ur626, ur1014, ur1015, ur1016, ur1017, ur1018], [], [], [], [uF126, uF128, uF129, uF713], [uG747])
/-- State.copyFrom -/
def cx_239 : zCtx := (102, cx_239p, [cx_239q0], kc_53, 57, 1, 64)
set_option maxRecDepth 1000000 in
theorem ck_239 : x_ok mLT1 [] mTS2 mTC2 mRUp cx_239 [] [(107, [1000901])] [] (57, []) 0 60 = true := by decide +kernel
theorem sn_239 {W : Bool} {X : List Int32} : y_Snd (mGw W) mLT1 (J2 W X) X cx_239 := y_ok J2_J mTS2_ok1 mTC2_ok1 mRUp_ok1 (fun _ h => absurd h List.not_mem_nil) ck_239
def cx_240p : zS := ((cx_149pi_0 (cx_149pi_1 (cx_149pi_2 (cx_149pi_3 (cx_149pi_4 []))))), [ur433, ur623, ur1019, ur1020, ur1021, ur1022, ur1023], [], [], [uV2, uV420], (cx_149pf_0 (cx_149pf_1 (cx_149pf_2 (cx_149pf_3 (cx_149pf_4 (cx_149pf_5 [])))))), [])
def cx_240q0 : zS := ((cx_149pi_0 (cx_149pi_1 (cx_149pi_2 (cx_149pi_3 (cx_149pi_4 []))))), [ur433, ur623, ur1019, ur1020, ur1021, ur1022, ur1023], [], [], [], [uF126, uF128, uF129, uF713], [uG748])
/-- State.copyFrom -/
def cx_240 : zCtx := (102, cx_240p, [cx_240q0], kc_53, 57, 1, 64)
set_option maxRecDepth 1000000 in
theorem ck_240 : x_ok mLT1 [] mTS2 mTC2 mRUp cx_240 [] [(107, [1000902])] [] (57, []) 0 60 = true := by decide +kernel
theorem sn_240 {W : Bool} {X : List Int32} : y_Snd (mGw W) mLT1 (J2 W X) X cx_240 := y_ok J2_J mTS2_ok1 mTC2_ok1 mRUp_ok1 (fun _ h => absurd h List.not_mem_nil) ck_240
def cx_241p : zS := ((cx_149pi_0 (cx_149pi_1 (cx_149pi_2 (cx_149pi_3 (cx_149pi_4 []))))), [ur433, ur620, ur1024, ur1025, ur1026, ur1027, ur1028], [], [], [uV2, uV420], (cx_149pf_0 (cx_149pf_1 (cx_149pf_2 (cx_149pf_3 (cx_149pf_4 (cx_149pf_5 [])))))), [])
def cx_241q0 : zS := ((cx_149pi_0 (cx_149pi_1 (cx_149pi_2 (cx_149pi_3 (cx_149pi_4 []))))), [ur433, ur620, ur1024, ur1025, ur1026, ur1027, ur1028], [], [], [], [uF126, uF128, uF129, uF713], [uG749])
/-- State.copyFrom -/
def cx_241 : zCtx := (102, cx_241p, [cx_241q0], kc_53, 57, 1, 64)
set_option maxRecDepth 1000000 in
theorem ck_241 : x_ok mLT1 [] mTS2 mTC2 mRUp cx_241 [] [(107, [1000903])] [] (57, []) 0 60 = true := by decide +kernel
theorem sn_241 {W : Bool} {X : List Int32} : y_Snd (mGw W) mLT1 (J2 W X) X cx_241 := y_ok J2_J mTS2_ok1 mTC2_ok1 mRUp_ok1 (fun _ h => absurd h List.not_mem_nil) ck_241
def cx_242p : zS := ((cx_149pi_0 (cx_149pi_1 (cx_149pi_2 (cx_149pi_3 (cx_149pi_4 []))))), [ur433, ur618, ur1029, ur1030, ur1031, ur1032, ur1033], [], [], [uV2, uV420], (cx_149pf_0 (cx_149pf_1 (cx_149pf_2 (cx_149pf_3 (cx_149pf_4 (cx_149pf_5 [])))))), [])
def cx_242q0 : zS := ((cx_149pi_0 (cx_149pi_1 (cx_149pi_2 (cx_149pi_3 (cx_149pi_4 []))))), [ur433, ur618, ur1029, ur1030, ur1031, ur1032, ur1033], [], [], [], [uF126, uF128, uF129, uF713], [uG750])
/-- State.copyFrom -/
def cx_242 : zCtx := (102, cx_242p, [cx_242q0], kc_53, 57, 1, 64)
set_option maxRecDepth 1000000 in
theorem ck_242 : x_ok mLT1 [] mTS2 mTC2 mRUp cx_242 [] [(107, [1000904])] [] (57, []) 0 60 = true := by decide +kernel
theorem sn_242 {W : Bool} {X : List Int32} : y_Snd (mGw W) mLT1 (J2 W X) X cx_242 := y_ok J2_J mTS2_ok1 mTC2_ok1 mRUp_ok1 (fun _ h => absurd h List.not_mem_nil) ck_242
def cx_243p : zS := ((cx_149pi_0 (cx_149pi_1 (cx_149pi_2 (cx_149pi_3 (cx_149pi_4 []))))), [ur433, ur615, ur1034, ur1035, ur1036, ur1037, ur1038], [], [], [uV2, uV420], (cx_149pf_0 (cx_149pf_1 (cx_149pf_2 (cx_149pf_3 (cx_149pf_4 (cx_149pf_5 [])))))), [])
def cx_243q0 : zS := ((cx_149pi_0 (cx_149pi_1 (cx_149pi_2 (cx_149pi_3 (cx_149pi_4 []))))), [ur433, ur615, ur1034, ur1035, ur1036, ur1037, ur1038], [], [], [], [uF126, uF128, uF129, uF713], [uG751])
/-- State.copyFrom -/
def cx_243 : zCtx := (102, cx_243p, [cx_243q0], kc_53, 57, 1, 64)
set_option maxRecDepth 1000000 in
theorem ck_243 : x_ok mLT1 [] mTS2 mTC2 mRUp cx_243 [] [(107, [1000905])] [] (57, []) 0 60 = true := by decide +kernel
theorem sn_243 {W : Bool} {X : List Int32} : y_Snd (mGw W) mLT1 (J2 W X) X cx_243 := y_ok J2_J mTS2_ok1 mTC2_ok1 mRUp_ok1 (fun _ h => absurd h List.not_mem_nil) ck_243
def cx_244p : zS := ((cx_149pi_0 (cx_149pi_1 (cx_149pi_2 (cx_149pi_3 (cx_149pi_4 []))))), [ur433, ur612, ur1039, ur1040, ur1041, ur1042, ur1043], [], [], [uV2, uV420], (cx_149pf_0 (cx_149pf_1 (cx_149pf_2 (cx_149pf_3 (cx_149pf_4 (cx_149pf_5 [])))))), [])
def cx_244q0 : zS := ((cx_149pi_0 (cx_149pi_1 (cx_149pi_2 (cx_149pi_3 (cx_149pi_4 []))))), [ur433, ur612, ur1039, ur1040, ur1041, ur1042, ur1043], [], [], [], [uF126, uF128, uF129, uF713], [uG752])
/-- State.copyFrom -/
def cx_244 : zCtx := (102, cx_244p, [cx_244q0], kc_53, 57, 1, 64)
set_option maxRecDepth 1000000 in
theorem ck_244 : x_ok mLT1 [] mTS2 mTC2 mRUp cx_244 [] [(107, [1000906])] [] (57, []) 0 60 = true := by decide +kernel
theorem sn_244 {W : Bool} {X : List Int32} : y_Snd (mGw W) mLT1 (J2 W X) X cx_244 := y_ok J2_J mTS2_ok1 mTC2_ok1 mRUp_ok1 (fun _ h => absurd h List.not_mem_nil) ck_244
def cx_245p : zS := ((cx_149pi_0 (cx_149pi_1 (cx_149pi_2 (cx_149pi_3 (cx_149pi_4 []))))), [ur433, ur607, ur1044, ur1045, ur1046, ur1047, ur1048], [], [], [uV2, uV420], (cx_149pf_0 (cx_149pf_1 (cx_149pf_2 (cx_149pf_3 (cx_149pf_4 (cx_149pf_5 [])))))), [])
def cx_245q0 : zS := ((cx_149pi_0 (cx_149pi_1 (cx_149pi_2 (cx_149pi_3 (cx_149pi_4 []))))), [ur433, ur607, ur1044, ur1045, ur1046, ur1047, ur1048], [], [], [], [uF126, uF128, uF129, uF713], [uG753])
/-- State.copyFrom -/
def cx_245 : zCtx := (102, cx_245p, [cx_245q0], kc_53, 57, 1, 64)
set_option maxRecDepth 1000000 in
theorem ck_245 : x_ok mLT1 [] mTS2 mTC2 mRUp cx_245 [] [(107, [1000907])] [] (57, []) 0 60 = true := by decide +kernel
theorem sn_245 {W : Bool} {X : List Int32} : y_Snd (mGw W) mLT1 (J2 W X) X cx_245 := y_ok J2_J mTS2_ok1 mTC2_ok1 mRUp_ok1 (fun _ h => absurd h List.not_mem_nil) ck_245
/-- History.takeBack -/
def cx_246 : zCtx := (42, ([ui0, ui439, ui440, (0, 6), (0, 6), ui49, ui49], [ur441, ur433], [], [], [uV2, uV420], [uF183, uF184, uF518, uF519, uF520, uF521], [uG754, uG605]), [([ui0, ui439, ui440, (0, 6), (0, 6), ui49, ui49], [ur441, ur433], [uL258], [], [uV62], [uF184, uF518, uF519, uF520, uF521], [uG605]), ([ui0, ui439, ui440, (0, 6), (0, 6), ui49, ui49, (0, 6), ui49, ui49], [ur441, ur433], [uL149], [], [uV64], [uF760, uF518, uF1049, uF421, uF422], [(245, [uL23, uL79, uL131, uL164, uL149]), (242, [uL23, uL9, uL149, uL63])])], kc_54, 82, 2, 85)
def cq_246 : List zCtx := [cx_148, cx_206, cx_207, cx_208, cx_209, cx_210, cx_211, cx_212, cx_213, cx_214, cx_215, cx_216, cx_217, cx_218, cx_219, cx_220, cx_221, cx_222, cx_223, cx_224, cx_225, cx_226, cx_227, cx_228, cx_229, cx_230, cx_231, cx_232, cx_233, cx_234, cx_235, cx_236, cx_237, cx_238, cx_239, cx_240, cx_241, cx_242, cx_243, cx_244, cx_245]
def cs_246 : List (Nat × List Nat) := [(14, [0]), (30, [1, 2, 3, 4, 5, 6, 7, 8, 9, 10, 11, 12, 13, 14, 15, 16, 17, 18, 19, 20, 21, 22, 23, 24, 25, 26, 27, 28, 29, 30, 31, 32, 33, 34, 35, 36, 37, 38, 39, 40])]
def hs_246 : List (Nat × List Nat) := [(33, [1000687])]
def nd_246_0p : zS := ([ui0, ui439, ui1050, (0, 6), (0, 6), ui49, ui49], [ur441, ur433, ur709], [], [uV2, uV420, uV759], [uV759, uV420], [uF183, uF184, uF518, uF519, uF520, uF521], [(108, [uL1051, uL609, uL63]), uG754, uG605])
def nd_246_0 : zN := (30, nd_246_0p, uL266)
def nd_246_1p : zS := ([ui0, ui439, ui1050, (0, 6), (0, 6), ui49, ui49], [ur441, ur433, ur707], [], [uV2, uV420, uV759], [uV759, uV420], [uF183, uF184, uF518, uF519, uF520, uF521], [(108, [uL1051, uL609, uL65]), uG754, uG605])
def nd_246_1 : zN := (30, nd_246_1p, uL266)
def nd_246_2p : zS := ([ui0, ui439, ui1050, (0, 6), (0, 6), ui49, ui49], [ur441, ur433, ur705], [], [uV2, uV420, uV759], [uV759, uV420], [uF183, uF184, uF518, uF519, uF520, uF521], [(108, [uL1051, uL609, uL114]), uG754, uG605])
def nd_246_2 : zN := (30, nd_246_2p, uL266)
def nd_246_3p : zS := ([ui0, ui439, ui1050, (0, 6), (0, 6), ui49, ui49], [ur441, ur433, ur703], [], [uV2, uV420, uV759], [uV759, uV420], [uF183, uF184, uF518, uF519, uF520, uF521], [(108, [uL1051, uL609, uL211]), uG754, uG605])
def nd_246_3 : zN := (30, nd_246_3p, uL266)
def nd_246_4p : zS := ([ui0, ui439, ui1050, (0, 6), (0, 6), ui49, ui49], [ur441, ur433, ur701], [], [uV2, uV420, uV759], [uV759, uV420], [uF183, uF184, uF518, uF519, uF520, uF521], [(108, [uL1051, uL609, uL36]), uG754, uG605])
def nd_246_4 : zN := (30, nd_246_4p, uL266)
def nd_246_5p : zS := ([ui0, ui439, ui1050, (0, 6), (0, 6), ui49, ui49], [ur441, ur433, ur699], [], [uV2, uV420, uV759], [uV759, uV420], [uF183, uF184, uF518, uF519, uF520, uF521], [(108, [uL1051, uL609, uL246]), uG754, uG605])
def nd_246_5 : zN := (30, nd_246_5p, uL266)
def nd_246_6p : zS := ([ui0, ui439, ui1050, (0, 6), (0, 6), ui49, ui49], [ur441, ur433, ur697], [], [uV2, uV420, uV759], [uV759, uV420], [uF183, uF184, uF518, uF519, uF520, uF521], [(108, [uL1051, uL609, uL252]), uG754, uG605])
def nd_246_6 : zN := (30, nd_246_6p, uL266)
def nd_246_7p : zS := ([ui0, ui439, ui1050, (0, 6), (0, 6), ui49, ui49], [ur441, ur433, ur695], [], [uV2, uV420, uV759], [uV759, uV420], [uF183, uF184, uF518, uF519, uF520, uF521], [(108, [uL1051, uL609, uL260]), uG754, uG605])
def nd_246_7 : zN := (30, nd_246_7p, uL266)
def nd_246_8p : zS := ([ui0, ui439, ui1050, (0, 6), (0, 6), ui49, ui49], [ur441, ur433, ur693], [], [uV2, uV420, uV759], [uV759, uV420], [uF183, uF184, uF518, uF519, uF520, uF521], [(108, [uL1051, uL609, uL34]), uG754, uG605])
def nd_246_8 : zN := (30, nd_246_8p, uL266)
def nd_246_9p : zS := ([ui0, ui439, ui1050, (0, 6), (0, 6), ui49, ui49], [ur441, ur433, ur691], [], [uV2, uV420, uV759], [uV759, uV420], [uF183, uF184, uF518, uF519, uF520, uF521], [(108, [uL1051, uL609, uL266]), uG754, uG605])
def nd_246_9 : zN := (30, nd_246_9p, uL266)
def nd_246_10p : zS := ([ui0, ui439, ui1050, (0, 6), (0, 6), ui49, ui49], [ur441, ur433, ur689], [], [uV2, uV420, uV759], [uV759, uV420], [uF183, uF184, uF518, uF519, uF520, uF521], [(108, [uL1051, uL609, uL283]), uG754, uG605])
def nd_246_10 : zN := (30, nd_246_10p, uL266)
def nd_246_11p : zS := ([ui0, ui439, ui1050, (0, 6), (0, 6), ui49, ui49], [ur441, ur433, ur687], [], [uV2, uV420, uV759], [uV759, uV420], [uF183, uF184, uF518, uF519, uF520, uF521], [(108, [uL1051, uL609, uL285]), uG754, uG605])
def nd_246_11 : zN := (30, nd_246_11p, uL266)
def nd_246_12p : zS := ([ui0, ui439, ui1050, (0, 6), (0, 6), ui49, ui49], [ur441, ur433, ur685], [], [uV2, uV420, uV759], [uV759, uV420], [uF183, uF184, uF518, uF519, uF520, uF521], [(108, [uL1051, uL609, uL287]), uG754, uG605])
def nd_246_12 : zN := (30, nd_246_12p, uL266)
def nd_246_13p : zS := ([ui0, ui439, ui1050, (0, 6), (0, 6), ui49, ui49], [ur441, ur433, ur683], [], [uV2, uV420, uV759], [uV759, uV420], [uF183, uF184, uF518, uF519, uF520, uF521], [(108, [uL1051, uL609, uL267]), uG754, uG605])
def nd_246_13 : zN := (30, nd_246_13p, uL266)
def nd_246_14p : zS := ([ui0, ui439, ui1050, (0, 6), (0, 6), ui49, ui49], [ur441, ur433, ur680], [], [uV2, uV420, uV759], [uV759, uV420], [uF183, uF184, uF518, uF519, uF520, uF521], [(108, [uL1051, uL609, uL681]), uG754, uG605])
def nd_246_14 : zN := (30, nd_246_14p, uL266)
def nd_246_15p : zS := ([ui0, ui439, ui1050, (0, 6), (0, 6), ui49, ui49], [ur441, ur433, ur677], [], [uV2, uV420, uV759], [uV759, uV420], [uF183, uF184, uF518, uF519, uF520, uF521], [(108, [uL1051, uL609, uL678]), uG754, uG605])
def nd_246_15 : zN := (30, nd_246_15p, uL266)
def nd_246_16p : zS := ([ui0, ui439, ui1050, (0, 6), (0, 6), ui49, ui49], [ur441, ur433, ur675], [], [uV2, uV420, uV759], [uV759, uV420], [uF183, uF184, uF518, uF519, uF520, uF521], [(108, [uL1051, uL609, uL527]), uG754, uG605])
def nd_246_16 : zN := (30, nd_246_16p, uL266)
def nd_246_17p : zS := ([ui0, ui439, ui1050, (0, 6), (0, 6), ui49, ui49], [ur441, ur433, ur672], [], [uV2, uV420, uV759], [uV759, uV420], [uF183, uF184, uF518, uF519, uF520, uF521], [(108, [uL1051, uL609, uL673]), uG754, uG605])
def nd_246_17 : zN := (30, nd_246_17p, uL266)
def nd_246_18p : zS := ([ui0, ui439, ui1050, (0, 6), (0, 6), ui49, ui49], [ur441, ur433, ur669], [], [uV2, uV420, uV759], [uV759, uV420], [uF183, uF184, uF518, uF519, uF520, uF521], [(108, [uL1051, uL609, uL670]), uG754, uG605])
def nd_246_18 : zN := (30, nd_246_18p, uL266)
def nd_246_19p : zS := ([ui0, ui439, ui1050, (0, 6), (0, 6), ui49, ui49], [ur441, ur433, ur666], [], [uV2, uV420, uV759], [uV759, uV420], [uF183, uF184, uF518, uF519, uF520, uF521], [(108, [uL1051, uL609, uL667]), uG754, uG605])
def nd_246_19 : zN := (30, nd_246_19p, uL266)
def nd_246_20p : zS := ([ui0, ui439, ui1050, (0, 6), (0, 6), ui49, ui49], [ur441, ur433, ur663], [], [uV2, uV420, uV759], [uV759, uV420], [uF183, uF184, uF518, uF519, uF520, uF521], [(108, [uL1051, uL609, uL664]), uG754, uG605])
def nd_246_20 : zN := (30, nd_246_20p, uL266)
def nd_246_21p : zS := ([ui0, ui439, ui1050, (0, 6), (0, 6), ui49, ui49], [ur441, ur433, ur660], [], [uV2, uV420, uV759], [uV759, uV420], [uF183, uF184, uF518, uF519, uF520, uF521], [(108, [uL1051, uL609, uL661]), uG754, uG605])
def nd_246_21 : zN := (30, nd_246_21p, uL266)
def nd_246_22p : zS := ([ui0, ui439, ui1050, (0, 6), (0, 6), ui49, ui49], [ur441, ur433, ur657], [], [uV2, uV420, uV759], [uV759, uV420], [uF183, uF184, uF518, uF519, uF520, uF521], [(108, [uL1051, uL609, uL658]), uG754, uG605])
def nd_246_22 : zN := (30, nd_246_22p, uL266)
def nd_246_23p : zS := ([ui0, ui439, ui1050, (0, 6), (0, 6), ui49, ui49], [ur441, ur433, ur654], [], [uV2, uV420, uV759], [uV759, uV420], [uF183, uF184, uF518, uF519, uF520, uF521], [(108, [uL1051, uL609, uL655]), uG754, uG605])
def nd_246_23 : zN := (30, nd_246_23p, uL266)
def nd_246_24p : zS := ([ui0, ui439, ui1050, (0, 6), (0, 6), ui49, ui49], [ur441, ur433, ur652], [], [uV2, uV420, uV759], [uV759, uV420], [uF183, uF184, uF518, uF519, uF520, uF521], [(108, [uL1051, uL609, uL528]), uG754, uG605])
def nd_246_24 : zN := (30, nd_246_24p, uL266)
def nd_246_25p : zS := ([ui0, ui439, ui1050, (0, 6), (0, 6), ui49, ui49], [ur441, ur433, ur649], [], [uV2, uV420, uV759], [uV759, uV420], [uF183, uF184, uF518, uF519, uF520, uF521], [(108, [uL1051, uL609, uL650]), uG754, uG605])
def nd_246_25 : zN := (30, nd_246_25p, uL266)
def nd_246_26p : zS := ([ui0, ui439, ui1050, (0, 6), (0, 6), ui49, ui49], [ur441, ur433, ur646], [], [uV2, uV420, uV759], [uV759, uV420], [uF183, uF184, uF518, uF519, uF520, uF521], [(108, [uL1051, uL609, uL647]), uG754, uG605])
def nd_246_26 : zN := (30, nd_246_26p, uL266)
def nd_246_27p : zS := ([ui0, ui439, ui1050, (0, 6), (0, 6), ui49, ui49], [ur441, ur433, ur643], [], [uV2, uV420, uV759], [uV759, uV420], [uF183, uF184, uF518, uF519, uF520, uF521], [(108, [uL1051, uL609, uL644]), uG754, uG605])
def nd_246_27 : zN := (30, nd_246_27p, uL266)
def nd_246_28p : zS := ([ui0, ui439, ui1050, (0, 6), (0, 6), ui49, ui49], [ur441, ur433, ur640], [], [uV2, uV420, uV759], [uV759, uV420], [uF183, uF184, uF518, uF519, uF520, uF521], [(108, [uL1051, uL609, uL641]), uG754, uG605])
def nd_246_28 : zN := (30, nd_246_28p, uL266)
def nd_246_29p : zS := ([ui0, ui439, ui1050, (0, 6), (0, 6), ui49, ui49], [ur441, ur433, ur637], [], [uV2, uV420, uV759], [uV759, uV420], [uF183, uF184, uF518, uF519, uF520, uF521], [(108, [uL1051, uL609, uL638]), uG754, uG605])
def nd_246_29 : zN := (30, nd_246_29p, uL266)
def nd_246_30p : zS := ([ui0, ui439, ui1050, (0, 6), (0, 6), ui49, ui49], [ur441, ur433, ur634], [], [uV2, uV420, uV759], [uV759, uV420], [uF183, uF184, uF518, uF519, uF520, uF521], [(108, [uL1051, uL609, uL635]), uG754, uG605])
def nd_246_30 : zN := (30, nd_246_30p, uL266)
def nd_246_31p : zS := ([ui0, ui439, ui1050, (0, 6), (0, 6), ui49, ui49], [ur441, ur433, ur632], [], [uV2, uV420, uV759], [uV759, uV420], [uF183, uF184, uF518, uF519, uF520, uF521], [(108, [uL1051, uL609, uL526]), uG754, uG605])
def nd_246_31 : zN := (30, nd_246_31p, uL266)
def nd_246_32p : zS := ([ui0, ui439, ui1050, (0, 6), (0, 6), ui49, ui49], [ur441, ur433, ur629], [], [uV2, uV420, uV759], [uV759, uV420], [uF183, uF184, uF518, uF519, uF520, uF521], [(108, [uL1051, uL609, uL630]), uG754, uG605])
def nd_246_32 : zN := (30, nd_246_32p, uL266)
def nd_246_33p : zS := ([ui0, ui439, ui1050, (0, 6), (0, 6), ui49, ui49], [ur441, ur433, ur626], [], [uV2, uV420, uV759], [uV759, uV420], [uF183, uF184, uF518, uF519, uF520, uF521], [(108, [uL1051, uL609, uL627]), uG754, uG605])
def nd_246_33 : zN := (30, nd_246_33p, uL266)
def nd_246_34p : zS := ([ui0, ui439, ui1050, (0, 6), (0, 6), ui49, ui49], [ur441, ur433, ur623], [], [uV2, uV420, uV759], [uV759, uV420], [uF183, uF184, uF518, uF519, uF520, uF521], [(108, [uL1051, uL609, uL624]), uG754, uG605])
def nd_246_34 : zN := (30, nd_246_34p, uL266)
def nd_246_35p : zS := ([ui0, ui439, ui1050, (0, 6), (0, 6), ui49, ui49], [ur441, ur433, ur620], [], [uV2, uV420, uV759], [uV759, uV420], [uF183, uF184, uF518, uF519, uF520, uF521], [(108, [uL1051, uL609, uL621]), uG754, uG605])
def nd_246_35 : zN := (30, nd_246_35p, uL266)
def nd_246_36p : zS := ([ui0, ui439, ui1050, (0, 6), (0, 6), ui49, ui49], [ur441, ur433, ur618], [], [uV2, uV420, uV759], [uV759, uV420], [uF183, uF184, uF518, uF519, uF520, uF521], [(108, [uL1051, uL609, uL4]), uG754, uG605])
def nd_246_36 : zN := (30, nd_246_36p, uL266)
def nd_246_37p : zS := ([ui0, ui439, ui1050, (0, 6), (0, 6), ui49, ui49], [ur441, ur433, ur615], [], [uV2, uV420, uV759], [uV759, uV420], [uF183, uF184, uF518, uF519, uF520, uF521], [(108, [uL1051, uL609, uL616]), uG754, uG605])
def nd_246_37 : zN := (30, nd_246_37p, uL266)
def nd_246_38p : zS := ([ui0, ui439, ui1050, (0, 6), (0, 6), ui49, ui49], [ur441, ur433, ur612], [], [uV2, uV420, uV759], [uV759, uV420], [uF183, uF184, uF518, uF519, uF520, uF521], [(108, [uL1051, uL609, uL613]), uG754, uG605])
def nd_246_38 : zN := (30, nd_246_38p, uL266)
def nd_246_39p : zS := ([ui0, ui439, ui1050, (0, 6), (0, 6), ui49, ui49], [ur441, ur433, ur607], [], [uV2, uV420, uV759], [uV759, uV420], [uF183, uF184, uF518, uF519, uF520, uF521], [(108, [uL1051, uL609, uL610]), uG754, uG605])
def nd_246_39 : zN := (30, nd_246_39p, uL266)
def ns_246 : List zN := [nd_246_0, nd_246_1, nd_246_2, nd_246_3, nd_246_4, nd_246_5, nd_246_6, nd_246_7, nd_246_8, nd_246_9, nd_246_10, nd_246_11, nd_246_12, nd_246_13, nd_246_14, nd_246_15, nd_246_16, nd_246_17, nd_246_18, nd_246_19, nd_246_20, nd_246_21, nd_246_22, nd_246_23, nd_246_24, nd_246_25, nd_246_26, nd_246_27, nd_246_28, nd_246_29, nd_246_30, nd_246_31, nd_246_32, nd_246_33, nd_246_34, nd_246_35, nd_246_36, nd_246_37, nd_246_38, nd_246_39]
set_option maxRecDepth 1000000 in
theorem ca_246 : x_okA mLT1 cq_246 mTS2 mTC2 mRUp cx_246 cs_246 hs_246 ns_246 (25, []) 57 18 = true := by decide +kernel
set_option maxRecDepth 1000000 in
theorem cb_246_0 : x_okB mLT1 cq_246 mTS2 mTC2 mRUp cx_246 cs_246 hs_246 ns_246 (25, []) 57 18 nd_246_0 = true := by decide +kernel
set_option maxRecDepth 1000000 in
theorem cb_246_1 : x_okB mLT1 cq_246 mTS2 mTC2 mRUp cx_246 cs_246 hs_246 ns_246 (25, []) 57 18 nd_246_1 = true := by decide +kernel
set_option maxRecDepth 1000000 in
theorem cb_246_2 : x_okB mLT1 cq_246 mTS2 mTC2 mRUp cx_246 cs_246 hs_246 ns_246 (25, []) 57 18 nd_246_2 = true := by decide +kernel
set_option maxRecDepth 1000000 in
theorem cb_246_3 : x_okB mLT1 cq_246 mTS2 mTC2 mRUp cx_246 cs_246 hs_246 ns_246 (25, []) 57 18 nd_246_3 = true := by decide +kernel
set_option maxRecDepth 1000000 in
theorem cb_246_4 : x_okB mLT1 cq_246 mTS2 mTC2 mRUp cx_246 cs_246 hs_246 ns_246 (25, []) 57 18 nd_246_4 = true := by decide +kernel
set_option maxRecDepth 1000000 in
theorem cb_246_5 : x_okB mLT1 cq_246 mTS2 mTC2 mRUp cx_246 cs_246 hs_246 ns_246 (25, []) 57 18 nd_246_5 = true := by decide +kernel
set_option maxRecDepth 1000000 in
theorem cb_246_6 : x_okB mLT1 cq_246 mTS2 mTC2 mRUp cx_246 cs_246 hs_246 ns_246 (25, []) 57 18 nd_246_6 = true := by decide +kernel
set_option maxRecDepth 1000000 in
theorem cb_246_7 : x_okB mLT1 cq_246 mTS2 mTC2 mRUp cx_246 cs_246 hs_246 ns_246 (25, []) 57 18 nd_246_7 = true := by decide +kernel
set_option maxRecDepth 1000000 in
theorem cb_246_8 : x_okB mLT1 cq_246 mTS2 mTC2 mRUp cx_246 cs_246 hs_246 ns_246 (25, []) 57 18 nd_246_8 = true := by decide +kernel
set_option maxRecDepth 1000000 in
theorem cb_246_9 : x_okB mLT1 cq_246 mTS2 mTC2 mRUp cx_246 cs_246 hs_246 ns_246 (25, []) 57 18 nd_246_9 = true := by decide +kernel
set_option maxRecDepth 1000000 in
theorem cb_246_10 : x_okB mLT1 cq_246 mTS2 mTC2 mRUp cx_246 cs_246 hs_246 ns_246 (25, []) 57 18 nd_246_10 = true := by decide +kernel
set_option maxRecDepth 1000000 in
theorem cb_246_11 : x_okB mLT1 cq_246 mTS2 mTC2 mRUp cx_246 cs_246 hs_246 ns_246 (25, []) 57 18 nd_246_11 = true := by decide +kernel
set_option maxRecDepth 1000000 in
theorem cb_246_12 : x_okB mLT1 cq_246 mTS2 mTC2 mRUp cx_246 cs_246 hs_246 ns_246 (25, []) 57 18 nd_246_12 = true := by decide +kernel
set_option maxRecDepth 1000000 in
theorem cb_246_13 : x_okB mLT1 cq_246 mTS2 mTC2 mRUp cx_246 cs_246 hs_246 ns_246 (25, []) 57 18 nd_246_13 = true := by decide +kernel
set_option maxRecDepth 1000000 in
theorem cb_246_14 : x_okB mLT1 cq_246 mTS2 mTC2 mRUp cx_246 cs_246 hs_246 ns_246 (25, []) 57 18 nd_246_14 = true := by decide +kernel
set_option maxRecDepth 1000000 in
theorem cb_246_15 : x_okB mLT1 cq_246 mTS2 mTC2 mRUp cx_246 cs_246 hs_246 ns_246 (25, []) 57 18 nd_246_15 = true := by decide +kernel
set_option maxRecDepth 1000000 in
theorem cb_246_16 : x_okB mLT1 cq_246 mTS2 mTC2 mRUp cx_246 cs_246 hs_246 ns_246 (25, []) 57 18 nd_246_16 = true := by decide +kernel
set_option maxRecDepth 1000000 in
theorem cb_246_17 : x_okB mLT1 cq_246 mTS2 mTC2 mRUp cx_246 cs_246 hs_246 ns_246 (25, []) 57 18 nd_246_17 = true := by decide +kernel
set_option maxRecDepth 1000000 in
theorem cb_246_18 : x_okB mLT1 cq_246 mTS2 mTC2 mRUp cx_246 cs_246 hs_246 ns_246 (25, []) 57 18 nd_246_18 = true := by decide +kernel
set_option maxRecDepth 1000000 in
theorem cb_246_19 : x_okB mLT1 cq_246 mTS2 mTC2 mRUp cx_246 cs_246 hs_246 ns_246 (25, []) 57 18 nd_246_19 = true := by decide +kernel
set_option maxRecDepth 1000000 in
theorem cb_246_20 : x_okB mLT1 cq_246 mTS2 mTC2 mRUp cx_246 cs_246 hs_246 ns_246 (25, []) 57 18 nd_246_20 = true := by decide +kernel
set_option maxRecDepth 1000000 in
theorem cb_246_21 : x_okB mLT1 cq_246 mTS2 mTC2 mRUp cx_246 cs_246 hs_246 ns_246 (25, []) 57 18 nd_246_21 = true := by decide +kernel
set_option maxRecDepth 1000000 in
theorem cb_246_22 : x_okB mLT1 cq_246 mTS2 mTC2 mRUp cx_246 cs_246 hs_246 ns_246 (25, []) 57 18 nd_246_22 = true := by decide +kernel
set_option maxRecDepth 1000000 in
theorem cb_246_23 : x_okB mLT1 cq_246 mTS2 mTC2 mRUp cx_246 cs_246 hs_246 ns_246 (25, []) 57 18 nd_246_23 = true := by decide +kernel
set_option maxRecDepth 1000000 in
theorem cb_246_24 : x_okB mLT1 cq_246 mTS2 mTC2 mRUp cx_246 cs_246 hs_246 ns_246 (25, []) 57 18 nd_246_24 = true := by decide +kernel
set_option maxRecDepth 1000000 in
theorem cb_246_25 : x_okB mLT1 cq_246 mTS2 mTC2 mRUp cx_246 cs_246 hs_246 ns_246 (25, []) 57 18 nd_246_25 = true := by decide +kernel
set_option maxRecDepth 1000000 in
theorem cb_246_26 : x_okB mLT1 cq_246 mTS2 mTC2 mRUp cx_246 cs_246 hs_246 ns_246 (25, []) 57 18 nd_246_26 = true := by decide +kernel
set_option maxRecDepth 1000000 in
theorem cb_246_27 : x_okB mLT1 cq_246 mTS2 mTC2 mRUp cx_246 cs_246 hs_246 ns_246 (25, []) 57 18 nd_246_27 = true := by decide +kernel
set_option maxRecDepth 1000000 in
theorem cb_246_28 : x_okB mLT1 cq_246 mTS2 mTC2 mRUp cx_246 cs_246 hs_246 ns_246 (25, []) 57 18 nd_246_28 = true := by decide +kernel
set_option maxRecDepth 1000000 in
theorem cb_246_29 : x_okB mLT1 cq_246 mTS2 mTC2 mRUp cx_246 cs_246 hs_246 ns_246 (25, []) 57 18 nd_246_29 = true := by decide +kernel
set_option maxRecDepth 1000000 in
theorem cb_246_30 : x_okB mLT1 cq_246 mTS2 mTC2 mRUp cx_246 cs_246 hs_246 ns_246 (25, []) 57 18 nd_246_30 = true := by decide +kernel
set_option maxRecDepth 1000000 in
theorem cb_246_31 : x_okB mLT1 cq_246 mTS2 mTC2 mRUp cx_246 cs_246 hs_246 ns_246 (25, []) 57 18 nd_246_31 = true := by decide +kernel
set_option maxRecDepth 1000000 in
theorem cb_246_32 : x_okB mLT1 cq_246 mTS2 mTC2 mRUp cx_246 cs_246 hs_246 ns_246 (25, []) 57 18 nd_246_32 = true := by decide +kernel
set_option maxRecDepth 1000000 in
theorem cb_246_33 : x_okB mLT1 cq_246 mTS2 mTC2 mRUp cx_246 cs_246 hs_246 ns_246 (25, []) 57 18 nd_246_33 = true := by decide +kernel
set_option maxRecDepth 1000000 in
theorem cb_246_34 : x_okB mLT1 cq_246 mTS2 mTC2 mRUp cx_246 cs_246 hs_246 ns_246 (25, []) 57 18 nd_246_34 = true := by decide +kernel
set_option maxRecDepth 1000000 in
theorem cb_246_35 : x_okB mLT1 cq_246 mTS2 mTC2 mRUp cx_246 cs_246 hs_246 ns_246 (25, []) 57 18 nd_246_35 = true := by decide +kernel
set_option maxRecDepth 1000000 in
theorem cb_246_36 : x_okB mLT1 cq_246 mTS2 mTC2 mRUp cx_246 cs_246 hs_246 ns_246 (25, []) 57 18 nd_246_36 = true := by decide +kernel
set_option maxRecDepth 1000000 in
theorem cb_246_37 : x_okB mLT1 cq_246 mTS2 mTC2 mRUp cx_246 cs_246 hs_246 ns_246 (25, []) 57 18 nd_246_37 = true := by decide +kernel
set_option maxRecDepth 1000000 in
theorem cb_246_38 : x_okB mLT1 cq_246 mTS2 mTC2 mRUp cx_246 cs_246 hs_246 ns_246 (25, []) 57 18 nd_246_38 = true := by decide +kernel
set_option maxRecDepth 1000000 in
theorem cb_246_39 : x_okB mLT1 cq_246 mTS2 mTC2 mRUp cx_246 cs_246 hs_246 ns_246 (25, []) 57 18 nd_246_39 = true := by decide +kernel
set_option maxRecDepth 1000000 in
theorem cc_246 : x_okC mLT1 cq_246 mTS2 mTC2 mRUp cx_246 cs_246 hs_246 ns_246 (25, []) 57 18 = true := by decide +kernel
theorem ck_246 : x_ok mLT1 cq_246 mTS2 mTC2 mRUp cx_246 cs_246 hs_246 ns_246 (25, []) 57 18 = true := x_ok_of ca_246 (List.forall_mem_cons.mpr ⟨cb_246_0, List.forall_mem_cons.mpr ⟨cb_246_1, List.forall_mem_cons.mpr ⟨cb_246_2, List.forall_mem_cons.mpr ⟨cb_246_3, List.forall_mem_cons.mpr ⟨cb_246_4, List.forall_mem_cons.mpr ⟨cb_246_5, List.forall_mem_cons.mpr ⟨cb_246_6, List.forall_mem_cons.mpr ⟨cb_246_7, List.forall_mem_cons.mpr ⟨cb_246_8, List.forall_mem_cons.mpr ⟨cb_246_9, List.forall_mem_cons.mpr ⟨cb_246_10, List.forall_mem_cons.mpr ⟨cb_246_11, List.forall_mem_cons.mpr ⟨cb_246_12, List.forall_mem_cons.mpr ⟨cb_246_13, List.forall_mem_cons.mpr ⟨cb_246_14, List.forall_mem_cons.mpr ⟨cb_246_15, List.forall_mem_cons.mpr ⟨cb_246_16, List.forall_mem_cons.mpr ⟨cb_246_17, List.forall_mem_cons.mpr ⟨cb_246_18, List.forall_mem_cons.mpr ⟨cb_246_19, List.forall_mem_cons.mpr ⟨cb_246_20, List.forall_mem_cons.mpr ⟨cb_246_21, List.forall_mem_cons.mpr ⟨cb_246_22, List.forall_mem_cons.mpr ⟨cb_246_23, List.forall_mem_cons.mpr ⟨cb_246_24, List.forall_mem_cons.mpr ⟨cb_246_25, List.forall_mem_cons.mpr ⟨cb_246_26, List.forall_mem_cons.mpr ⟨cb_246_27, List.forall_mem_cons.mpr ⟨cb_246_28, List.forall_mem_cons.mpr ⟨cb_246_29, List.forall_mem_cons.mpr ⟨cb_246_30, List.forall_mem_cons.mpr ⟨cb_246_31, List.forall_mem_cons.mpr ⟨cb_246_32, List.forall_mem_cons.mpr ⟨cb_246_33, List.forall_mem_cons.mpr ⟨cb_246_34, List.forall_mem_cons.mpr ⟨cb_246_35, List.forall_mem_cons.mpr ⟨cb_246_36, List.forall_mem_cons.mpr ⟨cb_246_37, List.forall_mem_cons.mpr ⟨cb_246_38, List.forall_mem_cons.mpr ⟨cb_246_39, fun _ h => absurd h List.not_mem_nil⟩⟩⟩⟩⟩⟩⟩⟩⟩⟩⟩⟩⟩⟩⟩⟩⟩⟩⟩⟩⟩⟩⟩⟩⟩⟩⟩⟩⟩⟩⟩⟩⟩⟩⟩⟩⟩⟩⟩⟩) cc_246
theorem sn_246 {W : Bool} {X : List Int32} : y_Snd (mGw W) mLT1 (J2 W X) X cx_246 := y_ok J2_J mTS2_ok1 mTC2_ok1 mRUp_ok1 (List.forall_mem_cons.mpr ⟨sn_148, List.forall_mem_cons.mpr ⟨sn_206, List.forall_mem_cons.mpr ⟨sn_207, List.forall_mem_cons.mpr ⟨sn_208, List.forall_mem_cons.mpr ⟨sn_209, List.forall_mem_cons.mpr ⟨sn_210, List.forall_mem_cons.mpr ⟨sn_211, List.forall_mem_cons.mpr ⟨sn_212, List.forall_mem_cons.mpr ⟨sn_213, List.forall_mem_cons.mpr ⟨sn_214, List.forall_mem_cons.mpr ⟨sn_215, List.forall_mem_cons.mpr ⟨sn_216, List.forall_mem_cons.mpr ⟨sn_217, List.forall_mem_cons.mpr ⟨sn_218, List.forall_mem_cons.mpr ⟨sn_219, List.forall_mem_cons.mpr ⟨sn_220, List.forall_mem_cons.mpr ⟨sn_221, List.forall_mem_cons.mpr ⟨sn_222, List.forall_mem_cons.mpr ⟨sn_223, List.forall_mem_cons.mpr ⟨sn_224, List.forall_mem_cons.mpr ⟨sn_225, List.forall_mem_cons.mpr ⟨sn_226, List.forall_mem_cons.mpr ⟨sn_227, List.forall_mem_cons.mpr ⟨sn_228, List.forall_mem_cons.mpr ⟨sn_229, List.forall_mem_cons.mpr ⟨sn_230, List.forall_mem_cons.mpr ⟨sn_231, List.forall_mem_cons.mpr ⟨sn_232, List.forall_mem_cons.mpr ⟨sn_233, List.forall_mem_cons.mpr ⟨sn_234, List.forall_mem_cons.mpr ⟨sn_235, List.forall_mem_cons.mpr ⟨sn_236, List.forall_mem_cons.mpr ⟨sn_237, List.forall_mem_cons.mpr ⟨sn_238, List.forall_mem_cons.mpr ⟨sn_239, List.forall_mem_cons.mpr ⟨sn_240, List.forall_mem_cons.mpr ⟨sn_241, List.forall_mem_cons.mpr ⟨sn_242, List.forall_mem_cons.mpr ⟨sn_243, List.forall_mem_cons.mpr ⟨sn_244, List.forall_mem_cons.mpr ⟨sn_245, fun _ h => absurd h List.not_mem_nil⟩⟩⟩⟩⟩⟩⟩⟩⟩⟩⟩⟩⟩⟩⟩⟩⟩⟩⟩⟩⟩⟩⟩⟩⟩⟩⟩⟩⟩⟩⟩⟩⟩⟩⟩⟩⟩⟩⟩⟩⟩) ck_246
end
