noncomputable section
/-! ===== readings, by program, checked by the kernel ===== -/
def cx_237p : zS := ((cx_149pi_0 (cx_149pi_1 (cx_149pi_2 (cx_149pi_3 (cx_149pi_4 []))))), [ur431, ur647, ur1034, ur1035, ur1036, ur1037, ur1038], [], [], [uV2, uV419], (cx_149pf_0 (cx_149pf_1 (cx_149pf_2 (cx_149pf_3 (cx_149pf_4 (cx_149pf_5 [])))))), [])
def cx_237q0 : zS := ((cx_149pi_0 (cx_149pi_1 (cx_149pi_2 (cx_149pi_3 (cx_149pi_4 []))))), [ur431, ur647, ur1034, ur1035, ur1036, ur1037, ur1038], [], [], [], [uF126, uF128, uF129, uF729], [uG761])
/-- State.copyFrom -/
def cx_237 : zCtx := (102, cx_237p, [cx_237q0], kc_53, 57, 1, 64)
set_option maxRecDepth 1000000 in
theorem ck_237 : x_ok mLT1 [] mTS2 mTC2 mRUp cx_237 [] [(107, [1000902])] [] (57, []) 0 60 = true := by decide +kernel
theorem sn_237 {W : Bool} {X : List Int32} : y_Snd (mGw W) mLT1 (J2 W X) X cx_237 := y_ok J2_J mTS2_ok1 mTC2_ok1 mRUp_ok1 (fun _ h => absurd h List.not_mem_nil) ck_237
def cx_238p : zS := ((cx_149pi_0 (cx_149pi_1 (cx_149pi_2 (cx_149pi_3 (cx_149pi_4 []))))), [ur431, ur644, ur1039, ur1040, ur1041, ur1042, ur1043], [], [], [uV2, uV419], (cx_149pf_0 (cx_149pf_1 (cx_149pf_2 (cx_149pf_3 (cx_149pf_4 (cx_149pf_5 [])))))), [])
def cx_238q0 : zS := ((cx_149pi_0 (cx_149pi_1 (cx_149pi_2 (cx_149pi_3 (cx_149pi_4 []))))), [ur431, ur644, ur1039, ur1040, ur1041, ur1042, ur1043], [], [], [], [uF126, uF128, uF129, uF729], [uG762])
/-- State.copyFrom -/
def cx_238 : zCtx := (102, cx_238p, [cx_238q0], kc_53, 57, 1, 64)
set_option maxRecDepth 1000000 in
theorem ck_238 : x_ok mLT1 [] mTS2 mTC2 mRUp cx_238 [] [(107, [1000903])] [] (57, []) 0 60 = true := by decide +kernel
theorem sn_238 {W : Bool} {X : List Int32} : y_Snd (mGw W) mLT1 (J2 W X) X cx_238 := y_ok J2_J mTS2_ok1 mTC2_ok1 mRUp_ok1 (fun _ h => absurd h List.not_mem_nil) ck_238
def cx_239p : zS := ((cx_149pi_0 (cx_149pi_1 (cx_149pi_2 (cx_149pi_3 (cx_149pi_4 []))))), [ur431, ur641, ur1044, ur1045, ur1046, ur1047, ur1048], [], [], [uV2, uV419], (cx_149pf_0 (cx_149pf_1 (cx_149pf_2 (cx_149pf_3 (cx_149pf_4 (cx_149pf_5 [])))))), [])
def cx_239q0 : zS := ((cx_149pi_0 (cx_149pi_1 (cx_149pi_2 (cx_149pi_3 (cx_149pi_4 []))))), [ur431, ur641, ur1044, ur1045, ur1046, ur1047, ur1048], [], [], [], [uF126, uF128, uF129, uF729], [uG763])
/-- State.copyFrom -/
def cx_239 : zCtx := (102, cx_239p, [cx_239q0], kc_53, 57, 1, 64)
set_option maxRecDepth 1000000 in
theorem ck_239 : x_ok mLT1 [] mTS2 mTC2 mRUp cx_239 [] [(107, [1000904])] [] (57, []) 0 60 = true := by decide +kernel
theorem sn_239 {W : Bool} {X : List Int32} : y_Snd (mGw W) mLT1 (J2 W X) X cx_239 := y_ok J2_J mTS2_ok1 mTC2_ok1 mRUp_ok1 (fun _ h => absurd h List.not_mem_nil) ck_239
def cx_240p : zS := ((cx_149pi_0 (cx_149pi_1 (cx_149pi_2 (cx_149pi_3 (cx_149pi_4 []))))), [ur431, ur638, ur1049, ur1050, ur1051, ur1052, ur1053], [], [], [uV2, uV419], (cx_149pf_0 (cx_149pf_1 (cx_149pf_2 (cx_149pf_3 (cx_149pf_4 (cx_149pf_5 [])))))), [])
def cx_240q0 : zS := ((cx_149pi_0 (cx_149pi_1 (cx_149pi_2 (cx_149pi_3 (cx_149pi_4 []))))), [ur431, ur638, ur1049, ur1050, ur1051, ur1052, ur1053], [], [], [], [uF126, uF128, uF129, uF729], [uG764])
/-- State.copyFrom -/
def cx_240 : zCtx := (102, cx_240p, [cx_240q0], kc_53, 57, 1, 64)
set_option maxRecDepth 1000000 in
theorem ck_240 : x_ok mLT1 [] mTS2 mTC2 mRUp cx_240 [] [(107, [1000905])] [] (57, []) 0 60 = true := by decide +kernel
theorem sn_240 {W : Bool} {X : List Int32} : y_Snd (mGw W) mLT1 (J2 W X) X cx_240 := y_ok J2_J mTS2_ok1 mTC2_ok1 mRUp_ok1 (fun _ h => absurd h List.not_mem_nil) ck_240
def cx_241p : zS := ((cx_149pi_0 (cx_149pi_1 (cx_149pi_2 (cx_149pi_3 (cx_149pi_4 []))))), [ur431, ur635, ur1054, ur1055, ur1056, ur1057, ur1058], [], [], [uV2, uV419], (cx_149pf_0 (cx_149pf_1 (cx_149pf_2 (cx_149pf_3 (cx_149pf_4 (cx_149pf_5 [])))))), [])
def cx_241q0 : zS := ((cx_149pi_0 (cx_149pi_1 (cx_149pi_2 (cx_149pi_3 (cx_149pi_4 []))))), [ur431, ur635, ur1054, ur1055, ur1056, ur1057, ur1058], [], [], [], [uF126, uF128, uF129, uF729], [uG765])
/-- State.copyFrom -/
def cx_241 : zCtx := (102, cx_241p, [cx_241q0], kc_53, 57, 1, 64)
set_option maxRecDepth 1000000 in
theorem ck_241 : x_ok mLT1 [] mTS2 mTC2 mRUp cx_241 [] [(107, [1000906])] [] (57, []) 0 60 = true := by decide +kernel
theorem sn_241 {W : Bool} {X : List Int32} : y_Snd (mGw W) mLT1 (J2 W X) X cx_241 := y_ok J2_J mTS2_ok1 mTC2_ok1 mRUp_ok1 (fun _ h => absurd h List.not_mem_nil) ck_241
def cx_242p : zS := ((cx_149pi_0 (cx_149pi_1 (cx_149pi_2 (cx_149pi_3 (cx_149pi_4 []))))), [ur431, ur633, ur1059, ur1060, ur1061, ur1062, ur1063], [], [], [uV2, uV419], (cx_149pf_0 (cx_149pf_1 (cx_149pf_2 (cx_149pf_3 (cx_149pf_4 (cx_149pf_5 [])))))), [])
def cx_242q0 : zS := ((cx_149pi_0 (cx_149pi_1 (cx_149pi_2 (cx_149pi_3 (cx_149pi_4 []))))), [ur431, ur633, ur1059, ur1060, ur1061, ur1062, ur1063], [], [], [], [uF126, uF128, uF129, uF729], [uG767])
/-- State.copyFrom -/
def cx_242 : zCtx := (102, cx_242p, [cx_242q0], kc_53, 57, 1, 64)
set_option maxRecDepth 1000000 in
theorem ck_242 : x_ok mLT1 [] mTS2 mTC2 mRUp cx_242 [] [(107, [1000907])] [] (57, []) 0 60 = true := by decide +kernel
theorem sn_242 {W : Bool} {X : List Int32} : y_Snd (mGw W) mLT1 (J2 W X) X cx_242 := y_ok J2_J mTS2_ok1 mTC2_ok1 mRUp_ok1 (fun _ h => absurd h List.not_mem_nil) ck_242
def cx_243p : zS := ((cx_149pi_0 (cx_149pi_1 (cx_149pi_2 (cx_149pi_3 (cx_149pi_4 []))))), [ur431, ur630, ur1064, ur1065, ur1066, ur1067, ur1068], [], [], [uV2, uV419], (cx_149pf_0 (cx_149pf_1 (cx_149pf_2 (cx_149pf_3 (cx_149pf_4 (cx_149pf_5 [])))))), [])
def cx_243q0 : zS := ((cx_149pi_0 (cx_149pi_1 (cx_149pi_2 (cx_149pi_3 (cx_149pi_4 []))))), [ur431, ur630, ur1064, ur1065, ur1066, ur1067, ur1068], [], [], [], [uF126, uF128, uF129, uF729], [uG769])
/-- State.copyFrom -/
def cx_243 : zCtx := (102, cx_243p, [cx_243q0], kc_53, 57, 1, 64)
set_option maxRecDepth 1000000 in
theorem ck_243 : x_ok mLT1 [] mTS2 mTC2 mRUp cx_243 [] [(107, [1000908])] [] (57, []) 0 60 = true := by decide +kernel
theorem sn_243 {W : Bool} {X : List Int32} : y_Snd (mGw W) mLT1 (J2 W X) X cx_243 := y_ok J2_J mTS2_ok1 mTC2_ok1 mRUp_ok1 (fun _ h => absurd h List.not_mem_nil) ck_243
def cx_244p : zS := ((cx_149pi_0 (cx_149pi_1 (cx_149pi_2 (cx_149pi_3 (cx_149pi_4 []))))), [ur431, ur627, ur1069, ur1070, ur1071, ur1072, ur1073], [], [], [uV2, uV419], (cx_149pf_0 (cx_149pf_1 (cx_149pf_2 (cx_149pf_3 (cx_149pf_4 (cx_149pf_5 [])))))), [])
def cx_244q0 : zS := ((cx_149pi_0 (cx_149pi_1 (cx_149pi_2 (cx_149pi_3 (cx_149pi_4 []))))), [ur431, ur627, ur1069, ur1070, ur1071, ur1072, ur1073], [], [], [], [uF126, uF128, uF129, uF729], [uG770])
/-- State.copyFrom -/
def cx_244 : zCtx := (102, cx_244p, [cx_244q0], kc_53, 57, 1, 64)
set_option maxRecDepth 1000000 in
theorem ck_244 : x_ok mLT1 [] mTS2 mTC2 mRUp cx_244 [] [(107, [1000909])] [] (57, []) 0 60 = true := by decide +kernel
theorem sn_244 {W : Bool} {X : List Int32} : y_Snd (mGw W) mLT1 (J2 W X) X cx_244 := y_ok J2_J mTS2_ok1 mTC2_ok1 mRUp_ok1 (fun _ h => absurd h List.not_mem_nil) ck_244
def cx_245p : zS := ((cx_149pi_0 (cx_149pi_1 (cx_149pi_2 (cx_149pi_3 (cx_149pi_4 []))))), [ur431, ur622, ur1074, ur1075, ur1076, ur1077, ur1078], [], [], [uV2, uV419], (cx_149pf_0 (cx_149pf_1 (cx_149pf_2 (cx_149pf_3 (cx_149pf_4 (cx_149pf_5 [])))))), [])
def cx_245q0 : zS := ((cx_149pi_0 (cx_149pi_1 (cx_149pi_2 (cx_149pi_3 (cx_149pi_4 []))))), [ur431, ur622, ur1074, ur1075, ur1076, ur1077, ur1078], [], [], [], [uF126, uF128, uF129, uF729], [uG771])
/-- State.copyFrom -/
def cx_245 : zCtx := (102, cx_245p, [cx_245q0], kc_53, 57, 1, 64)
set_option maxRecDepth 1000000 in
theorem ck_245 : x_ok mLT1 [] mTS2 mTC2 mRUp cx_245 [] [(107, [1000910])] [] (57, []) 0 60 = true := by decide +kernel
theorem sn_245 {W : Bool} {X : List Int32} : y_Snd (mGw W) mLT1 (J2 W X) X cx_245 := y_ok J2_J mTS2_ok1 mTC2_ok1 mRUp_ok1 (fun _ h => absurd h List.not_mem_nil) ck_245
/-- History.takeBack -/
def cx_246 : zCtx := (42, ([ui0, ui437, ui438, (0, 6), (0, 6), ui49, ui49], [ur439, ur431], [], [], [uV2, uV419], [uF181, uF182, uF529, uF530, uF531, uF532], [uG772, uG620]), [([ui0, ui437, ui438, (0, 6), (0, 6), ui49, ui49], [ur439, ur431], [uL256], [], [uV62], [uF182, uF529, uF530, uF531, uF532], [uG620]), ([ui0, ui437, ui438, (0, 6), (0, 6), ui49, ui49, (0, 6), ui49, ui49], [ur439, ur431], [uL149], [], [uV64], [uF778, uF529, uF1079, uF420, uF421], [(245, [uL23, uL79, uL131, uL163, uL149]), (242, [uL23, uL9, uL149, uL63])])], kc_54, 82, 2, 85)
def cq_246 : List zCtx := [cx_148, cx_206, cx_207, cx_208, cx_209, cx_210, cx_211, cx_212, cx_213, cx_214, cx_215, cx_216, cx_217, cx_218, cx_219, cx_220, cx_221, cx_222, cx_223, cx_224, cx_225, cx_226, cx_227, cx_228, cx_229, cx_230, cx_231, cx_232, cx_233, cx_234, cx_235, cx_236, cx_237, cx_238, cx_239, cx_240, cx_241, cx_242, cx_243, cx_244, cx_245]
def cs_246 : List (Nat × List Nat) := [(14, [0]), (30, [1, 2, 3, 4, 5, 6, 7, 8, 9, 10, 11, 12, 13, 14, 15, 16, 17, 18, 19, 20, 21, 22, 23, 24, 25, 26, 27, 28, 29, 30, 31, 32, 33, 34, 35, 36, 37, 38, 39, 40])]
def hs_246 : List (Nat × List Nat) := [(33, [1000687])]
def nd_246_0p : zS := ([ui0, ui437, ui1080, (0, 6), (0, 6), ui49, ui49], [ur439, ur431, ur724], [], [uV2, uV419, uV777], [uV777, uV419], [uF181, uF182, uF529, uF530, uF531, uF532], [(108, [uL1081, uL624, uL63]), uG772, uG620])
def nd_246_0 : zN := (30, nd_246_0p, uL264)
def nd_246_1p : zS := ([ui0, ui437, ui1080, (0, 6), (0, 6), ui49, ui49], [ur439, ur431, ur722], [], [uV2, uV419, uV777], [uV777, uV419], [uF181, uF182, uF529, uF530, uF531, uF532], [(108, [uL1081, uL624, uL65]), uG772, uG620])
def nd_246_1 : zN := (30, nd_246_1p, uL264)
def nd_246_2p : zS := ([ui0, ui437, ui1080, (0, 6), (0, 6), ui49, ui49], [ur439, ur431, ur720], [], [uV2, uV419, uV777], [uV777, uV419], [uF181, uF182, uF529, uF530, uF531, uF532], [(108, [uL1081, uL624, uL114]), uG772, uG620])
def nd_246_2 : zN := (30, nd_246_2p, uL264)
def nd_246_3p : zS := ([ui0, ui437, ui1080, (0, 6), (0, 6), ui49, ui49], [ur439, ur431, ur718], [], [uV2, uV419, uV777], [uV777, uV419], [uF181, uF182, uF529, uF530, uF531, uF532], [(108, [uL1081, uL624, uL209]), uG772, uG620])
def nd_246_3 : zN := (30, nd_246_3p, uL264)
def nd_246_4p : zS := ([ui0, ui437, ui1080, (0, 6), (0, 6), ui49, ui49], [ur439, ur431, ur716], [], [uV2, uV419, uV777], [uV777, uV419], [uF181, uF182, uF529, uF530, uF531, uF532], [(108, [uL1081, uL624, uL36]), uG772, uG620])
def nd_246_4 : zN := (30, nd_246_4p, uL264)
def nd_246_5p : zS := ([ui0, ui437, ui1080, (0, 6), (0, 6), ui49, ui49], [ur439, ur431, ur714], [], [uV2, uV419, uV777], [uV777, uV419], [uF181, uF182, uF529, uF530, uF531, uF532], [(108, [uL1081, uL624, uL244]), uG772, uG620])
def nd_246_5 : zN := (30, nd_246_5p, uL264)
def nd_246_6p : zS := ([ui0, ui437, ui1080, (0, 6), (0, 6), ui49, ui49], [ur439, ur431, ur712], [], [uV2, uV419, uV777], [uV777, uV419], [uF181, uF182, uF529, uF530, uF531, uF532], [(108, [uL1081, uL624, uL250]), uG772, uG620])
def nd_246_6 : zN := (30, nd_246_6p, uL264)
def nd_246_7p : zS := ([ui0, ui437, ui1080, (0, 6), (0, 6), ui49, ui49], [ur439, ur431, ur710], [], [uV2, uV419, uV777], [uV777, uV419], [uF181, uF182, uF529, uF530, uF531, uF532], [(108, [uL1081, uL624, uL258]), uG772, uG620])
def nd_246_7 : zN := (30, nd_246_7p, uL264)
def nd_246_8p : zS := ([ui0, ui437, ui1080, (0, 6), (0, 6), ui49, ui49], [ur439, ur431, ur708], [], [uV2, uV419, uV777], [uV777, uV419], [uF181, uF182, uF529, uF530, uF531, uF532], [(108, [uL1081, uL624, uL34]), uG772, uG620])
def nd_246_8 : zN := (30, nd_246_8p, uL264)
def nd_246_9p : zS := ([ui0, ui437, ui1080, (0, 6), (0, 6), ui49, ui49], [ur439, ur431, ur706], [], [uV2, uV419, uV777], [uV777, uV419], [uF181, uF182, uF529, uF530, uF531, uF532], [(108, [uL1081, uL624, uL264]), uG772, uG620])
def nd_246_9 : zN := (30, nd_246_9p, uL264)
def nd_246_10p : zS := ([ui0, ui437, ui1080, (0, 6), (0, 6), ui49, ui49], [ur439, ur431, ur704], [], [uV2, uV419, uV777], [uV777, uV419], [uF181, uF182, uF529, uF530, uF531, uF532], [(108, [uL1081, uL624, uL281]), uG772, uG620])
def nd_246_10 : zN := (30, nd_246_10p, uL264)
def nd_246_11p : zS := ([ui0, ui437, ui1080, (0, 6), (0, 6), ui49, ui49], [ur439, ur431, ur702], [], [uV2, uV419, uV777], [uV777, uV419], [uF181, uF182, uF529, uF530, uF531, uF532], [(108, [uL1081, uL624, uL283]), uG772, uG620])
def nd_246_11 : zN := (30, nd_246_11p, uL264)
def nd_246_12p : zS := ([ui0, ui437, ui1080, (0, 6), (0, 6), ui49, ui49], [ur439, ur431, ur700], [], [uV2, uV419, uV777], [uV777, uV419], [uF181, uF182, uF529, uF530, uF531, uF532], [(108, [uL1081, uL624, uL285]), uG772, uG620])
def nd_246_12 : zN := (30, nd_246_12p, uL264)
def nd_246_13p : zS := ([ui0, ui437, ui1080, (0, 6), (0, 6), ui49, ui49], [ur439, ur431, ur698], [], [uV2, uV419, uV777], [uV777, uV419], [uF181, uF182, uF529, uF530, uF531, uF532], [(108, [uL1081, uL624, uL265]), uG772, uG620])
def nd_246_13 : zN := (30, nd_246_13p, uL264)
def nd_246_14p : zS := ([ui0, ui437, ui1080, (0, 6), (0, 6), ui49, ui49], [ur439, ur431, ur695], [], [uV2, uV419, uV777], [uV777, uV419], [uF181, uF182, uF529, uF530, uF531, uF532], [(108, [uL1081, uL624, uL696]), uG772, uG620])
def nd_246_14 : zN := (30, nd_246_14p, uL264)
def nd_246_15p : zS := ([ui0, ui437, ui1080, (0, 6), (0, 6), ui49, ui49], [ur439, ur431, ur692], [], [uV2, uV419, uV777], [uV777, uV419], [uF181, uF182, uF529, uF530, uF531, uF532], [(108, [uL1081, uL624, uL693]), uG772, uG620])
def nd_246_15 : zN := (30, nd_246_15p, uL264)
def nd_246_16p : zS := ([ui0, ui437, ui1080, (0, 6), (0, 6), ui49, ui49], [ur439, ur431, ur690], [], [uV2, uV419, uV777], [uV777, uV419], [uF181, uF182, uF529, uF530, uF531, uF532], [(108, [uL1081, uL624, uL539]), uG772, uG620])
def nd_246_16 : zN := (30, nd_246_16p, uL264)
def nd_246_17p : zS := ([ui0, ui437, ui1080, (0, 6), (0, 6), ui49, ui49], [ur439, ur431, ur687], [], [uV2, uV419, uV777], [uV777, uV419], [uF181, uF182, uF529, uF530, uF531, uF532], [(108, [uL1081, uL624, uL688]), uG772, uG620])
def nd_246_17 : zN := (30, nd_246_17p, uL264)
def nd_246_18p : zS := ([ui0, ui437, ui1080, (0, 6), (0, 6), ui49, ui49], [ur439, ur431, ur684], [], [uV2, uV419, uV777], [uV777, uV419], [uF181, uF182, uF529, uF530, uF531, uF532], [(108, [uL1081, uL624, uL685]), uG772, uG620])
def nd_246_18 : zN := (30, nd_246_18p, uL264)
def nd_246_19p : zS := ([ui0, ui437, ui1080, (0, 6), (0, 6), ui49, ui49], [ur439, ur431, ur681], [], [uV2, uV419, uV777], [uV777, uV419], [uF181, uF182, uF529, uF530, uF531, uF532], [(108, [uL1081, uL624, uL682]), uG772, uG620])
def nd_246_19 : zN := (30, nd_246_19p, uL264)
def nd_246_20p : zS := ([ui0, ui437, ui1080, (0, 6), (0, 6), ui49, ui49], [ur439, ur431, ur678], [], [uV2, uV419, uV777], [uV777, uV419], [uF181, uF182, uF529, uF530, uF531, uF532], [(108, [uL1081, uL624, uL679]), uG772, uG620])
def nd_246_20 : zN := (30, nd_246_20p, uL264)
def nd_246_21p : zS := ([ui0, ui437, ui1080, (0, 6), (0, 6), ui49, ui49], [ur439, ur431, ur675], [], [uV2, uV419, uV777], [uV777, uV419], [uF181, uF182, uF529, uF530, uF531, uF532], [(108, [uL1081, uL624, uL676]), uG772, uG620])
def nd_246_21 : zN := (30, nd_246_21p, uL264)
def nd_246_22p : zS := ([ui0, ui437, ui1080, (0, 6), (0, 6), ui49, ui49], [ur439, ur431, ur672], [], [uV2, uV419, uV777], [uV777, uV419], [uF181, uF182, uF529, uF530, uF531, uF532], [(108, [uL1081, uL624, uL673]), uG772, uG620])
def nd_246_22 : zN := (30, nd_246_22p, uL264)
def nd_246_23p : zS := ([ui0, ui437, ui1080, (0, 6), (0, 6), ui49, ui49], [ur439, ur431, ur669], [], [uV2, uV419, uV777], [uV777, uV419], [uF181, uF182, uF529, uF530, uF531, uF532], [(108, [uL1081, uL624, uL670]), uG772, uG620])
def nd_246_23 : zN := (30, nd_246_23p, uL264)
def nd_246_24p : zS := ([ui0, ui437, ui1080, (0, 6), (0, 6), ui49, ui49], [ur439, ur431, ur667], [], [uV2, uV419, uV777], [uV777, uV419], [uF181, uF182, uF529, uF530, uF531, uF532], [(108, [uL1081, uL624, uL540]), uG772, uG620])
def nd_246_24 : zN := (30, nd_246_24p, uL264)
def nd_246_25p : zS := ([ui0, ui437, ui1080, (0, 6), (0, 6), ui49, ui49], [ur439, ur431, ur664], [], [uV2, uV419, uV777], [uV777, uV419], [uF181, uF182, uF529, uF530, uF531, uF532], [(108, [uL1081, uL624, uL665]), uG772, uG620])
def nd_246_25 : zN := (30, nd_246_25p, uL264)
def nd_246_26p : zS := ([ui0, ui437, ui1080, (0, 6), (0, 6), ui49, ui49], [ur439, ur431, ur661], [], [uV2, uV419, uV777], [uV777, uV419], [uF181, uF182, uF529, uF530, uF531, uF532], [(108, [uL1081, uL624, uL662]), uG772, uG620])
def nd_246_26 : zN := (30, nd_246_26p, uL264)
def nd_246_27p : zS := ([ui0, ui437, ui1080, (0, 6), (0, 6), ui49, ui49], [ur439, ur431, ur658], [], [uV2, uV419, uV777], [uV777, uV419], [uF181, uF182, uF529, uF530, uF531, uF532], [(108, [uL1081, uL624, uL659]), uG772, uG620])
def nd_246_27 : zN := (30, nd_246_27p, uL264)
def nd_246_28p : zS := ([ui0, ui437, ui1080, (0, 6), (0, 6), ui49, ui49], [ur439, ur431, ur655], [], [uV2, uV419, uV777], [uV777, uV419], [uF181, uF182, uF529, uF530, uF531, uF532], [(108, [uL1081, uL624, uL656]), uG772, uG620])
def nd_246_28 : zN := (30, nd_246_28p, uL264)
def nd_246_29p : zS := ([ui0, ui437, ui1080, (0, 6), (0, 6), ui49, ui49], [ur439, ur431, ur652], [], [uV2, uV419, uV777], [uV777, uV419], [uF181, uF182, uF529, uF530, uF531, uF532], [(108, [uL1081, uL624, uL653]), uG772, uG620])
def nd_246_29 : zN := (30, nd_246_29p, uL264)
def nd_246_30p : zS := ([ui0, ui437, ui1080, (0, 6), (0, 6), ui49, ui49], [ur439, ur431, ur649], [], [uV2, uV419, uV777], [uV777, uV419], [uF181, uF182, uF529, uF530, uF531, uF532], [(108, [uL1081, uL624, uL650]), uG772, uG620])
def nd_246_30 : zN := (30, nd_246_30p, uL264)
def nd_246_31p : zS := ([ui0, ui437, ui1080, (0, 6), (0, 6), ui49, ui49], [ur439, ur431, ur647], [], [uV2, uV419, uV777], [uV777, uV419], [uF181, uF182, uF529, uF530, uF531, uF532], [(108, [uL1081, uL624, uL538]), uG772, uG620])
def nd_246_31 : zN := (30, nd_246_31p, uL264)
def nd_246_32p : zS := ([ui0, ui437, ui1080, (0, 6), (0, 6), ui49, ui49], [ur439, ur431, ur644], [], [uV2, uV419, uV777], [uV777, uV419], [uF181, uF182, uF529, uF530, uF531, uF532], [(108, [uL1081, uL624, uL645]), uG772, uG620])
def nd_246_32 : zN := (30, nd_246_32p, uL264)
def nd_246_33p : zS := ([ui0, ui437, ui1080, (0, 6), (0, 6), ui49, ui49], [ur439, ur431, ur641], [], [uV2, uV419, uV777], [uV777, uV419], [uF181, uF182, uF529, uF530, uF531, uF532], [(108, [uL1081, uL624, uL642]), uG772, uG620])
def nd_246_33 : zN := (30, nd_246_33p, uL264)
def nd_246_34p : zS := ([ui0, ui437, ui1080, (0, 6), (0, 6), ui49, ui49], [ur439, ur431, ur638], [], [uV2, uV419, uV777], [uV777, uV419], [uF181, uF182, uF529, uF530, uF531, uF532], [(108, [uL1081, uL624, uL639]), uG772, uG620])
def nd_246_34 : zN := (30, nd_246_34p, uL264)
def nd_246_35p : zS := ([ui0, ui437, ui1080, (0, 6), (0, 6), ui49, ui49], [ur439, ur431, ur635], [], [uV2, uV419, uV777], [uV777, uV419], [uF181, uF182, uF529, uF530, uF531, uF532], [(108, [uL1081, uL624, uL636]), uG772, uG620])
def nd_246_35 : zN := (30, nd_246_35p, uL264)
def nd_246_36p : zS := ([ui0, ui437, ui1080, (0, 6), (0, 6), ui49, ui49], [ur439, ur431, ur633], [], [uV2, uV419, uV777], [uV777, uV419], [uF181, uF182, uF529, uF530, uF531, uF532], [(108, [uL1081, uL624, uL4]), uG772, uG620])
def nd_246_36 : zN := (30, nd_246_36p, uL264)
def nd_246_37p : zS := ([ui0, ui437, ui1080, (0, 6), (0, 6), ui49, ui49], [ur439, ur431, ur630], [], [uV2, uV419, uV777], [uV777, uV419], [uF181, uF182, uF529, uF530, uF531, uF532], [(108, [uL1081, uL624, uL631]), uG772, uG620])
def nd_246_37 : zN := (30, nd_246_37p, uL264)
def nd_246_38p : zS := ([ui0, ui437, ui1080, (0, 6), (0, 6), ui49, ui49], [ur439, ur431, ur627], [], [uV2, uV419, uV777], [uV777, uV419], [uF181, uF182, uF529, uF530, uF531, uF532], [(108, [uL1081, uL624, uL628]), uG772, uG620])
def nd_246_38 : zN := (30, nd_246_38p, uL264)
def nd_246_39p : zS := ([ui0, ui437, ui1080, (0, 6), (0, 6), ui49, ui49], [ur439, ur431, ur622], [], [uV2, uV419, uV777], [uV777, uV419], [uF181, uF182, uF529, uF530, uF531, uF532], [(108, [uL1081, uL624, uL625]), uG772, uG620])
def nd_246_39 : zN := (30, nd_246_39p, uL264)
def ns_246 : List zN := [nd_246_0, nd_246_1, nd_246_2, nd_246_3, nd_246_4, nd_246_5, nd_246_6, nd_246_7, nd_246_8, nd_246_9, nd_246_10, nd_246_11, nd_246_12, nd_246_13, nd_246_14, nd_246_15, nd_246_16, nd_246_17, nd_246_18, nd_246_19, nd_246_20, nd_246_21, nd_246_22, nd_246_23, nd_246_24, nd_246_25, nd_246_26, nd_246_27, nd_246_28, nd_246_29, nd_246_30, nd_246_31, nd_246_32, nd_246_33, nd_246_34, nd_246_35, nd_246_36, nd_246_37, nd_246_38, nd_246_39]
set_option maxRecDepth 1000000 in
theorem ca_246 : x_okA mLT1 cq_246 mTS2 mTC2 mRUp cx_246 cs_246 hs_246 ns_246 (25, []) 57 18 = true := by decide +kernel
set_option maxRecDepth 1000000 in
theorem cb_246_0 : x_okB mLT1 cq_246 mTS2 mTC2 mRUp cx_246 cs_246 hs_246 ns_246 (25, []) 57 18 nd_246_0 = true := by decide +kernel
set_option maxRecDepth 1000000 in
theorem cb_246_1 : x_okB mLT1 cq_246 mTS2 mTC2 mRUp cx_246 cs_246 hs_246 ns_246 (25, []) 57 18 nd_246_1 = true := by decide +kernel
set_option maxRecDepth 1000000 in
theorem cb_246_2 : x_okB mLT1 cq_246 mTS2 mTC2 mRUp cx_246 cs_246 hs_246 ns_246 (25, []) 57 18 nd_246_2 = true := by decide +kernel
set_option maxRecDepth 1000000 in
theorem cb_246_3 : x_okB mLT1 cq_246 mTS2 mTC2 mRUp cx_246 cs_246 hs_246 ns_246 (25, []) 57 18 nd_246_3 = true := by decide +kernel
set_option maxRecDepth 1000000 in
theorem cb_246_4 : x_okB mLT1 cq_246 mTS2 mTC2 mRUp cx_246 cs_246 hs_246 ns_246 (25, []) 57 18 nd_246_4 = true := by decide +kernel
set_option maxRecDepth 1000000 in
theorem cb_246_5 : x_okB mLT1 cq_246 mTS2 mTC2 mRUp cx_246 cs_246 hs_246 ns_246 (25, []) 57 18 nd_246_5 = true := by decide +kernel
set_option maxRecDepth 1000000 in
theorem cb_246_6 : x_okB mLT1 cq_246 mTS2 mTC2 mRUp cx_246 cs_246 hs_246 ns_246 (25, []) 57 18 nd_246_6 = true := by decide +kernel
set_option maxRecDepth 1000000 in
theorem cb_246_7 : x_okB mLT1 cq_246 mTS2 mTC2 mRUp cx_246 cs_246 hs_246 ns_246 (25, []) 57 18 nd_246_7 = true := by decide +kernel
set_option maxRecDepth 1000000 in
theorem cb_246_8 : x_okB mLT1 cq_246 mTS2 mTC2 mRUp cx_246 cs_246 hs_246 ns_246 (25, []) 57 18 nd_246_8 = true := by decide +kernel
set_option maxRecDepth 1000000 in
theorem cb_246_9 : x_okB mLT1 cq_246 mTS2 mTC2 mRUp cx_246 cs_246 hs_246 ns_246 (25, []) 57 18 nd_246_9 = true := by decide +kernel
set_option maxRecDepth 1000000 in
theorem cb_246_10 : x_okB mLT1 cq_246 mTS2 mTC2 mRUp cx_246 cs_246 hs_246 ns_246 (25, []) 57 18 nd_246_10 = true := by decide +kernel
set_option maxRecDepth 1000000 in
theorem cb_246_11 : x_okB mLT1 cq_246 mTS2 mTC2 mRUp cx_246 cs_246 hs_246 ns_246 (25, []) 57 18 nd_246_11 = true := by decide +kernel
set_option maxRecDepth 1000000 in
theorem cb_246_12 : x_okB mLT1 cq_246 mTS2 mTC2 mRUp cx_246 cs_246 hs_246 ns_246 (25, []) 57 18 nd_246_12 = true := by decide +kernel
set_option maxRecDepth 1000000 in
theorem cb_246_13 : x_okB mLT1 cq_246 mTS2 mTC2 mRUp cx_246 cs_246 hs_246 ns_246 (25, []) 57 18 nd_246_13 = true := by decide +kernel
set_option maxRecDepth 1000000 in
theorem cb_246_14 : x_okB mLT1 cq_246 mTS2 mTC2 mRUp cx_246 cs_246 hs_246 ns_246 (25, []) 57 18 nd_246_14 = true := by decide +kernel
set_option maxRecDepth 1000000 in
theorem cb_246_15 : x_okB mLT1 cq_246 mTS2 mTC2 mRUp cx_246 cs_246 hs_246 ns_246 (25, []) 57 18 nd_246_15 = true := by decide +kernel
set_option maxRecDepth 1000000 in
theorem cb_246_16 : x_okB mLT1 cq_246 mTS2 mTC2 mRUp cx_246 cs_246 hs_246 ns_246 (25, []) 57 18 nd_246_16 = true := by decide +kernel
set_option maxRecDepth 1000000 in
theorem cb_246_17 : x_okB mLT1 cq_246 mTS2 mTC2 mRUp cx_246 cs_246 hs_246 ns_246 (25, []) 57 18 nd_246_17 = true := by decide +kernel
set_option maxRecDepth 1000000 in
theorem cb_246_18 : x_okB mLT1 cq_246 mTS2 mTC2 mRUp cx_246 cs_246 hs_246 ns_246 (25, []) 57 18 nd_246_18 = true := by decide +kernel
set_option maxRecDepth 1000000 in
theorem cb_246_19 : x_okB mLT1 cq_246 mTS2 mTC2 mRUp cx_246 cs_246 hs_246 ns_246 (25, []) 57 18 nd_246_19 = true := by decide +kernel
set_option maxRecDepth 1000000 in
theorem cb_246_20 : x_okB mLT1 cq_246 mTS2 mTC2 mRUp cx_246 cs_246 hs_246 ns_246 (25, []) 57 18 nd_246_20 = true := by decide +kernel
set_option maxRecDepth 1000000 in
theorem cb_246_21 : x_okB mLT1 cq_246 mTS2 mTC2 mRUp cx_246 cs_246 hs_246 ns_246 (25, []) 57 18 nd_246_21 = true := by decide +kernel
set_option maxRecDepth 1000000 in
theorem cb_246_22 : x_okB mLT1 cq_246 mTS2 mTC2 mRUp cx_246 cs_246 hs_246 ns_246 (25, []) 57 18 nd_246_22 = true := by decide +kernel
set_option maxRecDepth 1000000 in
theorem cb_246_23 : x_okB mLT1 cq_246 mTS2 mTC2 mRUp cx_246 cs_246 hs_246 ns_246 (25, []) 57 18 nd_246_23 = true := by decide +kernel
set_option maxRecDepth 1000000 in
theorem cb_246_24 : x_okB mLT1 cq_246 mTS2 mTC2 mRUp cx_246 cs_246 hs_246 ns_246 (25, []) 57 18 nd_246_24 = true := by decide +kernel
set_option maxRecDepth 1000000 in
theorem cb_246_25 : x_okB mLT1 cq_246 mTS2 mTC2 mRUp cx_246 cs_246 hs_246 ns_246 (25, []) 57 18 nd_246_25 = true := by decide +kernel
set_option maxRecDepth 1000000 in
theorem cb_246_26 : x_okB mLT1 cq_246 mTS2 mTC2 mRUp cx_246 cs_246 hs_246 ns_246 (25, []) 57 18 nd_246_26 = true := by decide +kernel
set_option maxRecDepth 1000000 in
theorem cb_246_27 : x_okB mLT1 cq_246 mTS2 mTC2 mRUp cx_246 cs_246 hs_246 ns_246 (25, []) 57 18 nd_246_27 = true := by decide +kernel
set_option maxRecDepth 1000000 in
theorem cb_246_28 : x_okB mLT1 cq_246 mTS2 mTC2 mRUp cx_246 cs_246 hs_246 ns_246 (25, []) 57 18 nd_246_28 = true := by decide +kernel
set_option maxRecDepth 1000000 in
theorem cb_246_29 : x_okB mLT1 cq_246 mTS2 mTC2 mRUp cx_246 cs_246 hs_246 ns_246 (25, []) 57 18 nd_246_29 = true := by decide +kernel
set_option maxRecDepth 1000000 in
theorem cb_246_30 : x_okB mLT1 cq_246 mTS2 mTC2 mRUp cx_246 cs_246 hs_246 ns_246 (25, []) 57 18 nd_246_30 = true := by decide +kernel
set_option maxRecDepth 1000000 in
theorem cb_246_31 : x_okB mLT1 cq_246 mTS2 mTC2 mRUp cx_246 cs_246 hs_246 ns_246 (25, []) 57 18 nd_246_31 = true := by decide +kernel
set_option maxRecDepth 1000000 in
theorem cb_246_32 : x_okB mLT1 cq_246 mTS2 mTC2 mRUp cx_246 cs_246 hs_246 ns_246 (25, []) 57 18 nd_246_32 = true := by decide +kernel
set_option maxRecDepth 1000000 in
theorem cb_246_33 : x_okB mLT1 cq_246 mTS2 mTC2 mRUp cx_246 cs_246 hs_246 ns_246 (25, []) 57 18 nd_246_33 = true := by decide +kernel
set_option maxRecDepth 1000000 in
theorem cb_246_34 : x_okB mLT1 cq_246 mTS2 mTC2 mRUp cx_246 cs_246 hs_246 ns_246 (25, []) 57 18 nd_246_34 = true := by decide +kernel
set_option maxRecDepth 1000000 in
theorem cb_246_35 : x_okB mLT1 cq_246 mTS2 mTC2 mRUp cx_246 cs_246 hs_246 ns_246 (25, []) 57 18 nd_246_35 = true := by decide +kernel
set_option maxRecDepth 1000000 in
theorem cb_246_36 : x_okB mLT1 cq_246 mTS2 mTC2 mRUp cx_246 cs_246 hs_246 ns_246 (25, []) 57 18 nd_246_36 = true := by decide +kernel
set_option maxRecDepth 1000000 in
theorem cb_246_37 : x_okB mLT1 cq_246 mTS2 mTC2 mRUp cx_246 cs_246 hs_246 ns_246 (25, []) 57 18 nd_246_37 = true := by decide +kernel
set_option maxRecDepth 1000000 in
theorem cb_246_38 : x_okB mLT1 cq_246 mTS2 mTC2 mRUp cx_246 cs_246 hs_246 ns_246 (25, []) 57 18 nd_246_38 = true := by decide +kernel
set_option maxRecDepth 1000000 in
theorem cb_246_39 : x_okB mLT1 cq_246 mTS2 mTC2 mRUp cx_246 cs_246 hs_246 ns_246 (25, []) 57 18 nd_246_39 = true := by decide +kernel
set_option maxRecDepth 1000000 in
theorem cc_246 : x_okC mLT1 cq_246 mTS2 mTC2 mRUp cx_246 cs_246 hs_246 ns_246 (25, []) 57 18 = true := by decide +kernel
theorem ck_246 : x_ok mLT1 cq_246 mTS2 mTC2 mRUp cx_246 cs_246 hs_246 ns_246 (25, []) 57 18 = true := x_ok_of ca_246 (List.forall_mem_cons.mpr ⟨cb_246_0, List.forall_mem_cons.mpr ⟨cb_246_1, List.forall_mem_cons.mpr ⟨cb_246_2, List.forall_mem_cons.mpr ⟨cb_246_3, List.forall_mem_cons.mpr ⟨cb_246_4, List.forall_mem_cons.mpr ⟨cb_246_5, List.forall_mem_cons.mpr ⟨cb_246_6, List.forall_mem_cons.mpr ⟨cb_246_7, List.forall_mem_cons.mpr ⟨cb_246_8, List.forall_mem_cons.mpr ⟨cb_246_9, List.forall_mem_cons.mpr ⟨cb_246_10, List.forall_mem_cons.mpr ⟨cb_246_11, List.forall_mem_cons.mpr ⟨cb_246_12, List.forall_mem_cons.mpr ⟨cb_246_13, List.forall_mem_cons.mpr ⟨cb_246_14, List.forall_mem_cons.mpr ⟨cb_246_15, List.forall_mem_cons.mpr ⟨cb_246_16, List.forall_mem_cons.mpr ⟨cb_246_17, List.forall_mem_cons.mpr ⟨cb_246_18, List.forall_mem_cons.mpr ⟨cb_246_19, List.forall_mem_cons.mpr ⟨cb_246_20, List.forall_mem_cons.mpr ⟨cb_246_21, List.forall_mem_cons.mpr ⟨cb_246_22, List.forall_mem_cons.mpr ⟨cb_246_23, List.forall_mem_cons.mpr ⟨cb_246_24, List.forall_mem_cons.mpr ⟨cb_246_25, List.forall_mem_cons.mpr ⟨cb_246_26, List.forall_mem_cons.mpr ⟨cb_246_27, List.forall_mem_cons.mpr ⟨cb_246_28, List.forall_mem_cons.mpr ⟨cb_246_29, List.forall_mem_cons.mpr ⟨cb_246_30, List.forall_mem_cons.mpr ⟨cb_246_31, List.forall_mem_cons.mpr ⟨cb_246_32, List.forall_mem_cons.mpr ⟨cb_246_33, List.forall_mem_cons.mpr ⟨cb_246_34, List.forall_mem_cons.mpr ⟨cb_246_35, List.forall_mem_cons.mpr ⟨cb_246_36, List.forall_mem_cons.mpr ⟨cb_246_37, List.forall_mem_cons.mpr ⟨cb_246_38, List.forall_mem_cons.mpr ⟨cb_246_39, fun _ h => absurd h List.not_mem_nil⟩⟩⟩⟩⟩⟩⟩⟩⟩⟩⟩⟩⟩⟩⟩⟩⟩⟩⟩⟩⟩⟩⟩⟩⟩⟩⟩⟩⟩⟩⟩⟩⟩⟩⟩⟩⟩⟩⟩⟩) cc_246
theorem sn_246 {W : Bool} {X : List Int32} : y_Snd (mGw W) mLT1 (J2 W X) X cx_246 := y_ok J2_J mTS2_ok1 mTC2_ok1 mRUp_ok1 (List.forall_mem_cons.mpr ⟨sn_148, List.forall_mem_cons.mpr ⟨sn_206, List.forall_mem_cons.mpr ⟨sn_207, List.forall_mem_cons.mpr ⟨sn_208, List.forall_mem_cons.mpr ⟨sn_209, List.forall_mem_cons.mpr ⟨sn_210, List.forall_mem_cons.mpr ⟨sn_211, List.forall_mem_cons.mpr ⟨sn_212, List.forall_mem_cons.mpr ⟨sn_213, List.forall_mem_cons.mpr ⟨sn_214, List.forall_mem_cons.mpr ⟨sn_215, List.forall_mem_cons.mpr ⟨sn_216, List.forall_mem_cons.mpr ⟨sn_217, List.forall_mem_cons.mpr ⟨sn_218, List.forall_mem_cons.mpr ⟨sn_219, List.forall_mem_cons.mpr ⟨sn_220, List.forall_mem_cons.mpr ⟨sn_221, List.forall_mem_cons.mpr ⟨sn_222, List.forall_mem_cons.mpr ⟨sn_223, List.forall_mem_cons.mpr ⟨sn_224, List.forall_mem_cons.mpr ⟨sn_225, List.forall_mem_cons.mpr ⟨sn_226, List.forall_mem_cons.mpr ⟨sn_227, List.forall_mem_cons.mpr ⟨sn_228, List.forall_mem_cons.mpr ⟨sn_229, List.forall_mem_cons.mpr ⟨sn_230, List.forall_mem_cons.mpr ⟨sn_231, List.forall_mem_cons.mpr ⟨sn_232, List.forall_mem_cons.mpr ⟨sn_233, List.forall_mem_cons.mpr ⟨sn_234, List.forall_mem_cons.mpr ⟨sn_235, List.forall_mem_cons.mpr ⟨sn_236, List.forall_mem_cons.mpr ⟨sn_237, List.forall_mem_cons.mpr ⟨sn_238, List.forall_mem_cons.mpr ⟨sn_239, List.forall_mem_cons.mpr ⟨sn_240, List.forall_mem_cons.mpr ⟨sn_241, List.forall_mem_cons.mpr ⟨sn_242, List.forall_mem_cons.mpr ⟨sn_243, List.forall_mem_cons.mpr ⟨sn_244, List.forall_mem_cons.mpr ⟨sn_245, fun _ h => absurd h List.not_mem_nil⟩⟩⟩⟩⟩⟩⟩⟩⟩⟩⟩⟩⟩⟩⟩⟩⟩⟩⟩⟩⟩⟩⟩⟩⟩⟩⟩⟩⟩⟩⟩⟩⟩⟩⟩⟩⟩⟩⟩⟩⟩) ck_246
end
