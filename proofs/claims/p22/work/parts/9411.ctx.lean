noncomputable section
/-! ===== readings, by program, checked by the kernel ===== -/
def cx_213p : zS := ((cx_149pi_0 (cx_149pi_1 (cx_149pi_2 (cx_149pi_3 (cx_149pi_4 []))))), [ur431, ur710, ur914, ur915, ur916, ur917, ur918], [], [], [uV2, uV419], (cx_149pf_0 (cx_149pf_1 (cx_149pf_2 (cx_149pf_3 (cx_149pf_4 (cx_149pf_5 [])))))), [])
def cx_213q0 : zS := ((cx_149pi_0 (cx_149pi_1 (cx_149pi_2 (cx_149pi_3 (cx_149pi_4 []))))), [ur431, ur710, ur914, ur915, ur916, ur917, ur918], [], [], [], [uF126, uF128, uF129, uF729], [uG737])
/-- State.copyFrom -/
def cx_213 : zCtx := (102, cx_213p, [cx_213q0], kc_53, 57, 1, 64)
set_option maxRecDepth 1000000 in
theorem ck_213 : x_ok mLT1 [] mTS2 mTC2 mRUp cx_213 [] [(107, [1000878])] [] (57, []) 0 60 = true := by decide +kernel
theorem sn_213 {W : Bool} {X : List Int32} : y_Snd (mGw W) mLT1 (J2 W X) X cx_213 := y_ok J2_J mTS2_ok1 mTC2_ok1 mRUp_ok1 (fun _ h => absurd h List.not_mem_nil) ck_213
def cx_214p : zS := ((cx_149pi_0 (cx_149pi_1 (cx_149pi_2 (cx_149pi_3 (cx_149pi_4 []))))), [ur431, ur708, ur919, ur920, ur921, ur922, ur923], [], [], [uV2, uV419], (cx_149pf_0 (cx_149pf_1 (cx_149pf_2 (cx_149pf_3 (cx_149pf_4 (cx_149pf_5 [])))))), [])
def cx_214q0 : zS := ((cx_149pi_0 (cx_149pi_1 (cx_149pi_2 (cx_149pi_3 (cx_149pi_4 []))))), [ur431, ur708, ur919, ur920, ur921, ur922, ur923], [], [], [], [uF126, uF128, uF129, uF729], [uG738])
/-- State.copyFrom -/
def cx_214 : zCtx := (102, cx_214p, [cx_214q0], kc_53, 57, 1, 64)
set_option maxRecDepth 1000000 in
theorem ck_214 : x_ok mLT1 [] mTS2 mTC2 mRUp cx_214 [] [(107, [1000879])] [] (57, []) 0 60 = true := by decide +kernel
theorem sn_214 {W : Bool} {X : List Int32} : y_Snd (mGw W) mLT1 (J2 W X) X cx_214 := y_ok J2_J mTS2_ok1 mTC2_ok1 mRUp_ok1 (fun _ h => absurd h List.not_mem_nil) ck_214
def cx_215p : zS := ((cx_149pi_0 (cx_149pi_1 (cx_149pi_2 (cx_149pi_3 (cx_149pi_4 []))))), [ur431, ur706, ur924, ur925, ur926, ur927, ur928], [], [], [uV2, uV419], (cx_149pf_0 (cx_149pf_1 (cx_149pf_2 (cx_149pf_3 (cx_149pf_4 (cx_149pf_5 [])))))), [])
def cx_215q0 : zS := ((cx_149pi_0 (cx_149pi_1 (cx_149pi_2 (cx_149pi_3 (cx_149pi_4 []))))), [ur431, ur706, ur924, ur925, ur926, ur927, ur928], [], [], [], [uF126, uF128, uF129, uF729], [uG739])
/-- State.copyFrom -/
def cx_215 : zCtx := (102, cx_215p, [cx_215q0], kc_53, 57, 1, 64)
set_option maxRecDepth 1000000 in
theorem ck_215 : x_ok mLT1 [] mTS2 mTC2 mRUp cx_215 [] [(107, [1000880])] [] (57, []) 0 60 = true := by decide +kernel
theorem sn_215 {W : Bool} {X : List Int32} : y_Snd (mGw W) mLT1 (J2 W X) X cx_215 := y_ok J2_J mTS2_ok1 mTC2_ok1 mRUp_ok1 (fun _ h => absurd h List.not_mem_nil) ck_215
def cx_216p : zS := ((cx_149pi_0 (cx_149pi_1 (cx_149pi_2 (cx_149pi_3 (cx_149pi_4 []))))), [ur431, ur704, ur929, ur930, ur931, ur932, ur933], [], [], [uV2, uV419], (cx_149pf_0 (cx_149pf_1 (cx_149pf_2 (cx_149pf_3 (cx_149pf_4 (cx_149pf_5 [])))))), [])
def cx_216q0 : zS := ((cx_149pi_0 (cx_149pi_1 (cx_149pi_2 (cx_149pi_3 (cx_149pi_4 []))))), [ur431, ur704, ur929, ur930, ur931, ur932, ur933], [], [], [], [uF126, uF128, uF129, uF729], [uG740])
/-- State.copyFrom -/
def cx_216 : zCtx := (102, cx_216p, [cx_216q0], kc_53, 57, 1, 64)
set_option maxRecDepth 1000000 in
theorem ck_216 : x_ok mLT1 [] mTS2 mTC2 mRUp cx_216 [] [(107, [1000881])] [] (57, []) 0 60 = true := by decide +kernel
theorem sn_216 {W : Bool} {X : List Int32} : y_Snd (mGw W) mLT1 (J2 W X) X cx_216 := y_ok J2_J mTS2_ok1 mTC2_ok1 mRUp_ok1 (fun _ h => absurd h List.not_mem_nil) ck_216
def cx_217p : zS := ((cx_149pi_0 (cx_149pi_1 (cx_149pi_2 (cx_149pi_3 (cx_149pi_4 []))))), [ur431, ur702, ur934, ur935, ur936, ur937, ur938], [], [], [uV2, uV419], (cx_149pf_0 (cx_149pf_1 (cx_149pf_2 (cx_149pf_3 (cx_149pf_4 (cx_149pf_5 [])))))), [])
def cx_217q0 : zS := ((cx_149pi_0 (cx_149pi_1 (cx_149pi_2 (cx_149pi_3 (cx_149pi_4 []))))), [ur431, ur702, ur934, ur935, ur936, ur937, ur938], [], [], [], [uF126, uF128, uF129, uF729], [uG741])
/-- State.copyFrom -/
def cx_217 : zCtx := (102, cx_217p, [cx_217q0], kc_53, 57, 1, 64)
set_option maxRecDepth 1000000 in
theorem ck_217 : x_ok mLT1 [] mTS2 mTC2 mRUp cx_217 [] [(107, [1000882])] [] (57, []) 0 60 = true := by decide +kernel
theorem sn_217 {W : Bool} {X : List Int32} : y_Snd (mGw W) mLT1 (J2 W X) X cx_217 := y_ok J2_J mTS2_ok1 mTC2_ok1 mRUp_ok1 (fun _ h => absurd h List.not_mem_nil) ck_217
def cx_218p : zS := ((cx_149pi_0 (cx_149pi_1 (cx_149pi_2 (cx_149pi_3 (cx_149pi_4 []))))), [ur431, ur700, ur939, ur940, ur941, ur942, ur943], [], [], [uV2, uV419], (cx_149pf_0 (cx_149pf_1 (cx_149pf_2 (cx_149pf_3 (cx_149pf_4 (cx_149pf_5 [])))))), [])
def cx_218q0 : zS := ((cx_149pi_0 (cx_149pi_1 (cx_149pi_2 (cx_149pi_3 (cx_149pi_4 []))))), [ur431, ur700, ur939, ur940, ur941, ur942, ur943], [], [], [], [uF126, uF128, uF129, uF729], [uG742])
/-- State.copyFrom -/
def cx_218 : zCtx := (102, cx_218p, [cx_218q0], kc_53, 57, 1, 64)
set_option maxRecDepth 1000000 in
theorem ck_218 : x_ok mLT1 [] mTS2 mTC2 mRUp cx_218 [] [(107, [1000883])] [] (57, []) 0 60 = true := by decide +kernel
theorem sn_218 {W : Bool} {X : List Int32} : y_Snd (mGw W) mLT1 (J2 W X) X cx_218 := y_ok J2_J mTS2_ok1 mTC2_ok1 mRUp_ok1 (fun _ h => absurd h List.not_mem_nil) ck_218
def cx_219p : zS := ((cx_149pi_0 (cx_149pi_1 (cx_149pi_2 (cx_149pi_3 (cx_149pi_4 []))))), [ur431, ur698, ur944, ur945, ur946, ur947, ur948], [], [], [uV2, uV419], (cx_149pf_0 (cx_149pf_1 (cx_149pf_2 (cx_149pf_3 (cx_149pf_4 (cx_149pf_5 [])))))), [])
def cx_219q0 : zS := ((cx_149pi_0 (cx_149pi_1 (cx_149pi_2 (cx_149pi_3 (cx_149pi_4 []))))), [ur431, ur698, ur944, ur945, ur946, ur947, ur948], [], [], [], [uF126, uF128, uF129, uF729], [uG743])
/-- State.copyFrom -/
def cx_219 : zCtx := (102, cx_219p, [cx_219q0], kc_53, 57, 1, 64)
set_option maxRecDepth 1000000 in
theorem ck_219 : x_ok mLT1 [] mTS2 mTC2 mRUp cx_219 [] [(107, [1000884])] [] (57, []) 0 60 = true := by decide +kernel
theorem sn_219 {W : Bool} {X : List Int32} : y_Snd (mGw W) mLT1 (J2 W X) X cx_219 := y_ok J2_J mTS2_ok1 mTC2_ok1 mRUp_ok1 (fun _ h => absurd h List.not_mem_nil) ck_219
def cx_220p : zS := ((cx_149pi_0 (cx_149pi_1 (cx_149pi_2 (cx_149pi_3 (cx_149pi_4 []))))), [ur431, ur695, ur949, ur950, ur951, ur952, ur953], [], [], [uV2, uV419], (cx_149pf_0 (cx_149pf_1 (cx_149pf_2 (cx_149pf_3 (cx_149pf_4 (cx_149pf_5 [])))))), [])
def cx_220q0 : zS := ((cx_149pi_0 (cx_149pi_1 (cx_149pi_2 (cx_149pi_3 (cx_149pi_4 []))))), [ur431, ur695, ur949, ur950, ur951, ur952, ur953], [], [], [], [uF126, uF128, uF129, uF729], [uG744])
/-- State.copyFrom -/
def cx_220 : zCtx := (102, cx_220p, [cx_220q0], kc_53, 57, 1, 64)
set_option maxRecDepth 1000000 in
theorem ck_220 : x_ok mLT1 [] mTS2 mTC2 mRUp cx_220 [] [(107, [1000885])] [] (57, []) 0 60 = true := by decide +kernel
theorem sn_220 {W : Bool} {X : List Int32} : y_Snd (mGw W) mLT1 (J2 W X) X cx_220 := y_ok J2_J mTS2_ok1 mTC2_ok1 mRUp_ok1 (fun _ h => absurd h List.not_mem_nil) ck_220
def cx_221p : zS := ((cx_149pi_0 (cx_149pi_1 (cx_149pi_2 (cx_149pi_3 (cx_149pi_4 []))))), [ur431, ur692, ur954, ur955, ur956, ur957, ur958], [], [], [uV2, uV419], (cx_149pf_0 (cx_149pf_1 (cx_149pf_2 (cx_149pf_3 (cx_149pf_4 (cx_149pf_5 [])))))), [])
def cx_221q0 : zS := ((cx_149pi_0 (cx_149pi_1 (cx_149pi_2 (cx_149pi_3 (cx_149pi_4 []))))), [ur431, ur692, ur954, ur955, ur956, ur957, ur958], [], [], [], [uF126, uF128, uF129, uF729], [uG745])
/-- State.copyFrom -/
def cx_221 : zCtx := (102, cx_221p, [cx_221q0], kc_53, 57, 1, 64)
set_option maxRecDepth 1000000 in
theorem ck_221 : x_ok mLT1 [] mTS2 mTC2 mRUp cx_221 [] [(107, [1000886])] [] (57, []) 0 60 = true := by decide +kernel
theorem sn_221 {W : Bool} {X : List Int32} : y_Snd (mGw W) mLT1 (J2 W X) X cx_221 := y_ok J2_J mTS2_ok1 mTC2_ok1 mRUp_ok1 (fun _ h => absurd h List.not_mem_nil) ck_221
def cx_222p : zS := ((cx_149pi_0 (cx_149pi_1 (cx_149pi_2 (cx_149pi_3 (cx_149pi_4 []))))), [ur431, ur690, ur959, ur960, ur961, ur962, ur963], [], [], [uV2, uV419], (cx_149pf_0 (cx_149pf_1 (cx_149pf_2 (cx_149pf_3 (cx_149pf_4 (cx_149pf_5 [])))))), [])
def cx_222q0 : zS := ((cx_149pi_0 (cx_149pi_1 (cx_149pi_2 (cx_149pi_3 (cx_149pi_4 []))))), [ur431, ur690, ur959, ur960, ur961, ur962, ur963], [], [], [], [uF126, uF128, uF129, uF729], [uG746])
/-- State.copyFrom -/
def cx_222 : zCtx := (102, cx_222p, [cx_222q0], kc_53, 57, 1, 64)
set_option maxRecDepth 1000000 in
theorem ck_222 : x_ok mLT1 [] mTS2 mTC2 mRUp cx_222 [] [(107, [1000887])] [] (57, []) 0 60 = true := by decide +kernel
theorem sn_222 {W : Bool} {X : List Int32} : y_Snd (mGw W) mLT1 (J2 W X) X cx_222 := y_ok J2_J mTS2_ok1 mTC2_ok1 mRUp_ok1 (fun _ h => absurd h List.not_mem_nil) ck_222
def cx_223p : zS := ((cx_149pi_0 (cx_149pi_1 (cx_149pi_2 (cx_149pi_3 (cx_149pi_4 []))))), [ur431, ur687, ur964, ur965, ur966, ur967, ur968], [], [], [uV2, uV419], (cx_149pf_0 (cx_149pf_1 (cx_149pf_2 (cx_149pf_3 (cx_149pf_4 (cx_149pf_5 [])))))), [])
def cx_223q0 : zS := ((cx_149pi_0 (cx_149pi_1 (cx_149pi_2 (cx_149pi_3 (cx_149pi_4 []))))), [ur431, ur687, ur964, ur965, ur966, ur967, ur968], [], [], [], [uF126, uF128, uF129, uF729], [uG747])
/-- State.copyFrom -/
def cx_223 : zCtx := (102, cx_223p, [cx_223q0], kc_53, 57, 1, 64)
set_option maxRecDepth 1000000 in
theorem ck_223 : x_ok mLT1 [] mTS2 mTC2 mRUp cx_223 [] [(107, [1000888])] [] (57, []) 0 60 = true := by decide +kernel
theorem sn_223 {W : Bool} {X : List Int32} : y_Snd (mGw W) mLT1 (J2 W X) X cx_223 := y_ok J2_J mTS2_ok1 mTC2_ok1 mRUp_ok1 (fun _ h => absurd h List.not_mem_nil) ck_223
def cx_224p : zS := ((cx_149pi_0 (cx_149pi_1 (cx_149pi_2 (cx_149pi_3 (cx_149pi_4 []))))), [ur431, ur684, ur969, ur970, ur971, ur972, ur973], [], [], [uV2, uV419], (cx_149pf_0 (cx_149pf_1 (cx_149pf_2 (cx_149pf_3 (cx_149pf_4 (cx_149pf_5 [])))))), [])
def cx_224q0 : zS := ((cx_149pi_0 (cx_149pi_1 (cx_149pi_2 (cx_149pi_3 (cx_149pi_4 []))))), [ur431, ur684, ur969, ur970, ur971, ur972, ur973], [], [], [], [uF126, uF128, uF129, uF729], [uG748])
/-- State.copyFrom -/
def cx_224 : zCtx := (102, cx_224p, [cx_224q0], kc_53, 57, 1, 64)
set_option maxRecDepth 1000000 in
theorem ck_224 : x_ok mLT1 [] mTS2 mTC2 mRUp cx_224 [] [(107, [1000889])] [] (57, []) 0 60 = true := by decide +kernel
theorem sn_224 {W : Bool} {X : List Int32} : y_Snd (mGw W) mLT1 (J2 W X) X cx_224 := y_ok J2_J mTS2_ok1 mTC2_ok1 mRUp_ok1 (fun _ h => absurd h List.not_mem_nil) ck_224
end
