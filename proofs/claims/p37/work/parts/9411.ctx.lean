noncomputable section
/-! ===== readings, by program, checked by the kernel ===== -/
def cx_213p : zS := ((cx_149pi_0 (cx_149pi_1 (cx_149pi_2 (cx_149pi_3 (cx_149pi_4 []))))), [ur434, ur694, ur882, ur883, ur884, ur885, ur886], [], [], [uV2, uV422], (cx_149pf_0 (cx_149pf_1 (cx_149pf_2 (cx_149pf_3 (cx_149pf_4 (cx_149pf_5 [])))))), [])
def cx_213q0 : zS := ((cx_149pi_0 (cx_149pi_1 (cx_149pi_2 (cx_149pi_3 (cx_149pi_4 []))))), [ur434, ur694, ur882, ur883, ur884, ur885, ur886], [], [], [], [uF128, uF130, uF131, uF712], [uG720])
/-- State.copyFrom -/
def cx_213 : zCtx := (102, cx_213p, [cx_213q0], kc_53, 57, 1, 64)
set_option maxRecDepth 1000000 in
theorem ck_213 : x_ok mLT1 [] mTS2 mTC2 mRUp cx_213 [] [(107, [1000865])] [] (57, []) 0 60 = true := by decide +kernel
theorem sn_213 {W : Bool} {X : List Int32} : y_Snd (mGw W) mLT1 (J2 W X) X cx_213 := y_ok J2_J mTS2_ok1 mTC2_ok1 mRUp_ok1 (fun _ h => absurd h List.not_mem_nil) ck_213
def cx_214p : zS := ((cx_149pi_0 (cx_149pi_1 (cx_149pi_2 (cx_149pi_3 (cx_149pi_4 []))))), [ur434, ur692, ur887, ur888, ur889, ur890, ur891], [], [], [uV2, uV422], (cx_149pf_0 (cx_149pf_1 (cx_149pf_2 (cx_149pf_3 (cx_149pf_4 (cx_149pf_5 [])))))), [])
def cx_214q0 : zS := ((cx_149pi_0 (cx_149pi_1 (cx_149pi_2 (cx_149pi_3 (cx_149pi_4 []))))), [ur434, ur692, ur887, ur888, ur889, ur890, ur891], [], [], [], [uF128, uF130, uF131, uF712], [uG721])
/-- State.copyFrom -/
def cx_214 : zCtx := (102, cx_214p, [cx_214q0], kc_53, 57, 1, 64)
set_option maxRecDepth 1000000 in
theorem ck_214 : x_ok mLT1 [] mTS2 mTC2 mRUp cx_214 [] [(107, [1000866])] [] (57, []) 0 60 = true := by decide +kernel
theorem sn_214 {W : Bool} {X : List Int32} : y_Snd (mGw W) mLT1 (J2 W X) X cx_214 := y_ok J2_J mTS2_ok1 mTC2_ok1 mRUp_ok1 (fun _ h => absurd h List.not_mem_nil) ck_214
def cx_215p : zS := ((cx_149pi_0 (cx_149pi_1 (cx_149pi_2 (cx_149pi_3 (cx_149pi_4 []))))), [ur434, ur690, ur892, ur893, ur894, ur895, ur896], [], [], [uV2, uV422], (cx_149pf_0 (cx_149pf_1 (cx_149pf_2 (cx_149pf_3 (cx_149pf_4 (cx_149pf_5 [])))))), [])
def cx_215q0 : zS := ((cx_149pi_0 (cx_149pi_1 (cx_149pi_2 (cx_149pi_3 (cx_149pi_4 []))))), [ur434, ur690, ur892, ur893, ur894, ur895, ur896], [], [], [], [uF128, uF130, uF131, uF712], [uG722])
/-- State.copyFrom -/
def cx_215 : zCtx := (102, cx_215p, [cx_215q0], kc_53, 57, 1, 64)
set_option maxRecDepth 1000000 in
theorem ck_215 : x_ok mLT1 [] mTS2 mTC2 mRUp cx_215 [] [(107, [1000867])] [] (57, []) 0 60 = true := by decide +kernel
theorem sn_215 {W : Bool} {X : List Int32} : y_Snd (mGw W) mLT1 (J2 W X) X cx_215 := y_ok J2_J mTS2_ok1 mTC2_ok1 mRUp_ok1 (fun _ h => absurd h List.not_mem_nil) ck_215
def cx_216p : zS := ((cx_149pi_0 (cx_149pi_1 (cx_149pi_2 (cx_149pi_3 (cx_149pi_4 []))))), [ur434, ur688, ur897, ur898, ur899, ur900, ur901], [], [], [uV2, uV422], (cx_149pf_0 (cx_149pf_1 (cx_149pf_2 (cx_149pf_3 (cx_149pf_4 (cx_149pf_5 [])))))), [])
def cx_216q0 : zS := ((cx_149pi_0 (cx_149pi_1 (cx_149pi_2 (cx_149pi_3 (cx_149pi_4 []))))), [ur434, ur688, ur897, ur898, ur899, ur900, ur901], [], [], [], [uF128, uF130, uF131, uF712], [uG723])
/-- State.copyFrom -/
def cx_216 : zCtx := (102, cx_216p, [cx_216q0], kc_53, 57, 1, 64)
set_option maxRecDepth 1000000 in
theorem ck_216 : x_ok mLT1 [] mTS2 mTC2 mRUp cx_216 [] [(107, [1000868])] [] (57, []) 0 60 = true := by decide +kernel
theorem sn_216 {W : Bool} {X : List Int32} : y_Snd (mGw W) mLT1 (J2 W X) X cx_216 := y_ok J2_J mTS2_ok1 mTC2_ok1 mRUp_ok1 (fun _ h => absurd h List.not_mem_nil) ck_216
def cx_217p : zS := ((cx_149pi_0 (cx_149pi_1 (cx_149pi_2 (cx_149pi_3 (cx_149pi_4 []))))), [ur434, ur686, ur902, ur903, ur904, ur905, ur906], [], [], [uV2, uV422], (cx_149pf_0 (cx_149pf_1 (cx_149pf_2 (cx_149pf_3 (cx_149pf_4 (cx_149pf_5 [])))))), [])
def cx_217q0 : zS := ((cx_149pi_0 (cx_149pi_1 (cx_149pi_2 (cx_149pi_3 (cx_149pi_4 []))))), [ur434, ur686, ur902, ur903, ur904, ur905, ur906], [], [], [], [uF128, uF130, uF131, uF712], [uG724])
/-- State.copyFrom -/
def cx_217 : zCtx := (102, cx_217p, [cx_217q0], kc_53, 57, 1, 64)
set_option maxRecDepth 1000000 in
theorem ck_217 : x_ok mLT1 [] mTS2 mTC2 mRUp cx_217 [] [(107, [1000869])] [] (57, []) 0 60 = true := by decide +kernel
theorem sn_217 {W : Bool} {X : List Int32} : y_Snd (mGw W) mLT1 (J2 W X) X cx_217 := y_ok J2_J mTS2_ok1 mTC2_ok1 mRUp_ok1 (fun _ h => absurd h List.not_mem_nil) ck_217
def cx_218p : zS := ((cx_149pi_0 (cx_149pi_1 (cx_149pi_2 (cx_149pi_3 (cx_149pi_4 []))))), [ur434, ur684, ur907, ur908, ur909, ur910, ur911], [], [], [uV2, uV422], (cx_149pf_0 (cx_149pf_1 (cx_149pf_2 (cx_149pf_3 (cx_149pf_4 (cx_149pf_5 [])))))), [])
def cx_218q0 : zS := ((cx_149pi_0 (cx_149pi_1 (cx_149pi_2 (cx_149pi_3 (cx_149pi_4 []))))), [ur434, ur684, ur907, ur908, ur909, ur910, ur911], [], [], [], [uF128, uF130, uF131, uF712], [uG725])
/-- State.copyFrom -/
def cx_218 : zCtx := (102, cx_218p, [cx_218q0], kc_53, 57, 1, 64)
set_option maxRecDepth 1000000 in
theorem ck_218 : x_ok mLT1 [] mTS2 mTC2 mRUp cx_218 [] [(107, [1000870])] [] (57, []) 0 60 = true := by decide +kernel
theorem sn_218 {W : Bool} {X : List Int32} : y_Snd (mGw W) mLT1 (J2 W X) X cx_218 := y_ok J2_J mTS2_ok1 mTC2_ok1 mRUp_ok1 (fun _ h => absurd h List.not_mem_nil) ck_218
def cx_219p : zS := ((cx_149pi_0 (cx_149pi_1 (cx_149pi_2 (cx_149pi_3 (cx_149pi_4 []))))), [ur434, ur682, ur912, ur913, ur914, ur915, ur916], [], [], [uV2, uV422], (cx_149pf_0 (cx_149pf_1 (cx_149pf_2 (cx_149pf_3 (cx_149pf_4 (cx_149pf_5 [])))))), [])
def cx_219q0 : zS := ((cx_149pi_0 (cx_149pi_1 (cx_149pi_2 (cx_149pi_3 (cx_149pi_4 []))))), [ur434, ur682, ur912, ur913, ur914, ur915, ur916], [], [], [], [uF128, uF130, uF131, uF712], [uG726])
/-- State.copyFrom -/
def cx_219 : zCtx := (102, cx_219p, [cx_219q0], kc_53, 57, 1, 64)
set_option maxRecDepth 1000000 in
theorem ck_219 : x_ok mLT1 [] mTS2 mTC2 mRUp cx_219 [] [(107, [1000871])] [] (57, []) 0 60 = true := by decide +kernel
theorem sn_219 {W : Bool} {X : List Int32} : y_Snd (mGw W) mLT1 (J2 W X) X cx_219 := y_ok J2_J mTS2_ok1 mTC2_ok1 mRUp_ok1 (fun _ h => absurd h List.not_mem_nil) ck_219
def cx_220p : zS := ((cx_149pi_0 (cx_149pi_1 (cx_149pi_2 (cx_149pi_3 (cx_149pi_4 []))))), [ur434, ur679, ur917, ur918, ur919, ur920, ur921], [], [], [uV2, uV422], (cx_149pf_0 (cx_149pf_1 (cx_149pf_2 (cx_149pf_3 (cx_149pf_4 (cx_149pf_5 [])))))), [])
def cx_220q0 : zS := ((cx_149pi_0 (cx_149pi_1 (cx_149pi_2 (cx_149pi_3 (cx_149pi_4 []))))), [ur434, ur679, ur917, ur918, ur919, ur920, ur921], [], [], [], [uF128, uF130, uF131, uF712], [uG727])
/-- State.copyFrom -/
def cx_220 : zCtx := (102, cx_220p, [cx_220q0], kc_53, 57, 1, 64)
set_option maxRecDepth 1000000 in
theorem ck_220 : x_ok mLT1 [] mTS2 mTC2 mRUp cx_220 [] [(107, [1000872])] [] (57, []) 0 60 = true := by decide +kernel
theorem sn_220 {W : Bool} {X : List Int32} : y_Snd (mGw W) mLT1 (J2 W X) X cx_220 := y_ok J2_J mTS2_ok1 mTC2_ok1 mRUp_ok1 (fun _ h => absurd h List.not_mem_nil) ck_220
def cx_221p : zS := ((cx_149pi_0 (cx_149pi_1 (cx_149pi_2 (cx_149pi_3 (cx_149pi_4 []))))), [ur434, ur676, ur922, ur923, ur924, ur925, ur926], [], [], [uV2, uV422], (cx_149pf_0 (cx_149pf_1 (cx_149pf_2 (cx_149pf_3 (cx_149pf_4 (cx_149pf_5 [])))))), [])
def cx_221q0 : zS := ((cx_149pi_0 (cx_149pi_1 (cx_149pi_2 (cx_149pi_3 (cx_149pi_4 []))))), [ur434, ur676, ur922, ur923, ur924, ur925, ur926], [], [], [], [uF128, uF130, uF131, uF712], [uG728])
/-- State.copyFrom -/
def cx_221 : zCtx := (102, cx_221p, [cx_221q0], kc_53, 57, 1, 64)
set_option maxRecDepth 1000000 in
theorem ck_221 : x_ok mLT1 [] mTS2 mTC2 mRUp cx_221 [] [(107, [1000873])] [] (57, []) 0 60 = true := by decide +kernel
theorem sn_221 {W : Bool} {X : List Int32} : y_Snd (mGw W) mLT1 (J2 W X) X cx_221 := y_ok J2_J mTS2_ok1 mTC2_ok1 mRUp_ok1 (fun _ h => absurd h List.not_mem_nil) ck_221
def cx_222p : zS := ((cx_149pi_0 (cx_149pi_1 (cx_149pi_2 (cx_149pi_3 (cx_149pi_4 []))))), [ur434, ur674, ur927, ur928, ur929, ur930, ur931], [], [], [uV2, uV422], (cx_149pf_0 (cx_149pf_1 (cx_149pf_2 (cx_149pf_3 (cx_149pf_4 (cx_149pf_5 [])))))), [])
def cx_222q0 : zS := ((cx_149pi_0 (cx_149pi_1 (cx_149pi_2 (cx_149pi_3 (cx_149pi_4 []))))), [ur434, ur674, ur927, ur928, ur929, ur930, ur931], [], [], [], [uF128, uF130, uF131, uF712], [uG729])
/-- State.copyFrom -/
def cx_222 : zCtx := (102, cx_222p, [cx_222q0], kc_53, 57, 1, 64)
set_option maxRecDepth 1000000 in
theorem ck_222 : x_ok mLT1 [] mTS2 mTC2 mRUp cx_222 [] [(107, [1000874])] [] (57, []) 0 60 = true := by decide +kernel
theorem sn_222 {W : Bool} {X : List Int32} : y_Snd (mGw W) mLT1 (J2 W X) X cx_222 := y_ok J2_J mTS2_ok1 mTC2_ok1 mRUp_ok1 (fun _ h => absurd h List.not_mem_nil) ck_222
def cx_223p : zS := ((cx_149pi_0 (cx_149pi_1 (cx_149pi_2 (cx_149pi_3 (cx_149pi_4 []))))), [ur434, ur671, ur932, ur933, ur934, ur935, ur936], [], [], [uV2, uV422], (cx_149pf_0 (cx_149pf_1 (cx_149pf_2 (cx_149pf_3 (cx_149pf_4 (cx_149pf_5 [])))))), [])
def cx_223q0 : zS := ((cx_149pi_0 (cx_149pi_1 (cx_149pi_2 (cx_149pi_3 (cx_149pi_4 []))))), [ur434, ur671, ur932, ur933, ur934, ur935, ur936], [], [], [], [uF128, uF130, uF131, uF712], [uG730])
/-- State.copyFrom -/
def cx_223 : zCtx := (102, cx_223p, [cx_223q0], kc_53, 57, 1, 64)
set_option maxRecDepth 1000000 in
theorem ck_223 : x_ok mLT1 [] mTS2 mTC2 mRUp cx_223 [] [(107, [1000875])] [] (57, []) 0 60 = true := by decide +kernel
theorem sn_223 {W : Bool} {X : List Int32} : y_Snd (mGw W) mLT1 (J2 W X) X cx_223 := y_ok J2_J mTS2_ok1 mTC2_ok1 mRUp_ok1 (fun _ h => absurd h List.not_mem_nil) ck_223
def cx_224p : zS := ((cx_149pi_0 (cx_149pi_1 (cx_149pi_2 (cx_149pi_3 (cx_149pi_4 []))))), [ur434, ur668, ur937, ur938, ur939, ur940, ur941], [], [], [uV2, uV422], (cx_149pf_0 (cx_149pf_1 (cx_149pf_2 (cx_149pf_3 (cx_149pf_4 (cx_149pf_5 [])))))), [])
def cx_224q0 : zS := ((cx_149pi_0 (cx_149pi_1 (cx_149pi_2 (cx_149pi_3 (cx_149pi_4 []))))), [ur434, ur668, ur937, ur938, ur939, ur940, ur941], [], [], [], [uF128, uF130, uF131, uF712], [uG731])
/-- State.copyFrom -/
def cx_224 : zCtx := (102, cx_224p, [cx_224q0], kc_53, 57, 1, 64)
set_option maxRecDepth 1000000 in
theorem ck_224 : x_ok mLT1 [] mTS2 mTC2 mRUp cx_224 [] [(107, [1000876])] [] (57, []) 0 60 = true := by decide +kernel
theorem sn_224 {W : Bool} {X : List Int32} : y_Snd (mGw W) mLT1 (J2 W X) X cx_224 := y_ok J2_J mTS2_ok1 mTC2_ok1 mRUp_ok1 (fun _ h => absurd h List.not_mem_nil) ck_224
end
