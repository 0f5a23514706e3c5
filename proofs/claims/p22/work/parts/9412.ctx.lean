noncomputable section
/-! ===== readings, by program, checked by the kernel ===== -/
def cx_225p : zS := ((cx_149pi_0 (cx_149pi_1 (cx_149pi_2 (cx_149pi_3 (cx_149pi_4 []))))), [ur431, ur681, ur974, ur975, ur976, ur977, ur978], [], [], [uV2, uV419], (cx_149pf_0 (cx_149pf_1 (cx_149pf_2 (cx_149pf_3 (cx_149pf_4 (cx_149pf_5 [])))))), [])
def cx_225q0 : zS := ((cx_149pi_0 (cx_149pi_1 (cx_149pi_2 (cx_149pi_3 (cx_149pi_4 []))))), [ur431, ur681, ur974, ur975, ur976, ur977, ur978], [], [], [], [uF126, uF128, uF129, uF729], [uG749])
/-- State.copyFrom -/
def cx_225 : zCtx := (102, cx_225p, [cx_225q0], kc_53, 57, 1, 64)
set_option maxRecDepth 1000000 in
theorem ck_225 : x_ok mLT1 [] mTS2 mTC2 mRUp cx_225 [] [(107, [1000890])] [] (57, []) 0 60 = true := by decide +kernel
theorem sn_225 {W : Bool} {X : List Int32} : y_Snd (mGw W) mLT1 (J2 W X) X cx_225 := y_ok J2_J mTS2_ok1 mTC2_ok1 mRUp_ok1 (fun _ h => absurd h List.not_mem_nil) ck_225
def cx_226p : zS := ((cx_149pi_0 (cx_149pi_1 (cx_149pi_2 (cx_149pi_3 (cx_149pi_4 []))))), [ur431, ur678, ur979, ur980, ur981, ur982, ur983], [], [], [uV2, uV419], (cx_149pf_0 (cx_149pf_1 (cx_149pf_2 (cx_149pf_3 (cx_149pf_4 (cx_149pf_5 [])))))), [])
def cx_226q0 : zS := ((cx_149pi_0 (cx_149pi_1 (cx_149pi_2 (cx_149pi_3 (cx_149pi_4 []))))), [ur431, ur678, ur979, ur980, ur981, ur982, ur983], [], [], [], [uF126, uF128, uF129, uF729], [uG750])
/-- State.copyFrom -/
def cx_226 : zCtx := (102, cx_226p, [cx_226q0], kc_53, 57, 1, 64)
set_option maxRecDepth 1000000 in
theorem ck_226 : x_ok mLT1 [] mTS2 mTC2 mRUp cx_226 [] [(107, [1000891])] [] (57, []) 0 60 = true := by decide +kernel
theorem sn_226 {W : Bool} {X : List Int32} : y_Snd (mGw W) mLT1 (J2 W X) X cx_226 := y_ok J2_J mTS2_ok1 mTC2_ok1 mRUp_ok1 (fun _ h => absurd h List.not_mem_nil) ck_226
def cx_227p : zS := ((cx_149pi_0 (cx_149pi_1 (cx_149pi_2 (cx_149pi_3 (cx_149pi_4 []))))), [ur431, ur675, ur984, ur985, ur986, ur987, ur988], [], [], [uV2, uV419], (cx_149pf_0 (cx_149pf_1 (cx_149pf_2 (cx_149pf_3 (cx_149pf_4 (cx_149pf_5 [])))))), [])
def cx_227q0 : zS := ((cx_149pi_0 (cx_149pi_1 (cx_149pi_2 (cx_149pi_3 (cx_149pi_4 []))))), [ur431, ur675, ur984, ur985, ur986, ur987, ur988], [], [], [], [uF126, uF128, uF129, uF729], [uG751])
/-- State.copyFrom -/
def cx_227 : zCtx := (102, cx_227p, [cx_227q0], kc_53, 57, 1, 64)
set_option maxRecDepth 1000000 in
theorem ck_227 : x_ok mLT1 [] mTS2 mTC2 mRUp cx_227 [] [(107, [1000892])] [] (57, []) 0 60 = true := by decide +kernel
theorem sn_227 {W : Bool} {X : List Int32} : y_Snd (mGw W) mLT1 (J2 W X) X cx_227 := y_ok J2_J mTS2_ok1 mTC2_ok1 mRUp_ok1 (fun _ h => absurd h List.not_mem_nil) ck_227
def cx_228p : zS := ((cx_149pi_0 (cx_149pi_1 (cx_149pi_2 (cx_149pi_3 (cx_149pi_4 []))))), [ur431, ur672, ur989, ur990, ur991, ur992, ur993], [], [], [uV2, uV419], (cx_149pf_0 (cx_149pf_1 (cx_149pf_2 (cx_149pf_3 (cx_149pf_4 (cx_149pf_5 [])))))), [])
def cx_228q0 : zS := ((cx_149pi_0 (cx_149pi_1 (cx_149pi_2 (cx_149pi_3 (cx_149pi_4 []))))), [ur431, ur672, ur989, ur990, ur991, ur992, ur993], [], [], [], [uF126, uF128, uF129, uF729], [uG752])
/-- State.copyFrom -/
def cx_228 : zCtx := (102, cx_228p, [cx_228q0], kc_53, 57, 1, 64)
set_option maxRecDepth 1000000 in
theorem ck_228 : x_ok mLT1 [] mTS2 mTC2 mRUp cx_228 [] [(107, [1000893])] [] (57, []) 0 60 = true := by decide +kernel
theorem sn_228 {W : Bool} {X : List Int32} : y_Snd (mGw W) mLT1 (J2 W X) X cx_228 := y_ok J2_J mTS2_ok1 mTC2_ok1 mRUp_ok1 (fun _ h => absurd h List.not_mem_nil) ck_228
def cx_229p : zS := ((cx_149pi_0 (cx_149pi_1 (cx_149pi_2 (cx_149pi_3 (cx_149pi_4 []))))), [ur431, ur669, ur994, ur995, ur996, ur997, ur998], [], [], [uV2, uV419], (cx_149pf_0 (cx_149pf_1 (cx_149pf_2 (cx_149pf_3 (cx_149pf_4 (cx_149pf_5 [])))))), [])
def cx_229q0 : zS := ((cx_149pi_0 (cx_149pi_1 (cx_149pi_2 (cx_149pi_3 (cx_149pi_4 []))))), [ur431, ur669, ur994, ur995, ur996, ur997, ur998], [], [], [], [uF126, uF128, uF129, uF729], [uG753])
/-- State.copyFrom -/
def cx_229 : zCtx := (102, cx_229p, [cx_229q0], kc_53, 57, 1, 64)
set_option maxRecDepth 1000000 in
theorem ck_229 : x_ok mLT1 [] mTS2 mTC2 mRUp cx_229 [] [(107, [1000894])] [] (57, []) 0 60 = true := by decide +kernel
theorem sn_229 {W : Bool} {X : List Int32} : y_Snd (mGw W) mLT1 (J2 W X) X cx_229 := y_ok J2_J mTS2_ok1 mTC2_ok1 mRUp_ok1 (fun _ h => absurd h List.not_mem_nil) ck_229
def cx_230p : zS := ((cx_149pi_0 (cx_149pi_1 (cx_149pi_2 (cx_149pi_3 (cx_149pi_4 []))))), [ur431, ur667, ur999, ur1000, ur1001, ur1002, ur1003], [], [], [uV2, uV419], (cx_149pf_0 (cx_149pf_1 (cx_149pf_2 (cx_149pf_3 (cx_149pf_4 (cx_149pf_5 [])))))), [])
def cx_230q0 : zS := ((cx_149pi_0 (cx_149pi_1 (cx_149pi_2 (cx_149pi_3 (cx_149pi_4 []))))), [ur431, ur667, ur999, ur1000, ur1001, ur1002, ur1003], [], [], [], [uF126, uF128, uF129, uF729], [uG754])
/-- State.copyFrom -/
def cx_230 : zCtx := (102, cx_230p, [cx_230q0], kc_53, 57, 1, 64)
set_option maxRecDepth 1000000 in
theorem ck_230 : x_ok mLT1 [] mTS2 mTC2 mRUp cx_230 [] [(107, [1000895])] [] (57, []) 0 60 = true := by decide +kernel
theorem sn_230 {W : Bool} {X : List Int32} : y_Snd (mGw W) mLT1 (J2 W X) X cx_230 := y_ok J2_J mTS2_ok1 mTC2_ok1 mRUp_ok1 (fun _ h => absurd h List.not_mem_nil) ck_230
def cx_231p : zS := ((cx_149pi_0 (cx_149pi_1 (cx_149pi_2 (cx_149pi_3 (cx_149pi_4 []))))), [ur431, ur664, ur1004, ur1005, ur1006, ur1007, ur1008], [], [], [uV2, uV419], (cx_149pf_0 (cx_149pf_1 (cx_149pf_2 (cx_149pf_3 (cx_149pf_4 (cx_149pf_5 [])))))), [])
def cx_231q0 : zS := ((cx_149pi_0 (cx_149pi_1 (cx_149pi_2 (cx_149pi_3 (cx_149pi_4 []))))), [ur431, ur664, ur1004, ur1005, ur1006, ur1007, ur1008], [], [], [], [uF126, uF128, uF129, uF729], [uG755])
/-- State.copyFrom -/
def cx_231 : zCtx := (102, cx_231p, [cx_231q0], kc_53, 57, 1, 64)
set_option maxRecDepth 1000000 in
theorem ck_231 : x_ok mLT1 [] mTS2 mTC2 mRUp cx_231 [] [(107, [1000896])] [] (57, []) 0 60 = true := by decide +kernel
theorem sn_231 {W : Bool} {X : List Int32} : y_Snd (mGw W) mLT1 (J2 W X) X cx_231 := y_ok J2_J mTS2_ok1 mTC2_ok1 mRUp_ok1 (fun _ h => absurd h List.not_mem_nil) ck_231
def cx_232p : zS := ((cx_149pi_0 (cx_149pi_1 (cx_149pi_2 (cx_149pi_3 (cx_149pi_4 []))))), [ur431, ur661, ur1009, ur1010, ur1011, ur1012, ur1013], [], [], [uV2, uV419], (cx_149pf_0 (cx_149pf_1 (cx_149pf_2 (cx_149pf_3 (cx_149pf_4 (cx_149pf_5 [])))))), [])
def cx_232q0 : zS := ((cx_149pi_0 (cx_149pi_1 (cx_149pi_2 (cx_149pi_3 (cx_149pi_4 []))))), [ur431, ur661, ur1009, ur1010, ur1011, ur1012, ur1013], [], [], [], [uF126, uF128, uF129, uF729], [uG756])
/-- State.copyFrom -/
def cx_232 : zCtx := (102, cx_232p, [cx_232q0], kc_53, 57, 1, 64)
set_option maxRecDepth 1000000 in
theorem ck_232 : x_ok mLT1 [] mTS2 mTC2 mRUp cx_232 [] [(107, [1000897])] [] (57, []) 0 60 = true := by decide +kernel
theorem sn_232 {W : Bool} {X : List Int32} : y_Snd (mGw W) mLT1 (J2 W X) X cx_232 := y_ok J2_J mTS2_ok1 mTC2_ok1 mRUp_ok1 (fun _ h => absurd h List.not_mem_nil) ck_232
def cx_233p : zS := ((cx_149pi_0 (cx_149pi_1 (cx_149pi_2 (cx_149pi_3 (cx_149pi_4 []))))), [ur431, ur658, ur1014, ur1015, ur1016, ur1017, ur1018], [], [], [uV2, uV419], (cx_149pf_0 (cx_149pf_1 (cx_149pf_2 (cx_149pf_3 (cx_149pf_4 (cx_149pf_5 [])))))), [])
def cx_233q0 : zS := ((cx_149pi_0 (cx_149pi_1 (cx_149pi_2 (cx_149pi_3 (cx_149pi_4 []))))), [ur431, ur658, ur1014, ur1015, ur1016, ur1017, ur1018], [], [], [], [uF126, uF128, uF129, uF729], [uG757])
/-- State.copyFrom -/
def cx_233 : zCtx := (102, cx_233p, [cx_233q0], kc_53, 57, 1, 64)
set_option maxRecDepth 1000000 in
theorem ck_233 : x_ok mLT1 [] mTS2 mTC2 mRUp cx_233 [] [(107, [1000898])] [] (57, []) 0 60 = true := by decide +kernel
theorem sn_233 {W : Bool} {X : List Int32} : y_Snd (mGw W) mLT1 (J2 W X) X cx_233 := y_ok J2_J mTS2_ok1 mTC2_ok1 mRUp_ok1 (fun _ h => absurd h List.not_mem_nil) ck_233
def cx_234p : zS := ((cx_149pi_0 (cx_149pi_1 (cx_149pi_2 (cx_149pi_3 (cx_149pi_4 []))))), [ur431, ur655, ur1019, ur1020, ur1021, ur1022, ur1023], [], [], [uV2, uV419], (cx_149pf_0 (cx_149pf_1 (cx_149pf_2 (cx_149pf_3 (cx_149pf_4 (cx_149pf_5 [])))))), [])
def cx_234q0 : zS := ((cx_149pi_0 (cx_149pi_1 (cx_149pi_2 (cx_149pi_3 (cx_149pi_4 []))))), [ur431, ur655, ur1019, ur1020, ur1021, ur1022, ur1023], [], [], [], [uF126, uF128, uF129, uF729], [uG758])
/-- State.copyFrom -/
def cx_234 : zCtx := (102, cx_234p, [cx_234q0], kc_53, 57, 1, 64)
set_option maxRecDepth 1000000 in
theorem ck_234 : x_ok mLT1 [] mTS2 mTC2 mRUp cx_234 [] [(107, [1000899])] [] (57, []) 0 60 = true := by decide +kernel
theorem sn_234 {W : Bool} {X : List Int32} : y_Snd (mGw W) mLT1 (J2 W X) X cx_234 := y_ok J2_J mTS2_ok1 mTC2_ok1 mRUp_ok1 (fun _ h => absurd h List.not_mem_nil) ck_234
def cx_235p : zS := ((cx_149pi_0 (cx_149pi_1 (cx_149pi_2 (cx_149pi_3 (cx_149pi_4 []))))), [ur431, ur652, ur1024, ur1025, ur1026, ur1027, ur1028], [], [], [uV2, uV419], (cx_149pf_0 (cx_149pf_1 (cx_149pf_2 (cx_149pf_3 (cx_149pf_4 (cx_149pf_5 [])))))), [])
def cx_235q0 : zS := ((cx_149pi_0 (cx_149pi_1 (cx_149pi_2 (cx_149pi_3 (cx_149pi_4 []))))), [ur431, ur652, ur1024, ur1025, ur1026, ur1027, ur1028], [], [], [], [uF126, uF128, uF129, uF729], [uG759])
/-- State.copyFrom -/
def cx_235 : zCtx := (102, cx_235p, [cx_235q0], kc_53, 57, 1, 64)
set_option maxRecDepth 1000000 in
theorem ck_235 : x_ok mLT1 [] mTS2 mTC2 mRUp cx_235 [] [(107, [1000900])] [] (57, []) 0 60 = true := by decide +kernel
theorem sn_235 {W : Bool} {X : List Int32} : y_Snd (mGw W) mLT1 (J2 W X) X cx_235 := y_ok J2_J mTS2_ok1 mTC2_ok1 mRUp_ok1 (fun _ h => absurd h List.not_mem_nil) ck_235
def cx_236p : zS := ((cx_149pi_0 (cx_149pi_1 (cx_149pi_2 (cx_149pi_3 (cx_149pi_4 []))))), [ur431, ur649, ur1029, ur1030, ur1031, ur1032, ur1033], [], [], [uV2, uV419], (cx_149pf_0 (cx_149pf_1 (cx_149pf_2 (cx_149pf_3 (cx_149pf_4 (cx_149pf_5 [])))))), [])
def cx_236q0 : zS := ((cx_149pi_0 (cx_149pi_1 (cx_149pi_2 (cx_149pi_3 (cx_149pi_4 []))))), [ur431, ur649, ur1029, ur1030, ur1031, ur1032, ur1033], [], [], [], [uF126, uF128, uF129, uF729], [uG760])
/-- State.copyFrom -/
def cx_236 : zCtx := (102, cx_236p, [cx_236q0], kc_53, 57, 1, 64)
set_option maxRecDepth 1000000 in
theorem ck_236 : x_ok mLT1 [] mTS2 mTC2 mRUp cx_236 [] [(107, [1000901])] [] (57, []) 0 60 = true := by decide +kernel
theorem sn_236 {W : Bool} {X : List Int32} : y_Snd (mGw W) mLT1 (J2 W X) X cx_236 := y_ok J2_J mTS2_ok1 mTC2_ok1 mRUp_ok1 (fun _ h => absurd h List.not_mem_nil) ck_236
end
