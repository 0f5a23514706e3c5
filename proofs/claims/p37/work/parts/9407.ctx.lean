noncomputable section
/-! ===== readings, by program, checked by the kernel ===== -/
def cx_162p : zS := ((cx_149pi_0 (cx_149pi_1 (cx_149pi_2 (cx_149pi_3 (cx_149pi_4 []))))), [ur682, ur434, ur435, ur430, ur549, ur550, ur551], [], [], [uV2, uV422], (cx_149pf_0 (cx_149pf_1 (cx_149pf_2 (cx_149pf_3 (cx_149pf_4 (cx_149pf_5 [])))))), [])
def cx_162q0 : zS := ((cx_149pi_0 (cx_149pi_1 (cx_149pi_2 (cx_149pi_3 (cx_149pi_4 []))))), [ur682, ur434, ur435, ur430, ur549, ur550, ur551], [], [], [], [uF128, uF130, uF131, uF712], [uG726])
/-- State.copyFrom -/
def cx_162 : zCtx := (102, cx_162p, [cx_162q0], kc_21, 57, 1, 64)
set_option maxRecDepth 1000000 in
theorem ck_162 : x_ok mLT1 [] mTS2 mTC2 mRUp cx_162 [] [(107, [1000871])] [] (57, []) 0 60 = true := by decide +kernel
theorem sn_162 {W : Bool} {X : List Int32} : y_Snd (mGw W) mLT1 (J2 W X) X cx_162 := y_ok J2_J mTS2_ok1 mTC2_ok1 mRUp_ok1 (fun _ h => absurd h List.not_mem_nil) ck_162
def cx_163p : zS := ((cx_149pi_0 (cx_149pi_1 (cx_149pi_2 (cx_149pi_3 (cx_149pi_4 []))))), [ur679, ur434, ur435, ur430, ur549, ur550, ur551], [], [], [uV2, uV422], (cx_149pf_0 (cx_149pf_1 (cx_149pf_2 (cx_149pf_3 (cx_149pf_4 (cx_149pf_5 [])))))), [])
def cx_163q0 : zS := ((cx_149pi_0 (cx_149pi_1 (cx_149pi_2 (cx_149pi_3 (cx_149pi_4 []))))), [ur679, ur434, ur435, ur430, ur549, ur550, ur551], [], [], [], [uF128, uF130, uF131, uF712], [uG727])
/-- State.copyFrom -/
def cx_163 : zCtx := (102, cx_163p, [cx_163q0], kc_22, 57, 1, 64)
set_option maxRecDepth 1000000 in
theorem ck_163 : x_ok mLT1 [] mTS2 mTC2 mRUp cx_163 [] [(107, [1000872])] [] (57, []) 0 60 = true := by decide +kernel
theorem sn_163 {W : Bool} {X : List Int32} : y_Snd (mGw W) mLT1 (J2 W X) X cx_163 := y_ok J2_J mTS2_ok1 mTC2_ok1 mRUp_ok1 (fun _ h => absurd h List.not_mem_nil) ck_163
def cx_164p : zS := ((cx_149pi_0 (cx_149pi_1 (cx_149pi_2 (cx_149pi_3 (cx_149pi_4 []))))), [ur676, ur434, ur435, ur430, ur549, ur550, ur551], [], [], [uV2, uV422], (cx_149pf_0 (cx_149pf_1 (cx_149pf_2 (cx_149pf_3 (cx_149pf_4 (cx_149pf_5 [])))))), [])
def cx_164q0 : zS := ((cx_149pi_0 (cx_149pi_1 (cx_149pi_2 (cx_149pi_3 (cx_149pi_4 []))))), [ur676, ur434, ur435, ur430, ur549, ur550, ur551], [], [], [], [uF128, uF130, uF131, uF712], [uG728])
/-- State.copyFrom -/
def cx_164 : zCtx := (102, cx_164p, [cx_164q0], kc_23, 57, 1, 64)
set_option maxRecDepth 1000000 in
theorem ck_164 : x_ok mLT1 [] mTS2 mTC2 mRUp cx_164 [] [(107, [1000873])] [] (57, []) 0 60 = true := by decide +kernel
theorem sn_164 {W : Bool} {X : List Int32} : y_Snd (mGw W) mLT1 (J2 W X) X cx_164 := y_ok J2_J mTS2_ok1 mTC2_ok1 mRUp_ok1 (fun _ h => absurd h List.not_mem_nil) ck_164
def cx_165p : zS := ((cx_149pi_0 (cx_149pi_1 (cx_149pi_2 (cx_149pi_3 (cx_149pi_4 []))))), [ur674, ur434, ur435, ur430, ur549, ur550, ur551], [], [], [uV2, uV422], (cx_149pf_0 (cx_149pf_1 (cx_149pf_2 (cx_149pf_3 (cx_149pf_4 (cx_149pf_5 [])))))), [])
def cx_165q0 : zS := ((cx_149pi_0 (cx_149pi_1 (cx_149pi_2 (cx_149pi_3 (cx_149pi_4 []))))), [ur674, ur434, ur435, ur430, ur549, ur550, ur551], [], [], [], [uF128, uF130, uF131, uF712], [uG729])
/-- State.copyFrom -/
def cx_165 : zCtx := (102, cx_165p, [cx_165q0], kc_24, 57, 1, 64)
set_option maxRecDepth 1000000 in
theorem ck_165 : x_ok mLT1 [] mTS2 mTC2 mRUp cx_165 [] [(107, [1000874])] [] (57, []) 0 60 = true := by decide +kernel
theorem sn_165 {W : Bool} {X : List Int32} : y_Snd (mGw W) mLT1 (J2 W X) X cx_165 := y_ok J2_J mTS2_ok1 mTC2_ok1 mRUp_ok1 (fun _ h => absurd h List.not_mem_nil) ck_165
def cx_166p : zS := ((cx_149pi_0 (cx_149pi_1 (cx_149pi_2 (cx_149pi_3 (cx_149pi_4 []))))), [ur671, ur434, ur435, ur430, ur549, ur550, ur551], [], [], [uV2, uV422], (cx_149pf_0 (cx_149pf_1 (cx_149pf_2 (cx_149pf_3 (cx_149pf_4 (cx_149pf_5 [])))))), [])
def cx_166q0 : zS := ((cx_149pi_0 (cx_149pi_1 (cx_149pi_2 (cx_149pi_3 (cx_149pi_4 []))))), [ur671, ur434, ur435, ur430, ur549, ur550, ur551], [], [], [], [uF128, uF130, uF131, uF712], [uG730])
/-- State.copyFrom -/
def cx_166 : zCtx := (102, cx_166p, [cx_166q0], kc_25, 57, 1, 64)
set_option maxRecDepth 1000000 in
theorem ck_166 : x_ok mLT1 [] mTS2 mTC2 mRUp cx_166 [] [(107, [1000875])] [] (57, []) 0 60 = true := by decide +kernel
theorem sn_166 {W : Bool} {X : List Int32} : y_Snd (mGw W) mLT1 (J2 W X) X cx_166 := y_ok J2_J mTS2_ok1 mTC2_ok1 mRUp_ok1 (fun _ h => absurd h List.not_mem_nil) ck_166
def cx_167p : zS := ((cx_149pi_0 (cx_149pi_1 (cx_149pi_2 (cx_149pi_3 (cx_149pi_4 []))))), [ur668, ur434, ur435, ur430, ur549, ur550, ur551], [], [], [uV2, uV422], (cx_149pf_0 (cx_149pf_1 (cx_149pf_2 (cx_149pf_3 (cx_149pf_4 (cx_149pf_5 [])))))), [])
def cx_167q0 : zS := ((cx_149pi_0 (cx_149pi_1 (cx_149pi_2 (cx_149pi_3 (cx_149pi_4 []))))), [ur668, ur434, ur435, ur430, ur549, ur550, ur551], [], [], [], [uF128, uF130, uF131, uF712], [uG731])
/-- State.copyFrom -/
def cx_167 : zCtx := (102, cx_167p, [cx_167q0], kc_26, 57, 1, 64)
set_option maxRecDepth 1000000 in
theorem ck_167 : x_ok mLT1 [] mTS2 mTC2 mRUp cx_167 [] [(107, [1000876])] [] (57, []) 0 60 = true := by decide +kernel
theorem sn_167 {W : Bool} {X : List Int32} : y_Snd (mGw W) mLT1 (J2 W X) X cx_167 := y_ok J2_J mTS2_ok1 mTC2_ok1 mRUp_ok1 (fun _ h => absurd h List.not_mem_nil) ck_167
def cx_168p : zS := ((cx_149pi_0 (cx_149pi_1 (cx_149pi_2 (cx_149pi_3 (cx_149pi_4 []))))), [ur665, ur434, ur435, ur430, ur549, ur550, ur551], [], [], [uV2, uV422], (cx_149pf_0 (cx_149pf_1 (cx_149pf_2 (cx_149pf_3 (cx_149pf_4 (cx_149pf_5 [])))))), [])
def cx_168q0 : zS := ((cx_149pi_0 (cx_149pi_1 (cx_149pi_2 (cx_149pi_3 (cx_149pi_4 []))))), [ur665, ur434, ur435, ur430, ur549, ur550, ur551], [], [], [], [uF128, uF130, uF131, uF712], [uG732])
/-- State.copyFrom -/
def cx_168 : zCtx := (102, cx_168p, [cx_168q0], kc_27, 57, 1, 64)
set_option maxRecDepth 1000000 in
theorem ck_168 : x_ok mLT1 [] mTS2 mTC2 mRUp cx_168 [] [(107, [1000877])] [] (57, []) 0 60 = true := by decide +kernel
theorem sn_168 {W : Bool} {X : List Int32} : y_Snd (mGw W) mLT1 (J2 W X) X cx_168 := y_ok J2_J mTS2_ok1 mTC2_ok1 mRUp_ok1 (fun _ h => absurd h List.not_mem_nil) ck_168
def cx_169p : zS := ((cx_149pi_0 (cx_149pi_1 (cx_149pi_2 (cx_149pi_3 (cx_149pi_4 []))))), [ur662, ur434, ur435, ur430, ur549, ur550, ur551], [], [], [uV2, uV422], (cx_149pf_0 (cx_149pf_1 (cx_149pf_2 (cx_149pf_3 (cx_149pf_4 (cx_149pf_5 [])))))), [])
def cx_169q0 : zS := ((cx_149pi_0 (cx_149pi_1 (cx_149pi_2 (cx_149pi_3 (cx_149pi_4 []))))), [ur662, ur434, ur435, ur430, ur549, ur550, ur551], [], [], [], [uF128, uF130, uF131, uF712], [uG733])
/-- State.copyFrom -/
def cx_169 : zCtx := (102, cx_169p, [cx_169q0], kc_28, 57, 1, 64)
set_option maxRecDepth 1000000 in
theorem ck_169 : x_ok mLT1 [] mTS2 mTC2 mRUp cx_169 [] [(107, [1000878])] [] (57, []) 0 60 = true := by decide +kernel
theorem sn_169 {W : Bool} {X : List Int32} : y_Snd (mGw W) mLT1 (J2 W X) X cx_169 := y_ok J2_J mTS2_ok1 mTC2_ok1 mRUp_ok1 (fun _ h => absurd h List.not_mem_nil) ck_169
def cx_170p : zS := ((cx_149pi_0 (cx_149pi_1 (cx_149pi_2 (cx_149pi_3 (cx_149pi_4 []))))), [ur659, ur434, ur435, ur430, ur549, ur550, ur551], [], [], [uV2, uV422], (cx_149pf_0 (cx_149pf_1 (cx_149pf_2 (cx_149pf_3 (cx_149pf_4 (cx_149pf_5 [])))))), [])
def cx_170q0 : zS := ((cx_149pi_0 (cx_149pi_1 (cx_149pi_2 (cx_149pi_3 (cx_149pi_4 []))))), [ur659, ur434, ur435, ur430, ur549, ur550, ur551], [], [], [], [uF128, uF130, uF131, uF712], [uG734])
/-- State.copyFrom -/
def cx_170 : zCtx := (102, cx_170p, [cx_170q0], kc_29, 57, 1, 64)
set_option maxRecDepth 1000000 in
theorem ck_170 : x_ok mLT1 [] mTS2 mTC2 mRUp cx_170 [] [(107, [1000879])] [] (57, []) 0 60 = true := by decide +kernel
theorem sn_170 {W : Bool} {X : List Int32} : y_Snd (mGw W) mLT1 (J2 W X) X cx_170 := y_ok J2_J mTS2_ok1 mTC2_ok1 mRUp_ok1 (fun _ h => absurd h List.not_mem_nil) ck_170
def cx_171p : zS := ((cx_149pi_0 (cx_149pi_1 (cx_149pi_2 (cx_149pi_3 (cx_149pi_4 []))))), [ur656, ur434, ur435, ur430, ur549, ur550, ur551], [], [], [uV2, uV422], (cx_149pf_0 (cx_149pf_1 (cx_149pf_2 (cx_149pf_3 (cx_149pf_4 (cx_149pf_5 [])))))), [])
def cx_171q0 : zS := ((cx_149pi_0 (cx_149pi_1 (cx_149pi_2 (cx_149pi_3 (cx_149pi_4 []))))), [ur656, ur434, ur435, ur430, ur549, ur550, ur551], [], [], [], [uF128, uF130, uF131, uF712], [uG735])
/-- State.copyFrom -/
def cx_171 : zCtx := (102, cx_171p, [cx_171q0], kc_30, 57, 1, 64)
set_option maxRecDepth 1000000 in
theorem ck_171 : x_ok mLT1 [] mTS2 mTC2 mRUp cx_171 [] [(107, [1000880])] [] (57, []) 0 60 = true := by decide +kernel
theorem sn_171 {W : Bool} {X : List Int32} : y_Snd (mGw W) mLT1 (J2 W X) X cx_171 := y_ok J2_J mTS2_ok1 mTC2_ok1 mRUp_ok1 (fun _ h => absurd h List.not_mem_nil) ck_171
def cx_172p : zS := ((cx_149pi_0 (cx_149pi_1 (cx_149pi_2 (cx_149pi_3 (cx_149pi_4 []))))), [ur653, ur434, ur435, ur430, ur549, ur550, ur551], [], [], [uV2, uV422], (cx_149pf_0 (cx_149pf_1 (cx_149pf_2 (cx_149pf_3 (cx_149pf_4 (cx_149pf_5 [])))))), [])
def cx_172q0 : zS := ((cx_149pi_0 (cx_149pi_1 (cx_149pi_2 (cx_149pi_3 (cx_149pi_4 []))))), [ur653, ur434, ur435, ur430, ur549, ur550, ur551], [], [], [], [uF128, uF130, uF131, uF712], [uG736])
/-- State.copyFrom -/
def cx_172 : zCtx := (102, cx_172p, [cx_172q0], kc_31, 57, 1, 64)
set_option maxRecDepth 1000000 in
theorem ck_172 : x_ok mLT1 [] mTS2 mTC2 mRUp cx_172 [] [(107, [1000881])] [] (57, []) 0 60 = true := by decide +kernel
theorem sn_172 {W : Bool} {X : List Int32} : y_Snd (mGw W) mLT1 (J2 W X) X cx_172 := y_ok J2_J mTS2_ok1 mTC2_ok1 mRUp_ok1 (fun _ h => absurd h List.not_mem_nil) ck_172
def cx_173p : zS := ((cx_149pi_0 (cx_149pi_1 (cx_149pi_2 (cx_149pi_3 (cx_149pi_4 []))))), [ur651, ur434, ur435, ur430, ur549, ur550, ur551], [], [], [uV2, uV422], (cx_149pf_0 (cx_149pf_1 (cx_149pf_2 (cx_149pf_3 (cx_149pf_4 (cx_149pf_5 [])))))), [])
def cx_173q0 : zS := ((cx_149pi_0 (cx_149pi_1 (cx_149pi_2 (cx_149pi_3 (cx_149pi_4 []))))), [ur651, ur434, ur435, ur430, ur549, ur550, ur551], [], [], [], [uF128, uF130, uF131, uF712], [uG737])
/-- State.copyFrom -/
def cx_173 : zCtx := (102, cx_173p, [cx_173q0], kc_32, 57, 1, 64)
set_option maxRecDepth 1000000 in
theorem ck_173 : x_ok mLT1 [] mTS2 mTC2 mRUp cx_173 [] [(107, [1000882])] [] (57, []) 0 60 = true := by decide +kernel
theorem sn_173 {W : Bool} {X : List Int32} : y_Snd (mGw W) mLT1 (J2 W X) X cx_173 := y_ok J2_J mTS2_ok1 mTC2_ok1 mRUp_ok1 (fun _ h => absurd h List.not_mem_nil) ck_173
end
