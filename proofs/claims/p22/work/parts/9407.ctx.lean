noncomputable section
/-! ===== readings, by program, checked by the kernel ===== -/
def cx_162p : zS := ((cx_149pi_0 (cx_149pi_1 (cx_149pi_2 (cx_149pi_3 (cx_149pi_4 []))))), [ur698, ur431, ur432, ur426, ur563, ur564, ur565], [], [], [uV2, uV419], (cx_149pf_0 (cx_149pf_1 (cx_149pf_2 (cx_149pf_3 (cx_149pf_4 (cx_149pf_5 [])))))), [])
def cx_162q0 : zS := ((cx_149pi_0 (cx_149pi_1 (cx_149pi_2 (cx_149pi_3 (cx_149pi_4 []))))), [ur698, ur431, ur432, ur426, ur563, ur564, ur565], [], [], [], [uF126, uF128, uF129, uF729], [uG743])
/-- State.copyFrom -/
def cx_162 : zCtx := (102, cx_162p, [cx_162q0], kc_21, 57, 1, 64)
set_option maxRecDepth 1000000 in
theorem ck_162 : x_ok mLT1 [] mTS2 mTC2 mRUp cx_162 [] [(107, [1000884])] [] (57, []) 0 60 = true := by decide +kernel
theorem sn_162 {W : Bool} {X : List Int32} : y_Snd (mGw W) mLT1 (J2 W X) X cx_162 := y_ok J2_J mTS2_ok1 mTC2_ok1 mRUp_ok1 (fun _ h => absurd h List.not_mem_nil) ck_162
def cx_163p : zS := ((cx_149pi_0 (cx_149pi_1 (cx_149pi_2 (cx_149pi_3 (cx_149pi_4 []))))), [ur695, ur431, ur432, ur426, ur563, ur564, ur565], [], [], [uV2, uV419], (cx_149pf_0 (cx_149pf_1 (cx_149pf_2 (cx_149pf_3 (cx_149pf_4 (cx_149pf_5 [])))))), [])
def cx_163q0 : zS := ((cx_149pi_0 (cx_149pi_1 (cx_149pi_2 (cx_149pi_3 (cx_149pi_4 []))))), [ur695, ur431, ur432, ur426, ur563, ur564, ur565], [], [], [], [uF126, uF128, uF129, uF729], [uG744])
/-- State.copyFrom -/
def cx_163 : zCtx := (102, cx_163p, [cx_163q0], kc_22, 57, 1, 64)
set_option maxRecDepth 1000000 in
theorem ck_163 : x_ok mLT1 [] mTS2 mTC2 mRUp cx_163 [] [(107, [1000885])] [] (57, []) 0 60 = true := by decide +kernel
theorem sn_163 {W : Bool} {X : List Int32} : y_Snd (mGw W) mLT1 (J2 W X) X cx_163 := y_ok J2_J mTS2_ok1 mTC2_ok1 mRUp_ok1 (fun _ h => absurd h List.not_mem_nil) ck_163
def cx_164p : zS := ((cx_149pi_0 (cx_149pi_1 (cx_149pi_2 (cx_149pi_3 (cx_149pi_4 []))))), [ur692, ur431, ur432, ur426, ur563, ur564, ur565], [], [], [uV2, uV419], (cx_149pf_0 (cx_149pf_1 (cx_149pf_2 (cx_149pf_3 (cx_149pf_4 (cx_149pf_5 [])))))), [])
def cx_164q0 : zS := ((cx_149pi_0 (cx_149pi_1 (cx_149pi_2 (cx_149pi_3 (cx_149pi_4 []))))), [ur692, ur431, ur432, ur426, ur563, ur564, ur565], [], [], [], [uF126, uF128, uF129, uF729], [uG745])
/-- State.copyFrom -/
def cx_164 : zCtx := (102, cx_164p, [cx_164q0], kc_23, 57, 1, 64)
set_option maxRecDepth 1000000 in
theorem ck_164 : x_ok mLT1 [] mTS2 mTC2 mRUp cx_164 [] [(107, [1000886])] [] (57, []) 0 60 = true := by decide +kernel
theorem sn_164 {W : Bool} {X : List Int32} : y_Snd (mGw W) mLT1 (J2 W X) X cx_164 := y_ok J2_J mTS2_ok1 mTC2_ok1 mRUp_ok1 (fun _ h => absurd h List.not_mem_nil) ck_164
def cx_165p : zS := ((cx_149pi_0 (cx_149pi_1 (cx_149pi_2 (cx_149pi_3 (cx_149pi_4 []))))), [ur690, ur431, ur432, ur426, ur563, ur564, ur565], [], [], [uV2, uV419], (cx_149pf_0 (cx_149pf_1 (cx_149pf_2 (cx_149pf_3 (cx_149pf_4 (cx_149pf_5 [])))))), [])
def cx_165q0 : zS := ((cx_149pi_0 (cx_149pi_1 (cx_149pi_2 (cx_149pi_3 (cx_149pi_4 []))))), [ur690, ur431, ur432, ur426, ur563, ur564, ur565], [], [], [], [uF126, uF128, uF129, uF729], [uG746])
/-- State.copyFrom -/
def cx_165 : zCtx := (102, cx_165p, [cx_165q0], kc_24, 57, 1, 64)
set_option maxRecDepth 1000000 in
theorem ck_165 : x_ok mLT1 [] mTS2 mTC2 mRUp cx_165 [] [(107, [1000887])] [] (57, []) 0 60 = true := by decide +kernel
theorem sn_165 {W : Bool} {X : List Int32} : y_Snd (mGw W) mLT1 (J2 W X) X cx_165 := y_ok J2_J mTS2_ok1 mTC2_ok1 mRUp_ok1 (fun _ h => absurd h List.not_mem_nil) ck_165
def cx_166p : zS := ((cx_149pi_0 (cx_149pi_1 (cx_149pi_2 (cx_149pi_3 (cx_149pi_4 []))))), [ur687, ur431, ur432, ur426, ur563, ur564, ur565], [], [], [uV2, uV419], (cx_149pf_0 (cx_149pf_1 (cx_149pf_2 (cx_149pf_3 (cx_149pf_4 (cx_149pf_5 [])))))), [])
def cx_166q0 : zS := ((cx_149pi_0 (cx_149pi_1 (cx_149pi_2 (cx_149pi_3 (cx_149pi_4 []))))), [ur687, ur431, ur432, ur426, ur563, ur564, ur565], [], [], [], [uF126, uF128, uF129, uF729], [uG747])
/-- State.copyFrom -/
def cx_166 : zCtx := (102, cx_166p, [cx_166q0], kc_25, 57, 1, 64)
set_option maxRecDepth 1000000 in
theorem ck_166 : x_ok mLT1 [] mTS2 mTC2 mRUp cx_166 [] [(107, [1000888])] [] (57, []) 0 60 = true := by decide +kernel
theorem sn_166 {W : Bool} {X : List Int32} : y_Snd (mGw W) mLT1 (J2 W X) X cx_166 := y_ok J2_J mTS2_ok1 mTC2_ok1 mRUp_ok1 (fun _ h => absurd h List.not_mem_nil) ck_166
def cx_167p : zS := ((cx_149pi_0 (cx_149pi_1 (cx_149pi_2 (cx_149pi_3 (cx_149pi_4 []))))), [ur684, ur431, ur432, ur426, ur563, ur564, ur565], [], [], [uV2, uV419], (cx_149pf_0 (cx_149pf_1 (cx_149pf_2 (cx_149pf_3 (cx_149pf_4 (cx_149pf_5 [])))))), [])
def cx_167q0 : zS := ((cx_149pi_0 (cx_149pi_1 (cx_149pi_2 (cx_149pi_3 (cx_149pi_4 []))))), [ur684, ur431, ur432, ur426, ur563, ur564, ur565], [], [], [], [uF126, uF128, uF129, uF729], [uG748])
/-- State.copyFrom -/
def cx_167 : zCtx := (102, cx_167p, [cx_167q0], kc_26, 57, 1, 64)
set_option maxRecDepth 1000000 in
theorem ck_167 : x_ok mLT1 [] mTS2 mTC2 mRUp cx_167 [] [(107, [1000889])] [] (57, []) 0 60 = true := by decide +kernel
theorem sn_167 {W : Bool} {X : List Int32} : y_Snd (mGw W) mLT1 (J2 W X) X cx_167 := y_ok J2_J mTS2_ok1 mTC2_ok1 mRUp_ok1 (fun _ h => absurd h List.not_mem_nil) ck_167
def cx_168p : zS := ((cx_149pi_0 (cx_149pi_1 (cx_149pi_2 (cx_149pi_3 (cx_149pi_4 []))))), [ur681, ur431, ur432, ur426, ur563, ur564, ur565], [], [], [uV2, uV419], (cx_149pf_0 (cx_149pf_1 (cx_149pf_2 (cx_149pf_3 (cx_149pf_4 (cx_149pf_5 [])))))), [])
def cx_168q0 : zS := ((cx_149pi_0 (cx_149pi_1 (cx_149pi_2 (cx_149pi_3 (cx_149pi_4 []))))), [ur681, ur431, ur432, ur426, ur563, ur564, ur565], [], [], [], [uF126, uF128, uF129, uF729], [uG749])
/-- State.copyFrom -/
def cx_168 : zCtx := (102, cx_168p, [cx_168q0], kc_27, 57, 1, 64)
set_option maxRecDepth 1000000 in
theorem ck_168 : x_ok mLT1 [] mTS2 mTC2 mRUp cx_168 [] [(107, [1000890])] [] (57, []) 0 60 = true := by decide +kernel
theorem sn_168 {W : Bool} {X : List Int32} : y_Snd (mGw W) mLT1 (J2 W X) X cx_168 := y_ok J2_J mTS2_ok1 mTC2_ok1 mRUp_ok1 (fun _ h => absurd h List.not_mem_nil) ck_168
def cx_169p : zS := ((cx_149pi_0 (cx_149pi_1 (cx_149pi_2 (cx_149pi_3 (cx_149pi_4 []))))), [ur678, ur431, ur432, ur426, ur563, ur564, ur565], [], [], [uV2, uV419], (cx_149pf_0 (cx_149pf_1 (cx_149pf_2 (cx_149pf_3 (cx_149pf_4 (cx_149pf_5 [])))))), [])
def cx_169q0 : zS := ((cx_149pi_0 (cx_149pi_1 (cx_149pi_2 (cx_149pi_3 (cx_149pi_4 []))))), [ur678, ur431, ur432, ur426, ur563, ur564, ur565], [], [], [], [uF126, uF128, uF129, uF729], [uG750])
/-- State.copyFrom -/
def cx_169 : zCtx := (102, cx_169p, [cx_169q0], kc_28, 57, 1, 64)
set_option maxRecDepth 1000000 in
theorem ck_169 : x_ok mLT1 [] mTS2 mTC2 mRUp cx_169 [] [(107, [1000891])] [] (57, []) 0 60 = true := by decide +kernel
theorem sn_169 {W : Bool} {X : List Int32} : y_Snd (mGw W) mLT1 (J2 W X) X cx_169 := y_ok J2_J mTS2_ok1 mTC2_ok1 mRUp_ok1 (fun _ h => absurd h List.not_mem_nil) ck_169
def cx_170p : zS := ((cx_149pi_0 (cx_149pi_1 (cx_149pi_2 (cx_149pi_3 (cx_149pi_4 []))))), [ur675, ur431, ur432, ur426, ur563, ur564, ur565], [], [], [uV2, uV419], (cx_149pf_0 (cx_149pf_1 (cx_149pf_2 (cx_149pf_3 (cx_149pf_4 (cx_149pf_5 [])))))), [])
def cx_170q0 : zS := ((cx_149pi_0 (cx_149pi_1 (cx_149pi_2 (cx_149pi_3 (cx_149pi_4 []))))), [ur675, ur431, ur432, ur426, ur563, ur564, ur565], [], [], [], [uF126, uF128, uF129, uF729], [uG751])
/-- State.copyFrom -/
def cx_170 : zCtx := (102, cx_170p, [cx_170q0], kc_29, 57, 1, 64)
set_option maxRecDepth 1000000 in
theorem ck_170 : x_ok mLT1 [] mTS2 mTC2 mRUp cx_170 [] [(107, [1000892])] [] (57, []) 0 60 = true := by decide +kernel
theorem sn_170 {W : Bool} {X : List Int32} : y_Snd (mGw W) mLT1 (J2 W X) X cx_170 := y_ok J2_J mTS2_ok1 mTC2_ok1 mRUp_ok1 (fun _ h => absurd h List.not_mem_nil) ck_170
def cx_171p : zS := ((cx_149pi_0 (cx_149pi_1 (cx_149pi_2 (cx_149pi_3 (cx_149pi_4 []))))), [ur672, ur431, ur432, ur426, ur563, ur564, ur565], [], [], [uV2, uV419], (cx_149pf_0 (cx_149pf_1 (cx_149pf_2 (cx_149pf_3 (cx_149pf_4 (cx_149pf_5 [])))))), [])
def cx_171q0 : zS := ((cx_149pi_0 (cx_149pi_1 (cx_149pi_2 (cx_149pi_3 (cx_149pi_4 []))))), [ur672, ur431, ur432, ur426, ur563, ur564, ur565], [], [], [], [uF126, uF128, uF129, uF729], [uG752])
/-- State.copyFrom -/
def cx_171 : zCtx := (102, cx_171p, [cx_171q0], kc_30, 57, 1, 64)
set_option maxRecDepth 1000000 in
theorem ck_171 : x_ok mLT1 [] mTS2 mTC2 mRUp cx_171 [] [(107, [1000893])] [] (57, []) 0 60 = true := by decide +kernel
theorem sn_171 {W : Bool} {X : List Int32} : y_Snd (mGw W) mLT1 (J2 W X) X cx_171 := y_ok J2_J mTS2_ok1 mTC2_ok1 mRUp_ok1 (fun _ h => absurd h List.not_mem_nil) ck_171
def cx_172p : zS := ((cx_149pi_0 (cx_149pi_1 (cx_149pi_2 (cx_149pi_3 (cx_149pi_4 []))))), [ur669, ur431, ur432, ur426, ur563, ur564, ur565], [], [], [uV2, uV419], (cx_149pf_0 (cx_149pf_1 (cx_149pf_2 (cx_149pf_3 (cx_149pf_4 (cx_149pf_5 [])))))), [])
def cx_172q0 : zS := ((cx_149pi_0 (cx_149pi_1 (cx_149pi_2 (cx_149pi_3 (cx_149pi_4 []))))), [ur669, ur431, ur432, ur426, ur563, ur564, ur565], [], [], [], [uF126, uF128, uF129, uF729], [uG753])
/-- State.copyFrom -/
def cx_172 : zCtx := (102, cx_172p, [cx_172q0], kc_31, 57, 1, 64)
set_option maxRecDepth 1000000 in
theorem ck_172 : x_ok mLT1 [] mTS2 mTC2 mRUp cx_172 [] [(107, [1000894])] [] (57, []) 0 60 = true := by decide +kernel
theorem sn_172 {W : Bool} {X : List Int32} : y_Snd (mGw W) mLT1 (J2 W X) X cx_172 := y_ok J2_J mTS2_ok1 mTC2_ok1 mRUp_ok1 (fun _ h => absurd h List.not_mem_nil) ck_172
def cx_173p : zS := ((cx_149pi_0 (cx_149pi_1 (cx_149pi_2 (cx_149pi_3 (cx_149pi_4 []))))), [ur667, ur431, ur432, ur426, ur563, ur564, ur565], [], [], [uV2, uV419], (cx_149pf_0 (cx_149pf_1 (cx_149pf_2 (cx_149pf_3 (cx_149pf_4 (cx_149pf_5 [])))))), [])
def cx_173q0 : zS := ((cx_149pi_0 (cx_149pi_1 (cx_149pi_2 (cx_149pi_3 (cx_149pi_4 []))))), [ur667, ur431, ur432, ur426, ur563, ur564, ur565], [], [], [], [uF126, uF128, uF129, uF729], [uG754])
/-- State.copyFrom -/
def cx_173 : zCtx := (102, cx_173p, [cx_173q0], kc_32, 57, 1, 64)
set_option maxRecDepth 1000000 in
theorem ck_173 : x_ok mLT1 [] mTS2 mTC2 mRUp cx_173 [] [(107, [1000895])] [] (57, []) 0 60 = true := by decide +kernel
theorem sn_173 {W : Bool} {X : List Int32} : y_Snd (mGw W) mLT1 (J2 W X) X cx_173 := y_ok J2_J mTS2_ok1 mTC2_ok1 mRUp_ok1 (fun _ h => absurd h List.not_mem_nil) ck_173
end
