noncomputable section
/-! ===== readings, by program, checked by the kernel ===== -/
def cx_150p : zS := ((cx_149pi_0 (cx_149pi_1 (cx_149pi_2 (cx_149pi_3 (cx_149pi_4 []))))), [ur722, ur431, ur432, ur426, ur563, ur564, ur565], [], [], [uV2, uV419], (cx_149pf_0 (cx_149pf_1 (cx_149pf_2 (cx_149pf_3 (cx_149pf_4 (cx_149pf_5 [])))))), [])
def cx_150q0 : zS := ((cx_149pi_0 (cx_149pi_1 (cx_149pi_2 (cx_149pi_3 (cx_149pi_4 []))))), [ur722, ur431, ur432, ur426, ur563, ur564, ur565], [], [], [], [uF126, uF128, uF129, uF729], [uG731])
/-- State.copyFrom -/
def cx_150 : zCtx := (102, cx_150p, [cx_150q0], kc_9, 57, 1, 64)
set_option maxRecDepth 1000000 in
theorem ck_150 : x_ok mLT1 [] mTS2 mTC2 mRUp cx_150 [] [(107, [1000872])] [] (57, []) 0 60 = true := by decide +kernel
theorem sn_150 {W : Bool} {X : List Int32} : y_Snd (mGw W) mLT1 (J2 W X) X cx_150 := y_ok J2_J mTS2_ok1 mTC2_ok1 mRUp_ok1 (fun _ h => absurd h List.not_mem_nil) ck_150
def cx_151p : zS := ((cx_149pi_0 (cx_149pi_1 (cx_149pi_2 (cx_149pi_3 (cx_149pi_4 []))))), [ur720, ur431, ur432, ur426, ur563, ur564, ur565], [], [], [uV2, uV419], (cx_149pf_0 (cx_149pf_1 (cx_149pf_2 (cx_149pf_3 (cx_149pf_4 (cx_149pf_5 [])))))), [])
def cx_151q0 : zS := ((cx_149pi_0 (cx_149pi_1 (cx_149pi_2 (cx_149pi_3 (cx_149pi_4 []))))), [ur720, ur431, ur432, ur426, ur563, ur564, ur565], [], [], [], [uF126, uF128, uF129, uF729], [uG732])
/-- State.copyFrom -/
def cx_151 : zCtx := (102, cx_151p, [cx_151q0], kc_10, 57, 1, 64)
set_option maxRecDepth 1000000 in
theorem ck_151 : x_ok mLT1 [] mTS2 mTC2 mRUp cx_151 [] [(107, [1000873])] [] (57, []) 0 60 = true := by decide +kernel
theorem sn_151 {W : Bool} {X : List Int32} : y_Snd (mGw W) mLT1 (J2 W X) X cx_151 := y_ok J2_J mTS2_ok1 mTC2_ok1 mRUp_ok1 (fun _ h => absurd h List.not_mem_nil) ck_151
def cx_152p : zS := ((cx_149pi_0 (cx_149pi_1 (cx_149pi_2 (cx_149pi_3 (cx_149pi_4 []))))), [ur718, ur431, ur432, ur426, ur563, ur564, ur565], [], [], [uV2, uV419], (cx_149pf_0 (cx_149pf_1 (cx_149pf_2 (cx_149pf_3 (cx_149pf_4 (cx_149pf_5 [])))))), [])
def cx_152q0 : zS := ((cx_149pi_0 (cx_149pi_1 (cx_149pi_2 (cx_149pi_3 (cx_149pi_4 []))))), [ur718, ur431, ur432, ur426, ur563, ur564, ur565], [], [], [], [uF126, uF128, uF129, uF729], [uG733])
/-- State.copyFrom -/
def cx_152 : zCtx := (102, cx_152p, [cx_152q0], kc_11, 57, 1, 64)
set_option maxRecDepth 1000000 in
theorem ck_152 : x_ok mLT1 [] mTS2 mTC2 mRUp cx_152 [] [(107, [1000874])] [] (57, []) 0 60 = true := by decide +kernel
theorem sn_152 {W : Bool} {X : List Int32} : y_Snd (mGw W) mLT1 (J2 W X) X cx_152 := y_ok J2_J mTS2_ok1 mTC2_ok1 mRUp_ok1 (fun _ h => absurd h List.not_mem_nil) ck_152
def cx_153p : zS := ((cx_149pi_0 (cx_149pi_1 (cx_149pi_2 (cx_149pi_3 (cx_149pi_4 []))))), [ur716, ur431, ur432, ur426, ur563, ur564, ur565], [], [], [uV2, uV419], (cx_149pf_0 (cx_149pf_1 (cx_149pf_2 (cx_149pf_3 (cx_149pf_4 (cx_149pf_5 [])))))), [])
def cx_153q0 : zS := ((cx_149pi_0 (cx_149pi_1 (cx_149pi_2 (cx_149pi_3 (cx_149pi_4 []))))), [ur716, ur431, ur432, ur426, ur563, ur564, ur565], [], [], [], [uF126, uF128, uF129, uF729], [uG734])
/-- State.copyFrom -/
def cx_153 : zCtx := (102, cx_153p, [cx_153q0], kc_12, 57, 1, 64)
set_option maxRecDepth 1000000 in
theorem ck_153 : x_ok mLT1 [] mTS2 mTC2 mRUp cx_153 [] [(107, [1000875])] [] (57, []) 0 60 = true := by decide +kernel
theorem sn_153 {W : Bool} {X : List Int32} : y_Snd (mGw W) mLT1 (J2 W X) X cx_153 := y_ok J2_J mTS2_ok1 mTC2_ok1 mRUp_ok1 (fun _ h => absurd h List.not_mem_nil) ck_153
def cx_154p : zS := ((cx_149pi_0 (cx_149pi_1 (cx_149pi_2 (cx_149pi_3 (cx_149pi_4 []))))), [ur714, ur431, ur432, ur426, ur563, ur564, ur565], [], [], [uV2, uV419], (cx_149pf_0 (cx_149pf_1 (cx_149pf_2 (cx_149pf_3 (cx_149pf_4 (cx_149pf_5 [])))))), [])
def cx_154q0 : zS := ((cx_149pi_0 (cx_149pi_1 (cx_149pi_2 (cx_149pi_3 (cx_149pi_4 []))))), [ur714, ur431, ur432, ur426, ur563, ur564, ur565], [], [], [], [uF126, uF128, uF129, uF729], [uG735])
/-- State.copyFrom -/
def cx_154 : zCtx := (102, cx_154p, [cx_154q0], kc_13, 57, 1, 64)
set_option maxRecDepth 1000000 in
theorem ck_154 : x_ok mLT1 [] mTS2 mTC2 mRUp cx_154 [] [(107, [1000876])] [] (57, []) 0 60 = true := by decide +kernel
theorem sn_154 {W : Bool} {X : List Int32} : y_Snd (mGw W) mLT1 (J2 W X) X cx_154 := y_ok J2_J mTS2_ok1 mTC2_ok1 mRUp_ok1 (fun _ h => absurd h List.not_mem_nil) ck_154
def cx_155p : zS := ((cx_149pi_0 (cx_149pi_1 (cx_149pi_2 (cx_149pi_3 (cx_149pi_4 []))))), [ur712, ur431, ur432, ur426, ur563, ur564, ur565], [], [], [uV2, uV419], (cx_149pf_0 (cx_149pf_1 (cx_149pf_2 (cx_149pf_3 (cx_149pf_4 (cx_149pf_5 [])))))), [])
def cx_155q0 : zS := ((cx_149pi_0 (cx_149pi_1 (cx_149pi_2 (cx_149pi_3 (cx_149pi_4 []))))), [ur712, ur431, ur432, ur426, ur563, ur564, ur565], [], [], [], [uF126, uF128, uF129, uF729], [uG736])
/-- State.copyFrom -/
def cx_155 : zCtx := (102, cx_155p, [cx_155q0], kc_14, 57, 1, 64)
set_option maxRecDepth 1000000 in
theorem ck_155 : x_ok mLT1 [] mTS2 mTC2 mRUp cx_155 [] [(107, [1000877])] [] (57, []) 0 60 = true := by decide +kernel
theorem sn_155 {W : Bool} {X : List Int32} : y_Snd (mGw W) mLT1 (J2 W X) X cx_155 := y_ok J2_J mTS2_ok1 mTC2_ok1 mRUp_ok1 (fun _ h => absurd h List.not_mem_nil) ck_155
def cx_156p : zS := ((cx_149pi_0 (cx_149pi_1 (cx_149pi_2 (cx_149pi_3 (cx_149pi_4 []))))), [ur710, ur431, ur432, ur426, ur563, ur564, ur565], [], [], [uV2, uV419], (cx_149pf_0 (cx_149pf_1 (cx_149pf_2 (cx_149pf_3 (cx_149pf_4 (cx_149pf_5 [])))))), [])
def cx_156q0 : zS := ((cx_149pi_0 (cx_149pi_1 (cx_149pi_2 (cx_149pi_3 (cx_149pi_4 []))))), [ur710, ur431, ur432, ur426, ur563, ur564, ur565], [], [], [], [uF126, uF128, uF129, uF729], [uG737])
/-- State.copyFrom -/
def cx_156 : zCtx := (102, cx_156p, [cx_156q0], kc_15, 57, 1, 64)
set_option maxRecDepth 1000000 in
theorem ck_156 : x_ok mLT1 [] mTS2 mTC2 mRUp cx_156 [] [(107, [1000878])] [] (57, []) 0 60 = true := by decide +kernel
theorem sn_156 {W : Bool} {X : List Int32} : y_Snd (mGw W) mLT1 (J2 W X) X cx_156 := y_ok J2_J mTS2_ok1 mTC2_ok1 mRUp_ok1 (fun _ h => absurd h List.not_mem_nil) ck_156
def cx_157p : zS := ((cx_149pi_0 (cx_149pi_1 (cx_149pi_2 (cx_149pi_3 (cx_149pi_4 []))))), [ur708, ur431, ur432, ur426, ur563, ur564, ur565], [], [], [uV2, uV419], (cx_149pf_0 (cx_149pf_1 (cx_149pf_2 (cx_149pf_3 (cx_149pf_4 (cx_149pf_5 [])))))), [])
def cx_157q0 : zS := ((cx_149pi_0 (cx_149pi_1 (cx_149pi_2 (cx_149pi_3 (cx_149pi_4 []))))), [ur708, ur431, ur432, ur426, ur563, ur564, ur565], [], [], [], [uF126, uF128, uF129, uF729], [uG738])
/-- State.copyFrom -/
def cx_157 : zCtx := (102, cx_157p, [cx_157q0], kc_16, 57, 1, 64)
set_option maxRecDepth 1000000 in
theorem ck_157 : x_ok mLT1 [] mTS2 mTC2 mRUp cx_157 [] [(107, [1000879])] [] (57, []) 0 60 = true := by decide +kernel
theorem sn_157 {W : Bool} {X : List Int32} : y_Snd (mGw W) mLT1 (J2 W X) X cx_157 := y_ok J2_J mTS2_ok1 mTC2_ok1 mRUp_ok1 (fun _ h => absurd h List.not_mem_nil) ck_157
def cx_158p : zS := ((cx_149pi_0 (cx_149pi_1 (cx_149pi_2 (cx_149pi_3 (cx_149pi_4 []))))), [ur706, ur431, ur432, ur426, ur563, ur564, ur565], [], [], [uV2, uV419], (cx_149pf_0 (cx_149pf_1 (cx_149pf_2 (cx_149pf_3 (cx_149pf_4 (cx_149pf_5 [])))))), [])
def cx_158q0 : zS := ((cx_149pi_0 (cx_149pi_1 (cx_149pi_2 (cx_149pi_3 (cx_149pi_4 []))))), [ur706, ur431, ur432, ur426, ur563, ur564, ur565], [], [], [], [uF126, uF128, uF129, uF729], [uG739])
/-- State.copyFrom -/
def cx_158 : zCtx := (102, cx_158p, [cx_158q0], kc_17, 57, 1, 64)
set_option maxRecDepth 1000000 in
theorem ck_158 : x_ok mLT1 [] mTS2 mTC2 mRUp cx_158 [] [(107, [1000880])] [] (57, []) 0 60 = true := by decide +kernel
theorem sn_158 {W : Bool} {X : List Int32} : y_Snd (mGw W) mLT1 (J2 W X) X cx_158 := y_ok J2_J mTS2_ok1 mTC2_ok1 mRUp_ok1 (fun _ h => absurd h List.not_mem_nil) ck_158
def cx_159p : zS := ((cx_149pi_0 (cx_149pi_1 (cx_149pi_2 (cx_149pi_3 (cx_149pi_4 []))))), [ur704, ur431, ur432, ur426, ur563, ur564, ur565], [], [], [uV2, uV419], (cx_149pf_0 (cx_149pf_1 (cx_149pf_2 (cx_149pf_3 (cx_149pf_4 (cx_149pf_5 [])))))), [])
def cx_159q0 : zS := ((cx_149pi_0 (cx_149pi_1 (cx_149pi_2 (cx_149pi_3 (cx_149pi_4 []))))), [ur704, ur431, ur432, ur426, ur563, ur564, ur565], [], [], [], [uF126, uF128, uF129, uF729], [uG740])
/-- State.copyFrom -/
def cx_159 : zCtx := (102, cx_159p, [cx_159q0], kc_18, 57, 1, 64)
set_option maxRecDepth 1000000 in
theorem ck_159 : x_ok mLT1 [] mTS2 mTC2 mRUp cx_159 [] [(107, [1000881])] [] (57, []) 0 60 = true := by decide +kernel
theorem sn_159 {W : Bool} {X : List Int32} : y_Snd (mGw W) mLT1 (J2 W X) X cx_159 := y_ok J2_J mTS2_ok1 mTC2_ok1 mRUp_ok1 (fun _ h => absurd h List.not_mem_nil) ck_159
def cx_160p : zS := ((cx_149pi_0 (cx_149pi_1 (cx_149pi_2 (cx_149pi_3 (cx_149pi_4 []))))), [ur702, ur431, ur432, ur426, ur563, ur564, ur565], [], [], [uV2, uV419], (cx_149pf_0 (cx_149pf_1 (cx_149pf_2 (cx_149pf_3 (cx_149pf_4 (cx_149pf_5 [])))))), [])
def cx_160q0 : zS := ((cx_149pi_0 (cx_149pi_1 (cx_149pi_2 (cx_149pi_3 (cx_149pi_4 []))))), [ur702, ur431, ur432, ur426, ur563, ur564, ur565], [], [], [], [uF126, uF128, uF129, uF729], [uG741])
/-- State.copyFrom -/
def cx_160 : zCtx := (102, cx_160p, [cx_160q0], kc_19, 57, 1, 64)
set_option maxRecDepth 1000000 in
theorem ck_160 : x_ok mLT1 [] mTS2 mTC2 mRUp cx_160 [] [(107, [1000882])] [] (57, []) 0 60 = true := by decide +kernel
theorem sn_160 {W : Bool} {X : List Int32} : y_Snd (mGw W) mLT1 (J2 W X) X cx_160 := y_ok J2_J mTS2_ok1 mTC2_ok1 mRUp_ok1 (fun _ h => absurd h List.not_mem_nil) ck_160
def cx_161p : zS := ((cx_149pi_0 (cx_149pi_1 (cx_149pi_2 (cx_149pi_3 (cx_149pi_4 []))))), [ur700, ur431, ur432, ur426, ur563, ur564, ur565], [], [], [uV2, uV419], (cx_149pf_0 (cx_149pf_1 (cx_149pf_2 (cx_149pf_3 (cx_149pf_4 (cx_149pf_5 [])))))), [])
def cx_161q0 : zS := ((cx_149pi_0 (cx_149pi_1 (cx_149pi_2 (cx_149pi_3 (cx_149pi_4 []))))), [ur700, ur431, ur432, ur426, ur563, ur564, ur565], [], [], [], [uF126, uF128, uF129, uF729], [uG742])
/-- State.copyFrom -/
def cx_161 : zCtx := (102, cx_161p, [cx_161q0], kc_20, 57, 1, 64)
set_option maxRecDepth 1000000 in
theorem ck_161 : x_ok mLT1 [] mTS2 mTC2 mRUp cx_161 [] [(107, [1000883])] [] (57, []) 0 60 = true := by decide +kernel
theorem sn_161 {W : Bool} {X : List Int32} : y_Snd (mGw W) mLT1 (J2 W X) X cx_161 := y_ok J2_J mTS2_ok1 mTC2_ok1 mRUp_ok1 (fun _ h => absurd h List.not_mem_nil) ck_161
end
