noncomputable section
/-! ===== readings, by program, checked by the kernel ===== -/
def cx_174p : zS := ((cx_149pi_0 (cx_149pi_1 (cx_149pi_2 (cx_149pi_3 (cx_149pi_4 []))))), [ur664, ur431, ur432, ur426, ur563, ur564, ur565], [], [], [uV2, uV419], (cx_149pf_0 (cx_149pf_1 (cx_149pf_2 (cx_149pf_3 (cx_149pf_4 (cx_149pf_5 [])))))), [])
def cx_174q0 : zS := ((cx_149pi_0 (cx_149pi_1 (cx_149pi_2 (cx_149pi_3 (cx_149pi_4 []))))), [ur664, ur431, ur432, ur426, ur563, ur564, ur565], [], [], [], [uF126, uF128, uF129, uF729], [uG755])
/-- State.copyFrom -/
def cx_174 : zCtx := (102, cx_174p, [cx_174q0], kc_33, 57, 1, 64)
set_option maxRecDepth 1000000 in
theorem ck_174 : x_ok mLT1 [] mTS2 mTC2 mRUp cx_174 [] [(107, [1000896])] [] (57, []) 0 60 = true := by decide +kernel
theorem sn_174 {W : Bool} {X : List Int32} : y_Snd (mGw W) mLT1 (J2 W X) X cx_174 := y_ok J2_J mTS2_ok1 mTC2_ok1 mRUp_ok1 (fun _ h => absurd h List.not_mem_nil) ck_174
def cx_175p : zS := ((cx_149pi_0 (cx_149pi_1 (cx_149pi_2 (cx_149pi_3 (cx_149pi_4 []))))), [ur661, ur431, ur432, ur426, ur563, ur564, ur565], [], [], [uV2, uV419], (cx_149pf_0 (cx_149pf_1 (cx_149pf_2 (cx_149pf_3 (cx_149pf_4 (cx_149pf_5 [])))))), [])
def cx_175q0 : zS := ((cx_149pi_0 (cx_149pi_1 (cx_149pi_2 (cx_149pi_3 (cx_149pi_4 []))))), [ur661, ur431, ur432, ur426, ur563, ur564, ur565], [], [], [], [uF126, uF128, uF129, uF729], [uG756])
/-- State.copyFrom -/
def cx_175 : zCtx := (102, cx_175p, [cx_175q0], kc_34, 57, 1, 64)
set_option maxRecDepth 1000000 in
theorem ck_175 : x_ok mLT1 [] mTS2 mTC2 mRUp cx_175 [] [(107, [1000897])] [] (57, []) 0 60 = true := by decide +kernel
theorem sn_175 {W : Bool} {X : List Int32} : y_Snd (mGw W) mLT1 (J2 W X) X cx_175 := y_ok J2_J mTS2_ok1 mTC2_ok1 mRUp_ok1 (fun _ h => absurd h List.not_mem_nil) ck_175
def cx_176p : zS := ((cx_149pi_0 (cx_149pi_1 (cx_149pi_2 (cx_149pi_3 (cx_149pi_4 []))))), [ur658, ur431, ur432, ur426, ur563, ur564, ur565], [], [], [uV2, uV419], (cx_149pf_0 (cx_149pf_1 (cx_149pf_2 (cx_149pf_3 (cx_149pf_4 (cx_149pf_5 [])))))), [])
def cx_176q0 : zS := ((cx_149pi_0 (cx_149pi_1 (cx_149pi_2 (cx_149pi_3 (cx_149pi_4 []))))), [ur658, ur431, ur432, ur426, ur563, ur564, ur565], [], [], [], [uF126, uF128, uF129, uF729], [uG757])
/-- State.copyFrom -/
def cx_176 : zCtx := (102, cx_176p, [cx_176q0], kc_35, 57, 1, 64)
set_option maxRecDepth 1000000 in
theorem ck_176 : x_ok mLT1 [] mTS2 mTC2 mRUp cx_176 [] [(107, [1000898])] [] (57, []) 0 60 = true := by decide +kernel
theorem sn_176 {W : Bool} {X : List Int32} : y_Snd (mGw W) mLT1 (J2 W X) X cx_176 := y_ok J2_J mTS2_ok1 mTC2_ok1 mRUp_ok1 (fun _ h => absurd h List.not_mem_nil) ck_176
def cx_177p : zS := ((cx_149pi_0 (cx_149pi_1 (cx_149pi_2 (cx_149pi_3 (cx_149pi_4 []))))), [ur655, ur431, ur432, ur426, ur563, ur564, ur565], [], [], [uV2, uV419], (cx_149pf_0 (cx_149pf_1 (cx_149pf_2 (cx_149pf_3 (cx_149pf_4 (cx_149pf_5 [])))))), [])
def cx_177q0 : zS := ((cx_149pi_0 (cx_149pi_1 (cx_149pi_2 (cx_149pi_3 (cx_149pi_4 []))))), [ur655, ur431, ur432, ur426, ur563, ur564, ur565], [], [], [], [uF126, uF128, uF129, uF729], [uG758])
/-- State.copyFrom -/
def cx_177 : zCtx := (102, cx_177p, [cx_177q0], kc_36, 57, 1, 64)
set_option maxRecDepth 1000000 in
theorem ck_177 : x_ok mLT1 [] mTS2 mTC2 mRUp cx_177 [] [(107, [1000899])] [] (57, []) 0 60 = true := by decide +kernel
theorem sn_177 {W : Bool} {X : List Int32} : y_Snd (mGw W) mLT1 (J2 W X) X cx_177 := y_ok J2_J mTS2_ok1 mTC2_ok1 mRUp_ok1 (fun _ h => absurd h List.not_mem_nil) ck_177
def cx_178p : zS := ((cx_149pi_0 (cx_149pi_1 (cx_149pi_2 (cx_149pi_3 (cx_149pi_4 []))))), [ur652, ur431, ur432, ur426, ur563, ur564, ur565], [], [], [uV2, uV419], (cx_149pf_0 (cx_149pf_1 (cx_149pf_2 (cx_149pf_3 (cx_149pf_4 (cx_149pf_5 [])))))), [])
def cx_178q0 : zS := ((cx_149pi_0 (cx_149pi_1 (cx_149pi_2 (cx_149pi_3 (cx_149pi_4 []))))), [ur652, ur431, ur432, ur426, ur563, ur564, ur565], [], [], [], [uF126, uF128, uF129, uF729], [uG759])
/-- State.copyFrom -/
def cx_178 : zCtx := (102, cx_178p, [cx_178q0], kc_37, 57, 1, 64)
set_option maxRecDepth 1000000 in
theorem ck_178 : x_ok mLT1 [] mTS2 mTC2 mRUp cx_178 [] [(107, [1000900])] [] (57, []) 0 60 = true := by decide +kernel
theorem sn_178 {W : Bool} {X : List Int32} : y_Snd (mGw W) mLT1 (J2 W X) X cx_178 := y_ok J2_J mTS2_ok1 mTC2_ok1 mRUp_ok1 (fun _ h => absurd h List.not_mem_nil) ck_178
def cx_179p : zS := ((cx_149pi_0 (cx_149pi_1 (cx_149pi_2 (cx_149pi_3 (cx_149pi_4 []))))), [ur649, ur431, ur432, ur426, ur563, ur564, ur565], [], [], [uV2, uV419], (cx_149pf_0 (cx_149pf_1 (cx_149pf_2 (cx_149pf_3 (cx_149pf_4 (cx_149pf_5 [])))))), [])
def cx_179q0 : zS := ((cx_149pi_0 (cx_149pi_1 (cx_149pi_2 (cx_149pi_3 (cx_149pi_4 []))))), [ur649, ur431, ur432, ur426, ur563, ur564, ur565], [], [], [], [uF126, uF128, uF129, uF729], [uG760])
/-- State.copyFrom -/
def cx_179 : zCtx := (102, cx_179p, [cx_179q0], kc_38, 57, 1, 64)
set_option maxRecDepth 1000000 in
theorem ck_179 : x_ok mLT1 [] mTS2 mTC2 mRUp cx_179 [] [(107, [1000901])] [] (57, []) 0 60 = true := by decide +kernel
theorem sn_179 {W : Bool} {X : List Int32} : y_Snd (mGw W) mLT1 (J2 W X) X cx_179 := y_ok J2_J mTS2_ok1 mTC2_ok1 mRUp_ok1 (fun _ h => absurd h List.not_mem_nil) ck_179
def cx_180p : zS := ((cx_149pi_0 (cx_149pi_1 (cx_149pi_2 (cx_149pi_3 (cx_149pi_4 []))))), [ur647, ur431, ur432, ur426, ur563, ur564, ur565], [], [], [uV2, uV419], (cx_149pf_0 (cx_149pf_1 (cx_149pf_2 (cx_149pf_3 (cx_149pf_4 (cx_149pf_5 [])))))), [])
def cx_180q0 : zS := ((cx_149pi_0 (cx_149pi_1 (cx_149pi_2 (cx_149pi_3 (cx_149pi_4 []))))), [ur647, ur431, ur432, ur426, ur563, ur564, ur565], [], [], [], [uF126, uF128, uF129, uF729], [uG761])
/-- State.copyFrom -/
def cx_180 : zCtx := (102, cx_180p, [cx_180q0], kc_39, 57, 1, 64)
set_option maxRecDepth 1000000 in
theorem ck_180 : x_ok mLT1 [] mTS2 mTC2 mRUp cx_180 [] [(107, [1000902])] [] (57, []) 0 60 = true := by decide +kernel
theorem sn_180 {W : Bool} {X : List Int32} : y_Snd (mGw W) mLT1 (J2 W X) X cx_180 := y_ok J2_J mTS2_ok1 mTC2_ok1 mRUp_ok1 (fun _ h => absurd h List.not_mem_nil) ck_180
def cx_181p : zS := ((cx_149pi_0 (cx_149pi_1 (cx_149pi_2 (cx_149pi_3 (cx_149pi_4 []))))), [ur644, ur431, ur432, ur426, ur563, ur564, ur565], [], [], [uV2, uV419], (cx_149pf_0 (cx_149pf_1 (cx_149pf_2 (cx_149pf_3 (cx_149pf_4 (cx_149pf_5 [])))))), [])
def cx_181q0 : zS := ((cx_149pi_0 (cx_149pi_1 (cx_149pi_2 (cx_149pi_3 (cx_149pi_4 []))))), [ur644, ur431, ur432, ur426, ur563, ur564, ur565], [], [], [], [uF126, uF128, uF129, uF729], [uG762])
/-- State.copyFrom -/
def cx_181 : zCtx := (102, cx_181p, [cx_181q0], kc_40, 57, 1, 64)
set_option maxRecDepth 1000000 in
theorem ck_181 : x_ok mLT1 [] mTS2 mTC2 mRUp cx_181 [] [(107, [1000903])] [] (57, []) 0 60 = true := by decide +kernel
theorem sn_181 {W : Bool} {X : List Int32} : y_Snd (mGw W) mLT1 (J2 W X) X cx_181 := y_ok J2_J mTS2_ok1 mTC2_ok1 mRUp_ok1 (fun _ h => absurd h List.not_mem_nil) ck_181
def cx_182p : zS := ((cx_149pi_0 (cx_149pi_1 (cx_149pi_2 (cx_149pi_3 (cx_149pi_4 []))))), [ur641, ur431, ur432, ur426, ur563, ur564, ur565], [], [], [uV2, uV419], (cx_149pf_0 (cx_149pf_1 (cx_149pf_2 (cx_149pf_3 (cx_149pf_4 (cx_149pf_5 [])))))), [])
def cx_182q0 : zS := ((cx_149pi_0 (cx_149pi_1 (cx_149pi_2 (cx_149pi_3 (cx_149pi_4 []))))), [ur641, ur431, ur432, ur426, ur563, ur564, ur565], [], [], [], [uF126, uF128, uF129, uF729], [uG763])
/-- State.copyFrom -/
def cx_182 : zCtx := (102, cx_182p, [cx_182q0], kc_41, 57, 1, 64)
set_option maxRecDepth 1000000 in
theorem ck_182 : x_ok mLT1 [] mTS2 mTC2 mRUp cx_182 [] [(107, [1000904])] [] (57, []) 0 60 = true := by decide +kernel
theorem sn_182 {W : Bool} {X : List Int32} : y_Snd (mGw W) mLT1 (J2 W X) X cx_182 := y_ok J2_J mTS2_ok1 mTC2_ok1 mRUp_ok1 (fun _ h => absurd h List.not_mem_nil) ck_182
def cx_183p : zS := ((cx_149pi_0 (cx_149pi_1 (cx_149pi_2 (cx_149pi_3 (cx_149pi_4 []))))), [ur638, ur431, ur432, ur426, ur563, ur564, ur565], [], [], [uV2, uV419], (cx_149pf_0 (cx_149pf_1 (cx_149pf_2 (cx_149pf_3 (cx_149pf_4 (cx_149pf_5 [])))))), [])
def cx_183q0 : zS := ((cx_149pi_0 (cx_149pi_1 (cx_149pi_2 (cx_149pi_3 (cx_149pi_4 []))))), [ur638, ur431, ur432, ur426, ur563, ur564, ur565], [], [], [], [uF126, uF128, uF129, uF729], [uG764])
/-- State.copyFrom -/
def cx_183 : zCtx := (102, cx_183p, [cx_183q0], kc_42, 57, 1, 64)
set_option maxRecDepth 1000000 in
theorem ck_183 : x_ok mLT1 [] mTS2 mTC2 mRUp cx_183 [] [(107, [1000905])] [] (57, []) 0 60 = true := by decide +kernel
theorem sn_183 {W : Bool} {X : List Int32} : y_Snd (mGw W) mLT1 (J2 W X) X cx_183 := y_ok J2_J mTS2_ok1 mTC2_ok1 mRUp_ok1 (fun _ h => absurd h List.not_mem_nil) ck_183
def cx_184p : zS := ((cx_149pi_0 (cx_149pi_1 (cx_149pi_2 (cx_149pi_3 (cx_149pi_4 []))))), [ur635, ur431, ur432, ur426, ur563, ur564, ur565], [], [], [uV2, uV419], (cx_149pf_0 (cx_149pf_1 (cx_149pf_2 (cx_149pf_3 (cx_149pf_4 (cx_149pf_5 [])))))), [])
def cx_184q0 : zS := ((cx_149pi_0 (cx_149pi_1 (cx_149pi_2 (cx_149pi_3 (cx_149pi_4 []))))), [ur635, ur431, ur432, ur426, ur563, ur564, ur565], [], [], [], [uF126, uF128, uF129, uF729], [uG765])
/-- State.copyFrom -/
def cx_184 : zCtx := (102, cx_184p, [cx_184q0], kc_43, 57, 1, 64)
set_option maxRecDepth 1000000 in
theorem ck_184 : x_ok mLT1 [] mTS2 mTC2 mRUp cx_184 [] [(107, [1000906])] [] (57, []) 0 60 = true := by decide +kernel
theorem sn_184 {W : Bool} {X : List Int32} : y_Snd (mGw W) mLT1 (J2 W X) X cx_184 := y_ok J2_J mTS2_ok1 mTC2_ok1 mRUp_ok1 (fun _ h => absurd h List.not_mem_nil) ck_184
def cx_185p : zS := ((cx_149pi_0 (cx_149pi_1 (cx_149pi_2 (cx_149pi_3 (cx_149pi_4 []))))), [ur633, ur431, ur432, ur426, ur563, ur564, ur565], [], [], [uV2, uV419], (cx_149pf_0 (cx_149pf_1 (cx_149pf_2 (cx_149pf_3 (cx_149pf_4 (cx_149pf_5 [])))))), [])
def cx_185q0 : zS := ((cx_149pi_0 (cx_149pi_1 (cx_149pi_2 (cx_149pi_3 (cx_149pi_4 []))))), [ur633, ur431, ur432, ur426, ur563, ur564, ur565], [], [], [], [uF126, uF128, uF129, uF729], [uG767])
/-- State.copyFrom -/
def cx_185 : zCtx := (102, cx_185p, [cx_185q0], kc_44, 57, 1, 64)
set_option maxRecDepth 1000000 in
theorem ck_185 : x_ok mLT1 [] mTS2 mTC2 mRUp cx_185 [] [(107, [1000907])] [] (57, []) 0 60 = true := by decide +kernel
theorem sn_185 {W : Bool} {X : List Int32} : y_Snd (mGw W) mLT1 (J2 W X) X cx_185 := y_ok J2_J mTS2_ok1 mTC2_ok1 mRUp_ok1 (fun _ h => absurd h List.not_mem_nil) ck_185
end
