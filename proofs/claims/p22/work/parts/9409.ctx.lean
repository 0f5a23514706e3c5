noncomputable section
/-! ===== readings, by program, checked by the kernel ===== -/
def cx_186p : zS := ((cx_149pi_0 (cx_149pi_1 (cx_149pi_2 (cx_149pi_3 (cx_149pi_4 []))))), [ur630, ur431, ur432, ur426, ur563, ur564, ur565], [], [], [uV2, uV419], (cx_149pf_0 (cx_149pf_1 (cx_149pf_2 (cx_149pf_3 (cx_149pf_4 (cx_149pf_5 [])))))), [])
def cx_186q0 : zS := ((cx_149pi_0 (cx_149pi_1 (cx_149pi_2 (cx_149pi_3 (cx_149pi_4 []))))), [ur630, ur431, ur432, ur426, ur563, ur564, ur565], [], [], [], [uF126, uF128, uF129, uF729], [uG769])
/-- State.copyFrom -/
def cx_186 : zCtx := (102, cx_186p, [cx_186q0], kc_45, 57, 1, 64)
set_option maxRecDepth 1000000 in
theorem ck_186 : x_ok mLT1 [] mTS2 mTC2 mRUp cx_186 [] [(107, [1000908])] [] (57, []) 0 60 = true := by decide +kernel
theorem sn_186 {W : Bool} {X : List Int32} : y_Snd (mGw W) mLT1 (J2 W X) X cx_186 := y_ok J2_J mTS2_ok1 mTC2_ok1 mRUp_ok1 (fun _ h => absurd h List.not_mem_nil) ck_186
def cx_187p : zS := ((cx_149pi_0 (cx_149pi_1 (cx_149pi_2 (cx_149pi_3 (cx_149pi_4 []))))), [ur627, ur431, ur432, ur426, ur563, ur564, ur565], [], [], [uV2, uV419], (cx_149pf_0 (cx_149pf_1 (cx_149pf_2 (cx_149pf_3 (cx_149pf_4 (cx_149pf_5 [])))))), [])
def cx_187q0 : zS := ((cx_149pi_0 (cx_149pi_1 (cx_149pi_2 (cx_149pi_3 (cx_149pi_4 []))))), [ur627, ur431, ur432, ur426, ur563, ur564, ur565], [], [], [], [uF126, uF128, uF129, uF729], [uG770])
/-- State.copyFrom -/
def cx_187 : zCtx := (102, cx_187p, [cx_187q0], kc_46, 57, 1, 64)
set_option maxRecDepth 1000000 in
theorem ck_187 : x_ok mLT1 [] mTS2 mTC2 mRUp cx_187 [] [(107, [1000909])] [] (57, []) 0 60 = true := by decide +kernel
theorem sn_187 {W : Bool} {X : List Int32} : y_Snd (mGw W) mLT1 (J2 W X) X cx_187 := y_ok J2_J mTS2_ok1 mTC2_ok1 mRUp_ok1 (fun _ h => absurd h List.not_mem_nil) ck_187
def cx_188p : zS := ((cx_149pi_0 (cx_149pi_1 (cx_149pi_2 (cx_149pi_3 (cx_149pi_4 []))))), [ur622, ur431, ur432, ur426, ur563, ur564, ur565], [], [], [uV2, uV419], (cx_149pf_0 (cx_149pf_1 (cx_149pf_2 (cx_149pf_3 (cx_149pf_4 (cx_149pf_5 [])))))), [])
def cx_188q0 : zS := ((cx_149pi_0 (cx_149pi_1 (cx_149pi_2 (cx_149pi_3 (cx_149pi_4 []))))), [ur622, ur431, ur432, ur426, ur563, ur564, ur565], [], [], [], [uF126, uF128, uF129, uF729], [uG771])
/-- State.copyFrom -/
def cx_188 : zCtx := (102, cx_188p, [cx_188q0], kc_47, 57, 1, 64)
set_option maxRecDepth 1000000 in
theorem ck_188 : x_ok mLT1 [] mTS2 mTC2 mRUp cx_188 [] [(107, [1000910])] [] (57, []) 0 60 = true := by decide +kernel
theorem sn_188 {W : Bool} {X : List Int32} : y_Snd (mGw W) mLT1 (J2 W X) X cx_188 := y_ok J2_J mTS2_ok1 mTC2_ok1 mRUp_ok1 (fun _ h => absurd h List.not_mem_nil) ck_188
/-- History.keep -/
def cx_189 : zCtx := (40, ([ui0, ui437, ui438, (0, 6), (0, 6), ui49, ui49], [ur439, ur431], [], [], [uV2, uV419], [uF181, uF182, uF529, uF530, uF531, uF532], [uG620, uG772]), [([ui0, ui437, ui438, (0, 6), (0, 6), ui49, ui49, ui437], [ur439, ur431], [((-40), [(2, 1)]), (40, [(2, (-1))])], [], [], [uF220, (0, (false, 3, 0, []), 0, 0, 40, [])], [(244, [uL23, uL79, uL625, uL65, uL773]), uG774]), ([ui0, ui437, ui438, (0, 6), (0, 6), ui49, ui49], [ur439, ur431], [(39, [(2, (-1))])], [], [], [uF181, (0, (false, 3, 0, []), 0, 0, 1, [(2, 1)])], [(244, [uL23, uL9, uL67, uL63, (0, [(2, 33)])]), uG775])], kc_48, 201, 2, 85)
def cq_189 : List zCtx := [cx_148, cx_149, cx_150, cx_151, cx_152, cx_153, cx_154, cx_155, cx_156, cx_157, cx_158, cx_159, cx_160, cx_161, cx_162, cx_163, cx_164, cx_165, cx_166, cx_167, cx_168, cx_169, cx_170, cx_171, cx_172, cx_173, cx_174, cx_175, cx_176, cx_177, cx_178, cx_179, cx_180, cx_181, cx_182, cx_183, cx_184, cx_185, cx_186, cx_187, cx_188]
def cs_189 : List (Nat × List Nat) := [(37, [0]), (47, [1, 2, 3, 4, 5, 6, 7, 8, 9, 10, 11, 12, 13, 14, 15, 16, 17, 18, 19, 20, 21, 22, 23, 24, 25, 26, 27, 28, 29, 30, 31, 32, 33, 34, 35, 36, 37, 38, 39, 40])]
def hs_189 : List (Nat × List Nat) := [(18, [1000679]), (19, [1000680]), (22, [1000682]), (45, [1000683]), (50, [1000684, 1000685, 1000686])]
def nd_189_0p : zS := ([ui0, ui437, ui776, (0, 6), (0, 6), ui49, ui49, ui437], [ur439, ur431, ur724], [], [uV2, uV419, uV777], [], [uF778, uF220, uF529, uF530, uF531, uF532], [(108, [uL779, uL624, uL63]), uG780, uG781, uG620, uG772])
def nd_189_0 : zN := (45, nd_189_0p, uL782)
def nd_189_1p : zS := ([ui0, ui437, ui776, (0, 6), (0, 6), ui49, ui49, ui437], [ur439, ur431, ur722], [], [uV2, uV419, uV777], [], [uF778, uF220, uF529, uF530, uF531, uF532], [(108, [uL779, uL624, uL65]), uG780, uG781, uG620, uG772])
def nd_189_1 : zN := (45, nd_189_1p, uL782)
def nd_189_2p : zS := ([ui0, ui437, ui776, (0, 6), (0, 6), ui49, ui49, ui437], [ur439, ur431, ur720], [], [uV2, uV419, uV777], [], [uF778, uF220, uF529, uF530, uF531, uF532], [(108, [uL779, uL624, uL114]), uG780, uG781, uG620, uG772])
def nd_189_2 : zN := (45, nd_189_2p, uL782)
def nd_189_3p : zS := ([ui0, ui437, ui776, (0, 6), (0, 6), ui49, ui49, ui437], [ur439, ur431, ur718], [], [uV2, uV419, uV777], [], [uF778, uF220, uF529, uF530, uF531, uF532], [(108, [uL779, uL624, uL209]), uG780, uG781, uG620, uG772])
def nd_189_3 : zN := (45, nd_189_3p, uL782)
def nd_189_4p : zS := ([ui0, ui437, ui776, (0, 6), (0, 6), ui49, ui49, ui437], [ur439, ur431, ur716], [], [uV2, uV419, uV777], [], [uF778, uF220, uF529, uF530, uF531, uF532], [(108, [uL779, uL624, uL36]), uG780, uG781, uG620, uG772])
def nd_189_4 : zN := (45, nd_189_4p, uL782)
def nd_189_5p : zS := ([ui0, ui437, ui776, (0, 6), (0, 6), ui49, ui49, ui437], [ur439, ur431, ur714], [], [uV2, uV419, uV777], [], [uF778, uF220, uF529, uF530, uF531, uF532], [(108, [uL779, uL624, uL244]), uG780, uG781, uG620, uG772])
def nd_189_5 : zN := (45, nd_189_5p, uL782)
def nd_189_6p : zS := ([ui0, ui437, ui776, (0, 6), (0, 6), ui49, ui49, ui437], [ur439, ur431, ur712], [], [uV2, uV419, uV777], [], [uF778, uF220, uF529, uF530, uF531, uF532], [(108, [uL779, uL624, uL250]), uG780, uG781, uG620, uG772])
def nd_189_6 : zN := (45, nd_189_6p, uL782)
def nd_189_7p : zS := ([ui0, ui437, ui776, (0, 6), (0, 6), ui49, ui49, ui437], [ur439, ur431, ur710], [], [uV2, uV419, uV777], [], [uF778, uF220, uF529, uF530, uF531, uF532], [(108, [uL779, uL624, uL258]), uG780, uG781, uG620, uG772])
def nd_189_7 : zN := (45, nd_189_7p, uL782)
def nd_189_8p : zS := ([ui0, ui437, ui776, (0, 6), (0, 6), ui49, ui49, ui437], [ur439, ur431, ur708], [], [uV2, uV419, uV777], [], [uF778, uF220, uF529, uF530, uF531, uF532], [(108, [uL779, uL624, uL34]), uG780, uG781, uG620, uG772])
def nd_189_8 : zN := (45, nd_189_8p, uL782)
def nd_189_9p : zS := ([ui0, ui437, ui776, (0, 6), (0, 6), ui49, ui49, ui437], [ur439, ur431, ur706], [], [uV2, uV419, uV777], [], [uF778, uF220, uF529, uF530, uF531, uF532], [(108, [uL779, uL624, uL264]), uG780, uG781, uG620, uG772])
def nd_189_9 : zN := (45, nd_189_9p, uL782)
def nd_189_10p : zS := ([ui0, ui437, ui776, (0, 6), (0, 6), ui49, ui49, ui437], [ur439, ur431, ur704], [], [uV2, uV419, uV777], [], [uF778, uF220, uF529, uF530, uF531, uF532], [(108, [uL779, uL624, uL281]), uG780, uG781, uG620, uG772])
def nd_189_10 : zN := (45, nd_189_10p, uL782)
def nd_189_11p : zS := ([ui0, ui437, ui776, (0, 6), (0, 6), ui49, ui49, ui437], [ur439, ur431, ur702], [], [uV2, uV419, uV777], [], [uF778, uF220, uF529, uF530, uF531, uF532], [(108, [uL779, uL624, uL283]), uG780, uG781, uG620, uG772])
def nd_189_11 : zN := (45, nd_189_11p, uL782)
def nd_189_12p : zS := ([ui0, ui437, ui776, (0, 6), (0, 6), ui49, ui49, ui437], [ur439, ur431, ur700], [], [uV2, uV419, uV777], [], [uF778, uF220, uF529, uF530, uF531, uF532], [(108, [uL779, uL624, uL285]), uG780, uG781, uG620, uG772])
def nd_189_12 : zN := (45, nd_189_12p, uL782)
def nd_189_13p : zS := ([ui0, ui437, ui776, (0, 6), (0, 6), ui49, ui49, ui437], [ur439, ur431, ur698], [], [uV2, uV419, uV777], [], [uF778, uF220, uF529, uF530, uF531, uF532], [(108, [uL779, uL624, uL265]), uG780, uG781, uG620, uG772])
def nd_189_13 : zN := (45, nd_189_13p, uL782)
def nd_189_14p : zS := ([ui0, ui437, ui776, (0, 6), (0, 6), ui49, ui49, ui437], [ur439, ur431, ur695], [], [uV2, uV419, uV777], [], [uF778, uF220, uF529, uF530, uF531, uF532], [(108, [uL779, uL624, uL696]), uG780, uG781, uG620, uG772])
def nd_189_14 : zN := (45, nd_189_14p, uL782)
def nd_189_15p : zS := ([ui0, ui437, ui776, (0, 6), (0, 6), ui49, ui49, ui437], [ur439, ur431, ur692], [], [uV2, uV419, uV777], [], [uF778, uF220, uF529, uF530, uF531, uF532], [(108, [uL779, uL624, uL693]), uG780, uG781, uG620, uG772])
def nd_189_15 : zN := (45, nd_189_15p, uL782)
def nd_189_16p : zS := ([ui0, ui437, ui776, (0, 6), (0, 6), ui49, ui49, ui437], [ur439, ur431, ur690], [], [uV2, uV419, uV777], [], [uF778, uF220, uF529, uF530, uF531, uF532], [(108, [uL779, uL624, uL539]), uG780, uG781, uG620, uG772])
def nd_189_16 : zN := (45, nd_189_16p, uL782)
def nd_189_17p : zS := ([ui0, ui437, ui776, (0, 6), (0, 6), ui49, ui49, ui437], [ur439, ur431, ur687], [], [uV2, uV419, uV777], [], [uF778, uF220, uF529, uF530, uF531, uF532], [(108, [uL779, uL624, uL688]), uG780, uG781, uG620, uG772])
def nd_189_17 : zN := (45, nd_189_17p, uL782)
def nd_189_18p : zS := ([ui0, ui437, ui776, (0, 6), (0, 6), ui49, ui49, ui437], [ur439, ur431, ur684], [], [uV2, uV419, uV777], [], [uF778, uF220, uF529, uF530, uF531, uF532], [(108, [uL779, uL624, uL685]), uG780, uG781, uG620, uG772])
def nd_189_18 : zN := (45, nd_189_18p, uL782)
def nd_189_19p : zS := ([ui0, ui437, ui776, (0, 6), (0, 6), ui49, ui49, ui437], [ur439, ur431, ur681], [], [uV2, uV419, uV777], [], [uF778, uF220, uF529, uF530, uF531, uF532], [(108, [uL779, uL624, uL682]), uG780, uG781, uG620, uG772])
def nd_189_19 : zN := (45, nd_189_19p, uL782)
def nd_189_20p : zS := ([ui0, ui437, ui776, (0, 6), (0, 6), ui49, ui49, ui437], [ur439, ur431, ur678], [], [uV2, uV419, uV777], [], [uF778, uF220, uF529, uF530, uF531, uF532], [(108, [uL779, uL624, uL679]), uG780, uG781, uG620, uG772])
def nd_189_20 : zN := (45, nd_189_20p, uL782)
def nd_189_21p : zS := ([ui0, ui437, ui776, (0, 6), (0, 6), ui49, ui49, ui437], [ur439, ur431, ur675], [], [uV2, uV419, uV777], [], [uF778, uF220, uF529, uF530, uF531, uF532], [(108, [uL779, uL624, uL676]), uG780, uG781, uG620, uG772])
def nd_189_21 : zN := (45, nd_189_21p, uL782)
def nd_189_22p : zS := ([ui0, ui437, ui776, (0, 6), (0, 6), ui49, ui49, ui437], [ur439, ur431, ur672], [], [uV2, uV419, uV777], [], [uF778, uF220, uF529, uF530, uF531, uF532], [(108, [uL779, uL624, uL673]), uG780, uG781, uG620, uG772])
def nd_189_22 : zN := (45, nd_189_22p, uL782)
def nd_189_23p : zS := ([ui0, ui437, ui776, (0, 6), (0, 6), ui49, ui49, ui437], [ur439, ur431, ur669], [], [uV2, uV419, uV777], [], [uF778, uF220, uF529, uF530, uF531, uF532], [(108, [uL779, uL624, uL670]), uG780, uG781, uG620, uG772])
def nd_189_23 : zN := (45, nd_189_23p, uL782)
def nd_189_24p : zS := ([ui0, ui437, ui776, (0, 6), (0, 6), ui49, ui49, ui437], [ur439, ur431, ur667], [], [uV2, uV419, uV777], [], [uF778, uF220, uF529, uF530, uF531, uF532], [(108, [uL779, uL624, uL540]), uG780, uG781, uG620, uG772])
def nd_189_24 : zN := (45, nd_189_24p, uL782)
def nd_189_25p : zS := ([ui0, ui437, ui776, (0, 6), (0, 6), ui49, ui49, ui437], [ur439, ur431, ur664], [], [uV2, uV419, uV777], [], [uF778, uF220, uF529, uF530, uF531, uF532], [(108, [uL779, uL624, uL665]), uG780, uG781, uG620, uG772])
def nd_189_25 : zN := (45, nd_189_25p, uL782)
def nd_189_26p : zS := ([ui0, ui437, ui776, (0, 6), (0, 6), ui49, ui49, ui437], [ur439, ur431, ur661], [], [uV2, uV419, uV777], [], [uF778, uF220, uF529, uF530, uF531, uF532], [(108, [uL779, uL624, uL662]), uG780, uG781, uG620, uG772])
def nd_189_26 : zN := (45, nd_189_26p, uL782)
def nd_189_27p : zS := ([ui0, ui437, ui776, (0, 6), (0, 6), ui49, ui49, ui437], [ur439, ur431, ur658], [], [uV2, uV419, uV777], [], [uF778, uF220, uF529, uF530, uF531, uF532], [(108, [uL779, uL624, uL659]), uG780, uG781, uG620, uG772])
def nd_189_27 : zN := (45, nd_189_27p, uL782)
def nd_189_28p : zS := ([ui0, ui437, ui776, (0, 6), (0, 6), ui49, ui49, ui437], [ur439, ur431, ur655], [], [uV2, uV419, uV777], [], [uF778, uF220, uF529, uF530, uF531, uF532], [(108, [uL779, uL624, uL656]), uG780, uG781, uG620, uG772])
def nd_189_28 : zN := (45, nd_189_28p, uL782)
def nd_189_29p : zS := ([ui0, ui437, ui776, (0, 6), (0, 6), ui49, ui49, ui437], [ur439, ur431, ur652], [], [uV2, uV419, uV777], [], [uF778, uF220, uF529, uF530, uF531, uF532], [(108, [uL779, uL624, uL653]), uG780, uG781, uG620, uG772])
def nd_189_29 : zN := (45, nd_189_29p, uL782)
def nd_189_30p : zS := ([ui0, ui437, ui776, (0, 6), (0, 6), ui49, ui49, ui437], [ur439, ur431, ur649], [], [uV2, uV419, uV777], [], [uF778, uF220, uF529, uF530, uF531, uF532], [(108, [uL779, uL624, uL650]), uG780, uG781, uG620, uG772])
def nd_189_30 : zN := (45, nd_189_30p, uL782)
def nd_189_31p : zS := ([ui0, ui437, ui776, (0, 6), (0, 6), ui49, ui49, ui437], [ur439, ur431, ur647], [], [uV2, uV419, uV777], [], [uF778, uF220, uF529, uF530, uF531, uF532], [(108, [uL779, uL624, uL538]), uG780, uG781, uG620, uG772])
def nd_189_31 : zN := (45, nd_189_31p, uL782)
def nd_189_32p : zS := ([ui0, ui437, ui776, (0, 6), (0, 6), ui49, ui49, ui437], [ur439, ur431, ur644], [], [uV2, uV419, uV777], [], [uF778, uF220, uF529, uF530, uF531, uF532], [(108, [uL779, uL624, uL645]), uG780, uG781, uG620, uG772])
def nd_189_32 : zN := (45, nd_189_32p, uL782)
def nd_189_33p : zS := ([ui0, ui437, ui776, (0, 6), (0, 6), ui49, ui49, ui437], [ur439, ur431, ur641], [], [uV2, uV419, uV777], [], [uF778, uF220, uF529, uF530, uF531, uF532], [(108, [uL779, uL624, uL642]), uG780, uG781, uG620, uG772])
def nd_189_33 : zN := (45, nd_189_33p, uL782)
def nd_189_34p : zS := ([ui0, ui437, ui776, (0, 6), (0, 6), ui49, ui49, ui437], [ur439, ur431, ur638], [], [uV2, uV419, uV777], [], [uF778, uF220, uF529, uF530, uF531, uF532], [(108, [uL779, uL624, uL639]), uG780, uG781, uG620, uG772])
def nd_189_34 : zN := (45, nd_189_34p, uL782)
def nd_189_35p : zS := ([ui0, ui437, ui776, (0, 6), (0, 6), ui49, ui49, ui437], [ur439, ur431, ur635], [], [uV2, uV419, uV777], [], [uF778, uF220, uF529, uF530, uF531, uF532], [(108, [uL779, uL624, uL636]), uG780, uG781, uG620, uG772])
def nd_189_35 : zN := (45, nd_189_35p, uL782)
def nd_189_36p : zS := ([ui0, ui437, ui776, (0, 6), (0, 6), ui49, ui49, ui437], [ur439, ur431, ur633], [], [uV2, uV419, uV777], [], [uF778, uF220, uF529, uF530, uF531, uF532], [(108, [uL779, uL624, uL4]), uG780, uG781, uG620, uG772])
def nd_189_36 : zN := (45, nd_189_36p, uL782)
def nd_189_37p : zS := ([ui0, ui437, ui776, (0, 6), (0, 6), ui49, ui49, ui437], [ur439, ur431, ur630], [], [uV2, uV419, uV777], [], [uF778, uF220, uF529, uF530, uF531, uF532], [(108, [uL779, uL624, uL631]), uG780, uG781, uG620, uG772])
def nd_189_37 : zN := (45, nd_189_37p, uL782)
def nd_189_38p : zS := ([ui0, ui437, ui776, (0, 6), (0, 6), ui49, ui49, ui437], [ur439, ur431, ur627], [], [uV2, uV419, uV777], [], [uF778, uF220, uF529, uF530, uF531, uF532], [(108, [uL779, uL624, uL628]), uG780, uG781, uG620, uG772])
def nd_189_38 : zN := (45, nd_189_38p, uL782)
def nd_189_39p : zS := ([ui0, ui437, ui776, (0, 6), (0, 6), ui49, ui49, ui437], [ur439, ur431, ur622], [], [uV2, uV419, uV777], [], [uF778, uF220, uF529, uF530, uF531, uF532], [(108, [uL779, uL624, uL625]), uG780, uG781, uG620, uG772])
def nd_189_39 : zN := (45, nd_189_39p, uL782)
def nd_189_40p : zS := ([ui0, ui437, ui437, (0, 6), (0, 6), ui49, ui49], [ur439, ur431, ur724], [], [uV2, uV419, uV777], [], [uF181, uF182, uF529, uF530, uF531, uF532], [uG725, uG620, uG772])
def nd_189_40 : zN := (45, nd_189_40p, uL624)
def nd_189_41p : zS := ([ui0, ui437, ui437, (0, 6), (0, 6), ui49, ui49], [ur439, ur431, ur722], [], [uV2, uV419, uV777], [], [uF181, uF182, uF529, uF530, uF531, uF532], [uG723, uG620, uG772])
def nd_189_41 : zN := (45, nd_189_41p, uL624)
def nd_189_42p : zS := ([ui0, ui437, ui437, (0, 6), (0, 6), ui49, ui49], [ur439, ur431, ur720], [], [uV2, uV419, uV777], [], [uF181, uF182, uF529, uF530, uF531, uF532], [uG721, uG620, uG772])
def nd_189_42 : zN := (45, nd_189_42p, uL624)
def nd_189_43p : zS := ([ui0, ui437, ui437, (0, 6), (0, 6), ui49, ui49], [ur439, ur431, ur718], [], [uV2, uV419, uV777], [], [uF181, uF182, uF529, uF530, uF531, uF532], [uG719, uG620, uG772])
def nd_189_43 : zN := (45, nd_189_43p, uL624)
def nd_189_44p : zS := ([ui0, ui437, ui437, (0, 6), (0, 6), ui49, ui49], [ur439, ur431, ur716], [], [uV2, uV419, uV777], [], [uF181, uF182, uF529, uF530, uF531, uF532], [uG717, uG620, uG772])
def nd_189_44 : zN := (45, nd_189_44p, uL624)
def nd_189_45p : zS := ([ui0, ui437, ui437, (0, 6), (0, 6), ui49, ui49], [ur439, ur431, ur714], [], [uV2, uV419, uV777], [], [uF181, uF182, uF529, uF530, uF531, uF532], [uG715, uG620, uG772])
def nd_189_45 : zN := (45, nd_189_45p, uL624)
def nd_189_46p : zS := ([ui0, ui437, ui437, (0, 6), (0, 6), ui49, ui49], [ur439, ur431, ur712], [], [uV2, uV419, uV777], [], [uF181, uF182, uF529, uF530, uF531, uF532], [uG713, uG620, uG772])
def nd_189_46 : zN := (45, nd_189_46p, uL624)
def nd_189_47p : zS := ([ui0, ui437, ui437, (0, 6), (0, 6), ui49, ui49], [ur439, ur431, ur710], [], [uV2, uV419, uV777], [], [uF181, uF182, uF529, uF530, uF531, uF532], [uG711, uG620, uG772])
def nd_189_47 : zN := (45, nd_189_47p, uL624)
def nd_189_48p : zS := ([ui0, ui437, ui437, (0, 6), (0, 6), ui49, ui49], [ur439, ur431, ur708], [], [uV2, uV419, uV777], [], [uF181, uF182, uF529, uF530, uF531, uF532], [uG709, uG620, uG772])
def nd_189_48 : zN := (45, nd_189_48p, uL624)
def nd_189_49p : zS := ([ui0, ui437, ui437, (0, 6), (0, 6), ui49, ui49], [ur439, ur431, ur706], [], [uV2, uV419, uV777], [], [uF181, uF182, uF529, uF530, uF531, uF532], [uG707, uG620, uG772])
def nd_189_49 : zN := (45, nd_189_49p, uL624)
def nd_189_50p : zS := ([ui0, ui437, ui437, (0, 6), (0, 6), ui49, ui49], [ur439, ur431, ur704], [], [uV2, uV419, uV777], [], [uF181, uF182, uF529, uF530, uF531, uF532], [uG705, uG620, uG772])
def nd_189_50 : zN := (45, nd_189_50p, uL624)
def nd_189_51p : zS := ([ui0, ui437, ui437, (0, 6), (0, 6), ui49, ui49], [ur439, ur431, ur702], [], [uV2, uV419, uV777], [], [uF181, uF182, uF529, uF530, uF531, uF532], [uG703, uG620, uG772])
def nd_189_51 : zN := (45, nd_189_51p, uL624)
def nd_189_52p : zS := ([ui0, ui437, ui437, (0, 6), (0, 6), ui49, ui49], [ur439, ur431, ur700], [], [uV2, uV419, uV777], [], [uF181, uF182, uF529, uF530, uF531, uF532], [uG701, uG620, uG772])
def nd_189_52 : zN := (45, nd_189_52p, uL624)
def nd_189_53p : zS := ([ui0, ui437, ui437, (0, 6), (0, 6), ui49, ui49], [ur439, ur431, ur698], [], [uV2, uV419, uV777], [], [uF181, uF182, uF529, uF530, uF531, uF532], [uG699, uG620, uG772])
def nd_189_53 : zN := (45, nd_189_53p, uL624)
def nd_189_54p : zS := ([ui0, ui437, ui437, (0, 6), (0, 6), ui49, ui49], [ur439, ur431, ur695], [], [uV2, uV419, uV777], [], [uF181, uF182, uF529, uF530, uF531, uF532], [uG697, uG620, uG772])
def nd_189_54 : zN := (45, nd_189_54p, uL624)
def nd_189_55p : zS := ([ui0, ui437, ui437, (0, 6), (0, 6), ui49, ui49], [ur439, ur431, ur692], [], [uV2, uV419, uV777], [], [uF181, uF182, uF529, uF530, uF531, uF532], [uG694, uG620, uG772])
def nd_189_55 : zN := (45, nd_189_55p, uL624)
def nd_189_56p : zS := ([ui0, ui437, ui437, (0, 6), (0, 6), ui49, ui49], [ur439, ur431, ur690], [], [uV2, uV419, uV777], [], [uF181, uF182, uF529, uF530, uF531, uF532], [uG691, uG620, uG772])
def nd_189_56 : zN := (45, nd_189_56p, uL624)
def nd_189_57p : zS := ([ui0, ui437, ui437, (0, 6), (0, 6), ui49, ui49], [ur439, ur431, ur687], [], [uV2, uV419, uV777], [], [uF181, uF182, uF529, uF530, uF531, uF532], [uG689, uG620, uG772])
def nd_189_57 : zN := (45, nd_189_57p, uL624)
def nd_189_58p : zS := ([ui0, ui437, ui437, (0, 6), (0, 6), ui49, ui49], [ur439, ur431, ur684], [], [uV2, uV419, uV777], [], [uF181, uF182, uF529, uF530, uF531, uF532], [uG686, uG620, uG772])
def nd_189_58 : zN := (45, nd_189_58p, uL624)
def nd_189_59p : zS := ([ui0, ui437, ui437, (0, 6), (0, 6), ui49, ui49], [ur439, ur431, ur681], [], [uV2, uV419, uV777], [], [uF181, uF182, uF529, uF530, uF531, uF532], [uG683, uG620, uG772])
def nd_189_59 : zN := (45, nd_189_59p, uL624)
def nd_189_60p : zS := ([ui0, ui437, ui437, (0, 6), (0, 6), ui49, ui49], [ur439, ur431, ur678], [], [uV2, uV419, uV777], [], [uF181, uF182, uF529, uF530, uF531, uF532], [uG680, uG620, uG772])
def nd_189_60 : zN := (45, nd_189_60p, uL624)
def nd_189_61p : zS := ([ui0, ui437, ui437, (0, 6), (0, 6), ui49, ui49], [ur439, ur431, ur675], [], [uV2, uV419, uV777], [], [uF181, uF182, uF529, uF530, uF531, uF532], [uG677, uG620, uG772])
def nd_189_61 : zN := (45, nd_189_61p, uL624)
def nd_189_62p : zS := ([ui0, ui437, ui437, (0, 6), (0, 6), ui49, ui49], [ur439, ur431, ur672], [], [uV2, uV419, uV777], [], [uF181, uF182, uF529, uF530, uF531, uF532], [uG674, uG620, uG772])
def nd_189_62 : zN := (45, nd_189_62p, uL624)
def nd_189_63p : zS := ([ui0, ui437, ui437, (0, 6), (0, 6), ui49, ui49], [ur439, ur431, ur669], [], [uV2, uV419, uV777], [], [uF181, uF182, uF529, uF530, uF531, uF532], [uG671, uG620, uG772])
def nd_189_63 : zN := (45, nd_189_63p, uL624)
def nd_189_64p : zS := ([ui0, ui437, ui437, (0, 6), (0, 6), ui49, ui49], [ur439, ur431, ur667], [], [uV2, uV419, uV777], [], [uF181, uF182, uF529, uF530, uF531, uF532], [uG668, uG620, uG772])
def nd_189_64 : zN := (45, nd_189_64p, uL624)
def nd_189_65p : zS := ([ui0, ui437, ui437, (0, 6), (0, 6), ui49, ui49], [ur439, ur431, ur664], [], [uV2, uV419, uV777], [], [uF181, uF182, uF529, uF530, uF531, uF532], [uG666, uG620, uG772])
def nd_189_65 : zN := (45, nd_189_65p, uL624)
def nd_189_66p : zS := ([ui0, ui437, ui437, (0, 6), (0, 6), ui49, ui49], [ur439, ur431, ur661], [], [uV2, uV419, uV777], [], [uF181, uF182, uF529, uF530, uF531, uF532], [uG663, uG620, uG772])
def nd_189_66 : zN := (45, nd_189_66p, uL624)
def nd_189_67p : zS := ([ui0, ui437, ui437, (0, 6), (0, 6), ui49, ui49], [ur439, ur431, ur658], [], [uV2, uV419, uV777], [], [uF181, uF182, uF529, uF530, uF531, uF532], [uG660, uG620, uG772])
def nd_189_67 : zN := (45, nd_189_67p, uL624)
def nd_189_68p : zS := ([ui0, ui437, ui437, (0, 6), (0, 6), ui49, ui49], [ur439, ur431, ur655], [], [uV2, uV419, uV777], [], [uF181, uF182, uF529, uF530, uF531, uF532], [uG657, uG620, uG772])
def nd_189_68 : zN := (45, nd_189_68p, uL624)
def nd_189_69p : zS := ([ui0, ui437, ui437, (0, 6), (0, 6), ui49, ui49], [ur439, ur431, ur652], [], [uV2, uV419, uV777], [], [uF181, uF182, uF529, uF530, uF531, uF532], [uG654, uG620, uG772])
def nd_189_69 : zN := (45, nd_189_69p, uL624)
def nd_189_70p : zS := ([ui0, ui437, ui437, (0, 6), (0, 6), ui49, ui49], [ur439, ur431, ur649], [], [uV2, uV419, uV777], [], [uF181, uF182, uF529, uF530, uF531, uF532], [uG651, uG620, uG772])
def nd_189_70 : zN := (45, nd_189_70p, uL624)
def nd_189_71p : zS := ([ui0, ui437, ui437, (0, 6), (0, 6), ui49, ui49], [ur439, ur431, ur647], [], [uV2, uV419, uV777], [], [uF181, uF182, uF529, uF530, uF531, uF532], [uG648, uG620, uG772])
def nd_189_71 : zN := (45, nd_189_71p, uL624)
def nd_189_72p : zS := ([ui0, ui437, ui437, (0, 6), (0, 6), ui49, ui49], [ur439, ur431, ur644], [], [uV2, uV419, uV777], [], [uF181, uF182, uF529, uF530, uF531, uF532], [uG646, uG620, uG772])
def nd_189_72 : zN := (45, nd_189_72p, uL624)
def nd_189_73p : zS := ([ui0, ui437, ui437, (0, 6), (0, 6), ui49, ui49], [ur439, ur431, ur641], [], [uV2, uV419, uV777], [], [uF181, uF182, uF529, uF530, uF531, uF532], [uG643, uG620, uG772])
def nd_189_73 : zN := (45, nd_189_73p, uL624)
def nd_189_74p : zS := ([ui0, ui437, ui437, (0, 6), (0, 6), ui49, ui49], [ur439, ur431, ur638], [], [uV2, uV419, uV777], [], [uF181, uF182, uF529, uF530, uF531, uF532], [uG640, uG620, uG772])
def nd_189_74 : zN := (45, nd_189_74p, uL624)
def nd_189_75p : zS := ([ui0, ui437, ui437, (0, 6), (0, 6), ui49, ui49], [ur439, ur431, ur635], [], [uV2, uV419, uV777], [], [uF181, uF182, uF529, uF530, uF531, uF532], [uG637, uG620, uG772])
def nd_189_75 : zN := (45, nd_189_75p, uL624)
def nd_189_76p : zS := ([ui0, ui437, ui437, (0, 6), (0, 6), ui49, ui49], [ur439, ur431, ur633], [], [uV2, uV419, uV777], [], [uF181, uF182, uF529, uF530, uF531, uF532], [uG634, uG620, uG772])
def nd_189_76 : zN := (45, nd_189_76p, uL624)
def nd_189_77p : zS := ([ui0, ui437, ui437, (0, 6), (0, 6), ui49, ui49], [ur439, ur431, ur630], [], [uV2, uV419, uV777], [], [uF181, uF182, uF529, uF530, uF531, uF532], [uG632, uG620, uG772])
def nd_189_77 : zN := (45, nd_189_77p, uL624)
def nd_189_78p : zS := ([ui0, ui437, ui437, (0, 6), (0, 6), ui49, ui49], [ur439, ur431, ur627], [], [uV2, uV419, uV777], [], [uF181, uF182, uF529, uF530, uF531, uF532], [uG629, uG620, uG772])
def nd_189_78 : zN := (45, nd_189_78p, uL624)
def nd_189_79p : zS := ([ui0, ui437, ui437, (0, 6), (0, 6), ui49, ui49], [ur439, ur431, ur622], [], [uV2, uV419, uV777], [], [uF181, uF182, uF529, uF530, uF531, uF532], [uG626, uG620, uG772])
def nd_189_79 : zN := (45, nd_189_79p, uL624)
def ns_189 : List zN := [nd_189_0, nd_189_1, nd_189_2, nd_189_3, nd_189_4, nd_189_5, nd_189_6, nd_189_7, nd_189_8, nd_189_9, nd_189_10, nd_189_11, nd_189_12, nd_189_13, nd_189_14, nd_189_15, nd_189_16, nd_189_17, nd_189_18, nd_189_19, nd_189_20, nd_189_21, nd_189_22, nd_189_23, nd_189_24, nd_189_25, nd_189_26, nd_189_27, nd_189_28, nd_189_29, nd_189_30, nd_189_31, nd_189_32, nd_189_33, nd_189_34, nd_189_35, nd_189_36, nd_189_37, nd_189_38, nd_189_39, nd_189_40, nd_189_41, nd_189_42, nd_189_43, nd_189_44, nd_189_45, nd_189_46, nd_189_47, nd_189_48, nd_189_49, nd_189_50, nd_189_51, nd_189_52, nd_189_53, nd_189_54, nd_189_55, nd_189_56, nd_189_57, nd_189_58, nd_189_59, nd_189_60, nd_189_61, nd_189_62, nd_189_63, nd_189_64, nd_189_65, nd_189_66, nd_189_67, nd_189_68, nd_189_69, nd_189_70, nd_189_71, nd_189_72, nd_189_73, nd_189_74, nd_189_75, nd_189_76, nd_189_77, nd_189_78, nd_189_79]
set_option maxRecDepth 1000000 in
theorem ca_189 : x_okA mLT1 cq_189 mTS2 mTC2 mRUp cx_189 cs_189 hs_189 ns_189 (144, []) 57 28 = true := by decide +kernel
set_option maxRecDepth 1000000 in
theorem cb_189_0 : x_okB mLT1 cq_189 mTS2 mTC2 mRUp cx_189 cs_189 hs_189 ns_189 (144, []) 57 28 nd_189_0 = true := by decide +kernel
set_option maxRecDepth 1000000 in
theorem cb_189_1 : x_okB mLT1 cq_189 mTS2 mTC2 mRUp cx_189 cs_189 hs_189 ns_189 (144, []) 57 28 nd_189_1 = true := by decide +kernel
set_option maxRecDepth 1000000 in
theorem cb_189_2 : x_okB mLT1 cq_189 mTS2 mTC2 mRUp cx_189 cs_189 hs_189 ns_189 (144, []) 57 28 nd_189_2 = true := by decide +kernel
set_option maxRecDepth 1000000 in
theorem cb_189_3 : x_okB mLT1 cq_189 mTS2 mTC2 mRUp cx_189 cs_189 hs_189 ns_189 (144, []) 57 28 nd_189_3 = true := by decide +kernel
set_option maxRecDepth 1000000 in
theorem cb_189_4 : x_okB mLT1 cq_189 mTS2 mTC2 mRUp cx_189 cs_189 hs_189 ns_189 (144, []) 57 28 nd_189_4 = true := by decide +kernel
set_option maxRecDepth 1000000 in
theorem cb_189_5 : x_okB mLT1 cq_189 mTS2 mTC2 mRUp cx_189 cs_189 hs_189 ns_189 (144, []) 57 28 nd_189_5 = true := by decide +kernel
set_option maxRecDepth 1000000 in
theorem cb_189_6 : x_okB mLT1 cq_189 mTS2 mTC2 mRUp cx_189 cs_189 hs_189 ns_189 (144, []) 57 28 nd_189_6 = true := by decide +kernel
set_option maxRecDepth 1000000 in
theorem cb_189_7 : x_okB mLT1 cq_189 mTS2 mTC2 mRUp cx_189 cs_189 hs_189 ns_189 (144, []) 57 28 nd_189_7 = true := by decide +kernel
set_option maxRecDepth 1000000 in
theorem cb_189_8 : x_okB mLT1 cq_189 mTS2 mTC2 mRUp cx_189 cs_189 hs_189 ns_189 (144, []) 57 28 nd_189_8 = true := by decide +kernel
set_option maxRecDepth 1000000 in
theorem cb_189_9 : x_okB mLT1 cq_189 mTS2 mTC2 mRUp cx_189 cs_189 hs_189 ns_189 (144, []) 57 28 nd_189_9 = true := by decide +kernel
set_option maxRecDepth 1000000 in
theorem cb_189_10 : x_okB mLT1 cq_189 mTS2 mTC2 mRUp cx_189 cs_189 hs_189 ns_189 (144, []) 57 28 nd_189_10 = true := by decide +kernel
set_option maxRecDepth 1000000 in
theorem cb_189_11 : x_okB mLT1 cq_189 mTS2 mTC2 mRUp cx_189 cs_189 hs_189 ns_189 (144, []) 57 28 nd_189_11 = true := by decide +kernel
set_option maxRecDepth 1000000 in
theorem cb_189_12 : x_okB mLT1 cq_189 mTS2 mTC2 mRUp cx_189 cs_189 hs_189 ns_189 (144, []) 57 28 nd_189_12 = true := by decide +kernel
set_option maxRecDepth 1000000 in
theorem cb_189_13 : x_okB mLT1 cq_189 mTS2 mTC2 mRUp cx_189 cs_189 hs_189 ns_189 (144, []) 57 28 nd_189_13 = true := by decide +kernel
set_option maxRecDepth 1000000 in
theorem cb_189_14 : x_okB mLT1 cq_189 mTS2 mTC2 mRUp cx_189 cs_189 hs_189 ns_189 (144, []) 57 28 nd_189_14 = true := by decide +kernel
set_option maxRecDepth 1000000 in
theorem cb_189_15 : x_okB mLT1 cq_189 mTS2 mTC2 mRUp cx_189 cs_189 hs_189 ns_189 (144, []) 57 28 nd_189_15 = true := by decide +kernel
set_option maxRecDepth 1000000 in
theorem cb_189_16 : x_okB mLT1 cq_189 mTS2 mTC2 mRUp cx_189 cs_189 hs_189 ns_189 (144, []) 57 28 nd_189_16 = true := by decide +kernel
set_option maxRecDepth 1000000 in
theorem cb_189_17 : x_okB mLT1 cq_189 mTS2 mTC2 mRUp cx_189 cs_189 hs_189 ns_189 (144, []) 57 28 nd_189_17 = true := by decide +kernel
set_option maxRecDepth 1000000 in
theorem cb_189_18 : x_okB mLT1 cq_189 mTS2 mTC2 mRUp cx_189 cs_189 hs_189 ns_189 (144, []) 57 28 nd_189_18 = true := by decide +kernel
set_option maxRecDepth 1000000 in
theorem cb_189_19 : x_okB mLT1 cq_189 mTS2 mTC2 mRUp cx_189 cs_189 hs_189 ns_189 (144, []) 57 28 nd_189_19 = true := by decide +kernel
set_option maxRecDepth 1000000 in
theorem cb_189_20 : x_okB mLT1 cq_189 mTS2 mTC2 mRUp cx_189 cs_189 hs_189 ns_189 (144, []) 57 28 nd_189_20 = true := by decide +kernel
set_option maxRecDepth 1000000 in
theorem cb_189_21 : x_okB mLT1 cq_189 mTS2 mTC2 mRUp cx_189 cs_189 hs_189 ns_189 (144, []) 57 28 nd_189_21 = true := by decide +kernel
set_option maxRecDepth 1000000 in
theorem cb_189_22 : x_okB mLT1 cq_189 mTS2 mTC2 mRUp cx_189 cs_189 hs_189 ns_189 (144, []) 57 28 nd_189_22 = true := by decide +kernel
set_option maxRecDepth 1000000 in
theorem cb_189_23 : x_okB mLT1 cq_189 mTS2 mTC2 mRUp cx_189 cs_189 hs_189 ns_189 (144, []) 57 28 nd_189_23 = true := by decide +kernel
set_option maxRecDepth 1000000 in
theorem cb_189_24 : x_okB mLT1 cq_189 mTS2 mTC2 mRUp cx_189 cs_189 hs_189 ns_189 (144, []) 57 28 nd_189_24 = true := by decide +kernel
set_option maxRecDepth 1000000 in
theorem cb_189_25 : x_okB mLT1 cq_189 mTS2 mTC2 mRUp cx_189 cs_189 hs_189 ns_189 (144, []) 57 28 nd_189_25 = true := by decide +kernel
set_option maxRecDepth 1000000 in
theorem cb_189_26 : x_okB mLT1 cq_189 mTS2 mTC2 mRUp cx_189 cs_189 hs_189 ns_189 (144, []) 57 28 nd_189_26 = true := by decide +kernel
set_option maxRecDepth 1000000 in
theorem cb_189_27 : x_okB mLT1 cq_189 mTS2 mTC2 mRUp cx_189 cs_189 hs_189 ns_189 (144, []) 57 28 nd_189_27 = true := by decide +kernel
set_option maxRecDepth 1000000 in
theorem cb_189_28 : x_okB mLT1 cq_189 mTS2 mTC2 mRUp cx_189 cs_189 hs_189 ns_189 (144, []) 57 28 nd_189_28 = true := by decide +kernel
set_option maxRecDepth 1000000 in
theorem cb_189_29 : x_okB mLT1 cq_189 mTS2 mTC2 mRUp cx_189 cs_189 hs_189 ns_189 (144, []) 57 28 nd_189_29 = true := by decide +kernel
set_option maxRecDepth 1000000 in
theorem cb_189_30 : x_okB mLT1 cq_189 mTS2 mTC2 mRUp cx_189 cs_189 hs_189 ns_189 (144, []) 57 28 nd_189_30 = true := by decide +kernel
set_option maxRecDepth 1000000 in
theorem cb_189_31 : x_okB mLT1 cq_189 mTS2 mTC2 mRUp cx_189 cs_189 hs_189 ns_189 (144, []) 57 28 nd_189_31 = true := by decide +kernel
set_option maxRecDepth 1000000 in
theorem cb_189_32 : x_okB mLT1 cq_189 mTS2 mTC2 mRUp cx_189 cs_189 hs_189 ns_189 (144, []) 57 28 nd_189_32 = true := by decide +kernel
set_option maxRecDepth 1000000 in
theorem cb_189_33 : x_okB mLT1 cq_189 mTS2 mTC2 mRUp cx_189 cs_189 hs_189 ns_189 (144, []) 57 28 nd_189_33 = true := by decide +kernel
set_option maxRecDepth 1000000 in
theorem cb_189_34 : x_okB mLT1 cq_189 mTS2 mTC2 mRUp cx_189 cs_189 hs_189 ns_189 (144, []) 57 28 nd_189_34 = true := by decide +kernel
set_option maxRecDepth 1000000 in
theorem cb_189_35 : x_okB mLT1 cq_189 mTS2 mTC2 mRUp cx_189 cs_189 hs_189 ns_189 (144, []) 57 28 nd_189_35 = true := by decide +kernel
set_option maxRecDepth 1000000 in
theorem cb_189_36 : x_okB mLT1 cq_189 mTS2 mTC2 mRUp cx_189 cs_189 hs_189 ns_189 (144, []) 57 28 nd_189_36 = true := by decide +kernel
set_option maxRecDepth 1000000 in
theorem cb_189_37 : x_okB mLT1 cq_189 mTS2 mTC2 mRUp cx_189 cs_189 hs_189 ns_189 (144, []) 57 28 nd_189_37 = true := by decide +kernel
set_option maxRecDepth 1000000 in
theorem cb_189_38 : x_okB mLT1 cq_189 mTS2 mTC2 mRUp cx_189 cs_189 hs_189 ns_189 (144, []) 57 28 nd_189_38 = true := by decide +kernel
set_option maxRecDepth 1000000 in
theorem cb_189_39 : x_okB mLT1 cq_189 mTS2 mTC2 mRUp cx_189 cs_189 hs_189 ns_189 (144, []) 57 28 nd_189_39 = true := by decide +kernel
set_option maxRecDepth 1000000 in
theorem cb_189_40 : x_okB mLT1 cq_189 mTS2 mTC2 mRUp cx_189 cs_189 hs_189 ns_189 (144, []) 57 28 nd_189_40 = true := by decide +kernel
set_option maxRecDepth 1000000 in
theorem cb_189_41 : x_okB mLT1 cq_189 mTS2 mTC2 mRUp cx_189 cs_189 hs_189 ns_189 (144, []) 57 28 nd_189_41 = true := by decide +kernel
set_option maxRecDepth 1000000 in
theorem cb_189_42 : x_okB mLT1 cq_189 mTS2 mTC2 mRUp cx_189 cs_189 hs_189 ns_189 (144, []) 57 28 nd_189_42 = true := by decide +kernel
set_option maxRecDepth 1000000 in
theorem cb_189_43 : x_okB mLT1 cq_189 mTS2 mTC2 mRUp cx_189 cs_189 hs_189 ns_189 (144, []) 57 28 nd_189_43 = true := by decide +kernel
set_option maxRecDepth 1000000 in
theorem cb_189_44 : x_okB mLT1 cq_189 mTS2 mTC2 mRUp cx_189 cs_189 hs_189 ns_189 (144, []) 57 28 nd_189_44 = true := by decide +kernel
set_option maxRecDepth 1000000 in
theorem cb_189_45 : x_okB mLT1 cq_189 mTS2 mTC2 mRUp cx_189 cs_189 hs_189 ns_189 (144, []) 57 28 nd_189_45 = true := by decide +kernel
set_option maxRecDepth 1000000 in
theorem cb_189_46 : x_okB mLT1 cq_189 mTS2 mTC2 mRUp cx_189 cs_189 hs_189 ns_189 (144, []) 57 28 nd_189_46 = true := by decide +kernel
set_option maxRecDepth 1000000 in
theorem cb_189_47 : x_okB mLT1 cq_189 mTS2 mTC2 mRUp cx_189 cs_189 hs_189 ns_189 (144, []) 57 28 nd_189_47 = true := by decide +kernel
set_option maxRecDepth 1000000 in
theorem cb_189_48 : x_okB mLT1 cq_189 mTS2 mTC2 mRUp cx_189 cs_189 hs_189 ns_189 (144, []) 57 28 nd_189_48 = true := by decide +kernel
set_option maxRecDepth 1000000 in
theorem cb_189_49 : x_okB mLT1 cq_189 mTS2 mTC2 mRUp cx_189 cs_189 hs_189 ns_189 (144, []) 57 28 nd_189_49 = true := by decide +kernel
set_option maxRecDepth 1000000 in
theorem cb_189_50 : x_okB mLT1 cq_189 mTS2 mTC2 mRUp cx_189 cs_189 hs_189 ns_189 (144, []) 57 28 nd_189_50 = true := by decide +kernel
set_option maxRecDepth 1000000 in
theorem cb_189_51 : x_okB mLT1 cq_189 mTS2 mTC2 mRUp cx_189 cs_189 hs_189 ns_189 (144, []) 57 28 nd_189_51 = true := by decide +kernel
set_option maxRecDepth 1000000 in
theorem cb_189_52 : x_okB mLT1 cq_189 mTS2 mTC2 mRUp cx_189 cs_189 hs_189 ns_189 (144, []) 57 28 nd_189_52 = true := by decide +kernel
set_option maxRecDepth 1000000 in
theorem cb_189_53 : x_okB mLT1 cq_189 mTS2 mTC2 mRUp cx_189 cs_189 hs_189 ns_189 (144, []) 57 28 nd_189_53 = true := by decide +kernel
set_option maxRecDepth 1000000 in
theorem cb_189_54 : x_okB mLT1 cq_189 mTS2 mTC2 mRUp cx_189 cs_189 hs_189 ns_189 (144, []) 57 28 nd_189_54 = true := by decide +kernel
set_option maxRecDepth 1000000 in
theorem cb_189_55 : x_okB mLT1 cq_189 mTS2 mTC2 mRUp cx_189 cs_189 hs_189 ns_189 (144, []) 57 28 nd_189_55 = true := by decide +kernel
set_option maxRecDepth 1000000 in
theorem cb_189_56 : x_okB mLT1 cq_189 mTS2 mTC2 mRUp cx_189 cs_189 hs_189 ns_189 (144, []) 57 28 nd_189_56 = true := by decide +kernel
set_option maxRecDepth 1000000 in
theorem cb_189_57 : x_okB mLT1 cq_189 mTS2 mTC2 mRUp cx_189 cs_189 hs_189 ns_189 (144, []) 57 28 nd_189_57 = true := by decide +kernel
set_option maxRecDepth 1000000 in
theorem cb_189_58 : x_okB mLT1 cq_189 mTS2 mTC2 mRUp cx_189 cs_189 hs_189 ns_189 (144, []) 57 28 nd_189_58 = true := by decide +kernel
set_option maxRecDepth 1000000 in
theorem cb_189_59 : x_okB mLT1 cq_189 mTS2 mTC2 mRUp cx_189 cs_189 hs_189 ns_189 (144, []) 57 28 nd_189_59 = true := by decide +kernel
set_option maxRecDepth 1000000 in
theorem cb_189_60 : x_okB mLT1 cq_189 mTS2 mTC2 mRUp cx_189 cs_189 hs_189 ns_189 (144, []) 57 28 nd_189_60 = true := by decide +kernel
set_option maxRecDepth 1000000 in
theorem cb_189_61 : x_okB mLT1 cq_189 mTS2 mTC2 mRUp cx_189 cs_189 hs_189 ns_189 (144, []) 57 28 nd_189_61 = true := by decide +kernel
set_option maxRecDepth 1000000 in
theorem cb_189_62 : x_okB mLT1 cq_189 mTS2 mTC2 mRUp cx_189 cs_189 hs_189 ns_189 (144, []) 57 28 nd_189_62 = true := by decide +kernel
set_option maxRecDepth 1000000 in
theorem cb_189_63 : x_okB mLT1 cq_189 mTS2 mTC2 mRUp cx_189 cs_189 hs_189 ns_189 (144, []) 57 28 nd_189_63 = true := by decide +kernel
set_option maxRecDepth 1000000 in
theorem cb_189_64 : x_okB mLT1 cq_189 mTS2 mTC2 mRUp cx_189 cs_189 hs_189 ns_189 (144, []) 57 28 nd_189_64 = true := by decide +kernel
set_option maxRecDepth 1000000 in
theorem cb_189_65 : x_okB mLT1 cq_189 mTS2 mTC2 mRUp cx_189 cs_189 hs_189 ns_189 (144, []) 57 28 nd_189_65 = true := by decide +kernel
set_option maxRecDepth 1000000 in
theorem cb_189_66 : x_okB mLT1 cq_189 mTS2 mTC2 mRUp cx_189 cs_189 hs_189 ns_189 (144, []) 57 28 nd_189_66 = true := by decide +kernel
set_option maxRecDepth 1000000 in
theorem cb_189_67 : x_okB mLT1 cq_189 mTS2 mTC2 mRUp cx_189 cs_189 hs_189 ns_189 (144, []) 57 28 nd_189_67 = true := by decide +kernel
set_option maxRecDepth 1000000 in
theorem cb_189_68 : x_okB mLT1 cq_189 mTS2 mTC2 mRUp cx_189 cs_189 hs_189 ns_189 (144, []) 57 28 nd_189_68 = true := by decide +kernel
set_option maxRecDepth 1000000 in
theorem cb_189_69 : x_okB mLT1 cq_189 mTS2 mTC2 mRUp cx_189 cs_189 hs_189 ns_189 (144, []) 57 28 nd_189_69 = true := by decide +kernel
set_option maxRecDepth 1000000 in
theorem cb_189_70 : x_okB mLT1 cq_189 mTS2 mTC2 mRUp cx_189 cs_189 hs_189 ns_189 (144, []) 57 28 nd_189_70 = true := by decide +kernel
set_option maxRecDepth 1000000 in
theorem cb_189_71 : x_okB mLT1 cq_189 mTS2 mTC2 mRUp cx_189 cs_189 hs_189 ns_189 (144, []) 57 28 nd_189_71 = true := by decide +kernel
set_option maxRecDepth 1000000 in
theorem cb_189_72 : x_okB mLT1 cq_189 mTS2 mTC2 mRUp cx_189 cs_189 hs_189 ns_189 (144, []) 57 28 nd_189_72 = true := by decide +kernel
set_option maxRecDepth 1000000 in
theorem cb_189_73 : x_okB mLT1 cq_189 mTS2 mTC2 mRUp cx_189 cs_189 hs_189 ns_189 (144, []) 57 28 nd_189_73 = true := by decide +kernel
set_option maxRecDepth 1000000 in
theorem cb_189_74 : x_okB mLT1 cq_189 mTS2 mTC2 mRUp cx_189 cs_189 hs_189 ns_189 (144, []) 57 28 nd_189_74 = true := by decide +kernel
set_option maxRecDepth 1000000 in
theorem cb_189_75 : x_okB mLT1 cq_189 mTS2 mTC2 mRUp cx_189 cs_189 hs_189 ns_189 (144, []) 57 28 nd_189_75 = true := by decide +kernel
set_option maxRecDepth 1000000 in
theorem cb_189_76 : x_okB mLT1 cq_189 mTS2 mTC2 mRUp cx_189 cs_189 hs_189 ns_189 (144, []) 57 28 nd_189_76 = true := by decide +kernel
set_option maxRecDepth 1000000 in
theorem cb_189_77 : x_okB mLT1 cq_189 mTS2 mTC2 mRUp cx_189 cs_189 hs_189 ns_189 (144, []) 57 28 nd_189_77 = true := by decide +kernel
set_option maxRecDepth 1000000 in
theorem cb_189_78 : x_okB mLT1 cq_189 mTS2 mTC2 mRUp cx_189 cs_189 hs_189 ns_189 (144, []) 57 28 nd_189_78 = true := by decide +kernel
set_option maxRecDepth 1000000 in
theorem cb_189_79 : x_okB mLT1 cq_189 mTS2 mTC2 mRUp cx_189 cs_189 hs_189 ns_189 (144, []) 57 28 nd_189_79 = true := by decide +kernel
set_option maxRecDepth 1000000 in
theorem cc_189 : x_okC mLT1 cq_189 mTS2 mTC2 mRUp cx_189 cs_189 hs_189 ns_189 (144, []) 57 28 = true := by decide +kernel
theorem ck_189 : x_ok mLT1 cq_189 mTS2 mTC2 mRUp cx_189 cs_189 hs_189 ns_189 (144, []) 57 28 = true := x_ok_of ca_189 (List.forall_mem_cons.mpr ⟨cb_189_0, List.forall_mem_cons.mpr ⟨cb_189_1, List.forall_mem_cons.mpr ⟨cb_189_2, List.forall_mem_cons.mpr ⟨cb_189_3, List.forall_mem_cons.mpr ⟨cb_189_4, List.forall_mem_cons.mpr ⟨cb_189_5, List.forall_mem_cons.mpr ⟨cb_189_6, List.forall_mem_cons.mpr ⟨cb_189_7, List.forall_mem_cons.mpr ⟨cb_189_8, List.forall_mem_cons.mpr ⟨cb_189_9, List.forall_mem_cons.mpr ⟨cb_189_10, List.forall_mem_cons.mpr ⟨cb_189_11, List.forall_mem_cons.mpr ⟨cb_189_12, List.forall_mem_cons.mpr ⟨cb_189_13, List.forall_mem_cons.mpr ⟨cb_189_14, List.forall_mem_cons.mpr ⟨cb_189_15, List.forall_mem_cons.mpr ⟨cb_189_16, List.forall_mem_cons.mpr ⟨cb_189_17, List.forall_mem_cons.mpr ⟨cb_189_18, List.forall_mem_cons.mpr ⟨cb_189_19, List.forall_mem_cons.mpr ⟨cb_189_20, List.forall_mem_cons.mpr ⟨cb_189_21, List.forall_mem_cons.mpr ⟨cb_189_22, List.forall_mem_cons.mpr ⟨cb_189_23, List.forall_mem_cons.mpr ⟨cb_189_24, List.forall_mem_cons.mpr ⟨cb_189_25, List.forall_mem_cons.mpr ⟨cb_189_26, List.forall_mem_cons.mpr ⟨cb_189_27, List.forall_mem_cons.mpr ⟨cb_189_28, List.forall_mem_cons.mpr ⟨cb_189_29, List.forall_mem_cons.mpr ⟨cb_189_30, List.forall_mem_cons.mpr ⟨cb_189_31, List.forall_mem_cons.mpr ⟨cb_189_32, List.forall_mem_cons.mpr ⟨cb_189_33, List.forall_mem_cons.mpr ⟨cb_189_34, List.forall_mem_cons.mpr ⟨cb_189_35, List.forall_mem_cons.mpr ⟨cb_189_36, List.forall_mem_cons.mpr ⟨cb_189_37, List.forall_mem_cons.mpr ⟨cb_189_38, List.forall_mem_cons.mpr ⟨cb_189_39, List.forall_mem_cons.mpr ⟨cb_189_40, List.forall_mem_cons.mpr ⟨cb_189_41, List.forall_mem_cons.mpr ⟨cb_189_42, List.forall_mem_cons.mpr ⟨cb_189_43, List.forall_mem_cons.mpr ⟨cb_189_44, List.forall_mem_cons.mpr ⟨cb_189_45, List.forall_mem_cons.mpr ⟨cb_189_46, List.forall_mem_cons.mpr ⟨cb_189_47, List.forall_mem_cons.mpr ⟨cb_189_48, List.forall_mem_cons.mpr ⟨cb_189_49, List.forall_mem_cons.mpr ⟨cb_189_50, List.forall_mem_cons.mpr ⟨cb_189_51, List.forall_mem_cons.mpr ⟨cb_189_52, List.forall_mem_cons.mpr ⟨cb_189_53, List.forall_mem_cons.mpr ⟨cb_189_54, List.forall_mem_cons.mpr ⟨cb_189_55, List.forall_mem_cons.mpr ⟨cb_189_56, List.forall_mem_cons.mpr ⟨cb_189_57, List.forall_mem_cons.mpr ⟨cb_189_58, List.forall_mem_cons.mpr ⟨cb_189_59, List.forall_mem_cons.mpr ⟨cb_189_60, List.forall_mem_cons.mpr ⟨cb_189_61, List.forall_mem_cons.mpr ⟨cb_189_62, List.forall_mem_cons.mpr ⟨cb_189_63, List.forall_mem_cons.mpr ⟨cb_189_64, List.forall_mem_cons.mpr ⟨cb_189_65, List.forall_mem_cons.mpr ⟨cb_189_66, List.forall_mem_cons.mpr ⟨cb_189_67, List.forall_mem_cons.mpr ⟨cb_189_68, List.forall_mem_cons.mpr ⟨cb_189_69, List.forall_mem_cons.mpr ⟨cb_189_70, List.forall_mem_cons.mpr ⟨cb_189_71, List.forall_mem_cons.mpr ⟨cb_189_72, List.forall_mem_cons.mpr ⟨cb_189_73, List.forall_mem_cons.mpr ⟨cb_189_74, List.forall_mem_cons.mpr ⟨cb_189_75, List.forall_mem_cons.mpr ⟨cb_189_76, List.forall_mem_cons.mpr ⟨cb_189_77, List.forall_mem_cons.mpr ⟨cb_189_78, List.forall_mem_cons.mpr ⟨cb_189_79, fun _ h => absurd h List.not_mem_nil⟩⟩⟩⟩⟩⟩⟩⟩⟩⟩⟩⟩⟩⟩⟩⟩⟩⟩⟩⟩⟩⟩⟩⟩⟩⟩⟩⟩⟩⟩⟩⟩⟩⟩⟩⟩⟩⟩⟩⟩⟩⟩⟩⟩⟩⟩⟩⟩⟩⟩⟩⟩⟩⟩⟩⟩⟩⟩⟩⟩⟩⟩⟩⟩⟩⟩⟩⟩⟩⟩⟩⟩⟩⟩⟩⟩⟩⟩⟩⟩) cc_189
theorem sn_189 {W : Bool} {X : List Int32} : y_Snd (mGw W) mLT1 (J2 W X) X cx_189 := y_ok J2_J mTS2_ok1 mTC2_ok1 mRUp_ok1 (List.forall_mem_cons.mpr ⟨sn_148, List.forall_mem_cons.mpr ⟨sn_149, List.forall_mem_cons.mpr ⟨sn_150, List.forall_mem_cons.mpr ⟨sn_151, List.forall_mem_cons.mpr ⟨sn_152, List.forall_mem_cons.mpr ⟨sn_153, List.forall_mem_cons.mpr ⟨sn_154, List.forall_mem_cons.mpr ⟨sn_155, List.forall_mem_cons.mpr ⟨sn_156, List.forall_mem_cons.mpr ⟨sn_157, List.forall_mem_cons.mpr ⟨sn_158, List.forall_mem_cons.mpr ⟨sn_159, List.forall_mem_cons.mpr ⟨sn_160, List.forall_mem_cons.mpr ⟨sn_161, List.forall_mem_cons.mpr ⟨sn_162, List.forall_mem_cons.mpr ⟨sn_163, List.forall_mem_cons.mpr ⟨sn_164, List.forall_mem_cons.mpr ⟨sn_165, List.forall_mem_cons.mpr ⟨sn_166, List.forall_mem_cons.mpr ⟨sn_167, List.forall_mem_cons.mpr ⟨sn_168, List.forall_mem_cons.mpr ⟨sn_169, List.forall_mem_cons.mpr ⟨sn_170, List.forall_mem_cons.mpr ⟨sn_171, List.forall_mem_cons.mpr ⟨sn_172, List.forall_mem_cons.mpr ⟨sn_173, List.forall_mem_cons.mpr ⟨sn_174, List.forall_mem_cons.mpr ⟨sn_175, List.forall_mem_cons.mpr ⟨sn_176, List.forall_mem_cons.mpr ⟨sn_177, List.forall_mem_cons.mpr ⟨sn_178, List.forall_mem_cons.mpr ⟨sn_179, List.forall_mem_cons.mpr ⟨sn_180, List.forall_mem_cons.mpr ⟨sn_181, List.forall_mem_cons.mpr ⟨sn_182, List.forall_mem_cons.mpr ⟨sn_183, List.forall_mem_cons.mpr ⟨sn_184, List.forall_mem_cons.mpr ⟨sn_185, List.forall_mem_cons.mpr ⟨sn_186, List.forall_mem_cons.mpr ⟨sn_187, List.forall_mem_cons.mpr ⟨sn_188, fun _ h => absurd h List.not_mem_nil⟩⟩⟩⟩⟩⟩⟩⟩⟩⟩⟩⟩⟩⟩⟩⟩⟩⟩⟩⟩⟩⟩⟩⟩⟩⟩⟩⟩⟩⟩⟩⟩⟩⟩⟩⟩⟩⟩⟩⟩⟩) ck_189
end
