noncomputable section
/-! ===== readings, by program, checked by the kernel ===== -/
/-- Arrays.fill -/
def cx_0 : zCtx := (2, ([ui0], [ur1], [], [], [uV2, uV3], [], []), [([ui0], [ur1], [], [], [], [], [uG5])], [uk6], 410, 0, 0)
set_option maxRecDepth 1000000 in
theorem ck_0 : x_ok mLT [] mTS2 mTC2 mRUp cx_0 [] [(2, [1000430]), (14, [1000431])] [(5, ([(0, 3072), (0, 40)], [(98, false)], [(36, [(1, (-1))])], [(2, 0, 0, []), (0, 0, 5, []), (0, 0, 0, [(1, 1)]), (0, 0, 36, [])], [], [], [(33, [(0, [])]), (33, [(0, [(1, 1)])])]), (404, [(1, (-10))]))] (410, []) 0 12 = true := by decide +kernel
theorem sn_0 {W : Bool} {X : List Int32} : y_Snd (mGw W) mLT (J2 W X) X cx_0 := y_ok J2_J mTS2_ok mTC2_ok mRUp_ok (fun _ h => absurd h List.not_mem_nil) ck_0
/-- Laws.begin -/
def cx_1 : zCtx := (48, ([ui0, (0, 3), (0, 6)], [ur7, ur8], [uL9, uL10], [], [uV2, uV11, uV12], [uF13], [uG14]), [([ui0, (0, 3), (0, 6)], [ur7, ur8], [], [], [], [uF15], [uG14])], [uk16], 11, 0, 0)
set_option maxRecDepth 1000000 in
theorem ck_1 : x_ok mLT [] mTS2 mTC2 mRUp cx_1 [] [] [] (11, []) 0 14 = true := by decide +kernel
theorem sn_1 {W : Bool} {X : List Int32} : y_Snd (mGw W) mLT (J2 W X) X cx_1 := y_ok J2_J mTS2_ok mTC2_ok mRUp_ok (fun _ h => absurd h List.not_mem_nil) ck_1
/-- Laws.emit -/
def cx_2 : zCtx := (49, ([ui0, (0, 7), ui17, (0, 7)], [ur7, ur18, ur19], [], [], [uV2, uV11, uV12], [uF20, uF21, uF22], [uG24]), [([ui0, (0, 7), ui17, (0, 7)], [ur7, ur18, ur19], [], [], [], [uF25, uF26, uF27], [uG24])], [uk28, uk29, uk30], 26, 0, 0)
set_option maxRecDepth 1000000 in
theorem ck_2 : x_ok mLT [] mTS2 mTC2 mRUp cx_2 [] [] [] (26, []) 0 29 = true := by decide +kernel
theorem sn_2 {W : Bool} {X : List Int32} : y_Snd (mGw W) mLT (J2 W X) X cx_2 := y_ok J2_J mTS2_ok mTC2_ok mRUp_ok (fun _ h => absurd h List.not_mem_nil) ck_2
/-- Laws.clear -/
def cx_3 : zCtx := (47, ([ui0, ui31], [ur7, ur18, ur19, ur8], [], [], [uV2], [uF32, uF21, uF22, uF33], []), [([ui0, ui31], [ur7, ur18, ur19, ur8], [], [], [], [(0, (false, 4, 0, []), 0, 0, 8, [])], [uG35, uG37])], [uk28, uk29, uk30, uk16], 80, 1, 22)
set_option maxRecDepth 1000000 in
theorem ck_3 : x_ok mLT [cx_1, cx_2] mTS2 mTC2 mRUp cx_3 [(8, [0]), (14, [0]), (20, [1]), (27, [1]), (36, [0]), (42, [1]), (49, [1]), (55, [1]), (62, [1]), (71, [0]), (77, [1]), (84, [1])] [(5, [1000525, 1000526]), (11, [1000527]), (17, [1000528]), (23, [1000531]), (30, [1000532]), (39, [1000529]), (45, [1000533]), (52, [1000534]), (58, [1000535]), (65, [1000536]), (74, [1000530]), (80, [1000537]), (87, [1000538])] [] (54, []) 26 57 = true := by decide +kernel
theorem sn_3 {W : Bool} {X : List Int32} : y_Snd (mGw W) mLT (J2 W X) X cx_3 := y_ok J2_J mTS2_ok mTC2_ok mRUp_ok (List.forall_mem_cons.mpr ⟨sn_1, List.forall_mem_cons.mpr ⟨sn_2, fun _ h => absurd h List.not_mem_nil⟩⟩) ck_3
def cx_4pf_0 (t : List zFa) : List zFa := uF38 :: uF39 :: uF40 :: uF41 :: (0, (false, 9, 0, []), 0, 0, 0, [(5, 1)]) :: (0, (false, 10, 0, []), 0, 0, 0, [(6, 1)]) :: uF42 :: uF43 :: t
def cx_4pf_1 (t : List zFa) : List zFa := uF44 :: uF45 :: uF46 :: uF47 :: t
def cx_4p : zS := ([ui0, (0, 6), ui48, ui49, ui49, ui49, ui49, ui31], [ur50, ur1, ur7, ur18, ur19, ur8], [], [], [uV2], (cx_4pf_0 (cx_4pf_1 [])), [])
/-- Text.clear -/
def cx_4 : zCtx := (130, cx_4p, [([ui0, (0, 6), ui48, ui49, ui49, ui49, ui49, ui31], [ur50, ur1, ur7, ur18, ur19, ur8], [], [], [], [(0, (false, 10, 0, []), 0, 0, 0, []), (0, (false, 9, 0, []), 0, 0, 0, []), (0, (false, 8, 0, []), 0, 0, 10, []), (0, (false, 7, 0, []), 0, 0, 20, []), uF51, (0, (false, 5, 0, []), 0, 0, 0, []), (2, (false, 4, 0, []), 0, 0, 8, [])], [uG35, uG37, uG5, uG5, uG35, uG37])], kc_0, 436, 2, 42)
set_option maxRecDepth 1000000 in
theorem ck_4 : x_ok mLT [cx_0, cx_3] mTS2 mTC2 mRUp cx_4 [(5, [0]), (12, [1])] [] [] (26, []) 410 29 = true := by decide +kernel
theorem sn_4 {W : Bool} {X : List Int32} : y_Snd (mGw W) mLT (J2 W X) X cx_4 := y_ok J2_J mTS2_ok mTC2_ok mRUp_ok (List.forall_mem_cons.mpr ⟨sn_0, List.forall_mem_cons.mpr ⟨sn_3, fun _ h => absurd h List.not_mem_nil⟩⟩) ck_4
/-- Tape.byteAt -/
def cx_5 : zCtx := (117, ([ui0, ui52, ui52], [ur53, ur54], [], [], [uV2, uV11], [uF55, uF21], []), [([ui0, ui52, ui52, ui56], [ur53, ur54], [uL57], [], [uV58], [], [uG59]), ([ui0, ui52, ui52], [ur53, ur54], [uL60], [], [uV61], [], [])], [], 17, 0, 0)
set_option maxRecDepth 1000000 in
theorem ck_5 : x_ok mLT [] mTS2 mTC2 mRUp cx_5 [] [(29, [1000003, 1000004])] [] (17, []) 0 20 = true := by decide +kernel
theorem sn_5 {W : Bool} {X : List Int32} : y_Snd (mGw W) mLT (J2 W X) X cx_5 := y_ok J2_J mTS2_ok mTC2_ok mRUp_ok (fun _ h => absurd h List.not_mem_nil) ck_5
/-- Tape.isBlank -/
def cx_6 : zCtx := (118, ([ui0, ui56], [], [], [], [uV11], [], []), [([ui0, ui56], [], [], [], [uV62], [], [(21, [uL63, uL9, uL63])]), ([ui0, ui56], [], [], [], [uV64], [], [(21, [uL63, uL9, uL65])])], [], 15, 0, 0)
set_option maxRecDepth 1000000 in
theorem ck_6 : x_ok mLT [] mTS2 mTC2 mRUp cx_6 [] [(29, [1000000])] [] (15, []) 0 18 = true := by decide +kernel
theorem sn_6 {W : Bool} {X : List Int32} : y_Snd (mGw W) mLT (J2 W X) X cx_6 := y_ok J2_J mTS2_ok mTC2_ok mRUp_ok (fun _ h => absurd h List.not_mem_nil) ck_6
/-- Tape.skipBlanks -/
def cx_7 : zCtx := (116, ([ui0, ui52, ui52], [ur53, ur54], [], [], [uV2, uV11], [uF55, uF21], []), [([ui0, ui52, ui52, ui52], [ur53, ur54], [uL66], [], [uV58], [], [(23, [uL63, uL67, uL9, uL23])])], [], 24026, 1, 21)
set_option maxRecDepth 1000000 in
theorem ck_7 : x_ok mLT [cx_5, cx_6] mTS2 mTC2 mRUp cx_7 [(12, [0]), (15, [1])] [(1, [1000005]), (21, [1000006]), (27, [1000007, 1000008])] [(2, ([(0, 3072), (0, 2000), (0, 2000), (0, 2000)], [(1, false), (13, false)], [(0, [(1, (-1)), (3, 1)])], [(2, 0, 0, []), (0, 0, 0, [(1, 1)]), (0, 0, 0, [(3, 1)])], [], [(0, (false, 5, 0, []), 0, 0, 0, [(2, 1)]), (0, (false, 0, 0, []), 2, 1, 0, [])], [(22, [(0, []), (0, [(2, 1)]), (0, [(1, 1)]), (0, [(1, 1)])]), (22, [(0, []), (0, [(2, 1)]), (0, [(1, 1)]), (0, [(3, 1)])])]), (24006, [(3, (-12))]))] (24009, []) 17 14 = true := by decide +kernel
theorem sn_7 {W : Bool} {X : List Int32} : y_Snd (mGw W) mLT (J2 W X) X cx_7 := y_ok J2_J mTS2_ok mTC2_ok mRUp_ok (List.forall_mem_cons.mpr ⟨sn_5, List.forall_mem_cons.mpr ⟨sn_6, fun _ h => absurd h List.not_mem_nil⟩⟩) ck_7
/-- Tape.keepToken -/
def cx_8 : zCtx := (120, ([ui0, ui68, ui69, ui52, ui70, ui52, ui52, ui52], [ur53, ur71, ur72, ur73], [], [], [uV2, uV11, uV12, uV58, uV74, uV75], [uF42, uF76, uF77], [uG80]), [([ui0, ui68, ui69, ui52, ui70, ui52, ui52, ui52], [ur53, ur71, ur72, ur73], [], [], [uV75], [uF15, (2, (true, 0, 0, [(1, 1)]), 0, 0, 0, [(3, 1)]), (3, (true, 0, 0, [(1, 1)]), 1, 0, 0, [(4, 1)])], [uG80])], [uk81, uk82, uk83], 22, 0, 0)
set_option maxRecDepth 1000000 in
theorem ck_8 : x_ok mLT [] mTS2 mTC2 mRUp cx_8 [] [] [] (22, []) 0 25 = true := by decide +kernel
theorem sn_8 {W : Bool} {X : List Int32} : y_Snd (mGw W) mLT (J2 W X) X cx_8 := y_ok J2_J mTS2_ok mTC2_ok mRUp_ok (fun _ h => absurd h List.not_mem_nil) ck_8
/-- Tape.isLetter -/
def cx_9 : zCtx := (121, ([ui0, ui56], [], [], [], [uV11], [], []), [([ui0, ui56], [], [], [], [uV64], [], [uG84]), ([ui0, ui56], [], [], [], [uV62], [], [uG85])], [], 9, 0, 0)
set_option maxRecDepth 1000000 in
theorem ck_9 : x_ok mLT [] mTS2 mTC2 mRUp cx_9 [] [(17, [1000001])] [] (9, []) 0 12 = true := by decide +kernel
theorem sn_9 {W : Bool} {X : List Int32} : y_Snd (mGw W) mLT (J2 W X) X cx_9 := y_ok J2_J mTS2_ok mTC2_ok mRUp_ok (fun _ h => absurd h List.not_mem_nil) ck_9
/-- String.coder -/
def cx_10 : zCtx := (4, ([ui0], [], [], [], [uV86], [], []), [([ui0], [], [], [], [uV62], [], [])], [], 6, 0, 0)
set_option maxRecDepth 1000000 in
theorem ck_10 : x_ok mLT [] mTS2 mTC2 mRUp cx_10 [] [] [] (6, []) 0 9 = true := by decide +kernel
theorem sn_10 {W : Bool} {X : List Int32} : y_Snd (mGw W) mLT (J2 W X) X cx_10 := y_ok J2_J mTS2_ok mTC2_ok mRUp_ok (fun _ h => absurd h List.not_mem_nil) ck_10
/-- String.length -/
def cx_11 : zCtx := (3, ([ui0], [], [], [], [uV86], [], []), [([ui0], [], [], [], [(0, 0, 176, [])], [], [])], [], 13, 1, 20)
set_option maxRecDepth 1000000 in
theorem ck_11 : x_ok mLT [cx_10] mTS2 mTC2 mRUp cx_11 [(6, [0])] [] [] (7, []) 6 10 = true := by decide +kernel
theorem sn_11 {W : Bool} {X : List Int32} : y_Snd (mGw W) mLT (J2 W X) X cx_11 := y_ok J2_J mTS2_ok mTC2_ok mRUp_ok (List.forall_mem_cons.mpr ⟨sn_10, fun _ h => absurd h List.not_mem_nil⟩) ck_11
/-- String.isLatin1 -/
def cx_12 : zCtx := (6, ([ui0], [], [], [], [uV86], [], []), [([ui0], [], [], [], [uV64], [], [])], [], 8, 0, 0)
set_option maxRecDepth 1000000 in
theorem ck_12 : x_ok mLT [] mTS2 mTC2 mRUp cx_12 [] [] [] (8, []) 0 11 = true := by decide +kernel
theorem sn_12 {W : Bool} {X : List Int32} : y_Snd (mGw W) mLT (J2 W X) X cx_12 := y_ok J2_J mTS2_ok mTC2_ok mRUp_ok (fun _ h => absurd h List.not_mem_nil) ck_12
/-- Preconditions.checkIndex -/
def cx_13 : zCtx := (9, ([ui0, ui87, ui88], [], [], [], [uV11, uV12, (4, 5, 0, [])], [], []), [([ui0, ui87, ui88], [], [uL57], [], [uV11], [], [])], [], 7, 0, 0)
set_option maxRecDepth 1000000 in
theorem ck_13 : x_ok mLT [] mTS2 mTC2 mRUp cx_13 [] [] [] (7, []) 0 10 = true := by decide +kernel
theorem sn_13 {W : Bool} {X : List Int32} : y_Snd (mGw W) mLT (J2 W X) X cx_13 := y_ok J2_J mTS2_ok mTC2_ok mRUp_ok (fun _ h => absurd h List.not_mem_nil) ck_13
/-- String.checkIndex -/
def cx_14 : zCtx := (8, ([ui0, ui87, ui88], [], [], [], [uV11, uV12], [], []), [([ui0, ui87, ui88], [], [uL57], [], [], [], [])], [], 13, 1, 22)
set_option maxRecDepth 1000000 in
theorem ck_14 : x_ok mLT [cx_13] mTS2 mTC2 mRUp cx_14 [(5, [0])] [] [] (6, []) 7 9 = true := by decide +kernel
theorem sn_14 {W : Bool} {X : List Int32} : y_Snd (mGw W) mLT (J2 W X) X cx_14 := y_ok J2_J mTS2_ok mTC2_ok mRUp_ok (List.forall_mem_cons.mpr ⟨sn_13, fun _ h => absurd h List.not_mem_nil⟩) ck_14
/-- StringLatin1.charAt -/
def cx_15 : zCtx := (7, ([ui0, ui87], [], [], [], [(4, 4, 0, []), uV11], [], []), [([ui0, ui87, ui89], [], [], [], [uV12], [], [uG90])], [], 24, 2, 43)
set_option maxRecDepth 1000000 in
theorem ck_15 : x_ok mLT [cx_14] mTS2 mTC2 mRUp cx_15 [(3, [0])] [] [] (11, []) 13 14 = true := by decide +kernel
theorem sn_15 {W : Bool} {X : List Int32} : y_Snd (mGw W) mLT (J2 W X) X cx_15 := y_ok J2_J mTS2_ok mTC2_ok mRUp_ok (List.forall_mem_cons.mpr ⟨sn_14, fun _ h => absurd h List.not_mem_nil⟩) ck_15
/-- String.charAt -/
def cx_16 : zCtx := (5, ([ui0, ui87], [], [], [], [uV86, uV11], [], []), [([ui0, ui87, ui89], [], [], [], [uV12], [], [uG90])], [], 32, 3, 64)
set_option maxRecDepth 1000000 in
theorem ck_16 : x_ok mLT [cx_12, cx_15] mTS2 mTC2 mRUp cx_16 [(1, [0]), (12, [1])] [] [] (8, []) 24 11 = true := by decide +kernel
theorem sn_16 {W : Bool} {X : List Int32} : y_Snd (mGw W) mLT (J2 W X) X cx_16 := y_ok J2_J mTS2_ok mTC2_ok mRUp_ok (List.forall_mem_cons.mpr ⟨sn_12, List.forall_mem_cons.mpr ⟨sn_15, fun _ h => absurd h List.not_mem_nil⟩⟩) ck_16
/-- Tape.isWordAt -/
def cx_17 : zCtx := (124, ([ui0, ui91, (0, 8), ui92, ui93], [ur53, ur54], [(0, [(1, (-1)), (2, (-1)), (4, 1)])], [], [uV2, uV11, uV12, uV58], [uF94, uF21], []), [([ui0, ui91, (0, 8), ui92, ui93], [ur53, ur54], [], [], [uV62], [], [(28, [uL23, uL9, uL67, uL63])]), ([ui0, ui91, (0, 8), ui92, ui93], [ur53, ur54], [], [], [uV64], [], [(28, [uL23, uL9, uL67, uL65])])], [], 288, 4, 85)
set_option maxRecDepth 1000000 in
theorem ck_17 : x_ok mLT [cx_5, cx_11, cx_16] mTS2 mTC2 mRUp cx_17 [(21, [0]), (41, [1]), (53, [2])] [(1, [1000011]), (16, [1000020]), (58, [1000012]), (61, [1000015, 1000016, 1000017, 1000018]), (63, [1000013, 1000014]), (69, [1000019])] [(3, ([(0, 3072), (0, 1999), (0, 8), (0, 168), (1, 2000), (0, 8)], [(1, false), (13, false)], [(0, [(1, (-1)), (2, (-1)), (4, 1)])], [(2, 0, 0, []), (0, 0, 0, [(1, 1)]), (0, 0, 0, [(2, 1)]), (0, 0, 0, [(3, 1)]), (0, 0, 0, [(5, 1)]), (5, 0, 0, [])], [], [(0, (false, 5, 0, []), 0, 0, 0, [(4, 1)]), (0, (false, 0, 0, []), 2, 1, 0, [])], [(27, [(0, [(3, 1)]), (0, [(1, 1)]), (0, [(2, 1)]), (0, [])]), (27, [(0, [(3, 1)]), (0, [(1, 1)]), (0, [(2, 1)]), (0, [(5, 1)])])]), (253, [(5, (-31))]))] (256, []) 32 33 = true := by decide +kernel
theorem sn_17 {W : Bool} {X : List Int32} : y_Snd (mGw W) mLT (J2 W X) X cx_17 := y_ok J2_J mTS2_ok mTC2_ok mRUp_ok (List.forall_mem_cons.mpr ⟨sn_5, List.forall_mem_cons.mpr ⟨sn_11, List.forall_mem_cons.mpr ⟨sn_16, fun _ h => absurd h List.not_mem_nil⟩⟩⟩) ck_17
/-- Tape.wordAt -/
def cx_18 : zCtx := (123, ([ui0, ui91, (0, 8), ui93], [ur53, ur54], [(0, [(1, (-1)), (2, (-1)), (3, 1)])], [], [uV2, uV11, uV12], [uF95, uF21], []), [([ui0, ui91, (0, 8), ui93, ui96], [ur53, ur54], [], [], [uV97], [], [(30, [uL9, uL67, uL98])]), ([ui0, ui91, (0, 8), ui93], [ur53, ur54], [], [], [uV61], [], [(30, [uL9, uL67, uL99])])], [], 4201, 5, 110)
set_option maxRecDepth 1000000 in
theorem ck_18 : x_ok mLT [cx_11, cx_17] mTS2 mTC2 mRUp cx_18 [(8, [0]), (18, [1])] [(1, [1000021]), (27, [1000023]), (28, [1000024]), (29, [1000022]), (35, [1000025])] [(2, ([(0, 3072), (0, 1999), (0, 8), (1, 2000), (0, 255)], [(1, false), (13, false)], [(0, [(1, (-1)), (2, (-1)), (3, 1)])], [(2, 0, 0, []), (0, 0, 0, [(1, 1)]), (0, 0, 0, [(2, 1)]), (0, 0, 0, [(4, 1)])], [], [(0, (false, 5, 0, []), 0, 0, 0, [(3, 1)]), (0, (false, 0, 0, []), 2, 1, 0, [])], [(29, [(0, [(1, 1)]), (0, [(2, 1)]), (0, [])]), (29, [(0, [(1, 1)]), (0, [(2, 1)]), (0, [(4, 1)])])]), (3889, [(4, (-15))]))] (3913, []) 288 19 = true := by decide +kernel
theorem sn_18 {W : Bool} {X : List Int32} : y_Snd (mGw W) mLT (J2 W X) X cx_18 := y_ok J2_J mTS2_ok mTC2_ok mRUp_ok (List.forall_mem_cons.mpr ⟨sn_11, List.forall_mem_cons.mpr ⟨sn_17, fun _ h => absurd h List.not_mem_nil⟩⟩) ck_18
/-- Tape.cutWord -/
def cx_19 : zCtx := (122, ([ui0, ui68, ui91, ui93, ui52, ui56], [ur53, ur71, ur72, ur73, ur54], [uL100], [], [uV2, uV11, uV12], [uF95, uF42, uF76, uF77, uF101], [uG102, uG103, uG105, uG106]), [([ui0, ui68, ui91, ui93, ui52, ui56, ui52], [ur53, ur71, ur72, ur73, ur54], [uL107], [], [uV108], [], [uG110])], [uk81, uk82, uk83], 54234, 6, 133)
def cz_19_0g_0 (t : List zTg) : List zTg := (25, [uL67, uL67, uL63]) :: (22, [uL65, uL23, uL67, uL67]) :: uG102 :: uG103 :: uG105 :: uG106 :: (22, [uL65, uL23, uL67, uL78]) :: (25, [uL67, uL78, uL79]) :: t
def cz_19_0 : zS := ([ui0, ui68, ui91, ui93, ui52, ui56, ui52, ui70], [ur53, ur71, ur72, ur73, ur54], [uL100, uL107, uL111], [uV2, uV11, uV12, uV108, uV112, uV113, uV113], [], [uF95, uF42, uF76, uF77, uF101], (cz_19_0g_0 []))
set_option maxRecDepth 1000000 in
theorem ck_19 : x_ok mLT [cx_5, cx_9, cx_8, cx_18] mTS2 mTC2 mRUp cx_19 [(15, [0]), (18, [1]), (32, [0]), (64, [2]), (73, [3]), (99, [2])] [(2, [1000029, 1000030]), (24, [1000031, 1000032, 1000033]), (44, [1000034, 1000035]), (50, [1000036, 1000037]), (67, [1000038]), (102, [1000039, 1000040])] [(5, cz_19_0, (50028, [(6, (-25))]))] (50033, []) 4201 36 = true := by decide +kernel
theorem sn_19 {W : Bool} {X : List Int32} : y_Snd (mGw W) mLT (J2 W X) X cx_19 := y_ok J2_J mTS2_ok mTC2_ok mRUp_ok (List.forall_mem_cons.mpr ⟨sn_5, List.forall_mem_cons.mpr ⟨sn_9, List.forall_mem_cons.mpr ⟨sn_8, List.forall_mem_cons.mpr ⟨sn_18, fun _ h => absurd h List.not_mem_nil⟩⟩⟩⟩) ck_19
/-- Tape.isDigit -/
def cx_20 : zCtx := (125, ([ui0, ui56], [], [], [], [uV11], [], []), [([ui0, ui56], [], [], [], [uV64], [], [uG115]), ([ui0, ui56], [], [], [], [uV62], [], [uG116])], [], 9, 0, 0)
set_option maxRecDepth 1000000 in
theorem ck_20 : x_ok mLT [] mTS2 mTC2 mRUp cx_20 [] [(17, [1000002])] [] (9, []) 0 12 = true := by decide +kernel
theorem sn_20 {W : Bool} {X : List Int32} : y_Snd (mGw W) mLT (J2 W X) X cx_20 := y_ok J2_J mTS2_ok mTC2_ok mRUp_ok (fun _ h => absurd h List.not_mem_nil) ck_20
/-- Tape.cutInt -/
def cx_21 : zCtx := (126, ([ui0, ui68, ui91, ui93, ui52, ui56], [ur53, ur71, ur72, ur73, ur54], [uL100], [], [uV2, uV11, uV12], [uF95, uF42, uF76, uF77, uF101], [uG102, uG103, uG105, uG117, uG118]), [([ui0, ui68, ui91, ui93, ui52, ui56, ui52], [ur53, ur71, ur72, ur73, ur54], [uL107], [], [uV108], [], [uG110])], [uk81, uk82, uk83], 46045, 1, 26)
def cz_21_0g_0 (t : List zTg) : List zTg := (24, [uL67, uL67, uL63]) :: (22, [uL114, uL23, uL67, uL67]) :: uG102 :: uG103 :: uG105 :: uG117 :: uG118 :: (22, [uL114, uL23, uL67, uL78]) :: t
def cz_21_0g_1 (t : List zTg) : List zTg := (24, [uL67, uL78, uL79]) :: t
def cz_21_0 : zS := ([ui0, ui68, ui91, ui93, ui52, ui56, ui52, ui70], [ur53, ur71, ur72, ur73, ur54], [uL100, uL107, uL111], [uV2, uV11, uV12, uV108, uV112, uV113], [], [uF95, uF42, uF76, uF77, uF101], (cz_21_0g_0 (cz_21_0g_1 [])))
set_option maxRecDepth 1000000 in
theorem ck_21 : x_ok mLT [cx_5, cx_20, cx_8] mTS2 mTC2 mRUp cx_21 [(15, [0]), (18, [1]), (32, [0]), (66, [2])] [(2, [1000041, 1000042]), (24, [1000043, 1000044, 1000045]), (42, [1000046, 1000047]), (48, [1000048, 1000049]), (69, [1000050, 1000051])] [(5, cz_21_0, (46018, [(6, (-23))]))] (46023, []) 22 26 = true := by decide +kernel
theorem sn_21 {W : Bool} {X : List Int32} : y_Snd (mGw W) mLT (J2 W X) X cx_21 := y_ok J2_J mTS2_ok mTC2_ok mRUp_ok (List.forall_mem_cons.mpr ⟨sn_5, List.forall_mem_cons.mpr ⟨sn_20, List.forall_mem_cons.mpr ⟨sn_8, fun _ h => absurd h List.not_mem_nil⟩⟩⟩) ck_21
/-- String.isLatin1 -/
def cx_22 : zCtx := (6, ([ui0], [], [], [], [uV119], [], []), [([ui0], [], [], [], [uV64], [], [])], [], 8, 0, 0)
set_option maxRecDepth 1000000 in
theorem ck_22 : x_ok mLT [] mTS2 mTC2 mRUp cx_22 [] [] [] (8, []) 0 11 = true := by decide +kernel
theorem sn_22 {W : Bool} {X : List Int32} : y_Snd (mGw W) mLT (J2 W X) X cx_22 := y_ok J2_J mTS2_ok mTC2_ok mRUp_ok (fun _ h => absurd h List.not_mem_nil) ck_22
/-- String.coder -/
def cx_23 : zCtx := (4, ([ui0], [], [], [], [uV119], [], []), [([ui0], [], [], [], [uV62], [], [])], [], 6, 0, 0)
set_option maxRecDepth 1000000 in
theorem ck_23 : x_ok mLT [] mTS2 mTC2 mRUp cx_23 [] [] [] (6, []) 0 9 = true := by decide +kernel
theorem sn_23 {W : Bool} {X : List Int32} : y_Snd (mGw W) mLT (J2 W X) X cx_23 := y_ok J2_J mTS2_ok mTC2_ok mRUp_ok (fun _ h => absurd h List.not_mem_nil) ck_23
/-- String.length -/
def cx_24 : zCtx := (3, ([ui0], [], [], [], [uV119], [], []), [([ui0], [], [], [], [uV120], [], [])], [], 13, 1, 20)
set_option maxRecDepth 1000000 in
theorem ck_24 : x_ok mLT [cx_23] mTS2 mTC2 mRUp cx_24 [(6, [0])] [] [] (7, []) 6 10 = true := by decide +kernel
theorem sn_24 {W : Bool} {X : List Int32} : y_Snd (mGw W) mLT (J2 W X) X cx_24 := y_ok J2_J mTS2_ok mTC2_ok mRUp_ok (List.forall_mem_cons.mpr ⟨sn_23, fun _ h => absurd h List.not_mem_nil⟩) ck_24
/-- StringLatin1.canEncode -/
def cx_25 : zCtx := (13, ([ui0, ui56], [], [], [], [uV11], [], []), [([ui0, ui56], [], [], [], [uV64], [], [])], [], 8, 0, 0)
set_option maxRecDepth 1000000 in
theorem ck_25 : x_ok mLT [] mTS2 mTC2 mRUp cx_25 [] [] [] (8, []) 0 11 = true := by decide +kernel
theorem sn_25 {W : Bool} {X : List Int32} : y_Snd (mGw W) mLT (J2 W X) X cx_25 := y_ok J2_J mTS2_ok mTC2_ok mRUp_ok (fun _ h => absurd h List.not_mem_nil) ck_25
/-- StringLatin1.indexOfChar -/
def cx_26 : zCtx := (14, ([ui0, ui56], [], [], [], [uV121, uV11, uV62, uV120], [], []), [([ui0, ui56], [], [], [], [uV61], [], [uG122]), ([ui0, ui56, (0, 8)], [], [], [], [uV12], [], [uG123])], [], 100, 0, 0)
set_option maxRecDepth 1000000 in
theorem ck_26 : x_ok mLT [] mTS2 mTC2 mRUp cx_26 [] [(1, [1000009]), (24, [1000010]), (32, [1000010])] [] (100, []) 0 103 = true := by decide +kernel
theorem sn_26 {W : Bool} {X : List Int32} : y_Snd (mGw W) mLT (J2 W X) X cx_26 := y_ok J2_J mTS2_ok mTC2_ok mRUp_ok (fun _ h => absurd h List.not_mem_nil) ck_26
/-- StringLatin1.indexOf -/
def cx_27 : zCtx := (12, ([ui0, ui56], [], [], [], [uV121, uV11, uV62, uV120], [], []), [([ui0, ui56, (0, 8)], [], [], [], [uV12], [], [uG123]), ([ui0, ui56], [], [], [], [uV61], [], [uG122])], [], 121, 1, 64)
set_option maxRecDepth 1000000 in
theorem ck_27 : x_ok mLT [cx_25, cx_26] mTS2 mTC2 mRUp cx_27 [(1, [0]), (33, [1])] [] [] (21, []) 100 24 = true := by decide +kernel
theorem sn_27 {W : Bool} {X : List Int32} : y_Snd (mGw W) mLT (J2 W X) X cx_27 := y_ok J2_J mTS2_ok mTC2_ok mRUp_ok (List.forall_mem_cons.mpr ⟨sn_25, List.forall_mem_cons.mpr ⟨sn_26, fun _ h => absurd h List.not_mem_nil⟩⟩) ck_27
/-- String.indexOf -/
def cx_28 : zCtx := (11, ([ui0, ui56], [], [], [], [uV119, uV11, uV62], [], []), [([ui0, ui56], [], [], [], [uV61], [], [uG122]), ([ui0, ui56, (0, 8)], [], [], [], [uV12], [], [uG123])], [], 133, 2, 87)
set_option maxRecDepth 1000000 in
theorem ck_28 : x_ok mLT [cx_22, cx_24, cx_27] mTS2 mTC2 mRUp cx_28 [(1, [0]), (14, [1]), (17, [2])] [] [] (12, []) 121 15 = true := by decide +kernel
theorem sn_28 {W : Bool} {X : List Int32} : y_Snd (mGw W) mLT (J2 W X) X cx_28 := y_ok J2_J mTS2_ok mTC2_ok mRUp_ok (List.forall_mem_cons.mpr ⟨sn_22, List.forall_mem_cons.mpr ⟨sn_24, List.forall_mem_cons.mpr ⟨sn_27, fun _ h => absurd h List.not_mem_nil⟩⟩⟩) ck_28
/-- String.indexOf -/
def cx_29 : zCtx := (10, ([ui0, ui56], [], [], [], [uV119, uV11], [], []), [([ui0, ui56, (0, 8)], [], [], [], [uV12], [], [uG123]), ([ui0, ui56], [], [], [], [uV61], [], [uG122])], [], 138, 3, 109)
set_option maxRecDepth 1000000 in
theorem ck_29 : x_ok mLT [cx_28] mTS2 mTC2 mRUp cx_29 [(3, [0])] [] [] (5, []) 133 8 = true := by decide +kernel
theorem sn_29 {W : Bool} {X : List Int32} : y_Snd (mGw W) mLT (J2 W X) X cx_29 := y_ok J2_J mTS2_ok mTC2_ok mRUp_ok (List.forall_mem_cons.mpr ⟨sn_28, fun _ h => absurd h List.not_mem_nil⟩) ck_29
/-- Tape.cut -/
def cx_30 : zCtx := (119, ([ui0, ui68, ui52, ui52, ui52], [ur53, ur71, ur72, ur73, ur54], [], [], [uV2, uV11, uV12], [uF95, uF42, uF76, uF77, uF101], [uG102, uG103]), [([ui0, ui68, ui52, ui52, ui52, ui52], [ur53, ur71, ur72, ur73, ur54], [(0, [(2, (-1)), (5, 1)])], [], [uV75], [], [(31, [uL23, uL109, uL104])])], [uk81, uk82, uk83], 54265, 7, 159)
set_option maxRecDepth 1000000 in
theorem ck_30 : x_ok mLT [cx_5, cx_8, cx_9, cx_19, cx_20, cx_21, cx_29] mTS2 mTC2 mRUp cx_30 [(2, [0]), (17, [1]), (22, [2]), (31, [3]), (36, [4]), (45, [5]), (53, [6]), (75, [1])] [(20, [1000026]), (78, [1000027, 1000028])] [] (31, []) 54234 34 = true := by decide +kernel
theorem sn_30 {W : Bool} {X : List Int32} : y_Snd (mGw W) mLT (J2 W X) X cx_30 := y_ok J2_J mTS2_ok mTC2_ok mRUp_ok (List.forall_mem_cons.mpr ⟨sn_5, List.forall_mem_cons.mpr ⟨sn_8, List.forall_mem_cons.mpr ⟨sn_9, List.forall_mem_cons.mpr ⟨sn_19, List.forall_mem_cons.mpr ⟨sn_20, List.forall_mem_cons.mpr ⟨sn_21, List.forall_mem_cons.mpr ⟨sn_29, fun _ h => absurd h List.not_mem_nil⟩⟩⟩⟩⟩⟩⟩) ck_30
/-- Tape.step -/
def cx_31 : zCtx := (127, ([ui0, ui124, ui69, ui52, ui70, ui52], [ur53, ur71, ur72, ur73], [], [], [uV2], [uF32, uF39, uF40, uF125, uF42, uF76, uF77, uF126], [(37, [uL104])]), [([ui0, ui124, ui69, ui52, ui70, ui52, ui69, ui52, ui70], [ur53, ur71, ur72, ur73], [], [], [], [uF127, uF128, uF129, uF130], [(35, [uL104, uL63]), (36, [uL104, uL63, uL78, uL79, uL131])])], [uk132, uk133, uk134, uk135], 32, 0, 0)
set_option maxRecDepth 1000000 in
theorem ck_31 : x_ok mLT [] mTS2 mTC2 mRUp cx_31 [] [(53, uN136)] [] (32, []) 0 35 = true := by decide +kernel
theorem sn_31 {W : Bool} {X : List Int32} : y_Snd (mGw W) mLT (J2 W X) X cx_31 := y_ok J2_J mTS2_ok mTC2_ok mRUp_ok (fun _ h => absurd h List.not_mem_nil) ck_31
/-- Tape.scan -/
def cx_32 : zCtx := (115, ([ui0, ui137, ui52, ui69, ui52, ui70], [ur53, ur71, ur72, ur73, ur54], [], [], [uV2], [uF32, uF55, uF138, uF139, uF140, uF42, uF76, uF77, uF101], []), [([ui0, ui137, ui52, ui69, ui52, ui70, ui69, ui52, ui70], [ur53, ur71, ur72, ur73, ur54], [], [], [], [uF127, uF128, uF129, uF130], [(35, [uL67, uL63]), (36, [uL67, uL63, uL78, uL79, uL131])])], [uk132, uk133, uk134, uk135, uk81, uk82, uk83], 63504, 8, 183)
def cz_32_0f_0 (t : List zFa) : List zFa := uF32 :: uF55 :: uF138 :: uF139 :: uF140 :: uF42 :: uF76 :: uF77 :: t
def cz_32_0f_1 (t : List zFa) : List zFa := uF101 :: t
def cz_32_0 : zS := ([ui0, ui137, ui52, ui69, ui52, ui70, ui52, ui141], [ur53, ur71, ur72, ur73, ur54], [], [uV2, uV108, uV64, uV142, uV113], [], (cz_32_0f_0 (cz_32_0f_1 [])), [(31, [uL67, uL79, uL78])])
def cz_32_1i_0 (t : List (Int × Int)) : List (Int × Int) := ui0 :: ui137 :: ui52 :: ui69 :: ui52 :: ui70 :: ui52 :: ui143 :: t
def cz_32_1i_1 (t : List (Int × Int)) : List (Int × Int) := ui52 :: t
def cz_32_1 : zS := ((cz_32_1i_0 (cz_32_1i_1 [])), [ur53, ur71, ur72, ur73, ur54], [(0, [(6, (-1)), (8, 1)]), (0, [(6, 1), (8, (-1))])], [uV2, uV108, uV62, uV142, uV144], [], (cz_32_0f_0 (cz_32_0f_1 [])), [uG145, uG145])
set_option maxRecDepth 1000000 in
theorem ck_32 : x_ok mLT [cx_7, cx_30, cx_31] mTS2 mTC2 mRUp cx_32 [(19, [0]), (28, [1]), (56, [2])] [(1, [1000052]), (24, [1000053]), (42, [1000054]), (50, [1000055])] [(6, cz_32_0, (9232, [(7, (-23))])), (6, cz_32_1, (411, [(7, (-1))]))] (9239, []) 54265 25 = true := by decide +kernel
theorem sn_32 {W : Bool} {X : List Int32} : y_Snd (mGw W) mLT (J2 W X) X cx_32 := y_ok J2_J mTS2_ok mTC2_ok mRUp_ok (List.forall_mem_cons.mpr ⟨sn_7, List.forall_mem_cons.mpr ⟨sn_30, List.forall_mem_cons.mpr ⟨sn_31, fun _ h => absurd h List.not_mem_nil⟩⟩⟩) ck_32
/-- Tape.isBeyondRoom -/
def cx_33 : zCtx := (128, ([ui0, ui68], [ur53], [], [], [uV2], [uF32], []), [([ui0, ui146], [ur53], [], [], [uV64], [], []), ([ui0, ui147], [ur53], [], [], [uV62], [], [])], [], 7, 0, 0)
set_option maxRecDepth 1000000 in
theorem ck_33 : x_ok mLT [] mTS2 mTC2 mRUp cx_33 [] [] [] (7, []) 0 10 = true := by decide +kernel
theorem sn_33 {W : Bool} {X : List Int32} : y_Snd (mGw W) mLT (J2 W X) X cx_33 := y_ok J2_J mTS2_ok mTC2_ok mRUp_ok (fun _ h => absurd h List.not_mem_nil) ck_33
/-- Tape.step -/
def cx_34 : zCtx := (127, ([ui0, ui147, ui148, ui52, ui70, ui52], [ur53, ur71, ur72, ur73], [uL149], [], [uV2], [uF32, uF39, uF40, uF125, uF42, uF76, uF77, uF126], [(35, [uL104, uL9]), (36, [uL104, uL9, uL67, uL23, uL98])]), [([ui0, ui147, ui148, ui52, ui70, ui52, ui69, ui52, ui70], [ur53, ur71, ur72, ur73], [], [], [], [(0, (false, 4, 0, []), 0, 0, 1, [(1, 1)]), uF128, uF129, uF130], [(35, [uL104, uL109]), (36, [uL104, uL109, uL78, uL79, uL131])])], [uk132, uk133, uk134, uk135], 32, 0, 0)
set_option maxRecDepth 1000000 in
theorem ck_34 : x_ok mLT [] mTS2 mTC2 mRUp cx_34 [] [(53, uN136)] [] (32, []) 0 35 = true := by decide +kernel
theorem sn_34 {W : Bool} {X : List Int32} : y_Snd (mGw W) mLT (J2 W X) X cx_34 := y_ok J2_J mTS2_ok mTC2_ok mRUp_ok (fun _ h => absurd h List.not_mem_nil) ck_34
def cx_35pf_0 (t : List zFa) : List zFa := uF150 :: uF42 :: uF151 :: uF152 :: uF153 :: (2, (false, 6, 0, []), 0, 0, 0, [(5, 1)]) :: uF154 :: (2, (false, 8, 0, []), 1, 0, 0, [(7, 1)]) :: t
def cx_35pf_1 (t : List zFa) : List zFa := uF155 :: uF156 :: uF157 :: t
def cx_35p : zS := ([ui0, ui148, (0, 0), ui52, ui68, ui69, ui52, ui70], [ur158, ur50, ur53, ur71, ur72, ur73], [uL159], [], [uV2, uV11], (cx_35pf_0 (cx_35pf_1 [])), [uG160, (36, [uL23, uL98, uL104, uL78, uL79]), (42, [uL23, uL98, uL9, uL104, uL78])])
/-- Parser.take -/
def cx_35 : zCtx := (56, cx_35p, [([ui0, ui148, (0, 0), ui52, ui68, ui69, ui52, ui70, (1, 2), ui52], [ur158, ur50, ur53, ur71, ur72, ur73], [], [], [uV62], [uF161, uF162], [(41, [uL23, uL131, uL163])]), ([ui0, ui148, (0, 0), ui52, ui68, ui69, ui52, ui70, ui69, ui52, ui70], [ur158, ur50, ur53, ur71, ur72, ur73], [(399, [(4, (-1))]), (0, [(1, (-1)), (5, 1)]), uL164], [], [uV64], [uF165, (2, (false, 4, 0, []), 0, 0, 1, [(4, 1)]), uF166, uF162, uF167], [(35, [uL23, uL168]), (36, [uL23, uL168, uL131, uL163, uL169])])], [uk132, uk133, uk134, uk135, uk170], 53, 1, 21)
set_option maxRecDepth 1000000 in
theorem ck_35 : x_ok mLT [cx_33, cx_34] mTS2 mTC2 mRUp cx_35 [(32, [0]), (50, [1])] [(17, [1000012]), (25, [1000058, 1000059]), (43, [1000060])] [] (21, []) 32 24 = true := by decide +kernel
theorem sn_35 {W : Bool} {X : List Int32} : y_Snd (mGw W) mLT (J2 W X) X cx_35 := y_ok J2_J mTS2_ok mTC2_ok mRUp_ok (List.forall_mem_cons.mpr ⟨sn_33, List.forall_mem_cons.mpr ⟨sn_34, fun _ h => absurd h List.not_mem_nil⟩⟩) ck_35
/-- Parser.take -/
def cx_36 : zCtx := (56, ([ui0, ui171, (1, 2), ui52, ui52], [ur158, ur50, ur53], [], [], [uV2, uV11], [uF150, uF42, uF151, uF152, (2, (false, 7, 0, []), 0, 0, 0, [(4, 1)])], [(41, [uL23, uL67, uL98])]), [([ui0, ui171, (1, 2), ui52, ui52, (1, 2), ui52], [ur158, ur50, ur53], [], [], [uV62], [(0, (false, 2, 0, []), 0, 0, 0, [(5, 1)]), uF154], [(41, [uL23, uL104, uL78])])], [], 5, 0, 0)
set_option maxRecDepth 1000000 in
theorem ck_36 : x_ok mLT [] mTS2 mTC2 mRUp cx_36 [] [] [] (5, []) 0 8 = true := by decide +kernel
theorem sn_36 {W : Bool} {X : List Int32} : y_Snd (mGw W) mLT (J2 W X) X cx_36 := y_ok J2_J mTS2_ok mTC2_ok mRUp_ok (fun _ h => absurd h List.not_mem_nil) ck_36
/-- Text.houseNamed -/
def cx_37 : zCtx := (131, ([ui0, ui70, (0, 6), ui52, ui68, ui52], [ur50, ur172], [], [], [uV2, uV173], [uF55, uF21], [(43, [uL23, uL98, uL67]), (36, [uL23, uL98, uL114, uL104, uL9])]), [([ui0, ui70, (0, 6), ui52, ui68, ui52, (0, 5)], [ur50, ur172], [((-1), [(2, 1), (6, (-1))])], [], [uV108], [], [(44, [uL23, uL98, uL78])]), ([ui0, ui70, (0, 6), ui52, ui68, ui52], [ur50, ur172], [], [], [uV61], [], [(44, [uL23, uL98, uL99])])], [], 111, 0, 0)
set_option maxRecDepth 1000000 in
theorem ck_37 : x_ok mLT [] mTS2 mTC2 mRUp cx_37 [] [(1, [1000061]), (27, [1000062]), (29, uN174), (35, [1000065])] [(2, ([(0, 3072), ((-9223372036854775808), 9223372036854775807), (0, 6), (0, 2000), (0, 400), (0, 2000), (0, 6)], [(96, false), (97, false)], [(0, [(2, 1), (6, (-1))])], [(2, 0, 0, []), (1, 0, 0, [(1, 1)]), (5, 0, 0, []), (0, 0, 0, [(6, 1)])], [], [(0, (false, 5, 0, []), 0, 0, 0, [(2, 1)]), (0, (false, 0, 0, []), 2, 1, 0, [])], [(45, [(0, [(3, 1)]), (0, [(4, 1)]), (0, [])]), (43, [(0, [(3, 1)]), (0, [(4, 1)]), (0, [(2, 1)])]), (36, [(0, [(3, 1)]), (0, [(4, 1)]), (2, []), (0, [(5, 1)]), (0, [(1, 1)])]), (45, [(0, [(3, 1)]), (0, [(4, 1)]), (0, [(6, 1)])])]), (108, [(6, (-17))]))] (111, []) 0 19 = true := by decide +kernel
theorem sn_37 {W : Bool} {X : List Int32} : y_Snd (mGw W) mLT (J2 W X) X cx_37 := y_ok J2_J mTS2_ok mTC2_ok mRUp_ok (fun _ h => absurd h List.not_mem_nil) ck_37
/-- Parser.failLater -/
def cx_38 : zCtx := (57, ([ui0, (3, 5), ui52, (0, 5), ui49], [ur158, ur50], [], [], [uV2, uV11, uV12], [uF175, uF176, uF42], []), [([ui0, (3, 5), ui52, (0, 0), ui49], [ur158, ur50], [], [], [], [uF177, uF178], []), ([ui0, (3, 5), ui52, (1, 5), ui49], [ur158, ur50], [], [], [], [uF175, uF176], [])], [uk179, uk180], 10, 0, 0)
set_option maxRecDepth 1000000 in
theorem ck_38 : x_ok mLT [] mTS2 mTC2 mRUp cx_38 [] [] [] (10, []) 0 13 = true := by decide +kernel
theorem sn_38 {W : Bool} {X : List Int32} : y_Snd (mGw W) mLT (J2 W X) X cx_38 := y_ok J2_J mTS2_ok mTC2_ok mRUp_ok (fun _ h => absurd h List.not_mem_nil) ck_38
def cx_39pi_0 (t : List (Int × Int)) : List (Int × Int) := ui0 :: (0, 0) :: (0, 5) :: ui49 :: ui52 :: ui68 :: ui69 :: ui52 :: t
def cx_39pi_1 (t : List (Int × Int)) : List (Int × Int) := ui70 :: (0, 6) :: ui48 :: ui68 :: t
def cx_39pf_0 (t : List zFa) : List zFa := uF181 :: uF182 :: uF20 :: uF42 :: uF151 :: uF183 :: uF184 :: uF185 :: t
def cx_39pf_1 (t : List zFa) : List zFa := uF186 :: uF187 :: uF155 :: uF156 :: uF157 :: uF188 :: uF189 :: t
def cx_39p : zS := ((cx_39pi_0 (cx_39pi_1 [])), [ur158, ur50, ur53, ur71, ur72, ur73], [], [], [uV2, uV62, uV190], (cx_39pf_0 (cx_39pf_1 [])), [uG191, uG192, (40, [uL98, uL104, uL114, uL63, uL63, uL163, uL169, uL67, uL23, uL193])])
def cx_39q1i_0 (t : List (Int × Int)) : List (Int × Int) := ui0 :: (0, 0) :: (0, 5) :: ui49 :: ui52 :: ui68 :: ui69 :: ui52 :: t
def cx_39q1i_1 (t : List (Int × Int)) : List (Int × Int) := ui70 :: (0, 6) :: ui48 :: ui68 :: ui194 :: ui69 :: ui52 :: ui70 :: t
def cx_39q1i_2 (t : List (Int × Int)) : List (Int × Int) := (0, 5) :: ui49 :: t
def cx_39q1 : zS := ((cx_39q1i_0 (cx_39q1i_1 (cx_39q1i_2 []))), [ur158, ur50, ur53, ur71, ur72, ur73], [uL195], [], [uV196], [uF165, uF197, uF198, uF199, uF200, uF201, uF202], [uG204, uG208, (40, [uL98, uL203, uL209, uL63, uL63, uL163, uL169, uL210, uL211, uL193]), uG213])
/-- Parser.takeInt -/
def cx_39 : zCtx := (58, cx_39p, [([ui0, (0, 0), (0, 5), ui49, ui52, ui68, ui69, ui52, ui70, (0, 6), ui48, ui68, ui49, (1, 2), ui52], [ur158, ur50, ur53, ur71, ur72, ur73], [], [], [uV196], [uF214, uF199], [uG215]), cx_39q1], [uk132, uk133, uk134, uk135, uk170, uk179, uk180], 78, 2, 42)
set_option maxRecDepth 1000000 in
theorem ck_39 : x_ok mLT [cx_35, cx_38] mTS2 mTC2 mRUp cx_39 [(20, [0]), (40, [1])] [(0, uN216), (43, uN217)] [] (25, []) 53 28 = true := by decide +kernel
theorem sn_39 {W : Bool} {X : List Int32} : y_Snd (mGw W) mLT (J2 W X) X cx_39 := y_ok J2_J mTS2_ok mTC2_ok mRUp_ok (List.forall_mem_cons.mpr ⟨sn_35, List.forall_mem_cons.mpr ⟨sn_38, fun _ h => absurd h List.not_mem_nil⟩⟩) ck_39
end
