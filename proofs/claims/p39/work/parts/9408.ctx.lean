/-! ===== readings, by program, checked by the kernel ===== -/
/-- Feeler.fill -/
def cx_230 : zCtx := (20, ([(0, 3072), (6, 6), (6, 6), (0, 63), (0, 65535)], [(11, false)], [], [], [(2, 0, 0, []), (0, 0, 0, [(1, 1)]), (0, 0, 0, [(2, 1)]), (0, 0, 0, [(3, 1)]), (0, 0, 0, [(4, 1)])], [], []), [([(0, 3072), (6, 6), (6, 6), (0, 63), (0, 65535)], [(11, false)], [(0, [(1, (-1)), (2, 1)])], [], [], [], [])], [(11, false, 9), (11, false, 10), (46, true, 0)], 189, 1, 23)
set_option maxRecDepth 1000000 in
theorem ck_230 : x_ok mLT1 [cx_229] mTS2 mTC2 mRUp cx_230 [(15, [0])] [] [] (8, []) 181 11 = true := by decide +kernel
theorem sn_230 {W : Bool} {X : List Int32} : y_Snd (mGw W) mLT1 (J2 W X) X cx_230 := y_ok J2_J mTS2_ok1 mTC2_ok1 mRUp_ok1 (List.forall_mem_cons.mpr ⟨sn_229, fun _ h => absurd h List.not_mem_nil⟩) ck_230
/-- Feeler.fill -/
def cx_231 : zCtx := (20, ([(0, 3072), (5, 6), (5, 5), (0, 63), (0, 9998)], [(11, false)], [], [], [(2, 0, 0, []), (0, 0, 0, [(1, 1)]), (0, 0, 0, [(2, 1)]), (0, 0, 0, [(3, 1)]), (0, 0, 0, [(4, 1)])], [], []), [([(0, 3072), (5, 5), (5, 5), (0, 63), (0, 9998)], [(11, false)], [(0, [(1, (-1)), (2, 1)])], [], [], [], []), ([(0, 3072), (6, 6), (5, 5), (0, 63), (0, 9998)], [(11, false)], [((-1), [(1, 1), (2, (-1))])], [], [], [], [])], [(11, false, 9), (11, false, 10), (46, true, 0), (47, true, 0)], 442, 2, 48)
set_option maxRecDepth 1000000 in
theorem ck_231 : x_ok mLT1 [cx_229, cx_230] mTS2 mTC2 mRUp cx_231 [(15, [0]), (74, [1])] [] [(22, ([(0, 3072), (6, 6), (5, 5), (0, 63), (0, 9998), (0, 6)], [(11, false)], [((-1), [(1, 1), (2, (-1))])], [(2, 0, 0, []), (0, 0, 0, [(1, 1)]), (0, 0, 0, [(2, 1)]), (0, 0, 0, [(3, 1)]), (0, 0, 0, [(4, 1)]), (0, 0, 0, [(5, 1)])], [], [], []), ((-100000000000), [(1, (-66666666626)), (2, 100000000000), (5, (-40))]))] (253, []) 189 42 = true := by decide +kernel
theorem sn_231 {W : Bool} {X : List Int32} : y_Snd (mGw W) mLT1 (J2 W X) X cx_231 := y_ok J2_J mTS2_ok1 mTC2_ok1 mRUp_ok1 (List.forall_mem_cons.mpr ⟨sn_229, List.forall_mem_cons.mpr ⟨sn_230, fun _ h => absurd h List.not_mem_nil⟩⟩) ck_231
/-- Feeler.fill -/
def cx_232 : zCtx := (20, ([(0, 3072), (4, 6), (4, 4), (0, 63), (0, 1319)], [(11, false)], [], [], [(2, 0, 0, []), (0, 0, 0, [(1, 1)]), (0, 0, 0, [(2, 1)]), (0, 0, 0, [(3, 1)]), (0, 0, 0, [(4, 1)])], [], []), [([(0, 3072), (4, 4), (4, 4), (0, 63), (0, 1319)], [(11, false)], [(0, [(1, (-1)), (2, 1)])], [], [], [], []), ([(0, 3072), (5, 6), (4, 4), (0, 63), (0, 1319)], [(11, false)], [((-1), [(1, 1), (2, (-1))])], [], [], [], [])], [(11, false, 9), (11, false, 10), (46, true, 0), (47, true, 0)], 695, 3, 73)
set_option maxRecDepth 1000000 in
theorem ck_232 : x_ok mLT1 [cx_229, cx_231] mTS2 mTC2 mRUp cx_232 [(15, [0]), (74, [1])] [] [(22, ([(0, 3072), (5, 6), (4, 4), (0, 63), (0, 1319), (0, 6)], [(11, false)], [((-1), [(1, 1), (2, (-1))])], [(2, 0, 0, []), (0, 0, 0, [(1, 1)]), (0, 0, 0, [(2, 1)]), (0, 0, 0, [(3, 1)]), (0, 0, 0, [(4, 1)]), (0, 0, 0, [(5, 1)])], [], [], []), ((-100000000000), [(2, 25000000061), (5, (-40))]))] (253, []) 442 42 = true := by decide +kernel
theorem sn_232 {W : Bool} {X : List Int32} : y_Snd (mGw W) mLT1 (J2 W X) X cx_232 := y_ok J2_J mTS2_ok1 mTC2_ok1 mRUp_ok1 (List.forall_mem_cons.mpr ⟨sn_229, List.forall_mem_cons.mpr ⟨sn_231, fun _ h => absurd h List.not_mem_nil⟩⟩) ck_232
/-- Feeler.fill -/
def cx_233 : zCtx := (20, ([(0, 3072), (3, 6), (3, 3), (0, 63), (0, 218)], [(11, false)], [], [], [(2, 0, 0, []), (0, 0, 0, [(1, 1)]), (0, 0, 0, [(2, 1)]), (0, 0, 0, [(3, 1)]), (0, 0, 0, [(4, 1)])], [], []), [([(0, 3072), (3, 3), (3, 3), (0, 63), (0, 218)], [(11, false)], [(0, [(1, (-1)), (2, 1)])], [], [], [], []), ([(0, 3072), (4, 6), (3, 3), (0, 63), (0, 218)], [(11, false)], [((-1), [(1, 1), (2, (-1))])], [], [], [], [])], [(11, false, 9), (11, false, 10), (46, true, 0), (47, true, 0)], 1454, 4, 98)
set_option maxRecDepth 1000000 in
theorem ck_233 : x_ok mLT1 [cx_229, cx_232] mTS2 mTC2 mRUp cx_233 [(15, [0]), (74, [1])] [] [(22, ([(0, 3072), (4, 6), (3, 3), (0, 63), (0, 218), (0, 6)], [(11, false)], [((-1), [(1, 1), (2, (-1))])], [(2, 0, 0, []), (0, 0, 0, [(1, 1)]), (0, 0, 0, [(2, 1)]), (0, 0, 0, [(3, 1)]), (0, 0, 0, [(4, 1)]), (0, 0, 0, [(5, 1)])], [], [], []), ((-300000000000), [(2, 100000000244), (5, (-120))]))] (759, []) 695 42 = true := by decide +kernel
theorem sn_233 {W : Bool} {X : List Int32} : y_Snd (mGw W) mLT1 (J2 W X) X cx_233 := y_ok J2_J mTS2_ok1 mTC2_ok1 mRUp_ok1 (List.forall_mem_cons.mpr ⟨sn_229, List.forall_mem_cons.mpr ⟨sn_232, fun _ h => absurd h List.not_mem_nil⟩⟩) ck_233
/-- Feeler.fill -/
def cx_234 : zCtx := (20, ([(0, 3072), (2, 6), (2, 2), (0, 63), (0, 35)], [(11, false)], [], [], [(2, 0, 0, []), (0, 0, 0, [(1, 1)]), (0, 0, 0, [(2, 1)]), (0, 0, 0, [(3, 1)]), (0, 0, 0, [(4, 1)])], [], []), [([(0, 3072), (2, 2), (2, 2), (0, 63), (0, 35)], [(11, false)], [(0, [(1, (-1)), (2, 1)])], [], [], [], []), ([(0, 3072), (3, 6), (2, 2), (0, 63), (0, 35)], [(11, false)], [((-1), [(1, 1), (2, (-1))])], [], [], [], [])], [(11, false, 9), (11, false, 10), (46, true, 0), (47, true, 0)], 1707, 5, 123)
set_option maxRecDepth 1000000 in
theorem ck_234 : x_ok mLT1 [cx_229, cx_233] mTS2 mTC2 mRUp cx_234 [(15, [0]), (74, [1])] [] [(22, ([(0, 3072), (3, 6), (2, 2), (0, 63), (0, 35), (0, 6)], [(11, false)], [((-1), [(1, 1), (2, (-1))])], [(2, 0, 0, []), (0, 0, 0, [(1, 1)]), (0, 0, 0, [(2, 1)]), (0, 0, 0, [(3, 1)]), (0, 0, 0, [(4, 1)]), (0, 0, 0, [(5, 1)])], [], [], []), ((-100000000000), [(2, 50000000122), (5, (-40))]))] (253, []) 1454 42 = true := by decide +kernel
theorem sn_234 {W : Bool} {X : List Int32} : y_Snd (mGw W) mLT1 (J2 W X) X cx_234 := y_ok J2_J mTS2_ok1 mTC2_ok1 mRUp_ok1 (List.forall_mem_cons.mpr ⟨sn_229, List.forall_mem_cons.mpr ⟨sn_233, fun _ h => absurd h List.not_mem_nil⟩⟩) ck_234
/-- Feeler.fill -/
def cx_235 : zCtx := (20, ([(0, 3072), (1, 6), (1, 1), (0, 63), (0, 5)], [(11, false)], [], [], [(2, 0, 0, []), (0, 0, 0, [(1, 1)]), (0, 0, 0, [(2, 1)]), (0, 0, 0, [(3, 1)]), (0, 0, 0, [(4, 1)])], [], []), [([(0, 3072), (1, 1), (1, 1), (0, 63), (0, 5)], [(11, false)], [(0, [(1, (-1)), (2, 1)])], [], [], [], []), ([(0, 3072), (2, 6), (1, 1), (0, 63), (0, 5)], [(11, false)], [((-1), [(1, 1), (2, (-1))])], [], [], [], [])], [(11, false, 9), (11, false, 10), (46, true, 0), (47, true, 0)], 1960, 6, 148)
set_option maxRecDepth 1000000 in
theorem ck_235 : x_ok mLT1 [cx_229, cx_234] mTS2 mTC2 mRUp cx_235 [(15, [0]), (74, [1])] [] [(22, ([(0, 3072), (2, 6), (1, 1), (0, 63), (0, 5), (0, 6)], [(11, false)], [((-1), [(1, 1), (2, (-1))])], [(2, 0, 0, []), (0, 0, 0, [(1, 1)]), (0, 0, 0, [(2, 1)]), (0, 0, 0, [(3, 1)]), (0, 0, 0, [(4, 1)]), (0, 0, 0, [(5, 1)])], [], [], []), ((-99999999756), [(2, 100000000000), (5, (-40))]))] (253, []) 1707 42 = true := by decide +kernel
theorem sn_235 {W : Bool} {X : List Int32} : y_Snd (mGw W) mLT1 (J2 W X) X cx_235 := y_ok J2_J mTS2_ok1 mTC2_ok1 mRUp_ok1 (List.forall_mem_cons.mpr ⟨sn_229, List.forall_mem_cons.mpr ⟨sn_234, fun _ h => absurd h List.not_mem_nil⟩⟩) ck_235
/-- Feeler.fill -/
def cx_236 : zCtx := (20, ([(0, 3072), (1, 6), (0, 0), (0, 0), (0, 0)], [(11, false)], [], [], [(2, 0, 0, []), (0, 0, 0, [(1, 1)]), (0, 0, 0, [(2, 1)]), (0, 0, 0, [(3, 1)]), (0, 0, 0, [(4, 1)])], [], []), [([(0, 3072), (1, 6), (0, 0), (0, 0), (0, 0)], [(11, false)], [((-1), [(1, 1), (2, (-1))])], [], [], [], [])], [(11, false, 9), (11, false, 10), (46, true, 0), (47, true, 0)], 2213, 7, 173)
set_option maxRecDepth 1000000 in
theorem ck_236 : x_ok mLT1 [cx_235] mTS2 mTC2 mRUp cx_236 [(74, [0])] [] [(22, ([(0, 3072), (1, 6), (0, 0), (0, 0), (0, 0), (0, 6)], [(11, false)], [((-1), [(1, 1), (2, (-1))])], [(2, 0, 0, []), (0, 0, 0, [(1, 1)]), (0, 0, 0, [(2, 1)]), (0, 0, 0, [(3, 1)]), (0, 0, 0, [(4, 1)]), (0, 0, 0, [(5, 1)])], [], [], []), (244, [(2, (-100000000000)), (3, (-100000000000)), (4, (-100000000000)), (5, (-40))]))] (253, []) 1960 42 = true := by decide +kernel
theorem sn_236 {W : Bool} {X : List Int32} : y_Snd (mGw W) mLT1 (J2 W X) X cx_236 := y_ok J2_J mTS2_ok1 mTC2_ok1 mRUp_ok1 (List.forall_mem_cons.mpr ⟨sn_235, fun _ h => absurd h List.not_mem_nil⟩) ck_236
/-- Feeler.findRows -/
def cx_237 : zCtx := (17, ([(0, 3072), (0, 20), (1, 6), (0, 99), (0, 20)], [(11, false), (6, false)], [], [], [(2, 0, 0, []), (2, 1, 0, []), (0, 0, 0, [(1, 1)]), (0, 0, 0, [(2, 1)]), (0, 0, 0, [(3, 1)])], [(0, (false, 8, 0, []), 0, 0, 0, [(4, 1)])], []), [([(0, 3072), (0, 20), (1, 6), (0, 99), (0, 20)], [(11, false), (6, false)], [], [], [], [], [])], [(11, false, 7), (11, false, 9), (11, false, 10), (45, true, 0), (46, true, 0), (47, true, 0)], 2242, 8, 198)
set_option maxRecDepth 1000000 in
theorem ck_237 : x_ok mLT1 [cx_225, cx_226, cx_228, cx_236] mTS2 mTC2 mRUp cx_237 [(16, [0]), (27, [1]), (34, [2]), (45, [3])] [] [] (29, []) 2213 32 = true := by decide +kernel
theorem sn_237 {W : Bool} {X : List Int32} : y_Snd (mGw W) mLT1 (J2 W X) X cx_237 := y_ok J2_J mTS2_ok1 mTC2_ok1 mRUp_ok1 (List.forall_mem_cons.mpr ⟨sn_225, List.forall_mem_cons.mpr ⟨sn_226, List.forall_mem_cons.mpr ⟨sn_228, List.forall_mem_cons.mpr ⟨sn_236, fun _ h => absurd h List.not_mem_nil⟩⟩⟩⟩) ck_237
/-- HairRope.rows -/
def cx_238 : zCtx := (178, ([(0, 3072), ((-2147483648), 2147483647), ((-2147483648), 2147483647), ((-2147483648), 2147483647)], [(0, false)], [], [], [(2, 0, 0, []), (0, 0, 0, [(1, 1)]), (0, 0, 0, [(2, 1)]), (0, 0, 0, [(3, 1)])], [], []), [([(0, 3072), ((-2147483648), (-1)), ((-2147483648), 2147483647), ((-2147483648), 2147483647)], [(0, false)], [], [], [(0, 0, (-1), [])], [], []), ([(0, 3072), (1, 2147483647), ((-2147483648), 2147483647), ((-2147483648), 2147483647)], [(0, false)], [], [], [(0, 0, (-1), [])], [], []), ([(0, 3072), (0, 20), ((-2147483648), 0), ((-2147483648), 2147483647)], [(0, false)], [], [], [(0, 0, (-1), [])], [], []), ([(0, 3072), (0, 20), (7, 2147483647), ((-2147483648), 2147483647)], [(0, false)], [], [], [(0, 0, (-1), [])], [], []), ([(0, 3072), (0, 20), (1, 6), (2, 2147483647)], [(0, false)], [], [], [(0, 0, (-1), [])], [], []), ([(0, 3072), (0, 20), (1, 6), (0, 0), ((-2147483648), 2147483647)], [(0, false)], [], [], [(0, 0, 0, [(4, 1)])], [], []), ([(0, 3072), (0, 20), (1, 6), (1, 1), ((-2147483648), 2147483647)], [(0, false)], [], [], [(0, 0, 0, [(4, 1)])], [], []), ([(0, 3072), (0, 20), (1, 6), ((-2147483648), (-1))], [(0, false)], [], [], [(0, 0, (-1), [])], [], [])], [(11, false, 7), (11, false, 9), (11, false, 10), (45, true, 0), (46, true, 0), (47, true, 0)], 2269, 9, 222)
set_option maxRecDepth 1000000 in
theorem ck_238 : x_ok mLT1 [cx_223, cx_224, cx_237] mTS2 mTC2 mRUp cx_238 [(2, [0]), (9, [1]), (37, [2])] [] [] (27, []) 2242 30 = true := by decide +kernel
theorem sn_238 {W : Bool} {X : List Int32} : y_Snd (mGw W) mLT1 (J2 W X) X cx_238 := y_ok J2_J mTS2_ok1 mTC2_ok1 mRUp_ok1 (List.forall_mem_cons.mpr ⟨sn_223, List.forall_mem_cons.mpr ⟨sn_224, List.forall_mem_cons.mpr ⟨sn_237, fun _ h => absurd h List.not_mem_nil⟩⟩⟩) ck_238
/-- Feeler.bestPlace -/
def cx_239 : zCtx := (22, ([(0, 3072), (1, 6)], [(11, false)], [], [], [(2, 0, 0, []), (0, 0, 0, [(1, 1)])], [], []), [([(0, 3072), (1, 6), ((-2), 5)], [(11, false)], [], [], [(0, 0, 0, [(2, 1)])], [], [])], [], 210, 1, 64)
set_option maxRecDepth 1000000 in
theorem ck_239 : x_ok mLT1 [] mTS2 mTC2 mRUp cx_239 [] [] [(13, ([(0, 3072), (1, 6), ((-2), 5), ((-2147483648), 2147483647), (0, 6)], [(11, false)], [], [(2, 0, 0, []), (0, 0, 0, [(1, 1)]), (0, 0, 0, [(2, 1)]), (0, 0, 0, [(3, 1)]), (0, 0, 0, [(4, 1)]), (5, 0, 0, [])], [], [], []), (200, [(4, (-32))]))] (210, []) 0 34 = true := by decide +kernel
theorem sn_239 {W : Bool} {X : List Int32} : y_Snd (mGw W) mLT1 (J2 W X) X cx_239 := y_ok J2_J mTS2_ok1 mTC2_ok1 mRUp_ok1 (fun _ h => absurd h List.not_mem_nil) ck_239
/-- HairRope.feel -/
def cx_240 : zCtx := (181, ([(0, 3072), ((-2147483648), 2147483647), ((-2147483648), 2147483647), ((-2147483648), 2147483647)], [(0, false)], [], [], [(2, 0, 0, []), (0, 0, 0, [(1, 1)]), (0, 0, 0, [(2, 1)]), (0, 0, 0, [(3, 1)])], [], []), [([(0, 3072), ((-2147483648), (-1)), ((-2147483648), 2147483647), ((-2147483648), 2147483647)], [(0, false)], [], [], [(0, 0, (-1), [])], [], []), ([(0, 3072), (1, 2147483647), ((-2147483648), 2147483647), ((-2147483648), 2147483647)], [(0, false)], [], [], [(0, 0, (-1), [])], [], []), ([(0, 3072), (0, 20), ((-2147483648), 0), ((-2147483648), 2147483647)], [(0, false)], [], [], [(0, 0, (-1), [])], [], []), ([(0, 3072), (0, 20), (7, 2147483647), ((-2147483648), 2147483647)], [(0, false)], [], [], [(0, 0, (-1), [])], [], []), ([(0, 3072), (0, 20), (1, 6), ((-2147483648), (-1))], [(0, false)], [], [], [(0, 0, (-1), [])], [], []), ([(0, 3072), (0, 20), (1, 6), (100, 2147483647)], [(0, false)], [], [], [(0, 0, (-1), [])], [], []), ([(0, 3072), (0, 20), (1, 6), (0, 99), ((-2), 5)], [(0, false)], [], [], [(0, 0, 0, [(4, 1)])], [], [])], [(11, false, 7), (11, false, 9), (11, false, 10), (45, true, 0), (46, true, 0), (47, true, 0)], 2265, 9, 222)
set_option maxRecDepth 1000000 in
theorem ck_240 : x_ok mLT1 [cx_223, cx_224, cx_218, cx_237, cx_239] mTS2 mTC2 mRUp cx_240 [(2, [0]), (9, [1]), (16, [2]), (35, [3]), (43, [4])] [] [] (23, []) 2242 26 = true := by decide +kernel
theorem sn_240 {W : Bool} {X : List Int32} : y_Snd (mGw W) mLT1 (J2 W X) X cx_240 := y_ok J2_J mTS2_ok1 mTC2_ok1 mRUp_ok1 (List.forall_mem_cons.mpr ⟨sn_223, List.forall_mem_cons.mpr ⟨sn_224, List.forall_mem_cons.mpr ⟨sn_218, List.forall_mem_cons.mpr ⟨sn_237, List.forall_mem_cons.mpr ⟨sn_239, fun _ h => absurd h List.not_mem_nil⟩⟩⟩⟩⟩) ck_240
/-- HairRope.isSlot -/
def cx_241 : zCtx := (183, ([(0, 3072), ((-2147483648), 2147483647)], [], [], [], [(0, 0, 0, [(1, 1)])], [], []), [([(0, 3072), (0, 2)], [], [], [], [(0, 0, 1, [])], [], []), ([(0, 3072), (3, 2147483647)], [], [], [], [(0, 0, 0, [])], [], []), ([(0, 3072), ((-2147483648), (-1))], [], [], [], [(0, 0, 0, [])], [], [])], [], 8, 0, 0)
set_option maxRecDepth 1000000 in
theorem ck_241 : x_ok mLT1 [] mTS2 mTC2 mRUp cx_241 [] [] [] (8, []) 0 11 = true := by decide +kernel
theorem sn_241 {W : Bool} {X : List Int32} : y_Snd (mGw W) mLT1 (J2 W X) X cx_241 := y_ok J2_J mTS2_ok1 mTC2_ok1 mRUp_ok1 (fun _ h => absurd h List.not_mem_nil) ck_241
/-- HairRope.hold -/
def cx_242 : zCtx := (182, ([(0, 3072), (3, 2147483647), (0, 7)], [(0, false), (7, false)], [], [], [(2, 0, 0, []), (0, 0, 0, [(1, 1)])], [(0, (false, 4, 0, []), 2, 1, 0, []), (1, (false, 4, 0, []), 0, 0, 0, [(2, 1)])], []), [([(0, 3072), (3, 2147483647), (0, 7)], [(0, false), (7, false)], [], [], [(0, 0, 0, [])], [(1, (false, 4, 0, []), 0, 0, 0, [(2, 1)])], [])], [], 13, 1, 20)
set_option maxRecDepth 1000000 in
theorem ck_242 : x_ok mLT1 [cx_241] mTS2 mTC2 mRUp cx_242 [(1, [0])] [] [] (5, []) 8 8 = true := by decide +kernel
theorem sn_242 {W : Bool} {X : List Int32} : y_Snd (mGw W) mLT1 (J2 W X) X cx_242 := y_ok J2_J mTS2_ok1 mTC2_ok1 mRUp_ok1 (List.forall_mem_cons.mpr ⟨sn_241, fun _ h => absurd h List.not_mem_nil⟩) ck_242
/-- History.slotAt -/
def cx_243 : zCtx := (44, ([(0, 3072)], [(7, false)], [], [], [(2, 0, 0, []), (0, 0, 0, [])], [], []), [([(0, 3072)], [(7, false), (6, false)], [], [], [(2, 1, 0, [])], [], [])], [], 11, 0, 0)
set_option maxRecDepth 1000000 in
theorem ck_243 : x_ok mLT1 [] mTS2 mTC2 mRUp cx_243 [] [] [] (11, []) 0 14 = true := by decide +kernel
theorem sn_243 {W : Bool} {X : List Int32} : y_Snd (mGw W) mLT1 (J2 W X) X cx_243 := y_ok J2_J mTS2_ok1 mTC2_ok1 mRUp_ok1 (fun _ h => absurd h List.not_mem_nil) ck_243
/-- History.fillSlot -/
def cx_244 : zCtx := (43, ([(0, 3072), (0, 7)], [(7, false), (6, false)], [], [], [(2, 0, 0, []), (0, 0, 0, []), (2, 1, 0, [])], [(0, (false, 4, 0, []), 0, 0, 0, [(1, 1)])], []), [([(0, 3072), (0, 7), ((-2147483648), 2147483647)], [(7, false), (6, false)], [], [], [(0, 0, 1, [])], [(0, (false, 4, 0, []), 0, 0, 0, [(2, 1)])], [(102, [(0, [(1, 1)]), (1, []), (0, [(2, 1)])])])], [(6, false, 5), (6, false, 6), (6, false, 7), (6, false, 8), (7, false, 4), (27, true, 0), (28, true, 0), (29, true, 0), (30, true, 0), (31, true, 0)], 76, 2, 85)
set_option maxRecDepth 1000000 in
theorem ck_244 : x_ok mLT1 [cx_243, cx_141] mTS2 mTC2 mRUp cx_244 [(2, [0]), (14, [1])] [(25, [1000429])] [] (19, []) 57 22 = true := by decide +kernel
theorem sn_244 {W : Bool} {X : List Int32} : y_Snd (mGw W) mLT1 (J2 W X) X cx_244 := y_ok J2_J mTS2_ok1 mTC2_ok1 mRUp_ok1 (List.forall_mem_cons.mpr ⟨sn_243, List.forall_mem_cons.mpr ⟨sn_141, fun _ h => absurd h List.not_mem_nil⟩⟩) ck_244
/-- HairRope.hold -/
def cx_245 : zCtx := (182, ([(0, 3072), (0, 7)], [(0, false), (7, false)], [], [], [(2, 0, 0, []), (0, 0, 0, [])], [(0, (false, 4, 0, []), 2, 1, 0, []), (1, (false, 4, 0, []), 0, 0, 0, [(1, 1)])], []), [([(0, 3072), (0, 7), ((-2147483648), 2147483647)], [(0, false), (7, false)], [], [], [(0, 0, 1, [])], [(1, (false, 4, 0, []), 0, 0, 0, [(2, 1)])], [(102, [(0, [(1, 1)]), (1, []), (0, [(2, 1)])])])], [(6, false, 5), (6, false, 6), (6, false, 7), (6, false, 8), (7, false, 4), (27, true, 0), (28, true, 0), (29, true, 0), (30, true, 0), (31, true, 0)], 89, 3, 108)
set_option maxRecDepth 1000000 in
theorem ck_245 : x_ok mLT1 [cx_241, cx_244] mTS2 mTC2 mRUp cx_245 [(1, [0]), (16, [1])] [] [] (13, []) 76 16 = true := by decide +kernel
theorem sn_245 {W : Bool} {X : List Int32} : y_Snd (mGw W) mLT1 (J2 W X) X cx_245 := y_ok J2_J mTS2_ok1 mTC2_ok1 mRUp_ok1 (List.forall_mem_cons.mpr ⟨sn_241, List.forall_mem_cons.mpr ⟨sn_244, fun _ h => absurd h List.not_mem_nil⟩⟩) ck_245
/-- History.slotAt -/
def cx_246 : zCtx := (44, ([(0, 3072)], [(7, false)], [], [], [(2, 0, 0, []), (0, 0, 1, [])], [], []), [([(0, 3072)], [(7, false), (6, false)], [], [], [(2, 1, 0, [])], [], [])], [], 11, 0, 0)
set_option maxRecDepth 1000000 in
theorem ck_246 : x_ok mLT1 [] mTS2 mTC2 mRUp cx_246 [] [] [] (11, []) 0 14 = true := by decide +kernel
theorem sn_246 {W : Bool} {X : List Int32} : y_Snd (mGw W) mLT1 (J2 W X) X cx_246 := y_ok J2_J mTS2_ok1 mTC2_ok1 mRUp_ok1 (fun _ h => absurd h List.not_mem_nil) ck_246
/-- History.fillSlot -/
def cx_247 : zCtx := (43, ([(0, 3072), (0, 7)], [(7, false), (6, false)], [], [], [(2, 0, 0, []), (0, 0, 1, []), (2, 1, 0, [])], [(0, (false, 4, 0, []), 0, 0, 0, [(1, 1)])], []), [([(0, 3072), (0, 7), ((-2147483648), 2147483647)], [(7, false), (6, false)], [], [], [(0, 0, 1, [])], [(0, (false, 4, 0, []), 0, 0, 0, [(2, 1)])], [(102, [(0, [(1, 1)]), (2, []), (0, [(2, 1)])])])], [(6, false, 5), (6, false, 6), (6, false, 7), (6, false, 8), (7, false, 4), (27, true, 0), (28, true, 0), (29, true, 0), (30, true, 0), (31, true, 0)], 76, 2, 85)
set_option maxRecDepth 1000000 in
theorem ck_247 : x_ok mLT1 [cx_246, cx_141] mTS2 mTC2 mRUp cx_247 [(2, [0]), (14, [1])] [(25, [1000429])] [] (19, []) 57 22 = true := by decide +kernel
theorem sn_247 {W : Bool} {X : List Int32} : y_Snd (mGw W) mLT1 (J2 W X) X cx_247 := y_ok J2_J mTS2_ok1 mTC2_ok1 mRUp_ok1 (List.forall_mem_cons.mpr ⟨sn_246, List.forall_mem_cons.mpr ⟨sn_141, fun _ h => absurd h List.not_mem_nil⟩⟩) ck_247
/-- HairRope.hold -/
def cx_248 : zCtx := (182, ([(0, 3072), (0, 7)], [(0, false), (7, false)], [], [], [(2, 0, 0, []), (0, 0, 1, [])], [(0, (false, 4, 0, []), 2, 1, 0, []), (1, (false, 4, 0, []), 0, 0, 0, [(1, 1)])], []), [([(0, 3072), (0, 7), ((-2147483648), 2147483647)], [(0, false), (7, false)], [], [], [(0, 0, 1, [])], [(1, (false, 4, 0, []), 0, 0, 0, [(2, 1)])], [(102, [(0, [(1, 1)]), (2, []), (0, [(2, 1)])])])], [(6, false, 5), (6, false, 6), (6, false, 7), (6, false, 8), (7, false, 4), (27, true, 0), (28, true, 0), (29, true, 0), (30, true, 0), (31, true, 0)], 89, 3, 108)
set_option maxRecDepth 1000000 in
theorem ck_248 : x_ok mLT1 [cx_241, cx_247] mTS2 mTC2 mRUp cx_248 [(1, [0]), (16, [1])] [] [] (13, []) 76 16 = true := by decide +kernel
theorem sn_248 {W : Bool} {X : List Int32} : y_Snd (mGw W) mLT1 (J2 W X) X cx_248 := y_ok J2_J mTS2_ok1 mTC2_ok1 mRUp_ok1 (List.forall_mem_cons.mpr ⟨sn_241, List.forall_mem_cons.mpr ⟨sn_247, fun _ h => absurd h List.not_mem_nil⟩⟩) ck_248
/-- History.slotAt -/
def cx_249 : zCtx := (44, ([(0, 3072)], [(7, false)], [], [], [(2, 0, 0, []), (0, 0, 2, [])], [], []), [([(0, 3072)], [(7, false), (6, false)], [], [], [(2, 1, 0, [])], [], [])], [], 11, 0, 0)
set_option maxRecDepth 1000000 in
theorem ck_249 : x_ok mLT1 [] mTS2 mTC2 mRUp cx_249 [] [] [] (11, []) 0 14 = true := by decide +kernel
theorem sn_249 {W : Bool} {X : List Int32} : y_Snd (mGw W) mLT1 (J2 W X) X cx_249 := y_ok J2_J mTS2_ok1 mTC2_ok1 mRUp_ok1 (fun _ h => absurd h List.not_mem_nil) ck_249
/-- History.fillSlot -/
def cx_250 : zCtx := (43, ([(0, 3072), (0, 7)], [(7, false), (6, false)], [], [], [(2, 0, 0, []), (0, 0, 2, []), (2, 1, 0, [])], [(0, (false, 4, 0, []), 0, 0, 0, [(1, 1)])], []), [([(0, 3072), (0, 7), ((-2147483648), 2147483647)], [(7, false), (6, false)], [], [], [(0, 0, 1, [])], [(0, (false, 4, 0, []), 0, 0, 0, [(2, 1)])], [(102, [(0, [(1, 1)]), (4, []), (0, [(2, 1)])])])], [(6, false, 5), (6, false, 6), (6, false, 7), (6, false, 8), (7, false, 4), (27, true, 0), (28, true, 0), (29, true, 0), (30, true, 0), (31, true, 0)], 76, 2, 85)
set_option maxRecDepth 1000000 in
theorem ck_250 : x_ok mLT1 [cx_249, cx_141] mTS2 mTC2 mRUp cx_250 [(2, [0]), (14, [1])] [(25, [1000429])] [] (19, []) 57 22 = true := by decide +kernel
theorem sn_250 {W : Bool} {X : List Int32} : y_Snd (mGw W) mLT1 (J2 W X) X cx_250 := y_ok J2_J mTS2_ok1 mTC2_ok1 mRUp_ok1 (List.forall_mem_cons.mpr ⟨sn_249, List.forall_mem_cons.mpr ⟨sn_141, fun _ h => absurd h List.not_mem_nil⟩⟩) ck_250
/-- HairRope.hold -/
def cx_251 : zCtx := (182, ([(0, 3072), (0, 7)], [(0, false), (7, false)], [], [], [(2, 0, 0, []), (0, 0, 2, [])], [(0, (false, 4, 0, []), 2, 1, 0, []), (1, (false, 4, 0, []), 0, 0, 0, [(1, 1)])], []), [([(0, 3072), (0, 7), ((-2147483648), 2147483647)], [(0, false), (7, false)], [], [], [(0, 0, 1, [])], [(1, (false, 4, 0, []), 0, 0, 0, [(2, 1)])], [(102, [(0, [(1, 1)]), (4, []), (0, [(2, 1)])])])], [(6, false, 5), (6, false, 6), (6, false, 7), (6, false, 8), (7, false, 4), (27, true, 0), (28, true, 0), (29, true, 0), (30, true, 0), (31, true, 0)], 89, 3, 108)
set_option maxRecDepth 1000000 in
theorem ck_251 : x_ok mLT1 [cx_241, cx_250] mTS2 mTC2 mRUp cx_251 [(1, [0]), (16, [1])] [] [] (13, []) 76 16 = true := by decide +kernel
theorem sn_251 {W : Bool} {X : List Int32} : y_Snd (mGw W) mLT1 (J2 W X) X cx_251 := y_ok J2_J mTS2_ok1 mTC2_ok1 mRUp_ok1 (List.forall_mem_cons.mpr ⟨sn_241, List.forall_mem_cons.mpr ⟨sn_250, fun _ h => absurd h List.not_mem_nil⟩⟩) ck_251
/-- HairRope.hold -/
def cx_252 : zCtx := (182, ([(0, 3072), ((-2147483648), (-1)), (0, 7)], [(0, false), (7, false)], [], [], [(2, 0, 0, []), (0, 0, 0, [(1, 1)])], [(0, (false, 4, 0, []), 2, 1, 0, []), (1, (false, 4, 0, []), 0, 0, 0, [(2, 1)])], []), [([(0, 3072), ((-2147483648), (-1)), (0, 7)], [(0, false), (7, false)], [], [], [(0, 0, 0, [])], [(1, (false, 4, 0, []), 0, 0, 0, [(2, 1)])], [])], [], 13, 1, 20)
set_option maxRecDepth 1000000 in
theorem ck_252 : x_ok mLT1 [cx_241] mTS2 mTC2 mRUp cx_252 [(1, [0])] [] [] (5, []) 8 8 = true := by decide +kernel
theorem sn_252 {W : Bool} {X : List Int32} : y_Snd (mGw W) mLT1 (J2 W X) X cx_252 := y_ok J2_J mTS2_ok1 mTC2_ok1 mRUp_ok1 (List.forall_mem_cons.mpr ⟨sn_241, fun _ h => absurd h List.not_mem_nil⟩) ck_252
/-- HairRope.restore -/
def cx_253 : zCtx := (184, ([(0, 3072), (3, 2147483647), (0, 7)], [(0, false), (7, false)], [], [], [(2, 0, 0, []), (0, 0, 0, [(1, 1)])], [(0, (false, 4, 0, []), 2, 1, 0, []), (1, (false, 4, 0, []), 0, 0, 0, [(2, 1)])], []), [([(0, 3072), (3, 2147483647), (0, 7)], [(0, false), (7, false)], [], [], [(0, 0, 0, [])], [], [])], [], 13, 1, 20)
set_option maxRecDepth 1000000 in
theorem ck_253 : x_ok mLT1 [cx_241] mTS2 mTC2 mRUp cx_253 [(1, [0])] [] [] (5, []) 8 8 = true := by decide +kernel
theorem sn_253 {W : Bool} {X : List Int32} : y_Snd (mGw W) mLT1 (J2 W X) X cx_253 := y_ok J2_J mTS2_ok1 mTC2_ok1 mRUp_ok1 (List.forall_mem_cons.mpr ⟨sn_241, fun _ h => absurd h List.not_mem_nil⟩) ck_253
/-- History.takeSlot -/
def cx_254 : zCtx := (45, ([(0, 3072), (0, 40), (0, 7)], [(7, false), (6, false)], [], [], [(2, 0, 0, []), (0, 0, 0, []), (2, 1, 0, [])], [(0, (false, 3, 0, []), 0, 0, 0, [(1, 1)]), (0, (false, 4, 0, []), 0, 0, 0, [(2, 1)])], []), [([(0, 3072), (0, 40), (0, 7)], [(7, false), (6, false)], [], [], [(0, 0, 0, [])], [], [(101, [(0, [(2, 1)]), (1, []), (0, [])])]), ([(0, 3072), (0, 40), (0, 7), (1, 2147483647)], [(7, false), (6, false)], [], [], [(0, 0, 1, [])], [], [(101, [(0, [(2, 1)]), (1, []), (0, [(3, 1)])])])], [(6, false, 5), (6, false, 6), (6, false, 7), (6, false, 8), (7, false, 3), (27, true, 0), (28, true, 0), (29, true, 0), (30, true, 0), (31, true, 0)], 78, 2, 85)
set_option maxRecDepth 1000000 in
theorem ck_254 : x_ok mLT1 [cx_243, cx_141] mTS2 mTC2 mRUp cx_254 [(2, [0]), (25, [1])] [(17, [1000430]), (18, [1000431, 1000432, 1000433])] [] (21, []) 57 24 = true := by decide +kernel
theorem sn_254 {W : Bool} {X : List Int32} : y_Snd (mGw W) mLT1 (J2 W X) X cx_254 := y_ok J2_J mTS2_ok1 mTC2_ok1 mRUp_ok1 (List.forall_mem_cons.mpr ⟨sn_243, List.forall_mem_cons.mpr ⟨sn_141, fun _ h => absurd h List.not_mem_nil⟩⟩) ck_254
/-- HairRope.restore -/
def cx_255 : zCtx := (184, ([(0, 3072), (0, 7)], [(0, false), (7, false)], [], [], [(2, 0, 0, []), (0, 0, 0, [])], [(0, (false, 4, 0, []), 2, 1, 0, []), (1, (false, 4, 0, []), 0, 0, 0, [(1, 1)])], []), [([(0, 3072), (0, 7), (1, 2147483647)], [(0, false), (7, false)], [], [], [(0, 0, 1, [])], [], [(101, [(0, [(1, 1)]), (1, []), (0, [(2, 1)])])]), ([(0, 3072), (0, 7)], [(0, false), (7, false)], [], [], [(0, 0, 0, [])], [], [(101, [(0, [(1, 1)]), (1, []), (0, [])])])], [(6, false, 5), (6, false, 6), (6, false, 7), (6, false, 8), (7, false, 3), (27, true, 0), (28, true, 0), (29, true, 0), (30, true, 0), (31, true, 0)], 91, 3, 108)
set_option maxRecDepth 1000000 in
theorem ck_255 : x_ok mLT1 [cx_241, cx_254] mTS2 mTC2 mRUp cx_255 [(1, [0]), (16, [1])] [] [] (13, []) 78 16 = true := by decide +kernel
theorem sn_255 {W : Bool} {X : List Int32} : y_Snd (mGw W) mLT1 (J2 W X) X cx_255 := y_ok J2_J mTS2_ok1 mTC2_ok1 mRUp_ok1 (List.forall_mem_cons.mpr ⟨sn_241, List.forall_mem_cons.mpr ⟨sn_254, fun _ h => absurd h List.not_mem_nil⟩⟩) ck_255
/-- History.takeSlot -/
def cx_256 : zCtx := (45, ([(0, 3072), (0, 40), (0, 7)], [(7, false), (6, false)], [], [], [(2, 0, 0, []), (0, 0, 1, []), (2, 1, 0, [])], [(0, (false, 3, 0, []), 0, 0, 0, [(1, 1)]), (0, (false, 4, 0, []), 0, 0, 0, [(2, 1)])], []), [([(0, 3072), (0, 40), (0, 7)], [(7, false), (6, false)], [], [], [(0, 0, 0, [])], [], [(101, [(0, [(2, 1)]), (2, []), (0, [])])]), ([(0, 3072), (0, 40), (0, 7), (1, 2147483647)], [(7, false), (6, false)], [], [], [(0, 0, 1, [])], [], [(101, [(0, [(2, 1)]), (2, []), (0, [(3, 1)])])])], [(6, false, 5), (6, false, 6), (6, false, 7), (6, false, 8), (7, false, 3), (27, true, 0), (28, true, 0), (29, true, 0), (30, true, 0), (31, true, 0)], 78, 2, 85)
set_option maxRecDepth 1000000 in
theorem ck_256 : x_ok mLT1 [cx_246, cx_141] mTS2 mTC2 mRUp cx_256 [(2, [0]), (25, [1])] [(17, [1000430]), (18, [1000431, 1000432, 1000433])] [] (21, []) 57 24 = true := by decide +kernel
theorem sn_256 {W : Bool} {X : List Int32} : y_Snd (mGw W) mLT1 (J2 W X) X cx_256 := y_ok J2_J mTS2_ok1 mTC2_ok1 mRUp_ok1 (List.forall_mem_cons.mpr ⟨sn_246, List.forall_mem_cons.mpr ⟨sn_141, fun _ h => absurd h List.not_mem_nil⟩⟩) ck_256
/-- HairRope.restore -/
def cx_257 : zCtx := (184, ([(0, 3072), (0, 7)], [(0, false), (7, false)], [], [], [(2, 0, 0, []), (0, 0, 1, [])], [(0, (false, 4, 0, []), 2, 1, 0, []), (1, (false, 4, 0, []), 0, 0, 0, [(1, 1)])], []), [([(0, 3072), (0, 7), (1, 2147483647)], [(0, false), (7, false)], [], [], [(0, 0, 1, [])], [], [(101, [(0, [(1, 1)]), (2, []), (0, [(2, 1)])])]), ([(0, 3072), (0, 7)], [(0, false), (7, false)], [], [], [(0, 0, 0, [])], [], [(101, [(0, [(1, 1)]), (2, []), (0, [])])])], [(6, false, 5), (6, false, 6), (6, false, 7), (6, false, 8), (7, false, 3), (27, true, 0), (28, true, 0), (29, true, 0), (30, true, 0), (31, true, 0)], 91, 3, 108)
set_option maxRecDepth 1000000 in
theorem ck_257 : x_ok mLT1 [cx_241, cx_256] mTS2 mTC2 mRUp cx_257 [(1, [0]), (16, [1])] [] [] (13, []) 78 16 = true := by decide +kernel
theorem sn_257 {W : Bool} {X : List Int32} : y_Snd (mGw W) mLT1 (J2 W X) X cx_257 := y_ok J2_J mTS2_ok1 mTC2_ok1 mRUp_ok1 (List.forall_mem_cons.mpr ⟨sn_241, List.forall_mem_cons.mpr ⟨sn_256, fun _ h => absurd h List.not_mem_nil⟩⟩) ck_257
/-- History.takeSlot -/
def cx_258 : zCtx := (45, ([(0, 3072), (0, 40), (0, 7)], [(7, false), (6, false)], [], [], [(2, 0, 0, []), (0, 0, 2, []), (2, 1, 0, [])], [(0, (false, 3, 0, []), 0, 0, 0, [(1, 1)]), (0, (false, 4, 0, []), 0, 0, 0, [(2, 1)])], []), [([(0, 3072), (0, 40), (0, 7)], [(7, false), (6, false)], [], [], [(0, 0, 0, [])], [], [(101, [(0, [(2, 1)]), (4, []), (0, [])])]), ([(0, 3072), (0, 40), (0, 7), (1, 2147483647)], [(7, false), (6, false)], [], [], [(0, 0, 1, [])], [], [(101, [(0, [(2, 1)]), (4, []), (0, [(3, 1)])])])], [(6, false, 5), (6, false, 6), (6, false, 7), (6, false, 8), (7, false, 3), (27, true, 0), (28, true, 0), (29, true, 0), (30, true, 0), (31, true, 0)], 78, 2, 85)
set_option maxRecDepth 1000000 in
theorem ck_258 : x_ok mLT1 [cx_249, cx_141] mTS2 mTC2 mRUp cx_258 [(2, [0]), (25, [1])] [(17, [1000430]), (18, [1000431, 1000432, 1000433])] [] (21, []) 57 24 = true := by decide +kernel
theorem sn_258 {W : Bool} {X : List Int32} : y_Snd (mGw W) mLT1 (J2 W X) X cx_258 := y_ok J2_J mTS2_ok1 mTC2_ok1 mRUp_ok1 (List.forall_mem_cons.mpr ⟨sn_249, List.forall_mem_cons.mpr ⟨sn_141, fun _ h => absurd h List.not_mem_nil⟩⟩) ck_258
/-- HairRope.restore -/
def cx_259 : zCtx := (184, ([(0, 3072), (0, 7)], [(0, false), (7, false)], [], [], [(2, 0, 0, []), (0, 0, 2, [])], [(0, (false, 4, 0, []), 2, 1, 0, []), (1, (false, 4, 0, []), 0, 0, 0, [(1, 1)])], []), [([(0, 3072), (0, 7), (1, 2147483647)], [(0, false), (7, false)], [], [], [(0, 0, 1, [])], [], [(101, [(0, [(1, 1)]), (4, []), (0, [(2, 1)])])]), ([(0, 3072), (0, 7)], [(0, false), (7, false)], [], [], [(0, 0, 0, [])], [], [(101, [(0, [(1, 1)]), (4, []), (0, [])])])], [(6, false, 5), (6, false, 6), (6, false, 7), (6, false, 8), (7, false, 3), (27, true, 0), (28, true, 0), (29, true, 0), (30, true, 0), (31, true, 0)], 91, 3, 108)
set_option maxRecDepth 1000000 in
theorem ck_259 : x_ok mLT1 [cx_241, cx_258] mTS2 mTC2 mRUp cx_259 [(1, [0]), (16, [1])] [] [] (13, []) 78 16 = true := by decide +kernel
theorem sn_259 {W : Bool} {X : List Int32} : y_Snd (mGw W) mLT1 (J2 W X) X cx_259 := y_ok J2_J mTS2_ok1 mTC2_ok1 mRUp_ok1 (List.forall_mem_cons.mpr ⟨sn_241, List.forall_mem_cons.mpr ⟨sn_258, fun _ h => absurd h List.not_mem_nil⟩⟩) ck_259
/-- HairRope.restore -/
def cx_260 : zCtx := (184, ([(0, 3072), ((-2147483648), (-1)), (0, 7)], [(0, false), (7, false)], [], [], [(2, 0, 0, []), (0, 0, 0, [(1, 1)])], [(0, (false, 4, 0, []), 2, 1, 0, []), (1, (false, 4, 0, []), 0, 0, 0, [(2, 1)])], []), [([(0, 3072), ((-2147483648), (-1)), (0, 7)], [(0, false), (7, false)], [], [], [(0, 0, 0, [])], [], [])], [], 13, 1, 20)
set_option maxRecDepth 1000000 in
theorem ck_260 : x_ok mLT1 [cx_241] mTS2 mTC2 mRUp cx_260 [(1, [0])] [] [] (5, []) 8 8 = true := by decide +kernel
theorem sn_260 {W : Bool} {X : List Int32} : y_Snd (mGw W) mLT1 (J2 W X) X cx_260 := y_ok J2_J mTS2_ok1 mTC2_ok1 mRUp_ok1 (List.forall_mem_cons.mpr ⟨sn_241, fun _ h => absurd h List.not_mem_nil⟩) ck_260
/-- State.sumOfHair -/
def cx_261 : zCtx := (108, ([(0, 3072), (0, 6)], [(6, false)], [], [], [(2, 0, 0, [])], [(0, (false, 5, 0, []), 0, 0, 0, [(1, 1)])], []), [([(0, 3072), (0, 6), ((-2147483648), 2147483647)], [(6, false)], [], [], [(0, 0, 0, [(2, 1)])], [], [])], [], 113, 0, 0)
set_option maxRecDepth 1000000 in
theorem ck_261 : x_ok mLT1 [] mTS2 mTC2 mRUp cx_261 [] [] [(4, ([(0, 3072), (0, 6), ((-2147483648), 2147483647), (0, 6)], [(6, false)], [], [(2, 0, 0, []), (0, 0, 0, [(2, 1)]), (0, 0, 0, [(3, 1)])], [], [(0, (false, 5, 0, []), 0, 0, 0, [(1, 1)])], []), (108, [(3, (-17))]))] (113, []) 0 19 = true := by decide +kernel
theorem sn_261 {W : Bool} {X : List Int32} : y_Snd (mGw W) mLT1 (J2 W X) X cx_261 := y_ok J2_J mTS2_ok1 mTC2_ok1 mRUp_ok1 (fun _ h => absurd h List.not_mem_nil) ck_261
/-- State.housesInRope -/
def cx_262 : zCtx := (109, ([(0, 3072), (0, 6)], [(6, false)], [], [], [(2, 0, 0, [])], [(0, (false, 6, 0, []), 0, 0, 0, [(1, 1)])], []), [([(0, 3072), (0, 6), ((-2147483648), 2147483647)], [(6, false)], [], [], [(0, 0, 0, [(2, 1)])], [], [])], [], 125, 0, 0)
set_option maxRecDepth 1000000 in
theorem ck_262 : x_ok mLT1 [] mTS2 mTC2 mRUp cx_262 [] [] [(4, ([(0, 3072), (0, 6), ((-2147483648), 2147483647), (0, 6)], [(6, false)], [], [(2, 0, 0, []), (0, 0, 0, [(2, 1)]), (0, 0, 0, [(3, 1)])], [], [(0, (false, 6, 0, []), 0, 0, 0, [(1, 1)])], []), (120, [(3, (-19))]))] (125, []) 0 21 = true := by decide +kernel
theorem sn_262 {W : Bool} {X : List Int32} : y_Snd (mGw W) mLT1 (J2 W X) X cx_262 := y_ok J2_J mTS2_ok1 mTC2_ok1 mRUp_ok1 (fun _ h => absurd h List.not_mem_nil) ck_262
/-- State.sumOfGiven -/
def cx_263 : zCtx := (110, ([(0, 3072), (0, 6)], [(6, false)], [], [], [(2, 0, 0, [])], [(0, (false, 5, 0, []), 0, 0, 0, [(1, 1)])], []), [([(0, 3072), (0, 6), ((-2147483648), 2147483647)], [(6, false)], [], [], [(0, 0, 0, [(2, 1)])], [], [])], [], 113, 0, 0)
set_option maxRecDepth 1000000 in
theorem ck_263 : x_ok mLT1 [] mTS2 mTC2 mRUp cx_263 [] [] [(4, ([(0, 3072), (0, 6), ((-2147483648), 2147483647), (0, 6)], [(6, false)], [], [(2, 0, 0, []), (0, 0, 0, [(2, 1)]), (0, 0, 0, [(3, 1)])], [], [(0, (false, 5, 0, []), 0, 0, 0, [(1, 1)])], []), (108, [(3, (-17))]))] (113, []) 0 19 = true := by decide +kernel
theorem sn_263 {W : Bool} {X : List Int32} : y_Snd (mGw W) mLT1 (J2 W X) X cx_263 := y_ok J2_J mTS2_ok1 mTC2_ok1 mRUp_ok1 (fun _ h => absurd h List.not_mem_nil) ck_263
/-- State.housesWithoutHair -/
def cx_264 : zCtx := (111, ([(0, 3072), (0, 6)], [(6, false)], [], [], [(2, 0, 0, [])], [(0, (false, 5, 0, []), 0, 0, 0, [(1, 1)])], []), [([(0, 3072), (0, 6), (0, 63)], [(6, false)], [], [], [(0, 0, 0, [(2, 1)])], [], [])], [], 137, 0, 0)
set_option maxRecDepth 1000000 in
theorem ck_264 : x_ok mLT1 [] mTS2 mTC2 mRUp cx_264 [] [] [(4, ([(0, 3072), (0, 6), (0, 63), (0, 6)], [(6, false)], [], [(2, 0, 0, []), (0, 0, 0, [(2, 1)]), (0, 0, 0, [(3, 1)])], [], [(0, (false, 5, 0, []), 0, 0, 0, [(1, 1)])], []), (132, [(3, (-21))]))] (137, []) 0 23 = true := by decide +kernel
theorem sn_264 {W : Bool} {X : List Int32} : y_Snd (mGw W) mLT1 (J2 W X) X cx_264 := y_ok J2_J mTS2_ok1 mTC2_ok1 mRUp_ok1 (fun _ h => absurd h List.not_mem_nil) ck_264
/-- State.sumOfStrength -/
def cx_265 : zCtx := (112, ([(0, 3072), (0, 6)], [(6, false)], [], [], [(2, 0, 0, [])], [(0, (false, 6, 0, []), 0, 0, 0, [(1, 1)])], []), [([(0, 3072), (0, 6), ((-2147483648), 2147483647)], [(6, false)], [], [], [(0, 0, 0, [(2, 1)])], [], [])], [], 113, 0, 0)
set_option maxRecDepth 1000000 in
theorem ck_265 : x_ok mLT1 [] mTS2 mTC2 mRUp cx_265 [] [] [(4, ([(0, 3072), (0, 6), ((-2147483648), 2147483647), (0, 6)], [(6, false)], [], [(2, 0, 0, []), (0, 0, 0, [(2, 1)]), (0, 0, 0, [(3, 1)])], [], [(0, (false, 6, 0, []), 0, 0, 0, [(1, 1)])], []), (108, [(3, (-17))]))] (113, []) 0 19 = true := by decide +kernel
theorem sn_265 {W : Bool} {X : List Int32} : y_Snd (mGw W) mLT1 (J2 W X) X cx_265 := y_ok J2_J mTS2_ok1 mTC2_ok1 mRUp_ok1 (fun _ h => absurd h List.not_mem_nil) ck_265
/-- HairRope.count -/
def cx_266 : zCtx := (185, ([(0, 3072), ((-2147483648), 2147483647)], [(0, false)], [], [], [(2, 0, 0, []), (0, 0, 0, [(1, 1)])], [], []), [([(0, 3072), (0, 16), ((-2147483648), 2147483647)], [(0, false)], [], [], [(0, 0, 0, [(2, 1)])], [], []), ([(0, 3072), (12, 12)], [(0, false)], [], [], [(0, 0, 1, [])], [], []), ([(0, 3072), (12, 12)], [(0, false)], [], [], [(0, 0, 0, [])], [], []), ([(0, 3072), ((-2147483648), 2147483647)], [(0, false)], [], [], [(0, 0, (-1), [])], [], [])], [], 150, 3, 107)
set_option maxRecDepth 1000000 in
theorem ck_266 : x_ok mLT1 [cx_145, cx_261, cx_262, cx_170, cx_263, cx_264, cx_265] mTS2 mTC2 mRUp cx_266 [(126, [0]), (142, [1]), (150, [2]), (185, [3]), (193, [0]), (230, [4]), (238, [5]), (246, [6])] [] [] (13, []) 137 16 = true := by decide +kernel
theorem sn_266 {W : Bool} {X : List Int32} : y_Snd (mGw W) mLT1 (J2 W X) X cx_266 := y_ok J2_J mTS2_ok1 mTC2_ok1 mRUp_ok1 (List.forall_mem_cons.mpr ⟨sn_145, List.forall_mem_cons.mpr ⟨sn_261, List.forall_mem_cons.mpr ⟨sn_262, List.forall_mem_cons.mpr ⟨sn_170, List.forall_mem_cons.mpr ⟨sn_263, List.forall_mem_cons.mpr ⟨sn_264, List.forall_mem_cons.mpr ⟨sn_265, fun _ h => absurd h List.not_mem_nil⟩⟩⟩⟩⟩⟩⟩) ck_266
/-- M.lays -/
def cx_267 : zCtx := (193, ([(0, 3072), ((-2147483648), 2147483647), (0, 1980), (0, 2000)], [(12, false), (48, false)], [(0, [(2, 1), (3, (-1))])], [], [(2, 0, 0, []), (0, 0, 0, [(1, 1)])], [(0, (false, 2, 0, []), 0, 0, 0, [(2, 1)]), (0, (false, 1, 0, []), 2, 1, 0, [])], [(53, [(0, [(3, 1)])])]), [([(0, 3072), ((-2147483648), 2147483647), (0, 1980), (0, 2000)], [(12, false), (48, false)], [], [], [], [(0, (false, 2, 0, []), 0, 0, 4, [(2, 1)])], [(53, [(0, [(3, 1)])]), (73, [(0, [(2, 1)]), (0, [(1, 1)]), (4, [(2, 1)])])])], [(12, false, 2), (48, true, 0)], 81, 0, 0)
set_option maxRecDepth 1000000 in
theorem ck_267 : x_ok mLT1 [] mTS2 mTC2 mRUp cx_267 [] [(17, [1000423]), (18, [1000421]), (36, [1000424])] [] (81, []) 0 84 = true := by decide +kernel
theorem sn_267 {W : Bool} {X : List Int32} : y_Snd (mGw W) mLT1 (J2 W X) X cx_267 := y_ok J2_J mTS2_ok1 mTC2_ok1 mRUp_ok1 (fun _ h => absurd h List.not_mem_nil) ck_267
/-- M.lays -/
def cx_268 : zCtx := (193, ([(0, 3072), ((-2147483648), 2147483647), (4, 1984), (0, 2000), ((-2147483648), 2147483647)], [(12, false), (48, false)], [(0, [(2, 1), (3, (-1))])], [], [(2, 0, 0, []), (0, 0, 0, [(1, 1)])], [(0, (false, 2, 0, []), 0, 0, 0, [(2, 1)]), (0, (false, 1, 0, []), 2, 1, 0, [])], [(53, [(0, [(3, 1)])]), (73, [((-4), [(2, 1)]), (0, [(4, 1)]), (0, [(2, 1)])])]), [([(0, 3072), ((-2147483648), 2147483647), (4, 1984), (0, 2000), ((-2147483648), 2147483647)], [(12, false), (48, false)], [], [], [], [(0, (false, 2, 0, []), 0, 0, 4, [(2, 1)])], [(53, [(0, [(3, 1)])]), (73, [((-4), [(2, 1)]), (0, [(4, 1)]), (0, [(2, 1)])]), (73, [(0, [(2, 1)]), (0, [(1, 1)]), (4, [(2, 1)])])])], [(12, false, 2), (48, true, 0)], 81, 0, 0)
set_option maxRecDepth 1000000 in
theorem ck_268 : x_ok mLT1 [] mTS2 mTC2 mRUp cx_268 [] [(17, [1000423]), (18, [1000421]), (36, [1000424])] [] (81, []) 0 84 = true := by decide +kernel
theorem sn_268 {W : Bool} {X : List Int32} : y_Snd (mGw W) mLT1 (J2 W X) X cx_268 := y_ok J2_J mTS2_ok1 mTC2_ok1 mRUp_ok1 (fun _ h => absurd h List.not_mem_nil) ck_268
/-- M.lays -/
def cx_269 : zCtx := (193, ([(0, 3072), ((-2147483648), 2147483647), (8, 1988), (0, 2000), ((-2147483648), 2147483647), ((-2147483648), 2147483647)], [(12, false), (48, false)], [(0, [(2, 1), (3, (-1))])], [], [(2, 0, 0, []), (0, 0, 0, [(1, 1)])], [(0, (false, 2, 0, []), 0, 0, 0, [(2, 1)]), (0, (false, 1, 0, []), 2, 1, 0, [])], [(53, [(0, [(3, 1)])]), (73, [((-4), [(2, 1)]), (0, [(4, 1)]), (0, [(2, 1)])]), (73, [((-8), [(2, 1)]), (0, [(5, 1)]), ((-4), [(2, 1)])])]), [([(0, 3072), ((-2147483648), 2147483647), (8, 1988), (0, 2000), ((-2147483648), 2147483647), ((-2147483648), 2147483647)], [(12, false), (48, false)], [], [], [], [(0, (false, 2, 0, []), 0, 0, 4, [(2, 1)])], [(53, [(0, [(3, 1)])]), (73, [((-4), [(2, 1)]), (0, [(4, 1)]), (0, [(2, 1)])]), (73, [((-8), [(2, 1)]), (0, [(5, 1)]), ((-4), [(2, 1)])]), (73, [(0, [(2, 1)]), (0, [(1, 1)]), (4, [(2, 1)])])])], [(12, false, 2), (48, true, 0)], 81, 0, 0)
set_option maxRecDepth 1000000 in
theorem ck_269 : x_ok mLT1 [] mTS2 mTC2 mRUp cx_269 [] [(17, [1000423]), (18, [1000421]), (36, [1000424])] [] (81, []) 0 84 = true := by decide +kernel
theorem sn_269 {W : Bool} {X : List Int32} : y_Snd (mGw W) mLT1 (J2 W X) X cx_269 := y_ok J2_J mTS2_ok1 mTC2_ok1 mRUp_ok1 (fun _ h => absurd h List.not_mem_nil) ck_269
