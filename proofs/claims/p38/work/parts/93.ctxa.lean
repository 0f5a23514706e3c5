/-! ===== the readings 0 .. 47, by program, checked by the kernel ===== -/
/-- Tape.put -/
def cx_0 : zCtx := (114, ([(0, 3072), ((-2147483648), 2147483647), (0, 1996)], [(1, false)], [], [], [(2, 0, 0, []), (0, 0, 0, [(1, 1)])], [(0, (false, 5, 0, []), 0, 0, 0, [(2, 1)])], []), [([(0, 3072), ((-2147483648), 2147483647), (0, 1996)], [(1, false)], [], [], [], [(0, (false, 5, 0, []), 0, 0, 4, [(2, 1)])], [])], [(1, false, 5), (13, true, 0)], 109, 0, 0)
set_option maxRecDepth 1000000 in
theorem ck_0 : x_ok mLT [] mTS mTC mRU cx_0 [] [] [] (109, []) 0 112 = true := by decide +kernel
theorem sn_0 {X : List Int32} : y_Snd mGa mLT (mJS X) X cx_0 := y_ok (fun _ _ _ => Iff.rfl) mTS_ok mTC_ok mRU_ok (fun _ h => absurd h List.not_mem_nil) ck_0
/-- HairRope.feed -/
def cx_1 : zCtx := (137, ([(0, 3072), ((-2147483648), 2147483647), ((-2147483648), 2147483647), ((-2147483648), 2147483647), ((-2147483648), 2147483647), ((-2147483648), 2147483647), (0, 2000)], [(0, false), (1, false)], [], [], [(2, 0, 0, []), (0, 0, 0, [(1, 1)]), (0, 0, 0, [(2, 1)]), (0, 0, 0, [(3, 1)]), (0, 0, 0, [(4, 1)]), (0, 0, 0, [(5, 1)])], [(0, (false, 0, 0, []), 2, 1, 0, []), (1, (false, 5, 0, []), 0, 0, 0, [(6, 1)])], []), [([(0, 3072), ((-2147483648), 2147483647), ((-2147483648), 2147483647), ((-2147483648), 2147483647), ((-2147483648), 2147483647), ((-2147483648), 2147483647), (1981, 2000)], [(0, false), (1, false)], [], [], [(0, 0, (-1), [])], [(1, (false, 5, 0, []), 0, 0, 0, [(6, 1)])], []), ([(0, 3072), ((-2147483648), 2147483647), ((-2147483648), 2147483647), ((-2147483648), 2147483647), ((-2147483648), 2147483647), ((-2147483648), 2147483647), (0, 1980)], [(0, false), (1, false)], [], [], [(0, 0, 20, [(6, 1)])], [(1, (false, 5, 0, []), 0, 0, 20, [(6, 1)])], [])], [(1, false, 5), (13, true, 0)], 138, 1, 22)
set_option maxRecDepth 1000000 in
theorem ck_1 : x_ok mLT [cx_0] mTS mTC mRU cx_1 [(20, [0]), (28, [0]), (36, [0]), (45, [0]), (54, [0])] [] [] (29, []) 109 32 = true := by decide +kernel
theorem sn_1 {X : List Int32} : y_Snd mGa mLT (mJS X) X cx_1 := y_ok (fun _ _ _ => Iff.rfl) mTS_ok mTC_ok mRU_ok (List.forall_mem_cons.mpr ⟨sn_0, fun _ h => absurd h List.not_mem_nil⟩) ck_1
/-- HairRope.back -/
def cx_2 : zCtx := (138, ([(0, 3072), ((-2147483648), 2147483647), (0, 2000)], [(0, false), (1, false)], [], [], [(2, 0, 0, []), (0, 0, 0, [(1, 1)])], [(0, (false, 0, 0, []), 2, 1, 0, []), (1, (false, 5, 0, []), 0, 0, 0, [(2, 1)])], []), [([(0, 3072), (1, 2147483647), (0, 2000)], [(0, false), (1, false)], [((-1), [(1, 1), (2, (-1))])], [], [(0, 0, (-1), [])], [(1, (false, 5, 0, []), 0, 0, 0, [(2, 1)])], []), ([(0, 3072), (0, 2000), (0, 2000)], [(0, false), (1, false)], [(0, [(1, (-1)), (2, 1)])], [], [(0, 0, 0, [(1, (-1)), (2, 1)])], [(1, (false, 5, 0, []), 0, 0, 0, [(1, (-1)), (2, 1)])], []), ([(0, 3072), ((-2147483648), (-1)), (0, 2000)], [(0, false), (1, false)], [], [], [(0, 0, (-1), [])], [(1, (false, 5, 0, []), 0, 0, 0, [(2, 1)])], [])], [(1, false, 5)], 18, 0, 0)
set_option maxRecDepth 1000000 in
theorem ck_2 : x_ok mLT [] mTS mTC mRU cx_2 [] [] [] (18, []) 0 21 = true := by decide +kernel
theorem sn_2 {X : List Int32} : y_Snd mGa mLT (mJS X) X cx_2 := y_ok (fun _ _ _ => Iff.rfl) mTS_ok mTC_ok mRU_ok (fun _ h => absurd h List.not_mem_nil) ck_2
/-- Arrays.fill -/
def cx_3 : zCtx := (2, ([(0, 3072), (5, 5)], [(18, false)], [], [], [(2, 0, 0, []), (0, 0, 0, [(1, 1)])], [], []), [([(0, 3072), (5, 5)], [(18, false)], [], [], [], [], [])], [(18, true, 0)], 2050, 0, 0)
set_option maxRecDepth 1000000 in
theorem ck_3 : x_ok mLT [] mTS mTC mRU cx_3 [] [] [(5, ([(0, 3072), (5, 5), (0, 40)], [(18, false)], [], [(2, 0, 0, []), (0, 0, 0, [(1, 1)]), (0, 0, 0, [(2, 1)]), (0, 0, 36, [])], [], [], []), ((-500000000000), [(1, 100000000404), (2, (-50))]))] (2050, []) 0 12 = true := by decide +kernel
theorem sn_3 {X : List Int32} : y_Snd mGa mLT (mJS X) X cx_3 := y_ok (fun _ _ _ => Iff.rfl) mTS_ok mTC_ok mRU_ok (fun _ h => absurd h List.not_mem_nil) ck_3
/-- Laws.begin -/
def cx_4 : zCtx := (48, ([(0, 3072), (0, 3), (0, 432)], [(3, false)], [], [], [(2, 0, 0, []), (0, 0, 0, [(1, 1)]), (0, 0, 0, [(2, 1)])], [], []), [([(0, 3072), (0, 3), (0, 432)], [(3, false)], [], [], [], [], [])], [(23, true, 0)], 11, 0, 0)
set_option maxRecDepth 1000000 in
theorem ck_4 : x_ok mLT [] mTS mTC mRU cx_4 [] [] [] (11, []) 0 14 = true := by decide +kernel
theorem sn_4 {X : List Int32} : y_Snd mGa mLT (mJS X) X cx_4 := y_ok (fun _ _ _ => Iff.rfl) mTS_ok mTC_ok mRU_ok (fun _ h => absurd h List.not_mem_nil) ck_4
/-- Laws.emit -/
def cx_5 : zCtx := (49, ([(0, 3072), (0, 7), ((-2147483648), 2147483647), (0, 432)], [(3, false)], [], [], [(2, 0, 0, []), (0, 0, 0, [(1, 1)]), (0, 0, 0, [(2, 1)])], [(0, (false, 4, 0, []), 0, 0, 0, [(3, 1)])], []), [([(0, 3072), (0, 7), ((-2147483648), 2147483647), (0, 431)], [(3, false)], [], [], [], [(0, (false, 4, 0, []), 0, 0, 1, [(3, 1)])], []), ([(0, 3072), (0, 7), ((-2147483648), 2147483647), (432, 432)], [(3, false)], [], [], [], [(0, (false, 4, 0, []), 0, 0, 0, [(3, 1)])], [])], [(3, false, 4), (21, true, 0), (22, true, 0)], 26, 0, 0)
set_option maxRecDepth 1000000 in
theorem ck_5 : x_ok mLT [] mTS mTC mRU cx_5 [] [] [] (26, []) 0 29 = true := by decide +kernel
theorem sn_5 {X : List Int32} : y_Snd mGa mLT (mJS X) X cx_5 := y_ok (fun _ _ _ => Iff.rfl) mTS_ok mTC_ok mRU_ok (fun _ h => absurd h List.not_mem_nil) ck_5
/-- Laws.clear -/
def cx_6 : zCtx := (47, ([(0, 3072), (0, 432)], [(3, false)], [], [], [(2, 0, 0, [])], [(0, (false, 4, 0, []), 0, 0, 0, [(1, 1)])], []), [([(0, 3072), (0, 432)], [(3, false)], [], [], [], [(0, (false, 4, 0, []), 0, 0, 8, [])], [])], [(3, false, 4), (21, true, 0), (22, true, 0), (23, true, 0)], 80, 1, 22)
set_option maxRecDepth 1000000 in
theorem ck_6 : x_ok mLT [cx_4, cx_5] mTS mTC mRU cx_6 [(8, [0]), (14, [0]), (20, [1]), (27, [1]), (36, [0]), (42, [1]), (49, [1]), (55, [1]), (62, [1]), (71, [0]), (77, [1]), (84, [1])] [] [] (54, []) 26 57 = true := by decide +kernel
theorem sn_6 {X : List Int32} : y_Snd mGa mLT (mJS X) X cx_6 := y_ok (fun _ _ _ => Iff.rfl) mTS_ok mTC_ok mRU_ok (List.forall_mem_cons.mpr ⟨sn_4, List.forall_mem_cons.mpr ⟨sn_5, fun _ h => absurd h List.not_mem_nil⟩⟩) ck_6
/-- Text.clear -/
def cx_7 : zCtx := (130, ([(0, 3072), (0, 6), (0, 20)], [(2, false)], [], [], [(2, 0, 0, [])], [(0, (false, 5, 0, []), 0, 0, 0, [(1, 1)]), (0, (false, 6, 0, []), 0, 0, 0, [(2, 1)])], []), [([(0, 3072), (0, 6), (0, 20)], [(2, false)], [], [], [], [(0, (false, 6, 0, []), 0, 0, 0, []), (0, (false, 5, 0, []), 0, 0, 0, [])], [])], [(2, false, 5), (2, false, 6), (2, false, 7), (2, false, 8), (2, false, 9), (2, false, 10), (3, false, 4), (18, true, 0), (21, true, 0), (22, true, 0), (23, true, 0)], 2076, 2, 42)
set_option maxRecDepth 1000000 in
theorem ck_7 : x_ok mLT [cx_3, cx_6] mTS mTC mRU cx_7 [(5, [0]), (12, [1])] [] [] (26, []) 2050 29 = true := by decide +kernel
theorem sn_7 {X : List Int32} : y_Snd mGa mLT (mJS X) X cx_7 := y_ok (fun _ _ _ => Iff.rfl) mTS_ok mTC_ok mRU_ok (List.forall_mem_cons.mpr ⟨sn_3, List.forall_mem_cons.mpr ⟨sn_6, fun _ h => absurd h List.not_mem_nil⟩⟩) ck_7
/-- Tape.byteAt -/
def cx_8 : zCtx := (117, ([(0, 3072), (0, 3072), (0, 2000)], [(1, false)], [], [], [(2, 0, 0, []), (0, 0, 0, [(1, 1)])], [(0, (false, 5, 0, []), 0, 0, 0, [(2, 1)])], []), [([(0, 3072), (0, 1999), (1, 2000), (128, 255)], [(1, false)], [((-1), [(1, (-1)), (2, 1)])], [], [(0, 0, 0, [(3, 1)])], [], []), ([(0, 3072), (0, 1999), (1, 2000), (0, 127)], [(1, false)], [((-1), [(1, (-1)), (2, 1)])], [], [(0, 0, 0, [(3, 1)])], [], []), ([(0, 3072), (0, 3072), (0, 2000)], [(1, false)], [(0, [(1, 1), (2, (-1))])], [], [(0, 0, (-1), [])], [], [])], [], 17, 0, 0)
set_option maxRecDepth 1000000 in
theorem ck_8 : x_ok mLT [] mTS mTC mRU cx_8 [] [] [] (17, []) 0 20 = true := by decide +kernel
theorem sn_8 {X : List Int32} : y_Snd mGa mLT (mJS X) X cx_8 := y_ok (fun _ _ _ => Iff.rfl) mTS_ok mTC_ok mRU_ok (fun _ h => absurd h List.not_mem_nil) ck_8
/-- Tape.isBlank -/
def cx_9 : zCtx := (118, ([(0, 3072), (0, 255)], [], [], [], [(0, 0, 0, [(1, 1)])], [], []), [([(0, 3072), (0, 8)], [], [], [], [(0, 0, 0, [])], [], []), ([(0, 3072), (11, 12)], [], [], [], [(0, 0, 0, [])], [], []), ([(0, 3072), (32, 32)], [], [], [], [(0, 0, 1, [])], [], []), ([(0, 3072), (14, 31)], [], [], [], [(0, 0, 0, [])], [], []), ([(0, 3072), (33, 255)], [], [], [], [(0, 0, 0, [])], [], []), ([(0, 3072), (13, 13)], [], [], [], [(0, 0, 1, [])], [], []), ([(0, 3072), (10, 10)], [], [], [], [(0, 0, 1, [])], [], []), ([(0, 3072), (9, 9)], [], [], [], [(0, 0, 1, [])], [], [])], [], 15, 0, 0)
set_option maxRecDepth 1000000 in
theorem ck_9 : x_ok mLT [] mTS mTC mRU cx_9 [] [] [] (15, []) 0 18 = true := by decide +kernel
theorem sn_9 {X : List Int32} : y_Snd mGa mLT (mJS X) X cx_9 := y_ok (fun _ _ _ => Iff.rfl) mTS_ok mTC_ok mRU_ok (fun _ h => absurd h List.not_mem_nil) ck_9
/-- Tape.skipBlanks -/
def cx_10 : zCtx := (116, ([(0, 3072), (0, 2000), (0, 2000)], [(1, false)], [], [], [(2, 0, 0, []), (0, 0, 0, [(1, 1)])], [(0, (false, 5, 0, []), 0, 0, 0, [(2, 1)])], []), [([(0, 3072), (0, 2000), (1, 2000), (0, 1999)], [(1, false)], [((-1), [(2, 1), (3, (-1))])], [], [(0, 0, 0, [(3, 1)])], [], []), ([(0, 3072), (0, 2000), (0, 2000), (0, 2000)], [(1, false)], [(0, [(2, (-1)), (3, 1)])], [], [(0, 0, 0, [(3, 1)])], [], [])], [], 24026, 1, 21)
set_option maxRecDepth 1000000 in
theorem ck_10 : x_ok mLT [cx_8, cx_9] mTS mTC mRU cx_10 [(12, [0]), (15, [1])] [] [(2, ([(0, 3072), (0, 2000), (0, 2000), (0, 2000)], [(1, false)], [], [(2, 0, 0, []), (0, 0, 0, [(1, 1)]), (0, 0, 0, [(3, 1)])], [], [(0, (false, 5, 0, []), 0, 0, 0, [(2, 1)])], []), (24006, [(3, (-12))]))] (24009, []) 17 14 = true := by decide +kernel
theorem sn_10 {X : List Int32} : y_Snd mGa mLT (mJS X) X cx_10 := y_ok (fun _ _ _ => Iff.rfl) mTS_ok mTC_ok mRU_ok (List.forall_mem_cons.mpr ⟨sn_8, List.forall_mem_cons.mpr ⟨sn_9, fun _ h => absurd h List.not_mem_nil⟩⟩) ck_10
/-- Tape.keepToken -/
def cx_11 : zCtx := (120, ([(0, 3072), (0, 400), (0, 277), (0, 2000), (0, 2000)], [(1, false)], [], [], [(2, 0, 0, []), (0, 0, 0, [(1, 1)]), (0, 0, 0, [(2, 1)]), (0, 0, 0, [(3, 1)]), (1, 0, 0, []), (0, 0, 0, [(4, 1)])], [], []), [([(0, 3072), (0, 400), (0, 277), (0, 2000), (0, 2000)], [(1, false)], [], [], [(0, 0, 0, [(4, 1)])], [], [])], [(14, true, 0), (15, true, 0), (16, true, 0)], 22, 0, 0)
set_option maxRecDepth 1000000 in
theorem ck_11 : x_ok mLT [] mTS mTC mRU cx_11 [] [] [] (22, []) 0 25 = true := by decide +kernel
theorem sn_11 {X : List Int32} : y_Snd mGa mLT (mJS X) X cx_11 := y_ok (fun _ _ _ => Iff.rfl) mTS_ok mTC_ok mRU_ok (fun _ h => absurd h List.not_mem_nil) ck_11
/-- Tape.isLetter -/
def cx_12 : zCtx := (121, ([(0, 3072), (0, 255)], [], [], [], [(0, 0, 0, [(1, 1)])], [], []), [([(0, 3072), (97, 122)], [], [], [], [(0, 0, 1, [])], [], []), ([(0, 3072), (123, 255)], [], [], [], [(0, 0, 0, [])], [], []), ([(0, 3072), (0, 96)], [], [], [], [(0, 0, 0, [])], [], [])], [], 9, 0, 0)
set_option maxRecDepth 1000000 in
theorem ck_12 : x_ok mLT [] mTS mTC mRU cx_12 [] [] [] (9, []) 0 12 = true := by decide +kernel
theorem sn_12 {X : List Int32} : y_Snd mGa mLT (mJS X) X cx_12 := y_ok (fun _ _ _ => Iff.rfl) mTS_ok mTC_ok mRU_ok (fun _ h => absurd h List.not_mem_nil) ck_12
/-- String.coder -/
def cx_13 : zCtx := (4, ([(0, 3072)], [], [], [], [(4, 3, 0, [])], [], []), [([(0, 3072)], [], [], [], [(0, 0, 0, [])], [], [])], [], 6, 0, 0)
set_option maxRecDepth 1000000 in
theorem ck_13 : x_ok mLT [] mTS mTC mRU cx_13 [] [] [] (6, []) 0 9 = true := by decide +kernel
theorem sn_13 {X : List Int32} : y_Snd mGa mLT (mJS X) X cx_13 := y_ok (fun _ _ _ => Iff.rfl) mTS_ok mTC_ok mRU_ok (fun _ h => absurd h List.not_mem_nil) ck_13
/-- String.length -/
def cx_14 : zCtx := (3, ([(0, 3072)], [], [], [], [(4, 3, 0, [])], [], []), [([(0, 3072)], [], [], [], [(0, 0, 176, [])], [], [])], [], 13, 1, 20)
set_option maxRecDepth 1000000 in
theorem ck_14 : x_ok mLT [cx_13] mTS mTC mRU cx_14 [(6, [0])] [] [] (7, []) 6 10 = true := by decide +kernel
theorem sn_14 {X : List Int32} : y_Snd mGa mLT (mJS X) X cx_14 := y_ok (fun _ _ _ => Iff.rfl) mTS_ok mTC_ok mRU_ok (List.forall_mem_cons.mpr ⟨sn_13, fun _ h => absurd h List.not_mem_nil⟩) ck_14
/-- String.isLatin1 -/
def cx_15 : zCtx := (6, ([(0, 3072)], [], [], [], [(4, 3, 0, [])], [], []), [([(0, 3072)], [], [], [], [(0, 0, 1, [])], [], [])], [], 8, 0, 0)
set_option maxRecDepth 1000000 in
theorem ck_15 : x_ok mLT [] mTS mTC mRU cx_15 [] [] [] (8, []) 0 11 = true := by decide +kernel
theorem sn_15 {X : List Int32} : y_Snd mGa mLT (mJS X) X cx_15 := y_ok (fun _ _ _ => Iff.rfl) mTS_ok mTC_ok mRU_ok (fun _ h => absurd h List.not_mem_nil) ck_15
/-- Preconditions.checkIndex -/
def cx_16 : zCtx := (9, ([(0, 3072), (0, 175), (176, 176)], [], [], [], [(0, 0, 0, [(1, 1)]), (0, 0, 0, [(2, 1)]), (4, 5, 0, [])], [], []), [([(0, 3072), (0, 175), (176, 176)], [], [((-1), [(1, (-1)), (2, 1)])], [], [(0, 0, 0, [(1, 1)])], [], [])], [], 7, 0, 0)
set_option maxRecDepth 1000000 in
theorem ck_16 : x_ok mLT [] mTS mTC mRU cx_16 [] [] [] (7, []) 0 10 = true := by decide +kernel
theorem sn_16 {X : List Int32} : y_Snd mGa mLT (mJS X) X cx_16 := y_ok (fun _ _ _ => Iff.rfl) mTS_ok mTC_ok mRU_ok (fun _ h => absurd h List.not_mem_nil) ck_16
/-- String.checkIndex -/
def cx_17 : zCtx := (8, ([(0, 3072), (0, 175), (176, 176)], [], [], [], [(0, 0, 0, [(1, 1)]), (0, 0, 0, [(2, 1)])], [], []), [([(0, 3072), (0, 175), (176, 176)], [], [((-1), [(1, (-1)), (2, 1)])], [], [], [], [])], [], 13, 1, 22)
set_option maxRecDepth 1000000 in
theorem ck_17 : x_ok mLT [cx_16] mTS mTC mRU cx_17 [(5, [0])] [] [] (6, []) 7 9 = true := by decide +kernel
theorem sn_17 {X : List Int32} : y_Snd mGa mLT (mJS X) X cx_17 := y_ok (fun _ _ _ => Iff.rfl) mTS_ok mTC_ok mRU_ok (List.forall_mem_cons.mpr ⟨sn_16, fun _ h => absurd h List.not_mem_nil⟩) ck_17
/-- StringLatin1.charAt -/
def cx_18 : zCtx := (7, ([(0, 3072), (0, 175)], [], [], [], [(4, 4, 0, []), (0, 0, 0, [(1, 1)])], [], []), [([(0, 3072), (0, 175), (0, 65535)], [], [], [], [(0, 0, 0, [(2, 1)])], [], [])], [], 24, 2, 43)
set_option maxRecDepth 1000000 in
theorem ck_18 : x_ok mLT [cx_17] mTS mTC mRU cx_18 [(3, [0])] [] [] (11, []) 13 14 = true := by decide +kernel
theorem sn_18 {X : List Int32} : y_Snd mGa mLT (mJS X) X cx_18 := y_ok (fun _ _ _ => Iff.rfl) mTS_ok mTC_ok mRU_ok (List.forall_mem_cons.mpr ⟨sn_17, fun _ h => absurd h List.not_mem_nil⟩) ck_18
/-- String.charAt -/
def cx_19 : zCtx := (5, ([(0, 3072), (0, 175)], [], [], [], [(4, 3, 0, []), (0, 0, 0, [(1, 1)])], [], []), [([(0, 3072), (0, 175), (0, 65535)], [], [], [], [(0, 0, 0, [(2, 1)])], [], [])], [], 32, 3, 64)
set_option maxRecDepth 1000000 in
theorem ck_19 : x_ok mLT [cx_15, cx_18] mTS mTC mRU cx_19 [(1, [0]), (12, [1])] [] [] (8, []) 24 11 = true := by decide +kernel
theorem sn_19 {X : List Int32} : y_Snd mGa mLT (mJS X) X cx_19 := y_ok (fun _ _ _ => Iff.rfl) mTS_ok mTC_ok mRU_ok (List.forall_mem_cons.mpr ⟨sn_15, List.forall_mem_cons.mpr ⟨sn_18, fun _ h => absurd h List.not_mem_nil⟩⟩) ck_19
/-- Tape.isWordAt -/
def cx_20 : zCtx := (124, ([(0, 3072), (0, 1999), ((-2147483648), 8), (0, 168), (1, 2000)], [(1, false)], [], [], [(2, 0, 0, []), (0, 0, 0, [(1, 1)]), (0, 0, 0, [(2, 1)]), (0, 0, 0, [(3, 1)])], [(0, (false, 5, 0, []), 0, 0, 0, [(4, 1)])], []), [([(0, 3072), (0, 1999), (1, 8), (0, 168), (1, 2000)], [(1, false)], [], [], [(0, 0, 0, [])], [], []), ([(0, 3072), (0, 1999), ((-2147483648), 7), (0, 168), (1, 2000)], [(1, false)], [], [], [(0, 0, 0, [])], [], []), ([(0, 3072), (0, 1999), ((-2147483648), 8), (0, 168), (1, 2000)], [(1, false)], [], [], [(0, 0, 1, [])], [], [])], [], 288, 4, 85)
set_option maxRecDepth 1000000 in
theorem ck_20 : x_ok mLT [cx_8, cx_14, cx_19] mTS mTC mRU cx_20 [(21, [0]), (41, [1]), (53, [2])] [] [(3, ([(0, 3072), (0, 1999), ((-2147483648), 8), (0, 168), (1, 2000), (0, 8)], [(1, false)], [], [(2, 0, 0, []), (0, 0, 0, [(1, 1)]), (0, 0, 0, [(2, 1)]), (0, 0, 0, [(3, 1)]), (0, 0, 0, [(5, 1)]), (5, 0, 0, [])], [], [(0, (false, 5, 0, []), 0, 0, 0, [(4, 1)])], []), (253, [(5, (-31))]))] (256, []) 32 33 = true := by decide +kernel
theorem sn_20 {X : List Int32} : y_Snd mGa mLT (mJS X) X cx_20 := y_ok (fun _ _ _ => Iff.rfl) mTS_ok mTC_ok mRU_ok (List.forall_mem_cons.mpr ⟨sn_8, List.forall_mem_cons.mpr ⟨sn_14, List.forall_mem_cons.mpr ⟨sn_19, fun _ h => absurd h List.not_mem_nil⟩⟩⟩) ck_20
/-- Tape.wordAt -/
def cx_21 : zCtx := (123, ([(0, 3072), (0, 1999), ((-1999), 8), (1, 2000)], [(1, false)], [], [], [(2, 0, 0, []), (0, 0, 0, [(1, 1)]), (0, 0, 0, [(2, 1)])], [(0, (false, 5, 0, []), 0, 0, 0, [(3, 1)])], []), [([(0, 3072), (0, 1999), ((-1999), 8), (1, 2000), (0, 21)], [(1, false)], [], [], [(0, 0, 0, [(4, 1)])], [], []), ([(0, 3072), (0, 1999), ((-1999), 8), (1, 2000)], [(1, false)], [], [], [(0, 0, (-1), [])], [], [])], [], 4201, 5, 110)
set_option maxRecDepth 1000000 in
theorem ck_21 : x_ok mLT [cx_14, cx_20] mTS mTC mRU cx_21 [(8, [0]), (18, [1])] [] [(2, ([(0, 3072), (0, 1999), ((-1999), 8), (1, 2000), (0, 255)], [(1, false)], [], [(2, 0, 0, []), (0, 0, 0, [(1, 1)]), (0, 0, 0, [(2, 1)]), (0, 0, 0, [(4, 1)])], [], [(0, (false, 5, 0, []), 0, 0, 0, [(3, 1)])], []), (3889, [(4, (-15))]))] (3913, []) 288 19 = true := by decide +kernel
theorem sn_21 {X : List Int32} : y_Snd mGa mLT (mJS X) X cx_21 := y_ok (fun _ _ _ => Iff.rfl) mTS_ok mTC_ok mRU_ok (List.forall_mem_cons.mpr ⟨sn_14, List.forall_mem_cons.mpr ⟨sn_20, fun _ h => absurd h List.not_mem_nil⟩⟩) ck_21
/-- Tape.cutWord -/
def cx_22 : zCtx := (122, ([(0, 3072), (0, 400), (0, 1999), (1, 2000)], [(1, false)], [], [], [(2, 0, 0, []), (0, 0, 0, [(1, 1)]), (0, 0, 0, [(2, 1)])], [(0, (false, 5, 0, []), 0, 0, 0, [(3, 1)])], []), [([(0, 3072), (0, 400), (0, 1990), (1, 2000), (9, 1999)], [(1, false)], [((-9), [(2, (-1)), (4, 1)]), ((-1), [(3, 1), (4, (-1))])], [], [(0, 0, 0, [(4, 1)])], [], []), ([(0, 3072), (0, 400), (0, 1999), (1, 2000), (0, 1999)], [(1, false)], [(8, [(2, 1), (4, (-1))]), ((-1), [(3, 1), (4, (-1))])], [], [(0, 0, 0, [(4, 1)])], [], []), ([(0, 3072), (0, 400), (0, 1991), (1, 2000), (9, 2000)], [(1, false)], [((-9), [(2, (-1)), (4, 1)]), (0, [(3, (-1)), (4, 1)])], [], [(0, 0, 0, [(4, 1)])], [], []), ([(0, 3072), (0, 400), (0, 1999), (1, 2000), (1, 2000)], [(1, false)], [(8, [(2, 1), (4, (-1))]), (0, [(3, (-1)), (4, 1)])], [], [(0, 0, 0, [(4, 1)])], [], [])], [(14, true, 0), (15, true, 0), (16, true, 0)], 54234, 6, 133)
set_option maxRecDepth 1000000 in
theorem ck_22 : x_ok mLT [cx_8, cx_12, cx_11, cx_21] mTS mTC mRU cx_22 [(15, [0]), (18, [1]), (32, [0]), (64, [2]), (73, [3]), (99, [2])] [] [(5, ([(0, 3072), (0, 400), (0, 1999), (1, 2000), (0, 2000)], [(1, false)], [], [(2, 0, 0, []), (0, 0, 0, [(1, 1)]), (0, 0, 0, [(2, 1)]), (0, 0, 0, [(4, 1)]), (1, 0, 0, []), (5, 0, 0, []), (5, 0, 0, [])], [], [(0, (false, 5, 0, []), 0, 0, 0, [(3, 1)])], []), (50028, [(4, (-25))]))] (50033, []) 4201 36 = true := by decide +kernel
theorem sn_22 {X : List Int32} : y_Snd mGa mLT (mJS X) X cx_22 := y_ok (fun _ _ _ => Iff.rfl) mTS_ok mTC_ok mRU_ok (List.forall_mem_cons.mpr ⟨sn_8, List.forall_mem_cons.mpr ⟨sn_12, List.forall_mem_cons.mpr ⟨sn_11, List.forall_mem_cons.mpr ⟨sn_21, fun _ h => absurd h List.not_mem_nil⟩⟩⟩⟩) ck_22
/-- Tape.isDigit -/
def cx_23 : zCtx := (125, ([(0, 3072), (0, 255)], [], [], [], [(0, 0, 0, [(1, 1)])], [], []), [([(0, 3072), (48, 57)], [], [], [], [(0, 0, 1, [])], [], []), ([(0, 3072), (58, 255)], [], [], [], [(0, 0, 0, [])], [], []), ([(0, 3072), (0, 47)], [], [], [], [(0, 0, 0, [])], [], [])], [], 9, 0, 0)
set_option maxRecDepth 1000000 in
theorem ck_23 : x_ok mLT [] mTS mTC mRU cx_23 [] [] [] (9, []) 0 12 = true := by decide +kernel
theorem sn_23 {X : List Int32} : y_Snd mGa mLT (mJS X) X cx_23 := y_ok (fun _ _ _ => Iff.rfl) mTS_ok mTC_ok mRU_ok (fun _ h => absurd h List.not_mem_nil) ck_23
/-- Tape.cutInt -/
def cx_24 : zCtx := (126, ([(0, 3072), (0, 400), (0, 1999), (1, 2000)], [(1, false)], [], [], [(2, 0, 0, []), (0, 0, 0, [(1, 1)]), (0, 0, 0, [(2, 1)])], [(0, (false, 5, 0, []), 0, 0, 0, [(3, 1)])], []), [([(0, 3072), (0, 400), (0, 1994), (1, 2000), (5, 1999)], [(1, false)], [((-5), [(2, (-1)), (4, 1)]), ((-1), [(3, 1), (4, (-1))])], [], [(0, 0, 0, [(4, 1)])], [], []), ([(0, 3072), (0, 400), (0, 1999), (1, 2000), (0, 1999)], [(1, false)], [(4, [(2, 1), (4, (-1))]), ((-1), [(3, 1), (4, (-1))])], [], [(0, 0, 0, [(4, 1)])], [], []), ([(0, 3072), (0, 400), (0, 1995), (1, 2000), (5, 2000)], [(1, false)], [((-5), [(2, (-1)), (4, 1)]), (0, [(3, (-1)), (4, 1)])], [], [(0, 0, 0, [(4, 1)])], [], []), ([(0, 3072), (0, 400), (0, 1999), (1, 2000), (1, 2000)], [(1, false)], [(4, [(2, 1), (4, (-1))]), (0, [(3, (-1)), (4, 1)])], [], [(0, 0, 0, [(4, 1)])], [], [])], [(14, true, 0), (15, true, 0), (16, true, 0)], 46045, 1, 26)
set_option maxRecDepth 1000000 in
theorem ck_24 : x_ok mLT [cx_8, cx_23, cx_11] mTS mTC mRU cx_24 [(15, [0]), (18, [1]), (32, [0]), (66, [2])] [] [(5, ([(0, 3072), (0, 400), (0, 1999), (1, 2000), (0, 2000)], [(1, false)], [], [(2, 0, 0, []), (0, 0, 0, [(1, 1)]), (0, 0, 0, [(2, 1)]), (0, 0, 0, [(4, 1)]), (1, 0, 0, []), (5, 0, 0, [])], [], [(0, (false, 5, 0, []), 0, 0, 0, [(3, 1)])], []), (46018, [(4, (-23))]))] (46023, []) 22 26 = true := by decide +kernel
theorem sn_24 {X : List Int32} : y_Snd mGa mLT (mJS X) X cx_24 := y_ok (fun _ _ _ => Iff.rfl) mTS_ok mTC_ok mRU_ok (List.forall_mem_cons.mpr ⟨sn_8, List.forall_mem_cons.mpr ⟨sn_23, List.forall_mem_cons.mpr ⟨sn_11, fun _ h => absurd h List.not_mem_nil⟩⟩⟩) ck_24
/-- String.isLatin1 -/
def cx_25 : zCtx := (6, ([(0, 3072)], [], [], [], [(4, 1, 0, [])], [], []), [([(0, 3072)], [], [], [], [(0, 0, 1, [])], [], [])], [], 8, 0, 0)
set_option maxRecDepth 1000000 in
theorem ck_25 : x_ok mLT [] mTS mTC mRU cx_25 [] [] [] (8, []) 0 11 = true := by decide +kernel
theorem sn_25 {X : List Int32} : y_Snd mGa mLT (mJS X) X cx_25 := y_ok (fun _ _ _ => Iff.rfl) mTS_ok mTC_ok mRU_ok (fun _ h => absurd h List.not_mem_nil) ck_25
/-- String.coder -/
def cx_26 : zCtx := (4, ([(0, 3072)], [], [], [], [(4, 1, 0, [])], [], []), [([(0, 3072)], [], [], [], [(0, 0, 0, [])], [], [])], [], 6, 0, 0)
set_option maxRecDepth 1000000 in
theorem ck_26 : x_ok mLT [] mTS mTC mRU cx_26 [] [] [] (6, []) 0 9 = true := by decide +kernel
theorem sn_26 {X : List Int32} : y_Snd mGa mLT (mJS X) X cx_26 := y_ok (fun _ _ _ => Iff.rfl) mTS_ok mTC_ok mRU_ok (fun _ h => absurd h List.not_mem_nil) ck_26
/-- String.length -/
def cx_27 : zCtx := (3, ([(0, 3072)], [], [], [], [(4, 1, 0, [])], [], []), [([(0, 3072)], [], [], [], [(0, 0, 9, [])], [], [])], [], 13, 1, 20)
set_option maxRecDepth 1000000 in
theorem ck_27 : x_ok mLT [cx_26] mTS mTC mRU cx_27 [(6, [0])] [] [] (7, []) 6 10 = true := by decide +kernel
theorem sn_27 {X : List Int32} : y_Snd mGa mLT (mJS X) X cx_27 := y_ok (fun _ _ _ => Iff.rfl) mTS_ok mTC_ok mRU_ok (List.forall_mem_cons.mpr ⟨sn_26, fun _ h => absurd h List.not_mem_nil⟩) ck_27
/-- StringLatin1.canEncode -/
def cx_28 : zCtx := (13, ([(0, 3072), (0, 65535)], [], [], [], [(0, 0, 0, [(1, 1)])], [], []), [([(0, 3072), (0, 255)], [], [], [], [(0, 0, 1, [])], [], []), ([(0, 3072), (256, 65535)], [], [], [], [(0, 0, 0, [])], [], [])], [], 8, 0, 0)
set_option maxRecDepth 1000000 in
theorem ck_28 : x_ok mLT [] mTS mTC mRU cx_28 [] [] [] (8, []) 0 11 = true := by decide +kernel
theorem sn_28 {X : List Int32} : y_Snd mGa mLT (mJS X) X cx_28 := y_ok (fun _ _ _ => Iff.rfl) mTS_ok mTC_ok mRU_ok (fun _ h => absurd h List.not_mem_nil) ck_28
/-- StringLatin1.indexOfChar -/
def cx_29 : zCtx := (14, ([(0, 3072), (0, 255), (0, 0), (9, 9)], [], [], [], [(4, 2, 0, []), (0, 0, 0, [(1, 1)]), (0, 0, 0, [(2, 1)]), (0, 0, 0, [(3, 1)])], [], []), [([(0, 3072), (0, 255), (0, 0), (9, 9), (0, 8)], [], [((-1), [(3, 1), (4, (-1))])], [], [(0, 0, 0, [(4, 1)])], [], []), ([(0, 3072), (0, 255), (0, 0), (9, 9)], [], [], [], [(0, 0, (-1), [])], [], [])], [], 330, 0, 0)
set_option maxRecDepth 1000000 in
theorem ck_29 : x_ok mLT [] mTS mTC mRU cx_29 [] [] [(7, ([(0, 3072), (0, 255), (0, 0), (9, 9), ((-128), 127), (0, 9)], [], [], [(4, 2, 0, []), (0, 0, 0, [(1, 1)]), (0, 0, 0, [(2, 1)]), (0, 0, 0, [(3, 1)]), (0, 0, 0, [(4, 1)]), (0, 0, 0, [(5, 1)])], [], [], []), ((-300000000000), [(2, (-300000000000)), (3, 33333333368), (5, (-33))]))] (330, []) 0 13 = true := by decide +kernel
theorem sn_29 {X : List Int32} : y_Snd mGa mLT (mJS X) X cx_29 := y_ok (fun _ _ _ => Iff.rfl) mTS_ok mTC_ok mRU_ok (fun _ h => absurd h List.not_mem_nil) ck_29
/-- StringLatin1.indexOf -/
def cx_30 : zCtx := (12, ([(0, 3072), (0, 65535), (0, 0), (9, 9)], [], [], [], [(4, 2, 0, []), (0, 0, 0, [(1, 1)]), (0, 0, 0, [(2, 1)]), (0, 0, 0, [(3, 1)])], [], []), [([(0, 3072), (256, 65535), (0, 0), (9, 9)], [], [], [], [(0, 0, (-1), [])], [], []), ([(0, 3072), (0, 255), (0, 0), (9, 9)], [], [], [], [(0, 0, (-1), [])], [], []), ([(0, 3072), (0, 255), (0, 0), (9, 9), (0, 8)], [], [], [], [(0, 0, 0, [(4, 1)])], [], [])], [], 351, 1, 64)
set_option maxRecDepth 1000000 in
theorem ck_30 : x_ok mLT [cx_28, cx_29] mTS mTC mRU cx_30 [(1, [0]), (33, [1])] [] [] (21, []) 330 24 = true := by decide +kernel
theorem sn_30 {X : List Int32} : y_Snd mGa mLT (mJS X) X cx_30 := y_ok (fun _ _ _ => Iff.rfl) mTS_ok mTC_ok mRU_ok (List.forall_mem_cons.mpr ⟨sn_28, List.forall_mem_cons.mpr ⟨sn_29, fun _ h => absurd h List.not_mem_nil⟩⟩) ck_30
/-- String.indexOf -/
def cx_31 : zCtx := (11, ([(0, 3072), (0, 65535), (0, 0)], [], [], [], [(4, 1, 0, []), (0, 0, 0, [(1, 1)]), (0, 0, 0, [(2, 1)])], [], []), [([(0, 3072), (0, 255), (0, 0), (0, 8)], [], [], [], [(0, 0, 0, [(3, 1)])], [], []), ([(0, 3072), (0, 255), (0, 0)], [], [], [], [(0, 0, (-1), [])], [], []), ([(0, 3072), (256, 65535), (0, 0)], [], [], [], [(0, 0, (-1), [])], [], [])], [], 363, 2, 87)
set_option maxRecDepth 1000000 in
theorem ck_31 : x_ok mLT [cx_25, cx_27, cx_30] mTS mTC mRU cx_31 [(1, [0]), (14, [1]), (17, [2])] [] [] (12, []) 351 15 = true := by decide +kernel
theorem sn_31 {X : List Int32} : y_Snd mGa mLT (mJS X) X cx_31 := y_ok (fun _ _ _ => Iff.rfl) mTS_ok mTC_ok mRU_ok (List.forall_mem_cons.mpr ⟨sn_25, List.forall_mem_cons.mpr ⟨sn_27, List.forall_mem_cons.mpr ⟨sn_30, fun _ h => absurd h List.not_mem_nil⟩⟩⟩) ck_31
/-- String.indexOf -/
def cx_32 : zCtx := (10, ([(0, 3072), (0, 65535)], [], [], [], [(4, 1, 0, []), (0, 0, 0, [(1, 1)])], [], []), [([(0, 3072), (256, 65535)], [], [], [], [(0, 0, (-1), [])], [], []), ([(0, 3072), (0, 255)], [], [], [], [(0, 0, (-1), [])], [], []), ([(0, 3072), (0, 255), (0, 8)], [], [], [], [(0, 0, 0, [(2, 1)])], [], [])], [], 368, 3, 109)
set_option maxRecDepth 1000000 in
theorem ck_32 : x_ok mLT [cx_31] mTS mTC mRU cx_32 [(3, [0])] [] [] (5, []) 363 8 = true := by decide +kernel
theorem sn_32 {X : List Int32} : y_Snd mGa mLT (mJS X) X cx_32 := y_ok (fun _ _ _ => Iff.rfl) mTS_ok mTC_ok mRU_ok (List.forall_mem_cons.mpr ⟨sn_31, fun _ h => absurd h List.not_mem_nil⟩) ck_32
/-- Tape.cut -/
def cx_33 : zCtx := (119, ([(0, 3072), (0, 400), (0, 2000), (0, 2000)], [(1, false)], [], [], [(2, 0, 0, []), (0, 0, 0, [(1, 1)]), (0, 0, 0, [(2, 1)])], [(0, (false, 5, 0, []), 0, 0, 0, [(3, 1)])], []), [([(0, 3072), (0, 400), (0, 2000), (0, 2000)], [(1, false)], [(0, [(2, 1), (3, (-1))])], [], [(0, 0, 0, [(2, 1)])], [], []), ([(0, 3072), (0, 400), (0, 1999), (1, 2000)], [(1, false)], [((-1), [(2, (-1)), (3, 1)])], [], [(0, 0, 1, [(2, 1)])], [], []), ([(0, 3072), (0, 400), (0, 1999), (1, 2000), (1, 2000)], [(1, false)], [(0, [(3, (-1)), (4, 1)]), (4, [(2, 1), (4, (-1))]), ((-1), [(2, (-1)), (3, 1)])], [], [(0, 0, 0, [(4, 1)])], [], []), ([(0, 3072), (0, 400), (0, 1995), (1, 2000), (5, 2000)], [(1, false)], [(0, [(3, (-1)), (4, 1)]), ((-5), [(2, (-1)), (4, 1)]), ((-1), [(2, (-1)), (3, 1)])], [], [(0, 0, 0, [(4, 1)])], [], []), ([(0, 3072), (0, 400), (0, 1999), (1, 2000), (0, 1999)], [(1, false)], [((-1), [(3, 1), (4, (-1))]), (4, [(2, 1), (4, (-1))]), ((-1), [(2, (-1)), (3, 1)])], [], [(0, 0, 0, [(4, 1)])], [], []), ([(0, 3072), (0, 400), (0, 1994), (6, 2000), (5, 1999)], [(1, false)], [((-1), [(3, 1), (4, (-1))]), ((-5), [(2, (-1)), (4, 1)]), ((-1), [(2, (-1)), (3, 1)])], [], [(0, 0, 0, [(4, 1)])], [], []), ([(0, 3072), (0, 400), (0, 1999), (1, 2000), (1, 2000)], [(1, false)], [(0, [(3, (-1)), (4, 1)]), (8, [(2, 1), (4, (-1))]), ((-1), [(2, (-1)), (3, 1)])], [], [(0, 0, 0, [(4, 1)])], [], []), ([(0, 3072), (0, 400), (0, 1999), (1, 2000), (0, 1999)], [(1, false)], [((-1), [(3, 1), (4, (-1))]), (8, [(2, 1), (4, (-1))]), ((-1), [(2, (-1)), (3, 1)])], [], [(0, 0, 0, [(4, 1)])], [], [])], [(14, true, 0), (15, true, 0), (16, true, 0)], 54265, 7, 159)
set_option maxRecDepth 1000000 in
theorem ck_33 : x_ok mLT [cx_8, cx_11, cx_12, cx_22, cx_23, cx_24, cx_32] mTS mTC mRU cx_33 [(2, [0]), (17, [1]), (22, [2]), (31, [3]), (36, [4]), (45, [5]), (53, [6]), (75, [1])] [] [] (31, []) 54234 34 = true := by decide +kernel
theorem sn_33 {X : List Int32} : y_Snd mGa mLT (mJS X) X cx_33 := y_ok (fun _ _ _ => Iff.rfl) mTS_ok mTC_ok mRU_ok (List.forall_mem_cons.mpr ⟨sn_8, List.forall_mem_cons.mpr ⟨sn_11, List.forall_mem_cons.mpr ⟨sn_12, List.forall_mem_cons.mpr ⟨sn_22, List.forall_mem_cons.mpr ⟨sn_23, List.forall_mem_cons.mpr ⟨sn_24, List.forall_mem_cons.mpr ⟨sn_32, fun _ h => absurd h List.not_mem_nil⟩⟩⟩⟩⟩⟩⟩) ck_33
/-- Tape.step -/
def cx_34 : zCtx := (127, ([(0, 3072), ((-1), 399)], [(1, false)], [], [], [(2, 0, 0, [])], [(0, (false, 4, 0, []), 0, 0, 0, [(1, 1)])], []), [([(0, 3072), ((-1), 399)], [(1, false)], [], [], [], [(0, (false, 4, 0, []), 0, 0, 1, [(1, 1)])], [])], [(1, false, 4), (1, false, 6), (1, false, 7), (1, false, 8)], 32, 0, 0)
set_option maxRecDepth 1000000 in
theorem ck_34 : x_ok mLT [] mTS mTC mRU cx_34 [] [] [] (32, []) 0 35 = true := by decide +kernel
theorem sn_34 {X : List Int32} : y_Snd mGa mLT (mJS X) X cx_34 := y_ok (fun _ _ _ => Iff.rfl) mTS_ok mTC_ok mRU_ok (fun _ h => absurd h List.not_mem_nil) ck_34
/-- Tape.scan -/
def cx_35 : zCtx := (115, ([(0, 3072), ((-1), 400), (0, 2000)], [(1, false)], [], [], [(2, 0, 0, [])], [(0, (false, 4, 0, []), 0, 0, 0, [(1, 1)]), (0, (false, 5, 0, []), 0, 0, 0, [(2, 1)])], []), [([(0, 3072), ((-1), 400), (0, 2000)], [(1, false)], [], [], [], [(0, (false, 4, 0, []), 0, 0, 0, [])], [])], [(1, false, 4), (1, false, 6), (1, false, 7), (1, false, 8), (14, true, 0), (15, true, 0), (16, true, 0)], 63504, 8, 183)
set_option maxRecDepth 1000000 in
theorem ck_35 : x_ok mLT [cx_10, cx_33, cx_34] mTS mTC mRU cx_35 [(19, [0]), (28, [1]), (56, [2])] [] [(6, ([(0, 3072), ((-1), 400), (0, 2000), (0, 2000), (0, 1), (0, 401)], [(1, false)], [], [(2, 0, 0, []), (0, 0, 0, [(3, 1)]), (0, 0, 0, [(4, 1)]), (0, 0, 0, [(5, 1)]), (5, 0, 0, [])], [], [(0, (false, 4, 0, []), 0, 0, 0, [(1, 1)]), (0, (false, 5, 0, []), 0, 0, 0, [(2, 1)])], []), (9232, [(5, (-23))]))] (9239, []) 54265 25 = true := by decide +kernel
theorem sn_35 {X : List Int32} : y_Snd mGa mLT (mJS X) X cx_35 := y_ok (fun _ _ _ => Iff.rfl) mTS_ok mTC_ok mRU_ok (List.forall_mem_cons.mpr ⟨sn_10, List.forall_mem_cons.mpr ⟨sn_33, List.forall_mem_cons.mpr ⟨sn_34, fun _ h => absurd h List.not_mem_nil⟩⟩⟩) ck_35
/-- Tape.isBeyondRoom -/
def cx_36 : zCtx := (128, ([(0, 3072), ((-1), 400)], [(1, false)], [], [], [(2, 0, 0, [])], [(0, (false, 4, 0, []), 0, 0, 0, [(1, 1)])], []), [([(0, 3072), (400, 400)], [(1, false)], [], [], [(0, 0, 1, [])], [], []), ([(0, 3072), ((-1), 399)], [(1, false)], [], [], [(0, 0, 0, [])], [], [])], [], 7, 0, 0)
set_option maxRecDepth 1000000 in
theorem ck_36 : x_ok mLT [] mTS mTC mRU cx_36 [] [] [] (7, []) 0 10 = true := by decide +kernel
theorem sn_36 {X : List Int32} : y_Snd mGa mLT (mJS X) X cx_36 := y_ok (fun _ _ _ => Iff.rfl) mTS_ok mTC_ok mRU_ok (fun _ h => absurd h List.not_mem_nil) ck_36
/-- Parser.take -/
def cx_37 : zCtx := (56, ([(0, 3072), ((-2147483648), 2147483647)], [(4, false)], [], [], [(2, 0, 0, []), (0, 0, 0, [(1, 1)])], [], []), [([(0, 3072), ((-2147483648), 2147483647)], [(4, false)], [], [], [(0, 0, 0, [])], [], []), ([(0, 3072), ((-2147483648), 2147483647)], [(4, false)], [], [], [(0, 0, 1, [])], [], [])], [(1, false, 4), (1, false, 6), (1, false, 7), (1, false, 8), (4, false, 2)], 53, 1, 21)
set_option maxRecDepth 1000000 in
theorem ck_37 : x_ok mLT [cx_36, cx_34] mTS mTC mRU cx_37 [(32, [0]), (50, [1])] [] [] (21, []) 32 24 = true := by decide +kernel
theorem sn_37 {X : List Int32} : y_Snd mGa mLT (mJS X) X cx_37 := y_ok (fun _ _ _ => Iff.rfl) mTS_ok mTC_ok mRU_ok (List.forall_mem_cons.mpr ⟨sn_36, List.forall_mem_cons.mpr ⟨sn_34, fun _ h => absurd h List.not_mem_nil⟩⟩) ck_37
/-- Text.houseNamed -/
def cx_38 : zCtx := (131, ([(0, 3072), (0, 6)], [(2, false)], [], [], [(2, 0, 0, []), (1, 0, 0, [])], [(0, (false, 5, 0, []), 0, 0, 0, [(1, 1)])], []), [([(0, 3072), (1, 6), (0, 5)], [(2, false)], [((-1), [(1, 1), (2, (-1))])], [], [(0, 0, 0, [(2, 1)])], [], []), ([(0, 3072), (0, 6)], [(2, false)], [], [], [(0, 0, (-1), [])], [], [])], [], 111, 0, 0)
set_option maxRecDepth 1000000 in
theorem ck_38 : x_ok mLT [] mTS mTC mRU cx_38 [] [] [(2, ([(0, 3072), (0, 6), (0, 6)], [(2, false)], [], [(2, 0, 0, []), (1, 0, 0, []), (5, 0, 0, []), (0, 0, 0, [(2, 1)])], [], [(0, (false, 5, 0, []), 0, 0, 0, [(1, 1)])], []), (108, [(2, (-17))]))] (111, []) 0 19 = true := by decide +kernel
theorem sn_38 {X : List Int32} : y_Snd mGa mLT (mJS X) X cx_38 := y_ok (fun _ _ _ => Iff.rfl) mTS_ok mTC_ok mRU_ok (fun _ h => absurd h List.not_mem_nil) ck_38
/-- Parser.failLater -/
def cx_39 : zCtx := (57, ([(0, 3072), (3, 5), ((-2147483648), 2147483647)], [(4, false)], [], [], [(2, 0, 0, []), (0, 0, 0, [(1, 1)]), (0, 0, 0, [(2, 1)])], [], []), [([(0, 3072), (3, 5), ((-2147483648), 2147483647)], [(4, false)], [], [], [], [], [])], [(4, false, 3), (4, false, 4)], 10, 0, 0)
set_option maxRecDepth 1000000 in
theorem ck_39 : x_ok mLT [] mTS mTC mRU cx_39 [] [] [] (10, []) 0 13 = true := by decide +kernel
theorem sn_39 {X : List Int32} : y_Snd mGa mLT (mJS X) X cx_39 := y_ok (fun _ _ _ => Iff.rfl) mTS_ok mTC_ok mRU_ok (fun _ h => absurd h List.not_mem_nil) ck_39
/-- Parser.takeInt -/
def cx_40 : zCtx := (58, ([(0, 3072), (0, 1), (9, 9999)], [(4, false)], [], [], [(2, 0, 0, []), (0, 0, 0, [(1, 1)]), (0, 0, 0, [(2, 1)])], [], []), [([(0, 3072), (0, 1), (9, 9999), (10, 2147483647)], [(4, false)], [((-1), [(2, (-1)), (3, 1)]), (0, [(1, (-1)), (3, 1)])], [], [(0, 0, 0, [(3, 1)])], [], []), ([(0, 3072), (0, 1), (9, 9999), (0, 9999)], [(4, false)], [(0, [(2, 1), (3, (-1))]), (0, [(1, (-1)), (3, 1)])], [], [(0, 0, 0, [(3, 1)])], [], []), ([(0, 3072), (0, 1), (9, 9999), ((-2147483648), 0)], [(4, false)], [((-1), [(1, 1), (3, (-1))])], [], [(0, 0, 0, [(3, 1)])], [], []), ([(0, 3072), (0, 1), (9, 9999), ((-2147483648), 2147483647)], [(4, false)], [], [], [(0, 0, 0, [(3, 1)])], [], [])], [(1, false, 4), (1, false, 6), (1, false, 7), (1, false, 8), (4, false, 2), (4, false, 3), (4, false, 4)], 78, 2, 42)
set_option maxRecDepth 1000000 in
theorem ck_40 : x_ok mLT [cx_37, cx_39] mTS mTC mRU cx_40 [(20, [0]), (40, [1])] [] [] (25, []) 53 28 = true := by decide +kernel
theorem sn_40 {X : List Int32} : y_Snd mGa mLT (mJS X) X cx_40 := y_ok (fun _ _ _ => Iff.rfl) mTS_ok mTC_ok mRU_ok (List.forall_mem_cons.mpr ⟨sn_37, List.forall_mem_cons.mpr ⟨sn_39, fun _ h => absurd h List.not_mem_nil⟩⟩) ck_40
/-- Text.addHouse -/
def cx_41 : zCtx := (132, ([(0, 3072), ((-2147483648), 2147483647), ((-2147483648), 2147483647), (0, 5)], [(2, false)], [], [], [(2, 0, 0, []), (1, 0, 0, []), (0, 0, 0, [(1, 1)]), (0, 0, 0, [(2, 1)])], [(0, (false, 5, 0, []), 0, 0, 0, [(3, 1)])], []), [([(0, 3072), ((-2147483648), 2147483647), ((-2147483648), 2147483647), (0, 5)], [(2, false)], [], [], [], [(0, (false, 5, 0, []), 0, 0, 1, [(3, 1)])], [])], [(2, false, 5), (17, true, 0), (19, true, 0), (20, true, 0)], 32, 0, 0)
set_option maxRecDepth 1000000 in
theorem ck_41 : x_ok mLT [] mTS mTC mRU cx_41 [] [] [] (32, []) 0 35 = true := by decide +kernel
theorem sn_41 {X : List Int32} : y_Snd mGa mLT (mJS X) X cx_41 := y_ok (fun _ _ _ => Iff.rfl) mTS_ok mTC_ok mRU_ok (fun _ h => absurd h List.not_mem_nil) ck_41
/-- Parser.parseHouse -/
def cx_42 : zCtx := (55, ([(0, 3072)], [(4, false)], [], [], [(2, 0, 0, [])], [], []), [([(0, 3072)], [(4, false)], [], [], [], [], [])], [(1, false, 4), (1, false, 6), (1, false, 7), (1, false, 8), (2, false, 5), (4, false, 2), (4, false, 3), (4, false, 4), (17, true, 0), (19, true, 0), (20, true, 0)], 162, 3, 66)
def cq_42 : List zCtx := [cx_37, cx_38, cx_39, cx_40, cx_41]
def cs_42 : List (Nat × List Nat) := [(22, [0]), (44, [0]), (55, [1]), (64, [2]), (71, [3]), (80, [3]), (88, [0]), (101, [4])]
def hs_42 : List (Nat × List Nat) := []
def ns_42 : List zN := []
set_option maxRecDepth 1000000 in
theorem ca_42 : x_okA mLT cq_42 mTS mTC mRU cx_42 cs_42 hs_42 ns_42 (51, []) 111 54 = true := by decide +kernel
set_option maxRecDepth 1000000 in
theorem cc_42 : x_okC mLT cq_42 mTS mTC mRU cx_42 cs_42 hs_42 ns_42 (51, []) 111 54 = true := by decide +kernel
theorem ck_42 : x_ok mLT cq_42 mTS mTC mRU cx_42 cs_42 hs_42 ns_42 (51, []) 111 54 = true := x_ok_of ca_42 (fun _ h => absurd h List.not_mem_nil) cc_42
theorem sn_42 {X : List Int32} : y_Snd mGa mLT (mJS X) X cx_42 := y_ok (fun _ _ _ => Iff.rfl) mTS_ok mTC_ok mRU_ok (List.forall_mem_cons.mpr ⟨sn_37, List.forall_mem_cons.mpr ⟨sn_38, List.forall_mem_cons.mpr ⟨sn_39, List.forall_mem_cons.mpr ⟨sn_40, List.forall_mem_cons.mpr ⟨sn_41, fun _ h => absurd h List.not_mem_nil⟩⟩⟩⟩⟩) ck_42
/-- Parser.takeHouse -/
def cx_43 : zCtx := (60, ([(0, 3072)], [(4, false)], [], [], [(2, 0, 0, [])], [], []), [([(0, 3072)], [(4, false)], [], [], [(0, 0, (-1), [])], [], []), ([(0, 3072), (0, 5)], [(4, false)], [], [], [(0, 0, 0, [(1, 1)])], [], [])], [(1, false, 4), (1, false, 6), (1, false, 7), (1, false, 8), (4, false, 2), (4, false, 3), (4, false, 4)], 134, 2, 42)
set_option maxRecDepth 1000000 in
theorem ck_43 : x_ok mLT [cx_38, cx_37, cx_39] mTS mTC mRU cx_43 [(11, [0]), (25, [1]), (38, [2])] [] [] (23, []) 111 26 = true := by decide +kernel
theorem sn_43 {X : List Int32} : y_Snd mGa mLT (mJS X) X cx_43 := y_ok (fun _ _ _ => Iff.rfl) mTS_ok mTC_ok mRU_ok (List.forall_mem_cons.mpr ⟨sn_38, List.forall_mem_cons.mpr ⟨sn_37, List.forall_mem_cons.mpr ⟨sn_39, fun _ h => absurd h List.not_mem_nil⟩⟩⟩) ck_43
/-- Text.isIn -/
def cx_44 : zCtx := (134, ([(0, 3072), ((-2147483648), 2147483647)], [], [], [], [(0, 0, 0, [(1, 1)])], [], []), [([(0, 3072), (0, 5)], [], [], [], [(0, 0, 1, [])], [], []), ([(0, 3072), (6, 2147483647)], [], [], [], [(0, 0, 0, [])], [], []), ([(0, 3072), ((-2147483648), (-1))], [], [], [], [(0, 0, 0, [])], [], [])], [], 8, 0, 0)
set_option maxRecDepth 1000000 in
theorem ck_44 : x_ok mLT [] mTS mTC mRU cx_44 [] [] [] (8, []) 0 11 = true := by decide +kernel
theorem sn_44 {X : List Int32} : y_Snd mGa mLT (mJS X) X cx_44 := y_ok (fun _ _ _ => Iff.rfl) mTS_ok mTC_ok mRU_ok (fun _ h => absurd h List.not_mem_nil) ck_44
/-- Text.setLike -/
def cx_45 : zCtx := (133, ([(0, 3072), ((-1), 5), ((-1), 5), ((-2147483648), 2147483647)], [(2, false)], [], [], [(2, 0, 0, []), (0, 0, 0, [(1, 1)]), (0, 0, 0, [(2, 1)]), (0, 0, 0, [(3, 1)])], [], []), [([(0, 3072), ((-1), (-1)), ((-1), 5), ((-2147483648), 2147483647)], [(2, false)], [], [], [], [], []), ([(0, 3072), (0, 5), ((-1), (-1)), ((-2147483648), 2147483647)], [(2, false)], [], [], [], [], []), ([(0, 3072), (0, 5), (0, 5), ((-2147483648), 2147483647)], [(2, false)], [], [], [], [], [])], [(18, true, 0)], 33, 1, 20)
set_option maxRecDepth 1000000 in
theorem ck_45 : x_ok mLT [cx_44] mTS mTC mRU cx_45 [(1, [0]), (8, [0])] [] [] (25, []) 8 28 = true := by decide +kernel
theorem sn_45 {X : List Int32} : y_Snd mGa mLT (mJS X) X cx_45 := y_ok (fun _ _ _ => Iff.rfl) mTS_ok mTC_ok mRU_ok (List.forall_mem_cons.mpr ⟨sn_44, fun _ h => absurd h List.not_mem_nil⟩) ck_45
/-- Parser.parseLikes -/
def cx_46 : zCtx := (59, ([(0, 3072)], [(4, false)], [], [], [(2, 0, 0, [])], [], []), [([(0, 3072)], [(4, false)], [], [], [], [], [])], [(1, false, 4), (1, false, 6), (1, false, 7), (1, false, 8), (2, false, 6), (4, false, 2), (4, false, 3), (4, false, 4), (18, true, 0)], 185, 3, 66)
set_option maxRecDepth 1000000 in
theorem ck_46 : x_ok mLT [cx_37, cx_43, cx_39, cx_40, cx_45] mTS mTC mRU cx_46 [(22, [0]), (27, [1]), (40, [1]), (56, [2]), (63, [3]), (71, [0]), (96, [4])] [] [] (51, []) 134 54 = true := by decide +kernel
theorem sn_46 {X : List Int32} : y_Snd mGa mLT (mJS X) X cx_46 := y_ok (fun _ _ _ => Iff.rfl) mTS_ok mTC_ok mRU_ok (List.forall_mem_cons.mpr ⟨sn_37, List.forall_mem_cons.mpr ⟨sn_43, List.forall_mem_cons.mpr ⟨sn_39, List.forall_mem_cons.mpr ⟨sn_40, List.forall_mem_cons.mpr ⟨sn_45, fun _ h => absurd h List.not_mem_nil⟩⟩⟩⟩⟩) ck_46
/-- Parser.parseNumber -/
def cx_47 : zCtx := (61, ([(0, 3072), (0, 1), (99, 9999)], [(4, false)], [], [], [(2, 0, 0, []), (0, 0, 0, [(1, 1)]), (0, 0, 0, [(2, 1)])], [], []), [([(0, 3072), (0, 1), (99, 9999), ((-2147483648), 2147483647)], [(4, false)], [], [], [(0, 0, 0, [(3, 1)])], [], [])], [(1, false, 4), (1, false, 6), (1, false, 7), (1, false, 8), (4, false, 2), (4, false, 3), (4, false, 4)], 95, 3, 66)
set_option maxRecDepth 1000000 in
theorem ck_47 : x_ok mLT [cx_37, cx_40] mTS mTC mRU cx_47 [(8, [0]), (15, [1]), (22, [0])] [] [] (17, []) 78 20 = true := by decide +kernel
theorem sn_47 {X : List Int32} : y_Snd mGa mLT (mJS X) X cx_47 := y_ok (fun _ _ _ => Iff.rfl) mTS_ok mTC_ok mRU_ok (List.forall_mem_cons.mpr ⟨sn_37, List.forall_mem_cons.mpr ⟨sn_40, fun _ h => absurd h List.not_mem_nil⟩⟩) ck_47
