noncomputable section
/-! ===== readings, by program, checked by the kernel ===== -/
/-- HairRope.undo -/
def cx_247 : zCtx := (155, ([(0, 3072), (0, 6), (0, 39), (0, 40), (0, 6), ((-2147483648), 2147483647), ((-2147483648), 2147483647)], [(0, false), (6, false), (7, false)], [], [], [(2, 0, 0, [])], [(0, (false, 3, 0, []), 2, 1, 0, []), (0, (false, 4, 0, []), 2, 2, 0, []), (1, (false, 5, 0, []), 0, 0, 0, [(1, 1)]), (2, (false, 2, 0, []), 0, 0, 0, [(2, 1)]), (2, (false, 3, 0, []), 0, 0, 0, [(3, 1)]), (1, (false, 6, 0, []), 0, 0, 0, [(4, 1)]), (1, (false, 7, 0, []), 0, 0, 0, [(5, 1)]), (1, (false, 8, 0, []), 0, 0, 0, [(6, 1)])], [(242, [(0, [(1, 1)]), (0, [(2, 1)]), (0, [(3, 1)]), (0, [])]), (235, [(0, [(1, 1)]), (0, [(4, 1)]), (0, [(5, 1)]), (0, [(6, 1)]), (0, []), (0, []), (0, []), (0, []), (0, []), (0, []), (0, [])])]), [([(0, 3072), (0, 6), (0, 39), (0, 40), (0, 6), ((-2147483648), 2147483647), ((-2147483648), 2147483647), (0, 6), ((-2147483648), 2147483647), ((-2147483648), 2147483647)], [(0, false), (6, false), (7, false)], [((-1), [(3, 1)])], [], [(0, 0, 1, [])], [(2, (false, 3, 0, []), 0, 0, (-1), [(3, 1)]), (1, (false, 5, 0, []), 0, 0, 0, [(1, 1)]), (1, (false, 6, 0, []), 0, 0, 0, [(7, 1)]), (1, (false, 7, 0, []), 0, 0, 0, [(8, 1)]), (1, (false, 8, 0, []), 0, 0, 0, [(9, 1)])], [(245, [(0, [(1, 1)]), (0, [(7, 1)]), (0, [(8, 1)]), (0, [(9, 1)]), ((-1), [(3, 1)])]), (242, [(0, [(1, 1)]), (0, [(2, 1)]), ((-1), [(3, 1)]), (0, [])])]), ([(0, 3072), (0, 6), (0, 39), (0, 40), (0, 6), ((-2147483648), 2147483647), ((-2147483648), 2147483647)], [(0, false), (6, false), (7, false)], [(0, [(3, (-1))])], [], [(0, 0, 0, [])], [(2, (false, 3, 0, []), 0, 0, 0, [(3, 1)]), (1, (false, 5, 0, []), 0, 0, 0, [(1, 1)]), (1, (false, 6, 0, []), 0, 0, 0, [(4, 1)]), (1, (false, 7, 0, []), 0, 0, 0, [(5, 1)]), (1, (false, 8, 0, []), 0, 0, 0, [(6, 1)])], [(235, [(0, [(1, 1)]), (0, [(4, 1)]), (0, [(5, 1)]), (0, [(6, 1)]), (0, []), (0, []), (0, []), (0, []), (0, []), (0, []), (0, [])])])], kc_54, 88, 3, 107)
set_option maxRecDepth 1000000 in
theorem ck_247 : x_ok mLT1 [cx_246] mTS2 mTC2 mRUp cx_247 [(8, [0])] [] [] (6, []) 82 9 = true := by decide +kernel
theorem sn_247 {W : Bool} {X : List Int32} : y_Snd (mGw W) mLT1 (J2 W X) X cx_247 := y_ok J2_J mTS2_ok1 mTC2_ok1 mRUp_ok1 (List.forall_mem_cons.mpr ⟨sn_246, fun _ h => absurd h List.not_mem_nil⟩) ck_247
/-- Text.likeOf -/
def cx_248 : zCtx := (135, ([(0, 3072), ((-2147483648), 2147483647), ((-2147483648), 2147483647)], [(2, false), (18, false)], [], [], [(2, 0, 0, []), (0, 0, 0, [(1, 1)]), (0, 0, 0, [(2, 1)])], [(0, (false, 1, 0, []), 2, 1, 0, [])], []), [([(0, 3072), ((-2147483648), (-1)), ((-2147483648), 2147483647)], [(2, false), (18, false)], [], [], [(0, 0, 5, [])], [], []), ([(0, 3072), (6, 2147483647), ((-2147483648), 2147483647)], [(2, false), (18, false)], [], [], [(0, 0, 5, [])], [], []), ([(0, 3072), (0, 5), ((-2147483648), (-1))], [(2, false), (18, false)], [], [], [(0, 0, 5, [])], [], []), ([(0, 3072), (0, 5), (6, 2147483647)], [(2, false), (18, false)], [], [], [(0, 0, 5, [])], [], []), ([(0, 3072), (0, 5), (0, 5), ((-2147483648), 2147483647)], [(2, false), (18, false)], [], [], [(0, 0, 0, [(3, 1)])], [], [])], [], 24, 1, 20)
set_option maxRecDepth 1000000 in
theorem ck_248 : x_ok mLT1 [cx_51] mTS2 mTC2 mRUp cx_248 [(1, [0]), (8, [0])] [(25, [1000464])] [] (16, []) 8 19 = true := by decide +kernel
theorem sn_248 {W : Bool} {X : List Int32} : y_Snd (mGw W) mLT1 (J2 W X) X cx_248 := y_ok J2_J mTS2_ok1 mTC2_ok1 mRUp_ok1 (List.forall_mem_cons.mpr ⟨sn1_51, fun _ h => absurd h List.not_mem_nil⟩) ck_248
/-- State.placeOf -/
def cx_249 : zCtx := (101, ([(0, 3072), ((-2147483648), 2147483647), (0, 6)], [(6, false)], [], [], [(2, 0, 0, []), (0, 0, 0, [(1, 1)])], [(0, (false, 6, 0, []), 0, 0, 0, [(2, 1)])], []), [([(0, 3072), ((-2147483648), 2147483647), (1, 6), (0, 5)], [(6, false)], [((-1), [(2, 1), (3, (-1))])], [], [(0, 0, 0, [(3, 1)])], [], []), ([(0, 3072), ((-2147483648), 2147483647), (0, 6)], [(6, false)], [], [], [(0, 0, (-1), [])], [], [])], [], 105, 0, 0)
set_option maxRecDepth 1000000 in
theorem ck_249 : x_ok mLT1 [] mTS2 mTC2 mRUp cx_249 [] [] [(2, ([(0, 3072), ((-2147483648), 2147483647), (0, 6), (0, 6)], [(6, false)], [], [(2, 0, 0, []), (0, 0, 0, [(1, 1)]), (0, 0, 0, [(3, 1)])], [], [(0, (false, 6, 0, []), 0, 0, 0, [(2, 1)])], []), (102, [(3, (-16))]))] (105, []) 0 18 = true := by decide +kernel
theorem sn_249 {W : Bool} {X : List Int32} : y_Snd (mGw W) mLT1 (J2 W X) X cx_249 := y_ok J2_J mTS2_ok1 mTC2_ok1 mRUp_ok1 (fun _ h => absurd h List.not_mem_nil) ck_249
/-- Rules.strongOf -/
def cx_250 : zCtx := (89, ([(0, 3072), ((-2147483648), 2147483647), ((-1), 5)], [(5, false), (6, false)], [], [], [(2, 0, 0, []), (2, 1, 0, []), (0, 0, 0, [(1, 1)]), (0, 0, 0, [(2, 1)])], [], []), [([(0, 3072), ((-2147483648), 2147483647), ((-1), 5), ((-2147483648), 2147483647)], [(5, false), (6, false)], [], [], [(0, 0, 0, [(3, 1)])], [], [])], [], 14, 0, 0)
set_option maxRecDepth 1000000 in
theorem ck_250 : x_ok mLT1 [] mTS2 mTC2 mRUp cx_250 [] [] [] (14, []) 0 17 = true := by decide +kernel
theorem sn_250 {W : Bool} {X : List Int32} : y_Snd (mGw W) mLT1 (J2 W X) X cx_250 := y_ok J2_J mTS2_ok1 mTC2_ok1 mRUp_ok1 (fun _ h => absurd h List.not_mem_nil) ck_250
/-- Rules.lookAt -/
def cx_251 : zCtx := (88, ([(0, 3072), ((-2147483648), 2147483647), ((-1), 5)], [(5, false), (6, false), (26, false)], [], [], [(2, 0, 0, []), (2, 1, 0, []), (0, 0, 0, [(1, 1)]), (0, 0, 0, [(2, 1)])], [(0, (false, 1, 0, []), 2, 2, 0, [])], []), [([(0, 3072), ((-2147483648), 2147483647), ((-1), 5)], [(5, false), (6, false), (26, false)], [], [], [], [], [])], [(26, true, 0)], 79, 1, 64)
set_option maxRecDepth 1000000 in
theorem ck_251 : x_ok mLT1 [cx_250] mTS2 mTC2 mRUp cx_251 [(32, [0])] [] [] (65, []) 14 68 = true := by decide +kernel
theorem sn_251 {W : Bool} {X : List Int32} : y_Snd (mGw W) mLT1 (J2 W X) X cx_251 := y_ok J2_J mTS2_ok1 mTC2_ok1 mRUp_ok1 (List.forall_mem_cons.mpr ⟨sn_250, fun _ h => absurd h List.not_mem_nil⟩) ck_251
/-- Rules.joinOf -/
def cx_252 : zCtx := (90, ([(0, 3072), ((-2147483648), 2147483647), ((-2147483648), 2147483647), ((-2147483648), 2147483647)], [(5, false), (6, false)], [], [], [(2, 0, 0, []), (2, 1, 0, []), (0, 0, 0, [(1, 1)]), (0, 0, 0, [(2, 1)]), (0, 0, 0, [(3, 1)])], [], []), [([(0, 3072), ((-2147483648), 2147483647), ((-2147483648), 2147483647), ((-2147483648), 2147483647), (0, 999)], [(5, false), (6, false)], [], [], [(0, 0, 0, [(4, 1)])], [], [])], [(24, true, 0), (26, true, 0)], 52984, 2, 87)
set_option maxRecDepth 1000000 in
theorem ck_252 : x_ok mLT1 [cx_249, cx_251, cx_250, cx_136] mTS2 mTC2 mRUp cx_252 [(5, [0]), (8, [1]), (30, [0]), (33, [2]), (53, [3])] [] [] (35, []) 52949 38 = true := by decide +kernel
theorem sn_252 {W : Bool} {X : List Int32} : y_Snd (mGw W) mLT1 (J2 W X) X cx_252 := y_ok J2_J mTS2_ok1 mTC2_ok1 mRUp_ok1 (List.forall_mem_cons.mpr ⟨sn_249, List.forall_mem_cons.mpr ⟨sn_251, List.forall_mem_cons.mpr ⟨sn_250, List.forall_mem_cons.mpr ⟨sn_136, fun _ h => absurd h List.not_mem_nil⟩⟩⟩⟩) ck_252
/-- Rules.joinAbove -/
def cx_253 : zCtx := (92, ([(0, 3072), (1, 5)], [(5, false), (6, false)], [], [], [(2, 0, 0, []), (2, 1, 0, []), (0, 0, 0, [(1, 1)])], [], []), [([(0, 3072), (1, 5), (0, 999)], [(5, false), (6, false)], [], [], [(0, 0, 0, [(2, 1)])], [], [])], [(24, true, 0), (26, true, 0)], 53013, 3, 111)
set_option maxRecDepth 1000000 in
theorem ck_253 : x_ok mLT1 [cx_248, cx_252] mTS2 mTC2 mRUp cx_253 [(42, [0]), (45, [1])] [] [] (29, []) 52984 32 = true := by decide +kernel
theorem sn_253 {W : Bool} {X : List Int32} : y_Snd (mGw W) mLT1 (J2 W X) X cx_253 := y_ok J2_J mTS2_ok1 mTC2_ok1 mRUp_ok1 (List.forall_mem_cons.mpr ⟨sn_248, List.forall_mem_cons.mpr ⟨sn_252, fun _ h => absurd h List.not_mem_nil⟩⟩) ck_253
/-- Rules.weigh -/
def cx_254 : zCtx := (91, ([(0, 3072), ((-2147483648), 2147483647)], [(5, false), (6, false)], [], [], [(2, 0, 0, []), (2, 1, 0, [])], [(0, (false, 2, 0, []), 0, 0, 0, [(1, 1)])], []), [([(0, 3072), ((-2147483648), 2147483647), (0, 11)], [(5, false), (6, false)], [], [], [], [(0, (false, 2, 0, []), 0, 0, 0, [(2, 1)])], [])], [(5, false, 2), (24, true, 0), (25, true, 0), (26, true, 0)], 53276, 4, 135)
set_option maxRecDepth 1000000 in
theorem ck_254 : x_ok mLT1 [cx_253] mTS2 mTC2 mRUp cx_254 [(75, [0])] [] [(30, ([(0, 3072), ((-2147483648), 2147483647), ((-2147483648), 2147483647), ((-1), 5), (0, 11), (0, 6)], [(5, false), (6, false)], [], [(2, 0, 0, []), (2, 1, 0, []), (0, 0, 0, [(2, 1)]), (0, 0, 0, [(3, 1)])], [], [(0, (false, 2, 0, []), 0, 0, 0, [(4, 1)]), (1, (false, 6, 0, []), 0, 0, 0, [(5, 1)])], []), (43, [(3, 40)]))] (263, []) 53013 42 = true := by decide +kernel
theorem sn_254 {W : Bool} {X : List Int32} : y_Snd (mGw W) mLT1 (J2 W X) X cx_254 := y_ok J2_J mTS2_ok1 mTC2_ok1 mRUp_ok1 (List.forall_mem_cons.mpr ⟨sn_253, fun _ h => absurd h List.not_mem_nil⟩) ck_254
/-- Rules.greatestHaul -/
def cx_255 : zCtx := (98, ([(0, 3072), (0, 11)], [(5, false)], [], [], [(2, 0, 0, [])], [(0, (false, 2, 0, []), 0, 0, 0, [(1, 1)])], []), [([(0, 3072), (0, 11)], [(5, false)], [], [], [(0, 0, (-2), [])], [], []), ([(0, 3072), (0, 11), (0, 999)], [(5, false)], [], [], [(0, 0, 0, [(2, 1)])], [], [])], [], 388, 1, 64)
set_option maxRecDepth 1000000 in
theorem ck_255 : x_ok mLT1 [] mTS2 mTC2 mRUp cx_255 [] [] [(6, ([(0, 3072), (0, 11), ((-2147483648), 999), (0, 22)], [(5, false)], [], [(2, 0, 0, []), (0, 0, 0, [(2, 1)]), (0, 0, 0, [(3, 1)])], [], [(0, (false, 2, 0, []), 0, 0, 0, [(1, 1)])], []), (383, [(3, (-17))]))] (388, []) 0 19 = true := by decide +kernel
theorem sn_255 {W : Bool} {X : List Int32} : y_Snd (mGw W) mLT1 (J2 W X) X cx_255 := y_ok J2_J mTS2_ok1 mTC2_ok1 mRUp_ok1 (fun _ h => absurd h List.not_mem_nil) ck_255
/-- HairRope.most -/
def cx_256 : zCtx := (156, ([(0, 3072)], [(0, false)], [], [], [(2, 0, 0, [])], [], []), [([(0, 3072), (0, 999)], [(0, false)], [], [], [(0, 0, 0, [(1, 1)])], [], []), ([(0, 3072)], [(0, false)], [], [], [(0, 0, (-2), [])], [], [])], [(5, false, 2), (24, true, 0), (25, true, 0), (26, true, 0)], 53285, 5, 158)
set_option maxRecDepth 1000000 in
theorem ck_256 : x_ok mLT1 [cx_254, cx_255] mTS2 mTC2 mRUp cx_256 [(8, [0]), (15, [1])] [] [] (9, []) 53276 12 = true := by decide +kernel
theorem sn_256 {W : Bool} {X : List Int32} : y_Snd (mGw W) mLT1 (J2 W X) X cx_256 := y_ok J2_J mTS2_ok1 mTC2_ok1 mRUp_ok1 (List.forall_mem_cons.mpr ⟨sn_254, List.forall_mem_cons.mpr ⟨sn_255, fun _ h => absurd h List.not_mem_nil⟩⟩) ck_256
/-- HairRope.weakest -/
def cx_257 : zCtx := (157, ([(0, 3072), ((-2147483648), 2147483647)], [(0, false)], [], [], [(2, 0, 0, []), (0, 0, 0, [(1, 1)])], [], []), [([(0, 3072), (2, 2147483647)], [(0, false)], [], [], [(0, 0, (-1), [])], [], []), ([(0, 3072), (0, 1)], [(0, false)], [], [], [(0, 0, (-2), [])], [], []), ([(0, 3072), (0, 0), (0, 5)], [(0, false)], [], [], [(0, 0, 0, [(2, 1)])], [], []), ([(0, 3072), (1, 1), (0, 1)], [(0, false)], [], [], [(0, 0, 0, [(2, 1)])], [], []), ([(0, 3072), ((-2147483648), (-1))], [(0, false)], [], [], [(0, 0, (-1), [])], [], [])], [(5, false, 2), (24, true, 0), (25, true, 0), (26, true, 0)], 53307, 5, 158)
set_option maxRecDepth 1000000 in
theorem ck_257 : x_ok mLT1 [cx_254, cx_255, cx_198, cx_199] mTS2 mTC2 mRUp cx_257 [(19, [0]), (26, [1]), (45, [2]), (61, [3])] [] [] (31, []) 53276 34 = true := by decide +kernel
theorem sn_257 {W : Bool} {X : List Int32} : y_Snd (mGw W) mLT1 (J2 W X) X cx_257 := y_ok J2_J mTS2_ok1 mTC2_ok1 mRUp_ok1 (List.forall_mem_cons.mpr ⟨sn_254, List.forall_mem_cons.mpr ⟨sn_255, List.forall_mem_cons.mpr ⟨sn_198, List.forall_mem_cons.mpr ⟨sn_199, fun _ h => absurd h List.not_mem_nil⟩⟩⟩⟩) ck_257
def cx_258pr_0 (t : List (Nat × Bool)) : List (Nat × Bool) := (0, false) :: (5, false) :: (2, false) :: (3, false) :: (6, false) :: (27, false) :: (28, false) :: (29, false) :: t
def cx_258pr_1 (t : List (Nat × Bool)) : List (Nat × Bool) := (30, false) :: (31, false) :: t
def cx_258pf_0 (t : List zFa) : List zFa := (0, (false, 2, 0, []), 2, 1, 0, []) :: (1, (false, 3, 0, []), 2, 2, 0, []) :: (2, (false, 4, 0, []), 2, 3, 0, []) :: (3, (false, 4, 0, []), 0, 0, 0, [(2, 1)]) :: (2, (false, 5, 0, []), 0, 0, 0, [(3, 1)]) :: (0, (false, 3, 0, []), 2, 4, 0, []) :: (4, (false, 5, 0, []), 0, 0, 0, [(3, 1)]) :: (4, (false, 6, 0, []), 0, 0, 0, [(4, 1)]) :: t
def cx_258pf_1 (t : List zFa) : List zFa := (4, (false, 7, 0, []), 0, 0, 0, [(5, 1)]) :: (4, (false, 8, 0, []), 0, 0, 0, [(6, 1)]) :: (4, (false, 0, 0, []), 2, 5, 0, []) :: (4, (false, 1, 0, []), 2, 6, 0, []) :: (4, (false, 2, 0, []), 2, 7, 0, []) :: (4, (false, 3, 0, []), 2, 8, 0, []) :: (4, (false, 4, 0, []), 2, 9, 0, []) :: t
def cx_258p : zS := ([(0, 3072), ((-2147483648), 2147483647), (0, 432), (0, 6), (0, 6), ((-2147483648), 2147483647), ((-2147483648), 2147483647)], (cx_258pr_0 (cx_258pr_1 [])), [], [], [(2, 0, 0, []), (0, 0, 0, [(1, 1)])], (cx_258pf_0 (cx_258pf_1 [])), [(235, [(0, [(3, 1)]), (0, [(4, 1)]), (0, [(5, 1)]), (0, [(6, 1)]), (0, []), (0, []), (0, []), (0, []), (0, []), (0, []), (0, [])])])
def cx_258q2 : zS := ([(0, 3072), ((-2147483648), 2147483647), (0, 432), (0, 6), (0, 6), ((-2147483648), 2147483647), ((-2147483648), 2147483647), (0, 999)], (cx_258pr_0 (cx_258pr_1 [])), [(0, [(1, 1)]), ((-1), [(1, (-1)), (4, 1)])], [], [(0, 0, 0, [(7, 1)])], [(4, (false, 5, 0, []), 0, 0, 0, [(3, 1)]), (4, (false, 6, 0, []), 0, 0, 0, [(4, 1)]), (4, (false, 7, 0, []), 0, 0, 0, [(5, 1)]), (4, (false, 8, 0, []), 0, 0, 0, [(6, 1)])], [(235, [(0, [(3, 1)]), (0, [(4, 1)]), (0, [(5, 1)]), (0, [(6, 1)]), (0, []), (0, []), (0, []), (0, []), (0, []), (0, []), (0, [])]), (260, [(1, []), (0, []), (0, []), (0, []), (0, []), (0, []), (0, []), (0, []), (1, [(1, 1)]), (0, [(4, 1)]), (0, [(7, 1)])])])
/-- HairRope.below -/
def cx_258 : zCtx := (158, cx_258p, [([(0, 3072), ((-2147483648), 2147483647), (0, 432), (0, 6), (0, 6), ((-2147483648), 2147483647), ((-2147483648), 2147483647)], [(0, false), (5, false), (2, false), (3, false), (6, false), (27, false), (28, false), (29, false), (30, false), (31, false)], [((-1), [(1, (-1))])], [], [(0, 0, (-1), [])], [(4, (false, 5, 0, []), 0, 0, 0, [(3, 1)]), (4, (false, 6, 0, []), 0, 0, 0, [(4, 1)]), (4, (false, 7, 0, []), 0, 0, 0, [(5, 1)]), (4, (false, 8, 0, []), 0, 0, 0, [(6, 1)])], [(235, [(0, [(3, 1)]), (0, [(4, 1)]), (0, [(5, 1)]), (0, [(6, 1)]), (0, []), (0, []), (0, []), (0, []), (0, []), (0, []), (0, [])])]), ([(0, 3072), ((-2147483648), 2147483647), (0, 432), (0, 6), (0, 6), ((-2147483648), 2147483647), ((-2147483648), 2147483647)], [(0, false), (5, false), (2, false), (3, false), (6, false), (27, false), (28, false), (29, false), (30, false), (31, false)], [(0, [(1, 1), (4, (-1))])], [], [(0, 0, (-1), [])], [(4, (false, 5, 0, []), 0, 0, 0, [(3, 1)]), (4, (false, 6, 0, []), 0, 0, 0, [(4, 1)]), (4, (false, 7, 0, []), 0, 0, 0, [(5, 1)]), (4, (false, 8, 0, []), 0, 0, 0, [(6, 1)])], [(235, [(0, [(3, 1)]), (0, [(4, 1)]), (0, [(5, 1)]), (0, [(6, 1)]), (0, []), (0, []), (0, []), (0, []), (0, []), (0, []), (0, [])])]), cx_258q2], [], 127, 2, 87)
set_option maxRecDepth 1000000 in
theorem ck_258 : x_ok mLT1 [cx_146, cx_191] mTS2 mTC2 mRUp cx_258 [(2, [0]), (13, [1])] [(16, [1000728, 1000728])] [] (10, []) 117 13 = true := by decide +kernel
theorem sn_258 {W : Bool} {X : List Int32} : y_Snd (mGw W) mLT1 (J2 W X) X cx_258 := y_ok J2_J mTS2_ok1 mTC2_ok1 mRUp_ok1 (List.forall_mem_cons.mpr ⟨sn_146, List.forall_mem_cons.mpr ⟨sn_191, fun _ h => absurd h List.not_mem_nil⟩⟩) ck_258
/-- Planner.addToSums -/
def cx_259 : zCtx := (69, ([(0, 3072), (1, 32), ((-2147483648), 2147483647)], [(9, false)], [], [], [(2, 0, 0, []), (0, 0, 0, [(1, 1)]), (0, 0, 0, [(2, 1)])], [], []), [([(0, 3072), (1, 32), ((-2147483648), 2147483647)], [(9, false)], [], [], [], [], [])], [(40, true, 0)], 766, 0, 0)
set_option maxRecDepth 1000000 in
theorem ck_259 : x_ok mLT1 [] mTS2 mTC2 mRUp cx_259 [] [] [(2, ([(0, 3072), (1, 32), ((-2147483648), 2147483647), (0, 33)], [(9, false)], [], [(2, 0, 0, []), (0, 0, 0, [(1, 1)]), (0, 0, 0, [(2, 1)]), (0, 0, 0, [(3, 1)])], [], [], []), (763, [(3, (-23))]))] (766, []) 0 25 = true := by decide +kernel
theorem sn_259 {W : Bool} {X : List Int32} : y_Snd (mGw W) mLT1 (J2 W X) X cx_259 := y_ok J2_J mTS2_ok1 mTC2_ok1 mRUp_ok1 (fun _ h => absurd h List.not_mem_nil) ck_259
/-- Planner.lookAtHouses -/
def cx_260 : zCtx := (68, ([(0, 3072), (0, 63)], [(9, false), (6, false)], [], [], [(2, 0, 0, []), (2, 1, 0, [])], [(0, (false, 10, 0, []), 0, 0, 0, [(1, 1)])], []), [([(0, 3072), (0, 63), (0, 63)], [(9, false), (6, false)], [], [], [], [(0, (false, 10, 0, []), 0, 0, 0, [(2, 1)])], [])], [(9, false, 10), (34, true, 0), (40, true, 0)], 1085, 1, 23)
set_option maxRecDepth 1000000 in
theorem ck_260 : x_ok mLT1 [cx_249, cx_250, cx_259] mTS2 mTC2 mRUp cx_260 [(29, [0]), (66, [1]), (97, [2])] [] [(7, ([(0, 3072), (0, 63), (0, 6), (0, 63)], [(9, false), (6, false)], [], [(2, 0, 0, []), (2, 1, 0, []), (0, 0, 0, [(2, 1)]), (5, 0, 0, []), (5, 0, 0, [])], [], [(0, (false, 10, 0, []), 0, 0, 0, [(3, 1)])], []), (313, [(2, (-51))]))] (319, []) 766 53 = true := by decide +kernel
theorem sn_260 {W : Bool} {X : List Int32} : y_Snd (mGw W) mLT1 (J2 W X) X cx_260 := y_ok J2_J mTS2_ok1 mTC2_ok1 mRUp_ok1 (List.forall_mem_cons.mpr ⟨sn_249, List.forall_mem_cons.mpr ⟨sn_250, List.forall_mem_cons.mpr ⟨sn_259, fun _ h => absurd h List.not_mem_nil⟩⟩⟩) ck_260
/-- Planner.isAble -/
def cx_261 : zCtx := (71, ([(0, 3072), (0, 5), (0, 63)], [(9, false)], [], [], [(2, 0, 0, []), (0, 0, 0, [(1, 1)])], [(0, (false, 10, 0, []), 0, 0, 0, [(2, 1)])], []), [([(0, 3072), (0, 5), (0, 63)], [(9, false)], [], [], [(0, 0, 1, [])], [], []), ([(0, 3072), (0, 5), (0, 63)], [(9, false)], [], [], [(0, 0, 0, [])], [], [])], [], 10, 0, 0)
set_option maxRecDepth 1000000 in
theorem ck_261 : x_ok mLT1 [] mTS2 mTC2 mRUp cx_261 [] [] [] (10, []) 0 13 = true := by decide +kernel
theorem sn_261 {W : Bool} {X : List Int32} : y_Snd (mGw W) mLT1 (J2 W X) X cx_261 := y_ok J2_J mTS2_ok1 mTC2_ok1 mRUp_ok1 (fun _ h => absurd h List.not_mem_nil) ck_261
/-- Planner.findJoins -/
def cx_262 : zCtx := (70, ([(0, 3072), (0, 0), (0, 63)], [(9, false), (6, false), (35, false)], [], [], [(2, 0, 0, []), (2, 1, 0, []), (2, 2, 0, []), (0, 0, 0, [(1, 1)])], [(0, (false, 10, 0, []), 0, 0, 0, [(2, 1)])], []), [([(0, 3072), (0, 0), (0, 63)], [(9, false), (6, false), (35, false)], [], [], [], [], [])], [(24, true, 0), (26, true, 0), (35, true, 0)], 54866, 3, 111)
set_option maxRecDepth 1000000 in
theorem ck_262 : x_ok mLT1 [cx_261, cx_142, cx_252] mTS2 mTC2 mRUp cx_262 [(56, [0]), (65, [0]), (98, [1]), (117, [2])] [] [(3, ([(0, 3072), (0, 0), (0, 63), (0, 6)], [(9, false), (6, false), (35, false)], [], [(2, 0, 0, []), (2, 1, 0, []), (2, 2, 0, []), (0, 0, 0, [(1, 1)]), (0, 0, 0, [(3, 1)]), (5, 0, 0, []), (5, 0, 0, []), (5, 0, 0, [])], [], [(0, (false, 10, 0, []), 0, 0, 0, [(2, 1)])], []), (1879, [(1, (-100000000000)), (3, (-312))])), (21, ([(0, 3072), (0, 0), (0, 63), (0, 5), (0, 6), (1, 6)], [(9, false), (6, false), (35, false), (5, false), (2, false)], [], [(2, 0, 0, []), (2, 1, 0, []), (2, 2, 0, []), (0, 0, 0, [(1, 1)]), (0, 0, 0, [(3, 1)]), (0, 0, 0, [(4, 1)]), (5, 0, 0, []), (5, 0, 0, [])], [], [(0, (false, 0, 0, []), 2, 3, 0, []), (0, (false, 10, 0, []), 0, 0, 0, [(2, 1)]), (3, (false, 3, 0, []), 2, 4, 0, []), (4, (false, 5, 0, []), 0, 0, 0, [(5, 1)])], []), (1870, [(1, (-100000000000)), (3, (-312)), (4, (-49))]))] (1882, []) 52984 51 = true := by decide +kernel
theorem sn_262 {W : Bool} {X : List Int32} : y_Snd (mGw W) mLT1 (J2 W X) X cx_262 := y_ok J2_J mTS2_ok1 mTC2_ok1 mRUp_ok1 (List.forall_mem_cons.mpr ⟨sn_261, List.forall_mem_cons.mpr ⟨sn_142, List.forall_mem_cons.mpr ⟨sn_252, fun _ h => absurd h List.not_mem_nil⟩⟩⟩) ck_262
/-- Planner.lookAt -/
def cx_263 : zCtx := (67, ([(0, 3072), (0, 63)], [(9, false), (6, false)], [], [], [(2, 0, 0, []), (2, 1, 0, [])], [(0, (false, 10, 0, []), 0, 0, 0, [(1, 1)])], []), [([(0, 3072), (0, 63), (0, 63)], [(9, false), (6, false)], [], [], [], [(0, (false, 10, 0, []), 0, 0, 0, [(2, 1)])], [])], [(9, false, 10), (24, true, 0), (26, true, 0), (34, true, 0), (35, true, 0), (40, true, 0)], 54876, 4, 138)
set_option maxRecDepth 1000000 in
theorem ck_263 : x_ok mLT1 [cx_260, cx_262] mTS2 mTC2 mRUp cx_263 [(2, [0]), (12, [1])] [] [] (10, []) 54866 13 = true := by decide +kernel
theorem sn_263 {W : Bool} {X : List Int32} : y_Snd (mGw W) mLT1 (J2 W X) X cx_263 := y_ok J2_J mTS2_ok1 mTC2_ok1 mRUp_ok1 (List.forall_mem_cons.mpr ⟨sn_260, List.forall_mem_cons.mpr ⟨sn_262, fun _ h => absurd h List.not_mem_nil⟩⟩) ck_263
/-- Integer.bitCount -/
def cx_264 : zCtx := (1, ([(0, 3072), ((-2147483648), 2147483647)], [], [], [], [(0, 0, 0, [(1, 1)])], [], []), [([(0, 3072), ((-2147483648), 2147483647), (0, 63)], [], [], [], [(0, 0, 0, [(2, 1)])], [], [])], [], 42, 0, 0)
set_option maxRecDepth 1000000 in
theorem ck_264 : x_ok mLT1 [] mTS2 mTC2 mRUp cx_264 [] [] [] (42, []) 0 45 = true := by decide +kernel
theorem sn_264 {W : Bool} {X : List Int32} : y_Snd (mGw W) mLT1 (J2 W X) X cx_264 := y_ok J2_J mTS2_ok1 mTC2_ok1 mRUp_ok1 (fun _ h => absurd h List.not_mem_nil) ck_264
/-- Planner.powerOfSix -/
def cx_265 : zCtx := (75, ([(0, 3072), (0, 63)], [], [], [], [(0, 0, 0, [(1, 1)])], [], []), [([(0, 3072), (1, 63), ((-2147483648), 2147483647)], [], [], [], [(0, 0, 0, [(2, 1)])], [], []), ([(0, 3072), (0, 6), ((-2147483648), 2147483647)], [], [], [], [(0, 0, 0, [(2, 1)])], [], [])], [], 91, 0, 0)
set_option maxRecDepth 1000000 in
theorem ck_265 : x_ok mLT1 [] mTS2 mTC2 mRUp cx_265 [] [] [(4, ([(0, 3072), (0, 63), ((-2147483648), 2147483647), (0, 6)], [], [], [(0, 0, 0, [(1, 1)]), (0, 0, 0, [(2, 1)]), (0, 0, 0, [(3, 1)])], [], [], []), (86, [(3, (-13))]))] (91, []) 0 15 = true := by decide +kernel
theorem sn_265 {W : Bool} {X : List Int32} : y_Snd (mGw W) mLT1 (J2 W X) X cx_265 := y_ok J2_J mTS2_ok1 mTC2_ok1 mRUp_ok1 (fun _ h => absurd h List.not_mem_nil) ck_265
/-- Planner.putUpon -/
def cx_266 : zCtx := (76, ([(0, 3072), (6, 383), (0, 383), ((-2147483648), 2147483647), ((-2147483648), 2147483647)], [(9, false)], [], [], [(2, 0, 0, []), (0, 0, 0, [(1, 1)]), (0, 0, 0, [(2, 1)]), (0, 0, 0, [(3, 1)]), (0, 0, 0, [(4, 1)])], [], []), [([(0, 3072), (6, 383), (0, 383), ((-2147483648), 2147483647), ((-2147483648), 2147483647)], [(9, false)], [], [], [], [], [])], [(37, true, 0), (38, true, 0), (39, true, 0)], 65, 1, 64)
set_option maxRecDepth 1000000 in
theorem ck_266 : x_ok mLT1 [] mTS2 mTC2 mRUp cx_266 [] [] [] (65, []) 0 68 = true := by decide +kernel
theorem sn_266 {W : Bool} {X : List Int32} : y_Snd (mGw W) mLT1 (J2 W X) X cx_266 := y_ok J2_J mTS2_ok1 mTC2_ok1 mRUp_ok1 (fun _ h => absurd h List.not_mem_nil) ck_266
/-- Planner.build -/
def cx_267 : zCtx := (74, ([(0, 3072), (1, 63), (0, 5)], [(9, false)], [], [], [(2, 0, 0, []), (0, 0, 0, [(1, 1)]), (0, 0, 0, [(2, 1)])], [], []), [([(0, 3072), (1, 63), (0, 5)], [(9, false)], [(383, [(1, (-6)), (2, (-1))]), (0, [(1, 6), (2, 1)])], [], [], [], [])], [(37, true, 0), (38, true, 0), (39, true, 0)], 405, 2, 90)
set_option maxRecDepth 1000000 in
theorem ck_267 : x_ok mLT1 [cx_264, cx_265, cx_266] mTS2 mTC2 mRUp cx_267 [(100, [0]), (103, [1]), (174, [2])] [] [(112, ([(0, 3072), (1, 63), (0, 5), (0, 63), ((-2147483648), 2147483647), (0, 6)], [(9, false), (39, false), (38, false), (37, false)], [(383, [(1, (-6)), (2, (-1))]), (0, [(1, 6), (2, 1)])], [(2, 0, 0, []), (0, 0, 0, [(1, 1)]), (0, 0, 0, [(2, 1)]), (0, 0, 0, [(1, 6), (2, 1)]), (0, 0, 0, [(3, 1)]), (0, 0, 0, [(4, 1)]), (0, 0, 0, [(5, 1)]), (5, 0, 0, [])], [], [(0, (false, 6, 0, []), 2, 1, 0, []), (0, (false, 5, 0, []), 2, 2, 0, []), (0, (false, 4, 0, []), 2, 3, 0, [])], []), (250, [(5, (-41))]))] (314, []) 91 66 = true := by decide +kernel
theorem sn_267 {W : Bool} {X : List Int32} : y_Snd (mGw W) mLT1 (J2 W X) X cx_267 := y_ok J2_J mTS2_ok1 mTC2_ok1 mRUp_ok1 (List.forall_mem_cons.mpr ⟨sn_264, List.forall_mem_cons.mpr ⟨sn_265, List.forall_mem_cons.mpr ⟨sn_266, fun _ h => absurd h List.not_mem_nil⟩⟩⟩) ck_267
/-- Planner.reaches -/
def cx_268 : zCtx := (77, ([(0, 3072), (0, 63)], [(9, false)], [], [], [(2, 0, 0, []), (0, 0, 0, [(1, 1)])], [], []), [([(0, 3072), (0, 63)], [(9, false)], [], [], [(0, 0, 1, [])], [], []), ([(0, 3072), (0, 63)], [(9, false)], [], [], [(0, 0, 0, [])], [], [])], [], 17, 0, 0)
set_option maxRecDepth 1000000 in
theorem ck_268 : x_ok mLT1 [] mTS2 mTC2 mRUp cx_268 [] [] [] (17, []) 0 20 = true := by decide +kernel
theorem sn_268 {W : Bool} {X : List Int32} : y_Snd (mGw W) mLT1 (J2 W X) X cx_268 := y_ok J2_J mTS2_ok1 mTC2_ok1 mRUp_ok1 (fun _ h => absurd h List.not_mem_nil) ck_268
/-- Planner.note -/
def cx_269 : zCtx := (78, ([(0, 3072), (1, 63), (6, 383)], [(9, false)], [], [], [(2, 0, 0, []), (0, 0, 0, [(1, 1)]), (0, 0, 0, [(2, 1)])], [], []), [([(0, 3072), (1, 63), (6, 383)], [(9, false)], [], [], [], [], [])], [(9, false, 8), (9, false, 11), (9, false, 12), (9, false, 13), (9, false, 14)], 105, 1, 64)
set_option maxRecDepth 1000000 in
theorem ck_269 : x_ok mLT1 [cx_264] mTS2 mTC2 mRUp cx_269 [(23, [0])] [] [] (63, []) 42 66 = true := by decide +kernel
theorem sn_269 {W : Bool} {X : List Int32} : y_Snd (mGw W) mLT1 (J2 W X) X cx_269 := y_ok J2_J mTS2_ok1 mTC2_ok1 mRUp_ok1 (List.forall_mem_cons.mpr ⟨sn_264, fun _ h => absurd h List.not_mem_nil⟩) ck_269
/-- Planner.surveySet -/
def cx_270 : zCtx := (73, ([(0, 3072), (1, 63)], [(9, false)], [], [], [(2, 0, 0, []), (0, 0, 0, [(1, 1)])], [], []), [([(0, 3072), (1, 63)], [(9, false)], [], [], [], [], [])], kc_55, 580, 3, 117)
set_option maxRecDepth 1000000 in
theorem ck_270 : x_ok mLT1 [cx_267, cx_268, cx_269] mTS2 mTC2 mRUp cx_270 [(19, [0]), (24, [1]), (38, [2])] [] [(2, ([(0, 3072), (1, 63), (0, 6)], [(9, false)], [], [(2, 0, 0, []), (0, 0, 0, [(1, 1)]), (0, 0, 0, [(2, 1)])], [], [], []), (172, [(2, (-28))]))] (175, []) 405 30 = true := by decide +kernel
theorem sn_270 {W : Bool} {X : List Int32} : y_Snd (mGw W) mLT1 (J2 W X) X cx_270 := y_ok J2_J mTS2_ok1 mTC2_ok1 mRUp_ok1 (List.forall_mem_cons.mpr ⟨sn_267, List.forall_mem_cons.mpr ⟨sn_268, List.forall_mem_cons.mpr ⟨sn_269, fun _ h => absurd h List.not_mem_nil⟩⟩⟩) ck_270
/-- Planner.survey -/
def cx_271 : zCtx := (72, ([(0, 3072), (0, 999), (0, 63)], [(9, false)], [], [], [(2, 0, 0, []), (0, 0, 0, [(1, 1)])], [(0, (false, 10, 0, []), 0, 0, 0, [(2, 1)])], []), [([(0, 3072), (0, 999), (0, 63)], [(9, false)], [], [], [], [], [])], kc_56, 1614, 4, 139)
set_option maxRecDepth 1000000 in
theorem ck_271 : x_ok mLT1 [cx_270] mTS2 mTC2 mRUp cx_271 [(56, [0])] [] [(37, ([(0, 3072), (0, 999), (0, 63), (1, 64)], [(9, false)], [], [(2, 0, 0, []), (0, 0, 0, [(1, 1)]), (0, 0, 0, [(3, 1)])], [], [(0, (false, 10, 0, []), 0, 0, 0, [(2, 1)])], []), (1028, [(3, (-16))]))] (1034, []) 580 24 = true := by decide +kernel
theorem sn_271 {W : Bool} {X : List Int32} : y_Snd (mGw W) mLT1 (J2 W X) X cx_271 := y_ok J2_J mTS2_ok1 mTC2_ok1 mRUp_ok1 (List.forall_mem_cons.mpr ⟨sn_270, fun _ h => absurd h List.not_mem_nil⟩) ck_271
/-- HairRope.orders -/
def cx_272 : zCtx := (159, ([(0, 3072), ((-2147483648), 2147483647)], [(0, false)], [], [], [(2, 0, 0, []), (0, 0, 0, [(1, 1)])], [], []), [([(0, 3072), ((-2147483648), (-1))], [(0, false)], [], [], [(0, 0, (-1), [])], [], []), ([(0, 3072), (1000, 2147483647)], [(0, false)], [], [], [(0, 0, (-1), [])], [], []), ([(0, 3072), (0, 999), ((-2147483648), 2147483647)], [(0, false)], [], [], [(0, 0, 0, [(2, 1)])], [], [])], kc_57, 54892, 5, 161)
set_option maxRecDepth 1000000 in
theorem ck_272 : x_ok mLT1 [cx_195, cx_263, cx_271] mTS2 mTC2 mRUp cx_272 [(1, [0]), (17, [1]), (25, [2])] [] [] (16, []) 54876 19 = true := by decide +kernel
theorem sn_272 {W : Bool} {X : List Int32} : y_Snd (mGw W) mLT1 (J2 W X) X cx_272 := y_ok J2_J mTS2_ok1 mTC2_ok1 mRUp_ok1 (List.forall_mem_cons.mpr ⟨sn_195, List.forall_mem_cons.mpr ⟨sn_263, List.forall_mem_cons.mpr ⟨sn_271, fun _ h => absurd h List.not_mem_nil⟩⟩⟩) ck_272
/-- HairRope.peak -/
def cx_273 : zCtx := (160, ([(0, 3072)], [(0, false)], [], [], [(2, 0, 0, [])], [], []), [([(0, 3072), ((-2147483648), 2147483647)], [(0, false)], [], [], [(0, 0, 0, [(1, 1)])], [], [])], kc_57, 54894, 5, 161)
set_option maxRecDepth 1000000 in
theorem ck_273 : x_ok mLT1 [cx_263, cx_271] mTS2 mTC2 mRUp cx_273 [(8, [0]), (16, [1])] [] [] (18, []) 54876 21 = true := by decide +kernel
theorem sn_273 {W : Bool} {X : List Int32} : y_Snd (mGw W) mLT1 (J2 W X) X cx_273 := y_ok J2_J mTS2_ok1 mTC2_ok1 mRUp_ok1 (List.forall_mem_cons.mpr ⟨sn_263, List.forall_mem_cons.mpr ⟨sn_271, fun _ h => absurd h List.not_mem_nil⟩⟩) ck_273
/-- Planner.fewestHouseAt -/
def cx_274 : zCtx := (79, ([(0, 3072), ((-2147483648), 2147483647)], [(9, false)], [], [], [(2, 0, 0, []), (0, 0, 0, [(1, 1)])], [], []), [([(0, 3072), (0, 2147483646)], [(9, false)], [], [], [(0, 0, (-1), [])], [], []), ([(0, 3072), (0, 2147483646), ((-5), 5)], [(9, false)], [], [], [(0, 0, 0, [(2, 1)])], [], []), ([(0, 3072), (0, 2147483647)], [(9, false)], [], [], [(0, 0, (-1), [])], [], []), ([(0, 3072), ((-2147483648), (-1))], [(9, false)], [], [], [(0, 0, (-1), [])], [], [])], [], 119, 1, 22)
set_option maxRecDepth 1000000 in
theorem ck_274 : x_ok mLT1 [cx_265] mTS2 mTC2 mRUp cx_274 [(31, [0])] [] [] (28, []) 91 31 = true := by decide +kernel
theorem sn_274 {W : Bool} {X : List Int32} : y_Snd (mGw W) mLT1 (J2 W X) X cx_274 := y_ok J2_J mTS2_ok1 mTC2_ok1 mRUp_ok1 (List.forall_mem_cons.mpr ⟨sn_265, fun _ h => absurd h List.not_mem_nil⟩) ck_274
/-- HairRope.fewest -/
def cx_275 : zCtx := (161, ([(0, 3072), ((-2147483648), 2147483647), ((-2147483648), 2147483647)], [(0, false)], [], [], [(2, 0, 0, []), (0, 0, 0, [(1, 1)]), (0, 0, 0, [(2, 1)])], [], []), [([(0, 3072), ((-2147483648), (-1)), ((-2147483648), 2147483647)], [(0, false)], [], [], [(0, 0, (-1), [])], [], []), ([(0, 3072), (1000, 2147483647), ((-2147483648), 2147483647)], [(0, false)], [], [], [(0, 0, (-1), [])], [], []), ([(0, 3072), (0, 999), ((-2147483648), 2147483647)], [(0, false)], [], [], [(0, 0, (-2), [])], [], []), ([(0, 3072), (0, 999), ((-1), (-1)), ((-2147483648), 2147483647)], [(0, false)], [], [], [(0, 0, 0, [(3, 1)])], [], []), ([(0, 3072), (0, 999), ((-2147483648), (-2))], [(0, false)], [], [], [(0, 0, (-1), [])], [], []), ([(0, 3072), (0, 999), (0, 2147483647)], [(0, false)], [], [], [(0, 0, (-1), [])], [], []), ([(0, 3072), (0, 999), (0, 2147483646), ((-5), 5)], [(0, false)], [], [], [(0, 0, 0, [(3, 1)])], [], [])], kc_57, 54900, 5, 161)
set_option maxRecDepth 1000000 in
theorem ck_275 : x_ok mLT1 [cx_195, cx_263, cx_271, cx_274] mTS2 mTC2 mRUp cx_275 [(1, [0]), (17, [1]), (25, [2]), (61, [3])] [] [] (24, []) 54876 27 = true := by decide +kernel
theorem sn_275 {W : Bool} {X : List Int32} : y_Snd (mGw W) mLT1 (J2 W X) X cx_275 := y_ok J2_J mTS2_ok1 mTC2_ok1 mRUp_ok1 (List.forall_mem_cons.mpr ⟨sn_195, List.forall_mem_cons.mpr ⟨sn_263, List.forall_mem_cons.mpr ⟨sn_271, List.forall_mem_cons.mpr ⟨sn_274, fun _ h => absurd h List.not_mem_nil⟩⟩⟩⟩) ck_275
/-- HairRope.needed -/
def cx_276 : zCtx := (162, ([(0, 3072), ((-2147483648), 2147483647)], [(0, false)], [], [], [(2, 0, 0, []), (0, 0, 0, [(1, 1)])], [], []), [([(0, 3072), ((-2147483648), (-1))], [(0, false)], [], [], [(0, 0, (-1), [])], [], []), ([(0, 3072), (1000, 2147483647)], [(0, false)], [], [], [(0, 0, (-1), [])], [], []), ([(0, 3072), (0, 999), ((-2147483648), 2147483647)], [(0, false)], [], [], [(0, 0, 0, [(2, 1)])], [], [])], kc_57, 54897, 5, 161)
set_option maxRecDepth 1000000 in
theorem ck_276 : x_ok mLT1 [cx_195, cx_263, cx_271] mTS2 mTC2 mRUp cx_276 [(1, [0]), (17, [1]), (25, [2])] [] [] (21, []) 54876 24 = true := by decide +kernel
theorem sn_276 {W : Bool} {X : List Int32} : y_Snd (mGw W) mLT1 (J2 W X) X cx_276 := y_ok J2_J mTS2_ok1 mTC2_ok1 mRUp_ok1 (List.forall_mem_cons.mpr ⟨sn_195, List.forall_mem_cons.mpr ⟨sn_263, List.forall_mem_cons.mpr ⟨sn_271, fun _ h => absurd h List.not_mem_nil⟩⟩⟩) ck_276
def cx_277p : zS := ((cx_149pi_0 (cx_149pi_1 (cx_149pi_2 (cx_149pi_3 (cx_149pi_4 []))))), [(106, false), (6, false), (27, false), (28, false), (29, false), (30, false), (31, false)], [], [], [(2, 0, 0, []), (2, 1, 0, [])], (cx_149pf_0 (cx_149pf_1 (cx_149pf_2 (cx_149pf_3 (cx_149pf_4 (cx_149pf_5 [])))))), [])
def cx_277q0 : zS := ((cx_149pi_0 (cx_149pi_1 (cx_149pi_2 (cx_149pi_3 (cx_149pi_4 []))))), [(106, false), (6, false), (27, false), (28, false), (29, false), (30, false), (31, false)], [], [], [], [(0, (false, 5, 0, []), 0, 0, 0, [(5, 1)]), (0, (false, 6, 0, []), 0, 0, 0, [(6, 1)]), (0, (false, 7, 0, []), 0, 0, 0, [(7, 1)]), (0, (false, 8, 0, []), 0, 0, 0, [(8, 1)])], [(241, [(1, []), (0, [(5, 1)]), (0, [(6, 1)]), (0, [(7, 1)]), (0, [(8, 1)])])])
/-- State.copyFrom -/
def cx_277 : zCtx := (102, cx_277p, [cx_277q0], kc_58, 57, 1, 64)
set_option maxRecDepth 1000000 in
theorem ck_277 : x_ok mLT1 [] mTS2 mTC2 mRUp cx_277 [] [(107, [1000974])] [] (57, []) 0 60 = true := by decide +kernel
theorem sn_277 {W : Bool} {X : List Int32} : y_Snd (mGw W) mLT1 (J2 W X) X cx_277 := y_ok J2_J mTS2_ok1 mTC2_ok1 mRUp_ok1 (fun _ h => absurd h List.not_mem_nil) ck_277
/-- State.placeOf -/
def cx_278 : zCtx := (101, ([(0, 3072), ((-2147483648), 2147483647), (0, 6)], [(106, false)], [], [], [(2, 0, 0, []), (0, 0, 0, [(1, 1)])], [(0, (false, 6, 0, []), 0, 0, 0, [(2, 1)])], []), [([(0, 3072), ((-2147483648), 2147483647), (1, 6), (0, 5)], [(106, false)], [((-1), [(2, 1), (3, (-1))])], [], [(0, 0, 0, [(3, 1)])], [], []), ([(0, 3072), ((-2147483648), 2147483647), (0, 6)], [(106, false)], [], [], [(0, 0, (-1), [])], [], [])], [], 105, 0, 0)
set_option maxRecDepth 1000000 in
theorem ck_278 : x_ok mLT1 [] mTS2 mTC2 mRUp cx_278 [] [] [(2, ([(0, 3072), ((-2147483648), 2147483647), (0, 6), (0, 6)], [(106, false)], [], [(2, 0, 0, []), (0, 0, 0, [(1, 1)]), (0, 0, 0, [(3, 1)])], [], [(0, (false, 6, 0, []), 0, 0, 0, [(2, 1)])], []), (102, [(3, (-16))]))] (105, []) 0 18 = true := by decide +kernel
theorem sn_278 {W : Bool} {X : List Int32} : y_Snd (mGw W) mLT1 (J2 W X) X cx_278 := y_ok J2_J mTS2_ok1 mTC2_ok1 mRUp_ok1 (fun _ h => absurd h List.not_mem_nil) ck_278
/-- Rules.strongOf -/
def cx_279 : zCtx := (89, ([(0, 3072), ((-2147483648), 2147483647), ((-1), 5)], [(5, false), (106, false)], [], [], [(2, 0, 0, []), (2, 1, 0, []), (0, 0, 0, [(1, 1)]), (0, 0, 0, [(2, 1)])], [], []), [([(0, 3072), ((-2147483648), 2147483647), ((-1), 5), ((-2147483648), 2147483647)], [(5, false), (106, false)], [], [], [(0, 0, 0, [(3, 1)])], [], [])], [], 14, 0, 0)
set_option maxRecDepth 1000000 in
theorem ck_279 : x_ok mLT1 [] mTS2 mTC2 mRUp cx_279 [] [] [] (14, []) 0 17 = true := by decide +kernel
theorem sn_279 {W : Bool} {X : List Int32} : y_Snd (mGw W) mLT1 (J2 W X) X cx_279 := y_ok J2_J mTS2_ok1 mTC2_ok1 mRUp_ok1 (fun _ h => absurd h List.not_mem_nil) ck_279
/-- Planner.lookAtHouses -/
def cx_280 : zCtx := (68, ([(0, 3072), (0, 63)], [(9, false), (106, false)], [], [], [(2, 0, 0, []), (2, 1, 0, [])], [(0, (false, 10, 0, []), 0, 0, 0, [(1, 1)])], []), [([(0, 3072), (0, 63), (0, 63)], [(9, false), (106, false)], [], [], [], [(0, (false, 10, 0, []), 0, 0, 0, [(2, 1)])], [])], [(9, false, 10), (34, true, 0), (40, true, 0)], 1085, 1, 23)
set_option maxRecDepth 1000000 in
theorem ck_280 : x_ok mLT1 [cx_278, cx_279, cx_259] mTS2 mTC2 mRUp cx_280 [(29, [0]), (66, [1]), (97, [2])] [] [(7, ([(0, 3072), (0, 63), (0, 6), (0, 63)], [(9, false), (106, false)], [], [(2, 0, 0, []), (2, 1, 0, []), (0, 0, 0, [(2, 1)]), (5, 0, 0, []), (5, 0, 0, [])], [], [(0, (false, 10, 0, []), 0, 0, 0, [(3, 1)])], []), (313, [(2, (-51))]))] (319, []) 766 53 = true := by decide +kernel
theorem sn_280 {W : Bool} {X : List Int32} : y_Snd (mGw W) mLT1 (J2 W X) X cx_280 := y_ok J2_J mTS2_ok1 mTC2_ok1 mRUp_ok1 (List.forall_mem_cons.mpr ⟨sn_278, List.forall_mem_cons.mpr ⟨sn_279, List.forall_mem_cons.mpr ⟨sn_259, fun _ h => absurd h List.not_mem_nil⟩⟩⟩) ck_280
/-- Rules.lookAt -/
def cx_281 : zCtx := (88, ([(0, 3072), ((-2147483648), 2147483647), ((-1), 5)], [(5, false), (106, false), (26, false)], [], [], [(2, 0, 0, []), (2, 1, 0, []), (0, 0, 0, [(1, 1)]), (0, 0, 0, [(2, 1)])], [(0, (false, 1, 0, []), 2, 2, 0, [])], []), [([(0, 3072), ((-2147483648), 2147483647), ((-1), 5)], [(5, false), (106, false), (26, false)], [], [], [], [], [])], [(26, true, 0)], 79, 1, 64)
set_option maxRecDepth 1000000 in
theorem ck_281 : x_ok mLT1 [cx_279] mTS2 mTC2 mRUp cx_281 [(32, [0])] [] [] (65, []) 14 68 = true := by decide +kernel
theorem sn_281 {W : Bool} {X : List Int32} : y_Snd (mGw W) mLT1 (J2 W X) X cx_281 := y_ok J2_J mTS2_ok1 mTC2_ok1 mRUp_ok1 (List.forall_mem_cons.mpr ⟨sn_279, fun _ h => absurd h List.not_mem_nil⟩) ck_281
/-- Rules.joinOf -/
def cx_282 : zCtx := (90, ([(0, 3072), ((-2147483648), 2147483647), ((-2147483648), 2147483647), ((-2147483648), 2147483647)], [(5, false), (106, false)], [], [], [(2, 0, 0, []), (2, 1, 0, []), (0, 0, 0, [(1, 1)]), (0, 0, 0, [(2, 1)]), (0, 0, 0, [(3, 1)])], [], []), [([(0, 3072), ((-2147483648), 2147483647), ((-2147483648), 2147483647), ((-2147483648), 2147483647), (0, 999)], [(5, false), (106, false)], [], [], [(0, 0, 0, [(4, 1)])], [], [])], [(24, true, 0), (26, true, 0)], 52984, 2, 87)
set_option maxRecDepth 1000000 in
theorem ck_282 : x_ok mLT1 [cx_278, cx_281, cx_279, cx_136] mTS2 mTC2 mRUp cx_282 [(5, [0]), (8, [1]), (30, [0]), (33, [2]), (53, [3])] [] [] (35, []) 52949 38 = true := by decide +kernel
theorem sn_282 {W : Bool} {X : List Int32} : y_Snd (mGw W) mLT1 (J2 W X) X cx_282 := y_ok J2_J mTS2_ok1 mTC2_ok1 mRUp_ok1 (List.forall_mem_cons.mpr ⟨sn_278, List.forall_mem_cons.mpr ⟨sn_281, List.forall_mem_cons.mpr ⟨sn_279, List.forall_mem_cons.mpr ⟨sn_136, fun _ h => absurd h List.not_mem_nil⟩⟩⟩⟩) ck_282
/-- Planner.findJoins -/
def cx_283 : zCtx := (70, ([(0, 3072), (0, 0), (0, 63)], [(9, false), (106, false), (35, false)], [], [], [(2, 0, 0, []), (2, 1, 0, []), (2, 2, 0, []), (0, 0, 0, [(1, 1)])], [(0, (false, 10, 0, []), 0, 0, 0, [(2, 1)])], []), [([(0, 3072), (0, 0), (0, 63)], [(9, false), (106, false), (35, false)], [], [], [], [], [])], [(24, true, 0), (26, true, 0), (35, true, 0)], 54866, 3, 111)
set_option maxRecDepth 1000000 in
theorem ck_283 : x_ok mLT1 [cx_261, cx_142, cx_282] mTS2 mTC2 mRUp cx_283 [(56, [0]), (65, [0]), (98, [1]), (117, [2])] [] [(3, ([(0, 3072), (0, 0), (0, 63), (0, 6)], [(9, false), (106, false), (35, false)], [], [(2, 0, 0, []), (2, 1, 0, []), (2, 2, 0, []), (0, 0, 0, [(1, 1)]), (0, 0, 0, [(3, 1)]), (5, 0, 0, []), (5, 0, 0, []), (5, 0, 0, [])], [], [(0, (false, 10, 0, []), 0, 0, 0, [(2, 1)])], []), (1879, [(1, (-100000000000)), (3, (-312))])), (21, ([(0, 3072), (0, 0), (0, 63), (0, 5), (0, 6), (1, 6)], [(9, false), (106, false), (35, false), (5, false), (2, false)], [], [(2, 0, 0, []), (2, 1, 0, []), (2, 2, 0, []), (0, 0, 0, [(1, 1)]), (0, 0, 0, [(3, 1)]), (0, 0, 0, [(4, 1)]), (5, 0, 0, []), (5, 0, 0, [])], [], [(0, (false, 0, 0, []), 2, 3, 0, []), (0, (false, 10, 0, []), 0, 0, 0, [(2, 1)]), (3, (false, 3, 0, []), 2, 4, 0, []), (4, (false, 5, 0, []), 0, 0, 0, [(5, 1)])], []), (1870, [(1, (-100000000000)), (3, (-312)), (4, (-49))]))] (1882, []) 52984 51 = true := by decide +kernel
theorem sn_283 {W : Bool} {X : List Int32} : y_Snd (mGw W) mLT1 (J2 W X) X cx_283 := y_ok J2_J mTS2_ok1 mTC2_ok1 mRUp_ok1 (List.forall_mem_cons.mpr ⟨sn_261, List.forall_mem_cons.mpr ⟨sn_142, List.forall_mem_cons.mpr ⟨sn_282, fun _ h => absurd h List.not_mem_nil⟩⟩⟩) ck_283
/-- Planner.lookAt -/
def cx_284 : zCtx := (67, ([(0, 3072), (0, 63)], [(9, false), (106, false)], [], [], [(2, 0, 0, []), (2, 1, 0, [])], [(0, (false, 10, 0, []), 0, 0, 0, [(1, 1)])], []), [([(0, 3072), (0, 63), (0, 63)], [(9, false), (106, false)], [], [], [], [(0, (false, 10, 0, []), 0, 0, 0, [(2, 1)])], [])], [(9, false, 10), (24, true, 0), (26, true, 0), (34, true, 0), (35, true, 0), (40, true, 0)], 54876, 4, 138)
set_option maxRecDepth 1000000 in
theorem ck_284 : x_ok mLT1 [cx_280, cx_283] mTS2 mTC2 mRUp cx_284 [(2, [0]), (12, [1])] [] [] (10, []) 54866 13 = true := by decide +kernel
theorem sn_284 {W : Bool} {X : List Int32} : y_Snd (mGw W) mLT1 (J2 W X) X cx_284 := y_ok J2_J mTS2_ok1 mTC2_ok1 mRUp_ok1 (List.forall_mem_cons.mpr ⟨sn_280, List.forall_mem_cons.mpr ⟨sn_283, fun _ h => absurd h List.not_mem_nil⟩⟩) ck_284
/-- Rules.lawOf -/
def cx_285 : zCtx := (87, ([(0, 3072), (0, 5)], [(5, false), (106, false)], [], [], [(2, 0, 0, []), (0, 0, 0, []), (2, 1, 0, []), (0, 0, 0, [(1, 1)])], [], []), [([(0, 3072), (0, 5), (0, 99)], [(5, false), (106, false)], [], [], [(0, 0, 0, [(2, 1)])], [], [])], [(24, true, 0), (26, true, 0)], 52968, 2, 87)
set_option maxRecDepth 1000000 in
theorem ck_285 : x_ok mLT1 [cx_278, cx_281, cx_136] mTS2 mTC2 mRUp cx_285 [(5, [0]), (8, [1]), (26, [2])] [] [] (19, []) 52949 22 = true := by decide +kernel
theorem sn_285 {W : Bool} {X : List Int32} : y_Snd (mGw W) mLT1 (J2 W X) X cx_285 := y_ok J2_J mTS2_ok1 mTC2_ok1 mRUp_ok1 (List.forall_mem_cons.mpr ⟨sn_278, List.forall_mem_cons.mpr ⟨sn_281, List.forall_mem_cons.mpr ⟨sn_136, fun _ h => absurd h List.not_mem_nil⟩⟩⟩) ck_285
/-- Rules.lawOf -/
def cx_286 : zCtx := (87, ([(0, 3072), (0, 5)], [(5, false), (106, false)], [], [], [(2, 0, 0, []), (0, 0, 1, []), (2, 1, 0, []), (0, 0, 0, [(1, 1)])], [], []), [([(0, 3072), (0, 5), (0, 99)], [(5, false), (106, false)], [], [], [(0, 0, 0, [(2, 1)])], [], [])], [(24, true, 0), (26, true, 0)], 52968, 2, 87)
set_option maxRecDepth 1000000 in
theorem ck_286 : x_ok mLT1 [cx_278, cx_281, cx_136] mTS2 mTC2 mRUp cx_286 [(5, [0]), (8, [1]), (26, [2])] [] [] (19, []) 52949 22 = true := by decide +kernel
theorem sn_286 {W : Bool} {X : List Int32} : y_Snd (mGw W) mLT1 (J2 W X) X cx_286 := y_ok J2_J mTS2_ok1 mTC2_ok1 mRUp_ok1 (List.forall_mem_cons.mpr ⟨sn_278, List.forall_mem_cons.mpr ⟨sn_281, List.forall_mem_cons.mpr ⟨sn_136, fun _ h => absurd h List.not_mem_nil⟩⟩⟩) ck_286
end
