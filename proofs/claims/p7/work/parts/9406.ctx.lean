/-! ===== readings, by program, checked by the kernel ===== -/
/-- Rules.joinAbove -/
def cx_150 : zCtx := (92, ([(0, 3072), (1, 5)], [(5, false), (6, false)], [], [], [(2, 0, 0, []), (2, 1, 0, []), (0, 0, 0, [(1, 1)])], [], []), [([(0, 3072), (1, 5), (0, 999)], [(5, false), (6, false)], [], [], [(0, 0, 0, [(2, 1)])], [], [])], [(24, true, 0), (26, true, 0)], 53013, 3, 111)
set_option maxRecDepth 1000000 in
theorem ck_150 : x_ok mLT1 [cx_149, cx_136] mTS2 mTC2 mRUp cx_150 [(42, [0]), (45, [1])] [] [] (29, []) 52984 32 = true := by decide +kernel
theorem sn_150 {W : Bool} {X : List Int32} : y_Snd (mGw W) mLT1 (J2 W X) X cx_150 := y_ok J2_J mTS2_ok1 mTC2_ok1 mRUp_ok1 (List.forall_mem_cons.mpr ⟨sn_149, List.forall_mem_cons.mpr ⟨sn_136, fun _ h => absurd h List.not_mem_nil⟩⟩) ck_150
/-- Rules.weigh -/
def cx_151 : zCtx := (91, ([(0, 3072)], [(5, false), (6, false)], [], [], [(2, 0, 0, []), (2, 1, 0, [])], [], []), [([(0, 3072)], [(5, false), (6, false)], [], [], [], [], [])], [(5, false, 2), (24, true, 0), (25, true, 0), (26, true, 0)], 53276, 4, 135)
set_option maxRecDepth 1000000 in
theorem ck_151 : x_ok mLT1 [cx_150] mTS2 mTC2 mRUp cx_151 [(75, [0])] [] [(30, ([(0, 3072), ((-2147483648), 2147483647), ((-1), 5), (0, 6)], [(5, false), (6, false)], [], [(2, 0, 0, []), (2, 1, 0, []), (0, 0, 0, [(1, 1)]), (0, 0, 0, [(2, 1)])], [], [(1, (false, 6, 0, []), 0, 0, 0, [(3, 1)])], []), (43, [(2, 40)]))] (263, []) 53013 42 = true := by decide +kernel
theorem sn_151 {W : Bool} {X : List Int32} : y_Snd (mGw W) mLT1 (J2 W X) X cx_151 := y_ok J2_J mTS2_ok1 mTC2_ok1 mRUp_ok1 (List.forall_mem_cons.mpr ⟨sn_150, fun _ h => absurd h List.not_mem_nil⟩) ck_151
/-- Rules.highestBreak -/
def cx_152 : zCtx := (93, ([(0, 3072), (0, 1000)], [(5, false)], [], [], [(2, 0, 0, []), (0, 0, 0, [(1, 1)])], [], []), [([(0, 3072), (0, 1000), (0, 10)], [(5, false)], [], [], [(0, 0, 0, [(2, 1)])], [], []), ([(0, 3072), (0, 1000)], [(5, false)], [], [], [(0, 0, (-1), [])], [], [])], [], 364, 0, 0)
set_option maxRecDepth 1000000 in
theorem ck_152 : x_ok mLT1 [] mTS2 mTC2 mRUp cx_152 [] [] [(2, ([(0, 3072), (0, 1000), (0, 22)], [(5, false)], [], [(2, 0, 0, []), (0, 0, 0, [(1, 1)]), (0, 0, 0, [(2, 1)])], [], [], []), (361, [(2, (-16))]))] (364, []) 0 18 = true := by decide +kernel
theorem sn_152 {W : Bool} {X : List Int32} : y_Snd (mGw W) mLT1 (J2 W X) X cx_152 := y_ok J2_J mTS2_ok1 mTC2_ok1 mRUp_ok1 (fun _ h => absurd h List.not_mem_nil) ck_152
/-- HairRope.lowerPlaceOf -/
def cx_153 : zCtx := (153, ([(0, 3072), (0, 10)], [], [], [], [(0, 0, 0, [(1, 1)])], [], []), [([(0, 3072), (0, 10), (0, 5)], [], [], [], [(0, 0, 0, [(2, 1)])], [], [])], [], 6, 0, 0)
set_option maxRecDepth 1000000 in
theorem ck_153 : x_ok mLT1 [] mTS2 mTC2 mRUp cx_153 [] [] [] (6, []) 0 9 = true := by decide +kernel
theorem sn_153 {W : Bool} {X : List Int32} : y_Snd (mGw W) mLT1 (J2 W X) X cx_153 := y_ok J2_J mTS2_ok1 mTC2_ok1 mRUp_ok1 (fun _ h => absurd h List.not_mem_nil) ck_153
/-- HairRope.haul -/
def cx_154 : zCtx := (151, ([(0, 3072), ((-2147483648), 2147483647)], [(0, false)], [], [], [(2, 0, 0, []), (0, 0, 0, [(1, 1)])], [], []), [([(0, 3072), ((-2147483648), (-1))], [(0, false)], [], [], [(0, 0, (-1), [])], [], []), ([(0, 3072), (1000, 2147483647)], [(0, false)], [], [], [(0, 0, (-1), [])], [], []), ([(0, 3072), (0, 999)], [(0, false)], [], [], [(0, 0, (-1), [])], [], []), ([(0, 3072), (0, 999), (0, 6)], [(0, false)], [], [], [(0, 0, 0, [(2, 1)])], [], [])], [(5, false, 2), (6, false, 5), (6, false, 6), (6, false, 7), (6, false, 8), (7, false, 2), (7, false, 3), (24, true, 0), (25, true, 0), (26, true, 0), (27, true, 0), (28, true, 0), (29, true, 0), (30, true, 0), (31, true, 0)], 53316, 5, 158)
set_option maxRecDepth 1000000 in
theorem ck_154 : x_ok mLT1 [cx_148, cx_145, cx_142, cx_151, cx_152, cx_153] mTS2 mTC2 mRUp cx_154 [(1, [0]), (11, [1]), (37, [2]), (48, [3]), (56, [4]), (85, [5])] [] [] (40, []) 53276 43 = true := by decide +kernel
theorem sn_154 {W : Bool} {X : List Int32} : y_Snd (mGw W) mLT1 (J2 W X) X cx_154 := y_ok J2_J mTS2_ok1 mTC2_ok1 mRUp_ok1 (List.forall_mem_cons.mpr ⟨sn_148, List.forall_mem_cons.mpr ⟨sn_145, List.forall_mem_cons.mpr ⟨sn_142, List.forall_mem_cons.mpr ⟨sn_151, List.forall_mem_cons.mpr ⟨sn_152, List.forall_mem_cons.mpr ⟨sn_153, fun _ h => absurd h List.not_mem_nil⟩⟩⟩⟩⟩⟩) ck_154
/-- Rules.mix -/
def cx_155 : zCtx := (97, ([(0, 3072), ((-2147483648), 2147483647), ((-2147483648), 2147483647)], [], [], [], [(0, 0, 0, [(1, 1)]), (0, 0, 0, [(2, 1)])], [], []), [([(0, 3072), ((-2147483648), 2147483647), ((-2147483648), 2147483647), ((-2147483648), 2147483647)], [], [], [], [(0, 0, 0, [(3, 1)])], [], [])], [], 14, 0, 0)
set_option maxRecDepth 1000000 in
theorem ck_155 : x_ok mLT1 [] mTS2 mTC2 mRUp cx_155 [] [] [] (14, []) 0 17 = true := by decide +kernel
theorem sn_155 {W : Bool} {X : List Int32} : y_Snd (mGw W) mLT1 (J2 W X) X cx_155 := y_ok J2_J mTS2_ok1 mTC2_ok1 mRUp_ok1 (fun _ h => absurd h List.not_mem_nil) ck_155
/-- Rules.lot -/
def cx_156 : zCtx := (96, ([(0, 3072), ((-2147483648), 2147483647), ((-2147483648), 2147483647)], [], [], [], [(0, 0, 0, [(1, 1)]), (0, 0, 0, [(2, 1)])], [], []), [([(0, 3072), ((-2147483648), 2147483647), ((-2147483648), 2147483647), ((-99), 99)], [], [], [], [(0, 0, 0, [(3, 1)])], [], [])], [], 26, 1, 22)
set_option maxRecDepth 1000000 in
theorem ck_156 : x_ok mLT1 [cx_155] mTS2 mTC2 mRUp cx_156 [(4, [0]), (8, [0])] [] [] (12, []) 14 15 = true := by decide +kernel
theorem sn_156 {W : Bool} {X : List Int32} : y_Snd (mGw W) mLT1 (J2 W X) X cx_156 := y_ok J2_J mTS2_ok1 mTC2_ok1 mRUp_ok1 (List.forall_mem_cons.mpr ⟨sn_155, fun _ h => absurd h List.not_mem_nil⟩) ck_156
/-- Rules.ageHouse -/
def cx_157 : zCtx := (95, ([(0, 3072), (0, 5), ((-2147483648), 2147483647), ((-2147483648), 2147483647)], [(5, false), (6, false)], [], [], [(2, 0, 0, []), (2, 1, 0, []), (0, 0, 0, [(1, 1)]), (0, 0, 0, [(2, 1)]), (0, 0, 0, [(3, 1)])], [], []), [([(0, 3072), (0, 5), ((-98), 2147483647), ((-2147483648), 2147483647)], [(5, false), (6, false)], [], [], [], [], []), ([(0, 3072), (0, 5), ((-2147483648), 99), ((-2147483648), 2147483647)], [(5, false), (6, false)], [], [], [], [], [])], [(24, true, 0), (26, true, 0), (27, true, 0), (31, true, 0)], 53026, 3, 110)
set_option maxRecDepth 1000000 in
theorem ck_157 : x_ok mLT1 [cx_126, cx_131, cx_156] mTS2 mTC2 mRUp cx_157 [(13, [0]), (22, [1]), (36, [1]), (73, [2])] [] [] (58, []) 52968 61 = true := by decide +kernel
theorem sn_157 {W : Bool} {X : List Int32} : y_Snd (mGw W) mLT1 (J2 W X) X cx_157 := y_ok J2_J mTS2_ok1 mTC2_ok1 mRUp_ok1 (List.forall_mem_cons.mpr ⟨sn_126, List.forall_mem_cons.mpr ⟨sn_131, List.forall_mem_cons.mpr ⟨sn_156, fun _ h => absurd h List.not_mem_nil⟩⟩⟩) ck_157
/-- Rules.ageAll -/
def cx_158 : zCtx := (94, ([(0, 3072), ((-2147483648), 2147483647), ((-2147483648), 2147483647)], [(5, false), (6, false)], [], [], [(2, 0, 0, []), (2, 1, 0, []), (0, 0, 0, [(1, 1)]), (0, 0, 0, [(2, 1)])], [], []), [([(0, 3072), ((-2147483648), 2147483647), ((-2147483648), 2147483647)], [(5, false), (6, false)], [], [], [], [], [])], [(6, false, 7), (24, true, 0), (26, true, 0), (27, true, 0), (31, true, 0)], 53125, 4, 137)
set_option maxRecDepth 1000000 in
theorem ck_158 : x_ok mLT1 [cx_157] mTS2 mTC2 mRUp cx_158 [(21, [0])] [] [(3, ([(0, 3072), ((-2147483648), 2147483647), ((-2147483648), 2147483647), (0, 6)], [(5, false), (6, false)], [], [(2, 0, 0, []), (2, 1, 0, []), (0, 0, 0, [(1, 1)]), (0, 0, 0, [(2, 1)]), (0, 0, 0, [(3, 1)])], [], [], []), (96, [(3, (-14))]))] (99, []) 53026 16 = true := by decide +kernel
theorem sn_158 {W : Bool} {X : List Int32} : y_Snd (mGw W) mLT1 (J2 W X) X cx_158 := y_ok J2_J mTS2_ok1 mTC2_ok1 mRUp_ok1 (List.forall_mem_cons.mpr ⟨sn_157, fun _ h => absurd h List.not_mem_nil⟩) ck_158
/-- HairRope.years -/
def cx_159 : zCtx := (154, ([(0, 3072), ((-2147483648), 2147483647)], [(0, false)], [], [], [(2, 0, 0, []), (0, 0, 0, [(1, 1)])], [], []), [([(0, 3072), (61, 2147483647)], [(0, false)], [], [], [(0, 0, (-1), [])], [], []), ([(0, 3072), ((-2147483648), (-1))], [(0, false)], [], [], [(0, 0, (-1), [])], [], []), ([(0, 3072), (0, 60), ((-2147483648), 2147483647)], [(0, false)], [], [], [(0, 0, 0, [(2, 1)])], [], [])], [(6, false, 5), (6, false, 6), (6, false, 7), (6, false, 8), (7, false, 2), (7, false, 3), (24, true, 0), (26, true, 0), (27, true, 0), (28, true, 0), (29, true, 0), (30, true, 0), (31, true, 0)], 54344, 5, 161)
set_option maxRecDepth 1000000 in
theorem ck_159 : x_ok mLT1 [cx_142, cx_158] mTS2 mTC2 mRUp cx_159 [(24, [0]), (62, [1])] [] [(29, ([(0, 3072), (0, 60), (0, 63)], [(0, false)], [], [(2, 0, 0, []), (0, 0, 0, [(1, 1)]), (0, 0, 0, [(2, 1)])], [], [], []), (1204, [(2, (-19))]))] (1219, []) 53125 21 = true := by decide +kernel
theorem sn_159 {W : Bool} {X : List Int32} : y_Snd (mGw W) mLT1 (J2 W X) X cx_159 := y_ok J2_J mTS2_ok1 mTC2_ok1 mRUp_ok1 (List.forall_mem_cons.mpr ⟨sn_142, List.forall_mem_cons.mpr ⟨sn_158, fun _ h => absurd h List.not_mem_nil⟩⟩) ck_159
/-- History.takeBack -/
def cx_160 : zCtx := (42, ([(0, 3072), (0, 39), (0, 40)], [(7, false), (6, false)], [], [], [(2, 0, 0, []), (2, 1, 0, [])], [(0, (false, 2, 0, []), 0, 0, 0, [(1, 1)]), (0, (false, 3, 0, []), 0, 0, 0, [(2, 1)])], []), [([(0, 3072), (0, 39), (1, 40)], [(7, false), (6, false)], [], [], [(0, 0, 1, [])], [(0, (false, 3, 0, []), 0, 0, (-1), [(2, 1)])], []), ([(0, 3072), (0, 39), (0, 0)], [(7, false), (6, false)], [], [], [(0, 0, 0, [])], [(0, (false, 3, 0, []), 0, 0, 0, [(2, 1)])], [])], [(6, false, 5), (6, false, 6), (6, false, 7), (6, false, 8), (7, false, 3), (27, true, 0), (28, true, 0), (29, true, 0), (30, true, 0), (31, true, 0)], 81, 2, 85)
set_option maxRecDepth 1000000 in
theorem ck_160 : x_ok mLT1 [cx_140, cx_141] mTS2 mTC2 mRUp cx_160 [(14, [0]), (30, [1])] [] [] (24, []) 57 27 = true := by decide +kernel
theorem sn_160 {W : Bool} {X : List Int32} : y_Snd (mGw W) mLT1 (J2 W X) X cx_160 := y_ok J2_J mTS2_ok1 mTC2_ok1 mRUp_ok1 (List.forall_mem_cons.mpr ⟨sn_140, List.forall_mem_cons.mpr ⟨sn_141, fun _ h => absurd h List.not_mem_nil⟩⟩) ck_160
/-- HairRope.undo -/
def cx_161 : zCtx := (155, ([(0, 3072)], [(0, false)], [], [], [(2, 0, 0, [])], [], []), [([(0, 3072)], [(0, false)], [], [], [(0, 0, 0, [])], [], []), ([(0, 3072)], [(0, false)], [], [], [(0, 0, 1, [])], [], [])], [(6, false, 5), (6, false, 6), (6, false, 7), (6, false, 8), (7, false, 3), (27, true, 0), (28, true, 0), (29, true, 0), (30, true, 0), (31, true, 0)], 87, 3, 107)
set_option maxRecDepth 1000000 in
theorem ck_161 : x_ok mLT1 [cx_160] mTS2 mTC2 mRUp cx_161 [(8, [0])] [] [] (6, []) 81 9 = true := by decide +kernel
theorem sn_161 {W : Bool} {X : List Int32} : y_Snd (mGw W) mLT1 (J2 W X) X cx_161 := y_ok J2_J mTS2_ok1 mTC2_ok1 mRUp_ok1 (List.forall_mem_cons.mpr ⟨sn_160, fun _ h => absurd h List.not_mem_nil⟩) ck_161
/-- Rules.greatestHaul -/
def cx_162 : zCtx := (98, ([(0, 3072)], [(5, false)], [], [], [(2, 0, 0, [])], [], []), [([(0, 3072)], [(5, false)], [], [], [(0, 0, (-2), [])], [], []), ([(0, 3072), (0, 999)], [(5, false)], [], [], [(0, 0, 0, [(1, 1)])], [], [])], [], 391, 1, 64)
set_option maxRecDepth 1000000 in
theorem ck_162 : x_ok mLT1 [] mTS2 mTC2 mRUp cx_162 [] [] [(6, ([(0, 3072), ((-2147483648), 999), (0, 22)], [(5, false)], [], [(2, 0, 0, []), (0, 0, 0, [(1, 1)]), (0, 0, 0, [(2, 1)])], [], [], []), (386, [(2, (-17))]))] (391, []) 0 19 = true := by decide +kernel
theorem sn_162 {W : Bool} {X : List Int32} : y_Snd (mGw W) mLT1 (J2 W X) X cx_162 := y_ok J2_J mTS2_ok1 mTC2_ok1 mRUp_ok1 (fun _ h => absurd h List.not_mem_nil) ck_162
/-- HairRope.most -/
def cx_163 : zCtx := (156, ([(0, 3072)], [(0, false)], [], [], [(2, 0, 0, [])], [], []), [([(0, 3072), (0, 999)], [(0, false)], [], [], [(0, 0, 0, [(1, 1)])], [], []), ([(0, 3072)], [(0, false)], [], [], [(0, 0, (-2), [])], [], [])], [(5, false, 2), (24, true, 0), (25, true, 0), (26, true, 0)], 53285, 5, 158)
set_option maxRecDepth 1000000 in
theorem ck_163 : x_ok mLT1 [cx_151, cx_162] mTS2 mTC2 mRUp cx_163 [(8, [0]), (15, [1])] [] [] (9, []) 53276 12 = true := by decide +kernel
theorem sn_163 {W : Bool} {X : List Int32} : y_Snd (mGw W) mLT1 (J2 W X) X cx_163 := y_ok J2_J mTS2_ok1 mTC2_ok1 mRUp_ok1 (List.forall_mem_cons.mpr ⟨sn_151, List.forall_mem_cons.mpr ⟨sn_162, fun _ h => absurd h List.not_mem_nil⟩⟩) ck_163
/-- HairRope.weakest -/
def cx_164 : zCtx := (157, ([(0, 3072), ((-2147483648), 2147483647)], [(0, false)], [], [], [(2, 0, 0, []), (0, 0, 0, [(1, 1)])], [], []), [([(0, 3072), (2, 2147483647)], [(0, false)], [], [], [(0, 0, (-1), [])], [], []), ([(0, 3072), (0, 1)], [(0, false)], [], [], [(0, 0, (-2), [])], [], []), ([(0, 3072), (0, 0), (0, 5)], [(0, false)], [], [], [(0, 0, 0, [(2, 1)])], [], []), ([(0, 3072), (1, 1), (0, 1)], [(0, false)], [], [], [(0, 0, 0, [(2, 1)])], [], []), ([(0, 3072), ((-2147483648), (-1))], [(0, false)], [], [], [(0, 0, (-1), [])], [], [])], [(5, false, 2), (24, true, 0), (25, true, 0), (26, true, 0)], 53307, 5, 158)
set_option maxRecDepth 1000000 in
theorem ck_164 : x_ok mLT1 [cx_151, cx_162, cx_152, cx_153] mTS2 mTC2 mRUp cx_164 [(19, [0]), (26, [1]), (45, [2]), (61, [3])] [] [] (31, []) 53276 34 = true := by decide +kernel
theorem sn_164 {W : Bool} {X : List Int32} : y_Snd (mGw W) mLT1 (J2 W X) X cx_164 := y_ok J2_J mTS2_ok1 mTC2_ok1 mRUp_ok1 (List.forall_mem_cons.mpr ⟨sn_151, List.forall_mem_cons.mpr ⟨sn_162, List.forall_mem_cons.mpr ⟨sn_152, List.forall_mem_cons.mpr ⟨sn_153, fun _ h => absurd h List.not_mem_nil⟩⟩⟩⟩) ck_164
/-- HairRope.below -/
def cx_165 : zCtx := (158, ([(0, 3072), ((-2147483648), 2147483647)], [(0, false)], [], [], [(2, 0, 0, []), (0, 0, 0, [(1, 1)])], [], []), [([(0, 3072), ((-2147483648), (-1))], [(0, false)], [], [], [(0, 0, (-1), [])], [], []), ([(0, 3072), (0, 2147483647)], [(0, false)], [], [], [(0, 0, (-1), [])], [], []), ([(0, 3072), (0, 5), ((-2147483648), 2147483647)], [(0, false)], [], [], [(0, 0, 0, [(2, 1)])], [], [])], [], 127, 2, 87)
set_option maxRecDepth 1000000 in
theorem ck_165 : x_ok mLT1 [cx_138, cx_144] mTS2 mTC2 mRUp cx_165 [(2, [0]), (13, [1])] [] [] (10, []) 117 13 = true := by decide +kernel
theorem sn_165 {W : Bool} {X : List Int32} : y_Snd (mGw W) mLT1 (J2 W X) X cx_165 := y_ok J2_J mTS2_ok1 mTC2_ok1 mRUp_ok1 (List.forall_mem_cons.mpr ⟨sn_138, List.forall_mem_cons.mpr ⟨sn_144, fun _ h => absurd h List.not_mem_nil⟩⟩) ck_165
/-- Planner.addToSums -/
def cx_166 : zCtx := (69, ([(0, 3072), (1, 32), ((-2147483648), 2147483647)], [(9, false)], [], [], [(2, 0, 0, []), (0, 0, 0, [(1, 1)]), (0, 0, 0, [(2, 1)])], [], []), [([(0, 3072), (1, 32), ((-2147483648), 2147483647)], [(9, false)], [], [], [], [], [])], [(40, true, 0)], 766, 0, 0)
set_option maxRecDepth 1000000 in
theorem ck_166 : x_ok mLT1 [] mTS2 mTC2 mRUp cx_166 [] [] [(2, ([(0, 3072), (1, 32), ((-2147483648), 2147483647), (0, 33)], [(9, false)], [], [(2, 0, 0, []), (0, 0, 0, [(1, 1)]), (0, 0, 0, [(2, 1)]), (0, 0, 0, [(3, 1)])], [], [], []), (763, [(3, (-23))]))] (766, []) 0 25 = true := by decide +kernel
theorem sn_166 {W : Bool} {X : List Int32} : y_Snd (mGw W) mLT1 (J2 W X) X cx_166 := y_ok J2_J mTS2_ok1 mTC2_ok1 mRUp_ok1 (fun _ h => absurd h List.not_mem_nil) ck_166
/-- Planner.lookAtHouses -/
def cx_167 : zCtx := (68, ([(0, 3072), (0, 63)], [(9, false), (6, false)], [], [], [(2, 0, 0, []), (2, 1, 0, [])], [(0, (false, 10, 0, []), 0, 0, 0, [(1, 1)])], []), [([(0, 3072), (0, 63), (0, 63)], [(9, false), (6, false)], [], [], [], [(0, (false, 10, 0, []), 0, 0, 0, [(2, 1)])], [])], [(9, false, 10), (34, true, 0), (40, true, 0)], 1085, 1, 23)
set_option maxRecDepth 1000000 in
theorem ck_167 : x_ok mLT1 [cx_126, cx_127, cx_166] mTS2 mTC2 mRUp cx_167 [(29, [0]), (66, [1]), (97, [2])] [] [(7, ([(0, 3072), (0, 63), (0, 6), (0, 63)], [(9, false), (6, false)], [], [(2, 0, 0, []), (2, 1, 0, []), (0, 0, 0, [(2, 1)]), (5, 0, 0, []), (5, 0, 0, [])], [], [(0, (false, 10, 0, []), 0, 0, 0, [(3, 1)])], []), (313, [(2, (-51))]))] (319, []) 766 53 = true := by decide +kernel
theorem sn_167 {W : Bool} {X : List Int32} : y_Snd (mGw W) mLT1 (J2 W X) X cx_167 := y_ok J2_J mTS2_ok1 mTC2_ok1 mRUp_ok1 (List.forall_mem_cons.mpr ⟨sn_126, List.forall_mem_cons.mpr ⟨sn_127, List.forall_mem_cons.mpr ⟨sn_166, fun _ h => absurd h List.not_mem_nil⟩⟩⟩) ck_167
/-- Planner.isAble -/
def cx_168 : zCtx := (71, ([(0, 3072), (0, 5), (0, 63)], [(9, false)], [], [], [(2, 0, 0, []), (0, 0, 0, [(1, 1)])], [(0, (false, 10, 0, []), 0, 0, 0, [(2, 1)])], []), [([(0, 3072), (0, 5), (0, 63)], [(9, false)], [], [], [(0, 0, 1, [])], [], []), ([(0, 3072), (0, 5), (0, 63)], [(9, false)], [], [], [(0, 0, 0, [])], [], [])], [], 10, 0, 0)
set_option maxRecDepth 1000000 in
theorem ck_168 : x_ok mLT1 [] mTS2 mTC2 mRUp cx_168 [] [] [] (10, []) 0 13 = true := by decide +kernel
theorem sn_168 {W : Bool} {X : List Int32} : y_Snd (mGw W) mLT1 (J2 W X) X cx_168 := y_ok J2_J mTS2_ok1 mTC2_ok1 mRUp_ok1 (fun _ h => absurd h List.not_mem_nil) ck_168
/-- Planner.findJoins -/
def cx_169 : zCtx := (70, ([(0, 3072), (0, 0), (0, 63)], [(9, false), (6, false), (35, false)], [], [], [(2, 0, 0, []), (2, 1, 0, []), (2, 2, 0, []), (0, 0, 0, [(1, 1)])], [(0, (false, 10, 0, []), 0, 0, 0, [(2, 1)])], []), [([(0, 3072), (0, 0), (0, 63)], [(9, false), (6, false), (35, false)], [], [], [], [], [])], [(24, true, 0), (26, true, 0), (35, true, 0)], 54866, 3, 111)
set_option maxRecDepth 1000000 in
theorem ck_169 : x_ok mLT1 [cx_168, cx_134, cx_136] mTS2 mTC2 mRUp cx_169 [(56, [0]), (65, [0]), (98, [1]), (117, [2])] [] [(3, ([(0, 3072), (0, 0), (0, 63), (0, 6)], [(9, false), (6, false), (35, false)], [], [(2, 0, 0, []), (2, 1, 0, []), (2, 2, 0, []), (0, 0, 0, [(1, 1)]), (0, 0, 0, [(3, 1)]), (5, 0, 0, []), (5, 0, 0, []), (5, 0, 0, [])], [], [(0, (false, 10, 0, []), 0, 0, 0, [(2, 1)])], []), (1879, [(1, (-100000000000)), (3, (-312))])), (21, ([(0, 3072), (0, 0), (0, 63), (0, 5), (0, 6), (1, 6)], [(9, false), (6, false), (35, false), (5, false), (2, false)], [], [(2, 0, 0, []), (2, 1, 0, []), (2, 2, 0, []), (0, 0, 0, [(1, 1)]), (0, 0, 0, [(3, 1)]), (0, 0, 0, [(4, 1)]), (5, 0, 0, []), (5, 0, 0, [])], [], [(0, (false, 0, 0, []), 2, 3, 0, []), (0, (false, 10, 0, []), 0, 0, 0, [(2, 1)]), (3, (false, 3, 0, []), 2, 4, 0, []), (4, (false, 5, 0, []), 0, 0, 0, [(5, 1)])], []), (1870, [(1, (-100000000000)), (3, (-312)), (4, (-49))]))] (1882, []) 52984 51 = true := by decide +kernel
theorem sn_169 {W : Bool} {X : List Int32} : y_Snd (mGw W) mLT1 (J2 W X) X cx_169 := y_ok J2_J mTS2_ok1 mTC2_ok1 mRUp_ok1 (List.forall_mem_cons.mpr ⟨sn_168, List.forall_mem_cons.mpr ⟨sn_134, List.forall_mem_cons.mpr ⟨sn_136, fun _ h => absurd h List.not_mem_nil⟩⟩⟩) ck_169
/-- Planner.lookAt -/
def cx_170 : zCtx := (67, ([(0, 3072), (0, 63)], [(9, false), (6, false)], [], [], [(2, 0, 0, []), (2, 1, 0, [])], [(0, (false, 10, 0, []), 0, 0, 0, [(1, 1)])], []), [([(0, 3072), (0, 63), (0, 63)], [(9, false), (6, false)], [], [], [], [(0, (false, 10, 0, []), 0, 0, 0, [(2, 1)])], [])], [(9, false, 10), (24, true, 0), (26, true, 0), (34, true, 0), (35, true, 0), (40, true, 0)], 54876, 4, 138)
set_option maxRecDepth 1000000 in
theorem ck_170 : x_ok mLT1 [cx_167, cx_169] mTS2 mTC2 mRUp cx_170 [(2, [0]), (12, [1])] [] [] (10, []) 54866 13 = true := by decide +kernel
theorem sn_170 {W : Bool} {X : List Int32} : y_Snd (mGw W) mLT1 (J2 W X) X cx_170 := y_ok J2_J mTS2_ok1 mTC2_ok1 mRUp_ok1 (List.forall_mem_cons.mpr ⟨sn_167, List.forall_mem_cons.mpr ⟨sn_169, fun _ h => absurd h List.not_mem_nil⟩⟩) ck_170
/-- Integer.bitCount -/
def cx_171 : zCtx := (1, ([(0, 3072), ((-2147483648), 2147483647)], [], [], [], [(0, 0, 0, [(1, 1)])], [], []), [([(0, 3072), ((-2147483648), 2147483647), (0, 63)], [], [], [], [(0, 0, 0, [(2, 1)])], [], [])], [], 42, 0, 0)
set_option maxRecDepth 1000000 in
theorem ck_171 : x_ok mLT1 [] mTS2 mTC2 mRUp cx_171 [] [] [] (42, []) 0 45 = true := by decide +kernel
theorem sn_171 {W : Bool} {X : List Int32} : y_Snd (mGw W) mLT1 (J2 W X) X cx_171 := y_ok J2_J mTS2_ok1 mTC2_ok1 mRUp_ok1 (fun _ h => absurd h List.not_mem_nil) ck_171
/-- Planner.powerOfSix -/
def cx_172 : zCtx := (75, ([(0, 3072), (0, 63)], [], [], [], [(0, 0, 0, [(1, 1)])], [], []), [([(0, 3072), (1, 63), ((-2147483648), 2147483647)], [], [], [], [(0, 0, 0, [(2, 1)])], [], []), ([(0, 3072), (0, 6), ((-2147483648), 2147483647)], [], [], [], [(0, 0, 0, [(2, 1)])], [], [])], [], 91, 0, 0)
set_option maxRecDepth 1000000 in
theorem ck_172 : x_ok mLT1 [] mTS2 mTC2 mRUp cx_172 [] [] [(4, ([(0, 3072), (0, 63), ((-2147483648), 2147483647), (0, 6)], [], [], [(0, 0, 0, [(1, 1)]), (0, 0, 0, [(2, 1)]), (0, 0, 0, [(3, 1)])], [], [], []), (86, [(3, (-13))]))] (91, []) 0 15 = true := by decide +kernel
theorem sn_172 {W : Bool} {X : List Int32} : y_Snd (mGw W) mLT1 (J2 W X) X cx_172 := y_ok J2_J mTS2_ok1 mTC2_ok1 mRUp_ok1 (fun _ h => absurd h List.not_mem_nil) ck_172
/-- Planner.putUpon -/
def cx_173 : zCtx := (76, ([(0, 3072), (6, 383), (0, 383), ((-2147483648), 2147483647), ((-2147483648), 2147483647)], [(9, false)], [], [], [(2, 0, 0, []), (0, 0, 0, [(1, 1)]), (0, 0, 0, [(2, 1)]), (0, 0, 0, [(3, 1)]), (0, 0, 0, [(4, 1)])], [], []), [([(0, 3072), (6, 383), (0, 383), ((-2147483648), 2147483647), ((-2147483648), 2147483647)], [(9, false)], [], [], [], [], [])], [(37, true, 0), (38, true, 0), (39, true, 0)], 65, 1, 64)
set_option maxRecDepth 1000000 in
theorem ck_173 : x_ok mLT1 [] mTS2 mTC2 mRUp cx_173 [] [] [] (65, []) 0 68 = true := by decide +kernel
theorem sn_173 {W : Bool} {X : List Int32} : y_Snd (mGw W) mLT1 (J2 W X) X cx_173 := y_ok J2_J mTS2_ok1 mTC2_ok1 mRUp_ok1 (fun _ h => absurd h List.not_mem_nil) ck_173
/-- Planner.build -/
def cx_174 : zCtx := (74, ([(0, 3072), (1, 63), (0, 5)], [(9, false)], [], [], [(2, 0, 0, []), (0, 0, 0, [(1, 1)]), (0, 0, 0, [(2, 1)])], [], []), [([(0, 3072), (1, 63), (0, 5)], [(9, false)], [(383, [(1, (-6)), (2, (-1))]), (0, [(1, 6), (2, 1)])], [], [], [], [])], [(37, true, 0), (38, true, 0), (39, true, 0)], 405, 2, 90)
set_option maxRecDepth 1000000 in
theorem ck_174 : x_ok mLT1 [cx_171, cx_172, cx_173] mTS2 mTC2 mRUp cx_174 [(100, [0]), (103, [1]), (174, [2])] [] [(112, ([(0, 3072), (1, 63), (0, 5), (0, 63), ((-2147483648), 2147483647), (0, 6)], [(9, false), (39, false), (38, false), (37, false)], [(383, [(1, (-6)), (2, (-1))]), (0, [(1, 6), (2, 1)])], [(2, 0, 0, []), (0, 0, 0, [(1, 1)]), (0, 0, 0, [(2, 1)]), (0, 0, 0, [(1, 6), (2, 1)]), (0, 0, 0, [(3, 1)]), (0, 0, 0, [(4, 1)]), (0, 0, 0, [(5, 1)]), (5, 0, 0, [])], [], [(0, (false, 6, 0, []), 2, 1, 0, []), (0, (false, 5, 0, []), 2, 2, 0, []), (0, (false, 4, 0, []), 2, 3, 0, [])], []), (250, [(5, (-41))]))] (314, []) 91 66 = true := by decide +kernel
theorem sn_174 {W : Bool} {X : List Int32} : y_Snd (mGw W) mLT1 (J2 W X) X cx_174 := y_ok J2_J mTS2_ok1 mTC2_ok1 mRUp_ok1 (List.forall_mem_cons.mpr ⟨sn_171, List.forall_mem_cons.mpr ⟨sn_172, List.forall_mem_cons.mpr ⟨sn_173, fun _ h => absurd h List.not_mem_nil⟩⟩⟩) ck_174
/-- Planner.reaches -/
def cx_175 : zCtx := (77, ([(0, 3072), (0, 63)], [(9, false)], [], [], [(2, 0, 0, []), (0, 0, 0, [(1, 1)])], [], []), [([(0, 3072), (0, 63)], [(9, false)], [], [], [(0, 0, 1, [])], [], []), ([(0, 3072), (0, 63)], [(9, false)], [], [], [(0, 0, 0, [])], [], [])], [], 17, 0, 0)
set_option maxRecDepth 1000000 in
theorem ck_175 : x_ok mLT1 [] mTS2 mTC2 mRUp cx_175 [] [] [] (17, []) 0 20 = true := by decide +kernel
theorem sn_175 {W : Bool} {X : List Int32} : y_Snd (mGw W) mLT1 (J2 W X) X cx_175 := y_ok J2_J mTS2_ok1 mTC2_ok1 mRUp_ok1 (fun _ h => absurd h List.not_mem_nil) ck_175
/-- Planner.note -/
def cx_176 : zCtx := (78, ([(0, 3072), (1, 63), (6, 383)], [(9, false)], [], [], [(2, 0, 0, []), (0, 0, 0, [(1, 1)]), (0, 0, 0, [(2, 1)])], [], []), [([(0, 3072), (1, 63), (6, 383)], [(9, false)], [], [], [], [], [])], [(9, false, 8), (9, false, 11), (9, false, 12), (9, false, 13), (9, false, 14)], 105, 1, 64)
set_option maxRecDepth 1000000 in
theorem ck_176 : x_ok mLT1 [cx_171] mTS2 mTC2 mRUp cx_176 [(23, [0])] [] [] (63, []) 42 66 = true := by decide +kernel
theorem sn_176 {W : Bool} {X : List Int32} : y_Snd (mGw W) mLT1 (J2 W X) X cx_176 := y_ok J2_J mTS2_ok1 mTC2_ok1 mRUp_ok1 (List.forall_mem_cons.mpr ⟨sn_171, fun _ h => absurd h List.not_mem_nil⟩) ck_176
/-- Planner.surveySet -/
def cx_177 : zCtx := (73, ([(0, 3072), (1, 63)], [(9, false)], [], [], [(2, 0, 0, []), (0, 0, 0, [(1, 1)])], [], []), [([(0, 3072), (1, 63)], [(9, false)], [], [], [], [], [])], [(9, false, 8), (9, false, 11), (9, false, 12), (9, false, 13), (9, false, 14), (37, true, 0), (38, true, 0), (39, true, 0)], 580, 3, 117)
set_option maxRecDepth 1000000 in
theorem ck_177 : x_ok mLT1 [cx_174, cx_175, cx_176] mTS2 mTC2 mRUp cx_177 [(19, [0]), (24, [1]), (38, [2])] [] [(2, ([(0, 3072), (1, 63), (0, 6)], [(9, false)], [], [(2, 0, 0, []), (0, 0, 0, [(1, 1)]), (0, 0, 0, [(2, 1)])], [], [], []), (172, [(2, (-28))]))] (175, []) 405 30 = true := by decide +kernel
theorem sn_177 {W : Bool} {X : List Int32} : y_Snd (mGw W) mLT1 (J2 W X) X cx_177 := y_ok J2_J mTS2_ok1 mTC2_ok1 mRUp_ok1 (List.forall_mem_cons.mpr ⟨sn_174, List.forall_mem_cons.mpr ⟨sn_175, List.forall_mem_cons.mpr ⟨sn_176, fun _ h => absurd h List.not_mem_nil⟩⟩⟩) ck_177
/-- Planner.survey -/
def cx_178 : zCtx := (72, ([(0, 3072), (0, 999), (0, 63)], [(9, false)], [], [], [(2, 0, 0, []), (0, 0, 0, [(1, 1)])], [(0, (false, 10, 0, []), 0, 0, 0, [(2, 1)])], []), [([(0, 3072), (0, 999), (0, 63)], [(9, false)], [], [], [], [], [])], [(9, false, 7), (9, false, 8), (9, false, 11), (9, false, 12), (9, false, 13), (9, false, 14), (37, true, 0), (38, true, 0), (39, true, 0)], 1614, 4, 139)
set_option maxRecDepth 1000000 in
theorem ck_178 : x_ok mLT1 [cx_177] mTS2 mTC2 mRUp cx_178 [(56, [0])] [] [(37, ([(0, 3072), (0, 999), (0, 63), (1, 64)], [(9, false)], [], [(2, 0, 0, []), (0, 0, 0, [(1, 1)]), (0, 0, 0, [(3, 1)])], [], [(0, (false, 10, 0, []), 0, 0, 0, [(2, 1)])], []), (1028, [(3, (-16))]))] (1034, []) 580 24 = true := by decide +kernel
theorem sn_178 {W : Bool} {X : List Int32} : y_Snd (mGw W) mLT1 (J2 W X) X cx_178 := y_ok J2_J mTS2_ok1 mTC2_ok1 mRUp_ok1 (List.forall_mem_cons.mpr ⟨sn_177, fun _ h => absurd h List.not_mem_nil⟩) ck_178
/-- HairRope.orders -/
def cx_179 : zCtx := (159, ([(0, 3072), ((-2147483648), 2147483647)], [(0, false)], [], [], [(2, 0, 0, []), (0, 0, 0, [(1, 1)])], [], []), [([(0, 3072), ((-2147483648), (-1))], [(0, false)], [], [], [(0, 0, (-1), [])], [], []), ([(0, 3072), (1000, 2147483647)], [(0, false)], [], [], [(0, 0, (-1), [])], [], []), ([(0, 3072), (0, 999), ((-2147483648), 2147483647)], [(0, false)], [], [], [(0, 0, 0, [(2, 1)])], [], [])], [(9, false, 7), (9, false, 8), (9, false, 10), (9, false, 11), (9, false, 12), (9, false, 13), (9, false, 14), (24, true, 0), (26, true, 0), (34, true, 0), (35, true, 0), (37, true, 0), (38, true, 0), (39, true, 0), (40, true, 0)], 54892, 5, 161)
set_option maxRecDepth 1000000 in
theorem ck_179 : x_ok mLT1 [cx_148, cx_170, cx_178] mTS2 mTC2 mRUp cx_179 [(1, [0]), (17, [1]), (25, [2])] [] [] (16, []) 54876 19 = true := by decide +kernel
theorem sn_179 {W : Bool} {X : List Int32} : y_Snd (mGw W) mLT1 (J2 W X) X cx_179 := y_ok J2_J mTS2_ok1 mTC2_ok1 mRUp_ok1 (List.forall_mem_cons.mpr ⟨sn_148, List.forall_mem_cons.mpr ⟨sn_170, List.forall_mem_cons.mpr ⟨sn_178, fun _ h => absurd h List.not_mem_nil⟩⟩⟩) ck_179
/-- HairRope.peak -/
def cx_180 : zCtx := (160, ([(0, 3072)], [(0, false)], [], [], [(2, 0, 0, [])], [], []), [([(0, 3072), ((-2147483648), 2147483647)], [(0, false)], [], [], [(0, 0, 0, [(1, 1)])], [], [])], [(9, false, 7), (9, false, 8), (9, false, 10), (9, false, 11), (9, false, 12), (9, false, 13), (9, false, 14), (24, true, 0), (26, true, 0), (34, true, 0), (35, true, 0), (37, true, 0), (38, true, 0), (39, true, 0), (40, true, 0)], 54894, 5, 161)
set_option maxRecDepth 1000000 in
theorem ck_180 : x_ok mLT1 [cx_170, cx_178] mTS2 mTC2 mRUp cx_180 [(8, [0]), (16, [1])] [] [] (18, []) 54876 21 = true := by decide +kernel
theorem sn_180 {W : Bool} {X : List Int32} : y_Snd (mGw W) mLT1 (J2 W X) X cx_180 := y_ok J2_J mTS2_ok1 mTC2_ok1 mRUp_ok1 (List.forall_mem_cons.mpr ⟨sn_170, List.forall_mem_cons.mpr ⟨sn_178, fun _ h => absurd h List.not_mem_nil⟩⟩) ck_180
/-- Planner.fewestHouseAt -/
def cx_181 : zCtx := (79, ([(0, 3072), ((-2147483648), 2147483647)], [(9, false)], [], [], [(2, 0, 0, []), (0, 0, 0, [(1, 1)])], [], []), [([(0, 3072), (0, 2147483646)], [(9, false)], [], [], [(0, 0, (-1), [])], [], []), ([(0, 3072), (0, 2147483646), ((-5), 5)], [(9, false)], [], [], [(0, 0, 0, [(2, 1)])], [], []), ([(0, 3072), (0, 2147483647)], [(9, false)], [], [], [(0, 0, (-1), [])], [], []), ([(0, 3072), ((-2147483648), (-1))], [(9, false)], [], [], [(0, 0, (-1), [])], [], [])], [], 119, 1, 22)
set_option maxRecDepth 1000000 in
theorem ck_181 : x_ok mLT1 [cx_172] mTS2 mTC2 mRUp cx_181 [(31, [0])] [] [] (28, []) 91 31 = true := by decide +kernel
theorem sn_181 {W : Bool} {X : List Int32} : y_Snd (mGw W) mLT1 (J2 W X) X cx_181 := y_ok J2_J mTS2_ok1 mTC2_ok1 mRUp_ok1 (List.forall_mem_cons.mpr ⟨sn_172, fun _ h => absurd h List.not_mem_nil⟩) ck_181
/-- HairRope.fewest -/
def cx_182 : zCtx := (161, ([(0, 3072), ((-2147483648), 2147483647), ((-2147483648), 2147483647)], [(0, false)], [], [], [(2, 0, 0, []), (0, 0, 0, [(1, 1)]), (0, 0, 0, [(2, 1)])], [], []), [([(0, 3072), ((-2147483648), (-1)), ((-2147483648), 2147483647)], [(0, false)], [], [], [(0, 0, (-1), [])], [], []), ([(0, 3072), (1000, 2147483647), ((-2147483648), 2147483647)], [(0, false)], [], [], [(0, 0, (-1), [])], [], []), ([(0, 3072), (0, 999), ((-2147483648), 2147483647)], [(0, false)], [], [], [(0, 0, (-2), [])], [], []), ([(0, 3072), (0, 999), ((-1), (-1)), ((-2147483648), 2147483647)], [(0, false)], [], [], [(0, 0, 0, [(3, 1)])], [], []), ([(0, 3072), (0, 999), ((-2147483648), (-2))], [(0, false)], [], [], [(0, 0, (-1), [])], [], []), ([(0, 3072), (0, 999), (0, 2147483647)], [(0, false)], [], [], [(0, 0, (-1), [])], [], []), ([(0, 3072), (0, 999), (0, 2147483646), ((-5), 5)], [(0, false)], [], [], [(0, 0, 0, [(3, 1)])], [], [])], [(9, false, 7), (9, false, 8), (9, false, 10), (9, false, 11), (9, false, 12), (9, false, 13), (9, false, 14), (24, true, 0), (26, true, 0), (34, true, 0), (35, true, 0), (37, true, 0), (38, true, 0), (39, true, 0), (40, true, 0)], 54900, 5, 161)
set_option maxRecDepth 1000000 in
theorem ck_182 : x_ok mLT1 [cx_148, cx_170, cx_178, cx_181] mTS2 mTC2 mRUp cx_182 [(1, [0]), (17, [1]), (25, [2]), (61, [3])] [] [] (24, []) 54876 27 = true := by decide +kernel
theorem sn_182 {W : Bool} {X : List Int32} : y_Snd (mGw W) mLT1 (J2 W X) X cx_182 := y_ok J2_J mTS2_ok1 mTC2_ok1 mRUp_ok1 (List.forall_mem_cons.mpr ⟨sn_148, List.forall_mem_cons.mpr ⟨sn_170, List.forall_mem_cons.mpr ⟨sn_178, List.forall_mem_cons.mpr ⟨sn_181, fun _ h => absurd h List.not_mem_nil⟩⟩⟩⟩) ck_182
/-- HairRope.needed -/
def cx_183 : zCtx := (162, ([(0, 3072), ((-2147483648), 2147483647)], [(0, false)], [], [], [(2, 0, 0, []), (0, 0, 0, [(1, 1)])], [], []), [([(0, 3072), ((-2147483648), (-1))], [(0, false)], [], [], [(0, 0, (-1), [])], [], []), ([(0, 3072), (1000, 2147483647)], [(0, false)], [], [], [(0, 0, (-1), [])], [], []), ([(0, 3072), (0, 999), ((-2147483648), 2147483647)], [(0, false)], [], [], [(0, 0, 0, [(2, 1)])], [], [])], [(9, false, 7), (9, false, 8), (9, false, 10), (9, false, 11), (9, false, 12), (9, false, 13), (9, false, 14), (24, true, 0), (26, true, 0), (34, true, 0), (35, true, 0), (37, true, 0), (38, true, 0), (39, true, 0), (40, true, 0)], 54897, 5, 161)
set_option maxRecDepth 1000000 in
theorem ck_183 : x_ok mLT1 [cx_148, cx_170, cx_178] mTS2 mTC2 mRUp cx_183 [(1, [0]), (17, [1]), (25, [2])] [] [] (21, []) 54876 24 = true := by decide +kernel
theorem sn_183 {W : Bool} {X : List Int32} : y_Snd (mGw W) mLT1 (J2 W X) X cx_183 := y_ok J2_J mTS2_ok1 mTC2_ok1 mRUp_ok1 (List.forall_mem_cons.mpr ⟨sn_148, List.forall_mem_cons.mpr ⟨sn_170, List.forall_mem_cons.mpr ⟨sn_178, fun _ h => absurd h List.not_mem_nil⟩⟩⟩) ck_183
/-- Forecast.yearsUntilHeld -/
def cx_184 : zCtx := (24, ([(0, 3072), (0, 999)], [(8, false), (9, false), (6, false)], [], [], [(2, 0, 0, []), (2, 1, 0, []), (2, 2, 0, []), (0, 0, 0, [(1, 1)])], [], []), [([(0, 3072), (0, 999), (0, 60)], [(8, false), (9, false), (6, false)], [], [], [(0, 0, 0, [(2, 1)])], [], []), ([(0, 3072), (0, 999)], [(8, false), (9, false), (6, false)], [], [], [(0, 0, (-2), [])], [], [])], [(6, false, 5), (6, false, 6), (6, false, 7), (6, false, 8), (9, false, 7), (9, false, 8), (9, false, 10), (9, false, 11), (9, false, 12), (9, false, 13), (9, false, 14), (24, true, 0), (26, true, 0), (27, true, 0), (28, true, 0), (29, true, 0), (30, true, 0), (31, true, 0), (34, true, 0), (35, true, 0), (37, true, 0), (38, true, 0), (39, true, 0), (40, true, 0)], 56337, 5, 161)
set_option maxRecDepth 1000000 in
theorem ck_184 : x_ok mLT1 [cx_141, cx_170, cx_178, cx_158] mTS2 mTC2 mRUp cx_184 [(5, [0]), (23, [1]), (28, [2]), (51, [3])] [] [(11, ([(0, 3072), (0, 999), (0, 63), (0, 6), (0, 6)], [(8, false), (9, false), (6, false), (6, false)], [], [(2, 0, 0, []), (2, 1, 0, []), (2, 2, 0, []), (0, 0, 0, [(1, 1)]), (0, 0, 0, [(2, 1)])], [], [(0, (false, 1, 0, []), 2, 3, 0, []), (3, (false, 6, 0, []), 0, 0, 0, [(3, 1)]), (3, (false, 5, 0, []), 0, 0, 0, [(4, 1)])], []), (1454, [(2, (-23))]))] (1461, []) 54876 25 = true := by decide +kernel
theorem sn_184 {W : Bool} {X : List Int32} : y_Snd (mGw W) mLT1 (J2 W X) X cx_184 := y_ok J2_J mTS2_ok1 mTC2_ok1 mRUp_ok1 (List.forall_mem_cons.mpr ⟨sn_141, List.forall_mem_cons.mpr ⟨sn_170, List.forall_mem_cons.mpr ⟨sn_178, List.forall_mem_cons.mpr ⟨sn_158, fun _ h => absurd h List.not_mem_nil⟩⟩⟩⟩) ck_184
/-- HairRope.soon -/
def cx_185 : zCtx := (163, ([(0, 3072), ((-2147483648), 2147483647)], [(0, false)], [], [], [(2, 0, 0, []), (0, 0, 0, [(1, 1)])], [], []), [([(0, 3072), ((-2147483648), (-1))], [(0, false)], [], [], [(0, 0, (-1), [])], [], []), ([(0, 3072), (1000, 2147483647)], [(0, false)], [], [], [(0, 0, (-1), [])], [], []), ([(0, 3072), (0, 999)], [(0, false)], [], [], [(0, 0, (-2), [])], [], []), ([(0, 3072), (0, 999), (0, 60)], [(0, false)], [], [], [(0, 0, 0, [(2, 1)])], [], [])], [(6, false, 5), (6, false, 6), (6, false, 7), (6, false, 8), (9, false, 7), (9, false, 8), (9, false, 10), (9, false, 11), (9, false, 12), (9, false, 13), (9, false, 14), (24, true, 0), (26, true, 0), (27, true, 0), (28, true, 0), (29, true, 0), (30, true, 0), (31, true, 0), (34, true, 0), (35, true, 0), (37, true, 0), (38, true, 0), (39, true, 0), (40, true, 0)], 56350, 6, 185)
set_option maxRecDepth 1000000 in
theorem ck_185 : x_ok mLT1 [cx_148, cx_184] mTS2 mTC2 mRUp cx_185 [(1, [0]), (20, [1])] [] [] (13, []) 56337 16 = true := by decide +kernel
theorem sn_185 {W : Bool} {X : List Int32} : y_Snd (mGw W) mLT1 (J2 W X) X cx_185 := y_ok J2_J mTS2_ok1 mTC2_ok1 mRUp_ok1 (List.forall_mem_cons.mpr ⟨sn_148, List.forall_mem_cons.mpr ⟨sn_184, fun _ h => absurd h List.not_mem_nil⟩⟩) ck_185
/-- Planner.findJoins -/
def cx_186 : zCtx := (70, ([(0, 3072), (1, 1), (0, 63)], [(9, false), (6, false), (36, false)], [], [], [(2, 0, 0, []), (2, 1, 0, []), (2, 2, 0, []), (0, 0, 0, [(1, 1)])], [(0, (false, 10, 0, []), 0, 0, 0, [(2, 1)])], []), [([(0, 3072), (1, 1), (0, 63)], [(9, false), (6, false), (36, false)], [], [], [], [], [])], [(24, true, 0), (26, true, 0), (36, true, 0)], 54722, 3, 111)
set_option maxRecDepth 1000000 in
theorem ck_186 : x_ok mLT1 [cx_168, cx_136] mTS2 mTC2 mRUp cx_186 [(56, [0]), (65, [0]), (117, [1])] [] [(3, ([(0, 3072), (1, 1), (0, 63), (0, 6)], [(9, false), (6, false), (36, false)], [], [(2, 0, 0, []), (2, 1, 0, []), (2, 2, 0, []), (0, 0, 0, [(1, 1)]), (0, 0, 0, [(3, 1)]), (5, 0, 0, []), (5, 0, 0, []), (5, 0, 0, [])], [], [(0, (false, 10, 0, []), 0, 0, 0, [(2, 1)])], []), ((-99999998265), [(1, 100000000000), (3, (-288))])), (21, ([(0, 3072), (1, 1), (0, 63), (0, 5), (0, 6), (1, 6)], [(9, false), (6, false), (36, false), (5, false), (2, false)], [], [(2, 0, 0, []), (2, 1, 0, []), (2, 2, 0, []), (0, 0, 0, [(1, 1)]), (0, 0, 0, [(3, 1)]), (0, 0, 0, [(4, 1)]), (5, 0, 0, []), (5, 0, 0, [])], [], [(0, (false, 0, 0, []), 2, 3, 0, []), (0, (false, 10, 0, []), 0, 0, 0, [(2, 1)]), (3, (false, 3, 0, []), 2, 4, 0, []), (4, (false, 5, 0, []), 0, 0, 0, [(5, 1)])], []), ((-99999998274), [(1, 100000000000), (3, (-288)), (4, (-45))]))] (1738, []) 52984 47 = true := by decide +kernel
theorem sn_186 {W : Bool} {X : List Int32} : y_Snd (mGw W) mLT1 (J2 W X) X cx_186 := y_ok J2_J mTS2_ok1 mTC2_ok1 mRUp_ok1 (List.forall_mem_cons.mpr ⟨sn_168, List.forall_mem_cons.mpr ⟨sn_136, fun _ h => absurd h List.not_mem_nil⟩⟩) ck_186
/-- Planner.isPair -/
def cx_187 : zCtx := (81, ([(0, 3072), (0, 40), (0, 63)], [(9, false)], [], [], [(2, 0, 0, []), (0, 0, 0, [(1, 1)])], [(0, (false, 10, 0, []), 0, 0, 0, [(2, 1)])], []), [([(0, 3072), (0, 40), (0, 63)], [(9, false)], [], [], [(0, 0, 0, [])], [], []), ([(0, 3072), (0, 40), (0, 63)], [(9, false)], [], [], [(0, 0, 1, [])], [], [])], [], 32, 1, 21)
set_option maxRecDepth 1000000 in
theorem ck_187 : x_ok mLT1 [cx_168] mTS2 mTC2 mRUp cx_187 [(17, [0]), (25, [0])] [] [] (22, []) 10 25 = true := by decide +kernel
theorem sn_187 {W : Bool} {X : List Int32} : y_Snd (mGw W) mLT1 (J2 W X) X cx_187 := y_ok J2_J mTS2_ok1 mTC2_ok1 mRUp_ok1 (List.forall_mem_cons.mpr ⟨sn_168, fun _ h => absurd h List.not_mem_nil⟩) ck_187
/-- Planner.exchangeJoin -/
def cx_188 : zCtx := (84, ([(0, 3072), (0, 40)], [(9, false)], [], [], [(2, 0, 0, []), (0, 0, 0, [(1, 1)])], [], []), [([(0, 3072), (0, 35)], [(9, false)], [], [], [], [], []), ([(0, 3072), (36, 40)], [(9, false)], [], [], [], [], [])], [(35, true, 0), (36, true, 0)], 31, 0, 0)
set_option maxRecDepth 1000000 in
theorem ck_188 : x_ok mLT1 [] mTS2 mTC2 mRUp cx_188 [] [] [] (31, []) 0 34 = true := by decide +kernel
theorem sn_188 {W : Bool} {X : List Int32} : y_Snd (mGw W) mLT1 (J2 W X) X cx_188 := y_ok J2_J mTS2_ok1 mTC2_ok1 mRUp_ok1 (fun _ h => absurd h List.not_mem_nil) ck_188
/-- Planner.exchangePair -/
def cx_189 : zCtx := (83, ([(0, 3072), (0, 40)], [(9, false)], [], [], [(2, 0, 0, []), (0, 0, 0, [(1, 1)])], [], []), [([(0, 3072), (36, 40)], [(9, false)], [], [], [], [], []), ([(0, 3072), (0, 35)], [(9, false)], [], [], [], [], [])], [(35, true, 0), (36, true, 0)], 46, 1, 22)
set_option maxRecDepth 1000000 in
theorem ck_189 : x_ok mLT1 [cx_188] mTS2 mTC2 mRUp cx_189 [(2, [0]), (18, [0])] [] [] (15, []) 31 18 = true := by decide +kernel
theorem sn_189 {W : Bool} {X : List Int32} : y_Snd (mGw W) mLT1 (J2 W X) X cx_189 := y_ok J2_J mTS2_ok1 mTC2_ok1 mRUp_ok1 (List.forall_mem_cons.mpr ⟨sn_188, fun _ h => absurd h List.not_mem_nil⟩) ck_189
