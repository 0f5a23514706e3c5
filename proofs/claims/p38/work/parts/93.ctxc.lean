/-! ===== the readings 96 .. 143, by program, checked by the kernel ===== -/
/-- State.addPlait -/
def cx_96 : zCtx := (103, ([(0, 3072), (0, 5), ((-2147483648), 2147483647), (0, 6)], [(6, false)], [], [], [(2, 0, 0, []), (0, 0, 0, [(1, 1)]), (0, 0, 0, [(2, 1)])], [(0, (false, 6, 0, []), 0, 0, 0, [(3, 1)])], []), [([(0, 3072), (0, 5), ((-2147483648), 2147483647), (0, 5)], [(6, false)], [], [], [], [(0, (false, 6, 0, []), 0, 0, 1, [(3, 1)])], []), ([(0, 3072), (0, 5), ((-2147483648), 2147483647), (6, 6)], [(6, false)], [], [], [], [(0, (false, 6, 0, []), 0, 0, 0, [(3, 1)])], [])], [(6, false, 6), (27, true, 0), (28, true, 0), (29, true, 0), (30, true, 0), (31, true, 0)], 53, 0, 0)
set_option maxRecDepth 1000000 in
theorem ck_96 : x_ok mLT [] mTS mTC mRU cx_96 [] [] [] (53, []) 0 56 = true := by decide +kernel
theorem sn_96 {X : List Int32} : y_Snd mGa mLT (mJS X) X cx_96 := y_ok (fun _ _ _ => Iff.rfl) mTS_ok mTC_ok mRU_ok (fun _ h => absurd h List.not_mem_nil) ck_96
/-- State.lengthBelow -/
def cx_97 : zCtx := (105, ([(0, 3072), ((-1), 5), (0, 6)], [(6, false)], [], [], [(2, 0, 0, []), (0, 0, 0, [(1, 1)])], [(0, (false, 6, 0, []), 0, 0, 0, [(2, 1)])], []), [([(0, 3072), ((-1), 5), (0, 6), ((-2147483648), 2147483647)], [(6, false)], [], [], [(0, 0, 0, [(3, 1)])], [], [])], [], 117, 1, 64)
set_option maxRecDepth 1000000 in
theorem ck_97 : x_ok mLT [] mTS mTC mRU cx_97 [] [] [(10, ([(0, 3072), ((-1), 5), (0, 6), ((-2147483648), 2147483647), (0, 6)], [(6, false)], [], [(2, 0, 0, []), (0, 0, 0, [(1, 1)]), (0, 0, 0, [(3, 1)]), (0, 0, 0, [(4, 1)])], [], [(0, (false, 6, 0, []), 0, 0, 0, [(2, 1)])], []), (108, [(4, (-17))]))] (117, []) 0 19 = true := by decide +kernel
theorem sn_97 {X : List Int32} : y_Snd mGa mLT (mJS X) X cx_97 := y_ok (fun _ _ _ => Iff.rfl) mTS_ok mTC_ok mRU_ok (fun _ h => absurd h List.not_mem_nil) ck_97
/-- State.ropeLength -/
def cx_98 : zCtx := (104, ([(0, 3072), (0, 6)], [(6, false)], [], [], [(2, 0, 0, [])], [(0, (false, 6, 0, []), 0, 0, 0, [(1, 1)])], []), [([(0, 3072), (0, 6), ((-2147483648), 2147483647)], [(6, false)], [], [], [(0, 0, 0, [(2, 1)])], [], [])], [], 121, 2, 87)
set_option maxRecDepth 1000000 in
theorem ck_98 : x_ok mLT [cx_97] mTS mTC mRU cx_98 [(2, [0])] [] [] (4, []) 117 7 = true := by decide +kernel
theorem sn_98 {X : List Int32} : y_Snd mGa mLT (mJS X) X cx_98 := y_ok (fun _ _ _ => Iff.rfl) mTS_ok mTC_ok mRU_ok (List.forall_mem_cons.mpr ⟨sn_97, fun _ h => absurd h List.not_mem_nil⟩) ck_98
/-- HairRope.splice -/
def cx_99 : zCtx := (149, ([(0, 3072), ((-2147483648), 2147483647)], [(0, false)], [], [], [(2, 0, 0, []), (0, 0, 0, [(1, 1)])], [], []), [([(0, 3072), ((-2147483648), (-1))], [(0, false)], [], [], [(0, 0, (-1), [])], [], []), ([(0, 3072), (0, 2147483647)], [(0, false)], [], [], [(0, 0, (-1), [])], [], []), ([(0, 3072), (0, 5), ((-2147483648), 2147483647)], [(0, false)], [], [], [(0, 0, 0, [(2, 1)])], [], [])], [(6, false, 5), (6, false, 6), (6, false, 7), (6, false, 8), (7, false, 2), (7, false, 3), (27, true, 0), (28, true, 0), (29, true, 0), (30, true, 0), (31, true, 0)], 156, 3, 107)
set_option maxRecDepth 1000000 in
theorem ck_99 : x_ok mLT [cx_78, cx_79, cx_95, cx_96, cx_98] mTS mTC mRU cx_99 [(2, [0]), (13, [1]), (42, [2]), (62, [3]), (69, [4])] [] [] (35, []) 121 38 = true := by decide +kernel
theorem sn_99 {X : List Int32} : y_Snd mGa mLT (mJS X) X cx_99 := y_ok (fun _ _ _ => Iff.rfl) mTS_ok mTC_ok mRU_ok (List.forall_mem_cons.mpr ⟨sn_78, List.forall_mem_cons.mpr ⟨sn_79, List.forall_mem_cons.mpr ⟨sn_95, List.forall_mem_cons.mpr ⟨sn_96, List.forall_mem_cons.mpr ⟨sn_98, fun _ h => absurd h List.not_mem_nil⟩⟩⟩⟩⟩) ck_99
/-- HairRope.unsplice -/
def cx_100 : zCtx := (150, ([(0, 3072)], [(0, false)], [], [], [(2, 0, 0, [])], [], []), [([(0, 3072)], [(0, false)], [], [], [(0, 0, (-1), [])], [], []), ([(0, 3072), ((-2147483648), 2147483647)], [(0, false)], [], [], [(0, 0, 0, [(1, 1)])], [], [])], [(6, false, 5), (6, false, 6), (6, false, 7), (6, false, 8), (7, false, 2), (7, false, 3), (27, true, 0), (28, true, 0), (29, true, 0), (30, true, 0), (31, true, 0)], 117, 3, 107)
set_option maxRecDepth 1000000 in
theorem ck_100 : x_ok mLT [cx_91, cx_95] mTS mTC mRU cx_100 [(12, [0]), (28, [1])] [] [] (25, []) 92 28 = true := by decide +kernel
theorem sn_100 {X : List Int32} : y_Snd mGa mLT (mJS X) X cx_100 := y_ok (fun _ _ _ => Iff.rfl) mTS_ok mTC_ok mRU_ok (List.forall_mem_cons.mpr ⟨sn_91, List.forall_mem_cons.mpr ⟨sn_95, fun _ h => absurd h List.not_mem_nil⟩⟩) ck_100
/-- HairRope.isHaul -/
def cx_101 : zCtx := (152, ([(0, 3072), ((-2147483648), 2147483647)], [], [], [], [(0, 0, 0, [(1, 1)])], [], []), [([(0, 3072), (0, 999)], [], [], [], [(0, 0, 1, [])], [], []), ([(0, 3072), (1000, 2147483647)], [], [], [], [(0, 0, 0, [])], [], []), ([(0, 3072), ((-2147483648), (-1))], [], [], [], [(0, 0, 0, [])], [], [])], [], 8, 0, 0)
set_option maxRecDepth 1000000 in
theorem ck_101 : x_ok mLT [] mTS mTC mRU cx_101 [] [] [] (8, []) 0 11 = true := by decide +kernel
theorem sn_101 {X : List Int32} : y_Snd mGa mLT (mJS X) X cx_101 := y_ok (fun _ _ _ => Iff.rfl) mTS_ok mTC_ok mRU_ok (fun _ h => absurd h List.not_mem_nil) ck_101
/-- Rules.joinAbove -/
def cx_102 : zCtx := (92, ([(0, 3072), (1, 5)], [(5, false), (6, false)], [], [], [(2, 0, 0, []), (2, 1, 0, []), (0, 0, 0, [(1, 1)])], [], []), [([(0, 3072), (1, 5), (0, 999)], [(5, false), (6, false)], [], [], [(0, 0, 0, [(2, 1)])], [], [])], [(24, true, 0), (26, true, 0)], 53013, 3, 111)
set_option maxRecDepth 1000000 in
theorem ck_102 : x_ok mLT [cx_87, cx_89] mTS mTC mRU cx_102 [(42, [0]), (45, [1])] [] [] (29, []) 52984 32 = true := by decide +kernel
theorem sn_102 {X : List Int32} : y_Snd mGa mLT (mJS X) X cx_102 := y_ok (fun _ _ _ => Iff.rfl) mTS_ok mTC_ok mRU_ok (List.forall_mem_cons.mpr ⟨sn_87, List.forall_mem_cons.mpr ⟨sn_89, fun _ h => absurd h List.not_mem_nil⟩⟩) ck_102
/-- Rules.weigh -/
def cx_103 : zCtx := (91, ([(0, 3072)], [(5, false), (6, false)], [], [], [(2, 0, 0, []), (2, 1, 0, [])], [], []), [([(0, 3072)], [(5, false), (6, false)], [], [], [], [], [])], [(5, false, 2), (24, true, 0), (25, true, 0), (26, true, 0)], 53276, 4, 135)
set_option maxRecDepth 1000000 in
theorem ck_103 : x_ok mLT [cx_102] mTS mTC mRU cx_103 [(75, [0])] [] [(30, ([(0, 3072), ((-2147483648), 2147483647), ((-1), 5), (0, 6)], [(5, false), (6, false)], [], [(2, 0, 0, []), (2, 1, 0, []), (0, 0, 0, [(1, 1)]), (0, 0, 0, [(2, 1)])], [], [(1, (false, 6, 0, []), 0, 0, 0, [(3, 1)])], []), (43, [(2, 40)]))] (263, []) 53013 42 = true := by decide +kernel
theorem sn_103 {X : List Int32} : y_Snd mGa mLT (mJS X) X cx_103 := y_ok (fun _ _ _ => Iff.rfl) mTS_ok mTC_ok mRU_ok (List.forall_mem_cons.mpr ⟨sn_102, fun _ h => absurd h List.not_mem_nil⟩) ck_103
/-- Rules.highestBreak -/
def cx_104 : zCtx := (93, ([(0, 3072), (0, 1000)], [(5, false)], [], [], [(2, 0, 0, []), (0, 0, 0, [(1, 1)])], [], []), [([(0, 3072), (0, 1000), (0, 10)], [(5, false)], [], [], [(0, 0, 0, [(2, 1)])], [], []), ([(0, 3072), (0, 1000)], [(5, false)], [], [], [(0, 0, (-1), [])], [], [])], [], 364, 0, 0)
set_option maxRecDepth 1000000 in
theorem ck_104 : x_ok mLT [] mTS mTC mRU cx_104 [] [] [(2, ([(0, 3072), (0, 1000), (0, 22)], [(5, false)], [], [(2, 0, 0, []), (0, 0, 0, [(1, 1)]), (0, 0, 0, [(2, 1)])], [], [], []), (361, [(2, (-16))]))] (364, []) 0 18 = true := by decide +kernel
theorem sn_104 {X : List Int32} : y_Snd mGa mLT (mJS X) X cx_104 := y_ok (fun _ _ _ => Iff.rfl) mTS_ok mTC_ok mRU_ok (fun _ h => absurd h List.not_mem_nil) ck_104
/-- HairRope.lowerPlaceOf -/
def cx_105 : zCtx := (153, ([(0, 3072), (0, 10)], [], [], [], [(0, 0, 0, [(1, 1)])], [], []), [([(0, 3072), (0, 10), (0, 5)], [], [], [], [(0, 0, 0, [(2, 1)])], [], [])], [], 6, 0, 0)
set_option maxRecDepth 1000000 in
theorem ck_105 : x_ok mLT [] mTS mTC mRU cx_105 [] [] [] (6, []) 0 9 = true := by decide +kernel
theorem sn_105 {X : List Int32} : y_Snd mGa mLT (mJS X) X cx_105 := y_ok (fun _ _ _ => Iff.rfl) mTS_ok mTC_ok mRU_ok (fun _ h => absurd h List.not_mem_nil) ck_105
/-- HairRope.haul -/
def cx_106 : zCtx := (151, ([(0, 3072), ((-2147483648), 2147483647)], [(0, false)], [], [], [(2, 0, 0, []), (0, 0, 0, [(1, 1)])], [], []), [([(0, 3072), ((-2147483648), (-1))], [(0, false)], [], [], [(0, 0, (-1), [])], [], []), ([(0, 3072), (1000, 2147483647)], [(0, false)], [], [], [(0, 0, (-1), [])], [], []), ([(0, 3072), (0, 999)], [(0, false)], [], [], [(0, 0, (-1), [])], [], []), ([(0, 3072), (0, 999), (0, 6)], [(0, false)], [], [], [(0, 0, 0, [(2, 1)])], [], [])], [(5, false, 2), (6, false, 5), (6, false, 6), (6, false, 7), (6, false, 8), (7, false, 2), (7, false, 3), (24, true, 0), (25, true, 0), (26, true, 0), (27, true, 0), (28, true, 0), (29, true, 0), (30, true, 0), (31, true, 0)], 53316, 5, 158)
set_option maxRecDepth 1000000 in
theorem ck_106 : x_ok mLT [cx_101, cx_98, cx_95, cx_103, cx_104, cx_105] mTS mTC mRU cx_106 [(1, [0]), (11, [1]), (37, [2]), (48, [3]), (56, [4]), (85, [5])] [] [] (40, []) 53276 43 = true := by decide +kernel
theorem sn_106 {X : List Int32} : y_Snd mGa mLT (mJS X) X cx_106 := y_ok (fun _ _ _ => Iff.rfl) mTS_ok mTC_ok mRU_ok (List.forall_mem_cons.mpr ⟨sn_101, List.forall_mem_cons.mpr ⟨sn_98, List.forall_mem_cons.mpr ⟨sn_95, List.forall_mem_cons.mpr ⟨sn_103, List.forall_mem_cons.mpr ⟨sn_104, List.forall_mem_cons.mpr ⟨sn_105, fun _ h => absurd h List.not_mem_nil⟩⟩⟩⟩⟩⟩) ck_106
/-- Rules.mix -/
def cx_107 : zCtx := (97, ([(0, 3072), ((-2147483648), 2147483647), ((-2147483648), 2147483647)], [], [], [], [(0, 0, 0, [(1, 1)]), (0, 0, 0, [(2, 1)])], [], []), [([(0, 3072), ((-2147483648), 2147483647), ((-2147483648), 2147483647), ((-2147483648), 2147483647)], [], [], [], [(0, 0, 0, [(3, 1)])], [], [])], [], 14, 0, 0)
set_option maxRecDepth 1000000 in
theorem ck_107 : x_ok mLT [] mTS mTC mRU cx_107 [] [] [] (14, []) 0 17 = true := by decide +kernel
theorem sn_107 {X : List Int32} : y_Snd mGa mLT (mJS X) X cx_107 := y_ok (fun _ _ _ => Iff.rfl) mTS_ok mTC_ok mRU_ok (fun _ h => absurd h List.not_mem_nil) ck_107
/-- Rules.lot -/
def cx_108 : zCtx := (96, ([(0, 3072), ((-2147483648), 2147483647), ((-2147483648), 2147483647)], [], [], [], [(0, 0, 0, [(1, 1)]), (0, 0, 0, [(2, 1)])], [], []), [([(0, 3072), ((-2147483648), 2147483647), ((-2147483648), 2147483647), ((-99), 99)], [], [], [], [(0, 0, 0, [(3, 1)])], [], [])], [], 26, 1, 22)
set_option maxRecDepth 1000000 in
theorem ck_108 : x_ok mLT [cx_107] mTS mTC mRU cx_108 [(4, [0]), (8, [0])] [] [] (12, []) 14 15 = true := by decide +kernel
theorem sn_108 {X : List Int32} : y_Snd mGa mLT (mJS X) X cx_108 := y_ok (fun _ _ _ => Iff.rfl) mTS_ok mTC_ok mRU_ok (List.forall_mem_cons.mpr ⟨sn_107, fun _ h => absurd h List.not_mem_nil⟩) ck_108
/-- Rules.ageHouse -/
def cx_109 : zCtx := (95, ([(0, 3072), (0, 5), ((-2147483648), 2147483647), ((-2147483648), 2147483647)], [(5, false), (6, false)], [], [], [(2, 0, 0, []), (2, 1, 0, []), (0, 0, 0, [(1, 1)]), (0, 0, 0, [(2, 1)]), (0, 0, 0, [(3, 1)])], [], []), [([(0, 3072), (0, 5), ((-98), 2147483647), ((-2147483648), 2147483647)], [(5, false), (6, false)], [], [], [], [], []), ([(0, 3072), (0, 5), ((-2147483648), 99), ((-2147483648), 2147483647)], [(5, false), (6, false)], [], [], [], [], [])], [(24, true, 0), (26, true, 0), (27, true, 0), (31, true, 0)], 53026, 3, 110)
set_option maxRecDepth 1000000 in
theorem ck_109 : x_ok mLT [cx_79, cx_84, cx_108] mTS mTC mRU cx_109 [(13, [0]), (22, [1]), (36, [1]), (73, [2])] [] [] (58, []) 52968 61 = true := by decide +kernel
theorem sn_109 {X : List Int32} : y_Snd mGa mLT (mJS X) X cx_109 := y_ok (fun _ _ _ => Iff.rfl) mTS_ok mTC_ok mRU_ok (List.forall_mem_cons.mpr ⟨sn_79, List.forall_mem_cons.mpr ⟨sn_84, List.forall_mem_cons.mpr ⟨sn_108, fun _ h => absurd h List.not_mem_nil⟩⟩⟩) ck_109
/-- Rules.ageAll -/
def cx_110 : zCtx := (94, ([(0, 3072), ((-2147483648), 2147483647), ((-2147483648), 2147483647)], [(5, false), (6, false)], [], [], [(2, 0, 0, []), (2, 1, 0, []), (0, 0, 0, [(1, 1)]), (0, 0, 0, [(2, 1)])], [], []), [([(0, 3072), ((-2147483648), 2147483647), ((-2147483648), 2147483647)], [(5, false), (6, false)], [], [], [], [], [])], [(6, false, 7), (24, true, 0), (26, true, 0), (27, true, 0), (31, true, 0)], 53125, 4, 137)
set_option maxRecDepth 1000000 in
theorem ck_110 : x_ok mLT [cx_109] mTS mTC mRU cx_110 [(21, [0])] [] [(3, ([(0, 3072), ((-2147483648), 2147483647), ((-2147483648), 2147483647), (0, 6)], [(5, false), (6, false)], [], [(2, 0, 0, []), (2, 1, 0, []), (0, 0, 0, [(1, 1)]), (0, 0, 0, [(2, 1)]), (0, 0, 0, [(3, 1)])], [], [], []), (96, [(3, (-14))]))] (99, []) 53026 16 = true := by decide +kernel
theorem sn_110 {X : List Int32} : y_Snd mGa mLT (mJS X) X cx_110 := y_ok (fun _ _ _ => Iff.rfl) mTS_ok mTC_ok mRU_ok (List.forall_mem_cons.mpr ⟨sn_109, fun _ h => absurd h List.not_mem_nil⟩) ck_110
/-- HairRope.years -/
def cx_111 : zCtx := (154, ([(0, 3072), ((-2147483648), 2147483647)], [(0, false)], [], [], [(2, 0, 0, []), (0, 0, 0, [(1, 1)])], [], []), [([(0, 3072), (61, 2147483647)], [(0, false)], [], [], [(0, 0, (-1), [])], [], []), ([(0, 3072), ((-2147483648), (-1))], [(0, false)], [], [], [(0, 0, (-1), [])], [], []), ([(0, 3072), (0, 60), ((-2147483648), 2147483647)], [(0, false)], [], [], [(0, 0, 0, [(2, 1)])], [], [])], [(6, false, 5), (6, false, 6), (6, false, 7), (6, false, 8), (7, false, 2), (7, false, 3), (24, true, 0), (26, true, 0), (27, true, 0), (28, true, 0), (29, true, 0), (30, true, 0), (31, true, 0)], 54344, 5, 161)
set_option maxRecDepth 1000000 in
theorem ck_111 : x_ok mLT [cx_95, cx_110] mTS mTC mRU cx_111 [(24, [0]), (62, [1])] [] [(29, ([(0, 3072), (0, 60), (0, 63)], [(0, false)], [], [(2, 0, 0, []), (0, 0, 0, [(1, 1)]), (0, 0, 0, [(2, 1)])], [], [], []), (1204, [(2, (-19))]))] (1219, []) 53125 21 = true := by decide +kernel
theorem sn_111 {X : List Int32} : y_Snd mGa mLT (mJS X) X cx_111 := y_ok (fun _ _ _ => Iff.rfl) mTS_ok mTC_ok mRU_ok (List.forall_mem_cons.mpr ⟨sn_95, List.forall_mem_cons.mpr ⟨sn_110, fun _ h => absurd h List.not_mem_nil⟩⟩) ck_111
/-- History.takeBack -/
def cx_112 : zCtx := (42, ([(0, 3072), (0, 39), (0, 40)], [(7, false), (6, false)], [], [], [(2, 0, 0, []), (2, 1, 0, [])], [(0, (false, 2, 0, []), 0, 0, 0, [(1, 1)]), (0, (false, 3, 0, []), 0, 0, 0, [(2, 1)])], []), [([(0, 3072), (0, 39), (1, 40)], [(7, false), (6, false)], [], [], [(0, 0, 1, [])], [(0, (false, 3, 0, []), 0, 0, (-1), [(2, 1)])], []), ([(0, 3072), (0, 39), (0, 0)], [(7, false), (6, false)], [], [], [(0, 0, 0, [])], [(0, (false, 3, 0, []), 0, 0, 0, [(2, 1)])], [])], [(6, false, 5), (6, false, 6), (6, false, 7), (6, false, 8), (7, false, 3), (27, true, 0), (28, true, 0), (29, true, 0), (30, true, 0), (31, true, 0)], 81, 2, 85)
set_option maxRecDepth 1000000 in
theorem ck_112 : x_ok mLT [cx_93, cx_94] mTS mTC mRU cx_112 [(14, [0]), (30, [1])] [] [] (24, []) 57 27 = true := by decide +kernel
theorem sn_112 {X : List Int32} : y_Snd mGa mLT (mJS X) X cx_112 := y_ok (fun _ _ _ => Iff.rfl) mTS_ok mTC_ok mRU_ok (List.forall_mem_cons.mpr ⟨sn_93, List.forall_mem_cons.mpr ⟨sn_94, fun _ h => absurd h List.not_mem_nil⟩⟩) ck_112
/-- HairRope.undo -/
def cx_113 : zCtx := (155, ([(0, 3072)], [(0, false)], [], [], [(2, 0, 0, [])], [], []), [([(0, 3072)], [(0, false)], [], [], [(0, 0, 0, [])], [], []), ([(0, 3072)], [(0, false)], [], [], [(0, 0, 1, [])], [], [])], [(6, false, 5), (6, false, 6), (6, false, 7), (6, false, 8), (7, false, 3), (27, true, 0), (28, true, 0), (29, true, 0), (30, true, 0), (31, true, 0)], 87, 3, 107)
set_option maxRecDepth 1000000 in
theorem ck_113 : x_ok mLT [cx_112] mTS mTC mRU cx_113 [(8, [0])] [] [] (6, []) 81 9 = true := by decide +kernel
theorem sn_113 {X : List Int32} : y_Snd mGa mLT (mJS X) X cx_113 := y_ok (fun _ _ _ => Iff.rfl) mTS_ok mTC_ok mRU_ok (List.forall_mem_cons.mpr ⟨sn_112, fun _ h => absurd h List.not_mem_nil⟩) ck_113
/-- Rules.greatestHaul -/
def cx_114 : zCtx := (98, ([(0, 3072)], [(5, false)], [], [], [(2, 0, 0, [])], [], []), [([(0, 3072)], [(5, false)], [], [], [(0, 0, (-2), [])], [], []), ([(0, 3072), (0, 999)], [(5, false)], [], [], [(0, 0, 0, [(1, 1)])], [], [])], [], 391, 1, 64)
set_option maxRecDepth 1000000 in
theorem ck_114 : x_ok mLT [] mTS mTC mRU cx_114 [] [] [(6, ([(0, 3072), ((-2147483648), 999), (0, 22)], [(5, false)], [], [(2, 0, 0, []), (0, 0, 0, [(1, 1)]), (0, 0, 0, [(2, 1)])], [], [], []), (386, [(2, (-17))]))] (391, []) 0 19 = true := by decide +kernel
theorem sn_114 {X : List Int32} : y_Snd mGa mLT (mJS X) X cx_114 := y_ok (fun _ _ _ => Iff.rfl) mTS_ok mTC_ok mRU_ok (fun _ h => absurd h List.not_mem_nil) ck_114
/-- HairRope.most -/
def cx_115 : zCtx := (156, ([(0, 3072)], [(0, false)], [], [], [(2, 0, 0, [])], [], []), [([(0, 3072), (0, 999)], [(0, false)], [], [], [(0, 0, 0, [(1, 1)])], [], []), ([(0, 3072)], [(0, false)], [], [], [(0, 0, (-2), [])], [], [])], [(5, false, 2), (24, true, 0), (25, true, 0), (26, true, 0)], 53285, 5, 158)
set_option maxRecDepth 1000000 in
theorem ck_115 : x_ok mLT [cx_103, cx_114] mTS mTC mRU cx_115 [(8, [0]), (15, [1])] [] [] (9, []) 53276 12 = true := by decide +kernel
theorem sn_115 {X : List Int32} : y_Snd mGa mLT (mJS X) X cx_115 := y_ok (fun _ _ _ => Iff.rfl) mTS_ok mTC_ok mRU_ok (List.forall_mem_cons.mpr ⟨sn_103, List.forall_mem_cons.mpr ⟨sn_114, fun _ h => absurd h List.not_mem_nil⟩⟩) ck_115
/-- HairRope.weakest -/
def cx_116 : zCtx := (157, ([(0, 3072), ((-2147483648), 2147483647)], [(0, false)], [], [], [(2, 0, 0, []), (0, 0, 0, [(1, 1)])], [], []), [([(0, 3072), (2, 2147483647)], [(0, false)], [], [], [(0, 0, (-1), [])], [], []), ([(0, 3072), (0, 1)], [(0, false)], [], [], [(0, 0, (-2), [])], [], []), ([(0, 3072), (0, 0), (0, 5)], [(0, false)], [], [], [(0, 0, 0, [(2, 1)])], [], []), ([(0, 3072), (1, 1), (0, 1)], [(0, false)], [], [], [(0, 0, 0, [(2, 1)])], [], []), ([(0, 3072), ((-2147483648), (-1))], [(0, false)], [], [], [(0, 0, (-1), [])], [], [])], [(5, false, 2), (24, true, 0), (25, true, 0), (26, true, 0)], 53307, 5, 158)
set_option maxRecDepth 1000000 in
theorem ck_116 : x_ok mLT [cx_103, cx_114, cx_104, cx_105] mTS mTC mRU cx_116 [(19, [0]), (26, [1]), (45, [2]), (61, [3])] [] [] (31, []) 53276 34 = true := by decide +kernel
theorem sn_116 {X : List Int32} : y_Snd mGa mLT (mJS X) X cx_116 := y_ok (fun _ _ _ => Iff.rfl) mTS_ok mTC_ok mRU_ok (List.forall_mem_cons.mpr ⟨sn_103, List.forall_mem_cons.mpr ⟨sn_114, List.forall_mem_cons.mpr ⟨sn_104, List.forall_mem_cons.mpr ⟨sn_105, fun _ h => absurd h List.not_mem_nil⟩⟩⟩⟩) ck_116
/-- HairRope.below -/
def cx_117 : zCtx := (158, ([(0, 3072), ((-2147483648), 2147483647)], [(0, false)], [], [], [(2, 0, 0, []), (0, 0, 0, [(1, 1)])], [], []), [([(0, 3072), ((-2147483648), (-1))], [(0, false)], [], [], [(0, 0, (-1), [])], [], []), ([(0, 3072), (0, 2147483647)], [(0, false)], [], [], [(0, 0, (-1), [])], [], []), ([(0, 3072), (0, 5), ((-2147483648), 2147483647)], [(0, false)], [], [], [(0, 0, 0, [(2, 1)])], [], [])], [], 127, 2, 87)
set_option maxRecDepth 1000000 in
theorem ck_117 : x_ok mLT [cx_91, cx_97] mTS mTC mRU cx_117 [(2, [0]), (13, [1])] [] [] (10, []) 117 13 = true := by decide +kernel
theorem sn_117 {X : List Int32} : y_Snd mGa mLT (mJS X) X cx_117 := y_ok (fun _ _ _ => Iff.rfl) mTS_ok mTC_ok mRU_ok (List.forall_mem_cons.mpr ⟨sn_91, List.forall_mem_cons.mpr ⟨sn_97, fun _ h => absurd h List.not_mem_nil⟩⟩) ck_117
/-- Planner.addToSums -/
def cx_118 : zCtx := (69, ([(0, 3072), (1, 32), ((-2147483648), 2147483647)], [(9, false)], [], [], [(2, 0, 0, []), (0, 0, 0, [(1, 1)]), (0, 0, 0, [(2, 1)])], [], []), [([(0, 3072), (1, 32), ((-2147483648), 2147483647)], [(9, false)], [], [], [], [], [])], [(40, true, 0)], 766, 0, 0)
set_option maxRecDepth 1000000 in
theorem ck_118 : x_ok mLT [] mTS mTC mRU cx_118 [] [] [(2, ([(0, 3072), (1, 32), ((-2147483648), 2147483647), (0, 33)], [(9, false)], [], [(2, 0, 0, []), (0, 0, 0, [(1, 1)]), (0, 0, 0, [(2, 1)]), (0, 0, 0, [(3, 1)])], [], [], []), (763, [(3, (-23))]))] (766, []) 0 25 = true := by decide +kernel
theorem sn_118 {X : List Int32} : y_Snd mGa mLT (mJS X) X cx_118 := y_ok (fun _ _ _ => Iff.rfl) mTS_ok mTC_ok mRU_ok (fun _ h => absurd h List.not_mem_nil) ck_118
/-- Planner.lookAtHouses -/
def cx_119 : zCtx := (68, ([(0, 3072), (0, 63)], [(9, false), (6, false)], [], [], [(2, 0, 0, []), (2, 1, 0, [])], [(0, (false, 10, 0, []), 0, 0, 0, [(1, 1)])], []), [([(0, 3072), (0, 63), (0, 63)], [(9, false), (6, false)], [], [], [], [(0, (false, 10, 0, []), 0, 0, 0, [(2, 1)])], [])], [(9, false, 10), (34, true, 0), (40, true, 0)], 1085, 1, 23)
set_option maxRecDepth 1000000 in
theorem ck_119 : x_ok mLT [cx_79, cx_80, cx_118] mTS mTC mRU cx_119 [(29, [0]), (66, [1]), (97, [2])] [] [(7, ([(0, 3072), (0, 63), (0, 6), (0, 63)], [(9, false), (6, false)], [], [(2, 0, 0, []), (2, 1, 0, []), (0, 0, 0, [(2, 1)]), (5, 0, 0, []), (5, 0, 0, [])], [], [(0, (false, 10, 0, []), 0, 0, 0, [(3, 1)])], []), (313, [(2, (-51))]))] (319, []) 766 53 = true := by decide +kernel
theorem sn_119 {X : List Int32} : y_Snd mGa mLT (mJS X) X cx_119 := y_ok (fun _ _ _ => Iff.rfl) mTS_ok mTC_ok mRU_ok (List.forall_mem_cons.mpr ⟨sn_79, List.forall_mem_cons.mpr ⟨sn_80, List.forall_mem_cons.mpr ⟨sn_118, fun _ h => absurd h List.not_mem_nil⟩⟩⟩) ck_119
/-- Planner.isAble -/
def cx_120 : zCtx := (71, ([(0, 3072), (0, 5), (0, 63)], [(9, false)], [], [], [(2, 0, 0, []), (0, 0, 0, [(1, 1)])], [(0, (false, 10, 0, []), 0, 0, 0, [(2, 1)])], []), [([(0, 3072), (0, 5), (0, 63)], [(9, false)], [], [], [(0, 0, 1, [])], [], []), ([(0, 3072), (0, 5), (0, 63)], [(9, false)], [], [], [(0, 0, 0, [])], [], [])], [], 10, 0, 0)
set_option maxRecDepth 1000000 in
theorem ck_120 : x_ok mLT [] mTS mTC mRU cx_120 [] [] [] (10, []) 0 13 = true := by decide +kernel
theorem sn_120 {X : List Int32} : y_Snd mGa mLT (mJS X) X cx_120 := y_ok (fun _ _ _ => Iff.rfl) mTS_ok mTC_ok mRU_ok (fun _ h => absurd h List.not_mem_nil) ck_120
/-- Planner.findJoins -/
def cx_121 : zCtx := (70, ([(0, 3072), (0, 0), (0, 63)], [(9, false), (6, false), (35, false)], [], [], [(2, 0, 0, []), (2, 1, 0, []), (2, 2, 0, []), (0, 0, 0, [(1, 1)])], [(0, (false, 10, 0, []), 0, 0, 0, [(2, 1)])], []), [([(0, 3072), (0, 0), (0, 63)], [(9, false), (6, false), (35, false)], [], [], [], [], [])], [(24, true, 0), (26, true, 0), (35, true, 0)], 54866, 3, 111)
set_option maxRecDepth 1000000 in
theorem ck_121 : x_ok mLT [cx_120, cx_87, cx_89] mTS mTC mRU cx_121 [(56, [0]), (65, [0]), (98, [1]), (117, [2])] [] [(3, ([(0, 3072), (0, 0), (0, 63), (0, 6)], [(9, false), (6, false), (35, false)], [], [(2, 0, 0, []), (2, 1, 0, []), (2, 2, 0, []), (0, 0, 0, [(1, 1)]), (0, 0, 0, [(3, 1)]), (5, 0, 0, []), (5, 0, 0, []), (5, 0, 0, [])], [], [(0, (false, 10, 0, []), 0, 0, 0, [(2, 1)])], []), (1879, [(1, (-100000000000)), (3, (-312))])), (21, ([(0, 3072), (0, 0), (0, 63), (0, 5), (0, 6), (1, 6)], [(9, false), (6, false), (35, false), (5, false), (2, false)], [], [(2, 0, 0, []), (2, 1, 0, []), (2, 2, 0, []), (0, 0, 0, [(1, 1)]), (0, 0, 0, [(3, 1)]), (0, 0, 0, [(4, 1)]), (5, 0, 0, []), (5, 0, 0, [])], [], [(0, (false, 0, 0, []), 2, 3, 0, []), (0, (false, 10, 0, []), 0, 0, 0, [(2, 1)]), (3, (false, 3, 0, []), 2, 4, 0, []), (4, (false, 5, 0, []), 0, 0, 0, [(5, 1)])], []), (1870, [(1, (-100000000000)), (3, (-312)), (4, (-49))]))] (1882, []) 52984 51 = true := by decide +kernel
theorem sn_121 {X : List Int32} : y_Snd mGa mLT (mJS X) X cx_121 := y_ok (fun _ _ _ => Iff.rfl) mTS_ok mTC_ok mRU_ok (List.forall_mem_cons.mpr ⟨sn_120, List.forall_mem_cons.mpr ⟨sn_87, List.forall_mem_cons.mpr ⟨sn_89, fun _ h => absurd h List.not_mem_nil⟩⟩⟩) ck_121
/-- Planner.lookAt -/
def cx_122 : zCtx := (67, ([(0, 3072), (0, 63)], [(9, false), (6, false)], [], [], [(2, 0, 0, []), (2, 1, 0, [])], [(0, (false, 10, 0, []), 0, 0, 0, [(1, 1)])], []), [([(0, 3072), (0, 63), (0, 63)], [(9, false), (6, false)], [], [], [], [(0, (false, 10, 0, []), 0, 0, 0, [(2, 1)])], [])], [(9, false, 10), (24, true, 0), (26, true, 0), (34, true, 0), (35, true, 0), (40, true, 0)], 54876, 4, 138)
set_option maxRecDepth 1000000 in
theorem ck_122 : x_ok mLT [cx_119, cx_121] mTS mTC mRU cx_122 [(2, [0]), (12, [1])] [] [] (10, []) 54866 13 = true := by decide +kernel
theorem sn_122 {X : List Int32} : y_Snd mGa mLT (mJS X) X cx_122 := y_ok (fun _ _ _ => Iff.rfl) mTS_ok mTC_ok mRU_ok (List.forall_mem_cons.mpr ⟨sn_119, List.forall_mem_cons.mpr ⟨sn_121, fun _ h => absurd h List.not_mem_nil⟩⟩) ck_122
/-- Integer.bitCount -/
def cx_123 : zCtx := (1, ([(0, 3072), ((-2147483648), 2147483647)], [], [], [], [(0, 0, 0, [(1, 1)])], [], []), [([(0, 3072), ((-2147483648), 2147483647), (0, 63)], [], [], [], [(0, 0, 0, [(2, 1)])], [], [])], [], 42, 0, 0)
set_option maxRecDepth 1000000 in
theorem ck_123 : x_ok mLT [] mTS mTC mRU cx_123 [] [] [] (42, []) 0 45 = true := by decide +kernel
theorem sn_123 {X : List Int32} : y_Snd mGa mLT (mJS X) X cx_123 := y_ok (fun _ _ _ => Iff.rfl) mTS_ok mTC_ok mRU_ok (fun _ h => absurd h List.not_mem_nil) ck_123
/-- Planner.powerOfSix -/
def cx_124 : zCtx := (75, ([(0, 3072), (0, 63)], [], [], [], [(0, 0, 0, [(1, 1)])], [], []), [([(0, 3072), (1, 63), ((-2147483648), 2147483647)], [], [], [], [(0, 0, 0, [(2, 1)])], [], []), ([(0, 3072), (0, 6), ((-2147483648), 2147483647)], [], [], [], [(0, 0, 0, [(2, 1)])], [], [])], [], 91, 0, 0)
set_option maxRecDepth 1000000 in
theorem ck_124 : x_ok mLT [] mTS mTC mRU cx_124 [] [] [(4, ([(0, 3072), (0, 63), ((-2147483648), 2147483647), (0, 6)], [], [], [(0, 0, 0, [(1, 1)]), (0, 0, 0, [(2, 1)]), (0, 0, 0, [(3, 1)])], [], [], []), (86, [(3, (-13))]))] (91, []) 0 15 = true := by decide +kernel
theorem sn_124 {X : List Int32} : y_Snd mGa mLT (mJS X) X cx_124 := y_ok (fun _ _ _ => Iff.rfl) mTS_ok mTC_ok mRU_ok (fun _ h => absurd h List.not_mem_nil) ck_124
/-- Planner.putUpon -/
def cx_125 : zCtx := (76, ([(0, 3072), (6, 383), (0, 383), ((-2147483648), 2147483647), ((-2147483648), 2147483647)], [(9, false)], [], [], [(2, 0, 0, []), (0, 0, 0, [(1, 1)]), (0, 0, 0, [(2, 1)]), (0, 0, 0, [(3, 1)]), (0, 0, 0, [(4, 1)])], [], []), [([(0, 3072), (6, 383), (0, 383), ((-2147483648), 2147483647), ((-2147483648), 2147483647)], [(9, false)], [], [], [], [], [])], [(37, true, 0), (38, true, 0), (39, true, 0)], 65, 1, 64)
set_option maxRecDepth 1000000 in
theorem ck_125 : x_ok mLT [] mTS mTC mRU cx_125 [] [] [] (65, []) 0 68 = true := by decide +kernel
theorem sn_125 {X : List Int32} : y_Snd mGa mLT (mJS X) X cx_125 := y_ok (fun _ _ _ => Iff.rfl) mTS_ok mTC_ok mRU_ok (fun _ h => absurd h List.not_mem_nil) ck_125
/-- Planner.build -/
def cx_126 : zCtx := (74, ([(0, 3072), (1, 63), (0, 5)], [(9, false)], [], [], [(2, 0, 0, []), (0, 0, 0, [(1, 1)]), (0, 0, 0, [(2, 1)])], [], []), [([(0, 3072), (1, 63), (0, 5)], [(9, false)], [(383, [(1, (-6)), (2, (-1))]), (0, [(1, 6), (2, 1)])], [], [], [], [])], [(37, true, 0), (38, true, 0), (39, true, 0)], 405, 2, 90)
set_option maxRecDepth 1000000 in
theorem ck_126 : x_ok mLT [cx_123, cx_124, cx_125] mTS mTC mRU cx_126 [(100, [0]), (103, [1]), (174, [2])] [] [(112, ([(0, 3072), (1, 63), (0, 5), (0, 63), ((-2147483648), 2147483647), (0, 6)], [(9, false), (39, false), (38, false), (37, false)], [(383, [(1, (-6)), (2, (-1))]), (0, [(1, 6), (2, 1)])], [(2, 0, 0, []), (0, 0, 0, [(1, 1)]), (0, 0, 0, [(2, 1)]), (0, 0, 0, [(1, 6), (2, 1)]), (0, 0, 0, [(3, 1)]), (0, 0, 0, [(4, 1)]), (0, 0, 0, [(5, 1)]), (5, 0, 0, [])], [], [(0, (false, 6, 0, []), 2, 1, 0, []), (0, (false, 5, 0, []), 2, 2, 0, []), (0, (false, 4, 0, []), 2, 3, 0, [])], []), (250, [(5, (-41))]))] (314, []) 91 66 = true := by decide +kernel
theorem sn_126 {X : List Int32} : y_Snd mGa mLT (mJS X) X cx_126 := y_ok (fun _ _ _ => Iff.rfl) mTS_ok mTC_ok mRU_ok (List.forall_mem_cons.mpr ⟨sn_123, List.forall_mem_cons.mpr ⟨sn_124, List.forall_mem_cons.mpr ⟨sn_125, fun _ h => absurd h List.not_mem_nil⟩⟩⟩) ck_126
/-- Planner.reaches -/
def cx_127 : zCtx := (77, ([(0, 3072), (0, 63)], [(9, false)], [], [], [(2, 0, 0, []), (0, 0, 0, [(1, 1)])], [], []), [([(0, 3072), (0, 63)], [(9, false)], [], [], [(0, 0, 1, [])], [], []), ([(0, 3072), (0, 63)], [(9, false)], [], [], [(0, 0, 0, [])], [], [])], [], 17, 0, 0)
set_option maxRecDepth 1000000 in
theorem ck_127 : x_ok mLT [] mTS mTC mRU cx_127 [] [] [] (17, []) 0 20 = true := by decide +kernel
theorem sn_127 {X : List Int32} : y_Snd mGa mLT (mJS X) X cx_127 := y_ok (fun _ _ _ => Iff.rfl) mTS_ok mTC_ok mRU_ok (fun _ h => absurd h List.not_mem_nil) ck_127
/-- Planner.note -/
def cx_128 : zCtx := (78, ([(0, 3072), (1, 63), (6, 383)], [(9, false)], [], [], [(2, 0, 0, []), (0, 0, 0, [(1, 1)]), (0, 0, 0, [(2, 1)])], [], []), [([(0, 3072), (1, 63), (6, 383)], [(9, false)], [], [], [], [], [])], [(9, false, 8), (9, false, 11), (9, false, 12), (9, false, 13), (9, false, 14)], 105, 1, 64)
set_option maxRecDepth 1000000 in
theorem ck_128 : x_ok mLT [cx_123] mTS mTC mRU cx_128 [(23, [0])] [] [] (63, []) 42 66 = true := by decide +kernel
theorem sn_128 {X : List Int32} : y_Snd mGa mLT (mJS X) X cx_128 := y_ok (fun _ _ _ => Iff.rfl) mTS_ok mTC_ok mRU_ok (List.forall_mem_cons.mpr ⟨sn_123, fun _ h => absurd h List.not_mem_nil⟩) ck_128
/-- Planner.surveySet -/
def cx_129 : zCtx := (73, ([(0, 3072), (1, 63)], [(9, false)], [], [], [(2, 0, 0, []), (0, 0, 0, [(1, 1)])], [], []), [([(0, 3072), (1, 63)], [(9, false)], [], [], [], [], [])], [(9, false, 8), (9, false, 11), (9, false, 12), (9, false, 13), (9, false, 14), (37, true, 0), (38, true, 0), (39, true, 0)], 580, 3, 117)
set_option maxRecDepth 1000000 in
theorem ck_129 : x_ok mLT [cx_126, cx_127, cx_128] mTS mTC mRU cx_129 [(19, [0]), (24, [1]), (38, [2])] [] [(2, ([(0, 3072), (1, 63), (0, 6)], [(9, false)], [], [(2, 0, 0, []), (0, 0, 0, [(1, 1)]), (0, 0, 0, [(2, 1)])], [], [], []), (172, [(2, (-28))]))] (175, []) 405 30 = true := by decide +kernel
theorem sn_129 {X : List Int32} : y_Snd mGa mLT (mJS X) X cx_129 := y_ok (fun _ _ _ => Iff.rfl) mTS_ok mTC_ok mRU_ok (List.forall_mem_cons.mpr ⟨sn_126, List.forall_mem_cons.mpr ⟨sn_127, List.forall_mem_cons.mpr ⟨sn_128, fun _ h => absurd h List.not_mem_nil⟩⟩⟩) ck_129
/-- Planner.survey -/
def cx_130 : zCtx := (72, ([(0, 3072), (0, 999), (0, 63)], [(9, false)], [], [], [(2, 0, 0, []), (0, 0, 0, [(1, 1)])], [(0, (false, 10, 0, []), 0, 0, 0, [(2, 1)])], []), [([(0, 3072), (0, 999), (0, 63)], [(9, false)], [], [], [], [], [])], [(9, false, 7), (9, false, 8), (9, false, 11), (9, false, 12), (9, false, 13), (9, false, 14), (37, true, 0), (38, true, 0), (39, true, 0)], 1614, 4, 139)
set_option maxRecDepth 1000000 in
theorem ck_130 : x_ok mLT [cx_129] mTS mTC mRU cx_130 [(56, [0])] [] [(37, ([(0, 3072), (0, 999), (0, 63), (1, 64)], [(9, false)], [], [(2, 0, 0, []), (0, 0, 0, [(1, 1)]), (0, 0, 0, [(3, 1)])], [], [(0, (false, 10, 0, []), 0, 0, 0, [(2, 1)])], []), (1028, [(3, (-16))]))] (1034, []) 580 24 = true := by decide +kernel
theorem sn_130 {X : List Int32} : y_Snd mGa mLT (mJS X) X cx_130 := y_ok (fun _ _ _ => Iff.rfl) mTS_ok mTC_ok mRU_ok (List.forall_mem_cons.mpr ⟨sn_129, fun _ h => absurd h List.not_mem_nil⟩) ck_130
/-- HairRope.orders -/
def cx_131 : zCtx := (159, ([(0, 3072), ((-2147483648), 2147483647)], [(0, false)], [], [], [(2, 0, 0, []), (0, 0, 0, [(1, 1)])], [], []), [([(0, 3072), ((-2147483648), (-1))], [(0, false)], [], [], [(0, 0, (-1), [])], [], []), ([(0, 3072), (1000, 2147483647)], [(0, false)], [], [], [(0, 0, (-1), [])], [], []), ([(0, 3072), (0, 999), ((-2147483648), 2147483647)], [(0, false)], [], [], [(0, 0, 0, [(2, 1)])], [], [])], [(9, false, 7), (9, false, 8), (9, false, 10), (9, false, 11), (9, false, 12), (9, false, 13), (9, false, 14), (24, true, 0), (26, true, 0), (34, true, 0), (35, true, 0), (37, true, 0), (38, true, 0), (39, true, 0), (40, true, 0)], 54892, 5, 161)
set_option maxRecDepth 1000000 in
theorem ck_131 : x_ok mLT [cx_101, cx_122, cx_130] mTS mTC mRU cx_131 [(1, [0]), (17, [1]), (25, [2])] [] [] (16, []) 54876 19 = true := by decide +kernel
theorem sn_131 {X : List Int32} : y_Snd mGa mLT (mJS X) X cx_131 := y_ok (fun _ _ _ => Iff.rfl) mTS_ok mTC_ok mRU_ok (List.forall_mem_cons.mpr ⟨sn_101, List.forall_mem_cons.mpr ⟨sn_122, List.forall_mem_cons.mpr ⟨sn_130, fun _ h => absurd h List.not_mem_nil⟩⟩⟩) ck_131
/-- HairRope.peak -/
def cx_132 : zCtx := (160, ([(0, 3072)], [(0, false)], [], [], [(2, 0, 0, [])], [], []), [([(0, 3072), ((-2147483648), 2147483647)], [(0, false)], [], [], [(0, 0, 0, [(1, 1)])], [], [])], [(9, false, 7), (9, false, 8), (9, false, 10), (9, false, 11), (9, false, 12), (9, false, 13), (9, false, 14), (24, true, 0), (26, true, 0), (34, true, 0), (35, true, 0), (37, true, 0), (38, true, 0), (39, true, 0), (40, true, 0)], 54894, 5, 161)
set_option maxRecDepth 1000000 in
theorem ck_132 : x_ok mLT [cx_122, cx_130] mTS mTC mRU cx_132 [(8, [0]), (16, [1])] [] [] (18, []) 54876 21 = true := by decide +kernel
theorem sn_132 {X : List Int32} : y_Snd mGa mLT (mJS X) X cx_132 := y_ok (fun _ _ _ => Iff.rfl) mTS_ok mTC_ok mRU_ok (List.forall_mem_cons.mpr ⟨sn_122, List.forall_mem_cons.mpr ⟨sn_130, fun _ h => absurd h List.not_mem_nil⟩⟩) ck_132
/-- Planner.fewestHouseAt -/
def cx_133 : zCtx := (79, ([(0, 3072), ((-2147483648), 2147483647)], [(9, false)], [], [], [(2, 0, 0, []), (0, 0, 0, [(1, 1)])], [], []), [([(0, 3072), (0, 2147483646)], [(9, false)], [], [], [(0, 0, (-1), [])], [], []), ([(0, 3072), (0, 2147483646), ((-5), 5)], [(9, false)], [], [], [(0, 0, 0, [(2, 1)])], [], []), ([(0, 3072), (0, 2147483647)], [(9, false)], [], [], [(0, 0, (-1), [])], [], []), ([(0, 3072), ((-2147483648), (-1))], [(9, false)], [], [], [(0, 0, (-1), [])], [], [])], [], 119, 1, 22)
set_option maxRecDepth 1000000 in
theorem ck_133 : x_ok mLT [cx_124] mTS mTC mRU cx_133 [(31, [0])] [] [] (28, []) 91 31 = true := by decide +kernel
theorem sn_133 {X : List Int32} : y_Snd mGa mLT (mJS X) X cx_133 := y_ok (fun _ _ _ => Iff.rfl) mTS_ok mTC_ok mRU_ok (List.forall_mem_cons.mpr ⟨sn_124, fun _ h => absurd h List.not_mem_nil⟩) ck_133
/-- HairRope.fewest -/
def cx_134 : zCtx := (161, ([(0, 3072), ((-2147483648), 2147483647), ((-2147483648), 2147483647)], [(0, false)], [], [], [(2, 0, 0, []), (0, 0, 0, [(1, 1)]), (0, 0, 0, [(2, 1)])], [], []), [([(0, 3072), ((-2147483648), (-1)), ((-2147483648), 2147483647)], [(0, false)], [], [], [(0, 0, (-1), [])], [], []), ([(0, 3072), (1000, 2147483647), ((-2147483648), 2147483647)], [(0, false)], [], [], [(0, 0, (-1), [])], [], []), ([(0, 3072), (0, 999), ((-2147483648), 2147483647)], [(0, false)], [], [], [(0, 0, (-2), [])], [], []), ([(0, 3072), (0, 999), ((-1), (-1)), ((-2147483648), 2147483647)], [(0, false)], [], [], [(0, 0, 0, [(3, 1)])], [], []), ([(0, 3072), (0, 999), ((-2147483648), (-2))], [(0, false)], [], [], [(0, 0, (-1), [])], [], []), ([(0, 3072), (0, 999), (0, 2147483647)], [(0, false)], [], [], [(0, 0, (-1), [])], [], []), ([(0, 3072), (0, 999), (0, 2147483646), ((-5), 5)], [(0, false)], [], [], [(0, 0, 0, [(3, 1)])], [], [])], [(9, false, 7), (9, false, 8), (9, false, 10), (9, false, 11), (9, false, 12), (9, false, 13), (9, false, 14), (24, true, 0), (26, true, 0), (34, true, 0), (35, true, 0), (37, true, 0), (38, true, 0), (39, true, 0), (40, true, 0)], 54900, 5, 161)
set_option maxRecDepth 1000000 in
theorem ck_134 : x_ok mLT [cx_101, cx_122, cx_130, cx_133] mTS mTC mRU cx_134 [(1, [0]), (17, [1]), (25, [2]), (61, [3])] [] [] (24, []) 54876 27 = true := by decide +kernel
theorem sn_134 {X : List Int32} : y_Snd mGa mLT (mJS X) X cx_134 := y_ok (fun _ _ _ => Iff.rfl) mTS_ok mTC_ok mRU_ok (List.forall_mem_cons.mpr ⟨sn_101, List.forall_mem_cons.mpr ⟨sn_122, List.forall_mem_cons.mpr ⟨sn_130, List.forall_mem_cons.mpr ⟨sn_133, fun _ h => absurd h List.not_mem_nil⟩⟩⟩⟩) ck_134
/-- HairRope.needed -/
def cx_135 : zCtx := (162, ([(0, 3072), ((-2147483648), 2147483647)], [(0, false)], [], [], [(2, 0, 0, []), (0, 0, 0, [(1, 1)])], [], []), [([(0, 3072), ((-2147483648), (-1))], [(0, false)], [], [], [(0, 0, (-1), [])], [], []), ([(0, 3072), (1000, 2147483647)], [(0, false)], [], [], [(0, 0, (-1), [])], [], []), ([(0, 3072), (0, 999), ((-2147483648), 2147483647)], [(0, false)], [], [], [(0, 0, 0, [(2, 1)])], [], [])], [(9, false, 7), (9, false, 8), (9, false, 10), (9, false, 11), (9, false, 12), (9, false, 13), (9, false, 14), (24, true, 0), (26, true, 0), (34, true, 0), (35, true, 0), (37, true, 0), (38, true, 0), (39, true, 0), (40, true, 0)], 54897, 5, 161)
set_option maxRecDepth 1000000 in
theorem ck_135 : x_ok mLT [cx_101, cx_122, cx_130] mTS mTC mRU cx_135 [(1, [0]), (17, [1]), (25, [2])] [] [] (21, []) 54876 24 = true := by decide +kernel
theorem sn_135 {X : List Int32} : y_Snd mGa mLT (mJS X) X cx_135 := y_ok (fun _ _ _ => Iff.rfl) mTS_ok mTC_ok mRU_ok (List.forall_mem_cons.mpr ⟨sn_101, List.forall_mem_cons.mpr ⟨sn_122, List.forall_mem_cons.mpr ⟨sn_130, fun _ h => absurd h List.not_mem_nil⟩⟩⟩) ck_135
/-- Forecast.yearsUntilHeld -/
def cx_136 : zCtx := (24, ([(0, 3072), (0, 999)], [(8, false), (9, false), (6, false)], [], [], [(2, 0, 0, []), (2, 1, 0, []), (2, 2, 0, []), (0, 0, 0, [(1, 1)])], [], []), [([(0, 3072), (0, 999), (0, 60)], [(8, false), (9, false), (6, false)], [], [], [(0, 0, 0, [(2, 1)])], [], []), ([(0, 3072), (0, 999)], [(8, false), (9, false), (6, false)], [], [], [(0, 0, (-2), [])], [], [])], [(6, false, 5), (6, false, 6), (6, false, 7), (6, false, 8), (9, false, 7), (9, false, 8), (9, false, 10), (9, false, 11), (9, false, 12), (9, false, 13), (9, false, 14), (24, true, 0), (26, true, 0), (27, true, 0), (28, true, 0), (29, true, 0), (30, true, 0), (31, true, 0), (34, true, 0), (35, true, 0), (37, true, 0), (38, true, 0), (39, true, 0), (40, true, 0)], 56337, 5, 161)
set_option maxRecDepth 1000000 in
theorem ck_136 : x_ok mLT [cx_94, cx_122, cx_130, cx_110] mTS mTC mRU cx_136 [(5, [0]), (23, [1]), (28, [2]), (51, [3])] [] [(11, ([(0, 3072), (0, 999), (0, 63), (0, 6), (0, 6)], [(8, false), (9, false), (6, false), (6, false)], [], [(2, 0, 0, []), (2, 1, 0, []), (2, 2, 0, []), (0, 0, 0, [(1, 1)]), (0, 0, 0, [(2, 1)])], [], [(0, (false, 1, 0, []), 2, 3, 0, []), (3, (false, 6, 0, []), 0, 0, 0, [(3, 1)]), (3, (false, 5, 0, []), 0, 0, 0, [(4, 1)])], []), (1454, [(2, (-23))]))] (1461, []) 54876 25 = true := by decide +kernel
theorem sn_136 {X : List Int32} : y_Snd mGa mLT (mJS X) X cx_136 := y_ok (fun _ _ _ => Iff.rfl) mTS_ok mTC_ok mRU_ok (List.forall_mem_cons.mpr ⟨sn_94, List.forall_mem_cons.mpr ⟨sn_122, List.forall_mem_cons.mpr ⟨sn_130, List.forall_mem_cons.mpr ⟨sn_110, fun _ h => absurd h List.not_mem_nil⟩⟩⟩⟩) ck_136
/-- HairRope.soon -/
def cx_137 : zCtx := (163, ([(0, 3072), ((-2147483648), 2147483647)], [(0, false)], [], [], [(2, 0, 0, []), (0, 0, 0, [(1, 1)])], [], []), [([(0, 3072), ((-2147483648), (-1))], [(0, false)], [], [], [(0, 0, (-1), [])], [], []), ([(0, 3072), (1000, 2147483647)], [(0, false)], [], [], [(0, 0, (-1), [])], [], []), ([(0, 3072), (0, 999)], [(0, false)], [], [], [(0, 0, (-2), [])], [], []), ([(0, 3072), (0, 999), (0, 60)], [(0, false)], [], [], [(0, 0, 0, [(2, 1)])], [], [])], [(6, false, 5), (6, false, 6), (6, false, 7), (6, false, 8), (9, false, 7), (9, false, 8), (9, false, 10), (9, false, 11), (9, false, 12), (9, false, 13), (9, false, 14), (24, true, 0), (26, true, 0), (27, true, 0), (28, true, 0), (29, true, 0), (30, true, 0), (31, true, 0), (34, true, 0), (35, true, 0), (37, true, 0), (38, true, 0), (39, true, 0), (40, true, 0)], 56350, 6, 185)
set_option maxRecDepth 1000000 in
theorem ck_137 : x_ok mLT [cx_101, cx_136] mTS mTC mRU cx_137 [(1, [0]), (20, [1])] [] [] (13, []) 56337 16 = true := by decide +kernel
theorem sn_137 {X : List Int32} : y_Snd mGa mLT (mJS X) X cx_137 := y_ok (fun _ _ _ => Iff.rfl) mTS_ok mTC_ok mRU_ok (List.forall_mem_cons.mpr ⟨sn_101, List.forall_mem_cons.mpr ⟨sn_136, fun _ h => absurd h List.not_mem_nil⟩⟩) ck_137
/-- Planner.findJoins -/
def cx_138 : zCtx := (70, ([(0, 3072), (1, 1), (0, 63)], [(9, false), (6, false), (36, false)], [], [], [(2, 0, 0, []), (2, 1, 0, []), (2, 2, 0, []), (0, 0, 0, [(1, 1)])], [(0, (false, 10, 0, []), 0, 0, 0, [(2, 1)])], []), [([(0, 3072), (1, 1), (0, 63)], [(9, false), (6, false), (36, false)], [], [], [], [], [])], [(24, true, 0), (26, true, 0), (36, true, 0)], 54722, 3, 111)
set_option maxRecDepth 1000000 in
theorem ck_138 : x_ok mLT [cx_120, cx_89] mTS mTC mRU cx_138 [(56, [0]), (65, [0]), (117, [1])] [] [(3, ([(0, 3072), (1, 1), (0, 63), (0, 6)], [(9, false), (6, false), (36, false)], [], [(2, 0, 0, []), (2, 1, 0, []), (2, 2, 0, []), (0, 0, 0, [(1, 1)]), (0, 0, 0, [(3, 1)]), (5, 0, 0, []), (5, 0, 0, []), (5, 0, 0, [])], [], [(0, (false, 10, 0, []), 0, 0, 0, [(2, 1)])], []), ((-99999998265), [(1, 100000000000), (3, (-288))])), (21, ([(0, 3072), (1, 1), (0, 63), (0, 5), (0, 6), (1, 6)], [(9, false), (6, false), (36, false), (5, false), (2, false)], [], [(2, 0, 0, []), (2, 1, 0, []), (2, 2, 0, []), (0, 0, 0, [(1, 1)]), (0, 0, 0, [(3, 1)]), (0, 0, 0, [(4, 1)]), (5, 0, 0, []), (5, 0, 0, [])], [], [(0, (false, 0, 0, []), 2, 3, 0, []), (0, (false, 10, 0, []), 0, 0, 0, [(2, 1)]), (3, (false, 3, 0, []), 2, 4, 0, []), (4, (false, 5, 0, []), 0, 0, 0, [(5, 1)])], []), ((-99999998274), [(1, 100000000000), (3, (-288)), (4, (-45))]))] (1738, []) 52984 47 = true := by decide +kernel
theorem sn_138 {X : List Int32} : y_Snd mGa mLT (mJS X) X cx_138 := y_ok (fun _ _ _ => Iff.rfl) mTS_ok mTC_ok mRU_ok (List.forall_mem_cons.mpr ⟨sn_120, List.forall_mem_cons.mpr ⟨sn_89, fun _ h => absurd h List.not_mem_nil⟩⟩) ck_138
/-- Planner.isPair -/
def cx_139 : zCtx := (81, ([(0, 3072), (0, 40), (0, 63)], [(9, false)], [], [], [(2, 0, 0, []), (0, 0, 0, [(1, 1)])], [(0, (false, 10, 0, []), 0, 0, 0, [(2, 1)])], []), [([(0, 3072), (0, 40), (0, 63)], [(9, false)], [], [], [(0, 0, 0, [])], [], []), ([(0, 3072), (0, 40), (0, 63)], [(9, false)], [], [], [(0, 0, 1, [])], [], [])], [], 32, 1, 21)
set_option maxRecDepth 1000000 in
theorem ck_139 : x_ok mLT [cx_120] mTS mTC mRU cx_139 [(17, [0]), (25, [0])] [] [] (22, []) 10 25 = true := by decide +kernel
theorem sn_139 {X : List Int32} : y_Snd mGa mLT (mJS X) X cx_139 := y_ok (fun _ _ _ => Iff.rfl) mTS_ok mTC_ok mRU_ok (List.forall_mem_cons.mpr ⟨sn_120, fun _ h => absurd h List.not_mem_nil⟩) ck_139
/-- Planner.exchangeJoin -/
def cx_140 : zCtx := (84, ([(0, 3072), (0, 40)], [(9, false)], [], [], [(2, 0, 0, []), (0, 0, 0, [(1, 1)])], [], []), [([(0, 3072), (0, 35)], [(9, false)], [], [], [], [], []), ([(0, 3072), (36, 40)], [(9, false)], [], [], [], [], [])], [(35, true, 0), (36, true, 0)], 31, 0, 0)
set_option maxRecDepth 1000000 in
theorem ck_140 : x_ok mLT [] mTS mTC mRU cx_140 [] [] [] (31, []) 0 34 = true := by decide +kernel
theorem sn_140 {X : List Int32} : y_Snd mGa mLT (mJS X) X cx_140 := y_ok (fun _ _ _ => Iff.rfl) mTS_ok mTC_ok mRU_ok (fun _ h => absurd h List.not_mem_nil) ck_140
/-- Planner.exchangePair -/
def cx_141 : zCtx := (83, ([(0, 3072), (0, 40)], [(9, false)], [], [], [(2, 0, 0, []), (0, 0, 0, [(1, 1)])], [], []), [([(0, 3072), (36, 40)], [(9, false)], [], [], [], [], []), ([(0, 3072), (0, 35)], [(9, false)], [], [], [], [], [])], [(35, true, 0), (36, true, 0)], 46, 1, 22)
set_option maxRecDepth 1000000 in
theorem ck_141 : x_ok mLT [cx_140] mTS mTC mRU cx_141 [(2, [0]), (18, [0])] [] [] (15, []) 31 18 = true := by decide +kernel
theorem sn_141 {X : List Int32} : y_Snd mGa mLT (mJS X) X cx_141 := y_ok (fun _ _ _ => Iff.rfl) mTS_ok mTC_ok mRU_ok (List.forall_mem_cons.mpr ⟨sn_140, fun _ h => absurd h List.not_mem_nil⟩) ck_141
/-- Planner.holdsWith -/
def cx_142 : zCtx := (82, ([(0, 3072), (0, 40), (0, 35), (0, 999), (0, 63)], [(9, false)], [], [], [(2, 0, 0, []), (0, 0, 0, [(1, 1)]), (0, 0, 0, [(2, 1)]), (0, 0, 0, [(3, 1)])], [(0, (false, 10, 0, []), 0, 0, 0, [(4, 1)])], []), [([(0, 3072), (0, 35), (0, 35), (0, 999), (0, 63)], [(9, false)], [], [], [(0, 0, 1, [])], [], []), ([(0, 3072), (0, 35), (0, 35), (0, 999), (0, 63)], [(9, false)], [], [], [(0, 0, 0, [])], [], []), ([(0, 3072), (36, 40), (0, 35), (0, 999), (0, 63)], [(9, false)], [((-1), [(1, 1), (2, (-1))])], [], [(0, 0, 1, [])], [], []), ([(0, 3072), (36, 40), (0, 35), (0, 999), (0, 63)], [(9, false)], [((-1), [(1, 1), (2, (-1))])], [], [(0, 0, 0, [])], [], [])], [(9, false, 7), (9, false, 8), (9, false, 11), (9, false, 12), (9, false, 13), (9, false, 14), (35, true, 0), (36, true, 0), (37, true, 0), (38, true, 0), (39, true, 0)], 1643, 5, 161)
set_option maxRecDepth 1000000 in
theorem ck_142 : x_ok mLT [cx_141, cx_130] mTS mTC mRU cx_142 [(2, [0]), (12, [0]), (17, [1]), (36, [0]), (46, [0])] [] [] (29, []) 1614 32 = true := by decide +kernel
theorem sn_142 {X : List Int32} : y_Snd mGa mLT (mJS X) X cx_142 := y_ok (fun _ _ _ => Iff.rfl) mTS_ok mTC_ok mRU_ok (List.forall_mem_cons.mpr ⟨sn_141, List.forall_mem_cons.mpr ⟨sn_130, fun _ h => absurd h List.not_mem_nil⟩⟩) ck_142
/-- Planner.peaceAnswer -/
def cx_143 : zCtx := (85, ([(0, 3072), (1, 2), (0, 40), ((-1), 35), (0, 2)], [], [], [], [(0, 0, 0, [(1, 1)]), (0, 0, 0, [(2, 1)]), (0, 0, 0, [(3, 1)]), (0, 0, 0, [(4, 1)])], [], []), [([(0, 3072), (1, 2), (0, 40), ((-1), 35), (0, 0)], [], [], [], [(0, 0, 0, [(1, 1)])], [], []), ([(0, 3072), (1, 2), (0, 40), ((-1), 35), (1, 1), (0, 65)], [], [], [], [(0, 0, 0, [(5, 1)])], [], []), ([(0, 3072), (1, 2), (0, 40), ((-1), (-1)), (2, 2)], [], [], [], [(0, 0, (-1), [])], [], []), ([(0, 3072), (1, 2), (0, 40), (0, 35), (2, 2), (0, 55)], [], [], [], [(0, 0, 0, [(5, 1)])], [], [])], [], 20, 0, 0)
set_option maxRecDepth 1000000 in
theorem ck_143 : x_ok mLT [] mTS mTC mRU cx_143 [] [] [] (20, []) 0 23 = true := by decide +kernel
theorem sn_143 {X : List Int32} : y_Snd mGa mLT (mJS X) X cx_143 := y_ok (fun _ _ _ => Iff.rfl) mTS_ok mTC_ok mRU_ok (fun _ h => absurd h List.not_mem_nil) ck_143
