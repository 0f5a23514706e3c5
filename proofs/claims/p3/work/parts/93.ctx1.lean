/-! ===== the readings 60 .. 129, by program, checked by the kernel ===== -/
/-- Parser.unit -/
def cx_60 : zCtx := (65, ([(0, 3072), (2, 2)], [(4, false)], [], [], [(2, 0, 0, []), (0, 0, 0, [(1, 1)])], [], []), [([(0, 3072), (2, 2)], [(4, false)], [], [], [], [], [])], [(1, false, 4), (1, false, 6), (1, false, 7), (1, false, 8), (3, false, 4), (4, false, 2), (21, true, 0), (22, true, 0)], 394073, 14, 314)
set_option maxRecDepth 1000000 in
theorem ck_60 : x_ok mLT [cx_37, cx_59, cx_5] mTS mTC mRU cx_60 [(45, [0]), (53, [1]), (59, [0]), (87, [2]), (92, [0]), (126, [2]), (131, [0])] [] [] (36, []) 394037 39 = true := by decide +kernel
theorem sn_60 {X : List Int32} : y_Snd mGa mLT (mJS X) X cx_60 := y_ok (fun _ _ _ => Iff.rfl) mTS_ok mTC_ok mRU_ok (List.forall_mem_cons.mpr ⟨sn_37, List.forall_mem_cons.mpr ⟨sn_59, List.forall_mem_cons.mpr ⟨sn_5, fun _ h => absurd h List.not_mem_nil⟩⟩⟩) ck_60
/-- Parser.part -/
def cx_61 : zCtx := (64, ([(0, 3072), (2, 2)], [(4, false)], [], [], [(2, 0, 0, []), (0, 0, 0, [(1, 1)])], [], []), [([(0, 3072), (2, 2)], [(4, false)], [], [], [], [], [])], [(1, false, 4), (1, false, 6), (1, false, 7), (1, false, 8), (3, false, 4), (4, false, 2), (21, true, 0), (22, true, 0)], 410483, 15, 336)
set_option maxRecDepth 1000000 in
theorem ck_61 : x_ok mLT [cx_60, cx_37, cx_5] mTS mTC mRU cx_61 [(2, [0]), (71, [1]), (77, [0]), (89, [2])] [] [(7, ([(0, 3072), (2, 2), (0, 400)], [(4, false)], [], [(2, 0, 0, []), (0, 0, 0, [(1, 1)]), (0, 0, 0, [(2, 1)]), (5, 0, 0, [])], [], [], []), ((-100000000000), [(1, 50000008202), (2, (-41))]))] (16410, []) 394073 43 = true := by decide +kernel
theorem sn_61 {X : List Int32} : y_Snd mGa mLT (mJS X) X cx_61 := y_ok (fun _ _ _ => Iff.rfl) mTS_ok mTC_ok mRU_ok (List.forall_mem_cons.mpr ⟨sn_60, List.forall_mem_cons.mpr ⟨sn_37, List.forall_mem_cons.mpr ⟨sn_5, fun _ h => absurd h List.not_mem_nil⟩⟩⟩) ck_61
/-- Parser.expression -/
def cx_62 : zCtx := (63, ([(0, 3072), (2, 2)], [(4, false)], [], [], [(2, 0, 0, []), (0, 0, 0, [(1, 1)])], [], []), [([(0, 3072), (2, 2)], [(4, false)], [], [], [], [], [])], [(1, false, 4), (1, false, 6), (1, false, 7), (1, false, 8), (3, false, 4), (4, false, 2), (21, true, 0), (22, true, 0)], 426893, 16, 359)
set_option maxRecDepth 1000000 in
theorem ck_62 : x_ok mLT [cx_61, cx_37, cx_5] mTS mTC mRU cx_62 [(2, [0]), (71, [1]), (77, [0]), (89, [2])] [] [(7, ([(0, 3072), (2, 2), (0, 400)], [(4, false)], [], [(2, 0, 0, []), (0, 0, 0, [(1, 1)]), (0, 0, 0, [(2, 1)]), (5, 0, 0, [])], [], [], []), ((-100000000000), [(1, 50000008202), (2, (-41))]))] (16410, []) 410483 43 = true := by decide +kernel
theorem sn_62 {X : List Int32} : y_Snd mGa mLT (mJS X) X cx_62 := y_ok (fun _ _ _ => Iff.rfl) mTS_ok mTC_ok mRU_ok (List.forall_mem_cons.mpr ⟨sn_61, List.forall_mem_cons.mpr ⟨sn_37, List.forall_mem_cons.mpr ⟨sn_5, fun _ h => absurd h List.not_mem_nil⟩⟩⟩) ck_62
/-- Parser.unit -/
def cx_63 : zCtx := (65, ([(0, 3072), (1, 1)], [(4, false)], [], [], [(2, 0, 0, []), (0, 0, 0, [(1, 1)])], [], []), [([(0, 3072), (1, 1)], [(4, false)], [], [], [], [], [])], [(1, false, 4), (1, false, 6), (1, false, 7), (1, false, 8), (3, false, 4), (4, false, 2), (21, true, 0), (22, true, 0)], 426929, 17, 382)
set_option maxRecDepth 1000000 in
theorem ck_63 : x_ok mLT [cx_37, cx_62, cx_5] mTS mTC mRU cx_63 [(45, [0]), (53, [1]), (59, [0]), (87, [2]), (92, [0]), (126, [2]), (131, [0])] [] [] (36, []) 426893 39 = true := by decide +kernel
theorem sn_63 {X : List Int32} : y_Snd mGa mLT (mJS X) X cx_63 := y_ok (fun _ _ _ => Iff.rfl) mTS_ok mTC_ok mRU_ok (List.forall_mem_cons.mpr ⟨sn_37, List.forall_mem_cons.mpr ⟨sn_62, List.forall_mem_cons.mpr ⟨sn_5, fun _ h => absurd h List.not_mem_nil⟩⟩⟩) ck_63
/-- Parser.part -/
def cx_64 : zCtx := (64, ([(0, 3072), (1, 1)], [(4, false)], [], [], [(2, 0, 0, []), (0, 0, 0, [(1, 1)])], [], []), [([(0, 3072), (1, 1)], [(4, false)], [], [], [], [], [])], [(1, false, 4), (1, false, 6), (1, false, 7), (1, false, 8), (3, false, 4), (4, false, 2), (21, true, 0), (22, true, 0)], 443339, 18, 404)
set_option maxRecDepth 1000000 in
theorem ck_64 : x_ok mLT [cx_63, cx_37, cx_5] mTS mTC mRU cx_64 [(2, [0]), (71, [1]), (77, [0]), (89, [2])] [] [(7, ([(0, 3072), (1, 1), (0, 400)], [(4, false)], [], [(2, 0, 0, []), (0, 0, 0, [(1, 1)]), (0, 0, 0, [(2, 1)]), (5, 0, 0, [])], [], [], []), ((-99999983596), [(1, 100000000000), (2, (-41))]))] (16410, []) 426929 43 = true := by decide +kernel
theorem sn_64 {X : List Int32} : y_Snd mGa mLT (mJS X) X cx_64 := y_ok (fun _ _ _ => Iff.rfl) mTS_ok mTC_ok mRU_ok (List.forall_mem_cons.mpr ⟨sn_63, List.forall_mem_cons.mpr ⟨sn_37, List.forall_mem_cons.mpr ⟨sn_5, fun _ h => absurd h List.not_mem_nil⟩⟩⟩) ck_64
/-- Parser.expression -/
def cx_65 : zCtx := (63, ([(0, 3072), (1, 1)], [(4, false)], [], [], [(2, 0, 0, []), (0, 0, 0, [(1, 1)])], [], []), [([(0, 3072), (1, 1)], [(4, false)], [], [], [], [], [])], [(1, false, 4), (1, false, 6), (1, false, 7), (1, false, 8), (3, false, 4), (4, false, 2), (21, true, 0), (22, true, 0)], 459749, 19, 427)
set_option maxRecDepth 1000000 in
theorem ck_65 : x_ok mLT [cx_64, cx_37, cx_5] mTS mTC mRU cx_65 [(2, [0]), (71, [1]), (77, [0]), (89, [2])] [] [(7, ([(0, 3072), (1, 1), (0, 400)], [(4, false)], [], [(2, 0, 0, []), (0, 0, 0, [(1, 1)]), (0, 0, 0, [(2, 1)]), (5, 0, 0, [])], [], [], []), ((-99999983596), [(1, 100000000000), (2, (-41))]))] (16410, []) 443339 43 = true := by decide +kernel
theorem sn_65 {X : List Int32} : y_Snd mGa mLT (mJS X) X cx_65 := y_ok (fun _ _ _ => Iff.rfl) mTS_ok mTC_ok mRU_ok (List.forall_mem_cons.mpr ⟨sn_64, List.forall_mem_cons.mpr ⟨sn_37, List.forall_mem_cons.mpr ⟨sn_5, fun _ h => absurd h List.not_mem_nil⟩⟩⟩) ck_65
/-- Parser.unit -/
def cx_66 : zCtx := (65, ([(0, 3072), (0, 0)], [(4, false)], [], [], [(2, 0, 0, []), (0, 0, 0, [(1, 1)])], [], []), [([(0, 3072), (0, 0)], [(4, false)], [], [], [], [], [])], [(1, false, 4), (1, false, 6), (1, false, 7), (1, false, 8), (3, false, 4), (4, false, 2), (21, true, 0), (22, true, 0)], 459785, 20, 450)
set_option maxRecDepth 1000000 in
theorem ck_66 : x_ok mLT [cx_37, cx_65, cx_5] mTS mTC mRU cx_66 [(45, [0]), (53, [1]), (59, [0]), (87, [2]), (92, [0]), (126, [2]), (131, [0])] [] [] (36, []) 459749 39 = true := by decide +kernel
theorem sn_66 {X : List Int32} : y_Snd mGa mLT (mJS X) X cx_66 := y_ok (fun _ _ _ => Iff.rfl) mTS_ok mTC_ok mRU_ok (List.forall_mem_cons.mpr ⟨sn_37, List.forall_mem_cons.mpr ⟨sn_65, List.forall_mem_cons.mpr ⟨sn_5, fun _ h => absurd h List.not_mem_nil⟩⟩⟩) ck_66
/-- Parser.part -/
def cx_67 : zCtx := (64, ([(0, 3072), (0, 0)], [(4, false)], [], [], [(2, 0, 0, []), (0, 0, 0, [(1, 1)])], [], []), [([(0, 3072), (0, 0)], [(4, false)], [], [], [], [], [])], [(1, false, 4), (1, false, 6), (1, false, 7), (1, false, 8), (3, false, 4), (4, false, 2), (21, true, 0), (22, true, 0)], 476195, 21, 472)
set_option maxRecDepth 1000000 in
theorem ck_67 : x_ok mLT [cx_66, cx_37, cx_5] mTS mTC mRU cx_67 [(2, [0]), (71, [1]), (77, [0]), (89, [2])] [] [(7, ([(0, 3072), (0, 0), (0, 400)], [(4, false)], [], [(2, 0, 0, []), (0, 0, 0, [(1, 1)]), (0, 0, 0, [(2, 1)]), (5, 0, 0, [])], [], [], []), (16404, [(1, (-100000000000)), (2, (-41))]))] (16410, []) 459785 43 = true := by decide +kernel
theorem sn_67 {X : List Int32} : y_Snd mGa mLT (mJS X) X cx_67 := y_ok (fun _ _ _ => Iff.rfl) mTS_ok mTC_ok mRU_ok (List.forall_mem_cons.mpr ⟨sn_66, List.forall_mem_cons.mpr ⟨sn_37, List.forall_mem_cons.mpr ⟨sn_5, fun _ h => absurd h List.not_mem_nil⟩⟩⟩) ck_67
/-- Parser.expression -/
def cx_68 : zCtx := (63, ([(0, 3072), (0, 0)], [(4, false)], [], [], [(2, 0, 0, []), (0, 0, 0, [(1, 1)])], [], []), [([(0, 3072), (0, 0)], [(4, false)], [], [], [], [], [])], [(1, false, 4), (1, false, 6), (1, false, 7), (1, false, 8), (3, false, 4), (4, false, 2), (21, true, 0), (22, true, 0)], 492605, 22, 495)
set_option maxRecDepth 1000000 in
theorem ck_68 : x_ok mLT [cx_67, cx_37, cx_5] mTS mTC mRU cx_68 [(2, [0]), (71, [1]), (77, [0]), (89, [2])] [] [(7, ([(0, 3072), (0, 0), (0, 400)], [(4, false)], [], [(2, 0, 0, []), (0, 0, 0, [(1, 1)]), (0, 0, 0, [(2, 1)]), (5, 0, 0, [])], [], [], []), (16404, [(1, (-100000000000)), (2, (-41))]))] (16410, []) 476195 43 = true := by decide +kernel
theorem sn_68 {X : List Int32} : y_Snd mGa mLT (mJS X) X cx_68 := y_ok (fun _ _ _ => Iff.rfl) mTS_ok mTC_ok mRU_ok (List.forall_mem_cons.mpr ⟨sn_67, List.forall_mem_cons.mpr ⟨sn_37, List.forall_mem_cons.mpr ⟨sn_5, fun _ h => absurd h List.not_mem_nil⟩⟩⟩) ck_68
/-- Laws.aimHere -/
def cx_69 : zCtx := (50, ([(0, 3072), (0, 432), (1, 432)], [(3, false)], [], [], [(2, 0, 0, []), (0, 0, 0, [(1, 1)])], [(0, (false, 4, 0, []), 0, 0, 0, [(2, 1)])], []), [([(0, 3072), (0, 431), (1, 432)], [(3, false)], [], [], [], [], []), ([(0, 3072), (432, 432), (1, 432)], [(3, false)], [], [], [], [], [])], [(22, true, 0)], 12, 0, 0)
set_option maxRecDepth 1000000 in
theorem ck_69 : x_ok mLT [] mTS mTC mRU cx_69 [] [] [] (12, []) 0 15 = true := by decide +kernel
theorem sn_69 {X : List Int32} : y_Snd mGa mLT (mJS X) X cx_69 := y_ok (fun _ _ _ => Iff.rfl) mTS_ok mTC_ok mRU_ok (fun _ h => absurd h List.not_mem_nil) ck_69
/-- Parser.parseLaw -/
def cx_70 : zCtx := (62, ([(0, 3072), ((-2147483648), 2147483647)], [(4, false)], [], [], [(2, 0, 0, []), (0, 0, 0, [(1, 1)])], [], []), [([(0, 3072), (4, 2147483647)], [(4, false)], [], [], [], [], []), ([(0, 3072), ((-2147483648), (-1))], [(4, false)], [], [], [], [], []), ([(0, 3072), (0, 3)], [(4, false)], [], [], [], [], [])], [(1, false, 4), (1, false, 6), (1, false, 7), (1, false, 8), (3, false, 4), (4, false, 2), (21, true, 0), (22, true, 0), (23, true, 0)], 492906, 23, 518)
set_option maxRecDepth 1000000 in
theorem ck_70 : x_ok mLT [cx_37, cx_68, cx_5, cx_69, cx_4] mTS mTC mRU cx_70 [(23, [0]), (30, [0]), (76, [0]), (82, [1]), (88, [0]), (94, [1]), (119, [2]), (126, [0]), (132, [1]), (145, [2]), (152, [0]), (165, [3]), (201, [1]), (214, [2]), (220, [0]), (233, [4])] [] [(47, ([(0, 3072), (0, 3), (0, 432), (0, 4), (0, 432)], [(4, false), (2, false), (1, false), (3, false)], [], [(2, 0, 0, []), (0, 0, 0, [(1, 1)]), (0, 0, 0, [(2, 1)]), (0, 0, 0, [(3, 1)]), (5, 0, 0, [])], [], [(0, (false, 1, 0, []), 2, 1, 0, []), (0, (false, 0, 0, []), 2, 2, 0, []), (1, (false, 4, 0, []), 2, 3, 0, []), (3, (false, 4, 0, []), 0, 0, 0, [(4, 1)])], []), (278, [(3, (-61))]))] (301, []) 492605 63 = true := by decide +kernel
theorem sn_70 {X : List Int32} : y_Snd mGa mLT (mJS X) X cx_70 := y_ok (fun _ _ _ => Iff.rfl) mTS_ok mTC_ok mRU_ok (List.forall_mem_cons.mpr ⟨sn_37, List.forall_mem_cons.mpr ⟨sn_68, List.forall_mem_cons.mpr ⟨sn_5, List.forall_mem_cons.mpr ⟨sn_69, List.forall_mem_cons.mpr ⟨sn_4, fun _ h => absurd h List.not_mem_nil⟩⟩⟩⟩⟩) ck_70
/-- Parser.parse -/
def cx_71 : zCtx := (54, ([(0, 3072)], [(4, false), (2, false)], [], [], [(2, 0, 0, []), (2, 1, 0, [])], [], []), [([(0, 3072), ((-2147483648), 2147483647)], [(4, false), (2, false)], [], [], [(0, 0, 0, [(1, 1)])], [], [])], [(1, false, 4), (1, false, 6), (1, false, 7), (1, false, 8), (2, false, 5), (2, false, 6), (2, false, 7), (2, false, 8), (2, false, 9), (2, false, 10), (3, false, 4), (4, false, 1), (4, false, 2), (4, false, 3), (4, false, 4), (4, false, 5), (14, true, 0), (15, true, 0), (16, true, 0), (17, true, 0), (18, true, 0), (19, true, 0), (20, true, 0), (21, true, 0), (22, true, 0), (23, true, 0)], 502967, 24, 542)
set_option maxRecDepth 1000000 in
theorem ck_71 : x_ok mLT [cx_7, cx_35, cx_42, cx_46, cx_47, cx_70] mTS mTC mRU cx_71 [(9, [0]), (26, [1]), (117, [2]), (124, [3]), (138, [4]), (155, [4]), (172, [4]), (190, [4]), (211, [5])] [] [(31, ([(0, 3072), (0, 401), (0, 2000)], [(4, false), (2, false), (1, false)], [], [(2, 0, 0, []), (2, 1, 0, []), (0, 0, 0, [(1, 1)])], [], [(0, (false, 0, 0, []), 2, 2, 0, []), (0, (false, 1, 0, []), 2, 1, 0, []), (2, (false, 5, 0, []), 0, 0, 0, [(2, 1)])], []), (10043, [(1, (-25))]))] (10061, []) 492906 28 = true := by decide +kernel
theorem sn_71 {X : List Int32} : y_Snd mGa mLT (mJS X) X cx_71 := y_ok (fun _ _ _ => Iff.rfl) mTS_ok mTC_ok mRU_ok (List.forall_mem_cons.mpr ⟨sn_7, List.forall_mem_cons.mpr ⟨sn_35, List.forall_mem_cons.mpr ⟨sn_42, List.forall_mem_cons.mpr ⟨sn_46, List.forall_mem_cons.mpr ⟨sn_47, List.forall_mem_cons.mpr ⟨sn_70, fun _ h => absurd h List.not_mem_nil⟩⟩⟩⟩⟩⟩) ck_71
/-- Arrays.fill -/
def cx_72 : zCtx := (2, ([(0, 3072), (0, 0)], [(28, false)], [], [], [(2, 0, 0, []), (0, 0, 0, [(1, 1)])], [], []), [([(0, 3072), (0, 0)], [(28, false)], [], [], [], [], [])], [(28, true, 0)], 70, 0, 0)
set_option maxRecDepth 1000000 in
theorem ck_72 : x_ok mLT [] mTS mTC mRU cx_72 [] [] [(5, ([(0, 3072), (0, 0), (0, 6)], [(28, false)], [], [(2, 0, 0, []), (0, 0, 0, [(1, 1)]), (0, 0, 0, [(2, 1)]), (0, 0, 6, [])], [], [], []), (64, [(1, (-100000000000)), (2, (-10))]))] (70, []) 0 12 = true := by decide +kernel
theorem sn_72 {X : List Int32} : y_Snd mGa mLT (mJS X) X cx_72 := y_ok (fun _ _ _ => Iff.rfl) mTS_ok mTC_ok mRU_ok (fun _ h => absurd h List.not_mem_nil) ck_72
/-- State.begin -/
def cx_73 : zCtx := (100, ([(0, 3072), (0, 6), (0, 6)], [(6, false), (2, false)], [], [], [(2, 0, 0, []), (2, 1, 0, [])], [(0, (false, 5, 0, []), 0, 0, 0, [(1, 1)]), (0, (false, 6, 0, []), 0, 0, 0, [(2, 1)])], []), [([(0, 3072), (0, 6), (0, 6), (0, 6)], [(6, false), (2, false)], [], [], [], [(0, (false, 6, 0, []), 0, 0, 0, []), (0, (false, 5, 0, []), 0, 0, 0, [(3, 1)])], [])], [(6, false, 5), (6, false, 6), (6, false, 7), (6, false, 8), (27, true, 0), (28, true, 0)], 96, 1, 64)
set_option maxRecDepth 1000000 in
theorem ck_73 : x_ok mLT [cx_72] mTS mTC mRU cx_73 [(20, [0])] [] [] (26, []) 70 29 = true := by decide +kernel
theorem sn_73 {X : List Int32} : y_Snd mGa mLT (mJS X) X cx_73 := y_ok (fun _ _ _ => Iff.rfl) mTS_ok mTC_ok mRU_ok (List.forall_mem_cons.mpr ⟨sn_72, fun _ h => absurd h List.not_mem_nil⟩) ck_73
/-- History.clear -/
def cx_74 : zCtx := (39, ([(0, 3072), (0, 39), (0, 40)], [(7, false)], [], [], [(2, 0, 0, [])], [(0, (false, 2, 0, []), 0, 0, 0, [(1, 1)]), (0, (false, 3, 0, []), 0, 0, 0, [(2, 1)])], []), [([(0, 3072), (0, 39), (0, 40)], [(7, false)], [], [], [], [(0, (false, 3, 0, []), 0, 0, 0, []), (0, (false, 2, 0, []), 0, 0, 0, [])], [])], [(7, false, 2), (7, false, 3), (7, false, 4)], 10, 0, 0)
set_option maxRecDepth 1000000 in
theorem ck_74 : x_ok mLT [] mTS mTC mRU cx_74 [] [] [] (10, []) 0 13 = true := by decide +kernel
theorem sn_74 {X : List Int32} : y_Snd mGa mLT (mJS X) X cx_74 := y_ok (fun _ _ _ => Iff.rfl) mTS_ok mTC_ok mRU_ok (fun _ h => absurd h List.not_mem_nil) ck_74
/-- HairRope.beginSpareText -/
def cx_75 : zCtx := (140, ([(0, 3072)], [(0, false)], [], [], [(2, 0, 0, [])], [], []), [([(0, 3072)], [(0, false)], [], [], [], [], [])], [(0, false, 9), (5, false, 3), (6, false, 5), (6, false, 6), (6, false, 7), (6, false, 8), (7, false, 2), (7, false, 3), (7, false, 4), (11, false, 8), (27, true, 0), (28, true, 0)], 122, 2, 85)
set_option maxRecDepth 1000000 in
theorem ck_75 : x_ok mLT [cx_73, cx_74] mTS mTC mRU cx_75 [(35, [0]), (42, [1])] [] [] (26, []) 96 29 = true := by decide +kernel
theorem sn_75 {X : List Int32} : y_Snd mGa mLT (mJS X) X cx_75 := y_ok (fun _ _ _ => Iff.rfl) mTS_ok mTC_ok mRU_ok (List.forall_mem_cons.mpr ⟨sn_73, List.forall_mem_cons.mpr ⟨sn_74, fun _ h => absurd h List.not_mem_nil⟩⟩) ck_75
/-- HairRope.read -/
def cx_76 : zCtx := (139, ([(0, 3072), (0, 2000)], [(0, false), (1, false)], [], [], [(2, 0, 0, [])], [(0, (false, 0, 0, []), 2, 1, 0, []), (1, (false, 5, 0, []), 0, 0, 0, [(1, 1)])], []), [([(0, 3072), (0, 2000), (0, 0)], [(0, false), (1, false)], [], [], [(0, 0, 0, [(2, 1)])], [(1, (false, 5, 0, []), 0, 0, 0, [])], []), ([(0, 3072), (0, 2000), ((-2147483648), (-1))], [(0, false), (1, false)], [], [], [(0, 0, 0, [(2, 1)])], [(1, (false, 5, 0, []), 0, 0, 0, [])], []), ([(0, 3072), (0, 2000), (1, 2147483647)], [(0, false), (1, false)], [], [], [(0, 0, 0, [(2, 1)])], [(1, (false, 5, 0, []), 0, 0, 0, [])], [])], [(0, false, 9), (0, false, 10), (1, false, 4), (1, false, 5), (1, false, 6), (1, false, 7), (1, false, 8), (2, false, 5), (2, false, 6), (2, false, 7), (2, false, 8), (2, false, 9), (2, false, 10), (3, false, 4), (4, false, 1), (4, false, 2), (4, false, 3), (4, false, 4), (4, false, 5), (5, false, 3), (6, false, 5), (6, false, 6), (6, false, 7), (6, false, 8), (7, false, 2), (7, false, 3), (7, false, 4), (11, false, 8), (14, true, 0), (15, true, 0), (16, true, 0), (17, true, 0), (18, true, 0), (19, true, 0), (20, true, 0), (21, true, 0), (22, true, 0), (23, true, 0), (27, true, 0), (28, true, 0)], 502989, 25, 564)
set_option maxRecDepth 1000000 in
theorem ck_76 : x_ok mLT [cx_71, cx_75] mTS mTC mRU cx_76 [(8, [0]), (44, [1])] [] [] (22, []) 502967 25 = true := by decide +kernel
theorem sn_76 {X : List Int32} : y_Snd mGa mLT (mJS X) X cx_76 := y_ok (fun _ _ _ => Iff.rfl) mTS_ok mTC_ok mRU_ok (List.forall_mem_cons.mpr ⟨sn_71, List.forall_mem_cons.mpr ⟨sn_75, fun _ h => absurd h List.not_mem_nil⟩⟩) ck_76
/-- HairRope.place -/
def cx_77 : zCtx := (141, ([(0, 3072)], [(0, false)], [], [], [(2, 0, 0, [])], [], []), [([(0, 3072), ((-2147483648), 2147483647)], [(0, false)], [], [], [(0, 0, 0, [(1, 1)])], [], [])], [], 3, 0, 0)
set_option maxRecDepth 1000000 in
theorem ck_77 : x_ok mLT [] mTS mTC mRU cx_77 [] [] [] (3, []) 0 6 = true := by decide +kernel
theorem sn_77 {X : List Int32} : y_Snd mGa mLT (mJS X) X cx_77 := y_ok (fun _ _ _ => Iff.rfl) mTS_ok mTC_ok mRU_ok (fun _ h => absurd h List.not_mem_nil) ck_77
/-- HairRope.isHouse -/
def cx_78 : zCtx := (143, ([(0, 3072), ((-2147483648), 2147483647)], [(0, false)], [], [], [(2, 0, 0, []), (0, 0, 0, [(1, 1)])], [], []), [([(0, 3072), (0, 5)], [(0, false)], [], [], [(0, 0, 1, [])], [], []), ([(0, 3072), (0, 2147483647)], [(0, false)], [], [], [(0, 0, 0, [])], [], []), ([(0, 3072), ((-2147483648), (-1))], [(0, false)], [], [], [(0, 0, 0, [])], [], [])], [], 14, 0, 0)
set_option maxRecDepth 1000000 in
theorem ck_78 : x_ok mLT [] mTS mTC mRU cx_78 [] [] [] (14, []) 0 17 = true := by decide +kernel
theorem sn_78 {X : List Int32} : y_Snd mGa mLT (mJS X) X cx_78 := y_ok (fun _ _ _ => Iff.rfl) mTS_ok mTC_ok mRU_ok (fun _ h => absurd h List.not_mem_nil) ck_78
/-- State.placeOf -/
def cx_79 : zCtx := (101, ([(0, 3072), ((-2147483648), 2147483647), (0, 6)], [(6, false)], [], [], [(2, 0, 0, []), (0, 0, 0, [(1, 1)])], [(0, (false, 6, 0, []), 0, 0, 0, [(2, 1)])], []), [([(0, 3072), ((-2147483648), 2147483647), (1, 6), (0, 5)], [(6, false)], [((-1), [(2, 1), (3, (-1))])], [], [(0, 0, 0, [(3, 1)])], [], []), ([(0, 3072), ((-2147483648), 2147483647), (0, 6)], [(6, false)], [], [], [(0, 0, (-1), [])], [], [])], [], 105, 0, 0)
set_option maxRecDepth 1000000 in
theorem ck_79 : x_ok mLT [] mTS mTC mRU cx_79 [] [] [(2, ([(0, 3072), ((-2147483648), 2147483647), (0, 6), (0, 6)], [(6, false)], [], [(2, 0, 0, []), (0, 0, 0, [(1, 1)]), (0, 0, 0, [(3, 1)])], [], [(0, (false, 6, 0, []), 0, 0, 0, [(2, 1)])], []), (102, [(3, (-16))]))] (105, []) 0 18 = true := by decide +kernel
theorem sn_79 {X : List Int32} : y_Snd mGa mLT (mJS X) X cx_79 := y_ok (fun _ _ _ => Iff.rfl) mTS_ok mTC_ok mRU_ok (fun _ h => absurd h List.not_mem_nil) ck_79
/-- Rules.strongOf -/
def cx_80 : zCtx := (89, ([(0, 3072), ((-2147483648), 2147483647), ((-1), 5)], [(5, false), (6, false)], [], [], [(2, 0, 0, []), (2, 1, 0, []), (0, 0, 0, [(1, 1)]), (0, 0, 0, [(2, 1)])], [], []), [([(0, 3072), ((-2147483648), 2147483647), (0, 5), ((-2147483648), 2147483647)], [(5, false), (6, false)], [], [], [(0, 0, 0, [(3, 1)])], [], []), ([(0, 3072), (0, 5), ((-1), (-1)), ((-2147483648), 2147483647)], [(5, false), (6, false)], [], [], [(0, 0, 0, [(3, 1)])], [], []), ([(0, 3072), (6, 2147483647), ((-1), (-1))], [(5, false), (6, false)], [], [], [(0, 0, 0, [])], [], []), ([(0, 3072), ((-2147483648), (-1)), ((-1), (-1))], [(5, false), (6, false)], [], [], [(0, 0, 0, [])], [], [])], [], 14, 0, 0)
set_option maxRecDepth 1000000 in
theorem ck_80 : x_ok mLT [] mTS mTC mRU cx_80 [] [] [] (14, []) 0 17 = true := by decide +kernel
theorem sn_80 {X : List Int32} : y_Snd mGa mLT (mJS X) X cx_80 := y_ok (fun _ _ _ => Iff.rfl) mTS_ok mTC_ok mRU_ok (fun _ h => absurd h List.not_mem_nil) ck_80
/-- Rules.lookAt -/
def cx_81 : zCtx := (88, ([(0, 3072), ((-2147483648), 2147483647), ((-1), 5)], [(5, false), (6, false)], [], [], [(2, 0, 0, []), (2, 1, 0, []), (0, 0, 0, [(1, 1)]), (0, 0, 0, [(2, 1)])], [], []), [([(0, 3072), (6, 2147483647), ((-1), 5)], [(5, false), (6, false)], [], [], [], [], []), ([(0, 3072), (0, 5), ((-1), (-1))], [(5, false), (6, false)], [], [], [], [], []), ([(0, 3072), (0, 5), (0, 5)], [(5, false), (6, false)], [], [], [], [], []), ([(0, 3072), ((-2147483648), (-1)), ((-1), 5)], [(5, false), (6, false)], [], [], [], [], [])], [(26, true, 0)], 79, 1, 64)
set_option maxRecDepth 1000000 in
theorem ck_81 : x_ok mLT [cx_80] mTS mTC mRU cx_81 [(32, [0])] [] [] (65, []) 14 68 = true := by decide +kernel
theorem sn_81 {X : List Int32} : y_Snd mGa mLT (mJS X) X cx_81 := y_ok (fun _ _ _ => Iff.rfl) mTS_ok mTC_ok mRU_ok (List.forall_mem_cons.mpr ⟨sn_80, fun _ h => absurd h List.not_mem_nil⟩) ck_81
/-- Laws.reckon -/
def cx_82 : zCtx := (52, ([(0, 3072), ((-2147483648), 2147483647), ((-2147483648), 2147483647), ((-2147483648), 2147483647)], [], [], [], [(0, 0, 0, [(1, 1)]), (0, 0, 0, [(2, 1)]), (0, 0, 0, [(3, 1)])], [], []), [([(0, 3072), ((-2147483648), 2147483647), ((-2147483648), 2147483647), ((-2147483648), 2147483647), ((-2147483648), 2147483647)], [], [], [], [(0, 0, 0, [(4, 1)])], [], []), ([(0, 3072), ((-2147483648), 2147483647), ((-2147483648), 2147483647), (0, 0)], [], [], [], [(0, 0, 0, [])], [], [])], [], 8, 0, 0)
set_option maxRecDepth 1000000 in
theorem ck_82 : x_ok mLT [] mTS mTC mRU cx_82 [] [] [] (8, []) 0 11 = true := by decide +kernel
theorem sn_82 {X : List Int32} : y_Snd mGa mLT (mJS X) X cx_82 := y_ok (fun _ _ _ => Iff.rfl) mTS_ok mTC_ok mRU_ok (fun _ h => absurd h List.not_mem_nil) ck_82
/-- Laws.answer -/
def cx_83 : zCtx := (51, ([(0, 3072), (0, 3), (0, 432)], [(3, false), (26, false)], [], [], [(2, 0, 0, []), (0, 0, 0, [(1, 1)]), (2, 1, 0, [])], [(0, (false, 4, 0, []), 0, 0, 0, [(2, 1)])], []), [([(0, 3072), (0, 3), (1, 432), ((-2147483648), 2147483647)], [(3, false), (26, false)], [], [], [(0, 0, 0, [(3, 1)])], [], []), ([(0, 3072), (0, 3), (0, 431)], [(3, false), (26, false)], [], [], [(0, 0, 0, [])], [], []), ([(0, 3072), (0, 3), (0, 432)], [(3, false), (26, false)], [], [], [(0, 0, 0, [])], [], [])], [(24, true, 0)], 52949, 1, 22)
set_option maxRecDepth 1000000 in
theorem ck_83 : x_ok mLT [cx_82] mTS mTC mRU cx_83 [(220, [0])] [] [(26, ([(0, 3072), (0, 3), (0, 432), ((-2147483648), 2147483647), (0, 22), (0, 840)], [(3, false), (26, false), (23, false)], [], [(2, 0, 0, []), (0, 0, 0, [(1, 1)]), (2, 1, 0, []), (0, 0, 0, [(3, 1)]), (0, 0, 0, [(4, 1)]), (0, 0, 0, [(5, 1)]), (5, 0, 0, []), (5, 0, 0, [])], [], [(0, (false, 2, 0, []), 2, 2, 0, []), (0, (false, 4, 0, []), 0, 0, 0, [(2, 1)])], []), (52925, [(4, 6), (5, (-63))]))] (52941, []) 8 71 = true := by decide +kernel
theorem sn_83 {X : List Int32} : y_Snd mGa mLT (mJS X) X cx_83 := y_ok (fun _ _ _ => Iff.rfl) mTS_ok mTC_ok mRU_ok (List.forall_mem_cons.mpr ⟨sn_82, fun _ h => absurd h List.not_mem_nil⟩) ck_83
/-- Rules.lawOf -/
def cx_84 : zCtx := (87, ([(0, 3072), (0, 3), (0, 5)], [(5, false), (6, false)], [], [], [(2, 0, 0, []), (0, 0, 0, [(1, 1)]), (2, 1, 0, []), (0, 0, 0, [(2, 1)])], [], []), [([(0, 3072), (0, 3), (0, 5)], [(5, false), (6, false)], [], [], [(0, 0, 0, [])], [], []), ([(0, 3072), (0, 3), (0, 5), (0, 99)], [(5, false), (6, false)], [], [], [(0, 0, 0, [(3, 1)])], [], [])], [(24, true, 0), (26, true, 0)], 52968, 2, 87)
set_option maxRecDepth 1000000 in
theorem ck_84 : x_ok mLT [cx_79, cx_81, cx_83] mTS mTC mRU cx_84 [(5, [0]), (8, [1]), (26, [2])] [] [] (19, []) 52949 22 = true := by decide +kernel
theorem sn_84 {X : List Int32} : y_Snd mGa mLT (mJS X) X cx_84 := y_ok (fun _ _ _ => Iff.rfl) mTS_ok mTC_ok mRU_ok (List.forall_mem_cons.mpr ⟨sn_79, List.forall_mem_cons.mpr ⟨sn_81, List.forall_mem_cons.mpr ⟨sn_83, fun _ h => absurd h List.not_mem_nil⟩⟩⟩) ck_84
/-- HairRope.house -/
def cx_85 : zCtx := (142, ([(0, 3072), ((-2147483648), 2147483647), ((-2147483648), 2147483647)], [(0, false)], [], [], [(2, 0, 0, []), (0, 0, 0, [(1, 1)]), (0, 0, 0, [(2, 1)])], [], []), [([(0, 3072), ((-2147483648), 2147483647), ((-2147483648), 2147483647)], [(0, false)], [], [], [(0, 0, (-1), [])], [], []), ([(0, 3072), (0, 5), (0, 8), ((-2147483648), 2147483647)], [(0, false)], [], [], [(0, 0, 0, [(3, 1)])], [], []), ([(0, 3072), (0, 5), (3, 7)], [(0, false)], [], [], [(0, 0, 0, [])], [], []), ([(0, 3072), (0, 5), (2, 2)], [(0, false)], [], [], [(0, 0, (-2), [])], [], [])], [(24, true, 0), (26, true, 0)], 52987, 3, 110)
set_option maxRecDepth 1000000 in
theorem ck_85 : x_ok mLT [cx_78, cx_79, cx_84] mTS mTC mRU cx_85 [(2, [0]), (15, [1]), (152, [2]), (166, [2]), (180, [2])] [] [] (19, []) 52968 22 = true := by decide +kernel
theorem sn_85 {X : List Int32} : y_Snd mGa mLT (mJS X) X cx_85 := y_ok (fun _ _ _ => Iff.rfl) mTS_ok mTC_ok mRU_ok (List.forall_mem_cons.mpr ⟨sn_78, List.forall_mem_cons.mpr ⟨sn_79, List.forall_mem_cons.mpr ⟨sn_84, fun _ h => absurd h List.not_mem_nil⟩⟩⟩) ck_85
/-- HairRope.areTwo -/
def cx_86 : zCtx := (145, ([(0, 3072), ((-2147483648), 2147483647), ((-2147483648), 2147483647)], [(0, false)], [], [], [(2, 0, 0, []), (0, 0, 0, [(1, 1)]), (0, 0, 0, [(2, 1)])], [], []), [([(0, 3072), ((-2147483648), (-1)), ((-2147483648), 2147483647)], [(0, false)], [], [], [(0, 0, 0, [])], [], []), ([(0, 3072), (0, 2147483647), ((-2147483648), 2147483647)], [(0, false)], [], [], [(0, 0, 0, [])], [], []), ([(0, 3072), (0, 5), (0, 5)], [(0, false)], [], [], [(0, 0, 1, [])], [], [])], [], 28, 1, 21)
set_option maxRecDepth 1000000 in
theorem ck_86 : x_ok mLT [cx_78] mTS mTC mRU cx_86 [(2, [0]), (10, [0])] [] [] (14, []) 14 17 = true := by decide +kernel
theorem sn_86 {X : List Int32} : y_Snd mGa mLT (mJS X) X cx_86 := y_ok (fun _ _ _ => Iff.rfl) mTS_ok mTC_ok mRU_ok (List.forall_mem_cons.mpr ⟨sn_78, fun _ h => absurd h List.not_mem_nil⟩) ck_86
/-- Text.likeOf -/
def cx_87 : zCtx := (135, ([(0, 3072), ((-2147483648), 2147483647), ((-2147483648), 2147483647)], [(2, false)], [], [], [(2, 0, 0, []), (0, 0, 0, [(1, 1)]), (0, 0, 0, [(2, 1)])], [], []), [([(0, 3072), ((-2147483648), (-1)), ((-2147483648), 2147483647)], [(2, false)], [], [], [(0, 0, 5, [])], [], []), ([(0, 3072), (6, 2147483647), ((-2147483648), 2147483647)], [(2, false)], [], [], [(0, 0, 5, [])], [], []), ([(0, 3072), (0, 5), ((-2147483648), (-1))], [(2, false)], [], [], [(0, 0, 5, [])], [], []), ([(0, 3072), (0, 5), (6, 2147483647)], [(2, false)], [], [], [(0, 0, 5, [])], [], []), ([(0, 3072), (0, 5), (0, 5), ((-2147483648), 2147483647)], [(2, false)], [], [], [(0, 0, 0, [(3, 1)])], [], [])], [], 24, 1, 20)
set_option maxRecDepth 1000000 in
theorem ck_87 : x_ok mLT [cx_44] mTS mTC mRU cx_87 [(1, [0]), (8, [0])] [] [] (16, []) 8 19 = true := by decide +kernel
theorem sn_87 {X : List Int32} : y_Snd mGa mLT (mJS X) X cx_87 := y_ok (fun _ _ _ => Iff.rfl) mTS_ok mTC_ok mRU_ok (List.forall_mem_cons.mpr ⟨sn_44, fun _ h => absurd h List.not_mem_nil⟩) ck_87
/-- HairRope.likes -/
def cx_88 : zCtx := (144, ([(0, 3072), ((-2147483648), 2147483647), ((-2147483648), 2147483647)], [(0, false)], [], [], [(2, 0, 0, []), (0, 0, 0, [(1, 1)]), (0, 0, 0, [(2, 1)])], [], []), [([(0, 3072), (0, 5), (0, 5), ((-2147483648), 2147483647)], [(0, false)], [], [], [(0, 0, 0, [(3, 1)])], [], []), ([(0, 3072), (0, 2147483647), ((-2147483648), 2147483647)], [(0, false)], [], [], [(0, 0, (-1), [])], [], []), ([(0, 3072), ((-2147483648), (-1)), ((-2147483648), 2147483647)], [(0, false)], [], [], [(0, 0, (-1), [])], [], [])], [], 41, 2, 43)
set_option maxRecDepth 1000000 in
theorem ck_88 : x_ok mLT [cx_86, cx_87] mTS mTC mRU cx_88 [(3, [0]), (18, [1])] [] [] (13, []) 28 16 = true := by decide +kernel
theorem sn_88 {X : List Int32} : y_Snd mGa mLT (mJS X) X cx_88 := y_ok (fun _ _ _ => Iff.rfl) mTS_ok mTC_ok mRU_ok (List.forall_mem_cons.mpr ⟨sn_86, List.forall_mem_cons.mpr ⟨sn_87, fun _ h => absurd h List.not_mem_nil⟩⟩) ck_88
/-- Rules.joinOf -/
def cx_89 : zCtx := (90, ([(0, 3072), ((-2147483648), 2147483647), ((-2147483648), 2147483647), ((-2147483648), 2147483647)], [(5, false), (6, false)], [], [], [(2, 0, 0, []), (2, 1, 0, []), (0, 0, 0, [(1, 1)]), (0, 0, 0, [(2, 1)]), (0, 0, 0, [(3, 1)])], [], []), [([(0, 3072), ((-2147483648), 2147483647), ((-2147483648), 2147483647), ((-2147483648), 2147483647)], [(5, false), (6, false)], [], [], [(0, 0, 0, [])], [], []), ([(0, 3072), ((-2147483648), 2147483647), ((-2147483648), 2147483647), ((-2147483648), 2147483647), (0, 999)], [(5, false), (6, false)], [], [], [(0, 0, 0, [(4, 1)])], [], [])], [(24, true, 0), (26, true, 0)], 52984, 2, 87)
set_option maxRecDepth 1000000 in
theorem ck_89 : x_ok mLT [cx_79, cx_81, cx_80, cx_83] mTS mTC mRU cx_89 [(5, [0]), (8, [1]), (30, [0]), (33, [2]), (53, [3])] [] [] (35, []) 52949 38 = true := by decide +kernel
theorem sn_89 {X : List Int32} : y_Snd mGa mLT (mJS X) X cx_89 := y_ok (fun _ _ _ => Iff.rfl) mTS_ok mTC_ok mRU_ok (List.forall_mem_cons.mpr ⟨sn_79, List.forall_mem_cons.mpr ⟨sn_81, List.forall_mem_cons.mpr ⟨sn_80, List.forall_mem_cons.mpr ⟨sn_83, fun _ h => absurd h List.not_mem_nil⟩⟩⟩⟩) ck_89
/-- HairRope.joins -/
def cx_90 : zCtx := (146, ([(0, 3072), ((-2147483648), 2147483647), ((-2147483648), 2147483647)], [(0, false)], [], [], [(2, 0, 0, []), (0, 0, 0, [(1, 1)]), (0, 0, 0, [(2, 1)])], [], []), [([(0, 3072), (0, 5), (0, 5), (0, 999)], [(0, false)], [], [], [(0, 0, 0, [(3, 1)])], [], []), ([(0, 3072), (0, 2147483647), ((-2147483648), 2147483647)], [(0, false)], [], [], [(0, 0, (-1), [])], [], []), ([(0, 3072), ((-2147483648), (-1)), ((-2147483648), 2147483647)], [(0, false)], [], [], [(0, 0, (-1), [])], [], [])], [(24, true, 0), (26, true, 0)], 53004, 3, 111)
set_option maxRecDepth 1000000 in
theorem ck_90 : x_ok mLT [cx_86, cx_87, cx_89] mTS mTC mRU cx_90 [(3, [0]), (28, [1]), (31, [2])] [] [] (20, []) 52984 23 = true := by decide +kernel
theorem sn_90 {X : List Int32} : y_Snd mGa mLT (mJS X) X cx_90 := y_ok (fun _ _ _ => Iff.rfl) mTS_ok mTC_ok mRU_ok (List.forall_mem_cons.mpr ⟨sn_86, List.forall_mem_cons.mpr ⟨sn_87, List.forall_mem_cons.mpr ⟨sn_89, fun _ h => absurd h List.not_mem_nil⟩⟩⟩) ck_90
/-- HairRope.isPlace -/
def cx_91 : zCtx := (148, ([(0, 3072), ((-2147483648), 2147483647)], [(0, false)], [], [], [(2, 0, 0, []), (0, 0, 0, [(1, 1)])], [], []), [([(0, 3072), (0, 5)], [(0, false)], [], [], [(0, 0, 1, [])], [], []), ([(0, 3072), (0, 2147483647)], [(0, false)], [], [], [(0, 0, 0, [])], [], []), ([(0, 3072), ((-2147483648), (-1))], [(0, false)], [], [], [(0, 0, 0, [])], [], [])], [], 13, 0, 0)
set_option maxRecDepth 1000000 in
theorem ck_91 : x_ok mLT [] mTS mTC mRU cx_91 [] [] [] (13, []) 0 16 = true := by decide +kernel
theorem sn_91 {X : List Int32} : y_Snd mGa mLT (mJS X) X cx_91 := y_ok (fun _ _ _ => Iff.rfl) mTS_ok mTC_ok mRU_ok (fun _ h => absurd h List.not_mem_nil) ck_91
/-- HairRope.at -/
def cx_92 : zCtx := (147, ([(0, 3072), ((-2147483648), 2147483647)], [(0, false)], [], [], [(2, 0, 0, []), (0, 0, 0, [(1, 1)])], [], []), [([(0, 3072), ((-2147483648), (-1))], [(0, false)], [], [], [(0, 0, (-1), [])], [], []), ([(0, 3072), (0, 2147483647)], [(0, false)], [], [], [(0, 0, (-1), [])], [], []), ([(0, 3072), (0, 5), ((-2147483648), 2147483647)], [(0, false)], [], [], [(0, 0, 0, [(2, 1)])], [], [])], [], 24, 1, 21)
set_option maxRecDepth 1000000 in
theorem ck_92 : x_ok mLT [cx_91] mTS mTC mRU cx_92 [(2, [0])] [] [] (11, []) 13 14 = true := by decide +kernel
theorem sn_92 {X : List Int32} : y_Snd mGa mLT (mJS X) X cx_92 := y_ok (fun _ _ _ => Iff.rfl) mTS_ok mTC_ok mRU_ok (List.forall_mem_cons.mpr ⟨sn_91, fun _ h => absurd h List.not_mem_nil⟩) ck_92
/-- History.pastAt -/
def cx_93 : zCtx := (41, ([(0, 3072), (0, 39), (0, 39)], [(7, false)], [], [], [(2, 0, 0, []), (0, 0, 0, [(1, 1)])], [(0, (false, 2, 0, []), 0, 0, 0, [(2, 1)])], []), [([(0, 3072), (0, 39), (0, 39)], [(7, false), (6, false)], [], [], [(2, 1, 0, [])], [], [])], [], 18, 0, 0)
set_option maxRecDepth 1000000 in
theorem ck_93 : x_ok mLT [] mTS mTC mRU cx_93 [] [] [] (18, []) 0 21 = true := by decide +kernel
theorem sn_93 {X : List Int32} : y_Snd mGa mLT (mJS X) X cx_93 := y_ok (fun _ _ _ => Iff.rfl) mTS_ok mTC_ok mRU_ok (fun _ h => absurd h List.not_mem_nil) ck_93
/-- State.copyFrom -/
def cx_94 : zCtx := (102, ([(0, 3072), (0, 6), (0, 6)], [(6, false), (6, false)], [], [], [(2, 0, 0, []), (2, 1, 0, [])], [(0, (false, 5, 0, []), 0, 0, 0, [(1, 1)]), (0, (false, 6, 0, []), 0, 0, 0, [(2, 1)])], []), [([(0, 3072), (0, 6), (0, 6), (0, 6), (0, 6)], [(6, false), (6, false)], [], [], [], [(0, (false, 6, 0, []), 0, 0, 0, [(3, 1)]), (0, (false, 5, 0, []), 0, 0, 0, [(4, 1)])], [])], [(6, false, 5), (6, false, 6), (6, false, 7), (6, false, 8), (27, true, 0), (28, true, 0), (29, true, 0), (30, true, 0), (31, true, 0)], 57, 1, 64)
set_option maxRecDepth 1000000 in
theorem ck_94 : x_ok mLT [] mTS mTC mRU cx_94 [] [] [] (57, []) 0 60 = true := by decide +kernel
theorem sn_94 {X : List Int32} : y_Snd mGa mLT (mJS X) X cx_94 := y_ok (fun _ _ _ => Iff.rfl) mTS_ok mTC_ok mRU_ok (fun _ h => absurd h List.not_mem_nil) ck_94
/-- History.keep -/
def cx_95 : zCtx := (40, ([(0, 3072), (0, 39), (0, 40)], [(7, false), (6, false)], [], [], [(2, 0, 0, []), (2, 1, 0, [])], [(0, (false, 2, 0, []), 0, 0, 0, [(1, 1)]), (0, (false, 3, 0, []), 0, 0, 0, [(2, 1)])], []), [([(0, 3072), (0, 39), (40, 40), (0, 39)], [(7, false), (6, false)], [], [], [], [(0, (false, 3, 0, []), 0, 0, 0, [(2, 1)]), (0, (false, 2, 0, []), 0, 0, 0, [(3, 1)])], []), ([(0, 3072), (0, 39), (0, 39)], [(7, false), (6, false)], [], [], [], [(0, (false, 3, 0, []), 0, 0, 1, [(2, 1)]), (0, (false, 2, 0, []), 0, 0, 0, [(1, 1)])], [])], [(6, false, 5), (6, false, 6), (6, false, 7), (6, false, 8), (7, false, 2), (7, false, 3), (27, true, 0), (28, true, 0), (29, true, 0), (30, true, 0), (31, true, 0)], 92, 2, 85)
set_option maxRecDepth 1000000 in
theorem ck_95 : x_ok mLT [cx_93, cx_94] mTS mTC mRU cx_95 [(37, [0]), (47, [1])] [] [] (35, []) 57 38 = true := by decide +kernel
theorem sn_95 {X : List Int32} : y_Snd mGa mLT (mJS X) X cx_95 := y_ok (fun _ _ _ => Iff.rfl) mTS_ok mTC_ok mRU_ok (List.forall_mem_cons.mpr ⟨sn_93, List.forall_mem_cons.mpr ⟨sn_94, fun _ h => absurd h List.not_mem_nil⟩⟩) ck_95
/-- State.addPlait -/
def cx_96 : zCtx := (103, ([(0, 3072), (0, 5), ((-2147483648), 2147483647), (0, 6)], [(6, false)], [], [], [(2, 0, 0, []), (0, 0, 0, [(1, 1)]), (0, 0, 0, [(2, 1)])], [(0, (false, 6, 0, []), 0, 0, 0, [(3, 1)])], []), [([(0, 3072), (0, 5), ((-2147483648), 2147483647), (0, 5)], [(6, false)], [], [], [], [(0, (false, 6, 0, []), 0, 0, 1, [(3, 1)])], []), ([(0, 3072), (0, 5), ((-2147483648), 2147483647), (6, 6)], [(6, false)], [], [], [], [(0, (false, 6, 0, []), 0, 0, 0, [(3, 1)])], [])], [(6, false, 6), (27, true, 0), (28, true, 0), (29, true, 0), (30, true, 0), (31, true, 0)], 53, 0, 0)
set_option maxRecDepth 1000000 in
theorem ck_96 : x_ok mLT [] mTS mTC mRU cx_96 [] [] [] (53, []) 0 56 = true := by decide +kernel
theorem sn_96 {X : List Int32} : y_Snd mGa mLT (mJS X) X cx_96 := y_ok (fun _ _ _ => Iff.rfl) mTS_ok mTC_ok mRU_ok (fun _ h => absurd h List.not_mem_nil) ck_96
/-- State.lengthBelow -/
def cx_97 : zCtx := (105, ([(0, 3072), ((-1), 5), (0, 6)], [(6, false)], [], [], [(2, 0, 0, []), (0, 0, 0, [(1, 1)])], [(0, (false, 6, 0, []), 0, 0, 0, [(2, 1)])], []), [([(0, 3072), ((-1), 5), (0, 6), ((-2147483648), 2147483647)], [(6, false)], [], [], [(0, 0, 0, [(3, 1)])], [], [])], [], 117, 1, 64)
set_option maxRecDepth 1000000 in
theorem ck_97 : x_ok mLT [] mTS mTC mRU cx_97 [] [] [(10, ([(0, 3072), ((-1), 5), (0, 6), ((-2147483648), 2147483647), (0, 6)], [(6, false)], [], [(2, 0, 0, []), (0, 0, 0, [(1, 1)]), (0, 0, 0, [(3, 1)]), (0, 0, 0, [(4, 1)])], [], [(0, (false, 6, 0, []), 0, 0, 0, [(2, 1)])], []), (108, [(4, (-17))]))] (117, []) 0 19 = true := by decide +kernel
theorem sn_97 {X : List Int32} : y_Snd mGa mLT (mJS X) X cx_97 := y_ok (fun _ _ _ => Iff.rfl) mTS_ok mTC_ok mRU_ok (fun _ h => absurd h List.not_mem_nil) ck_97
/-- State.ropeLength -/
def cx_98 : zCtx := (104, ([(0, 3072), (0, 6)], [(6, false)], [], [], [(2, 0, 0, [])], [(0, (false, 6, 0, []), 0, 0, 0, [(1, 1)])], []), [([(0, 3072), (0, 6), ((-2147483648), 2147483647)], [(6, false)], [], [], [(0, 0, 0, [(2, 1)])], [], [])], [], 121, 2, 87)
set_option maxRecDepth 1000000 in
theorem ck_98 : x_ok mLT [cx_97] mTS mTC mRU cx_98 [(2, [0])] [] [] (4, []) 117 7 = true := by decide +kernel
theorem sn_98 {X : List Int32} : y_Snd mGa mLT (mJS X) X cx_98 := y_ok (fun _ _ _ => Iff.rfl) mTS_ok mTC_ok mRU_ok (List.forall_mem_cons.mpr ⟨sn_97, fun _ h => absurd h List.not_mem_nil⟩) ck_98
/-- HairRope.splice -/
def cx_99 : zCtx := (149, ([(0, 3072), ((-2147483648), 2147483647)], [(0, false)], [], [], [(2, 0, 0, []), (0, 0, 0, [(1, 1)])], [], []), [([(0, 3072), ((-2147483648), (-1))], [(0, false)], [], [], [(0, 0, (-1), [])], [], []), ([(0, 3072), (0, 2147483647)], [(0, false)], [], [], [(0, 0, (-1), [])], [], []), ([(0, 3072), (0, 5), ((-2147483648), 2147483647)], [(0, false)], [], [], [(0, 0, 0, [(2, 1)])], [], [])], [(6, false, 5), (6, false, 6), (6, false, 7), (6, false, 8), (7, false, 2), (7, false, 3), (27, true, 0), (28, true, 0), (29, true, 0), (30, true, 0), (31, true, 0)], 156, 3, 107)
set_option maxRecDepth 1000000 in
theorem ck_99 : x_ok mLT [cx_78, cx_79, cx_95, cx_96, cx_98] mTS mTC mRU cx_99 [(2, [0]), (13, [1]), (42, [2]), (62, [3]), (69, [4])] [] [] (35, []) 121 38 = true := by decide +kernel
theorem sn_99 {X : List Int32} : y_Snd mGa mLT (mJS X) X cx_99 := y_ok (fun _ _ _ => Iff.rfl) mTS_ok mTC_ok mRU_ok (List.forall_mem_cons.mpr ⟨sn_78, List.forall_mem_cons.mpr ⟨sn_79, List.forall_mem_cons.mpr ⟨sn_95, List.forall_mem_cons.mpr ⟨sn_96, List.forall_mem_cons.mpr ⟨sn_98, fun _ h => absurd h List.not_mem_nil⟩⟩⟩⟩⟩) ck_99
/-- HairRope.unsplice -/
def cx_100 : zCtx := (150, ([(0, 3072)], [(0, false)], [], [], [(2, 0, 0, [])], [], []), [([(0, 3072)], [(0, false)], [], [], [(0, 0, (-1), [])], [], []), ([(0, 3072), ((-2147483648), 2147483647)], [(0, false)], [], [], [(0, 0, 0, [(1, 1)])], [], [])], [(6, false, 5), (6, false, 6), (6, false, 7), (6, false, 8), (7, false, 2), (7, false, 3), (27, true, 0), (28, true, 0), (29, true, 0), (30, true, 0), (31, true, 0)], 117, 3, 107)
set_option maxRecDepth 1000000 in
theorem ck_100 : x_ok mLT [cx_91, cx_95] mTS mTC mRU cx_100 [(12, [0]), (28, [1])] [] [] (25, []) 92 28 = true := by decide +kernel
theorem sn_100 {X : List Int32} : y_Snd mGa mLT (mJS X) X cx_100 := y_ok (fun _ _ _ => Iff.rfl) mTS_ok mTC_ok mRU_ok (List.forall_mem_cons.mpr ⟨sn_91, List.forall_mem_cons.mpr ⟨sn_95, fun _ h => absurd h List.not_mem_nil⟩⟩) ck_100
/-- HairRope.isHaul -/
def cx_101 : zCtx := (152, ([(0, 3072), ((-2147483648), 2147483647)], [], [], [], [(0, 0, 0, [(1, 1)])], [], []), [([(0, 3072), (0, 999)], [], [], [], [(0, 0, 1, [])], [], []), ([(0, 3072), (1000, 2147483647)], [], [], [], [(0, 0, 0, [])], [], []), ([(0, 3072), ((-2147483648), (-1))], [], [], [], [(0, 0, 0, [])], [], [])], [], 8, 0, 0)
set_option maxRecDepth 1000000 in
theorem ck_101 : x_ok mLT [] mTS mTC mRU cx_101 [] [] [] (8, []) 0 11 = true := by decide +kernel
theorem sn_101 {X : List Int32} : y_Snd mGa mLT (mJS X) X cx_101 := y_ok (fun _ _ _ => Iff.rfl) mTS_ok mTC_ok mRU_ok (fun _ h => absurd h List.not_mem_nil) ck_101
/-- Rules.joinAbove -/
def cx_102 : zCtx := (92, ([(0, 3072), (1, 5)], [(5, false), (6, false)], [], [], [(2, 0, 0, []), (2, 1, 0, []), (0, 0, 0, [(1, 1)])], [], []), [([(0, 3072), (1, 5), (0, 999)], [(5, false), (6, false)], [], [], [(0, 0, 0, [(2, 1)])], [], [])], [(24, true, 0), (26, true, 0)], 53013, 3, 111)
set_option maxRecDepth 1000000 in
theorem ck_102 : x_ok mLT [cx_87, cx_89] mTS mTC mRU cx_102 [(42, [0]), (45, [1])] [] [] (29, []) 52984 32 = true := by decide +kernel
theorem sn_102 {X : List Int32} : y_Snd mGa mLT (mJS X) X cx_102 := y_ok (fun _ _ _ => Iff.rfl) mTS_ok mTC_ok mRU_ok (List.forall_mem_cons.mpr ⟨sn_87, List.forall_mem_cons.mpr ⟨sn_89, fun _ h => absurd h List.not_mem_nil⟩⟩) ck_102
/-- Rules.weigh -/
def cx_103 : zCtx := (91, ([(0, 3072)], [(5, false), (6, false)], [], [], [(2, 0, 0, []), (2, 1, 0, [])], [], []), [([(0, 3072)], [(5, false), (6, false)], [], [], [], [], [])], [(5, false, 2), (24, true, 0), (25, true, 0), (26, true, 0)], 53276, 4, 135)
set_option maxRecDepth 1000000 in
theorem ck_103 : x_ok mLT [cx_102] mTS mTC mRU cx_103 [(75, [0])] [] [(30, ([(0, 3072), ((-2147483648), 2147483647), ((-1), 5), (0, 6)], [(5, false), (6, false)], [], [(2, 0, 0, []), (2, 1, 0, []), (0, 0, 0, [(1, 1)]), (0, 0, 0, [(2, 1)])], [], [(1, (false, 6, 0, []), 0, 0, 0, [(3, 1)])], []), (43, [(2, 40)]))] (263, []) 53013 42 = true := by decide +kernel
theorem sn_103 {X : List Int32} : y_Snd mGa mLT (mJS X) X cx_103 := y_ok (fun _ _ _ => Iff.rfl) mTS_ok mTC_ok mRU_ok (List.forall_mem_cons.mpr ⟨sn_102, fun _ h => absurd h List.not_mem_nil⟩) ck_103
/-- Rules.highestBreak -/
def cx_104 : zCtx := (93, ([(0, 3072), (0, 1000)], [(5, false)], [], [], [(2, 0, 0, []), (0, 0, 0, [(1, 1)])], [], []), [([(0, 3072), (0, 1000), (0, 10)], [(5, false)], [], [], [(0, 0, 0, [(2, 1)])], [], []), ([(0, 3072), (0, 1000)], [(5, false)], [], [], [(0, 0, (-1), [])], [], [])], [], 364, 0, 0)
set_option maxRecDepth 1000000 in
theorem ck_104 : x_ok mLT [] mTS mTC mRU cx_104 [] [] [(2, ([(0, 3072), (0, 1000), (0, 22)], [(5, false)], [], [(2, 0, 0, []), (0, 0, 0, [(1, 1)]), (0, 0, 0, [(2, 1)])], [], [], []), (361, [(2, (-16))]))] (364, []) 0 18 = true := by decide +kernel
theorem sn_104 {X : List Int32} : y_Snd mGa mLT (mJS X) X cx_104 := y_ok (fun _ _ _ => Iff.rfl) mTS_ok mTC_ok mRU_ok (fun _ h => absurd h List.not_mem_nil) ck_104
/-- HairRope.lowerPlaceOf -/
def cx_105 : zCtx := (153, ([(0, 3072), (0, 10)], [], [], [], [(0, 0, 0, [(1, 1)])], [], []), [([(0, 3072), (0, 10), (0, 5)], [], [], [], [(0, 0, 0, [(2, 1)])], [], [])], [], 6, 0, 0)
set_option maxRecDepth 1000000 in
theorem ck_105 : x_ok mLT [] mTS mTC mRU cx_105 [] [] [] (6, []) 0 9 = true := by decide +kernel
theorem sn_105 {X : List Int32} : y_Snd mGa mLT (mJS X) X cx_105 := y_ok (fun _ _ _ => Iff.rfl) mTS_ok mTC_ok mRU_ok (fun _ h => absurd h List.not_mem_nil) ck_105
/-- HairRope.haul -/
def cx_106 : zCtx := (151, ([(0, 3072), ((-2147483648), 2147483647)], [(0, false)], [], [], [(2, 0, 0, []), (0, 0, 0, [(1, 1)])], [], []), [([(0, 3072), ((-2147483648), (-1))], [(0, false)], [], [], [(0, 0, (-1), [])], [], []), ([(0, 3072), (1000, 2147483647)], [(0, false)], [], [], [(0, 0, (-1), [])], [], []), ([(0, 3072), (0, 999)], [(0, false)], [], [], [(0, 0, (-1), [])], [], []), ([(0, 3072), (0, 999), (0, 6)], [(0, false)], [], [], [(0, 0, 0, [(2, 1)])], [], [])], [(5, false, 2), (6, false, 5), (6, false, 6), (6, false, 7), (6, false, 8), (7, false, 2), (7, false, 3), (24, true, 0), (25, true, 0), (26, true, 0), (27, true, 0), (28, true, 0), (29, true, 0), (30, true, 0), (31, true, 0)], 53316, 5, 158)
set_option maxRecDepth 1000000 in
theorem ck_106 : x_ok mLT [cx_101, cx_98, cx_95, cx_103, cx_104, cx_105] mTS mTC mRU cx_106 [(1, [0]), (11, [1]), (37, [2]), (48, [3]), (56, [4]), (85, [5])] [] [] (40, []) 53276 43 = true := by decide +kernel
theorem sn_106 {X : List Int32} : y_Snd mGa mLT (mJS X) X cx_106 := y_ok (fun _ _ _ => Iff.rfl) mTS_ok mTC_ok mRU_ok (List.forall_mem_cons.mpr ⟨sn_101, List.forall_mem_cons.mpr ⟨sn_98, List.forall_mem_cons.mpr ⟨sn_95, List.forall_mem_cons.mpr ⟨sn_103, List.forall_mem_cons.mpr ⟨sn_104, List.forall_mem_cons.mpr ⟨sn_105, fun _ h => absurd h List.not_mem_nil⟩⟩⟩⟩⟩⟩) ck_106
/-- Rules.mix -/
def cx_107 : zCtx := (97, ([(0, 3072), ((-2147483648), 2147483647), ((-2147483648), 2147483647)], [], [], [], [(0, 0, 0, [(1, 1)]), (0, 0, 0, [(2, 1)])], [], []), [([(0, 3072), ((-2147483648), 2147483647), ((-2147483648), 2147483647), ((-2147483648), 2147483647)], [], [], [], [(0, 0, 0, [(3, 1)])], [], [])], [], 14, 0, 0)
set_option maxRecDepth 1000000 in
theorem ck_107 : x_ok mLT [] mTS mTC mRU cx_107 [] [] [] (14, []) 0 17 = true := by decide +kernel
theorem sn_107 {X : List Int32} : y_Snd mGa mLT (mJS X) X cx_107 := y_ok (fun _ _ _ => Iff.rfl) mTS_ok mTC_ok mRU_ok (fun _ h => absurd h List.not_mem_nil) ck_107
/-- Rules.lot -/
def cx_108 : zCtx := (96, ([(0, 3072), ((-2147483648), 2147483647), ((-2147483648), 2147483647)], [], [], [], [(0, 0, 0, [(1, 1)]), (0, 0, 0, [(2, 1)])], [], []), [([(0, 3072), ((-2147483648), 2147483647), ((-2147483648), 2147483647), ((-99), 99)], [], [], [], [(0, 0, 0, [(3, 1)])], [], [])], [], 26, 1, 22)
set_option maxRecDepth 1000000 in
theorem ck_108 : x_ok mLT [cx_107] mTS mTC mRU cx_108 [(4, [0]), (8, [0])] [] [] (12, []) 14 15 = true := by decide +kernel
theorem sn_108 {X : List Int32} : y_Snd mGa mLT (mJS X) X cx_108 := y_ok (fun _ _ _ => Iff.rfl) mTS_ok mTC_ok mRU_ok (List.forall_mem_cons.mpr ⟨sn_107, fun _ h => absurd h List.not_mem_nil⟩) ck_108
/-- Rules.ageHouse -/
def cx_109 : zCtx := (95, ([(0, 3072), (0, 5), ((-2147483648), 2147483647), ((-2147483648), 2147483647)], [(5, false), (6, false)], [], [], [(2, 0, 0, []), (2, 1, 0, []), (0, 0, 0, [(1, 1)]), (0, 0, 0, [(2, 1)]), (0, 0, 0, [(3, 1)])], [], []), [([(0, 3072), (0, 5), ((-98), 2147483647), ((-2147483648), 2147483647)], [(5, false), (6, false)], [], [], [], [], []), ([(0, 3072), (0, 5), ((-2147483648), 99), ((-2147483648), 2147483647)], [(5, false), (6, false)], [], [], [], [], [])], [(24, true, 0), (26, true, 0), (27, true, 0), (31, true, 0)], 53026, 3, 110)
set_option maxRecDepth 1000000 in
theorem ck_109 : x_ok mLT [cx_79, cx_84, cx_108] mTS mTC mRU cx_109 [(13, [0]), (22, [1]), (36, [1]), (73, [2])] [] [] (58, []) 52968 61 = true := by decide +kernel
theorem sn_109 {X : List Int32} : y_Snd mGa mLT (mJS X) X cx_109 := y_ok (fun _ _ _ => Iff.rfl) mTS_ok mTC_ok mRU_ok (List.forall_mem_cons.mpr ⟨sn_79, List.forall_mem_cons.mpr ⟨sn_84, List.forall_mem_cons.mpr ⟨sn_108, fun _ h => absurd h List.not_mem_nil⟩⟩⟩) ck_109
/-- Rules.ageAll -/
def cx_110 : zCtx := (94, ([(0, 3072), ((-2147483648), 2147483647), ((-2147483648), 2147483647)], [(5, false), (6, false)], [], [], [(2, 0, 0, []), (2, 1, 0, []), (0, 0, 0, [(1, 1)]), (0, 0, 0, [(2, 1)])], [], []), [([(0, 3072), ((-2147483648), 2147483647), ((-2147483648), 2147483647)], [(5, false), (6, false)], [], [], [], [], [])], [(6, false, 7), (24, true, 0), (26, true, 0), (27, true, 0), (31, true, 0)], 53125, 4, 137)
set_option maxRecDepth 1000000 in
theorem ck_110 : x_ok mLT [cx_109] mTS mTC mRU cx_110 [(21, [0])] [] [(3, ([(0, 3072), ((-2147483648), 2147483647), ((-2147483648), 2147483647), (0, 6)], [(5, false), (6, false)], [], [(2, 0, 0, []), (2, 1, 0, []), (0, 0, 0, [(1, 1)]), (0, 0, 0, [(2, 1)]), (0, 0, 0, [(3, 1)])], [], [], []), (96, [(3, (-14))]))] (99, []) 53026 16 = true := by decide +kernel
theorem sn_110 {X : List Int32} : y_Snd mGa mLT (mJS X) X cx_110 := y_ok (fun _ _ _ => Iff.rfl) mTS_ok mTC_ok mRU_ok (List.forall_mem_cons.mpr ⟨sn_109, fun _ h => absurd h List.not_mem_nil⟩) ck_110
/-- HairRope.years -/
def cx_111 : zCtx := (154, ([(0, 3072), ((-2147483648), 2147483647)], [(0, false)], [], [], [(2, 0, 0, []), (0, 0, 0, [(1, 1)])], [], []), [([(0, 3072), (61, 2147483647)], [(0, false)], [], [], [(0, 0, (-1), [])], [], []), ([(0, 3072), ((-2147483648), (-1))], [(0, false)], [], [], [(0, 0, (-1), [])], [], []), ([(0, 3072), (0, 60), ((-2147483648), 2147483647)], [(0, false)], [], [], [(0, 0, 0, [(2, 1)])], [], [])], [(6, false, 5), (6, false, 6), (6, false, 7), (6, false, 8), (7, false, 2), (7, false, 3), (24, true, 0), (26, true, 0), (27, true, 0), (28, true, 0), (29, true, 0), (30, true, 0), (31, true, 0)], 54344, 5, 161)
set_option maxRecDepth 1000000 in
theorem ck_111 : x_ok mLT [cx_95, cx_110] mTS mTC mRU cx_111 [(24, [0]), (62, [1])] [] [(29, ([(0, 3072), (0, 60), (0, 63)], [(0, false)], [], [(2, 0, 0, []), (0, 0, 0, [(1, 1)]), (0, 0, 0, [(2, 1)])], [], [], []), (1204, [(2, (-19))]))] (1219, []) 53125 21 = true := by decide +kernel
theorem sn_111 {X : List Int32} : y_Snd mGa mLT (mJS X) X cx_111 := y_ok (fun _ _ _ => Iff.rfl) mTS_ok mTC_ok mRU_ok (List.forall_mem_cons.mpr ⟨sn_95, List.forall_mem_cons.mpr ⟨sn_110, fun _ h => absurd h List.not_mem_nil⟩⟩) ck_111
/-- History.takeBack -/
def cx_112 : zCtx := (42, ([(0, 3072), (0, 39), (0, 40)], [(7, false), (6, false)], [], [], [(2, 0, 0, []), (2, 1, 0, [])], [(0, (false, 2, 0, []), 0, 0, 0, [(1, 1)]), (0, (false, 3, 0, []), 0, 0, 0, [(2, 1)])], []), [([(0, 3072), (0, 39), (1, 40)], [(7, false), (6, false)], [], [], [(0, 0, 1, [])], [(0, (false, 3, 0, []), 0, 0, (-1), [(2, 1)])], []), ([(0, 3072), (0, 39), (0, 0)], [(7, false), (6, false)], [], [], [(0, 0, 0, [])], [(0, (false, 3, 0, []), 0, 0, 0, [(2, 1)])], [])], [(6, false, 5), (6, false, 6), (6, false, 7), (6, false, 8), (7, false, 3), (27, true, 0), (28, true, 0), (29, true, 0), (30, true, 0), (31, true, 0)], 81, 2, 85)
set_option maxRecDepth 1000000 in
theorem ck_112 : x_ok mLT [cx_93, cx_94] mTS mTC mRU cx_112 [(14, [0]), (30, [1])] [] [] (24, []) 57 27 = true := by decide +kernel
theorem sn_112 {X : List Int32} : y_Snd mGa mLT (mJS X) X cx_112 := y_ok (fun _ _ _ => Iff.rfl) mTS_ok mTC_ok mRU_ok (List.forall_mem_cons.mpr ⟨sn_93, List.forall_mem_cons.mpr ⟨sn_94, fun _ h => absurd h List.not_mem_nil⟩⟩) ck_112
/-- HairRope.undo -/
def cx_113 : zCtx := (155, ([(0, 3072)], [(0, false)], [], [], [(2, 0, 0, [])], [], []), [([(0, 3072)], [(0, false)], [], [], [(0, 0, 0, [])], [], []), ([(0, 3072)], [(0, false)], [], [], [(0, 0, 1, [])], [], [])], [(6, false, 5), (6, false, 6), (6, false, 7), (6, false, 8), (7, false, 3), (27, true, 0), (28, true, 0), (29, true, 0), (30, true, 0), (31, true, 0)], 87, 3, 107)
set_option maxRecDepth 1000000 in
theorem ck_113 : x_ok mLT [cx_112] mTS mTC mRU cx_113 [(8, [0])] [] [] (6, []) 81 9 = true := by decide +kernel
theorem sn_113 {X : List Int32} : y_Snd mGa mLT (mJS X) X cx_113 := y_ok (fun _ _ _ => Iff.rfl) mTS_ok mTC_ok mRU_ok (List.forall_mem_cons.mpr ⟨sn_112, fun _ h => absurd h List.not_mem_nil⟩) ck_113
/-- Rules.greatestHaul -/
def cx_114 : zCtx := (98, ([(0, 3072)], [(5, false)], [], [], [(2, 0, 0, [])], [], []), [([(0, 3072)], [(5, false)], [], [], [(0, 0, (-2), [])], [], []), ([(0, 3072), (0, 999)], [(5, false)], [], [], [(0, 0, 0, [(1, 1)])], [], [])], [], 391, 1, 64)
set_option maxRecDepth 1000000 in
theorem ck_114 : x_ok mLT [] mTS mTC mRU cx_114 [] [] [(6, ([(0, 3072), ((-2147483648), 999), (0, 22)], [(5, false)], [], [(2, 0, 0, []), (0, 0, 0, [(1, 1)]), (0, 0, 0, [(2, 1)])], [], [], []), (386, [(2, (-17))]))] (391, []) 0 19 = true := by decide +kernel
theorem sn_114 {X : List Int32} : y_Snd mGa mLT (mJS X) X cx_114 := y_ok (fun _ _ _ => Iff.rfl) mTS_ok mTC_ok mRU_ok (fun _ h => absurd h List.not_mem_nil) ck_114
/-- HairRope.most -/
def cx_115 : zCtx := (156, ([(0, 3072)], [(0, false)], [], [], [(2, 0, 0, [])], [], []), [([(0, 3072), (0, 999)], [(0, false)], [], [], [(0, 0, 0, [(1, 1)])], [], []), ([(0, 3072)], [(0, false)], [], [], [(0, 0, (-2), [])], [], [])], [(5, false, 2), (24, true, 0), (25, true, 0), (26, true, 0)], 53285, 5, 158)
set_option maxRecDepth 1000000 in
theorem ck_115 : x_ok mLT [cx_103, cx_114] mTS mTC mRU cx_115 [(8, [0]), (15, [1])] [] [] (9, []) 53276 12 = true := by decide +kernel
theorem sn_115 {X : List Int32} : y_Snd mGa mLT (mJS X) X cx_115 := y_ok (fun _ _ _ => Iff.rfl) mTS_ok mTC_ok mRU_ok (List.forall_mem_cons.mpr ⟨sn_103, List.forall_mem_cons.mpr ⟨sn_114, fun _ h => absurd h List.not_mem_nil⟩⟩) ck_115
/-- HairRope.weakest -/
def cx_116 : zCtx := (157, ([(0, 3072), ((-2147483648), 2147483647)], [(0, false)], [], [], [(2, 0, 0, []), (0, 0, 0, [(1, 1)])], [], []), [([(0, 3072), (2, 2147483647)], [(0, false)], [], [], [(0, 0, (-1), [])], [], []), ([(0, 3072), (0, 1)], [(0, false)], [], [], [(0, 0, (-2), [])], [], []), ([(0, 3072), (0, 0), (0, 5)], [(0, false)], [], [], [(0, 0, 0, [(2, 1)])], [], []), ([(0, 3072), (1, 1), (0, 1)], [(0, false)], [], [], [(0, 0, 0, [(2, 1)])], [], []), ([(0, 3072), ((-2147483648), (-1))], [(0, false)], [], [], [(0, 0, (-1), [])], [], [])], [(5, false, 2), (24, true, 0), (25, true, 0), (26, true, 0)], 53307, 5, 158)
set_option maxRecDepth 1000000 in
theorem ck_116 : x_ok mLT [cx_103, cx_114, cx_104, cx_105] mTS mTC mRU cx_116 [(19, [0]), (26, [1]), (45, [2]), (61, [3])] [] [] (31, []) 53276 34 = true := by decide +kernel
theorem sn_116 {X : List Int32} : y_Snd mGa mLT (mJS X) X cx_116 := y_ok (fun _ _ _ => Iff.rfl) mTS_ok mTC_ok mRU_ok (List.forall_mem_cons.mpr ⟨sn_103, List.forall_mem_cons.mpr ⟨sn_114, List.forall_mem_cons.mpr ⟨sn_104, List.forall_mem_cons.mpr ⟨sn_105, fun _ h => absurd h List.not_mem_nil⟩⟩⟩⟩) ck_116
/-- HairRope.below -/
def cx_117 : zCtx := (158, ([(0, 3072), ((-2147483648), 2147483647)], [(0, false)], [], [], [(2, 0, 0, []), (0, 0, 0, [(1, 1)])], [], []), [([(0, 3072), ((-2147483648), (-1))], [(0, false)], [], [], [(0, 0, (-1), [])], [], []), ([(0, 3072), (0, 2147483647)], [(0, false)], [], [], [(0, 0, (-1), [])], [], []), ([(0, 3072), (0, 5), ((-2147483648), 2147483647)], [(0, false)], [], [], [(0, 0, 0, [(2, 1)])], [], [])], [], 127, 2, 87)
set_option maxRecDepth 1000000 in
theorem ck_117 : x_ok mLT [cx_91, cx_97] mTS mTC mRU cx_117 [(2, [0]), (13, [1])] [] [] (10, []) 117 13 = true := by decide +kernel
theorem sn_117 {X : List Int32} : y_Snd mGa mLT (mJS X) X cx_117 := y_ok (fun _ _ _ => Iff.rfl) mTS_ok mTC_ok mRU_ok (List.forall_mem_cons.mpr ⟨sn_91, List.forall_mem_cons.mpr ⟨sn_97, fun _ h => absurd h List.not_mem_nil⟩⟩) ck_117
/-- Planner.addToSums -/
def cx_118 : zCtx := (69, ([(0, 3072), (1, 32), ((-2147483648), 2147483647)], [(9, false)], [], [], [(2, 0, 0, []), (0, 0, 0, [(1, 1)]), (0, 0, 0, [(2, 1)])], [], []), [([(0, 3072), (1, 32), ((-2147483648), 2147483647)], [(9, false)], [], [], [], [], [])], [(40, true, 0)], 766, 0, 0)
set_option maxRecDepth 1000000 in
theorem ck_118 : x_ok mLT [] mTS mTC mRU cx_118 [] [] [(2, ([(0, 3072), (1, 32), ((-2147483648), 2147483647), (0, 33)], [(9, false)], [], [(2, 0, 0, []), (0, 0, 0, [(1, 1)]), (0, 0, 0, [(2, 1)]), (0, 0, 0, [(3, 1)])], [], [], []), (763, [(3, (-23))]))] (766, []) 0 25 = true := by decide +kernel
theorem sn_118 {X : List Int32} : y_Snd mGa mLT (mJS X) X cx_118 := y_ok (fun _ _ _ => Iff.rfl) mTS_ok mTC_ok mRU_ok (fun _ h => absurd h List.not_mem_nil) ck_118
/-- Planner.lookAtHouses -/
def cx_119 : zCtx := (68, ([(0, 3072), (0, 63)], [(9, false), (6, false)], [], [], [(2, 0, 0, []), (2, 1, 0, [])], [(0, (false, 10, 0, []), 0, 0, 0, [(1, 1)])], []), [([(0, 3072), (0, 63), (0, 63)], [(9, false), (6, false)], [], [], [], [(0, (false, 10, 0, []), 0, 0, 0, [(2, 1)])], [])], [(9, false, 10), (34, true, 0), (40, true, 0)], 1085, 1, 23)
set_option maxRecDepth 1000000 in
theorem ck_119 : x_ok mLT [cx_79, cx_80, cx_118] mTS mTC mRU cx_119 [(29, [0]), (66, [1]), (97, [2])] [] [(7, ([(0, 3072), (0, 63), (0, 6), (0, 63)], [(9, false), (6, false)], [], [(2, 0, 0, []), (2, 1, 0, []), (0, 0, 0, [(2, 1)]), (5, 0, 0, []), (5, 0, 0, [])], [], [(0, (false, 10, 0, []), 0, 0, 0, [(3, 1)])], []), (313, [(2, (-51))]))] (319, []) 766 53 = true := by decide +kernel
theorem sn_119 {X : List Int32} : y_Snd mGa mLT (mJS X) X cx_119 := y_ok (fun _ _ _ => Iff.rfl) mTS_ok mTC_ok mRU_ok (List.forall_mem_cons.mpr ⟨sn_79, List.forall_mem_cons.mpr ⟨sn_80, List.forall_mem_cons.mpr ⟨sn_118, fun _ h => absurd h List.not_mem_nil⟩⟩⟩) ck_119
/-- Planner.isAble -/
def cx_120 : zCtx := (71, ([(0, 3072), (0, 5), (0, 63)], [(9, false)], [], [], [(2, 0, 0, []), (0, 0, 0, [(1, 1)])], [(0, (false, 10, 0, []), 0, 0, 0, [(2, 1)])], []), [([(0, 3072), (0, 5), (0, 63)], [(9, false)], [], [], [(0, 0, 1, [])], [], []), ([(0, 3072), (0, 5), (0, 63)], [(9, false)], [], [], [(0, 0, 0, [])], [], [])], [], 10, 0, 0)
set_option maxRecDepth 1000000 in
theorem ck_120 : x_ok mLT [] mTS mTC mRU cx_120 [] [] [] (10, []) 0 13 = true := by decide +kernel
theorem sn_120 {X : List Int32} : y_Snd mGa mLT (mJS X) X cx_120 := y_ok (fun _ _ _ => Iff.rfl) mTS_ok mTC_ok mRU_ok (fun _ h => absurd h List.not_mem_nil) ck_120
/-- Planner.findJoins -/
def cx_121 : zCtx := (70, ([(0, 3072), (0, 0), (0, 63)], [(9, false), (6, false), (35, false)], [], [], [(2, 0, 0, []), (2, 1, 0, []), (2, 2, 0, []), (0, 0, 0, [(1, 1)])], [(0, (false, 10, 0, []), 0, 0, 0, [(2, 1)])], []), [([(0, 3072), (0, 0), (0, 63)], [(9, false), (6, false), (35, false)], [], [], [], [], [])], [(24, true, 0), (26, true, 0), (35, true, 0)], 54866, 3, 111)
set_option maxRecDepth 1000000 in
theorem ck_121 : x_ok mLT [cx_120, cx_87, cx_89] mTS mTC mRU cx_121 [(56, [0]), (65, [0]), (98, [1]), (117, [2])] [] [(3, ([(0, 3072), (0, 0), (0, 63), (0, 6)], [(9, false), (6, false), (35, false)], [], [(2, 0, 0, []), (2, 1, 0, []), (2, 2, 0, []), (0, 0, 0, [(1, 1)]), (0, 0, 0, [(3, 1)]), (5, 0, 0, []), (5, 0, 0, []), (5, 0, 0, [])], [], [(0, (false, 10, 0, []), 0, 0, 0, [(2, 1)])], []), (1879, [(1, (-100000000000)), (3, (-312))])), (21, ([(0, 3072), (0, 0), (0, 63), (0, 5), (0, 6), (1, 6)], [(9, false), (6, false), (35, false), (5, false), (2, false)], [], [(2, 0, 0, []), (2, 1, 0, []), (2, 2, 0, []), (0, 0, 0, [(1, 1)]), (0, 0, 0, [(3, 1)]), (0, 0, 0, [(4, 1)]), (5, 0, 0, []), (5, 0, 0, [])], [], [(0, (false, 0, 0, []), 2, 3, 0, []), (0, (false, 10, 0, []), 0, 0, 0, [(2, 1)]), (3, (false, 3, 0, []), 2, 4, 0, []), (4, (false, 5, 0, []), 0, 0, 0, [(5, 1)])], []), (1870, [(1, (-100000000000)), (3, (-312)), (4, (-49))]))] (1882, []) 52984 51 = true := by decide +kernel
theorem sn_121 {X : List Int32} : y_Snd mGa mLT (mJS X) X cx_121 := y_ok (fun _ _ _ => Iff.rfl) mTS_ok mTC_ok mRU_ok (List.forall_mem_cons.mpr ⟨sn_120, List.forall_mem_cons.mpr ⟨sn_87, List.forall_mem_cons.mpr ⟨sn_89, fun _ h => absurd h List.not_mem_nil⟩⟩⟩) ck_121
/-- Planner.lookAt -/
def cx_122 : zCtx := (67, ([(0, 3072), (0, 63)], [(9, false), (6, false)], [], [], [(2, 0, 0, []), (2, 1, 0, [])], [(0, (false, 10, 0, []), 0, 0, 0, [(1, 1)])], []), [([(0, 3072), (0, 63), (0, 63)], [(9, false), (6, false)], [], [], [], [(0, (false, 10, 0, []), 0, 0, 0, [(2, 1)])], [])], [(9, false, 10), (24, true, 0), (26, true, 0), (34, true, 0), (35, true, 0), (40, true, 0)], 54876, 4, 138)
set_option maxRecDepth 1000000 in
theorem ck_122 : x_ok mLT [cx_119, cx_121] mTS mTC mRU cx_122 [(2, [0]), (12, [1])] [] [] (10, []) 54866 13 = true := by decide +kernel
theorem sn_122 {X : List Int32} : y_Snd mGa mLT (mJS X) X cx_122 := y_ok (fun _ _ _ => Iff.rfl) mTS_ok mTC_ok mRU_ok (List.forall_mem_cons.mpr ⟨sn_119, List.forall_mem_cons.mpr ⟨sn_121, fun _ h => absurd h List.not_mem_nil⟩⟩) ck_122
/-- Integer.bitCount -/
def cx_123 : zCtx := (1, ([(0, 3072), ((-2147483648), 2147483647)], [], [], [], [(0, 0, 0, [(1, 1)])], [], []), [([(0, 3072), ((-2147483648), 2147483647), (0, 63)], [], [], [], [(0, 0, 0, [(2, 1)])], [], [])], [], 42, 0, 0)
set_option maxRecDepth 1000000 in
theorem ck_123 : x_ok mLT [] mTS mTC mRU cx_123 [] [] [] (42, []) 0 45 = true := by decide +kernel
theorem sn_123 {X : List Int32} : y_Snd mGa mLT (mJS X) X cx_123 := y_ok (fun _ _ _ => Iff.rfl) mTS_ok mTC_ok mRU_ok (fun _ h => absurd h List.not_mem_nil) ck_123
/-- Planner.powerOfSix -/
def cx_124 : zCtx := (75, ([(0, 3072), (0, 63)], [], [], [], [(0, 0, 0, [(1, 1)])], [], []), [([(0, 3072), (1, 63), ((-2147483648), 2147483647)], [], [], [], [(0, 0, 0, [(2, 1)])], [], []), ([(0, 3072), (0, 6), ((-2147483648), 2147483647)], [], [], [], [(0, 0, 0, [(2, 1)])], [], [])], [], 91, 0, 0)
set_option maxRecDepth 1000000 in
theorem ck_124 : x_ok mLT [] mTS mTC mRU cx_124 [] [] [(4, ([(0, 3072), (0, 63), ((-2147483648), 2147483647), (0, 6)], [], [], [(0, 0, 0, [(1, 1)]), (0, 0, 0, [(2, 1)]), (0, 0, 0, [(3, 1)])], [], [], []), (86, [(3, (-13))]))] (91, []) 0 15 = true := by decide +kernel
theorem sn_124 {X : List Int32} : y_Snd mGa mLT (mJS X) X cx_124 := y_ok (fun _ _ _ => Iff.rfl) mTS_ok mTC_ok mRU_ok (fun _ h => absurd h List.not_mem_nil) ck_124
/-- Planner.putUpon -/
def cx_125 : zCtx := (76, ([(0, 3072), (6, 383), (0, 383), ((-2147483648), 2147483647), ((-2147483648), 2147483647)], [(9, false)], [], [], [(2, 0, 0, []), (0, 0, 0, [(1, 1)]), (0, 0, 0, [(2, 1)]), (0, 0, 0, [(3, 1)]), (0, 0, 0, [(4, 1)])], [], []), [([(0, 3072), (6, 383), (0, 383), ((-2147483648), 2147483647), ((-2147483648), 2147483647)], [(9, false)], [], [], [], [], [])], [(37, true, 0), (38, true, 0), (39, true, 0)], 65, 1, 64)
set_option maxRecDepth 1000000 in
theorem ck_125 : x_ok mLT [] mTS mTC mRU cx_125 [] [] [] (65, []) 0 68 = true := by decide +kernel
theorem sn_125 {X : List Int32} : y_Snd mGa mLT (mJS X) X cx_125 := y_ok (fun _ _ _ => Iff.rfl) mTS_ok mTC_ok mRU_ok (fun _ h => absurd h List.not_mem_nil) ck_125
/-- Planner.build -/
def cx_126 : zCtx := (74, ([(0, 3072), (1, 63), (0, 5)], [(9, false)], [], [], [(2, 0, 0, []), (0, 0, 0, [(1, 1)]), (0, 0, 0, [(2, 1)])], [], []), [([(0, 3072), (1, 63), (0, 5)], [(9, false)], [(383, [(1, (-6)), (2, (-1))]), (0, [(1, 6), (2, 1)])], [], [], [], [])], [(37, true, 0), (38, true, 0), (39, true, 0)], 405, 2, 90)
set_option maxRecDepth 1000000 in
theorem ck_126 : x_ok mLT [cx_123, cx_124, cx_125] mTS mTC mRU cx_126 [(100, [0]), (103, [1]), (174, [2])] [] [(112, ([(0, 3072), (1, 63), (0, 5), (0, 63), ((-2147483648), 2147483647), (0, 6)], [(9, false), (39, false), (38, false), (37, false)], [(383, [(1, (-6)), (2, (-1))]), (0, [(1, 6), (2, 1)])], [(2, 0, 0, []), (0, 0, 0, [(1, 1)]), (0, 0, 0, [(2, 1)]), (0, 0, 0, [(1, 6), (2, 1)]), (0, 0, 0, [(3, 1)]), (0, 0, 0, [(4, 1)]), (0, 0, 0, [(5, 1)]), (5, 0, 0, [])], [], [(0, (false, 6, 0, []), 2, 1, 0, []), (0, (false, 5, 0, []), 2, 2, 0, []), (0, (false, 4, 0, []), 2, 3, 0, [])], []), (250, [(5, (-41))]))] (314, []) 91 66 = true := by decide +kernel
theorem sn_126 {X : List Int32} : y_Snd mGa mLT (mJS X) X cx_126 := y_ok (fun _ _ _ => Iff.rfl) mTS_ok mTC_ok mRU_ok (List.forall_mem_cons.mpr ⟨sn_123, List.forall_mem_cons.mpr ⟨sn_124, List.forall_mem_cons.mpr ⟨sn_125, fun _ h => absurd h List.not_mem_nil⟩⟩⟩) ck_126
/-- Planner.reaches -/
def cx_127 : zCtx := (77, ([(0, 3072), (0, 63)], [(9, false)], [], [], [(2, 0, 0, []), (0, 0, 0, [(1, 1)])], [], []), [([(0, 3072), (0, 63)], [(9, false)], [], [], [(0, 0, 1, [])], [], []), ([(0, 3072), (0, 63)], [(9, false)], [], [], [(0, 0, 0, [])], [], [])], [], 17, 0, 0)
set_option maxRecDepth 1000000 in
theorem ck_127 : x_ok mLT [] mTS mTC mRU cx_127 [] [] [] (17, []) 0 20 = true := by decide +kernel
theorem sn_127 {X : List Int32} : y_Snd mGa mLT (mJS X) X cx_127 := y_ok (fun _ _ _ => Iff.rfl) mTS_ok mTC_ok mRU_ok (fun _ h => absurd h List.not_mem_nil) ck_127
/-- Planner.note -/
def cx_128 : zCtx := (78, ([(0, 3072), (1, 63), (6, 383)], [(9, false)], [], [], [(2, 0, 0, []), (0, 0, 0, [(1, 1)]), (0, 0, 0, [(2, 1)])], [], []), [([(0, 3072), (1, 63), (6, 383)], [(9, false)], [], [], [], [], [])], [(9, false, 8), (9, false, 11), (9, false, 12), (9, false, 13), (9, false, 14)], 105, 1, 64)
set_option maxRecDepth 1000000 in
theorem ck_128 : x_ok mLT [cx_123] mTS mTC mRU cx_128 [(23, [0])] [] [] (63, []) 42 66 = true := by decide +kernel
theorem sn_128 {X : List Int32} : y_Snd mGa mLT (mJS X) X cx_128 := y_ok (fun _ _ _ => Iff.rfl) mTS_ok mTC_ok mRU_ok (List.forall_mem_cons.mpr ⟨sn_123, fun _ h => absurd h List.not_mem_nil⟩) ck_128
/-- Planner.surveySet -/
def cx_129 : zCtx := (73, ([(0, 3072), (1, 63)], [(9, false)], [], [], [(2, 0, 0, []), (0, 0, 0, [(1, 1)])], [], []), [([(0, 3072), (1, 63)], [(9, false)], [], [], [], [], [])], [(9, false, 8), (9, false, 11), (9, false, 12), (9, false, 13), (9, false, 14), (37, true, 0), (38, true, 0), (39, true, 0)], 580, 3, 117)
set_option maxRecDepth 1000000 in
theorem ck_129 : x_ok mLT [cx_126, cx_127, cx_128] mTS mTC mRU cx_129 [(19, [0]), (24, [1]), (38, [2])] [] [(2, ([(0, 3072), (1, 63), (0, 6)], [(9, false)], [], [(2, 0, 0, []), (0, 0, 0, [(1, 1)]), (0, 0, 0, [(2, 1)])], [], [], []), (172, [(2, (-28))]))] (175, []) 405 30 = true := by decide +kernel
theorem sn_129 {X : List Int32} : y_Snd mGa mLT (mJS X) X cx_129 := y_ok (fun _ _ _ => Iff.rfl) mTS_ok mTC_ok mRU_ok (List.forall_mem_cons.mpr ⟨sn_126, List.forall_mem_cons.mpr ⟨sn_127, List.forall_mem_cons.mpr ⟨sn_128, fun _ h => absurd h List.not_mem_nil⟩⟩⟩) ck_129
