/-! ===== the readings 48 .. 95, by program, checked by the kernel ===== -/
/-- Parser.unit -/
def cx_48 : zCtx := (65, ([(0, 3072), (6, 6)], [(4, false)], [], [], [(2, 0, 0, []), (0, 0, 0, [(1, 1)])], [], []), [([(0, 3072), (6, 6)], [(4, false)], [], [], [], [], [])], [(1, false, 4), (1, false, 6), (1, false, 7), (1, false, 8), (3, false, 4), (4, false, 2), (21, true, 0), (22, true, 0)], 89, 2, 42)
set_option maxRecDepth 1000000 in
theorem ck_48 : x_ok mLT [cx_5, cx_37] mTS mTC mRU cx_48 [(87, [0]), (92, [1]), (126, [0]), (131, [1])] [] [] (36, []) 53 39 = true := by decide +kernel
theorem sn_48 {X : List Int32} : y_Snd mGa mLT (mJS X) X cx_48 := y_ok (fun _ _ _ => Iff.rfl) mTS_ok mTC_ok mRU_ok (List.forall_mem_cons.mpr ⟨sn_5, List.forall_mem_cons.mpr ⟨sn_37, fun _ h => absurd h List.not_mem_nil⟩⟩) ck_48
/-- Parser.part -/
def cx_49 : zCtx := (64, ([(0, 3072), (6, 6)], [(4, false)], [], [], [(2, 0, 0, []), (0, 0, 0, [(1, 1)])], [], []), [([(0, 3072), (6, 6)], [(4, false)], [], [], [], [], [])], [(1, false, 4), (1, false, 6), (1, false, 7), (1, false, 8), (3, false, 4), (4, false, 2), (21, true, 0), (22, true, 0)], 49319, 3, 64)
set_option maxRecDepth 1000000 in
theorem ck_49 : x_ok mLT [cx_48, cx_37, cx_5] mTS mTC mRU cx_49 [(2, [0]), (71, [1]), (77, [0]), (89, [2])] [] [(7, ([(0, 3072), (6, 6), (0, 400)], [(4, false)], [], [(2, 0, 0, []), (0, 0, 0, [(1, 1)]), (0, 0, 0, [(2, 1)]), (5, 0, 0, [])], [], [], []), ((-300000000000), [(1, 50000008202), (2, (-123))]))] (49230, []) 89 43 = true := by decide +kernel
theorem sn_49 {X : List Int32} : y_Snd mGa mLT (mJS X) X cx_49 := y_ok (fun _ _ _ => Iff.rfl) mTS_ok mTC_ok mRU_ok (List.forall_mem_cons.mpr ⟨sn_48, List.forall_mem_cons.mpr ⟨sn_37, List.forall_mem_cons.mpr ⟨sn_5, fun _ h => absurd h List.not_mem_nil⟩⟩⟩) ck_49
/-- Parser.expression -/
def cx_50 : zCtx := (63, ([(0, 3072), (6, 6)], [(4, false)], [], [], [(2, 0, 0, []), (0, 0, 0, [(1, 1)])], [], []), [([(0, 3072), (6, 6)], [(4, false)], [], [], [], [], [])], [(1, false, 4), (1, false, 6), (1, false, 7), (1, false, 8), (3, false, 4), (4, false, 2), (21, true, 0), (22, true, 0)], 98549, 4, 87)
set_option maxRecDepth 1000000 in
theorem ck_50 : x_ok mLT [cx_49, cx_37, cx_5] mTS mTC mRU cx_50 [(2, [0]), (71, [1]), (77, [0]), (89, [2])] [] [(7, ([(0, 3072), (6, 6), (0, 400)], [(4, false)], [], [(2, 0, 0, []), (0, 0, 0, [(1, 1)]), (0, 0, 0, [(2, 1)]), (5, 0, 0, [])], [], [], []), ((-300000000000), [(1, 50000008202), (2, (-123))]))] (49230, []) 49319 43 = true := by decide +kernel
theorem sn_50 {X : List Int32} : y_Snd mGa mLT (mJS X) X cx_50 := y_ok (fun _ _ _ => Iff.rfl) mTS_ok mTC_ok mRU_ok (List.forall_mem_cons.mpr ⟨sn_49, List.forall_mem_cons.mpr ⟨sn_37, List.forall_mem_cons.mpr ⟨sn_5, fun _ h => absurd h List.not_mem_nil⟩⟩⟩) ck_50
/-- Parser.unit -/
def cx_51 : zCtx := (65, ([(0, 3072), (5, 5)], [(4, false)], [], [], [(2, 0, 0, []), (0, 0, 0, [(1, 1)])], [], []), [([(0, 3072), (5, 5)], [(4, false)], [], [], [], [], [])], [(1, false, 4), (1, false, 6), (1, false, 7), (1, false, 8), (3, false, 4), (4, false, 2), (21, true, 0), (22, true, 0)], 98585, 5, 110)
set_option maxRecDepth 1000000 in
theorem ck_51 : x_ok mLT [cx_37, cx_50, cx_5] mTS mTC mRU cx_51 [(45, [0]), (53, [1]), (59, [0]), (87, [2]), (92, [0]), (126, [2]), (131, [0])] [] [] (36, []) 98549 39 = true := by decide +kernel
theorem sn_51 {X : List Int32} : y_Snd mGa mLT (mJS X) X cx_51 := y_ok (fun _ _ _ => Iff.rfl) mTS_ok mTC_ok mRU_ok (List.forall_mem_cons.mpr ⟨sn_37, List.forall_mem_cons.mpr ⟨sn_50, List.forall_mem_cons.mpr ⟨sn_5, fun _ h => absurd h List.not_mem_nil⟩⟩⟩) ck_51
/-- Parser.part -/
def cx_52 : zCtx := (64, ([(0, 3072), (5, 5)], [(4, false)], [], [], [(2, 0, 0, []), (0, 0, 0, [(1, 1)])], [], []), [([(0, 3072), (5, 5)], [(4, false)], [], [], [], [], [])], [(1, false, 4), (1, false, 6), (1, false, 7), (1, false, 8), (3, false, 4), (4, false, 2), (21, true, 0), (22, true, 0)], 180635, 6, 132)
set_option maxRecDepth 1000000 in
theorem ck_52 : x_ok mLT [cx_51, cx_37, cx_5] mTS mTC mRU cx_52 [(2, [0]), (71, [1]), (77, [0]), (89, [2])] [] [(7, ([(0, 3072), (5, 5), (0, 400)], [(4, false)], [], [(2, 0, 0, []), (0, 0, 0, [(1, 1)]), (0, 0, 0, [(2, 1)]), (5, 0, 0, [])], [], [], []), ((-500000000000), [(1, 100000016404), (2, (-205))]))] (82050, []) 98585 43 = true := by decide +kernel
theorem sn_52 {X : List Int32} : y_Snd mGa mLT (mJS X) X cx_52 := y_ok (fun _ _ _ => Iff.rfl) mTS_ok mTC_ok mRU_ok (List.forall_mem_cons.mpr ⟨sn_51, List.forall_mem_cons.mpr ⟨sn_37, List.forall_mem_cons.mpr ⟨sn_5, fun _ h => absurd h List.not_mem_nil⟩⟩⟩) ck_52
/-- Parser.expression -/
def cx_53 : zCtx := (63, ([(0, 3072), (5, 5)], [(4, false)], [], [], [(2, 0, 0, []), (0, 0, 0, [(1, 1)])], [], []), [([(0, 3072), (5, 5)], [(4, false)], [], [], [], [], [])], [(1, false, 4), (1, false, 6), (1, false, 7), (1, false, 8), (3, false, 4), (4, false, 2), (21, true, 0), (22, true, 0)], 262685, 7, 155)
set_option maxRecDepth 1000000 in
theorem ck_53 : x_ok mLT [cx_52, cx_37, cx_5] mTS mTC mRU cx_53 [(2, [0]), (71, [1]), (77, [0]), (89, [2])] [] [(7, ([(0, 3072), (5, 5), (0, 400)], [(4, false)], [], [(2, 0, 0, []), (0, 0, 0, [(1, 1)]), (0, 0, 0, [(2, 1)]), (5, 0, 0, [])], [], [], []), ((-500000000000), [(1, 100000016404), (2, (-205))]))] (82050, []) 180635 43 = true := by decide +kernel
theorem sn_53 {X : List Int32} : y_Snd mGa mLT (mJS X) X cx_53 := y_ok (fun _ _ _ => Iff.rfl) mTS_ok mTC_ok mRU_ok (List.forall_mem_cons.mpr ⟨sn_52, List.forall_mem_cons.mpr ⟨sn_37, List.forall_mem_cons.mpr ⟨sn_5, fun _ h => absurd h List.not_mem_nil⟩⟩⟩) ck_53
/-- Parser.unit -/
def cx_54 : zCtx := (65, ([(0, 3072), (4, 4)], [(4, false)], [], [], [(2, 0, 0, []), (0, 0, 0, [(1, 1)])], [], []), [([(0, 3072), (4, 4)], [(4, false)], [], [], [], [], [])], [(1, false, 4), (1, false, 6), (1, false, 7), (1, false, 8), (3, false, 4), (4, false, 2), (21, true, 0), (22, true, 0)], 262721, 8, 178)
set_option maxRecDepth 1000000 in
theorem ck_54 : x_ok mLT [cx_37, cx_53, cx_5] mTS mTC mRU cx_54 [(45, [0]), (53, [1]), (59, [0]), (87, [2]), (92, [0]), (126, [2]), (131, [0])] [] [] (36, []) 262685 39 = true := by decide +kernel
theorem sn_54 {X : List Int32} : y_Snd mGa mLT (mJS X) X cx_54 := y_ok (fun _ _ _ => Iff.rfl) mTS_ok mTC_ok mRU_ok (List.forall_mem_cons.mpr ⟨sn_37, List.forall_mem_cons.mpr ⟨sn_53, List.forall_mem_cons.mpr ⟨sn_5, fun _ h => absurd h List.not_mem_nil⟩⟩⟩) ck_54
/-- Parser.part -/
def cx_55 : zCtx := (64, ([(0, 3072), (4, 4)], [(4, false)], [], [], [(2, 0, 0, []), (0, 0, 0, [(1, 1)])], [], []), [([(0, 3072), (4, 4)], [(4, false)], [], [], [], [], [])], [(1, false, 4), (1, false, 6), (1, false, 7), (1, false, 8), (3, false, 4), (4, false, 2), (21, true, 0), (22, true, 0)], 279131, 9, 200)
set_option maxRecDepth 1000000 in
theorem ck_55 : x_ok mLT [cx_54, cx_37, cx_5] mTS mTC mRU cx_55 [(2, [0]), (71, [1]), (77, [0]), (89, [2])] [] [(7, ([(0, 3072), (4, 4), (0, 400)], [(4, false)], [], [(2, 0, 0, []), (0, 0, 0, [(1, 1)]), (0, 0, 0, [(2, 1)]), (5, 0, 0, [])], [], [], []), ((-100000000000), [(1, 25000004101), (2, (-41))]))] (16410, []) 262721 43 = true := by decide +kernel
theorem sn_55 {X : List Int32} : y_Snd mGa mLT (mJS X) X cx_55 := y_ok (fun _ _ _ => Iff.rfl) mTS_ok mTC_ok mRU_ok (List.forall_mem_cons.mpr ⟨sn_54, List.forall_mem_cons.mpr ⟨sn_37, List.forall_mem_cons.mpr ⟨sn_5, fun _ h => absurd h List.not_mem_nil⟩⟩⟩) ck_55
/-- Parser.expression -/
def cx_56 : zCtx := (63, ([(0, 3072), (4, 4)], [(4, false)], [], [], [(2, 0, 0, []), (0, 0, 0, [(1, 1)])], [], []), [([(0, 3072), (4, 4)], [(4, false)], [], [], [], [], [])], [(1, false, 4), (1, false, 6), (1, false, 7), (1, false, 8), (3, false, 4), (4, false, 2), (21, true, 0), (22, true, 0)], 295541, 10, 223)
set_option maxRecDepth 1000000 in
theorem ck_56 : x_ok mLT [cx_55, cx_37, cx_5] mTS mTC mRU cx_56 [(2, [0]), (71, [1]), (77, [0]), (89, [2])] [] [(7, ([(0, 3072), (4, 4), (0, 400)], [(4, false)], [], [(2, 0, 0, []), (0, 0, 0, [(1, 1)]), (0, 0, 0, [(2, 1)]), (5, 0, 0, [])], [], [], []), ((-100000000000), [(1, 25000004101), (2, (-41))]))] (16410, []) 279131 43 = true := by decide +kernel
theorem sn_56 {X : List Int32} : y_Snd mGa mLT (mJS X) X cx_56 := y_ok (fun _ _ _ => Iff.rfl) mTS_ok mTC_ok mRU_ok (List.forall_mem_cons.mpr ⟨sn_55, List.forall_mem_cons.mpr ⟨sn_37, List.forall_mem_cons.mpr ⟨sn_5, fun _ h => absurd h List.not_mem_nil⟩⟩⟩) ck_56
/-- Parser.unit -/
def cx_57 : zCtx := (65, ([(0, 3072), (3, 3)], [(4, false)], [], [], [(2, 0, 0, []), (0, 0, 0, [(1, 1)])], [], []), [([(0, 3072), (3, 3)], [(4, false)], [], [], [], [], [])], [(1, false, 4), (1, false, 6), (1, false, 7), (1, false, 8), (3, false, 4), (4, false, 2), (21, true, 0), (22, true, 0)], 295577, 11, 246)
set_option maxRecDepth 1000000 in
theorem ck_57 : x_ok mLT [cx_37, cx_56, cx_5] mTS mTC mRU cx_57 [(45, [0]), (53, [1]), (59, [0]), (87, [2]), (92, [0]), (126, [2]), (131, [0])] [] [] (36, []) 295541 39 = true := by decide +kernel
theorem sn_57 {X : List Int32} : y_Snd mGa mLT (mJS X) X cx_57 := y_ok (fun _ _ _ => Iff.rfl) mTS_ok mTC_ok mRU_ok (List.forall_mem_cons.mpr ⟨sn_37, List.forall_mem_cons.mpr ⟨sn_56, List.forall_mem_cons.mpr ⟨sn_5, fun _ h => absurd h List.not_mem_nil⟩⟩⟩) ck_57
/-- Parser.part -/
def cx_58 : zCtx := (64, ([(0, 3072), (3, 3)], [(4, false)], [], [], [(2, 0, 0, []), (0, 0, 0, [(1, 1)])], [], []), [([(0, 3072), (3, 3)], [(4, false)], [], [], [], [], [])], [(1, false, 4), (1, false, 6), (1, false, 7), (1, false, 8), (3, false, 4), (4, false, 2), (21, true, 0), (22, true, 0)], 344807, 12, 268)
set_option maxRecDepth 1000000 in
theorem ck_58 : x_ok mLT [cx_57, cx_37, cx_5] mTS mTC mRU cx_58 [(2, [0]), (71, [1]), (77, [0]), (89, [2])] [] [(7, ([(0, 3072), (3, 3), (0, 400)], [(4, false)], [], [(2, 0, 0, []), (0, 0, 0, [(1, 1)]), (0, 0, 0, [(2, 1)]), (5, 0, 0, [])], [], [], []), ((-300000000000), [(1, 100000016404), (2, (-123))]))] (49230, []) 295577 43 = true := by decide +kernel
theorem sn_58 {X : List Int32} : y_Snd mGa mLT (mJS X) X cx_58 := y_ok (fun _ _ _ => Iff.rfl) mTS_ok mTC_ok mRU_ok (List.forall_mem_cons.mpr ⟨sn_57, List.forall_mem_cons.mpr ⟨sn_37, List.forall_mem_cons.mpr ⟨sn_5, fun _ h => absurd h List.not_mem_nil⟩⟩⟩) ck_58
/-- Parser.expression -/
def cx_59 : zCtx := (63, ([(0, 3072), (3, 3)], [(4, false)], [], [], [(2, 0, 0, []), (0, 0, 0, [(1, 1)])], [], []), [([(0, 3072), (3, 3)], [(4, false)], [], [], [], [], [])], [(1, false, 4), (1, false, 6), (1, false, 7), (1, false, 8), (3, false, 4), (4, false, 2), (21, true, 0), (22, true, 0)], 394037, 13, 291)
set_option maxRecDepth 1000000 in
theorem ck_59 : x_ok mLT [cx_58, cx_37, cx_5] mTS mTC mRU cx_59 [(2, [0]), (71, [1]), (77, [0]), (89, [2])] [] [(7, ([(0, 3072), (3, 3), (0, 400)], [(4, false)], [], [(2, 0, 0, []), (0, 0, 0, [(1, 1)]), (0, 0, 0, [(2, 1)]), (5, 0, 0, [])], [], [], []), ((-300000000000), [(1, 100000016404), (2, (-123))]))] (49230, []) 344807 43 = true := by decide +kernel
theorem sn_59 {X : List Int32} : y_Snd mGa mLT (mJS X) X cx_59 := y_ok (fun _ _ _ => Iff.rfl) mTS_ok mTC_ok mRU_ok (List.forall_mem_cons.mpr ⟨sn_58, List.forall_mem_cons.mpr ⟨sn_37, List.forall_mem_cons.mpr ⟨sn_5, fun _ h => absurd h List.not_mem_nil⟩⟩⟩) ck_59
/-- Parser.unit -/
def cx_60 : zCtx := (65, ([(0, 3072), (2, 2)], [(4, false)], [], [], [(2, 0, 0, []), (0, 0, 0, [(1, 1)])], [], []), [([(0, 3072), (2, 2)], [(4, false)], [], [], [], [], [])], [(1, false, 4), (1, false, 6), (1, false, 7), (1, false, 8), (3, false, 4), (4, false, 2), (21, true, 0), (22, true, 0)], 394073, 14, 314)
set_option maxRecDepth 1000000 in
theorem ck_60 : x_ok mLT [cx_37, cx_59, cx_5] mTS mTC mRU cx_60 [(45, [0]), (53, [1]), (59, [0]), (87, [2]), (92, [0]), (126, [2]), (131, [0])] [] [] (36, []) 394037 39 = true := by decide +kernel
theorem sn_60 {X : List Int32} : y_Snd mGa mLT (mJS X) X cx_60 := y_ok (fun _ _ _ => Iff.rfl) mTS_ok mTC_ok mRU_ok (List.forall_mem_cons.mpr ⟨sn_37, List.forall_mem_cons.mpr ⟨sn_59, List.forall_mem_cons.mpr ⟨sn_5, fun _ h => absurd h List.not_mem_nil⟩⟩⟩) ck_60
/-- Parser.part -/
def cx_61 : zCtx := (64, ([(0, 3072), (2, 2)], [(4, false)], [], [], [(2, 0, 0, []), (0, 0, 0, [(1, 1)])], [], []), [([(0, 3072), (2, 2)], [(4, false)], [], [], [], [], [])], [(1, false, 4), (1, false, 6), (1, false, 7), (1, false, 8), (3, false, 4), (4, false, 2), (21, true, 0), (22, true, 0)], 410483, 15, 336)
set_option maxRecDepth 1000000 in
theorem ck_61 : x_ok mLT [cx_60, cx_37, cx_5] mTS mTC mRU cx_61 [(2, [0]), (71, [1]), (77, [0]), (89, [2])] [] [(7, ([(0, 3072), (2, 2), (0, 400)], [(4, false)], [], [(2, 0, 0, []), (0, 0, 0, [(1, 1)]), (0, 0, 0, [(2, 1)]), (5, 0, 0, [])], [], [], []), ((-100000000000), [(1, 50000008202), (2, (-41))]))] (16410, []) 394073 43 = true := by decide +kernel
theorem sn_61 {X : List Int32} : y_Snd mGa mLT (mJS X) X cx_61 := y_ok (fun _ _ _ => Iff.rfl) mTS_ok mTC_ok mRU_ok (List.forall_mem_cons.mpr ⟨sn_60, List.forall_mem_cons.mpr ⟨sn_37, List.forall_mem_cons.mpr ⟨sn_5, fun _ h => absurd h List.not_mem_nil⟩⟩⟩) ck_61
/-- Parser.expression -/
def cx_62 : zCtx := (63, ([(0, 3072), (2, 2)], [(4, false)], [], [], [(2, 0, 0, []), (0, 0, 0, [(1, 1)])], [], []), [([(0, 3072), (2, 2)], [(4, false)], [], [], [], [], [])], [(1, false, 4), (1, false, 6), (1, false, 7), (1, false, 8), (3, false, 4), (4, false, 2), (21, true, 0), (22, true, 0)], 426893, 16, 359)
set_option maxRecDepth 1000000 in
theorem ck_62 : x_ok mLT [cx_61, cx_37, cx_5] mTS mTC mRU cx_62 [(2, [0]), (71, [1]), (77, [0]), (89, [2])] [] [(7, ([(0, 3072), (2, 2), (0, 400)], [(4, false)], [], [(2, 0, 0, []), (0, 0, 0, [(1, 1)]), (0, 0, 0, [(2, 1)]), (5, 0, 0, [])], [], [], []), ((-100000000000), [(1, 50000008202), (2, (-41))]))] (16410, []) 410483 43 = true := by decide +kernel
theorem sn_62 {X : List Int32} : y_Snd mGa mLT (mJS X) X cx_62 := y_ok (fun _ _ _ => Iff.rfl) mTS_ok mTC_ok mRU_ok (List.forall_mem_cons.mpr ⟨sn_61, List.forall_mem_cons.mpr ⟨sn_37, List.forall_mem_cons.mpr ⟨sn_5, fun _ h => absurd h List.not_mem_nil⟩⟩⟩) ck_62
/-- Parser.unit -/
def cx_63 : zCtx := (65, ([(0, 3072), (1, 1)], [(4, false)], [], [], [(2, 0, 0, []), (0, 0, 0, [(1, 1)])], [], []), [([(0, 3072), (1, 1)], [(4, false)], [], [], [], [], [])], [(1, false, 4), (1, false, 6), (1, false, 7), (1, false, 8), (3, false, 4), (4, false, 2), (21, true, 0), (22, true, 0)], 426929, 17, 382)
set_option maxRecDepth 1000000 in
theorem ck_63 : x_ok mLT [cx_37, cx_62, cx_5] mTS mTC mRU cx_63 [(45, [0]), (53, [1]), (59, [0]), (87, [2]), (92, [0]), (126, [2]), (131, [0])] [] [] (36, []) 426893 39 = true := by decide +kernel
theorem sn_63 {X : List Int32} : y_Snd mGa mLT (mJS X) X cx_63 := y_ok (fun _ _ _ => Iff.rfl) mTS_ok mTC_ok mRU_ok (List.forall_mem_cons.mpr ⟨sn_37, List.forall_mem_cons.mpr ⟨sn_62, List.forall_mem_cons.mpr ⟨sn_5, fun _ h => absurd h List.not_mem_nil⟩⟩⟩) ck_63
/-- Parser.part -/
def cx_64 : zCtx := (64, ([(0, 3072), (1, 1)], [(4, false)], [], [], [(2, 0, 0, []), (0, 0, 0, [(1, 1)])], [], []), [([(0, 3072), (1, 1)], [(4, false)], [], [], [], [], [])], [(1, false, 4), (1, false, 6), (1, false, 7), (1, false, 8), (3, false, 4), (4, false, 2), (21, true, 0), (22, true, 0)], 443339, 18, 404)
set_option maxRecDepth 1000000 in
theorem ck_64 : x_ok mLT [cx_63, cx_37, cx_5] mTS mTC mRU cx_64 [(2, [0]), (71, [1]), (77, [0]), (89, [2])] [] [(7, ([(0, 3072), (1, 1), (0, 400)], [(4, false)], [], [(2, 0, 0, []), (0, 0, 0, [(1, 1)]), (0, 0, 0, [(2, 1)]), (5, 0, 0, [])], [], [], []), ((-99999983596), [(1, 100000000000), (2, (-41))]))] (16410, []) 426929 43 = true := by decide +kernel
theorem sn_64 {X : List Int32} : y_Snd mGa mLT (mJS X) X cx_64 := y_ok (fun _ _ _ => Iff.rfl) mTS_ok mTC_ok mRU_ok (List.forall_mem_cons.mpr ⟨sn_63, List.forall_mem_cons.mpr ⟨sn_37, List.forall_mem_cons.mpr ⟨sn_5, fun _ h => absurd h List.not_mem_nil⟩⟩⟩) ck_64
/-- Parser.expression -/
def cx_65 : zCtx := (63, ([(0, 3072), (1, 1)], [(4, false)], [], [], [(2, 0, 0, []), (0, 0, 0, [(1, 1)])], [], []), [([(0, 3072), (1, 1)], [(4, false)], [], [], [], [], [])], [(1, false, 4), (1, false, 6), (1, false, 7), (1, false, 8), (3, false, 4), (4, false, 2), (21, true, 0), (22, true, 0)], 459749, 19, 427)
set_option maxRecDepth 1000000 in
theorem ck_65 : x_ok mLT [cx_64, cx_37, cx_5] mTS mTC mRU cx_65 [(2, [0]), (71, [1]), (77, [0]), (89, [2])] [] [(7, ([(0, 3072), (1, 1), (0, 400)], [(4, false)], [], [(2, 0, 0, []), (0, 0, 0, [(1, 1)]), (0, 0, 0, [(2, 1)]), (5, 0, 0, [])], [], [], []), ((-99999983596), [(1, 100000000000), (2, (-41))]))] (16410, []) 443339 43 = true := by decide +kernel
theorem sn_65 {X : List Int32} : y_Snd mGa mLT (mJS X) X cx_65 := y_ok (fun _ _ _ => Iff.rfl) mTS_ok mTC_ok mRU_ok (List.forall_mem_cons.mpr ⟨sn_64, List.forall_mem_cons.mpr ⟨sn_37, List.forall_mem_cons.mpr ⟨sn_5, fun _ h => absurd h List.not_mem_nil⟩⟩⟩) ck_65
/-- Parser.unit -/
def cx_66 : zCtx := (65, ([(0, 3072), (0, 0)], [(4, false)], [], [], [(2, 0, 0, []), (0, 0, 0, [(1, 1)])], [], []), [([(0, 3072), (0, 0)], [(4, false)], [], [], [], [], [])], [(1, false, 4), (1, false, 6), (1, false, 7), (1, false, 8), (3, false, 4), (4, false, 2), (21, true, 0), (22, true, 0)], 459785, 20, 450)
set_option maxRecDepth 1000000 in
theorem ck_66 : x_ok mLT [cx_37, cx_65, cx_5] mTS mTC mRU cx_66 [(45, [0]), (53, [1]), (59, [0]), (87, [2]), (92, [0]), (126, [2]), (131, [0])] [] [] (36, []) 459749 39 = true := by decide +kernel
theorem sn_66 {X : List Int32} : y_Snd mGa mLT (mJS X) X cx_66 := y_ok (fun _ _ _ => Iff.rfl) mTS_ok mTC_ok mRU_ok (List.forall_mem_cons.mpr ⟨sn_37, List.forall_mem_cons.mpr ⟨sn_65, List.forall_mem_cons.mpr ⟨sn_5, fun _ h => absurd h List.not_mem_nil⟩⟩⟩) ck_66
/-- Parser.part -/
def cx_67 : zCtx := (64, ([(0, 3072), (0, 0)], [(4, false)], [], [], [(2, 0, 0, []), (0, 0, 0, [(1, 1)])], [], []), [([(0, 3072), (0, 0)], [(4, false)], [], [], [], [], [])], [(1, false, 4), (1, false, 6), (1, false, 7), (1, false, 8), (3, false, 4), (4, false, 2), (21, true, 0), (22, true, 0)], 476195, 21, 472)
set_option maxRecDepth 1000000 in
theorem ck_67 : x_ok mLT [cx_66, cx_37, cx_5] mTS mTC mRU cx_67 [(2, [0]), (71, [1]), (77, [0]), (89, [2])] [] [(7, ([(0, 3072), (0, 0), (0, 400)], [(4, false)], [], [(2, 0, 0, []), (0, 0, 0, [(1, 1)]), (0, 0, 0, [(2, 1)]), (5, 0, 0, [])], [], [], []), (16404, [(1, (-100000000000)), (2, (-41))]))] (16410, []) 459785 43 = true := by decide +kernel
theorem sn_67 {X : List Int32} : y_Snd mGa mLT (mJS X) X cx_67 := y_ok (fun _ _ _ => Iff.rfl) mTS_ok mTC_ok mRU_ok (List.forall_mem_cons.mpr ⟨sn_66, List.forall_mem_cons.mpr ⟨sn_37, List.forall_mem_cons.mpr ⟨sn_5, fun _ h => absurd h List.not_mem_nil⟩⟩⟩) ck_67
/-- Parser.expression -/
def cx_68 : zCtx := (63, ([(0, 3072), (0, 0)], [(4, false)], [], [], [(2, 0, 0, []), (0, 0, 0, [(1, 1)])], [], []), [([(0, 3072), (0, 0)], [(4, false)], [], [], [], [], [])], [(1, false, 4), (1, false, 6), (1, false, 7), (1, false, 8), (3, false, 4), (4, false, 2), (21, true, 0), (22, true, 0)], 492605, 22, 495)
set_option maxRecDepth 1000000 in
theorem ck_68 : x_ok mLT [cx_67, cx_37, cx_5] mTS mTC mRU cx_68 [(2, [0]), (71, [1]), (77, [0]), (89, [2])] [] [(7, ([(0, 3072), (0, 0), (0, 400)], [(4, false)], [], [(2, 0, 0, []), (0, 0, 0, [(1, 1)]), (0, 0, 0, [(2, 1)]), (5, 0, 0, [])], [], [], []), (16404, [(1, (-100000000000)), (2, (-41))]))] (16410, []) 476195 43 = true := by decide +kernel
theorem sn_68 {X : List Int32} : y_Snd mGa mLT (mJS X) X cx_68 := y_ok (fun _ _ _ => Iff.rfl) mTS_ok mTC_ok mRU_ok (List.forall_mem_cons.mpr ⟨sn_67, List.forall_mem_cons.mpr ⟨sn_37, List.forall_mem_cons.mpr ⟨sn_5, fun _ h => absurd h List.not_mem_nil⟩⟩⟩) ck_68
/-- Laws.aimHere -/
def cx_69 : zCtx := (50, ([(0, 3072), (0, 432), (1, 432)], [(3, false)], [], [], [(2, 0, 0, []), (0, 0, 0, [(1, 1)])], [(0, (false, 4, 0, []), 0, 0, 0, [(2, 1)])], []), [([(0, 3072), (0, 431), (1, 432)], [(3, false)], [], [], [], [], []), ([(0, 3072), (432, 432), (1, 432)], [(3, false)], [], [], [], [], [])], [(22, true, 0)], 12, 0, 0)
set_option maxRecDepth 1000000 in
theorem ck_69 : x_ok mLT [] mTS mTC mRU cx_69 [] [] [] (12, []) 0 15 = true := by decide +kernel
theorem sn_69 {X : List Int32} : y_Snd mGa mLT (mJS X) X cx_69 := y_ok (fun _ _ _ => Iff.rfl) mTS_ok mTC_ok mRU_ok (fun _ h => absurd h List.not_mem_nil) ck_69
/-- Parser.parseLaw -/
def cx_70 : zCtx := (62, ([(0, 3072), ((-2147483648), 2147483647)], [(4, false)], [], [], [(2, 0, 0, []), (0, 0, 0, [(1, 1)])], [], []), [([(0, 3072), (4, 2147483647)], [(4, false)], [], [], [], [], []), ([(0, 3072), ((-2147483648), (-1))], [(4, false)], [], [], [], [], []), ([(0, 3072), (0, 3)], [(4, false)], [], [], [], [], [])], [(1, false, 4), (1, false, 6), (1, false, 7), (1, false, 8), (3, false, 4), (4, false, 2), (21, true, 0), (22, true, 0), (23, true, 0)], 492906, 23, 518)
set_option maxRecDepth 1000000 in
theorem ck_70 : x_ok mLT [cx_37, cx_68, cx_5, cx_69, cx_4] mTS mTC mRU cx_70 [(23, [0]), (30, [0]), (76, [0]), (82, [1]), (88, [0]), (94, [1]), (119, [2]), (126, [0]), (132, [1]), (145, [2]), (152, [0]), (165, [3]), (201, [1]), (214, [2]), (220, [0]), (233, [4])] [] [(47, ([(0, 3072), (0, 3), (0, 432), (0, 4), (0, 432)], [(4, false), (2, false), (1, false), (3, false)], [], [(2, 0, 0, []), (0, 0, 0, [(1, 1)]), (0, 0, 0, [(2, 1)]), (0, 0, 0, [(3, 1)]), (5, 0, 0, [])], [], [(0, (false, 1, 0, []), 2, 1, 0, []), (0, (false, 0, 0, []), 2, 2, 0, []), (1, (false, 4, 0, []), 2, 3, 0, []), (3, (false, 4, 0, []), 0, 0, 0, [(4, 1)])], []), (278, [(3, (-61))]))] (301, []) 492605 63 = true := by decide +kernel
theorem sn_70 {X : List Int32} : y_Snd mGa mLT (mJS X) X cx_70 := y_ok (fun _ _ _ => Iff.rfl) mTS_ok mTC_ok mRU_ok (List.forall_mem_cons.mpr ⟨sn_37, List.forall_mem_cons.mpr ⟨sn_68, List.forall_mem_cons.mpr ⟨sn_5, List.forall_mem_cons.mpr ⟨sn_69, List.forall_mem_cons.mpr ⟨sn_4, fun _ h => absurd h List.not_mem_nil⟩⟩⟩⟩⟩) ck_70
/-- Parser.parse -/
def cx_71 : zCtx := (54, ([(0, 3072)], [(4, false), (2, false)], [], [], [(2, 0, 0, []), (2, 1, 0, [])], [], []), [([(0, 3072), ((-2147483648), 2147483647)], [(4, false), (2, false)], [], [], [(0, 0, 0, [(1, 1)])], [], [])], [(1, false, 4), (1, false, 6), (1, false, 7), (1, false, 8), (2, false, 5), (2, false, 6), (2, false, 7), (2, false, 8), (2, false, 9), (2, false, 10), (3, false, 4), (4, false, 1), (4, false, 2), (4, false, 3), (4, false, 4), (4, false, 5), (14, true, 0), (15, true, 0), (16, true, 0), (17, true, 0), (18, true, 0), (19, true, 0), (20, true, 0), (21, true, 0), (22, true, 0), (23, true, 0)], 502967, 24, 542)
set_option maxRecDepth 1000000 in
theorem ck_71 : x_ok mLT [cx_7, cx_35, cx_42, cx_46, cx_47, cx_70] mTS mTC mRU cx_71 [(9, [0]), (26, [1]), (117, [2]), (124, [3]), (138, [4]), (155, [4]), (172, [4]), (190, [4]), (211, [5])] [] [(31, ([(0, 3072), (0, 401), (0, 2000)], [(4, false), (2, false), (1, false)], [], [(2, 0, 0, []), (2, 1, 0, []), (0, 0, 0, [(1, 1)])], [], [(0, (false, 0, 0, []), 2, 2, 0, []), (0, (false, 1, 0, []), 2, 1, 0, []), (2, (false, 5, 0, []), 0, 0, 0, [(2, 1)])], []), (10043, [(1, (-25))]))] (10061, []) 492906 28 = true := by decide +kernel
theorem sn_71 {X : List Int32} : y_Snd mGa mLT (mJS X) X cx_71 := y_ok (fun _ _ _ => Iff.rfl) mTS_ok mTC_ok mRU_ok (List.forall_mem_cons.mpr ⟨sn_7, List.forall_mem_cons.mpr ⟨sn_35, List.forall_mem_cons.mpr ⟨sn_42, List.forall_mem_cons.mpr ⟨sn_46, List.forall_mem_cons.mpr ⟨sn_47, List.forall_mem_cons.mpr ⟨sn_70, fun _ h => absurd h List.not_mem_nil⟩⟩⟩⟩⟩⟩) ck_71
/-- Arrays.fill -/
def cx_72 : zCtx := (2, ([(0, 3072), (0, 0)], [(28, false)], [], [], [(2, 0, 0, []), (0, 0, 0, [(1, 1)])], [], []), [([(0, 3072), (0, 0)], [(28, false)], [], [], [], [], [])], [(28, true, 0)], 70, 0, 0)
set_option maxRecDepth 1000000 in
theorem ck_72 : x_ok mLT [] mTS mTC mRU cx_72 [] [] [(5, ([(0, 3072), (0, 0), (0, 6)], [(28, false)], [], [(2, 0, 0, []), (0, 0, 0, [(1, 1)]), (0, 0, 0, [(2, 1)]), (0, 0, 6, [])], [], [], []), (64, [(1, (-100000000000)), (2, (-10))]))] (70, []) 0 12 = true := by decide +kernel
theorem sn_72 {X : List Int32} : y_Snd mGa mLT (mJS X) X cx_72 := y_ok (fun _ _ _ => Iff.rfl) mTS_ok mTC_ok mRU_ok (fun _ h => absurd h List.not_mem_nil) ck_72
/-- State.begin -/
def cx_73 : zCtx := (100, ([(0, 3072), (0, 6), (0, 6)], [(6, false), (2, false)], [], [], [(2, 0, 0, []), (2, 1, 0, [])], [(0, (false, 5, 0, []), 0, 0, 0, [(1, 1)]), (0, (false, 6, 0, []), 0, 0, 0, [(2, 1)])], []), [([(0, 3072), (0, 6), (0, 6), (0, 6)], [(6, false), (2, false)], [], [], [], [(0, (false, 6, 0, []), 0, 0, 0, []), (0, (false, 5, 0, []), 0, 0, 0, [(3, 1)])], [])], [(6, false, 5), (6, false, 6), (6, false, 7), (6, false, 8), (27, true, 0), (28, true, 0)], 96, 1, 64)
set_option maxRecDepth 1000000 in
theorem ck_73 : x_ok mLT [cx_72] mTS mTC mRU cx_73 [(20, [0])] [] [] (26, []) 70 29 = true := by decide +kernel
theorem sn_73 {X : List Int32} : y_Snd mGa mLT (mJS X) X cx_73 := y_ok (fun _ _ _ => Iff.rfl) mTS_ok mTC_ok mRU_ok (List.forall_mem_cons.mpr ⟨sn_72, fun _ h => absurd h List.not_mem_nil⟩) ck_73
/-- History.clear -/
def cx_74 : zCtx := (39, ([(0, 3072), (0, 39), (0, 40)], [(7, false)], [], [], [(2, 0, 0, [])], [(0, (false, 2, 0, []), 0, 0, 0, [(1, 1)]), (0, (false, 3, 0, []), 0, 0, 0, [(2, 1)])], []), [([(0, 3072), (0, 39), (0, 40)], [(7, false)], [], [], [], [(0, (false, 3, 0, []), 0, 0, 0, []), (0, (false, 2, 0, []), 0, 0, 0, [])], [])], [(7, false, 2), (7, false, 3), (7, false, 4)], 10, 0, 0)
set_option maxRecDepth 1000000 in
theorem ck_74 : x_ok mLT [] mTS mTC mRU cx_74 [] [] [] (10, []) 0 13 = true := by decide +kernel
theorem sn_74 {X : List Int32} : y_Snd mGa mLT (mJS X) X cx_74 := y_ok (fun _ _ _ => Iff.rfl) mTS_ok mTC_ok mRU_ok (fun _ h => absurd h List.not_mem_nil) ck_74
/-- HairRope.beginSpareText -/
def cx_75 : zCtx := (140, ([(0, 3072)], [(0, false)], [], [], [(2, 0, 0, [])], [], []), [([(0, 3072)], [(0, false)], [], [], [], [], [])], [(0, false, 9), (5, false, 3), (6, false, 5), (6, false, 6), (6, false, 7), (6, false, 8), (7, false, 2), (7, false, 3), (7, false, 4), (11, false, 8), (27, true, 0), (28, true, 0)], 122, 2, 85)
set_option maxRecDepth 1000000 in
theorem ck_75 : x_ok mLT [cx_73, cx_74] mTS mTC mRU cx_75 [(35, [0]), (42, [1])] [] [] (26, []) 96 29 = true := by decide +kernel
theorem sn_75 {X : List Int32} : y_Snd mGa mLT (mJS X) X cx_75 := y_ok (fun _ _ _ => Iff.rfl) mTS_ok mTC_ok mRU_ok (List.forall_mem_cons.mpr ⟨sn_73, List.forall_mem_cons.mpr ⟨sn_74, fun _ h => absurd h List.not_mem_nil⟩⟩) ck_75
/-- HairRope.read -/
def cx_76 : zCtx := (139, ([(0, 3072), (0, 2000)], [(0, false), (1, false)], [], [], [(2, 0, 0, [])], [(0, (false, 0, 0, []), 2, 1, 0, []), (1, (false, 5, 0, []), 0, 0, 0, [(1, 1)])], []), [([(0, 3072), (0, 2000), (0, 0)], [(0, false), (1, false)], [], [], [(0, 0, 0, [(2, 1)])], [(1, (false, 5, 0, []), 0, 0, 0, [])], []), ([(0, 3072), (0, 2000), ((-2147483648), (-1))], [(0, false), (1, false)], [], [], [(0, 0, 0, [(2, 1)])], [(1, (false, 5, 0, []), 0, 0, 0, [])], []), ([(0, 3072), (0, 2000), (1, 2147483647)], [(0, false), (1, false)], [], [], [(0, 0, 0, [(2, 1)])], [(1, (false, 5, 0, []), 0, 0, 0, [])], [])], [(0, false, 9), (0, false, 10), (1, false, 4), (1, false, 5), (1, false, 6), (1, false, 7), (1, false, 8), (2, false, 5), (2, false, 6), (2, false, 7), (2, false, 8), (2, false, 9), (2, false, 10), (3, false, 4), (4, false, 1), (4, false, 2), (4, false, 3), (4, false, 4), (4, false, 5), (5, false, 3), (6, false, 5), (6, false, 6), (6, false, 7), (6, false, 8), (7, false, 2), (7, false, 3), (7, false, 4), (11, false, 8), (14, true, 0), (15, true, 0), (16, true, 0), (17, true, 0), (18, true, 0), (19, true, 0), (20, true, 0), (21, true, 0), (22, true, 0), (23, true, 0), (27, true, 0), (28, true, 0)], 502989, 25, 564)
set_option maxRecDepth 1000000 in
theorem ck_76 : x_ok mLT [cx_71, cx_75] mTS mTC mRU cx_76 [(8, [0]), (44, [1])] [] [] (22, []) 502967 25 = true := by decide +kernel
theorem sn_76 {X : List Int32} : y_Snd mGa mLT (mJS X) X cx_76 := y_ok (fun _ _ _ => Iff.rfl) mTS_ok mTC_ok mRU_ok (List.forall_mem_cons.mpr ⟨sn_71, List.forall_mem_cons.mpr ⟨sn_75, fun _ h => absurd h List.not_mem_nil⟩⟩) ck_76
/-- HairRope.place -/
def cx_77 : zCtx := (141, ([(0, 3072)], [(0, false)], [], [], [(2, 0, 0, [])], [], []), [([(0, 3072), ((-2147483648), 2147483647)], [(0, false)], [], [], [(0, 0, 0, [(1, 1)])], [], [])], [], 3, 0, 0)
set_option maxRecDepth 1000000 in
theorem ck_77 : x_ok mLT [] mTS mTC mRU cx_77 [] [] [] (3, []) 0 6 = true := by decide +kernel
theorem sn_77 {X : List Int32} : y_Snd mGa mLT (mJS X) X cx_77 := y_ok (fun _ _ _ => Iff.rfl) mTS_ok mTC_ok mRU_ok (fun _ h => absurd h List.not_mem_nil) ck_77
/-- HairRope.isHouse -/
def cx_78 : zCtx := (143, ([(0, 3072), ((-2147483648), 2147483647)], [(0, false)], [], [], [(2, 0, 0, []), (0, 0, 0, [(1, 1)])], [], []), [([(0, 3072), (0, 5)], [(0, false)], [], [], [(0, 0, 1, [])], [], []), ([(0, 3072), (0, 2147483647)], [(0, false)], [], [], [(0, 0, 0, [])], [], []), ([(0, 3072), ((-2147483648), (-1))], [(0, false)], [], [], [(0, 0, 0, [])], [], [])], [], 14, 0, 0)
set_option maxRecDepth 1000000 in
theorem ck_78 : x_ok mLT [] mTS mTC mRU cx_78 [] [] [] (14, []) 0 17 = true := by decide +kernel
theorem sn_78 {X : List Int32} : y_Snd mGa mLT (mJS X) X cx_78 := y_ok (fun _ _ _ => Iff.rfl) mTS_ok mTC_ok mRU_ok (fun _ h => absurd h List.not_mem_nil) ck_78
/-- State.placeOf -/
def cx_79 : zCtx := (101, ([(0, 3072), ((-2147483648), 2147483647), (0, 6)], [(6, false)], [], [], [(2, 0, 0, []), (0, 0, 0, [(1, 1)])], [(0, (false, 6, 0, []), 0, 0, 0, [(2, 1)])], []), [([(0, 3072), ((-2147483648), 2147483647), (1, 6), (0, 5)], [(6, false)], [((-1), [(2, 1), (3, (-1))])], [], [(0, 0, 0, [(3, 1)])], [], []), ([(0, 3072), ((-2147483648), 2147483647), (0, 6)], [(6, false)], [], [], [(0, 0, (-1), [])], [], [])], [], 105, 0, 0)
set_option maxRecDepth 1000000 in
theorem ck_79 : x_ok mLT [] mTS mTC mRU cx_79 [] [] [(2, ([(0, 3072), ((-2147483648), 2147483647), (0, 6), (0, 6)], [(6, false)], [], [(2, 0, 0, []), (0, 0, 0, [(1, 1)]), (0, 0, 0, [(3, 1)])], [], [(0, (false, 6, 0, []), 0, 0, 0, [(2, 1)])], []), (102, [(3, (-16))]))] (105, []) 0 18 = true := by decide +kernel
theorem sn_79 {X : List Int32} : y_Snd mGa mLT (mJS X) X cx_79 := y_ok (fun _ _ _ => Iff.rfl) mTS_ok mTC_ok mRU_ok (fun _ h => absurd h List.not_mem_nil) ck_79
/-- Rules.strongOf -/
def cx_80 : zCtx := (89, ([(0, 3072), ((-2147483648), 2147483647), ((-1), 5)], [(5, false), (6, false)], [], [], [(2, 0, 0, []), (2, 1, 0, []), (0, 0, 0, [(1, 1)]), (0, 0, 0, [(2, 1)])], [], []), [([(0, 3072), ((-2147483648), 2147483647), (0, 5), ((-2147483648), 2147483647)], [(5, false), (6, false)], [], [], [(0, 0, 0, [(3, 1)])], [], []), ([(0, 3072), (0, 5), ((-1), (-1)), ((-2147483648), 2147483647)], [(5, false), (6, false)], [], [], [(0, 0, 0, [(3, 1)])], [], []), ([(0, 3072), (6, 2147483647), ((-1), (-1))], [(5, false), (6, false)], [], [], [(0, 0, 0, [])], [], []), ([(0, 3072), ((-2147483648), (-1)), ((-1), (-1))], [(5, false), (6, false)], [], [], [(0, 0, 0, [])], [], [])], [], 14, 0, 0)
set_option maxRecDepth 1000000 in
theorem ck_80 : x_ok mLT [] mTS mTC mRU cx_80 [] [] [] (14, []) 0 17 = true := by decide +kernel
theorem sn_80 {X : List Int32} : y_Snd mGa mLT (mJS X) X cx_80 := y_ok (fun _ _ _ => Iff.rfl) mTS_ok mTC_ok mRU_ok (fun _ h => absurd h List.not_mem_nil) ck_80
/-- Rules.lookAt -/
def cx_81 : zCtx := (88, ([(0, 3072), ((-2147483648), 2147483647), ((-1), 5)], [(5, false), (6, false)], [], [], [(2, 0, 0, []), (2, 1, 0, []), (0, 0, 0, [(1, 1)]), (0, 0, 0, [(2, 1)])], [], []), [([(0, 3072), (6, 2147483647), ((-1), 5)], [(5, false), (6, false)], [], [], [], [], []), ([(0, 3072), (0, 5), ((-1), (-1))], [(5, false), (6, false)], [], [], [], [], []), ([(0, 3072), (0, 5), (0, 5)], [(5, false), (6, false)], [], [], [], [], []), ([(0, 3072), ((-2147483648), (-1)), ((-1), 5)], [(5, false), (6, false)], [], [], [], [], [])], [(26, true, 0)], 79, 1, 64)
set_option maxRecDepth 1000000 in
theorem ck_81 : x_ok mLT [cx_80] mTS mTC mRU cx_81 [(32, [0])] [] [] (65, []) 14 68 = true := by decide +kernel
theorem sn_81 {X : List Int32} : y_Snd mGa mLT (mJS X) X cx_81 := y_ok (fun _ _ _ => Iff.rfl) mTS_ok mTC_ok mRU_ok (List.forall_mem_cons.mpr ⟨sn_80, fun _ h => absurd h List.not_mem_nil⟩) ck_81
/-- Laws.reckon -/
def cx_82 : zCtx := (52, ([(0, 3072), ((-2147483648), 2147483647), ((-2147483648), 2147483647), ((-2147483648), 2147483647)], [], [], [], [(0, 0, 0, [(1, 1)]), (0, 0, 0, [(2, 1)]), (0, 0, 0, [(3, 1)])], [], []), [([(0, 3072), ((-2147483648), 2147483647), ((-2147483648), 2147483647), ((-2147483648), 2147483647), ((-2147483648), 2147483647)], [], [], [], [(0, 0, 0, [(4, 1)])], [], []), ([(0, 3072), ((-2147483648), 2147483647), ((-2147483648), 2147483647), (0, 0)], [], [], [], [(0, 0, 0, [])], [], [])], [], 8, 0, 0)
set_option maxRecDepth 1000000 in
theorem ck_82 : x_ok mLT [] mTS mTC mRU cx_82 [] [] [] (8, []) 0 11 = true := by decide +kernel
theorem sn_82 {X : List Int32} : y_Snd mGa mLT (mJS X) X cx_82 := y_ok (fun _ _ _ => Iff.rfl) mTS_ok mTC_ok mRU_ok (fun _ h => absurd h List.not_mem_nil) ck_82
/-- Laws.answer -/
def cx_83 : zCtx := (51, ([(0, 3072), (0, 3), (0, 432)], [(3, false), (26, false)], [], [], [(2, 0, 0, []), (0, 0, 0, [(1, 1)]), (2, 1, 0, [])], [(0, (false, 4, 0, []), 0, 0, 0, [(2, 1)])], []), [([(0, 3072), (0, 3), (1, 432), ((-2147483648), 2147483647)], [(3, false), (26, false)], [], [], [(0, 0, 0, [(3, 1)])], [], []), ([(0, 3072), (0, 3), (0, 431)], [(3, false), (26, false)], [], [], [(0, 0, 0, [])], [], []), ([(0, 3072), (0, 3), (0, 432)], [(3, false), (26, false)], [], [], [(0, 0, 0, [])], [], [])], [(24, true, 0)], 52949, 1, 22)
set_option maxRecDepth 1000000 in
theorem ck_83 : x_ok mLT [cx_82] mTS mTC mRU cx_83 [(220, [0])] [] [(26, ([(0, 3072), (0, 3), (0, 432), ((-2147483648), 2147483647), (0, 22), (0, 840)], [(3, false), (26, false), (23, false)], [], [(2, 0, 0, []), (0, 0, 0, [(1, 1)]), (2, 1, 0, []), (0, 0, 0, [(3, 1)]), (0, 0, 0, [(4, 1)]), (0, 0, 0, [(5, 1)]), (5, 0, 0, []), (5, 0, 0, [])], [], [(0, (false, 2, 0, []), 2, 2, 0, []), (0, (false, 4, 0, []), 0, 0, 0, [(2, 1)])], []), (52925, [(4, 6), (5, (-63))]))] (52941, []) 8 71 = true := by decide +kernel
theorem sn_83 {X : List Int32} : y_Snd mGa mLT (mJS X) X cx_83 := y_ok (fun _ _ _ => Iff.rfl) mTS_ok mTC_ok mRU_ok (List.forall_mem_cons.mpr ⟨sn_82, fun _ h => absurd h List.not_mem_nil⟩) ck_83
/-- Rules.lawOf -/
def cx_84 : zCtx := (87, ([(0, 3072), (0, 3), (0, 5)], [(5, false), (6, false)], [], [], [(2, 0, 0, []), (0, 0, 0, [(1, 1)]), (2, 1, 0, []), (0, 0, 0, [(2, 1)])], [], []), [([(0, 3072), (0, 3), (0, 5)], [(5, false), (6, false)], [], [], [(0, 0, 0, [])], [], []), ([(0, 3072), (0, 3), (0, 5), (0, 99)], [(5, false), (6, false)], [], [], [(0, 0, 0, [(3, 1)])], [], [])], [(24, true, 0), (26, true, 0)], 52968, 2, 87)
set_option maxRecDepth 1000000 in
theorem ck_84 : x_ok mLT [cx_79, cx_81, cx_83] mTS mTC mRU cx_84 [(5, [0]), (8, [1]), (26, [2])] [] [] (19, []) 52949 22 = true := by decide +kernel
theorem sn_84 {X : List Int32} : y_Snd mGa mLT (mJS X) X cx_84 := y_ok (fun _ _ _ => Iff.rfl) mTS_ok mTC_ok mRU_ok (List.forall_mem_cons.mpr ⟨sn_79, List.forall_mem_cons.mpr ⟨sn_81, List.forall_mem_cons.mpr ⟨sn_83, fun _ h => absurd h List.not_mem_nil⟩⟩⟩) ck_84
/-- HairRope.house -/
def cx_85 : zCtx := (142, ([(0, 3072), ((-2147483648), 2147483647), ((-2147483648), 2147483647)], [(0, false)], [], [], [(2, 0, 0, []), (0, 0, 0, [(1, 1)]), (0, 0, 0, [(2, 1)])], [], []), [([(0, 3072), ((-2147483648), 2147483647), ((-2147483648), 2147483647)], [(0, false)], [], [], [(0, 0, (-1), [])], [], []), ([(0, 3072), (0, 5), (0, 8), ((-2147483648), 2147483647)], [(0, false)], [], [], [(0, 0, 0, [(3, 1)])], [], []), ([(0, 3072), (0, 5), (3, 7)], [(0, false)], [], [], [(0, 0, 0, [])], [], []), ([(0, 3072), (0, 5), (2, 2)], [(0, false)], [], [], [(0, 0, (-2), [])], [], [])], [(24, true, 0), (26, true, 0)], 52987, 3, 110)
set_option maxRecDepth 1000000 in
theorem ck_85 : x_ok mLT [cx_78, cx_79, cx_84] mTS mTC mRU cx_85 [(2, [0]), (15, [1]), (152, [2]), (166, [2]), (180, [2])] [] [] (19, []) 52968 22 = true := by decide +kernel
theorem sn_85 {X : List Int32} : y_Snd mGa mLT (mJS X) X cx_85 := y_ok (fun _ _ _ => Iff.rfl) mTS_ok mTC_ok mRU_ok (List.forall_mem_cons.mpr ⟨sn_78, List.forall_mem_cons.mpr ⟨sn_79, List.forall_mem_cons.mpr ⟨sn_84, fun _ h => absurd h List.not_mem_nil⟩⟩⟩) ck_85
/-- HairRope.areTwo -/
def cx_86 : zCtx := (145, ([(0, 3072), ((-2147483648), 2147483647), ((-2147483648), 2147483647)], [(0, false)], [], [], [(2, 0, 0, []), (0, 0, 0, [(1, 1)]), (0, 0, 0, [(2, 1)])], [], []), [([(0, 3072), ((-2147483648), (-1)), ((-2147483648), 2147483647)], [(0, false)], [], [], [(0, 0, 0, [])], [], []), ([(0, 3072), (0, 2147483647), ((-2147483648), 2147483647)], [(0, false)], [], [], [(0, 0, 0, [])], [], []), ([(0, 3072), (0, 5), (0, 5)], [(0, false)], [], [], [(0, 0, 1, [])], [], [])], [], 28, 1, 21)
set_option maxRecDepth 1000000 in
theorem ck_86 : x_ok mLT [cx_78] mTS mTC mRU cx_86 [(2, [0]), (10, [0])] [] [] (14, []) 14 17 = true := by decide +kernel
theorem sn_86 {X : List Int32} : y_Snd mGa mLT (mJS X) X cx_86 := y_ok (fun _ _ _ => Iff.rfl) mTS_ok mTC_ok mRU_ok (List.forall_mem_cons.mpr ⟨sn_78, fun _ h => absurd h List.not_mem_nil⟩) ck_86
/-- Text.likeOf -/
def cx_87 : zCtx := (135, ([(0, 3072), ((-2147483648), 2147483647), ((-2147483648), 2147483647)], [(2, false)], [], [], [(2, 0, 0, []), (0, 0, 0, [(1, 1)]), (0, 0, 0, [(2, 1)])], [], []), [([(0, 3072), ((-2147483648), (-1)), ((-2147483648), 2147483647)], [(2, false)], [], [], [(0, 0, 5, [])], [], []), ([(0, 3072), (6, 2147483647), ((-2147483648), 2147483647)], [(2, false)], [], [], [(0, 0, 5, [])], [], []), ([(0, 3072), (0, 5), ((-2147483648), (-1))], [(2, false)], [], [], [(0, 0, 5, [])], [], []), ([(0, 3072), (0, 5), (6, 2147483647)], [(2, false)], [], [], [(0, 0, 5, [])], [], []), ([(0, 3072), (0, 5), (0, 5), ((-2147483648), 2147483647)], [(2, false)], [], [], [(0, 0, 0, [(3, 1)])], [], [])], [], 24, 1, 20)
set_option maxRecDepth 1000000 in
theorem ck_87 : x_ok mLT [cx_44] mTS mTC mRU cx_87 [(1, [0]), (8, [0])] [] [] (16, []) 8 19 = true := by decide +kernel
theorem sn_87 {X : List Int32} : y_Snd mGa mLT (mJS X) X cx_87 := y_ok (fun _ _ _ => Iff.rfl) mTS_ok mTC_ok mRU_ok (List.forall_mem_cons.mpr ⟨sn_44, fun _ h => absurd h List.not_mem_nil⟩) ck_87
/-- HairRope.likes -/
def cx_88 : zCtx := (144, ([(0, 3072), ((-2147483648), 2147483647), ((-2147483648), 2147483647)], [(0, false)], [], [], [(2, 0, 0, []), (0, 0, 0, [(1, 1)]), (0, 0, 0, [(2, 1)])], [], []), [([(0, 3072), (0, 5), (0, 5), ((-2147483648), 2147483647)], [(0, false)], [], [], [(0, 0, 0, [(3, 1)])], [], []), ([(0, 3072), (0, 2147483647), ((-2147483648), 2147483647)], [(0, false)], [], [], [(0, 0, (-1), [])], [], []), ([(0, 3072), ((-2147483648), (-1)), ((-2147483648), 2147483647)], [(0, false)], [], [], [(0, 0, (-1), [])], [], [])], [], 41, 2, 43)
set_option maxRecDepth 1000000 in
theorem ck_88 : x_ok mLT [cx_86, cx_87] mTS mTC mRU cx_88 [(3, [0]), (18, [1])] [] [] (13, []) 28 16 = true := by decide +kernel
theorem sn_88 {X : List Int32} : y_Snd mGa mLT (mJS X) X cx_88 := y_ok (fun _ _ _ => Iff.rfl) mTS_ok mTC_ok mRU_ok (List.forall_mem_cons.mpr ⟨sn_86, List.forall_mem_cons.mpr ⟨sn_87, fun _ h => absurd h List.not_mem_nil⟩⟩) ck_88
/-- Rules.joinOf -/
def cx_89 : zCtx := (90, ([(0, 3072), ((-2147483648), 2147483647), ((-2147483648), 2147483647), ((-2147483648), 2147483647)], [(5, false), (6, false)], [], [], [(2, 0, 0, []), (2, 1, 0, []), (0, 0, 0, [(1, 1)]), (0, 0, 0, [(2, 1)]), (0, 0, 0, [(3, 1)])], [], []), [([(0, 3072), ((-2147483648), 2147483647), ((-2147483648), 2147483647), ((-2147483648), 2147483647)], [(5, false), (6, false)], [], [], [(0, 0, 0, [])], [], []), ([(0, 3072), ((-2147483648), 2147483647), ((-2147483648), 2147483647), ((-2147483648), 2147483647), (0, 999)], [(5, false), (6, false)], [], [], [(0, 0, 0, [(4, 1)])], [], [])], [(24, true, 0), (26, true, 0)], 52984, 2, 87)
set_option maxRecDepth 1000000 in
theorem ck_89 : x_ok mLT [cx_79, cx_81, cx_80, cx_83] mTS mTC mRU cx_89 [(5, [0]), (8, [1]), (30, [0]), (33, [2]), (53, [3])] [] [] (35, []) 52949 38 = true := by decide +kernel
theorem sn_89 {X : List Int32} : y_Snd mGa mLT (mJS X) X cx_89 := y_ok (fun _ _ _ => Iff.rfl) mTS_ok mTC_ok mRU_ok (List.forall_mem_cons.mpr ⟨sn_79, List.forall_mem_cons.mpr ⟨sn_81, List.forall_mem_cons.mpr ⟨sn_80, List.forall_mem_cons.mpr ⟨sn_83, fun _ h => absurd h List.not_mem_nil⟩⟩⟩⟩) ck_89
/-- HairRope.joins -/
def cx_90 : zCtx := (146, ([(0, 3072), ((-2147483648), 2147483647), ((-2147483648), 2147483647)], [(0, false)], [], [], [(2, 0, 0, []), (0, 0, 0, [(1, 1)]), (0, 0, 0, [(2, 1)])], [], []), [([(0, 3072), (0, 5), (0, 5), (0, 999)], [(0, false)], [], [], [(0, 0, 0, [(3, 1)])], [], []), ([(0, 3072), (0, 2147483647), ((-2147483648), 2147483647)], [(0, false)], [], [], [(0, 0, (-1), [])], [], []), ([(0, 3072), ((-2147483648), (-1)), ((-2147483648), 2147483647)], [(0, false)], [], [], [(0, 0, (-1), [])], [], [])], [(24, true, 0), (26, true, 0)], 53004, 3, 111)
set_option maxRecDepth 1000000 in
theorem ck_90 : x_ok mLT [cx_86, cx_87, cx_89] mTS mTC mRU cx_90 [(3, [0]), (28, [1]), (31, [2])] [] [] (20, []) 52984 23 = true := by decide +kernel
theorem sn_90 {X : List Int32} : y_Snd mGa mLT (mJS X) X cx_90 := y_ok (fun _ _ _ => Iff.rfl) mTS_ok mTC_ok mRU_ok (List.forall_mem_cons.mpr ⟨sn_86, List.forall_mem_cons.mpr ⟨sn_87, List.forall_mem_cons.mpr ⟨sn_89, fun _ h => absurd h List.not_mem_nil⟩⟩⟩) ck_90
/-- HairRope.isPlace -/
def cx_91 : zCtx := (148, ([(0, 3072), ((-2147483648), 2147483647)], [(0, false)], [], [], [(2, 0, 0, []), (0, 0, 0, [(1, 1)])], [], []), [([(0, 3072), (0, 5)], [(0, false)], [], [], [(0, 0, 1, [])], [], []), ([(0, 3072), (0, 2147483647)], [(0, false)], [], [], [(0, 0, 0, [])], [], []), ([(0, 3072), ((-2147483648), (-1))], [(0, false)], [], [], [(0, 0, 0, [])], [], [])], [], 13, 0, 0)
set_option maxRecDepth 1000000 in
theorem ck_91 : x_ok mLT [] mTS mTC mRU cx_91 [] [] [] (13, []) 0 16 = true := by decide +kernel
theorem sn_91 {X : List Int32} : y_Snd mGa mLT (mJS X) X cx_91 := y_ok (fun _ _ _ => Iff.rfl) mTS_ok mTC_ok mRU_ok (fun _ h => absurd h List.not_mem_nil) ck_91
/-- HairRope.at -/
def cx_92 : zCtx := (147, ([(0, 3072), ((-2147483648), 2147483647)], [(0, false)], [], [], [(2, 0, 0, []), (0, 0, 0, [(1, 1)])], [], []), [([(0, 3072), ((-2147483648), (-1))], [(0, false)], [], [], [(0, 0, (-1), [])], [], []), ([(0, 3072), (0, 2147483647)], [(0, false)], [], [], [(0, 0, (-1), [])], [], []), ([(0, 3072), (0, 5), ((-2147483648), 2147483647)], [(0, false)], [], [], [(0, 0, 0, [(2, 1)])], [], [])], [], 24, 1, 21)
set_option maxRecDepth 1000000 in
theorem ck_92 : x_ok mLT [cx_91] mTS mTC mRU cx_92 [(2, [0])] [] [] (11, []) 13 14 = true := by decide +kernel
theorem sn_92 {X : List Int32} : y_Snd mGa mLT (mJS X) X cx_92 := y_ok (fun _ _ _ => Iff.rfl) mTS_ok mTC_ok mRU_ok (List.forall_mem_cons.mpr ⟨sn_91, fun _ h => absurd h List.not_mem_nil⟩) ck_92
/-- History.pastAt -/
def cx_93 : zCtx := (41, ([(0, 3072), (0, 39), (0, 39)], [(7, false)], [], [], [(2, 0, 0, []), (0, 0, 0, [(1, 1)])], [(0, (false, 2, 0, []), 0, 0, 0, [(2, 1)])], []), [([(0, 3072), (0, 39), (0, 39)], [(7, false), (6, false)], [], [], [(2, 1, 0, [])], [], [])], [], 18, 0, 0)
set_option maxRecDepth 1000000 in
theorem ck_93 : x_ok mLT [] mTS mTC mRU cx_93 [] [] [] (18, []) 0 21 = true := by decide +kernel
theorem sn_93 {X : List Int32} : y_Snd mGa mLT (mJS X) X cx_93 := y_ok (fun _ _ _ => Iff.rfl) mTS_ok mTC_ok mRU_ok (fun _ h => absurd h List.not_mem_nil) ck_93
/-- State.copyFrom -/
def cx_94 : zCtx := (102, ([(0, 3072), (0, 6), (0, 6)], [(6, false), (6, false)], [], [], [(2, 0, 0, []), (2, 1, 0, [])], [(0, (false, 5, 0, []), 0, 0, 0, [(1, 1)]), (0, (false, 6, 0, []), 0, 0, 0, [(2, 1)])], []), [([(0, 3072), (0, 6), (0, 6), (0, 6), (0, 6)], [(6, false), (6, false)], [], [], [], [(0, (false, 6, 0, []), 0, 0, 0, [(3, 1)]), (0, (false, 5, 0, []), 0, 0, 0, [(4, 1)])], [])], [(6, false, 5), (6, false, 6), (6, false, 7), (6, false, 8), (27, true, 0), (28, true, 0), (29, true, 0), (30, true, 0), (31, true, 0)], 57, 1, 64)
set_option maxRecDepth 1000000 in
theorem ck_94 : x_ok mLT [] mTS mTC mRU cx_94 [] [] [] (57, []) 0 60 = true := by decide +kernel
theorem sn_94 {X : List Int32} : y_Snd mGa mLT (mJS X) X cx_94 := y_ok (fun _ _ _ => Iff.rfl) mTS_ok mTC_ok mRU_ok (fun _ h => absurd h List.not_mem_nil) ck_94
/-- History.keep -/
def cx_95 : zCtx := (40, ([(0, 3072), (0, 39), (0, 40)], [(7, false), (6, false)], [], [], [(2, 0, 0, []), (2, 1, 0, [])], [(0, (false, 2, 0, []), 0, 0, 0, [(1, 1)]), (0, (false, 3, 0, []), 0, 0, 0, [(2, 1)])], []), [([(0, 3072), (0, 39), (40, 40), (0, 39)], [(7, false), (6, false)], [], [], [], [(0, (false, 3, 0, []), 0, 0, 0, [(2, 1)]), (0, (false, 2, 0, []), 0, 0, 0, [(3, 1)])], []), ([(0, 3072), (0, 39), (0, 39)], [(7, false), (6, false)], [], [], [], [(0, (false, 3, 0, []), 0, 0, 1, [(2, 1)]), (0, (false, 2, 0, []), 0, 0, 0, [(1, 1)])], [])], [(6, false, 5), (6, false, 6), (6, false, 7), (6, false, 8), (7, false, 2), (7, false, 3), (27, true, 0), (28, true, 0), (29, true, 0), (30, true, 0), (31, true, 0)], 92, 2, 85)
set_option maxRecDepth 1000000 in
theorem ck_95 : x_ok mLT [cx_93, cx_94] mTS mTC mRU cx_95 [(37, [0]), (47, [1])] [] [] (35, []) 57 38 = true := by decide +kernel
theorem sn_95 {X : List Int32} : y_Snd mGa mLT (mJS X) X cx_95 := y_ok (fun _ _ _ => Iff.rfl) mTS_ok mTC_ok mRU_ok (List.forall_mem_cons.mpr ⟨sn_93, List.forall_mem_cons.mpr ⟨sn_94, fun _ h => absurd h List.not_mem_nil⟩⟩) ck_95
