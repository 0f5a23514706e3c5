noncomputable section
/-! ===== readings, by program, checked by the kernel ===== -/
/-- Parser.part -/
def cx_101 : zCtx := (64, ([ui0, (1, 2), ui52, ui52], [ur158, ur50, ur53], [], [], [uV2, uV64], [uF181, uF42, uF151, uF303, uF337], [uG338]), [([ui0, (1, 2), ui52, ui52, (1, 2), ui52], [ur158, ur50, ur53], [], [], [], [uF339, uF218], [uG340])], [], 21, 1, 22)
set_option maxRecDepth 1000000 in
theorem ck_101 : x_ok mLT [cx_99] mTS2 mTC2 mRUp cx_101 [(2, [0])] [(6, uN358), (98, uN362)] [(7, ([(0, 3072), (1, 2), (0, 2000), (0, 2000), (1, 2), (0, 2000)], [(4, false), (96, false), (1, false)], [(0, [(3, 1), (5, (-1))]), (0, [(3, (-1)), (5, 1)]), (0, [(1, 1), (4, (-1))]), (0, [(1, (-1)), (4, 1)])], [(2, 0, 0, []), (0, 0, 1, []), (0, 0, 0, []), (5, 0, 0, [])], [], [(0, (false, 2, 0, []), 0, 0, 0, [(4, 1)]), (2, (false, 7, 0, []), 0, 0, 0, [(5, 1)]), (0, (false, 2, 0, []), 0, 0, 0, [(1, 1)]), (0, (false, 1, 0, []), 2, 1, 0, []), (0, (false, 0, 0, []), 2, 2, 0, []), (2, (false, 5, 0, []), 0, 0, 0, [(2, 1)]), (2, (false, 7, 0, []), 0, 0, 0, [(3, 1)])], [(41, [(0, [(2, 1)]), (0, [(1, 1)]), (0, [(3, 1)])]), (41, [(0, [(2, 1)]), (0, [(4, 1)]), (0, [(5, 1)])])]), (7, []))] (13, []) 8 10 = true := by decide +kernel
theorem sn_101 {W : Bool} {X : List Int32} : y_Snd (mGw W) mLT (J2 W X) X cx_101 := y_ok J2_J mTS2_ok mTC2_ok mRUp_ok (List.forall_mem_cons.mpr ⟨sn_99, fun _ h => absurd h List.not_mem_nil⟩) ck_101
def cx_102p : zS := ((cx_67pi_0 (cx_67pi_1 [])), (cx_67pr_0 (cx_67pr_1 [])), [uL313], [], [uV2, uV64], (cx_67pf_0 (cx_67pf_1 (cx_67pf_2 []))), [uG315, uG316, uG392, uG318, uG363])
def cx_102q0g_0 (t : List zTg) : List zTg := uG325 :: uG326 :: uG393 :: uG364 :: uG365 :: uG366 :: t
def cx_102q0 : zS := ((cx_67q1i_0 (cx_67q1i_1 (cx_67q1i_2 []))), (cx_67pr_0 (cx_67pr_1 [])), [uL319], [], [], [uF165, uF320, uF321, uF322, uF323, uF305, uF306, uF324], (cx_102q0g_0 []))
/-- Parser.expression -/
def cx_102 : zCtx := (63, cx_102p, [cx_102q0, ([ui0, (0, 0), ui52, ui68, ui69, ui52, ui70, ui302, (0, 5), ui49, (0, 6), ui48, ui68, ui31, (1, 2), ui52], [ur158, ur50, ur53, ur71, ur72, ur73, ur7, ur18, ur19, ur8], [], [], [], [uF330, uF269], [uG331])], kc_3, 197189, 19, 427)
def cz_102_0g_0 (t : List zTg) : List zTg := uG343 :: uG363 :: uG348 :: uG349 :: uG394 :: uG351 :: uG367 :: uG368 :: t
def cz_102_0g_1 (t : List zTg) : List zTg := uG369 :: t
def cz_102_0 : zS := ((cz_70_0i_0 (cz_70_0i_1 (cz_70_0i_2 []))), (cx_67pr_0 (cx_67pr_1 [])), [uL313], [uV2, uV64, uV355, uV113], [], (cz_70_0f_0 (cz_70_0f_1 (cz_70_0f_2 []))), (cz_102_0g_0 (cz_102_0g_1 [])))
def cz_102_1 : zS := ((cz_70_1i_0 (cz_70_1i_1 (cz_70_1i_2 []))), (cx_67pr_0 (cx_67pr_1 [])), [uL313], [uV2, uV64, uV355, uV113], [], (cz_70_1f_0 (cz_70_1f_1 [])), [uG343, uG363, uG357])
set_option maxRecDepth 1000000 in
theorem ck_102 : x_ok mLT [cx_100, cx_35, cx_101, cx_66, cx_69] mTS2 mTC2 mRUp cx_102 [(2, [0]), (71, [1]), (77, [0, 2]), (89, [3, 4])] [(0, [1000550]), (6, uN370), (63, uN371), (75, uN372), (80, [1000556]), (92, uN373), (98, uN374)] [(7, cz_102_0, (16404, [(1, (-100000000000)), (14, (-41))])), (7, cz_102_1, (1204, [(1, (-100000000000)), (14, (-3))]))] (16410, []) 180779 43 = true := by decide +kernel
theorem sn_102 {W : Bool} {X : List Int32} : y_Snd (mGw W) mLT (J2 W X) X cx_102 := y_ok J2_J mTS2_ok mTC2_ok mRUp_ok (List.forall_mem_cons.mpr ⟨sn_100, List.forall_mem_cons.mpr ⟨sn_35, List.forall_mem_cons.mpr ⟨sn_101, List.forall_mem_cons.mpr ⟨sn_66, List.forall_mem_cons.mpr ⟨sn_69, fun _ h => absurd h List.not_mem_nil⟩⟩⟩⟩⟩) ck_102
/-- Parser.expression -/
def cx_103 : zCtx := (63, ([ui0, (1, 2), ui52, ui52], [ur158, ur50, ur53], [], [], [uV2, uV64], [uF181, uF42, uF151, uF303, uF337], [uG338]), [([ui0, (1, 2), ui52, ui52, (1, 2), ui52], [ur158, ur50, ur53], [], [], [], [uF339, uF218], [uG340])], [], 34, 2, 45)
set_option maxRecDepth 1000000 in
theorem ck_103 : x_ok mLT [cx_101] mTS2 mTC2 mRUp cx_103 [(2, [0])] [(0, [1000550]), (6, uN370), (98, uN374)] [(7, ([(0, 3072), (1, 2), (0, 2000), (0, 2000), (1, 2), (0, 2000)], [(4, false), (96, false), (1, false)], [(0, [(3, 1), (5, (-1))]), (0, [(3, (-1)), (5, 1)]), (0, [(1, 1), (4, (-1))]), (0, [(1, (-1)), (4, 1)])], [(2, 0, 0, []), (0, 0, 1, []), (0, 0, 0, []), (5, 0, 0, [])], [], [(0, (false, 2, 0, []), 0, 0, 0, [(4, 1)]), (2, (false, 7, 0, []), 0, 0, 0, [(5, 1)]), (0, (false, 2, 0, []), 0, 0, 0, [(1, 1)]), (0, (false, 1, 0, []), 2, 1, 0, []), (0, (false, 0, 0, []), 2, 2, 0, []), (2, (false, 5, 0, []), 0, 0, 0, [(2, 1)]), (2, (false, 7, 0, []), 0, 0, 0, [(3, 1)])], [(41, [(0, [(2, 1)]), (0, [(1, 1)]), (0, [(3, 1)])]), (41, [(0, [(2, 1)]), (0, [(4, 1)]), (0, [(5, 1)])])]), (7, []))] (13, []) 21 10 = true := by decide +kernel
theorem sn_103 {W : Bool} {X : List Int32} : y_Snd (mGw W) mLT (J2 W X) X cx_103 := y_ok J2_J mTS2_ok mTC2_ok mRUp_ok (List.forall_mem_cons.mpr ⟨sn_101, fun _ h => absurd h List.not_mem_nil⟩) ck_103
def cx_104p : zS := ((cx_67pi_0 (cx_67pi_1 [])), (cx_67pr_0 (cx_67pr_1 [])), [uL313], [], [uV2, uV62], (cx_67pf_0 (cx_67pf_1 (cx_67pf_2 []))), [uG315, uG316, uG395, uG318])
def cx_104q1 : zS := ((cx_67q1i_0 (cx_67q1i_1 (cx_67q1i_2 []))), (cx_67pr_0 (cx_67pr_1 [])), [uL319], [], [], [uF165, uF320, uF321, uF322, uF323, uF305, uF306, uF324], [uG325, uG326, uG396, uG328, uG329])
/-- Parser.unit -/
def cx_104 : zCtx := (65, cx_104p, [([ui0, (0, 0), ui52, ui68, ui69, ui52, ui70, ui302, (0, 5), ui49, (0, 6), ui48, ui68, ui31, (1, 2), ui52], [ur158, ur50, ur53, ur71, ur72, ur73, ur7, ur18, ur19, ur8], [], [], [], [uF330, uF269], [uG331]), cx_104q1], kc_3, 197225, 20, 450)
set_option maxRecDepth 1000000 in
theorem ck_104 : x_ok mLT [cx_35, cx_102, cx_103, cx_36, cx_66] mTS2 mTC2 mRUp cx_104 [(45, [0]), (53, [1, 2]), (59, [0, 3]), (87, [4]), (92, [0]), (126, [4]), (131, [0])] [(42, [1000139]), (49, uN377), (56, [1000141]), (63, uN378), (71, uN332), (90, [1000542]), (96, uN333), (113, uN334), (129, [1000544]), (135, uN335), (143, uN336)] [] (36, []) 197189 39 = true := by decide +kernel
theorem sn_104 {W : Bool} {X : List Int32} : y_Snd (mGw W) mLT (J2 W X) X cx_104 := y_ok J2_J mTS2_ok mTC2_ok mRUp_ok (List.forall_mem_cons.mpr ⟨sn_35, List.forall_mem_cons.mpr ⟨sn_102, List.forall_mem_cons.mpr ⟨sn_103, List.forall_mem_cons.mpr ⟨sn_36, List.forall_mem_cons.mpr ⟨sn_66, fun _ h => absurd h List.not_mem_nil⟩⟩⟩⟩⟩) ck_104
/-- Parser.unit -/
def cx_105 : zCtx := (65, ([ui0, (1, 2), ui52, ui52], [ur158, ur50, ur53], [], [], [uV2, uV62], [uF181, uF42, uF151, uF303, uF337], [uG338]), [([ui0, (1, 2), ui52, ui52, (1, 2), ui52], [ur158, ur50, ur53], [], [], [], [uF339, uF218], [uG340])], [], 8, 0, 0)
set_option maxRecDepth 1000000 in
theorem ck_105 : x_ok mLT [] mTS2 mTC2 mRUp cx_105 [] [] [] (8, []) 0 11 = true := by decide +kernel
theorem sn_105 {W : Bool} {X : List Int32} : y_Snd (mGw W) mLT (J2 W X) X cx_105 := y_ok J2_J mTS2_ok mTC2_ok mRUp_ok (fun _ h => absurd h List.not_mem_nil) ck_105
def cx_106p : zS := ((cx_67pi_0 (cx_67pi_1 [])), (cx_67pr_0 (cx_67pr_1 [])), [uL313], [], [uV2, uV62], (cx_67pf_0 (cx_67pf_1 (cx_67pf_2 []))), [uG315, uG316, uG395, uG318, uG343])
def cx_106q0g_0 (t : List zTg) : List zTg := uG325 :: uG326 :: uG396 :: uG344 :: uG345 :: uG346 :: t
def cx_106q0 : zS := ((cx_67q1i_0 (cx_67q1i_1 (cx_67q1i_2 []))), (cx_67pr_0 (cx_67pr_1 [])), [uL319], [], [], [uF165, uF320, uF321, uF322, uF323, uF305, uF306, uF324], (cx_106q0g_0 []))
/-- Parser.part -/
def cx_106 : zCtx := (64, cx_106p, [cx_106q0, ([ui0, (0, 0), ui52, ui68, ui69, ui52, ui70, ui302, (0, 5), ui49, (0, 6), ui48, ui68, ui31, (1, 2), ui52], [ur158, ur50, ur53, ur71, ur72, ur73, ur7, ur18, ur19, ur8], [], [], [], [uF330, uF269], [uG331])], kc_3, 213635, 21, 472)
def cz_106_0g_0 (t : List zTg) : List zTg := uG343 :: uG348 :: uG349 :: uG397 :: uG351 :: uG353 :: uG354 :: t
def cz_106_0 : zS := ((cz_70_0i_0 (cz_70_0i_1 (cz_70_0i_2 []))), (cx_67pr_0 (cx_67pr_1 [])), [uL313], [uV2, uV62, uV355, uV113], [], (cz_70_0f_0 (cz_70_0f_1 (cz_70_0f_2 []))), (cz_106_0g_0 []))
def cz_106_1 : zS := ((cz_70_1i_0 (cz_70_1i_1 (cz_70_1i_2 []))), (cx_67pr_0 (cx_67pr_1 [])), [uL313], [uV2, uV62, uV355, uV113], [], (cz_70_1f_0 (cz_70_1f_1 [])), [uG343, uG357])
set_option maxRecDepth 1000000 in
theorem ck_106 : x_ok mLT [cx_104, cx_35, cx_105, cx_66, cx_69] mTS2 mTC2 mRUp cx_106 [(2, [0]), (71, [1]), (77, [0, 2]), (89, [3, 4])] [(6, uN358), (63, uN359), (75, uN360), (80, [1000556]), (92, uN361), (98, uN362)] [(7, cz_106_0, (16404, [(1, (-100000000000)), (14, (-41))])), (7, cz_106_1, (1204, [(1, (-100000000000)), (14, (-3))]))] (16410, []) 197225 43 = true := by decide +kernel
theorem sn_106 {W : Bool} {X : List Int32} : y_Snd (mGw W) mLT (J2 W X) X cx_106 := y_ok J2_J mTS2_ok mTC2_ok mRUp_ok (List.forall_mem_cons.mpr ⟨sn_104, List.forall_mem_cons.mpr ⟨sn_35, List.forall_mem_cons.mpr ⟨sn_105, List.forall_mem_cons.mpr ⟨sn_66, List.forall_mem_cons.mpr ⟨sn_69, fun _ h => absurd h List.not_mem_nil⟩⟩⟩⟩⟩) ck_106
/-- Parser.part -/
def cx_107 : zCtx := (64, ([ui0, (1, 2), ui52, ui52], [ur158, ur50, ur53], [], [], [uV2, uV62], [uF181, uF42, uF151, uF303, uF337], [uG338]), [([ui0, (1, 2), ui52, ui52, (1, 2), ui52], [ur158, ur50, ur53], [], [], [], [uF339, uF218], [uG340])], [], 21, 1, 22)
set_option maxRecDepth 1000000 in
theorem ck_107 : x_ok mLT [cx_105] mTS2 mTC2 mRUp cx_107 [(2, [0])] [(6, uN358), (98, uN362)] [(7, ([(0, 3072), (1, 2), (0, 2000), (0, 2000), (1, 2), (0, 2000)], [(4, false), (96, false), (1, false)], [(0, [(3, 1), (5, (-1))]), (0, [(3, (-1)), (5, 1)]), (0, [(1, 1), (4, (-1))]), (0, [(1, (-1)), (4, 1)])], [(2, 0, 0, []), (0, 0, 0, []), (0, 0, 0, []), (5, 0, 0, [])], [], [(0, (false, 2, 0, []), 0, 0, 0, [(4, 1)]), (2, (false, 7, 0, []), 0, 0, 0, [(5, 1)]), (0, (false, 2, 0, []), 0, 0, 0, [(1, 1)]), (0, (false, 1, 0, []), 2, 1, 0, []), (0, (false, 0, 0, []), 2, 2, 0, []), (2, (false, 5, 0, []), 0, 0, 0, [(2, 1)]), (2, (false, 7, 0, []), 0, 0, 0, [(3, 1)])], [(41, [(0, [(2, 1)]), (0, [(1, 1)]), (0, [(3, 1)])]), (41, [(0, [(2, 1)]), (0, [(4, 1)]), (0, [(5, 1)])])]), (7, []))] (13, []) 8 10 = true := by decide +kernel
theorem sn_107 {W : Bool} {X : List Int32} : y_Snd (mGw W) mLT (J2 W X) X cx_107 := y_ok J2_J mTS2_ok mTC2_ok mRUp_ok (List.forall_mem_cons.mpr ⟨sn_105, fun _ h => absurd h List.not_mem_nil⟩) ck_107
def cx_108p : zS := ((cx_67pi_0 (cx_67pi_1 [])), (cx_67pr_0 (cx_67pr_1 [])), [uL313], [], [uV2, uV62], (cx_67pf_0 (cx_67pf_1 (cx_67pf_2 []))), [uG315, uG316, uG395, uG318, uG363])
def cx_108q1g_0 (t : List zTg) : List zTg := uG325 :: uG326 :: uG396 :: uG364 :: uG365 :: uG366 :: t
def cx_108q1 : zS := ((cx_67q1i_0 (cx_67q1i_1 (cx_67q1i_2 []))), (cx_67pr_0 (cx_67pr_1 [])), [uL319], [], [], [uF165, uF320, uF321, uF322, uF323, uF305, uF306, uF324], (cx_108q1g_0 []))
/-- Parser.expression -/
def cx_108 : zCtx := (63, cx_108p, [([ui0, (0, 0), ui52, ui68, ui69, ui52, ui70, ui302, (0, 5), ui49, (0, 6), ui48, ui68, ui31, (1, 2), ui52], [ur158, ur50, ur53, ur71, ur72, ur73, ur7, ur18, ur19, ur8], [], [], [], [uF330, uF269], [uG331]), cx_108q1], kc_3, 230045, 22, 495)
def cz_108_0 : zS := ((cz_70_1i_0 (cz_70_1i_1 (cz_70_1i_2 []))), (cx_67pr_0 (cx_67pr_1 [])), [uL313], [uV2, uV62, uV355, uV113], [], (cz_70_1f_0 (cz_70_1f_1 [])), [uG343, uG363, uG357])
def cz_108_1g_0 (t : List zTg) : List zTg := uG343 :: uG363 :: uG348 :: uG349 :: uG397 :: uG351 :: uG367 :: uG368 :: t
def cz_108_1g_1 (t : List zTg) : List zTg := uG369 :: t
def cz_108_1 : zS := ((cz_70_0i_0 (cz_70_0i_1 (cz_70_0i_2 []))), (cx_67pr_0 (cx_67pr_1 [])), [uL313], [uV2, uV62, uV355, uV113], [], (cz_70_0f_0 (cz_70_0f_1 (cz_70_0f_2 []))), (cz_108_1g_0 (cz_108_1g_1 [])))
set_option maxRecDepth 1000000 in
theorem ck_108 : x_ok mLT [cx_106, cx_35, cx_107, cx_66, cx_69] mTS2 mTC2 mRUp cx_108 [(2, [0]), (71, [1]), (77, [0, 2]), (89, [3, 4])] [(0, [1000550]), (6, uN370), (63, uN371), (75, uN372), (80, [1000556]), (92, uN373), (98, uN374)] [(7, cz_108_0, (1204, [(1, (-100000000000)), (14, (-3))])), (7, cz_108_1, (16404, [(1, (-100000000000)), (14, (-41))]))] (16410, []) 213635 43 = true := by decide +kernel
theorem sn_108 {W : Bool} {X : List Int32} : y_Snd (mGw W) mLT (J2 W X) X cx_108 := y_ok J2_J mTS2_ok mTC2_ok mRUp_ok (List.forall_mem_cons.mpr ⟨sn_106, List.forall_mem_cons.mpr ⟨sn_35, List.forall_mem_cons.mpr ⟨sn_107, List.forall_mem_cons.mpr ⟨sn_66, List.forall_mem_cons.mpr ⟨sn_69, fun _ h => absurd h List.not_mem_nil⟩⟩⟩⟩⟩) ck_108
/-- Parser.expression -/
def cx_109 : zCtx := (63, ([ui0, (1, 2), ui52, ui52], [ur158, ur50, ur53], [], [], [uV2, uV62], [uF181, uF42, uF151, uF303, uF337], [uG338]), [([ui0, (1, 2), ui52, ui52, (1, 2), ui52], [ur158, ur50, ur53], [], [], [], [uF339, uF218], [uG340])], [], 34, 2, 45)
set_option maxRecDepth 1000000 in
theorem ck_109 : x_ok mLT [cx_107] mTS2 mTC2 mRUp cx_109 [(2, [0])] [(0, [1000550]), (6, uN370), (98, uN374)] [(7, ([(0, 3072), (1, 2), (0, 2000), (0, 2000), (1, 2), (0, 2000)], [(4, false), (96, false), (1, false)], [(0, [(3, 1), (5, (-1))]), (0, [(3, (-1)), (5, 1)]), (0, [(1, 1), (4, (-1))]), (0, [(1, (-1)), (4, 1)])], [(2, 0, 0, []), (0, 0, 0, []), (0, 0, 0, []), (5, 0, 0, [])], [], [(0, (false, 2, 0, []), 0, 0, 0, [(4, 1)]), (2, (false, 7, 0, []), 0, 0, 0, [(5, 1)]), (0, (false, 2, 0, []), 0, 0, 0, [(1, 1)]), (0, (false, 1, 0, []), 2, 1, 0, []), (0, (false, 0, 0, []), 2, 2, 0, []), (2, (false, 5, 0, []), 0, 0, 0, [(2, 1)]), (2, (false, 7, 0, []), 0, 0, 0, [(3, 1)])], [(41, [(0, [(2, 1)]), (0, [(1, 1)]), (0, [(3, 1)])]), (41, [(0, [(2, 1)]), (0, [(4, 1)]), (0, [(5, 1)])])]), (7, []))] (13, []) 21 10 = true := by decide +kernel
theorem sn_109 {W : Bool} {X : List Int32} : y_Snd (mGw W) mLT (J2 W X) X cx_109 := y_ok J2_J mTS2_ok mTC2_ok mRUp_ok (List.forall_mem_cons.mpr ⟨sn_107, fun _ h => absurd h List.not_mem_nil⟩) ck_109
/-- Laws.aimHere -/
def cx_110 : zCtx := (50, ([ui0, ui398, ui399, ui52, ui68], [ur7, ur19], [uL9, (431, [(1, (-1))])], [], [uV2, uV11], [uF177, uF42], [uG400]), [([ui0, ui398, ui399, ui52, ui68], [ur7, ur19], [], [], [], [uF15], [uG400])], [uk30], 12, 0, 0)
set_option maxRecDepth 1000000 in
theorem ck_110 : x_ok mLT [] mTS2 mTC2 mRUp cx_110 [] [] [] (12, []) 0 15 = true := by decide +kernel
theorem sn_110 {W : Bool} {X : List Int32} : y_Snd (mGw W) mLT (J2 W X) X cx_110 := y_ok J2_J mTS2_ok mTC2_ok mRUp_ok (fun _ h => absurd h List.not_mem_nil) ck_110
/-- Laws.aimHere -/
def cx_111 : zCtx := (50, ([ui0, ui31, ui401], [ur7], [], [], [uV2, uV11], [uF177], []), [([ui0, ui341, ui401], [ur7], [], [], [], [], []), ([ui0, ui342, ui401], [ur7], [], [], [], [], [])], [uk30], 12, 0, 0)
set_option maxRecDepth 1000000 in
theorem ck_111 : x_ok mLT [] mTS2 mTC2 mRUp cx_111 [] [] [] (12, []) 0 15 = true := by decide +kernel
theorem sn_111 {W : Bool} {X : List Int32} : y_Snd (mGw W) mLT (J2 W X) X cx_111 := y_ok J2_J mTS2_ok mTC2_ok mRUp_ok (fun _ h => absurd h List.not_mem_nil) ck_111
/-- Laws.begin -/
def cx_112 : zCtx := (48, ([ui0, (0, 3), ui31, ui52, ui68, ui31, ui31], [ur7, ur8], [uL9, uL10], [], [uV2, uV11, uV12], [uF13], [uG402]), [([ui0, (0, 3), ui31, ui52, ui68, ui31, ui31], [ur7, ur8], [], [], [], [uF15], [uG402])], [uk16], 11, 0, 0)
set_option maxRecDepth 1000000 in
theorem ck_112 : x_ok mLT [] mTS2 mTC2 mRUp cx_112 [] [] [] (11, []) 0 14 = true := by decide +kernel
theorem sn_112 {W : Bool} {X : List Int32} : y_Snd (mGw W) mLT (J2 W X) X cx_112 := y_ok J2_J mTS2_ok mTC2_ok mRUp_ok (fun _ h => absurd h List.not_mem_nil) ck_112
/-- Laws.begin -/
def cx_113 : zCtx := (48, ([ui0, (0, 3), ui31], [ur7], [], [], [uV2, uV11, uV12], [], []), [([ui0, (0, 3), ui31], [ur7], [], [], [], [], [])], [uk16], 11, 0, 0)
set_option maxRecDepth 1000000 in
theorem ck_113 : x_ok mLT [] mTS2 mTC2 mRUp cx_113 [] [] [] (11, []) 0 14 = true := by decide +kernel
theorem sn_113 {W : Bool} {X : List Int32} : y_Snd (mGw W) mLT (J2 W X) X cx_113 := y_ok J2_J mTS2_ok mTC2_ok mRUp_ok (fun _ h => absurd h List.not_mem_nil) ck_113
def cx_114pi_0 (t : List (Int × Int)) : List (Int × Int) := ui0 :: (0, 3) :: (0, 0) :: ui52 :: ui68 :: ui52 :: ui70 :: (0, 5) :: t
def cx_114pi_1 (t : List (Int × Int)) : List (Int × Int) := ui49 :: (0, 6) :: ui48 :: ui68 :: ui31 :: t
def cx_114p : zS := ((cx_114pi_0 (cx_114pi_1 [])), (cx_65pr_0 (cx_65pr_1 [])), [], [], [uV2, uV11], (cx_65pf_0 (cx_65pf_1 (cx_65pf_2 []))), [uG160, uG294, uG295, uG296, uG297])
def cx_114q0i_0 (t : List (Int × Int)) : List (Int × Int) := ui0 :: (0, 3) :: (0, 0) :: ui52 :: ui68 :: ui52 :: ui70 :: (0, 5) :: t
def cx_114q0i_1 (t : List (Int × Int)) : List (Int × Int) := ui49 :: (0, 6) :: ui48 :: ui68 :: ui31 :: ui68 :: ui69 :: ui52 :: t
def cx_114q0i_2 (t : List (Int × Int)) : List (Int × Int) := ui70 :: ui31 :: t
def cx_114q0 : zS := ((cx_114q0i_0 (cx_114q0i_1 (cx_114q0i_2 []))), (cx_65pr_0 (cx_65pr_1 [])), [((-1), [(4, (-1)), (13, 1)]), uL9, uL10], [], [], [uF165, uF267, uF268, uF269, uF270, uF288, uF289, (7, (false, 4, 0, []), 0, 0, 0, [(17, 1)])], [(35, [uL23, uL205]), (36, [uL23, uL205, uL206, uL207, uL210]), (40, [uL23, uL205, uL63, uL63, uL63, uL163, uL169, uL79, uL131, uL239]), (43, [uL23, uL205, uL163]), (201, [uL23, uL205, uL211, uL63])])
/-- Parser.parseLaw -/
def cx_114 : zCtx := (62, cx_114p, [cx_114q0, ([ui0, (0, 3), (0, 0), ui52, ui68, ui52, ui70, (0, 5), ui49, (0, 6), ui48, ui68, ui31, (1, 2), ui52], [ur158, ur50, ur53, ur71, ur72, ur73, ur172, ur7, ur18, ur19, ur8], [], [], [], [uF214, uF199], [uG298])], kc_4, 231550, 23, 518)
def cq_114 : List zCtx := [cx_35, cx_36, cx_108, cx_109, cx_66, cx_69, cx_110, cx_111, cx_112, cx_113]
def cs_114 : List (Nat × List Nat) := [(23, [0]), (30, [0, 1]), (76, [0]), (82, [2, 3]), (88, [0, 1]), (94, [2, 3]), (119, [4, 5]), (126, [0, 1]), (132, [2, 3]), (145, [4, 5]), (152, [0, 1]), (165, [6, 7]), (201, [2, 3]), (214, [4, 5]), (220, [0, 1]), (233, [8, 9])]
def hs_114 : List (Nat × List Nat) := [(15, [1000171]), (27, [1000172, 1000173, 1000557]), (34, [1000174, 1000558]), (46, [1000188]), (72, [1000175]), (80, [1000176, 1000189, 1000559]), (85, [1000177, 1000189]), (92, [1000178, 1000189, 1000560]), (97, uN403), (122, [1000179, 1000189, 1000561]), (130, [1000180, 1000189, 1000562]), (135, uN403), (148, [1000181, 1000563]), (156, [1000182, 1000189, 1000564]), (168, [1000565]), (194, [1000183]), (199, [1000184, 1000185, 1000189]), (204, uN403), (217, [1000186, 1000189, 1000563]), (224, [1000187, 1000108, 1000189, 1000566]), (236, [1000190, 1000108, 1000567])]
def nd_114_0pi_0 (t : List (Int × Int)) : List (Int × Int) := ui0 :: (0, 3) :: (0, 0) :: ui52 :: ui404 :: ui52 :: ui70 :: (0, 5) :: t
def nd_114_0pi_1 (t : List (Int × Int)) : List (Int × Int) := ui49 :: (0, 6) :: ui48 :: ui68 :: ui31 :: (0, 4) :: ui405 :: ui69 :: t
def nd_114_0pi_2 (t : List (Int × Int)) : List (Int × Int) := ui52 :: ui70 :: ui31 :: ui68 :: ui406 :: t
def nd_114_0pf_0 (t : List zFa) : List zFa := uF165 :: uF320 :: uF321 :: uF322 :: uF323 :: uF42 :: uF151 :: uF152 :: t
def nd_114_0pf_1 (t : List zFa) : List zFa := uF155 :: uF156 :: uF157 :: uF288 :: uF289 :: uF188 :: uF189 :: uF228 :: t
def nd_114_0pf_2 (t : List zFa) : List zFa := uF290 :: uF291 :: uF292 :: uF293 :: (7, (false, 4, 0, []), 0, 0, 0, [(18, 1)]) :: t
def nd_114_0pg_0 (t : List zTg) : List zTg := uG295 :: uG296 :: (35, [uL23, uL206]) :: (36, [uL23, uL206, uL207, uL210, uL211]) :: (40, [uL23, uL206, (30, [(13, 1)]), uL63, uL63, uL163, uL169, uL79, uL131, uL193]) :: (50, [uL98, uL206, uL63]) :: (201, [uL23, uL206, uL275, uL63]) :: (209, [uL23, uL206]) :: t
def nd_114_0pg_1 (t : List zTg) : List zTg := (211, [uL23, uL352, uL212, uL9]) :: (40, [uL23, uL352, uL407, uL63, uL63, uL163, uL169, uL79, uL131, uL193]) :: t
def nd_114_0p : zS := ((nd_114_0pi_0 (nd_114_0pi_1 (nd_114_0pi_2 []))), (cx_65pr_0 (cx_65pr_1 [])), [], [uV2, uV11, uV196, uV408, uV113], [], (nd_114_0pf_0 (nd_114_0pf_1 (nd_114_0pf_2 []))), (nd_114_0pg_0 (nd_114_0pg_1 [])))
def nd_114_0 : zN := (47, nd_114_0p, ((-500000000000), [(2, (-500000000000)), (13, (-305)), (20, 16666666713)]))
def nd_114_1pi_0 (t : List (Int × Int)) : List (Int × Int) := ui0 :: (0, 3) :: (0, 0) :: ui52 :: ui68 :: ui52 :: ui70 :: (0, 5) :: t
def nd_114_1pi_1 (t : List (Int × Int)) : List (Int × Int) := ui49 :: (0, 6) :: ui48 :: ui68 :: ui31 :: (0, 4) :: (1, 2) :: ui52 :: t
def nd_114_1pi_2 (t : List (Int × Int)) : List (Int × Int) := ui31 :: t
def nd_114_1pf_0 (t : List zFa) : List zFa := uF330 :: uF269 :: uF42 :: uF151 :: uF152 :: uF155 :: uF156 :: uF157 :: t
def nd_114_1pf_1 (t : List zFa) : List zFa := uF288 :: uF289 :: uF188 :: uF189 :: uF228 :: uF290 :: uF291 :: uF292 :: t
def nd_114_1pf_2 (t : List zFa) : List zFa := uF293 :: (7, (false, 4, 0, []), 0, 0, 0, [(16, 1)]) :: t
def nd_114_1p : zS := ((nd_114_1pi_0 (nd_114_1pi_1 (nd_114_1pi_2 []))), (cx_65pr_0 (cx_65pr_1 [])), [], [uV2, uV11, uV196, uV408, uV113], [], (nd_114_1pf_0 (nd_114_1pf_1 (nd_114_1pf_2 []))), [(41, [uL23, uL206, uL207])])
def nd_114_1 : zN := (47, nd_114_1p, (120, [(2, (-500000000000)), (14, 25)]))
def ns_114 : List zN := [nd_114_0, nd_114_1]
set_option maxRecDepth 1000000 in
theorem ca_114 : x_okA mLT cq_114 mTS2 mTC2 mRUp cx_114 cs_114 hs_114 ns_114 (1505, []) 230045 63 = true := by decide +kernel
set_option maxRecDepth 1000000 in
theorem cb_114_0 : x_okB mLT cq_114 mTS2 mTC2 mRUp cx_114 cs_114 hs_114 ns_114 (1505, []) 230045 63 nd_114_0 = true := by decide +kernel
set_option maxRecDepth 1000000 in
theorem cb_114_1 : x_okB mLT cq_114 mTS2 mTC2 mRUp cx_114 cs_114 hs_114 ns_114 (1505, []) 230045 63 nd_114_1 = true := by decide +kernel
set_option maxRecDepth 1000000 in
theorem cc_114 : x_okC mLT cq_114 mTS2 mTC2 mRUp cx_114 cs_114 hs_114 ns_114 (1505, []) 230045 63 = true := by decide +kernel
theorem ck_114 : x_ok mLT cq_114 mTS2 mTC2 mRUp cx_114 cs_114 hs_114 ns_114 (1505, []) 230045 63 = true := x_ok_of ca_114 (List.forall_mem_cons.mpr ⟨cb_114_0, List.forall_mem_cons.mpr ⟨cb_114_1, fun _ h => absurd h List.not_mem_nil⟩⟩) cc_114
theorem sn_114 {W : Bool} {X : List Int32} : y_Snd (mGw W) mLT (J2 W X) X cx_114 := y_ok J2_J mTS2_ok mTC2_ok mRUp_ok (List.forall_mem_cons.mpr ⟨sn_35, List.forall_mem_cons.mpr ⟨sn_36, List.forall_mem_cons.mpr ⟨sn_108, List.forall_mem_cons.mpr ⟨sn_109, List.forall_mem_cons.mpr ⟨sn_66, List.forall_mem_cons.mpr ⟨sn_69, List.forall_mem_cons.mpr ⟨sn_110, List.forall_mem_cons.mpr ⟨sn_111, List.forall_mem_cons.mpr ⟨sn_112, List.forall_mem_cons.mpr ⟨sn_113, fun _ h => absurd h List.not_mem_nil⟩⟩⟩⟩⟩⟩⟩⟩⟩⟩) ck_114
end
