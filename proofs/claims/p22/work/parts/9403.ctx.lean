noncomputable section
/-! ===== readings, by program, checked by the kernel ===== -/
/-- Parser.part -/
def cx_83 : zCtx := (64, ([ui0, (1, 2), ui52, ui52], [ur158, ur50, ur53], [], [], [uV2, uV380], [uF181, uF42, uF151, uF303, uF337], [uG338]), [([ui0, (1, 2), ui52, ui52, (1, 2), ui52], [ur158, ur50, ur53], [], [], [], [uF339, uF218], [uG340])], [], 21, 1, 22)
set_option maxRecDepth 1000000 in
theorem ck_83 : x_ok mLT [cx_81] mTS2 mTC2 mRUp cx_83 [(2, [0])] [(6, uN358), (98, uN362)] [(7, ([(0, 3072), (1, 2), (0, 2000), (0, 2000), (1, 2), (0, 2000)], [(4, false), (96, false), (1, false)], [(0, [(3, 1), (5, (-1))]), (0, [(3, (-1)), (5, 1)]), (0, [(1, 1), (4, (-1))]), (0, [(1, (-1)), (4, 1)])], [(2, 0, 0, []), (0, 0, 4, []), (0, 0, 0, []), (5, 0, 0, [])], [], [(0, (false, 2, 0, []), 0, 0, 0, [(4, 1)]), (2, (false, 7, 0, []), 0, 0, 0, [(5, 1)]), (0, (false, 2, 0, []), 0, 0, 0, [(1, 1)]), (0, (false, 1, 0, []), 2, 1, 0, []), (0, (false, 0, 0, []), 2, 2, 0, []), (2, (false, 5, 0, []), 0, 0, 0, [(2, 1)]), (2, (false, 7, 0, []), 0, 0, 0, [(3, 1)])], [(41, [(0, [(2, 1)]), (0, [(1, 1)]), (0, [(3, 1)])]), (41, [(0, [(2, 1)]), (0, [(4, 1)]), (0, [(5, 1)])])]), (7, []))] (13, []) 8 10 = true := by decide +kernel
theorem sn_83 {W : Bool} {X : List Int32} : y_Snd (mGw W) mLT (J2 W X) X cx_83 := y_ok J2_J mTS2_ok mTC2_ok mRUp_ok (List.forall_mem_cons.mpr ⟨sn_81, fun _ h => absurd h List.not_mem_nil⟩) ck_83
def cx_84p : zS := ((cx_67pi_0 (cx_67pi_1 [])), (cx_67pr_0 (cx_67pr_1 [])), [uL313], [], [uV2, uV380], (cx_67pf_0 (cx_67pf_1 (cx_67pf_2 []))), [uG315, uG316, uG381, uG318, uG363])
def cx_84q1g_0 (t : List zTg) : List zTg := uG325 :: uG326 :: uG382 :: uG364 :: uG365 :: uG366 :: t
def cx_84q1 : zS := ((cx_67q1i_0 (cx_67q1i_1 (cx_67q1i_2 []))), (cx_67pr_0 (cx_67pr_1 [])), [uL319], [], [], [uF165, uF320, uF321, uF322, uF323, uF305, uF306, uF324], (cx_84q1g_0 []))
/-- Parser.expression -/
def cx_84 : zCtx := (63, cx_84p, [([ui0, (0, 0), ui52, ui68, ui69, ui52, ui70, ui302, (0, 5), ui49, (0, 6), ui48, ui68, ui31, (1, 2), ui52], [ur158, ur50, ur53, ur71, ur72, ur73, ur7, ur18, ur19, ur8], [], [], [], [uF330, uF269], [uG331]), cx_84q1], kc_3, 98621, 10, 223)
def cz_84_0 : zS := ((cz_70_1i_0 (cz_70_1i_1 (cz_70_1i_2 []))), (cx_67pr_0 (cx_67pr_1 [])), [uL313], [uV2, uV380, uV355, uV113], [], (cz_70_1f_0 (cz_70_1f_1 [])), [uG343, uG363, uG357])
def cz_84_1g_0 (t : List zTg) : List zTg := uG343 :: uG363 :: uG348 :: uG349 :: uG383 :: uG351 :: uG367 :: uG368 :: t
def cz_84_1g_1 (t : List zTg) : List zTg := uG369 :: t
def cz_84_1 : zS := ((cz_70_0i_0 (cz_70_0i_1 (cz_70_0i_2 []))), (cx_67pr_0 (cx_67pr_1 [])), [uL313], [uV2, uV380, uV355, uV113], [], (cz_70_0f_0 (cz_70_0f_1 (cz_70_0f_2 []))), (cz_84_1g_0 (cz_84_1g_1 [])))
set_option maxRecDepth 1000000 in
theorem ck_84 : x_ok mLT [cx_82, cx_35, cx_83, cx_66, cx_69] mTS2 mTC2 mRUp cx_84 [(2, [0]), (71, [1]), (77, [0, 2]), (89, [3, 4])] [(0, [1000550]), (6, uN370), (63, uN371), (75, uN372), (80, [1000556]), (92, uN373), (98, uN374)] [(7, cz_84_0, (1204, [(1, (-100000000000)), (14, (-3))])), (7, cz_84_1, (16404, [(1, (-100000000000)), (14, (-41))]))] (16410, []) 82211 43 = true := by decide +kernel
theorem sn_84 {W : Bool} {X : List Int32} : y_Snd (mGw W) mLT (J2 W X) X cx_84 := y_ok J2_J mTS2_ok mTC2_ok mRUp_ok (List.forall_mem_cons.mpr ⟨sn_82, List.forall_mem_cons.mpr ⟨sn_35, List.forall_mem_cons.mpr ⟨sn_83, List.forall_mem_cons.mpr ⟨sn_66, List.forall_mem_cons.mpr ⟨sn_69, fun _ h => absurd h List.not_mem_nil⟩⟩⟩⟩⟩) ck_84
/-- Parser.expression -/
def cx_85 : zCtx := (63, ([ui0, (1, 2), ui52, ui52], [ur158, ur50, ur53], [], [], [uV2, uV380], [uF181, uF42, uF151, uF303, uF337], [uG338]), [([ui0, (1, 2), ui52, ui52, (1, 2), ui52], [ur158, ur50, ur53], [], [], [], [uF339, uF218], [uG340])], [], 34, 2, 45)
set_option maxRecDepth 1000000 in
theorem ck_85 : x_ok mLT [cx_83] mTS2 mTC2 mRUp cx_85 [(2, [0])] [(0, [1000550]), (6, uN370), (98, uN374)] [(7, ([(0, 3072), (1, 2), (0, 2000), (0, 2000), (1, 2), (0, 2000)], [(4, false), (96, false), (1, false)], [(0, [(3, 1), (5, (-1))]), (0, [(3, (-1)), (5, 1)]), (0, [(1, 1), (4, (-1))]), (0, [(1, (-1)), (4, 1)])], [(2, 0, 0, []), (0, 0, 4, []), (0, 0, 0, []), (5, 0, 0, [])], [], [(0, (false, 2, 0, []), 0, 0, 0, [(4, 1)]), (2, (false, 7, 0, []), 0, 0, 0, [(5, 1)]), (0, (false, 2, 0, []), 0, 0, 0, [(1, 1)]), (0, (false, 1, 0, []), 2, 1, 0, []), (0, (false, 0, 0, []), 2, 2, 0, []), (2, (false, 5, 0, []), 0, 0, 0, [(2, 1)]), (2, (false, 7, 0, []), 0, 0, 0, [(3, 1)])], [(41, [(0, [(2, 1)]), (0, [(1, 1)]), (0, [(3, 1)])]), (41, [(0, [(2, 1)]), (0, [(4, 1)]), (0, [(5, 1)])])]), (7, []))] (13, []) 21 10 = true := by decide +kernel
theorem sn_85 {W : Bool} {X : List Int32} : y_Snd (mGw W) mLT (J2 W X) X cx_85 := y_ok J2_J mTS2_ok mTC2_ok mRUp_ok (List.forall_mem_cons.mpr ⟨sn_83, fun _ h => absurd h List.not_mem_nil⟩) ck_85
def cx_86p : zS := ((cx_67pi_0 (cx_67pi_1 [])), (cx_67pr_0 (cx_67pr_1 [])), [uL313], [], [uV2, uV384], (cx_67pf_0 (cx_67pf_1 (cx_67pf_2 []))), [uG315, uG316, uG385, uG318])
def cx_86q0 : zS := ((cx_67q1i_0 (cx_67q1i_1 (cx_67q1i_2 []))), (cx_67pr_0 (cx_67pr_1 [])), [uL319], [], [], [uF165, uF320, uF321, uF322, uF323, uF305, uF306, uF324], [uG325, uG326, uG386, uG328, uG329])
/-- Parser.unit -/
def cx_86 : zCtx := (65, cx_86p, [cx_86q0, ([ui0, (0, 0), ui52, ui68, ui69, ui52, ui70, ui302, (0, 5), ui49, (0, 6), ui48, ui68, ui31, (1, 2), ui52], [ur158, ur50, ur53, ur71, ur72, ur73, ur7, ur18, ur19, ur8], [], [], [], [uF330, uF269], [uG331])], kc_3, 98657, 11, 246)
set_option maxRecDepth 1000000 in
theorem ck_86 : x_ok mLT [cx_35, cx_84, cx_85, cx_36, cx_66] mTS2 mTC2 mRUp cx_86 [(45, [0]), (53, [1, 2]), (59, [0, 3]), (87, [4]), (92, [0]), (126, [4]), (131, [0])] [(42, [1000139]), (49, uN377), (56, [1000141]), (63, uN378), (71, uN332), (90, [1000542]), (96, uN333), (113, uN334), (129, [1000544]), (135, uN335), (143, uN336)] [] (36, []) 98621 39 = true := by decide +kernel
theorem sn_86 {W : Bool} {X : List Int32} : y_Snd (mGw W) mLT (J2 W X) X cx_86 := y_ok J2_J mTS2_ok mTC2_ok mRUp_ok (List.forall_mem_cons.mpr ⟨sn_35, List.forall_mem_cons.mpr ⟨sn_84, List.forall_mem_cons.mpr ⟨sn_85, List.forall_mem_cons.mpr ⟨sn_36, List.forall_mem_cons.mpr ⟨sn_66, fun _ h => absurd h List.not_mem_nil⟩⟩⟩⟩⟩) ck_86
/-- Parser.unit -/
def cx_87 : zCtx := (65, ([ui0, (1, 2), ui52, ui52], [ur158, ur50, ur53], [], [], [uV2, uV384], [uF181, uF42, uF151, uF303, uF337], [uG338]), [([ui0, (1, 2), ui52, ui52, (1, 2), ui52], [ur158, ur50, ur53], [], [], [], [uF339, uF218], [uG340])], [], 8, 0, 0)
set_option maxRecDepth 1000000 in
theorem ck_87 : x_ok mLT [] mTS2 mTC2 mRUp cx_87 [] [] [] (8, []) 0 11 = true := by decide +kernel
theorem sn_87 {W : Bool} {X : List Int32} : y_Snd (mGw W) mLT (J2 W X) X cx_87 := y_ok J2_J mTS2_ok mTC2_ok mRUp_ok (fun _ h => absurd h List.not_mem_nil) ck_87
def cx_88p : zS := ((cx_67pi_0 (cx_67pi_1 [])), (cx_67pr_0 (cx_67pr_1 [])), [uL313], [], [uV2, uV384], (cx_67pf_0 (cx_67pf_1 (cx_67pf_2 []))), [uG315, uG316, uG385, uG318, uG343])
def cx_88q1g_0 (t : List zTg) : List zTg := uG325 :: uG326 :: uG386 :: uG344 :: uG345 :: uG346 :: t
def cx_88q1 : zS := ((cx_67q1i_0 (cx_67q1i_1 (cx_67q1i_2 []))), (cx_67pr_0 (cx_67pr_1 [])), [uL319], [], [], [uF165, uF320, uF321, uF322, uF323, uF305, uF306, uF324], (cx_88q1g_0 []))
/-- Parser.part -/
def cx_88 : zCtx := (64, cx_88p, [([ui0, (0, 0), ui52, ui68, ui69, ui52, ui70, ui302, (0, 5), ui49, (0, 6), ui48, ui68, ui31, (1, 2), ui52], [ur158, ur50, ur53, ur71, ur72, ur73, ur7, ur18, ur19, ur8], [], [], [], [uF330, uF269], [uG331]), cx_88q1], kc_3, 115067, 12, 268)
def cz_88_0 : zS := ((cz_70_1i_0 (cz_70_1i_1 (cz_70_1i_2 []))), (cx_67pr_0 (cx_67pr_1 [])), [uL313], [uV2, uV384, uV355, uV113], [], (cz_70_1f_0 (cz_70_1f_1 [])), [uG343, uG357])
def cz_88_1g_0 (t : List zTg) : List zTg := uG343 :: uG348 :: uG349 :: uG387 :: uG351 :: uG353 :: uG354 :: t
def cz_88_1 : zS := ((cz_70_0i_0 (cz_70_0i_1 (cz_70_0i_2 []))), (cx_67pr_0 (cx_67pr_1 [])), [uL313], [uV2, uV384, uV355, uV113], [], (cz_70_0f_0 (cz_70_0f_1 (cz_70_0f_2 []))), (cz_88_1g_0 []))
set_option maxRecDepth 1000000 in
theorem ck_88 : x_ok mLT [cx_86, cx_35, cx_87, cx_66, cx_69] mTS2 mTC2 mRUp cx_88 [(2, [0]), (71, [1]), (77, [0, 2]), (89, [3, 4])] [(6, uN358), (63, uN359), (75, uN360), (80, [1000556]), (92, uN361), (98, uN362)] [(7, cz_88_0, (1204, [(1, (-100000000000)), (14, (-3))])), (7, cz_88_1, (16404, [(1, (-100000000000)), (14, (-41))]))] (16410, []) 98657 43 = true := by decide +kernel
theorem sn_88 {W : Bool} {X : List Int32} : y_Snd (mGw W) mLT (J2 W X) X cx_88 := y_ok J2_J mTS2_ok mTC2_ok mRUp_ok (List.forall_mem_cons.mpr ⟨sn_86, List.forall_mem_cons.mpr ⟨sn_35, List.forall_mem_cons.mpr ⟨sn_87, List.forall_mem_cons.mpr ⟨sn_66, List.forall_mem_cons.mpr ⟨sn_69, fun _ h => absurd h List.not_mem_nil⟩⟩⟩⟩⟩) ck_88
/-- Parser.part -/
def cx_89 : zCtx := (64, ([ui0, (1, 2), ui52, ui52], [ur158, ur50, ur53], [], [], [uV2, uV384], [uF181, uF42, uF151, uF303, uF337], [uG338]), [([ui0, (1, 2), ui52, ui52, (1, 2), ui52], [ur158, ur50, ur53], [], [], [], [uF339, uF218], [uG340])], [], 21, 1, 22)
set_option maxRecDepth 1000000 in
theorem ck_89 : x_ok mLT [cx_87] mTS2 mTC2 mRUp cx_89 [(2, [0])] [(6, uN358), (98, uN362)] [(7, ([(0, 3072), (1, 2), (0, 2000), (0, 2000), (1, 2), (0, 2000)], [(4, false), (96, false), (1, false)], [(0, [(3, 1), (5, (-1))]), (0, [(3, (-1)), (5, 1)]), (0, [(1, 1), (4, (-1))]), (0, [(1, (-1)), (4, 1)])], [(2, 0, 0, []), (0, 0, 3, []), (0, 0, 0, []), (5, 0, 0, [])], [], [(0, (false, 2, 0, []), 0, 0, 0, [(4, 1)]), (2, (false, 7, 0, []), 0, 0, 0, [(5, 1)]), (0, (false, 2, 0, []), 0, 0, 0, [(1, 1)]), (0, (false, 1, 0, []), 2, 1, 0, []), (0, (false, 0, 0, []), 2, 2, 0, []), (2, (false, 5, 0, []), 0, 0, 0, [(2, 1)]), (2, (false, 7, 0, []), 0, 0, 0, [(3, 1)])], [(41, [(0, [(2, 1)]), (0, [(1, 1)]), (0, [(3, 1)])]), (41, [(0, [(2, 1)]), (0, [(4, 1)]), (0, [(5, 1)])])]), (7, []))] (13, []) 8 10 = true := by decide +kernel
theorem sn_89 {W : Bool} {X : List Int32} : y_Snd (mGw W) mLT (J2 W X) X cx_89 := y_ok J2_J mTS2_ok mTC2_ok mRUp_ok (List.forall_mem_cons.mpr ⟨sn_87, fun _ h => absurd h List.not_mem_nil⟩) ck_89
def cx_90p : zS := ((cx_67pi_0 (cx_67pi_1 [])), (cx_67pr_0 (cx_67pr_1 [])), [uL313], [], [uV2, uV384], (cx_67pf_0 (cx_67pf_1 (cx_67pf_2 []))), [uG315, uG316, uG385, uG318, uG363])
def cx_90q0g_0 (t : List zTg) : List zTg := uG325 :: uG326 :: uG386 :: uG364 :: uG365 :: uG366 :: t
def cx_90q0 : zS := ((cx_67q1i_0 (cx_67q1i_1 (cx_67q1i_2 []))), (cx_67pr_0 (cx_67pr_1 [])), [uL319], [], [], [uF165, uF320, uF321, uF322, uF323, uF305, uF306, uF324], (cx_90q0g_0 []))
/-- Parser.expression -/
def cx_90 : zCtx := (63, cx_90p, [cx_90q0, ([ui0, (0, 0), ui52, ui68, ui69, ui52, ui70, ui302, (0, 5), ui49, (0, 6), ui48, ui68, ui31, (1, 2), ui52], [ur158, ur50, ur53, ur71, ur72, ur73, ur7, ur18, ur19, ur8], [], [], [], [uF330, uF269], [uG331])], kc_3, 131477, 13, 291)
def cz_90_0g_0 (t : List zTg) : List zTg := uG343 :: uG363 :: uG348 :: uG349 :: uG387 :: uG351 :: uG367 :: uG368 :: t
def cz_90_0g_1 (t : List zTg) : List zTg := uG369 :: t
def cz_90_0 : zS := ((cz_70_0i_0 (cz_70_0i_1 (cz_70_0i_2 []))), (cx_67pr_0 (cx_67pr_1 [])), [uL313], [uV2, uV384, uV355, uV113], [], (cz_70_0f_0 (cz_70_0f_1 (cz_70_0f_2 []))), (cz_90_0g_0 (cz_90_0g_1 [])))
def cz_90_1 : zS := ((cz_70_1i_0 (cz_70_1i_1 (cz_70_1i_2 []))), (cx_67pr_0 (cx_67pr_1 [])), [uL313], [uV2, uV384, uV355, uV113], [], (cz_70_1f_0 (cz_70_1f_1 [])), [uG343, uG363, uG357])
set_option maxRecDepth 1000000 in
theorem ck_90 : x_ok mLT [cx_88, cx_35, cx_89, cx_66, cx_69] mTS2 mTC2 mRUp cx_90 [(2, [0]), (71, [1]), (77, [0, 2]), (89, [3, 4])] [(0, [1000550]), (6, uN370), (63, uN371), (75, uN372), (80, [1000556]), (92, uN373), (98, uN374)] [(7, cz_90_0, (16404, [(1, (-100000000000)), (14, (-41))])), (7, cz_90_1, (1204, [(1, (-100000000000)), (14, (-3))]))] (16410, []) 115067 43 = true := by decide +kernel
theorem sn_90 {W : Bool} {X : List Int32} : y_Snd (mGw W) mLT (J2 W X) X cx_90 := y_ok J2_J mTS2_ok mTC2_ok mRUp_ok (List.forall_mem_cons.mpr ⟨sn_88, List.forall_mem_cons.mpr ⟨sn_35, List.forall_mem_cons.mpr ⟨sn_89, List.forall_mem_cons.mpr ⟨sn_66, List.forall_mem_cons.mpr ⟨sn_69, fun _ h => absurd h List.not_mem_nil⟩⟩⟩⟩⟩) ck_90
/-- Parser.expression -/
def cx_91 : zCtx := (63, ([ui0, (1, 2), ui52, ui52], [ur158, ur50, ur53], [], [], [uV2, uV384], [uF181, uF42, uF151, uF303, uF337], [uG338]), [([ui0, (1, 2), ui52, ui52, (1, 2), ui52], [ur158, ur50, ur53], [], [], [], [uF339, uF218], [uG340])], [], 34, 2, 45)
set_option maxRecDepth 1000000 in
theorem ck_91 : x_ok mLT [cx_89] mTS2 mTC2 mRUp cx_91 [(2, [0])] [(0, [1000550]), (6, uN370), (98, uN374)] [(7, ([(0, 3072), (1, 2), (0, 2000), (0, 2000), (1, 2), (0, 2000)], [(4, false), (96, false), (1, false)], [(0, [(3, 1), (5, (-1))]), (0, [(3, (-1)), (5, 1)]), (0, [(1, 1), (4, (-1))]), (0, [(1, (-1)), (4, 1)])], [(2, 0, 0, []), (0, 0, 3, []), (0, 0, 0, []), (5, 0, 0, [])], [], [(0, (false, 2, 0, []), 0, 0, 0, [(4, 1)]), (2, (false, 7, 0, []), 0, 0, 0, [(5, 1)]), (0, (false, 2, 0, []), 0, 0, 0, [(1, 1)]), (0, (false, 1, 0, []), 2, 1, 0, []), (0, (false, 0, 0, []), 2, 2, 0, []), (2, (false, 5, 0, []), 0, 0, 0, [(2, 1)]), (2, (false, 7, 0, []), 0, 0, 0, [(3, 1)])], [(41, [(0, [(2, 1)]), (0, [(1, 1)]), (0, [(3, 1)])]), (41, [(0, [(2, 1)]), (0, [(4, 1)]), (0, [(5, 1)])])]), (7, []))] (13, []) 21 10 = true := by decide +kernel
theorem sn_91 {W : Bool} {X : List Int32} : y_Snd (mGw W) mLT (J2 W X) X cx_91 := y_ok J2_J mTS2_ok mTC2_ok mRUp_ok (List.forall_mem_cons.mpr ⟨sn_89, fun _ h => absurd h List.not_mem_nil⟩) ck_91
def cx_92p : zS := ((cx_67pi_0 (cx_67pi_1 [])), (cx_67pr_0 (cx_67pr_1 [])), [uL313], [], [uV2, uV388], (cx_67pf_0 (cx_67pf_1 (cx_67pf_2 []))), [uG315, uG316, uG389, uG318])
def cx_92q1 : zS := ((cx_67q1i_0 (cx_67q1i_1 (cx_67q1i_2 []))), (cx_67pr_0 (cx_67pr_1 [])), [uL319], [], [], [uF165, uF320, uF321, uF322, uF323, uF305, uF306, uF324], [uG325, uG326, uG390, uG328, uG329])
/-- Parser.unit -/
def cx_92 : zCtx := (65, cx_92p, [([ui0, (0, 0), ui52, ui68, ui69, ui52, ui70, ui302, (0, 5), ui49, (0, 6), ui48, ui68, ui31, (1, 2), ui52], [ur158, ur50, ur53, ur71, ur72, ur73, ur7, ur18, ur19, ur8], [], [], [], [uF330, uF269], [uG331]), cx_92q1], kc_3, 131513, 14, 314)
set_option maxRecDepth 1000000 in
theorem ck_92 : x_ok mLT [cx_35, cx_90, cx_91, cx_36, cx_66] mTS2 mTC2 mRUp cx_92 [(45, [0]), (53, [1, 2]), (59, [0, 3]), (87, [4]), (92, [0]), (126, [4]), (131, [0])] [(42, [1000139]), (49, uN377), (56, [1000141]), (63, uN378), (71, uN332), (90, [1000542]), (96, uN333), (113, uN334), (129, [1000544]), (135, uN335), (143, uN336)] [] (36, []) 131477 39 = true := by decide +kernel
theorem sn_92 {W : Bool} {X : List Int32} : y_Snd (mGw W) mLT (J2 W X) X cx_92 := y_ok J2_J mTS2_ok mTC2_ok mRUp_ok (List.forall_mem_cons.mpr ⟨sn_35, List.forall_mem_cons.mpr ⟨sn_90, List.forall_mem_cons.mpr ⟨sn_91, List.forall_mem_cons.mpr ⟨sn_36, List.forall_mem_cons.mpr ⟨sn_66, fun _ h => absurd h List.not_mem_nil⟩⟩⟩⟩⟩) ck_92
/-- Parser.unit -/
def cx_93 : zCtx := (65, ([ui0, (1, 2), ui52, ui52], [ur158, ur50, ur53], [], [], [uV2, uV388], [uF181, uF42, uF151, uF303, uF337], [uG338]), [([ui0, (1, 2), ui52, ui52, (1, 2), ui52], [ur158, ur50, ur53], [], [], [], [uF339, uF218], [uG340])], [], 8, 0, 0)
set_option maxRecDepth 1000000 in
theorem ck_93 : x_ok mLT [] mTS2 mTC2 mRUp cx_93 [] [] [] (8, []) 0 11 = true := by decide +kernel
theorem sn_93 {W : Bool} {X : List Int32} : y_Snd (mGw W) mLT (J2 W X) X cx_93 := y_ok J2_J mTS2_ok mTC2_ok mRUp_ok (fun _ h => absurd h List.not_mem_nil) ck_93
def cx_94p : zS := ((cx_67pi_0 (cx_67pi_1 [])), (cx_67pr_0 (cx_67pr_1 [])), [uL313], [], [uV2, uV388], (cx_67pf_0 (cx_67pf_1 (cx_67pf_2 []))), [uG315, uG316, uG389, uG318, uG343])
def cx_94q0g_0 (t : List zTg) : List zTg := uG325 :: uG326 :: uG390 :: uG344 :: uG345 :: uG346 :: t
def cx_94q0 : zS := ((cx_67q1i_0 (cx_67q1i_1 (cx_67q1i_2 []))), (cx_67pr_0 (cx_67pr_1 [])), [uL319], [], [], [uF165, uF320, uF321, uF322, uF323, uF305, uF306, uF324], (cx_94q0g_0 []))
/-- Parser.part -/
def cx_94 : zCtx := (64, cx_94p, [cx_94q0, ([ui0, (0, 0), ui52, ui68, ui69, ui52, ui70, ui302, (0, 5), ui49, (0, 6), ui48, ui68, ui31, (1, 2), ui52], [ur158, ur50, ur53, ur71, ur72, ur73, ur7, ur18, ur19, ur8], [], [], [], [uF330, uF269], [uG331])], kc_3, 147923, 15, 336)
def cz_94_0g_0 (t : List zTg) : List zTg := uG343 :: uG348 :: uG349 :: uG391 :: uG351 :: uG353 :: uG354 :: t
def cz_94_0 : zS := ((cz_70_0i_0 (cz_70_0i_1 (cz_70_0i_2 []))), (cx_67pr_0 (cx_67pr_1 [])), [uL313], [uV2, uV388, uV355, uV113], [], (cz_70_0f_0 (cz_70_0f_1 (cz_70_0f_2 []))), (cz_94_0g_0 []))
def cz_94_1 : zS := ((cz_70_1i_0 (cz_70_1i_1 (cz_70_1i_2 []))), (cx_67pr_0 (cx_67pr_1 [])), [uL313], [uV2, uV388, uV355, uV113], [], (cz_70_1f_0 (cz_70_1f_1 [])), [uG343, uG357])
set_option maxRecDepth 1000000 in
theorem ck_94 : x_ok mLT [cx_92, cx_35, cx_93, cx_66, cx_69] mTS2 mTC2 mRUp cx_94 [(2, [0]), (71, [1]), (77, [0, 2]), (89, [3, 4])] [(6, uN358), (63, uN359), (75, uN360), (80, [1000556]), (92, uN361), (98, uN362)] [(7, cz_94_0, (16404, [(1, (-100000000000)), (14, (-41))])), (7, cz_94_1, (1204, [(1, (-100000000000)), (14, (-3))]))] (16410, []) 131513 43 = true := by decide +kernel
theorem sn_94 {W : Bool} {X : List Int32} : y_Snd (mGw W) mLT (J2 W X) X cx_94 := y_ok J2_J mTS2_ok mTC2_ok mRUp_ok (List.forall_mem_cons.mpr ⟨sn_92, List.forall_mem_cons.mpr ⟨sn_35, List.forall_mem_cons.mpr ⟨sn_93, List.forall_mem_cons.mpr ⟨sn_66, List.forall_mem_cons.mpr ⟨sn_69, fun _ h => absurd h List.not_mem_nil⟩⟩⟩⟩⟩) ck_94
/-- Parser.part -/
def cx_95 : zCtx := (64, ([ui0, (1, 2), ui52, ui52], [ur158, ur50, ur53], [], [], [uV2, uV388], [uF181, uF42, uF151, uF303, uF337], [uG338]), [([ui0, (1, 2), ui52, ui52, (1, 2), ui52], [ur158, ur50, ur53], [], [], [], [uF339, uF218], [uG340])], [], 21, 1, 22)
set_option maxRecDepth 1000000 in
theorem ck_95 : x_ok mLT [cx_93] mTS2 mTC2 mRUp cx_95 [(2, [0])] [(6, uN358), (98, uN362)] [(7, ([(0, 3072), (1, 2), (0, 2000), (0, 2000), (1, 2), (0, 2000)], [(4, false), (96, false), (1, false)], [(0, [(3, 1), (5, (-1))]), (0, [(3, (-1)), (5, 1)]), (0, [(1, 1), (4, (-1))]), (0, [(1, (-1)), (4, 1)])], [(2, 0, 0, []), (0, 0, 2, []), (0, 0, 0, []), (5, 0, 0, [])], [], [(0, (false, 2, 0, []), 0, 0, 0, [(4, 1)]), (2, (false, 7, 0, []), 0, 0, 0, [(5, 1)]), (0, (false, 2, 0, []), 0, 0, 0, [(1, 1)]), (0, (false, 1, 0, []), 2, 1, 0, []), (0, (false, 0, 0, []), 2, 2, 0, []), (2, (false, 5, 0, []), 0, 0, 0, [(2, 1)]), (2, (false, 7, 0, []), 0, 0, 0, [(3, 1)])], [(41, [(0, [(2, 1)]), (0, [(1, 1)]), (0, [(3, 1)])]), (41, [(0, [(2, 1)]), (0, [(4, 1)]), (0, [(5, 1)])])]), (7, []))] (13, []) 8 10 = true := by decide +kernel
theorem sn_95 {W : Bool} {X : List Int32} : y_Snd (mGw W) mLT (J2 W X) X cx_95 := y_ok J2_J mTS2_ok mTC2_ok mRUp_ok (List.forall_mem_cons.mpr ⟨sn_93, fun _ h => absurd h List.not_mem_nil⟩) ck_95
def cx_96p : zS := ((cx_67pi_0 (cx_67pi_1 [])), (cx_67pr_0 (cx_67pr_1 [])), [uL313], [], [uV2, uV388], (cx_67pf_0 (cx_67pf_1 (cx_67pf_2 []))), [uG315, uG316, uG389, uG318, uG363])
def cx_96q1g_0 (t : List zTg) : List zTg := uG325 :: uG326 :: uG390 :: uG364 :: uG365 :: uG366 :: t
def cx_96q1 : zS := ((cx_67q1i_0 (cx_67q1i_1 (cx_67q1i_2 []))), (cx_67pr_0 (cx_67pr_1 [])), [uL319], [], [], [uF165, uF320, uF321, uF322, uF323, uF305, uF306, uF324], (cx_96q1g_0 []))
/-- Parser.expression -/
def cx_96 : zCtx := (63, cx_96p, [([ui0, (0, 0), ui52, ui68, ui69, ui52, ui70, ui302, (0, 5), ui49, (0, 6), ui48, ui68, ui31, (1, 2), ui52], [ur158, ur50, ur53, ur71, ur72, ur73, ur7, ur18, ur19, ur8], [], [], [], [uF330, uF269], [uG331]), cx_96q1], kc_3, 164333, 16, 359)
def cz_96_0 : zS := ((cz_70_1i_0 (cz_70_1i_1 (cz_70_1i_2 []))), (cx_67pr_0 (cx_67pr_1 [])), [uL313], [uV2, uV388, uV355, uV113], [], (cz_70_1f_0 (cz_70_1f_1 [])), [uG343, uG363, uG357])
def cz_96_1g_0 (t : List zTg) : List zTg := uG343 :: uG363 :: uG348 :: uG349 :: uG391 :: uG351 :: uG367 :: uG368 :: t
def cz_96_1g_1 (t : List zTg) : List zTg := uG369 :: t
def cz_96_1 : zS := ((cz_70_0i_0 (cz_70_0i_1 (cz_70_0i_2 []))), (cx_67pr_0 (cx_67pr_1 [])), [uL313], [uV2, uV388, uV355, uV113], [], (cz_70_0f_0 (cz_70_0f_1 (cz_70_0f_2 []))), (cz_96_1g_0 (cz_96_1g_1 [])))
set_option maxRecDepth 1000000 in
theorem ck_96 : x_ok mLT [cx_94, cx_35, cx_95, cx_66, cx_69] mTS2 mTC2 mRUp cx_96 [(2, [0]), (71, [1]), (77, [0, 2]), (89, [3, 4])] [(0, [1000550]), (6, uN370), (63, uN371), (75, uN372), (80, [1000556]), (92, uN373), (98, uN374)] [(7, cz_96_0, (1204, [(1, (-100000000000)), (14, (-3))])), (7, cz_96_1, (16404, [(1, (-100000000000)), (14, (-41))]))] (16410, []) 147923 43 = true := by decide +kernel
theorem sn_96 {W : Bool} {X : List Int32} : y_Snd (mGw W) mLT (J2 W X) X cx_96 := y_ok J2_J mTS2_ok mTC2_ok mRUp_ok (List.forall_mem_cons.mpr ⟨sn_94, List.forall_mem_cons.mpr ⟨sn_35, List.forall_mem_cons.mpr ⟨sn_95, List.forall_mem_cons.mpr ⟨sn_66, List.forall_mem_cons.mpr ⟨sn_69, fun _ h => absurd h List.not_mem_nil⟩⟩⟩⟩⟩) ck_96
/-- Parser.expression -/
def cx_97 : zCtx := (63, ([ui0, (1, 2), ui52, ui52], [ur158, ur50, ur53], [], [], [uV2, uV388], [uF181, uF42, uF151, uF303, uF337], [uG338]), [([ui0, (1, 2), ui52, ui52, (1, 2), ui52], [ur158, ur50, ur53], [], [], [], [uF339, uF218], [uG340])], [], 34, 2, 45)
set_option maxRecDepth 1000000 in
theorem ck_97 : x_ok mLT [cx_95] mTS2 mTC2 mRUp cx_97 [(2, [0])] [(0, [1000550]), (6, uN370), (98, uN374)] [(7, ([(0, 3072), (1, 2), (0, 2000), (0, 2000), (1, 2), (0, 2000)], [(4, false), (96, false), (1, false)], [(0, [(3, 1), (5, (-1))]), (0, [(3, (-1)), (5, 1)]), (0, [(1, 1), (4, (-1))]), (0, [(1, (-1)), (4, 1)])], [(2, 0, 0, []), (0, 0, 2, []), (0, 0, 0, []), (5, 0, 0, [])], [], [(0, (false, 2, 0, []), 0, 0, 0, [(4, 1)]), (2, (false, 7, 0, []), 0, 0, 0, [(5, 1)]), (0, (false, 2, 0, []), 0, 0, 0, [(1, 1)]), (0, (false, 1, 0, []), 2, 1, 0, []), (0, (false, 0, 0, []), 2, 2, 0, []), (2, (false, 5, 0, []), 0, 0, 0, [(2, 1)]), (2, (false, 7, 0, []), 0, 0, 0, [(3, 1)])], [(41, [(0, [(2, 1)]), (0, [(1, 1)]), (0, [(3, 1)])]), (41, [(0, [(2, 1)]), (0, [(4, 1)]), (0, [(5, 1)])])]), (7, []))] (13, []) 21 10 = true := by decide +kernel
theorem sn_97 {W : Bool} {X : List Int32} : y_Snd (mGw W) mLT (J2 W X) X cx_97 := y_ok J2_J mTS2_ok mTC2_ok mRUp_ok (List.forall_mem_cons.mpr ⟨sn_95, fun _ h => absurd h List.not_mem_nil⟩) ck_97
def cx_98p : zS := ((cx_67pi_0 (cx_67pi_1 [])), (cx_67pr_0 (cx_67pr_1 [])), [uL313], [], [uV2, uV64], (cx_67pf_0 (cx_67pf_1 (cx_67pf_2 []))), [uG315, uG316, uG392, uG318])
def cx_98q0 : zS := ((cx_67q1i_0 (cx_67q1i_1 (cx_67q1i_2 []))), (cx_67pr_0 (cx_67pr_1 [])), [uL319], [], [], [uF165, uF320, uF321, uF322, uF323, uF305, uF306, uF324], [uG325, uG326, uG393, uG328, uG329])
/-- Parser.unit -/
def cx_98 : zCtx := (65, cx_98p, [cx_98q0, ([ui0, (0, 0), ui52, ui68, ui69, ui52, ui70, ui302, (0, 5), ui49, (0, 6), ui48, ui68, ui31, (1, 2), ui52], [ur158, ur50, ur53, ur71, ur72, ur73, ur7, ur18, ur19, ur8], [], [], [], [uF330, uF269], [uG331])], kc_3, 164369, 17, 382)
set_option maxRecDepth 1000000 in
theorem ck_98 : x_ok mLT [cx_35, cx_96, cx_97, cx_36, cx_66] mTS2 mTC2 mRUp cx_98 [(45, [0]), (53, [1, 2]), (59, [0, 3]), (87, [4]), (92, [0]), (126, [4]), (131, [0])] [(42, [1000139]), (49, uN377), (56, [1000141]), (63, uN378), (71, uN332), (90, [1000542]), (96, uN333), (113, uN334), (129, [1000544]), (135, uN335), (143, uN336)] [] (36, []) 164333 39 = true := by decide +kernel
theorem sn_98 {W : Bool} {X : List Int32} : y_Snd (mGw W) mLT (J2 W X) X cx_98 := y_ok J2_J mTS2_ok mTC2_ok mRUp_ok (List.forall_mem_cons.mpr ⟨sn_35, List.forall_mem_cons.mpr ⟨sn_96, List.forall_mem_cons.mpr ⟨sn_97, List.forall_mem_cons.mpr ⟨sn_36, List.forall_mem_cons.mpr ⟨sn_66, fun _ h => absurd h List.not_mem_nil⟩⟩⟩⟩⟩) ck_98
/-- Parser.unit -/
def cx_99 : zCtx := (65, ([ui0, (1, 2), ui52, ui52], [ur158, ur50, ur53], [], [], [uV2, uV64], [uF181, uF42, uF151, uF303, uF337], [uG338]), [([ui0, (1, 2), ui52, ui52, (1, 2), ui52], [ur158, ur50, ur53], [], [], [], [uF339, uF218], [uG340])], [], 8, 0, 0)
set_option maxRecDepth 1000000 in
theorem ck_99 : x_ok mLT [] mTS2 mTC2 mRUp cx_99 [] [] [] (8, []) 0 11 = true := by decide +kernel
theorem sn_99 {W : Bool} {X : List Int32} : y_Snd (mGw W) mLT (J2 W X) X cx_99 := y_ok J2_J mTS2_ok mTC2_ok mRUp_ok (fun _ h => absurd h List.not_mem_nil) ck_99
def cx_100p : zS := ((cx_67pi_0 (cx_67pi_1 [])), (cx_67pr_0 (cx_67pr_1 [])), [uL313], [], [uV2, uV64], (cx_67pf_0 (cx_67pf_1 (cx_67pf_2 []))), [uG315, uG316, uG392, uG318, uG343])
def cx_100q1g_0 (t : List zTg) : List zTg := uG325 :: uG326 :: uG393 :: uG344 :: uG345 :: uG346 :: t
def cx_100q1 : zS := ((cx_67q1i_0 (cx_67q1i_1 (cx_67q1i_2 []))), (cx_67pr_0 (cx_67pr_1 [])), [uL319], [], [], [uF165, uF320, uF321, uF322, uF323, uF305, uF306, uF324], (cx_100q1g_0 []))
/-- Parser.part -/
def cx_100 : zCtx := (64, cx_100p, [([ui0, (0, 0), ui52, ui68, ui69, ui52, ui70, ui302, (0, 5), ui49, (0, 6), ui48, ui68, ui31, (1, 2), ui52], [ur158, ur50, ur53, ur71, ur72, ur73, ur7, ur18, ur19, ur8], [], [], [], [uF330, uF269], [uG331]), cx_100q1], kc_3, 180779, 18, 404)
def cz_100_0 : zS := ((cz_70_1i_0 (cz_70_1i_1 (cz_70_1i_2 []))), (cx_67pr_0 (cx_67pr_1 [])), [uL313], [uV2, uV64, uV355, uV113], [], (cz_70_1f_0 (cz_70_1f_1 [])), [uG343, uG357])
def cz_100_1g_0 (t : List zTg) : List zTg := uG343 :: uG348 :: uG349 :: uG394 :: uG351 :: uG353 :: uG354 :: t
def cz_100_1 : zS := ((cz_70_0i_0 (cz_70_0i_1 (cz_70_0i_2 []))), (cx_67pr_0 (cx_67pr_1 [])), [uL313], [uV2, uV64, uV355, uV113], [], (cz_70_0f_0 (cz_70_0f_1 (cz_70_0f_2 []))), (cz_100_1g_0 []))
set_option maxRecDepth 1000000 in
theorem ck_100 : x_ok mLT [cx_98, cx_35, cx_99, cx_66, cx_69] mTS2 mTC2 mRUp cx_100 [(2, [0]), (71, [1]), (77, [0, 2]), (89, [3, 4])] [(6, uN358), (63, uN359), (75, uN360), (80, [1000556]), (92, uN361), (98, uN362)] [(7, cz_100_0, (1204, [(1, (-100000000000)), (14, (-3))])), (7, cz_100_1, (16404, [(1, (-100000000000)), (14, (-41))]))] (16410, []) 164369 43 = true := by decide +kernel
theorem sn_100 {W : Bool} {X : List Int32} : y_Snd (mGw W) mLT (J2 W X) X cx_100 := y_ok J2_J mTS2_ok mTC2_ok mRUp_ok (List.forall_mem_cons.mpr ⟨sn_98, List.forall_mem_cons.mpr ⟨sn_35, List.forall_mem_cons.mpr ⟨sn_99, List.forall_mem_cons.mpr ⟨sn_66, List.forall_mem_cons.mpr ⟨sn_69, fun _ h => absurd h List.not_mem_nil⟩⟩⟩⟩⟩) ck_100
end
