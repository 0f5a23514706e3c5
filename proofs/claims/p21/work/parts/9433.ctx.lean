noncomputable section
/-! ===== readings, by program, checked by the kernel ===== -/
def cx_722p : zS := ([ui0, ui49, ui49, ui49, (0, 1), ui49, (0, 1), ui31], (cx_596pr_0 (cx_596pr_1 [])), [], [], [uV2, uV11, uV12, uV58], (cx_721pf_0 (cx_721pf_1 [])), [uG2111, uG2365])
/-- M.harvest -/
def cx_722 : zCtx := (296, cx_722p, [([ui0, (0, 5), ui1209, ui49, (0, 1), ui49, (0, 1), ui31], [ur1331, ur1378, ur1379, ur1389, ur1390, ur1391, ur1392, ur1393, ur1387, ur1388], [], [], [uV61], [uF1893, uF2364], []), ([ui0, (0, 5), ui838, ui49, (0, 1), ui49, (0, 1), ui31], [ur1331, ur1378, ur1379, ur1389, ur1390, ur1391, ur1392, ur1393, ur1387, ur1388], [], [], [uV61], [uF1893, uF2364], []), ([ui0, (0, 5), ui843, ui262, (0, 1), ui49, (0, 1), ui31], [ur1331, ur1378, ur1379, ur1389, ur1390, ur1391, ur1392, ur1393, ur1387, ur1388], [], [], [uV61], [uF1893, uF2364], []), ([ui0, (0, 5), ui843, ui1063, (0, 1), ui49, (0, 1), ui31], [ur1331, ur1378, ur1379, ur1389, ur1390, ur1391, ur1392, ur1393, ur1387, ur1388], [], [], [uV61], [uF1893, uF2364], []), ([ui0, ui510, ui49, ui49, (0, 1), ui49, (0, 1), ui31], [ur1331, ur1378, ur1379, ur1389, ur1390, ur1391, ur1392, ur1393, ur1387, ur1388], [], [], [uV61], [uF1893, uF2364], []), ([ui0, ui262, ui49, ui49, (0, 1), ui49, (0, 1), ui31], [ur1331, ur1378, ur1379, ur1389, ur1390, ur1391, ur1392, ur1393, ur1387, ur1388], [], [], [uV61], [uF1893, uF2364], []), ([ui0, (0, 5), ui843, (0, 0), (0, 1), ui49, (0, 1), ui31, ui844, ui49, (0, 1)], [ur1331, ur1378, ur1379, ur1389, ur1390, ur1391, ur1392, ur1393, ur1387, ur1388], [], [], [uV144], [uF2261, uF2366], []), ([ui0, (0, 5), ui843, (1, 1), (0, 1), ui49, (0, 1), ui31, ui2346, ui49, (0, 1)], [ur1331, ur1378, ur1379, ur1389, ur1390, ur1391, ur1392, ur1393, ur1387, ur1388], [], [], [uV144], [uF2261, uF2366], [])], kc_82, 81005, 6, 130)
def cz_722_0i_0 (t : List (Int × Int)) : List (Int × Int) := ui0 :: (0, 5) :: ui843 :: (0, 1) :: (0, 1) :: ui49 :: (0, 1) :: ui31 :: t
def cz_722_0i_1 (t : List (Int × Int)) : List (Int × Int) := ui844 :: ui2346 :: ui1103 :: ui49 :: (0, 1) :: t
def cz_722_0f_0 (t : List zFa) : List zFa := uF2107 :: uF2356 :: uF2367 :: uF1394 :: uF1395 :: uF2027 :: uF2028 :: uF2029 :: t
def cz_722_0f_1 (t : List zFa) : List zFa := uF2030 :: uF2031 :: uF1625 :: uF1626 :: t
def cz_722_0 : zS := ((cz_722_0i_0 (cz_722_0i_1 [])), (cx_596pr_0 (cx_596pr_1 [])), [], [uV2, uV11, uV12, uV58, uV144, uV778, uV825, uV113], [], (cz_722_0f_0 (cz_722_0f_1 [])), [uG2111, uG2365])
set_option maxRecDepth 1000000 in
theorem ck_722 : x_ok mLT1 [cx_640, cx_504, cx_721] mTS2 mTC2 mRUp cx_722 [(2, [0]), (12, [1]), (21, [1]), (49, [2])] [] [(38, cz_722_0, (1205, [(10, (-19))]))] (1207, []) 79798 23 = true := by decide +kernel
theorem sn_722 {W : Bool} {X : List Int32} : y_Snd (mGw W) mLT1 (J2 W X) X cx_722 := y_ok J2_J mTS2_ok1 mTC2_ok1 mRUp_ok1 (List.forall_mem_cons.mpr ⟨sn_640, List.forall_mem_cons.mpr ⟨sn_504, List.forall_mem_cons.mpr ⟨sn_721, fun _ h => absurd h List.not_mem_nil⟩⟩⟩) ck_722
def cx_723p : zS := ([ui0, ui1204, (0, 1), ui2246, (0, 0), ui31], (cx_596pr_0 (cx_596pr_1 [])), [], [], [uV2, uV11], (cx_604pf_0 (cx_604pf_1 [])), [uG2067, uG2236])
/-- M.goes -/
def cx_723 : zCtx := (255, cx_723p, [([ui0, ui1204, (0, 1), ui2246, (0, 0), ui31], [ur1331, ur1378, ur1379, ur1389, ur1390, ur1391, ur1392, ur1393, ur1387, ur1388], [], [], [], [], [])], [uk2063, uk2055, uk2064, uk1898, uk2214, uk2215], 78623, 5, 105)
def cz_723_0 : zS := ([ui0, ui1204, (0, 1), ui2246, (0, 0), ui31, ui844], (cx_596pr_0 (cx_596pr_1 [])), [], [uV2, uV11, uV108], [], (cx_604pf_0 (cx_604pf_1 [])), [uG2067, uG2236])
set_option maxRecDepth 1000000 in
theorem ck_723 : x_ok mLT1 [cx_603] mTS2 mTC2 mRUp cx_723 [(8, [0])] [] [(2, cz_723_0, (508, [(4, (-100000000000)), (6, (-8))]))] (511, []) 78112 10 = true := by decide +kernel
theorem sn_723 {W : Bool} {X : List Int32} : y_Snd (mGw W) mLT1 (J2 W X) X cx_723 := y_ok J2_J mTS2_ok1 mTC2_ok1 mRUp_ok1 (List.forall_mem_cons.mpr ⟨sn_603, fun _ h => absurd h List.not_mem_nil⟩) ck_723
/-- M.then -/
def cx_724 : zCtx := (298, cx_722p, [([ui0, (0, 5), ui1204, ui262, (0, 1), ui49, (0, 1), ui31], [ur1331, ur1378, ur1379, ur1389, ur1390, ur1391, ur1392, ur1393, ur1387, ur1388], [], [], [uV61], [uF1893, uF2364], []), ([ui0, (0, 5), ui1204, ui1063, (0, 1), ui49, (0, 1), ui31], [ur1331, ur1378, ur1379, ur1389, ur1390, ur1391, ur1392, ur1393, ur1387, ur1388], [], [], [uV61], [uF1893, uF2364], []), ([ui0, (0, 5), ui1204, (0, 0), (0, 1), ui49, (0, 1), ui31, ui196, ui196], [ur1331, ur1378, ur1379, ur1389, ur1390, ur1391, ur1392, ur1393, ur1387, ur1388], [], [], [uV144], [uF1892, uF2261], []), ([ui0, (0, 5), ui1204, (1, 1), (0, 1), ui49, (0, 1), ui31, ui196, ui196], [ur1331, ur1378, ur1379, ur1389, ur1390, ur1391, ur1392, ur1393, ur1387, ur1388], [], [], [uV144], [uF1892, uF2261], []), ([ui0, (0, 5), ui838, ui49, (0, 1), ui49, (0, 1), ui31], [ur1331, ur1378, ur1379, ur1389, ur1390, ur1391, ur1392, ur1393, ur1387, ur1388], [], [], [uV61], [uF1893, uF2364], []), ([ui0, (0, 5), ui262, ui49, (0, 1), ui49, (0, 1), ui31], [ur1331, ur1378, ur1379, ur1389, ur1390, ur1391, ur1392, ur1393, ur1387, ur1388], [], [], [uV61], [uF1893, uF2364], []), ([ui0, ui510, ui49, ui49, (0, 1), ui49, (0, 1), ui31], [ur1331, ur1378, ur1379, ur1389, ur1390, ur1391, ur1392, ur1393, ur1387, ur1388], [], [], [uV61], [uF1893, uF2364], []), ([ui0, ui262, ui49, ui49, (0, 1), ui49, (0, 1), ui31], [ur1331, ur1378, ur1379, ur1389, ur1390, ur1391, ur1392, ur1393, ur1387, ur1388], [], [], [uV61], [uF1893, uF2364], [])], kc_82, 78649, 6, 127)
set_option maxRecDepth 1000000 in
theorem ck_724 : x_ok mLT1 [cx_640, cx_566, cx_504, cx_508, cx_723] mTS2 mTC2 mRUp cx_724 [(2, [0]), (9, [1]), (18, [2]), (27, [3]), (32, [4])] [] [] (26, []) 78623 29 = true := by decide +kernel
theorem sn_724 {W : Bool} {X : List Int32} : y_Snd (mGw W) mLT1 (J2 W X) X cx_724 := y_ok J2_J mTS2_ok1 mTC2_ok1 mRUp_ok1 (List.forall_mem_cons.mpr ⟨sn_640, List.forall_mem_cons.mpr ⟨sn_566, List.forall_mem_cons.mpr ⟨sn_504, List.forall_mem_cons.mpr ⟨sn_508, List.forall_mem_cons.mpr ⟨sn_723, fun _ h => absurd h List.not_mem_nil⟩⟩⟩⟩⟩) ck_724
/-- M.isMark -/
def cx_725 : zCtx := (300, ([ui0, ui49], [], [], [], [uV11], [], []), [([ui0, ui262], [], [], [], [uV62], [], []), ([ui0, ui1250], [], [], [], [uV62], [], []), ([ui0, ui524], [], [], [], [uV64], [], [])], [], 14, 1, 22)
set_option maxRecDepth 1000000 in
theorem ck_725 : x_ok mLT1 [cx_504] mTS2 mTC2 mRUp cx_725 [(4, [0])] [] [] (5, []) 9 8 = true := by decide +kernel
theorem sn_725 {W : Bool} {X : List Int32} : y_Snd (mGw W) mLT1 (J2 W X) X cx_725 := y_ok J2_J mTS2_ok1 mTC2_ok1 mRUp_ok1 (List.forall_mem_cons.mpr ⟨sn_504, fun _ h => absurd h List.not_mem_nil⟩) ck_725
def cx_726pi_0 (t : List (Int × Int)) : List (Int × Int) := ui0 :: ui49 :: ui49 :: ui49 :: ui49 :: (0, 1) :: ui49 :: (0, 1) :: t
def cx_726pi_1 (t : List (Int × Int)) : List (Int × Int) := ui31 :: t
def cx_726pf_0 (t : List zFa) : List zFa := uF2368 :: uF2248 :: uF2369 :: uF1394 :: uF1395 :: uF2027 :: uF2028 :: uF2029 :: t
def cx_726pf_1 (t : List zFa) : List zFa := uF2030 :: uF2031 :: uF1625 :: uF1626 :: t
def cx_726p : zS := ((cx_726pi_0 (cx_726pi_1 [])), (cx_596pr_0 (cx_596pr_1 [])), [], [], [uV2, uV11, uV12, uV58, uV97], (cx_726pf_0 (cx_726pf_1 [])), [uG2370, uG2371])
/-- M.year -/
def cx_726 : zCtx := (299, cx_726p, [([ui0, ui49, ui49, ui49, ui49, (0, 1), ui49, (0, 1), ui31], [ur1331, ur1378, ur1379, ur1389, ur1390, ur1391, ur1392, ur1393, ur1387, ur1388], [], [], [uV61], [uF2248, uF2369], []), ([ui0, (0, 5), ui524, ui1204, ui1251, (0, 1), ui49, (0, 1), ui31, ui49, ui49, (0, 1)], [ur1331, ur1378, ur1379, ur1389, ur1390, ur1391, ur1392, ur1393, ur1387, ur1388], [], [], [uV778], [uF2344, (0, (false, 50, 0, []), 0, 0, 0, [(11, 1)])], [])], kc_82, 79176, 6, 127)
def cz_726_0i_0 (t : List (Int × Int)) : List (Int × Int) := ui0 :: (0, 5) :: ui524 :: ui1204 :: ui1251 :: (0, 1) :: ui49 :: (0, 1) :: t
def cz_726_0i_1 (t : List (Int × Int)) : List (Int × Int) := ui31 :: ui49 :: ui425 :: ui49 :: (0, 1) :: t
def cz_726_0f_0 (t : List zFa) : List zFa := uF2368 :: uF2356 :: uF2367 :: uF1394 :: uF1395 :: uF2027 :: uF2028 :: uF2029 :: t
def cz_726_0f_1 (t : List zFa) : List zFa := uF2030 :: uF2031 :: uF1625 :: uF1626 :: t
def cz_726_0 : zS := ((cz_726_0i_0 (cz_726_0i_1 [])), (cx_596pr_0 (cx_596pr_1 [])), [], [uV2, uV11, uV12, uV58, uV97, uV778, uV825], [], (cz_726_0f_0 (cz_726_0f_1 [])), [uG2370, uG2371])
set_option maxRecDepth 1000000 in
theorem ck_726 : x_ok mLT1 [cx_640, cx_725, cx_566, cx_504, cx_508, cx_723] mTS2 mTC2 mRUp cx_726 [(2, [0]), (9, [1]), (16, [2]), (27, [3]), (49, [4]), (65, [5])] [] [(41, cz_726_0, (533, [(10, (-24))]))] (553, []) 78623 26 = true := by decide +kernel
theorem sn_726 {W : Bool} {X : List Int32} : y_Snd (mGw W) mLT1 (J2 W X) X cx_726 := y_ok J2_J mTS2_ok1 mTC2_ok1 mRUp_ok1 (List.forall_mem_cons.mpr ⟨sn_640, List.forall_mem_cons.mpr ⟨sn_725, List.forall_mem_cons.mpr ⟨sn_566, List.forall_mem_cons.mpr ⟨sn_504, List.forall_mem_cons.mpr ⟨sn_508, List.forall_mem_cons.mpr ⟨sn_723, fun _ h => absurd h List.not_mem_nil⟩⟩⟩⟩⟩⟩) ck_726
/-- M.tell -/
def cx_727 : zCtx := (301, ([ui0, ui49, ui49, (0, 1), ui48], [ur1331], [], [], [uV2, uV11, uV12, uV58], [uF2372], []), [([ui0, ui262, ui49, (0, 1), ui1252], [ur1331], [], [], [uV61], [uF2372], []), ([ui0, ui261, ui49, (0, 1), ui1252], [ur1331], [], [], [uV61], [uF2372], []), ([ui0, (0, 5), ui524, (0, 1), ui1252], [ur1331], [], [], [uV97], [(0, (false, 63, 0, []), 0, 0, 1, [(4, 1)])], []), ([ui0, (0, 5), ui1250, (0, 1), ui1252], [ur1331], [], [], [uV61], [uF2372], []), ([ui0, (0, 5), ui262, (0, 1), ui1252], [ur1331], [], [], [uV61], [uF2372], []), ([ui0, ui49, ui49, (0, 1), ui1258], [ur1331], [], [], [uV61], [uF2372], [])], [uk2373, (89, true, 0), (90, true, 0), (91, true, 0)], 55, 2, 42)
set_option maxRecDepth 1000000 in
theorem ck_727 : x_ok mLT1 [cx_504, cx_725] mTS2 mTC2 mRUp cx_727 [(12, [0]), (19, [1])] [] [] (41, []) 14 44 = true := by decide +kernel
theorem sn_727 {W : Bool} {X : List Int32} : y_Snd (mGw W) mLT1 (J2 W X) X cx_727 := y_ok J2_J mTS2_ok1 mTC2_ok1 mRUp_ok1 (List.forall_mem_cons.mpr ⟨sn_504, List.forall_mem_cons.mpr ⟨sn_725, fun _ h => absurd h List.not_mem_nil⟩⟩) ck_727
/-- M.forget -/
def cx_728 : zCtx := (302, ([ui0, ui48], [ur1331], [], [], [uV2], [(0, (false, 63, 0, []), 0, 0, 0, [(1, 1)])], []), [([ui0, ui48], [ur1331], [], [], [uV11], [uF1979], [])], [uk2373], 8, 0, 0)
set_option maxRecDepth 1000000 in
theorem ck_728 : x_ok mLT1 [] mTS2 mTC2 mRUp cx_728 [] [] [] (8, []) 0 11 = true := by decide +kernel
theorem sn_728 {W : Bool} {X : List Int32} : y_Snd (mGw W) mLT1 (J2 W X) X cx_728 := y_ok J2_J mTS2_ok1 mTC2_ok1 mRUp_ok1 (fun _ h => absurd h List.not_mem_nil) ck_728
/-- M.isAsked -/
def cx_729 : zCtx := (304, ([ui0, ui49, ui49, ui48], [ur1331], [], [], [uV2, uV11, uV12], [(0, (false, 63, 0, []), 0, 0, 0, [(3, 1)])], []), [([ui0, ui262, ui49, ui48], [ur1331], [], [], [uV62], [], []), ([ui0, ui505, ui49, ui48], [ur1331], [uL1367], [], [uV62], [], []), ([ui0, ui48, ui1209, ui48], [ur1331], [uL66], [], [uV62], [], []), ([ui0, ui48, ui1259, ui48], [ur1331], [uL66], [], [uV62], [], []), ([ui0, ui48, (1, 6), ui48], [ur1331], [uL66], [], [uV64], [], [])], [], 23, 1, 22)
set_option maxRecDepth 1000000 in
theorem ck_729 : x_ok mLT1 [cx_504] mTS2 mTC2 mRUp cx_729 [(6, [0]), (16, [0])] [] [] (14, []) 9 17 = true := by decide +kernel
theorem sn_729 {W : Bool} {X : List Int32} : y_Snd (mGw W) mLT1 (J2 W X) X cx_729 := y_ok J2_J mTS2_ok1 mTC2_ok1 mRUp_ok1 (List.forall_mem_cons.mpr ⟨sn_504, fun _ h => absurd h List.not_mem_nil⟩) ck_729
/-- M.sixes -/
def cx_730 : zCtx := (305, ([ui0, (1, 6)], [], [], [], [uV11], [], []), [([ui0, (1, 1)], [], [], [], [uV315], [], []), ([ui0, (2, 2)], [], [], [], [(0, 0, 36, [])], [], []), ([ui0, (3, 3)], [], [], [], [(0, 0, 216, [])], [], []), ([ui0, (4, 4)], [], [], [], [(0, 0, 1296, [])], [], []), ([ui0, (5, 5)], [], [], [], [(0, 0, 7776, [])], [], []), ([ui0, (6, 6)], [], [], [], [(0, 0, 46656, [])], [], [])], [], 140, 0, 0)
set_option maxRecDepth 1000000 in
theorem ck_730 : x_ok mLT1 [] mTS2 mTC2 mRUp cx_730 [] [] [(4, ([(0, 3072), (1, 6)], [], [], [(0, 0, 0, [(1, 1)]), (0, 0, 1, []), (0, 0, 0, [])], [], [], []), (10, [(1, 20)])), (4, ([(0, 3072), (1, 6)], [], [], [(0, 0, 0, [(1, 1)]), (0, 0, 6, []), (0, 0, 1, [])], [], [], []), ((-10), [(1, 20)])), (4, ([(0, 3072), (2, 6)], [], [], [(0, 0, 0, [(1, 1)]), (0, 0, 36, []), (0, 0, 2, [])], [], [], []), ((-30), [(1, 20)])), (4, ([(0, 3072), (3, 6)], [], [], [(0, 0, 0, [(1, 1)]), (0, 0, 216, []), (0, 0, 3, [])], [], [], []), ((-50), [(1, 20)])), (4, ([(0, 3072), (4, 6)], [], [], [(0, 0, 0, [(1, 1)]), (0, 0, 1296, []), (0, 0, 4, [])], [], [], []), ((-70), [(1, 20)])), (4, ([(0, 3072), (5, 6)], [], [], [(0, 0, 0, [(1, 1)]), (0, 0, 7776, []), (0, 0, 5, [])], [], [], []), ((-90), [(1, 20)])), (4, ([(0, 3072), (6, 6)], [], [], [(0, 0, 0, [(1, 1)]), (0, 0, 46656, []), (0, 0, 6, [])], [], [], []), ((-200000000000), [(1, 33333333335)]))] (140, []) 0 12 = true := by decide +kernel
theorem sn_730 {W : Bool} {X : List Int32} : y_Snd (mGw W) mLT1 (J2 W X) X cx_730 := y_ok J2_J mTS2_ok1 mTC2_ok1 mRUp_ok1 (fun _ h => absurd h List.not_mem_nil) ck_730
/-- M.doesFit -/
def cx_731 : zCtx := (306, ([ui0, ui2374, ui48, (1, 6), (0, 1)], [ur1331], [], [], [uV2, uV11, uV12, uV58], [uF2107], []), [([ui0, ui2374, ui48, (1, 6), (0, 1)], [ur1331], [], [], [uV62], [], []), ([ui0, ui2374, ui48, (1, 6), (0, 1)], [ur1331], [], [], [uV64], [], [])], [(92, true, 0)], 1039, 2, 43)
set_option maxRecDepth 1000000 in
theorem ck_731 : x_ok mLT1 [cx_640] mTS2 mTC2 mRUp cx_731 [(43, [0])] [] [(11, ([(0, 3072), (0, 46655), (0, 20), (1, 6), (0, 1), (0, 46655), (0, 63), ((-1), 5)], [(12, false)], [], [(2, 0, 0, []), (0, 0, 0, [(1, 1)]), (0, 0, 0, [(2, 1)]), (0, 0, 0, [(3, 1)]), (0, 0, 0, [(5, 1)]), (0, 0, 0, [(6, 1)]), (0, 0, 0, [(7, 1)])], [], [(0, (false, 18, 0, []), 0, 0, 0, [(4, 1)])], []), (800, [(7, 42)])), (90, ([(0, 3072), (0, 46655), (0, 20), (1, 6), (0, 1), (0, 46655), (0, 63), (0, 22)], [(12, false)], [], [(2, 0, 0, []), (0, 0, 0, [(1, 1)]), (0, 0, 0, [(2, 1)]), (0, 0, 0, [(3, 1)]), (0, 0, 0, [(5, 1)]), (0, 0, 0, [(6, 1)]), (0, 0, 0, [(7, 1)])], [], [(0, (false, 18, 0, []), 0, 0, 0, [(4, 1)])], []), (753, [(7, (-34))]))] (1019, []) 20 44 = true := by decide +kernel
theorem sn_731 {W : Bool} {X : List Int32} : y_Snd (mGw W) mLT1 (J2 W X) X cx_731 := y_ok J2_J mTS2_ok1 mTC2_ok1 mRUp_ok1 (List.forall_mem_cons.mpr ⟨sn_640, fun _ h => absurd h List.not_mem_nil⟩) ck_731
def cx_732pi_0 (t : List (Int × Int)) : List (Int × Int) := ui0 :: ui49 :: ui49 :: ui49 :: (0, 1) :: ui49 :: (0, 1) :: ui48 :: t
def cx_732pi_1 (t : List (Int × Int)) : List (Int × Int) := ui31 :: t
def cx_732pf_0 (t : List zFa) : List zFa := uF2107 :: uF1893 :: uF2364 :: uF2375 :: uF1394 :: uF1395 :: uF2027 :: uF2028 :: t
def cx_732pf_1 (t : List zFa) : List zFa := uF2029 :: uF2030 :: uF2031 :: uF1625 :: uF1626 :: t
def cx_732p : zS := ((cx_732pi_0 (cx_732pi_1 [])), (cx_596pr_0 (cx_596pr_1 [])), [], [], [uV2, uV11, uV12, uV58], (cx_732pf_0 (cx_732pf_1 [])), [uG2111, uG2376])
/-- M.rows -/
def cx_732 : zCtx := (303, cx_732p, [([ui0, ui48, (1, 6), ui262, (0, 1), ui49, (0, 1), ui48, ui31], [ur1331, ur1378, ur1379, ur1389, ur1390, ur1391, ur1392, ur1393, ur1387, ur1388], [uL2377], [], [uV61], [uF1893, uF2364], []), ([ui0, ui48, (1, 6), ui1063, (0, 1), ui49, (0, 1), ui48, ui31], [ur1331, ur1378, ur1379, ur1389, ur1390, ur1391, ur1392, ur1393, ur1387, ur1388], [uL2377], [], [uV61], [uF1893, uF2364], []), ([ui0, ui48, ui1259, ui49, (0, 1), ui49, (0, 1), ui48, ui31], [ur1331, ur1378, ur1379, ur1389, ur1390, ur1391, ur1392, ur1393, ur1387, ur1388], [uL2377], [], [uV61], [uF1893, uF2364], []), ([ui0, ui48, ui1209, ui49, (0, 1), ui49, (0, 1), ui48, ui31], [ur1331, ur1378, ur1379, ur1389, ur1390, ur1391, ur1392, ur1393, ur1387, ur1388], [uL2377], [], [uV61], [uF1893, uF2364], []), ([ui0, ui505, ui49, ui49, (0, 1), ui49, (0, 1), ui48, ui31], [ur1331, ur1378, ur1379, ur1389, ur1390, ur1391, ur1392, ur1393, ur1387, ur1388], [uL2378], [], [uV61], [uF1893, uF2364], []), ([ui0, ui262, ui49, ui49, (0, 1), ui49, (0, 1), ui48, ui31], [ur1331, ur1378, ur1379, ur1389, ur1390, ur1391, ur1392, ur1393, ur1387, ur1388], [], [], [uV61], [uF1893, uF2364], []), ([ui0, ui48, (1, 6), (0, 0), (0, 1), ui49, (0, 1), ui48, ui31, ui49, ui196], [ur1331, ur1378, ur1379, ur1389, ur1390, ur1391, ur1392, ur1393, ur1387, ur1388], [uL2377], [], [uV778], [uF1892, uF2344], [uG1899, uG1895]), ([ui0, ui48, (1, 6), (1, 1), (0, 1), ui49, (0, 1), ui48, ui31, ui2379, ui196], [ur1331, ur1378, ur1379, ur1389, ur1390, ur1391, ur1392, ur1393, ur1387, ur1388], [uL2377], [], [uV778], [uF1892, uF2344], [uG1899, uG1895])], kc_88, 733008, 6, 129)
def cz_732_0i_0 (t : List (Int × Int)) : List (Int × Int) := ui0 :: ui48 :: (1, 6) :: (0, 1) :: (0, 1) :: ui49 :: (0, 1) :: ui48 :: t
def cz_732_0i_1 (t : List (Int × Int)) : List (Int × Int) := ui31 :: ui49 :: ui2379 :: ((-1), 46655) :: ui196 :: t
def cz_732_0f_0 (t : List zFa) : List zFa := uF1892 :: (0, (false, 49, 0, []), 0, 0, 0, [(12, 1)]) :: uF2258 :: uF2259 :: uF2260 :: uF2107 :: uF2375 :: uF1394 :: t
def cz_732_0f_1 (t : List zFa) : List zFa := uF1395 :: uF2027 :: uF2028 :: uF2029 :: uF2030 :: uF2031 :: uF1625 :: uF1626 :: t
def cz_732_0 : zS := ((cz_732_0i_0 (cz_732_0i_1 [])), (cz_618_0r_0 (cz_618_0r_1 [])), [uL2377], [uV2, uV11, uV12, uV58, uV778, uV825, uV840], [], (cz_732_0f_0 (cz_732_0f_1 [])), [uG1899, uG1895, uG2111, uG2376])
set_option maxRecDepth 1000000 in
theorem ck_732 : x_ok mLT1 [cx_729, cx_504, cx_508, cx_642, cx_730, cx_731] mTS2 mTC2 mRUp cx_732 [(3, [0]), (12, [1]), (21, [2]), (25, [3]), (36, [4]), (53, [5])] [] [(43, cz_732_0, (21, [(11, 14)]))] (653215, []) 79793 26 = true := by decide +kernel
theorem sn_732 {W : Bool} {X : List Int32} : y_Snd (mGw W) mLT1 (J2 W X) X cx_732 := y_ok J2_J mTS2_ok1 mTC2_ok1 mRUp_ok1 (List.forall_mem_cons.mpr ⟨sn_729, List.forall_mem_cons.mpr ⟨sn_504, List.forall_mem_cons.mpr ⟨sn_508, List.forall_mem_cons.mpr ⟨sn_642, List.forall_mem_cons.mpr ⟨sn_730, List.forall_mem_cons.mpr ⟨sn_731, fun _ h => absurd h List.not_mem_nil⟩⟩⟩⟩⟩⟩) ck_732
/-- M.feel -/
def cx_733 : zCtx := (307, cx_732p, [([ui0, ui48, (1, 6), ui1250, (0, 1), ui49, (0, 1), ui48, ui31], [ur1331, ur1378, ur1379, ur1389, ur1390, ur1391, ur1392, ur1393, ur1387, ur1388], [uL2377], [], [uV61], [uF1893, uF2364], []), ([ui0, ui48, (1, 6), ui262, (0, 1), ui49, (0, 1), ui48, ui31], [ur1331, ur1378, ur1379, ur1389, ur1390, ur1391, ur1392, ur1393, ur1387, ur1388], [uL2377], [], [uV61], [uF1893, uF2364], []), ([ui0, ui48, ui1259, ui49, (0, 1), ui49, (0, 1), ui48, ui31], [ur1331, ur1378, ur1379, ur1389, ur1390, ur1391, ur1392, ur1393, ur1387, ur1388], [uL2377], [], [uV61], [uF1893, uF2364], []), ([ui0, ui48, ui1209, ui49, (0, 1), ui49, (0, 1), ui48, ui31], [ur1331, ur1378, ur1379, ur1389, ur1390, ur1391, ur1392, ur1393, ur1387, ur1388], [uL2377], [], [uV61], [uF1893, uF2364], []), ([ui0, ui505, ui49, ui49, (0, 1), ui49, (0, 1), ui48, ui31], [ur1331, ur1378, ur1379, ur1389, ur1390, ur1391, ur1392, ur1393, ur1387, ur1388], [uL2378], [], [uV61], [uF1893, uF2364], []), ([ui0, ui262, ui49, ui49, (0, 1), ui49, (0, 1), ui48, ui31], [ur1331, ur1378, ur1379, ur1389, ur1390, ur1391, ur1392, ur1393, ur1387, ur1388], [], [], [uV61], [uF1893, uF2364], []), ([ui0, ui48, (1, 6), ui524, (0, 1), ui49, (0, 1), ui48, ui31, ui1249, ui196], [ur1331, ur1378, ur1379, ur1389, ur1390, ur1391, ur1392, ur1393, ur1387, ur1388], [uL2377], [], [uV778], [uF1892, uF2344], [uG1899, uG1895])], kc_89, 7451756, 6, 129)
def cq_733 : List zCtx := [cx_729, cx_725, cx_508, cx_642, cx_730, cx_731]
def cs_733 : List (Nat × List Nat) := [(3, [0]), (10, [1]), (19, [2]), (23, [3]), (59, [4]), (70, [5])]
def hs_733 : List (Nat × List Nat) := []
def nd_733_0pi_0 (t : List (Int × Int)) : List (Int × Int) := ui0 :: ui48 :: (1, 6) :: ui524 :: (0, 1) :: ui49 :: (0, 1) :: ui48 :: t
def nd_733_0pi_1 (t : List (Int × Int)) : List (Int × Int) := ui31 :: (0, 6) :: ui196 :: t
def nd_733_0pl_0 (t : List zV) : List zV := uV2 :: uV11 :: uV12 :: uV58 :: uV778 :: uV113 :: uV113 :: uV113 :: t
def nd_733_0pl_1 (t : List zV) : List zV := uV113 :: t
def nd_733_0pf_0 (t : List zFa) : List zFa := uF1892 :: uF2344 :: uF2258 :: uF2259 :: uF2260 :: uF2107 :: uF2375 :: uF1394 :: t
def nd_733_0pf_1 (t : List zFa) : List zFa := uF1395 :: uF2027 :: uF2028 :: uF2029 :: uF2030 :: uF2031 :: uF1625 :: uF1626 :: t
def nd_733_0p : zS := ((nd_733_0pi_0 (nd_733_0pi_1 [])), (cz_618_0r_0 (cz_618_0r_1 [])), [uL2377], (nd_733_0pl_0 (nd_733_0pl_1 [])), [], (nd_733_0pf_0 (nd_733_0pf_1 [])), [uG1899, uG1895, uG2111, uG2376])
def nd_733_0 : zN := (29, nd_733_0p, (7371948, [(9, (-11))]))
def nd_733_1pi_0 (t : List (Int × Int)) : List (Int × Int) := ui0 :: ui48 :: (1, 6) :: ui524 :: (0, 1) :: ui49 :: (0, 1) :: ui48 :: t
def nd_733_1pi_1 (t : List (Int × Int)) : List (Int × Int) := ui31 :: ui49 :: ui1107 :: ui196 :: t
def nd_733_1pl_0 (t : List zV) : List zV := uV2 :: uV11 :: uV12 :: uV58 :: uV778 :: uV825 :: uV113 :: uV113 :: t
def nd_733_1pl_1 (t : List zV) : List zV := uV113 :: t
def nd_733_1pf_0 (t : List zFa) : List zFa := uF1892 :: uF2356 :: uF2258 :: uF2259 :: uF2260 :: uF2107 :: uF2375 :: uF1394 :: t
def nd_733_1pf_1 (t : List zFa) : List zFa := uF1395 :: uF2027 :: uF2028 :: uF2029 :: uF2030 :: uF2031 :: uF1625 :: uF1626 :: t
def nd_733_1p : zS := ((nd_733_1pi_0 (nd_733_1pi_1 [])), (cz_618_0r_0 (cz_618_0r_1 [])), [uL2377], (nd_733_1pl_0 (nd_733_1pl_1 [])), [], (nd_733_1pf_0 (nd_733_1pf_1 [])), [uG1899, uG1895, uG2111, uG2376])
def nd_733_1 : zN := (56, nd_733_1p, (7371874, [(10, (-158))]))
def nd_733_2pi_0 (t : List (Int × Int)) : List (Int × Int) := ui0 :: ui48 :: (1, 6) :: ui524 :: (0, 1) :: ui49 :: (0, 1) :: ui48 :: t
def nd_733_2pi_1 (t : List (Int × Int)) : List (Int × Int) := ui31 :: ui49 :: ui2374 :: (0, 6) :: ui196 :: t
def nd_733_2pl_0 (t : List zV) : List zV := uV2 :: uV11 :: uV12 :: uV58 :: uV778 :: uV825 :: uV840 :: uV113 :: t
def nd_733_2pl_1 (t : List zV) : List zV := uV113 :: t
def nd_733_2p : zS := ((nd_733_2pi_0 (nd_733_2pi_1 [])), (cz_618_0r_0 (cz_618_0r_1 [])), [uL2377], (nd_733_2pl_0 (nd_733_2pl_1 [])), [], (cz_732_0f_0 (cz_732_0f_1 [])), [uG1899, uG1895, uG2111, uG2376])
def nd_733_2 : zN := (85, nd_733_2p, (7371860, [(10, (-158)), (11, (-23))]))
def nd_733_3pi_0 (t : List (Int × Int)) : List (Int × Int) := ui0 :: ui48 :: (1, 6) :: ui524 :: (0, 1) :: ui49 :: (0, 1) :: ui48 :: t
def nd_733_3pi_1 (t : List (Int × Int)) : List (Int × Int) := ui31 :: ui49 :: ui1249 :: ui49 :: (0, 6) :: ui196 :: t
def nd_733_3pl_0 (t : List zV) : List zV := uV2 :: uV11 :: uV12 :: uV58 :: uV778 :: uV825 :: uV840 :: uV198 :: t
def nd_733_3pl_1 (t : List zV) : List zV := uV113 :: t
def nd_733_3pf_0 (t : List zFa) : List zFa := uF1892 :: uF2363 :: uF2258 :: uF2259 :: uF2260 :: uF2107 :: uF2375 :: uF1394 :: t
def nd_733_3pf_1 (t : List zFa) : List zFa := uF1395 :: uF2027 :: uF2028 :: uF2029 :: uF2030 :: uF2031 :: uF1625 :: uF1626 :: t
def nd_733_3p : zS := ((nd_733_3pi_0 (nd_733_3pi_1 [])), (cz_618_0r_0 (cz_618_0r_1 [])), [uL2377], (nd_733_3pl_0 (nd_733_3pl_1 [])), [], (nd_733_3pf_0 (nd_733_3pf_1 [])), [uG1899, uG1895, uG2111, uG2376])
def nd_733_3 : zN := (140, nd_733_3p, (215, [(12, (-35))]))
def ns_733 : List zN := [nd_733_0, nd_733_1, nd_733_2, nd_733_3]
set_option maxRecDepth 1000000 in
theorem ca_733 : x_okA mLT1 cq_733 mTS2 mTC2 mRUp cx_733 cs_733 hs_733 ns_733 (7371963, []) 79793 37 = true := by decide +kernel
set_option maxRecDepth 1000000 in
theorem cb_733_0 : x_okB mLT1 cq_733 mTS2 mTC2 mRUp cx_733 cs_733 hs_733 ns_733 (7371963, []) 79793 37 nd_733_0 = true := by decide +kernel
set_option maxRecDepth 1000000 in
theorem cb_733_1 : x_okB mLT1 cq_733 mTS2 mTC2 mRUp cx_733 cs_733 hs_733 ns_733 (7371963, []) 79793 37 nd_733_1 = true := by decide +kernel
set_option maxRecDepth 1000000 in
theorem cb_733_2 : x_okB mLT1 cq_733 mTS2 mTC2 mRUp cx_733 cs_733 hs_733 ns_733 (7371963, []) 79793 37 nd_733_2 = true := by decide +kernel
set_option maxRecDepth 1000000 in
theorem cb_733_3 : x_okB mLT1 cq_733 mTS2 mTC2 mRUp cx_733 cs_733 hs_733 ns_733 (7371963, []) 79793 37 nd_733_3 = true := by decide +kernel
set_option maxRecDepth 1000000 in
theorem cc_733 : x_okC mLT1 cq_733 mTS2 mTC2 mRUp cx_733 cs_733 hs_733 ns_733 (7371963, []) 79793 37 = true := by decide +kernel
theorem ck_733 : x_ok mLT1 cq_733 mTS2 mTC2 mRUp cx_733 cs_733 hs_733 ns_733 (7371963, []) 79793 37 = true := x_ok_of ca_733 (List.forall_mem_cons.mpr ⟨cb_733_0, List.forall_mem_cons.mpr ⟨cb_733_1, List.forall_mem_cons.mpr ⟨cb_733_2, List.forall_mem_cons.mpr ⟨cb_733_3, fun _ h => absurd h List.not_mem_nil⟩⟩⟩⟩) cc_733
theorem sn_733 {W : Bool} {X : List Int32} : y_Snd (mGw W) mLT1 (J2 W X) X cx_733 := y_ok J2_J mTS2_ok1 mTC2_ok1 mRUp_ok1 (List.forall_mem_cons.mpr ⟨sn_729, List.forall_mem_cons.mpr ⟨sn_725, List.forall_mem_cons.mpr ⟨sn_508, List.forall_mem_cons.mpr ⟨sn_642, List.forall_mem_cons.mpr ⟨sn_730, List.forall_mem_cons.mpr ⟨sn_731, fun _ h => absurd h List.not_mem_nil⟩⟩⟩⟩⟩⟩) ck_733
/-- M.hold -/
def cx_734 : zCtx := (308, ([ui0, ui1273, (0, 1), (0, 1), (0, 1)], [ur1331, ur1904, ur1905, ur2380], [], [], [uV2, uV11], [uF2381, uF2382, uF2383, uF2384, uF2043, uF2385], [uG1900, uG2386]), [([ui0, ui1273, (0, 1), (0, 1), (0, 1)], [ur1331, ur1904, ur1905, ur2380], [], [], [uV62], [uF2382, uF2383, uF2384], [])], [], 16, 1, 22)
set_option maxRecDepth 1000000 in
theorem ck_734 : x_ok mLT1 [cx_504] mTS2 mTC2 mRUp cx_734 [(3, [0])] [] [] (7, []) 9 10 = true := by decide +kernel
theorem sn_734 {W : Bool} {X : List Int32} : y_Snd (mGw W) mLT1 (J2 W X) X cx_734 := y_ok J2_J mTS2_ok1 mTC2_ok1 mRUp_ok1 (List.forall_mem_cons.mpr ⟨sn_504, fun _ h => absurd h List.not_mem_nil⟩) ck_734
/-- M.hold -/
def cx_735 : zCtx := (308, ([ui0, (0, 1), (0, 1), (0, 1), (0, 6), (0, 1), (0, 1), (0, 1)], [ur1331, ur1904, ur1905, ur2380], [], [], [uV2, uV62], [uF2381, uF2387, uF2388, uF2389, uF2043, uF2385], [uG1900, uG2386, uG2390, (248, [uL114, uL98])]), [([ui0, (0, 1), (0, 1), (0, 1), (0, 6), (0, 1), (0, 1), (0, 1)], [ur1331, ur1904, ur1905, ur2380], [], [], [uV64], [(1, (true, 0, 0, []), 0, 0, 1, []), uF2388, uF2389], [uG2391, uG2386, (13, [uL63]), uG2390, uG2391])], [uk2392, uk2393], 587, 1, 22)
def cq_735 : List zCtx := [cx_504]
def cs_735 : List (Nat × List Nat) := [(3, [0])]
def hs_735 : List (Nat × List Nat) := [(11, [977]), (49, [210, 1000707, 1000708, 1000709])]
def ns_735 : List zN := []
set_option maxRecDepth 1000000 in
theorem ca_735 : x_okA mLT1 cq_735 mTS2 mTC2 mRUp cx_735 cs_735 hs_735 ns_735 (578, []) 9 581 = true := by decide +kernel
set_option maxRecDepth 1000000 in
theorem cc_735 : x_okC mLT1 cq_735 mTS2 mTC2 mRUp cx_735 cs_735 hs_735 ns_735 (578, []) 9 581 = true := by decide +kernel
theorem ck_735 : x_ok mLT1 cq_735 mTS2 mTC2 mRUp cx_735 cs_735 hs_735 ns_735 (578, []) 9 581 = true := x_ok_of ca_735 (fun _ h => absurd h List.not_mem_nil) cc_735
theorem sn_735 {W : Bool} {X : List Int32} : y_Snd (mGw W) mLT1 (J2 W X) X cx_735 := y_ok J2_J mTS2_ok1 mTC2_ok1 mRUp_ok1 (List.forall_mem_cons.mpr ⟨sn_504, fun _ h => absurd h List.not_mem_nil⟩) ck_735
/-- M.hold -/
def cx_736 : zCtx := (308, ([ui0, (0, 1), (0, 1), (0, 1), (0, 6), (0, 1), (0, 1), (0, 1)], [ur1331, ur1904, ur1905, ur2380], [], [], [uV2, uV64], [uF2381, uF2387, uF2388, uF2389, uF2043, uF2385], [uG1900, uG2386, uG2394, (248, [uL211, uL98])]), [([ui0, (0, 1), (0, 1), (0, 1), (0, 6), (0, 1), (0, 1), (0, 1)], [ur1331, ur1904, ur1905, ur2380], [], [], [uV64], [(1, (true, 0, 1, []), 0, 0, 1, []), uF2387, uF2389], [uG2395, uG2386, (13, [uL65]), uG2394, uG2395])], [uk2392, uk2393], 587, 1, 22)
def cq_736 : List zCtx := [cx_504]
def cs_736 : List (Nat × List Nat) := [(3, [0])]
def hs_736 : List (Nat × List Nat) := [(11, [977]), (49, [210, 1000707, 1000708, 1000709])]
def ns_736 : List zN := []
set_option maxRecDepth 1000000 in
theorem ca_736 : x_okA mLT1 cq_736 mTS2 mTC2 mRUp cx_736 cs_736 hs_736 ns_736 (578, []) 9 581 = true := by decide +kernel
set_option maxRecDepth 1000000 in
theorem cc_736 : x_okC mLT1 cq_736 mTS2 mTC2 mRUp cx_736 cs_736 hs_736 ns_736 (578, []) 9 581 = true := by decide +kernel
theorem ck_736 : x_ok mLT1 cq_736 mTS2 mTC2 mRUp cx_736 cs_736 hs_736 ns_736 (578, []) 9 581 = true := x_ok_of ca_736 (fun _ h => absurd h List.not_mem_nil) cc_736
theorem sn_736 {W : Bool} {X : List Int32} : y_Snd (mGw W) mLT1 (J2 W X) X cx_736 := y_ok J2_J mTS2_ok1 mTC2_ok1 mRUp_ok1 (List.forall_mem_cons.mpr ⟨sn_504, fun _ h => absurd h List.not_mem_nil⟩) ck_736
end
