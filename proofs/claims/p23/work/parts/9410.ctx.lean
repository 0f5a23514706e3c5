noncomputable section
/-! ===== readings, by program, checked by the kernel ===== -/
def cx_190pf_0 (t : List zFa) : List zFa := uF138 :: uF94 :: uF765 :: (0, (false, 8, 0, []), 0, 0, 0, [(6, 1)]) :: uF21 :: uF22 :: uF33 :: uF552 :: t
def cx_190pf_1 (t : List zFa) : List zFa := uF450 :: (1, (true, 0, 0, [(1, 1)]), 0, 0, 0, [(7, 1)]) :: t
def cx_190pg_0 (t : List zTg) : List zTg := (235, [uL98, uL23, uL104, uL78, uL63, uL63, uL63, uL63, uL63, uL63, uL63]) :: uG766 :: (238, [uL34, uL63, uL63, uL63, uL63, uL63, uL63, uL63, uL9, uL63, uL79]) :: (238, [uL260, uL63, uL63, uL63, uL63, uL63, uL63, uL63, uL9, uL63, uL67]) :: t
def cx_190p : zS := ([ui0, (0, 5), ui49, (0, 6), (0, 6), ui49, ui49, ui767], [ur433, ur434, ur428, ur548, ur549, ur550], [uL768, uL9, uL564], [], [uV2, uV11, uV12], (cx_190pf_0 (cx_190pf_1 [])), (cx_190pg_0 []))
/-- State.addPlait -/
def cx_190 : zCtx := (103, cx_190p, [([ui0, (0, 5), ui49, (0, 6), (0, 6), ui49, ui49, ui767], [ur433, ur434, ur428, ur548, ur549, ur550], [(5, [(3, (-1))])], [], [], [(0, (false, 6, 0, []), 0, 0, 1, [(3, 1)])], [(235, [uL98, (1, [(3, 1)]), uL104, uL78, uL63, uL63, uL63, uL65, uL9, uL63, uL63])])], [uk436, uk438, uk429, (29, true, 0), (30, true, 0), uk769], 53, 0, 0)
set_option maxRecDepth 1000000 in
theorem ck_190 : x_ok mLT1 [] mTS2 mTC2 mRUp cx_190 [] [(10, [1000908, 1000909]), (76, [1000637]), (88, [1000910])] [] (53, []) 0 56 = true := by decide +kernel
theorem sn_190 {W : Bool} {X : List Int32} : y_Snd (mGw W) mLT1 (J2 W X) X cx_190 := y_ok J2_J mTS2_ok1 mTC2_ok1 mRUp_ok1 (fun _ h => absurd h List.not_mem_nil) ck_190
def cx_191pi_0 (t : List (Int × Int)) : List (Int × Int) := ui0 :: ui245 :: (0, 6) :: (0, 6) :: ui49 :: ui49 :: ui49 :: ui49 :: t
def cx_191pi_1 (t : List (Int × Int)) : List (Int × Int) := ui49 :: ui49 :: ui49 :: ui49 :: ui49 :: t
def cx_191p : zS := ((cx_191pi_0 (cx_191pi_1 [])), [ur433, ur549], [uL512, uL109, uL57], [], [uV2, uV11], [uF39, uF95, uF139, uF513, uF599], [uG514])
/-- State.lengthBelow -/
def cx_191 : zCtx := (105, cx_191p, [([ui0, ui245, (0, 6), (0, 6), ui49, ui49, ui49, ui49, ui49, ui49, ui49, ui49, ui49, ui770], [ur433, ur549], [uL512, uL109, uL57, uL207], [], [uV409], [], [(238, [uL65, uL78, uL79, uL131, uL164, uL170, uL195, uL214, uL109, uL67, uL207])])], [], 117, 1, 64)
def cz_191_0i_0 (t : List (Int × Int)) : List (Int × Int) := ui0 :: ui245 :: (0, 6) :: (0, 6) :: ui49 :: ui49 :: ui49 :: ui49 :: t
def cz_191_0i_1 (t : List (Int × Int)) : List (Int × Int) := ui49 :: ui49 :: ui49 :: ui49 :: ui49 :: ui770 :: (0, 6) :: t
def cz_191_0 : zS := ((cz_191_0i_0 (cz_191_0i_1 [])), [ur433, ur549], [uL512, uL109, uL57, uL207, ((-99), [(1, (-99)), (13, (-1)), (14, 99)]), ((-1), [(1, (-1)), (14, 1)]), (0, [(2, 1), (14, (-1))])], [uV2, uV11, uV409, uV356], [], [uF39, uF95, uF139, uF513, uF599], [uG514, (238, [uL65, uL78, uL79, uL131, uL164, uL170, uL195, uL214, uL109, uL208, uL207])])
set_option maxRecDepth 1000000 in
theorem ck_191 : x_ok mLT1 [] mTS2 mTC2 mRUp cx_191 [] [(6, [1000911]), (9, [1000912]), (31, [1000913]), (32, [1000914])] [(10, cz_191_0, (108, [(14, (-17))]))] (117, []) 0 19 = true := by decide +kernel
theorem sn_191 {W : Bool} {X : List Int32} : y_Snd (mGw W) mLT1 (J2 W X) X cx_191 := y_ok J2_J mTS2_ok1 mTC2_ok1 mRUp_ok1 (fun _ h => absurd h List.not_mem_nil) ck_191
def cx_192pi_0 (t : List (Int × Int)) : List (Int × Int) := ui0 :: (0, 6) :: (0, 6) :: ui49 :: ui49 :: ui49 :: ui49 :: ui49 :: t
def cx_192pi_1 (t : List (Int × Int)) : List (Int × Int) := ui49 :: ui49 :: ui49 :: ui49 :: t
def cx_192p : zS := ((cx_192pi_0 (cx_192pi_1 [])), [ur433, ur549], [uL771], [], [uV2], [uF772, uF55, uF40, uF41, uF599], [(235, [uL67, uL9, uL23, uL98, uL104, uL78, uL79, uL131, uL164, uL170, uL195])])
/-- State.ropeLength -/
def cx_192 : zCtx := (104, cx_192p, [([ui0, (0, 6), (0, 6), ui49, ui49, ui49, ui49, ui49, ui49, ui49, ui49, ui49, ui770], [ur433, ur549], [uL771], [], [uV198], [], [(238, [uL65, uL104, uL78, uL79, uL131, uL164, uL170, uL195, uL63, uL9, uL214])])], [], 121, 2, 87)
set_option maxRecDepth 1000000 in
theorem ck_192 : x_ok mLT1 [cx_191] mTS2 mTC2 mRUp cx_192 [(2, [0])] [] [] (4, []) 117 7 = true := by decide +kernel
theorem sn_192 {W : Bool} {X : List Int32} : y_Snd (mGw W) mLT1 (J2 W X) X cx_192 := y_ok J2_J mTS2_ok1 mTC2_ok1 mRUp_ok1 (List.forall_mem_cons.mpr ⟨sn_191, fun _ h => absurd h List.not_mem_nil⟩) ck_192
def cx_193pi_0 (t : List (Int × Int)) : List (Int × Int) := ui0 :: ui49 :: ui31 :: (0, 6) :: (0, 6) :: ui49 :: ui49 :: ui439 :: t
def cx_193pi_1 (t : List (Int × Int)) : List (Int × Int) := ui440 :: t
def cx_193pf_0 (t : List zFa) : List zFa := uF13 :: uF510 :: uF542 :: uF543 :: uF152 :: uF552 :: uF601 :: uF602 :: t
def cx_193pf_1 (t : List zFa) : List zFa := uF603 :: uF604 :: uF450 :: uF451 :: uF452 :: uF411 :: t
def cx_193p : zS := ((cx_193pi_0 (cx_193pi_1 [])), [ur443, ur444, ur445, ur532, ur433, ur441, ur547], [], [], [uV2, uV11], (cx_193pf_0 (cx_193pf_1 [])), [uG605, uG773])
def cx_193q0 : zS := ((cx_193pi_0 (cx_193pi_1 [])), [ur443, ur444, ur445, ur532, ur433, ur441, ur547], [], [], [uV61], [uF601, uF602, uF603, uF604, uF451, uF452], [uG605, (260, [uL266, uL63, uL63, uL63, uL63, uL63, uL63, uL63, uL9, uL23, uL63]), uG773])
def cx_193q1i_0 (t : List (Int × Int)) : List (Int × Int) := ui0 :: ui49 :: ui31 :: (0, 6) :: (0, 6) :: ui49 :: ui49 :: ui439 :: t
def cx_193q1i_1 (t : List (Int × Int)) : List (Int × Int) := ui440 :: ui586 :: t
def cx_193q1g_0 (t : List zTg) : List zTg := uG774 :: uG775 :: uG776 :: uG777 :: uG778 :: uG757 :: t
def cx_193q1 : zS := ((cx_193q1i_0 (cx_193q1i_1 [])), [ur443, ur444, ur445, ur532, ur433, ur441, ur547], [uL779, uL780], [], [uV781], [uF601, uF782, uF603, uF604, uF451, uF783], (cx_193q1g_0 []))
def cx_193q2i_0 (t : List (Int × Int)) : List (Int × Int) := ui0 :: ui49 :: ui31 :: (0, 6) :: (0, 6) :: ui49 :: ui49 :: ui439 :: t
def cx_193q2i_1 (t : List (Int × Int)) : List (Int × Int) := ui440 :: ui586 :: ui439 :: t
def cx_193q2g_0 (t : List zTg) : List zTg := uG774 :: uG775 :: uG776 :: uG777 :: (244, [uL23, uL170, uL610, uL65, uL755]) :: uG756 :: t
def cx_193q2 : zS := ((cx_193q2i_0 (cx_193q2i_1 [])), [ur443, ur444, ur445, ur532, ur433, ur441, ur547], [uL779, uL784, uL785], [], [uV781], [uF601, uF782, uF603, uF604, (5, (false, 2, 0, []), 0, 0, 0, [(10, 1)]), uF786], (cx_193q2g_0 []))
/-- HairRope.splice -/
def cx_193 : zCtx := (149, cx_193p, [cx_193q0, cx_193q1, cx_193q2], kc_49, 236, 3, 107)
set_option maxRecDepth 1000000 in
theorem ck_193 : x_ok mLT1 [cx_130, cx_131, cx_189, cx_190, cx_192] mTS2 mTC2 mRUp cx_193 [(2, [0]), (13, [1]), (42, [2]), (62, [3]), (69, [4])] [(27, [1000720]), (32, [1000721, 1000722, 1000723, 1000724]), (34, [1000725, 1000726]), (62, [1000727]), (72, [1000728])] [] (35, []) 201 38 = true := by decide +kernel
theorem sn_193 {W : Bool} {X : List Int32} : y_Snd (mGw W) mLT1 (J2 W X) X cx_193 := y_ok J2_J mTS2_ok1 mTC2_ok1 mRUp_ok1 (List.forall_mem_cons.mpr ⟨sn_130, List.forall_mem_cons.mpr ⟨sn_131, List.forall_mem_cons.mpr ⟨sn_189, List.forall_mem_cons.mpr ⟨sn_190, List.forall_mem_cons.mpr ⟨sn_192, fun _ h => absurd h List.not_mem_nil⟩⟩⟩⟩⟩) ck_193
def cx_194pf_0 (t : List zFa) : List zFa := uF13 :: uF510 :: uF542 :: uF787 :: uF305 :: uF552 :: uF788 :: uF789 :: t
def cx_194pf_1 (t : List zFa) : List zFa := uF790 :: uF791 :: uF450 :: uF792 :: uF793 :: (4, (false, 2, 0, []), 2, 6, 0, []) :: t
def cx_194p : zS := ([ui0, ui31, (0, 6), (0, 6), ui49, ui49, ui439, ui440], [ur443, ur444, ur445, ur532, ur433, ur441, ur548], [], [], [uV2], (cx_194pf_0 (cx_194pf_1 [])), [uG794, uG795])
def cx_194q0 : zS := ([ui0, ui31, (0, 6), (0, 6), ui49, ui49, ui439, ui440], [ur443, ur444, ur445, ur532, ur433, ur441, ur548], [uL796], [], [uV61], [uF788, uF789, uF790, uF791, uF792, uF793], [uG794, uG795])
def cx_194q1i_0 (t : List (Int × Int)) : List (Int × Int) := ui0 :: ui31 :: (0, 6) :: (0, 6) :: ui49 :: ui49 :: ui439 :: ui440 :: t
def cx_194q1i_1 (t : List (Int × Int)) : List (Int × Int) := (0, 5) :: t
def cx_194q1g_0 (t : List zTg) : List zTg := uG798 :: uG799 :: uG800 :: (244, [uL67, uL78, uL79, uL63, (0, [(7, 33)])]) :: uG757 :: t
def cx_194q1 : zS := ((cx_194q1i_0 (cx_194q1i_1 [])), [ur443, ur444, ur445, ur532, ur433, ur441, ur548], [uL797, (39, [(7, (-1))])], [], [uV144], [uF788, uF801, uF790, uF791, uF792, (5, (false, 3, 0, []), 0, 0, 1, [(7, 1)])], (cx_194q1g_0 []))
def cx_194q2i_0 (t : List (Int × Int)) : List (Int × Int) := ui0 :: ui31 :: (0, 6) :: (0, 6) :: ui49 :: ui49 :: ui439 :: ui440 :: t
def cx_194q2i_1 (t : List (Int × Int)) : List (Int × Int) := (0, 5) :: ui439 :: t
def cx_194q2g_0 (t : List zTg) : List zTg := uG798 :: uG799 :: uG800 :: (244, [uL67, uL164, uL610, uL65, uL755]) :: uG756 :: t
def cx_194q2 : zS := ((cx_194q2i_0 (cx_194q2i_1 [])), [ur443, ur444, ur445, ur532, ur433, ur441, ur548], [uL797, ((-40), [(7, 1)]), (40, [(7, (-1))])], [], [uV144], [uF788, uF801, uF790, uF791, (5, (false, 2, 0, []), 0, 0, 0, [(9, 1)]), uF786], (cx_194q2g_0 []))
/-- HairRope.unsplice -/
def cx_194 : zCtx := (150, cx_194p, [cx_194q0, cx_194q1, cx_194q2], kc_50, 226, 3, 107)
set_option maxRecDepth 1000000 in
theorem ck_194 : x_ok mLT1 [cx_146, cx_189] mTS2 mTC2 mRUp cx_194 [(12, [0]), (28, [1])] [(20, [1000726, 1000730]), (39, [1000729])] [] (25, []) 201 28 = true := by decide +kernel
theorem sn_194 {W : Bool} {X : List Int32} : y_Snd (mGw W) mLT1 (J2 W X) X cx_194 := y_ok J2_J mTS2_ok1 mTC2_ok1 mRUp_ok1 (List.forall_mem_cons.mpr ⟨sn_146, List.forall_mem_cons.mpr ⟨sn_189, fun _ h => absurd h List.not_mem_nil⟩⟩) ck_194
/-- HairRope.isHaul -/
def cx_195 : zCtx := (152, ([ui0, ui49], [], [], [], [uV11], [], []), [([ui0, ui586], [], [], [], [uV64], [], []), ([ui0, ui802], [], [], [], [uV62], [], []), ([ui0, ui262], [], [], [], [uV62], [], [])], [], 8, 0, 0)
set_option maxRecDepth 1000000 in
theorem ck_195 : x_ok mLT1 [] mTS2 mTC2 mRUp cx_195 [] [] [] (8, []) 0 11 = true := by decide +kernel
theorem sn_195 {W : Bool} {X : List Int32} : y_Snd (mGw W) mLT1 (J2 W X) X cx_195 := y_ok J2_J mTS2_ok1 mTC2_ok1 mRUp_ok1 (fun _ h => absurd h List.not_mem_nil) ck_195
def cx_196pi_0 (t : List (Int × Int)) : List (Int × Int) := ui0 :: (1, 5) :: ui31 :: (0, 6) :: (0, 6) :: ui49 :: ui49 :: ui49 :: t
def cx_196pi_1 (t : List (Int × Int)) : List (Int × Int) := ui49 :: ui49 :: ui49 :: ui49 :: ui49 :: t
def cx_196p : zS := ((cx_196pi_0 (cx_196pi_1 [])), [ur444, ur433, ur445, ur532, ur548], [uL512, uL160, uL564], [], [uV2, uV420, uV11], [uF541, uF542, uF543, uF518, uF519, uF520, uF521, uF711], [uG544])
/-- Rules.joinAbove -/
def cx_196 : zCtx := (92, cx_196p, [([ui0, (1, 5), ui31, (1, 6), (0, 6), ui49, ui49, ui49, ui49, ui49, ui49, ui49, ui49, ui586], [ur444, ur433, ur445, ur532, ur548], [uL512, uL160, uL564], [], [uV409], [], [(238, [uL673, uL67, uL79, uL131, uL164, uL170, uL195, uL214, uL9, uL63, uL207])])], [uk540, uk530], 53013, 3, 111)
set_option maxRecDepth 1000000 in
theorem ck_196 : x_ok mLT1 [cx_142, cx_144] mTS2 mTC2 mRUp cx_196 [(42, [0]), (45, [1])] [(28, [1000938]), (30, [1000939]), (48, [1000940])] [] (29, []) 52984 32 = true := by decide +kernel
theorem sn_196 {W : Bool} {X : List Int32} : y_Snd (mGw W) mLT1 (J2 W X) X cx_196 := y_ok J2_J mTS2_ok1 mTC2_ok1 mRUp_ok1 (List.forall_mem_cons.mpr ⟨sn_142, List.forall_mem_cons.mpr ⟨sn_144, fun _ h => absurd h List.not_mem_nil⟩⟩) ck_196
def cx_197pi_0 (t : List (Int × Int)) : List (Int × Int) := ui0 :: ui49 :: ui31 :: (0, 6) :: (0, 6) :: ui49 :: ui49 :: ui49 :: t
def cx_197pi_1 (t : List (Int × Int)) : List (Int × Int) := ui49 :: ui49 :: ui49 :: ui49 :: ui49 :: t
def cx_197pf_0 (t : List zFa) : List zFa := uF183 :: uF541 :: uF542 :: uF543 :: uF518 :: uF519 :: uF520 :: uF521 :: t
def cx_197pf_1 (t : List zFa) : List zFa := uF711 :: uF712 :: uF310 :: uF803 :: t
def cx_197p : zS := ((cx_197pi_0 (cx_197pi_1 [])), [ur444, ur433, ur445, ur532, ur548, ur549, ur550, ur804], [uL512], [], [uV2, uV420], (cx_197pf_0 (cx_197pf_1 [])), [uG544])
/-- Rules.weigh -/
def cx_197 : zCtx := (91, cx_197p, [([ui0, ui49, ui31, (0, 6), (0, 6), ui49, ui49, ui49, ui49, ui49, ui49, ui49, ui49, ui805], [ur444, ur433, ur445, ur532, ur548, ur549, ur550, ur804], [uL512], [], [], [uF216], [(252, [uL67, uL79, uL131, uL164, uL170, uL195, uL214, uL806, uL207])])], [uk807, uk540, uk808, uk530], 53276, 4, 135)
def cz_197_0i_0 (t : List (Int × Int)) : List (Int × Int) := ui0 :: ui49 :: ui31 :: (0, 6) :: (0, 6) :: ui49 :: ui49 :: ui49 :: t
def cz_197_0i_1 (t : List (Int × Int)) : List (Int × Int) := ui49 :: ui49 :: ui49 :: ui49 :: ui49 :: ui770 :: ui245 :: ui805 :: t
def cz_197_0f_0 (t : List zFa) : List zFa := uF357 :: uF541 :: uF542 :: uF543 :: uF518 :: uF519 :: uF520 :: uF521 :: t
def cz_197_0f_1 (t : List zFa) : List zFa := uF711 :: uF712 :: uF310 :: uF803 :: t
def cz_197_0g_0 (t : List zTg) : List zTg := uG544 :: (238, [uL34, uL67, uL79, uL131, uL164, uL170, uL195, uL214, uL528, uL63, uL98]) :: (238, [uL65, uL67, uL79, uL131, uL164, uL170, uL195, uL214, uL809, uL98, uL207]) :: (252, [uL67, uL79, uL131, uL164, uL170, uL195, uL214, (0, [(14, 2)]), uL209]) :: t
def cz_197_0 : zS := ((cz_197_0i_0 (cz_197_0i_1 [])), [ur444, ur433, ur445, ur532, ur548, ur549, ur550, ur804], [uL512, uL207, ((-99), [(4, 99), (13, (-1)), (14, (-99))]), uL809, ((-1), [(4, 1), (14, (-1))])], [uV2, uV420, uV409, uV356], [], (cz_197_0f_0 (cz_197_0f_1 [])), (cz_197_0g_0 []))
set_option maxRecDepth 1000000 in
theorem ck_197 : x_ok mLT1 [cx_196] mTS2 mTC2 mRUp cx_197 [(75, [0])] [(12, [1000931]), (29, [1000814, 1000932, 1000933]), (46, [1000934]), (49, [1000935]), (50, [1000936]), (56, [1000913]), (58, [1000937]), (79, [1000941]), (81, [1000942, 1000943])] [(30, cz_197_0, (43, [(14, 40)]))] (263, []) 53013 42 = true := by decide +kernel
theorem sn_197 {W : Bool} {X : List Int32} : y_Snd (mGw W) mLT1 (J2 W X) X cx_197 := y_ok J2_J mTS2_ok1 mTC2_ok1 mRUp_ok1 (List.forall_mem_cons.mpr ⟨sn_196, fun _ h => absurd h List.not_mem_nil⟩) ck_197
/-- Rules.highestBreak -/
def cx_198 : zCtx := (93, ([ui0, ui810, ui805], [ur444, ur804], [uL67, uL811], [], [uV2, uV11], [uF150, uF21], []), [([ui0, ui810, (1, 11), ui17], [ur444, ur804], [uL812, uL67, uL811], [], [uV58], [], [(254, [uL9, uL67, uL23])]), ([ui0, ui810, ui805], [ur444, ur804], [uL67, uL811], [], [uV61], [], [(254, [uL9, uL67, uL99])])], [], 361, 0, 0)
set_option maxRecDepth 1000000 in
theorem ck_198 : x_ok mLT1 [] mTS2 mTC2 mRUp cx_198 [] [(0, [1000713]), (23, [1000012]), (26, [1000714]), (28, [1000715]), (34, [1000716])] [(2, ([(0, 3072), (0, 1000), (0, 11), (0, 22)], [(5, false), (25, false)], [(0, [(2, 1)]), (11, [(2, (-1))])], [(2, 0, 0, []), (0, 0, 0, [(1, 1)]), (0, 0, 0, [(3, 1)])], [], [(0, (false, 2, 0, []), 0, 0, 0, [(2, 1)]), (0, (false, 0, 0, []), 2, 1, 0, [])], [(253, [(0, [(1, 1)]), (0, [])]), (253, [(0, [(1, 1)]), (0, [(3, 1)])])]), (358, [(3, (-16))]))] (361, []) 0 18 = true := by decide +kernel
theorem sn_198 {W : Bool} {X : List Int32} : y_Snd (mGw W) mLT1 (J2 W X) X cx_198 := y_ok J2_J mTS2_ok1 mTC2_ok1 mRUp_ok1 (fun _ h => absurd h List.not_mem_nil) ck_198
/-- HairRope.lowerPlaceOf -/
def cx_199 : zCtx := (153, ([ui0, ui17], [], [], [], [uV11], [], []), [([ui0, ui17, ui49], [], [(1, [(1, 1), (2, (-2))]), (0, [(1, (-1)), (2, 2)])], [], [uV12], [], [(107, [uL109, uL114, uL67])])], [], 6, 0, 0)
set_option maxRecDepth 1000000 in
theorem ck_199 : x_ok mLT1 [] mTS2 mTC2 mRUp cx_199 [] [(4, [1000023]), (5, [1000731])] [] (6, []) 0 9 = true := by decide +kernel
theorem sn_199 {W : Bool} {X : List Int32} : y_Snd (mGw W) mLT1 (J2 W X) X cx_199 := y_ok J2_J mTS2_ok1 mTC2_ok1 mRUp_ok1 (fun _ h => absurd h List.not_mem_nil) ck_199
def cx_200pi_0 (t : List (Int × Int)) : List (Int × Int) := ui0 :: ui49 :: ui31 :: (0, 6) :: (0, 6) :: ui49 :: ui49 :: ui439 :: t
def cx_200pi_1 (t : List (Int × Int)) : List (Int × Int) := ui440 :: ui49 :: t
def cx_200pr_0 (t : List (Nat × Bool)) : List (Nat × Bool) := ur443 :: ur444 :: ur445 :: ur532 :: ur433 :: ur441 :: ur434 :: ur428 :: t
def cx_200pr_1 (t : List (Nat × Bool)) : List (Nat × Bool) := ur548 :: ur549 :: ur550 :: ur804 :: t
def cx_200pf_0 (t : List zFa) : List zFa := uF13 :: uF510 :: uF542 :: uF543 :: uF152 :: uF552 :: uF601 :: uF602 :: t
def cx_200pf_1 (t : List zFa) : List zFa := uF603 :: uF604 :: uF450 :: uF451 :: uF452 :: uF557 :: uF558 :: uF559 :: t
def cx_200pf_2 (t : List zFa) : List zFa := uF560 :: uF561 :: uF163 :: (1, (false, 0, 0, []), 2, 11, 0, []) :: t
def cx_200p : zS := ((cx_200pi_0 (cx_200pi_1 [])), (cx_200pr_0 (cx_200pr_1 [])), [], [], [uV2, uV11], (cx_200pf_0 (cx_200pf_1 (cx_200pf_2 []))), [uG605, uG773])
def cx_200q0i_0 (t : List (Int × Int)) : List (Int × Int) := ui0 :: ui262 :: ui31 :: (0, 6) :: (0, 6) :: ui49 :: ui49 :: ui439 :: t
def cx_200q0i_1 (t : List (Int × Int)) : List (Int × Int) := ui440 :: ui49 :: t
def cx_200q0 : zS := ((cx_200q0i_0 (cx_200q0i_1 [])), (cx_200pr_0 (cx_200pr_1 [])), [], [], [uV61], [uF601, uF602, uF603, uF604, uF451, uF452], [uG605, uG813, uG773])
def cx_200q1i_0 (t : List (Int × Int)) : List (Int × Int) := ui0 :: ui802 :: ui31 :: (0, 6) :: (0, 6) :: ui49 :: ui49 :: ui439 :: t
def cx_200q1i_1 (t : List (Int × Int)) : List (Int × Int) := ui440 :: ui49 :: t
def cx_200q1 : zS := ((cx_200q1i_0 (cx_200q1i_1 [])), (cx_200pr_0 (cx_200pr_1 [])), [], [], [uV61], [uF601, uF602, uF603, uF604, uF451, uF452], [uG605, uG813, uG773])
def cx_200q2i_0 (t : List (Int × Int)) : List (Int × Int) := ui0 :: ui586 :: ui31 :: (0, 6) :: (0, 6) :: ui49 :: ui49 :: ui439 :: t
def cx_200q2i_1 (t : List (Int × Int)) : List (Int × Int) := ui440 :: ui506 :: ui586 :: t
def cx_200q2g_0 (t : List zTg) : List zTg := uG605 :: uG774 :: (260, [uL65, uL63, uL63, uL63, uL63, uL63, uL63, uL63, uL63, uL98, uL170]) :: uG773 :: t
def cx_200q2 : zS := ((cx_200q2i_0 (cx_200q2i_1 [])), (cx_200pr_0 (cx_200pr_1 [])), [((-1), [(9, 1), (10, (-1))])], [], [uV61], [uF601, uF602, uF603, uF604, uF451, uF452], (cx_200q2g_0 []))
def cx_200q3i_0 (t : List (Int × Int)) : List (Int × Int) := ui0 :: ui49 :: ui31 :: (0, 6) :: (0, 6) :: ui49 :: ui49 :: ui439 :: t
def cx_200q3i_1 (t : List (Int × Int)) : List (Int × Int) := ui440 :: ui49 :: ui49 :: ui586 :: t
def cx_200q3g_0 (t : List zTg) : List zTg := uG814 :: uG815 :: uG774 :: uG816 :: uG817 :: uG778 :: uG757 :: t
def cx_200q3 : zS := ((cx_200q3i_0 (cx_200q3i_1 [])), (cx_200pr_0 (cx_200pr_1 [])), [uL818, uL9, uL819, uL780], [], [uV97], [uF601, uF602, uF603, uF820, uF451, uF783], (cx_200q3g_0 []))
def cx_200q4i_0 (t : List (Int × Int)) : List (Int × Int) := ui0 :: ui49 :: ui31 :: (0, 6) :: (0, 6) :: ui49 :: ui49 :: ui439 :: t
def cx_200q4i_1 (t : List (Int × Int)) : List (Int × Int) := ui440 :: ui49 :: (0, 6) :: ui821 :: ui586 :: t
def cx_200q4g_0 (t : List zTg) : List zTg := uG822 :: uG823 :: uG824 :: uG774 :: uG825 :: uG826 :: uG778 :: uG757 :: t
def cx_200q4 : zS := ((cx_200q4i_0 (cx_200q4i_1 [])), (cx_200pr_0 (cx_200pr_1 [])), [uL827, uL9, uL819, uL780], [], [uV828], [uF601, uF829, uF603, uF604, uF451, uF783], (cx_200q4g_0 []))
def cx_200q5i_0 (t : List (Int × Int)) : List (Int × Int) := ui0 :: ui49 :: ui31 :: (0, 6) :: (0, 6) :: ui49 :: ui49 :: ui439 :: t
def cx_200q5i_1 (t : List (Int × Int)) : List (Int × Int) := ui440 :: ui49 :: ui49 :: ui586 :: ui439 :: t
def cx_200q5g_0 (t : List zTg) : List zTg := uG814 :: uG815 :: uG774 :: uG816 :: uG817 :: uG830 :: uG756 :: t
def cx_200q5 : zS := ((cx_200q5i_0 (cx_200q5i_1 [])), (cx_200pr_0 (cx_200pr_1 [])), [uL818, uL9, uL819, uL784, uL785], [], [uV97], [uF601, uF602, uF603, uF820, uF831, uF786], (cx_200q5g_0 []))
def cx_200q6i_0 (t : List (Int × Int)) : List (Int × Int) := ui0 :: ui49 :: ui31 :: (0, 6) :: (0, 6) :: ui49 :: ui49 :: ui439 :: t
def cx_200q6i_1 (t : List (Int × Int)) : List (Int × Int) := ui440 :: ui49 :: (0, 6) :: ui821 :: ui586 :: ui439 :: t
def cx_200q6g_0 (t : List zTg) : List zTg := uG822 :: uG823 :: uG824 :: uG774 :: uG825 :: uG826 :: (244, [uL23, uL207, uL610, uL65, uL755]) :: uG756 :: t
def cx_200q6 : zS := ((cx_200q6i_0 (cx_200q6i_1 [])), (cx_200pr_0 (cx_200pr_1 [])), [uL827, uL9, uL819, uL784, uL785], [], [uV828], [uF601, uF829, uF603, uF604, (5, (false, 2, 0, []), 0, 0, 0, [(13, 1)]), uF786], (cx_200q6g_0 []))
/-- HairRope.haul -/
def cx_200 : zCtx := (151, cx_200p, [cx_200q0, cx_200q1, cx_200q2, cx_200q3, cx_200q4, cx_200q5, cx_200q6], kc_51, 53316, 5, 158)
set_option maxRecDepth 1000000 in
theorem ck_200 : x_ok mLT1 [cx_195, cx_192, cx_189, cx_197, cx_198, cx_199] mTS2 mTC2 mRUp cx_200 [(1, [0]), (11, [1]), (37, [2]), (48, [3]), (56, [4]), (85, [5])] [(14, [1000726, 1000732]), (27, [1000741]), (40, [1000733]), (60, [1000734, 1000735]), (64, [1000739]), (73, [1000637]), (77, [1000736]), (80, [1000740]), (88, [1000737]), (91, [1000738])] [] (40, []) 53276 43 = true := by decide +kernel
theorem sn_200 {W : Bool} {X : List Int32} : y_Snd (mGw W) mLT1 (J2 W X) X cx_200 := y_ok J2_J mTS2_ok1 mTC2_ok1 mRUp_ok1 (List.forall_mem_cons.mpr ⟨sn_195, List.forall_mem_cons.mpr ⟨sn_192, List.forall_mem_cons.mpr ⟨sn_189, List.forall_mem_cons.mpr ⟨sn_197, List.forall_mem_cons.mpr ⟨sn_198, List.forall_mem_cons.mpr ⟨sn_199, fun _ h => absurd h List.not_mem_nil⟩⟩⟩⟩⟩⟩) ck_200
/-- Rules.mix -/
def cx_201 : zCtx := (97, ([ui0, ui49, ui49], [], [], [], [uV11, uV12], [], []), [([ui0, ui49, ui49, ui49], [], [], [], [uV58], [], [uG832])], [], 14, 0, 0)
set_option maxRecDepth 1000000 in
theorem ck_201 : x_ok mLT1 [] mTS2 mTC2 mRUp cx_201 [] [(2, [1000717]), (5, [1000639]), (9, [1000637]), (15, [1000421]), (16, [1000717]), (17, [1000718])] [] (14, []) 0 17 = true := by decide +kernel
theorem sn_201 {W : Bool} {X : List Int32} : y_Snd (mGw W) mLT1 (J2 W X) X cx_201 := y_ok J2_J mTS2_ok1 mTC2_ok1 mRUp_ok1 (fun _ h => absurd h List.not_mem_nil) ck_201
/-- Rules.lot -/
def cx_202 : zCtx := (96, ([ui0, ui49, ui49], [], [], [], [uV11, uV12], [], []), [([ui0, ui49, ui49, ui525], [], [], [], [uV58], [], [(255, [uL9, uL67, uL23])])], [], 26, 1, 22)
set_option maxRecDepth 1000000 in
theorem ck_202 : x_ok mLT1 [cx_201] mTS2 mTC2 mRUp cx_202 [(4, [0]), (8, [0])] [(14, [1000421]), (17, [1000679]), (18, [1000719])] [] (12, []) 14 15 = true := by decide +kernel
theorem sn_202 {W : Bool} {X : List Int32} : y_Snd (mGw W) mLT1 (J2 W X) X cx_202 := y_ok J2_J mTS2_ok1 mTC2_ok1 mRUp_ok1 (List.forall_mem_cons.mpr ⟨sn_201, fun _ h => absurd h List.not_mem_nil⟩) ck_202
def cx_203pi_0 (t : List (Int × Int)) : List (Int × Int) := ui0 :: (0, 5) :: ui49 :: ui49 :: ui31 :: (0, 6) :: (0, 6) :: ui49 :: t
def cx_203pi_1 (t : List (Int × Int)) : List (Int × Int) := ui49 :: ui810 :: t
def cx_203pf_0 (t : List zFa) : List zFa := uF541 :: uF542 :: uF580 :: uF581 :: uF582 :: uF583 :: uF584 :: (1, (false, 4, 0, []), 2, 4, 0, []) :: t
def cx_203pf_1 (t : List zFa) : List zFa := uF833 :: t
def cx_203p : zS := ((cx_203pi_0 (cx_203pi_1 [])), [ur444, ur433, ur445, ur532, ur550, ur434], [uL577, uL9, uL578], [], [uV2, uV420, uV11, uV12, uV58], (cx_203pf_0 (cx_203pf_1 [])), [(235, [uL104, uL78, uL79, uL131, uL98, uL67, uL23, uL36, uL164, uL9, uL104])])
/-- Rules.ageHouse -/
def cx_203 : zCtx := (95, cx_203p, [([ui0, (0, 5), ui49, ui49, ui31, (1, 6), (0, 6), ui49, ui49, ui810], [ur444, ur433, ur445, ur532, ur550, ur434], [uL578, uL577, uL9], [], [], [], [(235, [uL104, uL78, uL79, uL131, uL98, uL67, uL23, uL36, uL164, uL109, uL104])])], [uk540, uk530, uk438, uk769], 53026, 3, 110)
set_option maxRecDepth 1000000 in
theorem ck_203 : x_ok mLT1 [cx_131, cx_137, cx_138, cx_202] mTS2 mTC2 mRUp cx_203 [(13, [0]), (22, [1]), (36, [2]), (73, [3])] [(18, [1000814, 1000808]), (32, [1000985, 1000986]), (58, [1000931]), (62, [1000971, 1000972, 1000973]), (70, [1000639]), (72, [1000637]), (80, [1000974]), (88, [1000023]), (89, [1000975, 1000976]), (93, [1000981]), (109, [1000982]), (112, [1000983, 1000984]), (113, [1000977, 1000978, 1000979, 1000980])] [] (58, []) 52968 61 = true := by decide +kernel
theorem sn_203 {W : Bool} {X : List Int32} : y_Snd (mGw W) mLT1 (J2 W X) X cx_203 := y_ok J2_J mTS2_ok1 mTC2_ok1 mRUp_ok1 (List.forall_mem_cons.mpr ⟨sn_131, List.forall_mem_cons.mpr ⟨sn_137, List.forall_mem_cons.mpr ⟨sn_138, List.forall_mem_cons.mpr ⟨sn_202, fun _ h => absurd h List.not_mem_nil⟩⟩⟩⟩) ck_203
def cx_204pi_0 (t : List (Int × Int)) : List (Int × Int) := ui0 :: ui49 :: ui49 :: ui31 :: (0, 6) :: (0, 6) :: ui49 :: ui49 :: t
def cx_204pi_1 (t : List (Int × Int)) : List (Int × Int) := ui810 :: t
def cx_204p : zS := ((cx_204pi_0 (cx_204pi_1 [])), [ur444, ur433, ur445, ur532], [uL768], [], [uV2, uV420, uV11, uV12], [uF541, uF542, uF551, uF185, uF834, uF835, uF836, uF837], [(235, [uL98, uL104, uL78, uL79, uL23, uL9, uL67, uL36, uL131, uL63, uL98])])
/-- Rules.ageAll -/
def cx_204 : zCtx := (94, cx_204p, [([ui0, ui49, ui49, ui31, (0, 6), (0, 6), ui49, ui49, ui810, ui49], [ur444, ur433, ur445, ur532], [], [], [], [(1, (false, 7, 0, []), 0, 0, 0, [(9, 1)])], [(235, [uL98, uL104, uL164, uL79, uL23, uL9, uL67, uL36, uL838, uL63, uL98])])], [uk437, uk540, uk530, uk438, uk769], 53125, 4, 137)
def cz_204_0i_0 (t : List (Int × Int)) : List (Int × Int) := ui0 :: ui49 :: ui49 :: ui31 :: (0, 6) :: (0, 6) :: ui49 :: ui49 :: t
def cz_204_0i_1 (t : List (Int × Int)) : List (Int × Int) := ui810 :: (0, 6) :: t
def cz_204_0 : zS := ((cz_204_0i_0 (cz_204_0i_1 [])), [ur444, ur433, ur445, ur532], [uL768, (0, [(4, 1), (9, (-1))])], [uV2, uV420, uV11, uV12, uV781], [], [uF541, uF542, uF551, uF185, uF834, uF835, uF836, uF837], [(235, [uL98, uL104, uL78, uL79, uL23, uL9, uL67, uL36, uL131, uL164, uL98])])
set_option maxRecDepth 1000000 in
theorem ck_204 : x_ok mLT1 [cx_203] mTS2 mTC2 mRUp cx_204 [(21, [0])] [(36, [1000637]), (37, [1000987])] [(3, cz_204_0, (96, [(9, (-14))]))] (99, []) 53026 16 = true := by decide +kernel
theorem sn_204 {W : Bool} {X : List Int32} : y_Snd (mGw W) mLT1 (J2 W X) X cx_204 := y_ok J2_J mTS2_ok1 mTC2_ok1 mRUp_ok1 (List.forall_mem_cons.mpr ⟨sn_203, fun _ h => absurd h List.not_mem_nil⟩) ck_204
def cx_205pi_0 (t : List (Int × Int)) : List (Int × Int) := ui0 :: ui49 :: ui31 :: (0, 6) :: (0, 6) :: ui49 :: ui49 :: ui439 :: t
def cx_205pi_1 (t : List (Int × Int)) : List (Int × Int) := ui440 :: ui49 :: ui49 :: t
def cx_205pr_0 (t : List (Nat × Bool)) : List (Nat × Bool) := ur443 :: ur444 :: ur445 :: ur532 :: ur433 :: ur441 :: ur434 :: ur428 :: t
def cx_205pr_1 (t : List (Nat × Bool)) : List (Nat × Bool) := ur548 :: ur549 :: ur550 :: t
def cx_205pf_0 (t : List zFa) : List zFa := uF13 :: uF510 :: uF542 :: uF543 :: uF152 :: uF552 :: uF601 :: uF602 :: t
def cx_205pf_1 (t : List zFa) : List zFa := uF603 :: uF604 :: uF450 :: uF451 :: uF452 :: uF557 :: uF558 :: uF559 :: t
def cx_205pf_2 (t : List zFa) : List zFa := uF560 :: uF561 :: uF839 :: uF840 :: t
def cx_205p : zS := ((cx_205pi_0 (cx_205pi_1 [])), (cx_205pr_0 (cx_205pr_1 [])), [], [], [uV2, uV11], (cx_205pf_0 (cx_205pf_1 (cx_205pf_2 []))), [uG605, uG773])
def cx_205q0i_0 (t : List (Int × Int)) : List (Int × Int) := ui0 :: ui841 :: ui31 :: (0, 6) :: (0, 6) :: ui49 :: ui49 :: ui439 :: t
def cx_205q0i_1 (t : List (Int × Int)) : List (Int × Int) := ui440 :: ui49 :: ui49 :: t
def cx_205q0 : zS := ((cx_205q0i_0 (cx_205q0i_1 [])), (cx_205pr_0 (cx_205pr_1 [])), [], [], [uV61], [uF601, uF602, uF603, uF604, uF451, uF452], [uG605, uG773])
def cx_205q1i_0 (t : List (Int × Int)) : List (Int × Int) := ui0 :: ui262 :: ui31 :: (0, 6) :: (0, 6) :: ui49 :: ui49 :: ui439 :: t
def cx_205q1i_1 (t : List (Int × Int)) : List (Int × Int) := ui440 :: ui49 :: ui49 :: t
def cx_205q1 : zS := ((cx_205q1i_0 (cx_205q1i_1 [])), (cx_205pr_0 (cx_205pr_1 [])), [], [], [uV61], [uF601, uF602, uF603, uF604, uF451, uF452], [uG605, uG773])
def cx_205q2i_0 (t : List (Int × Int)) : List (Int × Int) := ui0 :: ui49 :: ui31 :: (0, 6) :: (0, 6) :: ui49 :: ui49 :: ui439 :: t
def cx_205q2i_1 (t : List (Int × Int)) : List (Int × Int) := ui440 :: ui49 :: ui49 :: ui49 :: t
def cx_205q2 : zS := ((cx_205q2i_0 (cx_205q2i_1 [])), (cx_205pr_0 (cx_205pr_1 [])), [uL160, uL842, uL780], [], [uV843], [uF601, uF602, uF844, uF604, uF451, uF783], [uG845, uG778, uG757])
def cx_205q3i_0 (t : List (Int × Int)) : List (Int × Int) := ui0 :: ui49 :: ui31 :: (0, 6) :: (0, 6) :: ui49 :: ui49 :: ui439 :: t
def cx_205q3i_1 (t : List (Int × Int)) : List (Int × Int) := ui440 :: ui49 :: ui49 :: ui49 :: ui439 :: t
def cx_205q3 : zS := ((cx_205q3i_0 (cx_205q3i_1 [])), (cx_205pr_0 (cx_205pr_1 [])), [uL160, uL842, uL784, uL785], [], [uV843], [uF601, uF602, uF844, uF604, uF831, uF786], [uG845, uG830, uG756])
def cx_205q4i_0 (t : List (Int × Int)) : List (Int × Int) := ui0 :: (0, 0) :: ui31 :: (0, 6) :: (0, 6) :: ui49 :: ui49 :: ui439 :: t
def cx_205q4i_1 (t : List (Int × Int)) : List (Int × Int) := ui440 :: ui49 :: ui49 :: t
def cx_205q4 : zS := ((cx_205q4i_0 (cx_205q4i_1 [])), (cx_205pr_0 (cx_205pr_1 [])), [], [], [uV75], [uF601, uF602, uF603, uF604, uF451, uF452], [uG605, uG773])
/-- HairRope.years -/
def cx_205 : zCtx := (154, cx_205p, [cx_205q0, cx_205q1, cx_205q2, cx_205q3, cx_205q4], kc_52, 65315, 5, 161)
def cz_205_0i_0 (t : List (Int × Int)) : List (Int × Int) := ui0 :: ui846 :: ui31 :: (0, 6) :: (0, 6) :: ui49 :: ui49 :: ui439 :: t
def cz_205_0i_1 (t : List (Int × Int)) : List (Int × Int) := ui439 :: ui49 :: ui49 :: ui847 :: ui49 :: t
def cz_205_0f_0 (t : List zFa) : List zFa := uF451 :: uF783 :: uF13 :: uF510 :: uF542 :: uF543 :: uF152 :: uF552 :: t
def cz_205_0f_1 (t : List zFa) : List zFa := uF601 :: uF602 :: (4, (false, 7, 0, []), 0, 0, 0, [(12, 1)]) :: uF604 :: uF450 :: uF557 :: uF558 :: uF559 :: t
def cz_205_0f_2 (t : List zFa) : List zFa := uF560 :: uF561 :: uF839 :: uF840 :: t
def cz_205_0 : zS := ((cz_205_0i_0 (cz_205_0i_1 [])), (cx_205pr_0 (cx_205pr_1 [])), [uL848], [uV2, uV11, uV843], [], (cz_205_0f_0 (cz_205_0f_1 (cz_205_0f_2 []))), [(235, [uL23, uL98, uL214, uL78, uL67, uL164, uL170, uL36, uL195, uL63, uL23]), uG757, uG778])
def cz_205_1i_0 (t : List (Int × Int)) : List (Int × Int) := ui0 :: ui846 :: ui31 :: (0, 6) :: (0, 6) :: ui49 :: ui49 :: ui439 :: t
def cz_205_1i_1 (t : List (Int × Int)) : List (Int × Int) := ui758 :: ui49 :: ui49 :: ui847 :: ui439 :: ui49 :: t
def cz_205_1f_0 (t : List zFa) : List zFa := uF831 :: uF786 :: uF13 :: uF510 :: uF542 :: uF543 :: uF152 :: uF552 :: t
def cz_205_1f_1 (t : List zFa) : List zFa := uF601 :: uF602 :: (4, (false, 7, 0, []), 0, 0, 0, [(13, 1)]) :: uF604 :: uF450 :: uF557 :: uF558 :: uF559 :: t
def cz_205_1f_2 (t : List zFa) : List zFa := uF560 :: uF561 :: uF839 :: uF840 :: t
def cz_205_1 : zS := ((cz_205_1i_0 (cz_205_1i_1 [])), (cx_205pr_0 (cx_205pr_1 [])), [uL848], [uV2, uV11, uV843], [], (cz_205_1f_0 (cz_205_1f_1 (cz_205_1f_2 []))), [(235, [uL23, uL98, uL207, uL78, uL67, uL164, uL170, uL36, uL195, uL63, uL23]), uG756, uG830])
def cz_205_2 : zS := ((cx_205q4i_0 (cx_205q4i_1 [])), (cx_205pr_0 (cx_205pr_1 [])), [], [uV2, uV11, uV62], [], (cx_205pf_0 (cx_205pf_1 (cx_205pf_2 []))), [uG605, uG773])
set_option maxRecDepth 1000000 in
theorem ck_205 : x_ok mLT1 [cx_189, cx_204] mTS2 mTC2 mRUp cx_205 [(24, [0]), (62, [1])] [(27, [1000742])] [(29, cz_205_0, (12040, [(11, (-190))])), (29, cz_205_1, ((-1000000000000), [(8, 25000000301), (11, (-190))])), (29, cz_205_2, (70, [(1, (-1000000000000))]))] (12190, []) 53125 21 = true := by decide +kernel
theorem sn_205 {W : Bool} {X : List Int32} : y_Snd (mGw W) mLT1 (J2 W X) X cx_205 := y_ok J2_J mTS2_ok1 mTC2_ok1 mRUp_ok1 (List.forall_mem_cons.mpr ⟨sn_189, List.forall_mem_cons.mpr ⟨sn_204, fun _ h => absurd h List.not_mem_nil⟩⟩) ck_205
def cx_206p : zS := ((cx_149pi_0 (cx_149pi_1 (cx_149pi_2 (cx_149pi_3 (cx_149pi_4 []))))), [ur433, ur709, ur849, ur850, ur851, ur852, ur853], [], [], [uV2, uV420], (cx_149pf_0 (cx_149pf_1 (cx_149pf_2 (cx_149pf_3 (cx_149pf_4 (cx_149pf_5 [])))))), [])
def cx_206q0 : zS := ((cx_149pi_0 (cx_149pi_1 (cx_149pi_2 (cx_149pi_3 (cx_149pi_4 []))))), [ur433, ur709, ur849, ur850, ur851, ur852, ur853], [], [], [], [uF126, uF128, uF129, uF713], [uG714])
/-- State.copyFrom -/
def cx_206 : zCtx := (102, cx_206p, [cx_206q0], kc_53, 57, 1, 64)
set_option maxRecDepth 1000000 in
theorem ck_206 : x_ok mLT1 [] mTS2 mTC2 mRUp cx_206 [] [(107, [1000868])] [] (57, []) 0 60 = true := by decide +kernel
theorem sn_206 {W : Bool} {X : List Int32} : y_Snd (mGw W) mLT1 (J2 W X) X cx_206 := y_ok J2_J mTS2_ok1 mTC2_ok1 mRUp_ok1 (fun _ h => absurd h List.not_mem_nil) ck_206
def cx_207p : zS := ((cx_149pi_0 (cx_149pi_1 (cx_149pi_2 (cx_149pi_3 (cx_149pi_4 []))))), [ur433, ur707, ur854, ur855, ur856, ur857, ur858], [], [], [uV2, uV420], (cx_149pf_0 (cx_149pf_1 (cx_149pf_2 (cx_149pf_3 (cx_149pf_4 (cx_149pf_5 [])))))), [])
def cx_207q0 : zS := ((cx_149pi_0 (cx_149pi_1 (cx_149pi_2 (cx_149pi_3 (cx_149pi_4 []))))), [ur433, ur707, ur854, ur855, ur856, ur857, ur858], [], [], [], [uF126, uF128, uF129, uF713], [uG715])
/-- State.copyFrom -/
def cx_207 : zCtx := (102, cx_207p, [cx_207q0], kc_53, 57, 1, 64)
set_option maxRecDepth 1000000 in
theorem ck_207 : x_ok mLT1 [] mTS2 mTC2 mRUp cx_207 [] [(107, [1000869])] [] (57, []) 0 60 = true := by decide +kernel
theorem sn_207 {W : Bool} {X : List Int32} : y_Snd (mGw W) mLT1 (J2 W X) X cx_207 := y_ok J2_J mTS2_ok1 mTC2_ok1 mRUp_ok1 (fun _ h => absurd h List.not_mem_nil) ck_207
def cx_208p : zS := ((cx_149pi_0 (cx_149pi_1 (cx_149pi_2 (cx_149pi_3 (cx_149pi_4 []))))), [ur433, ur705, ur859, ur860, ur861, ur862, ur863], [], [], [uV2, uV420], (cx_149pf_0 (cx_149pf_1 (cx_149pf_2 (cx_149pf_3 (cx_149pf_4 (cx_149pf_5 [])))))), [])
def cx_208q0 : zS := ((cx_149pi_0 (cx_149pi_1 (cx_149pi_2 (cx_149pi_3 (cx_149pi_4 []))))), [ur433, ur705, ur859, ur860, ur861, ur862, ur863], [], [], [], [uF126, uF128, uF129, uF713], [uG716])
/-- State.copyFrom -/
def cx_208 : zCtx := (102, cx_208p, [cx_208q0], kc_53, 57, 1, 64)
set_option maxRecDepth 1000000 in
theorem ck_208 : x_ok mLT1 [] mTS2 mTC2 mRUp cx_208 [] [(107, [1000870])] [] (57, []) 0 60 = true := by decide +kernel
theorem sn_208 {W : Bool} {X : List Int32} : y_Snd (mGw W) mLT1 (J2 W X) X cx_208 := y_ok J2_J mTS2_ok1 mTC2_ok1 mRUp_ok1 (fun _ h => absurd h List.not_mem_nil) ck_208
def cx_209p : zS := ((cx_149pi_0 (cx_149pi_1 (cx_149pi_2 (cx_149pi_3 (cx_149pi_4 []))))), [ur433, ur703, ur864, ur865, ur866, ur867, ur868], [], [], [uV2, uV420], (cx_149pf_0 (cx_149pf_1 (cx_149pf_2 (cx_149pf_3 (cx_149pf_4 (cx_149pf_5 [])))))), [])
def cx_209q0 : zS := ((cx_149pi_0 (cx_149pi_1 (cx_149pi_2 (cx_149pi_3 (cx_149pi_4 []))))), [ur433, ur703, ur864, ur865, ur866, ur867, ur868], [], [], [], [uF126, uF128, uF129, uF713], [uG717])
/-- State.copyFrom -/
def cx_209 : zCtx := (102, cx_209p, [cx_209q0], kc_53, 57, 1, 64)
set_option maxRecDepth 1000000 in
theorem ck_209 : x_ok mLT1 [] mTS2 mTC2 mRUp cx_209 [] [(107, [1000871])] [] (57, []) 0 60 = true := by decide +kernel
theorem sn_209 {W : Bool} {X : List Int32} : y_Snd (mGw W) mLT1 (J2 W X) X cx_209 := y_ok J2_J mTS2_ok1 mTC2_ok1 mRUp_ok1 (fun _ h => absurd h List.not_mem_nil) ck_209
def cx_210p : zS := ((cx_149pi_0 (cx_149pi_1 (cx_149pi_2 (cx_149pi_3 (cx_149pi_4 []))))), [ur433, ur701, ur869, ur870, ur871, ur872, ur873], [], [], [uV2, uV420], (cx_149pf_0 (cx_149pf_1 (cx_149pf_2 (cx_149pf_3 (cx_149pf_4 (cx_149pf_5 [])))))), [])
def cx_210q0 : zS := ((cx_149pi_0 (cx_149pi_1 (cx_149pi_2 (cx_149pi_3 (cx_149pi_4 []))))), [ur433, ur701, ur869, ur870, ur871, ur872, ur873], [], [], [], [uF126, uF128, uF129, uF713], [uG718])
/-- State.copyFrom -/
def cx_210 : zCtx := (102, cx_210p, [cx_210q0], kc_53, 57, 1, 64)
set_option maxRecDepth 1000000 in
theorem ck_210 : x_ok mLT1 [] mTS2 mTC2 mRUp cx_210 [] [(107, [1000872])] [] (57, []) 0 60 = true := by decide +kernel
theorem sn_210 {W : Bool} {X : List Int32} : y_Snd (mGw W) mLT1 (J2 W X) X cx_210 := y_ok J2_J mTS2_ok1 mTC2_ok1 mRUp_ok1 (fun _ h => absurd h List.not_mem_nil) ck_210
def cx_211p : zS := ((cx_149pi_0 (cx_149pi_1 (cx_149pi_2 (cx_149pi_3 (cx_149pi_4 []))))), [ur433, ur699, ur874, ur875, ur876, ur877, ur878], [], [], [uV2, uV420], (cx_149pf_0 (cx_149pf_1 (cx_149pf_2 (cx_149pf_3 (cx_149pf_4 (cx_149pf_5 [])))))), [])
def cx_211q0 : zS := ((cx_149pi_0 (cx_149pi_1 (cx_149pi_2 (cx_149pi_3 (cx_149pi_4 []))))), [ur433, ur699, ur874, ur875, ur876, ur877, ur878], [], [], [], [uF126, uF128, uF129, uF713], [uG719])
/-- State.copyFrom -/
def cx_211 : zCtx := (102, cx_211p, [cx_211q0], kc_53, 57, 1, 64)
set_option maxRecDepth 1000000 in
theorem ck_211 : x_ok mLT1 [] mTS2 mTC2 mRUp cx_211 [] [(107, [1000873])] [] (57, []) 0 60 = true := by decide +kernel
theorem sn_211 {W : Bool} {X : List Int32} : y_Snd (mGw W) mLT1 (J2 W X) X cx_211 := y_ok J2_J mTS2_ok1 mTC2_ok1 mRUp_ok1 (fun _ h => absurd h List.not_mem_nil) ck_211
def cx_212p : zS := ((cx_149pi_0 (cx_149pi_1 (cx_149pi_2 (cx_149pi_3 (cx_149pi_4 []))))), [ur433, ur697, ur879, ur880, ur881, ur882, ur883], [], [], [uV2, uV420], (cx_149pf_0 (cx_149pf_1 (cx_149pf_2 (cx_149pf_3 (cx_149pf_4 (cx_149pf_5 [])))))), [])
def cx_212q0 : zS := ((cx_149pi_0 (cx_149pi_1 (cx_149pi_2 (cx_149pi_3 (cx_149pi_4 []))))), [ur433, ur697, ur879, ur880, ur881, ur882, ur883], [], [], [], [uF126, uF128, uF129, uF713], [uG720])
/-- State.copyFrom -/
def cx_212 : zCtx := (102, cx_212p, [cx_212q0], kc_53, 57, 1, 64)
set_option maxRecDepth 1000000 in
theorem ck_212 : x_ok mLT1 [] mTS2 mTC2 mRUp cx_212 [] [(107, [1000874])] [] (57, []) 0 60 = true := by decide +kernel
theorem sn_212 {W : Bool} {X : List Int32} : y_Snd (mGw W) mLT1 (J2 W X) X cx_212 := y_ok J2_J mTS2_ok1 mTC2_ok1 mRUp_ok1 (fun _ h => absurd h List.not_mem_nil) ck_212
end
