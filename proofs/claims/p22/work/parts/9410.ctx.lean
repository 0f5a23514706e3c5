noncomputable section
/-! ===== readings, by program, checked by the kernel ===== -/
def cx_190pf_0 (t : List zFa) : List zFa := uF138 :: uF94 :: uF783 :: (0, (false, 8, 0, []), 0, 0, 0, [(6, 1)]) :: uF21 :: uF22 :: uF33 :: uF567 :: t
def cx_190pf_1 (t : List zFa) : List zFa := uF448 :: (1, (true, 0, 0, [(1, 1)]), 0, 0, 0, [(7, 1)]) :: t
def cx_190pg_0 (t : List zTg) : List zTg := (235, [uL98, uL23, uL104, uL78, uL63, uL63, uL63, uL63, uL63, uL63, uL63]) :: uG784 :: (238, [uL34, uL63, uL63, uL63, uL63, uL63, uL63, uL63, uL9, uL63, uL79]) :: (238, [uL258, uL63, uL63, uL63, uL63, uL63, uL63, uL63, uL9, uL63, uL67]) :: t
def cx_190p : zS := ([ui0, (0, 5), ui49, (0, 6), (0, 6), ui49, ui49, ui785], [ur431, ur432, ur426, ur563, ur564, ur565], [uL786, uL9, uL579], [], [uV2, uV11, uV12], (cx_190pf_0 (cx_190pf_1 [])), (cx_190pg_0 []))
/-- State.addPlait -/
def cx_190 : zCtx := (103, cx_190p, [([ui0, (0, 5), ui49, (0, 6), (0, 6), ui49, ui49, ui785], [ur431, ur432, ur426, ur563, ur564, ur565], [(5, [(3, (-1))])], [], [], [(0, (false, 6, 0, []), 0, 0, 1, [(3, 1)])], [(235, [uL98, (1, [(3, 1)]), uL104, uL78, uL63, uL63, uL63, uL65, uL9, uL63, uL63])])], [uk434, uk436, uk427, (29, true, 0), (30, true, 0), uk787], 53, 0, 0)
set_option maxRecDepth 1000000 in
theorem ck_190 : x_ok mLT1 [] mTS2 mTC2 mRUp cx_190 [] [(10, [1000911, 1000912]), (76, [1000637]), (88, [1000913])] [] (53, []) 0 56 = true := by decide +kernel
theorem sn_190 {W : Bool} {X : List Int32} : y_Snd (mGw W) mLT1 (J2 W X) X cx_190 := y_ok J2_J mTS2_ok1 mTC2_ok1 mRUp_ok1 (fun _ h => absurd h List.not_mem_nil) ck_190
def cx_191pi_0 (t : List (Int × Int)) : List (Int × Int) := ui0 :: ui243 :: (0, 6) :: (0, 6) :: ui49 :: ui49 :: ui49 :: ui49 :: t
def cx_191pi_1 (t : List (Int × Int)) : List (Int × Int) := ui49 :: ui49 :: ui49 :: ui49 :: ui49 :: t
def cx_191p : zS := ((cx_191pi_0 (cx_191pi_1 [])), [ur431, ur564], [uL518, uL109, uL57], [], [uV2, uV11], [uF39, uF95, uF139, uF519, uF614], [uG520])
/-- State.lengthBelow -/
def cx_191 : zCtx := (105, cx_191p, [([ui0, ui243, (0, 6), (0, 6), ui49, ui49, ui49, ui49, ui49, ui49, ui49, ui49, ui49, ui788], [ur431, ur564], [uL518, uL109, uL57, uL205], [], [uV408], [], [(238, [uL65, uL78, uL79, uL131, uL163, uL169, uL193, uL212, uL109, uL67, uL205])])], [], 117, 1, 64)
def cz_191_0i_0 (t : List (Int × Int)) : List (Int × Int) := ui0 :: ui243 :: (0, 6) :: (0, 6) :: ui49 :: ui49 :: ui49 :: ui49 :: t
def cz_191_0i_1 (t : List (Int × Int)) : List (Int × Int) := ui49 :: ui49 :: ui49 :: ui49 :: ui49 :: ui788 :: (0, 6) :: t
def cz_191_0 : zS := ((cz_191_0i_0 (cz_191_0i_1 [])), [ur431, ur564], [uL518, uL109, uL57, uL205, ((-99), [(1, (-99)), (13, (-1)), (14, 99)]), ((-1), [(1, (-1)), (14, 1)]), (0, [(2, 1), (14, (-1))])], [uV2, uV11, uV408, uV355], [], [uF39, uF95, uF139, uF519, uF614], [uG520, (238, [uL65, uL78, uL79, uL131, uL163, uL169, uL193, uL212, uL109, uL206, uL205])])
set_option maxRecDepth 1000000 in
theorem ck_191 : x_ok mLT1 [] mTS2 mTC2 mRUp cx_191 [] [(6, [1000914]), (9, [1000915]), (31, [1000916]), (32, [1000917])] [(10, cz_191_0, (108, [(14, (-17))]))] (117, []) 0 19 = true := by decide +kernel
theorem sn_191 {W : Bool} {X : List Int32} : y_Snd (mGw W) mLT1 (J2 W X) X cx_191 := y_ok J2_J mTS2_ok1 mTC2_ok1 mRUp_ok1 (fun _ h => absurd h List.not_mem_nil) ck_191
def cx_192pi_0 (t : List (Int × Int)) : List (Int × Int) := ui0 :: (0, 6) :: (0, 6) :: ui49 :: ui49 :: ui49 :: ui49 :: ui49 :: t
def cx_192pi_1 (t : List (Int × Int)) : List (Int × Int) := ui49 :: ui49 :: ui49 :: ui49 :: t
def cx_192p : zS := ((cx_192pi_0 (cx_192pi_1 [])), [ur431, ur564], [uL789], [], [uV2], [uF790, uF55, uF40, uF41, uF614], [(235, [uL67, uL9, uL23, uL98, uL104, uL78, uL79, uL131, uL163, uL169, uL193])])
/-- State.ropeLength -/
def cx_192 : zCtx := (104, cx_192p, [([ui0, (0, 6), (0, 6), ui49, ui49, ui49, ui49, ui49, ui49, ui49, ui49, ui49, ui788], [ur431, ur564], [uL789], [], [uV196], [], [(238, [uL65, uL104, uL78, uL79, uL131, uL163, uL169, uL193, uL63, uL9, uL212])])], [], 121, 2, 87)
set_option maxRecDepth 1000000 in
theorem ck_192 : x_ok mLT1 [cx_191] mTS2 mTC2 mRUp cx_192 [(2, [0])] [] [] (4, []) 117 7 = true := by decide +kernel
theorem sn_192 {W : Bool} {X : List Int32} : y_Snd (mGw W) mLT1 (J2 W X) X cx_192 := y_ok J2_J mTS2_ok1 mTC2_ok1 mRUp_ok1 (List.forall_mem_cons.mpr ⟨sn_191, fun _ h => absurd h List.not_mem_nil⟩) ck_192
def cx_193pi_0 (t : List (Int × Int)) : List (Int × Int) := ui0 :: ui49 :: ui31 :: (0, 6) :: (0, 6) :: ui49 :: ui49 :: ui437 :: t
def cx_193pi_1 (t : List (Int × Int)) : List (Int × Int) := ui438 :: t
def cx_193pf_0 (t : List zFa) : List zFa := uF13 :: uF516 :: uF555 :: uF556 :: uF152 :: uF567 :: uF616 :: uF617 :: t
def cx_193pf_1 (t : List zFa) : List zFa := uF618 :: uF619 :: uF448 :: uF453 :: uF454 :: uF410 :: t
def cx_193p : zS := ((cx_193pi_0 (cx_193pi_1 [])), [ur441, ur442, ur443, ur545, ur431, ur439, ur562], [], [], [uV2, uV11], (cx_193pf_0 (cx_193pf_1 [])), [uG620, uG791])
def cx_193q0 : zS := ((cx_193pi_0 (cx_193pi_1 [])), [ur441, ur442, ur443, ur545, ur431, ur439, ur562], [], [], [uV61], [uF616, uF617, uF618, uF619, uF453, uF454], [uG620, (260, [uL264, uL63, uL63, uL63, uL63, uL63, uL63, uL63, uL9, uL23, uL63]), uG791])
def cx_193q1i_0 (t : List (Int × Int)) : List (Int × Int) := ui0 :: ui49 :: ui31 :: (0, 6) :: (0, 6) :: ui49 :: ui49 :: ui437 :: t
def cx_193q1i_1 (t : List (Int × Int)) : List (Int × Int) := ui438 :: ui600 :: t
def cx_193q1g_0 (t : List zTg) : List zTg := uG792 :: uG793 :: uG794 :: uG795 :: uG796 :: uG775 :: t
def cx_193q1 : zS := ((cx_193q1i_0 (cx_193q1i_1 [])), [ur441, ur442, ur443, ur545, ur431, ur439, ur562], [uL797, uL798], [], [uV799], [uF616, uF800, uF618, uF619, uF453, uF801], (cx_193q1g_0 []))
def cx_193q2i_0 (t : List (Int × Int)) : List (Int × Int) := ui0 :: ui49 :: ui31 :: (0, 6) :: (0, 6) :: ui49 :: ui49 :: ui437 :: t
def cx_193q2i_1 (t : List (Int × Int)) : List (Int × Int) := ui438 :: ui600 :: ui437 :: t
def cx_193q2g_0 (t : List zTg) : List zTg := uG792 :: uG793 :: uG794 :: uG795 :: (244, [uL23, uL169, uL625, uL65, uL773]) :: uG774 :: t
def cx_193q2 : zS := ((cx_193q2i_0 (cx_193q2i_1 [])), [ur441, ur442, ur443, ur545, ur431, ur439, ur562], [uL797, uL802, uL803], [], [uV799], [uF616, uF800, uF618, uF619, (5, (false, 2, 0, []), 0, 0, 0, [(10, 1)]), uF804], (cx_193q2g_0 []))
/-- HairRope.splice -/
def cx_193 : zCtx := (149, cx_193p, [cx_193q0, cx_193q1, cx_193q2], kc_49, 236, 3, 107)
set_option maxRecDepth 1000000 in
theorem ck_193 : x_ok mLT1 [cx_130, cx_131, cx_189, cx_190, cx_192] mTS2 mTC2 mRUp cx_193 [(2, [0]), (13, [1]), (42, [2]), (62, [3]), (69, [4])] [(27, [1000720]), (32, [1000721, 1000722, 1000723, 1000724]), (34, [1000725, 1000726]), (62, [1000727]), (72, [1000728])] [] (35, []) 201 38 = true := by decide +kernel
theorem sn_193 {W : Bool} {X : List Int32} : y_Snd (mGw W) mLT1 (J2 W X) X cx_193 := y_ok J2_J mTS2_ok1 mTC2_ok1 mRUp_ok1 (List.forall_mem_cons.mpr ⟨sn_130, List.forall_mem_cons.mpr ⟨sn_131, List.forall_mem_cons.mpr ⟨sn_189, List.forall_mem_cons.mpr ⟨sn_190, List.forall_mem_cons.mpr ⟨sn_192, fun _ h => absurd h List.not_mem_nil⟩⟩⟩⟩⟩) ck_193
def cx_194pf_0 (t : List zFa) : List zFa := uF13 :: uF516 :: uF555 :: uF805 :: uF303 :: uF567 :: uF806 :: uF807 :: t
def cx_194pf_1 (t : List zFa) : List zFa := uF808 :: uF809 :: uF448 :: uF810 :: uF811 :: (4, (false, 2, 0, []), 2, 6, 0, []) :: t
def cx_194p : zS := ([ui0, ui31, (0, 6), (0, 6), ui49, ui49, ui437, ui438], [ur441, ur442, ur443, ur545, ur431, ur439, ur563], [], [], [uV2], (cx_194pf_0 (cx_194pf_1 [])), [uG812, uG813])
def cx_194q0 : zS := ([ui0, ui31, (0, 6), (0, 6), ui49, ui49, ui437, ui438], [ur441, ur442, ur443, ur545, ur431, ur439, ur563], [uL814], [], [uV61], [uF806, uF807, uF808, uF809, uF810, uF811], [uG812, uG813])
def cx_194q1i_0 (t : List (Int × Int)) : List (Int × Int) := ui0 :: ui31 :: (0, 6) :: (0, 6) :: ui49 :: ui49 :: ui437 :: ui438 :: t
def cx_194q1i_1 (t : List (Int × Int)) : List (Int × Int) := (0, 5) :: t
def cx_194q1g_0 (t : List zTg) : List zTg := uG816 :: uG817 :: uG818 :: (244, [uL67, uL78, uL79, uL63, (0, [(7, 33)])]) :: uG775 :: t
def cx_194q1 : zS := ((cx_194q1i_0 (cx_194q1i_1 [])), [ur441, ur442, ur443, ur545, ur431, ur439, ur563], [uL815, (39, [(7, (-1))])], [], [uV144], [uF806, uF819, uF808, uF809, uF810, (5, (false, 3, 0, []), 0, 0, 1, [(7, 1)])], (cx_194q1g_0 []))
def cx_194q2i_0 (t : List (Int × Int)) : List (Int × Int) := ui0 :: ui31 :: (0, 6) :: (0, 6) :: ui49 :: ui49 :: ui437 :: ui438 :: t
def cx_194q2i_1 (t : List (Int × Int)) : List (Int × Int) := (0, 5) :: ui437 :: t
def cx_194q2g_0 (t : List zTg) : List zTg := uG816 :: uG817 :: uG818 :: (244, [uL67, uL163, uL625, uL65, uL773]) :: uG774 :: t
def cx_194q2 : zS := ((cx_194q2i_0 (cx_194q2i_1 [])), [ur441, ur442, ur443, ur545, ur431, ur439, ur563], [uL815, ((-40), [(7, 1)]), (40, [(7, (-1))])], [], [uV144], [uF806, uF819, uF808, uF809, (5, (false, 2, 0, []), 0, 0, 0, [(9, 1)]), uF804], (cx_194q2g_0 []))
/-- HairRope.unsplice -/
def cx_194 : zCtx := (150, cx_194p, [cx_194q0, cx_194q1, cx_194q2], kc_50, 226, 3, 107)
set_option maxRecDepth 1000000 in
theorem ck_194 : x_ok mLT1 [cx_146, cx_189] mTS2 mTC2 mRUp cx_194 [(12, [0]), (28, [1])] [(20, [1000726, 1000730]), (39, [1000729])] [] (25, []) 201 28 = true := by decide +kernel
theorem sn_194 {W : Bool} {X : List Int32} : y_Snd (mGw W) mLT1 (J2 W X) X cx_194 := y_ok J2_J mTS2_ok1 mTC2_ok1 mRUp_ok1 (List.forall_mem_cons.mpr ⟨sn_146, List.forall_mem_cons.mpr ⟨sn_189, fun _ h => absurd h List.not_mem_nil⟩⟩) ck_194
/-- HairRope.isHaul -/
def cx_195 : zCtx := (152, ([ui0, ui49], [], [], [], [uV11], [], []), [([ui0, ui600], [], [], [], [uV64], [], []), ([ui0, ui820], [], [], [], [uV62], [], []), ([ui0, ui260], [], [], [], [uV62], [], [])], [], 8, 0, 0)
set_option maxRecDepth 1000000 in
theorem ck_195 : x_ok mLT1 [] mTS2 mTC2 mRUp cx_195 [] [] [] (8, []) 0 11 = true := by decide +kernel
theorem sn_195 {W : Bool} {X : List Int32} : y_Snd (mGw W) mLT1 (J2 W X) X cx_195 := y_ok J2_J mTS2_ok1 mTC2_ok1 mRUp_ok1 (fun _ h => absurd h List.not_mem_nil) ck_195
def cx_196pi_0 (t : List (Int × Int)) : List (Int × Int) := ui0 :: (1, 5) :: ui31 :: (0, 6) :: (0, 6) :: ui49 :: ui49 :: ui49 :: t
def cx_196pi_1 (t : List (Int × Int)) : List (Int × Int) := ui49 :: ui49 :: ui49 :: ui49 :: ui49 :: t
def cx_196p : zS := ((cx_196pi_0 (cx_196pi_1 [])), [ur442, ur431, ur443, ur545, ur563], [uL518, uL159, uL579], [], [uV2, uV419, uV11], [uF554, uF555, uF556, uF529, uF530, uF531, uF532, uF727], [uG557])
/-- Rules.joinAbove -/
def cx_196 : zCtx := (92, cx_196p, [([ui0, (1, 5), ui31, (1, 6), (0, 6), ui49, ui49, ui49, ui49, ui49, ui49, ui49, ui49, ui600], [ur442, ur431, ur443, ur545, ur563], [uL518, uL159, uL579], [], [uV408], [], [uG821])], [uk553, uk542], 53013, 3, 111)
set_option maxRecDepth 1000000 in
theorem ck_196 : x_ok mLT1 [cx_142, cx_144] mTS2 mTC2 mRUp cx_196 [(42, [0]), (45, [1])] [(28, [1000941]), (30, [1000942]), (48, [1000943])] [] (29, []) 52984 32 = true := by decide +kernel
theorem sn_196 {W : Bool} {X : List Int32} : y_Snd (mGw W) mLT1 (J2 W X) X cx_196 := y_ok J2_J mTS2_ok1 mTC2_ok1 mRUp_ok1 (List.forall_mem_cons.mpr ⟨sn_142, List.forall_mem_cons.mpr ⟨sn_144, fun _ h => absurd h List.not_mem_nil⟩⟩) ck_196
def cx_197pi_0 (t : List (Int × Int)) : List (Int × Int) := ui0 :: ui49 :: ui31 :: (0, 6) :: (0, 6) :: ui49 :: ui49 :: ui49 :: t
def cx_197pi_1 (t : List (Int × Int)) : List (Int × Int) := ui49 :: ui49 :: ui49 :: ui49 :: ui49 :: t
def cx_197pf_0 (t : List zFa) : List zFa := uF181 :: uF554 :: uF555 :: uF556 :: uF529 :: uF530 :: uF531 :: uF532 :: t
def cx_197pf_1 (t : List zFa) : List zFa := uF727 :: uF728 :: uF309 :: uF822 :: t
def cx_197p : zS := ((cx_197pi_0 (cx_197pi_1 [])), [ur442, ur431, ur443, ur545, ur563, ur564, ur565, ur823], [uL518], [], [uV2, uV419], (cx_197pf_0 (cx_197pf_1 [])), [uG557])
/-- Rules.weigh -/
def cx_197 : zCtx := (91, cx_197p, [([ui0, ui49, ui31, (0, 6), (0, 6), ui49, ui49, ui49, ui49, ui49, ui49, ui49, ui49, ui824], [ur442, ur431, ur443, ur545, ur563, ur564, ur565, ur823], [uL518], [], [], [uF214], [uG826])], [uk827, uk553, uk828, uk542], 53276, 4, 135)
def cz_197_0i_0 (t : List (Int × Int)) : List (Int × Int) := ui0 :: ui49 :: ui31 :: (0, 6) :: (0, 6) :: ui49 :: ui49 :: ui49 :: t
def cz_197_0i_1 (t : List (Int × Int)) : List (Int × Int) := ui49 :: ui49 :: ui49 :: ui49 :: ui49 :: ui788 :: ui243 :: ui824 :: t
def cz_197_0f_0 (t : List zFa) : List zFa := uF356 :: uF554 :: uF555 :: uF556 :: uF529 :: uF530 :: uF531 :: uF532 :: t
def cz_197_0f_1 (t : List zFa) : List zFa := uF727 :: uF728 :: uF309 :: uF822 :: t
def cz_197_0g_0 (t : List zTg) : List zTg := uG557 :: uG829 :: uG831 :: uG832 :: t
def cz_197_0 : zS := ((cz_197_0i_0 (cz_197_0i_1 [])), [ur442, ur431, ur443, ur545, ur563, ur564, ur565, ur823], [uL518, uL205, uL833, uL830, uL834], [uV2, uV419, uV408, uV355], [], (cz_197_0f_0 (cz_197_0f_1 [])), (cz_197_0g_0 []))
set_option maxRecDepth 1000000 in
theorem ck_197 : x_ok mLT1 [cx_196] mTS2 mTC2 mRUp cx_197 [(75, [0])] [(12, [1000934]), (29, [1000822, 1000935, 1000936]), (46, [1000937]), (49, [1000938]), (50, [1000939]), (56, [1000916]), (58, [1000940]), (79, [1000944]), (81, uN835)] [(30, cz_197_0, (43, [(14, 40)]))] (263, []) 53013 42 = true := by decide +kernel
theorem sn_197 {W : Bool} {X : List Int32} : y_Snd (mGw W) mLT1 (J2 W X) X cx_197 := y_ok J2_J mTS2_ok1 mTC2_ok1 mRUp_ok1 (List.forall_mem_cons.mpr ⟨sn_196, fun _ h => absurd h List.not_mem_nil⟩) ck_197
/-- Rules.highestBreak -/
def cx_198 : zCtx := (93, ([ui0, ui836, ui824], [ur442, ur823], [uL67, uL837], [], [uV2, uV11], [uF150, uF21], []), [([ui0, ui836, (1, 11), ui17], [ur442, ur823], [uL838, uL67, uL837], [], [uV58], [], [(254, [uL9, uL67, uL23])]), ([ui0, ui836, ui824], [ur442, ur823], [uL67, uL837], [], [uV61], [], [(254, [uL9, uL67, uL99])])], [], 361, 0, 0)
set_option maxRecDepth 1000000 in
theorem ck_198 : x_ok mLT1 [] mTS2 mTC2 mRUp cx_198 [] [(0, [1000713]), (23, [1000012]), (26, [1000714]), (28, [1000715]), (34, [1000716])] [(2, ([(0, 3072), (0, 1000), (0, 11), (0, 22)], [(5, false), (25, false)], [(0, [(2, 1)]), (11, [(2, (-1))])], [(2, 0, 0, []), (0, 0, 0, [(1, 1)]), (0, 0, 0, [(3, 1)])], [], [(0, (false, 2, 0, []), 0, 0, 0, [(2, 1)]), (0, (false, 0, 0, []), 2, 1, 0, [])], [(253, [(0, [(1, 1)]), (0, [])]), (253, [(0, [(1, 1)]), (0, [(3, 1)])])]), (358, [(3, (-16))]))] (361, []) 0 18 = true := by decide +kernel
theorem sn_198 {W : Bool} {X : List Int32} : y_Snd (mGw W) mLT1 (J2 W X) X cx_198 := y_ok J2_J mTS2_ok1 mTC2_ok1 mRUp_ok1 (fun _ h => absurd h List.not_mem_nil) ck_198
/-- HairRope.lowerPlaceOf -/
def cx_199 : zCtx := (153, ([ui0, ui17], [], [], [], [uV11], [], []), [([ui0, ui17, ui49], [], [(1, [(1, 1), (2, (-2))]), (0, [(1, (-1)), (2, 2)])], [], [uV12], [], [(107, [uL109, uL114, uL67])])], [], 6, 0, 0)
set_option maxRecDepth 1000000 in
theorem ck_199 : x_ok mLT1 [] mTS2 mTC2 mRUp cx_199 [] [(4, [1000023]), (5, [1000731])] [] (6, []) 0 9 = true := by decide +kernel
theorem sn_199 {W : Bool} {X : List Int32} : y_Snd (mGw W) mLT1 (J2 W X) X cx_199 := y_ok J2_J mTS2_ok1 mTC2_ok1 mRUp_ok1 (fun _ h => absurd h List.not_mem_nil) ck_199
def cx_200pi_0 (t : List (Int × Int)) : List (Int × Int) := ui0 :: ui49 :: ui31 :: (0, 6) :: (0, 6) :: ui49 :: ui49 :: ui437 :: t
def cx_200pi_1 (t : List (Int × Int)) : List (Int × Int) := ui438 :: ui49 :: t
def cx_200pr_0 (t : List (Nat × Bool)) : List (Nat × Bool) := ur441 :: ur442 :: ur443 :: ur545 :: ur431 :: ur439 :: ur432 :: ur426 :: t
def cx_200pr_1 (t : List (Nat × Bool)) : List (Nat × Bool) := ur563 :: ur564 :: ur565 :: ur823 :: t
def cx_200pf_0 (t : List zFa) : List zFa := uF13 :: uF516 :: uF555 :: uF556 :: uF152 :: uF567 :: uF616 :: uF617 :: t
def cx_200pf_1 (t : List zFa) : List zFa := uF618 :: uF619 :: uF448 :: uF453 :: uF454 :: uF572 :: uF573 :: uF574 :: t
def cx_200pf_2 (t : List zFa) : List zFa := uF575 :: uF576 :: uF162 :: (1, (false, 0, 0, []), 2, 11, 0, []) :: t
def cx_200p : zS := ((cx_200pi_0 (cx_200pi_1 [])), (cx_200pr_0 (cx_200pr_1 [])), [], [], [uV2, uV11], (cx_200pf_0 (cx_200pf_1 (cx_200pf_2 []))), [uG620, uG791])
def cx_200q0i_0 (t : List (Int × Int)) : List (Int × Int) := ui0 :: ui260 :: ui31 :: (0, 6) :: (0, 6) :: ui49 :: ui49 :: ui437 :: t
def cx_200q0i_1 (t : List (Int × Int)) : List (Int × Int) := ui438 :: ui49 :: t
def cx_200q0 : zS := ((cx_200q0i_0 (cx_200q0i_1 [])), (cx_200pr_0 (cx_200pr_1 [])), [], [], [uV61], [uF616, uF617, uF618, uF619, uF453, uF454], [uG620, uG839, uG791])
def cx_200q1i_0 (t : List (Int × Int)) : List (Int × Int) := ui0 :: ui820 :: ui31 :: (0, 6) :: (0, 6) :: ui49 :: ui49 :: ui437 :: t
def cx_200q1i_1 (t : List (Int × Int)) : List (Int × Int) := ui438 :: ui49 :: t
def cx_200q1 : zS := ((cx_200q1i_0 (cx_200q1i_1 [])), (cx_200pr_0 (cx_200pr_1 [])), [], [], [uV61], [uF616, uF617, uF618, uF619, uF453, uF454], [uG620, uG839, uG791])
def cx_200q2i_0 (t : List (Int × Int)) : List (Int × Int) := ui0 :: ui600 :: ui31 :: (0, 6) :: (0, 6) :: ui49 :: ui49 :: ui437 :: t
def cx_200q2i_1 (t : List (Int × Int)) : List (Int × Int) := ui438 :: ui512 :: ui600 :: t
def cx_200q2g_0 (t : List zTg) : List zTg := uG620 :: uG792 :: (260, [uL65, uL63, uL63, uL63, uL63, uL63, uL63, uL63, uL63, uL98, uL169]) :: uG791 :: t
def cx_200q2 : zS := ((cx_200q2i_0 (cx_200q2i_1 [])), (cx_200pr_0 (cx_200pr_1 [])), [((-1), [(9, 1), (10, (-1))])], [], [uV61], [uF616, uF617, uF618, uF619, uF453, uF454], (cx_200q2g_0 []))
def cx_200q3i_0 (t : List (Int × Int)) : List (Int × Int) := ui0 :: ui49 :: ui31 :: (0, 6) :: (0, 6) :: ui49 :: ui49 :: ui437 :: t
def cx_200q3i_1 (t : List (Int × Int)) : List (Int × Int) := ui438 :: ui49 :: ui49 :: ui600 :: t
def cx_200q3g_0 (t : List zTg) : List zTg := uG840 :: uG841 :: uG792 :: uG842 :: uG843 :: uG796 :: uG775 :: t
def cx_200q3 : zS := ((cx_200q3i_0 (cx_200q3i_1 [])), (cx_200pr_0 (cx_200pr_1 [])), [uL844, uL9, uL845, uL798], [], [uV97], [uF616, uF617, uF618, uF846, uF453, uF801], (cx_200q3g_0 []))
def cx_200q4i_0 (t : List (Int × Int)) : List (Int × Int) := ui0 :: ui49 :: ui31 :: (0, 6) :: (0, 6) :: ui49 :: ui49 :: ui437 :: t
def cx_200q4i_1 (t : List (Int × Int)) : List (Int × Int) := ui438 :: ui49 :: (0, 6) :: ui847 :: ui600 :: t
def cx_200q4g_0 (t : List zTg) : List zTg := uG848 :: uG849 :: uG850 :: uG792 :: uG851 :: uG852 :: uG796 :: uG775 :: t
def cx_200q4 : zS := ((cx_200q4i_0 (cx_200q4i_1 [])), (cx_200pr_0 (cx_200pr_1 [])), [uL853, uL9, uL845, uL798], [], [uV854], [uF616, uF855, uF618, uF619, uF453, uF801], (cx_200q4g_0 []))
def cx_200q5i_0 (t : List (Int × Int)) : List (Int × Int) := ui0 :: ui49 :: ui31 :: (0, 6) :: (0, 6) :: ui49 :: ui49 :: ui437 :: t
def cx_200q5i_1 (t : List (Int × Int)) : List (Int × Int) := ui438 :: ui49 :: ui49 :: ui600 :: ui437 :: t
def cx_200q5g_0 (t : List zTg) : List zTg := uG840 :: uG841 :: uG792 :: uG842 :: uG843 :: uG856 :: uG774 :: t
def cx_200q5 : zS := ((cx_200q5i_0 (cx_200q5i_1 [])), (cx_200pr_0 (cx_200pr_1 [])), [uL844, uL9, uL845, uL802, uL803], [], [uV97], [uF616, uF617, uF618, uF846, uF857, uF804], (cx_200q5g_0 []))
def cx_200q6i_0 (t : List (Int × Int)) : List (Int × Int) := ui0 :: ui49 :: ui31 :: (0, 6) :: (0, 6) :: ui49 :: ui49 :: ui437 :: t
def cx_200q6i_1 (t : List (Int × Int)) : List (Int × Int) := ui438 :: ui49 :: (0, 6) :: ui847 :: ui600 :: ui437 :: t
def cx_200q6g_0 (t : List zTg) : List zTg := uG848 :: uG849 :: uG850 :: uG792 :: uG851 :: uG852 :: (244, [uL23, uL205, uL625, uL65, uL773]) :: uG774 :: t
def cx_200q6 : zS := ((cx_200q6i_0 (cx_200q6i_1 [])), (cx_200pr_0 (cx_200pr_1 [])), [uL853, uL9, uL845, uL802, uL803], [], [uV854], [uF616, uF855, uF618, uF619, (5, (false, 2, 0, []), 0, 0, 0, [(13, 1)]), uF804], (cx_200q6g_0 []))
/-- HairRope.haul -/
def cx_200 : zCtx := (151, cx_200p, [cx_200q0, cx_200q1, cx_200q2, cx_200q3, cx_200q4, cx_200q5, cx_200q6], kc_51, 53316, 5, 158)
set_option maxRecDepth 1000000 in
theorem ck_200 : x_ok mLT1 [cx_195, cx_192, cx_189, cx_197, cx_198, cx_199] mTS2 mTC2 mRUp cx_200 [(1, [0]), (11, [1]), (37, [2]), (48, [3]), (56, [4]), (85, [5])] [(14, [1000726, 1000732]), (27, [1000741]), (40, [1000733]), (60, [1000734, 1000735]), (64, [1000739]), (73, [1000637]), (77, [1000736]), (80, [1000740]), (88, [1000737]), (91, [1000738])] [] (40, []) 53276 43 = true := by decide +kernel
theorem sn_200 {W : Bool} {X : List Int32} : y_Snd (mGw W) mLT1 (J2 W X) X cx_200 := y_ok J2_J mTS2_ok1 mTC2_ok1 mRUp_ok1 (List.forall_mem_cons.mpr ⟨sn_195, List.forall_mem_cons.mpr ⟨sn_192, List.forall_mem_cons.mpr ⟨sn_189, List.forall_mem_cons.mpr ⟨sn_197, List.forall_mem_cons.mpr ⟨sn_198, List.forall_mem_cons.mpr ⟨sn_199, fun _ h => absurd h List.not_mem_nil⟩⟩⟩⟩⟩⟩) ck_200
/-- Rules.mix -/
def cx_201 : zCtx := (97, ([ui0, ui49, ui49], [], [], [], [uV11, uV12], [], []), [([ui0, ui49, ui49, ui49], [], [], [], [uV58], [], [uG858])], [], 14, 0, 0)
set_option maxRecDepth 1000000 in
theorem ck_201 : x_ok mLT1 [] mTS2 mTC2 mRUp cx_201 [] [(2, [1000717]), (5, [1000639]), (9, [1000637]), (15, [1000421]), (16, [1000717]), (17, [1000718])] [] (14, []) 0 17 = true := by decide +kernel
theorem sn_201 {W : Bool} {X : List Int32} : y_Snd (mGw W) mLT1 (J2 W X) X cx_201 := y_ok J2_J mTS2_ok1 mTC2_ok1 mRUp_ok1 (fun _ h => absurd h List.not_mem_nil) ck_201
/-- Rules.lot -/
def cx_202 : zCtx := (96, ([ui0, ui49, ui49], [], [], [], [uV11, uV12], [], []), [([ui0, ui49, ui49, ui537], [], [], [], [uV58], [], [(255, [uL9, uL67, uL23])])], [], 26, 1, 22)
set_option maxRecDepth 1000000 in
theorem ck_202 : x_ok mLT1 [cx_201] mTS2 mTC2 mRUp cx_202 [(4, [0]), (8, [0])] [(14, [1000421]), (17, [1000679]), (18, [1000719])] [] (12, []) 14 15 = true := by decide +kernel
theorem sn_202 {W : Bool} {X : List Int32} : y_Snd (mGw W) mLT1 (J2 W X) X cx_202 := y_ok J2_J mTS2_ok1 mTC2_ok1 mRUp_ok1 (List.forall_mem_cons.mpr ⟨sn_201, fun _ h => absurd h List.not_mem_nil⟩) ck_202
def cx_203pi_0 (t : List (Int × Int)) : List (Int × Int) := ui0 :: (0, 5) :: ui49 :: ui49 :: ui31 :: (0, 6) :: (0, 6) :: ui49 :: t
def cx_203pi_1 (t : List (Int × Int)) : List (Int × Int) := ui49 :: ui836 :: t
def cx_203pf_0 (t : List zFa) : List zFa := uF554 :: uF555 :: uF595 :: uF596 :: uF597 :: uF598 :: uF599 :: (1, (false, 4, 0, []), 2, 4, 0, []) :: t
def cx_203pf_1 (t : List zFa) : List zFa := uF859 :: t
def cx_203p : zS := ((cx_203pi_0 (cx_203pi_1 [])), [ur442, ur431, ur443, ur545, ur565, ur432], [uL592, uL9, uL593], [], [uV2, uV419, uV11, uV12, uV58], (cx_203pf_0 (cx_203pf_1 [])), [(235, [uL104, uL78, uL79, uL131, uL98, uL67, uL23, uL36, uL163, uL9, uL104])])
/-- Rules.ageHouse -/
def cx_203 : zCtx := (95, cx_203p, [([ui0, (0, 5), ui49, ui49, ui31, (1, 6), (0, 6), ui49, ui49, ui836], [ur442, ur431, ur443, ur545, ur565, ur432], [uL593, uL592, uL9], [], [], [], [(235, [uL104, uL78, uL79, uL131, uL98, uL67, uL23, uL36, uL163, uL109, uL104])])], [uk553, uk542, uk436, uk787], 53026, 3, 110)
set_option maxRecDepth 1000000 in
theorem ck_203 : x_ok mLT1 [cx_131, cx_137, cx_138, cx_202] mTS2 mTC2 mRUp cx_203 [(13, [0]), (22, [1]), (36, [2]), (73, [3])] [(18, [1000822, 1000816]), (32, [1000988, 1000989]), (58, [1000934]), (62, [1000974, 1000975, 1000976]), (70, [1000639]), (72, [1000637]), (80, [1000977]), (88, [1000023]), (89, uN860), (93, [1000984]), (109, [1000985]), (112, uN861), (113, [1000980, 1000981, 1000982, 1000983])] [] (58, []) 52968 61 = true := by decide +kernel
theorem sn_203 {W : Bool} {X : List Int32} : y_Snd (mGw W) mLT1 (J2 W X) X cx_203 := y_ok J2_J mTS2_ok1 mTC2_ok1 mRUp_ok1 (List.forall_mem_cons.mpr ⟨sn_131, List.forall_mem_cons.mpr ⟨sn_137, List.forall_mem_cons.mpr ⟨sn_138, List.forall_mem_cons.mpr ⟨sn_202, fun _ h => absurd h List.not_mem_nil⟩⟩⟩⟩) ck_203
def cx_204pi_0 (t : List (Int × Int)) : List (Int × Int) := ui0 :: ui49 :: ui49 :: ui31 :: (0, 6) :: (0, 6) :: ui49 :: ui49 :: t
def cx_204pi_1 (t : List (Int × Int)) : List (Int × Int) := ui836 :: t
def cx_204p : zS := ((cx_204pi_0 (cx_204pi_1 [])), [ur442, ur431, ur443, ur545], [uL786], [], [uV2, uV419, uV11, uV12], [uF554, uF555, uF566, uF183, uF862, uF863, uF864, uF865], [(235, [uL98, uL104, uL78, uL79, uL23, uL9, uL67, uL36, uL131, uL63, uL98])])
/-- Rules.ageAll -/
def cx_204 : zCtx := (94, cx_204p, [([ui0, ui49, ui49, ui31, (0, 6), (0, 6), ui49, ui49, ui836, ui49], [ur442, ur431, ur443, ur545], [], [], [], [uF866], [(235, [uL98, uL104, uL163, uL79, uL23, uL9, uL67, uL36, uL867, uL63, uL98])])], [uk435, uk553, uk542, uk436, uk787], 53125, 4, 137)
def cz_204_0i_0 (t : List (Int × Int)) : List (Int × Int) := ui0 :: ui49 :: ui49 :: ui31 :: (0, 6) :: (0, 6) :: ui49 :: ui49 :: t
def cz_204_0i_1 (t : List (Int × Int)) : List (Int × Int) := ui836 :: (0, 6) :: t
def cz_204_0 : zS := ((cz_204_0i_0 (cz_204_0i_1 [])), [ur442, ur431, ur443, ur545], [uL786, uL868], [uV2, uV419, uV11, uV12, uV799], [], [uF554, uF555, uF566, uF183, uF862, uF863, uF864, uF865], [(235, [uL98, uL104, uL78, uL79, uL23, uL9, uL67, uL36, uL131, uL163, uL98])])
set_option maxRecDepth 1000000 in
theorem ck_204 : x_ok mLT1 [cx_203] mTS2 mTC2 mRUp cx_204 [(21, [0])] [(36, [1000637]), (37, [1000990])] [(3, cz_204_0, (96, [(9, (-14))]))] (99, []) 53026 16 = true := by decide +kernel
theorem sn_204 {W : Bool} {X : List Int32} : y_Snd (mGw W) mLT1 (J2 W X) X cx_204 := y_ok J2_J mTS2_ok1 mTC2_ok1 mRUp_ok1 (List.forall_mem_cons.mpr ⟨sn_203, fun _ h => absurd h List.not_mem_nil⟩) ck_204
def cx_205pi_0 (t : List (Int × Int)) : List (Int × Int) := ui0 :: ui49 :: ui31 :: (0, 6) :: (0, 6) :: ui49 :: ui49 :: ui437 :: t
def cx_205pi_1 (t : List (Int × Int)) : List (Int × Int) := ui438 :: ui49 :: ui49 :: t
def cx_205pr_0 (t : List (Nat × Bool)) : List (Nat × Bool) := ur441 :: ur442 :: ur443 :: ur545 :: ur431 :: ur439 :: ur432 :: ur426 :: t
def cx_205pr_1 (t : List (Nat × Bool)) : List (Nat × Bool) := ur563 :: ur564 :: ur565 :: t
def cx_205pf_0 (t : List zFa) : List zFa := uF13 :: uF516 :: uF555 :: uF556 :: uF152 :: uF567 :: uF616 :: uF617 :: t
def cx_205pf_1 (t : List zFa) : List zFa := uF618 :: uF619 :: uF448 :: uF453 :: uF454 :: uF572 :: uF573 :: uF574 :: t
def cx_205pf_2 (t : List zFa) : List zFa := uF575 :: uF576 :: uF869 :: uF870 :: t
def cx_205p : zS := ((cx_205pi_0 (cx_205pi_1 [])), (cx_205pr_0 (cx_205pr_1 [])), [], [], [uV2, uV11], (cx_205pf_0 (cx_205pf_1 (cx_205pf_2 []))), [uG620, uG791])
def cx_205q0i_0 (t : List (Int × Int)) : List (Int × Int) := ui0 :: ui871 :: ui31 :: (0, 6) :: (0, 6) :: ui49 :: ui49 :: ui437 :: t
def cx_205q0i_1 (t : List (Int × Int)) : List (Int × Int) := ui438 :: ui49 :: ui49 :: t
def cx_205q0 : zS := ((cx_205q0i_0 (cx_205q0i_1 [])), (cx_205pr_0 (cx_205pr_1 [])), [], [], [uV61], [uF616, uF617, uF618, uF619, uF453, uF454], [uG620, uG791])
def cx_205q1i_0 (t : List (Int × Int)) : List (Int × Int) := ui0 :: ui260 :: ui31 :: (0, 6) :: (0, 6) :: ui49 :: ui49 :: ui437 :: t
def cx_205q1i_1 (t : List (Int × Int)) : List (Int × Int) := ui438 :: ui49 :: ui49 :: t
def cx_205q1 : zS := ((cx_205q1i_0 (cx_205q1i_1 [])), (cx_205pr_0 (cx_205pr_1 [])), [], [], [uV61], [uF616, uF617, uF618, uF619, uF453, uF454], [uG620, uG791])
def cx_205q2i_0 (t : List (Int × Int)) : List (Int × Int) := ui0 :: ui49 :: ui31 :: (0, 6) :: (0, 6) :: ui49 :: ui49 :: ui437 :: t
def cx_205q2i_1 (t : List (Int × Int)) : List (Int × Int) := ui438 :: ui49 :: ui49 :: ui49 :: t
def cx_205q2 : zS := ((cx_205q2i_0 (cx_205q2i_1 [])), (cx_205pr_0 (cx_205pr_1 [])), [uL159, uL872, uL798], [], [uV873], [uF616, uF617, uF874, uF619, uF453, uF801], [uG875, uG796, uG775])
def cx_205q3i_0 (t : List (Int × Int)) : List (Int × Int) := ui0 :: ui49 :: ui31 :: (0, 6) :: (0, 6) :: ui49 :: ui49 :: ui437 :: t
def cx_205q3i_1 (t : List (Int × Int)) : List (Int × Int) := ui438 :: ui49 :: ui49 :: ui49 :: ui437 :: t
def cx_205q3 : zS := ((cx_205q3i_0 (cx_205q3i_1 [])), (cx_205pr_0 (cx_205pr_1 [])), [uL159, uL872, uL802, uL803], [], [uV873], [uF616, uF617, uF874, uF619, uF857, uF804], [uG875, uG856, uG774])
def cx_205q4i_0 (t : List (Int × Int)) : List (Int × Int) := ui0 :: (0, 0) :: ui31 :: (0, 6) :: (0, 6) :: ui49 :: ui49 :: ui437 :: t
def cx_205q4i_1 (t : List (Int × Int)) : List (Int × Int) := ui438 :: ui49 :: ui49 :: t
def cx_205q4 : zS := ((cx_205q4i_0 (cx_205q4i_1 [])), (cx_205pr_0 (cx_205pr_1 [])), [], [], [uV75], [uF616, uF617, uF618, uF619, uF453, uF454], [uG620, uG791])
/-- HairRope.years -/
def cx_205 : zCtx := (154, cx_205p, [cx_205q0, cx_205q1, cx_205q2, cx_205q3, cx_205q4], kc_52, 65315, 5, 161)
def cz_205_0i_0 (t : List (Int × Int)) : List (Int × Int) := ui0 :: ui876 :: ui31 :: (0, 6) :: (0, 6) :: ui49 :: ui49 :: ui437 :: t
def cz_205_0i_1 (t : List (Int × Int)) : List (Int × Int) := ui437 :: ui49 :: ui49 :: ui877 :: ui49 :: t
def cz_205_0f_0 (t : List zFa) : List zFa := uF453 :: uF801 :: uF13 :: uF516 :: uF555 :: uF556 :: uF152 :: uF567 :: t
def cz_205_0f_1 (t : List zFa) : List zFa := uF616 :: uF617 :: (4, (false, 7, 0, []), 0, 0, 0, [(12, 1)]) :: uF619 :: uF448 :: uF572 :: uF573 :: uF574 :: t
def cz_205_0f_2 (t : List zFa) : List zFa := uF575 :: uF576 :: uF869 :: uF870 :: t
def cz_205_0 : zS := ((cz_205_0i_0 (cz_205_0i_1 [])), (cx_205pr_0 (cx_205pr_1 [])), [uL878], [uV2, uV11, uV873], [], (cz_205_0f_0 (cz_205_0f_1 (cz_205_0f_2 []))), [(235, [uL23, uL98, uL212, uL78, uL67, uL163, uL169, uL36, uL193, uL63, uL23]), uG775, uG796])
def cz_205_1i_0 (t : List (Int × Int)) : List (Int × Int) := ui0 :: ui876 :: ui31 :: (0, 6) :: (0, 6) :: ui49 :: ui49 :: ui437 :: t
def cz_205_1i_1 (t : List (Int × Int)) : List (Int × Int) := ui776 :: ui49 :: ui49 :: ui877 :: ui437 :: ui49 :: t
def cz_205_1f_0 (t : List zFa) : List zFa := uF857 :: uF804 :: uF13 :: uF516 :: uF555 :: uF556 :: uF152 :: uF567 :: t
def cz_205_1f_1 (t : List zFa) : List zFa := uF616 :: uF617 :: (4, (false, 7, 0, []), 0, 0, 0, [(13, 1)]) :: uF619 :: uF448 :: uF572 :: uF573 :: uF574 :: t
def cz_205_1f_2 (t : List zFa) : List zFa := uF575 :: uF576 :: uF869 :: uF870 :: t
def cz_205_1 : zS := ((cz_205_1i_0 (cz_205_1i_1 [])), (cx_205pr_0 (cx_205pr_1 [])), [uL878], [uV2, uV11, uV873], [], (cz_205_1f_0 (cz_205_1f_1 (cz_205_1f_2 []))), [(235, [uL23, uL98, uL205, uL78, uL67, uL163, uL169, uL36, uL193, uL63, uL23]), uG774, uG856])
def cz_205_2 : zS := ((cx_205q4i_0 (cx_205q4i_1 [])), (cx_205pr_0 (cx_205pr_1 [])), [], [uV2, uV11, uV62], [], (cx_205pf_0 (cx_205pf_1 (cx_205pf_2 []))), [uG620, uG791])
set_option maxRecDepth 1000000 in
theorem ck_205 : x_ok mLT1 [cx_189, cx_204] mTS2 mTC2 mRUp cx_205 [(24, [0]), (62, [1])] [(27, [1000742])] [(29, cz_205_0, (12040, [(11, (-190))])), (29, cz_205_1, ((-1000000000000), [(8, 25000000301), (11, (-190))])), (29, cz_205_2, (70, [(1, (-1000000000000))]))] (12190, []) 53125 21 = true := by decide +kernel
theorem sn_205 {W : Bool} {X : List Int32} : y_Snd (mGw W) mLT1 (J2 W X) X cx_205 := y_ok J2_J mTS2_ok1 mTC2_ok1 mRUp_ok1 (List.forall_mem_cons.mpr ⟨sn_189, List.forall_mem_cons.mpr ⟨sn_204, fun _ h => absurd h List.not_mem_nil⟩⟩) ck_205
def cx_206p : zS := ((cx_149pi_0 (cx_149pi_1 (cx_149pi_2 (cx_149pi_3 (cx_149pi_4 []))))), [ur431, ur724, ur879, ur880, ur881, ur882, ur883], [], [], [uV2, uV419], (cx_149pf_0 (cx_149pf_1 (cx_149pf_2 (cx_149pf_3 (cx_149pf_4 (cx_149pf_5 [])))))), [])
def cx_206q0 : zS := ((cx_149pi_0 (cx_149pi_1 (cx_149pi_2 (cx_149pi_3 (cx_149pi_4 []))))), [ur431, ur724, ur879, ur880, ur881, ur882, ur883], [], [], [], [uF126, uF128, uF129, uF729], [uG730])
/-- State.copyFrom -/
def cx_206 : zCtx := (102, cx_206p, [cx_206q0], kc_53, 57, 1, 64)
set_option maxRecDepth 1000000 in
theorem ck_206 : x_ok mLT1 [] mTS2 mTC2 mRUp cx_206 [] [(107, [1000871])] [] (57, []) 0 60 = true := by decide +kernel
theorem sn_206 {W : Bool} {X : List Int32} : y_Snd (mGw W) mLT1 (J2 W X) X cx_206 := y_ok J2_J mTS2_ok1 mTC2_ok1 mRUp_ok1 (fun _ h => absurd h List.not_mem_nil) ck_206
def cx_207p : zS := ((cx_149pi_0 (cx_149pi_1 (cx_149pi_2 (cx_149pi_3 (cx_149pi_4 []))))), [ur431, ur722, ur884, ur885, ur886, ur887, ur888], [], [], [uV2, uV419], (cx_149pf_0 (cx_149pf_1 (cx_149pf_2 (cx_149pf_3 (cx_149pf_4 (cx_149pf_5 [])))))), [])
def cx_207q0 : zS := ((cx_149pi_0 (cx_149pi_1 (cx_149pi_2 (cx_149pi_3 (cx_149pi_4 []))))), [ur431, ur722, ur884, ur885, ur886, ur887, ur888], [], [], [], [uF126, uF128, uF129, uF729], [uG731])
/-- State.copyFrom -/
def cx_207 : zCtx := (102, cx_207p, [cx_207q0], kc_53, 57, 1, 64)
set_option maxRecDepth 1000000 in
theorem ck_207 : x_ok mLT1 [] mTS2 mTC2 mRUp cx_207 [] [(107, [1000872])] [] (57, []) 0 60 = true := by decide +kernel
theorem sn_207 {W : Bool} {X : List Int32} : y_Snd (mGw W) mLT1 (J2 W X) X cx_207 := y_ok J2_J mTS2_ok1 mTC2_ok1 mRUp_ok1 (fun _ h => absurd h List.not_mem_nil) ck_207
def cx_208p : zS := ((cx_149pi_0 (cx_149pi_1 (cx_149pi_2 (cx_149pi_3 (cx_149pi_4 []))))), [ur431, ur720, ur889, ur890, ur891, ur892, ur893], [], [], [uV2, uV419], (cx_149pf_0 (cx_149pf_1 (cx_149pf_2 (cx_149pf_3 (cx_149pf_4 (cx_149pf_5 [])))))), [])
def cx_208q0 : zS := ((cx_149pi_0 (cx_149pi_1 (cx_149pi_2 (cx_149pi_3 (cx_149pi_4 []))))), [ur431, ur720, ur889, ur890, ur891, ur892, ur893], [], [], [], [uF126, uF128, uF129, uF729], [uG732])
/-- State.copyFrom -/
def cx_208 : zCtx := (102, cx_208p, [cx_208q0], kc_53, 57, 1, 64)
set_option maxRecDepth 1000000 in
theorem ck_208 : x_ok mLT1 [] mTS2 mTC2 mRUp cx_208 [] [(107, [1000873])] [] (57, []) 0 60 = true := by decide +kernel
theorem sn_208 {W : Bool} {X : List Int32} : y_Snd (mGw W) mLT1 (J2 W X) X cx_208 := y_ok J2_J mTS2_ok1 mTC2_ok1 mRUp_ok1 (fun _ h => absurd h List.not_mem_nil) ck_208
def cx_209p : zS := ((cx_149pi_0 (cx_149pi_1 (cx_149pi_2 (cx_149pi_3 (cx_149pi_4 []))))), [ur431, ur718, ur894, ur895, ur896, ur897, ur898], [], [], [uV2, uV419], (cx_149pf_0 (cx_149pf_1 (cx_149pf_2 (cx_149pf_3 (cx_149pf_4 (cx_149pf_5 [])))))), [])
def cx_209q0 : zS := ((cx_149pi_0 (cx_149pi_1 (cx_149pi_2 (cx_149pi_3 (cx_149pi_4 []))))), [ur431, ur718, ur894, ur895, ur896, ur897, ur898], [], [], [], [uF126, uF128, uF129, uF729], [uG733])
/-- State.copyFrom -/
def cx_209 : zCtx := (102, cx_209p, [cx_209q0], kc_53, 57, 1, 64)
set_option maxRecDepth 1000000 in
theorem ck_209 : x_ok mLT1 [] mTS2 mTC2 mRUp cx_209 [] [(107, [1000874])] [] (57, []) 0 60 = true := by decide +kernel
theorem sn_209 {W : Bool} {X : List Int32} : y_Snd (mGw W) mLT1 (J2 W X) X cx_209 := y_ok J2_J mTS2_ok1 mTC2_ok1 mRUp_ok1 (fun _ h => absurd h List.not_mem_nil) ck_209
def cx_210p : zS := ((cx_149pi_0 (cx_149pi_1 (cx_149pi_2 (cx_149pi_3 (cx_149pi_4 []))))), [ur431, ur716, ur899, ur900, ur901, ur902, ur903], [], [], [uV2, uV419], (cx_149pf_0 (cx_149pf_1 (cx_149pf_2 (cx_149pf_3 (cx_149pf_4 (cx_149pf_5 [])))))), [])
def cx_210q0 : zS := ((cx_149pi_0 (cx_149pi_1 (cx_149pi_2 (cx_149pi_3 (cx_149pi_4 []))))), [ur431, ur716, ur899, ur900, ur901, ur902, ur903], [], [], [], [uF126, uF128, uF129, uF729], [uG734])
/-- State.copyFrom -/
def cx_210 : zCtx := (102, cx_210p, [cx_210q0], kc_53, 57, 1, 64)
set_option maxRecDepth 1000000 in
theorem ck_210 : x_ok mLT1 [] mTS2 mTC2 mRUp cx_210 [] [(107, [1000875])] [] (57, []) 0 60 = true := by decide +kernel
theorem sn_210 {W : Bool} {X : List Int32} : y_Snd (mGw W) mLT1 (J2 W X) X cx_210 := y_ok J2_J mTS2_ok1 mTC2_ok1 mRUp_ok1 (fun _ h => absurd h List.not_mem_nil) ck_210
def cx_211p : zS := ((cx_149pi_0 (cx_149pi_1 (cx_149pi_2 (cx_149pi_3 (cx_149pi_4 []))))), [ur431, ur714, ur904, ur905, ur906, ur907, ur908], [], [], [uV2, uV419], (cx_149pf_0 (cx_149pf_1 (cx_149pf_2 (cx_149pf_3 (cx_149pf_4 (cx_149pf_5 [])))))), [])
def cx_211q0 : zS := ((cx_149pi_0 (cx_149pi_1 (cx_149pi_2 (cx_149pi_3 (cx_149pi_4 []))))), [ur431, ur714, ur904, ur905, ur906, ur907, ur908], [], [], [], [uF126, uF128, uF129, uF729], [uG735])
/-- State.copyFrom -/
def cx_211 : zCtx := (102, cx_211p, [cx_211q0], kc_53, 57, 1, 64)
set_option maxRecDepth 1000000 in
theorem ck_211 : x_ok mLT1 [] mTS2 mTC2 mRUp cx_211 [] [(107, [1000876])] [] (57, []) 0 60 = true := by decide +kernel
theorem sn_211 {W : Bool} {X : List Int32} : y_Snd (mGw W) mLT1 (J2 W X) X cx_211 := y_ok J2_J mTS2_ok1 mTC2_ok1 mRUp_ok1 (fun _ h => absurd h List.not_mem_nil) ck_211
def cx_212p : zS := ((cx_149pi_0 (cx_149pi_1 (cx_149pi_2 (cx_149pi_3 (cx_149pi_4 []))))), [ur431, ur712, ur909, ur910, ur911, ur912, ur913], [], [], [uV2, uV419], (cx_149pf_0 (cx_149pf_1 (cx_149pf_2 (cx_149pf_3 (cx_149pf_4 (cx_149pf_5 [])))))), [])
def cx_212q0 : zS := ((cx_149pi_0 (cx_149pi_1 (cx_149pi_2 (cx_149pi_3 (cx_149pi_4 []))))), [ur431, ur712, ur909, ur910, ur911, ur912, ur913], [], [], [], [uF126, uF128, uF129, uF729], [uG736])
/-- State.copyFrom -/
def cx_212 : zCtx := (102, cx_212p, [cx_212q0], kc_53, 57, 1, 64)
set_option maxRecDepth 1000000 in
theorem ck_212 : x_ok mLT1 [] mTS2 mTC2 mRUp cx_212 [] [(107, [1000877])] [] (57, []) 0 60 = true := by decide +kernel
theorem sn_212 {W : Bool} {X : List Int32} : y_Snd (mGw W) mLT1 (J2 W X) X cx_212 := y_ok J2_J mTS2_ok1 mTC2_ok1 mRUp_ok1 (fun _ h => absurd h List.not_mem_nil) ck_212
end
