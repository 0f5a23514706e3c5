noncomputable section
/-! ===== readings, by program, checked by the kernel ===== -/
def cx_190pf_0 (t : List zFa) : List zFa := uF140 :: uF96 :: (0, (false, 7, 0, []), 0, 0, 0, [(5, 1)]) :: (0, (false, 8, 0, []), 0, 0, 0, [(6, 1)]) :: uF21 :: uF22 :: uF33 :: uF553 :: t
def cx_190pf_1 (t : List zFa) : List zFa := uF451 :: (1, (true, 0, 0, [(1, 1)]), 0, 0, 0, [(7, 1)]) :: t
def cx_190pg_0 (t : List zTg) : List zTg := (235, [uL100, uL23, uL106, uL80, uL65, uL65, uL65, uL65, uL65, uL65, uL65]) :: uG764 :: (238, [uL34, uL65, uL65, uL65, uL65, uL65, uL65, uL65, uL9, uL65, uL81]) :: (238, [uL263, uL65, uL65, uL65, uL65, uL65, uL65, uL65, uL9, uL65, uL69]) :: t
def cx_190p : zS := ([ui0, (0, 5), ui51, (0, 6), (0, 6), ui51, ui51, ui765], [ur434, ur435, ur430, ur549, ur550, ur551], [uL766, uL9, uL565], [], [uV2, uV11, uV12], (cx_190pf_0 (cx_190pf_1 [])), (cx_190pg_0 []))
/-- State.addPlait -/
def cx_190 : zCtx := (103, cx_190p, [([ui0, (0, 5), ui51, (0, 6), (0, 6), ui51, ui51, ui765], [ur434, ur435, ur430, ur549, ur550, ur551], [(5, [(3, (-1))])], [], [], [(0, (false, 6, 0, []), 0, 0, 1, [(3, 1)])], [(235, [uL100, (1, [(3, 1)]), uL106, uL80, uL65, uL65, uL65, uL67, uL9, uL65, uL65])])], [uk437, uk439, uk431, (29, true, 0), (30, true, 0), uk767], 53, 0, 0)
set_option maxRecDepth 1000000 in
theorem ck_190 : x_ok mLT1 [] mTS2 mTC2 mRUp cx_190 [] [(10, [1000898, 1000899]), (76, [1000637]), (88, [1000900])] [] (53, []) 0 56 = true := by decide +kernel
theorem sn_190 {W : Bool} {X : List Int32} : y_Snd (mGw W) mLT1 (J2 W X) X cx_190 := y_ok J2_J mTS2_ok1 mTC2_ok1 mRUp_ok1 (fun _ h => absurd h List.not_mem_nil) ck_190
def cx_191pi_0 (t : List (Int × Int)) : List (Int × Int) := ui0 :: ui248 :: (0, 6) :: (0, 6) :: ui51 :: ui51 :: ui51 :: ui51 :: t
def cx_191pi_1 (t : List (Int × Int)) : List (Int × Int) := ui51 :: ui51 :: ui51 :: ui51 :: ui51 :: t
def cx_191p : zS := ((cx_191pi_0 (cx_191pi_1 [])), [ur434, ur550], [uL513, uL111, uL59], [], [uV2, uV11], [uF39, uF97, uF141, uF514, uF598], [uG515])
/-- State.lengthBelow -/
def cx_191 : zCtx := (105, cx_191p, [([ui0, ui248, (0, 6), (0, 6), ui51, ui51, ui51, ui51, ui51, ui51, ui51, ui51, ui51, ui768], [ur434, ur550], [uL513, uL111, uL59, uL210], [], [uV411], [], [(238, [uL67, uL80, uL81, uL133, uL166, uL173, uL198, uL217, uL111, uL69, uL210])])], [], 117, 1, 64)
def cz_191_0i_0 (t : List (Int × Int)) : List (Int × Int) := ui0 :: ui248 :: (0, 6) :: (0, 6) :: ui51 :: ui51 :: ui51 :: ui51 :: t
def cz_191_0i_1 (t : List (Int × Int)) : List (Int × Int) := ui51 :: ui51 :: ui51 :: ui51 :: ui51 :: ui768 :: (0, 6) :: t
def cz_191_0 : zS := ((cz_191_0i_0 (cz_191_0i_1 [])), [ur434, ur550], [uL513, uL111, uL59, uL210, ((-99), [(1, (-99)), (13, (-1)), (14, 99)]), ((-1), [(1, (-1)), (14, 1)]), (0, [(2, 1), (14, (-1))])], [uV2, uV11, uV411, uV358], [], [uF39, uF97, uF141, uF514, uF598], [uG515, (238, [uL67, uL80, uL81, uL133, uL166, uL173, uL198, uL217, uL111, uL211, uL210])])
set_option maxRecDepth 1000000 in
theorem ck_191 : x_ok mLT1 [] mTS2 mTC2 mRUp cx_191 [] [(6, [1000901]), (9, [1000902]), (31, [1000903]), (32, [1000904])] [(10, cz_191_0, (108, [(14, (-17))]))] (117, []) 0 19 = true := by decide +kernel
theorem sn_191 {W : Bool} {X : List Int32} : y_Snd (mGw W) mLT1 (J2 W X) X cx_191 := y_ok J2_J mTS2_ok1 mTC2_ok1 mRUp_ok1 (fun _ h => absurd h List.not_mem_nil) ck_191
def cx_192pi_0 (t : List (Int × Int)) : List (Int × Int) := ui0 :: (0, 6) :: (0, 6) :: ui51 :: ui51 :: ui51 :: ui51 :: ui51 :: t
def cx_192pi_1 (t : List (Int × Int)) : List (Int × Int) := ui51 :: ui51 :: ui51 :: ui51 :: t
def cx_192p : zS := ((cx_192pi_0 (cx_192pi_1 [])), [ur434, ur550], [uL769], [], [uV2], [uF770, uF57, uF40, uF41, uF598], [(235, [uL69, uL9, uL23, uL100, uL106, uL80, uL81, uL133, uL166, uL173, uL198])])
/-- State.ropeLength -/
def cx_192 : zCtx := (104, cx_192p, [([ui0, (0, 6), (0, 6), ui51, ui51, ui51, ui51, ui51, ui51, ui51, ui51, ui51, ui768], [ur434, ur550], [uL769], [], [uV201], [], [(238, [uL67, uL106, uL80, uL81, uL133, uL166, uL173, uL198, uL65, uL9, uL217])])], [], 121, 2, 87)
set_option maxRecDepth 1000000 in
theorem ck_192 : x_ok mLT1 [cx_191] mTS2 mTC2 mRUp cx_192 [(2, [0])] [] [] (4, []) 117 7 = true := by decide +kernel
theorem sn_192 {W : Bool} {X : List Int32} : y_Snd (mGw W) mLT1 (J2 W X) X cx_192 := y_ok J2_J mTS2_ok1 mTC2_ok1 mRUp_ok1 (List.forall_mem_cons.mpr ⟨sn_191, fun _ h => absurd h List.not_mem_nil⟩) ck_192
def cx_193pi_0 (t : List (Int × Int)) : List (Int × Int) := ui0 :: ui51 :: ui31 :: (0, 6) :: (0, 6) :: ui51 :: ui51 :: ui440 :: t
def cx_193pi_1 (t : List (Int × Int)) : List (Int × Int) := ui441 :: t
def cx_193pf_0 (t : List zFa) : List zFa := uF13 :: uF511 :: uF543 :: uF544 :: uF154 :: uF553 :: uF600 :: uF601 :: t
def cx_193pf_1 (t : List zFa) : List zFa := uF602 :: uF603 :: uF451 :: uF452 :: uF453 :: uF413 :: t
def cx_193p : zS := ((cx_193pi_0 (cx_193pi_1 [])), [ur444, ur445, ur446, ur533, ur434, ur442, ur548], [], [], [uV2, uV11], (cx_193pf_0 (cx_193pf_1 [])), [uG604, uG771])
def cx_193q0 : zS := ((cx_193pi_0 (cx_193pi_1 [])), [ur444, ur445, ur446, ur533, ur434, ur442, ur548], [], [], [uV63], [uF600, uF601, uF602, uF603, uF452, uF453], [uG604, (260, [uL268, uL65, uL65, uL65, uL65, uL65, uL65, uL65, uL9, uL23, uL65]), uG771])
def cx_193q1i_0 (t : List (Int × Int)) : List (Int × Int) := ui0 :: ui51 :: ui31 :: (0, 6) :: (0, 6) :: ui51 :: ui51 :: ui440 :: t
def cx_193q1i_1 (t : List (Int × Int)) : List (Int × Int) := ui441 :: ui586 :: t
def cx_193q1g_0 (t : List zTg) : List zTg := uG772 :: uG773 :: uG774 :: uG775 :: uG776 :: uG756 :: t
def cx_193q1 : zS := ((cx_193q1i_0 (cx_193q1i_1 [])), [ur444, ur445, ur446, ur533, ur434, ur442, ur548], [uL777, uL778], [], [uV779], [uF600, uF780, uF602, uF603, uF452, uF781], (cx_193q1g_0 []))
def cx_193q2i_0 (t : List (Int × Int)) : List (Int × Int) := ui0 :: ui51 :: ui31 :: (0, 6) :: (0, 6) :: ui51 :: ui51 :: ui440 :: t
def cx_193q2i_1 (t : List (Int × Int)) : List (Int × Int) := ui441 :: ui586 :: ui440 :: t
def cx_193q2g_0 (t : List zTg) : List zTg := uG772 :: uG773 :: uG774 :: uG775 :: (244, [uL23, uL173, uL609, uL67, uL754]) :: uG755 :: t
def cx_193q2 : zS := ((cx_193q2i_0 (cx_193q2i_1 [])), [ur444, ur445, ur446, ur533, ur434, ur442, ur548], [uL777, uL782, uL783], [], [uV779], [uF600, uF780, uF602, uF603, (5, (false, 2, 0, []), 0, 0, 0, [(10, 1)]), uF784], (cx_193q2g_0 []))
/-- HairRope.splice -/
def cx_193 : zCtx := (149, cx_193p, [cx_193q0, cx_193q1, cx_193q2], kc_49, 236, 3, 107)
set_option maxRecDepth 1000000 in
theorem ck_193 : x_ok mLT1 [cx_130, cx_131, cx_189, cx_190, cx_192] mTS2 mTC2 mRUp cx_193 [(2, [0]), (13, [1]), (42, [2]), (62, [3]), (69, [4])] [(27, [1000720]), (32, [1000721, 1000722, 1000723, 1000724]), (34, [1000725, 1000726]), (62, [1000727]), (72, [1000728])] [] (35, []) 201 38 = true := by decide +kernel
theorem sn_193 {W : Bool} {X : List Int32} : y_Snd (mGw W) mLT1 (J2 W X) X cx_193 := y_ok J2_J mTS2_ok1 mTC2_ok1 mRUp_ok1 (List.forall_mem_cons.mpr ⟨sn_130, List.forall_mem_cons.mpr ⟨sn_131, List.forall_mem_cons.mpr ⟨sn_189, List.forall_mem_cons.mpr ⟨sn_190, List.forall_mem_cons.mpr ⟨sn_192, fun _ h => absurd h List.not_mem_nil⟩⟩⟩⟩⟩) ck_193
def cx_194pf_0 (t : List zFa) : List zFa := uF13 :: uF511 :: uF543 :: uF785 :: uF307 :: uF553 :: uF786 :: uF787 :: t
def cx_194pf_1 (t : List zFa) : List zFa := uF788 :: uF789 :: uF451 :: uF790 :: uF791 :: (4, (false, 2, 0, []), 2, 6, 0, []) :: t
def cx_194p : zS := ([ui0, ui31, (0, 6), (0, 6), ui51, ui51, ui440, ui441], [ur444, ur445, ur446, ur533, ur434, ur442, ur549], [], [], [uV2], (cx_194pf_0 (cx_194pf_1 [])), [uG792, uG793])
def cx_194q0 : zS := ([ui0, ui31, (0, 6), (0, 6), ui51, ui51, ui440, ui441], [ur444, ur445, ur446, ur533, ur434, ur442, ur549], [uL794], [], [uV63], [uF786, uF787, uF788, uF789, uF790, uF791], [uG792, uG793])
def cx_194q1i_0 (t : List (Int × Int)) : List (Int × Int) := ui0 :: ui31 :: (0, 6) :: (0, 6) :: ui51 :: ui51 :: ui440 :: ui441 :: t
def cx_194q1i_1 (t : List (Int × Int)) : List (Int × Int) := (0, 5) :: t
def cx_194q1g_0 (t : List zTg) : List zTg := uG796 :: uG797 :: uG798 :: (244, [uL69, uL80, uL81, uL65, (0, [(7, 33)])]) :: uG756 :: t
def cx_194q1 : zS := ((cx_194q1i_0 (cx_194q1i_1 [])), [ur444, ur445, ur446, ur533, ur434, ur442, ur549], [uL795, (39, [(7, (-1))])], [], [uV146], [uF786, uF799, uF788, uF789, uF790, (5, (false, 3, 0, []), 0, 0, 1, [(7, 1)])], (cx_194q1g_0 []))
def cx_194q2i_0 (t : List (Int × Int)) : List (Int × Int) := ui0 :: ui31 :: (0, 6) :: (0, 6) :: ui51 :: ui51 :: ui440 :: ui441 :: t
def cx_194q2i_1 (t : List (Int × Int)) : List (Int × Int) := (0, 5) :: ui440 :: t
def cx_194q2g_0 (t : List zTg) : List zTg := uG796 :: uG797 :: uG798 :: (244, [uL69, uL166, uL609, uL67, uL754]) :: uG755 :: t
def cx_194q2 : zS := ((cx_194q2i_0 (cx_194q2i_1 [])), [ur444, ur445, ur446, ur533, ur434, ur442, ur549], [uL795, ((-40), [(7, 1)]), (40, [(7, (-1))])], [], [uV146], [uF786, uF799, uF788, uF789, (5, (false, 2, 0, []), 0, 0, 0, [(9, 1)]), uF784], (cx_194q2g_0 []))
/-- HairRope.unsplice -/
def cx_194 : zCtx := (150, cx_194p, [cx_194q0, cx_194q1, cx_194q2], kc_50, 226, 3, 107)
set_option maxRecDepth 1000000 in
theorem ck_194 : x_ok mLT1 [cx_146, cx_189] mTS2 mTC2 mRUp cx_194 [(12, [0]), (28, [1])] [(20, [1000726, 1000730]), (39, [1000729])] [] (25, []) 201 28 = true := by decide +kernel
theorem sn_194 {W : Bool} {X : List Int32} : y_Snd (mGw W) mLT1 (J2 W X) X cx_194 := y_ok J2_J mTS2_ok1 mTC2_ok1 mRUp_ok1 (List.forall_mem_cons.mpr ⟨sn_146, List.forall_mem_cons.mpr ⟨sn_189, fun _ h => absurd h List.not_mem_nil⟩⟩) ck_194
/-- HairRope.isHaul -/
def cx_195 : zCtx := (152, ([ui0, ui51], [], [], [], [uV11], [], []), [([ui0, ui586], [], [], [], [uV66], [], []), ([ui0, ui800], [], [], [], [uV64], [], []), ([ui0, ui265], [], [], [], [uV64], [], [])], [], 8, 0, 0)
set_option maxRecDepth 1000000 in
theorem ck_195 : x_ok mLT1 [] mTS2 mTC2 mRUp cx_195 [] [] [] (8, []) 0 11 = true := by decide +kernel
theorem sn_195 {W : Bool} {X : List Int32} : y_Snd (mGw W) mLT1 (J2 W X) X cx_195 := y_ok J2_J mTS2_ok1 mTC2_ok1 mRUp_ok1 (fun _ h => absurd h List.not_mem_nil) ck_195
def cx_196pi_0 (t : List (Int × Int)) : List (Int × Int) := ui0 :: (1, 5) :: ui31 :: (0, 6) :: (0, 6) :: ui51 :: ui51 :: ui51 :: t
def cx_196pi_1 (t : List (Int × Int)) : List (Int × Int) := ui51 :: ui51 :: ui51 :: ui51 :: ui51 :: t
def cx_196p : zS := ((cx_196pi_0 (cx_196pi_1 [])), [ur445, ur434, ur446, ur533, ur549], [uL513, uL162, uL565], [], [uV2, uV422, uV11], [uF542, uF543, uF544, uF519, uF520, uF521, uF522, uF710], [uG545])
/-- Rules.joinAbove -/
def cx_196 : zCtx := (92, cx_196p, [([ui0, (1, 5), ui31, (1, 6), (0, 6), ui51, ui51, ui51, ui51, ui51, ui51, ui51, ui51, ui586], [ur445, ur434, ur446, ur533, ur549], [uL513, uL162, uL565], [], [uV411], [], [(238, [uL672, uL69, uL81, uL133, uL166, uL173, uL198, uL217, uL9, uL65, uL210])])], [uk541, uk531], 53013, 3, 111)
set_option maxRecDepth 1000000 in
theorem ck_196 : x_ok mLT1 [cx_142, cx_144] mTS2 mTC2 mRUp cx_196 [(42, [0]), (45, [1])] [(28, [1000928]), (30, [1000929]), (48, [1000930])] [] (29, []) 52984 32 = true := by decide +kernel
theorem sn_196 {W : Bool} {X : List Int32} : y_Snd (mGw W) mLT1 (J2 W X) X cx_196 := y_ok J2_J mTS2_ok1 mTC2_ok1 mRUp_ok1 (List.forall_mem_cons.mpr ⟨sn_142, List.forall_mem_cons.mpr ⟨sn_144, fun _ h => absurd h List.not_mem_nil⟩⟩) ck_196
def cx_197pi_0 (t : List (Int × Int)) : List (Int × Int) := ui0 :: ui51 :: ui31 :: (0, 6) :: (0, 6) :: ui51 :: ui51 :: ui51 :: t
def cx_197pi_1 (t : List (Int × Int)) : List (Int × Int) := ui51 :: ui51 :: ui51 :: ui51 :: ui51 :: t
def cx_197pf_0 (t : List zFa) : List zFa := uF186 :: uF542 :: uF543 :: uF544 :: uF519 :: uF520 :: uF521 :: uF522 :: t
def cx_197pf_1 (t : List zFa) : List zFa := uF710 :: uF711 :: uF312 :: uF801 :: t
def cx_197p : zS := ((cx_197pi_0 (cx_197pi_1 [])), [ur445, ur434, ur446, ur533, ur549, ur550, ur551, ur802], [uL513], [], [uV2, uV422], (cx_197pf_0 (cx_197pf_1 [])), [uG545])
/-- Rules.weigh -/
def cx_197 : zCtx := (91, cx_197p, [([ui0, ui51, ui31, (0, 6), (0, 6), ui51, ui51, ui51, ui51, ui51, ui51, ui51, ui51, ui803], [ur445, ur434, ur446, ur533, ur549, ur550, ur551, ur802], [uL513], [], [], [uF219], [(252, [uL69, uL81, uL133, uL166, uL173, uL198, uL217, uL804, uL210])])], [uk805, uk541, uk806, uk531], 53276, 4, 135)
def cz_197_0i_0 (t : List (Int × Int)) : List (Int × Int) := ui0 :: ui51 :: ui31 :: (0, 6) :: (0, 6) :: ui51 :: ui51 :: ui51 :: t
def cz_197_0i_1 (t : List (Int × Int)) : List (Int × Int) := ui51 :: ui51 :: ui51 :: ui51 :: ui51 :: ui768 :: ui248 :: ui803 :: t
def cz_197_0f_0 (t : List zFa) : List zFa := uF359 :: uF542 :: uF543 :: uF544 :: uF519 :: uF520 :: uF521 :: uF522 :: t
def cz_197_0f_1 (t : List zFa) : List zFa := uF710 :: uF711 :: uF312 :: uF801 :: t
def cz_197_0g_0 (t : List zTg) : List zTg := uG545 :: (238, [uL34, uL69, uL81, uL133, uL166, uL173, uL198, uL217, uL529, uL65, uL100]) :: (238, [uL67, uL69, uL81, uL133, uL166, uL173, uL198, uL217, uL807, uL100, uL210]) :: (252, [uL69, uL81, uL133, uL166, uL173, uL198, uL217, (0, [(14, 2)]), uL212]) :: t
def cz_197_0 : zS := ((cz_197_0i_0 (cz_197_0i_1 [])), [ur445, ur434, ur446, ur533, ur549, ur550, ur551, ur802], [uL513, uL210, ((-99), [(4, 99), (13, (-1)), (14, (-99))]), uL807, ((-1), [(4, 1), (14, (-1))])], [uV2, uV422, uV411, uV358], [], (cz_197_0f_0 (cz_197_0f_1 [])), (cz_197_0g_0 []))
set_option maxRecDepth 1000000 in
theorem ck_197 : x_ok mLT1 [cx_196] mTS2 mTC2 mRUp cx_197 [(75, [0])] [(12, [1000921]), (29, [1000809, 1000922, 1000923]), (46, [1000924]), (49, [1000925]), (50, [1000926]), (56, [1000903]), (58, [1000927]), (79, [1000931]), (81, [1000932, 1000933])] [(30, cz_197_0, (43, [(14, 40)]))] (263, []) 53013 42 = true := by decide +kernel
theorem sn_197 {W : Bool} {X : List Int32} : y_Snd (mGw W) mLT1 (J2 W X) X cx_197 := y_ok J2_J mTS2_ok1 mTC2_ok1 mRUp_ok1 (List.forall_mem_cons.mpr ⟨sn_196, fun _ h => absurd h List.not_mem_nil⟩) ck_197
/-- Rules.highestBreak -/
def cx_198 : zCtx := (93, ([ui0, ui808, ui803], [ur445, ur802], [uL69, uL809], [], [uV2, uV11], [uF152, uF21], []), [([ui0, ui808, (1, 11), ui17], [ur445, ur802], [uL810, uL69, uL809], [], [uV60], [], [(254, [uL9, uL69, uL23])]), ([ui0, ui808, ui803], [ur445, ur802], [uL69, uL809], [], [uV63], [], [(254, [uL9, uL69, uL101])])], [], 361, 0, 0)
set_option maxRecDepth 1000000 in
theorem ck_198 : x_ok mLT1 [] mTS2 mTC2 mRUp cx_198 [] [(0, [1000713]), (23, [1000012]), (26, [1000714]), (28, [1000715]), (34, [1000716])] [(2, ([(0, 3072), (0, 1000), (0, 11), (0, 22)], [(5, false), (25, false)], [(0, [(2, 1)]), (11, [(2, (-1))])], [(2, 0, 0, []), (0, 0, 0, [(1, 1)]), (0, 0, 0, [(3, 1)])], [], [(0, (false, 2, 0, []), 0, 0, 0, [(2, 1)]), (0, (false, 0, 0, []), 2, 1, 0, [])], [(253, [(0, [(1, 1)]), (0, [])]), (253, [(0, [(1, 1)]), (0, [(3, 1)])])]), (358, [(3, (-16))]))] (361, []) 0 18 = true := by decide +kernel
theorem sn_198 {W : Bool} {X : List Int32} : y_Snd (mGw W) mLT1 (J2 W X) X cx_198 := y_ok J2_J mTS2_ok1 mTC2_ok1 mRUp_ok1 (fun _ h => absurd h List.not_mem_nil) ck_198
/-- HairRope.lowerPlaceOf -/
def cx_199 : zCtx := (153, ([ui0, ui17], [], [], [], [uV11], [], []), [([ui0, ui17, ui51], [], [(1, [(1, 1), (2, (-2))]), (0, [(1, (-1)), (2, 2)])], [], [uV12], [], [(107, [uL111, uL116, uL69])])], [], 6, 0, 0)
set_option maxRecDepth 1000000 in
theorem ck_199 : x_ok mLT1 [] mTS2 mTC2 mRUp cx_199 [] [(4, [1000023]), (5, [1000731])] [] (6, []) 0 9 = true := by decide +kernel
theorem sn_199 {W : Bool} {X : List Int32} : y_Snd (mGw W) mLT1 (J2 W X) X cx_199 := y_ok J2_J mTS2_ok1 mTC2_ok1 mRUp_ok1 (fun _ h => absurd h List.not_mem_nil) ck_199
def cx_200pi_0 (t : List (Int × Int)) : List (Int × Int) := ui0 :: ui51 :: ui31 :: (0, 6) :: (0, 6) :: ui51 :: ui51 :: ui440 :: t
def cx_200pi_1 (t : List (Int × Int)) : List (Int × Int) := ui441 :: ui51 :: t
def cx_200pr_0 (t : List (Nat × Bool)) : List (Nat × Bool) := ur444 :: ur445 :: ur446 :: ur533 :: ur434 :: ur442 :: ur435 :: ur430 :: t
def cx_200pr_1 (t : List (Nat × Bool)) : List (Nat × Bool) := ur549 :: ur550 :: ur551 :: ur802 :: t
def cx_200pf_0 (t : List zFa) : List zFa := uF13 :: uF511 :: uF543 :: uF544 :: uF154 :: uF553 :: uF600 :: uF601 :: t
def cx_200pf_1 (t : List zFa) : List zFa := uF602 :: uF603 :: uF451 :: uF452 :: uF453 :: uF558 :: uF559 :: uF560 :: t
def cx_200pf_2 (t : List zFa) : List zFa := uF561 :: uF562 :: uF165 :: (1, (false, 0, 0, []), 2, 11, 0, []) :: t
def cx_200p : zS := ((cx_200pi_0 (cx_200pi_1 [])), (cx_200pr_0 (cx_200pr_1 [])), [], [], [uV2, uV11], (cx_200pf_0 (cx_200pf_1 (cx_200pf_2 []))), [uG604, uG771])
def cx_200q0i_0 (t : List (Int × Int)) : List (Int × Int) := ui0 :: ui265 :: ui31 :: (0, 6) :: (0, 6) :: ui51 :: ui51 :: ui440 :: t
def cx_200q0i_1 (t : List (Int × Int)) : List (Int × Int) := ui441 :: ui51 :: t
def cx_200q0 : zS := ((cx_200q0i_0 (cx_200q0i_1 [])), (cx_200pr_0 (cx_200pr_1 [])), [], [], [uV63], [uF600, uF601, uF602, uF603, uF452, uF453], [uG604, uG811, uG771])
def cx_200q1i_0 (t : List (Int × Int)) : List (Int × Int) := ui0 :: ui800 :: ui31 :: (0, 6) :: (0, 6) :: ui51 :: ui51 :: ui440 :: t
def cx_200q1i_1 (t : List (Int × Int)) : List (Int × Int) := ui441 :: ui51 :: t
def cx_200q1 : zS := ((cx_200q1i_0 (cx_200q1i_1 [])), (cx_200pr_0 (cx_200pr_1 [])), [], [], [uV63], [uF600, uF601, uF602, uF603, uF452, uF453], [uG604, uG811, uG771])
def cx_200q2i_0 (t : List (Int × Int)) : List (Int × Int) := ui0 :: ui586 :: ui31 :: (0, 6) :: (0, 6) :: ui51 :: ui51 :: ui440 :: t
def cx_200q2i_1 (t : List (Int × Int)) : List (Int × Int) := ui441 :: ui507 :: ui586 :: t
def cx_200q2g_0 (t : List zTg) : List zTg := uG604 :: uG772 :: (260, [uL67, uL65, uL65, uL65, uL65, uL65, uL65, uL65, uL65, uL100, uL173]) :: uG771 :: t
def cx_200q2 : zS := ((cx_200q2i_0 (cx_200q2i_1 [])), (cx_200pr_0 (cx_200pr_1 [])), [((-1), [(9, 1), (10, (-1))])], [], [uV63], [uF600, uF601, uF602, uF603, uF452, uF453], (cx_200q2g_0 []))
def cx_200q3i_0 (t : List (Int × Int)) : List (Int × Int) := ui0 :: ui51 :: ui31 :: (0, 6) :: (0, 6) :: ui51 :: ui51 :: ui440 :: t
def cx_200q3i_1 (t : List (Int × Int)) : List (Int × Int) := ui441 :: ui51 :: ui51 :: ui586 :: t
def cx_200q3g_0 (t : List zTg) : List zTg := uG812 :: uG813 :: uG772 :: uG814 :: uG815 :: uG776 :: uG756 :: t
def cx_200q3 : zS := ((cx_200q3i_0 (cx_200q3i_1 [])), (cx_200pr_0 (cx_200pr_1 [])), [uL816, uL9, uL817, uL778], [], [uV99], [uF600, uF601, uF602, uF818, uF452, uF781], (cx_200q3g_0 []))
def cx_200q4i_0 (t : List (Int × Int)) : List (Int × Int) := ui0 :: ui51 :: ui31 :: (0, 6) :: (0, 6) :: ui51 :: ui51 :: ui440 :: t
def cx_200q4i_1 (t : List (Int × Int)) : List (Int × Int) := ui441 :: ui51 :: (0, 6) :: ui819 :: ui586 :: t
def cx_200q4g_0 (t : List zTg) : List zTg := uG820 :: uG821 :: uG822 :: uG772 :: uG823 :: uG824 :: uG776 :: uG756 :: t
def cx_200q4 : zS := ((cx_200q4i_0 (cx_200q4i_1 [])), (cx_200pr_0 (cx_200pr_1 [])), [uL825, uL9, uL817, uL778], [], [uV826], [uF600, uF827, uF602, uF603, uF452, uF781], (cx_200q4g_0 []))
def cx_200q5i_0 (t : List (Int × Int)) : List (Int × Int) := ui0 :: ui51 :: ui31 :: (0, 6) :: (0, 6) :: ui51 :: ui51 :: ui440 :: t
def cx_200q5i_1 (t : List (Int × Int)) : List (Int × Int) := ui441 :: ui51 :: ui51 :: ui586 :: ui440 :: t
def cx_200q5g_0 (t : List zTg) : List zTg := uG812 :: uG813 :: uG772 :: uG814 :: uG815 :: uG828 :: uG755 :: t
def cx_200q5 : zS := ((cx_200q5i_0 (cx_200q5i_1 [])), (cx_200pr_0 (cx_200pr_1 [])), [uL816, uL9, uL817, uL782, uL783], [], [uV99], [uF600, uF601, uF602, uF818, uF829, uF784], (cx_200q5g_0 []))
def cx_200q6i_0 (t : List (Int × Int)) : List (Int × Int) := ui0 :: ui51 :: ui31 :: (0, 6) :: (0, 6) :: ui51 :: ui51 :: ui440 :: t
def cx_200q6i_1 (t : List (Int × Int)) : List (Int × Int) := ui441 :: ui51 :: (0, 6) :: ui819 :: ui586 :: ui440 :: t
def cx_200q6g_0 (t : List zTg) : List zTg := uG820 :: uG821 :: uG822 :: uG772 :: uG823 :: uG824 :: (244, [uL23, uL210, uL609, uL67, uL754]) :: uG755 :: t
def cx_200q6 : zS := ((cx_200q6i_0 (cx_200q6i_1 [])), (cx_200pr_0 (cx_200pr_1 [])), [uL825, uL9, uL817, uL782, uL783], [], [uV826], [uF600, uF827, uF602, uF603, (5, (false, 2, 0, []), 0, 0, 0, [(13, 1)]), uF784], (cx_200q6g_0 []))
/-- HairRope.haul -/
def cx_200 : zCtx := (151, cx_200p, [cx_200q0, cx_200q1, cx_200q2, cx_200q3, cx_200q4, cx_200q5, cx_200q6], kc_51, 53316, 5, 158)
set_option maxRecDepth 1000000 in
theorem ck_200 : x_ok mLT1 [cx_195, cx_192, cx_189, cx_197, cx_198, cx_199] mTS2 mTC2 mRUp cx_200 [(1, [0]), (11, [1]), (37, [2]), (48, [3]), (56, [4]), (85, [5])] [(14, [1000726, 1000732]), (27, [1000741]), (40, [1000733]), (60, [1000734, 1000735]), (64, [1000739]), (73, [1000637]), (77, [1000736]), (80, [1000740]), (88, [1000737]), (91, [1000738])] [] (40, []) 53276 43 = true := by decide +kernel
theorem sn_200 {W : Bool} {X : List Int32} : y_Snd (mGw W) mLT1 (J2 W X) X cx_200 := y_ok J2_J mTS2_ok1 mTC2_ok1 mRUp_ok1 (List.forall_mem_cons.mpr ⟨sn_195, List.forall_mem_cons.mpr ⟨sn_192, List.forall_mem_cons.mpr ⟨sn_189, List.forall_mem_cons.mpr ⟨sn_197, List.forall_mem_cons.mpr ⟨sn_198, List.forall_mem_cons.mpr ⟨sn_199, fun _ h => absurd h List.not_mem_nil⟩⟩⟩⟩⟩⟩) ck_200
/-- Rules.mix -/
def cx_201 : zCtx := (97, ([ui0, ui51, ui51], [], [], [], [uV11, uV12], [], []), [([ui0, ui51, ui51, ui51], [], [], [], [uV60], [], [uG830])], [], 14, 0, 0)
set_option maxRecDepth 1000000 in
theorem ck_201 : x_ok mLT1 [] mTS2 mTC2 mRUp cx_201 [] [(2, [1000717]), (5, [1000639]), (9, [1000637]), (15, [1000421]), (16, [1000717]), (17, [1000718])] [] (14, []) 0 17 = true := by decide +kernel
theorem sn_201 {W : Bool} {X : List Int32} : y_Snd (mGw W) mLT1 (J2 W X) X cx_201 := y_ok J2_J mTS2_ok1 mTC2_ok1 mRUp_ok1 (fun _ h => absurd h List.not_mem_nil) ck_201
/-- Rules.lot -/
def cx_202 : zCtx := (96, ([ui0, ui51, ui51], [], [], [], [uV11, uV12], [], []), [([ui0, ui51, ui51, ui526], [], [], [], [uV60], [], [(255, [uL9, uL69, uL23])])], [], 26, 1, 22)
set_option maxRecDepth 1000000 in
theorem ck_202 : x_ok mLT1 [cx_201] mTS2 mTC2 mRUp cx_202 [(4, [0]), (8, [0])] [(14, [1000421]), (17, [1000679]), (18, [1000719])] [] (12, []) 14 15 = true := by decide +kernel
theorem sn_202 {W : Bool} {X : List Int32} : y_Snd (mGw W) mLT1 (J2 W X) X cx_202 := y_ok J2_J mTS2_ok1 mTC2_ok1 mRUp_ok1 (List.forall_mem_cons.mpr ⟨sn_201, fun _ h => absurd h List.not_mem_nil⟩) ck_202
def cx_203pi_0 (t : List (Int × Int)) : List (Int × Int) := ui0 :: (0, 5) :: ui51 :: ui51 :: ui31 :: (0, 6) :: (0, 6) :: ui51 :: t
def cx_203pi_1 (t : List (Int × Int)) : List (Int × Int) := ui51 :: ui808 :: t
def cx_203pf_0 (t : List zFa) : List zFa := uF542 :: uF543 :: uF581 :: uF582 :: uF583 :: uF584 :: uF585 :: (1, (false, 4, 0, []), 2, 4, 0, []) :: t
def cx_203pf_1 (t : List zFa) : List zFa := uF831 :: t
def cx_203p : zS := ((cx_203pi_0 (cx_203pi_1 [])), [ur445, ur434, ur446, ur533, ur551, ur435], [uL578, uL9, uL579], [], [uV2, uV422, uV11, uV12, uV60], (cx_203pf_0 (cx_203pf_1 [])), [(235, [uL106, uL80, uL81, uL133, uL100, uL69, uL23, uL36, uL166, uL9, uL106])])
/-- Rules.ageHouse -/
def cx_203 : zCtx := (95, cx_203p, [([ui0, (0, 5), ui51, ui51, ui31, (1, 6), (0, 6), ui51, ui51, ui808], [ur445, ur434, ur446, ur533, ur551, ur435], [uL579, uL578, uL9], [], [], [], [(235, [uL106, uL80, uL81, uL133, uL100, uL69, uL23, uL36, uL166, uL111, uL106])])], [uk541, uk531, uk439, uk767], 53026, 3, 110)
set_option maxRecDepth 1000000 in
theorem ck_203 : x_ok mLT1 [cx_131, cx_137, cx_138, cx_202] mTS2 mTC2 mRUp cx_203 [(13, [0]), (22, [1]), (36, [2]), (73, [3])] [(18, [1000809, 1000803]), (32, [1000975, 1000976]), (58, [1000921]), (62, [1000961, 1000962, 1000963]), (70, [1000639]), (72, [1000637]), (80, [1000964]), (88, [1000023]), (89, [1000965, 1000966]), (93, [1000971]), (109, [1000972]), (112, [1000973, 1000974]), (113, [1000967, 1000968, 1000969, 1000970])] [] (58, []) 52968 61 = true := by decide +kernel
theorem sn_203 {W : Bool} {X : List Int32} : y_Snd (mGw W) mLT1 (J2 W X) X cx_203 := y_ok J2_J mTS2_ok1 mTC2_ok1 mRUp_ok1 (List.forall_mem_cons.mpr ⟨sn_131, List.forall_mem_cons.mpr ⟨sn_137, List.forall_mem_cons.mpr ⟨sn_138, List.forall_mem_cons.mpr ⟨sn_202, fun _ h => absurd h List.not_mem_nil⟩⟩⟩⟩) ck_203
def cx_204pi_0 (t : List (Int × Int)) : List (Int × Int) := ui0 :: ui51 :: ui51 :: ui31 :: (0, 6) :: (0, 6) :: ui51 :: ui51 :: t
def cx_204pi_1 (t : List (Int × Int)) : List (Int × Int) := ui808 :: t
def cx_204p : zS := ((cx_204pi_0 (cx_204pi_1 [])), [ur445, ur434, ur446, ur533], [uL766], [], [uV2, uV422, uV11, uV12], [uF542, uF543, uF552, uF188, uF832, uF833, uF834, uF835], [(235, [uL100, uL106, uL80, uL81, uL23, uL9, uL69, uL36, uL133, uL65, uL100])])
/-- Rules.ageAll -/
def cx_204 : zCtx := (94, cx_204p, [([ui0, ui51, ui51, ui31, (0, 6), (0, 6), ui51, ui51, ui808, ui51], [ur445, ur434, ur446, ur533], [], [], [], [(1, (false, 7, 0, []), 0, 0, 0, [(9, 1)])], [(235, [uL100, uL106, uL166, uL81, uL23, uL9, uL69, uL36, uL836, uL65, uL100])])], [uk438, uk541, uk531, uk439, uk767], 53125, 4, 137)
def cz_204_0i_0 (t : List (Int × Int)) : List (Int × Int) := ui0 :: ui51 :: ui51 :: ui31 :: (0, 6) :: (0, 6) :: ui51 :: ui51 :: t
def cz_204_0i_1 (t : List (Int × Int)) : List (Int × Int) := ui808 :: (0, 6) :: t
def cz_204_0 : zS := ((cz_204_0i_0 (cz_204_0i_1 [])), [ur445, ur434, ur446, ur533], [uL766, (0, [(4, 1), (9, (-1))])], [uV2, uV422, uV11, uV12, uV779], [], [uF542, uF543, uF552, uF188, uF832, uF833, uF834, uF835], [(235, [uL100, uL106, uL80, uL81, uL23, uL9, uL69, uL36, uL133, uL166, uL100])])
set_option maxRecDepth 1000000 in
theorem ck_204 : x_ok mLT1 [cx_203] mTS2 mTC2 mRUp cx_204 [(21, [0])] [(36, [1000637]), (37, [1000977])] [(3, cz_204_0, (96, [(9, (-14))]))] (99, []) 53026 16 = true := by decide +kernel
theorem sn_204 {W : Bool} {X : List Int32} : y_Snd (mGw W) mLT1 (J2 W X) X cx_204 := y_ok J2_J mTS2_ok1 mTC2_ok1 mRUp_ok1 (List.forall_mem_cons.mpr ⟨sn_203, fun _ h => absurd h List.not_mem_nil⟩) ck_204
def cx_205pi_0 (t : List (Int × Int)) : List (Int × Int) := ui0 :: ui51 :: ui31 :: (0, 6) :: (0, 6) :: ui51 :: ui51 :: ui440 :: t
def cx_205pi_1 (t : List (Int × Int)) : List (Int × Int) := ui441 :: ui51 :: ui51 :: t
def cx_205pr_0 (t : List (Nat × Bool)) : List (Nat × Bool) := ur444 :: ur445 :: ur446 :: ur533 :: ur434 :: ur442 :: ur435 :: ur430 :: t
def cx_205pr_1 (t : List (Nat × Bool)) : List (Nat × Bool) := ur549 :: ur550 :: ur551 :: t
def cx_205pf_0 (t : List zFa) : List zFa := uF13 :: uF511 :: uF543 :: uF544 :: uF154 :: uF553 :: uF600 :: uF601 :: t
def cx_205pf_1 (t : List zFa) : List zFa := uF602 :: uF603 :: uF451 :: uF452 :: uF453 :: uF558 :: uF559 :: uF560 :: t
def cx_205pf_2 (t : List zFa) : List zFa := uF561 :: uF562 :: uF837 :: uF838 :: t
def cx_205p : zS := ((cx_205pi_0 (cx_205pi_1 [])), (cx_205pr_0 (cx_205pr_1 [])), [], [], [uV2, uV11], (cx_205pf_0 (cx_205pf_1 (cx_205pf_2 []))), [uG604, uG771])
def cx_205q0i_0 (t : List (Int × Int)) : List (Int × Int) := ui0 :: ui839 :: ui31 :: (0, 6) :: (0, 6) :: ui51 :: ui51 :: ui440 :: t
def cx_205q0i_1 (t : List (Int × Int)) : List (Int × Int) := ui441 :: ui51 :: ui51 :: t
def cx_205q0 : zS := ((cx_205q0i_0 (cx_205q0i_1 [])), (cx_205pr_0 (cx_205pr_1 [])), [], [], [uV63], [uF600, uF601, uF602, uF603, uF452, uF453], [uG604, uG771])
def cx_205q1i_0 (t : List (Int × Int)) : List (Int × Int) := ui0 :: ui265 :: ui31 :: (0, 6) :: (0, 6) :: ui51 :: ui51 :: ui440 :: t
def cx_205q1i_1 (t : List (Int × Int)) : List (Int × Int) := ui441 :: ui51 :: ui51 :: t
def cx_205q1 : zS := ((cx_205q1i_0 (cx_205q1i_1 [])), (cx_205pr_0 (cx_205pr_1 [])), [], [], [uV63], [uF600, uF601, uF602, uF603, uF452, uF453], [uG604, uG771])
def cx_205q2i_0 (t : List (Int × Int)) : List (Int × Int) := ui0 :: ui51 :: ui31 :: (0, 6) :: (0, 6) :: ui51 :: ui51 :: ui440 :: t
def cx_205q2i_1 (t : List (Int × Int)) : List (Int × Int) := ui441 :: ui51 :: ui51 :: ui51 :: t
def cx_205q2 : zS := ((cx_205q2i_0 (cx_205q2i_1 [])), (cx_205pr_0 (cx_205pr_1 [])), [uL162, uL840, uL778], [], [uV841], [uF600, uF601, uF842, uF603, uF452, uF781], [uG843, uG776, uG756])
def cx_205q3i_0 (t : List (Int × Int)) : List (Int × Int) := ui0 :: ui51 :: ui31 :: (0, 6) :: (0, 6) :: ui51 :: ui51 :: ui440 :: t
def cx_205q3i_1 (t : List (Int × Int)) : List (Int × Int) := ui441 :: ui51 :: ui51 :: ui51 :: ui440 :: t
def cx_205q3 : zS := ((cx_205q3i_0 (cx_205q3i_1 [])), (cx_205pr_0 (cx_205pr_1 [])), [uL162, uL840, uL782, uL783], [], [uV841], [uF600, uF601, uF842, uF603, uF829, uF784], [uG843, uG828, uG755])
def cx_205q4i_0 (t : List (Int × Int)) : List (Int × Int) := ui0 :: (0, 0) :: ui31 :: (0, 6) :: (0, 6) :: ui51 :: ui51 :: ui440 :: t
def cx_205q4i_1 (t : List (Int × Int)) : List (Int × Int) := ui441 :: ui51 :: ui51 :: t
def cx_205q4 : zS := ((cx_205q4i_0 (cx_205q4i_1 [])), (cx_205pr_0 (cx_205pr_1 [])), [], [], [uV77], [uF600, uF601, uF602, uF603, uF452, uF453], [uG604, uG771])
/-- HairRope.years -/
def cx_205 : zCtx := (154, cx_205p, [cx_205q0, cx_205q1, cx_205q2, cx_205q3, cx_205q4], kc_52, 65315, 5, 161)
def cz_205_0i_0 (t : List (Int × Int)) : List (Int × Int) := ui0 :: ui844 :: ui31 :: (0, 6) :: (0, 6) :: ui51 :: ui51 :: ui440 :: t
def cz_205_0i_1 (t : List (Int × Int)) : List (Int × Int) := ui440 :: ui51 :: ui51 :: ui845 :: ui51 :: t
def cz_205_0f_0 (t : List zFa) : List zFa := uF452 :: uF781 :: uF13 :: uF511 :: uF543 :: uF544 :: uF154 :: uF553 :: t
def cz_205_0f_1 (t : List zFa) : List zFa := uF600 :: uF601 :: (4, (false, 7, 0, []), 0, 0, 0, [(12, 1)]) :: uF603 :: uF451 :: uF558 :: uF559 :: uF560 :: t
def cz_205_0f_2 (t : List zFa) : List zFa := uF561 :: uF562 :: uF837 :: uF838 :: t
def cz_205_0 : zS := ((cz_205_0i_0 (cz_205_0i_1 [])), (cx_205pr_0 (cx_205pr_1 [])), [uL846], [uV2, uV11, uV841], [], (cz_205_0f_0 (cz_205_0f_1 (cz_205_0f_2 []))), [(235, [uL23, uL100, uL217, uL80, uL69, uL166, uL173, uL36, uL198, uL65, uL23]), uG756, uG776])
def cz_205_1i_0 (t : List (Int × Int)) : List (Int × Int) := ui0 :: ui844 :: ui31 :: (0, 6) :: (0, 6) :: ui51 :: ui51 :: ui440 :: t
def cz_205_1i_1 (t : List (Int × Int)) : List (Int × Int) := ui757 :: ui51 :: ui51 :: ui845 :: ui440 :: ui51 :: t
def cz_205_1f_0 (t : List zFa) : List zFa := uF829 :: uF784 :: uF13 :: uF511 :: uF543 :: uF544 :: uF154 :: uF553 :: t
def cz_205_1f_1 (t : List zFa) : List zFa := uF600 :: uF601 :: (4, (false, 7, 0, []), 0, 0, 0, [(13, 1)]) :: uF603 :: uF451 :: uF558 :: uF559 :: uF560 :: t
def cz_205_1f_2 (t : List zFa) : List zFa := uF561 :: uF562 :: uF837 :: uF838 :: t
def cz_205_1 : zS := ((cz_205_1i_0 (cz_205_1i_1 [])), (cx_205pr_0 (cx_205pr_1 [])), [uL846], [uV2, uV11, uV841], [], (cz_205_1f_0 (cz_205_1f_1 (cz_205_1f_2 []))), [(235, [uL23, uL100, uL210, uL80, uL69, uL166, uL173, uL36, uL198, uL65, uL23]), uG755, uG828])
def cz_205_2 : zS := ((cx_205q4i_0 (cx_205q4i_1 [])), (cx_205pr_0 (cx_205pr_1 [])), [], [uV2, uV11, uV64], [], (cx_205pf_0 (cx_205pf_1 (cx_205pf_2 []))), [uG604, uG771])
set_option maxRecDepth 1000000 in
theorem ck_205 : x_ok mLT1 [cx_189, cx_204] mTS2 mTC2 mRUp cx_205 [(24, [0]), (62, [1])] [(27, [1000742])] [(29, cz_205_0, (12040, [(11, (-190))])), (29, cz_205_1, ((-1000000000000), [(8, 25000000301), (11, (-190))])), (29, cz_205_2, (70, [(1, (-1000000000000))]))] (12190, []) 53125 21 = true := by decide +kernel
theorem sn_205 {W : Bool} {X : List Int32} : y_Snd (mGw W) mLT1 (J2 W X) X cx_205 := y_ok J2_J mTS2_ok1 mTC2_ok1 mRUp_ok1 (List.forall_mem_cons.mpr ⟨sn_189, List.forall_mem_cons.mpr ⟨sn_204, fun _ h => absurd h List.not_mem_nil⟩⟩) ck_205
def cx_206p : zS := ((cx_149pi_0 (cx_149pi_1 (cx_149pi_2 (cx_149pi_3 (cx_149pi_4 []))))), [ur434, ur708, ur847, ur848, ur849, ur850, ur851], [], [], [uV2, uV422], (cx_149pf_0 (cx_149pf_1 (cx_149pf_2 (cx_149pf_3 (cx_149pf_4 (cx_149pf_5 [])))))), [])
def cx_206q0 : zS := ((cx_149pi_0 (cx_149pi_1 (cx_149pi_2 (cx_149pi_3 (cx_149pi_4 []))))), [ur434, ur708, ur847, ur848, ur849, ur850, ur851], [], [], [], [uF128, uF130, uF131, uF712], [uG713])
/-- State.copyFrom -/
def cx_206 : zCtx := (102, cx_206p, [cx_206q0], kc_53, 57, 1, 64)
set_option maxRecDepth 1000000 in
theorem ck_206 : x_ok mLT1 [] mTS2 mTC2 mRUp cx_206 [] [(107, [1000858])] [] (57, []) 0 60 = true := by decide +kernel
theorem sn_206 {W : Bool} {X : List Int32} : y_Snd (mGw W) mLT1 (J2 W X) X cx_206 := y_ok J2_J mTS2_ok1 mTC2_ok1 mRUp_ok1 (fun _ h => absurd h List.not_mem_nil) ck_206
def cx_207p : zS := ((cx_149pi_0 (cx_149pi_1 (cx_149pi_2 (cx_149pi_3 (cx_149pi_4 []))))), [ur434, ur706, ur852, ur853, ur854, ur855, ur856], [], [], [uV2, uV422], (cx_149pf_0 (cx_149pf_1 (cx_149pf_2 (cx_149pf_3 (cx_149pf_4 (cx_149pf_5 [])))))), [])
def cx_207q0 : zS := ((cx_149pi_0 (cx_149pi_1 (cx_149pi_2 (cx_149pi_3 (cx_149pi_4 []))))), [ur434, ur706, ur852, ur853, ur854, ur855, ur856], [], [], [], [uF128, uF130, uF131, uF712], [uG714])
/-- State.copyFrom -/
def cx_207 : zCtx := (102, cx_207p, [cx_207q0], kc_53, 57, 1, 64)
set_option maxRecDepth 1000000 in
theorem ck_207 : x_ok mLT1 [] mTS2 mTC2 mRUp cx_207 [] [(107, [1000859])] [] (57, []) 0 60 = true := by decide +kernel
theorem sn_207 {W : Bool} {X : List Int32} : y_Snd (mGw W) mLT1 (J2 W X) X cx_207 := y_ok J2_J mTS2_ok1 mTC2_ok1 mRUp_ok1 (fun _ h => absurd h List.not_mem_nil) ck_207
def cx_208p : zS := ((cx_149pi_0 (cx_149pi_1 (cx_149pi_2 (cx_149pi_3 (cx_149pi_4 []))))), [ur434, ur704, ur857, ur858, ur859, ur860, ur861], [], [], [uV2, uV422], (cx_149pf_0 (cx_149pf_1 (cx_149pf_2 (cx_149pf_3 (cx_149pf_4 (cx_149pf_5 [])))))), [])
def cx_208q0 : zS := ((cx_149pi_0 (cx_149pi_1 (cx_149pi_2 (cx_149pi_3 (cx_149pi_4 []))))), [ur434, ur704, ur857, ur858, ur859, ur860, ur861], [], [], [], [uF128, uF130, uF131, uF712], [uG715])
/-- State.copyFrom -/
def cx_208 : zCtx := (102, cx_208p, [cx_208q0], kc_53, 57, 1, 64)
set_option maxRecDepth 1000000 in
theorem ck_208 : x_ok mLT1 [] mTS2 mTC2 mRUp cx_208 [] [(107, [1000860])] [] (57, []) 0 60 = true := by decide +kernel
theorem sn_208 {W : Bool} {X : List Int32} : y_Snd (mGw W) mLT1 (J2 W X) X cx_208 := y_ok J2_J mTS2_ok1 mTC2_ok1 mRUp_ok1 (fun _ h => absurd h List.not_mem_nil) ck_208
def cx_209p : zS := ((cx_149pi_0 (cx_149pi_1 (cx_149pi_2 (cx_149pi_3 (cx_149pi_4 []))))), [ur434, ur702, ur862, ur863, ur864, ur865, ur866], [], [], [uV2, uV422], (cx_149pf_0 (cx_149pf_1 (cx_149pf_2 (cx_149pf_3 (cx_149pf_4 (cx_149pf_5 [])))))), [])
def cx_209q0 : zS := ((cx_149pi_0 (cx_149pi_1 (cx_149pi_2 (cx_149pi_3 (cx_149pi_4 []))))), [ur434, ur702, ur862, ur863, ur864, ur865, ur866], [], [], [], [uF128, uF130, uF131, uF712], [uG716])
/-- State.copyFrom -/
def cx_209 : zCtx := (102, cx_209p, [cx_209q0], kc_53, 57, 1, 64)
set_option maxRecDepth 1000000 in
theorem ck_209 : x_ok mLT1 [] mTS2 mTC2 mRUp cx_209 [] [(107, [1000861])] [] (57, []) 0 60 = true := by decide +kernel
theorem sn_209 {W : Bool} {X : List Int32} : y_Snd (mGw W) mLT1 (J2 W X) X cx_209 := y_ok J2_J mTS2_ok1 mTC2_ok1 mRUp_ok1 (fun _ h => absurd h List.not_mem_nil) ck_209
def cx_210p : zS := ((cx_149pi_0 (cx_149pi_1 (cx_149pi_2 (cx_149pi_3 (cx_149pi_4 []))))), [ur434, ur700, ur867, ur868, ur869, ur870, ur871], [], [], [uV2, uV422], (cx_149pf_0 (cx_149pf_1 (cx_149pf_2 (cx_149pf_3 (cx_149pf_4 (cx_149pf_5 [])))))), [])
def cx_210q0 : zS := ((cx_149pi_0 (cx_149pi_1 (cx_149pi_2 (cx_149pi_3 (cx_149pi_4 []))))), [ur434, ur700, ur867, ur868, ur869, ur870, ur871], [], [], [], [uF128, uF130, uF131, uF712], [uG717])
/-- State.copyFrom -/
def cx_210 : zCtx := (102, cx_210p, [cx_210q0], kc_53, 57, 1, 64)
set_option maxRecDepth 1000000 in
theorem ck_210 : x_ok mLT1 [] mTS2 mTC2 mRUp cx_210 [] [(107, [1000862])] [] (57, []) 0 60 = true := by decide +kernel
theorem sn_210 {W : Bool} {X : List Int32} : y_Snd (mGw W) mLT1 (J2 W X) X cx_210 := y_ok J2_J mTS2_ok1 mTC2_ok1 mRUp_ok1 (fun _ h => absurd h List.not_mem_nil) ck_210
def cx_211p : zS := ((cx_149pi_0 (cx_149pi_1 (cx_149pi_2 (cx_149pi_3 (cx_149pi_4 []))))), [ur434, ur698, ur872, ur873, ur874, ur875, ur876], [], [], [uV2, uV422], (cx_149pf_0 (cx_149pf_1 (cx_149pf_2 (cx_149pf_3 (cx_149pf_4 (cx_149pf_5 [])))))), [])
def cx_211q0 : zS := ((cx_149pi_0 (cx_149pi_1 (cx_149pi_2 (cx_149pi_3 (cx_149pi_4 []))))), [ur434, ur698, ur872, ur873, ur874, ur875, ur876], [], [], [], [uF128, uF130, uF131, uF712], [uG718])
/-- State.copyFrom -/
def cx_211 : zCtx := (102, cx_211p, [cx_211q0], kc_53, 57, 1, 64)
set_option maxRecDepth 1000000 in
theorem ck_211 : x_ok mLT1 [] mTS2 mTC2 mRUp cx_211 [] [(107, [1000863])] [] (57, []) 0 60 = true := by decide +kernel
theorem sn_211 {W : Bool} {X : List Int32} : y_Snd (mGw W) mLT1 (J2 W X) X cx_211 := y_ok J2_J mTS2_ok1 mTC2_ok1 mRUp_ok1 (fun _ h => absurd h List.not_mem_nil) ck_211
def cx_212p : zS := ((cx_149pi_0 (cx_149pi_1 (cx_149pi_2 (cx_149pi_3 (cx_149pi_4 []))))), [ur434, ur696, ur877, ur878, ur879, ur880, ur881], [], [], [uV2, uV422], (cx_149pf_0 (cx_149pf_1 (cx_149pf_2 (cx_149pf_3 (cx_149pf_4 (cx_149pf_5 [])))))), [])
def cx_212q0 : zS := ((cx_149pi_0 (cx_149pi_1 (cx_149pi_2 (cx_149pi_3 (cx_149pi_4 []))))), [ur434, ur696, ur877, ur878, ur879, ur880, ur881], [], [], [], [uF128, uF130, uF131, uF712], [uG719])
/-- State.copyFrom -/
def cx_212 : zCtx := (102, cx_212p, [cx_212q0], kc_53, 57, 1, 64)
set_option maxRecDepth 1000000 in
theorem ck_212 : x_ok mLT1 [] mTS2 mTC2 mRUp cx_212 [] [(107, [1000864])] [] (57, []) 0 60 = true := by decide +kernel
theorem sn_212 {W : Bool} {X : List Int32} : y_Snd (mGw W) mLT1 (J2 W X) X cx_212 := y_ok J2_J mTS2_ok1 mTC2_ok1 mRUp_ok1 (fun _ h => absurd h List.not_mem_nil) ck_212
end
