noncomputable section
/-! ===== readings, by program, checked by the kernel ===== -/
/-- M.restore -/
def cx_776 : zCtx := (309, ([ui0, ui438, (0, 1), (0, 1), (0, 1), (0, 6), (0, 6), ui49, ui49], [ur1474, ur2046, ur2047, ur2564], [], [], [uV2, uV388], [uF2273, uF2565, uF2566, uF2567, uF2568, uF2185, uF2569], [uG2042, uG2570, (249, [uL104, uL78, uL79, uL131, uL114])]), [([ui0, ui438, (0, 1), (0, 1), (0, 0), (0, 6), (0, 6), ui49, ui49], [ur1474, ur2046, ur2047, ur2564], [], [], [uV62], [uF2273, uF2566, uF2567, uF2568], [uG2042]), ([ui0, ui438, (0, 1), (0, 1), (1, 1), (0, 6), (0, 6), ui49, ui49], [ur1474, ur2046, ur2047, ur2564], [], [], [uV64], [uF2122, uF2566, uF2567, uF2568], [uG475, uG2042, uG2043, uG475])], [uk2276, uk2044], 590, 1, 22)
def cq_776 : List zCtx := [cx_514]
def cs_776 : List (Nat × List Nat) := [(3, [0])]
def hs_776 : List (Nat × List Nat) := [(20, [17]), (51, [3858, 1000710, 1000711, 1000712])]
def ns_776 : List zN := []
set_option maxRecDepth 1000000 in
theorem ca_776 : x_okA mLT1 cq_776 mTS2 mTC2 mRUp cx_776 cs_776 hs_776 ns_776 (581, []) 9 584 = true := by decide +kernel
set_option maxRecDepth 1000000 in
theorem cc_776 : x_okC mLT1 cq_776 mTS2 mTC2 mRUp cx_776 cs_776 hs_776 ns_776 (581, []) 9 584 = true := by decide +kernel
theorem ck_776 : x_ok mLT1 cq_776 mTS2 mTC2 mRUp cx_776 cs_776 hs_776 ns_776 (581, []) 9 584 = true := x_ok_of ca_776 (fun _ h => absurd h List.not_mem_nil) cc_776
theorem sn_776 {W : Bool} {X : List Int32} : y_Snd (mGw W) mLT1 (J2 W X) X cx_776 := y_ok J2_J mTS2_ok1 mTC2_ok1 mRUp_ok1 (List.forall_mem_cons.mpr ⟨sn_514, fun _ h => absurd h List.not_mem_nil⟩) ck_776
def cx_777pi_0 (t : List (Int × Int)) : List (Int × Int) := ui0 :: ui260 :: ui438 :: (0, 1) :: (0, 1) :: (0, 1) :: (0, 6) :: (0, 6) :: t
def cx_777pi_1 (t : List (Int × Int)) : List (Int × Int) := ui49 :: ui49 :: t
def cx_777p : zS := ((cx_777pi_0 (cx_777pi_1 [])), [ur1474, ur2046, ur2047, ur2564], [], [], [uV2, uV11], [uF2582, uF2565, uF2583, uF2584, uF2585, uF2185, uF2569], [uG2042, uG2570, uG1390])
/-- M.restore -/
def cx_777 : zCtx := (309, cx_777p, [([ui0, ui260, ui438, (0, 1), (0, 1), (0, 1), (0, 6), (0, 6), ui49, ui49], [ur1474, ur2046, ur2047, ur2564], [], [], [uV62], [uF2583, uF2584, uF2585], [uG1390])], [], 16, 1, 22)
set_option maxRecDepth 1000000 in
theorem ck_777 : x_ok mLT1 [cx_514] mTS2 mTC2 mRUp cx_777 [(3, [0])] [] [] (7, []) 9 10 = true := by decide +kernel
theorem sn_777 {W : Bool} {X : List Int32} : y_Snd (mGw W) mLT1 (J2 W X) X cx_777 := y_ok J2_J mTS2_ok1 mTC2_ok1 mRUp_ok1 (List.forall_mem_cons.mpr ⟨sn_514, fun _ h => absurd h List.not_mem_nil⟩) ck_777
/-- M.sumNow -/
def cx_778 : zCtx := (311, ([ui0], [ur1474], [], [], [uV2, uV62], [], []), [([ui0, ui49], [ur1474], [], [], [uV11], [], [])], [], 102, 0, 0)
set_option maxRecDepth 1000000 in
theorem ck_778 : x_ok mLT1 [] mTS2 mTC2 mRUp cx_778 [] [] [(4, ([(0, 3072), ((-2147483648), 2147483647), (0, 6)], [(12, false)], [], [(2, 0, 0, []), (0, 0, 0, []), (0, 0, 0, [(1, 1)]), (0, 0, 0, [(2, 1)])], [], [], []), (97, [(2, (-15))]))] (102, []) 0 17 = true := by decide +kernel
theorem sn_778 {W : Bool} {X : List Int32} : y_Snd (mGw W) mLT1 (J2 W X) X cx_778 := y_ok J2_J mTS2_ok1 mTC2_ok1 mRUp_ok1 (fun _ h => absurd h List.not_mem_nil) ck_778
/-- M.sumNow -/
def cx_779 : zCtx := (311, ([ui0], [ur1474], [], [], [uV2, (0, 0, 18, [])], [], []), [([ui0, ui49], [ur1474], [], [], [uV11], [], [])], [], 102, 0, 0)
set_option maxRecDepth 1000000 in
theorem ck_779 : x_ok mLT1 [] mTS2 mTC2 mRUp cx_779 [] [] [(4, ([(0, 3072), ((-2147483648), 2147483647), (18, 24)], [(12, false)], [], [(2, 0, 0, []), (0, 0, 18, []), (0, 0, 0, [(1, 1)]), (0, 0, 0, [(2, 1)])], [], [], []), (367, [(2, (-15))]))] (102, []) 0 17 = true := by decide +kernel
theorem sn_779 {W : Bool} {X : List Int32} : y_Snd (mGw W) mLT1 (J2 W X) X cx_779 := y_ok J2_J mTS2_ok1 mTC2_ok1 mRUp_ok1 (fun _ h => absurd h List.not_mem_nil) ck_779
/-- M.sumNow -/
def cx_780 : zCtx := (311, ([ui0], [ur1474], [], [], [uV2, (0, 0, 12, [])], [], []), [([ui0, ui49], [ur1474], [], [], [uV11], [], [])], [], 102, 0, 0)
set_option maxRecDepth 1000000 in
theorem ck_780 : x_ok mLT1 [] mTS2 mTC2 mRUp cx_780 [] [] [(4, ([(0, 3072), ((-2147483648), 2147483647), (12, 18)], [(12, false)], [], [(2, 0, 0, []), (0, 0, 12, []), (0, 0, 0, [(1, 1)]), (0, 0, 0, [(2, 1)])], [], [], []), (277, [(2, (-15))]))] (102, []) 0 17 = true := by decide +kernel
theorem sn_780 {W : Bool} {X : List Int32} : y_Snd (mGw W) mLT1 (J2 W X) X cx_780 := y_ok J2_J mTS2_ok1 mTC2_ok1 mRUp_ok1 (fun _ h => absurd h List.not_mem_nil) ck_780
/-- M.count -/
def cx_781 : zCtx := (310, ([ui0, ui49, ui52, (0, 1), ui49, (0, 1), ui438, ui48], [ur1474], [], [], [uV2, uV11], [uF150, uF2166, uF2167, uF2168, (0, (false, 53, 0, []), 0, 0, 0, [(6, 1)]), uF2559], []), [([ui0, ui1472, ui52, (0, 1), ui49, (0, 1), ui438, ui48, ui49, ui194], [ur1474], [], [], [uV144], [uF2034, uF2428], [uG2041, uG2037]), ([ui0, ui2587, ui52, (0, 1), ui49, (0, 1), ui438, ui48, ui194], [ur1474], [], [], [uV64], [uF2034, uF2424], [uG2041, uG2037]), ([ui0, ui2587, ui52, (0, 1), ui49, (0, 1), ui438, ui48, ui194], [ur1474], [], [], [uV62], [uF2034, uF2424], [uG2041, uG2037]), ([ui0, ui2588, ui52, (0, 1), ui49, (0, 1), ui438, ui48, ui194], [ur1474], [], [], [uV384], [uF2034, uF2424], [uG2041, uG2037]), ([ui0, ui2588, ui52, (0, 1), ui49, (0, 1), ui438, ui48, ui194], [ur1474], [], [], [uV388], [uF2034, uF2424], [uG2041, uG2037]), ([ui0, ui49, ui52, (0, 1), ui49, (0, 1), ui438, ui48, ui194], [ur1474], [], [], [uV61], [uF2034, uF2424], [uG2041, uG2037])], [uk2038, uk2039, uk2040], 877, 1, 23)
set_option maxRecDepth 1000000 in
theorem ck_781 : x_ok mLT1 [cx_518, cx_556, cx_778, cx_524, cx_779, cx_780] mTS2 mTC2 mRUp cx_781 [(1, [0]), (125, [1]), (139, [2]), (160, [3]), (241, [1]), (275, [4]), (320, [5])] [] [(145, ([(0, 3072), (7, 7), (0, 2000), (0, 1), ((-2147483648), 2147483647), (0, 1), (0, 40), (0, 20), (0, 63), (0, 6), (0, 9999)], [(12, false), (64, false), (77, false), (78, false)], [], [(2, 0, 0, []), (0, 0, 0, [(1, 1)]), (0, 0, 0, [(8, 1)]), (0, 0, 0, [(9, 1)])], [], [(0, (false, 50, 0, []), 0, 0, 0, []), (0, (false, 49, 0, []), 0, 0, 0, [(10, 1)]), (0, (false, 30, 0, []), 2, 1, 0, []), (0, (false, 47, 0, []), 2, 2, 0, []), (0, (false, 48, 0, []), 2, 3, 0, []), (0, (false, 2, 0, []), 0, 0, 0, [(2, 1)]), (0, (false, 18, 0, []), 0, 0, 0, [(3, 1)]), (0, (false, 53, 0, []), 0, 0, 0, [(6, 1)]), (0, (false, 63, 0, []), 0, 0, 0, [(7, 1)])], [(239, []), (11, [(0, [])])]), ((-300000000000), [(1, 42857142915), (9, (-63))])), (281, ([(0, 3072), (15, 15), (0, 2000), (0, 1), ((-2147483648), 2147483647), (0, 1), (0, 40), (0, 20), (0, 63), (0, 6), (0, 9999)], [(12, false), (64, false), (77, false), (78, false)], [], [(2, 0, 0, []), (0, 0, 0, [(1, 1)]), (0, 0, 0, [(8, 1)]), (0, 0, 0, [(9, 1)])], [], [(0, (false, 50, 0, []), 0, 0, 0, []), (0, (false, 49, 0, []), 0, 0, 0, [(10, 1)]), (0, (false, 30, 0, []), 2, 1, 0, []), (0, (false, 47, 0, []), 2, 2, 0, []), (0, (false, 48, 0, []), 2, 3, 0, []), (0, (false, 2, 0, []), 0, 0, 0, [(2, 1)]), (0, (false, 18, 0, []), 0, 0, 0, [(3, 1)]), (0, (false, 53, 0, []), 0, 0, 0, [(6, 1)]), (0, (false, 63, 0, []), 0, 0, 0, [(7, 1)])], [(239, []), (11, [(0, [])])]), ((-300000000000), [(1, 20000000027), (9, (-63))]))] (432, []) 445 33 = true := by decide +kernel
theorem sn_781 {W : Bool} {X : List Int32} : y_Snd (mGw W) mLT1 (J2 W X) X cx_781 := y_ok J2_J mTS2_ok1 mTC2_ok1 mRUp_ok1 (List.forall_mem_cons.mpr ⟨sn_518, List.forall_mem_cons.mpr ⟨sn_556, List.forall_mem_cons.mpr ⟨sn_778, List.forall_mem_cons.mpr ⟨sn_524, List.forall_mem_cons.mpr ⟨sn_779, List.forall_mem_cons.mpr ⟨sn_780, fun _ h => absurd h List.not_mem_nil⟩⟩⟩⟩⟩⟩) ck_781
end
