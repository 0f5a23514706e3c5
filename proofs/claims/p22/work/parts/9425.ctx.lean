noncomputable section
/-! ===== readings, by program, checked by the kernel ===== -/
/-- M.termOf -/
def cx_531 : zCtx := (232, ([ui0, ui788, ui1930, (0, 1)], [ur1474, ur1530, ur1531, ur2198, ur2196], [uL514, uL2199, uL57], [], [uV2, uV11, uV12], [uF1793, uF1794, uF2200, uF2201, uF2202], [uG2203]), [([ui0, ui788, ui1930, (0, 1)], [ur1474, ur1530, ur1531, ur2198, ur2196], [uL514, uL2199, uL57], [], [uV62], [(0, (false, 46, 0, []), 0, 0, 1, [])], [uG2204, (231, [uL9, uL67, (2147483648, [])])]), ([ui0, ui788, ui1930, (0, 1), ui49], [ur1474, ur1530, ur1531, ur2198, ur2196], [uL514, uL2199, uL57], [], [uV97], [uF2200], [uG2204, (231, [uL9, uL67, uL98])])], [uk2205, uk2206], 66386, 0, 0)
def cz_531_0 : zS := ([ui0, ui788, ui1930, (0, 1), ui68, ui1734, ((-2147483648), 2147483648)], [ur1474, ur1530, ur1531, ur2198, ur2196], [uL514, uL2199, uL57, (0, [(1, 1), (4, 500), (5, (-1))]), uL57], [uV2, uV11, uV12, uV97, uV75, uV113, uV113, uV113], [], [uF1793, uF1794, uF2201, uF2202, uF2200], [uG2204, uG2203, (0, [uL9, uL98, uL104]), (229, [uL78, uL104, uL67, uL98]), (231, [uL9, uL67, uL78])])
set_option maxRecDepth 1000000 in
theorem ck_531 : x_ok mLT1 [] mTS2 mTC2 mRUp cx_531 [] [(3, [133, 1000641]), (11, [1000640]), (15, [264]), (59, [1000642, 1000643]), (97, [1000644]), (121, [1000637]), (135, [1000638]), (149, [1000639]), (157, [1000023]), (158, [1000645, 1000646, 1000647, 1000648, 1000649]), (159, [1000650]), (171, [1000651])] [(5, cz_531_0, (66376, [(4, 21), (5, (-79))]))] (66386, []) 0 52 = true := by decide +kernel
theorem sn_531 {W : Bool} {X : List Int32} : y_Snd (mGw W) mLT1 (J2 W X) X cx_531 := y_ok J2_J mTS2_ok1 mTC2_ok1 mRUp_ok1 (fun _ h => absurd h List.not_mem_nil) ck_531
def cx_532pr_0 (t : List (Nat × Bool)) : List (Nat × Bool) := ur1474 :: ur1532 :: ur1533 :: ur1534 :: ur1535 :: ur1536 :: ur1521 :: ur1522 :: t
def cx_532pr_1 (t : List (Nat × Bool)) : List (Nat × Bool) := ur1530 :: ur1531 :: ur2198 :: ur2196 :: t
def cx_532pf_0 (t : List zFa) : List zFa := uF2162 :: uF1760 :: uF1761 :: uF1762 :: uF1763 :: uF1764 :: uF1765 :: uF1766 :: t
def cx_532pf_1 (t : List zFa) : List zFa := uF1768 :: uF1769 :: uF2207 :: uF2208 :: t
def cx_532p : zS := ([ui0, (1, 1), (0, 1), ui31], (cx_532pr_0 (cx_532pr_1 [])), [], [], [uV2, uV62, uV11], (cx_532pf_0 (cx_532pf_1 [])), [uG2209, uG2210])
/-- M.lawTells -/
def cx_532 : zCtx := (231, cx_532p, [([ui0, (1, 1), (0, 1), ui31, ui1736, ui1736], [ur1474, ur1532, ur1533, ur1534, ur1535, ur1536, ur1521, ur1522, ur1530, ur1531, ur2198, ur2196], [uL1608, uL1607], [], [uV11], [uF2211, uF2212], [uG2213, uG2213]), ([ui0, (1, 1), (0, 1), ui31, ui49, ui2214, ui1736], [ur1474, ur1532, ur1533, ur1534, ur1535, ur1536, ur1521, ur1522, ur1530, ur1531, ur2198, ur2196], [], [], [uV97], [uF2215, uF2216], [(233, [uL67, uL63, uL9, uL98])]), ([ui0, (1, 1), (0, 1), ui31, ui1736, ui1736], [ur1474, ur1532, ur1533, ur1534, ur1535, ur1536, ur1521, ur1522, ur1530, ur1531, ur2198, ur2196], [], [], [uV62], [uF2211, uF2212], [(233, [uL67, uL63, uL9, uL63])])], [uk2205, uk2206], 77604, 1, 27)
def cz_532_0f_0 (t : List zFa) : List zFa := uF2215 :: uF2216 :: uF2162 :: uF1760 :: uF1761 :: uF1762 :: uF1763 :: uF1764 :: t
def cz_532_0f_1 (t : List zFa) : List zFa := uF1765 :: uF1766 :: uF1768 :: uF1769 :: uF2207 :: uF2208 :: uF2217 :: t
def cz_532_0 : zS := ([ui0, (1, 1), (0, 1), ui31, ui1736, ui1736, ui1736, ui49], (cx_532pr_0 (cx_532pr_1 [])), [uL2218], [uV2, uV62, uV11, (0, 0, 0, [(2, 4)]), uV97, uV113, uV113], [], (cz_532_0f_0 (cz_532_0f_1 [])), [uG2209, uG2210, uG2219, (233, [uL67, uL63, uL9, uL79])])
set_option maxRecDepth 1000000 in
theorem ck_532 : x_ok mLT1 [cx_531] mTS2 mTC2 mRUp cx_532 [(75, [0]), (95, [0]), (134, [0])] [(21, [1000655]), (24, [1000656]), (37, uN2220), (50, [12553]), (75, [1000652]), (95, [1000653]), (107, uN2221), (134, [1000654]), (146, uN2222), (150, uN2223), (153, [1000661]), (159, [1000666])] [(39, cz_532_0, ((-99999988807), [(1, 100000000000), (4, (-43))]))] (11218, []) 66386 59 = true := by decide +kernel
theorem sn_532 {W : Bool} {X : List Int32} : y_Snd (mGw W) mLT1 (J2 W X) X cx_532 := y_ok J2_J mTS2_ok1 mTC2_ok1 mRUp_ok1 (List.forall_mem_cons.mpr ⟨sn_531, fun _ h => absurd h List.not_mem_nil⟩) ck_532
/-- M.within -/
def cx_533 : zCtx := (233, ([ui0, ui49, (0, 0), ui2224], [], [], [], [uV11, uV12, uV58], [], []), [([ui0, ui260, (0, 0), ui2224], [], [uL57], [], [uV12], [], []), ([ui0, ui1385, (0, 0), ui2224], [], [uL1510, uL60], [], [uV58], [], []), ([ui0, ui600, (0, 0), ui2224], [], [uL66, uL60], [], [uV11], [], [])], [], 9, 0, 0)
set_option maxRecDepth 1000000 in
theorem ck_533 : x_ok mLT1 [] mTS2 mTC2 mRUp cx_533 [] [] [] (9, []) 0 12 = true := by decide +kernel
theorem sn_533 {W : Bool} {X : List Int32} : y_Snd (mGw W) mLT1 (J2 W X) X cx_533 := y_ok J2_J mTS2_ok1 mTC2_ok1 mRUp_ok1 (fun _ h => absurd h List.not_mem_nil) ck_533
def cx_534pi_0 (t : List (Int × Int)) : List (Int × Int) := ui0 :: (0, 5) :: (0, 1) :: ui31 :: (0, 6) :: ui49 :: ui49 :: ui49 :: t
def cx_534pi_1 (t : List (Int × Int)) : List (Int × Int) := ui49 :: ui49 :: ui49 :: t
def cx_534pr_0 (t : List (Nat × Bool)) : List (Nat × Bool) := ur1474 :: ur1521 :: ur1522 :: ur1532 :: ur1533 :: ur1534 :: ur1535 :: ur1536 :: t
def cx_534pr_1 (t : List (Nat × Bool)) : List (Nat × Bool) := ur1530 :: ur1531 :: ur1523 :: ur1635 :: ur1636 :: ur2027 :: ur2196 :: t
def cx_534pf_0 (t : List zFa) : List zFa := uF2162 :: uF1537 :: uF1538 :: uF2169 :: uF2170 :: uF2171 :: uF2172 :: uF2173 :: t
def cx_534pf_1 (t : List zFa) : List zFa := uF1768 :: uF1769 :: uF2174 :: uF2175 :: uF2176 :: uF2177 :: uF2225 :: t
def cx_534p : zS := ((cx_534pi_0 (cx_534pi_1 [])), (cx_534pr_0 (cx_534pr_1 [])), [uL786, uL9, uL579], [], [uV2, uV11], (cx_534pf_0 (cx_534pf_1 [])), [uG2209, uG2210, uG2226, uG2227, uG2228])
/-- M.growsOf -/
def cx_534 : zCtx := (228, cx_534p, [([ui0, (0, 5), (0, 1), ui31, (1, 6), ui49, ui49, ui49, ui49, ui49, ui49, ui537], [ur1474, ur1521, ur1522, ur1532, ur1533, ur1534, ur1535, ur1536, ur1530, ur1531, ur1523, ur1635, ur1636, ur2027, ur2196], [uL579, uL786, uL9], [], [uV873], [], [(238, [uL36, uL23, uL104, uL78, uL79, uL131, uL163, uL169, uL63, uL9, uL193])])], [uk2205, uk2197, uk2206], 77615, 3, 63)
set_option maxRecDepth 1000000 in
theorem ck_534 : x_ok mLT1 [cx_530, cx_532, cx_533] mTS2 mTC2 mRUp cx_534 [(2, [0]), (8, [1]), (14, [2])] [(11, uN2229), (17, uN560)] [] (11, []) 77604 14 = true := by decide +kernel
theorem sn_534 {W : Bool} {X : List Int32} : y_Snd (mGw W) mLT1 (J2 W X) X cx_534 := y_ok J2_J mTS2_ok1 mTC2_ok1 mRUp_ok1 (List.forall_mem_cons.mpr ⟨sn_530, List.forall_mem_cons.mpr ⟨sn_532, List.forall_mem_cons.mpr ⟨sn_533, fun _ h => absurd h List.not_mem_nil⟩⟩⟩) ck_534
def cx_535pi_0 (t : List (Int × Int)) : List (Int × Int) := ui0 :: (0, 5) :: (5, 5) :: (0, 1) :: ui49 :: (0, 1) :: ui31 :: (0, 6) :: t
def cx_535pi_1 (t : List (Int × Int)) : List (Int × Int) := (0, 6) :: ui49 :: ui49 :: t
def cx_535p : zS := ((cx_535pi_0 (cx_535pi_1 [])), (cx_516pr_0 (cx_516pr_1 [])), [uL1224], [], [uV2, uV11, uV12], (cx_516pf_0 (cx_516pf_1 [])), [uG2179, uG2181, uG2182, uG2183, uG2184])
def cx_535q0i_0 (t : List (Int × Int)) : List (Int × Int) := ui0 :: (0, 5) :: (5, 5) :: (0, 1) :: ui49 :: (0, 1) :: ui31 :: (0, 6) :: t
def cx_535q0i_1 (t : List (Int × Int)) : List (Int × Int) := (0, 6) :: ui49 :: ui49 :: ui49 :: t
def cx_535q0 : zS := ((cx_535q0i_0 (cx_535q0i_1 [])), (cx_516pr_0 (cx_516pr_1 [])), [uL9, uL2188], [], [uV873], [], [uG2037, uG2184, (238, [uL36, uL78, uL63, uL63, uL63, uL63, uL63, uL63, uL63, uL9, uL193])])
/-- M.house -/
def cx_535 : zCtx := (221, cx_535p, [cx_535q0, ([ui0, (0, 5), (5, 5), (0, 1), ui49, (0, 1), ui31, (0, 6), (0, 6), ui49, ui49], [ur1474, ur1521, ur1522, ur1532, ur1533, ur1534, ur1535, ur1536, ur1530, ur1531, ur1523, ur1635, ur1636, ur2027], [uL2178], [], [uV61], [], [uG2184])], [uk2205, uk2038, uk2039, uk2197, uk2206, uk2040], 77627, 4, 84)
set_option maxRecDepth 1000000 in
theorem ck_535 : x_ok mLT1 [cx_515, cx_518, cx_534] mTS2 mTC2 mRUp cx_535 [(2, [0]), (11, [1]), (118, [2])] [(14, [1000831]), (15, [1000843])] [] (12, []) 77615 15 = true := by decide +kernel
theorem sn_535 {W : Bool} {X : List Int32} : y_Snd (mGw W) mLT1 (J2 W X) X cx_535 := y_ok J2_J mTS2_ok1 mTC2_ok1 mRUp_ok1 (List.forall_mem_cons.mpr ⟨sn_515, List.forall_mem_cons.mpr ⟨sn_518, List.forall_mem_cons.mpr ⟨sn_534, fun _ h => absurd h List.not_mem_nil⟩⟩⟩) ck_535
def cx_536p : zS := ([ui0, (1, 1), (0, 1), ui31], (cx_532pr_0 (cx_532pr_1 [])), [], [], [uV2, uV64, uV11], (cx_532pf_0 (cx_532pf_1 [])), [uG2209, uG2210])
/-- M.lawTells -/
def cx_536 : zCtx := (231, cx_536p, [([ui0, (1, 1), (0, 1), ui31, ui1736, ui1736], [ur1474, ur1532, ur1533, ur1534, ur1535, ur1536, ur1521, ur1522, ur1530, ur1531, ur2198, ur2196], [uL1608, uL1607], [], [uV11], [uF2230, uF2231], [uG2232, uG2232]), ([ui0, (1, 1), (0, 1), ui31, ui49, ui2214, ui1736], [ur1474, ur1532, ur1533, ur1534, ur1535, ur1536, ur1521, ur1522, ur1530, ur1531, ur2198, ur2196], [], [], [uV97], [uF2233, uF2234], [(233, [uL67, uL65, uL9, uL98])]), ([ui0, (1, 1), (0, 1), ui31, ui1736, ui1736], [ur1474, ur1532, ur1533, ur1534, ur1535, ur1536, ur1521, ur1522, ur1530, ur1531, ur2198, ur2196], [], [], [uV62], [uF2230, uF2231], [(233, [uL67, uL65, uL9, uL63])])], [uk2205, uk2206], 77604, 1, 27)
def cz_536_0f_0 (t : List zFa) : List zFa := uF2233 :: uF2234 :: uF2162 :: uF1760 :: uF1761 :: uF1762 :: uF1763 :: uF1764 :: t
def cz_536_0f_1 (t : List zFa) : List zFa := uF1765 :: uF1766 :: uF1768 :: uF1769 :: uF2207 :: uF2208 :: uF2217 :: t
def cz_536_0 : zS := ([ui0, (1, 1), (0, 1), ui31, ui1736, ui1736, ui1736, ui49], (cx_532pr_0 (cx_532pr_1 [])), [uL2218], [uV2, uV64, uV11, (0, 0, 1, [(2, 4)]), uV97, uV113, uV113], [], (cz_536_0f_0 (cz_536_0f_1 [])), [uG2209, uG2210, uG2219, (233, [uL67, uL65, uL9, uL79])])
set_option maxRecDepth 1000000 in
theorem ck_536 : x_ok mLT1 [cx_531] mTS2 mTC2 mRUp cx_536 [(75, [0]), (95, [0]), (134, [0])] [(21, [1000655]), (24, [1000656]), (37, uN2220), (50, [12553]), (75, [1000652]), (95, [1000653]), (107, uN2221), (134, [1000654]), (146, uN2222), (150, uN2223), (153, [1000661]), (159, [1000666])] [(39, cz_536_0, ((-99999988807), [(1, 100000000000), (4, (-43))]))] (11218, []) 66386 59 = true := by decide +kernel
theorem sn_536 {W : Bool} {X : List Int32} : y_Snd (mGw W) mLT1 (J2 W X) X cx_536 := y_ok J2_J mTS2_ok1 mTC2_ok1 mRUp_ok1 (List.forall_mem_cons.mpr ⟨sn_531, fun _ h => absurd h List.not_mem_nil⟩) ck_536
/-- M.weakensOf -/
def cx_537 : zCtx := (234, cx_534p, [([ui0, (0, 5), (0, 1), ui31, (1, 6), ui49, ui49, ui49, ui49, ui49, ui49, ui537], [ur1474, ur1521, ur1522, ur1532, ur1533, ur1534, ur1535, ur1536, ur1530, ur1531, ur1523, ur1635, ur1636, ur2027, ur2196], [uL579, uL786, uL9], [], [uV873], [], [(238, [uL36, uL23, uL104, uL78, uL79, uL131, uL163, uL169, uL65, uL9, uL193])])], [uk2205, uk2197, uk2206], 77615, 3, 63)
set_option maxRecDepth 1000000 in
theorem ck_537 : x_ok mLT1 [cx_530, cx_536, cx_533] mTS2 mTC2 mRUp cx_537 [(2, [0]), (8, [1]), (14, [2])] [(11, uN2229), (17, uN560)] [] (11, []) 77604 14 = true := by decide +kernel
theorem sn_537 {W : Bool} {X : List Int32} : y_Snd (mGw W) mLT1 (J2 W X) X cx_537 := y_ok J2_J mTS2_ok1 mTC2_ok1 mRUp_ok1 (List.forall_mem_cons.mpr ⟨sn_530, List.forall_mem_cons.mpr ⟨sn_536, List.forall_mem_cons.mpr ⟨sn_533, fun _ h => absurd h List.not_mem_nil⟩⟩⟩) ck_537
def cx_538pi_0 (t : List (Int × Int)) : List (Int × Int) := ui0 :: (0, 5) :: (6, 6) :: (0, 1) :: ui49 :: (0, 1) :: ui31 :: (0, 6) :: t
def cx_538pi_1 (t : List (Int × Int)) : List (Int × Int) := (0, 6) :: ui49 :: ui49 :: t
def cx_538p : zS := ((cx_538pi_0 (cx_538pi_1 [])), (cx_516pr_0 (cx_516pr_1 [])), [uL1224], [], [uV2, uV11, uV12], (cx_516pf_0 (cx_516pf_1 [])), [uG2179, uG2181, uG2182, uG2183, uG2184])
def cx_538q0i_0 (t : List (Int × Int)) : List (Int × Int) := ui0 :: (0, 5) :: (6, 6) :: (0, 1) :: ui49 :: (0, 1) :: ui31 :: (0, 6) :: t
def cx_538q0i_1 (t : List (Int × Int)) : List (Int × Int) := (0, 6) :: ui49 :: ui49 :: ui49 :: t
def cx_538q0 : zS := ((cx_538q0i_0 (cx_538q0i_1 [])), (cx_516pr_0 (cx_516pr_1 [])), [uL9, uL2188], [], [uV873], [], [uG2037, uG2184, (238, [uL36, uL78, uL63, uL63, uL63, uL63, uL63, uL63, uL65, uL9, uL193])])
/-- M.house -/
def cx_538 : zCtx := (221, cx_538p, [cx_538q0, ([ui0, (0, 5), (6, 6), (0, 1), ui49, (0, 1), ui31, (0, 6), (0, 6), ui49, ui49], [ur1474, ur1521, ur1522, ur1532, ur1533, ur1534, ur1535, ur1536, ur1530, ur1531, ur1523, ur1635, ur1636, ur2027], [uL2178], [], [uV61], [], [uG2184])], [uk2205, uk2038, uk2039, uk2197, uk2206, uk2040], 77627, 4, 84)
set_option maxRecDepth 1000000 in
theorem ck_538 : x_ok mLT1 [cx_515, cx_518, cx_537] mTS2 mTC2 mRUp cx_538 [(2, [0]), (11, [1]), (124, [2])] [(14, [1000831]), (15, [1000843])] [] (12, []) 77615 15 = true := by decide +kernel
theorem sn_538 {W : Bool} {X : List Int32} : y_Snd (mGw W) mLT1 (J2 W X) X cx_538 := y_ok J2_J mTS2_ok1 mTC2_ok1 mRUp_ok1 (List.forall_mem_cons.mpr ⟨sn_515, List.forall_mem_cons.mpr ⟨sn_518, List.forall_mem_cons.mpr ⟨sn_537, fun _ h => absurd h List.not_mem_nil⟩⟩⟩) ck_538
def cx_539p : zS := ([ui0, ui49, (0, 1), ui31], (cx_532pr_0 (cx_532pr_1 [])), [], [], [uV2, uV384, uV11], (cx_532pf_0 (cx_532pf_1 [])), [uG2209, uG2210])
/-- M.lawTells -/
def cx_539 : zCtx := (231, cx_539p, [([ui0, ui49, (0, 1), ui31, ui1736, ui1736], [ur1474, ur1532, ur1533, ur1534, ur1535, ur1536, ur1521, ur1522, ur1530, ur1531, ur2198, ur2196], [uL1608, uL1607], [], [uV11], [uF2235, uF2236], [uG2237, uG2237]), ([ui0, ui49, (0, 1), ui31, ui49, ui2214, ui1736], [ur1474, ur1532, ur1533, ur1534, ur1535, ur1536, ur1521, ur1522, ur1530, ur1531, ur2198, ur2196], [], [], [uV97], [uF2238, uF2239], [(233, [uL67, uL209, uL9, uL98])]), ([ui0, ui49, (0, 1), ui31, ui1736, ui1736], [ur1474, ur1532, ur1533, ur1534, ur1535, ur1536, ur1521, ur1522, ur1530, ur1531, ur2198, ur2196], [], [], [uV62], [uF2235, uF2236], [(233, [uL67, uL209, uL9, uL63])])], [uk2205, uk2206], 77604, 1, 27)
def cz_539_0f_0 (t : List zFa) : List zFa := uF2238 :: uF2239 :: uF2162 :: uF1760 :: uF1761 :: uF1762 :: uF1763 :: uF1764 :: t
def cz_539_0f_1 (t : List zFa) : List zFa := uF1765 :: uF1766 :: uF1768 :: uF1769 :: uF2207 :: uF2208 :: uF2217 :: t
def cz_539_0 : zS := ([ui0, ui49, (0, 1), ui31, ui1736, ui1736, ui1736, ui49], (cx_532pr_0 (cx_532pr_1 [])), [uL2218], [uV2, uV384, uV11, (0, 0, 3, [(2, 4)]), uV97, uV113, uV113], [], (cz_539_0f_0 (cz_539_0f_1 [])), [uG2209, uG2210, uG2219, (233, [uL67, uL209, uL9, uL79])])
set_option maxRecDepth 1000000 in
theorem ck_539 : x_ok mLT1 [cx_531] mTS2 mTC2 mRUp cx_539 [(75, [0]), (95, [0]), (134, [0])] [(21, [1000655]), (24, [1000656]), (37, uN2220), (50, [12553]), (75, [1000652]), (95, [1000653]), (107, uN2221), (134, [1000654]), (146, uN2222), (150, uN2223), (153, [1000661]), (159, [1000666])] [(39, cz_539_0, (11193, [(4, (-43))]))] (11218, []) 66386 59 = true := by decide +kernel
theorem sn_539 {W : Bool} {X : List Int32} : y_Snd (mGw W) mLT1 (J2 W X) X cx_539 := y_ok J2_J mTS2_ok1 mTC2_ok1 mRUp_ok1 (List.forall_mem_cons.mpr ⟨sn_531, fun _ h => absurd h List.not_mem_nil⟩) ck_539
/-- M.costsOf -/
def cx_540 : zCtx := (235, cx_534p, [([ui0, (0, 5), (0, 1), ui31, (1, 6), ui49, ui49, ui49, ui49, ui49, ui49, ui537], [ur1474, ur1521, ur1522, ur1532, ur1533, ur1534, ur1535, ur1536, ur1530, ur1531, ur1523, ur1635, ur1636, ur2027, ur2196], [uL579, uL786, uL9], [], [uV873], [], [(238, [uL36, uL23, uL104, uL78, uL79, uL131, uL163, uL169, uL209, uL9, uL193])])], [uk2205, uk2197, uk2206], 77618, 3, 63)
set_option maxRecDepth 1000000 in
theorem ck_540 : x_ok mLT1 [cx_530, cx_539, cx_533] mTS2 mTC2 mRUp cx_540 [(2, [0]), (13, [1]), (19, [2])] [(16, [1000856, 1000855, 1000825]), (22, uN560)] [] (14, []) 77604 17 = true := by decide +kernel
theorem sn_540 {W : Bool} {X : List Int32} : y_Snd (mGw W) mLT1 (J2 W X) X cx_540 := y_ok J2_J mTS2_ok1 mTC2_ok1 mRUp_ok1 (List.forall_mem_cons.mpr ⟨sn_530, List.forall_mem_cons.mpr ⟨sn_539, List.forall_mem_cons.mpr ⟨sn_533, fun _ h => absurd h List.not_mem_nil⟩⟩⟩) ck_540
def cx_541pi_0 (t : List (Int × Int)) : List (Int × Int) := ui0 :: (0, 5) :: (7, 7) :: (0, 1) :: ui49 :: (0, 1) :: ui31 :: (0, 6) :: t
def cx_541pi_1 (t : List (Int × Int)) : List (Int × Int) := (0, 6) :: ui49 :: ui49 :: t
def cx_541p : zS := ((cx_541pi_0 (cx_541pi_1 [])), (cx_516pr_0 (cx_516pr_1 [])), [uL1224], [], [uV2, uV11, uV12], (cx_516pf_0 (cx_516pf_1 [])), [uG2179, uG2181, uG2182, uG2183, uG2184])
def cx_541q0i_0 (t : List (Int × Int)) : List (Int × Int) := ui0 :: (0, 5) :: (7, 7) :: (0, 1) :: ui49 :: (0, 1) :: ui31 :: (0, 6) :: t
def cx_541q0i_1 (t : List (Int × Int)) : List (Int × Int) := (0, 6) :: ui49 :: ui49 :: ui49 :: t
def cx_541q0 : zS := ((cx_541q0i_0 (cx_541q0i_1 [])), (cx_516pr_0 (cx_516pr_1 [])), [uL9, uL2188], [], [uV873], [], [uG2037, uG2184, (238, [uL36, uL78, uL63, uL63, uL63, uL63, uL63, uL63, uL209, uL9, uL193])])
/-- M.house -/
def cx_541 : zCtx := (221, cx_541p, [cx_541q0, ([ui0, (0, 5), (7, 7), (0, 1), ui49, (0, 1), ui31, (0, 6), (0, 6), ui49, ui49], [ur1474, ur1521, ur1522, ur1532, ur1533, ur1534, ur1535, ur1536, ur1530, ur1531, ur1523, ur1635, ur1636, ur2027], [uL2178], [], [uV61], [], [uG2184])], [uk2205, uk2038, uk2039, uk2197, uk2206, uk2040], 77630, 4, 84)
set_option maxRecDepth 1000000 in
theorem ck_541 : x_ok mLT1 [cx_515, cx_518, cx_540] mTS2 mTC2 mRUp cx_541 [(2, [0]), (11, [1]), (130, [2])] [(14, [1000831]), (15, [1000843])] [] (12, []) 77618 15 = true := by decide +kernel
theorem sn_541 {W : Bool} {X : List Int32} : y_Snd (mGw W) mLT1 (J2 W X) X cx_541 := y_ok J2_J mTS2_ok1 mTC2_ok1 mRUp_ok1 (List.forall_mem_cons.mpr ⟨sn_515, List.forall_mem_cons.mpr ⟨sn_518, List.forall_mem_cons.mpr ⟨sn_540, fun _ h => absurd h List.not_mem_nil⟩⟩⟩) ck_541
def cx_542pi_0 (t : List (Int × Int)) : List (Int × Int) := ui0 :: (0, 5) :: (8, 8) :: (0, 1) :: ui49 :: (0, 1) :: ui31 :: (0, 6) :: t
def cx_542pi_1 (t : List (Int × Int)) : List (Int × Int) := (0, 6) :: ui49 :: ui49 :: t
def cx_542p : zS := ((cx_542pi_0 (cx_542pi_1 [])), (cx_516pr_0 (cx_516pr_1 [])), [uL1224], [], [uV2, uV11, uV12], (cx_516pf_0 (cx_516pf_1 [])), [uG2179, uG2181, uG2182, uG2183, uG2184])
def cx_542q0i_0 (t : List (Int × Int)) : List (Int × Int) := ui0 :: (0, 5) :: (8, 8) :: (0, 1) :: ui49 :: (0, 1) :: ui31 :: (0, 6) :: t
def cx_542q0i_1 (t : List (Int × Int)) : List (Int × Int) := (0, 6) :: ui49 :: ui49 :: ui49 :: t
def cx_542q0 : zS := ((cx_542q0i_0 (cx_542q0i_1 [])), (cx_516pr_0 (cx_516pr_1 [])), [uL9, uL2188], [], [uV873], [], [uG2037, uG2184, (238, [uL34, uL63, uL63, uL63, uL63, uL63, uL63, uL63, uL541, uL63, uL193])])
/-- M.house -/
def cx_542 : zCtx := (221, cx_542p, [cx_542q0, ([ui0, (0, 5), (8, 8), (0, 1), ui49, (0, 1), ui31, (0, 6), (0, 6), ui49, ui49], [ur1474, ur1521, ur1522, ur1532, ur1533, ur1534, ur1535, ur1536, ur1530, ur1531, ur1523, ur1635, ur1636, ur2027], [uL2178], [], [uV61], [], [uG2184])], [uk2038, uk2039, uk2040], 460, 2, 43)
set_option maxRecDepth 1000000 in
theorem ck_542 : x_ok mLT1 [cx_515, cx_518] mTS2 mTC2 mRUp cx_542 [(2, [0]), (11, [1])] [(14, [1000831]), (143, [1000857])] [] (15, []) 445 18 = true := by decide +kernel
theorem sn_542 {W : Bool} {X : List Int32} : y_Snd (mGw W) mLT1 (J2 W X) X cx_542 := y_ok J2_J mTS2_ok1 mTC2_ok1 mRUp_ok1 (List.forall_mem_cons.mpr ⟨sn_515, List.forall_mem_cons.mpr ⟨sn_518, fun _ h => absurd h List.not_mem_nil⟩⟩) ck_542
/-- M.areTwo -/
def cx_543 : zCtx := (237, ([ui0, ui49, ui49, (0, 1), (0, 6)], [ur1474, ur1523], [], [], [uV2, uV11, uV12], [uF2166, uF1638], [uG2240]), [([ui0, (0, 4), (1, 5), (0, 1), (1, 6)], [ur1474, ur1523], [uL57, uL528, uL579], [], [uV64], [], []), ([ui0, (0, 5), (0, 5), (0, 1), (1, 6)], [ur1474, ur1523], [uL514, uL60, uL528, uL579], [], [uV62], [], []), ([ui0, (1, 5), (0, 4), (0, 1), (1, 6)], [ur1474, ur1523], [uL513, uL528, uL579], [], [uV64], [], []), ([ui0, (0, 5), ui512, (0, 1), (1, 6)], [ur1474, ur1523], [uL612, uL579], [], [uV62], [], []), ([ui0, (0, 5), ui260, (0, 1), (1, 6)], [ur1474, ur1523], [uL528, uL579], [], [uV62], [], []), ([ui0, ui517, ui49, (0, 1), (0, 6)], [ur1474, ur1523], [uL585], [], [uV62], [], []), ([ui0, ui260, ui49, (0, 1), (0, 6)], [ur1474, ur1523], [uL579], [], [uV62], [], [])], [], 34, 2, 43)
set_option maxRecDepth 1000000 in
theorem ck_543 : x_ok mLT1 [cx_515] mTS2 mTC2 mRUp cx_543 [(2, [0]), (10, [0])] [(16, [1000461])] [] (14, []) 20 17 = true := by decide +kernel
theorem sn_543 {W : Bool} {X : List Int32} : y_Snd (mGw W) mLT1 (J2 W X) X cx_543 := y_ok J2_J mTS2_ok1 mTC2_ok1 mRUp_ok1 (List.forall_mem_cons.mpr ⟨sn_515, fun _ h => absurd h List.not_mem_nil⟩) ck_543
/-- M.likeOf -/
def cx_544 : zCtx := (238, ([ui0, (0, 5), (0, 5), (0, 1)], [ur1474, ur1525], [], [], [uV2, uV11, uV12], [uF2166, (0, (false, 26, 0, []), 2, 1, 0, [])], []), [([ui0, (0, 5), (0, 5), (0, 1), ui194], [ur1474, ur1525], [], [], [uV97], [], [(84, [uL2241, uL98])])], [], 14, 0, 0)
set_option maxRecDepth 1000000 in
theorem ck_544 : x_ok mLT1 [] mTS2 mTC2 mRUp cx_544 [] [(19, [1000465])] [] (14, []) 0 17 = true := by decide +kernel
theorem sn_544 {W : Bool} {X : List Int32} : y_Snd (mGw W) mLT1 (J2 W X) X cx_544 := y_ok J2_J mTS2_ok1 mTC2_ok1 mRUp_ok1 (fun _ h => absurd h List.not_mem_nil) ck_544
/-- M.likes -/
def cx_545 : zCtx := (236, ([ui0, ui49, ui49, (0, 1), (0, 6)], [ur1474, ur1523, ur1525], [], [], [uV2, uV11, uV12], [uF2166, uF1638, (0, (false, 26, 0, []), 2, 2, 0, [])], [uG2240]), [([ui0, ui260, ui49, (0, 1), (0, 6)], [ur1474, ur1523, ur1525], [uL579], [], [uV61], [], []), ([ui0, ui517, ui49, (0, 1), (0, 6)], [ur1474, ur1523, ur1525], [uL585], [], [uV61], [], []), ([ui0, (0, 5), ui260, (0, 1), (1, 6)], [ur1474, ur1523, ur1525], [uL579, uL528], [], [uV61], [], []), ([ui0, (0, 5), ui512, (0, 1), (1, 6)], [ur1474, ur1523, ur1525], [uL579, uL612], [], [uV61], [], []), ([ui0, ui49, ui49, (0, 1), (0, 6), ui194], [ur1474, ur1523, ur1525], [uL579, uL528, uL513, uL9, uL67], [], [uV75], [], [uG2242]), ([ui0, (0, 5), (0, 5), (0, 1), (1, 6)], [ur1474, ur1523, ur1525], [uL579, uL528, uL60, uL514], [], [uV61], [], []), ([ui0, ui49, ui49, (0, 1), (0, 6), ui194], [ur1474, ur1523, ur1525], [uL579, uL528, uL57, uL9, uL67], [], [uV75], [], [uG2242])], [], 45, 3, 65)
set_option maxRecDepth 1000000 in
theorem ck_545 : x_ok mLT1 [cx_543, cx_544] mTS2 mTC2 mRUp cx_545 [(3, [0]), (12, [1])] [] [] (11, []) 34 14 = true := by decide +kernel
theorem sn_545 {W : Bool} {X : List Int32} : y_Snd (mGw W) mLT1 (J2 W X) X cx_545 := y_ok J2_J mTS2_ok1 mTC2_ok1 mRUp_ok1 (List.forall_mem_cons.mpr ⟨sn_543, List.forall_mem_cons.mpr ⟨sn_544, fun _ h => absurd h List.not_mem_nil⟩⟩) ck_545
def cx_546p : zS := ([ui0, ui2243, (0, 1), ui31], (cx_532pr_0 (cx_532pr_1 [])), [], [], [uV2, uV388, uV11], (cx_532pf_0 (cx_532pf_1 [])), [uG2209, uG2210])
/-- M.lawTells -/
def cx_546 : zCtx := (231, cx_546p, [([ui0, ui2243, (0, 1), ui31, ui1736, ui1736], [ur1474, ur1532, ur1533, ur1534, ur1535, ur1536, ur1521, ur1522, ur1530, ur1531, ur2198, ur2196], [uL1608, uL1607], [], [uV11], [uF2244, uF2245], [uG2246, uG2246]), ([ui0, ui2243, (0, 1), ui31, ui49, ui2214, ui1736], [ur1474, ur1532, ur1533, ur1534, ur1535, ur1536, ur1521, ur1522, ur1530, ur1531, ur2198, ur2196], [], [], [uV97], [uF2247, uF2248], [(233, [uL67, uL114, uL9, uL98])]), ([ui0, ui2243, (0, 1), ui31, ui1736, ui1736], [ur1474, ur1532, ur1533, ur1534, ur1535, ur1536, ur1521, ur1522, ur1530, ur1531, ur2198, ur2196], [], [], [uV62], [uF2244, uF2245], [(233, [uL67, uL114, uL9, uL63])])], [uk2205, uk2206], 77604, 1, 27)
def cz_546_0f_0 (t : List zFa) : List zFa := uF2247 :: uF2248 :: uF2162 :: uF1760 :: uF1761 :: uF1762 :: uF1763 :: uF1764 :: t
def cz_546_0f_1 (t : List zFa) : List zFa := uF1765 :: uF1766 :: uF1768 :: uF1769 :: uF2207 :: uF2208 :: uF2217 :: t
def cz_546_0 : zS := ([ui0, ui2243, (0, 1), ui31, ui1736, ui1736, ui1736, ui49], (cx_532pr_0 (cx_532pr_1 [])), [uL2218], [uV2, uV388, uV11, (0, 0, 2, [(2, 4)]), uV97, uV113, uV113], [], (cz_546_0f_0 (cz_546_0f_1 [])), [uG2209, uG2210, uG2219, (233, [uL67, uL114, uL9, uL79])])
set_option maxRecDepth 1000000 in
theorem ck_546 : x_ok mLT1 [cx_531] mTS2 mTC2 mRUp cx_546 [(75, [0]), (95, [0]), (134, [0])] [(21, [1000655]), (24, [1000656]), (37, uN2220), (50, [12553]), (75, [1000652]), (95, [1000653]), (107, uN2221), (134, [1000654]), (146, uN2222), (150, uN2223), (153, [1000661]), (159, [1000666])] [(39, cz_546_0, (11193, [(4, (-43))]))] (11218, []) 66386 59 = true := by decide +kernel
theorem sn_546 {W : Bool} {X : List Int32} : y_Snd (mGw W) mLT1 (J2 W X) X cx_546 := y_ok J2_J mTS2_ok1 mTC2_ok1 mRUp_ok1 (List.forall_mem_cons.mpr ⟨sn_531, fun _ h => absurd h List.not_mem_nil⟩) ck_546
def cx_547pi_0 (t : List (Int × Int)) : List (Int × Int) := ui0 :: (0, 5) :: (0, 5) :: ui194 :: (0, 1) :: ui31 :: (0, 6) :: ui49 :: t
def cx_547pi_1 (t : List (Int × Int)) : List (Int × Int) := ui49 :: ui49 :: ui49 :: ui49 :: ui49 :: t
def cx_547pf_0 (t : List zFa) : List zFa := uF2249 :: uF1537 :: uF1538 :: uF2169 :: uF2170 :: uF2171 :: uF2172 :: uF2173 :: t
def cx_547pf_1 (t : List zFa) : List zFa := uF1768 :: uF1769 :: uF2174 :: uF2175 :: uF2176 :: uF2177 :: uF2225 :: t
def cx_547p : zS := ((cx_547pi_0 (cx_547pi_1 [])), (cx_534pr_0 (cx_534pr_1 [])), [uL2250, uL9, uL1392, uL67, uL2251], [], [uV2, uV11, uV12, uV58], (cx_547pf_0 (cx_547pf_1 [])), [uG2252, uG2253, (85, [uL98, uL78, uL1811]), (200, [uL98, uL1811, uL65, uL78]), (237, [uL78, uL104, uL79, uL131, uL163, uL169, uL193, uL212]), uG590])
def cx_547q0i_0 (t : List (Int × Int)) : List (Int × Int) := ui0 :: (0, 5) :: (0, 5) :: ui194 :: (0, 1) :: ui31 :: (1, 6) :: ui49 :: t
def cx_547q0i_1 (t : List (Int × Int)) : List (Int × Int) := ui49 :: ui49 :: ui49 :: ui49 :: ui49 :: ui600 :: t
def cx_547q0 : zS := ((cx_547q0i_0 (cx_547q0i_1 [])), (cx_534pr_0 (cx_534pr_1 [])), [uL2251, uL1392, uL2250, uL9, uL67], [], [uV408], [], [(238, [uL244, uL104, uL79, uL131, uL163, uL169, uL193, uL212, uL9, uL67, uL205])])
/-- M.joinsBy -/
def cx_547 : zCtx := (241, cx_547p, [cx_547q0], [uk2205, uk2197, uk2206], 77629, 3, 63)
set_option maxRecDepth 1000000 in
theorem ck_547 : x_ok mLT1 [cx_530, cx_529, cx_546, cx_533] mTS2 mTC2 mRUp cx_547 [(2, [0]), (20, [1]), (30, [2]), (37, [3])] [(33, [1000864, 1000865, 1000859]), (40, uN604)] [] (25, []) 77604 28 = true := by decide +kernel
theorem sn_547 {W : Bool} {X : List Int32} : y_Snd (mGw W) mLT1 (J2 W X) X cx_547 := y_ok J2_J mTS2_ok1 mTC2_ok1 mRUp_ok1 (List.forall_mem_cons.mpr ⟨sn_530, List.forall_mem_cons.mpr ⟨sn_529, List.forall_mem_cons.mpr ⟨sn_546, List.forall_mem_cons.mpr ⟨sn_533, fun _ h => absurd h List.not_mem_nil⟩⟩⟩⟩) ck_547
def cx_548pi_0 (t : List (Int × Int)) : List (Int × Int) := ui0 :: (0, 5) :: (0, 5) :: (0, 1) :: ui31 :: (0, 6) :: ui49 :: ui49 :: t
def cx_548pi_1 (t : List (Int × Int)) : List (Int × Int) := ui49 :: ui49 :: ui49 :: ui49 :: t
def cx_548pr_0 (t : List (Nat × Bool)) : List (Nat × Bool) := ur1474 :: ur1521 :: ur1522 :: ur1532 :: ur1533 :: ur1534 :: ur1535 :: ur1536 :: t
def cx_548pr_1 (t : List (Nat × Bool)) : List (Nat × Bool) := ur1530 :: ur1531 :: ur1523 :: ur1635 :: ur1636 :: ur1525 :: ur2027 :: t
def cx_548pf_0 (t : List zFa) : List zFa := uF2166 :: uF1537 :: uF1538 :: uF2169 :: uF2170 :: uF2171 :: uF2172 :: uF2173 :: t
def cx_548pf_1 (t : List zFa) : List zFa := uF1768 :: uF1769 :: uF2174 :: uF2175 :: uF2176 :: uF2062 :: uF2254 :: t
def cx_548p : zS := ((cx_548pi_0 (cx_548pi_1 [])), (cx_548pr_0 (cx_548pr_1 [])), [uL592, uL9, uL593, uL67, uL594], [], [uV2, uV11, uV12], (cx_548pf_0 (cx_548pf_1 [])), [uG2179, uG2255, (85, [uL23, uL104, uL2180]), (200, [uL23, uL2180, uL65, uL104]), uG2256, (237, [uL104, uL98, uL78, uL79, uL131, uL163, uL169, uL193])])
def cx_548q0i_0 (t : List (Int × Int)) : List (Int × Int) := ui0 :: (0, 5) :: (0, 5) :: (0, 1) :: ui31 :: (1, 6) :: ui49 :: ui49 :: t
def cx_548q0i_1 (t : List (Int × Int)) : List (Int × Int) := ui49 :: ui49 :: ui49 :: ui49 :: ui600 :: t
def cx_548q0 : zS := ((cx_548q0i_0 (cx_548q0i_1 [])), (cx_548pr_0 (cx_548pr_1 [])), [uL593, uL594, uL592, uL9, uL67], [], [uV196], [], [(238, [uL244, uL98, uL78, uL79, uL131, uL163, uL169, uL193, uL9, uL67, uL212])])
/-- M.joinsOf -/
def cx_548 : zCtx := (240, cx_548p, [cx_548q0], [uk2205, uk2197, uk2206], 77638, 4, 86)
set_option maxRecDepth 1000000 in
theorem ck_548 : x_ok mLT1 [cx_544, cx_547] mTS2 mTC2 mRUp cx_548 [(6, [0]), (9, [1])] [(9, [1000863])] [] (9, []) 77629 12 = true := by decide +kernel
theorem sn_548 {W : Bool} {X : List Int32} : y_Snd (mGw W) mLT1 (J2 W X) X cx_548 := y_ok J2_J mTS2_ok1 mTC2_ok1 mRUp_ok1 (List.forall_mem_cons.mpr ⟨sn_544, List.forall_mem_cons.mpr ⟨sn_547, fun _ h => absurd h List.not_mem_nil⟩⟩) ck_548
def cx_549pf_0 (t : List zFa) : List zFa := uF2166 :: uF2167 :: uF2168 :: uF1537 :: uF1538 :: uF2169 :: uF2170 :: uF2171 :: t
def cx_549pf_1 (t : List zFa) : List zFa := uF2172 :: uF2173 :: uF1768 :: uF1769 :: uF2174 :: uF2175 :: uF2176 :: uF2062 :: t
def cx_549pf_2 (t : List zFa) : List zFa := uF2254 :: t
def cx_549p : zS := ((cx_516pi_0 (cx_516pi_1 [])), (cx_548pr_0 (cx_548pr_1 [])), [uL1224], [], [uV2, uV11, uV12], (cx_549pf_0 (cx_549pf_1 (cx_549pf_2 []))), [uG2179, uG2181, uG2182, uG2183, uG2256, uG2184])
def cx_549q4i_0 (t : List (Int × Int)) : List (Int × Int) := ui0 :: ui49 :: ui49 :: (0, 1) :: ui49 :: (0, 1) :: ui31 :: (0, 6) :: t
def cx_549q4i_1 (t : List (Int × Int)) : List (Int × Int) := (0, 6) :: ui49 :: ui49 :: ui600 :: t
def cx_549q4 : zS := ((cx_549q4i_0 (cx_549q4i_1 [])), (cx_548pr_0 (cx_548pr_1 [])), [uL9, uL2188, uL67, uL2257, uL513], [], [uV873], [], [uG2258, uG2184])
def cx_549q5 : zS := ((cx_516pi_0 (cx_516pi_1 [])), (cx_548pr_0 (cx_548pr_1 [])), [uL9, uL2188, uL67, uL2257, uL60, uL514], [], [uV61], [], [uG2184])
def cx_549q6 : zS := ((cx_549q4i_0 (cx_549q4i_1 [])), (cx_548pr_0 (cx_548pr_1 [])), [uL9, uL2188, uL67, uL2257, uL57], [], [uV873], [], [uG2258, uG2184])
/-- M.joins -/
def cx_549 : zCtx := (239, cx_549p, [([ui0, ui49, ui49, (0, 1), ui49, (0, 1), ui31, (0, 6), (0, 6), ui49, ui49], [ur1474, ur1521, ur1522, ur1532, ur1533, ur1534, ur1535, ur1536, ur1530, ur1531, ur1523, ur1635, ur1636, ur1525, ur2027], [uL584], [], [uV61], [], [uG2184]), ([ui0, ui49, ui49, (0, 1), ui49, (0, 1), ui31, (0, 6), (0, 6), ui49, ui49], [ur1474, ur1521, ur1522, ur1532, ur1533, ur1534, ur1535, ur1536, ur1530, ur1531, ur1523, ur1635, ur1636, ur1525, ur2027], [uL2178], [], [uV61], [], [uG2184]), ([ui0, ui49, ui49, (0, 1), ui49, (0, 1), ui31, (0, 6), (0, 6), ui49, ui49], [ur1474, ur1521, ur1522, ur1532, ur1533, ur1534, ur1535, ur1536, ur1530, ur1531, ur1523, ur1635, ur1636, ur1525, ur2027], [uL613], [], [uV61], [], [uG2184]), ([ui0, ui49, ui49, (0, 1), ui49, (0, 1), ui31, (0, 6), (0, 6), ui49, ui49], [ur1474, ur1521, ur1522, ur1532, ur1533, ur1534, ur1535, ur1536, ur1530, ur1531, ur1523, ur1635, ur1636, ur1525, ur2027], [(0, [(2, 1), (7, (-1))])], [], [uV61], [], [uG2184]), cx_549q4, cx_549q5, cx_549q6], [uk2205, uk2038, uk2039, uk2197, uk2206, uk2040], 77650, 5, 108)
set_option maxRecDepth 1000000 in
theorem ck_549 : x_ok mLT1 [cx_543, cx_518, cx_548] mTS2 mTC2 mRUp cx_549 [(3, [0]), (12, [1]), (18, [2])] [(15, uN2259)] [] (12, []) 77638 15 = true := by decide +kernel
theorem sn_549 {W : Bool} {X : List Int32} : y_Snd (mGw W) mLT1 (J2 W X) X cx_549 := y_ok J2_J mTS2_ok1 mTC2_ok1 mRUp_ok1 (List.forall_mem_cons.mpr ⟨sn_543, List.forall_mem_cons.mpr ⟨sn_518, List.forall_mem_cons.mpr ⟨sn_548, fun _ h => absurd h List.not_mem_nil⟩⟩⟩) ck_549
/-- M.at -/
def cx_550 : zCtx := (242, ([ui0, ui517, (0, 1), (0, 6), (0, 6), ui49, ui49], [ur1474, ur1523, ur2047], [uL518, uL585], [], [uV2, uV11], [uF2162, uF1638, uF2185], [uG2164, uG620]), [([ui0, ui517, (0, 1), (0, 6), (0, 6), ui49, ui49], [ur1474, ur1523, ur2047], [], [], [uV61], [], [uG620])], [], 21, 1, 22)
set_option maxRecDepth 1000000 in
theorem ck_550 : x_ok mLT1 [cx_514] mTS2 mTC2 mRUp cx_550 [(11, [0])] [(9, [1000866]), (17, [1000868]), (29, [1000867])] [] (12, []) 9 15 = true := by decide +kernel
theorem sn_550 {W : Bool} {X : List Int32} : y_Snd (mGw W) mLT1 (J2 W X) X cx_550 := y_ok J2_J mTS2_ok1 mTC2_ok1 mRUp_ok1 (List.forall_mem_cons.mpr ⟨sn_514, fun _ h => absurd h List.not_mem_nil⟩) ck_550
/-- M.at -/
def cx_551 : zCtx := (242, ([ui0, (0, 5), (0, 1), (0, 6), (0, 6), ui49, ui49, (0, 5)], [ur1474, ur1523, ur2047], [uL518, uL9, uL579], [], [uV2, uV11], [uF2162, uF1638, uF2185], [uG2164, uG620, uG621]), [([ui0, (0, 5), (0, 1), (0, 6), (0, 6), ui49, ui49, (0, 5)], [ur1474, ur1523, ur2047], [], [], [uV142], [], [uG620])], [], 27, 1, 22)
set_option maxRecDepth 1000000 in
theorem ck_551 : x_ok mLT1 [cx_514] mTS2 mTC2 mRUp cx_551 [(11, [0])] [(9, [1000866]), (17, [1000868]), (26, [1000869, 1000870]), (29, [1000867])] [] (18, []) 9 21 = true := by decide +kernel
theorem sn_551 {W : Bool} {X : List Int32} : y_Snd (mGw W) mLT1 (J2 W X) X cx_551 := y_ok J2_J mTS2_ok1 mTC2_ok1 mRUp_ok1 (List.forall_mem_cons.mpr ⟨sn_514, fun _ h => absurd h List.not_mem_nil⟩) ck_551
/-- M.at -/
def cx_552 : zCtx := (242, ([ui0, ui260, (0, 1), (0, 6), (0, 6), ui49, ui49], [ur1474, ur1523, ur2047], [uL518, uL584], [], [uV2, uV11], [uF2162, uF1638, uF2185], [uG2164, uG620]), [([ui0, ui260, (0, 1), (0, 6), (0, 6), ui49, ui49], [ur1474, ur1523, ur2047], [], [], [uV61], [], [uG620])], [], 21, 1, 22)
set_option maxRecDepth 1000000 in
theorem ck_552 : x_ok mLT1 [cx_514] mTS2 mTC2 mRUp cx_552 [(11, [0])] [(9, [1000866]), (29, [1000867])] [] (12, []) 9 15 = true := by decide +kernel
theorem sn_552 {W : Bool} {X : List Int32} : y_Snd (mGw W) mLT1 (J2 W X) X cx_552 := y_ok J2_J mTS2_ok1 mTC2_ok1 mRUp_ok1 (List.forall_mem_cons.mpr ⟨sn_514, fun _ h => absurd h List.not_mem_nil⟩) ck_552
/-- M.copies -/
def cx_553 : zCtx := (224, ([ui0, (0, 1), ui49, (0, 1), ui194], [ur1474, ur2027, ur2047, ur1529], [], [], [uV2], [uF2028, uF2029, uF2030, uF2031, uF2185, uF2186, uF2033], [uG2042]), [([ui0, (0, 1), ui49, (0, 1), ui194, (0, 6)], [ur1474, ur2027, ur2047, ur1529], [], [], [], [uF2034, uF2167, uF2187], [uG2041, uG2036, uG2037, uG2041])], [uk2038, uk2039, uk2040], 445, 0, 0)
def cq_553 : List zCtx := []
def cs_553 : List (Nat × List Nat) := []
def hs_553 : List (Nat × List Nat) := [(0, [81]), (26, [82, 1000698])]
def ns_553 : List zN := []
set_option maxRecDepth 1000000 in
theorem ca_553 : x_okA mLT1 cq_553 mTS2 mTC2 mRUp cx_553 cs_553 hs_553 ns_553 (445, []) 0 448 = true := by decide +kernel
set_option maxRecDepth 1000000 in
theorem cc_553 : x_okC mLT1 cq_553 mTS2 mTC2 mRUp cx_553 cs_553 hs_553 ns_553 (445, []) 0 448 = true := by decide +kernel
theorem ck_553 : x_ok mLT1 cq_553 mTS2 mTC2 mRUp cx_553 cs_553 hs_553 ns_553 (445, []) 0 448 = true := x_ok_of ca_553 (fun _ h => absurd h List.not_mem_nil) cc_553
theorem sn_553 {W : Bool} {X : List Int32} : y_Snd (mGw W) mLT1 (J2 W X) X cx_553 := y_ok J2_J mTS2_ok1 mTC2_ok1 mRUp_ok1 (fun _ h => absurd h List.not_mem_nil) ck_553
end
