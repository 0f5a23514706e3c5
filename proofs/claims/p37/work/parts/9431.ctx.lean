noncomputable section
/-! ===== readings, by program, checked by the kernel ===== -/
/-- M.hold -/
def cx_723 : zCtx := (308, ([ui0, (0, 1), (0, 1), (0, 1), (0, 6), (0, 1), (0, 1), (0, 1)], [ur1299, ur1877, ur1878, ur2361], [], [], [uV2, uV66], [uF2362, uF2368, uF2369, uF2370, uF2018, uF2366], [uG1873, uG2367, uG2375, (248, [uL214, uL100])]), [([ui0, (0, 1), (0, 1), (0, 1), (0, 6), (0, 1), (0, 1), (0, 1)], [ur1299, ur1877, ur1878, ur2361], [], [], [uV66], [(1, (true, 0, 1, []), 0, 0, 1, []), uF2368, uF2370], [uG2376, uG2367, (13, [uL67]), uG2375, uG2376])], [uk2373, uk2374], 587, 1, 22)
def cq_723 : List zCtx := [cx_497]
def cs_723 : List (Nat × List Nat) := [(3, [0])]
def hs_723 : List (Nat × List Nat) := [(11, [977]), (49, [210, 1000707, 1000708, 1000709])]
def ns_723 : List zN := []
set_option maxRecDepth 1000000 in
theorem ca_723 : x_okA mLT1 cq_723 mTS2 mTC2 mRUp cx_723 cs_723 hs_723 ns_723 (578, []) 9 581 = true := by decide +kernel
set_option maxRecDepth 1000000 in
theorem cc_723 : x_okC mLT1 cq_723 mTS2 mTC2 mRUp cx_723 cs_723 hs_723 ns_723 (578, []) 9 581 = true := by decide +kernel
theorem ck_723 : x_ok mLT1 cq_723 mTS2 mTC2 mRUp cx_723 cs_723 hs_723 ns_723 (578, []) 9 581 = true := x_ok_of ca_723 (fun _ h => absurd h List.not_mem_nil) cc_723
theorem sn_723 {W : Bool} {X : List Int32} : y_Snd (mGw W) mLT1 (J2 W X) X cx_723 := y_ok J2_J mTS2_ok1 mTC2_ok1 mRUp_ok1 (List.forall_mem_cons.mpr ⟨sn_497, fun _ h => absurd h List.not_mem_nil⟩) ck_723
/-- M.hold -/
def cx_724 : zCtx := (308, ([ui0, (0, 1), (0, 1), (0, 1), (0, 6), (0, 1), (0, 1), (0, 1)], [ur1299, ur1877, ur1878, ur2361], [], [], [uV2, uV391], [uF2362, uF2368, uF2369, uF2370, uF2018, uF2366], [uG1873, uG2367, uG2377, (248, [uL36, uL100])]), [([ui0, (0, 1), (0, 1), (0, 1), (0, 6), (0, 1), (0, 1), (0, 1)], [ur1299, ur1877, ur1878, ur2361], [], [], [uV66], [(1, (true, 0, 2, []), 0, 0, 1, []), uF2368, uF2369], [uG2378, uG2367, (13, [uL116]), uG2377, uG2378])], [uk2373, uk2374], 587, 1, 22)
def cq_724 : List zCtx := [cx_497]
def cs_724 : List (Nat × List Nat) := [(3, [0])]
def hs_724 : List (Nat × List Nat) := [(11, [977]), (49, [210, 1000707, 1000708, 1000709])]
def ns_724 : List zN := []
set_option maxRecDepth 1000000 in
theorem ca_724 : x_okA mLT1 cq_724 mTS2 mTC2 mRUp cx_724 cs_724 hs_724 ns_724 (578, []) 9 581 = true := by decide +kernel
set_option maxRecDepth 1000000 in
theorem cc_724 : x_okC mLT1 cq_724 mTS2 mTC2 mRUp cx_724 cs_724 hs_724 ns_724 (578, []) 9 581 = true := by decide +kernel
theorem ck_724 : x_ok mLT1 cq_724 mTS2 mTC2 mRUp cx_724 cs_724 hs_724 ns_724 (578, []) 9 581 = true := x_ok_of ca_724 (fun _ h => absurd h List.not_mem_nil) cc_724
theorem sn_724 {W : Bool} {X : List Int32} : y_Snd (mGw W) mLT1 (J2 W X) X cx_724 := y_ok J2_J mTS2_ok1 mTC2_ok1 mRUp_ok1 (List.forall_mem_cons.mpr ⟨sn_497, fun _ h => absurd h List.not_mem_nil⟩) ck_724
end
