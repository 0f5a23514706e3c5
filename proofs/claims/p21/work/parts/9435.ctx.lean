noncomputable section
/-! ===== readings, by program, checked by the kernel ===== -/
/-- M.restore -/
def cx_744 : zCtx := (309, ([ui0, ui439, (0, 1), (0, 1), (0, 1), (0, 6), (0, 6), ui49, ui49], [ur1331, ur1904, ur1905, ur2380], [], [], [uV2, uV64], [uF2132, uF2381, uF2382, uF2383, uF2384, uF2043, uF2385], [uG1900, uG2386, (249, [uL104, uL78, uL79, uL131, uL65])]), [([ui0, ui439, (0, 1), (0, 0), (0, 1), (0, 6), (0, 6), ui49, ui49], [ur1331, ur1904, ur1905, ur2380], [], [], [uV62], [uF2132, uF2382, uF2383, uF2384], [uG1900]), ([ui0, ui439, (0, 1), (1, 1), (0, 1), (0, 6), (0, 6), ui49, ui49], [ur1331, ur1904, ur1905, ur2380], [], [], [uV64], [uF1980, uF2382, uF2383, uF2384], [uG468, uG1900, uG1901, uG468])], [uk2135, uk1902], 590, 1, 22)
def cq_744 : List zCtx := [cx_504]
def cs_744 : List (Nat × List Nat) := [(3, [0])]
def hs_744 : List (Nat × List Nat) := [(20, [17]), (51, [3858, 1000710, 1000711, 1000712])]
def ns_744 : List zN := []
set_option maxRecDepth 1000000 in
theorem ca_744 : x_okA mLT1 cq_744 mTS2 mTC2 mRUp cx_744 cs_744 hs_744 ns_744 (581, []) 9 584 = true := by decide +kernel
set_option maxRecDepth 1000000 in
theorem cc_744 : x_okC mLT1 cq_744 mTS2 mTC2 mRUp cx_744 cs_744 hs_744 ns_744 (581, []) 9 584 = true := by decide +kernel
theorem ck_744 : x_ok mLT1 cq_744 mTS2 mTC2 mRUp cx_744 cs_744 hs_744 ns_744 (581, []) 9 584 = true := x_ok_of ca_744 (fun _ h => absurd h List.not_mem_nil) cc_744
theorem sn_744 {W : Bool} {X : List Int32} : y_Snd (mGw W) mLT1 (J2 W X) X cx_744 := y_ok J2_J mTS2_ok1 mTC2_ok1 mRUp_ok1 (List.forall_mem_cons.mpr ⟨sn_504, fun _ h => absurd h List.not_mem_nil⟩) ck_744
/-- M.restore -/
def cx_745 : zCtx := (309, ([ui0, ui439, (0, 1), (0, 1), (0, 1), (0, 6), (0, 6), ui49, ui49], [ur1331, ur1904, ur1905, ur2380], [], [], [uV2, uV389], [uF2132, uF2381, uF2382, uF2383, uF2384, uF2043, uF2385], [uG1900, uG2386, (249, [uL104, uL78, uL79, uL131, uL114])]), [([ui0, ui439, (0, 1), (0, 1), (0, 0), (0, 6), (0, 6), ui49, ui49], [ur1331, ur1904, ur1905, ur2380], [], [], [uV62], [uF2132, uF2382, uF2383, uF2384], [uG1900]), ([ui0, ui439, (0, 1), (0, 1), (1, 1), (0, 6), (0, 6), ui49, ui49], [ur1331, ur1904, ur1905, ur2380], [], [], [uV64], [uF1980, uF2382, uF2383, uF2384], [uG468, uG1900, uG1901, uG468])], [uk2135, uk1902], 590, 1, 22)
def cq_745 : List zCtx := [cx_504]
def cs_745 : List (Nat × List Nat) := [(3, [0])]
def hs_745 : List (Nat × List Nat) := [(20, [17]), (51, [3858, 1000710, 1000711, 1000712])]
def ns_745 : List zN := []
set_option maxRecDepth 1000000 in
theorem ca_745 : x_okA mLT1 cq_745 mTS2 mTC2 mRUp cx_745 cs_745 hs_745 ns_745 (581, []) 9 584 = true := by decide +kernel
set_option maxRecDepth 1000000 in
theorem cc_745 : x_okC mLT1 cq_745 mTS2 mTC2 mRUp cx_745 cs_745 hs_745 ns_745 (581, []) 9 584 = true := by decide +kernel
theorem ck_745 : x_ok mLT1 cq_745 mTS2 mTC2 mRUp cx_745 cs_745 hs_745 ns_745 (581, []) 9 584 = true := x_ok_of ca_745 (fun _ h => absurd h List.not_mem_nil) cc_745
theorem sn_745 {W : Bool} {X : List Int32} : y_Snd (mGw W) mLT1 (J2 W X) X cx_745 := y_ok J2_J mTS2_ok1 mTC2_ok1 mRUp_ok1 (List.forall_mem_cons.mpr ⟨sn_504, fun _ h => absurd h List.not_mem_nil⟩) ck_745
end
