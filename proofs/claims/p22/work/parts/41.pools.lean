/-! ===== what is decided of the tables, by program: the pools, the classes ===== -/
set_option maxRecDepth 100000 in
theorem mpo_0_0 : mCP0_0.all (mEntOK 0) = true := by decide +kernel
set_option maxRecDepth 100000 in
theorem mpo_0_1 : mCP0_1.all (mEntOK 0) = true := by decide +kernel
theorem mpo_0 : mPoolOK 0 = true := by
  show mCP0.all (mEntOK 0) = true
  unfold mCP0
  simp only [List.all_append, mpo_0_0, mpo_0_1, Bool.and_self]
set_option maxRecDepth 100000 in
theorem mpo_1_0 : mCP1_0.all (mEntOK 1) = true := by decide +kernel
set_option maxRecDepth 100000 in
theorem mpo_1_1 : mCP1_1.all (mEntOK 1) = true := by decide +kernel
theorem mpo_1 : mPoolOK 1 = true := by
  show mCP1.all (mEntOK 1) = true
  unfold mCP1
  simp only [List.all_append, mpo_1_0, mpo_1_1, Bool.and_self]
set_option maxRecDepth 100000 in
theorem mpo_2_0 : mCP2_0.all (mEntOK 2) = true := by decide +kernel
set_option maxRecDepth 100000 in
theorem mpo_2_1 : mCP2_1.all (mEntOK 2) = true := by decide +kernel
theorem mpo_2 : mPoolOK 2 = true := by
  show mCP2.all (mEntOK 2) = true
  unfold mCP2
  simp only [List.all_append, mpo_2_0, mpo_2_1, Bool.and_self]
set_option maxRecDepth 100000 in
theorem mpo_3_0 : mCP3_0.all (mEntOK 3) = true := by decide +kernel
theorem mpo_3 : mPoolOK 3 = true := by
  show mCP3.all (mEntOK 3) = true
  unfold mCP3
  simp only [List.all_append, mpo_3_0, Bool.and_self]
set_option maxRecDepth 100000 in
theorem mpo_4_0 : mCP4_0.all (mEntOK 4) = true := by decide +kernel
theorem mpo_4 : mPoolOK 4 = true := by
  show mCP4.all (mEntOK 4) = true
  unfold mCP4
  simp only [List.all_append, mpo_4_0, Bool.and_self]
set_option maxRecDepth 100000 in
theorem mpo_5_0 : mCP5_0.all (mEntOK 5) = true := by decide +kernel
set_option maxRecDepth 100000 in
theorem mpo_5_1 : mCP5_1.all (mEntOK 5) = true := by decide +kernel
set_option maxRecDepth 100000 in
theorem mpo_5_2 : mCP5_2.all (mEntOK 5) = true := by decide +kernel
theorem mpo_5 : mPoolOK 5 = true := by
  show mCP5.all (mEntOK 5) = true
  unfold mCP5
  simp only [List.all_append, mpo_5_0, mpo_5_1, mpo_5_2, Bool.and_self]
set_option maxRecDepth 100000 in
theorem mpo_6_0 : mCP6_0.all (mEntOK 6) = true := by decide +kernel
set_option maxRecDepth 100000 in
theorem mpo_6_1 : mCP6_1.all (mEntOK 6) = true := by decide +kernel
set_option maxRecDepth 100000 in
theorem mpo_6_2 : mCP6_2.all (mEntOK 6) = true := by decide +kernel
theorem mpo_6 : mPoolOK 6 = true := by
  show mCP6.all (mEntOK 6) = true
  unfold mCP6
  simp only [List.all_append, mpo_6_0, mpo_6_1, mpo_6_2, Bool.and_self]
set_option maxRecDepth 100000 in
theorem mpo_7_0 : mCP7_0.all (mEntOK 7) = true := by decide +kernel
set_option maxRecDepth 100000 in
theorem mpo_7_1 : mCP7_1.all (mEntOK 7) = true := by decide +kernel
theorem mpo_7 : mPoolOK 7 = true := by
  show mCP7.all (mEntOK 7) = true
  unfold mCP7
  simp only [List.all_append, mpo_7_0, mpo_7_1, Bool.and_self]
set_option maxRecDepth 100000 in
theorem mpo_8_0 : mCP8_0.all (mEntOK 8) = true := by decide +kernel
set_option maxRecDepth 100000 in
theorem mpo_8_1 : mCP8_1.all (mEntOK 8) = true := by decide +kernel
theorem mpo_8 : mPoolOK 8 = true := by
  show mCP8.all (mEntOK 8) = true
  unfold mCP8
  simp only [List.all_append, mpo_8_0, mpo_8_1, Bool.and_self]
set_option maxRecDepth 100000 in
theorem mpo_9_0 : mCP9_0.all (mEntOK 9) = true := by decide +kernel
set_option maxRecDepth 100000 in
theorem mpo_9_1 : mCP9_1.all (mEntOK 9) = true := by decide +kernel
theorem mpo_9 : mPoolOK 9 = true := by
  show mCP9.all (mEntOK 9) = true
  unfold mCP9
  simp only [List.all_append, mpo_9_0, mpo_9_1, Bool.and_self]
set_option maxRecDepth 100000 in
theorem mpo_10_0 : mCP10_0.all (mEntOK 10) = true := by decide +kernel
set_option maxRecDepth 100000 in
theorem mpo_10_1 : mCP10_1.all (mEntOK 10) = true := by decide +kernel
theorem mpo_10 : mPoolOK 10 = true := by
  show mCP10.all (mEntOK 10) = true
  unfold mCP10
  simp only [List.all_append, mpo_10_0, mpo_10_1, Bool.and_self]
set_option maxRecDepth 100000 in
theorem mpo_11_0 : mCP11_0.all (mEntOK 11) = true := by decide +kernel
set_option maxRecDepth 100000 in
theorem mpo_11_1 : mCP11_1.all (mEntOK 11) = true := by decide +kernel
set_option maxRecDepth 100000 in
theorem mpo_11_2 : mCP11_2.all (mEntOK 11) = true := by decide +kernel
set_option maxRecDepth 100000 in
theorem mpo_11_3 : mCP11_3.all (mEntOK 11) = true := by decide +kernel
set_option maxRecDepth 100000 in
theorem mpo_11_4 : mCP11_4.all (mEntOK 11) = true := by decide +kernel
set_option maxRecDepth 100000 in
theorem mpo_11_5 : mCP11_5.all (mEntOK 11) = true := by decide +kernel
set_option maxRecDepth 100000 in
theorem mpo_11_6 : mCP11_6.all (mEntOK 11) = true := by decide +kernel
set_option maxRecDepth 100000 in
theorem mpo_11_7 : mCP11_7.all (mEntOK 11) = true := by decide +kernel
theorem mpo_11 : mPoolOK 11 = true := by
  show mCP11.all (mEntOK 11) = true
  unfold mCP11
  simp only [List.all_append, mpo_11_0, mpo_11_1, mpo_11_2, mpo_11_3, mpo_11_4, mpo_11_5, mpo_11_6, mpo_11_7, Bool.and_self]
set_option maxRecDepth 100000 in
theorem mpo_12_0 : mCP12_0.all (mEntOK 12) = true := by decide +kernel
set_option maxRecDepth 100000 in
theorem mpo_12_1 : mCP12_1.all (mEntOK 12) = true := by decide +kernel
set_option maxRecDepth 100000 in
theorem mpo_12_2 : mCP12_2.all (mEntOK 12) = true := by decide +kernel
set_option maxRecDepth 100000 in
theorem mpo_12_3 : mCP12_3.all (mEntOK 12) = true := by decide +kernel
set_option maxRecDepth 100000 in
theorem mpo_12_4 : mCP12_4.all (mEntOK 12) = true := by decide +kernel
set_option maxRecDepth 100000 in
theorem mpo_12_5 : mCP12_5.all (mEntOK 12) = true := by decide +kernel
set_option maxRecDepth 100000 in
theorem mpo_12_6 : mCP12_6.all (mEntOK 12) = true := by decide +kernel
set_option maxRecDepth 100000 in
theorem mpo_12_7 : mCP12_7.all (mEntOK 12) = true := by decide +kernel
set_option maxRecDepth 100000 in
theorem mpo_12_8 : mCP12_8.all (mEntOK 12) = true := by decide +kernel
set_option maxRecDepth 100000 in
theorem mpo_12_9 : mCP12_9.all (mEntOK 12) = true := by decide +kernel
theorem mpo_12 : mPoolOK 12 = true := by
  show mCP12.all (mEntOK 12) = true
  unfold mCP12
  simp only [List.all_append, mpo_12_0, mpo_12_1, mpo_12_2, mpo_12_3, mpo_12_4, mpo_12_5, mpo_12_6, mpo_12_7, mpo_12_8, mpo_12_9, Bool.and_self]
set_option maxRecDepth 100000 in
theorem mpo_13_0 : mCP13_0.all (mEntOK 13) = true := by decide +kernel
set_option maxRecDepth 100000 in
theorem mpo_13_1 : mCP13_1.all (mEntOK 13) = true := by decide +kernel
set_option maxRecDepth 100000 in
theorem mpo_13_2 : mCP13_2.all (mEntOK 13) = true := by decide +kernel
set_option maxRecDepth 100000 in
theorem mpo_13_3 : mCP13_3.all (mEntOK 13) = true := by decide +kernel
set_option maxRecDepth 100000 in
theorem mpo_13_4 : mCP13_4.all (mEntOK 13) = true := by decide +kernel
set_option maxRecDepth 100000 in
theorem mpo_13_5 : mCP13_5.all (mEntOK 13) = true := by decide +kernel
theorem mpo_13 : mPoolOK 13 = true := by
  show mCP13.all (mEntOK 13) = true
  unfold mCP13
  simp only [List.all_append, mpo_13_0, mpo_13_1, mpo_13_2, mpo_13_3, mpo_13_4, mpo_13_5, Bool.and_self]
set_option maxRecDepth 100000 in
theorem mpo_14_0 : mCP14_0.all (mEntOK 14) = true := by decide +kernel
theorem mpo_14 : mPoolOK 14 = true := by
  show mCP14.all (mEntOK 14) = true
  unfold mCP14
  simp only [List.all_append, mpo_14_0, Bool.and_self]
set_option maxRecDepth 100000 in
theorem mpo_15_0 : mCP15_0.all (mEntOK 15) = true := by decide +kernel
theorem mpo_15 : mPoolOK 15 = true := by
  show mCP15.all (mEntOK 15) = true
  unfold mCP15
  simp only [List.all_append, mpo_15_0, Bool.and_self]
set_option maxRecDepth 100000 in
theorem mpo_16_0 : mCP16_0.all (mEntOK 16) = true := by decide +kernel
theorem mpo_16 : mPoolOK 16 = true := by
  show mCP16.all (mEntOK 16) = true
  unfold mCP16
  simp only [List.all_append, mpo_16_0, Bool.and_self]
set_option maxRecDepth 100000 in
theorem mpo_17_0 : mCP17_0.all (mEntOK 17) = true := by decide +kernel
theorem mpo_17 : mPoolOK 17 = true := by
  show mCP17.all (mEntOK 17) = true
  unfold mCP17
  simp only [List.all_append, mpo_17_0, Bool.and_self]
set_option maxRecDepth 100000 in
theorem mpo_18_0 : mCP18_0.all (mEntOK 18) = true := by decide +kernel
theorem mpo_18 : mPoolOK 18 = true := by
  show mCP18.all (mEntOK 18) = true
  unfold mCP18
  simp only [List.all_append, mpo_18_0, Bool.and_self]
set_option maxRecDepth 100000 in
theorem mpo_19_0 : mCP19_0.all (mEntOK 19) = true := by decide +kernel
theorem mpo_19 : mPoolOK 19 = true := by
  show mCP19.all (mEntOK 19) = true
  unfold mCP19
  simp only [List.all_append, mpo_19_0, Bool.and_self]
set_option maxRecDepth 100000 in
theorem mpo_20_0 : mCP20_0.all (mEntOK 20) = true := by decide +kernel
theorem mpo_20 : mPoolOK 20 = true := by
  show mCP20.all (mEntOK 20) = true
  unfold mCP20
  simp only [List.all_append, mpo_20_0, Bool.and_self]
theorem mpool_ok (own : Nat) : mPoolOK own = true := by
  match own with
  | 0 => exact mpo_0
  | 1 => exact mpo_1
  | 2 => exact mpo_2
  | 3 => exact mpo_3
  | 4 => exact mpo_4
  | 5 => exact mpo_5
  | 6 => exact mpo_6
  | 7 => exact mpo_7
  | 8 => exact mpo_8
  | 9 => exact mpo_9
  | 10 => exact mpo_10
  | 11 => exact mpo_11
  | 12 => exact mpo_12
  | 13 => exact mpo_13
  | 14 => exact mpo_14
  | 15 => exact mpo_15
  | 16 => exact mpo_16
  | 17 => exact mpo_17
  | 18 => exact mpo_18
  | 19 => exact mpo_19
  | 20 => exact mpo_20
  | n + 21 =>
    have h : mCPL.getD (n + 21) [] = [] := by
      rw [List.getD_eq_getElem?_getD, List.getElem?_eq_none (by show 21 ≤ n + 21; omega)]; rfl
    unfold mPoolOK
    rw [h]
    rfl
def mCLP : List mPo := [[(2, 195), (2, 197), (2, 199), (2, 201), (2, 203), (2, 205), (2, 207), (2, 209), (2, 211), (2, 213), (2, 215)], [(2, 84), (2, 86), (2, 88), (2, 90)], [(2, 164), (2, 166), (2, 168), (2, 170), (2, 172)], [(2, 59), (2, 61), (2, 63), (2, 65), (2, 67)], [(1, 90), (1, 92), (1, 94), (1, 96), (1, 98)], [(1, 191), (1, 193), (1, 195), (1, 197), (1, 199), (1, 201)], [(2, 120), (2, 122), (2, 124), (2, 126), (2, 128), (2, 130), (2, 132), (2, 134), (2, 136), (2, 138), (2, 140), (2, 142), (2, 144), (2, 146), (2, 148)], [(1, 219), (1, 221), (1, 223), (1, 225)], [(2, 24), (2, 26), (2, 28), (2, 30), (2, 32), (2, 34), (2, 36), (2, 38), (2, 40)], [(1, 50), (1, 52), (1, 54), (1, 56), (1, 58), (1, 60), (1, 62), (1, 64), (1, 66)], [(1, 155), (1, 157), (1, 159), (1, 161), (1, 163), (1, 165), (1, 167), (1, 169), (1, 171), (1, 173), (1, 175)], [(2, 230), (2, 232), (2, 234), (2, 236), (2, 238), (3, 0), (3, 2), (3, 4), (3, 6), (3, 8), (3, 10)], [(6, 153), (6, 155), (6, 157), (6, 159), (6, 161), (6, 163), (6, 165), (6, 167), (6, 169), (6, 171), (6, 173), (6, 175), (6, 177), (6, 179), (6, 181), (6, 183), (6, 185), (6, 187), (6, 189), (6, 191), (6, 193), (6, 195), (6, 197), (6, 199), (6, 201), (6, 203), (6, 205), (6, 207), (6, 209), (6, 211), (6, 213), (6, 215), (6, 217), (6, 219), (6, 221), (6, 223), (6, 225), (6, 227), (6, 229), (6, 231), (6, 233), (6, 235), (6, 237), (6, 239), (7, 1), (7, 3), (7, 5), (7, 7), (7, 9), (7, 11), (7, 13), (7, 15), (7, 17), (7, 19), (7, 21), (7, 23), (7, 25), (7, 27), (7, 29), (7, 31), (7, 33), (7, 35), (7, 37), (7, 39), (7, 41), (7, 43), (7, 45), (7, 47), (7, 49), (7, 51), (7, 53)]]
def mINP : List mPo := [[(2, 176), (1, 13)], [(2, 71), (1, 10)], [(2, 152), (1, 12)], [(2, 44), (1, 9)], [(1, 79), (1, 4)], [(1, 179), (1, 6)], [(2, 94), (1, 11)], [(1, 205), (1, 7)], [(1, 229), (1, 8)], [(1, 32), (1, 2)], [(1, 73), (1, 3)], [(1, 24), (1, 1)], [(6, 59), (1, 14)]]
set_option maxRecDepth 100000 in
theorem mclo_0 : mClsOK ("HairRope$Feeler", mCL0) (mCLP.getD 0 []) = true := by decide +kernel
set_option maxRecDepth 100000 in
theorem mclo_1 : mClsOK ("HairRope$Forecast", mCL1) (mCLP.getD 1 []) = true := by decide +kernel
set_option maxRecDepth 100000 in
theorem mclo_2 : mClsOK ("HairRope$Giving", mCL2) (mCLP.getD 2 []) = true := by decide +kernel
set_option maxRecDepth 100000 in
theorem mclo_3 : mClsOK ("HairRope$History", mCL3) (mCLP.getD 3 []) = true := by decide +kernel
set_option maxRecDepth 100000 in
theorem mclo_4 : mClsOK ("HairRope$Laws", mCL4) (mCLP.getD 4 []) = true := by decide +kernel
set_option maxRecDepth 100000 in
theorem mclo_5 : mClsOK ("HairRope$Parser", mCL5) (mCLP.getD 5 []) = true := by decide +kernel
set_option maxRecDepth 100000 in
theorem mclo_6 : mClsOK ("HairRope$Planner", mCL6) (mCLP.getD 6 []) = true := by decide +kernel
set_option maxRecDepth 100000 in
theorem mclo_7 : mClsOK ("HairRope$Rules", mCL7) (mCLP.getD 7 []) = true := by decide +kernel
set_option maxRecDepth 100000 in
theorem mclo_8 : mClsOK ("HairRope$State", mCL8) (mCLP.getD 8 []) = true := by decide +kernel
set_option maxRecDepth 100000 in
theorem mclo_9 : mClsOK ("HairRope$Tape", mCL9) (mCLP.getD 9 []) = true := by decide +kernel
set_option maxRecDepth 100000 in
theorem mclo_10 : mClsOK ("HairRope$Text", mCL10) (mCLP.getD 10 []) = true := by decide +kernel
set_option maxRecDepth 100000 in
theorem mclo_11 : mClsOK ("HairRope", mCL11) (mCLP.getD 11 []) = true := by decide +kernel
set_option maxRecDepth 100000 in
theorem mclo_12 : mClsOK ("HairRopeModel", mCL12) (mCLP.getD 12 []) = true := by decide +kernel
set_option maxRecDepth 100000 in
theorem mins_ok : (mCL.zip mINP).all mInsOK = true := by decide +kernel
theorem mcl_len : mCL.length = 13 := by decide +kernel
theorem mcls_ok {ci : Nat} {q : String × List (String × String × FieldType × Bool)} (h : mCL[ci]? = some q) : mClsOK q (mCLP.getD ci []) = true := by
  have hlt : ci < 13 := by rw [← mcl_len]; exact (List.getElem?_eq_some_iff.mp h).1
  match ci, hlt, h with
  | 0, _, h => cases h; exact mclo_0
  | 1, _, h => cases h; exact mclo_1
  | 2, _, h => cases h; exact mclo_2
  | 3, _, h => cases h; exact mclo_3
  | 4, _, h => cases h; exact mclo_4
  | 5, _, h => cases h; exact mclo_5
  | 6, _, h => cases h; exact mclo_6
  | 7, _, h => cases h; exact mclo_7
  | 8, _, h => cases h; exact mclo_8
  | 9, _, h => cases h; exact mclo_9
  | 10, _, h => cases h; exact mclo_10
  | 11, _, h => cases h; exact mclo_11
  | 12, _, h => cases h; exact mclo_12
theorem mins_at {ci : Nat} {q : String × List (String × String × FieldType × Bool)} (h : mCL[ci]? = some q) : ∀ w ∈ [Jvm.Cond.instantiable q.1 q.2.length, .initialized q.1], w ∈ mWS := by
  have hlt : ci < mINP.length := by rw [show mINP.length = mCL.length from by decide +kernel]; exact (List.getElem?_eq_some_iff.mp h).1
  have hz : (mCL.zip mINP)[ci]? = some (q, mINP[ci]) := by
    rw [List.getElem?_zip_eq_some]
    exact ⟨h, List.getElem?_eq_getElem hlt⟩
  have hi := List.all_eq_true.mp mins_ok _ (List.mem_of_getElem? hz)
  simp only [mInsOK, Bool.and_eq_true, decide_eq_true_eq] at hi
  exact mwd_all (by rw [hi.2]; rfl) hi.1
