/-! ===== the law, on ===== -/
set_option maxRecDepth 1000000 in
theorem cb_law_9 : x_okNB mLT1 cx_CT mTS2 mTC2 mRUp 0 cx_P0 cx_Ps cx_cl 10 245 cx_cs cx_hs cx_ns 1000107788 62 cx_n9 = true := by decide +kernel
set_option maxRecDepth 1000000 in
theorem cb_law_10 : x_okNB mLT1 cx_CT mTS2 mTC2 mRUp 0 cx_P0 cx_Ps cx_cl 10 245 cx_cs cx_hs cx_ns 1000107788 62 cx_n10 = true := by decide +kernel
set_option maxRecDepth 1000000 in
theorem cb_law_11 : x_okNB mLT1 cx_CT mTS2 mTC2 mRUp 0 cx_P0 cx_Ps cx_cl 10 245 cx_cs cx_hs cx_ns 1000107788 62 cx_n11 = true := by decide +kernel
set_option maxRecDepth 1000000 in
theorem cb_law_12 : x_okNB mLT1 cx_CT mTS2 mTC2 mRUp 0 cx_P0 cx_Ps cx_cl 10 245 cx_cs cx_hs cx_ns 1000107788 62 cx_n12 = true := by decide +kernel
set_option maxRecDepth 1000000 in
theorem cb_law_13 : x_okNB mLT1 cx_CT mTS2 mTC2 mRUp 0 cx_P0 cx_Ps cx_cl 10 245 cx_cs cx_hs cx_ns 1000107788 62 cx_n13 = true := by decide +kernel
set_option maxRecDepth 1000000 in
theorem cb_law_14 : x_okNB mLT1 cx_CT mTS2 mTC2 mRUp 0 cx_P0 cx_Ps cx_cl 10 245 cx_cs cx_hs cx_ns 1000107788 62 cx_n14 = true := by decide +kernel
set_option maxRecDepth 1000000 in
theorem cb_law_15 : x_okNB mLT1 cx_CT mTS2 mTC2 mRUp 0 cx_P0 cx_Ps cx_cl 10 245 cx_cs cx_hs cx_ns 1000107788 62 cx_n15 = true := by decide +kernel
set_option maxRecDepth 1000000 in
theorem cb_law_16 : x_okNB mLT1 cx_CT mTS2 mTC2 mRUp 0 cx_P0 cx_Ps cx_cl 10 245 cx_cs cx_hs cx_ns 1000107788 62 cx_n16 = true := by decide +kernel
