/-! ===== the law, on ===== -/
set_option maxRecDepth 1000000 in
theorem cb_law_17 : x_okNB mLT1 cx_CT mTS2 mTC2 mRUp 0 cx_P0 cx_Ps cx_cl 10 245 cx_cs cx_hs cx_ns 1000107788 62 cx_n17 = true := by decide +kernel
set_option maxRecDepth 1000000 in
theorem cb_law_18 : x_okNB mLT1 cx_CT mTS2 mTC2 mRUp 0 cx_P0 cx_Ps cx_cl 10 245 cx_cs cx_hs cx_ns 1000107788 62 cx_n18 = true := by decide +kernel
set_option maxRecDepth 1000000 in
theorem cb_law_19 : x_okNB mLT1 cx_CT mTS2 mTC2 mRUp 0 cx_P0 cx_Ps cx_cl 10 245 cx_cs cx_hs cx_ns 1000107788 62 cx_n19 = true := by decide +kernel
set_option maxRecDepth 1000000 in
theorem cb_law_20 : x_okNB mLT1 cx_CT mTS2 mTC2 mRUp 0 cx_P0 cx_Ps cx_cl 10 245 cx_cs cx_hs cx_ns 1000107788 62 cx_n20 = true := by decide +kernel
set_option maxRecDepth 1000000 in
theorem cb_law_21 : x_okNB mLT1 cx_CT mTS2 mTC2 mRUp 0 cx_P0 cx_Ps cx_cl 10 245 cx_cs cx_hs cx_ns 1000107788 62 cx_n21 = true := by decide +kernel
set_option maxRecDepth 1000000 in
theorem cb_law_22 : x_okNB mLT1 cx_CT mTS2 mTC2 mRUp 0 cx_P0 cx_Ps cx_cl 10 245 cx_cs cx_hs cx_ns 1000107788 62 cx_n22 = true := by decide +kernel
set_option maxRecDepth 1000000 in
theorem cb_law_23 : x_okNB mLT1 cx_CT mTS2 mTC2 mRUp 0 cx_P0 cx_Ps cx_cl 10 245 cx_cs cx_hs cx_ns 1000107788 62 cx_n23 = true := by decide +kernel
set_option maxRecDepth 1000000 in
theorem cb_law_24 : x_okNB mLT1 cx_CT mTS2 mTC2 mRUp 0 cx_P0 cx_Ps cx_cl 10 245 cx_cs cx_hs cx_ns 1000107788 62 cx_n24 = true := by decide +kernel
