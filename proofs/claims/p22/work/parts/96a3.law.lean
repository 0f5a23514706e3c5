/-! ===== the law, on ===== -/
set_option maxRecDepth 1000000 in
theorem cb_law_25 : x_okNB mLT1 cx_CT mTS2 mTC2 mRUp 0 cx_P0 cx_Ps cx_cl 10 245 cx_cs cx_hs cx_ns 1000107788 62 cx_n25 = true := by decide +kernel
set_option maxRecDepth 1000000 in
theorem cb_law_26 : x_okNB mLT1 cx_CT mTS2 mTC2 mRUp 0 cx_P0 cx_Ps cx_cl 10 245 cx_cs cx_hs cx_ns 1000107788 62 cx_n26 = true := by decide +kernel
set_option maxRecDepth 1000000 in
theorem cb_law_27 : x_okNB mLT1 cx_CT mTS2 mTC2 mRUp 0 cx_P0 cx_Ps cx_cl 10 245 cx_cs cx_hs cx_ns 1000107788 62 cx_n27 = true := by decide +kernel
set_option maxRecDepth 1000000 in
theorem cb_law_28 : x_okNB mLT1 cx_CT mTS2 mTC2 mRUp 0 cx_P0 cx_Ps cx_cl 10 245 cx_cs cx_hs cx_ns 1000107788 62 cx_n28 = true := by decide +kernel
set_option maxRecDepth 1000000 in
theorem cb_law_29 : x_okNB mLT1 cx_CT mTS2 mTC2 mRUp 0 cx_P0 cx_Ps cx_cl 10 245 cx_cs cx_hs cx_ns 1000107788 62 cx_n29 = true := by decide +kernel
set_option maxRecDepth 1000000 in
theorem cb_law_30 : x_okNB mLT1 cx_CT mTS2 mTC2 mRUp 0 cx_P0 cx_Ps cx_cl 10 245 cx_cs cx_hs cx_ns 1000107788 62 cx_n30 = true := by decide +kernel
set_option maxRecDepth 1000000 in
theorem cb_law_31 : x_okNB mLT1 cx_CT mTS2 mTC2 mRUp 0 cx_P0 cx_Ps cx_cl 10 245 cx_cs cx_hs cx_ns 1000107788 62 cx_n31 = true := by decide +kernel
set_option maxRecDepth 1000000 in
theorem cb_law_32 : x_okNB mLT1 cx_CT mTS2 mTC2 mRUp 0 cx_P0 cx_Ps cx_cl 10 245 cx_cs cx_hs cx_ns 1000107788 62 cx_n32 = true := by decide +kernel
