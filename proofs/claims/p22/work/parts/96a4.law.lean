/-! ===== the law, on ===== -/
set_option maxRecDepth 1000000 in
theorem cb_law_33 : x_okNB mLT1 cx_CT mTS2 mTC2 mRUp 0 cx_P0 cx_Ps cx_cl 10 245 cx_cs cx_hs cx_ns 1000107788 62 cx_n33 = true := by decide +kernel
set_option maxRecDepth 1000000 in
theorem cb_law_34 : x_okNB mLT1 cx_CT mTS2 mTC2 mRUp 0 cx_P0 cx_Ps cx_cl 10 245 cx_cs cx_hs cx_ns 1000107788 62 cx_n34 = true := by decide +kernel
set_option maxRecDepth 1000000 in
theorem cb_law_35 : x_okNB mLT1 cx_CT mTS2 mTC2 mRUp 0 cx_P0 cx_Ps cx_cl 10 245 cx_cs cx_hs cx_ns 1000107788 62 cx_n35 = true := by decide +kernel
set_option maxRecDepth 1000000 in
theorem cb_law_36 : x_okNB mLT1 cx_CT mTS2 mTC2 mRUp 0 cx_P0 cx_Ps cx_cl 10 245 cx_cs cx_hs cx_ns 1000107788 62 cx_n36 = true := by decide +kernel
set_option maxRecDepth 1000000 in
theorem cb_law_37 : x_okNB mLT1 cx_CT mTS2 mTC2 mRUp 0 cx_P0 cx_Ps cx_cl 10 245 cx_cs cx_hs cx_ns 1000107788 62 cx_n37 = true := by decide +kernel
set_option maxRecDepth 1000000 in
theorem cb_law_38 : x_okNB mLT1 cx_CT mTS2 mTC2 mRUp 0 cx_P0 cx_Ps cx_cl 10 245 cx_cs cx_hs cx_ns 1000107788 62 cx_n38 = true := by decide +kernel
set_option maxRecDepth 1000000 in
theorem cb_law_39 : x_okNB mLT1 cx_CT mTS2 mTC2 mRUp 0 cx_P0 cx_Ps cx_cl 10 245 cx_cs cx_hs cx_ns 1000107788 62 cx_n39 = true := by decide +kernel
set_option maxRecDepth 1000000 in
theorem cb_law_40 : x_okNB mLT1 cx_CT mTS2 mTC2 mRUp 0 cx_P0 cx_Ps cx_cl 10 245 cx_cs cx_hs cx_ns 1000107788 62 cx_n40 = true := by decide +kernel
