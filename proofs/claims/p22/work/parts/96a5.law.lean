/-! ===== the law, on ===== -/
set_option maxRecDepth 1000000 in
theorem cb_law_41 : x_okNB mLT1 cx_CT mTS2 mTC2 mRUp 0 cx_P0 cx_Ps cx_cl 10 245 cx_cs cx_hs cx_ns 1000107788 62 cx_n41 = true := by decide +kernel
set_option maxRecDepth 1000000 in
theorem cb_law_42 : x_okNB mLT1 cx_CT mTS2 mTC2 mRUp 0 cx_P0 cx_Ps cx_cl 10 245 cx_cs cx_hs cx_ns 1000107788 62 cx_n42 = true := by decide +kernel
set_option maxRecDepth 1000000 in
theorem cb_law_43 : x_okNB mLT1 cx_CT mTS2 mTC2 mRUp 0 cx_P0 cx_Ps cx_cl 10 245 cx_cs cx_hs cx_ns 1000107788 62 cx_n43 = true := by decide +kernel
