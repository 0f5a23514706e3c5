/-! ===== what is decided of the tables, by program: each instruction is what the bytes say ===== -/
theorem mdc_0_0 : mDecOK code mCD0_0 = true := mDw_all _ _ (by decide +kernel)
theorem mdc_0_1 : mDecOK code mCD0_1 = true := mDw_all _ _ (by decide +kernel)
theorem mdc_0_2 : mDecOK code mCD0_2 = true := mDw_all _ _ (by decide +kernel)
theorem mdc_0_3 : mDecOK code mCD0_3 = true := mDw_all _ _ (by decide +kernel)
theorem mdc_0_4 : mDecOK code mCD0_4 = true := mDw_all _ _ (by decide +kernel)
theorem mdc_0_5 : mDecOK code mCD0_5 = true := mDw_all _ _ (by decide +kernel)
theorem mdc_0_6 : mDecOK code mCD0_6 = true := mDw_all _ _ (by decide +kernel)
theorem mdc_0_7 : mDecOK code mCD0_7 = true := mDw_all _ _ (by decide +kernel)
theorem mdc_0_8 : mDecOK code mCD0_8 = true := mDw_all _ _ (by decide +kernel)
theorem mdc_0_9 : mDecOK code mCD0_9 = true := mDw_all _ _ (by decide +kernel)
theorem mdc_0_10 : mDecOK code mCD0_10 = true := mDw_all _ _ (by decide +kernel)
theorem mdc_0_11 : mDecOK code mCD0_11 = true := mDw_all _ _ (by decide +kernel)
theorem mdc_0_12 : mDecOK code mCD0_12 = true := mDw_all _ _ (by decide +kernel)
theorem mdc_0_13 : mDecOK code mCD0_13 = true := mDw_all _ _ (by decide +kernel)
theorem mdc_0 : mDecOK code mCD0 = true := by
  unfold mCD0 mDecOK
  simp only [List.all_append, Bool.and_eq_true]
  exact ⟨⟨⟨⟨⟨⟨⟨⟨⟨⟨⟨⟨⟨mdc_0_0, mdc_0_1⟩, mdc_0_2⟩, mdc_0_3⟩, mdc_0_4⟩, mdc_0_5⟩, mdc_0_6⟩, mdc_0_7⟩, mdc_0_8⟩, mdc_0_9⟩, mdc_0_10⟩, mdc_0_11⟩, mdc_0_12⟩, mdc_0_13⟩
theorem mdc_1 : mDecOK prog_16_method_49_code mCD1 = true := mDw_all _ _ (by decide +kernel)
theorem mdc_2 : mDecOK prog_22_method_103_code mCD2 = true := mDw_all _ _ (by decide +kernel)
theorem mdc_3 : mDecOK prog_18_method_54_code mCD3 = true := mDw_all _ _ (by decide +kernel)
theorem mdc_4 : mDecOK prog_18_method_152_code mCD4 = true := mDw_all _ _ (by decide +kernel)
theorem mdc_5 : mDecOK prog_18_method_56_code mCD5 = true := mDw_all _ _ (by decide +kernel)
theorem mdc_6 : mDecOK prog_18_method_154_code mCD6 = true := mDw_all _ _ (by decide +kernel)
theorem mdc_7 : mDecOK prog_19_method_2_code mCD7 = true := mDw_all _ _ (by decide +kernel)
theorem mdc_8 : mDecOK prog_18_method_155_code mCD8 = true := mDw_all _ _ (by decide +kernel)
theorem mdc_9 : mDecOK prog_23_method_11_code mCD9 = true := mDw_all _ _ (by decide +kernel)
theorem mdc_10 : mDecOK prog_18_method_79_code mCD10 = true := mDw_all _ _ (by decide +kernel)
theorem mdc_11 : mDecOK prog_18_method_80_code mCD11 = true := mDw_all _ _ (by decide +kernel)
theorem mdc_12 : mDecOK prog_19_method_22_code mCD12 = true := mDw_all _ _ (by decide +kernel)
theorem mdc_13 : mDecOK prog_19_method_4_code mCD13 = true := mDw_all _ _ (by decide +kernel)
theorem mdc_14 : mDecOK prog_19_method_23_code mCD14 = true := mDw_all _ _ (by decide +kernel)
theorem mdc_15 : mDecOK prog_2_method_1_code mCD15 = true := mDw_all _ _ (by decide +kernel)
theorem mdc_16 : mDecOK prog_2_method_2_code mCD16 = true := mDw_all _ _ (by decide +kernel)
theorem mdc_17 : mDecOK prog_2_method_3_code mCD17 = true := mDw_all _ _ (by decide +kernel)
theorem mdc_18 : mDecOK prog_2_method_5_code mCD18 = true := mDw_all _ _ (by decide +kernel)
theorem mdc_19 : mDecOK prog_2_method_4_code mCD19 = true := mDw_all _ _ (by decide +kernel)
theorem mdc_20 : mDecOK prog_2_method_6_code mCD20 = true := mDw_all _ _ (by decide +kernel)
theorem mdc_21 : mDecOK prog_2_method_7_code mCD21 = true := mDw_all _ _ (by decide +kernel)
theorem mdc_22 : mDecOK prog_2_method_8_code mCD22 = true := mDw_all _ _ (by decide +kernel)
theorem mdc_23 : mDecOK prog_3_method_1_code mCD23 = true := mDw_all _ _ (by decide +kernel)
theorem mdc_24 : mDecOK prog_3_method_3_code mCD24 = true := mDw_all _ _ (by decide +kernel)
theorem mdc_25 : mDecOK prog_3_method_2_code mCD25 = true := mDw_all _ _ (by decide +kernel)
theorem mdc_26 : mDecOK prog_3_method_4_code mCD26 = true := mDw_all _ _ (by decide +kernel)
theorem mdc_27 : mDecOK prog_3_method_5_code mCD27 = true := mDw_all _ _ (by decide +kernel)
theorem mdc_28 : mDecOK prog_3_method_6_code mCD28 = true := mDw_all _ _ (by decide +kernel)
theorem mdc_29 : mDecOK prog_3_method_7_code mCD29 = true := mDw_all _ _ (by decide +kernel)
theorem mdc_30 : mDecOK prog_3_method_8_code mCD30 = true := mDw_all _ _ (by decide +kernel)
theorem mdc_31 : mDecOK prog_3_method_9_code mCD31 = true := mDw_all _ _ (by decide +kernel)
theorem mdc_32 : mDecOK prog_4_method_1_code mCD32 = true := mDw_all _ _ (by decide +kernel)
theorem mdc_33 : mDecOK prog_4_method_2_code mCD33 = true := mDw_all _ _ (by decide +kernel)
theorem mdc_34 : mDecOK prog_4_method_3_code mCD34 = true := mDw_all _ _ (by decide +kernel)
theorem mdc_35 : mDecOK prog_4_method_4_code mCD35 = true := mDw_all _ _ (by decide +kernel)
theorem mdc_36 : mDecOK prog_4_method_5_code mCD36 = true := mDw_all _ _ (by decide +kernel)
theorem mdc_37 : mDecOK prog_4_method_6_code mCD37 = true := mDw_all _ _ (by decide +kernel)
theorem mdc_38 : mDecOK prog_5_method_1_code mCD38 = true := mDw_all _ _ (by decide +kernel)
theorem mdc_39 : mDecOK prog_5_method_2_code mCD39 = true := mDw_all _ _ (by decide +kernel)
theorem mdc_40 : mDecOK prog_5_method_3_code mCD40 = true := mDw_all _ _ (by decide +kernel)
theorem mdc_41 : mDecOK prog_5_method_7_code mCD41 = true := mDw_all _ _ (by decide +kernel)
theorem mdc_42 : mDecOK prog_5_method_4_code mCD42 = true := mDw_all _ _ (by decide +kernel)
theorem mdc_43 : mDecOK prog_5_method_5_code mCD43 = true := mDw_all _ _ (by decide +kernel)
theorem mdc_44 : mDecOK prog_5_method_8_code mCD44 = true := mDw_all _ _ (by decide +kernel)
theorem mdc_45 : mDecOK prog_5_method_6_code mCD45 = true := mDw_all _ _ (by decide +kernel)
theorem mdc_46 : mDecOK prog_6_method_1_code mCD46 = true := mDw_all _ _ (by decide +kernel)
theorem mdc_47 : mDecOK prog_6_method_2_code mCD47 = true := mDw_all _ _ (by decide +kernel)
theorem mdc_48 : mDecOK prog_6_method_3_code mCD48 = true := mDw_all _ _ (by decide +kernel)
theorem mdc_49 : mDecOK prog_6_method_4_code mCD49 = true := mDw_all _ _ (by decide +kernel)
theorem mdc_50 : mDecOK prog_6_method_5_code mCD50 = true := mDw_all _ _ (by decide +kernel)
theorem mdc_51_0 : mDecOK prog_6_method_6_code mCD51_0 = true := mDw_all _ _ (by decide +kernel)
theorem mdc_51_1 : mDecOK prog_6_method_6_code mCD51_1 = true := mDw_all _ _ (by decide +kernel)
theorem mdc_51 : mDecOK prog_6_method_6_code mCD51 = true := by
  unfold mCD51 mDecOK
  simp only [List.all_append, Bool.and_eq_true]
  exact ⟨mdc_51_0, mdc_51_1⟩
theorem mdc_52 : mDecOK prog_6_method_7_code mCD52 = true := mDw_all _ _ (by decide +kernel)
theorem mdc_53 : mDecOK prog_7_method_1_code mCD53 = true := mDw_all _ _ (by decide +kernel)
theorem mdc_54_0 : mDecOK prog_7_method_2_code mCD54_0 = true := mDw_all _ _ (by decide +kernel)
theorem mdc_54_1 : mDecOK prog_7_method_2_code mCD54_1 = true := mDw_all _ _ (by decide +kernel)
theorem mdc_54 : mDecOK prog_7_method_2_code mCD54 = true := by
  unfold mCD54 mDecOK
  simp only [List.all_append, Bool.and_eq_true]
  exact ⟨mdc_54_0, mdc_54_1⟩
theorem mdc_55 : mDecOK prog_7_method_3_code mCD55 = true := mDw_all _ _ (by decide +kernel)
theorem mdc_56 : mDecOK prog_7_method_12_code mCD56 = true := mDw_all _ _ (by decide +kernel)
theorem mdc_57 : mDecOK prog_7_method_13_code mCD57 = true := mDw_all _ _ (by decide +kernel)
theorem mdc_58 : mDecOK prog_7_method_11_code mCD58 = true := mDw_all _ _ (by decide +kernel)
theorem mdc_59 : mDecOK prog_7_method_4_code mCD59 = true := mDw_all _ _ (by decide +kernel)
theorem mdc_60 : mDecOK prog_7_method_10_code mCD60 = true := mDw_all _ _ (by decide +kernel)
theorem mdc_61 : mDecOK prog_7_method_5_code mCD61 = true := mDw_all _ _ (by decide +kernel)
theorem mdc_62_0 : mDecOK prog_7_method_6_code mCD62_0 = true := mDw_all _ _ (by decide +kernel)
theorem mdc_62_1 : mDecOK prog_7_method_6_code mCD62_1 = true := mDw_all _ _ (by decide +kernel)
theorem mdc_62 : mDecOK prog_7_method_6_code mCD62 = true := by
  unfold mCD62 mDecOK
  simp only [List.all_append, Bool.and_eq_true]
  exact ⟨mdc_62_0, mdc_62_1⟩
theorem mdc_63 : mDecOK prog_7_method_7_code mCD63 = true := mDw_all _ _ (by decide +kernel)
theorem mdc_64 : mDecOK prog_7_method_8_code mCD64 = true := mDw_all _ _ (by decide +kernel)
theorem mdc_65 : mDecOK prog_7_method_9_code mCD65 = true := mDw_all _ _ (by decide +kernel)
theorem mdc_66 : mDecOK prog_8_method_1_code mCD66 = true := mDw_all _ _ (by decide +kernel)
theorem mdc_67 : mDecOK prog_8_method_2_code mCD67 = true := mDw_all _ _ (by decide +kernel)
theorem mdc_68 : mDecOK prog_8_method_4_code mCD68 = true := mDw_all _ _ (by decide +kernel)
theorem mdc_69 : mDecOK prog_8_method_5_code mCD69 = true := mDw_all _ _ (by decide +kernel)
theorem mdc_70 : mDecOK prog_8_method_3_code mCD70 = true := mDw_all _ _ (by decide +kernel)
theorem mdc_71 : mDecOK prog_8_method_6_code mCD71 = true := mDw_all _ _ (by decide +kernel)
theorem mdc_72 : mDecOK prog_8_method_8_code mCD72 = true := mDw_all _ _ (by decide +kernel)
theorem mdc_73 : mDecOK prog_8_method_9_code mCD73 = true := mDw_all _ _ (by decide +kernel)
theorem mdc_74_0 : mDecOK prog_8_method_10_code mCD74_0 = true := mDw_all _ _ (by decide +kernel)
theorem mdc_74_1 : mDecOK prog_8_method_10_code mCD74_1 = true := mDw_all _ _ (by decide +kernel)
theorem mdc_74 : mDecOK prog_8_method_10_code mCD74 = true := by
  unfold mCD74 mDecOK
  simp only [List.all_append, Bool.and_eq_true]
  exact ⟨mdc_74_0, mdc_74_1⟩
theorem mdc_75 : mDecOK prog_8_method_14_code mCD75 = true := mDw_all _ _ (by decide +kernel)
theorem mdc_76 : mDecOK prog_8_method_11_code mCD76 = true := mDw_all _ _ (by decide +kernel)
theorem mdc_77 : mDecOK prog_8_method_7_code mCD77 = true := mDw_all _ _ (by decide +kernel)
theorem mdc_78 : mDecOK prog_8_method_12_code mCD78 = true := mDw_all _ _ (by decide +kernel)
theorem mdc_79 : mDecOK prog_8_method_13_code mCD79 = true := mDw_all _ _ (by decide +kernel)
theorem mdc_80_0 : mDecOK prog_8_method_15_code mCD80_0 = true := mDw_all _ _ (by decide +kernel)
theorem mdc_80_1 : mDecOK prog_8_method_15_code mCD80_1 = true := mDw_all _ _ (by decide +kernel)
theorem mdc_80 : mDecOK prog_8_method_15_code mCD80 = true := by
  unfold mCD80 mDecOK
  simp only [List.all_append, Bool.and_eq_true]
  exact ⟨mdc_80_0, mdc_80_1⟩
theorem mdc_81 : mDecOK prog_8_method_17_code mCD81 = true := mDw_all _ _ (by decide +kernel)
theorem mdc_82 : mDecOK prog_8_method_18_code mCD82 = true := mDw_all _ _ (by decide +kernel)
theorem mdc_83 : mDecOK prog_8_method_19_code mCD83 = true := mDw_all _ _ (by decide +kernel)
theorem mdc_84 : mDecOK prog_8_method_20_code mCD84 = true := mDw_all _ _ (by decide +kernel)
theorem mdc_85 : mDecOK prog_8_method_16_code mCD85 = true := mDw_all _ _ (by decide +kernel)
theorem mdc_86 : mDecOK prog_9_method_1_code mCD86 = true := mDw_all _ _ (by decide +kernel)
theorem mdc_87 : mDecOK prog_9_method_2_code mCD87 = true := mDw_all _ _ (by decide +kernel)
theorem mdc_88 : mDecOK prog_9_method_5_code mCD88 = true := mDw_all _ _ (by decide +kernel)
theorem mdc_89 : mDecOK prog_9_method_6_code mCD89 = true := mDw_all _ _ (by decide +kernel)
theorem mdc_90 : mDecOK prog_9_method_3_code mCD90 = true := mDw_all _ _ (by decide +kernel)
theorem mdc_91 : mDecOK prog_9_method_11_code mCD91 = true := mDw_all _ _ (by decide +kernel)
theorem mdc_92 : mDecOK prog_9_method_4_code mCD92 = true := mDw_all _ _ (by decide +kernel)
theorem mdc_93 : mDecOK prog_9_method_12_code mCD93 = true := mDw_all _ _ (by decide +kernel)
theorem mdc_94 : mDecOK prog_9_method_7_code mCD94 = true := mDw_all _ _ (by decide +kernel)
theorem mdc_95 : mDecOK prog_9_method_8_code mCD95 = true := mDw_all _ _ (by decide +kernel)
theorem mdc_96 : mDecOK prog_9_method_9_code mCD96 = true := mDw_all _ _ (by decide +kernel)
theorem mdc_97 : mDecOK prog_9_method_10_code mCD97 = true := mDw_all _ _ (by decide +kernel)
theorem mdc_98 : mDecOK prog_9_method_13_code mCD98 = true := mDw_all _ _ (by decide +kernel)
theorem mdc_99 : mDecOK prog_10_method_1_code mCD99 = true := mDw_all _ _ (by decide +kernel)
theorem mdc_100 : mDecOK prog_10_method_2_code mCD100 = true := mDw_all _ _ (by decide +kernel)
theorem mdc_101 : mDecOK prog_10_method_7_code mCD101 = true := mDw_all _ _ (by decide +kernel)
theorem mdc_102 : mDecOK prog_10_method_3_code mCD102 = true := mDw_all _ _ (by decide +kernel)
theorem mdc_103 : mDecOK prog_10_method_4_code mCD103 = true := mDw_all _ _ (by decide +kernel)
theorem mdc_104 : mDecOK prog_10_method_8_code mCD104 = true := mDw_all _ _ (by decide +kernel)
theorem mdc_105 : mDecOK prog_10_method_9_code mCD105 = true := mDw_all _ _ (by decide +kernel)
theorem mdc_106 : mDecOK prog_10_method_5_code mCD106 = true := mDw_all _ _ (by decide +kernel)
theorem mdc_107 : mDecOK prog_10_method_6_code mCD107 = true := mDw_all _ _ (by decide +kernel)
theorem mdc_108 : mDecOK prog_10_method_12_code mCD108 = true := mDw_all _ _ (by decide +kernel)
theorem mdc_109 : mDecOK prog_10_method_11_code mCD109 = true := mDw_all _ _ (by decide +kernel)
theorem mdc_110 : mDecOK prog_10_method_13_code mCD110 = true := mDw_all _ _ (by decide +kernel)
theorem mdc_111 : mDecOK prog_10_method_14_code mCD111 = true := mDw_all _ _ (by decide +kernel)
theorem mdc_112 : mDecOK prog_10_method_10_code mCD112 = true := mDw_all _ _ (by decide +kernel)
theorem mdc_113 : mDecOK prog_11_method_1_code mCD113 = true := mDw_all _ _ (by decide +kernel)
theorem mdc_114 : mDecOK prog_11_method_2_code mCD114 = true := mDw_all _ _ (by decide +kernel)
theorem mdc_115 : mDecOK prog_11_method_6_code mCD115 = true := mDw_all _ _ (by decide +kernel)
theorem mdc_116 : mDecOK prog_11_method_7_code mCD116 = true := mDw_all _ _ (by decide +kernel)
theorem mdc_117 : mDecOK prog_11_method_3_code mCD117 = true := mDw_all _ _ (by decide +kernel)
theorem mdc_118 : mDecOK prog_11_method_14_code mCD118 = true := mDw_all _ _ (by decide +kernel)
theorem mdc_119 : mDecOK prog_11_method_8_code mCD119 = true := mDw_all _ _ (by decide +kernel)
theorem mdc_120 : mDecOK prog_11_method_11_code mCD120 = true := mDw_all _ _ (by decide +kernel)
theorem mdc_121 : mDecOK prog_11_method_15_code mCD121 = true := mDw_all _ _ (by decide +kernel)
theorem mdc_122 : mDecOK prog_11_method_9_code mCD122 = true := mDw_all _ _ (by decide +kernel)
theorem mdc_123 : mDecOK prog_11_method_12_code mCD123 = true := mDw_all _ _ (by decide +kernel)
theorem mdc_124 : mDecOK prog_11_method_13_code mCD124 = true := mDw_all _ _ (by decide +kernel)
theorem mdc_125 : mDecOK prog_11_method_16_code mCD125 = true := mDw_all _ _ (by decide +kernel)
theorem mdc_126 : mDecOK prog_11_method_10_code mCD126 = true := mDw_all _ _ (by decide +kernel)
theorem mdc_127 : mDecOK prog_11_method_5_code mCD127 = true := mDw_all _ _ (by decide +kernel)
theorem mdc_128 : mDecOK prog_11_method_4_code mCD128 = true := mDw_all _ _ (by decide +kernel)
theorem mdc_129 : mDecOK prog_12_method_1_code mCD129 = true := mDw_all _ _ (by decide +kernel)
theorem mdc_130 : mDecOK prog_12_method_2_code mCD130 = true := mDw_all _ _ (by decide +kernel)
theorem mdc_131 : mDecOK prog_12_method_4_code mCD131 = true := mDw_all _ _ (by decide +kernel)
theorem mdc_132 : mDecOK prog_12_method_3_code mCD132 = true := mDw_all _ _ (by decide +kernel)
theorem mdc_133 : mDecOK prog_12_method_6_code mCD133 = true := mDw_all _ _ (by decide +kernel)
theorem mdc_134 : mDecOK prog_12_method_7_code mCD134 = true := mDw_all _ _ (by decide +kernel)
theorem mdc_135 : mDecOK prog_12_method_5_code mCD135 = true := mDw_all _ _ (by decide +kernel)
theorem mdc_136 : mDecOK prog_1_method_1_code mCD136 = true := mDw_all _ _ (by decide +kernel)
theorem mdc_137 : mDecOK prog_1_method_2_code mCD137 = true := mDw_all _ _ (by decide +kernel)
theorem mdc_138 : mDecOK prog_1_method_3_code mCD138 = true := mDw_all _ _ (by decide +kernel)
theorem mdc_139 : mDecOK prog_1_method_4_code mCD139 = true := mDw_all _ _ (by decide +kernel)
theorem mdc_140 : mDecOK prog_1_method_41_code mCD140 = true := mDw_all _ _ (by decide +kernel)
theorem mdc_141 : mDecOK prog_1_method_5_code mCD141 = true := mDw_all _ _ (by decide +kernel)
theorem mdc_142_0 : mDecOK prog_1_method_6_code mCD142_0 = true := mDw_all _ _ (by decide +kernel)
theorem mdc_142_1 : mDecOK prog_1_method_6_code mCD142_1 = true := mDw_all _ _ (by decide +kernel)
theorem mdc_142 : mDecOK prog_1_method_6_code mCD142 = true := by
  unfold mCD142 mDecOK
  simp only [List.all_append, Bool.and_eq_true]
  exact ⟨mdc_142_0, mdc_142_1⟩
theorem mdc_143 : mDecOK prog_1_method_42_code mCD143 = true := mDw_all _ _ (by decide +kernel)
theorem mdc_144 : mDecOK prog_1_method_7_code mCD144 = true := mDw_all _ _ (by decide +kernel)
theorem mdc_145 : mDecOK prog_1_method_43_code mCD145 = true := mDw_all _ _ (by decide +kernel)
theorem mdc_146 : mDecOK prog_1_method_8_code mCD146 = true := mDw_all _ _ (by decide +kernel)
theorem mdc_147 : mDecOK prog_1_method_9_code mCD147 = true := mDw_all _ _ (by decide +kernel)
theorem mdc_148 : mDecOK prog_1_method_44_code mCD148 = true := mDw_all _ _ (by decide +kernel)
theorem mdc_149 : mDecOK prog_1_method_10_code mCD149 = true := mDw_all _ _ (by decide +kernel)
theorem mdc_150 : mDecOK prog_1_method_11_code mCD150 = true := mDw_all _ _ (by decide +kernel)
theorem mdc_151 : mDecOK prog_1_method_12_code mCD151 = true := mDw_all _ _ (by decide +kernel)
theorem mdc_152 : mDecOK prog_1_method_46_code mCD152 = true := mDw_all _ _ (by decide +kernel)
theorem mdc_153 : mDecOK prog_1_method_50_code mCD153 = true := mDw_all _ _ (by decide +kernel)
theorem mdc_154 : mDecOK prog_1_method_13_code mCD154 = true := mDw_all _ _ (by decide +kernel)
theorem mdc_155 : mDecOK prog_1_method_14_code mCD155 = true := mDw_all _ _ (by decide +kernel)
theorem mdc_156 : mDecOK prog_1_method_15_code mCD156 = true := mDw_all _ _ (by decide +kernel)
theorem mdc_157 : mDecOK prog_1_method_16_code mCD157 = true := mDw_all _ _ (by decide +kernel)
theorem mdc_158 : mDecOK prog_1_method_17_code mCD158 = true := mDw_all _ _ (by decide +kernel)
theorem mdc_159 : mDecOK prog_1_method_18_code mCD159 = true := mDw_all _ _ (by decide +kernel)
theorem mdc_160 : mDecOK prog_1_method_19_code mCD160 = true := mDw_all _ _ (by decide +kernel)
theorem mdc_161 : mDecOK prog_1_method_20_code mCD161 = true := mDw_all _ _ (by decide +kernel)
theorem mdc_162 : mDecOK prog_1_method_21_code mCD162 = true := mDw_all _ _ (by decide +kernel)
theorem mdc_163 : mDecOK prog_1_method_22_code mCD163 = true := mDw_all _ _ (by decide +kernel)
theorem mdc_164 : mDecOK prog_1_method_23_code mCD164 = true := mDw_all _ _ (by decide +kernel)
theorem mdc_165 : mDecOK prog_1_method_24_code mCD165 = true := mDw_all _ _ (by decide +kernel)
theorem mdc_166 : mDecOK prog_1_method_25_code mCD166 = true := mDw_all _ _ (by decide +kernel)
theorem mdc_167 : mDecOK prog_1_method_26_code mCD167 = true := mDw_all _ _ (by decide +kernel)
theorem mdc_168 : mDecOK prog_1_method_27_code mCD168 = true := mDw_all _ _ (by decide +kernel)
theorem mdc_169 : mDecOK prog_1_method_28_code mCD169 = true := mDw_all _ _ (by decide +kernel)
theorem mdc_170 : mDecOK prog_1_method_29_code mCD170 = true := mDw_all _ _ (by decide +kernel)
theorem mdc_171 : mDecOK prog_1_method_30_code mCD171 = true := mDw_all _ _ (by decide +kernel)
theorem mdc_172 : mDecOK prog_1_method_31_code mCD172 = true := mDw_all _ _ (by decide +kernel)
theorem mdc_173 : mDecOK prog_1_method_32_code mCD173 = true := mDw_all _ _ (by decide +kernel)
theorem mdc_174 : mDecOK prog_1_method_33_code mCD174 = true := mDw_all _ _ (by decide +kernel)
theorem mdc_175 : mDecOK prog_1_method_47_code mCD175 = true := mDw_all _ _ (by decide +kernel)
theorem mdc_176 : mDecOK prog_1_method_34_code mCD176 = true := mDw_all _ _ (by decide +kernel)
theorem mdc_177 : mDecOK prog_1_method_35_code mCD177 = true := mDw_all _ _ (by decide +kernel)
theorem mdc_178 : mDecOK prog_1_method_36_code mCD178 = true := mDw_all _ _ (by decide +kernel)
theorem mdc_179 : mDecOK prog_1_method_45_code mCD179 = true := mDw_all _ _ (by decide +kernel)
theorem mdc_180 : mDecOK prog_1_method_48_code mCD180 = true := mDw_all _ _ (by decide +kernel)
theorem mdc_181 : mDecOK prog_1_method_37_code mCD181 = true := mDw_all _ _ (by decide +kernel)
theorem mdc_182 : mDecOK prog_1_method_38_code mCD182 = true := mDw_all _ _ (by decide +kernel)
theorem mdc_183 : mDecOK prog_1_method_49_code mCD183 = true := mDw_all _ _ (by decide +kernel)
theorem mdc_184 : mDecOK prog_1_method_39_code mCD184 = true := mDw_all _ _ (by decide +kernel)
theorem mdc_185_0 : mDecOK prog_1_method_40_code mCD185_0 = true := mDw_all _ _ (by decide +kernel)
theorem mdc_185_1 : mDecOK prog_1_method_40_code mCD185_1 = true := mDw_all _ _ (by decide +kernel)
theorem mdc_185 : mDecOK prog_1_method_40_code mCD185 = true := by
  unfold mCD185 mDecOK
  simp only [List.all_append, Bool.and_eq_true]
  exact ⟨mdc_185_0, mdc_185_1⟩
theorem mdc_186_0 : mDecOK prog_14_method_2_code mCD186_0 = true := mDw_all _ _ (by decide +kernel)
theorem mdc_186_1 : mDecOK prog_14_method_2_code mCD186_1 = true := mDw_all _ _ (by decide +kernel)
theorem mdc_186_2 : mDecOK prog_14_method_2_code mCD186_2 = true := mDw_all _ _ (by decide +kernel)
theorem mdc_186_3 : mDecOK prog_14_method_2_code mCD186_3 = true := mDw_all _ _ (by decide +kernel)
theorem mdc_186_4 : mDecOK prog_14_method_2_code mCD186_4 = true := mDw_all _ _ (by decide +kernel)
theorem mdc_186_5 : mDecOK prog_14_method_2_code mCD186_5 = true := mDw_all _ _ (by decide +kernel)
theorem mdc_186_6 : mDecOK prog_14_method_2_code mCD186_6 = true := mDw_all _ _ (by decide +kernel)
theorem mdc_186_7 : mDecOK prog_14_method_2_code mCD186_7 = true := mDw_all _ _ (by decide +kernel)
theorem mdc_186 : mDecOK prog_14_method_2_code mCD186 = true := by
  unfold mCD186 mDecOK
  simp only [List.all_append, Bool.and_eq_true]
  exact ⟨⟨⟨⟨⟨⟨⟨mdc_186_0, mdc_186_1⟩, mdc_186_2⟩, mdc_186_3⟩, mdc_186_4⟩, mdc_186_5⟩, mdc_186_6⟩, mdc_186_7⟩
theorem mdc_187 : mDecOK prog_14_method_19_code mCD187 = true := mDw_all _ _ (by decide +kernel)
theorem mdc_188 : mDecOK prog_14_method_10_code mCD188 = true := mDw_all _ _ (by decide +kernel)
theorem mdc_189 : mDecOK prog_14_method_9_code mCD189 = true := mDw_all _ _ (by decide +kernel)
theorem mdc_190 : mDecOK prog_14_method_42_code mCD190 = true := mDw_all _ _ (by decide +kernel)
theorem mdc_191 : mDecOK prog_14_method_43_code mCD191 = true := mDw_all _ _ (by decide +kernel)
theorem mdc_192 : mDecOK prog_14_method_3_code mCD192 = true := mDw_all _ _ (by decide +kernel)
theorem mdc_193 : mDecOK prog_14_method_4_code mCD193 = true := mDw_all _ _ (by decide +kernel)
theorem mdc_194 : mDecOK prog_14_method_5_code mCD194 = true := mDw_all _ _ (by decide +kernel)
theorem mdc_195_0 : mDecOK prog_14_method_20_code mCD195_0 = true := mDw_all _ _ (by decide +kernel)
theorem mdc_195_1 : mDecOK prog_14_method_20_code mCD195_1 = true := mDw_all _ _ (by decide +kernel)
theorem mdc_195 : mDecOK prog_14_method_20_code mCD195 = true := by
  unfold mCD195 mDecOK
  simp only [List.all_append, Bool.and_eq_true]
  exact ⟨mdc_195_0, mdc_195_1⟩
theorem mdc_196_0 : mDecOK prog_14_method_12_code mCD196_0 = true := mDw_all _ _ (by decide +kernel)
theorem mdc_196_1 : mDecOK prog_14_method_12_code mCD196_1 = true := mDw_all _ _ (by decide +kernel)
theorem mdc_196_2 : mDecOK prog_14_method_12_code mCD196_2 = true := mDw_all _ _ (by decide +kernel)
theorem mdc_196 : mDecOK prog_14_method_12_code mCD196 = true := by
  unfold mCD196 mDecOK
  simp only [List.all_append, Bool.and_eq_true]
  exact ⟨⟨mdc_196_0, mdc_196_1⟩, mdc_196_2⟩
theorem mdc_197 : mDecOK prog_14_method_6_code mCD197 = true := mDw_all _ _ (by decide +kernel)
theorem mdc_198 : mDecOK prog_14_method_11_code mCD198 = true := mDw_all _ _ (by decide +kernel)
theorem mdc_199 : mDecOK prog_14_method_8_code mCD199 = true := mDw_all _ _ (by decide +kernel)
theorem mdc_200 : mDecOK prog_14_method_7_code mCD200 = true := mDw_all _ _ (by decide +kernel)
theorem mdc_201 : mDecOK prog_14_method_13_code mCD201 = true := mDw_all _ _ (by decide +kernel)
theorem mdc_202 : mDecOK prog_14_method_14_code mCD202 = true := mDw_all _ _ (by decide +kernel)
theorem mdc_203_0 : mDecOK prog_14_method_24_code mCD203_0 = true := mDw_all _ _ (by decide +kernel)
theorem mdc_203_1 : mDecOK prog_14_method_24_code mCD203_1 = true := mDw_all _ _ (by decide +kernel)
theorem mdc_203 : mDecOK prog_14_method_24_code mCD203 = true := by
  unfold mCD203 mDecOK
  simp only [List.all_append, Bool.and_eq_true]
  exact ⟨mdc_203_0, mdc_203_1⟩
theorem mdc_204 : mDecOK prog_14_method_22_code mCD204 = true := mDw_all _ _ (by decide +kernel)
theorem mdc_205 : mDecOK prog_14_method_15_code mCD205 = true := mDw_all _ _ (by decide +kernel)
theorem mdc_206 : mDecOK prog_14_method_17_code mCD206 = true := mDw_all _ _ (by decide +kernel)
theorem mdc_207_0 : mDecOK prog_14_method_27_code mCD207_0 = true := mDw_all _ _ (by decide +kernel)
theorem mdc_207_1 : mDecOK prog_14_method_27_code mCD207_1 = true := mDw_all _ _ (by decide +kernel)
theorem mdc_207 : mDecOK prog_14_method_27_code mCD207 = true := by
  unfold mCD207 mDecOK
  simp only [List.all_append, Bool.and_eq_true]
  exact ⟨mdc_207_0, mdc_207_1⟩
theorem mdc_208 : mDecOK prog_14_method_18_code mCD208 = true := mDw_all _ _ (by decide +kernel)
theorem mdc_209 : mDecOK prog_14_method_16_code mCD209 = true := mDw_all _ _ (by decide +kernel)
theorem mdc_210 : mDecOK prog_14_method_26_code mCD210 = true := mDw_all _ _ (by decide +kernel)
theorem mdc_211 : mDecOK prog_14_method_28_code mCD211 = true := mDw_all _ _ (by decide +kernel)
theorem mdc_212 : mDecOK prog_14_method_25_code mCD212 = true := mDw_all _ _ (by decide +kernel)
theorem mdc_213 : mDecOK prog_14_method_23_code mCD213 = true := mDw_all _ _ (by decide +kernel)
theorem mdc_214_0 : mDecOK prog_14_method_29_code mCD214_0 = true := mDw_all _ _ (by decide +kernel)
theorem mdc_214_1 : mDecOK prog_14_method_29_code mCD214_1 = true := mDw_all _ _ (by decide +kernel)
theorem mdc_214 : mDecOK prog_14_method_29_code mCD214 = true := by
  unfold mCD214 mDecOK
  simp only [List.all_append, Bool.and_eq_true]
  exact ⟨mdc_214_0, mdc_214_1⟩
theorem mdc_215_0 : mDecOK prog_14_method_33_code mCD215_0 = true := mDw_all _ _ (by decide +kernel)
theorem mdc_215_1 : mDecOK prog_14_method_33_code mCD215_1 = true := mDw_all _ _ (by decide +kernel)
theorem mdc_215_2 : mDecOK prog_14_method_33_code mCD215_2 = true := mDw_all _ _ (by decide +kernel)
theorem mdc_215 : mDecOK prog_14_method_33_code mCD215 = true := by
  unfold mCD215 mDecOK
  simp only [List.all_append, Bool.and_eq_true]
  exact ⟨⟨mdc_215_0, mdc_215_1⟩, mdc_215_2⟩
theorem mdc_216 : mDecOK prog_14_method_34_code mCD216 = true := mDw_all _ _ (by decide +kernel)
theorem mdc_217 : mDecOK prog_14_method_31_code mCD217 = true := mDw_all _ _ (by decide +kernel)
theorem mdc_218 : mDecOK prog_14_method_32_code mCD218 = true := mDw_all _ _ (by decide +kernel)
theorem mdc_219 : mDecOK prog_14_method_30_code mCD219 = true := mDw_all _ _ (by decide +kernel)
theorem mdc_220 : mDecOK prog_14_method_21_code mCD220 = true := mDw_all _ _ (by decide +kernel)
theorem mdc_221 : mDecOK prog_14_method_67_code mCD221 = true := mDw_all _ _ (by decide +kernel)
theorem mdc_222 : mDecOK prog_14_method_39_code mCD222 = true := mDw_all _ _ (by decide +kernel)
theorem mdc_223 : mDecOK prog_14_method_36_code mCD223 = true := mDw_all _ _ (by decide +kernel)
theorem mdc_224 : mDecOK prog_14_method_44_code mCD224 = true := mDw_all _ _ (by decide +kernel)
theorem mdc_225 : mDecOK prog_14_method_41_code mCD225 = true := mDw_all _ _ (by decide +kernel)
theorem mdc_226 : mDecOK prog_14_method_48_code mCD226 = true := mDw_all _ _ (by decide +kernel)
theorem mdc_227 : mDecOK prog_14_method_50_code mCD227 = true := mDw_all _ _ (by decide +kernel)
theorem mdc_228 : mDecOK prog_14_method_54_code mCD228 = true := mDw_all _ _ (by decide +kernel)
theorem mdc_229 : mDecOK prog_14_method_53_code mCD229 = true := mDw_all _ _ (by decide +kernel)
theorem mdc_230 : mDecOK prog_14_method_49_code mCD230 = true := mDw_all _ _ (by decide +kernel)
theorem mdc_231_0 : mDecOK prog_14_method_52_code mCD231_0 = true := mDw_all _ _ (by decide +kernel)
theorem mdc_231_1 : mDecOK prog_14_method_52_code mCD231_1 = true := mDw_all _ _ (by decide +kernel)
theorem mdc_231 : mDecOK prog_14_method_52_code mCD231 = true := by
  unfold mCD231 mDecOK
  simp only [List.all_append, Bool.and_eq_true]
  exact ⟨mdc_231_0, mdc_231_1⟩
theorem mdc_232_0 : mDecOK prog_14_method_35_code mCD232_0 = true := mDw_all _ _ (by decide +kernel)
theorem mdc_232_1 : mDecOK prog_14_method_35_code mCD232_1 = true := mDw_all _ _ (by decide +kernel)
theorem mdc_232 : mDecOK prog_14_method_35_code mCD232 = true := by
  unfold mCD232 mDecOK
  simp only [List.all_append, Bool.and_eq_true]
  exact ⟨mdc_232_0, mdc_232_1⟩
theorem mdc_233 : mDecOK prog_14_method_37_code mCD233 = true := mDw_all _ _ (by decide +kernel)
theorem mdc_234 : mDecOK prog_14_method_55_code mCD234 = true := mDw_all _ _ (by decide +kernel)
theorem mdc_235 : mDecOK prog_14_method_56_code mCD235 = true := mDw_all _ _ (by decide +kernel)
theorem mdc_236 : mDecOK prog_14_method_69_code mCD236 = true := mDw_all _ _ (by decide +kernel)
theorem mdc_237 : mDecOK prog_14_method_68_code mCD237 = true := mDw_all _ _ (by decide +kernel)
theorem mdc_238 : mDecOK prog_14_method_40_code mCD238 = true := mDw_all _ _ (by decide +kernel)
theorem mdc_239 : mDecOK prog_14_method_70_code mCD239 = true := mDw_all _ _ (by decide +kernel)
theorem mdc_240 : mDecOK prog_14_method_58_code mCD240 = true := mDw_all _ _ (by decide +kernel)
theorem mdc_241 : mDecOK prog_14_method_57_code mCD241 = true := mDw_all _ _ (by decide +kernel)
theorem mdc_242 : mDecOK prog_14_method_71_code mCD242 = true := mDw_all _ _ (by decide +kernel)
theorem mdc_243 : mDecOK prog_14_method_73_code mCD243 = true := mDw_all _ _ (by decide +kernel)
theorem mdc_244 : mDecOK prog_14_method_72_code mCD244 = true := mDw_all _ _ (by decide +kernel)
theorem mdc_245 : mDecOK prog_14_method_51_code mCD245 = true := mDw_all _ _ (by decide +kernel)
theorem mdc_246 : mDecOK prog_14_method_74_code mCD246 = true := mDw_all _ _ (by decide +kernel)
theorem mdc_247 : mDecOK prog_14_method_63_code mCD247 = true := mDw_all _ _ (by decide +kernel)
theorem mdc_248 : mDecOK prog_14_method_76_code mCD248 = true := mDw_all _ _ (by decide +kernel)
theorem mdc_249 : mDecOK prog_14_method_75_code mCD249 = true := mDw_all _ _ (by decide +kernel)
theorem mdc_250 : mDecOK prog_14_method_62_code mCD250 = true := mDw_all _ _ (by decide +kernel)
theorem mdc_251 : mDecOK prog_14_method_60_code mCD251 = true := mDw_all _ _ (by decide +kernel)
theorem mdc_252 : mDecOK prog_14_method_59_code mCD252 = true := mDw_all _ _ (by decide +kernel)
theorem mdc_253 : mDecOK prog_14_method_78_code mCD253 = true := mDw_all _ _ (by decide +kernel)
theorem mdc_254 : mDecOK prog_14_method_77_code mCD254 = true := mDw_all _ _ (by decide +kernel)
theorem mdc_255 : mDecOK prog_14_method_66_code mCD255 = true := mDw_all _ _ (by decide +kernel)
theorem mdc_256_0 : mDecOK prog_14_method_65_code mCD256_0 = true := mDw_all _ _ (by decide +kernel)
theorem mdc_256_1 : mDecOK prog_14_method_65_code mCD256_1 = true := mDw_all _ _ (by decide +kernel)
theorem mdc_256 : mDecOK prog_14_method_65_code mCD256 = true := by
  unfold mCD256 mDecOK
  simp only [List.all_append, Bool.and_eq_true]
  exact ⟨mdc_256_0, mdc_256_1⟩
theorem mdc_257 : mDecOK prog_14_method_64_code mCD257 = true := mDw_all _ _ (by decide +kernel)
theorem mdc_258 : mDecOK prog_14_method_47_code mCD258 = true := mDw_all _ _ (by decide +kernel)
theorem mdc_259 : mDecOK prog_14_method_46_code mCD259 = true := mDw_all _ _ (by decide +kernel)
theorem mdc_260 : mDecOK prog_14_method_79_code mCD260 = true := mDw_all _ _ (by decide +kernel)
theorem mdc_261 : mDecOK prog_14_method_81_code mCD261 = true := mDw_all _ _ (by decide +kernel)
theorem mdc_262 : mDecOK prog_14_method_80_code mCD262 = true := mDw_all _ _ (by decide +kernel)
theorem mdc_263 : mDecOK prog_14_method_61_code mCD263 = true := mDw_all _ _ (by decide +kernel)
theorem mdc_264 : mDecOK prog_14_method_82_code mCD264 = true := mDw_all _ _ (by decide +kernel)
theorem mdc_265 : mDecOK prog_14_method_83_code mCD265 = true := mDw_all _ _ (by decide +kernel)
theorem mdc_266 : mDecOK prog_14_method_84_code mCD266 = true := mDw_all _ _ (by decide +kernel)
theorem mdc_267 : mDecOK prog_14_method_45_code mCD267 = true := mDw_all _ _ (by decide +kernel)
theorem mdc_268 : mDecOK prog_14_method_85_code mCD268 = true := mDw_all _ _ (by decide +kernel)
theorem mdc_269 : mDecOK prog_14_method_86_code mCD269 = true := mDw_all _ _ (by decide +kernel)
theorem mdc_270 : mDecOK prog_14_method_87_code mCD270 = true := mDw_all _ _ (by decide +kernel)
theorem mdc_271 : mDecOK prog_14_method_88_code mCD271 = true := mDw_all _ _ (by decide +kernel)
theorem mdc_272 : mDecOK prog_14_method_94_code mCD272 = true := mDw_all _ _ (by decide +kernel)
theorem mdc_273_0 : mDecOK prog_14_method_89_code mCD273_0 = true := mDw_all _ _ (by decide +kernel)
theorem mdc_273_1 : mDecOK prog_14_method_89_code mCD273_1 = true := mDw_all _ _ (by decide +kernel)
theorem mdc_273 : mDecOK prog_14_method_89_code mCD273 = true := by
  unfold mCD273 mDecOK
  simp only [List.all_append, Bool.and_eq_true]
  exact ⟨mdc_273_0, mdc_273_1⟩
theorem mdc_274 : mDecOK prog_14_method_92_code mCD274 = true := mDw_all _ _ (by decide +kernel)
theorem mdc_275 : mDecOK prog_14_method_91_code mCD275 = true := mDw_all _ _ (by decide +kernel)
theorem mdc_276 : mDecOK prog_14_method_90_code mCD276 = true := mDw_all _ _ (by decide +kernel)
theorem mdc_277_0 : mDecOK prog_14_method_93_code mCD277_0 = true := mDw_all _ _ (by decide +kernel)
theorem mdc_277_1 : mDecOK prog_14_method_93_code mCD277_1 = true := mDw_all _ _ (by decide +kernel)
theorem mdc_277 : mDecOK prog_14_method_93_code mCD277 = true := by
  unfold mCD277 mDecOK
  simp only [List.all_append, Bool.and_eq_true]
  exact ⟨mdc_277_0, mdc_277_1⟩
theorem mdc_278 : mDecOK prog_14_method_96_code mCD278 = true := mDw_all _ _ (by decide +kernel)
theorem mdc_279 : mDecOK prog_14_method_95_code mCD279 = true := mDw_all _ _ (by decide +kernel)
theorem mdc_280 : mDecOK prog_14_method_98_code mCD280 = true := mDw_all _ _ (by decide +kernel)
theorem mdc_281 : mDecOK prog_14_method_97_code mCD281 = true := mDw_all _ _ (by decide +kernel)
theorem mdc_282 : mDecOK prog_14_method_99_code mCD282 = true := mDw_all _ _ (by decide +kernel)
theorem mdc_283 : mDecOK prog_14_method_100_code mCD283 = true := mDw_all _ _ (by decide +kernel)
theorem mdc_284_0 : mDecOK prog_14_method_104_code mCD284_0 = true := mDw_all _ _ (by decide +kernel)
theorem mdc_284_1 : mDecOK prog_14_method_104_code mCD284_1 = true := mDw_all _ _ (by decide +kernel)
theorem mdc_284 : mDecOK prog_14_method_104_code mCD284 = true := by
  unfold mCD284 mDecOK
  simp only [List.all_append, Bool.and_eq_true]
  exact ⟨mdc_284_0, mdc_284_1⟩
theorem mdc_285 : mDecOK prog_14_method_102_code mCD285 = true := mDw_all _ _ (by decide +kernel)
theorem mdc_286 : mDecOK prog_14_method_101_code mCD286 = true := mDw_all _ _ (by decide +kernel)
theorem mdc_287 : mDecOK prog_14_method_103_code mCD287 = true := mDw_all _ _ (by decide +kernel)
theorem mdc_288 : mDecOK prog_14_method_110_code mCD288 = true := mDw_all _ _ (by decide +kernel)
theorem mdc_289 : mDecOK prog_14_method_105_code mCD289 = true := mDw_all _ _ (by decide +kernel)
theorem mdc_290 : mDecOK prog_14_method_109_code mCD290 = true := mDw_all _ _ (by decide +kernel)
theorem mdc_291 : mDecOK prog_14_method_108_code mCD291 = true := mDw_all _ _ (by decide +kernel)
theorem mdc_292 : mDecOK prog_14_method_106_code mCD292 = true := mDw_all _ _ (by decide +kernel)
theorem mdc_293 : mDecOK prog_14_method_107_code mCD293 = true := mDw_all _ _ (by decide +kernel)
theorem mdc_294 : mDecOK prog_14_method_38_code mCD294 = true := mDw_all _ _ (by decide +kernel)
theorem mdc_295 : mDecOK prog_14_method_111_code mCD295 = true := mDw_all _ _ (by decide +kernel)
theorem mdc_296 : mDecOK prog_14_method_113_code mCD296 = true := mDw_all _ _ (by decide +kernel)
theorem mdc_297 : mDecOK prog_14_method_112_code mCD297 = true := mDw_all _ _ (by decide +kernel)
theorem mdc_298 : mDecOK prog_14_method_114_code mCD298 = true := mDw_all _ _ (by decide +kernel)
theorem mdc_299 : mDecOK prog_14_method_116_code mCD299 = true := mDw_all _ _ (by decide +kernel)
theorem mdc_300 : mDecOK prog_14_method_115_code mCD300 = true := mDw_all _ _ (by decide +kernel)
theorem mdc_301 : mDecOK prog_14_method_117_code mCD301 = true := mDw_all _ _ (by decide +kernel)
theorem mdc_302 : mDecOK prog_14_method_118_code mCD302 = true := mDw_all _ _ (by decide +kernel)
theorem mdc_303 : mDecOK prog_14_method_122_code mCD303 = true := mDw_all _ _ (by decide +kernel)
theorem mdc_304 : mDecOK prog_14_method_121_code mCD304 = true := mDw_all _ _ (by decide +kernel)
theorem mdc_305 : mDecOK prog_14_method_119_code mCD305 = true := mDw_all _ _ (by decide +kernel)
theorem mdc_306_0 : mDecOK prog_14_method_120_code mCD306_0 = true := mDw_all _ _ (by decide +kernel)
theorem mdc_306_1 : mDecOK prog_14_method_120_code mCD306_1 = true := mDw_all _ _ (by decide +kernel)
theorem mdc_306 : mDecOK prog_14_method_120_code mCD306 = true := by
  unfold mCD306 mDecOK
  simp only [List.all_append, Bool.and_eq_true]
  exact ⟨mdc_306_0, mdc_306_1⟩
theorem mdc_307_0 : mDecOK prog_14_method_123_code mCD307_0 = true := mDw_all _ _ (by decide +kernel)
theorem mdc_307_1 : mDecOK prog_14_method_123_code mCD307_1 = true := mDw_all _ _ (by decide +kernel)
theorem mdc_307 : mDecOK prog_14_method_123_code mCD307 = true := by
  unfold mCD307 mDecOK
  simp only [List.all_append, Bool.and_eq_true]
  exact ⟨mdc_307_0, mdc_307_1⟩
theorem mdc_308 : mDecOK prog_14_method_124_code mCD308 = true := mDw_all _ _ (by decide +kernel)
theorem mdc_309 : mDecOK prog_14_method_125_code mCD309 = true := mDw_all _ _ (by decide +kernel)
theorem mdc_310_0 : mDecOK prog_14_method_127_code mCD310_0 = true := mDw_all _ _ (by decide +kernel)
theorem mdc_310_1 : mDecOK prog_14_method_127_code mCD310_1 = true := mDw_all _ _ (by decide +kernel)
theorem mdc_310_2 : mDecOK prog_14_method_127_code mCD310_2 = true := mDw_all _ _ (by decide +kernel)
theorem mdc_310 : mDecOK prog_14_method_127_code mCD310 = true := by
  unfold mCD310 mDecOK
  simp only [List.all_append, Bool.and_eq_true]
  exact ⟨⟨mdc_310_0, mdc_310_1⟩, mdc_310_2⟩
theorem mdc_311 : mDecOK prog_14_method_126_code mCD311 = true := mDw_all _ _ (by decide +kernel)
set_option maxRecDepth 100000 in
theorem mdec_ok {y : Nat} {q : mM} (h : mME y = some q) : mDecOK (myB y) q.2.2.2.2.2.2 = true := by
  have hy : y < 312 := by rw [← mme_len]; exact (List.getElem?_eq_some_iff.mp h).1
  match y, hy, h with
  | 0, _, h => cases h; exact mdc_0
  | 1, _, h => cases h; exact mdc_1
  | 2, _, h => cases h; exact mdc_2
  | 3, _, h => cases h; exact mdc_3
  | 4, _, h => cases h; exact mdc_4
  | 5, _, h => cases h; exact mdc_5
  | 6, _, h => cases h; exact mdc_6
  | 7, _, h => cases h; exact mdc_7
  | 8, _, h => cases h; exact mdc_8
  | 9, _, h => cases h; exact mdc_9
  | 10, _, h => cases h; exact mdc_10
  | 11, _, h => cases h; exact mdc_11
  | 12, _, h => cases h; exact mdc_12
  | 13, _, h => cases h; exact mdc_13
  | 14, _, h => cases h; exact mdc_14
  | 15, _, h => cases h; exact mdc_15
  | 16, _, h => cases h; exact mdc_16
  | 17, _, h => cases h; exact mdc_17
  | 18, _, h => cases h; exact mdc_18
  | 19, _, h => cases h; exact mdc_19
  | 20, _, h => cases h; exact mdc_20
  | 21, _, h => cases h; exact mdc_21
  | 22, _, h => cases h; exact mdc_22
  | 23, _, h => cases h; exact mdc_23
  | 24, _, h => cases h; exact mdc_24
  | 25, _, h => cases h; exact mdc_25
  | 26, _, h => cases h; exact mdc_26
  | 27, _, h => cases h; exact mdc_27
  | 28, _, h => cases h; exact mdc_28
  | 29, _, h => cases h; exact mdc_29
  | 30, _, h => cases h; exact mdc_30
  | 31, _, h => cases h; exact mdc_31
  | 32, _, h => cases h; exact mdc_32
  | 33, _, h => cases h; exact mdc_33
  | 34, _, h => cases h; exact mdc_34
  | 35, _, h => cases h; exact mdc_35
  | 36, _, h => cases h; exact mdc_36
  | 37, _, h => cases h; exact mdc_37
  | 38, _, h => cases h; exact mdc_38
  | 39, _, h => cases h; exact mdc_39
  | 40, _, h => cases h; exact mdc_40
  | 41, _, h => cases h; exact mdc_41
  | 42, _, h => cases h; exact mdc_42
  | 43, _, h => cases h; exact mdc_43
  | 44, _, h => cases h; exact mdc_44
  | 45, _, h => cases h; exact mdc_45
  | 46, _, h => cases h; exact mdc_46
  | 47, _, h => cases h; exact mdc_47
  | 48, _, h => cases h; exact mdc_48
  | 49, _, h => cases h; exact mdc_49
  | 50, _, h => cases h; exact mdc_50
  | 51, _, h => cases h; exact mdc_51
  | 52, _, h => cases h; exact mdc_52
  | 53, _, h => cases h; exact mdc_53
  | 54, _, h => cases h; exact mdc_54
  | 55, _, h => cases h; exact mdc_55
  | 56, _, h => cases h; exact mdc_56
  | 57, _, h => cases h; exact mdc_57
  | 58, _, h => cases h; exact mdc_58
  | 59, _, h => cases h; exact mdc_59
  | 60, _, h => cases h; exact mdc_60
  | 61, _, h => cases h; exact mdc_61
  | 62, _, h => cases h; exact mdc_62
  | 63, _, h => cases h; exact mdc_63
  | 64, _, h => cases h; exact mdc_64
  | 65, _, h => cases h; exact mdc_65
  | 66, _, h => cases h; exact mdc_66
  | 67, _, h => cases h; exact mdc_67
  | 68, _, h => cases h; exact mdc_68
  | 69, _, h => cases h; exact mdc_69
  | 70, _, h => cases h; exact mdc_70
  | 71, _, h => cases h; exact mdc_71
  | 72, _, h => cases h; exact mdc_72
  | 73, _, h => cases h; exact mdc_73
  | 74, _, h => cases h; exact mdc_74
  | 75, _, h => cases h; exact mdc_75
  | 76, _, h => cases h; exact mdc_76
  | 77, _, h => cases h; exact mdc_77
  | 78, _, h => cases h; exact mdc_78
  | 79, _, h => cases h; exact mdc_79
  | 80, _, h => cases h; exact mdc_80
  | 81, _, h => cases h; exact mdc_81
  | 82, _, h => cases h; exact mdc_82
  | 83, _, h => cases h; exact mdc_83
  | 84, _, h => cases h; exact mdc_84
  | 85, _, h => cases h; exact mdc_85
  | 86, _, h => cases h; exact mdc_86
  | 87, _, h => cases h; exact mdc_87
  | 88, _, h => cases h; exact mdc_88
  | 89, _, h => cases h; exact mdc_89
  | 90, _, h => cases h; exact mdc_90
  | 91, _, h => cases h; exact mdc_91
  | 92, _, h => cases h; exact mdc_92
  | 93, _, h => cases h; exact mdc_93
  | 94, _, h => cases h; exact mdc_94
  | 95, _, h => cases h; exact mdc_95
  | 96, _, h => cases h; exact mdc_96
  | 97, _, h => cases h; exact mdc_97
  | 98, _, h => cases h; exact mdc_98
  | 99, _, h => cases h; exact mdc_99
  | 100, _, h => cases h; exact mdc_100
  | 101, _, h => cases h; exact mdc_101
  | 102, _, h => cases h; exact mdc_102
  | 103, _, h => cases h; exact mdc_103
  | 104, _, h => cases h; exact mdc_104
  | 105, _, h => cases h; exact mdc_105
  | 106, _, h => cases h; exact mdc_106
  | 107, _, h => cases h; exact mdc_107
  | 108, _, h => cases h; exact mdc_108
  | 109, _, h => cases h; exact mdc_109
  | 110, _, h => cases h; exact mdc_110
  | 111, _, h => cases h; exact mdc_111
  | 112, _, h => cases h; exact mdc_112
  | 113, _, h => cases h; exact mdc_113
  | 114, _, h => cases h; exact mdc_114
  | 115, _, h => cases h; exact mdc_115
  | 116, _, h => cases h; exact mdc_116
  | 117, _, h => cases h; exact mdc_117
  | 118, _, h => cases h; exact mdc_118
  | 119, _, h => cases h; exact mdc_119
  | 120, _, h => cases h; exact mdc_120
  | 121, _, h => cases h; exact mdc_121
  | 122, _, h => cases h; exact mdc_122
  | 123, _, h => cases h; exact mdc_123
  | 124, _, h => cases h; exact mdc_124
  | 125, _, h => cases h; exact mdc_125
  | 126, _, h => cases h; exact mdc_126
  | 127, _, h => cases h; exact mdc_127
  | 128, _, h => cases h; exact mdc_128
  | 129, _, h => cases h; exact mdc_129
  | 130, _, h => cases h; exact mdc_130
  | 131, _, h => cases h; exact mdc_131
  | 132, _, h => cases h; exact mdc_132
  | 133, _, h => cases h; exact mdc_133
  | 134, _, h => cases h; exact mdc_134
  | 135, _, h => cases h; exact mdc_135
  | 136, _, h => cases h; exact mdc_136
  | 137, _, h => cases h; exact mdc_137
  | 138, _, h => cases h; exact mdc_138
  | 139, _, h => cases h; exact mdc_139
  | 140, _, h => cases h; exact mdc_140
  | 141, _, h => cases h; exact mdc_141
  | 142, _, h => cases h; exact mdc_142
  | 143, _, h => cases h; exact mdc_143
  | 144, _, h => cases h; exact mdc_144
  | 145, _, h => cases h; exact mdc_145
  | 146, _, h => cases h; exact mdc_146
  | 147, _, h => cases h; exact mdc_147
  | 148, _, h => cases h; exact mdc_148
  | 149, _, h => cases h; exact mdc_149
  | 150, _, h => cases h; exact mdc_150
  | 151, _, h => cases h; exact mdc_151
  | 152, _, h => cases h; exact mdc_152
  | 153, _, h => cases h; exact mdc_153
  | 154, _, h => cases h; exact mdc_154
  | 155, _, h => cases h; exact mdc_155
  | 156, _, h => cases h; exact mdc_156
  | 157, _, h => cases h; exact mdc_157
  | 158, _, h => cases h; exact mdc_158
  | 159, _, h => cases h; exact mdc_159
  | 160, _, h => cases h; exact mdc_160
  | 161, _, h => cases h; exact mdc_161
  | 162, _, h => cases h; exact mdc_162
  | 163, _, h => cases h; exact mdc_163
  | 164, _, h => cases h; exact mdc_164
  | 165, _, h => cases h; exact mdc_165
  | 166, _, h => cases h; exact mdc_166
  | 167, _, h => cases h; exact mdc_167
  | 168, _, h => cases h; exact mdc_168
  | 169, _, h => cases h; exact mdc_169
  | 170, _, h => cases h; exact mdc_170
  | 171, _, h => cases h; exact mdc_171
  | 172, _, h => cases h; exact mdc_172
  | 173, _, h => cases h; exact mdc_173
  | 174, _, h => cases h; exact mdc_174
  | 175, _, h => cases h; exact mdc_175
  | 176, _, h => cases h; exact mdc_176
  | 177, _, h => cases h; exact mdc_177
  | 178, _, h => cases h; exact mdc_178
  | 179, _, h => cases h; exact mdc_179
  | 180, _, h => cases h; exact mdc_180
  | 181, _, h => cases h; exact mdc_181
  | 182, _, h => cases h; exact mdc_182
  | 183, _, h => cases h; exact mdc_183
  | 184, _, h => cases h; exact mdc_184
  | 185, _, h => cases h; exact mdc_185
  | 186, _, h => cases h; exact mdc_186
  | 187, _, h => cases h; exact mdc_187
  | 188, _, h => cases h; exact mdc_188
  | 189, _, h => cases h; exact mdc_189
  | 190, _, h => cases h; exact mdc_190
  | 191, _, h => cases h; exact mdc_191
  | 192, _, h => cases h; exact mdc_192
  | 193, _, h => cases h; exact mdc_193
  | 194, _, h => cases h; exact mdc_194
  | 195, _, h => cases h; exact mdc_195
  | 196, _, h => cases h; exact mdc_196
  | 197, _, h => cases h; exact mdc_197
  | 198, _, h => cases h; exact mdc_198
  | 199, _, h => cases h; exact mdc_199
  | 200, _, h => cases h; exact mdc_200
  | 201, _, h => cases h; exact mdc_201
  | 202, _, h => cases h; exact mdc_202
  | 203, _, h => cases h; exact mdc_203
  | 204, _, h => cases h; exact mdc_204
  | 205, _, h => cases h; exact mdc_205
  | 206, _, h => cases h; exact mdc_206
  | 207, _, h => cases h; exact mdc_207
  | 208, _, h => cases h; exact mdc_208
  | 209, _, h => cases h; exact mdc_209
  | 210, _, h => cases h; exact mdc_210
  | 211, _, h => cases h; exact mdc_211
  | 212, _, h => cases h; exact mdc_212
  | 213, _, h => cases h; exact mdc_213
  | 214, _, h => cases h; exact mdc_214
  | 215, _, h => cases h; exact mdc_215
  | 216, _, h => cases h; exact mdc_216
  | 217, _, h => cases h; exact mdc_217
  | 218, _, h => cases h; exact mdc_218
  | 219, _, h => cases h; exact mdc_219
  | 220, _, h => cases h; exact mdc_220
  | 221, _, h => cases h; exact mdc_221
  | 222, _, h => cases h; exact mdc_222
  | 223, _, h => cases h; exact mdc_223
  | 224, _, h => cases h; exact mdc_224
  | 225, _, h => cases h; exact mdc_225
  | 226, _, h => cases h; exact mdc_226
  | 227, _, h => cases h; exact mdc_227
  | 228, _, h => cases h; exact mdc_228
  | 229, _, h => cases h; exact mdc_229
  | 230, _, h => cases h; exact mdc_230
  | 231, _, h => cases h; exact mdc_231
  | 232, _, h => cases h; exact mdc_232
  | 233, _, h => cases h; exact mdc_233
  | 234, _, h => cases h; exact mdc_234
  | 235, _, h => cases h; exact mdc_235
  | 236, _, h => cases h; exact mdc_236
  | 237, _, h => cases h; exact mdc_237
  | 238, _, h => cases h; exact mdc_238
  | 239, _, h => cases h; exact mdc_239
  | 240, _, h => cases h; exact mdc_240
  | 241, _, h => cases h; exact mdc_241
  | 242, _, h => cases h; exact mdc_242
  | 243, _, h => cases h; exact mdc_243
  | 244, _, h => cases h; exact mdc_244
  | 245, _, h => cases h; exact mdc_245
  | 246, _, h => cases h; exact mdc_246
  | 247, _, h => cases h; exact mdc_247
  | 248, _, h => cases h; exact mdc_248
  | 249, _, h => cases h; exact mdc_249
  | 250, _, h => cases h; exact mdc_250
  | 251, _, h => cases h; exact mdc_251
  | 252, _, h => cases h; exact mdc_252
  | 253, _, h => cases h; exact mdc_253
  | 254, _, h => cases h; exact mdc_254
  | 255, _, h => cases h; exact mdc_255
  | 256, _, h => cases h; exact mdc_256
  | 257, _, h => cases h; exact mdc_257
  | 258, _, h => cases h; exact mdc_258
  | 259, _, h => cases h; exact mdc_259
  | 260, _, h => cases h; exact mdc_260
  | 261, _, h => cases h; exact mdc_261
  | 262, _, h => cases h; exact mdc_262
  | 263, _, h => cases h; exact mdc_263
  | 264, _, h => cases h; exact mdc_264
  | 265, _, h => cases h; exact mdc_265
  | 266, _, h => cases h; exact mdc_266
  | 267, _, h => cases h; exact mdc_267
  | 268, _, h => cases h; exact mdc_268
  | 269, _, h => cases h; exact mdc_269
  | 270, _, h => cases h; exact mdc_270
  | 271, _, h => cases h; exact mdc_271
  | 272, _, h => cases h; exact mdc_272
  | 273, _, h => cases h; exact mdc_273
  | 274, _, h => cases h; exact mdc_274
  | 275, _, h => cases h; exact mdc_275
  | 276, _, h => cases h; exact mdc_276
  | 277, _, h => cases h; exact mdc_277
  | 278, _, h => cases h; exact mdc_278
  | 279, _, h => cases h; exact mdc_279
  | 280, _, h => cases h; exact mdc_280
  | 281, _, h => cases h; exact mdc_281
  | 282, _, h => cases h; exact mdc_282
  | 283, _, h => cases h; exact mdc_283
  | 284, _, h => cases h; exact mdc_284
  | 285, _, h => cases h; exact mdc_285
  | 286, _, h => cases h; exact mdc_286
  | 287, _, h => cases h; exact mdc_287
  | 288, _, h => cases h; exact mdc_288
  | 289, _, h => cases h; exact mdc_289
  | 290, _, h => cases h; exact mdc_290
  | 291, _, h => cases h; exact mdc_291
  | 292, _, h => cases h; exact mdc_292
  | 293, _, h => cases h; exact mdc_293
  | 294, _, h => cases h; exact mdc_294
  | 295, _, h => cases h; exact mdc_295
  | 296, _, h => cases h; exact mdc_296
  | 297, _, h => cases h; exact mdc_297
  | 298, _, h => cases h; exact mdc_298
  | 299, _, h => cases h; exact mdc_299
  | 300, _, h => cases h; exact mdc_300
  | 301, _, h => cases h; exact mdc_301
  | 302, _, h => cases h; exact mdc_302
  | 303, _, h => cases h; exact mdc_303
  | 304, _, h => cases h; exact mdc_304
  | 305, _, h => cases h; exact mdc_305
  | 306, _, h => cases h; exact mdc_306
  | 307, _, h => cases h; exact mdc_307
  | 308, _, h => cases h; exact mdc_308
  | 309, _, h => cases h; exact mdc_309
  | 310, _, h => cases h; exact mdc_310
  | 311, _, h => cases h; exact mdc_311
  | k + 312, hy, _ => exact absurd hy (by omega)
