/-! ===== what is decided of the tables, by program: the methods' words ===== -/
set_option maxRecDepth 100000 in
theorem mmo_0 : (List.range' 0 8).all mMethOK = true := by decide +kernel
set_option maxRecDepth 100000 in
theorem mmo_8 : (List.range' 8 8).all mMethOK = true := by decide +kernel
set_option maxRecDepth 100000 in
theorem mmo_16 : (List.range' 16 8).all mMethOK = true := by decide +kernel
set_option maxRecDepth 100000 in
theorem mmo_24 : (List.range' 24 8).all mMethOK = true := by decide +kernel
set_option maxRecDepth 100000 in
theorem mmo_32 : (List.range' 32 8).all mMethOK = true := by decide +kernel
set_option maxRecDepth 100000 in
theorem mmo_40 : (List.range' 40 8).all mMethOK = true := by decide +kernel
set_option maxRecDepth 100000 in
theorem mmo_48 : (List.range' 48 8).all mMethOK = true := by decide +kernel
set_option maxRecDepth 100000 in
theorem mmo_56 : (List.range' 56 8).all mMethOK = true := by decide +kernel
set_option maxRecDepth 100000 in
theorem mmo_64 : (List.range' 64 8).all mMethOK = true := by decide +kernel
set_option maxRecDepth 100000 in
theorem mmo_72 : (List.range' 72 8).all mMethOK = true := by decide +kernel
set_option maxRecDepth 100000 in
theorem mmo_80 : (List.range' 80 8).all mMethOK = true := by decide +kernel
set_option maxRecDepth 100000 in
theorem mmo_88 : (List.range' 88 8).all mMethOK = true := by decide +kernel
set_option maxRecDepth 100000 in
theorem mmo_96 : (List.range' 96 8).all mMethOK = true := by decide +kernel
set_option maxRecDepth 100000 in
theorem mmo_104 : (List.range' 104 8).all mMethOK = true := by decide +kernel
set_option maxRecDepth 100000 in
theorem mmo_112 : (List.range' 112 8).all mMethOK = true := by decide +kernel
set_option maxRecDepth 100000 in
theorem mmo_120 : (List.range' 120 8).all mMethOK = true := by decide +kernel
set_option maxRecDepth 100000 in
theorem mmo_128 : (List.range' 128 8).all mMethOK = true := by decide +kernel
set_option maxRecDepth 100000 in
theorem mmo_136 : (List.range' 136 8).all mMethOK = true := by decide +kernel
set_option maxRecDepth 100000 in
theorem mmo_144 : (List.range' 144 8).all mMethOK = true := by decide +kernel
set_option maxRecDepth 100000 in
theorem mmo_152 : (List.range' 152 8).all mMethOK = true := by decide +kernel
set_option maxRecDepth 100000 in
theorem mmo_160 : (List.range' 160 8).all mMethOK = true := by decide +kernel
set_option maxRecDepth 100000 in
theorem mmo_168 : (List.range' 168 8).all mMethOK = true := by decide +kernel
set_option maxRecDepth 100000 in
theorem mmo_176 : (List.range' 176 8).all mMethOK = true := by decide +kernel
set_option maxRecDepth 100000 in
theorem mmo_184 : (List.range' 184 8).all mMethOK = true := by decide +kernel
set_option maxRecDepth 100000 in
theorem mmo_192 : (List.range' 192 8).all mMethOK = true := by decide +kernel
set_option maxRecDepth 100000 in
theorem mmo_200 : (List.range' 200 8).all mMethOK = true := by decide +kernel
set_option maxRecDepth 100000 in
theorem mmo_208 : (List.range' 208 8).all mMethOK = true := by decide +kernel
set_option maxRecDepth 100000 in
theorem mmo_216 : (List.range' 216 8).all mMethOK = true := by decide +kernel
set_option maxRecDepth 100000 in
theorem mmo_224 : (List.range' 224 8).all mMethOK = true := by decide +kernel
set_option maxRecDepth 100000 in
theorem mmo_232 : (List.range' 232 8).all mMethOK = true := by decide +kernel
set_option maxRecDepth 100000 in
theorem mmo_240 : (List.range' 240 8).all mMethOK = true := by decide +kernel
set_option maxRecDepth 100000 in
theorem mmo_248 : (List.range' 248 8).all mMethOK = true := by decide +kernel
set_option maxRecDepth 100000 in
theorem mmo_256 : (List.range' 256 8).all mMethOK = true := by decide +kernel
set_option maxRecDepth 100000 in
theorem mmo_264 : (List.range' 264 8).all mMethOK = true := by decide +kernel
set_option maxRecDepth 100000 in
theorem mmo_272 : (List.range' 272 8).all mMethOK = true := by decide +kernel
set_option maxRecDepth 100000 in
theorem mmo_280 : (List.range' 280 8).all mMethOK = true := by decide +kernel
set_option maxRecDepth 100000 in
theorem mmo_288 : (List.range' 288 8).all mMethOK = true := by decide +kernel
set_option maxRecDepth 100000 in
theorem mmo_296 : (List.range' 296 8).all mMethOK = true := by decide +kernel
set_option maxRecDepth 100000 in
theorem mmo_304 : (List.range' 304 8).all mMethOK = true := by decide +kernel
set_option maxRecDepth 100000 in
theorem mcq_1 : mcw 1 ∈ mWS := List.mem_filter.mpr ⟨mtb_in 5 _ (List.mem_of_getElem? (i := 11) rfl), rfl⟩
set_option maxRecDepth 100000 in
theorem mcq_2 : mcw 2 ∈ mWS := List.mem_filter.mpr ⟨mtb_in 1 _ (List.mem_of_getElem? (i := 107) rfl), rfl⟩
set_option maxRecDepth 100000 in
theorem mcq_3 : mcw 3 ∈ mWS := List.mem_filter.mpr ⟨mtb_in 3 _ (List.mem_of_getElem? (i := 73) rfl), rfl⟩
set_option maxRecDepth 100000 in
theorem mcq_4 : mcw 4 ∈ mWS := List.mem_filter.mpr ⟨mtb_in 3 _ (List.mem_of_getElem? (i := 77) rfl), rfl⟩
set_option maxRecDepth 100000 in
theorem mcq_5 : mcw 5 ∈ mWS := List.mem_filter.mpr ⟨mtb_in 3 _ (List.mem_of_getElem? (i := 87) rfl), rfl⟩
set_option maxRecDepth 100000 in
theorem mcq_6 : mcw 6 ∈ mWS := List.mem_filter.mpr ⟨mtb_in 3 _ (List.mem_of_getElem? (i := 91) rfl), rfl⟩
set_option maxRecDepth 100000 in
theorem mcq_7 : mcw 7 ∈ mWS := List.mem_filter.mpr ⟨mtb_in 3 _ (List.mem_of_getElem? (i := 94) rfl), rfl⟩
set_option maxRecDepth 100000 in
theorem mcq_8 : mcw 8 ∈ mWS := List.mem_filter.mpr ⟨mtb_in 3 _ (List.mem_of_getElem? (i := 97) rfl), rfl⟩
set_option maxRecDepth 100000 in
theorem mcq_9 : mcw 9 ∈ mWS := List.mem_filter.mpr ⟨mtb_in 3 _ (List.mem_of_getElem? (i := 102) rfl), rfl⟩
set_option maxRecDepth 100000 in
theorem mcq_10 : mcw 10 ∈ mWS := List.mem_filter.mpr ⟨mtb_in 3 _ (List.mem_of_getElem? (i := 134) rfl), rfl⟩
set_option maxRecDepth 100000 in
theorem mcq_11 : mcw 11 ∈ mWS := List.mem_filter.mpr ⟨mtb_in 3 _ (List.mem_of_getElem? (i := 138) rfl), rfl⟩
set_option maxRecDepth 100000 in
theorem mcq_12 : mcw 12 ∈ mWS := List.mem_filter.mpr ⟨mtb_in 3 _ (List.mem_of_getElem? (i := 142) rfl), rfl⟩
set_option maxRecDepth 100000 in
theorem mcq_13 : mcw 13 ∈ mWS := List.mem_filter.mpr ⟨mtb_in 3 _ (List.mem_of_getElem? (i := 145) rfl), rfl⟩
set_option maxRecDepth 100000 in
theorem mcq_14 : mcw 14 ∈ mWS := List.mem_filter.mpr ⟨mtb_in 3 _ (List.mem_of_getElem? (i := 154) rfl), rfl⟩
set_option maxRecDepth 100000 in
theorem mcq_15 : mcw 15 ∈ mWS := List.mem_filter.mpr ⟨mtb_in 2 _ (List.mem_of_getElem? (i := 179) rfl), rfl⟩
set_option maxRecDepth 100000 in
theorem mcq_16 : mcw 16 ∈ mWS := List.mem_filter.mpr ⟨mtb_in 5 _ (List.mem_of_getElem? (i := 203) rfl), rfl⟩
set_option maxRecDepth 100000 in
theorem mcq_17 : mcw 17 ∈ mWS := List.mem_filter.mpr ⟨mtb_in 5 _ (List.mem_of_getElem? (i := 222) rfl), rfl⟩
set_option maxRecDepth 100000 in
theorem mcq_18 : mcw 18 ∈ mWS := List.mem_filter.mpr ⟨mtb_in 5 _ (List.mem_of_getElem? (i := 226) rfl), rfl⟩
set_option maxRecDepth 100000 in
theorem mcq_19 : mcw 19 ∈ mWS := List.mem_filter.mpr ⟨mtb_in 5 _ (List.mem_of_getElem? (i := 233) rfl), rfl⟩
set_option maxRecDepth 100000 in
theorem mcq_20 : mcw 20 ∈ mWS := List.mem_filter.mpr ⟨mtb_in 5 _ (List.mem_of_getElem? (i := 236) rfl), rfl⟩
set_option maxRecDepth 100000 in
theorem mcq_21 : mcw 21 ∈ mWS := List.mem_filter.mpr ⟨mtb_in 6 _ (List.mem_of_getElem? (i := 0) rfl), rfl⟩
set_option maxRecDepth 100000 in
theorem mcq_22 : mcw 22 ∈ mWS := List.mem_filter.mpr ⟨mtb_in 6 _ (List.mem_of_getElem? (i := 8) rfl), rfl⟩
set_option maxRecDepth 100000 in
theorem mcq_23 : mcw 23 ∈ mWS := List.mem_filter.mpr ⟨mtb_in 2 _ (List.mem_of_getElem? (i := 74) rfl), rfl⟩
set_option maxRecDepth 100000 in
theorem mcq_24 : mcw 24 ∈ mWS := List.mem_filter.mpr ⟨mtb_in 5 _ (List.mem_of_getElem? (i := 54) rfl), rfl⟩
set_option maxRecDepth 100000 in
theorem mcq_25 : mcw 25 ∈ mWS := List.mem_filter.mpr ⟨mtb_in 5 _ (List.mem_of_getElem? (i := 131) rfl), rfl⟩
set_option maxRecDepth 100000 in
theorem mcq_26 : mcw 26 ∈ mWS := List.mem_filter.mpr ⟨mtb_in 5 _ (List.mem_of_getElem? (i := 141) rfl), rfl⟩
set_option maxRecDepth 100000 in
theorem mcq_27 : mcw 27 ∈ mWS := List.mem_filter.mpr ⟨mtb_in 5 _ (List.mem_of_getElem? (i := 145) rfl), rfl⟩
set_option maxRecDepth 100000 in
theorem mcq_28 : mcw 28 ∈ mWS := List.mem_filter.mpr ⟨mtb_in 5 _ (List.mem_of_getElem? (i := 154) rfl), rfl⟩
set_option maxRecDepth 100000 in
theorem mcq_29 : mcw 29 ∈ mWS := List.mem_filter.mpr ⟨mtb_in 5 _ (List.mem_of_getElem? (i := 179) rfl), rfl⟩
set_option maxRecDepth 100000 in
theorem mcq_30 : mcw 30 ∈ mWS := List.mem_filter.mpr ⟨mtb_in 5 _ (List.mem_of_getElem? (i := 183) rfl), rfl⟩
set_option maxRecDepth 100000 in
theorem mcq_31 : mcw 31 ∈ mWS := List.mem_filter.mpr ⟨mtb_in 5 _ (List.mem_of_getElem? (i := 187) rfl), rfl⟩
set_option maxRecDepth 100000 in
theorem mcq_32 : mcw 32 ∈ mWS := List.mem_filter.mpr ⟨mtb_in 2 _ (List.mem_of_getElem? (i := 155) rfl), rfl⟩
set_option maxRecDepth 100000 in
theorem mcq_33 : mcw 33 ∈ mWS := List.mem_filter.mpr ⟨mtb_in 5 _ (List.mem_of_getElem? (i := 94) rfl), rfl⟩
set_option maxRecDepth 100000 in
theorem mcq_34 : mcw 34 ∈ mWS := List.mem_filter.mpr ⟨mtb_in 5 _ (List.mem_of_getElem? (i := 101) rfl), rfl⟩
set_option maxRecDepth 100000 in
theorem mcq_35 : mcw 35 ∈ mWS := List.mem_filter.mpr ⟨mtb_in 5 _ (List.mem_of_getElem? (i := 105) rfl), rfl⟩
set_option maxRecDepth 100000 in
theorem mcq_36 : mcw 36 ∈ mWS := List.mem_filter.mpr ⟨mtb_in 5 _ (List.mem_of_getElem? (i := 109) rfl), rfl⟩
set_option maxRecDepth 100000 in
theorem mcq_37 : mcw 37 ∈ mWS := List.mem_filter.mpr ⟨mtb_in 5 _ (List.mem_of_getElem? (i := 119) rfl), rfl⟩
set_option maxRecDepth 100000 in
theorem mcq_38 : mcw 38 ∈ mWS := List.mem_filter.mpr ⟨mtb_in 2 _ (List.mem_of_getElem? (i := 47) rfl), rfl⟩
set_option maxRecDepth 100000 in
theorem mcq_39 : mcw 39 ∈ mWS := List.mem_filter.mpr ⟨mtb_in 4 _ (List.mem_of_getElem? (i := 39) rfl), rfl⟩
set_option maxRecDepth 100000 in
theorem mcq_40 : mcw 40 ∈ mWS := List.mem_filter.mpr ⟨mtb_in 4 _ (List.mem_of_getElem? (i := 113) rfl), rfl⟩
set_option maxRecDepth 100000 in
theorem mcq_41 : mcw 41 ∈ mWS := List.mem_filter.mpr ⟨mtb_in 4 _ (List.mem_of_getElem? (i := 117) rfl), rfl⟩
set_option maxRecDepth 100000 in
theorem mcq_42 : mcw 42 ∈ mWS := List.mem_filter.mpr ⟨mtb_in 4 _ (List.mem_of_getElem? (i := 190) rfl), rfl⟩
set_option maxRecDepth 100000 in
theorem mcq_43 : mcw 43 ∈ mWS := List.mem_filter.mpr ⟨mtb_in 6 _ (List.mem_of_getElem? (i := 20) rfl), rfl⟩
set_option maxRecDepth 100000 in
theorem mcq_44 : mcw 44 ∈ mWS := List.mem_filter.mpr ⟨mtb_in 6 _ (List.mem_of_getElem? (i := 24) rfl), rfl⟩
set_option maxRecDepth 100000 in
theorem mcq_45 : mcw 45 ∈ mWS := List.mem_filter.mpr ⟨mtb_in 6 _ (List.mem_of_getElem? (i := 32) rfl), rfl⟩
set_option maxRecDepth 100000 in
theorem mcq_46 : mcw 46 ∈ mWS := List.mem_filter.mpr ⟨mtb_in 1 _ (List.mem_of_getElem? (i := 82) rfl), rfl⟩
set_option maxRecDepth 100000 in
theorem mcq_47 : mcw 47 ∈ mWS := List.mem_filter.mpr ⟨mtb_in 1 _ (List.mem_of_getElem? (i := 111) rfl), rfl⟩
set_option maxRecDepth 100000 in
theorem mcq_48 : mcw 48 ∈ mWS := List.mem_filter.mpr ⟨mtb_in 1 _ (List.mem_of_getElem? (i := 115) rfl), rfl⟩
set_option maxRecDepth 100000 in
theorem mcq_49 : mcw 49 ∈ mWS := List.mem_filter.mpr ⟨mtb_in 1 _ (List.mem_of_getElem? (i := 119) rfl), rfl⟩
set_option maxRecDepth 100000 in
theorem mcq_50 : mcw 50 ∈ mWS := List.mem_filter.mpr ⟨mtb_in 4 _ (List.mem_of_getElem? (i := 22) rfl), rfl⟩
set_option maxRecDepth 100000 in
theorem mcq_51 : mcw 51 ∈ mWS := List.mem_filter.mpr ⟨mtb_in 4 _ (List.mem_of_getElem? (i := 73) rfl), rfl⟩
set_option maxRecDepth 100000 in
theorem mcq_52 : mcw 52 ∈ mWS := List.mem_filter.mpr ⟨mtb_in 4 _ (List.mem_of_getElem? (i := 76) rfl), rfl⟩
set_option maxRecDepth 100000 in
theorem mcq_53 : mcw 53 ∈ mWS := List.mem_filter.mpr ⟨mtb_in 1 _ (List.mem_of_getElem? (i := 182) rfl), rfl⟩
set_option maxRecDepth 100000 in
theorem mcq_54 : mcw 54 ∈ mWS := List.mem_filter.mpr ⟨mtb_in 3 _ (List.mem_of_getElem? (i := 32) rfl), rfl⟩
set_option maxRecDepth 100000 in
theorem mcq_55 : mcw 55 ∈ mWS := List.mem_filter.mpr ⟨mtb_in 3 _ (List.mem_of_getElem? (i := 197) rfl), rfl⟩
set_option maxRecDepth 100000 in
theorem mcq_56 : mcw 56 ∈ mWS := List.mem_filter.mpr ⟨mtb_in 3 _ (List.mem_of_getElem? (i := 201) rfl), rfl⟩
set_option maxRecDepth 100000 in
theorem mcq_57 : mcw 57 ∈ mWS := List.mem_filter.mpr ⟨mtb_in 3 _ (List.mem_of_getElem? (i := 214) rfl), rfl⟩
set_option maxRecDepth 100000 in
theorem mcq_58 : mcw 58 ∈ mWS := List.mem_filter.mpr ⟨mtb_in 3 _ (List.mem_of_getElem? (i := 218) rfl), rfl⟩
set_option maxRecDepth 100000 in
theorem mcq_59 : mcw 59 ∈ mWS := List.mem_filter.mpr ⟨mtb_in 3 _ (List.mem_of_getElem? (i := 226) rfl), rfl⟩
set_option maxRecDepth 100000 in
theorem mcq_60 : mcw 60 ∈ mWS := List.mem_filter.mpr ⟨mtb_in 3 _ (List.mem_of_getElem? (i := 230) rfl), rfl⟩
set_option maxRecDepth 100000 in
theorem mcq_61 : mcw 61 ∈ mWS := List.mem_filter.mpr ⟨mtb_in 4 _ (List.mem_of_getElem? (i := 1) rfl), rfl⟩
set_option maxRecDepth 100000 in
theorem mcq_62 : mcw 62 ∈ mWS := List.mem_filter.mpr ⟨mtb_in 4 _ (List.mem_of_getElem? (i := 5) rfl), rfl⟩
set_option maxRecDepth 100000 in
theorem mcq_63 : mcw 63 ∈ mWS := List.mem_filter.mpr ⟨mtb_in 4 _ (List.mem_of_getElem? (i := 9) rfl), rfl⟩
set_option maxRecDepth 100000 in
theorem mcq_64 : mcw 64 ∈ mWS := List.mem_filter.mpr ⟨mtb_in 4 _ (List.mem_of_getElem? (i := 13) rfl), rfl⟩
set_option maxRecDepth 100000 in
theorem mcq_65 : mcw 65 ∈ mWS := List.mem_filter.mpr ⟨mtb_in 4 _ (List.mem_of_getElem? (i := 17) rfl), rfl⟩
set_option maxRecDepth 100000 in
theorem mcq_66 : mcw 66 ∈ mWS := List.mem_filter.mpr ⟨mtb_in 2 _ (List.mem_of_getElem? (i := 97) rfl), rfl⟩
set_option maxRecDepth 100000 in
theorem mcq_67 : mcw 67 ∈ mWS := List.mem_filter.mpr ⟨mtb_in 4 _ (List.mem_of_getElem? (i := 215) rfl), rfl⟩
set_option maxRecDepth 100000 in
theorem mcq_68 : mcw 68 ∈ mWS := List.mem_filter.mpr ⟨mtb_in 4 _ (List.mem_of_getElem? (i := 219) rfl), rfl⟩
set_option maxRecDepth 100000 in
theorem mcq_69 : mcw 69 ∈ mWS := List.mem_filter.mpr ⟨mtb_in 4 _ (List.mem_of_getElem? (i := 225) rfl), rfl⟩
set_option maxRecDepth 100000 in
theorem mcq_70 : mcw 70 ∈ mWS := List.mem_filter.mpr ⟨mtb_in 4 _ (List.mem_of_getElem? (i := 229) rfl), rfl⟩
set_option maxRecDepth 100000 in
theorem mcq_71 : mcw 71 ∈ mWS := List.mem_filter.mpr ⟨mtb_in 4 _ (List.mem_of_getElem? (i := 233) rfl), rfl⟩
set_option maxRecDepth 100000 in
theorem mcq_72 : mcw 72 ∈ mWS := List.mem_filter.mpr ⟨mtb_in 4 _ (List.mem_of_getElem? (i := 239) rfl), rfl⟩
set_option maxRecDepth 100000 in
theorem mcq_73 : mcw 73 ∈ mWS := List.mem_filter.mpr ⟨mtb_in 5 _ (List.mem_of_getElem? (i := 3) rfl), rfl⟩
set_option maxRecDepth 100000 in
theorem mcq_74 : mcw 74 ∈ mWS := List.mem_filter.mpr ⟨mtb_in 5 _ (List.mem_of_getElem? (i := 7) rfl), rfl⟩
set_option maxRecDepth 100000 in
theorem mcq_75 : mcw 75 ∈ mWS := List.mem_filter.mpr ⟨mtb_in 5 _ (List.mem_of_getElem? (i := 17) rfl), rfl⟩
set_option maxRecDepth 100000 in
theorem mcq_76 : mcw 76 ∈ mWS := List.mem_filter.mpr ⟨mtb_in 5 _ (List.mem_of_getElem? (i := 21) rfl), rfl⟩
set_option maxRecDepth 100000 in
theorem mcq_77 : mcw 77 ∈ mWS := List.mem_filter.mpr ⟨mtb_in 5 _ (List.mem_of_getElem? (i := 26) rfl), rfl⟩
set_option maxRecDepth 100000 in
theorem mcq_78 : mcw 78 ∈ mWS := List.mem_filter.mpr ⟨mtb_in 5 _ (List.mem_of_getElem? (i := 30) rfl), rfl⟩
set_option maxRecDepth 100000 in
theorem mcq_79 : mcw 79 ∈ mWS := List.mem_filter.mpr ⟨mtb_in 5 _ (List.mem_of_getElem? (i := 42) rfl), rfl⟩
set_option maxRecDepth 100000 in
theorem mcq_80 : mcw 80 ∈ mWS := List.mem_filter.mpr ⟨mtb_in 5 _ (List.mem_of_getElem? (i := 66) rfl), rfl⟩
set_option maxRecDepth 100000 in
theorem mcq_81 : mcw 81 ∈ mWS := List.mem_filter.mpr ⟨mtb_in 5 _ (List.mem_of_getElem? (i := 71) rfl), rfl⟩
set_option maxRecDepth 100000 in
theorem mcq_82 : mcw 82 ∈ mWS := List.mem_filter.mpr ⟨mtb_in 5 _ (List.mem_of_getElem? (i := 75) rfl), rfl⟩
set_option maxRecDepth 100000 in
theorem mcq_83 : mcw 83 ∈ mWS := List.mem_filter.mpr ⟨mtb_in 5 _ (List.mem_of_getElem? (i := 79) rfl), rfl⟩
set_option maxRecDepth 100000 in
theorem mcq_84 : mcw 84 ∈ mWS := List.mem_filter.mpr ⟨mtb_in 5 _ (List.mem_of_getElem? (i := 83) rfl), rfl⟩
set_option maxRecDepth 100000 in
theorem mcq_85 : mcw 85 ∈ mWS := List.mem_filter.mpr ⟨mtb_in 5 _ (List.mem_of_getElem? (i := 86) rfl), rfl⟩
set_option maxRecDepth 100000 in
theorem mcq_86 : mcw 86 ∈ mWS := List.mem_filter.mpr ⟨mtb_in 1 _ (List.mem_of_getElem? (i := 208) rfl), rfl⟩
set_option maxRecDepth 100000 in
theorem mcq_87 : mcw 87 ∈ mWS := List.mem_filter.mpr ⟨mtb_in 4 _ (List.mem_of_getElem? (i := 59) rfl), rfl⟩
set_option maxRecDepth 100000 in
theorem mcq_88 : mcw 88 ∈ mWS := List.mem_filter.mpr ⟨mtb_in 4 _ (List.mem_of_getElem? (i := 64) rfl), rfl⟩
set_option maxRecDepth 100000 in
theorem mcq_89 : mcw 89 ∈ mWS := List.mem_filter.mpr ⟨mtb_in 4 _ (List.mem_of_getElem? (i := 68) rfl), rfl⟩
set_option maxRecDepth 100000 in
theorem mcq_90 : mcw 90 ∈ mWS := List.mem_filter.mpr ⟨mtb_in 4 _ (List.mem_of_getElem? (i := 97) rfl), rfl⟩
set_option maxRecDepth 100000 in
theorem mcq_91 : mcw 91 ∈ mWS := List.mem_filter.mpr ⟨mtb_in 4 _ (List.mem_of_getElem? (i := 149) rfl), rfl⟩
set_option maxRecDepth 100000 in
theorem mcq_92 : mcw 92 ∈ mWS := List.mem_filter.mpr ⟨mtb_in 4 _ (List.mem_of_getElem? (i := 153) rfl), rfl⟩
set_option maxRecDepth 100000 in
theorem mcq_93 : mcw 93 ∈ mWS := List.mem_filter.mpr ⟨mtb_in 4 _ (List.mem_of_getElem? (i := 159) rfl), rfl⟩
set_option maxRecDepth 100000 in
theorem mcq_94 : mcw 94 ∈ mWS := List.mem_filter.mpr ⟨mtb_in 4 _ (List.mem_of_getElem? (i := 170) rfl), rfl⟩
set_option maxRecDepth 100000 in
theorem mcq_95 : mcw 95 ∈ mWS := List.mem_filter.mpr ⟨mtb_in 4 _ (List.mem_of_getElem? (i := 174) rfl), rfl⟩
set_option maxRecDepth 100000 in
theorem mcq_96 : mcw 96 ∈ mWS := List.mem_filter.mpr ⟨mtb_in 4 _ (List.mem_of_getElem? (i := 178) rfl), rfl⟩
set_option maxRecDepth 100000 in
theorem mcq_97 : mcw 97 ∈ mWS := List.mem_filter.mpr ⟨mtb_in 4 _ (List.mem_of_getElem? (i := 181) rfl), rfl⟩
set_option maxRecDepth 100000 in
theorem mcq_98 : mcw 98 ∈ mWS := List.mem_filter.mpr ⟨mtb_in 4 _ (List.mem_of_getElem? (i := 198) rfl), rfl⟩
set_option maxRecDepth 100000 in
theorem mcq_99 : mcw 99 ∈ mWS := List.mem_filter.mpr ⟨mtb_in 1 _ (List.mem_of_getElem? (i := 232) rfl), rfl⟩
set_option maxRecDepth 100000 in
theorem mcq_100 : mcw 100 ∈ mWS := List.mem_filter.mpr ⟨mtb_in 4 _ (List.mem_of_getElem? (i := 31) rfl), rfl⟩
set_option maxRecDepth 100000 in
theorem mcq_101 : mcw 101 ∈ mWS := List.mem_filter.mpr ⟨mtb_in 4 _ (List.mem_of_getElem? (i := 55) rfl), rfl⟩
set_option maxRecDepth 100000 in
theorem mcq_102 : mcw 102 ∈ mWS := List.mem_filter.mpr ⟨mtb_in 4 _ (List.mem_of_getElem? (i := 121) rfl), rfl⟩
set_option maxRecDepth 100000 in
theorem mcq_103 : mcw 103 ∈ mWS := List.mem_filter.mpr ⟨mtb_in 4 _ (List.mem_of_getElem? (i := 125) rfl), rfl⟩
set_option maxRecDepth 100000 in
theorem mcq_104 : mcw 104 ∈ mWS := List.mem_filter.mpr ⟨mtb_in 4 _ (List.mem_of_getElem? (i := 129) rfl), rfl⟩
set_option maxRecDepth 100000 in
theorem mcq_105 : mcw 105 ∈ mWS := List.mem_filter.mpr ⟨mtb_in 4 _ (List.mem_of_getElem? (i := 133) rfl), rfl⟩
set_option maxRecDepth 100000 in
theorem mcq_106 : mcw 106 ∈ mWS := List.mem_filter.mpr ⟨mtb_in 5 _ (List.mem_of_getElem? (i := 159) rfl), rfl⟩
set_option maxRecDepth 100000 in
theorem mcq_107 : mcw 107 ∈ mWS := List.mem_filter.mpr ⟨mtb_in 5 _ (List.mem_of_getElem? (i := 162) rfl), rfl⟩
set_option maxRecDepth 100000 in
theorem mcq_108 : mcw 108 ∈ mWS := List.mem_filter.mpr ⟨mtb_in 6 _ (List.mem_of_getElem? (i := 40) rfl), rfl⟩
set_option maxRecDepth 100000 in
theorem mcq_109 : mcw 109 ∈ mWS := List.mem_filter.mpr ⟨mtb_in 6 _ (List.mem_of_getElem? (i := 44) rfl), rfl⟩
set_option maxRecDepth 100000 in
theorem mcq_110 : mcw 110 ∈ mWS := List.mem_filter.mpr ⟨mtb_in 6 _ (List.mem_of_getElem? (i := 49) rfl), rfl⟩
set_option maxRecDepth 100000 in
theorem mcq_111 : mcw 111 ∈ mWS := List.mem_filter.mpr ⟨mtb_in 6 _ (List.mem_of_getElem? (i := 53) rfl), rfl⟩
set_option maxRecDepth 100000 in
theorem mcq_112 : mcw 112 ∈ mWS := List.mem_filter.mpr ⟨mtb_in 6 _ (List.mem_of_getElem? (i := 57) rfl), rfl⟩
set_option maxRecDepth 100000 in
theorem mcq_113 : mcw 113 ∈ mWS := List.mem_filter.mpr ⟨mtb_in 1 _ (List.mem_of_getElem? (i := 35) rfl), rfl⟩
set_option maxRecDepth 100000 in
theorem mcq_114 : mcw 114 ∈ mWS := List.mem_filter.mpr ⟨mtb_in 3 _ (List.mem_of_getElem? (i := 20) rfl), rfl⟩
set_option maxRecDepth 100000 in
theorem mcq_115 : mcw 115 ∈ mWS := List.mem_filter.mpr ⟨mtb_in 3 _ (List.mem_of_getElem? (i := 37) rfl), rfl⟩
set_option maxRecDepth 100000 in
theorem mcq_116 : mcw 116 ∈ mWS := List.mem_filter.mpr ⟨mtb_in 3 _ (List.mem_of_getElem? (i := 41) rfl), rfl⟩
set_option maxRecDepth 100000 in
theorem mcq_117 : mcw 117 ∈ mWS := List.mem_filter.mpr ⟨mtb_in 3 _ (List.mem_of_getElem? (i := 45) rfl), rfl⟩
set_option maxRecDepth 100000 in
theorem mcq_118 : mcw 118 ∈ mWS := List.mem_filter.mpr ⟨mtb_in 3 _ (List.mem_of_getElem? (i := 48) rfl), rfl⟩
set_option maxRecDepth 100000 in
theorem mcq_119 : mcw 119 ∈ mWS := List.mem_filter.mpr ⟨mtb_in 3 _ (List.mem_of_getElem? (i := 52) rfl), rfl⟩
set_option maxRecDepth 100000 in
theorem mcq_120 : mcw 120 ∈ mWS := List.mem_filter.mpr ⟨mtb_in 3 _ (List.mem_of_getElem? (i := 56) rfl), rfl⟩
set_option maxRecDepth 100000 in
theorem mcq_121 : mcw 121 ∈ mWS := List.mem_filter.mpr ⟨mtb_in 3 _ (List.mem_of_getElem? (i := 59) rfl), rfl⟩
set_option maxRecDepth 100000 in
theorem mcq_122 : mcw 122 ∈ mWS := List.mem_filter.mpr ⟨mtb_in 3 _ (List.mem_of_getElem? (i := 63) rfl), rfl⟩
set_option maxRecDepth 100000 in
theorem mcq_123 : mcw 123 ∈ mWS := List.mem_filter.mpr ⟨mtb_in 3 _ (List.mem_of_getElem? (i := 68) rfl), rfl⟩
set_option maxRecDepth 100000 in
theorem mcq_124 : mcw 124 ∈ mWS := List.mem_filter.mpr ⟨mtb_in 3 _ (List.mem_of_getElem? (i := 83) rfl), rfl⟩
set_option maxRecDepth 100000 in
theorem mcq_125 : mcw 125 ∈ mWS := List.mem_filter.mpr ⟨mtb_in 3 _ (List.mem_of_getElem? (i := 124) rfl), rfl⟩
set_option maxRecDepth 100000 in
theorem mcq_126 : mcw 126 ∈ mWS := List.mem_filter.mpr ⟨mtb_in 3 _ (List.mem_of_getElem? (i := 128) rfl), rfl⟩
set_option maxRecDepth 100000 in
theorem mcq_127 : mcw 127 ∈ mWS := List.mem_filter.mpr ⟨mtb_in 3 _ (List.mem_of_getElem? (i := 193) rfl), rfl⟩
set_option maxRecDepth 100000 in
theorem mcq_128 : mcw 128 ∈ mWS := List.mem_filter.mpr ⟨mtb_in 3 _ (List.mem_of_getElem? (i := 205) rfl), rfl⟩
set_option maxRecDepth 100000 in
theorem mcq_129 : mcw 129 ∈ mWS := List.mem_filter.mpr ⟨mtb_in 1 _ (List.mem_of_getElem? (i := 76) rfl), rfl⟩
set_option maxRecDepth 100000 in
theorem mcq_130 : mcw 130 ∈ mWS := List.mem_filter.mpr ⟨mtb_in 1 _ (List.mem_of_getElem? (i := 104) rfl), rfl⟩
set_option maxRecDepth 100000 in
theorem mcq_131 : mcw 131 ∈ mWS := List.mem_filter.mpr ⟨mtb_in 3 _ (List.mem_of_getElem? (i := 210) rfl), rfl⟩
set_option maxRecDepth 100000 in
theorem mcq_132 : mcw 132 ∈ mWS := List.mem_filter.mpr ⟨mtb_in 3 _ (List.mem_of_getElem? (i := 222) rfl), rfl⟩
set_option maxRecDepth 100000 in
theorem mcq_133 : mcw 133 ∈ mWS := List.mem_filter.mpr ⟨mtb_in 3 _ (List.mem_of_getElem? (i := 234) rfl), rfl⟩
set_option maxRecDepth 100000 in
theorem mcq_134 : mcw 134 ∈ mWS := List.mem_filter.mpr ⟨mtb_in 3 _ (List.mem_of_getElem? (i := 237) rfl), rfl⟩
set_option maxRecDepth 100000 in
theorem mcq_135 : mcw 135 ∈ mWS := List.mem_filter.mpr ⟨mtb_in 4 _ (List.mem_of_getElem? (i := 89) rfl), rfl⟩
set_option maxRecDepth 100000 in
theorem mcq_136 : mcw 136 ∈ mWS := List.mem_filter.mpr ⟨mtb_in 1 _ (List.mem_of_getElem? (i := 27) rfl), rfl⟩
set_option maxRecDepth 100000 in
theorem mcq_137 : mcw 137 ∈ mWS := List.mem_filter.mpr ⟨mtb_in 3 _ (List.mem_of_getElem? (i := 16) rfl), rfl⟩
set_option maxRecDepth 100000 in
theorem mcq_138 : mcw 138 ∈ mWS := List.mem_filter.mpr ⟨mtb_in 3 _ (List.mem_of_getElem? (i := 24) rfl), rfl⟩
set_option maxRecDepth 100000 in
theorem mcq_139 : mcw 139 ∈ mWS := List.mem_filter.mpr ⟨mtb_in 3 _ (List.mem_of_getElem? (i := 28) rfl), rfl⟩
set_option maxRecDepth 100000 in
theorem mcq_140 : mcw 140 ∈ mWS := List.mem_filter.mpr ⟨mtb_in 4 _ (List.mem_of_getElem? (i := 27) rfl), rfl⟩
set_option maxRecDepth 100000 in
theorem mcq_141 : mcw 141 ∈ mWS := List.mem_filter.mpr ⟨mtb_in 4 _ (List.mem_of_getElem? (i := 43) rfl), rfl⟩
set_option maxRecDepth 100000 in
theorem mcq_142 : mcw 142 ∈ mWS := List.mem_filter.mpr ⟨mtb_in 4 _ (List.mem_of_getElem? (i := 47) rfl), rfl⟩
set_option maxRecDepth 100000 in
theorem mcq_143 : mcw 143 ∈ mWS := List.mem_filter.mpr ⟨mtb_in 4 _ (List.mem_of_getElem? (i := 51) rfl), rfl⟩
set_option maxRecDepth 100000 in
theorem mcq_144 : mcw 144 ∈ mWS := List.mem_filter.mpr ⟨mtb_in 4 _ (List.mem_of_getElem? (i := 81) rfl), rfl⟩
set_option maxRecDepth 100000 in
theorem mcq_145 : mcw 145 ∈ mWS := List.mem_filter.mpr ⟨mtb_in 4 _ (List.mem_of_getElem? (i := 85) rfl), rfl⟩
set_option maxRecDepth 100000 in
theorem mcq_146 : mcw 146 ∈ mWS := List.mem_filter.mpr ⟨mtb_in 4 _ (List.mem_of_getElem? (i := 93) rfl), rfl⟩
set_option maxRecDepth 100000 in
theorem mcq_147 : mcw 147 ∈ mWS := List.mem_filter.mpr ⟨mtb_in 4 _ (List.mem_of_getElem? (i := 101) rfl), rfl⟩
set_option maxRecDepth 100000 in
theorem mcq_148 : mcw 148 ∈ mWS := List.mem_filter.mpr ⟨mtb_in 4 _ (List.mem_of_getElem? (i := 105) rfl), rfl⟩
set_option maxRecDepth 100000 in
theorem mcq_149 : mcw 149 ∈ mWS := List.mem_filter.mpr ⟨mtb_in 4 _ (List.mem_of_getElem? (i := 109) rfl), rfl⟩
set_option maxRecDepth 100000 in
theorem mcq_150 : mcw 150 ∈ mWS := List.mem_filter.mpr ⟨mtb_in 4 _ (List.mem_of_getElem? (i := 138) rfl), rfl⟩
set_option maxRecDepth 100000 in
theorem mcq_151 : mcw 151 ∈ mWS := List.mem_filter.mpr ⟨mtb_in 4 _ (List.mem_of_getElem? (i := 142) rfl), rfl⟩
set_option maxRecDepth 100000 in
theorem mcq_152 : mcw 152 ∈ mWS := List.mem_filter.mpr ⟨mtb_in 4 _ (List.mem_of_getElem? (i := 145) rfl), rfl⟩
set_option maxRecDepth 100000 in
theorem mcq_153 : mcw 153 ∈ mWS := List.mem_filter.mpr ⟨mtb_in 4 _ (List.mem_of_getElem? (i := 162) rfl), rfl⟩
set_option maxRecDepth 100000 in
theorem mcq_154 : mcw 154 ∈ mWS := List.mem_filter.mpr ⟨mtb_in 4 _ (List.mem_of_getElem? (i := 166) rfl), rfl⟩
set_option maxRecDepth 100000 in
theorem mcq_155 : mcw 155 ∈ mWS := List.mem_filter.mpr ⟨mtb_in 4 _ (List.mem_of_getElem? (i := 186) rfl), rfl⟩
set_option maxRecDepth 100000 in
theorem mcq_156 : mcw 156 ∈ mWS := List.mem_filter.mpr ⟨mtb_in 4 _ (List.mem_of_getElem? (i := 194) rfl), rfl⟩
set_option maxRecDepth 100000 in
theorem mcq_157 : mcw 157 ∈ mWS := List.mem_filter.mpr ⟨mtb_in 4 _ (List.mem_of_getElem? (i := 202) rfl), rfl⟩
set_option maxRecDepth 100000 in
theorem mcq_158 : mcw 158 ∈ mWS := List.mem_filter.mpr ⟨mtb_in 4 _ (List.mem_of_getElem? (i := 206) rfl), rfl⟩
set_option maxRecDepth 100000 in
theorem mcq_159 : mcw 159 ∈ mWS := List.mem_filter.mpr ⟨mtb_in 4 _ (List.mem_of_getElem? (i := 211) rfl), rfl⟩
set_option maxRecDepth 100000 in
theorem mcq_160 : mcw 160 ∈ mWS := List.mem_filter.mpr ⟨mtb_in 5 _ (List.mem_of_getElem? (i := 34) rfl), rfl⟩
set_option maxRecDepth 100000 in
theorem mcq_161 : mcw 161 ∈ mWS := List.mem_filter.mpr ⟨mtb_in 5 _ (List.mem_of_getElem? (i := 38) rfl), rfl⟩
set_option maxRecDepth 100000 in
theorem mcq_162 : mcw 162 ∈ mWS := List.mem_filter.mpr ⟨mtb_in 5 _ (List.mem_of_getElem? (i := 46) rfl), rfl⟩
set_option maxRecDepth 100000 in
theorem mcq_163 : mcw 163 ∈ mWS := List.mem_filter.mpr ⟨mtb_in 5 _ (List.mem_of_getElem? (i := 50) rfl), rfl⟩
set_option maxRecDepth 100000 in
theorem mcq_164 : mcw 164 ∈ mWS := List.mem_filter.mpr ⟨mtb_in 5 _ (List.mem_of_getElem? (i := 62) rfl), rfl⟩
set_option maxRecDepth 100000 in
theorem mcq_165 : mcw 165 ∈ mWS := List.mem_filter.mpr ⟨mtb_in 5 _ (List.mem_of_getElem? (i := 90) rfl), rfl⟩
set_option maxRecDepth 100000 in
theorem mcq_166 : mcw 166 ∈ mWS := List.mem_filter.mpr ⟨mtb_in 5 _ (List.mem_of_getElem? (i := 115) rfl), rfl⟩
set_option maxRecDepth 100000 in
theorem mcq_167 : mcw 167 ∈ mWS := List.mem_filter.mpr ⟨mtb_in 5 _ (List.mem_of_getElem? (i := 123) rfl), rfl⟩
set_option maxRecDepth 100000 in
theorem mcq_168 : mcw 168 ∈ mWS := List.mem_filter.mpr ⟨mtb_in 5 _ (List.mem_of_getElem? (i := 127) rfl), rfl⟩
set_option maxRecDepth 100000 in
theorem mcq_169 : mcw 169 ∈ mWS := List.mem_filter.mpr ⟨mtb_in 5 _ (List.mem_of_getElem? (i := 137) rfl), rfl⟩
set_option maxRecDepth 100000 in
theorem mcq_170 : mcw 170 ∈ mWS := List.mem_filter.mpr ⟨mtb_in 5 _ (List.mem_of_getElem? (i := 150) rfl), rfl⟩
set_option maxRecDepth 100000 in
theorem mcq_171 : mcw 171 ∈ mWS := List.mem_filter.mpr ⟨mtb_in 5 _ (List.mem_of_getElem? (i := 166) rfl), rfl⟩
set_option maxRecDepth 100000 in
theorem mcq_172 : mcw 172 ∈ mWS := List.mem_filter.mpr ⟨mtb_in 5 _ (List.mem_of_getElem? (i := 171) rfl), rfl⟩
set_option maxRecDepth 100000 in
theorem mcq_173 : mcw 173 ∈ mWS := List.mem_filter.mpr ⟨mtb_in 5 _ (List.mem_of_getElem? (i := 175) rfl), rfl⟩
set_option maxRecDepth 100000 in
theorem mcq_174 : mcw 174 ∈ mWS := List.mem_filter.mpr ⟨mtb_in 5 _ (List.mem_of_getElem? (i := 192) rfl), rfl⟩
set_option maxRecDepth 100000 in
theorem mcq_175 : mcw 175 ∈ mWS := List.mem_filter.mpr ⟨mtb_in 5 _ (List.mem_of_getElem? (i := 195) rfl), rfl⟩
set_option maxRecDepth 100000 in
theorem mcq_176 : mcw 176 ∈ mWS := List.mem_filter.mpr ⟨mtb_in 5 _ (List.mem_of_getElem? (i := 199) rfl), rfl⟩
set_option maxRecDepth 100000 in
theorem mcq_177 : mcw 177 ∈ mWS := List.mem_filter.mpr ⟨mtb_in 5 _ (List.mem_of_getElem? (i := 207) rfl), rfl⟩
set_option maxRecDepth 100000 in
theorem mcq_178 : mcw 178 ∈ mWS := List.mem_filter.mpr ⟨mtb_in 5 _ (List.mem_of_getElem? (i := 211) rfl), rfl⟩
set_option maxRecDepth 100000 in
theorem mcq_179 : mcw 179 ∈ mWS := List.mem_filter.mpr ⟨mtb_in 5 _ (List.mem_of_getElem? (i := 215) rfl), rfl⟩
set_option maxRecDepth 100000 in
theorem mcq_180 : mcw 180 ∈ mWS := List.mem_filter.mpr ⟨mtb_in 5 _ (List.mem_of_getElem? (i := 218) rfl), rfl⟩
set_option maxRecDepth 100000 in
theorem mcq_181 : mcw 181 ∈ mWS := List.mem_filter.mpr ⟨mtb_in 6 _ (List.mem_of_getElem? (i := 4) rfl), rfl⟩
set_option maxRecDepth 100000 in
theorem mcq_182 : mcw 182 ∈ mWS := List.mem_filter.mpr ⟨mtb_in 6 _ (List.mem_of_getElem? (i := 13) rfl), rfl⟩
set_option maxRecDepth 100000 in
theorem mcq_183 : mcw 183 ∈ mWS := List.mem_filter.mpr ⟨mtb_in 6 _ (List.mem_of_getElem? (i := 16) rfl), rfl⟩
set_option maxRecDepth 100000 in
theorem mcq_184 : mcw 184 ∈ mWS := List.mem_filter.mpr ⟨mtb_in 6 _ (List.mem_of_getElem? (i := 28) rfl), rfl⟩
set_option maxRecDepth 100000 in
theorem mcq_185 : mcw 185 ∈ mWS := List.mem_filter.mpr ⟨mtb_in 6 _ (List.mem_of_getElem? (i := 36) rfl), rfl⟩
set_option maxRecDepth 100000 in
theorem mcq_186 : mcw 186 ∈ mWS := List.mem_filter.mpr ⟨mtb_in 6 _ (List.mem_of_getElem? (i := 62) rfl), rfl⟩
set_option maxRecDepth 100000 in
theorem mcq_187 : mcw 187 ∈ mWS := List.mem_filter.mpr ⟨mtb_in 6 _ (List.mem_of_getElem? (i := 67) rfl), rfl⟩
set_option maxRecDepth 100000 in
theorem mcq_188 : mcw 188 ∈ mWS := List.mem_filter.mpr ⟨mtb_in 6 _ (List.mem_of_getElem? (i := 70) rfl), rfl⟩
set_option maxRecDepth 100000 in
theorem mcq_189 : mcw 189 ∈ mWS := List.mem_filter.mpr ⟨mtb_in 6 _ (List.mem_of_getElem? (i := 73) rfl), rfl⟩
set_option maxRecDepth 100000 in
theorem mcq_190 : mcw 190 ∈ mWS := List.mem_filter.mpr ⟨mtb_in 6 _ (List.mem_of_getElem? (i := 78) rfl), rfl⟩
set_option maxRecDepth 100000 in
theorem mcq_191 : mcw 191 ∈ mWS := List.mem_filter.mpr ⟨mtb_in 6 _ (List.mem_of_getElem? (i := 82) rfl), rfl⟩
set_option maxRecDepth 100000 in
theorem mcq_192 : mcw 192 ∈ mWS := List.mem_filter.mpr ⟨mtb_in 7 _ (List.mem_of_getElem? (i := 59) rfl), rfl⟩
set_option maxRecDepth 100000 in
theorem mcq_193 : mcw 193 ∈ mWS := List.mem_filter.mpr ⟨mtb_in 7 _ (List.mem_of_getElem? (i := 63) rfl), rfl⟩
set_option maxRecDepth 100000 in
theorem mcq_194 : mcw 194 ∈ mWS := List.mem_filter.mpr ⟨mtb_in 7 _ (List.mem_of_getElem? (i := 67) rfl), rfl⟩
set_option maxRecDepth 100000 in
theorem mcq_195 : mcw 195 ∈ mWS := List.mem_filter.mpr ⟨mtb_in 7 _ (List.mem_of_getElem? (i := 71) rfl), rfl⟩
set_option maxRecDepth 100000 in
theorem mcq_196 : mcw 196 ∈ mWS := List.mem_filter.mpr ⟨mtb_in 7 _ (List.mem_of_getElem? (i := 75) rfl), rfl⟩
set_option maxRecDepth 100000 in
theorem mcq_197 : mcw 197 ∈ mWS := List.mem_filter.mpr ⟨mtb_in 7 _ (List.mem_of_getElem? (i := 79) rfl), rfl⟩
set_option maxRecDepth 100000 in
theorem mcq_198 : mcw 198 ∈ mWS := List.mem_filter.mpr ⟨mtb_in 7 _ (List.mem_of_getElem? (i := 83) rfl), rfl⟩
set_option maxRecDepth 100000 in
theorem mcq_199 : mcw 199 ∈ mWS := List.mem_filter.mpr ⟨mtb_in 7 _ (List.mem_of_getElem? (i := 86) rfl), rfl⟩
set_option maxRecDepth 100000 in
theorem mcq_200 : mcw 200 ∈ mWS := List.mem_filter.mpr ⟨mtb_in 7 _ (List.mem_of_getElem? (i := 89) rfl), rfl⟩
set_option maxRecDepth 100000 in
theorem mcq_201 : mcw 201 ∈ mWS := List.mem_filter.mpr ⟨mtb_in 7 _ (List.mem_of_getElem? (i := 93) rfl), rfl⟩
set_option maxRecDepth 100000 in
theorem mcq_202 : mcw 202 ∈ mWS := List.mem_filter.mpr ⟨mtb_in 7 _ (List.mem_of_getElem? (i := 97) rfl), rfl⟩
set_option maxRecDepth 100000 in
theorem mcq_203 : mcw 203 ∈ mWS := List.mem_filter.mpr ⟨mtb_in 7 _ (List.mem_of_getElem? (i := 101) rfl), rfl⟩
set_option maxRecDepth 100000 in
theorem mcq_204 : mcw 204 ∈ mWS := List.mem_filter.mpr ⟨mtb_in 7 _ (List.mem_of_getElem? (i := 105) rfl), rfl⟩
set_option maxRecDepth 100000 in
theorem mcq_205 : mcw 205 ∈ mWS := List.mem_filter.mpr ⟨mtb_in 7 _ (List.mem_of_getElem? (i := 109) rfl), rfl⟩
set_option maxRecDepth 100000 in
theorem mcq_206 : mcw 206 ∈ mWS := List.mem_filter.mpr ⟨mtb_in 7 _ (List.mem_of_getElem? (i := 113) rfl), rfl⟩
set_option maxRecDepth 100000 in
theorem mcq_207 : mcw 207 ∈ mWS := List.mem_filter.mpr ⟨mtb_in 7 _ (List.mem_of_getElem? (i := 117) rfl), rfl⟩
set_option maxRecDepth 100000 in
theorem mcq_208 : mcw 208 ∈ mWS := List.mem_filter.mpr ⟨mtb_in 7 _ (List.mem_of_getElem? (i := 121) rfl), rfl⟩
set_option maxRecDepth 100000 in
theorem mcq_209 : mcw 209 ∈ mWS := List.mem_filter.mpr ⟨mtb_in 7 _ (List.mem_of_getElem? (i := 125) rfl), rfl⟩
set_option maxRecDepth 100000 in
theorem mcq_210 : mcw 210 ∈ mWS := List.mem_filter.mpr ⟨mtb_in 7 _ (List.mem_of_getElem? (i := 129) rfl), rfl⟩
set_option maxRecDepth 100000 in
theorem mcq_211 : mcw 211 ∈ mWS := List.mem_filter.mpr ⟨mtb_in 7 _ (List.mem_of_getElem? (i := 133) rfl), rfl⟩
set_option maxRecDepth 100000 in
theorem mcq_212 : mcw 212 ∈ mWS := List.mem_filter.mpr ⟨mtb_in 7 _ (List.mem_of_getElem? (i := 137) rfl), rfl⟩
set_option maxRecDepth 100000 in
theorem mcq_213 : mcw 213 ∈ mWS := List.mem_filter.mpr ⟨mtb_in 7 _ (List.mem_of_getElem? (i := 141) rfl), rfl⟩
set_option maxRecDepth 100000 in
theorem mcq_214 : mcw 214 ∈ mWS := List.mem_filter.mpr ⟨mtb_in 7 _ (List.mem_of_getElem? (i := 145) rfl), rfl⟩
set_option maxRecDepth 100000 in
theorem mcq_215 : mcw 215 ∈ mWS := List.mem_filter.mpr ⟨mtb_in 7 _ (List.mem_of_getElem? (i := 149) rfl), rfl⟩
set_option maxRecDepth 100000 in
theorem mcq_216 : mcw 216 ∈ mWS := List.mem_filter.mpr ⟨mtb_in 7 _ (List.mem_of_getElem? (i := 153) rfl), rfl⟩
set_option maxRecDepth 100000 in
theorem mcq_217 : mcw 217 ∈ mWS := List.mem_filter.mpr ⟨mtb_in 7 _ (List.mem_of_getElem? (i := 157) rfl), rfl⟩
set_option maxRecDepth 100000 in
theorem mcq_218 : mcw 218 ∈ mWS := List.mem_filter.mpr ⟨mtb_in 7 _ (List.mem_of_getElem? (i := 161) rfl), rfl⟩
set_option maxRecDepth 100000 in
theorem mcq_219 : mcw 219 ∈ mWS := List.mem_filter.mpr ⟨mtb_in 7 _ (List.mem_of_getElem? (i := 165) rfl), rfl⟩
set_option maxRecDepth 100000 in
theorem mcq_220 : mcw 220 ∈ mWS := List.mem_filter.mpr ⟨mtb_in 7 _ (List.mem_of_getElem? (i := 169) rfl), rfl⟩
set_option maxRecDepth 100000 in
theorem mcq_221 : mcw 221 ∈ mWS := List.mem_filter.mpr ⟨mtb_in 7 _ (List.mem_of_getElem? (i := 173) rfl), rfl⟩
set_option maxRecDepth 100000 in
theorem mcq_222 : mcw 222 ∈ mWS := List.mem_filter.mpr ⟨mtb_in 7 _ (List.mem_of_getElem? (i := 177) rfl), rfl⟩
set_option maxRecDepth 100000 in
theorem mcq_223 : mcw 223 ∈ mWS := List.mem_filter.mpr ⟨mtb_in 7 _ (List.mem_of_getElem? (i := 180) rfl), rfl⟩
set_option maxRecDepth 100000 in
theorem mcq_224 : mcw 224 ∈ mWS := List.mem_filter.mpr ⟨mtb_in 7 _ (List.mem_of_getElem? (i := 184) rfl), rfl⟩
set_option maxRecDepth 100000 in
theorem mcq_225 : mcw 225 ∈ mWS := List.mem_filter.mpr ⟨mtb_in 7 _ (List.mem_of_getElem? (i := 188) rfl), rfl⟩
set_option maxRecDepth 100000 in
theorem mcq_226 : mcw 226 ∈ mWS := List.mem_filter.mpr ⟨mtb_in 7 _ (List.mem_of_getElem? (i := 192) rfl), rfl⟩
set_option maxRecDepth 100000 in
theorem mcq_227 : mcw 227 ∈ mWS := List.mem_filter.mpr ⟨mtb_in 7 _ (List.mem_of_getElem? (i := 196) rfl), rfl⟩
set_option maxRecDepth 100000 in
theorem mcq_228 : mcw 228 ∈ mWS := List.mem_filter.mpr ⟨mtb_in 7 _ (List.mem_of_getElem? (i := 200) rfl), rfl⟩
set_option maxRecDepth 100000 in
theorem mcq_229 : mcw 229 ∈ mWS := List.mem_filter.mpr ⟨mtb_in 7 _ (List.mem_of_getElem? (i := 204) rfl), rfl⟩
set_option maxRecDepth 100000 in
theorem mcq_230 : mcw 230 ∈ mWS := List.mem_filter.mpr ⟨mtb_in 7 _ (List.mem_of_getElem? (i := 208) rfl), rfl⟩
set_option maxRecDepth 100000 in
theorem mcq_231 : mcw 231 ∈ mWS := List.mem_filter.mpr ⟨mtb_in 7 _ (List.mem_of_getElem? (i := 212) rfl), rfl⟩
set_option maxRecDepth 100000 in
theorem mcq_232 : mcw 232 ∈ mWS := List.mem_filter.mpr ⟨mtb_in 7 _ (List.mem_of_getElem? (i := 216) rfl), rfl⟩
set_option maxRecDepth 100000 in
theorem mcq_233 : mcw 233 ∈ mWS := List.mem_filter.mpr ⟨mtb_in 7 _ (List.mem_of_getElem? (i := 219) rfl), rfl⟩
set_option maxRecDepth 100000 in
theorem mcq_234 : mcw 234 ∈ mWS := List.mem_filter.mpr ⟨mtb_in 7 _ (List.mem_of_getElem? (i := 223) rfl), rfl⟩
set_option maxRecDepth 100000 in
theorem mcq_235 : mcw 235 ∈ mWS := List.mem_filter.mpr ⟨mtb_in 7 _ (List.mem_of_getElem? (i := 227) rfl), rfl⟩
set_option maxRecDepth 100000 in
theorem mcq_236 : mcw 236 ∈ mWS := List.mem_filter.mpr ⟨mtb_in 7 _ (List.mem_of_getElem? (i := 231) rfl), rfl⟩
set_option maxRecDepth 100000 in
theorem mcq_237 : mcw 237 ∈ mWS := List.mem_filter.mpr ⟨mtb_in 7 _ (List.mem_of_getElem? (i := 235) rfl), rfl⟩
set_option maxRecDepth 100000 in
theorem mcq_238 : mcw 238 ∈ mWS := List.mem_filter.mpr ⟨mtb_in 7 _ (List.mem_of_getElem? (i := 239) rfl), rfl⟩
set_option maxRecDepth 100000 in
theorem mcq_239 : mcw 239 ∈ mWS := List.mem_filter.mpr ⟨mtb_in 8 _ (List.mem_of_getElem? (i := 3) rfl), rfl⟩
set_option maxRecDepth 100000 in
theorem mcq_240 : mcw 240 ∈ mWS := List.mem_filter.mpr ⟨mtb_in 8 _ (List.mem_of_getElem? (i := 7) rfl), rfl⟩
set_option maxRecDepth 100000 in
theorem mcq_241 : mcw 241 ∈ mWS := List.mem_filter.mpr ⟨mtb_in 8 _ (List.mem_of_getElem? (i := 11) rfl), rfl⟩
set_option maxRecDepth 100000 in
theorem mcq_242 : mcw 242 ∈ mWS := List.mem_filter.mpr ⟨mtb_in 8 _ (List.mem_of_getElem? (i := 15) rfl), rfl⟩
set_option maxRecDepth 100000 in
theorem mcq_243 : mcw 243 ∈ mWS := List.mem_filter.mpr ⟨mtb_in 8 _ (List.mem_of_getElem? (i := 19) rfl), rfl⟩
set_option maxRecDepth 100000 in
theorem mcq_244 : mcw 244 ∈ mWS := List.mem_filter.mpr ⟨mtb_in 8 _ (List.mem_of_getElem? (i := 23) rfl), rfl⟩
set_option maxRecDepth 100000 in
theorem mcq_245 : mcw 245 ∈ mWS := List.mem_filter.mpr ⟨mtb_in 8 _ (List.mem_of_getElem? (i := 27) rfl), rfl⟩
set_option maxRecDepth 100000 in
theorem mcq_246 : mcw 246 ∈ mWS := List.mem_filter.mpr ⟨mtb_in 8 _ (List.mem_of_getElem? (i := 31) rfl), rfl⟩
set_option maxRecDepth 100000 in
theorem mcq_247 : mcw 247 ∈ mWS := List.mem_filter.mpr ⟨mtb_in 8 _ (List.mem_of_getElem? (i := 35) rfl), rfl⟩
set_option maxRecDepth 100000 in
theorem mcq_248 : mcw 248 ∈ mWS := List.mem_filter.mpr ⟨mtb_in 8 _ (List.mem_of_getElem? (i := 39) rfl), rfl⟩
set_option maxRecDepth 100000 in
theorem mcq_249 : mcw 249 ∈ mWS := List.mem_filter.mpr ⟨mtb_in 8 _ (List.mem_of_getElem? (i := 42) rfl), rfl⟩
set_option maxRecDepth 100000 in
theorem mcq_250 : mcw 250 ∈ mWS := List.mem_filter.mpr ⟨mtb_in 8 _ (List.mem_of_getElem? (i := 46) rfl), rfl⟩
set_option maxRecDepth 100000 in
theorem mcq_251 : mcw 251 ∈ mWS := List.mem_filter.mpr ⟨mtb_in 8 _ (List.mem_of_getElem? (i := 50) rfl), rfl⟩
set_option maxRecDepth 100000 in
theorem mcq_252 : mcw 252 ∈ mWS := List.mem_filter.mpr ⟨mtb_in 8 _ (List.mem_of_getElem? (i := 54) rfl), rfl⟩
set_option maxRecDepth 100000 in
theorem mcq_253 : mcw 253 ∈ mWS := List.mem_filter.mpr ⟨mtb_in 8 _ (List.mem_of_getElem? (i := 58) rfl), rfl⟩
set_option maxRecDepth 100000 in
theorem mcq_254 : mcw 254 ∈ mWS := List.mem_filter.mpr ⟨mtb_in 8 _ (List.mem_of_getElem? (i := 61) rfl), rfl⟩
set_option maxRecDepth 100000 in
theorem mcq_255 : mcw 255 ∈ mWS := List.mem_filter.mpr ⟨mtb_in 8 _ (List.mem_of_getElem? (i := 65) rfl), rfl⟩
set_option maxRecDepth 100000 in
theorem mcq_256 : mcw 256 ∈ mWS := List.mem_filter.mpr ⟨mtb_in 8 _ (List.mem_of_getElem? (i := 69) rfl), rfl⟩
set_option maxRecDepth 100000 in
theorem mcq_257 : mcw 257 ∈ mWS := List.mem_filter.mpr ⟨mtb_in 8 _ (List.mem_of_getElem? (i := 73) rfl), rfl⟩
set_option maxRecDepth 100000 in
theorem mcq_258 : mcw 258 ∈ mWS := List.mem_filter.mpr ⟨mtb_in 8 _ (List.mem_of_getElem? (i := 77) rfl), rfl⟩
set_option maxRecDepth 100000 in
theorem mcq_259 : mcw 259 ∈ mWS := List.mem_filter.mpr ⟨mtb_in 8 _ (List.mem_of_getElem? (i := 80) rfl), rfl⟩
set_option maxRecDepth 100000 in
theorem mcq_260 : mcw 260 ∈ mWS := List.mem_filter.mpr ⟨mtb_in 8 _ (List.mem_of_getElem? (i := 85) rfl), rfl⟩
set_option maxRecDepth 100000 in
theorem mcq_261 : mcw 261 ∈ mWS := List.mem_filter.mpr ⟨mtb_in 8 _ (List.mem_of_getElem? (i := 89) rfl), rfl⟩
set_option maxRecDepth 100000 in
theorem mcq_262 : mcw 262 ∈ mWS := List.mem_filter.mpr ⟨mtb_in 8 _ (List.mem_of_getElem? (i := 93) rfl), rfl⟩
set_option maxRecDepth 100000 in
theorem mcq_263 : mcw 263 ∈ mWS := List.mem_filter.mpr ⟨mtb_in 8 _ (List.mem_of_getElem? (i := 97) rfl), rfl⟩
set_option maxRecDepth 100000 in
theorem mcq_264 : mcw 264 ∈ mWS := List.mem_filter.mpr ⟨mtb_in 8 _ (List.mem_of_getElem? (i := 101) rfl), rfl⟩
set_option maxRecDepth 100000 in
theorem mcq_265 : mcw 265 ∈ mWS := List.mem_filter.mpr ⟨mtb_in 8 _ (List.mem_of_getElem? (i := 105) rfl), rfl⟩
set_option maxRecDepth 100000 in
theorem mcq_266 : mcw 266 ∈ mWS := List.mem_filter.mpr ⟨mtb_in 8 _ (List.mem_of_getElem? (i := 109) rfl), rfl⟩
set_option maxRecDepth 100000 in
theorem mcq_267 : mcw 267 ∈ mWS := List.mem_filter.mpr ⟨mtb_in 8 _ (List.mem_of_getElem? (i := 113) rfl), rfl⟩
set_option maxRecDepth 100000 in
theorem mcq_268 : mcw 268 ∈ mWS := List.mem_filter.mpr ⟨mtb_in 8 _ (List.mem_of_getElem? (i := 117) rfl), rfl⟩
set_option maxRecDepth 100000 in
theorem mcq_269 : mcw 269 ∈ mWS := List.mem_filter.mpr ⟨mtb_in 8 _ (List.mem_of_getElem? (i := 121) rfl), rfl⟩
set_option maxRecDepth 100000 in
theorem mcq_270 : mcw 270 ∈ mWS := List.mem_filter.mpr ⟨mtb_in 8 _ (List.mem_of_getElem? (i := 125) rfl), rfl⟩
set_option maxRecDepth 100000 in
theorem mcq_271 : mcw 271 ∈ mWS := List.mem_filter.mpr ⟨mtb_in 8 _ (List.mem_of_getElem? (i := 129) rfl), rfl⟩
set_option maxRecDepth 100000 in
theorem mcq_272 : mcw 272 ∈ mWS := List.mem_filter.mpr ⟨mtb_in 8 _ (List.mem_of_getElem? (i := 133) rfl), rfl⟩
set_option maxRecDepth 100000 in
theorem mcq_273 : mcw 273 ∈ mWS := List.mem_filter.mpr ⟨mtb_in 8 _ (List.mem_of_getElem? (i := 137) rfl), rfl⟩
set_option maxRecDepth 100000 in
theorem mcq_274 : mcw 274 ∈ mWS := List.mem_filter.mpr ⟨mtb_in 8 _ (List.mem_of_getElem? (i := 141) rfl), rfl⟩
set_option maxRecDepth 100000 in
theorem mcq_275 : mcw 275 ∈ mWS := List.mem_filter.mpr ⟨mtb_in 8 _ (List.mem_of_getElem? (i := 145) rfl), rfl⟩
set_option maxRecDepth 100000 in
theorem mcq_276 : mcw 276 ∈ mWS := List.mem_filter.mpr ⟨mtb_in 8 _ (List.mem_of_getElem? (i := 149) rfl), rfl⟩
set_option maxRecDepth 100000 in
theorem mcq_277 : mcw 277 ∈ mWS := List.mem_filter.mpr ⟨mtb_in 8 _ (List.mem_of_getElem? (i := 153) rfl), rfl⟩
set_option maxRecDepth 100000 in
theorem mcq_278 : mcw 278 ∈ mWS := List.mem_filter.mpr ⟨mtb_in 8 _ (List.mem_of_getElem? (i := 157) rfl), rfl⟩
set_option maxRecDepth 100000 in
theorem mcq_279 : mcw 279 ∈ mWS := List.mem_filter.mpr ⟨mtb_in 8 _ (List.mem_of_getElem? (i := 161) rfl), rfl⟩
set_option maxRecDepth 100000 in
theorem mcq_280 : mcw 280 ∈ mWS := List.mem_filter.mpr ⟨mtb_in 8 _ (List.mem_of_getElem? (i := 165) rfl), rfl⟩
set_option maxRecDepth 100000 in
theorem mcq_281 : mcw 281 ∈ mWS := List.mem_filter.mpr ⟨mtb_in 8 _ (List.mem_of_getElem? (i := 169) rfl), rfl⟩
set_option maxRecDepth 100000 in
theorem mcq_282 : mcw 282 ∈ mWS := List.mem_filter.mpr ⟨mtb_in 8 _ (List.mem_of_getElem? (i := 173) rfl), rfl⟩
set_option maxRecDepth 100000 in
theorem mcq_283 : mcw 283 ∈ mWS := List.mem_filter.mpr ⟨mtb_in 8 _ (List.mem_of_getElem? (i := 177) rfl), rfl⟩
set_option maxRecDepth 100000 in
theorem mcq_284 : mcw 284 ∈ mWS := List.mem_filter.mpr ⟨mtb_in 8 _ (List.mem_of_getElem? (i := 181) rfl), rfl⟩
set_option maxRecDepth 100000 in
theorem mcq_285 : mcw 285 ∈ mWS := List.mem_filter.mpr ⟨mtb_in 8 _ (List.mem_of_getElem? (i := 185) rfl), rfl⟩
set_option maxRecDepth 100000 in
theorem mcq_286 : mcw 286 ∈ mWS := List.mem_filter.mpr ⟨mtb_in 8 _ (List.mem_of_getElem? (i := 189) rfl), rfl⟩
set_option maxRecDepth 100000 in
theorem mcq_287 : mcw 287 ∈ mWS := List.mem_filter.mpr ⟨mtb_in 8 _ (List.mem_of_getElem? (i := 193) rfl), rfl⟩
set_option maxRecDepth 100000 in
theorem mcq_288 : mcw 288 ∈ mWS := List.mem_filter.mpr ⟨mtb_in 8 _ (List.mem_of_getElem? (i := 197) rfl), rfl⟩
set_option maxRecDepth 100000 in
theorem mcq_289 : mcw 289 ∈ mWS := List.mem_filter.mpr ⟨mtb_in 8 _ (List.mem_of_getElem? (i := 201) rfl), rfl⟩
set_option maxRecDepth 100000 in
theorem mcq_290 : mcw 290 ∈ mWS := List.mem_filter.mpr ⟨mtb_in 8 _ (List.mem_of_getElem? (i := 205) rfl), rfl⟩
set_option maxRecDepth 100000 in
theorem mcq_291 : mcw 291 ∈ mWS := List.mem_filter.mpr ⟨mtb_in 8 _ (List.mem_of_getElem? (i := 209) rfl), rfl⟩
set_option maxRecDepth 100000 in
theorem mcq_292 : mcw 292 ∈ mWS := List.mem_filter.mpr ⟨mtb_in 8 _ (List.mem_of_getElem? (i := 213) rfl), rfl⟩
set_option maxRecDepth 100000 in
theorem mcq_293 : mcw 293 ∈ mWS := List.mem_filter.mpr ⟨mtb_in 8 _ (List.mem_of_getElem? (i := 217) rfl), rfl⟩
set_option maxRecDepth 100000 in
theorem mcq_294 : mcw 294 ∈ mWS := List.mem_filter.mpr ⟨mtb_in 8 _ (List.mem_of_getElem? (i := 220) rfl), rfl⟩
set_option maxRecDepth 100000 in
theorem mcq_295 : mcw 295 ∈ mWS := List.mem_filter.mpr ⟨mtb_in 8 _ (List.mem_of_getElem? (i := 224) rfl), rfl⟩
set_option maxRecDepth 100000 in
theorem mcq_296 : mcw 296 ∈ mWS := List.mem_filter.mpr ⟨mtb_in 8 _ (List.mem_of_getElem? (i := 228) rfl), rfl⟩
set_option maxRecDepth 100000 in
theorem mcq_297 : mcw 297 ∈ mWS := List.mem_filter.mpr ⟨mtb_in 8 _ (List.mem_of_getElem? (i := 232) rfl), rfl⟩
set_option maxRecDepth 100000 in
theorem mcq_298 : mcw 298 ∈ mWS := List.mem_filter.mpr ⟨mtb_in 8 _ (List.mem_of_getElem? (i := 236) rfl), rfl⟩
set_option maxRecDepth 100000 in
theorem mcq_299 : mcw 299 ∈ mWS := List.mem_filter.mpr ⟨mtb_in 9 _ (List.mem_of_getElem? (i := 0) rfl), rfl⟩
set_option maxRecDepth 100000 in
theorem mcq_300 : mcw 300 ∈ mWS := List.mem_filter.mpr ⟨mtb_in 9 _ (List.mem_of_getElem? (i := 3) rfl), rfl⟩
set_option maxRecDepth 100000 in
theorem mcq_301 : mcw 301 ∈ mWS := List.mem_filter.mpr ⟨mtb_in 9 _ (List.mem_of_getElem? (i := 7) rfl), rfl⟩
set_option maxRecDepth 100000 in
theorem mcq_302 : mcw 302 ∈ mWS := List.mem_filter.mpr ⟨mtb_in 9 _ (List.mem_of_getElem? (i := 11) rfl), rfl⟩
set_option maxRecDepth 100000 in
theorem mcq_303 : mcw 303 ∈ mWS := List.mem_filter.mpr ⟨mtb_in 9 _ (List.mem_of_getElem? (i := 15) rfl), rfl⟩
set_option maxRecDepth 100000 in
theorem mcq_304 : mcw 304 ∈ mWS := List.mem_filter.mpr ⟨mtb_in 9 _ (List.mem_of_getElem? (i := 19) rfl), rfl⟩
set_option maxRecDepth 100000 in
theorem mcq_305 : mcw 305 ∈ mWS := List.mem_filter.mpr ⟨mtb_in 9 _ (List.mem_of_getElem? (i := 22) rfl), rfl⟩
set_option maxRecDepth 100000 in
theorem mcq_306 : mcw 306 ∈ mWS := List.mem_filter.mpr ⟨mtb_in 9 _ (List.mem_of_getElem? (i := 26) rfl), rfl⟩
set_option maxRecDepth 100000 in
theorem mcq_307 : mcw 307 ∈ mWS := List.mem_filter.mpr ⟨mtb_in 9 _ (List.mem_of_getElem? (i := 30) rfl), rfl⟩
set_option maxRecDepth 100000 in
theorem mcq_308 : mcw 308 ∈ mWS := List.mem_filter.mpr ⟨mtb_in 9 _ (List.mem_of_getElem? (i := 34) rfl), rfl⟩
set_option maxRecDepth 100000 in
theorem mcq_309 : mcw 309 ∈ mWS := List.mem_filter.mpr ⟨mtb_in 9 _ (List.mem_of_getElem? (i := 38) rfl), rfl⟩
set_option maxRecDepth 100000 in
theorem mcq_310 : mcw 310 ∈ mWS := List.mem_filter.mpr ⟨mtb_in 9 _ (List.mem_of_getElem? (i := 42) rfl), rfl⟩
set_option maxRecDepth 100000 in
theorem mcq_311 : mcw 311 ∈ mWS := List.mem_filter.mpr ⟨mtb_in 9 _ (List.mem_of_getElem? (i := 46) rfl), rfl⟩
set_option maxRecDepth 100000 in
theorem mcode_in {y : Nat} (h0 : 1 ≤ y) (hy : y < 312) : mcw y ∈ mWS := by
  match y, h0, hy with
  | 1, _, _ => exact mcq_1
  | 2, _, _ => exact mcq_2
  | 3, _, _ => exact mcq_3
  | 4, _, _ => exact mcq_4
  | 5, _, _ => exact mcq_5
  | 6, _, _ => exact mcq_6
  | 7, _, _ => exact mcq_7
  | 8, _, _ => exact mcq_8
  | 9, _, _ => exact mcq_9
  | 10, _, _ => exact mcq_10
  | 11, _, _ => exact mcq_11
  | 12, _, _ => exact mcq_12
  | 13, _, _ => exact mcq_13
  | 14, _, _ => exact mcq_14
  | 15, _, _ => exact mcq_15
  | 16, _, _ => exact mcq_16
  | 17, _, _ => exact mcq_17
  | 18, _, _ => exact mcq_18
  | 19, _, _ => exact mcq_19
  | 20, _, _ => exact mcq_20
  | 21, _, _ => exact mcq_21
  | 22, _, _ => exact mcq_22
  | 23, _, _ => exact mcq_23
  | 24, _, _ => exact mcq_24
  | 25, _, _ => exact mcq_25
  | 26, _, _ => exact mcq_26
  | 27, _, _ => exact mcq_27
  | 28, _, _ => exact mcq_28
  | 29, _, _ => exact mcq_29
  | 30, _, _ => exact mcq_30
  | 31, _, _ => exact mcq_31
  | 32, _, _ => exact mcq_32
  | 33, _, _ => exact mcq_33
  | 34, _, _ => exact mcq_34
  | 35, _, _ => exact mcq_35
  | 36, _, _ => exact mcq_36
  | 37, _, _ => exact mcq_37
  | 38, _, _ => exact mcq_38
  | 39, _, _ => exact mcq_39
  | 40, _, _ => exact mcq_40
  | 41, _, _ => exact mcq_41
  | 42, _, _ => exact mcq_42
  | 43, _, _ => exact mcq_43
  | 44, _, _ => exact mcq_44
  | 45, _, _ => exact mcq_45
  | 46, _, _ => exact mcq_46
  | 47, _, _ => exact mcq_47
  | 48, _, _ => exact mcq_48
  | 49, _, _ => exact mcq_49
  | 50, _, _ => exact mcq_50
  | 51, _, _ => exact mcq_51
  | 52, _, _ => exact mcq_52
  | 53, _, _ => exact mcq_53
  | 54, _, _ => exact mcq_54
  | 55, _, _ => exact mcq_55
  | 56, _, _ => exact mcq_56
  | 57, _, _ => exact mcq_57
  | 58, _, _ => exact mcq_58
  | 59, _, _ => exact mcq_59
  | 60, _, _ => exact mcq_60
  | 61, _, _ => exact mcq_61
  | 62, _, _ => exact mcq_62
  | 63, _, _ => exact mcq_63
  | 64, _, _ => exact mcq_64
  | 65, _, _ => exact mcq_65
  | 66, _, _ => exact mcq_66
  | 67, _, _ => exact mcq_67
  | 68, _, _ => exact mcq_68
  | 69, _, _ => exact mcq_69
  | 70, _, _ => exact mcq_70
  | 71, _, _ => exact mcq_71
  | 72, _, _ => exact mcq_72
  | 73, _, _ => exact mcq_73
  | 74, _, _ => exact mcq_74
  | 75, _, _ => exact mcq_75
  | 76, _, _ => exact mcq_76
  | 77, _, _ => exact mcq_77
  | 78, _, _ => exact mcq_78
  | 79, _, _ => exact mcq_79
  | 80, _, _ => exact mcq_80
  | 81, _, _ => exact mcq_81
  | 82, _, _ => exact mcq_82
  | 83, _, _ => exact mcq_83
  | 84, _, _ => exact mcq_84
  | 85, _, _ => exact mcq_85
  | 86, _, _ => exact mcq_86
  | 87, _, _ => exact mcq_87
  | 88, _, _ => exact mcq_88
  | 89, _, _ => exact mcq_89
  | 90, _, _ => exact mcq_90
  | 91, _, _ => exact mcq_91
  | 92, _, _ => exact mcq_92
  | 93, _, _ => exact mcq_93
  | 94, _, _ => exact mcq_94
  | 95, _, _ => exact mcq_95
  | 96, _, _ => exact mcq_96
  | 97, _, _ => exact mcq_97
  | 98, _, _ => exact mcq_98
  | 99, _, _ => exact mcq_99
  | 100, _, _ => exact mcq_100
  | 101, _, _ => exact mcq_101
  | 102, _, _ => exact mcq_102
  | 103, _, _ => exact mcq_103
  | 104, _, _ => exact mcq_104
  | 105, _, _ => exact mcq_105
  | 106, _, _ => exact mcq_106
  | 107, _, _ => exact mcq_107
  | 108, _, _ => exact mcq_108
  | 109, _, _ => exact mcq_109
  | 110, _, _ => exact mcq_110
  | 111, _, _ => exact mcq_111
  | 112, _, _ => exact mcq_112
  | 113, _, _ => exact mcq_113
  | 114, _, _ => exact mcq_114
  | 115, _, _ => exact mcq_115
  | 116, _, _ => exact mcq_116
  | 117, _, _ => exact mcq_117
  | 118, _, _ => exact mcq_118
  | 119, _, _ => exact mcq_119
  | 120, _, _ => exact mcq_120
  | 121, _, _ => exact mcq_121
  | 122, _, _ => exact mcq_122
  | 123, _, _ => exact mcq_123
  | 124, _, _ => exact mcq_124
  | 125, _, _ => exact mcq_125
  | 126, _, _ => exact mcq_126
  | 127, _, _ => exact mcq_127
  | 128, _, _ => exact mcq_128
  | 129, _, _ => exact mcq_129
  | 130, _, _ => exact mcq_130
  | 131, _, _ => exact mcq_131
  | 132, _, _ => exact mcq_132
  | 133, _, _ => exact mcq_133
  | 134, _, _ => exact mcq_134
  | 135, _, _ => exact mcq_135
  | 136, _, _ => exact mcq_136
  | 137, _, _ => exact mcq_137
  | 138, _, _ => exact mcq_138
  | 139, _, _ => exact mcq_139
  | 140, _, _ => exact mcq_140
  | 141, _, _ => exact mcq_141
  | 142, _, _ => exact mcq_142
  | 143, _, _ => exact mcq_143
  | 144, _, _ => exact mcq_144
  | 145, _, _ => exact mcq_145
  | 146, _, _ => exact mcq_146
  | 147, _, _ => exact mcq_147
  | 148, _, _ => exact mcq_148
  | 149, _, _ => exact mcq_149
  | 150, _, _ => exact mcq_150
  | 151, _, _ => exact mcq_151
  | 152, _, _ => exact mcq_152
  | 153, _, _ => exact mcq_153
  | 154, _, _ => exact mcq_154
  | 155, _, _ => exact mcq_155
  | 156, _, _ => exact mcq_156
  | 157, _, _ => exact mcq_157
  | 158, _, _ => exact mcq_158
  | 159, _, _ => exact mcq_159
  | 160, _, _ => exact mcq_160
  | 161, _, _ => exact mcq_161
  | 162, _, _ => exact mcq_162
  | 163, _, _ => exact mcq_163
  | 164, _, _ => exact mcq_164
  | 165, _, _ => exact mcq_165
  | 166, _, _ => exact mcq_166
  | 167, _, _ => exact mcq_167
  | 168, _, _ => exact mcq_168
  | 169, _, _ => exact mcq_169
  | 170, _, _ => exact mcq_170
  | 171, _, _ => exact mcq_171
  | 172, _, _ => exact mcq_172
  | 173, _, _ => exact mcq_173
  | 174, _, _ => exact mcq_174
  | 175, _, _ => exact mcq_175
  | 176, _, _ => exact mcq_176
  | 177, _, _ => exact mcq_177
  | 178, _, _ => exact mcq_178
  | 179, _, _ => exact mcq_179
  | 180, _, _ => exact mcq_180
  | 181, _, _ => exact mcq_181
  | 182, _, _ => exact mcq_182
  | 183, _, _ => exact mcq_183
  | 184, _, _ => exact mcq_184
  | 185, _, _ => exact mcq_185
  | 186, _, _ => exact mcq_186
  | 187, _, _ => exact mcq_187
  | 188, _, _ => exact mcq_188
  | 189, _, _ => exact mcq_189
  | 190, _, _ => exact mcq_190
  | 191, _, _ => exact mcq_191
  | 192, _, _ => exact mcq_192
  | 193, _, _ => exact mcq_193
  | 194, _, _ => exact mcq_194
  | 195, _, _ => exact mcq_195
  | 196, _, _ => exact mcq_196
  | 197, _, _ => exact mcq_197
  | 198, _, _ => exact mcq_198
  | 199, _, _ => exact mcq_199
  | 200, _, _ => exact mcq_200
  | 201, _, _ => exact mcq_201
  | 202, _, _ => exact mcq_202
  | 203, _, _ => exact mcq_203
  | 204, _, _ => exact mcq_204
  | 205, _, _ => exact mcq_205
  | 206, _, _ => exact mcq_206
  | 207, _, _ => exact mcq_207
  | 208, _, _ => exact mcq_208
  | 209, _, _ => exact mcq_209
  | 210, _, _ => exact mcq_210
  | 211, _, _ => exact mcq_211
  | 212, _, _ => exact mcq_212
  | 213, _, _ => exact mcq_213
  | 214, _, _ => exact mcq_214
  | 215, _, _ => exact mcq_215
  | 216, _, _ => exact mcq_216
  | 217, _, _ => exact mcq_217
  | 218, _, _ => exact mcq_218
  | 219, _, _ => exact mcq_219
  | 220, _, _ => exact mcq_220
  | 221, _, _ => exact mcq_221
  | 222, _, _ => exact mcq_222
  | 223, _, _ => exact mcq_223
  | 224, _, _ => exact mcq_224
  | 225, _, _ => exact mcq_225
  | 226, _, _ => exact mcq_226
  | 227, _, _ => exact mcq_227
  | 228, _, _ => exact mcq_228
  | 229, _, _ => exact mcq_229
  | 230, _, _ => exact mcq_230
  | 231, _, _ => exact mcq_231
  | 232, _, _ => exact mcq_232
  | 233, _, _ => exact mcq_233
  | 234, _, _ => exact mcq_234
  | 235, _, _ => exact mcq_235
  | 236, _, _ => exact mcq_236
  | 237, _, _ => exact mcq_237
  | 238, _, _ => exact mcq_238
  | 239, _, _ => exact mcq_239
  | 240, _, _ => exact mcq_240
  | 241, _, _ => exact mcq_241
  | 242, _, _ => exact mcq_242
  | 243, _, _ => exact mcq_243
  | 244, _, _ => exact mcq_244
  | 245, _, _ => exact mcq_245
  | 246, _, _ => exact mcq_246
  | 247, _, _ => exact mcq_247
  | 248, _, _ => exact mcq_248
  | 249, _, _ => exact mcq_249
  | 250, _, _ => exact mcq_250
  | 251, _, _ => exact mcq_251
  | 252, _, _ => exact mcq_252
  | 253, _, _ => exact mcq_253
  | 254, _, _ => exact mcq_254
  | 255, _, _ => exact mcq_255
  | 256, _, _ => exact mcq_256
  | 257, _, _ => exact mcq_257
  | 258, _, _ => exact mcq_258
  | 259, _, _ => exact mcq_259
  | 260, _, _ => exact mcq_260
  | 261, _, _ => exact mcq_261
  | 262, _, _ => exact mcq_262
  | 263, _, _ => exact mcq_263
  | 264, _, _ => exact mcq_264
  | 265, _, _ => exact mcq_265
  | 266, _, _ => exact mcq_266
  | 267, _, _ => exact mcq_267
  | 268, _, _ => exact mcq_268
  | 269, _, _ => exact mcq_269
  | 270, _, _ => exact mcq_270
  | 271, _, _ => exact mcq_271
  | 272, _, _ => exact mcq_272
  | 273, _, _ => exact mcq_273
  | 274, _, _ => exact mcq_274
  | 275, _, _ => exact mcq_275
  | 276, _, _ => exact mcq_276
  | 277, _, _ => exact mcq_277
  | 278, _, _ => exact mcq_278
  | 279, _, _ => exact mcq_279
  | 280, _, _ => exact mcq_280
  | 281, _, _ => exact mcq_281
  | 282, _, _ => exact mcq_282
  | 283, _, _ => exact mcq_283
  | 284, _, _ => exact mcq_284
  | 285, _, _ => exact mcq_285
  | 286, _, _ => exact mcq_286
  | 287, _, _ => exact mcq_287
  | 288, _, _ => exact mcq_288
  | 289, _, _ => exact mcq_289
  | 290, _, _ => exact mcq_290
  | 291, _, _ => exact mcq_291
  | 292, _, _ => exact mcq_292
  | 293, _, _ => exact mcq_293
  | 294, _, _ => exact mcq_294
  | 295, _, _ => exact mcq_295
  | 296, _, _ => exact mcq_296
  | 297, _, _ => exact mcq_297
  | 298, _, _ => exact mcq_298
  | 299, _, _ => exact mcq_299
  | 300, _, _ => exact mcq_300
  | 301, _, _ => exact mcq_301
  | 302, _, _ => exact mcq_302
  | 303, _, _ => exact mcq_303
  | 304, _, _ => exact mcq_304
  | 305, _, _ => exact mcq_305
  | 306, _, _ => exact mcq_306
  | 307, _, _ => exact mcq_307
  | 308, _, _ => exact mcq_308
  | 309, _, _ => exact mcq_309
  | 310, _, _ => exact mcq_310
  | 311, _, _ => exact mcq_311
  | k + 312, _, hy => exact absurd hy (by omega)
theorem mme_len : mMEL.length = 312 := by decide +kernel
theorem mmeth_ok {y : Nat} {q : mM} (h : mME y = some q) : mMethOK y = true := by
  have hy : y < 312 := by rw [← mme_len]; exact (List.getElem?_eq_some_iff.mp h).1
  by_cases h0 : y < 8
  · exact List.all_eq_true.mp mmo_0 y (List.mem_range'_1.mpr ⟨by omega, by omega⟩)
  by_cases h8 : y < 16
  · exact List.all_eq_true.mp mmo_8 y (List.mem_range'_1.mpr ⟨by omega, by omega⟩)
  by_cases h16 : y < 24
  · exact List.all_eq_true.mp mmo_16 y (List.mem_range'_1.mpr ⟨by omega, by omega⟩)
  by_cases h24 : y < 32
  · exact List.all_eq_true.mp mmo_24 y (List.mem_range'_1.mpr ⟨by omega, by omega⟩)
  by_cases h32 : y < 40
  · exact List.all_eq_true.mp mmo_32 y (List.mem_range'_1.mpr ⟨by omega, by omega⟩)
  by_cases h40 : y < 48
  · exact List.all_eq_true.mp mmo_40 y (List.mem_range'_1.mpr ⟨by omega, by omega⟩)
  by_cases h48 : y < 56
  · exact List.all_eq_true.mp mmo_48 y (List.mem_range'_1.mpr ⟨by omega, by omega⟩)
  by_cases h56 : y < 64
  · exact List.all_eq_true.mp mmo_56 y (List.mem_range'_1.mpr ⟨by omega, by omega⟩)
  by_cases h64 : y < 72
  · exact List.all_eq_true.mp mmo_64 y (List.mem_range'_1.mpr ⟨by omega, by omega⟩)
  by_cases h72 : y < 80
  · exact List.all_eq_true.mp mmo_72 y (List.mem_range'_1.mpr ⟨by omega, by omega⟩)
  by_cases h80 : y < 88
  · exact List.all_eq_true.mp mmo_80 y (List.mem_range'_1.mpr ⟨by omega, by omega⟩)
  by_cases h88 : y < 96
  · exact List.all_eq_true.mp mmo_88 y (List.mem_range'_1.mpr ⟨by omega, by omega⟩)
  by_cases h96 : y < 104
  · exact List.all_eq_true.mp mmo_96 y (List.mem_range'_1.mpr ⟨by omega, by omega⟩)
  by_cases h104 : y < 112
  · exact List.all_eq_true.mp mmo_104 y (List.mem_range'_1.mpr ⟨by omega, by omega⟩)
  by_cases h112 : y < 120
  · exact List.all_eq_true.mp mmo_112 y (List.mem_range'_1.mpr ⟨by omega, by omega⟩)
  by_cases h120 : y < 128
  · exact List.all_eq_true.mp mmo_120 y (List.mem_range'_1.mpr ⟨by omega, by omega⟩)
  by_cases h128 : y < 136
  · exact List.all_eq_true.mp mmo_128 y (List.mem_range'_1.mpr ⟨by omega, by omega⟩)
  by_cases h136 : y < 144
  · exact List.all_eq_true.mp mmo_136 y (List.mem_range'_1.mpr ⟨by omega, by omega⟩)
  by_cases h144 : y < 152
  · exact List.all_eq_true.mp mmo_144 y (List.mem_range'_1.mpr ⟨by omega, by omega⟩)
  by_cases h152 : y < 160
  · exact List.all_eq_true.mp mmo_152 y (List.mem_range'_1.mpr ⟨by omega, by omega⟩)
  by_cases h160 : y < 168
  · exact List.all_eq_true.mp mmo_160 y (List.mem_range'_1.mpr ⟨by omega, by omega⟩)
  by_cases h168 : y < 176
  · exact List.all_eq_true.mp mmo_168 y (List.mem_range'_1.mpr ⟨by omega, by omega⟩)
  by_cases h176 : y < 184
  · exact List.all_eq_true.mp mmo_176 y (List.mem_range'_1.mpr ⟨by omega, by omega⟩)
  by_cases h184 : y < 192
  · exact List.all_eq_true.mp mmo_184 y (List.mem_range'_1.mpr ⟨by omega, by omega⟩)
  by_cases h192 : y < 200
  · exact List.all_eq_true.mp mmo_192 y (List.mem_range'_1.mpr ⟨by omega, by omega⟩)
  by_cases h200 : y < 208
  · exact List.all_eq_true.mp mmo_200 y (List.mem_range'_1.mpr ⟨by omega, by omega⟩)
  by_cases h208 : y < 216
  · exact List.all_eq_true.mp mmo_208 y (List.mem_range'_1.mpr ⟨by omega, by omega⟩)
  by_cases h216 : y < 224
  · exact List.all_eq_true.mp mmo_216 y (List.mem_range'_1.mpr ⟨by omega, by omega⟩)
  by_cases h224 : y < 232
  · exact List.all_eq_true.mp mmo_224 y (List.mem_range'_1.mpr ⟨by omega, by omega⟩)
  by_cases h232 : y < 240
  · exact List.all_eq_true.mp mmo_232 y (List.mem_range'_1.mpr ⟨by omega, by omega⟩)
  by_cases h240 : y < 248
  · exact List.all_eq_true.mp mmo_240 y (List.mem_range'_1.mpr ⟨by omega, by omega⟩)
  by_cases h248 : y < 256
  · exact List.all_eq_true.mp mmo_248 y (List.mem_range'_1.mpr ⟨by omega, by omega⟩)
  by_cases h256 : y < 264
  · exact List.all_eq_true.mp mmo_256 y (List.mem_range'_1.mpr ⟨by omega, by omega⟩)
  by_cases h264 : y < 272
  · exact List.all_eq_true.mp mmo_264 y (List.mem_range'_1.mpr ⟨by omega, by omega⟩)
  by_cases h272 : y < 280
  · exact List.all_eq_true.mp mmo_272 y (List.mem_range'_1.mpr ⟨by omega, by omega⟩)
  by_cases h280 : y < 288
  · exact List.all_eq_true.mp mmo_280 y (List.mem_range'_1.mpr ⟨by omega, by omega⟩)
  by_cases h288 : y < 296
  · exact List.all_eq_true.mp mmo_288 y (List.mem_range'_1.mpr ⟨by omega, by omega⟩)
  by_cases h296 : y < 304
  · exact List.all_eq_true.mp mmo_296 y (List.mem_range'_1.mpr ⟨by omega, by omega⟩)
  by_cases h304 : y < 312
  · exact List.all_eq_true.mp mmo_304 y (List.mem_range'_1.mpr ⟨by omega, by omega⟩)
  omega
