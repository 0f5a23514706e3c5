section
-- ===== PART A: goes FIRST, ahead of the names: the tables' words, and 'selects' of the private methods out of them =====
/-- a private method of a class that the tables say can be made, by its rows of tables_1 -/
def lw_okq (q : MethodName × Nat) : Prop := (q.1.cls ≠ "java/lang/invoke/MethodHandle" ∧ q.1.cls ≠ "java/lang/invoke/VarHandle") ∧ Cond.instantiable q.1.cls q.2 ∈ tables_1 ∧ Cond.privateMethod q.1 ∈ tables_1 ∧ Cond.instanceMethod q.1 ∈ tables_1
theorem lw_p0 : lw_okq (⟨"HairRope$Tape", "skipBlanks", "(I)I"⟩, 9) := ⟨⟨by decide +kernel, by decide +kernel⟩, List.mem_of_getElem? (i := 32) (by decide +kernel), List.mem_of_getElem? (i := 519) (by decide +kernel), List.mem_of_getElem? (i := 520) (by decide +kernel)⟩
theorem lw_p1 : lw_okq (⟨"HairRope$Tape", "byteAt", "(I)I"⟩, 9) := ⟨⟨by decide +kernel, by decide +kernel⟩, List.mem_of_getElem? (i := 32) (by decide +kernel), List.mem_of_getElem? (i := 523) (by decide +kernel), List.mem_of_getElem? (i := 524) (by decide +kernel)⟩
theorem lw_p2 : lw_okq (⟨"HairRope$Tape", "cut", "(II)I"⟩, 9) := ⟨⟨by decide +kernel, by decide +kernel⟩, List.mem_of_getElem? (i := 32) (by decide +kernel), List.mem_of_getElem? (i := 530) (by decide +kernel), List.mem_of_getElem? (i := 531) (by decide +kernel)⟩
theorem lw_p3 : lw_okq (⟨"HairRope$Tape", "keepToken", "(IIIJI)I"⟩, 9) := ⟨⟨by decide +kernel, by decide +kernel⟩, List.mem_of_getElem? (i := 32) (by decide +kernel), List.mem_of_getElem? (i := 534) (by decide +kernel), List.mem_of_getElem? (i := 535) (by decide +kernel)⟩
theorem lw_p4 : lw_okq (⟨"HairRope$Tape", "cutWord", "(II)I"⟩, 9) := ⟨⟨by decide +kernel, by decide +kernel⟩, List.mem_of_getElem? (i := 32) (by decide +kernel), List.mem_of_getElem? (i := 541) (by decide +kernel), List.mem_of_getElem? (i := 542) (by decide +kernel)⟩
theorem lw_p5 : lw_okq (⟨"HairRope$Tape", "wordAt", "(II)I"⟩, 9) := ⟨⟨by decide +kernel, by decide +kernel⟩, List.mem_of_getElem? (i := 32) (by decide +kernel), List.mem_of_getElem? (i := 546) (by decide +kernel), List.mem_of_getElem? (i := 547) (by decide +kernel)⟩
theorem lw_p6 : lw_okq (⟨"HairRope$Tape", "isWordAt", "(III)Z"⟩, 9) := ⟨⟨by decide +kernel, by decide +kernel⟩, List.mem_of_getElem? (i := 32) (by decide +kernel), List.mem_of_getElem? (i := 561) (by decide +kernel), List.mem_of_getElem? (i := 562) (by decide +kernel)⟩
theorem lw_p7 : lw_okq (⟨"HairRope$Tape", "cutInt", "(II)I"⟩, 9) := ⟨⟨by decide +kernel, by decide +kernel⟩, List.mem_of_getElem? (i := 32) (by decide +kernel), List.mem_of_getElem? (i := 606) (by decide +kernel), List.mem_of_getElem? (i := 607) (by decide +kernel)⟩
theorem lw_p8 : lw_okq (⟨"HairRope$Parser", "parseHouse", "()V"⟩, 6) := ⟨⟨by decide +kernel, by decide +kernel⟩, List.mem_of_getElem? (i := 179) (by decide +kernel), List.mem_of_getElem? (i := 675) (by decide +kernel), List.mem_of_getElem? (i := 676) (by decide +kernel)⟩
theorem lw_p9 : lw_okq (⟨"HairRope$Parser", "take", "(I)Z"⟩, 6) := ⟨⟨by decide +kernel, by decide +kernel⟩, List.mem_of_getElem? (i := 179) (by decide +kernel), List.mem_of_getElem? (i := 679) (by decide +kernel), List.mem_of_getElem? (i := 680) (by decide +kernel)⟩
theorem lw_p10 : lw_okq (⟨"HairRope$Parser", "failLater", "(II)V"⟩, 6) := ⟨⟨by decide +kernel, by decide +kernel⟩, List.mem_of_getElem? (i := 179) (by decide +kernel), List.mem_of_getElem? (i := 692) (by decide +kernel), List.mem_of_getElem? (i := 693) (by decide +kernel)⟩
theorem lw_p11 : lw_okq (⟨"HairRope$Parser", "takeInt", "(II)I"⟩, 6) := ⟨⟨by decide +kernel, by decide +kernel⟩, List.mem_of_getElem? (i := 179) (by decide +kernel), List.mem_of_getElem? (i := 696) (by decide +kernel), List.mem_of_getElem? (i := 697) (by decide +kernel)⟩
theorem lw_p12 : lw_okq (⟨"HairRope$Parser", "parseLikes", "()V"⟩, 6) := ⟨⟨by decide +kernel, by decide +kernel⟩, List.mem_of_getElem? (i := 179) (by decide +kernel), List.mem_of_getElem? (i := 704) (by decide +kernel), List.mem_of_getElem? (i := 705) (by decide +kernel)⟩
theorem lw_p13 : lw_okq (⟨"HairRope$Parser", "takeHouse", "()I"⟩, 6) := ⟨⟨by decide +kernel, by decide +kernel⟩, List.mem_of_getElem? (i := 179) (by decide +kernel), List.mem_of_getElem? (i := 708) (by decide +kernel), List.mem_of_getElem? (i := 709) (by decide +kernel)⟩
theorem lw_p14 : lw_okq (⟨"HairRope$Parser", "parseNumber", "(II)I"⟩, 6) := ⟨⟨by decide +kernel, by decide +kernel⟩, List.mem_of_getElem? (i := 179) (by decide +kernel), List.mem_of_getElem? (i := 719) (by decide +kernel), List.mem_of_getElem? (i := 720) (by decide +kernel)⟩
theorem lw_p15 : lw_okq (⟨"HairRope$Parser", "parseLaw", "(I)V"⟩, 6) := ⟨⟨by decide +kernel, by decide +kernel⟩, List.mem_of_getElem? (i := 179) (by decide +kernel), List.mem_of_getElem? (i := 723) (by decide +kernel), List.mem_of_getElem? (i := 724) (by decide +kernel)⟩
def lw_privs_1 : List (MethodName × Nat) := [(⟨"HairRope$Tape", "skipBlanks", "(I)I"⟩, 9), (⟨"HairRope$Tape", "byteAt", "(I)I"⟩, 9), (⟨"HairRope$Tape", "cut", "(II)I"⟩, 9), (⟨"HairRope$Tape", "keepToken", "(IIIJI)I"⟩, 9), (⟨"HairRope$Tape", "cutWord", "(II)I"⟩, 9), (⟨"HairRope$Tape", "wordAt", "(II)I"⟩, 9), (⟨"HairRope$Tape", "isWordAt", "(III)Z"⟩, 9), (⟨"HairRope$Tape", "cutInt", "(II)I"⟩, 9), (⟨"HairRope$Parser", "parseHouse", "()V"⟩, 6), (⟨"HairRope$Parser", "take", "(I)Z"⟩, 6), (⟨"HairRope$Parser", "failLater", "(II)V"⟩, 6), (⟨"HairRope$Parser", "takeInt", "(II)I"⟩, 6), (⟨"HairRope$Parser", "parseLikes", "()V"⟩, 6), (⟨"HairRope$Parser", "takeHouse", "()I"⟩, 6), (⟨"HairRope$Parser", "parseNumber", "(II)I"⟩, 6), (⟨"HairRope$Parser", "parseLaw", "(I)V"⟩, 6)]
theorem lw_r1 : ∀ q ∈ lw_privs_1, lw_okq q := List.forall_mem_cons.mpr ⟨lw_p0, List.forall_mem_cons.mpr ⟨lw_p1, List.forall_mem_cons.mpr ⟨lw_p2, List.forall_mem_cons.mpr ⟨lw_p3, List.forall_mem_cons.mpr ⟨lw_p4, List.forall_mem_cons.mpr ⟨lw_p5, List.forall_mem_cons.mpr ⟨lw_p6, List.forall_mem_cons.mpr ⟨lw_p7, List.forall_mem_cons.mpr ⟨lw_p8, List.forall_mem_cons.mpr ⟨lw_p9, List.forall_mem_cons.mpr ⟨lw_p10, List.forall_mem_cons.mpr ⟨lw_p11, List.forall_mem_cons.mpr ⟨lw_p12, List.forall_mem_cons.mpr ⟨lw_p13, List.forall_mem_cons.mpr ⟨lw_p14, List.forall_mem_cons.mpr ⟨lw_p15, fun _ h => absurd h List.not_mem_nil⟩⟩⟩⟩⟩⟩⟩⟩⟩⟩⟩⟩⟩⟩⟩⟩
theorem lw_p16 : lw_okq (⟨"HairRope$Parser", "expression", "(I)V"⟩, 6) := ⟨⟨by decide +kernel, by decide +kernel⟩, List.mem_of_getElem? (i := 179) (by decide +kernel), List.mem_of_getElem? (i := 727) (by decide +kernel), List.mem_of_getElem? (i := 728) (by decide +kernel)⟩
theorem lw_p17 : lw_okq (⟨"HairRope$Parser", "part", "(I)V"⟩, 6) := ⟨⟨by decide +kernel, by decide +kernel⟩, List.mem_of_getElem? (i := 179) (by decide +kernel), List.mem_of_getElem? (i := 731) (by decide +kernel), List.mem_of_getElem? (i := 732) (by decide +kernel)⟩
theorem lw_p18 : lw_okq (⟨"HairRope$Parser", "unit", "(I)V"⟩, 6) := ⟨⟨by decide +kernel, by decide +kernel⟩, List.mem_of_getElem? (i := 179) (by decide +kernel), List.mem_of_getElem? (i := 735) (by decide +kernel), List.mem_of_getElem? (i := 736) (by decide +kernel)⟩
theorem lw_p19 : lw_okq (⟨"HairRope", "beginSpareText", "()V"⟩, 11) := ⟨⟨by decide +kernel, by decide +kernel⟩, List.mem_of_getElem? (i := 24) (by decide +kernel), List.mem_of_getElem? (i := 745) (by decide +kernel), List.mem_of_getElem? (i := 746) (by decide +kernel)⟩
theorem lw_p20 : lw_okq (⟨"HairRope", "isHouse", "(I)Z"⟩, 11) := ⟨⟨by decide +kernel, by decide +kernel⟩, List.mem_of_getElem? (i := 24) (by decide +kernel), List.mem_of_getElem? (i := 769) (by decide +kernel), List.mem_of_getElem? (i := 770) (by decide +kernel)⟩
theorem lw_p21 : lw_okq (⟨"HairRope$Rules", "lookAt", "(LHairRope$State;II)V"⟩, 4) := ⟨⟨by decide +kernel, by decide +kernel⟩, List.mem_of_getElem? (i := 205) (by decide +kernel), List.mem_of_getElem? (i := 782) (by decide +kernel), List.mem_of_getElem? (i := 783) (by decide +kernel)⟩
theorem lw_p22 : lw_okq (⟨"HairRope", "areTwo", "(II)Z"⟩, 11) := ⟨⟨by decide +kernel, by decide +kernel⟩, List.mem_of_getElem? (i := 24) (by decide +kernel), List.mem_of_getElem? (i := 803) (by decide +kernel), List.mem_of_getElem? (i := 804) (by decide +kernel)⟩
theorem lw_p23 : lw_okq (⟨"HairRope", "isPlace", "(I)Z"⟩, 11) := ⟨⟨by decide +kernel, by decide +kernel⟩, List.mem_of_getElem? (i := 24) (by decide +kernel), List.mem_of_getElem? (i := 823) (by decide +kernel), List.mem_of_getElem? (i := 824) (by decide +kernel)⟩
theorem lw_p24 : lw_okq (⟨"HairRope$History", "pastAt", "(I)LHairRope$State;"⟩, 5) := ⟨⟨by decide +kernel, by decide +kernel⟩, List.mem_of_getElem? (i := 284) (by decide +kernel), List.mem_of_getElem? (i := 835) (by decide +kernel), List.mem_of_getElem? (i := 836) (by decide +kernel)⟩
theorem lw_p25 : lw_okq (⟨"HairRope$Planner", "addToSums", "(II)V"⟩, 15) := ⟨⟨by decide +kernel, by decide +kernel⟩, List.mem_of_getElem? (i := 334) (by decide +kernel), List.mem_of_getElem? (i := 943) (by decide +kernel), List.mem_of_getElem? (i := 944) (by decide +kernel)⟩
theorem lw_p26 : lw_okq (⟨"HairRope$Planner", "findJoins", "(LHairRope$State;[IZ)V"⟩, 15) := ⟨⟨by decide +kernel, by decide +kernel⟩, List.mem_of_getElem? (i := 334) (by decide +kernel), List.mem_of_getElem? (i := 947) (by decide +kernel), List.mem_of_getElem? (i := 948) (by decide +kernel)⟩
theorem lw_p27 : lw_okq (⟨"HairRope$Planner", "isAble", "(I)Z"⟩, 15) := ⟨⟨by decide +kernel, by decide +kernel⟩, List.mem_of_getElem? (i := 334) (by decide +kernel), List.mem_of_getElem? (i := 951) (by decide +kernel), List.mem_of_getElem? (i := 952) (by decide +kernel)⟩
theorem lw_p28 : lw_okq (⟨"HairRope$Planner", "surveySet", "(I)V"⟩, 15) := ⟨⟨by decide +kernel, by decide +kernel⟩, List.mem_of_getElem? (i := 334) (by decide +kernel), List.mem_of_getElem? (i := 961) (by decide +kernel), List.mem_of_getElem? (i := 962) (by decide +kernel)⟩
theorem lw_p29 : lw_okq (⟨"HairRope$Planner", "build", "(II)V"⟩, 15) := ⟨⟨by decide +kernel, by decide +kernel⟩, List.mem_of_getElem? (i := 334) (by decide +kernel), List.mem_of_getElem? (i := 965) (by decide +kernel), List.mem_of_getElem? (i := 966) (by decide +kernel)⟩
theorem lw_p30 : lw_okq (⟨"HairRope$Planner", "putUpon", "(IIII)V"⟩, 15) := ⟨⟨by decide +kernel, by decide +kernel⟩, List.mem_of_getElem? (i := 334) (by decide +kernel), List.mem_of_getElem? (i := 979) (by decide +kernel), List.mem_of_getElem? (i := 980) (by decide +kernel)⟩
theorem lw_p31 : lw_okq (⟨"HairRope$Planner", "note", "(II)V"⟩, 15) := ⟨⟨by decide +kernel, by decide +kernel⟩, List.mem_of_getElem? (i := 334) (by decide +kernel), List.mem_of_getElem? (i := 988) (by decide +kernel), List.mem_of_getElem? (i := 989) (by decide +kernel)⟩
def lw_privs_2 : List (MethodName × Nat) := [(⟨"HairRope$Parser", "expression", "(I)V"⟩, 6), (⟨"HairRope$Parser", "part", "(I)V"⟩, 6), (⟨"HairRope$Parser", "unit", "(I)V"⟩, 6), (⟨"HairRope", "beginSpareText", "()V"⟩, 11), (⟨"HairRope", "isHouse", "(I)Z"⟩, 11), (⟨"HairRope$Rules", "lookAt", "(LHairRope$State;II)V"⟩, 4), (⟨"HairRope", "areTwo", "(II)Z"⟩, 11), (⟨"HairRope", "isPlace", "(I)Z"⟩, 11), (⟨"HairRope$History", "pastAt", "(I)LHairRope$State;"⟩, 5), (⟨"HairRope$Planner", "addToSums", "(II)V"⟩, 15), (⟨"HairRope$Planner", "findJoins", "(LHairRope$State;[IZ)V"⟩, 15), (⟨"HairRope$Planner", "isAble", "(I)Z"⟩, 15), (⟨"HairRope$Planner", "surveySet", "(I)V"⟩, 15), (⟨"HairRope$Planner", "build", "(II)V"⟩, 15), (⟨"HairRope$Planner", "putUpon", "(IIII)V"⟩, 15), (⟨"HairRope$Planner", "note", "(II)V"⟩, 15)]
theorem lw_r2 : ∀ q ∈ lw_privs_2, lw_okq q := List.forall_mem_cons.mpr ⟨lw_p16, List.forall_mem_cons.mpr ⟨lw_p17, List.forall_mem_cons.mpr ⟨lw_p18, List.forall_mem_cons.mpr ⟨lw_p19, List.forall_mem_cons.mpr ⟨lw_p20, List.forall_mem_cons.mpr ⟨lw_p21, List.forall_mem_cons.mpr ⟨lw_p22, List.forall_mem_cons.mpr ⟨lw_p23, List.forall_mem_cons.mpr ⟨lw_p24, List.forall_mem_cons.mpr ⟨lw_p25, List.forall_mem_cons.mpr ⟨lw_p26, List.forall_mem_cons.mpr ⟨lw_p27, List.forall_mem_cons.mpr ⟨lw_p28, List.forall_mem_cons.mpr ⟨lw_p29, List.forall_mem_cons.mpr ⟨lw_p30, List.forall_mem_cons.mpr ⟨lw_p31, fun _ h => absurd h List.not_mem_nil⟩⟩⟩⟩⟩⟩⟩⟩⟩⟩⟩⟩⟩⟩⟩⟩
theorem lw_p32 : lw_okq (⟨"HairRope$Planner", "isPair", "(I)Z"⟩, 15) := ⟨⟨by decide +kernel, by decide +kernel⟩, List.mem_of_getElem? (i := 334) (by decide +kernel), List.mem_of_getElem? (i := 1029) (by decide +kernel), List.mem_of_getElem? (i := 1030) (by decide +kernel)⟩
theorem lw_p33 : lw_okq (⟨"HairRope$Planner", "holdsWith", "(III)Z"⟩, 15) := ⟨⟨by decide +kernel, by decide +kernel⟩, List.mem_of_getElem? (i := 334) (by decide +kernel), List.mem_of_getElem? (i := 1033) (by decide +kernel), List.mem_of_getElem? (i := 1034) (by decide +kernel)⟩
theorem lw_p34 : lw_okq (⟨"HairRope$Planner", "exchangePair", "(I)V"⟩, 15) := ⟨⟨by decide +kernel, by decide +kernel⟩, List.mem_of_getElem? (i := 334) (by decide +kernel), List.mem_of_getElem? (i := 1037) (by decide +kernel), List.mem_of_getElem? (i := 1038) (by decide +kernel)⟩
theorem lw_p35 : lw_okq (⟨"HairRope$Planner", "exchangeJoin", "(I)V"⟩, 15) := ⟨⟨by decide +kernel, by decide +kernel⟩, List.mem_of_getElem? (i := 334) (by decide +kernel), List.mem_of_getElem? (i := 1041) (by decide +kernel), List.mem_of_getElem? (i := 1042) (by decide +kernel)⟩
theorem lw_p36 : lw_okq (⟨"HairRope$Giving", "isRest", "(I)Z"⟩, 5) := ⟨⟨by decide +kernel, by decide +kernel⟩, List.mem_of_getElem? (i := 392) (by decide +kernel), List.mem_of_getElem? (i := 1063) (by decide +kernel), List.mem_of_getElem? (i := 1064) (by decide +kernel)⟩
theorem lw_p37 : lw_okq (⟨"HairRope$Giving", "gain", "(II)I"⟩, 5) := ⟨⟨by decide +kernel, by decide +kernel⟩, List.mem_of_getElem? (i := 392) (by decide +kernel), List.mem_of_getElem? (i := 1067) (by decide +kernel), List.mem_of_getElem? (i := 1068) (by decide +kernel)⟩
theorem lw_p38 : lw_okq (⟨"HairRope$Forecast", "harvestOf", "(LHairRope$State;III)I"⟩, 4) := ⟨⟨by decide +kernel, by decide +kernel⟩, List.mem_of_getElem? (i := 311) (by decide +kernel), List.mem_of_getElem? (i := 1103) (by decide +kernel), List.mem_of_getElem? (i := 1104) (by decide +kernel)⟩
theorem lw_p39 : lw_okq (⟨"HairRope", "isKnown", "(I)Z"⟩, 11) := ⟨⟨by decide +kernel, by decide +kernel⟩, List.mem_of_getElem? (i := 24) (by decide +kernel), List.mem_of_getElem? (i := 1173) (by decide +kernel), List.mem_of_getElem? (i := 1174) (by decide +kernel)⟩
theorem lw_p40 : lw_okq (⟨"HairRope$Feeler", "housesOf", "(LHairRope$State;I)I"⟩, 11) := ⟨⟨by decide +kernel, by decide +kernel⟩, List.mem_of_getElem? (i := 416) (by decide +kernel), List.mem_of_getElem? (i := 1184) (by decide +kernel), List.mem_of_getElem? (i := 1185) (by decide +kernel)⟩
theorem lw_p41 : lw_okq (⟨"HairRope$Feeler", "learn", "(LHairRope$State;II)Z"⟩, 11) := ⟨⟨by decide +kernel, by decide +kernel⟩, List.mem_of_getElem? (i := 416) (by decide +kernel), List.mem_of_getElem? (i := 1191) (by decide +kernel), List.mem_of_getElem? (i := 1192) (by decide +kernel)⟩
theorem lw_p42 : lw_okq (⟨"HairRope$Feeler", "note", "(II)V"⟩, 11) := ⟨⟨by decide +kernel, by decide +kernel⟩, List.mem_of_getElem? (i := 416) (by decide +kernel), List.mem_of_getElem? (i := 1198) (by decide +kernel), List.mem_of_getElem? (i := 1199) (by decide +kernel)⟩
theorem lw_p43 : lw_okq (⟨"HairRope$History", "slotAt", "(I)LHairRope$State;"⟩, 5) := ⟨⟨by decide +kernel, by decide +kernel⟩, List.mem_of_getElem? (i := 284) (by decide +kernel), List.mem_of_getElem? (i := 1222) (by decide +kernel), List.mem_of_getElem? (i := 1223) (by decide +kernel)⟩
theorem lw_p44 : lw_okq (⟨"HairRopeModel", "plain", "(I)V"⟩, 71) := ⟨⟨by decide +kernel, by decide +kernel⟩, List.mem_of_getElem? (i := 1259) (by decide +kernel), List.mem_of_getElem? (i := 1265) (by decide +kernel), List.mem_of_getElem? (i := 1266) (by decide +kernel)⟩
theorem lw_p45 : lw_okq (⟨"HairRopeModel", "begins", "()V"⟩, 71) := ⟨⟨by decide +kernel, by decide +kernel⟩, List.mem_of_getElem? (i := 1259) (by decide +kernel), List.mem_of_getElem? (i := 1276) (by decide +kernel), List.mem_of_getElem? (i := 1277) (by decide +kernel)⟩
theorem lw_p46 : lw_okq (⟨"HairRopeModel", "keepsRow", "()V"⟩, 71) := ⟨⟨by decide +kernel, by decide +kernel⟩, List.mem_of_getElem? (i := 1259) (by decide +kernel), List.mem_of_getElem? (i := 1280) (by decide +kernel), List.mem_of_getElem? (i := 1281) (by decide +kernel)⟩
theorem lw_p47 : lw_okq (⟨"HairRopeModel", "lays", "(I)V"⟩, 71) := ⟨⟨by decide +kernel, by decide +kernel⟩, List.mem_of_getElem? (i := 1259) (by decide +kernel), List.mem_of_getElem? (i := 1501) (by decide +kernel), List.mem_of_getElem? (i := 1502) (by decide +kernel)⟩
def lw_privs_3 : List (MethodName × Nat) := [(⟨"HairRope$Planner", "isPair", "(I)Z"⟩, 15), (⟨"HairRope$Planner", "holdsWith", "(III)Z"⟩, 15), (⟨"HairRope$Planner", "exchangePair", "(I)V"⟩, 15), (⟨"HairRope$Planner", "exchangeJoin", "(I)V"⟩, 15), (⟨"HairRope$Giving", "isRest", "(I)Z"⟩, 5), (⟨"HairRope$Giving", "gain", "(II)I"⟩, 5), (⟨"HairRope$Forecast", "harvestOf", "(LHairRope$State;III)I"⟩, 4), (⟨"HairRope", "isKnown", "(I)Z"⟩, 11), (⟨"HairRope$Feeler", "housesOf", "(LHairRope$State;I)I"⟩, 11), (⟨"HairRope$Feeler", "learn", "(LHairRope$State;II)Z"⟩, 11), (⟨"HairRope$Feeler", "note", "(II)V"⟩, 11), (⟨"HairRope$History", "slotAt", "(I)LHairRope$State;"⟩, 5), (⟨"HairRopeModel", "plain", "(I)V"⟩, 71), (⟨"HairRopeModel", "begins", "()V"⟩, 71), (⟨"HairRopeModel", "keepsRow", "()V"⟩, 71), (⟨"HairRopeModel", "lays", "(I)V"⟩, 71)]
theorem lw_r3 : ∀ q ∈ lw_privs_3, lw_okq q := List.forall_mem_cons.mpr ⟨lw_p32, List.forall_mem_cons.mpr ⟨lw_p33, List.forall_mem_cons.mpr ⟨lw_p34, List.forall_mem_cons.mpr ⟨lw_p35, List.forall_mem_cons.mpr ⟨lw_p36, List.forall_mem_cons.mpr ⟨lw_p37, List.forall_mem_cons.mpr ⟨lw_p38, List.forall_mem_cons.mpr ⟨lw_p39, List.forall_mem_cons.mpr ⟨lw_p40, List.forall_mem_cons.mpr ⟨lw_p41, List.forall_mem_cons.mpr ⟨lw_p42, List.forall_mem_cons.mpr ⟨lw_p43, List.forall_mem_cons.mpr ⟨lw_p44, List.forall_mem_cons.mpr ⟨lw_p45, List.forall_mem_cons.mpr ⟨lw_p46, List.forall_mem_cons.mpr ⟨lw_p47, fun _ h => absurd h List.not_mem_nil⟩⟩⟩⟩⟩⟩⟩⟩⟩⟩⟩⟩⟩⟩⟩⟩
theorem lw_p48 : lw_okq (⟨"HairRopeModel", "cut", "()V"⟩, 71) := ⟨⟨by decide +kernel, by decide +kernel⟩, List.mem_of_getElem? (i := 1259) (by decide +kernel), List.mem_of_getElem? (i := 1513) (by decide +kernel), List.mem_of_getElem? (i := 1514) (by decide +kernel)⟩
theorem lw_p49 : lw_okq (⟨"HairRopeModel", "byteAt", "(I)I"⟩, 71) := ⟨⟨by decide +kernel, by decide +kernel⟩, List.mem_of_getElem? (i := 1259) (by decide +kernel), List.mem_of_getElem? (i := 1517) (by decide +kernel), List.mem_of_getElem? (i := 1518) (by decide +kernel)⟩
theorem lw_p50 : lw_okq (⟨"HairRopeModel", "token", "(IIIJ)V"⟩, 71) := ⟨⟨by decide +kernel, by decide +kernel⟩, List.mem_of_getElem? (i := 1259) (by decide +kernel), List.mem_of_getElem? (i := 1521) (by decide +kernel), List.mem_of_getElem? (i := 1522) (by decide +kernel)⟩
theorem lw_p51 : lw_okq (⟨"HairRopeModel", "sign", "(III)I"⟩, 71) := ⟨⟨by decide +kernel, by decide +kernel⟩, List.mem_of_getElem? (i := 1259) (by decide +kernel), List.mem_of_getElem? (i := 1531) (by decide +kernel), List.mem_of_getElem? (i := 1532) (by decide +kernel)⟩
theorem lw_p52 : lw_okq (⟨"HairRopeModel", "is", "(I)Z"⟩, 71) := ⟨⟨by decide +kernel, by decide +kernel⟩, List.mem_of_getElem? (i := 1259) (by decide +kernel), List.mem_of_getElem? (i := 1535) (by decide +kernel), List.mem_of_getElem? (i := 1536) (by decide +kernel)⟩
theorem lw_p53 : lw_okq (⟨"HairRopeModel", "tellOne", "()V"⟩, 71) := ⟨⟨by decide +kernel, by decide +kernel⟩, List.mem_of_getElem? (i := 1259) (by decide +kernel), List.mem_of_getElem? (i := 1539) (by decide +kernel), List.mem_of_getElem? (i := 1540) (by decide +kernel)⟩
theorem lw_p54 : lw_okq (⟨"HairRopeModel", "roomFor", "(II)V"⟩, 71) := ⟨⟨by decide +kernel, by decide +kernel⟩, List.mem_of_getElem? (i := 1259) (by decide +kernel), List.mem_of_getElem? (i := 1543) (by decide +kernel), List.mem_of_getElem? (i := 1544) (by decide +kernel)⟩
theorem lw_p55 : lw_okq (⟨"HairRopeModel", "fail", "(I)V"⟩, 71) := ⟨⟨by decide +kernel, by decide +kernel⟩, List.mem_of_getElem? (i := 1259) (by decide +kernel), List.mem_of_getElem? (i := 1547) (by decide +kernel), List.mem_of_getElem? (i := 1548) (by decide +kernel)⟩
theorem lw_p56 : lw_okq (⟨"HairRopeModel", "goesOn", "()V"⟩, 71) := ⟨⟨by decide +kernel, by decide +kernel⟩, List.mem_of_getElem? (i := 1259) (by decide +kernel), List.mem_of_getElem? (i := 1551) (by decide +kernel), List.mem_of_getElem? (i := 1552) (by decide +kernel)⟩
theorem lw_p57 : lw_okq (⟨"HairRopeModel", "tellHouse", "()V"⟩, 71) := ⟨⟨by decide +kernel, by decide +kernel⟩, List.mem_of_getElem? (i := 1259) (by decide +kernel), List.mem_of_getElem? (i := 1555) (by decide +kernel), List.mem_of_getElem? (i := 1556) (by decide +kernel)⟩
theorem lw_p58 : lw_okq (⟨"HairRopeModel", "must", "(I)V"⟩, 71) := ⟨⟨by decide +kernel, by decide +kernel⟩, List.mem_of_getElem? (i := 1259) (by decide +kernel), List.mem_of_getElem? (i := 1559) (by decide +kernel), List.mem_of_getElem? (i := 1560) (by decide +kernel)⟩
theorem lw_p59 : lw_okq (⟨"HairRopeModel", "wrong", "(II)V"⟩, 71) := ⟨⟨by decide +kernel, by decide +kernel⟩, List.mem_of_getElem? (i := 1259) (by decide +kernel), List.mem_of_getElem? (i := 1563) (by decide +kernel), List.mem_of_getElem? (i := 1564) (by decide +kernel)⟩
theorem lw_p60 : lw_okq (⟨"HairRopeModel", "bounded", "(II)I"⟩, 71) := ⟨⟨by decide +kernel, by decide +kernel⟩, List.mem_of_getElem? (i := 1259) (by decide +kernel), List.mem_of_getElem? (i := 1567) (by decide +kernel), List.mem_of_getElem? (i := 1568) (by decide +kernel)⟩
theorem lw_p61 : lw_okq (⟨"HairRopeModel", "tellLikes", "()V"⟩, 71) := ⟨⟨by decide +kernel, by decide +kernel⟩, List.mem_of_getElem? (i := 1259) (by decide +kernel), List.mem_of_getElem? (i := 1571) (by decide +kernel), List.mem_of_getElem? (i := 1572) (by decide +kernel)⟩
theorem lw_p62 : lw_okq (⟨"HairRopeModel", "known", "()I"⟩, 71) := ⟨⟨by decide +kernel, by decide +kernel⟩, List.mem_of_getElem? (i := 1259) (by decide +kernel), List.mem_of_getElem? (i := 1575) (by decide +kernel), List.mem_of_getElem? (i := 1576) (by decide +kernel)⟩
theorem lw_p63 : lw_okq (⟨"HairRopeModel", "toldInt", "(II)I"⟩, 71) := ⟨⟨by decide +kernel, by decide +kernel⟩, List.mem_of_getElem? (i := 1259) (by decide +kernel), List.mem_of_getElem? (i := 1579) (by decide +kernel), List.mem_of_getElem? (i := 1580) (by decide +kernel)⟩
def lw_privs_4 : List (MethodName × Nat) := [(⟨"HairRopeModel", "cut", "()V"⟩, 71), (⟨"HairRopeModel", "byteAt", "(I)I"⟩, 71), (⟨"HairRopeModel", "token", "(IIIJ)V"⟩, 71), (⟨"HairRopeModel", "sign", "(III)I"⟩, 71), (⟨"HairRopeModel", "is", "(I)Z"⟩, 71), (⟨"HairRopeModel", "tellOne", "()V"⟩, 71), (⟨"HairRopeModel", "roomFor", "(II)V"⟩, 71), (⟨"HairRopeModel", "fail", "(I)V"⟩, 71), (⟨"HairRopeModel", "goesOn", "()V"⟩, 71), (⟨"HairRopeModel", "tellHouse", "()V"⟩, 71), (⟨"HairRopeModel", "must", "(I)V"⟩, 71), (⟨"HairRopeModel", "wrong", "(II)V"⟩, 71), (⟨"HairRopeModel", "bounded", "(II)I"⟩, 71), (⟨"HairRopeModel", "tellLikes", "()V"⟩, 71), (⟨"HairRopeModel", "known", "()I"⟩, 71), (⟨"HairRopeModel", "toldInt", "(II)I"⟩, 71)]
theorem lw_r4 : ∀ q ∈ lw_privs_4, lw_okq q := List.forall_mem_cons.mpr ⟨lw_p48, List.forall_mem_cons.mpr ⟨lw_p49, List.forall_mem_cons.mpr ⟨lw_p50, List.forall_mem_cons.mpr ⟨lw_p51, List.forall_mem_cons.mpr ⟨lw_p52, List.forall_mem_cons.mpr ⟨lw_p53, List.forall_mem_cons.mpr ⟨lw_p54, List.forall_mem_cons.mpr ⟨lw_p55, List.forall_mem_cons.mpr ⟨lw_p56, List.forall_mem_cons.mpr ⟨lw_p57, List.forall_mem_cons.mpr ⟨lw_p58, List.forall_mem_cons.mpr ⟨lw_p59, List.forall_mem_cons.mpr ⟨lw_p60, List.forall_mem_cons.mpr ⟨lw_p61, List.forall_mem_cons.mpr ⟨lw_p62, List.forall_mem_cons.mpr ⟨lw_p63, fun _ h => absurd h List.not_mem_nil⟩⟩⟩⟩⟩⟩⟩⟩⟩⟩⟩⟩⟩⟩⟩⟩
theorem lw_p64 : lw_okq (⟨"HairRopeModel", "tellLaw", "(I)V"⟩, 71) := ⟨⟨by decide +kernel, by decide +kernel⟩, List.mem_of_getElem? (i := 1259) (by decide +kernel), List.mem_of_getElem? (i := 1583) (by decide +kernel), List.mem_of_getElem? (i := 1584) (by decide +kernel)⟩
theorem lw_p65 : lw_okq (⟨"HairRopeModel", "expression", "()V"⟩, 71) := ⟨⟨by decide +kernel, by decide +kernel⟩, List.mem_of_getElem? (i := 1259) (by decide +kernel), List.mem_of_getElem? (i := 1587) (by decide +kernel), List.mem_of_getElem? (i := 1588) (by decide +kernel)⟩
theorem lw_p66 : lw_okq (⟨"HairRopeModel", "unit", "()V"⟩, 71) := ⟨⟨by decide +kernel, by decide +kernel⟩, List.mem_of_getElem? (i := 1259) (by decide +kernel), List.mem_of_getElem? (i := 1591) (by decide +kernel), List.mem_of_getElem? (i := 1592) (by decide +kernel)⟩
theorem lw_p67 : lw_okq (⟨"HairRopeModel", "emit", "(II)V"⟩, 71) := ⟨⟨by decide +kernel, by decide +kernel⟩, List.mem_of_getElem? (i := 1259) (by decide +kernel), List.mem_of_getElem? (i := 1595) (by decide +kernel), List.mem_of_getElem? (i := 1596) (by decide +kernel)⟩
theorem lw_p68 : lw_okq (⟨"HairRopeModel", "comesOut", "(Z)V"⟩, 71) := ⟨⟨by decide +kernel, by decide +kernel⟩, List.mem_of_getElem? (i := 1259) (by decide +kernel), List.mem_of_getElem? (i := 1599) (by decide +kernel), List.mem_of_getElem? (i := 1600) (by decide +kernel)⟩
theorem lw_p69 : lw_okq (⟨"HairRopeModel", "term", "()V"⟩, 71) := ⟨⟨by decide +kernel, by decide +kernel⟩, List.mem_of_getElem? (i := 1259) (by decide +kernel), List.mem_of_getElem? (i := 1603) (by decide +kernel), List.mem_of_getElem? (i := 1604) (by decide +kernel)⟩
theorem lw_p70 : lw_okq (⟨"HairRopeModel", "isHouse", "(I)Z"⟩, 71) := ⟨⟨by decide +kernel, by decide +kernel⟩, List.mem_of_getElem? (i := 1259) (by decide +kernel), List.mem_of_getElem? (i := 1615) (by decide +kernel), List.mem_of_getElem? (i := 1616) (by decide +kernel)⟩
theorem lw_p71 : lw_okq (⟨"HairRopeModel", "copies", "()V"⟩, 71) := ⟨⟨by decide +kernel, by decide +kernel⟩, List.mem_of_getElem? (i := 1259) (by decide +kernel), List.mem_of_getElem? (i := 1622) (by decide +kernel), List.mem_of_getElem? (i := 1623) (by decide +kernel)⟩
theorem lw_p72 : lw_okq (⟨"HairRopeModel", "strongFirst", "(I)I"⟩, 71) := ⟨⟨by decide +kernel, by decide +kernel⟩, List.mem_of_getElem? (i := 1259) (by decide +kernel), List.mem_of_getElem? (i := 1626) (by decide +kernel), List.mem_of_getElem? (i := 1627) (by decide +kernel)⟩
theorem lw_p73 : lw_okq (⟨"HairRopeModel", "hasPlait", "(I)Z"⟩, 71) := ⟨⟨by decide +kernel, by decide +kernel⟩, List.mem_of_getElem? (i := 1259) (by decide +kernel), List.mem_of_getElem? (i := 1630) (by decide +kernel), List.mem_of_getElem? (i := 1631) (by decide +kernel)⟩
theorem lw_p74 : lw_okq (⟨"HairRopeModel", "placeOf", "(I)I"⟩, 71) := ⟨⟨by decide +kernel, by decide +kernel⟩, List.mem_of_getElem? (i := 1259) (by decide +kernel), List.mem_of_getElem? (i := 1634) (by decide +kernel), List.mem_of_getElem? (i := 1635) (by decide +kernel)⟩
theorem lw_p75 : lw_okq (⟨"HairRopeModel", "growsOf", "(I)I"⟩, 71) := ⟨⟨by decide +kernel, by decide +kernel⟩, List.mem_of_getElem? (i := 1259) (by decide +kernel), List.mem_of_getElem? (i := 1638) (by decide +kernel), List.mem_of_getElem? (i := 1639) (by decide +kernel)⟩
theorem lw_p76 : lw_okq (⟨"HairRopeModel", "views", "(I)V"⟩, 71) := ⟨⟨by decide +kernel, by decide +kernel⟩, List.mem_of_getElem? (i := 1259) (by decide +kernel), List.mem_of_getElem? (i := 1642) (by decide +kernel), List.mem_of_getElem? (i := 1643) (by decide +kernel)⟩
theorem lw_p77 : lw_okq (⟨"HairRopeModel", "strongOf", "(I)I"⟩, 71) := ⟨⟨by decide +kernel, by decide +kernel⟩, List.mem_of_getElem? (i := 1259) (by decide +kernel), List.mem_of_getElem? (i := 1646) (by decide +kernel), List.mem_of_getElem? (i := 1647) (by decide +kernel)⟩
theorem lw_p78 : lw_okq (⟨"HairRopeModel", "lawTells", "(II)I"⟩, 71) := ⟨⟨by decide +kernel, by decide +kernel⟩, List.mem_of_getElem? (i := 1259) (by decide +kernel), List.mem_of_getElem? (i := 1650) (by decide +kernel), List.mem_of_getElem? (i := 1651) (by decide +kernel)⟩
theorem lw_p79 : lw_okq (⟨"HairRopeModel", "termOf", "(II)I"⟩, 71) := ⟨⟨by decide +kernel, by decide +kernel⟩, List.mem_of_getElem? (i := 1259) (by decide +kernel), List.mem_of_getElem? (i := 1654) (by decide +kernel), List.mem_of_getElem? (i := 1655) (by decide +kernel)⟩
def lw_privs_5 : List (MethodName × Nat) := [(⟨"HairRopeModel", "tellLaw", "(I)V"⟩, 71), (⟨"HairRopeModel", "expression", "()V"⟩, 71), (⟨"HairRopeModel", "unit", "()V"⟩, 71), (⟨"HairRopeModel", "emit", "(II)V"⟩, 71), (⟨"HairRopeModel", "comesOut", "(Z)V"⟩, 71), (⟨"HairRopeModel", "term", "()V"⟩, 71), (⟨"HairRopeModel", "isHouse", "(I)Z"⟩, 71), (⟨"HairRopeModel", "copies", "()V"⟩, 71), (⟨"HairRopeModel", "strongFirst", "(I)I"⟩, 71), (⟨"HairRopeModel", "hasPlait", "(I)Z"⟩, 71), (⟨"HairRopeModel", "placeOf", "(I)I"⟩, 71), (⟨"HairRopeModel", "growsOf", "(I)I"⟩, 71), (⟨"HairRopeModel", "views", "(I)V"⟩, 71), (⟨"HairRopeModel", "strongOf", "(I)I"⟩, 71), (⟨"HairRopeModel", "lawTells", "(II)I"⟩, 71), (⟨"HairRopeModel", "termOf", "(II)I"⟩, 71)]
theorem lw_r5 : ∀ q ∈ lw_privs_5, lw_okq q := List.forall_mem_cons.mpr ⟨lw_p64, List.forall_mem_cons.mpr ⟨lw_p65, List.forall_mem_cons.mpr ⟨lw_p66, List.forall_mem_cons.mpr ⟨lw_p67, List.forall_mem_cons.mpr ⟨lw_p68, List.forall_mem_cons.mpr ⟨lw_p69, List.forall_mem_cons.mpr ⟨lw_p70, List.forall_mem_cons.mpr ⟨lw_p71, List.forall_mem_cons.mpr ⟨lw_p72, List.forall_mem_cons.mpr ⟨lw_p73, List.forall_mem_cons.mpr ⟨lw_p74, List.forall_mem_cons.mpr ⟨lw_p75, List.forall_mem_cons.mpr ⟨lw_p76, List.forall_mem_cons.mpr ⟨lw_p77, List.forall_mem_cons.mpr ⟨lw_p78, List.forall_mem_cons.mpr ⟨lw_p79, fun _ h => absurd h List.not_mem_nil⟩⟩⟩⟩⟩⟩⟩⟩⟩⟩⟩⟩⟩⟩⟩⟩
theorem lw_p80 : lw_okq (⟨"HairRopeModel", "weakensOf", "(I)I"⟩, 71) := ⟨⟨by decide +kernel, by decide +kernel⟩, List.mem_of_getElem? (i := 1259) (by decide +kernel), List.mem_of_getElem? (i := 1661) (by decide +kernel), List.mem_of_getElem? (i := 1662) (by decide +kernel)⟩
theorem lw_p81 : lw_okq (⟨"HairRopeModel", "costsOf", "(I)I"⟩, 71) := ⟨⟨by decide +kernel, by decide +kernel⟩, List.mem_of_getElem? (i := 1259) (by decide +kernel), List.mem_of_getElem? (i := 1665) (by decide +kernel), List.mem_of_getElem? (i := 1666) (by decide +kernel)⟩
theorem lw_p82 : lw_okq (⟨"HairRopeModel", "areTwo", "(II)Z"⟩, 71) := ⟨⟨by decide +kernel, by decide +kernel⟩, List.mem_of_getElem? (i := 1259) (by decide +kernel), List.mem_of_getElem? (i := 1673) (by decide +kernel), List.mem_of_getElem? (i := 1674) (by decide +kernel)⟩
theorem lw_p83 : lw_okq (⟨"HairRopeModel", "likeOf", "(II)I"⟩, 71) := ⟨⟨by decide +kernel, by decide +kernel⟩, List.mem_of_getElem? (i := 1259) (by decide +kernel), List.mem_of_getElem? (i := 1677) (by decide +kernel), List.mem_of_getElem? (i := 1678) (by decide +kernel)⟩
theorem lw_p84 : lw_okq (⟨"HairRopeModel", "joinsOf", "(II)I"⟩, 71) := ⟨⟨by decide +kernel, by decide +kernel⟩, List.mem_of_getElem? (i := 1259) (by decide +kernel), List.mem_of_getElem? (i := 1685) (by decide +kernel), List.mem_of_getElem? (i := 1686) (by decide +kernel)⟩
theorem lw_p85 : lw_okq (⟨"HairRopeModel", "joinsBy", "(III)I"⟩, 71) := ⟨⟨by decide +kernel, by decide +kernel⟩, List.mem_of_getElem? (i := 1259) (by decide +kernel), List.mem_of_getElem? (i := 1689) (by decide +kernel), List.mem_of_getElem? (i := 1690) (by decide +kernel)⟩
theorem lw_p86 : lw_okq (⟨"HairRopeModel", "records", "()V"⟩, 71) := ⟨⟨by decide +kernel, by decide +kernel⟩, List.mem_of_getElem? (i := 1259) (by decide +kernel), List.mem_of_getElem? (i := 1701) (by decide +kernel), List.mem_of_getElem? (i := 1702) (by decide +kernel)⟩
theorem lw_p87 : lw_okq (⟨"HairRopeModel", "ropeLong", "()I"⟩, 71) := ⟨⟨by decide +kernel, by decide +kernel⟩, List.mem_of_getElem? (i := 1259) (by decide +kernel), List.mem_of_getElem? (i := 1705) (by decide +kernel), List.mem_of_getElem? (i := 1706) (by decide +kernel)⟩
theorem lw_p88 : lw_okq (⟨"HairRopeModel", "loses", "(I)V"⟩, 71) := ⟨⟨by decide +kernel, by decide +kernel⟩, List.mem_of_getElem? (i := 1259) (by decide +kernel), List.mem_of_getElem? (i := 1713) (by decide +kernel), List.mem_of_getElem? (i := 1714) (by decide +kernel)⟩
theorem lw_p89 : lw_okq (⟨"HairRopeModel", "breaksAt", "(I)I"⟩, 71) := ⟨⟨by decide +kernel, by decide +kernel⟩, List.mem_of_getElem? (i := 1259) (by decide +kernel), List.mem_of_getElem? (i := 1724) (by decide +kernel), List.mem_of_getElem? (i := 1725) (by decide +kernel)⟩
theorem lw_p90 : lw_okq (⟨"HairRopeModel", "spareAt", "(I)I"⟩, 71) := ⟨⟨by decide +kernel, by decide +kernel⟩, List.mem_of_getElem? (i := 1259) (by decide +kernel), List.mem_of_getElem? (i := 1728) (by decide +kernel), List.mem_of_getElem? (i := 1729) (by decide +kernel)⟩
theorem lw_p91 : lw_okq (⟨"HairRopeModel", "belowOf", "(I)I"⟩, 71) := ⟨⟨by decide +kernel, by decide +kernel⟩, List.mem_of_getElem? (i := 1259) (by decide +kernel), List.mem_of_getElem? (i := 1732) (by decide +kernel), List.mem_of_getElem? (i := 1733) (by decide +kernel)⟩
theorem lw_p92 : lw_okq (⟨"HairRopeModel", "goes", "(I)V"⟩, 71) := ⟨⟨by decide +kernel, by decide +kernel⟩, List.mem_of_getElem? (i := 1259) (by decide +kernel), List.mem_of_getElem? (i := 1743) (by decide +kernel), List.mem_of_getElem? (i := 1744) (by decide +kernel)⟩
theorem lw_p93 : lw_okq (⟨"HairRopeModel", "yearGoes", "()V"⟩, 71) := ⟨⟨by decide +kernel, by decide +kernel⟩, List.mem_of_getElem? (i := 1259) (by decide +kernel), List.mem_of_getElem? (i := 1747) (by decide +kernel), List.mem_of_getElem? (i := 1748) (by decide +kernel)⟩
theorem lw_p94 : lw_okq (⟨"HairRopeModel", "isBlighted", "(I)Z"⟩, 71) := ⟨⟨by decide +kernel, by decide +kernel⟩, List.mem_of_getElem? (i := 1259) (by decide +kernel), List.mem_of_getElem? (i := 1751) (by decide +kernel), List.mem_of_getElem? (i := 1752) (by decide +kernel)⟩
theorem lw_p95 : lw_okq (⟨"HairRopeModel", "lotOf", "(I)I"⟩, 71) := ⟨⟨by decide +kernel, by decide +kernel⟩, List.mem_of_getElem? (i := 1259) (by decide +kernel), List.mem_of_getElem? (i := 1755) (by decide +kernel), List.mem_of_getElem? (i := 1756) (by decide +kernel)⟩
def lw_privs_6 : List (MethodName × Nat) := [(⟨"HairRopeModel", "weakensOf", "(I)I"⟩, 71), (⟨"HairRopeModel", "costsOf", "(I)I"⟩, 71), (⟨"HairRopeModel", "areTwo", "(II)Z"⟩, 71), (⟨"HairRopeModel", "likeOf", "(II)I"⟩, 71), (⟨"HairRopeModel", "joinsOf", "(II)I"⟩, 71), (⟨"HairRopeModel", "joinsBy", "(III)I"⟩, 71), (⟨"HairRopeModel", "records", "()V"⟩, 71), (⟨"HairRopeModel", "ropeLong", "()I"⟩, 71), (⟨"HairRopeModel", "loses", "(I)V"⟩, 71), (⟨"HairRopeModel", "breaksAt", "(I)I"⟩, 71), (⟨"HairRopeModel", "spareAt", "(I)I"⟩, 71), (⟨"HairRopeModel", "belowOf", "(I)I"⟩, 71), (⟨"HairRopeModel", "goes", "(I)V"⟩, 71), (⟨"HairRopeModel", "yearGoes", "()V"⟩, 71), (⟨"HairRopeModel", "isBlighted", "(I)Z"⟩, 71), (⟨"HairRopeModel", "lotOf", "(I)I"⟩, 71)]
theorem lw_r6 : ∀ q ∈ lw_privs_6, lw_okq q := List.forall_mem_cons.mpr ⟨lw_p80, List.forall_mem_cons.mpr ⟨lw_p81, List.forall_mem_cons.mpr ⟨lw_p82, List.forall_mem_cons.mpr ⟨lw_p83, List.forall_mem_cons.mpr ⟨lw_p84, List.forall_mem_cons.mpr ⟨lw_p85, List.forall_mem_cons.mpr ⟨lw_p86, List.forall_mem_cons.mpr ⟨lw_p87, List.forall_mem_cons.mpr ⟨lw_p88, List.forall_mem_cons.mpr ⟨lw_p89, List.forall_mem_cons.mpr ⟨lw_p90, List.forall_mem_cons.mpr ⟨lw_p91, List.forall_mem_cons.mpr ⟨lw_p92, List.forall_mem_cons.mpr ⟨lw_p93, List.forall_mem_cons.mpr ⟨lw_p94, List.forall_mem_cons.mpr ⟨lw_p95, fun _ h => absurd h List.not_mem_nil⟩⟩⟩⟩⟩⟩⟩⟩⟩⟩⟩⟩⟩⟩⟩⟩
theorem lw_p96 : lw_okq (⟨"HairRopeModel", "mostOf", "()I"⟩, 71) := ⟨⟨by decide +kernel, by decide +kernel⟩, List.mem_of_getElem? (i := 1259) (by decide +kernel), List.mem_of_getElem? (i := 1771) (by decide +kernel), List.mem_of_getElem? (i := 1772) (by decide +kernel)⟩
theorem lw_p97 : lw_okq (⟨"HairRopeModel", "spareLeast", "()I"⟩, 71) := ⟨⟨by decide +kernel, by decide +kernel⟩, List.mem_of_getElem? (i := 1259) (by decide +kernel), List.mem_of_getElem? (i := 1775) (by decide +kernel), List.mem_of_getElem? (i := 1776) (by decide +kernel)⟩
theorem lw_p98 : lw_okq (⟨"HairRopeModel", "copiesStill", "()V"⟩, 71) := ⟨⟨by decide +kernel, by decide +kernel⟩, List.mem_of_getElem? (i := 1259) (by decide +kernel), List.mem_of_getElem? (i := 1791) (by decide +kernel), List.mem_of_getElem? (i := 1792) (by decide +kernel)⟩
theorem lw_p99 : lw_okq (⟨"HairRopeModel", "fillsPlans", "()V"⟩, 71) := ⟨⟨by decide +kernel, by decide +kernel⟩, List.mem_of_getElem? (i := 1259) (by decide +kernel), List.mem_of_getElem? (i := 1815) (by decide +kernel), List.mem_of_getElem? (i := 1816) (by decide +kernel)⟩
theorem lw_p100 : lw_okq (⟨"HairRopeModel", "goesToNext", "()Z"⟩, 71) := ⟨⟨by decide +kernel, by decide +kernel⟩, List.mem_of_getElem? (i := 1259) (by decide +kernel), List.mem_of_getElem? (i := 1819) (by decide +kernel), List.mem_of_getElem? (i := 1820) (by decide +kernel)⟩
theorem lw_p101 : lw_okq (⟨"HairRopeModel", "nextFrom", "(I)I"⟩, 71) := ⟨⟨by decide +kernel, by decide +kernel⟩, List.mem_of_getElem? (i := 1259) (by decide +kernel), List.mem_of_getElem? (i := 1823) (by decide +kernel), List.mem_of_getElem? (i := 1824) (by decide +kernel)⟩
theorem lw_p102 : lw_okq (⟨"HairRopeModel", "isIn", "(I)Z"⟩, 71) := ⟨⟨by decide +kernel, by decide +kernel⟩, List.mem_of_getElem? (i := 1259) (by decide +kernel), List.mem_of_getElem? (i := 1827) (by decide +kernel), List.mem_of_getElem? (i := 1828) (by decide +kernel)⟩
theorem lw_p103 : lw_okq (⟨"HairRopeModel", "orderSpare", "()I"⟩, 71) := ⟨⟨by decide +kernel, by decide +kernel⟩, List.mem_of_getElem? (i := 1259) (by decide +kernel), List.mem_of_getElem? (i := 1831) (by decide +kernel), List.mem_of_getElem? (i := 1832) (by decide +kernel)⟩
theorem lw_p104 : lw_okq (⟨"HairRopeModel", "peakOf", "()I"⟩, 71) := ⟨⟨by decide +kernel, by decide +kernel⟩, List.mem_of_getElem? (i := 1259) (by decide +kernel), List.mem_of_getElem? (i := 1839) (by decide +kernel), List.mem_of_getElem? (i := 1840) (by decide +kernel)⟩
theorem lw_p105 : lw_okq (⟨"HairRopeModel", "fewestOf", "(I)I"⟩, 71) := ⟨⟨by decide +kernel, by decide +kernel⟩, List.mem_of_getElem? (i := 1259) (by decide +kernel), List.mem_of_getElem? (i := 1847) (by decide +kernel), List.mem_of_getElem? (i := 1848) (by decide +kernel)⟩
theorem lw_p106 : lw_okq (⟨"HairRopeModel", "isPeace", "(III)Z"⟩, 71) := ⟨⟨by decide +kernel, by decide +kernel⟩, List.mem_of_getElem? (i := 1259) (by decide +kernel), List.mem_of_getElem? (i := 1863) (by decide +kernel), List.mem_of_getElem? (i := 1864) (by decide +kernel)⟩
theorem lw_p107 : lw_okq (⟨"HairRopeModel", "likesMost", "(I)V"⟩, 71) := ⟨⟨by decide +kernel, by decide +kernel⟩, List.mem_of_getElem? (i := 1259) (by decide +kernel), List.mem_of_getElem? (i := 1867) (by decide +kernel), List.mem_of_getElem? (i := 1868) (by decide +kernel)⟩
theorem lw_p108 : lw_okq (⟨"HairRopeModel", "isPair", "(I)Z"⟩, 71) := ⟨⟨by decide +kernel, by decide +kernel⟩, List.mem_of_getElem? (i := 1259) (by decide +kernel), List.mem_of_getElem? (i := 1871) (by decide +kernel), List.mem_of_getElem? (i := 1872) (by decide +kernel)⟩
theorem lw_p109 : lw_okq (⟨"HairRopeModel", "givesBits", "()I"⟩, 71) := ⟨⟨by decide +kernel, by decide +kernel⟩, List.mem_of_getElem? (i := 1259) (by decide +kernel), List.mem_of_getElem? (i := 1879) (by decide +kernel), List.mem_of_getElem? (i := 1880) (by decide +kernel)⟩
theorem lw_p110 : lw_okq (⟨"HairRopeModel", "isRest", "(I)Z"⟩, 71) := ⟨⟨by decide +kernel, by decide +kernel⟩, List.mem_of_getElem? (i := 1259) (by decide +kernel), List.mem_of_getElem? (i := 1883) (by decide +kernel), List.mem_of_getElem? (i := 1884) (by decide +kernel)⟩
theorem lw_p111 : lw_okq (⟨"HairRopeModel", "hasOf", "(II)I"⟩, 71) := ⟨⟨by decide +kernel, by decide +kernel⟩, List.mem_of_getElem? (i := 1259) (by decide +kernel), List.mem_of_getElem? (i := 1887) (by decide +kernel), List.mem_of_getElem? (i := 1888) (by decide +kernel)⟩
def lw_privs_7 : List (MethodName × Nat) := [(⟨"HairRopeModel", "mostOf", "()I"⟩, 71), (⟨"HairRopeModel", "spareLeast", "()I"⟩, 71), (⟨"HairRopeModel", "copiesStill", "()V"⟩, 71), (⟨"HairRopeModel", "fillsPlans", "()V"⟩, 71), (⟨"HairRopeModel", "goesToNext", "()Z"⟩, 71), (⟨"HairRopeModel", "nextFrom", "(I)I"⟩, 71), (⟨"HairRopeModel", "isIn", "(I)Z"⟩, 71), (⟨"HairRopeModel", "orderSpare", "()I"⟩, 71), (⟨"HairRopeModel", "peakOf", "()I"⟩, 71), (⟨"HairRopeModel", "fewestOf", "(I)I"⟩, 71), (⟨"HairRopeModel", "isPeace", "(III)Z"⟩, 71), (⟨"HairRopeModel", "likesMost", "(I)V"⟩, 71), (⟨"HairRopeModel", "isPair", "(I)Z"⟩, 71), (⟨"HairRopeModel", "givesBits", "()I"⟩, 71), (⟨"HairRopeModel", "isRest", "(I)Z"⟩, 71), (⟨"HairRopeModel", "hasOf", "(II)I"⟩, 71)]
theorem lw_r7 : ∀ q ∈ lw_privs_7, lw_okq q := List.forall_mem_cons.mpr ⟨lw_p96, List.forall_mem_cons.mpr ⟨lw_p97, List.forall_mem_cons.mpr ⟨lw_p98, List.forall_mem_cons.mpr ⟨lw_p99, List.forall_mem_cons.mpr ⟨lw_p100, List.forall_mem_cons.mpr ⟨lw_p101, List.forall_mem_cons.mpr ⟨lw_p102, List.forall_mem_cons.mpr ⟨lw_p103, List.forall_mem_cons.mpr ⟨lw_p104, List.forall_mem_cons.mpr ⟨lw_p105, List.forall_mem_cons.mpr ⟨lw_p106, List.forall_mem_cons.mpr ⟨lw_p107, List.forall_mem_cons.mpr ⟨lw_p108, List.forall_mem_cons.mpr ⟨lw_p109, List.forall_mem_cons.mpr ⟨lw_p110, List.forall_mem_cons.mpr ⟨lw_p111, fun _ h => absurd h List.not_mem_nil⟩⟩⟩⟩⟩⟩⟩⟩⟩⟩⟩⟩⟩⟩⟩⟩
theorem lw_p112 : lw_okq (⟨"HairRopeModel", "isEnough", "(I)Z"⟩, 71) := ⟨⟨by decide +kernel, by decide +kernel⟩, List.mem_of_getElem? (i := 1259) (by decide +kernel), List.mem_of_getElem? (i := 1891) (by decide +kernel), List.mem_of_getElem? (i := 1892) (by decide +kernel)⟩
theorem lw_p113 : lw_okq (⟨"HairRopeModel", "givesCost", "(I)I"⟩, 71) := ⟨⟨by decide +kernel, by decide +kernel⟩, List.mem_of_getElem? (i := 1259) (by decide +kernel), List.mem_of_getElem? (i := 1895) (by decide +kernel), List.mem_of_getElem? (i := 1896) (by decide +kernel)⟩
theorem lw_p114 : lw_okq (⟨"HairRopeModel", "harvestOf", "(III)I"⟩, 71) := ⟨⟨by decide +kernel, by decide +kernel⟩, List.mem_of_getElem? (i := 1259) (by decide +kernel), List.mem_of_getElem? (i := 1910) (by decide +kernel), List.mem_of_getElem? (i := 1911) (by decide +kernel)⟩
theorem lw_p115 : lw_okq (⟨"HairRopeModel", "isAsked", "(II)Z"⟩, 71) := ⟨⟨by decide +kernel, by decide +kernel⟩, List.mem_of_getElem? (i := 1259) (by decide +kernel), List.mem_of_getElem? (i := 1937) (by decide +kernel), List.mem_of_getElem? (i := 1938) (by decide +kernel)⟩
theorem lw_p116 : lw_okq (⟨"HairRopeModel", "doesFit", "(III)Z"⟩, 71) := ⟨⟨by decide +kernel, by decide +kernel⟩, List.mem_of_getElem? (i := 1259) (by decide +kernel), List.mem_of_getElem? (i := 1944) (by decide +kernel), List.mem_of_getElem? (i := 1945) (by decide +kernel)⟩
theorem lw_p117 : lw_okq (⟨"HairRopeModel", "sumNow", "(I)I"⟩, 71) := ⟨⟨by decide +kernel, by decide +kernel⟩, List.mem_of_getElem? (i := 1259) (by decide +kernel), List.mem_of_getElem? (i := 1964) (by decide +kernel), List.mem_of_getElem? (i := 1965) (by decide +kernel)⟩
def lw_privs_8 : List (MethodName × Nat) := [(⟨"HairRopeModel", "isEnough", "(I)Z"⟩, 71), (⟨"HairRopeModel", "givesCost", "(I)I"⟩, 71), (⟨"HairRopeModel", "harvestOf", "(III)I"⟩, 71), (⟨"HairRopeModel", "isAsked", "(II)Z"⟩, 71), (⟨"HairRopeModel", "doesFit", "(III)Z"⟩, 71), (⟨"HairRopeModel", "sumNow", "(I)I"⟩, 71)]
theorem lw_r8 : ∀ q ∈ lw_privs_8, lw_okq q := List.forall_mem_cons.mpr ⟨lw_p112, List.forall_mem_cons.mpr ⟨lw_p113, List.forall_mem_cons.mpr ⟨lw_p114, List.forall_mem_cons.mpr ⟨lw_p115, List.forall_mem_cons.mpr ⟨lw_p116, List.forall_mem_cons.mpr ⟨lw_p117, fun _ h => absurd h List.not_mem_nil⟩⟩⟩⟩⟩⟩
def lw_privs : List (MethodName × Nat) := lw_privs_1 ++ (lw_privs_2 ++ (lw_privs_3 ++ (lw_privs_4 ++ (lw_privs_5 ++ (lw_privs_6 ++ (lw_privs_7 ++ (lw_privs_8)))))))
def lw_tbl : List Cond := k2_sels lw_privs ++ tables_1
theorem lw_privs_ok : ∀ q ∈ lw_privs, lw_okq q := by
  show ∀ q ∈ lw_privs_1 ++ (lw_privs_2 ++ (lw_privs_3 ++ (lw_privs_4 ++ (lw_privs_5 ++ (lw_privs_6 ++ (lw_privs_7 ++ (lw_privs_8))))))), lw_okq q
  exact List.forall_mem_append.mpr ⟨lw_r1, List.forall_mem_append.mpr ⟨lw_r2, List.forall_mem_append.mpr ⟨lw_r3, List.forall_mem_append.mpr ⟨lw_r4, List.forall_mem_append.mpr ⟨lw_r5, List.forall_mem_append.mpr ⟨lw_r6, List.forall_mem_append.mpr ⟨lw_r7, lw_r8⟩⟩⟩⟩⟩⟩⟩
-- ===== end of PART A; then your names; then what follows =====
end
section
/-! ABSTRACT INTS: a range holds the int's number; every operation's range -/
def zI : Int × Int := (-2147483648, 2147483647)
def zfit (p : Int × Int) : Bool := decide (-2147483648 ≤ p.1) && decide (p.2 ≤ 2147483647)
def zcl (p : Int × Int) : Int × Int := if zfit p = true then p else zI
def zin (p : Int × Int) (x : Int32) : Prop := p.1 ≤ x.toInt ∧ x.toInt ≤ p.2
theorem zfit_iff {p : Int × Int} : zfit p = true ↔ -2147483648 ≤ p.1 ∧ p.2 ≤ 2147483647 := by
  simp only [zfit, Bool.and_eq_true, decide_eq_true_eq]
theorem zx_lo (x : Int32) : -2147483648 ≤ x.toInt := Int32.le_toInt x
theorem zx_hi (x : Int32) : x.toInt ≤ 2147483647 := by have := Int32.toInt_lt x; omega
theorem zin_top (x : Int32) : zin zI x := ⟨zx_lo x, zx_hi x⟩
theorem zin_cl {p : Int × Int} {x : Int32} (h : -2147483648 ≤ p.1 → p.2 ≤ 2147483647 → zin p x) : zin (zcl p) x := by
  unfold zcl
  split
  · next q => exact h (zfit_iff.mp q).1 (zfit_iff.mp q).2
  · exact zin_top x
def zadd (p q : Int × Int) : Int × Int := zcl (p.1 + q.1, p.2 + q.2)
theorem zadd_ok {p q : Int × Int} {x y : Int32} (hx : zin p x) (hy : zin q y) : zin (zadd p q) (x + y) := by
  obtain ⟨a, b⟩ := hx
  obtain ⟨c, d⟩ := hy
  refine zin_cl fun h1 h2 => ?_
  dsimp only at h1 h2
  have e : (x + y).toInt = x.toInt + y.toInt := Jvm.Kit.i32_add (by omega) (by omega)
  exact ⟨by rw [e]; dsimp only; omega, by rw [e]; dsimp only; omega⟩
def zsub (p q : Int × Int) : Int × Int := zcl (p.1 - q.2, p.2 - q.1)
theorem zsub_ok {p q : Int × Int} {x y : Int32} (hx : zin p x) (hy : zin q y) : zin (zsub p q) (x - y) := by
  obtain ⟨a, b⟩ := hx
  obtain ⟨c, d⟩ := hy
  refine zin_cl fun h1 h2 => ?_
  dsimp only at h1 h2
  have e : (x - y).toInt = x.toInt - y.toInt := Jvm.Kit.i32_sub (by omega) (by omega)
  exact ⟨by rw [e]; dsimp only; omega, by rw [e]; dsimp only; omega⟩
def zmul (p q : Int × Int) : Int × Int := if decide (0 ≤ p.1) && decide (0 ≤ q.1) then zcl (p.1 * q.1, p.2 * q.2) else zI
theorem zmul_ok {p q : Int × Int} {x y : Int32} (hx : zin p x) (hy : zin q y) : zin (zmul p q) (x * y) := by
  obtain ⟨a, b⟩ := hx
  obtain ⟨c, d⟩ := hy
  unfold zmul
  split
  · next h =>
    simp only [Bool.and_eq_true, decide_eq_true_eq] at h
    refine zin_cl fun h1 h2 => ?_
    dsimp only at h1 h2
    have l1 : p.1 * q.1 ≤ x.toInt * y.toInt := Int.mul_le_mul a c h.2 (by omega)
    have l2 : x.toInt * y.toInt ≤ p.2 * q.2 := Int.mul_le_mul b d (by omega) (by omega)
    have e : (x * y).toInt = x.toInt * y.toInt := Jvm.Kit.i32_mul (by omega) (by omega)
    exact ⟨by rw [e]; exact l1, by rw [e]; exact l2⟩
  · exact zin_top _
def zneg (p : Int × Int) : Int × Int := zcl (-p.2, -p.1)
theorem zneg_ok {p : Int × Int} {x : Int32} (hx : zin p x) : zin (zneg p) (-x) := by
  obtain ⟨a, b⟩ := hx
  refine zin_cl fun h1 h2 => ?_
  dsimp only at h1 h2
  have e : (-x).toInt = -x.toInt := Jvm.Kit.i32_neg (by omega)
  exact ⟨by rw [e]; dsimp only; omega, by rw [e]; dsimp only; omega⟩
/-- the natural behind an int that isn't negative -/
theorem z_nat {x : Int32} (h : 0 ≤ x.toInt) : ∃ n : Nat, n < 2147483648 ∧ x = nI n ∧ x.toInt = n := by
  have h2 := zx_hi x
  refine ⟨x.toInt.toNat, by omega, Int32.toInt_inj.mp ?_, by omega⟩
  rw [nI_toInt (by omega)]
  omega
def zand (p q : Int × Int) : Int × Int := if 0 ≤ p.1 then (if 0 ≤ q.1 then (0, min p.2 q.2) else (0, p.2)) else if 0 ≤ q.1 then (0, q.2) else zI
theorem z_and_lo {x y : Int32} (h : 0 ≤ x.toInt) : 0 ≤ (x &&& y).toInt ∧ (x &&& y).toInt ≤ x.toInt := by
  obtain ⟨n, hn, rfl, e⟩ := z_nat h
  have h2 : (nI n &&& y).toBitVec.toNat ≤ n := by
    rw [Int32.toBitVec_and, BitVec.toNat_and, pk_tn (by omega)]
    exact Nat.and_le_left
  have e2 : nI n &&& y = nI (nI n &&& y).toBitVec.toNat := by
    apply Int32.toBitVec_inj.mp
    show _ = BitVec.ofNat 32 _
    simp
  rw [e2, nI_toInt (by omega), e]
  omega
theorem z_and_comm (x y : Int32) : x &&& y = y &&& x := by
  apply Int32.toBitVec_inj.mp
  rw [Int32.toBitVec_and, Int32.toBitVec_and, BitVec.and_comm]
theorem zand_ok {p q : Int × Int} {x y : Int32} (hx : zin p x) (hy : zin q y) : zin (zand p q) (x &&& y) := by
  obtain ⟨a, b⟩ := hx
  obtain ⟨c, d⟩ := hy
  unfold zand
  by_cases h1 : 0 ≤ p.1
  · have r1 := z_and_lo (x := x) (y := y) (by omega)
    rw [if_pos h1]
    by_cases h2 : 0 ≤ q.1
    · have r2 := z_and_lo (x := y) (y := x) (by omega)
      rw [z_and_comm y x] at r2
      rw [if_pos h2]
      exact ⟨r1.1, by dsimp only; omega⟩
    · rw [if_neg h2]
      exact ⟨r1.1, by dsimp only; omega⟩
  · rw [if_neg h1]
    by_cases h2 : 0 ≤ q.1
    · have r2 := z_and_lo (x := y) (y := x) (by omega)
      rw [z_and_comm y x] at r2
      rw [if_pos h2]
      exact ⟨r2.1, by dsimp only; omega⟩
    · rw [if_neg h2]
      exact zin_top _
/-- or, xor of two that aren't negative: below the next power of two -/
def zor (p q : Int × Int) : Int × Int := if decide (0 ≤ p.1) && decide (0 ≤ q.1) then zcl (0, ((2 ^ (Nat.log2 (max p.2 q.2).toNat + 1) : Nat) : Int) - 1) else zI
theorem z_log {n : Nat} {m : Int} (h : (n : Int) ≤ m) : n < 2 ^ (Nat.log2 m.toNat + 1) := by
  have h1 : m.toNat < 2 ^ (Nat.log2 m.toNat + 1) := Nat.lt_log2_self
  omega
theorem z_or_nat (a b : Nat) : nI a ||| nI b = nI (a ||| b) := by
  apply Int32.toBitVec_inj.mp
  rw [Int32.toBitVec_or]
  show BitVec.ofNat 32 a ||| BitVec.ofNat 32 b = BitVec.ofNat 32 _
  apply BitVec.eq_of_getLsbD_eq
  intro i hi
  simp [BitVec.getLsbD_or, BitVec.getLsbD_ofNat, hi]
theorem z_xor_nat (a b : Nat) : nI a ^^^ nI b = nI (a ^^^ b) := by
  apply Int32.toBitVec_inj.mp
  rw [Int32.toBitVec_xor]
  show BitVec.ofNat 32 a ^^^ BitVec.ofNat 32 b = BitVec.ofNat 32 _
  apply BitVec.eq_of_getLsbD_eq
  intro i hi
  simp [BitVec.getLsbD_xor, BitVec.getLsbD_ofNat, hi]
theorem zor_ok {p q : Int × Int} {x y : Int32} (hx : zin p x) (hy : zin q y) : zin (zor p q) (x ||| y) := by
  obtain ⟨a, b⟩ := hx
  obtain ⟨c, d⟩ := hy
  unfold zor
  split
  · next h =>
    simp only [Bool.and_eq_true, decide_eq_true_eq] at h
    refine zin_cl fun h1 h2 => ?_
    dsimp only at h1 h2
    obtain ⟨n, hn, rfl, e1⟩ := z_nat (x := x) (by omega)
    obtain ⟨k, hk, rfl, e2⟩ := z_nat (x := y) (by omega)
    have l1 : n < 2 ^ (Nat.log2 (max p.2 q.2).toNat + 1) := z_log (by omega)
    have l2 : k < 2 ^ (Nat.log2 (max p.2 q.2).toNat + 1) := z_log (by omega)
    have l3 : n ||| k < 2 ^ (Nat.log2 (max p.2 q.2).toNat + 1) := Nat.or_lt_two_pow l1 l2
    rw [z_or_nat]
    have l4 : n ||| k < 2 ^ 31 := by omega
    exact ⟨by rw [nI_toInt l4]; dsimp only; omega, by rw [nI_toInt l4]; dsimp only; omega⟩
  · exact zin_top _
theorem zxor_ok {p q : Int × Int} {x y : Int32} (hx : zin p x) (hy : zin q y) : zin (zor p q) (x ^^^ y) := by
  obtain ⟨a, b⟩ := hx
  obtain ⟨c, d⟩ := hy
  unfold zor
  split
  · next h =>
    simp only [Bool.and_eq_true, decide_eq_true_eq] at h
    refine zin_cl fun h1 h2 => ?_
    dsimp only at h1 h2
    obtain ⟨n, hn, rfl, e1⟩ := z_nat (x := x) (by omega)
    obtain ⟨k, hk, rfl, e2⟩ := z_nat (x := y) (by omega)
    have l1 : n < 2 ^ (Nat.log2 (max p.2 q.2).toNat + 1) := z_log (by omega)
    have l2 : k < 2 ^ (Nat.log2 (max p.2 q.2).toNat + 1) := z_log (by omega)
    have l3 : n ^^^ k < 2 ^ (Nat.log2 (max p.2 q.2).toNat + 1) := Nat.xor_lt_two_pow l1 l2
    rw [z_xor_nat]
    have l4 : n ^^^ k < 2 ^ 31 := by omega
    exact ⟨by rw [nI_toInt l4]; dsimp only; omega, by rw [nI_toInt l4]; dsimp only; omega⟩
  · exact zin_top _
/-- << of one that isn't negative by 0 .. 30 places, where nothing is lost -/
def zshl (p q : Int × Int) : Int × Int := if decide (0 ≤ p.1) && decide (0 ≤ q.1) && decide (q.2 ≤ 30) then zcl (p.1 * ((2 ^ q.1.toNat : Nat) : Int), p.2 * ((2 ^ q.2.toNat : Nat) : Int)) else zI
theorem z_sl : ∀ n, n < 32 → ((nI n &&& 31).toBitVec.smod 32).toNat = n := by decide +kernel
theorem zshl_ok {p q : Int × Int} {x y : Int32} (hx : zin p x) (hy : zin q y) : zin (zshl p q) (x <<< (y &&& 31)) := by
  obtain ⟨a, b⟩ := hx
  obtain ⟨c, d⟩ := hy
  unfold zshl
  split
  · next h =>
    simp only [Bool.and_eq_true, decide_eq_true_eq] at h
    obtain ⟨⟨h1, h2⟩, h3⟩ := h
    refine zin_cl fun h4 h5 => ?_
    dsimp only at h4 h5
    obtain ⟨n, hn, rfl, e1⟩ := z_nat (x := x) (by omega)
    obtain ⟨k, hk, rfl, e2⟩ := z_nat (x := y) (by omega)
    have k1 : q.1.toNat ≤ k := by omega
    have k2 : k ≤ q.2.toNat := by omega
    have p1 : ((2 ^ q.1.toNat : Nat) : Int) ≤ ((2 ^ k : Nat) : Int) := Int.ofNat_le.mpr (Nat.pow_le_pow_right (by decide) k1)
    have p2 : ((2 ^ k : Nat) : Int) ≤ ((2 ^ q.2.toNat : Nat) : Int) := Int.ofNat_le.mpr (Nat.pow_le_pow_right (by decide) k2)
    have p0 : (0 : Int) ≤ ((2 ^ q.1.toNat : Nat) : Int) := Int.natCast_nonneg _
    have p3 : (0 : Int) ≤ ((2 ^ k : Nat) : Int) := Int.natCast_nonneg _
    have l1 : p.1 * ((2 ^ q.1.toNat : Nat) : Int) ≤ (n : Int) * ((2 ^ k : Nat) : Int) := Int.mul_le_mul (by omega) p1 p0 (by omega)
    have l2 : (n : Int) * ((2 ^ k : Nat) : Int) ≤ p.2 * ((2 ^ q.2.toNat : Nat) : Int) := Int.mul_le_mul (by omega) p2 p3 (by omega)
    have l3 : (n : Int) * ((2 ^ k : Nat) : Int) = ((n * 2 ^ k : Nat) : Int) := (Int.natCast_mul _ _).symm
    rw [l3] at l1 l2
    have hb : n * 2 ^ k < 2 ^ 31 := by omega
    have e : nI n <<< (nI k &&& 31) = nI (n * 2 ^ k) := pk_shlN _ k (z_sl k (by omega)) (by omega)
    exact ⟨by rw [e, nI_toInt hb]; exact l1, by rw [e, nI_toInt hb]; exact l2⟩
  · exact zin_top _
/-- >>, >>> of one that isn't negative -/
def zshr (p : Int × Int) : Int × Int := if 0 ≤ p.1 then (0, p.2) else zI
theorem zshr_ok {p : Int × Int} {x : Int32} (y : Int32) (hx : zin p x) : zin (zshr p) (x >>> y) := by
  obtain ⟨a, b⟩ := hx
  unfold zshr
  split
  · next h =>
    have e : (x >>> y).toInt = x.toInt >>> (y.toBitVec.smod 32).toNat := pk_shr x y _ rfl
    have h0 : 0 ≤ x.toInt := by omega
    rw [Int.shiftRight_eq_div_pow] at e
    have p0 : (0 : Int) < ((2 ^ (y.toBitVec.smod 32).toNat : Nat) : Int) := by
      have := Nat.two_pow_pos (y.toBitVec.smod 32).toNat
      omega
    have l1 : 0 ≤ x.toInt / ((2 ^ (y.toBitVec.smod 32).toNat : Nat) : Int) := Int.ediv_nonneg h0 (by omega)
    have l2 : x.toInt / ((2 ^ (y.toBitVec.smod 32).toNat : Nat) : Int) ≤ x.toInt := Int.ediv_le_self _ h0
    exact ⟨by rw [e]; exact l1, by rw [e]; dsimp only; omega⟩
  · exact zin_top _
theorem zushr_ok {p : Int × Int} {x : Int32} (y : Int32) (hx : zin p x) : zin (zshr p) (x.toUInt32 >>> (y.toUInt32 &&& Int32.toUInt32 31)).toInt32 := by
  obtain ⟨a, b⟩ := hx
  unfold zshr
  split
  · next h =>
    obtain ⟨n, hn, rfl, e1⟩ := z_nat (x := x) (by omega)
    rw [pk_ushrN (by omega) y _ rfl]
    have l := Nat.div_le_self n (2 ^ ((y.toUInt32 &&& Int32.toUInt32 31).toBitVec % 32).toNat)
    generalize n / 2 ^ ((y.toUInt32 &&& Int32.toUInt32 31).toBitVec % 32).toNat = q at l ⊢
    have lq : q < 2 ^ 31 := by omega
    have eq := nI_toInt lq
    exact ⟨by rw [eq]; dsimp only; omega, by rw [eq]; dsimp only; omega⟩
  · exact zin_top _
/-- / by what isn't 0 -/
def zdiv (p q : Int × Int) : Int × Int := if decide (0 ≤ p.1) && decide (0 < q.1) then (if q.1 = q.2 then (p.1 / q.1, p.2 / q.1) else (0, p.2)) else zI
theorem zdiv_ok {p q : Int × Int} {x y : Int32} (hx : zin p x) (hy : zin q y) : zin (zdiv p q) (x / y) := by
  obtain ⟨a, b⟩ := hx
  obtain ⟨c, d⟩ := hy
  unfold zdiv
  split
  · next h =>
    simp only [Bool.and_eq_true, decide_eq_true_eq] at h
    have e : (x / y).toInt = x.toInt / y.toInt := lg_idiv_nonneg (by omega) (by omega)
    split
    · next h2 =>
      have hy2 : y.toInt = q.1 := by omega
      rw [hy2] at e
      exact ⟨by rw [e]; exact Int.ediv_le_ediv h.2 a, by rw [e]; exact Int.ediv_le_ediv h.2 b⟩
    · have l1 : 0 ≤ x.toInt / y.toInt := Int.ediv_nonneg (by omega) (by omega)
      have l2 : x.toInt / y.toInt ≤ x.toInt := Int.ediv_le_self _ (by omega)
      exact ⟨by rw [e]; exact l1, by rw [e]; dsimp only; omega⟩
  · exact zin_top _
def zrem (p q : Int × Int) : Int × Int := if 0 < q.1 then (if 0 ≤ p.1 then (0, min p.2 (q.2 - 1)) else (-(q.2 - 1), q.2 - 1)) else zI
theorem zrem_ok {p q : Int × Int} {x y : Int32} (hx : zin p x) (hy : zin q y) : zin (zrem p q) (x - x / y * y) := by
  obtain ⟨a, b⟩ := hx
  obtain ⟨c, d⟩ := hy
  unfold zrem
  split
  · next h =>
    have e : (x - x / y * y).toInt = x.toInt.tmod y.toInt := rem_toInt x y
    have t := tmod_bounds (a := x.toInt) (M := y.toInt) (by omega)
    split
    · next h2 =>
      have e2 : x.toInt.tmod y.toInt = x.toInt % y.toInt := Int.tmod_eq_emod_of_nonneg (by omega)
      have l1 : 0 ≤ x.toInt % y.toInt := Int.emod_nonneg _ (by omega)
      have l2 : x.toInt % y.toInt ≤ x.toInt := by
        have := Int.emod_add_mul_ediv x.toInt y.toInt
        have h3 : 0 ≤ x.toInt / y.toInt := Int.ediv_nonneg (by omega) (by omega)
        have h4 : 0 ≤ y.toInt * (x.toInt / y.toInt) := Int.mul_nonneg (by omega) h3
        omega
      exact ⟨by rw [e, e2]; exact l1, by rw [e]; dsimp only; omega⟩
    · exact ⟨by rw [e]; dsimp only; omega, by rw [e]; dsimp only; omega⟩
  · exact zin_top _
def zB : Int × Int := (-128, 127)
def zC : Int × Int := (0, 65535)
def zSh : Int × Int := (-32768, 32767)
theorem zi2b_ok (x : Int32) : zin zB x.toInt8.toInt32 := by have h := lg_i2b_range x; exact ⟨h.1, by simp only [zB]; omega⟩
theorem zi2s_ok (x : Int32) : zin zSh x.toInt16.toInt32 := by have h := lg_i2s_range x; exact ⟨h.1, by simp only [zSh]; omega⟩
theorem zi2c_ok (x : Int32) : zin zC x.toUInt32.toUInt16.toUInt32.toInt32 := by
  have h := lg_i2c_toInt x
  have h1 := Int.emod_nonneg x.toInt (b := 2 ^ 16) (by decide)
  have h2 := Int.emod_lt_of_pos x.toInt (b := 2 ^ 16) (by decide)
  exact ⟨by rw [h]; exact h1, by rw [h]; simp only [zC]; omega⟩
/-- the int of a number -/
theorem z_ofInt {z : Int} (h1 : -2147483648 ≤ z) (h2 : z ≤ 2147483647) : (Int32.ofInt z).toInt = z := Int32.toInt_ofInt_of_le (by omega) (by omega)
theorem z_ofInt_self (x : Int32) : Int32.ofInt x.toInt = x := Int32.ofInt_toInt x
theorem z_in_vp {x : Int32} {n : Nat} (h1 : 0 ≤ x.toInt) (h2 : x.toInt < n) : vp_in x n := vp_in_iff.mpr ⟨h1, h2⟩
end
section
/-! ===== THE SMALL MACHINE: what the bytecode does, as a function: of lists, without the tables, the frames below and the words of the heap. =====
A value: an int, a long, a reference to one of its own cells (or null), a thing outside (0: the script; k + 1: String constant k). -/
abbrev mV : Type := Int32 ⊕ (Int64 ⊕ (Option Nat ⊕ Nat))
abbrev mA : Type := List Int32 ⊕ (List Int64 ⊕ List (Option Nat))
/-- a cell: an object (the place of its class, its fields), an array (the place of its type, what it holds) -/
abbrev mC : Type := (Nat × List mV) ⊕ (Nat × mA)
abbrev mH : Type := List mC
abbrev mI (x : Int32) : mV := .inl x
abbrev mJ (x : Int64) : mV := .inr (.inl x)
abbrev mR (r : Option Nat) : mV := .inr (.inr (.inl r))
abbrev mE (k : Nat) : mV := .inr (.inr (.inr k))
def mcat : mV → Nat
  | .inr (.inl _) => 2
  | _ => 1
/-- two ints, one int, two longs off the stack -/
def mB (f : Int32 → Int32 → mV) : List mV → Option (Nat × List mV)
  | .inl y :: .inl x :: r => some (1, f x y :: r)
  | _ => none
def mU (f : Int32 → mV) : List mV → Option (Nat × List mV)
  | .inl x :: r => some (1, f x :: r)
  | _ => none
def mBJ (f : Int64 → Int64 → mV) : List mV → Option (Nat × List mV)
  | .inr (.inl y) :: .inr (.inl x) :: r => some (1, f x y :: r)
  | _ => none
def mUJ (f : Int64 → mV) : List mV → Option (Nat × List mV)
  | .inr (.inl x) :: r => some (1, f x :: r)
  | _ => none
/-- instructions of the stack alone: the length, the stack behind -/
def mS (i : Jvm.ClassFile.Instr) (st : List mV) : Option (Nat × List mV) := match i with
  | .iconst n => some (1, mI (Int32.ofInt n) :: st)
  | .bipush n => some (2, mI (Int8.ofInt n).toInt32 :: st)
  | .sipush n => some (3, mI (Int16.ofInt n).toInt32 :: st)
  | .lconst n => some (1, mJ (Int64.ofNat (n : Nat)) :: st)
  | .aconst_null => some (1, mR none :: st)
  | .iadd => mB (fun x y => mI (x + y)) st
  | .isub => mB (fun x y => mI (x - y)) st
  | .imul => mB (fun x y => mI (x * y)) st
  | .iand => mB (fun x y => mI (x &&& y)) st
  | .ior => mB (fun x y => mI (x ||| y)) st
  | .ixor => mB (fun x y => mI (x ^^^ y)) st
  | .ishl => mB (fun x y => mI (x <<< (y &&& 31))) st
  | .ishr => mB (fun x y => mI (x >>> (y &&& 31))) st
  | .iushr => mB (fun x y => mI ((x.toUInt32 >>> (y.toUInt32 &&& Int32.toUInt32 31)).toInt32)) st
  | .idiv => match st with
    | .inl y :: .inl x :: r => if y = 0 then none else some (1, mI (x / y) :: r)
    | _ => none
  | .irem => match st with
    | .inl y :: .inl x :: r => if y = 0 then none else some (1, mI (x - x / y * y) :: r)
    | _ => none
  | .ineg => mU (fun x => mI (-x)) st
  | .i2b => mU (fun x => mI x.toInt8.toInt32) st
  | .i2c => mU (fun x => mI (x.toUInt32 % 65536).toInt32) st
  | .i2l => mU (fun x => mJ x.toInt64) st
  | .l2i => mUJ (fun x => mI x.toInt32) st
  | .ladd => mBJ (fun x y => mJ (x + y)) st
  | .lmul => mBJ (fun x y => mJ (x * y)) st
  | .lcmp => mBJ (fun x y => mI (lg_cmp x y)) st
  | .dup => match st with
    | v :: r => if mcat v = 1 then some (1, v :: v :: r) else none
    | _ => none
  | .dup2 => match st with
    | v :: w :: r => if mcat v = 1 ∧ mcat w = 1 then some (1, v :: w :: v :: w :: r) else none
    | _ => none
  | .pop => match st with
    | v :: r => if mcat v = 1 then some (1, r) else none
    | _ => none
  | _ => none
/-- which local an instruction loads, of which kind (0: int, 1: long, 2: reference), its length -/
def mLd (i : Jvm.ClassFile.Instr) : Option (Nat × Nat × Nat) := match i with
  | .iload_n k => some (k, 0, 1)
  | .iload k => some (k, 0, 2)
  | .lload_n k => some (k, 1, 1)
  | .lload k => some (k, 1, 2)
  | .aload_n k => some (k, 2, 1)
  | .aload k => some (k, 2, 2)
  | _ => none
def mSt (i : Jvm.ClassFile.Instr) : Option (Nat × Nat × Nat) := match i with
  | .istore_n k => some (k, 0, 1)
  | .istore k => some (k, 0, 2)
  | .lstore_n k => some (k, 1, 1)
  | .lstore k => some (k, 1, 2)
  | .astore_n k => some (k, 2, 1)
  | .astore k => some (k, 2, 2)
  | _ => none
def mkind : mV → Nat
  | .inl _ => 0
  | .inr (.inl _) => 1
  | .inr (.inr _) => 2
abbrev mL : Type := List (Option mV)
/-- the slot ahead of place i, if it holds a long, is a long no more -/
def mcl (ls : mL) : Nat → mL
  | 0 => ls
  | i + 1 => match ls[i]? with
    | some (some (.inr (.inl _))) => ls.set i none
    | _ => ls
def mput1 (ls : mL) (i : Nat) (v : mV) : mL := (mcl ls i).set i (some v)
def mput2 (ls : mL) (i : Nat) (v : mV) : mL := ((mcl ls i).set i (some v)).set (i + 1) none
/-- a branch: taken or not, and where to -/
def mcond : Jvm.ClassFile.Cond → Int32 → Int32 → Bool
  | .eq, x, y => decide (x = y)
  | .ne, x, y => decide (¬ x = y)
  | .lt, x, y => decide (x < y)
  | .ge, x, y => decide (y ≤ x)
  | .gt, x, y => decide (y < x)
  | .le, x, y => decide (x ≤ y)
def mto (pc : Nat) (off : Int) : Option Nat := if 0 ≤ (pc : Int) + off then some ((pc : Int) + off).toNat else none
def mBr (i : Jvm.ClassFile.Instr) (len pc : Nat) (st : List mV) : Option (Nat × List mV) := match i with
  | .goto off => if len = 3 then (mto pc off).map (fun t => (t, st)) else none
  | .ifCond cd off => match st with
    | .inl x :: r => if len = 3 then (if mcond cd x 0 then (mto pc off).map (fun t => (t, r)) else some (pc + 3, r)) else none
    | _ => none
  | .if_icmp cd off => match st with
    | .inl y :: .inl x :: r => if len = 3 then (if mcond cd x y then (mto pc off).map (fun t => (t, r)) else some (pc + 3, r)) else none
    | _ => none
  | .ifnull off => match st with
    | .inr (.inr (.inl none)) :: r => if len = 3 then (mto pc off).map (fun t => (t, r)) else none
    | .inr (.inr (.inl (some _))) :: r => if len = 3 then some (pc + 3, r) else none
    | _ => none
  | .ifnonnull off => match st with
    | .inr (.inr (.inl (some _))) :: r => if len = 3 then (mto pc off).map (fun t => (t, r)) else none
    | .inr (.inr (.inl none)) :: r => if len = 3 then some (pc + 3, r) else none
    | _ => none
  | .tableswitch dflt lo hi offs => match st with
    | .inl x :: r => if x.toInt < lo ∨ hi < x.toInt then (mto pc dflt).map (fun t => (t, r)) else match offs[(x.toInt - lo).toNat]? with
      | some off => (mto pc off).map (fun t => (t, r))
      | none => none
    | _ => none
  | _ => none
/-- arrays: reading -/
def mix (x : Int32) (n : Nat) : Bool := decide (0 ≤ x.toInt) && decide (x.toInt < n)
def mGetA (X : List Int32) (i : Jvm.ClassFile.Instr) (st : List mV) (h : mH) : Option (List mV) := match i with
  | .iaload => match st with
    | .inl j :: .inr (.inr (.inl (some a))) :: r => match h[a]? with
      | some (.inr (0, .inl xs)) => if mix j xs.length then some (mI (xs.getD j.toNatClampNeg 0) :: r) else none
      | _ => none
    | .inl j :: .inr (.inr (.inr 0)) :: r => if mix j X.length then some (mI (X.getD j.toNatClampNeg 0) :: r) else none
    | _ => none
  | .baload => match st with
    | .inl j :: .inr (.inr (.inl (some a))) :: r => match h[a]? with
      | some (.inr (2, .inl xs)) => if mix j xs.length then some (mI (xs.getD j.toNatClampNeg 0) :: r) else none
      | some (.inr (3, .inl xs)) => if mix j xs.length then some (mI (xs.getD j.toNatClampNeg 0) :: r) else none
      | _ => none
    | _ => none
  | .laload => match st with
    | .inl j :: .inr (.inr (.inl (some a))) :: r => match h[a]? with
      | some (.inr (1, .inr (.inl xs))) => if mix j xs.length then some (mJ (xs.getD j.toNatClampNeg 0) :: r) else none
      | _ => none
    | _ => none
  | .aaload => match st with
    | .inl j :: .inr (.inr (.inl (some a))) :: r => match h[a]? with
      | some (.inr (4, .inr (.inr xs))) => if mix j xs.length then some (mR (xs.getD j.toNatClampNeg none) :: r) else none
      | _ => none
    | _ => none
  | .arraylength => match st with
    | .inr (.inr (.inl (some a))) :: r => match h[a]? with
      | some (.inr (_, .inl xs)) => some (mI (Int32.ofNat xs.length) :: r)
      | some (.inr (_, .inr (.inl xs))) => some (mI (Int32.ofNat xs.length) :: r)
      | some (.inr (_, .inr (.inr xs))) => some (mI (Int32.ofNat xs.length) :: r)
      | _ => none
    | .inr (.inr (.inr 0)) :: r => some (mI (Int32.ofNat X.length) :: r)
    | _ => none
  | _ => none
/-- arrays: writing; cs: the place of the class whose objects the array of references holds -/
def mPutA (cs : Nat) (i : Jvm.ClassFile.Instr) (st : List mV) (h : mH) : Option (List mV × mH) := match i with
  | .iastore => match st with
    | .inl x :: .inl j :: .inr (.inr (.inl (some a))) :: r => match h[a]? with
      | some (.inr (0, .inl xs)) => if mix j xs.length then some (r, h.set a (.inr (0, .inl (xs.set j.toNatClampNeg x)))) else none
      | _ => none
    | _ => none
  | .bastore => match st with
    | .inl x :: .inl j :: .inr (.inr (.inl (some a))) :: r => match h[a]? with
      | some (.inr (2, .inl xs)) => if mix j xs.length then some (r, h.set a (.inr (2, .inl (xs.set j.toNatClampNeg x.toInt8.toInt32)))) else none
      | some (.inr (3, .inl xs)) => if mix j xs.length then some (r, h.set a (.inr (3, .inl (xs.set j.toNatClampNeg (vp_nar .boolean x))))) else none
      | _ => none
    | _ => none
  | .lastore => match st with
    | .inr (.inl x) :: .inl j :: .inr (.inr (.inl (some a))) :: r => match h[a]? with
      | some (.inr (1, .inr (.inl xs))) => if mix j xs.length then some (r, h.set a (.inr (1, .inr (.inl (xs.set j.toNatClampNeg x))))) else none
      | _ => none
    | _ => none
  | .aastore => match st with
    | .inr (.inr (.inl (some b))) :: .inl j :: .inr (.inr (.inl (some a))) :: r => match h[a]?, h[b]? with
      | some (.inr (4, .inr (.inr xs))), some (.inl (ci, _)) => if mix j xs.length ∧ ci = cs then some (r, h.set a (.inr (4, .inr (.inr (xs.set j.toNatClampNeg (some b)))))) else none
      | _, _ => none
    | _ => none
  | _ => none
/-- a pool entry: (0, class, field) · (1, method, kind: 0 virtual, 1 static, 2 special, 3 special of a nest mate) · (2, String constant) · (3, class) · (4, array of it) · (5, an int) · (6, a long) · (7, a method of the JDK's) -/
abbrev mP : Type := Nat × Nat × Int
/-- a method: class, static, how many arguments (the receiver counts), locals, answer (0 none, 1 int, 2 boolean, 3 long, 4 reference), constructor, code -/
abbrev mM : Type := Nat × Bool × Nat × Nat × Nat × Bool × List (Nat × Jvm.ClassFile.Instr × Nat)
def mfit (ty : FieldType) (v : mV) : Bool := match ty, v with
  | .int, .inl _ => true
  | .boolean, .inl x => decide (x = 0) || decide (x = 1)
  | .long, .inr (.inl _) => true
  | .object _, .inr (.inr (.inl _)) => true
  | .array _, .inr (.inr (.inl _)) => true
  | _, _ => false
/-- fields; tf: a field's type and whether it is final -/
def mGetF (cp : Option mP) (st : List mV) (h : mH) : Option (List mV) := match cp, st with
  | some (0, ci, k), .inr (.inr (.inl (some a))) :: r => match h[a]? with
    | some (.inl (c, fs)) => if c = ci then (fs[k.toNat]?).map (fun v => v :: r) else none
    | _ => none
  | _, _ => none
def mPutF (tf : Nat → Nat → Option (FieldType × Bool)) (ini : Bool) (cp : Option mP) (st : List mV) (h : mH) : Option (List mV × mH) := match cp, st with
  | some (0, ci, k), v :: .inr (.inr (.inl (some a))) :: r => match h[a]?, tf ci k.toNat with
    | some (.inl (c, fs)), some (ty, fin) => if c = ci ∧ mfit ty v = true ∧ k.toNat < fs.length ∧ (fin = true → ini = true) then some (r, h.set a (.inl (c, fs.set k.toNat v))) else none
    | _, _ => none
  | _, _ => none
def mdef : FieldType → mV
  | .long => mJ 0
  | .object _ => mR none
  | .array _ => mR none
  | _ => mI 0
/-- new objects and arrays; nf: a class's fields' types -/
def mNew (nf : Nat → Option (List FieldType)) (cp : Nat → Option mP) (i : Jvm.ClassFile.Instr) (st : List mV) (h : mH) : Option (Nat × List mV × mH) := match i with
  | .new idx => match cp idx with
    | some (3, ci, _) => match nf ci with
      | some fts => some (3, mR (some h.length) :: st, h ++ [.inl (ci, fts.map mdef)])
      | none => none
    | _ => none
  | .newarray at' => match st with
    | .inl n :: r => if 0 ≤ n.toInt ∧ n.toInt ≤ 65536 then (match at' with
      | .int => some (2, mR (some h.length) :: r, h ++ [.inr (0, .inl (List.replicate n.toNatClampNeg 0))])
      | .long => some (2, mR (some h.length) :: r, h ++ [.inr (1, .inr (.inl (List.replicate n.toNatClampNeg 0)))])
      | .byte => some (2, mR (some h.length) :: r, h ++ [.inr (2, .inl (List.replicate n.toNatClampNeg 0))])
      | .boolean => some (2, mR (some h.length) :: r, h ++ [.inr (3, .inl (List.replicate n.toNatClampNeg 0))])
      | _ => none) else none
    | _ => none
  | .anewarray idx => match cp idx, st with
    | some (4, _, _), .inl n :: r => if 0 ≤ n.toInt ∧ n.toInt ≤ 65536 then some (3, mR (some h.length) :: r, h ++ [.inr (4, .inr (.inr (List.replicate n.toNatClampNeg none)))]) else none
    | _, _ => none
  | _ => none
/-- constants of the pool -/
def mLdc (cp : Nat → Option mP) (i : Jvm.ClassFile.Instr) : Option (Nat × mV) := match i with
  | .ldc idx => match cp idx with
    | some (5, _, v) => some (2, mI (Int32.ofInt v))
    | some (2, k, _) => some (2, mE (k + 1))
    | _ => none
  | .ldc_w idx => match cp idx with
    | some (5, _, v) => some (3, mI (Int32.ofInt v))
    | _ => none
  | .ldc2_w idx => match cp idx with
    | some (6, _, v) => some (3, mJ (Int64.ofInt v))
    | _ => none
  | _ => none
/-- a method's own start: its arguments in its first locals -/
def mEnt : List mV → mL
  | [] => []
  | .inr (.inl x) :: r => some (mJ x) :: none :: mEnt r
  | v :: r => some v :: mEnt r
def mEntry (args : List mV) (maxL : Nat) : mL := mEnt args ++ List.replicate (maxL - (mEnt args).length) none
/-- an answer as its type wants it -/
def mRet (rt : Nat) (i : Jvm.ClassFile.Instr) (st : List mV) : Option (Option mV) := match i, rt, st with
  | .return_, 0, [] => some none
  | .ireturn, 1, [.inl x] => some (some (mI x))
  | .ireturn, 2, [.inl x] => if x = 0 ∨ x = 1 then some (some (mI x)) else none
  | .lreturn, 3, [.inr (.inl x)] => some (some (mJ x))
  | .areturn, 4, [.inr (.inr (.inl r))] => some (some (mR r))
  | _, _, _ => none
/-- what an invocation asks: the pool's index, the kind that the instruction is (0 virtual, 1 static, 2 special) -/
def mInv (i : Jvm.ClassFile.Instr) : Option (Nat × Nat) := match i with
  | .invokevirtual idx => some (idx, 0)
  | .invokestatic idx => some (idx, 1)
  | .invokespecial idx => some (idx, 2)
  | _ => none
end
