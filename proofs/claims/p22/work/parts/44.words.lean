/-! ===== words that the JDK's methods and the arrays want ===== -/
set_option maxRecDepth 100000 in
theorem mwx_acn : (.native arraycopyName : Jvm.Cond) ∈ mWS := List.mem_filter.mpr ⟨mtb_in 4 _ (List.mem_of_getElem? (i := 34) rfl), rfl⟩
set_option maxRecDepth 100000 in
theorem mwx_acs : (.static arraycopyName : Jvm.Cond) ∈ mWS := List.mem_filter.mpr ⟨mtb_in 4 _ (List.mem_of_getElem? (i := 33) rfl), rfl⟩
set_option maxRecDepth 100000 in
theorem mwx_aci : (.initialized "java/lang/System" : Jvm.Cond) ∈ mWS := List.mem_filter.mpr ⟨mtb_in 1 _ (List.mem_of_getElem? (i := 21) rfl), rfl⟩
set_option maxRecDepth 100000 in
theorem mwx_obi : (.instanceMethod Jvm.Lib.objectInit : Jvm.Cond) ∈ mWS := List.mem_filter.mpr ⟨mtb_in 1 _ (List.mem_of_getElem? (i := 29) rfl), rfl⟩
set_option maxRecDepth 100000 in
theorem mwx_obc : (.code Jvm.Lib.objectInit ⟨#[0xb1]⟩ 1 none : Jvm.Cond) ∈ mWS := List.mem_filter.mpr ⟨mtb_in 1 _ (List.mem_of_getElem? (i := 30) rfl), rfl⟩
set_option maxRecDepth 100000 in
theorem mwx_mai : (.initialized "java/lang/Math" : Jvm.Cond) ∈ mWS := List.mem_filter.mpr ⟨mtb_in 1 _ (List.mem_of_getElem? (i := 19) rfl), rfl⟩
set_option maxRecDepth 100000 in
theorem mwx_mxs : (.static Jvm.Lib.Math.max.name : Jvm.Cond) ∈ mWS := List.mem_filter.mpr ⟨mtb_in 3 _ (List.mem_of_getElem? (i := 147) rfl), rfl⟩
set_option maxRecDepth 100000 in
theorem mwx_mxc : (.code Jvm.Lib.Math.max.name Jvm.Lib.Math.max.code 2 (some .int) : Jvm.Cond) ∈ mWS := List.mem_filter.mpr ⟨mtb_in 3 _ (List.mem_of_getElem? (i := 148) rfl), rfl⟩
set_option maxRecDepth 100000 in
theorem mwx_mns : (.static Jvm.Lib.Math.min.name : Jvm.Cond) ∈ mWS := List.mem_filter.mpr ⟨mtb_in 3 _ (List.mem_of_getElem? (i := 150) rfl), rfl⟩
set_option maxRecDepth 100000 in
theorem mwx_mnc : (.code Jvm.Lib.Math.min.name Jvm.Lib.Math.min.code 2 (some .int) : Jvm.Cond) ∈ mWS := List.mem_filter.mpr ⟨mtb_in 3 _ (List.mem_of_getElem? (i := 151) rfl), rfl⟩
set_option maxRecDepth 100000 in
theorem mwx_aI : (.arrayClass .int : Jvm.Cond) ∈ mWS := List.mem_filter.mpr ⟨mtb_in 1 _ (List.mem_of_getElem? (i := 70) rfl), rfl⟩
set_option maxRecDepth 100000 in
theorem mwx_aJ : (.arrayClass .long : Jvm.Cond) ∈ mWS := List.mem_filter.mpr ⟨mtb_in 1 _ (List.mem_of_getElem? (i := 71) rfl), rfl⟩
set_option maxRecDepth 100000 in
theorem mwx_aB : (.arrayClass .byte : Jvm.Cond) ∈ mWS := List.mem_filter.mpr ⟨mtb_in 1 _ (List.mem_of_getElem? (i := 69) rfl), rfl⟩
set_option maxRecDepth 100000 in
theorem mwx_aZ : (.arrayClass .boolean : Jvm.Cond) ∈ mWS := List.mem_filter.mpr ⟨mtb_in 2 _ (List.mem_of_getElem? (i := 218) rfl), rfl⟩
-- nests, Strings, the array over the class State: they are carried by themselves
set_option maxRecDepth 100000 in
theorem mnx_0 : Jvm.Cond.methodLinkNest "HairRope$Forecast" 11 ⟨"HairRope$State", "<init>", "()V"⟩ "HairRope" ∈ lw_tbl := mtb_in 2 _ (List.mem_of_getElem? (i := 77) rfl)
set_option maxRecDepth 100000 in
theorem mnx_1 : Jvm.Cond.methodLinkNest "HairRope$History" 20 ⟨"HairRope$State", "<init>", "()V"⟩ "HairRope" ∈ lw_tbl := mtb_in 2 _ (List.mem_of_getElem? (i := 51) rfl)
set_option maxRecDepth 100000 in
theorem mnx_2 : Jvm.Cond.methodLinkNest "HairRope$Text" 27 ⟨"HairRope$Laws", "<init>", "()V"⟩ "HairRope" ∈ lw_tbl := mtb_in 1 _ (List.mem_of_getElem? (i := 80) rfl)
set_option maxRecDepth 100000 in
theorem mnx_3 : Jvm.Cond.methodLinkNest "HairRope" 9 ⟨"HairRope$Tape", "<init>", "()V"⟩ "HairRope" ∈ lw_tbl := mtb_in 1 _ (List.mem_of_getElem? (i := 33) rfl)
set_option maxRecDepth 100000 in
theorem mnx_4 : Jvm.Cond.methodLinkNest "HairRope" 43 ⟨"HairRope$State", "<init>", "()V"⟩ "HairRope" ∈ lw_tbl := mtb_in 1 _ (List.mem_of_getElem? (i := 230) rfl)
theorem mnx_all : ∀ w ∈ mNST, w ∈ lw_tbl := by
  intro w hw
  simp only [mNST, List.mem_cons, List.not_mem_nil, or_false] at hw
  rcases hw with rfl | rfl | rfl | rfl | rfl
  · exact mnx_0
  · exact mnx_1
  · exact mnx_2
  · exact mnx_3
  · exact mnx_4
set_option maxRecDepth 100000 in
theorem mao_in : Jvm.Cond.arrayOver (.object "HairRope$State") ∈ lw_tbl := mtb_in 2 _ (List.mem_of_getElem? (i := 50) rfl)
set_option maxRecDepth 100000 in
theorem mst_0 : Jvm.Cond.stringRef "HairRope$Tape" 77 ";=+-*/<()" ∈ lw_tbl := mtb_in 3 _ (List.mem_of_getElem? (i := 130) rfl)
set_option maxRecDepth 100000 in
theorem mst_1 : Jvm.Cond.stringRef "HairRope$Tape" 91 "house   likes   well    water   grows   weakens joins   costs   blight  seed    if      then    else    hair    strong  like    year    place   which   spliced given   other   " ∈ lw_tbl := mtb_in 3 _ (List.mem_of_getElem? (i := 69) rfl)
