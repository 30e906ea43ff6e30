/-! the words of the tables that a call may pass on, a row a word, by its place -/
def gw_All : List Cond := lw_tbl.filter goodWord
theorem gw_in {w : Cond} (i : Nat) (h : lw_tbl[i]? = some w) (g : goodWord w = true) : w ∈ gw_All := List.mem_filter.mpr ⟨List.mem_of_getElem? h, g⟩
theorem gw_good {big : List Cond} (hb : ∀ w ∈ gw_All, w ∈ big) : GoodIn big gw_All := fun w hw => ⟨hb w hw, good_of_word (List.mem_filter.mp hw).2⟩
theorem gw_in_r (ws : List Cond) (ps : List Nat) (hp : ws = ps.filterMap (fun i => lw_tbl[i]?)) (h : ws.all goodWord = true) : ∀ w ∈ ws, w ∈ gw_All := by
  intro w hw
  have h1 := List.all_eq_true.mp h w hw
  rw [hp] at hw
  obtain ⟨i, -, hi⟩ := List.mem_filterMap.mp hw
  exact gw_in i hi h1
theorem wd_0 : Cond.selects "SpinBench" ⟨"SpinBench", "tableAt", "(I)LSpinBench$Table;"⟩ ⟨"SpinBench", "tableAt", "(I)LSpinBench$Table;"⟩ ∈ gw_All := gw_in 0 (by decide +kernel) (by decide +kernel)
theorem wd_1 : Cond.selects "SpinBench" ⟨"SpinBench", "found", "(I)I"⟩ ⟨"SpinBench", "found", "(I)I"⟩ ∈ gw_All := gw_in 1 (by decide +kernel) (by decide +kernel)
theorem wd_2 : Cond.selects "SpinBench$Table" ⟨"SpinBench$Table", "make", "(II)V"⟩ ⟨"SpinBench$Table", "make", "(II)V"⟩ ∈ gw_All := gw_in 2 (by decide +kernel) (by decide +kernel)
theorem wd_3 : Cond.selects "SpinBench" ⟨"SpinBench", "notFound", "(I)I"⟩ ⟨"SpinBench", "notFound", "(I)I"⟩ ∈ gw_All := gw_in 3 (by decide +kernel) (by decide +kernel)
theorem wd_4 : Cond.selects "SpinBench$Table" ⟨"SpinBench$Table", "hasPlaces", "(II)Z"⟩ ⟨"SpinBench$Table", "hasPlaces", "(II)Z"⟩ ∈ gw_All := gw_in 4 (by decide +kernel) (by decide +kernel)
theorem wd_5 : Cond.selects "SpinBench$Table" ⟨"SpinBench$Table", "fitted", "(I)I"⟩ ⟨"SpinBench$Table", "fitted", "(I)I"⟩ ∈ gw_All := gw_in 5 (by decide +kernel) (by decide +kernel)
theorem wd_6 : Cond.selects "SpinBench" ⟨"SpinBench", "sumAt", "(I)LSpinBench$Sum;"⟩ ⟨"SpinBench", "sumAt", "(I)LSpinBench$Sum;"⟩ ∈ gw_All := gw_in 6 (by decide +kernel) (by decide +kernel)
theorem wd_7 : Cond.selects "SpinBench" ⟨"SpinBench", "isProduct", "(I)Z"⟩ ⟨"SpinBench", "isProduct", "(I)Z"⟩ ∈ gw_All := gw_in 7 (by decide +kernel) (by decide +kernel)
theorem wd_8 : Cond.selects "SpinBench$Mixer" ⟨"SpinBench$Mixer", "begin", "()V"⟩ ⟨"SpinBench$Mixer", "begin", "()V"⟩ ∈ gw_All := gw_in 8 (by decide +kernel) (by decide +kernel)
theorem wd_9 : Cond.selects "SpinBench$Mixer" ⟨"SpinBench$Mixer", "putSum", "(LSpinBench$Sum;I)V"⟩ ⟨"SpinBench$Mixer", "putSum", "(LSpinBench$Sum;I)V"⟩ ∈ gw_All := gw_in 9 (by decide +kernel) (by decide +kernel)
theorem wd_10 : Cond.selects "SpinBench$Mixer" ⟨"SpinBench$Mixer", "put", "(IJ)V"⟩ ⟨"SpinBench$Mixer", "put", "(IJ)V"⟩ ∈ gw_All := gw_in 10 (by decide +kernel) (by decide +kernel)
theorem wd_11 : Cond.selects "SpinBench$Mixer" ⟨"SpinBench$Mixer", "enter", "(IIJ)V"⟩ ⟨"SpinBench$Mixer", "enter", "(IIJ)V"⟩ ∈ gw_All := gw_in 11 (by decide +kernel) (by decide +kernel)
theorem wd_12 : Cond.selects "SpinBench$Mixer" ⟨"SpinBench$Mixer", "settle", "(LSpinBench$Sum;)Z"⟩ ⟨"SpinBench$Mixer", "settle", "(LSpinBench$Sum;)Z"⟩ ∈ gw_All := gw_in 12 (by decide +kernel) (by decide +kernel)
theorem wd_13 : Cond.selects "SpinBench$Mixer" ⟨"SpinBench$Mixer", "dropZeros", "()V"⟩ ⟨"SpinBench$Mixer", "dropZeros", "()V"⟩ ∈ gw_All := gw_in 13 (by decide +kernel) (by decide +kernel)
theorem wd_14 : Cond.selects "SpinBench$Mixer" ⟨"SpinBench$Mixer", "isSum", "()Z"⟩ ⟨"SpinBench$Mixer", "isSum", "()Z"⟩ ∈ gw_All := gw_in 14 (by decide +kernel) (by decide +kernel)
theorem wd_15 : Cond.selects "SpinBench$Mixer" ⟨"SpinBench$Mixer", "sort", "()V"⟩ ⟨"SpinBench$Mixer", "sort", "()V"⟩ ∈ gw_All := gw_in 15 (by decide +kernel) (by decide +kernel)
theorem wd_16 : Cond.selects "SpinBench$Mixer" ⟨"SpinBench$Mixer", "merge", "(III)V"⟩ ⟨"SpinBench$Mixer", "merge", "(III)V"⟩ ∈ gw_All := gw_in 16 (by decide +kernel) (by decide +kernel)
theorem wd_17 : Cond.selects "SpinBench$Sum" ⟨"SpinBench$Sum", "become", "(LSpinBench$Sum;)V"⟩ ⟨"SpinBench$Sum", "become", "(LSpinBench$Sum;)V"⟩ ∈ gw_All := gw_in 17 (by decide +kernel) (by decide +kernel)
theorem wd_18 : Cond.selects "SpinBench$Mixer" ⟨"SpinBench$Mixer", "joinSums", "(LSpinBench$Sum;LSpinBench$Sum;I)Z"⟩ ⟨"SpinBench$Mixer", "joinSums", "(LSpinBench$Sum;LSpinBench$Sum;I)Z"⟩ ∈ gw_All := gw_in 18 (by decide +kernel) (by decide +kernel)
theorem wd_19 : Cond.selects "SpinBench" ⟨"SpinBench", "turnByQuarters", "(II)Z"⟩ ⟨"SpinBench", "turnByQuarters", "(II)Z"⟩ ∈ gw_All := gw_in 19 (by decide +kernel) (by decide +kernel)
theorem wd_20 : Cond.selects "SpinBench" ⟨"SpinBench", "turnByLetter", "(III)Z"⟩ ⟨"SpinBench", "turnByLetter", "(III)Z"⟩ ∈ gw_All := gw_in 20 (by decide +kernel) (by decide +kernel)
theorem wd_21 : Cond.selects "SpinBench$Mixer" ⟨"SpinBench$Mixer", "putTimesSine", "(IIJ)V"⟩ ⟨"SpinBench$Mixer", "putTimesSine", "(IIJ)V"⟩ ∈ gw_All := gw_in 21 (by decide +kernel) (by decide +kernel)
theorem wd_22 : Cond.selects "SpinBench$Sum" ⟨"SpinBench$Sum", "isLike", "(LSpinBench$Sum;)Z"⟩ ⟨"SpinBench$Sum", "isLike", "(LSpinBench$Sum;)Z"⟩ ∈ gw_All := gw_in 22 (by decide +kernel) (by decide +kernel)
theorem wd_23 : Cond.selects "SpinBench$Mixer" ⟨"SpinBench$Mixer", "multiply", "(LSpinBench$Sum;LSpinBench$Sum;LSpinBench$Sum;)Z"⟩ ⟨"SpinBench$Mixer", "multiply", "(LSpinBench$Sum;LSpinBench$Sum;LSpinBench$Sum;)Z"⟩ ∈ gw_All := gw_in 23 (by decide +kernel) (by decide +kernel)
theorem wd_24 : Cond.selects "SpinBench$Mixer" ⟨"SpinBench$Mixer", "putRows", "(IIJ)Z"⟩ ⟨"SpinBench$Mixer", "putRows", "(IIJ)Z"⟩ ∈ gw_All := gw_in 24 (by decide +kernel) (by decide +kernel)
theorem wd_25 : Cond.selects "SpinBench" ⟨"SpinBench", "isPulse", "(III)Z"⟩ ⟨"SpinBench", "isPulse", "(III)Z"⟩ ∈ gw_All := gw_in 25 (by decide +kernel) (by decide +kernel)
theorem wd_26 : Cond.selects "SpinBench" ⟨"SpinBench", "append", "(LSpinBench$Op;)I"⟩ ⟨"SpinBench", "append", "(LSpinBench$Op;)I"⟩ ∈ gw_All := gw_in 26 (by decide +kernel) (by decide +kernel)
theorem wd_27 : Cond.selects "SpinBench" ⟨"SpinBench", "openRounds", "()I"⟩ ⟨"SpinBench", "openRounds", "()I"⟩ ∈ gw_All := gw_in 27 (by decide +kernel) (by decide +kernel)
theorem wd_28 : Cond.selects "SpinBench" ⟨"SpinBench", "opAt", "(I)LSpinBench$Op;"⟩ ⟨"SpinBench", "opAt", "(I)LSpinBench$Op;"⟩ ∈ gw_All := gw_in 28 (by decide +kernel) (by decide +kernel)
theorem wd_29 : Cond.selects "SpinBench" ⟨"SpinBench", "leaveBody", "(I)V"⟩ ⟨"SpinBench", "leaveBody", "(I)V"⟩ ∈ gw_All := gw_in 29 (by decide +kernel) (by decide +kernel)
theorem wd_30 : Cond.selects "SpinBench" ⟨"SpinBench", "presentTables", "()I"⟩ ⟨"SpinBench", "presentTables", "()I"⟩ ∈ gw_All := gw_in 30 (by decide +kernel) (by decide +kernel)
theorem wd_31 : Cond.selects "SpinBench" ⟨"SpinBench", "allTerms", "()I"⟩ ⟨"SpinBench", "allTerms", "()I"⟩ ∈ gw_All := gw_in 31 (by decide +kernel) (by decide +kernel)
theorem wd_32 : Cond.selects "SpinBenchModel" ⟨"SpinBenchModel", "finds", "(I)I"⟩ ⟨"SpinBenchModel", "finds", "(I)I"⟩ ∈ gw_All := gw_in 32 (by decide +kernel) (by decide +kernel)
theorem wd_33 : Cond.selects "SpinBenchModel" ⟨"SpinBenchModel", "well", "(I)I"⟩ ⟨"SpinBenchModel", "well", "(I)I"⟩ ∈ gw_All := gw_in 33 (by decide +kernel) (by decide +kernel)
theorem wd_34 : Cond.selects "SpinBenchModel" ⟨"SpinBenchModel", "isProduct", "(I)Z"⟩ ⟨"SpinBenchModel", "isProduct", "(I)Z"⟩ ∈ gw_All := gw_in 34 (by decide +kernel) (by decide +kernel)
theorem wd_35 : Cond.selects "SpinBenchModel" ⟨"SpinBenchModel", "putAll", "(IJ)V"⟩ ⟨"SpinBenchModel", "putAll", "(IJ)V"⟩ ∈ gw_All := gw_in 35 (by decide +kernel) (by decide +kernel)
theorem wd_36 : Cond.selects "SpinBenchModel" ⟨"SpinBenchModel", "put", "(IJ)V"⟩ ⟨"SpinBenchModel", "put", "(IJ)V"⟩ ∈ gw_All := gw_in 36 (by decide +kernel) (by decide +kernel)
theorem wd_37 : Cond.selects "SpinBenchModel" ⟨"SpinBenchModel", "kept", "(I)I"⟩ ⟨"SpinBenchModel", "kept", "(I)I"⟩ ∈ gw_All := gw_in 37 (by decide +kernel) (by decide +kernel)
theorem wd_38 : Cond.selects "SpinBenchModel" ⟨"SpinBenchModel", "keep", "(I)Z"⟩ ⟨"SpinBenchModel", "keep", "(I)Z"⟩ ∈ gw_All := gw_in 38 (by decide +kernel) (by decide +kernel)
theorem wd_39 : Cond.selects "SpinBenchModel" ⟨"SpinBenchModel", "copySum", "(II)V"⟩ ⟨"SpinBenchModel", "copySum", "(II)V"⟩ ∈ gw_All := gw_in 39 (by decide +kernel) (by decide +kernel)
theorem wd_40 : Cond.selects "SpinBenchModel" ⟨"SpinBenchModel", "joined", "(III)Z"⟩ ⟨"SpinBenchModel", "joined", "(III)Z"⟩ ∈ gw_All := gw_in 40 (by decide +kernel) (by decide +kernel)
theorem wd_41 : Cond.selects "SpinBenchModel" ⟨"SpinBenchModel", "turnQuarter", "(II)V"⟩ ⟨"SpinBenchModel", "turnQuarter", "(II)V"⟩ ∈ gw_All := gw_in 41 (by decide +kernel) (by decide +kernel)
theorem wd_42 : Cond.selects "SpinBenchModel" ⟨"SpinBenchModel", "fits", "(II)Z"⟩ ⟨"SpinBenchModel", "fits", "(II)Z"⟩ ∈ gw_All := gw_in 42 (by decide +kernel) (by decide +kernel)
theorem wd_43 : Cond.selects "SpinBenchModel" ⟨"SpinBenchModel", "with", "(II)I"⟩ ⟨"SpinBenchModel", "with", "(II)I"⟩ ∈ gw_All := gw_in 43 (by decide +kernel) (by decide +kernel)
theorem wd_44 : Cond.selects "SpinBenchModel" ⟨"SpinBenchModel", "turnLetter", "(III)Z"⟩ ⟨"SpinBenchModel", "turnLetter", "(III)Z"⟩ ∈ gw_All := gw_in 44 (by decide +kernel) (by decide +kernel)
theorem wd_45 : Cond.selects "SpinBenchModel" ⟨"SpinBenchModel", "isTerm", "(II)Z"⟩ ⟨"SpinBenchModel", "isTerm", "(II)Z"⟩ ∈ gw_All := gw_in 45 (by decide +kernel) (by decide +kernel)
theorem wd_46 : Cond.selects "SpinBenchModel" ⟨"SpinBenchModel", "multiply", "(IIJ)Z"⟩ ⟨"SpinBenchModel", "multiply", "(IIJ)Z"⟩ ∈ gw_All := gw_in 46 (by decide +kernel) (by decide +kernel)
theorem wd_47 : Cond.selects "SpinBenchModel" ⟨"SpinBenchModel", "isPulse", "(III)Z"⟩ ⟨"SpinBenchModel", "isPulse", "(III)Z"⟩ ∈ gw_All := gw_in 47 (by decide +kernel) (by decide +kernel)
theorem wd_48 : Cond.selects "SpinBenchModel" ⟨"SpinBenchModel", "come", "(IIIII)I"⟩ ⟨"SpinBenchModel", "come", "(IIIII)I"⟩ ∈ gw_All := gw_in 48 (by decide +kernel) (by decide +kernel)
theorem wd_49 : Cond.selects "SpinBenchModel" ⟨"SpinBenchModel", "isOp", "(I)Z"⟩ ⟨"SpinBenchModel", "isOp", "(I)Z"⟩ ∈ gw_All := gw_in 49 (by decide +kernel) (by decide +kernel)
theorem wd_50 : Cond.selects "SpinBenchModel" ⟨"SpinBenchModel", "cost", "(I)I"⟩ ⟨"SpinBenchModel", "cost", "(I)I"⟩ ∈ gw_All := gw_in 50 (by decide +kernel) (by decide +kernel)
theorem wd_51 : Cond.selects "SpinBenchModel" ⟨"SpinBenchModel", "begins", "(I)V"⟩ ⟨"SpinBenchModel", "begins", "(I)V"⟩ ∈ gw_All := gw_in 51 (by decide +kernel) (by decide +kernel)
theorem wd_52 : Cond.selects "SpinBenchModel" ⟨"SpinBenchModel", "mark2", "(I)I"⟩ ⟨"SpinBenchModel", "mark2", "(I)I"⟩ ∈ gw_All := gw_in 52 (by decide +kernel) (by decide +kernel)
theorem wd_53 : Cond.selects "SpinBenchModel" ⟨"SpinBenchModel", "mark", "(I)I"⟩ ⟨"SpinBenchModel", "mark", "(I)I"⟩ ∈ gw_All := gw_in 53 (by decide +kernel) (by decide +kernel)
theorem wd_54 : Cond.selects "SpinBenchModel" ⟨"SpinBenchModel", "does", "(I)I"⟩ ⟨"SpinBenchModel", "does", "(I)I"⟩ ∈ gw_All := gw_in 54 (by decide +kernel) (by decide +kernel)
theorem wd_55 : Cond.selects "SpinBenchModel" ⟨"SpinBenchModel", "doPulse", "(II)V"⟩ ⟨"SpinBenchModel", "doPulse", "(II)V"⟩ ∈ gw_All := gw_in 55 (by decide +kernel) (by decide +kernel)
theorem wd_56 : Cond.initialized "SpinBenchLaw" ∈ gw_All := gw_in 56 (by decide +kernel) (by decide +kernel)
theorem wd_57 : Cond.initialized "SpinBench" ∈ gw_All := gw_in 57 (by decide +kernel) (by decide +kernel)
theorem wd_58 : Cond.initialized "SpinBench$Mixer" ∈ gw_All := gw_in 58 (by decide +kernel) (by decide +kernel)
theorem wd_59 : Cond.initialized "java/lang/Math" ∈ gw_All := gw_in 59 (by decide +kernel) (by decide +kernel)
theorem wd_60 : Cond.initialized "SpinBench$Sum" ∈ gw_All := gw_in 60 (by decide +kernel) (by decide +kernel)
theorem wd_61 : Cond.initialized "SpinBench$Table" ∈ gw_All := gw_in 61 (by decide +kernel) (by decide +kernel)
theorem wd_62 : Cond.initialized "SpinBenchModel" ∈ gw_All := gw_in 62 (by decide +kernel) (by decide +kernel)
theorem wd_63 : Cond.initialized "java/util/Arrays" ∈ gw_All := gw_in 63 (by decide +kernel) (by decide +kernel)
theorem wd_64 : Cond.initialized "java/lang/System" ∈ gw_All := gw_in 64 (by decide +kernel) (by decide +kernel)
theorem wd_65 : Cond.initialized "java/lang/Integer" ∈ gw_All := gw_in 65 (by decide +kernel) (by decide +kernel)
theorem wd_66 : Cond.initialized "SpinBench$Op" ∈ gw_All := gw_in 66 (by decide +kernel) (by decide +kernel)
theorem wd_67 : Cond.initialized "SpinBench$Lead" ∈ gw_All := gw_in 67 (by decide +kernel) (by decide +kernel)
theorem wd_68 : Cond.initialized "SpinBench$Pulse" ∈ gw_All := gw_in 68 (by decide +kernel) (by decide +kernel)
theorem wd_69 : Cond.initialized "SpinBench$Cycled" ∈ gw_All := gw_in 69 (by decide +kernel) (by decide +kernel)
theorem wd_70 : Cond.initialized "SpinBench$Delay" ∈ gw_All := gw_in 70 (by decide +kernel) (by decide +kernel)
theorem wd_71 : Cond.initialized "SpinBench$Round" ∈ gw_All := gw_in 71 (by decide +kernel) (by decide +kernel)
theorem wd_72 : Cond.initialized "SpinBench$End" ∈ gw_All := gw_in 72 (by decide +kernel) (by decide +kernel)
theorem wd_73 : Cond.initialized "SpinBench$Store" ∈ gw_All := gw_in 73 (by decide +kernel) (by decide +kernel)
theorem wd_74 : Cond.classLink "SpinBenchLaw" 7 "SpinBench" ∈ gw_All := gw_in 74 (by decide +kernel) (by decide +kernel)
theorem wd_75 : Cond.instantiable "SpinBench" 15 ∈ gw_All := gw_in 75 (by decide +kernel) (by decide +kernel)
theorem wd_76 : Cond.methodLink "SpinBenchLaw" 15 ⟨"SpinBench", "<init>", "(I)V"⟩ ∈ gw_All := gw_in 76 (by decide +kernel) (by decide +kernel)
theorem wd_77 : Cond.instanceMethod ⟨"SpinBench", "<init>", "(I)V"⟩ ∈ gw_All := gw_in 77 (by decide +kernel) (by decide +kernel)
set_option maxRecDepth 100000 in
theorem wd_78 : Cond.code ⟨"SpinBench", "<init>", "(I)V"⟩ prog_1_method_1_code 3 none ∈ gw_All := gw_in 78 rfl rfl
theorem wd_79 : Cond.methodLink "SpinBench" 1 ⟨"java/lang/Object", "<init>", "()V"⟩ ∈ gw_All := gw_in 79 (by decide +kernel) (by decide +kernel)
theorem wd_80 : Cond.instanceMethod ⟨"java/lang/Object", "<init>", "()V"⟩ ∈ gw_All := gw_in 80 (by decide +kernel) (by decide +kernel)
set_option maxRecDepth 100000 in
theorem wd_81 : Cond.code ⟨"java/lang/Object", "<init>", "()V"⟩ object_method_1_code 1 none ∈ gw_All := gw_in 81 rfl rfl
theorem wd_82 : Cond.classLink "SpinBench" 9 "SpinBench$Sum" ∈ gw_All := gw_in 82 (by decide +kernel) (by decide +kernel)
theorem wd_84 : Cond.classLink "SpinBench" 18 "SpinBench$Mixer" ∈ gw_All := gw_in 84 (by decide +kernel) (by decide +kernel)
theorem wd_85 : Cond.instantiable "SpinBench$Mixer" 8 ∈ gw_All := gw_in 85 (by decide +kernel) (by decide +kernel)
theorem wd_87 : Cond.instanceMethod ⟨"SpinBench$Mixer", "<init>", "()V"⟩ ∈ gw_All := gw_in 87 (by decide +kernel) (by decide +kernel)
set_option maxRecDepth 100000 in
theorem wd_88 : Cond.code ⟨"SpinBench$Mixer", "<init>", "()V"⟩ prog_6_method_1_code 1 none ∈ gw_All := gw_in 88 rfl rfl
theorem wd_89 : Cond.methodLink "SpinBench$Mixer" 5 ⟨"java/lang/Object", "<init>", "()V"⟩ ∈ gw_All := gw_in 89 (by decide +kernel) (by decide +kernel)
theorem wd_90 : Cond.fieldLink "SpinBench$Mixer" 11 "SpinBench$Mixer" "keys" "[I" ∈ gw_All := gw_in 90 (by decide +kernel) (by decide +kernel)
theorem wd_91 : Cond.fieldLink "SpinBench$Mixer" 15 "SpinBench$Mixer" "numbers" "[J" ∈ gw_All := gw_in 91 (by decide +kernel) (by decide +kernel)
theorem wd_92 : Cond.fieldLink "SpinBench$Mixer" 19 "SpinBench$Mixer" "spareKeys" "[I" ∈ gw_All := gw_in 92 (by decide +kernel) (by decide +kernel)
theorem wd_93 : Cond.fieldLink "SpinBench$Mixer" 22 "SpinBench$Mixer" "spareNumbers" "[J" ∈ gw_All := gw_in 93 (by decide +kernel) (by decide +kernel)
theorem wd_94 : Cond.fieldLink "SpinBench$Mixer" 35 "SpinBench$Mixer" "size" "I" ∈ gw_All := gw_in 94 (by decide +kernel) (by decide +kernel)
theorem wd_95 : Cond.fieldLink "SpinBench$Mixer" 25 "SpinBench$Mixer" "slots" "[I" ∈ gw_All := gw_in 95 (by decide +kernel) (by decide +kernel)
theorem wd_96 : Cond.fieldLink "SpinBench$Mixer" 28 "SpinBench$Mixer" "slotsUsed" "[I" ∈ gw_All := gw_in 96 (by decide +kernel) (by decide +kernel)
theorem wd_97 : Cond.fieldLink "SpinBench$Mixer" 31 "SpinBench$Mixer" "used" "I" ∈ gw_All := gw_in 97 (by decide +kernel) (by decide +kernel)
theorem wd_114 : Cond.superclass "SpinBench$Mixer" "java/lang/Object" ∈ gw_All := gw_in 114 (by decide +kernel) (by decide +kernel)
theorem wd_115 : Cond.arrayClass .int ∈ gw_All := gw_in 115 (by decide +kernel) (by decide +kernel)
theorem wd_116 : Cond.arrayClass .long ∈ gw_All := gw_in 116 (by decide +kernel) (by decide +kernel)
theorem wd_117 : Cond.classLink "SpinBench" 25 "SpinBench$Table" ∈ gw_All := gw_in 117 (by decide +kernel) (by decide +kernel)
theorem wd_119 : Cond.classLink "SpinBench" 31 "SpinBench$Op" ∈ gw_All := gw_in 119 (by decide +kernel) (by decide +kernel)
theorem wd_121 : Cond.constant "SpinBench" 37 (-1000000) ∈ gw_All := gw_in 121 (by decide +kernel) (by decide +kernel)
theorem wd_122 : Cond.methodLink "SpinBench" 46 ⟨"java/lang/Math", "min", "(II)I"⟩ ∈ gw_All := gw_in 122 (by decide +kernel) (by decide +kernel)
theorem wd_123 : Cond.static ⟨"java/lang/Math", "min", "(II)I"⟩ ∈ gw_All := gw_in 123 (by decide +kernel) (by decide +kernel)
set_option maxRecDepth 100000 in
theorem wd_124 : Cond.code ⟨"java/lang/Math", "min", "(II)I"⟩ prog_16_method_69_code 2 (some .int) ∈ gw_All := gw_in 124 rfl rfl
theorem wd_125 : Cond.methodLink "SpinBench" 52 ⟨"java/lang/Math", "max", "(II)I"⟩ ∈ gw_All := gw_in 125 (by decide +kernel) (by decide +kernel)
theorem wd_126 : Cond.static ⟨"java/lang/Math", "max", "(II)I"⟩ ∈ gw_All := gw_in 126 (by decide +kernel) (by decide +kernel)
set_option maxRecDepth 100000 in
theorem wd_127 : Cond.code ⟨"java/lang/Math", "max", "(II)I"⟩ prog_16_method_65_code 2 (some .int) ∈ gw_All := gw_in 127 rfl rfl
theorem wd_128 : Cond.instantiable "SpinBench$Sum" 3 ∈ gw_All := gw_in 128 (by decide +kernel) (by decide +kernel)
theorem wd_130 : Cond.instanceMethod ⟨"SpinBench$Sum", "<init>", "()V"⟩ ∈ gw_All := gw_in 130 (by decide +kernel) (by decide +kernel)
set_option maxRecDepth 100000 in
theorem wd_131 : Cond.code ⟨"SpinBench$Sum", "<init>", "()V"⟩ prog_11_method_1_code 1 none ∈ gw_All := gw_in 131 rfl rfl
theorem wd_132 : Cond.methodLink "SpinBench$Sum" 3 ⟨"java/lang/Object", "<init>", "()V"⟩ ∈ gw_All := gw_in 132 (by decide +kernel) (by decide +kernel)
theorem wd_133 : Cond.fieldLink "SpinBench$Sum" 9 "SpinBench$Sum" "keys" "[I" ∈ gw_All := gw_in 133 (by decide +kernel) (by decide +kernel)
theorem wd_136 : Cond.fieldLink "SpinBench$Sum" 15 "SpinBench$Sum" "numbers" "[J" ∈ gw_All := gw_in 136 (by decide +kernel) (by decide +kernel)
theorem wd_139 : Cond.fieldLink "SpinBench$Sum" 19 "SpinBench$Sum" "size" "I" ∈ gw_All := gw_in 139 (by decide +kernel) (by decide +kernel)
theorem wd_148 : Cond.superclass "SpinBench$Sum" "java/lang/Object" ∈ gw_All := gw_in 148 (by decide +kernel) (by decide +kernel)
theorem wd_149 : Cond.instantiable "SpinBench$Table" 4 ∈ gw_All := gw_in 149 (by decide +kernel) (by decide +kernel)
theorem wd_151 : Cond.instanceMethod ⟨"SpinBench$Table", "<init>", "()V"⟩ ∈ gw_All := gw_in 151 (by decide +kernel) (by decide +kernel)
set_option maxRecDepth 100000 in
theorem wd_152 : Cond.code ⟨"SpinBench$Table", "<init>", "()V"⟩ prog_12_method_1_code 1 none ∈ gw_All := gw_in 152 rfl rfl
theorem wd_153 : Cond.methodLink "SpinBench$Table" 3 ⟨"java/lang/Object", "<init>", "()V"⟩ ∈ gw_All := gw_in 153 (by decide +kernel) (by decide +kernel)
theorem wd_154 : Cond.fieldLink "SpinBench$Table" 9 "SpinBench$Table" "items" "[I" ∈ gw_All := gw_in 154 (by decide +kernel) (by decide +kernel)
theorem wd_157 : Cond.fieldLink "SpinBench$Table" 15 "SpinBench$Table" "missing" "Z" ∈ gw_All := gw_in 157 (by decide +kernel) (by decide +kernel)
theorem wd_160 : Cond.fieldLink "SpinBench$Table" 19 "SpinBench$Table" "lane" "I" ∈ gw_All := gw_in 160 (by decide +kernel) (by decide +kernel)
theorem wd_162 : Cond.fieldLink "SpinBench$Table" 23 "SpinBench$Table" "size" "I" ∈ gw_All := gw_in 162 (by decide +kernel) (by decide +kernel)
theorem wd_172 : Cond.superclass "SpinBench$Table" "java/lang/Object" ∈ gw_All := gw_in 172 (by decide +kernel) (by decide +kernel)
theorem wd_173 : Cond.fieldLink "SpinBench" 55 "SpinBench" "spinCount" "I" ∈ gw_All := gw_in 173 (by decide +kernel) (by decide +kernel)
theorem wd_174 : Cond.fieldLink "SpinBench" 11 "SpinBench" "sums" "[LSpinBench$Sum;" ∈ gw_All := gw_in 174 (by decide +kernel) (by decide +kernel)
theorem wd_175 : Cond.fieldLink "SpinBench" 15 "SpinBench" "sumsAhead" "[LSpinBench$Sum;" ∈ gw_All := gw_in 175 (by decide +kernel) (by decide +kernel)
theorem wd_176 : Cond.fieldLink "SpinBench" 59 "SpinBench" "work" "LSpinBench$Sum;" ∈ gw_All := gw_in 176 (by decide +kernel) (by decide +kernel)
theorem wd_178 : Cond.fieldLink "SpinBench" 21 "SpinBench" "mixer" "LSpinBench$Mixer;" ∈ gw_All := gw_in 178 (by decide +kernel) (by decide +kernel)
theorem wd_180 : Cond.fieldLink "SpinBench" 27 "SpinBench" "tables" "[LSpinBench$Table;" ∈ gw_All := gw_in 180 (by decide +kernel) (by decide +kernel)
theorem wd_181 : Cond.fieldLink "SpinBench" 33 "SpinBench" "program" "[LSpinBench$Op;" ∈ gw_All := gw_in 181 (by decide +kernel) (by decide +kernel)
theorem wd_182 : Cond.fieldLink "SpinBench" 183 "SpinBench" "length" "I" ∈ gw_All := gw_in 182 (by decide +kernel) (by decide +kernel)
theorem wd_183 : Cond.fieldLink "SpinBench" 186 "SpinBench" "latestOpen" "LSpinBench$Round;" ∈ gw_All := gw_in 183 (by decide +kernel) (by decide +kernel)
theorem wd_185 : Cond.fieldLink "SpinBench" 262 "SpinBench" "next" "I" ∈ gw_All := gw_in 185 (by decide +kernel) (by decide +kernel)
theorem wd_186 : Cond.fieldLink "SpinBench" 256 "SpinBench" "stepsDone" "I" ∈ gw_All := gw_in 186 (by decide +kernel) (by decide +kernel)
theorem wd_187 : Cond.fieldLink "SpinBench" 38 "SpinBench" "lastBegun" "I" ∈ gw_All := gw_in 187 (by decide +kernel) (by decide +kernel)
theorem wd_188 : Cond.fieldLink "SpinBench" 42 "SpinBench" "bodies" "[I" ∈ gw_All := gw_in 188 (by decide +kernel) (by decide +kernel)
theorem wd_189 : Cond.fieldLink "SpinBench" 242 "SpinBench" "bodiesBegun" "I" ∈ gw_All := gw_in 189 (by decide +kernel) (by decide +kernel)
theorem wd_190 : Cond.fieldLink "SpinBench" 274 "SpinBench" "latestFinding" "I" ∈ gw_All := gw_in 190 (by decide +kernel) (by decide +kernel)
theorem wd_221 : Cond.superclass "SpinBench" "java/lang/Object" ∈ gw_All := gw_in 221 (by decide +kernel) (by decide +kernel)
theorem wd_222 : Cond.methodLink "SpinBenchLaw" 21 ⟨"SpinBench", "table", "(III)I"⟩ ∈ gw_All := gw_in 222 (by decide +kernel) (by decide +kernel)
theorem wd_223 : Cond.instanceMethod ⟨"SpinBench", "table", "(III)I"⟩ ∈ gw_All := gw_in 223 (by decide +kernel) (by decide +kernel)
theorem wd_224 : Cond.selects "SpinBench" ⟨"SpinBench", "table", "(III)I"⟩ ⟨"SpinBench", "table", "(III)I"⟩ ∈ gw_All := gw_in 224 (by decide +kernel) (by decide +kernel)
set_option maxRecDepth 100000 in
theorem wd_225 : Cond.code ⟨"SpinBench", "table", "(III)I"⟩ prog_1_method_2_code 5 (some .int) ∈ gw_All := gw_in 225 rfl rfl
theorem wd_226 : Cond.methodLink "SpinBench" 64 ⟨"SpinBench", "tableAt", "(I)LSpinBench$Table;"⟩ ∈ gw_All := gw_in 226 (by decide +kernel) (by decide +kernel)
theorem wd_228 : Cond.instanceMethod ⟨"SpinBench", "tableAt", "(I)LSpinBench$Table;"⟩ ∈ gw_All := gw_in 228 (by decide +kernel) (by decide +kernel)
set_option maxRecDepth 100000 in
theorem wd_229 : Cond.code ⟨"SpinBench", "tableAt", "(I)LSpinBench$Table;"⟩ prog_1_method_38_code 2 (some (.object "SpinBench$Table")) ∈ gw_All := gw_in 229 rfl rfl
theorem wd_230 : Cond.methodLink "SpinBench" 68 ⟨"SpinBench", "within", "(III)Z"⟩ ∈ gw_All := gw_in 230 (by decide +kernel) (by decide +kernel)
theorem wd_231 : Cond.static ⟨"SpinBench", "within", "(III)Z"⟩ ∈ gw_All := gw_in 231 (by decide +kernel) (by decide +kernel)
set_option maxRecDepth 100000 in
theorem wd_232 : Cond.code ⟨"SpinBench", "within", "(III)Z"⟩ prog_1_method_34_code 3 (some .boolean) ∈ gw_All := gw_in 232 rfl rfl
theorem wd_233 : Cond.constant "SpinBench" 72 (-1000001) ∈ gw_All := gw_in 233 (by decide +kernel) (by decide +kernel)
theorem wd_234 : Cond.methodLink "SpinBench" 73 ⟨"SpinBench", "found", "(I)I"⟩ ∈ gw_All := gw_in 234 (by decide +kernel) (by decide +kernel)
theorem wd_236 : Cond.instanceMethod ⟨"SpinBench", "found", "(I)I"⟩ ∈ gw_All := gw_in 236 (by decide +kernel) (by decide +kernel)
set_option maxRecDepth 100000 in
theorem wd_237 : Cond.code ⟨"SpinBench", "found", "(I)I"⟩ prog_1_method_41_code 2 (some .int) ∈ gw_All := gw_in 237 rfl rfl
theorem wd_238 : Cond.constant "SpinBench" 277 (-1000010) ∈ gw_All := gw_in 238 (by decide +kernel) (by decide +kernel)
theorem wd_241 : Cond.instanceMethod ⟨"SpinBench$Table", "make", "(II)V"⟩ ∈ gw_All := gw_in 241 (by decide +kernel) (by decide +kernel)
set_option maxRecDepth 100000 in
theorem wd_242 : Cond.code ⟨"SpinBench$Table", "make", "(II)V"⟩ prog_12_method_2_code 3 none ∈ gw_All := gw_in 242 rfl rfl
theorem wd_243 : Cond.methodLink "SpinBench$Table" 26 ⟨"java/util/Arrays", "fill", "([II)V"⟩ ∈ gw_All := gw_in 243 (by decide +kernel) (by decide +kernel)
theorem wd_244 : Cond.static ⟨"java/util/Arrays", "fill", "([II)V"⟩ ∈ gw_All := gw_in 244 (by decide +kernel) (by decide +kernel)
set_option maxRecDepth 100000 in
theorem wd_245 : Cond.code ⟨"java/util/Arrays", "fill", "([II)V"⟩ prog_18_method_103_code 4 none ∈ gw_All := gw_in 245 rfl rfl
theorem wd_246 : Cond.methodLink "SpinBench" 81 ⟨"SpinBench", "notFound", "(I)I"⟩ ∈ gw_All := gw_in 246 (by decide +kernel) (by decide +kernel)
theorem wd_248 : Cond.instanceMethod ⟨"SpinBench", "notFound", "(I)I"⟩ ∈ gw_All := gw_in 248 (by decide +kernel) (by decide +kernel)
set_option maxRecDepth 100000 in
theorem wd_249 : Cond.code ⟨"SpinBench", "notFound", "(I)I"⟩ prog_1_method_42_code 2 (some .int) ∈ gw_All := gw_in 249 rfl rfl
theorem wd_250 : Cond.methodLink "SpinBenchLaw" 26 ⟨"SpinBench", "set", "(III)I"⟩ ∈ gw_All := gw_in 250 (by decide +kernel) (by decide +kernel)
theorem wd_251 : Cond.instanceMethod ⟨"SpinBench", "set", "(III)I"⟩ ∈ gw_All := gw_in 251 (by decide +kernel) (by decide +kernel)
theorem wd_252 : Cond.selects "SpinBench" ⟨"SpinBench", "set", "(III)I"⟩ ⟨"SpinBench", "set", "(III)I"⟩ ∈ gw_All := gw_in 252 (by decide +kernel) (by decide +kernel)
set_option maxRecDepth 100000 in
theorem wd_253 : Cond.code ⟨"SpinBench", "set", "(III)I"⟩ prog_1_method_3_code 5 (some .int) ∈ gw_All := gw_in 253 rfl rfl
theorem wd_256 : Cond.instanceMethod ⟨"SpinBench$Table", "hasPlaces", "(II)Z"⟩ ∈ gw_All := gw_in 256 (by decide +kernel) (by decide +kernel)
set_option maxRecDepth 100000 in
theorem wd_257 : Cond.code ⟨"SpinBench$Table", "hasPlaces", "(II)Z"⟩ prog_12_method_3_code 3 (some .boolean) ∈ gw_All := gw_in 257 rfl rfl
theorem wd_260 : Cond.instanceMethod ⟨"SpinBench$Table", "fitted", "(I)I"⟩ ∈ gw_All := gw_in 260 (by decide +kernel) (by decide +kernel)
set_option maxRecDepth 100000 in
theorem wd_261 : Cond.code ⟨"SpinBench$Table", "fitted", "(I)I"⟩ prog_12_method_4_code 2 (some .int) ∈ gw_All := gw_in 261 rfl rfl
theorem wd_262 : Cond.methodLink "SpinBenchLaw" 30 ⟨"SpinBench", "copy", "(IIIII)I"⟩ ∈ gw_All := gw_in 262 (by decide +kernel) (by decide +kernel)
theorem wd_263 : Cond.instanceMethod ⟨"SpinBench", "copy", "(IIIII)I"⟩ ∈ gw_All := gw_in 263 (by decide +kernel) (by decide +kernel)
theorem wd_264 : Cond.selects "SpinBench" ⟨"SpinBench", "copy", "(IIIII)I"⟩ ⟨"SpinBench", "copy", "(IIIII)I"⟩ ∈ gw_All := gw_in 264 (by decide +kernel) (by decide +kernel)
set_option maxRecDepth 100000 in
theorem wd_265 : Cond.code ⟨"SpinBench", "copy", "(IIIII)I"⟩ prog_1_method_4_code 8 (some .int) ∈ gw_All := gw_in 265 rfl rfl
theorem wd_266 : Cond.methodLink "SpinBench" 101 ⟨"java/lang/System", "arraycopy", "(Ljava/lang/Object;ILjava/lang/Object;II)V"⟩ ∈ gw_All := gw_in 266 (by decide +kernel) (by decide +kernel)
theorem wd_267 : Cond.static ⟨"java/lang/System", "arraycopy", "(Ljava/lang/Object;ILjava/lang/Object;II)V"⟩ ∈ gw_All := gw_in 267 (by decide +kernel) (by decide +kernel)
theorem wd_268 : Cond.native ⟨"java/lang/System", "arraycopy", "(Ljava/lang/Object;ILjava/lang/Object;II)V"⟩ ∈ gw_All := gw_in 268 (by decide +kernel) (by decide +kernel)
theorem wd_269 : Cond.methodLink "SpinBenchLaw" 35 ⟨"SpinBench", "drop", "(I)I"⟩ ∈ gw_All := gw_in 269 (by decide +kernel) (by decide +kernel)
theorem wd_270 : Cond.instanceMethod ⟨"SpinBench", "drop", "(I)I"⟩ ∈ gw_All := gw_in 270 (by decide +kernel) (by decide +kernel)
theorem wd_271 : Cond.selects "SpinBench" ⟨"SpinBench", "drop", "(I)I"⟩ ⟨"SpinBench", "drop", "(I)I"⟩ ∈ gw_All := gw_in 271 (by decide +kernel) (by decide +kernel)
set_option maxRecDepth 100000 in
theorem wd_272 : Cond.code ⟨"SpinBench", "drop", "(I)I"⟩ prog_1_method_5_code 3 (some .int) ∈ gw_All := gw_in 272 rfl rfl
theorem wd_273 : Cond.methodLink "SpinBenchLaw" 40 ⟨"SpinBench", "clear", "(I)I"⟩ ∈ gw_All := gw_in 273 (by decide +kernel) (by decide +kernel)
theorem wd_274 : Cond.instanceMethod ⟨"SpinBench", "clear", "(I)I"⟩ ∈ gw_All := gw_in 274 (by decide +kernel) (by decide +kernel)
theorem wd_275 : Cond.selects "SpinBench" ⟨"SpinBench", "clear", "(I)I"⟩ ⟨"SpinBench", "clear", "(I)I"⟩ ∈ gw_All := gw_in 275 (by decide +kernel) (by decide +kernel)
set_option maxRecDepth 100000 in
theorem wd_276 : Cond.code ⟨"SpinBench", "clear", "(I)I"⟩ prog_1_method_6_code 4 (some .int) ∈ gw_All := gw_in 276 rfl rfl
theorem wd_277 : Cond.methodLink "SpinBench" 110 ⟨"SpinBench", "sumAt", "(I)LSpinBench$Sum;"⟩ ∈ gw_All := gw_in 277 (by decide +kernel) (by decide +kernel)
theorem wd_279 : Cond.instanceMethod ⟨"SpinBench", "sumAt", "(I)LSpinBench$Sum;"⟩ ∈ gw_All := gw_in 279 (by decide +kernel) (by decide +kernel)
set_option maxRecDepth 100000 in
theorem wd_280 : Cond.code ⟨"SpinBench", "sumAt", "(I)LSpinBench$Sum;"⟩ prog_1_method_39_code 2 (some (.object "SpinBench$Sum")) ∈ gw_All := gw_in 280 rfl rfl
theorem wd_281 : Cond.methodLink "SpinBenchLaw" 44 ⟨"SpinBench", "add", "(III)I"⟩ ∈ gw_All := gw_in 281 (by decide +kernel) (by decide +kernel)
theorem wd_282 : Cond.instanceMethod ⟨"SpinBench", "add", "(III)I"⟩ ∈ gw_All := gw_in 282 (by decide +kernel) (by decide +kernel)
theorem wd_283 : Cond.selects "SpinBench" ⟨"SpinBench", "add", "(III)I"⟩ ⟨"SpinBench", "add", "(III)I"⟩ ∈ gw_All := gw_in 283 (by decide +kernel) (by decide +kernel)
set_option maxRecDepth 100000 in
theorem wd_284 : Cond.code ⟨"SpinBench", "add", "(III)I"⟩ prog_1_method_7_code 5 (some .int) ∈ gw_All := gw_in 284 rfl rfl
theorem wd_285 : Cond.methodLink "SpinBench" 115 ⟨"SpinBench", "isProduct", "(I)Z"⟩ ∈ gw_All := gw_in 285 (by decide +kernel) (by decide +kernel)
theorem wd_287 : Cond.instanceMethod ⟨"SpinBench", "isProduct", "(I)Z"⟩ ∈ gw_All := gw_in 287 (by decide +kernel) (by decide +kernel)
set_option maxRecDepth 100000 in
theorem wd_288 : Cond.code ⟨"SpinBench", "isProduct", "(I)Z"⟩ prog_1_method_36_code 2 (some .boolean) ∈ gw_All := gw_in 288 rfl rfl
theorem wd_291 : Cond.instanceMethod ⟨"SpinBench$Mixer", "begin", "()V"⟩ ∈ gw_All := gw_in 291 (by decide +kernel) (by decide +kernel)
set_option maxRecDepth 100000 in
theorem wd_292 : Cond.code ⟨"SpinBench$Mixer", "begin", "()V"⟩ prog_6_method_2_code 2 none ∈ gw_All := gw_in 292 rfl rfl
theorem wd_295 : Cond.instanceMethod ⟨"SpinBench$Mixer", "putSum", "(LSpinBench$Sum;I)V"⟩ ∈ gw_All := gw_in 295 (by decide +kernel) (by decide +kernel)
set_option maxRecDepth 100000 in
theorem wd_296 : Cond.code ⟨"SpinBench$Mixer", "putSum", "(LSpinBench$Sum;I)V"⟩ prog_6_method_5_code 4 none ∈ gw_All := gw_in 296 rfl rfl
theorem wd_297 : Cond.methodLink "SpinBench$Mixer" 48 ⟨"SpinBench$Mixer", "put", "(IJ)V"⟩ ∈ gw_All := gw_in 297 (by decide +kernel) (by decide +kernel)
theorem wd_299 : Cond.instanceMethod ⟨"SpinBench$Mixer", "put", "(IJ)V"⟩ ∈ gw_All := gw_in 299 (by decide +kernel) (by decide +kernel)
set_option maxRecDepth 100000 in
theorem wd_300 : Cond.code ⟨"SpinBench$Mixer", "put", "(IJ)V"⟩ prog_6_method_3_code 7 none ∈ gw_All := gw_in 300 rfl rfl
theorem wd_301 : Cond.constant "SpinBench$Mixer" 38 (-1640531535) ∈ gw_All := gw_in 301 (by decide +kernel) (by decide +kernel)
theorem wd_302 : Cond.methodLink "SpinBench$Mixer" 39 ⟨"SpinBench$Mixer", "enter", "(IIJ)V"⟩ ∈ gw_All := gw_in 302 (by decide +kernel) (by decide +kernel)
theorem wd_304 : Cond.instanceMethod ⟨"SpinBench$Mixer", "enter", "(IIJ)V"⟩ ∈ gw_All := gw_in 304 (by decide +kernel) (by decide +kernel)
set_option maxRecDepth 100000 in
theorem wd_305 : Cond.code ⟨"SpinBench$Mixer", "enter", "(IIJ)V"⟩ prog_6_method_4_code 5 none ∈ gw_All := gw_in 305 rfl rfl
theorem wd_309 : Cond.instanceMethod ⟨"SpinBench$Mixer", "settle", "(LSpinBench$Sum;)Z"⟩ ∈ gw_All := gw_in 309 (by decide +kernel) (by decide +kernel)
set_option maxRecDepth 100000 in
theorem wd_310 : Cond.code ⟨"SpinBench$Mixer", "settle", "(LSpinBench$Sum;)Z"⟩ prog_6_method_12_code 2 (some .boolean) ∈ gw_All := gw_in 310 rfl rfl
theorem wd_311 : Cond.methodLink "SpinBench$Mixer" 104 ⟨"SpinBench$Mixer", "dropZeros", "()V"⟩ ∈ gw_All := gw_in 311 (by decide +kernel) (by decide +kernel)
theorem wd_313 : Cond.instanceMethod ⟨"SpinBench$Mixer", "dropZeros", "()V"⟩ ∈ gw_All := gw_in 313 (by decide +kernel) (by decide +kernel)
set_option maxRecDepth 100000 in
theorem wd_314 : Cond.code ⟨"SpinBench$Mixer", "dropZeros", "()V"⟩ prog_6_method_13_code 3 none ∈ gw_All := gw_in 314 rfl rfl
theorem wd_315 : Cond.methodLink "SpinBench$Mixer" 107 ⟨"SpinBench$Mixer", "isSum", "()Z"⟩ ∈ gw_All := gw_in 315 (by decide +kernel) (by decide +kernel)
theorem wd_317 : Cond.instanceMethod ⟨"SpinBench$Mixer", "isSum", "()Z"⟩ ∈ gw_All := gw_in 317 (by decide +kernel) (by decide +kernel)
set_option maxRecDepth 100000 in
theorem wd_318 : Cond.code ⟨"SpinBench$Mixer", "isSum", "()Z"⟩ prog_6_method_14_code 3 (some .boolean) ∈ gw_All := gw_in 318 rfl rfl
theorem wd_319 : Cond.methodLink "SpinBench$Mixer" 81 ⟨"java/lang/Math", "abs", "(J)J"⟩ ∈ gw_All := gw_in 319 (by decide +kernel) (by decide +kernel)
theorem wd_320 : Cond.static ⟨"java/lang/Math", "abs", "(J)J"⟩ ∈ gw_All := gw_in 320 (by decide +kernel) (by decide +kernel)
set_option maxRecDepth 100000 in
theorem wd_321 : Cond.code ⟨"java/lang/Math", "abs", "(J)J"⟩ prog_16_method_61_code 2 (some .long) ∈ gw_All := gw_in 321 rfl rfl
theorem wd_322 : Cond.constantLong "SpinBench$Mixer" 87 1000000000000 ∈ gw_All := gw_in 322 (by decide +kernel) (by decide +kernel)
theorem wd_324 : Cond.static ⟨"SpinBench", "cosinesOf", "(II)I"⟩ ∈ gw_All := gw_in 324 (by decide +kernel) (by decide +kernel)
set_option maxRecDepth 100000 in
theorem wd_325 : Cond.code ⟨"SpinBench", "cosinesOf", "(II)I"⟩ prog_1_method_56_code 2 (some .int) ∈ gw_All := gw_in 325 rfl rfl
theorem wd_326 : Cond.methodLink "SpinBench$Mixer" 111 ⟨"SpinBench$Mixer", "sort", "()V"⟩ ∈ gw_All := gw_in 326 (by decide +kernel) (by decide +kernel)
theorem wd_328 : Cond.instanceMethod ⟨"SpinBench$Mixer", "sort", "()V"⟩ ∈ gw_All := gw_in 328 (by decide +kernel) (by decide +kernel)
set_option maxRecDepth 100000 in
theorem wd_329 : Cond.code ⟨"SpinBench$Mixer", "sort", "()V"⟩ prog_6_method_15_code 4 none ∈ gw_All := gw_in 329 rfl rfl
theorem wd_330 : Cond.methodLink "SpinBench$Mixer" 120 ⟨"java/lang/Math", "min", "(II)I"⟩ ∈ gw_All := gw_in 330 (by decide +kernel) (by decide +kernel)
theorem wd_331 : Cond.methodLink "SpinBench$Mixer" 123 ⟨"SpinBench$Mixer", "merge", "(III)V"⟩ ∈ gw_All := gw_in 331 (by decide +kernel) (by decide +kernel)
theorem wd_333 : Cond.instanceMethod ⟨"SpinBench$Mixer", "merge", "(III)V"⟩ ∈ gw_All := gw_in 333 (by decide +kernel) (by decide +kernel)
set_option maxRecDepth 100000 in
theorem wd_334 : Cond.code ⟨"SpinBench$Mixer", "merge", "(III)V"⟩ prog_6_method_16_code 8 none ∈ gw_All := gw_in 334 rfl rfl
theorem wd_335 : Cond.methodLink "SpinBench$Mixer" 114 ⟨"java/lang/System", "arraycopy", "(Ljava/lang/Object;ILjava/lang/Object;II)V"⟩ ∈ gw_All := gw_in 335 (by decide +kernel) (by decide +kernel)
theorem wd_336 : Cond.constant "SpinBench" 134 (-1000003) ∈ gw_All := gw_in 336 (by decide +kernel) (by decide +kernel)
theorem wd_337 : Cond.methodLink "SpinBenchLaw" 48 ⟨"SpinBench", "take", "(II)I"⟩ ∈ gw_All := gw_in 337 (by decide +kernel) (by decide +kernel)
theorem wd_338 : Cond.instanceMethod ⟨"SpinBench", "take", "(II)I"⟩ ∈ gw_All := gw_in 338 (by decide +kernel) (by decide +kernel)
theorem wd_339 : Cond.selects "SpinBench" ⟨"SpinBench", "take", "(II)I"⟩ ⟨"SpinBench", "take", "(II)I"⟩ ∈ gw_All := gw_in 339 (by decide +kernel) (by decide +kernel)
set_option maxRecDepth 100000 in
theorem wd_340 : Cond.code ⟨"SpinBench", "take", "(II)I"⟩ prog_1_method_8_code 5 (some .int) ∈ gw_All := gw_in 340 rfl rfl
theorem wd_343 : Cond.instanceMethod ⟨"SpinBench$Sum", "become", "(LSpinBench$Sum;)V"⟩ ∈ gw_All := gw_in 343 (by decide +kernel) (by decide +kernel)
set_option maxRecDepth 100000 in
theorem wd_344 : Cond.code ⟨"SpinBench$Sum", "become", "(LSpinBench$Sum;)V"⟩ prog_11_method_2_code 2 none ∈ gw_All := gw_in 344 rfl rfl
theorem wd_345 : Cond.methodLink "SpinBench$Sum" 23 ⟨"java/lang/System", "arraycopy", "(Ljava/lang/Object;ILjava/lang/Object;II)V"⟩ ∈ gw_All := gw_in 345 (by decide +kernel) (by decide +kernel)
theorem wd_346 : Cond.methodLink "SpinBenchLaw" 53 ⟨"SpinBench", "join", "(III)I"⟩ ∈ gw_All := gw_in 346 (by decide +kernel) (by decide +kernel)
theorem wd_347 : Cond.instanceMethod ⟨"SpinBench", "join", "(III)I"⟩ ∈ gw_All := gw_in 347 (by decide +kernel) (by decide +kernel)
theorem wd_348 : Cond.selects "SpinBench" ⟨"SpinBench", "join", "(III)I"⟩ ⟨"SpinBench", "join", "(III)I"⟩ ∈ gw_All := gw_in 348 (by decide +kernel) (by decide +kernel)
set_option maxRecDepth 100000 in
theorem wd_349 : Cond.code ⟨"SpinBench", "join", "(III)I"⟩ prog_1_method_9_code 6 (some .int) ∈ gw_All := gw_in 349 rfl rfl
theorem wd_352 : Cond.instanceMethod ⟨"SpinBench$Mixer", "joinSums", "(LSpinBench$Sum;LSpinBench$Sum;I)Z"⟩ ∈ gw_All := gw_in 352 (by decide +kernel) (by decide +kernel)
set_option maxRecDepth 100000 in
theorem wd_353 : Cond.code ⟨"SpinBench$Mixer", "joinSums", "(LSpinBench$Sum;LSpinBench$Sum;I)Z"⟩ prog_6_method_7_code 4 (some .boolean) ∈ gw_All := gw_in 353 rfl rfl
theorem wd_354 : Cond.methodLink "SpinBench$Mixer" 59 ⟨"SpinBench$Mixer", "begin", "()V"⟩ ∈ gw_All := gw_in 354 (by decide +kernel) (by decide +kernel)
theorem wd_355 : Cond.methodLink "SpinBench$Mixer" 62 ⟨"SpinBench$Mixer", "putSum", "(LSpinBench$Sum;I)V"⟩ ∈ gw_All := gw_in 355 (by decide +kernel) (by decide +kernel)
theorem wd_356 : Cond.methodLink "SpinBench$Mixer" 66 ⟨"SpinBench$Mixer", "settle", "(LSpinBench$Sum;)Z"⟩ ∈ gw_All := gw_in 356 (by decide +kernel) (by decide +kernel)
theorem wd_357 : Cond.methodLink "SpinBenchLaw" 57 ⟨"SpinBench", "quarter", "(II)I"⟩ ∈ gw_All := gw_in 357 (by decide +kernel) (by decide +kernel)
theorem wd_358 : Cond.instanceMethod ⟨"SpinBench", "quarter", "(II)I"⟩ ∈ gw_All := gw_in 358 (by decide +kernel) (by decide +kernel)
theorem wd_359 : Cond.selects "SpinBench" ⟨"SpinBench", "quarter", "(II)I"⟩ ⟨"SpinBench", "quarter", "(II)I"⟩ ∈ gw_All := gw_in 359 (by decide +kernel) (by decide +kernel)
set_option maxRecDepth 100000 in
theorem wd_360 : Cond.code ⟨"SpinBench", "quarter", "(II)I"⟩ prog_1_method_10_code 3 (some .int) ∈ gw_All := gw_in 360 rfl rfl
theorem wd_361 : Cond.methodLink "SpinBench" 143 ⟨"SpinBench", "turnByQuarters", "(II)Z"⟩ ∈ gw_All := gw_in 361 (by decide +kernel) (by decide +kernel)
theorem wd_363 : Cond.instanceMethod ⟨"SpinBench", "turnByQuarters", "(II)Z"⟩ ∈ gw_All := gw_in 363 (by decide +kernel) (by decide +kernel)
set_option maxRecDepth 100000 in
theorem wd_364 : Cond.code ⟨"SpinBench", "turnByQuarters", "(II)Z"⟩ prog_1_method_51_code 8 (some .boolean) ∈ gw_All := gw_in 364 rfl rfl
theorem wd_365 : Cond.methodLink "SpinBench" 161 ⟨"SpinBench", "productOf", "(I)I"⟩ ∈ gw_All := gw_in 365 (by decide +kernel) (by decide +kernel)
theorem wd_366 : Cond.static ⟨"SpinBench", "productOf", "(I)I"⟩ ∈ gw_All := gw_in 366 (by decide +kernel) (by decide +kernel)
set_option maxRecDepth 100000 in
theorem wd_367 : Cond.code ⟨"SpinBench", "productOf", "(I)I"⟩ prog_1_method_53_code 1 (some .int) ∈ gw_All := gw_in 367 rfl rfl
theorem wd_368 : Cond.methodLink "SpinBench" 278 ⟨"SpinBench", "signOf", "(II)I"⟩ ∈ gw_All := gw_in 368 (by decide +kernel) (by decide +kernel)
theorem wd_369 : Cond.static ⟨"SpinBench", "signOf", "(II)I"⟩ ∈ gw_All := gw_in 369 (by decide +kernel) (by decide +kernel)
set_option maxRecDepth 100000 in
theorem wd_370 : Cond.code ⟨"SpinBench", "signOf", "(II)I"⟩ prog_1_method_49_code 6 (some .int) ∈ gw_All := gw_in 370 rfl rfl
theorem wd_371 : Cond.methodLink "SpinBench" 281 ⟨"SpinBench", "withProduct", "(II)I"⟩ ∈ gw_All := gw_in 371 (by decide +kernel) (by decide +kernel)
theorem wd_372 : Cond.static ⟨"SpinBench", "withProduct", "(II)I"⟩ ∈ gw_All := gw_in 372 (by decide +kernel) (by decide +kernel)
set_option maxRecDepth 100000 in
theorem wd_373 : Cond.code ⟨"SpinBench", "withProduct", "(II)I"⟩ prog_1_method_50_code 2 (some .int) ∈ gw_All := gw_in 373 rfl rfl
theorem wd_374 : Cond.methodLink "SpinBenchLaw" 61 ⟨"SpinBench", "letter", "(III)I"⟩ ∈ gw_All := gw_in 374 (by decide +kernel) (by decide +kernel)
theorem wd_375 : Cond.instanceMethod ⟨"SpinBench", "letter", "(III)I"⟩ ∈ gw_All := gw_in 375 (by decide +kernel) (by decide +kernel)
theorem wd_376 : Cond.selects "SpinBench" ⟨"SpinBench", "letter", "(III)I"⟩ ⟨"SpinBench", "letter", "(III)I"⟩ ∈ gw_All := gw_in 376 (by decide +kernel) (by decide +kernel)
set_option maxRecDepth 100000 in
theorem wd_377 : Cond.code ⟨"SpinBench", "letter", "(III)I"⟩ prog_1_method_11_code 4 (some .int) ∈ gw_All := gw_in 377 rfl rfl
theorem wd_378 : Cond.methodLink "SpinBench" 146 ⟨"SpinBench", "isWay", "(I)Z"⟩ ∈ gw_All := gw_in 378 (by decide +kernel) (by decide +kernel)
theorem wd_379 : Cond.static ⟨"SpinBench", "isWay", "(I)Z"⟩ ∈ gw_All := gw_in 379 (by decide +kernel) (by decide +kernel)
set_option maxRecDepth 100000 in
theorem wd_380 : Cond.code ⟨"SpinBench", "isWay", "(I)Z"⟩ prog_1_method_35_code 1 (some .boolean) ∈ gw_All := gw_in 380 rfl rfl
theorem wd_381 : Cond.methodLink "SpinBench" 149 ⟨"SpinBench", "turnByLetter", "(III)Z"⟩ ∈ gw_All := gw_in 381 (by decide +kernel) (by decide +kernel)
theorem wd_383 : Cond.instanceMethod ⟨"SpinBench", "turnByLetter", "(III)Z"⟩ ∈ gw_All := gw_in 383 (by decide +kernel) (by decide +kernel)
set_option maxRecDepth 100000 in
theorem wd_384 : Cond.code ⟨"SpinBench", "turnByLetter", "(III)Z"⟩ prog_1_method_52_code 9 (some .boolean) ∈ gw_All := gw_in 384 rfl rfl
theorem wd_385 : Cond.methodLink "SpinBench" 284 ⟨"SpinBench", "oneCosine", "(I)I"⟩ ∈ gw_All := gw_in 385 (by decide +kernel) (by decide +kernel)
theorem wd_386 : Cond.static ⟨"SpinBench", "oneCosine", "(I)I"⟩ ∈ gw_All := gw_in 386 (by decide +kernel) (by decide +kernel)
set_option maxRecDepth 100000 in
theorem wd_387 : Cond.code ⟨"SpinBench", "oneCosine", "(I)I"⟩ prog_1_method_55_code 1 (some .int) ∈ gw_All := gw_in 387 rfl rfl
theorem wd_388 : Cond.methodLink "SpinBench" 291 ⟨"SpinBench", "oneSine", "(I)I"⟩ ∈ gw_All := gw_in 388 (by decide +kernel) (by decide +kernel)
theorem wd_389 : Cond.static ⟨"SpinBench", "oneSine", "(I)I"⟩ ∈ gw_All := gw_in 389 (by decide +kernel) (by decide +kernel)
set_option maxRecDepth 100000 in
theorem wd_390 : Cond.code ⟨"SpinBench", "oneSine", "(I)I"⟩ prog_1_method_54_code 1 (some .int) ∈ gw_All := gw_in 390 rfl rfl
theorem wd_393 : Cond.instanceMethod ⟨"SpinBench$Mixer", "putTimesSine", "(IIJ)V"⟩ ∈ gw_All := gw_in 393 (by decide +kernel) (by decide +kernel)
set_option maxRecDepth 100000 in
theorem wd_394 : Cond.code ⟨"SpinBench$Mixer", "putTimesSine", "(IIJ)V"⟩ prog_6_method_6_code 6 none ∈ gw_All := gw_in 394 rfl rfl
theorem wd_397 : Cond.methodLink "SpinBenchLaw" 65 ⟨"SpinBench", "terms", "(I)I"⟩ ∈ gw_All := gw_in 397 (by decide +kernel) (by decide +kernel)
theorem wd_398 : Cond.instanceMethod ⟨"SpinBench", "terms", "(I)I"⟩ ∈ gw_All := gw_in 398 (by decide +kernel) (by decide +kernel)
theorem wd_399 : Cond.selects "SpinBench" ⟨"SpinBench", "terms", "(I)I"⟩ ⟨"SpinBench", "terms", "(I)I"⟩ ∈ gw_All := gw_in 399 (by decide +kernel) (by decide +kernel)
set_option maxRecDepth 100000 in
theorem wd_400 : Cond.code ⟨"SpinBench", "terms", "(I)I"⟩ prog_1_method_12_code 3 (some .int) ∈ gw_All := gw_in 400 rfl rfl
theorem wd_401 : Cond.methodLink "SpinBenchLaw" 69 ⟨"SpinBench", "number", "(II)J"⟩ ∈ gw_All := gw_in 401 (by decide +kernel) (by decide +kernel)
theorem wd_402 : Cond.instanceMethod ⟨"SpinBench", "number", "(II)J"⟩ ∈ gw_All := gw_in 402 (by decide +kernel) (by decide +kernel)
theorem wd_403 : Cond.selects "SpinBench" ⟨"SpinBench", "number", "(II)J"⟩ ⟨"SpinBench", "number", "(II)J"⟩ ∈ gw_All := gw_in 403 (by decide +kernel) (by decide +kernel)
set_option maxRecDepth 100000 in
theorem wd_404 : Cond.code ⟨"SpinBench", "number", "(II)J"⟩ prog_1_method_13_code 4 (some .long) ∈ gw_All := gw_in 404 rfl rfl
theorem wd_405 : Cond.constantLong "SpinBench" 152 (-1000001) ∈ gw_All := gw_in 405 (by decide +kernel) (by decide +kernel)
theorem wd_406 : Cond.methodLink "SpinBenchLaw" 74 ⟨"SpinBench", "power", "(III)I"⟩ ∈ gw_All := gw_in 406 (by decide +kernel) (by decide +kernel)
theorem wd_407 : Cond.instanceMethod ⟨"SpinBench", "power", "(III)I"⟩ ∈ gw_All := gw_in 407 (by decide +kernel) (by decide +kernel)
theorem wd_408 : Cond.selects "SpinBench" ⟨"SpinBench", "power", "(III)I"⟩ ⟨"SpinBench", "power", "(III)I"⟩ ∈ gw_All := gw_in 408 (by decide +kernel) (by decide +kernel)
set_option maxRecDepth 100000 in
theorem wd_409 : Cond.code ⟨"SpinBench", "power", "(III)I"⟩ prog_1_method_14_code 5 (some .int) ∈ gw_All := gw_in 409 rfl rfl
theorem wd_410 : Cond.methodLink "SpinBench" 164 ⟨"SpinBench", "powerOf", "(II)I"⟩ ∈ gw_All := gw_in 410 (by decide +kernel) (by decide +kernel)
theorem wd_411 : Cond.static ⟨"SpinBench", "powerOf", "(II)I"⟩ ∈ gw_All := gw_in 411 (by decide +kernel) (by decide +kernel)
set_option maxRecDepth 100000 in
theorem wd_412 : Cond.code ⟨"SpinBench", "powerOf", "(II)I"⟩ prog_1_method_58_code 2 (some .int) ∈ gw_All := gw_in 412 rfl rfl
theorem wd_413 : Cond.methodLink "SpinBench" 294 ⟨"SpinBench", "cosinesOf", "(II)I"⟩ ∈ gw_All := gw_in 413 (by decide +kernel) (by decide +kernel)
theorem wd_414 : Cond.methodLink "SpinBench" 297 ⟨"SpinBench", "sinesOf", "(II)I"⟩ ∈ gw_All := gw_in 414 (by decide +kernel) (by decide +kernel)
theorem wd_415 : Cond.static ⟨"SpinBench", "sinesOf", "(II)I"⟩ ∈ gw_All := gw_in 415 (by decide +kernel) (by decide +kernel)
set_option maxRecDepth 100000 in
theorem wd_416 : Cond.code ⟨"SpinBench", "sinesOf", "(II)I"⟩ prog_1_method_57_code 2 (some .int) ∈ gw_All := gw_in 416 rfl rfl
theorem wd_417 : Cond.methodLink "SpinBenchLaw" 78 ⟨"SpinBench", "same", "(II)I"⟩ ∈ gw_All := gw_in 417 (by decide +kernel) (by decide +kernel)
theorem wd_418 : Cond.instanceMethod ⟨"SpinBench", "same", "(II)I"⟩ ∈ gw_All := gw_in 418 (by decide +kernel) (by decide +kernel)
theorem wd_419 : Cond.selects "SpinBench" ⟨"SpinBench", "same", "(II)I"⟩ ⟨"SpinBench", "same", "(II)I"⟩ ∈ gw_All := gw_in 419 (by decide +kernel) (by decide +kernel)
set_option maxRecDepth 100000 in
theorem wd_420 : Cond.code ⟨"SpinBench", "same", "(II)I"⟩ prog_1_method_15_code 5 (some .int) ∈ gw_All := gw_in 420 rfl rfl
theorem wd_423 : Cond.instanceMethod ⟨"SpinBench$Sum", "isLike", "(LSpinBench$Sum;)Z"⟩ ∈ gw_All := gw_in 423 (by decide +kernel) (by decide +kernel)
set_option maxRecDepth 100000 in
theorem wd_424 : Cond.code ⟨"SpinBench$Sum", "isLike", "(LSpinBench$Sum;)Z"⟩ prog_11_method_3_code 3 (some .boolean) ∈ gw_All := gw_in 424 rfl rfl
theorem wd_425 : Cond.methodLink "SpinBenchLaw" 82 ⟨"SpinBench", "product", "(III)I"⟩ ∈ gw_All := gw_in 425 (by decide +kernel) (by decide +kernel)
theorem wd_426 : Cond.instanceMethod ⟨"SpinBench", "product", "(III)I"⟩ ∈ gw_All := gw_in 426 (by decide +kernel) (by decide +kernel)
theorem wd_427 : Cond.selects "SpinBench" ⟨"SpinBench", "product", "(III)I"⟩ ⟨"SpinBench", "product", "(III)I"⟩ ∈ gw_All := gw_in 427 (by decide +kernel) (by decide +kernel)
set_option maxRecDepth 100000 in
theorem wd_428 : Cond.code ⟨"SpinBench", "product", "(III)I"⟩ prog_1_method_16_code 7 (some .int) ∈ gw_All := gw_in 428 rfl rfl
theorem wd_431 : Cond.instanceMethod ⟨"SpinBench$Mixer", "multiply", "(LSpinBench$Sum;LSpinBench$Sum;LSpinBench$Sum;)Z"⟩ ∈ gw_All := gw_in 431 (by decide +kernel) (by decide +kernel)
set_option maxRecDepth 100000 in
theorem wd_432 : Cond.code ⟨"SpinBench$Mixer", "multiply", "(LSpinBench$Sum;LSpinBench$Sum;LSpinBench$Sum;)Z"⟩ prog_6_method_8_code 6 (some .boolean) ∈ gw_All := gw_in 432 rfl rfl
theorem wd_434 : Cond.methodLink "SpinBench$Mixer" 73 ⟨"SpinBench$Mixer", "isBeyond", "(JJ)Z"⟩ ∈ gw_All := gw_in 434 (by decide +kernel) (by decide +kernel)
theorem wd_435 : Cond.static ⟨"SpinBench$Mixer", "isBeyond", "(JJ)Z"⟩ ∈ gw_All := gw_in 435 (by decide +kernel) (by decide +kernel)
set_option maxRecDepth 100000 in
theorem wd_436 : Cond.code ⟨"SpinBench$Mixer", "isBeyond", "(JJ)Z"⟩ prog_6_method_9_code 4 (some .boolean) ∈ gw_All := gw_in 436 rfl rfl
theorem wd_437 : Cond.methodLink "SpinBench$Mixer" 77 ⟨"SpinBench$Mixer", "putRows", "(IIJ)Z"⟩ ∈ gw_All := gw_in 437 (by decide +kernel) (by decide +kernel)
theorem wd_439 : Cond.instanceMethod ⟨"SpinBench$Mixer", "putRows", "(IIJ)Z"⟩ ∈ gw_All := gw_in 439 (by decide +kernel) (by decide +kernel)
set_option maxRecDepth 100000 in
theorem wd_440 : Cond.code ⟨"SpinBench$Mixer", "putRows", "(IIJ)Z"⟩ prog_6_method_10_code 10 (some .boolean) ∈ gw_All := gw_in 440 rfl rfl
theorem wd_442 : Cond.methodLink "SpinBench$Mixer" 96 ⟨"SpinBench$Mixer", "squaredCosines", "(I)I"⟩ ∈ gw_All := gw_in 442 (by decide +kernel) (by decide +kernel)
theorem wd_443 : Cond.static ⟨"SpinBench$Mixer", "squaredCosines", "(I)I"⟩ ∈ gw_All := gw_in 443 (by decide +kernel) (by decide +kernel)
set_option maxRecDepth 100000 in
theorem wd_444 : Cond.code ⟨"SpinBench$Mixer", "squaredCosines", "(I)I"⟩ prog_6_method_11_code 3 (some .int) ∈ gw_All := gw_in 444 rfl rfl
theorem wd_445 : Cond.methodLink "SpinBench$Mixer" 99 ⟨"java/lang/Integer", "bitCount", "(I)I"⟩ ∈ gw_All := gw_in 445 (by decide +kernel) (by decide +kernel)
theorem wd_446 : Cond.static ⟨"java/lang/Integer", "bitCount", "(I)I"⟩ ∈ gw_All := gw_in 446 (by decide +kernel) (by decide +kernel)
set_option maxRecDepth 100000 in
theorem wd_447 : Cond.code ⟨"java/lang/Integer", "bitCount", "(I)I"⟩ prog_15_method_49_code 1 (some .int) ∈ gw_All := gw_in 447 rfl rfl
theorem wd_448 : Cond.constant "java/lang/Integer" 265 1431655765 ∈ gw_All := gw_in 448 (by decide +kernel) (by decide +kernel)
theorem wd_449 : Cond.constant "java/lang/Integer" 266 858993459 ∈ gw_All := gw_in 449 (by decide +kernel) (by decide +kernel)
theorem wd_450 : Cond.constant "java/lang/Integer" 267 252645135 ∈ gw_All := gw_in 450 (by decide +kernel) (by decide +kernel)
theorem wd_451 : Cond.methodLink "SpinBenchLaw" 86 ⟨"SpinBench", "digest", "(I)J"⟩ ∈ gw_All := gw_in 451 (by decide +kernel) (by decide +kernel)
theorem wd_452 : Cond.instanceMethod ⟨"SpinBench", "digest", "(I)J"⟩ ∈ gw_All := gw_in 452 (by decide +kernel) (by decide +kernel)
theorem wd_453 : Cond.selects "SpinBench" ⟨"SpinBench", "digest", "(I)J"⟩ ⟨"SpinBench", "digest", "(I)J"⟩ ∈ gw_All := gw_in 453 (by decide +kernel) (by decide +kernel)
set_option maxRecDepth 100000 in
theorem wd_454 : Cond.code ⟨"SpinBench", "digest", "(I)J"⟩ prog_1_method_17_code 7 (some .long) ∈ gw_All := gw_in 454 rfl rfl
theorem wd_455 : Cond.constantLong "SpinBench" 174 17 ∈ gw_All := gw_in 455 (by decide +kernel) (by decide +kernel)
theorem wd_456 : Cond.constantLong "SpinBench" 176 31 ∈ gw_All := gw_in 456 (by decide +kernel) (by decide +kernel)
theorem wd_457 : Cond.methodLink "SpinBenchLaw" 91 ⟨"SpinBench", "pulse", "(III)I"⟩ ∈ gw_All := gw_in 457 (by decide +kernel) (by decide +kernel)
theorem wd_458 : Cond.instanceMethod ⟨"SpinBench", "pulse", "(III)I"⟩ ∈ gw_All := gw_in 458 (by decide +kernel) (by decide +kernel)
theorem wd_459 : Cond.selects "SpinBench" ⟨"SpinBench", "pulse", "(III)I"⟩ ⟨"SpinBench", "pulse", "(III)I"⟩ ∈ gw_All := gw_in 459 (by decide +kernel) (by decide +kernel)
set_option maxRecDepth 100000 in
theorem wd_460 : Cond.code ⟨"SpinBench", "pulse", "(III)I"⟩ prog_1_method_18_code 4 (some .int) ∈ gw_All := gw_in 460 rfl rfl
theorem wd_461 : Cond.methodLink "SpinBench" 178 ⟨"SpinBench", "isPulse", "(III)Z"⟩ ∈ gw_All := gw_in 461 (by decide +kernel) (by decide +kernel)
theorem wd_463 : Cond.instanceMethod ⟨"SpinBench", "isPulse", "(III)Z"⟩ ∈ gw_All := gw_in 463 (by decide +kernel) (by decide +kernel)
set_option maxRecDepth 100000 in
theorem wd_464 : Cond.code ⟨"SpinBench", "isPulse", "(III)Z"⟩ prog_1_method_37_code 4 (some .boolean) ∈ gw_All := gw_in 464 rfl rfl
theorem wd_465 : Cond.classLink "SpinBench" 181 "SpinBench$Pulse" ∈ gw_All := gw_in 465 (by decide +kernel) (by decide +kernel)
theorem wd_466 : Cond.instantiable "SpinBench$Pulse" 5 ∈ gw_All := gw_in 466 (by decide +kernel) (by decide +kernel)
theorem wd_467 : Cond.methodLink "SpinBench" 190 ⟨"SpinBench$Pulse", "<init>", "(ILSpinBench$Round;III)V"⟩ ∈ gw_All := gw_in 467 (by decide +kernel) (by decide +kernel)
theorem wd_468 : Cond.instanceMethod ⟨"SpinBench$Pulse", "<init>", "(ILSpinBench$Round;III)V"⟩ ∈ gw_All := gw_in 468 (by decide +kernel) (by decide +kernel)
set_option maxRecDepth 100000 in
theorem wd_469 : Cond.code ⟨"SpinBench$Pulse", "<init>", "(ILSpinBench$Round;III)V"⟩ prog_8_method_1_code 6 none ∈ gw_All := gw_in 469 rfl rfl
theorem wd_470 : Cond.methodLink "SpinBench$Pulse" 3 ⟨"SpinBench$Lead", "<init>", "(ILSpinBench$Round;)V"⟩ ∈ gw_All := gw_in 470 (by decide +kernel) (by decide +kernel)
theorem wd_471 : Cond.instanceMethod ⟨"SpinBench$Lead", "<init>", "(ILSpinBench$Round;)V"⟩ ∈ gw_All := gw_in 471 (by decide +kernel) (by decide +kernel)
set_option maxRecDepth 100000 in
theorem wd_472 : Cond.code ⟨"SpinBench$Lead", "<init>", "(ILSpinBench$Round;)V"⟩ prog_5_method_1_code 3 none ∈ gw_All := gw_in 472 rfl rfl
theorem wd_473 : Cond.methodLink "SpinBench$Lead" 3 ⟨"SpinBench$Op", "<init>", "(ILSpinBench$Round;)V"⟩ ∈ gw_All := gw_in 473 (by decide +kernel) (by decide +kernel)
theorem wd_474 : Cond.instanceMethod ⟨"SpinBench$Op", "<init>", "(ILSpinBench$Round;)V"⟩ ∈ gw_All := gw_in 474 (by decide +kernel) (by decide +kernel)
set_option maxRecDepth 100000 in
theorem wd_475 : Cond.code ⟨"SpinBench$Op", "<init>", "(ILSpinBench$Round;)V"⟩ prog_7_method_1_code 3 none ∈ gw_All := gw_in 475 rfl rfl
theorem wd_476 : Cond.methodLink "SpinBench$Op" 3 ⟨"java/lang/Object", "<init>", "()V"⟩ ∈ gw_All := gw_in 476 (by decide +kernel) (by decide +kernel)
theorem wd_477 : Cond.fieldLink "SpinBench$Pulse" 9 "SpinBench$Pulse" "spinSet" "I" ∈ gw_All := gw_in 477 (by decide +kernel) (by decide +kernel)
theorem wd_478 : Cond.fieldLink "SpinBench" 239 "SpinBench$Pulse" "spinSet" "I" ∈ gw_All := gw_in 478 (by decide +kernel) (by decide +kernel)
theorem wd_479 : Cond.fieldLink "SpinBench$Pulse" 15 "SpinBench$Pulse" "phase" "I" ∈ gw_All := gw_in 479 (by decide +kernel) (by decide +kernel)
theorem wd_480 : Cond.fieldLink "SpinBench$Cycled" 49 "SpinBench$Cycled" "phase" "I" ∈ gw_All := gw_in 480 (by decide +kernel) (by decide +kernel)
theorem wd_481 : Cond.sameField "SpinBench$Cycled" "SpinBench$Pulse" "phase" "I" ∈ gw_All := gw_in 481 (by decide +kernel) (by decide +kernel)
theorem wd_482 : Cond.fieldLink "SpinBench$Pulse" 18 "SpinBench$Pulse" "quarters" "I" ∈ gw_All := gw_in 482 (by decide +kernel) (by decide +kernel)
theorem wd_483 : Cond.fieldLink "SpinBench$Op" 9 "SpinBench$Op" "place" "I" ∈ gw_All := gw_in 483 (by decide +kernel) (by decide +kernel)
theorem wd_484 : Cond.fieldLink "SpinBench$End" 24 "SpinBench$Round" "place" "I" ∈ gw_All := gw_in 484 (by decide +kernel) (by decide +kernel)
theorem wd_485 : Cond.sameField "SpinBench$Round" "SpinBench$Op" "place" "I" ∈ gw_All := gw_in 485 (by decide +kernel) (by decide +kernel)
theorem wd_486 : Cond.fieldLink "SpinBench" 259 "SpinBench$Op" "place" "I" ∈ gw_All := gw_in 486 (by decide +kernel) (by decide +kernel)
theorem wd_487 : Cond.fieldLink "SpinBench$Op" 15 "SpinBench$Op" "around" "LSpinBench$Round;" ∈ gw_All := gw_in 487 (by decide +kernel) (by decide +kernel)
theorem wd_488 : Cond.fieldLink "SpinBench$End" 9 "SpinBench$End" "around" "LSpinBench$Round;" ∈ gw_All := gw_in 488 (by decide +kernel) (by decide +kernel)
theorem wd_489 : Cond.sameField "SpinBench$End" "SpinBench$Op" "around" "LSpinBench$Round;" ∈ gw_All := gw_in 489 (by decide +kernel) (by decide +kernel)
theorem wd_490 : Cond.fieldLink "SpinBench$Cycled" 36 "SpinBench$Cycled" "around" "LSpinBench$Round;" ∈ gw_All := gw_in 490 (by decide +kernel) (by decide +kernel)
theorem wd_491 : Cond.sameField "SpinBench$Cycled" "SpinBench$Op" "around" "LSpinBench$Round;" ∈ gw_All := gw_in 491 (by decide +kernel) (by decide +kernel)
theorem wd_492 : Cond.fieldLink "SpinBench" 220 "SpinBench$Round" "around" "LSpinBench$Round;" ∈ gw_All := gw_in 492 (by decide +kernel) (by decide +kernel)
theorem wd_493 : Cond.sameField "SpinBench$Round" "SpinBench$Op" "around" "LSpinBench$Round;" ∈ gw_All := gw_in 493 (by decide +kernel) (by decide +kernel)
theorem wd_494 : Cond.fieldLink "SpinBench" 232 "SpinBench$Op" "around" "LSpinBench$Round;" ∈ gw_All := gw_in 494 (by decide +kernel) (by decide +kernel)
theorem wd_505 : Cond.superclass "SpinBench$Pulse" "SpinBench$Lead" ∈ gw_All := gw_in 505 (by decide +kernel) (by decide +kernel)
theorem wd_506 : Cond.methodLink "SpinBench" 193 ⟨"SpinBench", "append", "(LSpinBench$Op;)I"⟩ ∈ gw_All := gw_in 506 (by decide +kernel) (by decide +kernel)
theorem wd_508 : Cond.instanceMethod ⟨"SpinBench", "append", "(LSpinBench$Op;)I"⟩ ∈ gw_All := gw_in 508 (by decide +kernel) (by decide +kernel)
set_option maxRecDepth 100000 in
theorem wd_509 : Cond.code ⟨"SpinBench", "append", "(LSpinBench$Op;)I"⟩ prog_1_method_43_code 3 (some .int) ∈ gw_All := gw_in 509 rfl rfl
theorem wd_510 : Cond.methodLink "SpinBenchLaw" 95 ⟨"SpinBench", "cycled", "(IIII)I"⟩ ∈ gw_All := gw_in 510 (by decide +kernel) (by decide +kernel)
theorem wd_511 : Cond.instanceMethod ⟨"SpinBench", "cycled", "(IIII)I"⟩ ∈ gw_All := gw_in 511 (by decide +kernel) (by decide +kernel)
theorem wd_512 : Cond.selects "SpinBench" ⟨"SpinBench", "cycled", "(IIII)I"⟩ ⟨"SpinBench", "cycled", "(IIII)I"⟩ ∈ gw_All := gw_in 512 (by decide +kernel) (by decide +kernel)
set_option maxRecDepth 100000 in
theorem wd_513 : Cond.code ⟨"SpinBench", "cycled", "(IIII)I"⟩ prog_1_method_19_code 5 (some .int) ∈ gw_All := gw_in 513 rfl rfl
theorem wd_514 : Cond.classLink "SpinBench" 197 "SpinBench$Cycled" ∈ gw_All := gw_in 514 (by decide +kernel) (by decide +kernel)
theorem wd_515 : Cond.instantiable "SpinBench$Cycled" 6 ∈ gw_All := gw_in 515 (by decide +kernel) (by decide +kernel)
theorem wd_516 : Cond.methodLink "SpinBench" 199 ⟨"SpinBench$Cycled", "<init>", "(ILSpinBench$Round;IIII)V"⟩ ∈ gw_All := gw_in 516 (by decide +kernel) (by decide +kernel)
theorem wd_517 : Cond.instanceMethod ⟨"SpinBench$Cycled", "<init>", "(ILSpinBench$Round;IIII)V"⟩ ∈ gw_All := gw_in 517 (by decide +kernel) (by decide +kernel)
set_option maxRecDepth 100000 in
theorem wd_518 : Cond.code ⟨"SpinBench$Cycled", "<init>", "(ILSpinBench$Round;IIII)V"⟩ prog_2_method_1_code 7 none ∈ gw_All := gw_in 518 rfl rfl
theorem wd_519 : Cond.methodLink "SpinBench$Cycled" 3 ⟨"SpinBench$Pulse", "<init>", "(ILSpinBench$Round;III)V"⟩ ∈ gw_All := gw_in 519 (by decide +kernel) (by decide +kernel)
theorem wd_520 : Cond.fieldLink "SpinBench$Cycled" 9 "SpinBench$Cycled" "cycle" "I" ∈ gw_All := gw_in 520 (by decide +kernel) (by decide +kernel)
theorem wd_528 : Cond.superclass "SpinBench$Cycled" "SpinBench$Pulse" ∈ gw_All := gw_in 528 (by decide +kernel) (by decide +kernel)
theorem wd_529 : Cond.methodLink "SpinBenchLaw" 100 ⟨"SpinBench", "delay", "(III)I"⟩ ∈ gw_All := gw_in 529 (by decide +kernel) (by decide +kernel)
theorem wd_530 : Cond.instanceMethod ⟨"SpinBench", "delay", "(III)I"⟩ ∈ gw_All := gw_in 530 (by decide +kernel) (by decide +kernel)
theorem wd_531 : Cond.selects "SpinBench" ⟨"SpinBench", "delay", "(III)I"⟩ ⟨"SpinBench", "delay", "(III)I"⟩ ∈ gw_All := gw_in 531 (by decide +kernel) (by decide +kernel)
set_option maxRecDepth 100000 in
theorem wd_532 : Cond.code ⟨"SpinBench", "delay", "(III)I"⟩ prog_1_method_20_code 4 (some .int) ∈ gw_All := gw_in 532 rfl rfl
theorem wd_533 : Cond.classLink "SpinBench" 202 "SpinBench$Delay" ∈ gw_All := gw_in 533 (by decide +kernel) (by decide +kernel)
theorem wd_534 : Cond.instantiable "SpinBench$Delay" 5 ∈ gw_All := gw_in 534 (by decide +kernel) (by decide +kernel)
theorem wd_535 : Cond.methodLink "SpinBench" 204 ⟨"SpinBench$Delay", "<init>", "(ILSpinBench$Round;III)V"⟩ ∈ gw_All := gw_in 535 (by decide +kernel) (by decide +kernel)
theorem wd_536 : Cond.instanceMethod ⟨"SpinBench$Delay", "<init>", "(ILSpinBench$Round;III)V"⟩ ∈ gw_All := gw_in 536 (by decide +kernel) (by decide +kernel)
set_option maxRecDepth 100000 in
theorem wd_537 : Cond.code ⟨"SpinBench$Delay", "<init>", "(ILSpinBench$Round;III)V"⟩ prog_3_method_1_code 6 none ∈ gw_All := gw_in 537 rfl rfl
theorem wd_538 : Cond.methodLink "SpinBench$Delay" 3 ⟨"SpinBench$Lead", "<init>", "(ILSpinBench$Round;)V"⟩ ∈ gw_All := gw_in 538 (by decide +kernel) (by decide +kernel)
theorem wd_539 : Cond.fieldLink "SpinBench$Delay" 9 "SpinBench$Delay" "about" "I" ∈ gw_All := gw_in 539 (by decide +kernel) (by decide +kernel)
theorem wd_540 : Cond.fieldLink "SpinBench$Delay" 15 "SpinBench$Delay" "angle" "I" ∈ gw_All := gw_in 540 (by decide +kernel) (by decide +kernel)
theorem wd_541 : Cond.fieldLink "SpinBench$Delay" 18 "SpinBench$Delay" "way" "I" ∈ gw_All := gw_in 541 (by decide +kernel) (by decide +kernel)
theorem wd_550 : Cond.superclass "SpinBench$Delay" "SpinBench$Lead" ∈ gw_All := gw_in 550 (by decide +kernel) (by decide +kernel)
theorem wd_551 : Cond.methodLink "SpinBenchLaw" 104 ⟨"SpinBench", "round", "(I)I"⟩ ∈ gw_All := gw_in 551 (by decide +kernel) (by decide +kernel)
theorem wd_552 : Cond.instanceMethod ⟨"SpinBench", "round", "(I)I"⟩ ∈ gw_All := gw_in 552 (by decide +kernel) (by decide +kernel)
theorem wd_553 : Cond.selects "SpinBench" ⟨"SpinBench", "round", "(I)I"⟩ ⟨"SpinBench", "round", "(I)I"⟩ ∈ gw_All := gw_in 553 (by decide +kernel) (by decide +kernel)
set_option maxRecDepth 100000 in
theorem wd_554 : Cond.code ⟨"SpinBench", "round", "(I)I"⟩ prog_1_method_21_code 4 (some .int) ∈ gw_All := gw_in 554 rfl rfl
theorem wd_555 : Cond.methodLink "SpinBench" 205 ⟨"SpinBench", "openRounds", "()I"⟩ ∈ gw_All := gw_in 555 (by decide +kernel) (by decide +kernel)
theorem wd_557 : Cond.instanceMethod ⟨"SpinBench", "openRounds", "()I"⟩ ∈ gw_All := gw_in 557 (by decide +kernel) (by decide +kernel)
set_option maxRecDepth 100000 in
theorem wd_558 : Cond.code ⟨"SpinBench", "openRounds", "()I"⟩ prog_1_method_45_code 3 (some .int) ∈ gw_All := gw_in 558 rfl rfl
theorem wd_559 : Cond.constant "SpinBench" 209 (-1000002) ∈ gw_All := gw_in 559 (by decide +kernel) (by decide +kernel)
theorem wd_560 : Cond.classLink "SpinBench" 210 "SpinBench$Round" ∈ gw_All := gw_in 560 (by decide +kernel) (by decide +kernel)
theorem wd_561 : Cond.instantiable "SpinBench$Round" 4 ∈ gw_All := gw_in 561 (by decide +kernel) (by decide +kernel)
theorem wd_562 : Cond.methodLink "SpinBench" 212 ⟨"SpinBench$Round", "<init>", "(ILSpinBench$Round;I)V"⟩ ∈ gw_All := gw_in 562 (by decide +kernel) (by decide +kernel)
theorem wd_563 : Cond.instanceMethod ⟨"SpinBench$Round", "<init>", "(ILSpinBench$Round;I)V"⟩ ∈ gw_All := gw_in 563 (by decide +kernel) (by decide +kernel)
set_option maxRecDepth 100000 in
theorem wd_564 : Cond.code ⟨"SpinBench$Round", "<init>", "(ILSpinBench$Round;I)V"⟩ prog_9_method_1_code 4 none ∈ gw_All := gw_in 564 rfl rfl
theorem wd_565 : Cond.methodLink "SpinBench$Round" 3 ⟨"SpinBench$Op", "<init>", "(ILSpinBench$Round;)V"⟩ ∈ gw_All := gw_in 565 (by decide +kernel) (by decide +kernel)
theorem wd_566 : Cond.fieldLink "SpinBench$Round" 9 "SpinBench$Round" "often" "I" ∈ gw_All := gw_in 566 (by decide +kernel) (by decide +kernel)
theorem wd_569 : Cond.fieldLink "SpinBench$Round" 19 "SpinBench$Round" "timesDone" "I" ∈ gw_All := gw_in 569 (by decide +kernel) (by decide +kernel)
theorem wd_577 : Cond.superclass "SpinBench$Round" "SpinBench$Op" ∈ gw_All := gw_in 577 (by decide +kernel) (by decide +kernel)
theorem wd_578 : Cond.methodLink "SpinBenchLaw" 108 ⟨"SpinBench", "end", "()I"⟩ ∈ gw_All := gw_in 578 (by decide +kernel) (by decide +kernel)
theorem wd_579 : Cond.instanceMethod ⟨"SpinBench", "end", "()I"⟩ ∈ gw_All := gw_in 579 (by decide +kernel) (by decide +kernel)
theorem wd_580 : Cond.selects "SpinBench" ⟨"SpinBench", "end", "()I"⟩ ⟨"SpinBench", "end", "()I"⟩ ∈ gw_All := gw_in 580 (by decide +kernel) (by decide +kernel)
set_option maxRecDepth 100000 in
theorem wd_581 : Cond.code ⟨"SpinBench", "end", "()I"⟩ prog_1_method_22_code 3 (some .int) ∈ gw_All := gw_in 581 rfl rfl
theorem wd_582 : Cond.classLink "SpinBench" 215 "SpinBench$End" ∈ gw_All := gw_in 582 (by decide +kernel) (by decide +kernel)
theorem wd_583 : Cond.instantiable "SpinBench$End" 2 ∈ gw_All := gw_in 583 (by decide +kernel) (by decide +kernel)
theorem wd_584 : Cond.methodLink "SpinBench" 217 ⟨"SpinBench$End", "<init>", "(ILSpinBench$Round;)V"⟩ ∈ gw_All := gw_in 584 (by decide +kernel) (by decide +kernel)
theorem wd_585 : Cond.instanceMethod ⟨"SpinBench$End", "<init>", "(ILSpinBench$Round;)V"⟩ ∈ gw_All := gw_in 585 (by decide +kernel) (by decide +kernel)
set_option maxRecDepth 100000 in
theorem wd_586 : Cond.code ⟨"SpinBench$End", "<init>", "(ILSpinBench$Round;)V"⟩ prog_4_method_1_code 3 none ∈ gw_All := gw_in 586 rfl rfl
theorem wd_587 : Cond.methodLink "SpinBench$End" 3 ⟨"SpinBench$Op", "<init>", "(ILSpinBench$Round;)V"⟩ ∈ gw_All := gw_in 587 (by decide +kernel) (by decide +kernel)
theorem wd_590 : Cond.superclass "SpinBench$End" "SpinBench$Op" ∈ gw_All := gw_in 590 (by decide +kernel) (by decide +kernel)
theorem wd_591 : Cond.methodLink "SpinBenchLaw" 113 ⟨"SpinBench", "store", "(II)I"⟩ ∈ gw_All := gw_in 591 (by decide +kernel) (by decide +kernel)
theorem wd_592 : Cond.instanceMethod ⟨"SpinBench", "store", "(II)I"⟩ ∈ gw_All := gw_in 592 (by decide +kernel) (by decide +kernel)
theorem wd_593 : Cond.selects "SpinBench" ⟨"SpinBench", "store", "(II)I"⟩ ⟨"SpinBench", "store", "(II)I"⟩ ∈ gw_All := gw_in 593 (by decide +kernel) (by decide +kernel)
set_option maxRecDepth 100000 in
theorem wd_594 : Cond.code ⟨"SpinBench", "store", "(II)I"⟩ prog_1_method_23_code 3 (some .int) ∈ gw_All := gw_in 594 rfl rfl
theorem wd_595 : Cond.classLink "SpinBench" 223 "SpinBench$Store" ∈ gw_All := gw_in 595 (by decide +kernel) (by decide +kernel)
theorem wd_596 : Cond.instantiable "SpinBench$Store" 4 ∈ gw_All := gw_in 596 (by decide +kernel) (by decide +kernel)
theorem wd_597 : Cond.methodLink "SpinBench" 225 ⟨"SpinBench$Store", "<init>", "(ILSpinBench$Round;II)V"⟩ ∈ gw_All := gw_in 597 (by decide +kernel) (by decide +kernel)
theorem wd_598 : Cond.instanceMethod ⟨"SpinBench$Store", "<init>", "(ILSpinBench$Round;II)V"⟩ ∈ gw_All := gw_in 598 (by decide +kernel) (by decide +kernel)
set_option maxRecDepth 100000 in
theorem wd_599 : Cond.code ⟨"SpinBench$Store", "<init>", "(ILSpinBench$Round;II)V"⟩ prog_10_method_1_code 5 none ∈ gw_All := gw_in 599 rfl rfl
theorem wd_600 : Cond.methodLink "SpinBench$Store" 3 ⟨"SpinBench$Op", "<init>", "(ILSpinBench$Round;)V"⟩ ∈ gw_All := gw_in 600 (by decide +kernel) (by decide +kernel)
theorem wd_601 : Cond.fieldLink "SpinBench$Store" 9 "SpinBench$Store" "shelf" "I" ∈ gw_All := gw_in 601 (by decide +kernel) (by decide +kernel)
theorem wd_602 : Cond.fieldLink "SpinBench$Store" 15 "SpinBench$Store" "times" "I" ∈ gw_All := gw_in 602 (by decide +kernel) (by decide +kernel)
theorem wd_609 : Cond.superclass "SpinBench$Store" "SpinBench$Op" ∈ gw_All := gw_in 609 (by decide +kernel) (by decide +kernel)
theorem wd_610 : Cond.methodLink "SpinBenchLaw" 117 ⟨"SpinBench", "back", "()I"⟩ ∈ gw_All := gw_in 610 (by decide +kernel) (by decide +kernel)
theorem wd_611 : Cond.instanceMethod ⟨"SpinBench", "back", "()I"⟩ ∈ gw_All := gw_in 611 (by decide +kernel) (by decide +kernel)
theorem wd_612 : Cond.selects "SpinBench" ⟨"SpinBench", "back", "()I"⟩ ⟨"SpinBench", "back", "()I"⟩ ∈ gw_All := gw_in 612 (by decide +kernel) (by decide +kernel)
set_option maxRecDepth 100000 in
theorem wd_613 : Cond.code ⟨"SpinBench", "back", "()I"⟩ prog_1_method_24_code 2 (some .int) ∈ gw_All := gw_in 613 rfl rfl
theorem wd_614 : Cond.methodLink "SpinBench" 228 ⟨"SpinBench", "opAt", "(I)LSpinBench$Op;"⟩ ∈ gw_All := gw_in 614 (by decide +kernel) (by decide +kernel)
theorem wd_616 : Cond.instanceMethod ⟨"SpinBench", "opAt", "(I)LSpinBench$Op;"⟩ ∈ gw_All := gw_in 616 (by decide +kernel) (by decide +kernel)
set_option maxRecDepth 100000 in
theorem wd_617 : Cond.code ⟨"SpinBench", "opAt", "(I)LSpinBench$Op;"⟩ prog_1_method_40_code 2 (some (.object "SpinBench$Op")) ∈ gw_All := gw_in 617 rfl rfl
theorem wd_618 : Cond.methodLink "SpinBenchLaw" 121 ⟨"SpinBench", "kind", "(I)I"⟩ ∈ gw_All := gw_in 618 (by decide +kernel) (by decide +kernel)
theorem wd_619 : Cond.instanceMethod ⟨"SpinBench", "kind", "(I)I"⟩ ∈ gw_All := gw_in 619 (by decide +kernel) (by decide +kernel)
theorem wd_620 : Cond.selects "SpinBench" ⟨"SpinBench", "kind", "(I)I"⟩ ⟨"SpinBench", "kind", "(I)I"⟩ ∈ gw_All := gw_in 620 (by decide +kernel) (by decide +kernel)
set_option maxRecDepth 100000 in
theorem wd_621 : Cond.code ⟨"SpinBench", "kind", "(I)I"⟩ prog_1_method_25_code 3 (some .int) ∈ gw_All := gw_in 621 rfl rfl
theorem wd_622 : Cond.methodLink "SpinBench" 233 ⟨"SpinBench$Op", "ownKind", "()I"⟩ ∈ gw_All := gw_in 622 (by decide +kernel) (by decide +kernel)
theorem wd_624 : Cond.sameMethod "SpinBench$Op" "SpinBench$Op" "ownKind" "()I" ∈ gw_All := gw_in 624 (by decide +kernel) (by decide +kernel)
theorem wd_625 : Cond.selects "SpinBench$Cycled" ⟨"SpinBench$Op", "ownKind", "()I"⟩ ⟨"SpinBench$Cycled", "ownKind", "()I"⟩ ∈ gw_All := gw_in 625 (by decide +kernel) (by decide +kernel)
theorem wd_626 : Cond.instanceMethod ⟨"SpinBench$Cycled", "ownKind", "()I"⟩ ∈ gw_All := gw_in 626 (by decide +kernel) (by decide +kernel)
set_option maxRecDepth 100000 in
theorem wd_627 : Cond.code ⟨"SpinBench$Cycled", "ownKind", "()I"⟩ prog_2_method_2_code 1 (some .int) ∈ gw_All := gw_in 627 rfl rfl
theorem wd_628 : Cond.selects "SpinBench$Delay" ⟨"SpinBench$Op", "ownKind", "()I"⟩ ⟨"SpinBench$Delay", "ownKind", "()I"⟩ ∈ gw_All := gw_in 628 (by decide +kernel) (by decide +kernel)
theorem wd_629 : Cond.instanceMethod ⟨"SpinBench$Delay", "ownKind", "()I"⟩ ∈ gw_All := gw_in 629 (by decide +kernel) (by decide +kernel)
set_option maxRecDepth 100000 in
theorem wd_630 : Cond.code ⟨"SpinBench$Delay", "ownKind", "()I"⟩ prog_3_method_2_code 1 (some .int) ∈ gw_All := gw_in 630 rfl rfl
theorem wd_631 : Cond.selects "SpinBench$End" ⟨"SpinBench$Op", "ownKind", "()I"⟩ ⟨"SpinBench$End", "ownKind", "()I"⟩ ∈ gw_All := gw_in 631 (by decide +kernel) (by decide +kernel)
theorem wd_632 : Cond.instanceMethod ⟨"SpinBench$End", "ownKind", "()I"⟩ ∈ gw_All := gw_in 632 (by decide +kernel) (by decide +kernel)
set_option maxRecDepth 100000 in
theorem wd_633 : Cond.code ⟨"SpinBench$End", "ownKind", "()I"⟩ prog_4_method_2_code 1 (some .int) ∈ gw_All := gw_in 633 rfl rfl
theorem wd_634 : Cond.selects "SpinBench$Pulse" ⟨"SpinBench$Op", "ownKind", "()I"⟩ ⟨"SpinBench$Pulse", "ownKind", "()I"⟩ ∈ gw_All := gw_in 634 (by decide +kernel) (by decide +kernel)
theorem wd_635 : Cond.instanceMethod ⟨"SpinBench$Pulse", "ownKind", "()I"⟩ ∈ gw_All := gw_in 635 (by decide +kernel) (by decide +kernel)
set_option maxRecDepth 100000 in
theorem wd_636 : Cond.code ⟨"SpinBench$Pulse", "ownKind", "()I"⟩ prog_8_method_2_code 1 (some .int) ∈ gw_All := gw_in 636 rfl rfl
theorem wd_637 : Cond.selects "SpinBench$Round" ⟨"SpinBench$Op", "ownKind", "()I"⟩ ⟨"SpinBench$Round", "ownKind", "()I"⟩ ∈ gw_All := gw_in 637 (by decide +kernel) (by decide +kernel)
theorem wd_638 : Cond.instanceMethod ⟨"SpinBench$Round", "ownKind", "()I"⟩ ∈ gw_All := gw_in 638 (by decide +kernel) (by decide +kernel)
set_option maxRecDepth 100000 in
theorem wd_639 : Cond.code ⟨"SpinBench$Round", "ownKind", "()I"⟩ prog_9_method_2_code 1 (some .int) ∈ gw_All := gw_in 639 rfl rfl
theorem wd_640 : Cond.selects "SpinBench$Store" ⟨"SpinBench$Op", "ownKind", "()I"⟩ ⟨"SpinBench$Store", "ownKind", "()I"⟩ ∈ gw_All := gw_in 640 (by decide +kernel) (by decide +kernel)
theorem wd_641 : Cond.instanceMethod ⟨"SpinBench$Store", "ownKind", "()I"⟩ ∈ gw_All := gw_in 641 (by decide +kernel) (by decide +kernel)
set_option maxRecDepth 100000 in
theorem wd_642 : Cond.code ⟨"SpinBench$Store", "ownKind", "()I"⟩ prog_10_method_2_code 1 (some .int) ∈ gw_All := gw_in 642 rfl rfl
theorem wd_643 : Cond.methodLink "SpinBenchLaw" 125 ⟨"SpinBench", "is", "(II)I"⟩ ∈ gw_All := gw_in 643 (by decide +kernel) (by decide +kernel)
theorem wd_644 : Cond.instanceMethod ⟨"SpinBench", "is", "(II)I"⟩ ∈ gw_All := gw_in 644 (by decide +kernel) (by decide +kernel)
theorem wd_645 : Cond.selects "SpinBench" ⟨"SpinBench", "is", "(II)I"⟩ ⟨"SpinBench", "is", "(II)I"⟩ ∈ gw_All := gw_in 645 (by decide +kernel) (by decide +kernel)
set_option maxRecDepth 100000 in
theorem wd_646 : Cond.code ⟨"SpinBench", "is", "(II)I"⟩ prog_1_method_26_code 4 (some .int) ∈ gw_All := gw_in 646 rfl rfl
theorem wd_647 : Cond.methodLink "SpinBench" 236 ⟨"SpinBench$Op", "isOfKind", "(I)Z"⟩ ∈ gw_All := gw_in 647 (by decide +kernel) (by decide +kernel)
theorem wd_648 : Cond.instanceMethod ⟨"SpinBench$Op", "isOfKind", "(I)Z"⟩ ∈ gw_All := gw_in 648 (by decide +kernel) (by decide +kernel)
theorem wd_649 : Cond.sameMethod "SpinBench$Op" "SpinBench$Op" "isOfKind" "(I)Z" ∈ gw_All := gw_in 649 (by decide +kernel) (by decide +kernel)
theorem wd_650 : Cond.selects "SpinBench$Cycled" ⟨"SpinBench$Op", "isOfKind", "(I)Z"⟩ ⟨"SpinBench$Pulse", "isOfKind", "(I)Z"⟩ ∈ gw_All := gw_in 650 (by decide +kernel) (by decide +kernel)
theorem wd_651 : Cond.instanceMethod ⟨"SpinBench$Pulse", "isOfKind", "(I)Z"⟩ ∈ gw_All := gw_in 651 (by decide +kernel) (by decide +kernel)
set_option maxRecDepth 100000 in
theorem wd_652 : Cond.code ⟨"SpinBench$Pulse", "isOfKind", "(I)Z"⟩ prog_8_method_3_code 2 (some .boolean) ∈ gw_All := gw_in 652 rfl rfl
theorem wd_653 : Cond.methodLink "SpinBench$Pulse" 21 ⟨"SpinBench$Lead", "isOfKind", "(I)Z"⟩ ∈ gw_All := gw_in 653 (by decide +kernel) (by decide +kernel)
theorem wd_654 : Cond.instanceMethod ⟨"SpinBench$Lead", "isOfKind", "(I)Z"⟩ ∈ gw_All := gw_in 654 (by decide +kernel) (by decide +kernel)
set_option maxRecDepth 100000 in
theorem wd_655 : Cond.code ⟨"SpinBench$Lead", "isOfKind", "(I)Z"⟩ prog_5_method_2_code 2 (some .boolean) ∈ gw_All := gw_in 655 rfl rfl
theorem wd_656 : Cond.methodLink "SpinBench$Lead" 9 ⟨"SpinBench$Op", "isOfKind", "(I)Z"⟩ ∈ gw_All := gw_in 656 (by decide +kernel) (by decide +kernel)
theorem wd_657 : Cond.selects "SpinBench$Delay" ⟨"SpinBench$Op", "isOfKind", "(I)Z"⟩ ⟨"SpinBench$Lead", "isOfKind", "(I)Z"⟩ ∈ gw_All := gw_in 657 (by decide +kernel) (by decide +kernel)
theorem wd_658 : Cond.selects "SpinBench$End" ⟨"SpinBench$Op", "isOfKind", "(I)Z"⟩ ⟨"SpinBench$Op", "isOfKind", "(I)Z"⟩ ∈ gw_All := gw_in 658 (by decide +kernel) (by decide +kernel)
theorem wd_659 : Cond.selects "SpinBench$Pulse" ⟨"SpinBench$Op", "isOfKind", "(I)Z"⟩ ⟨"SpinBench$Pulse", "isOfKind", "(I)Z"⟩ ∈ gw_All := gw_in 659 (by decide +kernel) (by decide +kernel)
theorem wd_660 : Cond.selects "SpinBench$Round" ⟨"SpinBench$Op", "isOfKind", "(I)Z"⟩ ⟨"SpinBench$Op", "isOfKind", "(I)Z"⟩ ∈ gw_All := gw_in 660 (by decide +kernel) (by decide +kernel)
theorem wd_661 : Cond.selects "SpinBench$Store" ⟨"SpinBench$Op", "isOfKind", "(I)Z"⟩ ⟨"SpinBench$Op", "isOfKind", "(I)Z"⟩ ∈ gw_All := gw_in 661 (by decide +kernel) (by decide +kernel)
set_option maxRecDepth 100000 in
theorem wd_662 : Cond.code ⟨"SpinBench$Op", "isOfKind", "(I)Z"⟩ prog_7_method_4_code 2 (some .boolean) ∈ gw_All := gw_in 662 rfl rfl
theorem wd_663 : Cond.methodLink "SpinBench$Op" 19 ⟨"SpinBench$Op", "ownKind", "()I"⟩ ∈ gw_All := gw_in 663 (by decide +kernel) (by decide +kernel)
theorem wd_664 : Cond.methodLink "SpinBenchLaw" 129 ⟨"SpinBench", "spins", "(I)I"⟩ ∈ gw_All := gw_in 664 (by decide +kernel) (by decide +kernel)
theorem wd_665 : Cond.instanceMethod ⟨"SpinBench", "spins", "(I)I"⟩ ∈ gw_All := gw_in 665 (by decide +kernel) (by decide +kernel)
theorem wd_666 : Cond.selects "SpinBench" ⟨"SpinBench", "spins", "(I)I"⟩ ⟨"SpinBench", "spins", "(I)I"⟩ ∈ gw_All := gw_in 666 (by decide +kernel) (by decide +kernel)
set_option maxRecDepth 100000 in
theorem wd_667 : Cond.code ⟨"SpinBench", "spins", "(I)I"⟩ prog_1_method_27_code 4 (some .int) ∈ gw_All := gw_in 667 rfl rfl
theorem wd_668 : Cond.methodLink "SpinBenchLaw" 133 ⟨"SpinBench", "ask", "(II)I"⟩ ∈ gw_All := gw_in 668 (by decide +kernel) (by decide +kernel)
theorem wd_669 : Cond.instanceMethod ⟨"SpinBench", "ask", "(II)I"⟩ ∈ gw_All := gw_in 669 (by decide +kernel) (by decide +kernel)
theorem wd_670 : Cond.selects "SpinBench" ⟨"SpinBench", "ask", "(II)I"⟩ ⟨"SpinBench", "ask", "(II)I"⟩ ∈ gw_All := gw_in 670 (by decide +kernel) (by decide +kernel)
set_option maxRecDepth 100000 in
theorem wd_671 : Cond.code ⟨"SpinBench", "ask", "(II)I"⟩ prog_1_method_28_code 4 (some .int) ∈ gw_All := gw_in 671 rfl rfl
theorem wd_672 : Cond.methodLink "SpinBench" 245 ⟨"SpinBench$Op", "cost", "(LSpinBench;)I"⟩ ∈ gw_All := gw_in 672 (by decide +kernel) (by decide +kernel)
theorem wd_673 : Cond.instanceMethod ⟨"SpinBench$Op", "cost", "(LSpinBench;)I"⟩ ∈ gw_All := gw_in 673 (by decide +kernel) (by decide +kernel)
theorem wd_674 : Cond.sameMethod "SpinBench$Op" "SpinBench$Op" "cost" "(LSpinBench;)I" ∈ gw_All := gw_in 674 (by decide +kernel) (by decide +kernel)
theorem wd_675 : Cond.selects "SpinBench$Cycled" ⟨"SpinBench$Op", "cost", "(LSpinBench;)I"⟩ ⟨"SpinBench$Cycled", "cost", "(LSpinBench;)I"⟩ ∈ gw_All := gw_in 675 (by decide +kernel) (by decide +kernel)
theorem wd_676 : Cond.instanceMethod ⟨"SpinBench$Cycled", "cost", "(LSpinBench;)I"⟩ ∈ gw_All := gw_in 676 (by decide +kernel) (by decide +kernel)
set_option maxRecDepth 100000 in
theorem wd_677 : Cond.code ⟨"SpinBench$Cycled", "cost", "(LSpinBench;)I"⟩ prog_2_method_3_code 3 (some .int) ∈ gw_All := gw_in 677 rfl rfl
theorem wd_680 : Cond.instanceMethod ⟨"SpinBench", "leaveBody", "(I)V"⟩ ∈ gw_All := gw_in 680 (by decide +kernel) (by decide +kernel)
set_option maxRecDepth 100000 in
theorem wd_681 : Cond.code ⟨"SpinBench", "leaveBody", "(I)V"⟩ prog_1_method_48_code 2 none ∈ gw_All := gw_in 681 rfl rfl
theorem wd_682 : Cond.methodLink "SpinBench$Cycled" 19 ⟨"SpinBench$Pulse", "cost", "(LSpinBench;)I"⟩ ∈ gw_All := gw_in 682 (by decide +kernel) (by decide +kernel)
theorem wd_683 : Cond.instanceMethod ⟨"SpinBench$Pulse", "cost", "(LSpinBench;)I"⟩ ∈ gw_All := gw_in 683 (by decide +kernel) (by decide +kernel)
set_option maxRecDepth 100000 in
theorem wd_684 : Cond.code ⟨"SpinBench$Pulse", "cost", "(LSpinBench;)I"⟩ prog_8_method_4_code 2 (some .int) ∈ gw_All := gw_in 684 rfl rfl
theorem wd_686 : Cond.methodLink "SpinBench$Pulse" 29 ⟨"SpinBench$Lead", "cost", "(LSpinBench;)I"⟩ ∈ gw_All := gw_in 686 (by decide +kernel) (by decide +kernel)
theorem wd_687 : Cond.instanceMethod ⟨"SpinBench$Lead", "cost", "(LSpinBench;)I"⟩ ∈ gw_All := gw_in 687 (by decide +kernel) (by decide +kernel)
set_option maxRecDepth 100000 in
theorem wd_688 : Cond.code ⟨"SpinBench$Lead", "cost", "(LSpinBench;)I"⟩ prog_5_method_3_code 2 (some .int) ∈ gw_All := gw_in 688 rfl rfl
theorem wd_690 : Cond.methodLink "SpinBench$Lead" 17 ⟨"SpinBench$Op", "cost", "(LSpinBench;)I"⟩ ∈ gw_All := gw_in 690 (by decide +kernel) (by decide +kernel)
theorem wd_691 : Cond.methodLink "SpinBench$Pulse" 33 ⟨"java/lang/Integer", "bitCount", "(I)I"⟩ ∈ gw_All := gw_in 691 (by decide +kernel) (by decide +kernel)
theorem wd_692 : Cond.methodLink "SpinBench$Cycled" 23 ⟨"SpinBench$Cycled", "mark", "(LSpinBench;)I"⟩ ∈ gw_All := gw_in 692 (by decide +kernel) (by decide +kernel)
theorem wd_693 : Cond.instanceMethod ⟨"SpinBench$Cycled", "mark", "(LSpinBench;)I"⟩ ∈ gw_All := gw_in 693 (by decide +kernel) (by decide +kernel)
theorem wd_694 : Cond.selects "SpinBench$Cycled" ⟨"SpinBench$Cycled", "mark", "(LSpinBench;)I"⟩ ⟨"SpinBench$Cycled", "mark", "(LSpinBench;)I"⟩ ∈ gw_All := gw_in 694 (by decide +kernel) (by decide +kernel)
set_option maxRecDepth 100000 in
theorem wd_695 : Cond.code ⟨"SpinBench$Cycled", "mark", "(LSpinBench;)I"⟩ prog_2_method_4_code 2 (some .int) ∈ gw_All := gw_in 695 rfl rfl
theorem wd_696 : Cond.selects "SpinBench$Delay" ⟨"SpinBench$Op", "cost", "(LSpinBench;)I"⟩ ⟨"SpinBench$Lead", "cost", "(LSpinBench;)I"⟩ ∈ gw_All := gw_in 696 (by decide +kernel) (by decide +kernel)
theorem wd_697 : Cond.selects "SpinBench$End" ⟨"SpinBench$Op", "cost", "(LSpinBench;)I"⟩ ⟨"SpinBench$Op", "cost", "(LSpinBench;)I"⟩ ∈ gw_All := gw_in 697 (by decide +kernel) (by decide +kernel)
theorem wd_698 : Cond.selects "SpinBench$Pulse" ⟨"SpinBench$Op", "cost", "(LSpinBench;)I"⟩ ⟨"SpinBench$Pulse", "cost", "(LSpinBench;)I"⟩ ∈ gw_All := gw_in 698 (by decide +kernel) (by decide +kernel)
theorem wd_699 : Cond.selects "SpinBench$Round" ⟨"SpinBench$Op", "cost", "(LSpinBench;)I"⟩ ⟨"SpinBench$Round", "cost", "(LSpinBench;)I"⟩ ∈ gw_All := gw_in 699 (by decide +kernel) (by decide +kernel)
theorem wd_700 : Cond.instanceMethod ⟨"SpinBench$Round", "cost", "(LSpinBench;)I"⟩ ∈ gw_All := gw_in 700 (by decide +kernel) (by decide +kernel)
set_option maxRecDepth 100000 in
theorem wd_701 : Cond.code ⟨"SpinBench$Round", "cost", "(LSpinBench;)I"⟩ prog_9_method_3_code 2 (some .int) ∈ gw_All := gw_in 701 rfl rfl
theorem wd_703 : Cond.selects "SpinBench$Store" ⟨"SpinBench$Op", "cost", "(LSpinBench;)I"⟩ ⟨"SpinBench$Op", "cost", "(LSpinBench;)I"⟩ ∈ gw_All := gw_in 703 (by decide +kernel) (by decide +kernel)
set_option maxRecDepth 100000 in
theorem wd_704 : Cond.code ⟨"SpinBench$Op", "cost", "(LSpinBench;)I"⟩ prog_7_method_5_code 2 (some .int) ∈ gw_All := gw_in 704 rfl rfl
theorem wd_706 : Cond.methodLink "SpinBench" 249 ⟨"SpinBench$Op", "mark", "(LSpinBench;)I"⟩ ∈ gw_All := gw_in 706 (by decide +kernel) (by decide +kernel)
theorem wd_707 : Cond.instanceMethod ⟨"SpinBench$Op", "mark", "(LSpinBench;)I"⟩ ∈ gw_All := gw_in 707 (by decide +kernel) (by decide +kernel)
theorem wd_708 : Cond.sameMethod "SpinBench$Op" "SpinBench$Op" "mark" "(LSpinBench;)I" ∈ gw_All := gw_in 708 (by decide +kernel) (by decide +kernel)
theorem wd_709 : Cond.selects "SpinBench$Cycled" ⟨"SpinBench$Op", "mark", "(LSpinBench;)I"⟩ ⟨"SpinBench$Cycled", "mark", "(LSpinBench;)I"⟩ ∈ gw_All := gw_in 709 (by decide +kernel) (by decide +kernel)
theorem wd_710 : Cond.selects "SpinBench$Delay" ⟨"SpinBench$Op", "mark", "(LSpinBench;)I"⟩ ⟨"SpinBench$Delay", "mark", "(LSpinBench;)I"⟩ ∈ gw_All := gw_in 710 (by decide +kernel) (by decide +kernel)
theorem wd_711 : Cond.instanceMethod ⟨"SpinBench$Delay", "mark", "(LSpinBench;)I"⟩ ∈ gw_All := gw_in 711 (by decide +kernel) (by decide +kernel)
set_option maxRecDepth 100000 in
theorem wd_712 : Cond.code ⟨"SpinBench$Delay", "mark", "(LSpinBench;)I"⟩ prog_3_method_3_code 2 (some .int) ∈ gw_All := gw_in 712 rfl rfl
theorem wd_714 : Cond.methodLink "SpinBench$Delay" 25 ⟨"SpinBench$Lead", "mark", "(LSpinBench;)I"⟩ ∈ gw_All := gw_in 714 (by decide +kernel) (by decide +kernel)
theorem wd_715 : Cond.instanceMethod ⟨"SpinBench$Lead", "mark", "(LSpinBench;)I"⟩ ∈ gw_All := gw_in 715 (by decide +kernel) (by decide +kernel)
set_option maxRecDepth 100000 in
theorem wd_716 : Cond.code ⟨"SpinBench$Lead", "mark", "(LSpinBench;)I"⟩ prog_5_method_4_code 3 (some .int) ∈ gw_All := gw_in 716 rfl rfl
theorem wd_717 : Cond.methodLink "SpinBench$Lead" 21 ⟨"SpinBench$Op", "mark", "(LSpinBench;)I"⟩ ∈ gw_All := gw_in 717 (by decide +kernel) (by decide +kernel)
theorem wd_718 : Cond.methodLink "SpinBench$Lead" 24 ⟨"SpinBench$Lead", "cost", "(LSpinBench;)I"⟩ ∈ gw_All := gw_in 718 (by decide +kernel) (by decide +kernel)
theorem wd_719 : Cond.selects "SpinBench$End" ⟨"SpinBench$Op", "mark", "(LSpinBench;)I"⟩ ⟨"SpinBench$Op", "mark", "(LSpinBench;)I"⟩ ∈ gw_All := gw_in 719 (by decide +kernel) (by decide +kernel)
theorem wd_720 : Cond.selects "SpinBench$Pulse" ⟨"SpinBench$Op", "mark", "(LSpinBench;)I"⟩ ⟨"SpinBench$Lead", "mark", "(LSpinBench;)I"⟩ ∈ gw_All := gw_in 720 (by decide +kernel) (by decide +kernel)
theorem wd_721 : Cond.selects "SpinBench$Round" ⟨"SpinBench$Op", "mark", "(LSpinBench;)I"⟩ ⟨"SpinBench$Op", "mark", "(LSpinBench;)I"⟩ ∈ gw_All := gw_in 721 (by decide +kernel) (by decide +kernel)
theorem wd_722 : Cond.selects "SpinBench$Store" ⟨"SpinBench$Op", "mark", "(LSpinBench;)I"⟩ ⟨"SpinBench$Store", "mark", "(LSpinBench;)I"⟩ ∈ gw_All := gw_in 722 (by decide +kernel) (by decide +kernel)
theorem wd_723 : Cond.instanceMethod ⟨"SpinBench$Store", "mark", "(LSpinBench;)I"⟩ ∈ gw_All := gw_in 723 (by decide +kernel) (by decide +kernel)
set_option maxRecDepth 100000 in
theorem wd_724 : Cond.code ⟨"SpinBench$Store", "mark", "(LSpinBench;)I"⟩ prog_10_method_3_code 2 (some .int) ∈ gw_All := gw_in 724 rfl rfl
theorem wd_726 : Cond.methodLink "SpinBench$Store" 22 ⟨"SpinBench$Op", "mark", "(LSpinBench;)I"⟩ ∈ gw_All := gw_in 726 (by decide +kernel) (by decide +kernel)
set_option maxRecDepth 100000 in
theorem wd_727 : Cond.code ⟨"SpinBench$Op", "mark", "(LSpinBench;)I"⟩ prog_7_method_6_code 2 (some .int) ∈ gw_All := gw_in 727 rfl rfl
theorem wd_728 : Cond.methodLink "SpinBenchLaw" 137 ⟨"SpinBench", "trace", "(I)I"⟩ ∈ gw_All := gw_in 728 (by decide +kernel) (by decide +kernel)
theorem wd_729 : Cond.instanceMethod ⟨"SpinBench", "trace", "(I)I"⟩ ∈ gw_All := gw_in 729 (by decide +kernel) (by decide +kernel)
theorem wd_730 : Cond.selects "SpinBench" ⟨"SpinBench", "trace", "(I)I"⟩ ⟨"SpinBench", "trace", "(I)I"⟩ ∈ gw_All := gw_in 730 (by decide +kernel) (by decide +kernel)
set_option maxRecDepth 100000 in
theorem wd_731 : Cond.code ⟨"SpinBench", "trace", "(I)I"⟩ prog_1_method_29_code 2 (some .int) ∈ gw_All := gw_in 731 rfl rfl
theorem wd_732 : Cond.methodLink "SpinBenchLaw" 141 ⟨"SpinBench", "run", "()I"⟩ ∈ gw_All := gw_in 732 (by decide +kernel) (by decide +kernel)
theorem wd_733 : Cond.instanceMethod ⟨"SpinBench", "run", "()I"⟩ ∈ gw_All := gw_in 733 (by decide +kernel) (by decide +kernel)
theorem wd_734 : Cond.selects "SpinBench" ⟨"SpinBench", "run", "()I"⟩ ⟨"SpinBench", "run", "()I"⟩ ∈ gw_All := gw_in 734 (by decide +kernel) (by decide +kernel)
set_option maxRecDepth 100000 in
theorem wd_735 : Cond.code ⟨"SpinBench", "run", "()I"⟩ prog_1_method_30_code 4 (some .int) ∈ gw_All := gw_in 735 rfl rfl
theorem wd_736 : Cond.methodLink "SpinBench" 252 ⟨"SpinBench", "takeAll", "([LSpinBench$Sum;[LSpinBench$Sum;)V"⟩ ∈ gw_All := gw_in 736 (by decide +kernel) (by decide +kernel)
theorem wd_737 : Cond.static ⟨"SpinBench", "takeAll", "([LSpinBench$Sum;[LSpinBench$Sum;)V"⟩ ∈ gw_All := gw_in 737 (by decide +kernel) (by decide +kernel)
set_option maxRecDepth 100000 in
theorem wd_738 : Cond.code ⟨"SpinBench", "takeAll", "([LSpinBench$Sum;[LSpinBench$Sum;)V"⟩ prog_1_method_47_code 3 none ∈ gw_All := gw_in 738 rfl rfl
theorem wd_739 : Cond.methodLink "SpinBench" 265 ⟨"SpinBench$Op", "perform", "(LSpinBench;)I"⟩ ∈ gw_All := gw_in 739 (by decide +kernel) (by decide +kernel)
theorem wd_741 : Cond.sameMethod "SpinBench$Op" "SpinBench$Op" "perform" "(LSpinBench;)I" ∈ gw_All := gw_in 741 (by decide +kernel) (by decide +kernel)
theorem wd_742 : Cond.selects "SpinBench$Cycled" ⟨"SpinBench$Op", "perform", "(LSpinBench;)I"⟩ ⟨"SpinBench$Cycled", "perform", "(LSpinBench;)I"⟩ ∈ gw_All := gw_in 742 (by decide +kernel) (by decide +kernel)
theorem wd_743 : Cond.instanceMethod ⟨"SpinBench$Cycled", "perform", "(LSpinBench;)I"⟩ ∈ gw_All := gw_in 743 (by decide +kernel) (by decide +kernel)
set_option maxRecDepth 100000 in
theorem wd_744 : Cond.code ⟨"SpinBench$Cycled", "perform", "(LSpinBench;)I"⟩ prog_2_method_5_code 4 (some .int) ∈ gw_All := gw_in 744 rfl rfl
theorem wd_747 : Cond.methodLink "SpinBench$Cycled" 56 ⟨"SpinBench$Cycled", "turnSpins", "(LSpinBench;I)I"⟩ ∈ gw_All := gw_in 747 (by decide +kernel) (by decide +kernel)
theorem wd_748 : Cond.sameMethod "SpinBench$Cycled" "SpinBench$Pulse" "turnSpins" "(LSpinBench;I)I" ∈ gw_All := gw_in 748 (by decide +kernel) (by decide +kernel)
theorem wd_750 : Cond.selects "SpinBench$Cycled" ⟨"SpinBench$Cycled", "turnSpins", "(LSpinBench;I)I"⟩ ⟨"SpinBench$Pulse", "turnSpins", "(LSpinBench;I)I"⟩ ∈ gw_All := gw_in 750 (by decide +kernel) (by decide +kernel)
theorem wd_751 : Cond.instanceMethod ⟨"SpinBench$Pulse", "turnSpins", "(LSpinBench;I)I"⟩ ∈ gw_All := gw_in 751 (by decide +kernel) (by decide +kernel)
set_option maxRecDepth 100000 in
theorem wd_752 : Cond.code ⟨"SpinBench$Pulse", "turnSpins", "(LSpinBench;I)I"⟩ prog_8_method_6_code 6 (some .int) ∈ gw_All := gw_in 752 rfl rfl
theorem wd_754 : Cond.constant "SpinBench$Pulse" 47 (-1000003) ∈ gw_All := gw_in 754 (by decide +kernel) (by decide +kernel)
theorem wd_755 : Cond.selects "SpinBench$Delay" ⟨"SpinBench$Op", "perform", "(LSpinBench;)I"⟩ ⟨"SpinBench$Delay", "perform", "(LSpinBench;)I"⟩ ∈ gw_All := gw_in 755 (by decide +kernel) (by decide +kernel)
theorem wd_756 : Cond.instanceMethod ⟨"SpinBench$Delay", "perform", "(LSpinBench;)I"⟩ ∈ gw_All := gw_in 756 (by decide +kernel) (by decide +kernel)
set_option maxRecDepth 100000 in
theorem wd_757 : Cond.code ⟨"SpinBench$Delay", "perform", "(LSpinBench;)I"⟩ prog_3_method_4_code 2 (some .int) ∈ gw_All := gw_in 757 rfl rfl
theorem wd_759 : Cond.constant "SpinBench$Delay" 33 (-1000003) ∈ gw_All := gw_in 759 (by decide +kernel) (by decide +kernel)
theorem wd_760 : Cond.selects "SpinBench$End" ⟨"SpinBench$Op", "perform", "(LSpinBench;)I"⟩ ⟨"SpinBench$End", "perform", "(LSpinBench;)I"⟩ ∈ gw_All := gw_in 760 (by decide +kernel) (by decide +kernel)
theorem wd_761 : Cond.instanceMethod ⟨"SpinBench$End", "perform", "(LSpinBench;)I"⟩ ∈ gw_All := gw_in 761 (by decide +kernel) (by decide +kernel)
set_option maxRecDepth 100000 in
theorem wd_762 : Cond.code ⟨"SpinBench$End", "perform", "(LSpinBench;)I"⟩ prog_4_method_3_code 2 (some .int) ∈ gw_All := gw_in 762 rfl rfl
theorem wd_763 : Cond.selects "SpinBench$Pulse" ⟨"SpinBench$Op", "perform", "(LSpinBench;)I"⟩ ⟨"SpinBench$Pulse", "perform", "(LSpinBench;)I"⟩ ∈ gw_All := gw_in 763 (by decide +kernel) (by decide +kernel)
theorem wd_764 : Cond.instanceMethod ⟨"SpinBench$Pulse", "perform", "(LSpinBench;)I"⟩ ∈ gw_All := gw_in 764 (by decide +kernel) (by decide +kernel)
set_option maxRecDepth 100000 in
theorem wd_765 : Cond.code ⟨"SpinBench$Pulse", "perform", "(LSpinBench;)I"⟩ prog_8_method_5_code 2 (some .int) ∈ gw_All := gw_in 765 rfl rfl
theorem wd_766 : Cond.methodLink "SpinBench$Pulse" 39 ⟨"SpinBench$Pulse", "turnSpins", "(LSpinBench;I)I"⟩ ∈ gw_All := gw_in 766 (by decide +kernel) (by decide +kernel)
theorem wd_767 : Cond.selects "SpinBench$Round" ⟨"SpinBench$Op", "perform", "(LSpinBench;)I"⟩ ⟨"SpinBench$Round", "perform", "(LSpinBench;)I"⟩ ∈ gw_All := gw_in 767 (by decide +kernel) (by decide +kernel)
theorem wd_768 : Cond.instanceMethod ⟨"SpinBench$Round", "perform", "(LSpinBench;)I"⟩ ∈ gw_All := gw_in 768 (by decide +kernel) (by decide +kernel)
set_option maxRecDepth 100000 in
theorem wd_769 : Cond.code ⟨"SpinBench$Round", "perform", "(LSpinBench;)I"⟩ prog_9_method_4_code 2 (some .int) ∈ gw_All := gw_in 769 rfl rfl
theorem wd_770 : Cond.selects "SpinBench$Store" ⟨"SpinBench$Op", "perform", "(LSpinBench;)I"⟩ ⟨"SpinBench$Store", "perform", "(LSpinBench;)I"⟩ ∈ gw_All := gw_in 770 (by decide +kernel) (by decide +kernel)
theorem wd_771 : Cond.instanceMethod ⟨"SpinBench$Store", "perform", "(LSpinBench;)I"⟩ ∈ gw_All := gw_in 771 (by decide +kernel) (by decide +kernel)
set_option maxRecDepth 100000 in
theorem wd_772 : Cond.code ⟨"SpinBench$Store", "perform", "(LSpinBench;)I"⟩ prog_10_method_4_code 3 (some .int) ∈ gw_All := gw_in 772 rfl rfl
theorem wd_775 : Cond.constant "SpinBench$Store" 44 (-1000003) ∈ gw_All := gw_in 775 (by decide +kernel) (by decide +kernel)
theorem wd_776 : Cond.methodLink "SpinBenchLaw" 145 ⟨"SpinBench", "told", "(I)I"⟩ ∈ gw_All := gw_in 776 (by decide +kernel) (by decide +kernel)
theorem wd_777 : Cond.instanceMethod ⟨"SpinBench", "told", "(I)I"⟩ ∈ gw_All := gw_in 777 (by decide +kernel) (by decide +kernel)
theorem wd_778 : Cond.selects "SpinBench" ⟨"SpinBench", "told", "(I)I"⟩ ⟨"SpinBench", "told", "(I)I"⟩ ∈ gw_All := gw_in 778 (by decide +kernel) (by decide +kernel)
set_option maxRecDepth 100000 in
theorem wd_779 : Cond.code ⟨"SpinBench", "told", "(I)I"⟩ prog_1_method_31_code 2 (some .int) ∈ gw_All := gw_in 779 rfl rfl
theorem wd_780 : Cond.methodLink "SpinBenchLaw" 149 ⟨"SpinBench", "count", "(I)I"⟩ ∈ gw_All := gw_in 780 (by decide +kernel) (by decide +kernel)
theorem wd_781 : Cond.instanceMethod ⟨"SpinBench", "count", "(I)I"⟩ ∈ gw_All := gw_in 781 (by decide +kernel) (by decide +kernel)
theorem wd_782 : Cond.selects "SpinBench" ⟨"SpinBench", "count", "(I)I"⟩ ⟨"SpinBench", "count", "(I)I"⟩ ∈ gw_All := gw_in 782 (by decide +kernel) (by decide +kernel)
set_option maxRecDepth 100000 in
theorem wd_783 : Cond.code ⟨"SpinBench", "count", "(I)I"⟩ prog_1_method_32_code 2 (some .int) ∈ gw_All := gw_in 783 rfl rfl
theorem wd_784 : Cond.methodLink "SpinBench" 268 ⟨"SpinBench", "presentTables", "()I"⟩ ∈ gw_All := gw_in 784 (by decide +kernel) (by decide +kernel)
theorem wd_786 : Cond.instanceMethod ⟨"SpinBench", "presentTables", "()I"⟩ ∈ gw_All := gw_in 786 (by decide +kernel) (by decide +kernel)
set_option maxRecDepth 100000 in
theorem wd_787 : Cond.code ⟨"SpinBench", "presentTables", "()I"⟩ prog_1_method_44_code 3 (some .int) ∈ gw_All := gw_in 787 rfl rfl
theorem wd_788 : Cond.methodLink "SpinBench" 271 ⟨"SpinBench", "allTerms", "()I"⟩ ∈ gw_All := gw_in 788 (by decide +kernel) (by decide +kernel)
theorem wd_790 : Cond.instanceMethod ⟨"SpinBench", "allTerms", "()I"⟩ ∈ gw_All := gw_in 790 (by decide +kernel) (by decide +kernel)
set_option maxRecDepth 100000 in
theorem wd_791 : Cond.code ⟨"SpinBench", "allTerms", "()I"⟩ prog_1_method_46_code 3 (some .int) ∈ gw_All := gw_in 791 rfl rfl
theorem wd_792 : Cond.methodLink "SpinBenchLaw" 153 ⟨"SpinBench", "status", "()I"⟩ ∈ gw_All := gw_in 792 (by decide +kernel) (by decide +kernel)
theorem wd_793 : Cond.instanceMethod ⟨"SpinBench", "status", "()I"⟩ ∈ gw_All := gw_in 793 (by decide +kernel) (by decide +kernel)
theorem wd_794 : Cond.selects "SpinBench" ⟨"SpinBench", "status", "()I"⟩ ⟨"SpinBench", "status", "()I"⟩ ∈ gw_All := gw_in 794 (by decide +kernel) (by decide +kernel)
set_option maxRecDepth 100000 in
theorem wd_795 : Cond.code ⟨"SpinBench", "status", "()I"⟩ prog_1_method_33_code 1 (some .int) ∈ gw_All := gw_in 795 rfl rfl
theorem wd_796 : Cond.methodLink "SpinBenchLaw" 9 ⟨"SpinBenchLaw", "cell", "([II)I"⟩ ∈ gw_All := gw_in 796 (by decide +kernel) (by decide +kernel)
theorem wd_797 : Cond.static ⟨"SpinBenchLaw", "cell", "([II)I"⟩ ∈ gw_All := gw_in 797 (by decide +kernel) (by decide +kernel)
set_option maxRecDepth 100000 in
theorem wd_798 : Cond.code ⟨"SpinBenchLaw", "cell", "([II)I"⟩ method_2_code 2 (some .int) ∈ gw_All := gw_in 798 rfl rfl
theorem wd_799 : Cond.classLink "SpinBenchLaw" 18 "SpinBenchModel" ∈ gw_All := gw_in 799 (by decide +kernel) (by decide +kernel)
theorem wd_800 : Cond.instantiable "SpinBenchModel" 28 ∈ gw_All := gw_in 800 (by decide +kernel) (by decide +kernel)
theorem wd_801 : Cond.methodLink "SpinBenchLaw" 20 ⟨"SpinBenchModel", "<init>", "(I)V"⟩ ∈ gw_All := gw_in 801 (by decide +kernel) (by decide +kernel)
theorem wd_802 : Cond.instanceMethod ⟨"SpinBenchModel", "<init>", "(I)V"⟩ ∈ gw_All := gw_in 802 (by decide +kernel) (by decide +kernel)
set_option maxRecDepth 100000 in
theorem wd_803 : Cond.code ⟨"SpinBenchModel", "<init>", "(I)V"⟩ prog_14_method_1_code 2 none ∈ gw_All := gw_in 803 rfl rfl
theorem wd_804 : Cond.methodLink "SpinBenchModel" 1 ⟨"java/lang/Object", "<init>", "()V"⟩ ∈ gw_All := gw_in 804 (by decide +kernel) (by decide +kernel)
theorem wd_805 : Cond.constant "SpinBenchModel" 56 (-1000000) ∈ gw_All := gw_in 805 (by decide +kernel) (by decide +kernel)
theorem wd_806 : Cond.fieldLink "SpinBenchModel" 67 "SpinBenchModel" "spins" "I" ∈ gw_All := gw_in 806 (by decide +kernel) (by decide +kernel)
theorem wd_807 : Cond.fieldLink "SpinBenchModel" 70 "SpinBenchModel" "products" "I" ∈ gw_All := gw_in 807 (by decide +kernel) (by decide +kernel)
theorem wd_808 : Cond.fieldLink "SpinBenchModel" 7 "SpinBenchModel" "lane" "[I" ∈ gw_All := gw_in 808 (by decide +kernel) (by decide +kernel)
theorem wd_809 : Cond.fieldLink "SpinBenchModel" 13 "SpinBenchModel" "size" "[I" ∈ gw_All := gw_in 809 (by decide +kernel) (by decide +kernel)
theorem wd_810 : Cond.fieldLink "SpinBenchModel" 16 "SpinBenchModel" "item" "[I" ∈ gw_All := gw_in 810 (by decide +kernel) (by decide +kernel)
theorem wd_811 : Cond.fieldLink "SpinBenchModel" 19 "SpinBenchModel" "moving" "[I" ∈ gw_All := gw_in 811 (by decide +kernel) (by decide +kernel)
theorem wd_812 : Cond.fieldLink "SpinBenchModel" 22 "SpinBenchModel" "many" "[I" ∈ gw_All := gw_in 812 (by decide +kernel) (by decide +kernel)
theorem wd_813 : Cond.fieldLink "SpinBenchModel" 25 "SpinBenchModel" "key" "[I" ∈ gw_All := gw_in 813 (by decide +kernel) (by decide +kernel)
theorem wd_814 : Cond.fieldLink "SpinBenchModel" 28 "SpinBenchModel" "number" "[J" ∈ gw_All := gw_in 814 (by decide +kernel) (by decide +kernel)
theorem wd_815 : Cond.fieldLink "SpinBenchModel" 97 "SpinBenchModel" "made" "I" ∈ gw_All := gw_in 815 (by decide +kernel) (by decide +kernel)
theorem wd_816 : Cond.fieldLink "SpinBenchModel" 32 "SpinBenchModel" "madeKey" "[I" ∈ gw_All := gw_in 816 (by decide +kernel) (by decide +kernel)
theorem wd_817 : Cond.fieldLink "SpinBenchModel" 35 "SpinBenchModel" "madeNumber" "[J" ∈ gw_All := gw_in 817 (by decide +kernel) (by decide +kernel)
theorem wd_818 : Cond.fieldLink "SpinBenchModel" 193 "SpinBenchModel" "ops" "I" ∈ gw_All := gw_in 818 (by decide +kernel) (by decide +kernel)
theorem wd_819 : Cond.fieldLink "SpinBenchModel" 38 "SpinBenchModel" "kind" "[I" ∈ gw_All := gw_in 819 (by decide +kernel) (by decide +kernel)
theorem wd_820 : Cond.fieldLink "SpinBenchModel" 41 "SpinBenchModel" "set" "[I" ∈ gw_All := gw_in 820 (by decide +kernel) (by decide +kernel)
theorem wd_821 : Cond.fieldLink "SpinBenchModel" 44 "SpinBenchModel" "phase" "[I" ∈ gw_All := gw_in 821 (by decide +kernel) (by decide +kernel)
theorem wd_822 : Cond.fieldLink "SpinBenchModel" 47 "SpinBenchModel" "turns" "[I" ∈ gw_All := gw_in 822 (by decide +kernel) (by decide +kernel)
theorem wd_823 : Cond.fieldLink "SpinBenchModel" 50 "SpinBenchModel" "table" "[I" ∈ gw_All := gw_in 823 (by decide +kernel) (by decide +kernel)
theorem wd_824 : Cond.fieldLink "SpinBenchModel" 205 "SpinBenchModel" "notEnded" "I" ∈ gw_All := gw_in 824 (by decide +kernel) (by decide +kernel)
theorem wd_825 : Cond.fieldLink "SpinBenchModel" 73 "SpinBenchModel" "status" "I" ∈ gw_All := gw_in 825 (by decide +kernel) (by decide +kernel)
theorem wd_826 : Cond.fieldLink "SpinBenchModel" 53 "SpinBenchModel" "trace" "[I" ∈ gw_All := gw_in 826 (by decide +kernel) (by decide +kernel)
theorem wd_827 : Cond.fieldLink "SpinBenchModel" 212 "SpinBenchModel" "traced" "I" ∈ gw_All := gw_in 827 (by decide +kernel) (by decide +kernel)
theorem wd_828 : Cond.fieldLink "SpinBenchModel" 234 "SpinBenchModel" "steps" "I" ∈ gw_All := gw_in 828 (by decide +kernel) (by decide +kernel)
theorem wd_829 : Cond.fieldLink "SpinBenchModel" 57 "SpinBenchModel" "latest" "I" ∈ gw_All := gw_in 829 (by decide +kernel) (by decide +kernel)
theorem wd_830 : Cond.fieldLink "SpinBenchModel" 145 "SpinBenchModel" "sign" "I" ∈ gw_All := gw_in 830 (by decide +kernel) (by decide +kernel)
theorem wd_831 : Cond.fieldLink "SpinBenchModel" 231 "SpinBenchModel" "rounds" "I" ∈ gw_All := gw_in 831 (by decide +kernel) (by decide +kernel)
theorem wd_832 : Cond.fieldLink "SpinBenchModel" 61 "SpinBenchModel" "roundAt" "[I" ∈ gw_All := gw_in 832 (by decide +kernel) (by decide +kernel)
theorem wd_833 : Cond.fieldLink "SpinBenchModel" 64 "SpinBenchModel" "roundDone" "[I" ∈ gw_All := gw_in 833 (by decide +kernel) (by decide +kernel)
theorem wd_890 : Cond.superclass "SpinBenchModel" "java/lang/Object" ∈ gw_All := gw_in 890 (by decide +kernel) (by decide +kernel)
theorem wd_891 : Cond.methodLink "SpinBenchLaw" 25 ⟨"SpinBenchModel", "table", "(III)I"⟩ ∈ gw_All := gw_in 891 (by decide +kernel) (by decide +kernel)
theorem wd_892 : Cond.instanceMethod ⟨"SpinBenchModel", "table", "(III)I"⟩ ∈ gw_All := gw_in 892 (by decide +kernel) (by decide +kernel)
theorem wd_893 : Cond.selects "SpinBenchModel" ⟨"SpinBenchModel", "table", "(III)I"⟩ ⟨"SpinBenchModel", "table", "(III)I"⟩ ∈ gw_All := gw_in 893 (by decide +kernel) (by decide +kernel)
set_option maxRecDepth 100000 in
theorem wd_894 : Cond.code ⟨"SpinBenchModel", "table", "(III)I"⟩ prog_14_method_6_code 5 (some .int) ∈ gw_All := gw_in 894 rfl rfl
theorem wd_895 : Cond.methodLink "SpinBenchModel" 83 ⟨"SpinBenchModel", "isTable", "(I)Z"⟩ ∈ gw_All := gw_in 895 (by decide +kernel) (by decide +kernel)
theorem wd_896 : Cond.static ⟨"SpinBenchModel", "isTable", "(I)Z"⟩ ∈ gw_All := gw_in 896 (by decide +kernel) (by decide +kernel)
set_option maxRecDepth 100000 in
theorem wd_897 : Cond.code ⟨"SpinBenchModel", "isTable", "(I)Z"⟩ prog_14_method_5_code 1 (some .boolean) ∈ gw_All := gw_in 897 rfl rfl
theorem wd_898 : Cond.constantLong "SpinBenchModel" 77 7 ∈ gw_All := gw_in 898 (by decide +kernel) (by decide +kernel)
theorem wd_899 : Cond.methodLink "SpinBenchModel" 79 ⟨"SpinBenchModel", "in", "(JJJ)Z"⟩ ∈ gw_All := gw_in 899 (by decide +kernel) (by decide +kernel)
theorem wd_900 : Cond.static ⟨"SpinBenchModel", "in", "(JJJ)Z"⟩ ∈ gw_All := gw_in 900 (by decide +kernel) (by decide +kernel)
set_option maxRecDepth 100000 in
theorem wd_901 : Cond.code ⟨"SpinBenchModel", "in", "(JJJ)Z"⟩ prog_14_method_2_code 6 (some .boolean) ∈ gw_All := gw_in 901 rfl rfl
theorem wd_902 : Cond.constantLong "SpinBenchModel" 87 2 ∈ gw_All := gw_in 902 (by decide +kernel) (by decide +kernel)
theorem wd_903 : Cond.constant "SpinBenchModel" 89 (-1000001) ∈ gw_All := gw_in 903 (by decide +kernel) (by decide +kernel)
theorem wd_904 : Cond.methodLink "SpinBenchModel" 90 ⟨"SpinBenchModel", "finds", "(I)I"⟩ ∈ gw_All := gw_in 904 (by decide +kernel) (by decide +kernel)
theorem wd_906 : Cond.instanceMethod ⟨"SpinBenchModel", "finds", "(I)I"⟩ ∈ gw_All := gw_in 906 (by decide +kernel) (by decide +kernel)
set_option maxRecDepth 100000 in
theorem wd_907 : Cond.code ⟨"SpinBenchModel", "finds", "(I)I"⟩ prog_14_method_3_code 2 (some .int) ∈ gw_All := gw_in 907 rfl rfl
theorem wd_908 : Cond.constant "SpinBenchModel" 76 (-1000010) ∈ gw_All := gw_in 908 (by decide +kernel) (by decide +kernel)
theorem wd_909 : Cond.methodLink "SpinBenchModel" 94 ⟨"SpinBenchModel", "well", "(I)I"⟩ ∈ gw_All := gw_in 909 (by decide +kernel) (by decide +kernel)
theorem wd_911 : Cond.instanceMethod ⟨"SpinBenchModel", "well", "(I)I"⟩ ∈ gw_All := gw_in 911 (by decide +kernel) (by decide +kernel)
set_option maxRecDepth 100000 in
theorem wd_912 : Cond.code ⟨"SpinBenchModel", "well", "(I)I"⟩ prog_14_method_4_code 2 (some .int) ∈ gw_All := gw_in 912 rfl rfl
theorem wd_913 : Cond.methodLink "SpinBenchLaw" 29 ⟨"SpinBenchModel", "set", "(III)I"⟩ ∈ gw_All := gw_in 913 (by decide +kernel) (by decide +kernel)
theorem wd_914 : Cond.instanceMethod ⟨"SpinBenchModel", "set", "(III)I"⟩ ∈ gw_All := gw_in 914 (by decide +kernel) (by decide +kernel)
theorem wd_915 : Cond.selects "SpinBenchModel" ⟨"SpinBenchModel", "set", "(III)I"⟩ ⟨"SpinBenchModel", "set", "(III)I"⟩ ∈ gw_All := gw_in 915 (by decide +kernel) (by decide +kernel)
set_option maxRecDepth 100000 in
theorem wd_916 : Cond.code ⟨"SpinBenchModel", "set", "(III)I"⟩ prog_14_method_7_code 5 (some .int) ∈ gw_All := gw_in 916 rfl rfl
theorem wd_917 : Cond.methodLink "SpinBenchLaw" 34 ⟨"SpinBenchModel", "copy", "(IIIII)I"⟩ ∈ gw_All := gw_in 917 (by decide +kernel) (by decide +kernel)
theorem wd_918 : Cond.instanceMethod ⟨"SpinBenchModel", "copy", "(IIIII)I"⟩ ∈ gw_All := gw_in 918 (by decide +kernel) (by decide +kernel)
theorem wd_919 : Cond.selects "SpinBenchModel" ⟨"SpinBenchModel", "copy", "(IIIII)I"⟩ ⟨"SpinBenchModel", "copy", "(IIIII)I"⟩ ∈ gw_All := gw_in 919 (by decide +kernel) (by decide +kernel)
set_option maxRecDepth 100000 in
theorem wd_920 : Cond.code ⟨"SpinBenchModel", "copy", "(IIIII)I"⟩ prog_14_method_8_code 7 (some .int) ∈ gw_All := gw_in 920 rfl rfl
theorem wd_921 : Cond.methodLink "SpinBenchLaw" 39 ⟨"SpinBenchModel", "drop", "(I)I"⟩ ∈ gw_All := gw_in 921 (by decide +kernel) (by decide +kernel)
theorem wd_922 : Cond.instanceMethod ⟨"SpinBenchModel", "drop", "(I)I"⟩ ∈ gw_All := gw_in 922 (by decide +kernel) (by decide +kernel)
theorem wd_923 : Cond.selects "SpinBenchModel" ⟨"SpinBenchModel", "drop", "(I)I"⟩ ⟨"SpinBenchModel", "drop", "(I)I"⟩ ∈ gw_All := gw_in 923 (by decide +kernel) (by decide +kernel)
set_option maxRecDepth 100000 in
theorem wd_924 : Cond.code ⟨"SpinBenchModel", "drop", "(I)I"⟩ prog_14_method_9_code 2 (some .int) ∈ gw_All := gw_in 924 rfl rfl
theorem wd_925 : Cond.methodLink "SpinBenchLaw" 43 ⟨"SpinBenchModel", "clear", "(I)I"⟩ ∈ gw_All := gw_in 925 (by decide +kernel) (by decide +kernel)
theorem wd_926 : Cond.instanceMethod ⟨"SpinBenchModel", "clear", "(I)I"⟩ ∈ gw_All := gw_in 926 (by decide +kernel) (by decide +kernel)
theorem wd_927 : Cond.selects "SpinBenchModel" ⟨"SpinBenchModel", "clear", "(I)I"⟩ ⟨"SpinBenchModel", "clear", "(I)I"⟩ ∈ gw_All := gw_in 927 (by decide +kernel) (by decide +kernel)
set_option maxRecDepth 100000 in
theorem wd_928 : Cond.code ⟨"SpinBenchModel", "clear", "(I)I"⟩ prog_14_method_23_code 3 (some .int) ∈ gw_All := gw_in 928 rfl rfl
theorem wd_929 : Cond.methodLink "SpinBenchModel" 118 ⟨"SpinBenchModel", "isShelf", "(I)Z"⟩ ∈ gw_All := gw_in 929 (by decide +kernel) (by decide +kernel)
theorem wd_930 : Cond.static ⟨"SpinBenchModel", "isShelf", "(I)Z"⟩ ∈ gw_All := gw_in 930 (by decide +kernel) (by decide +kernel)
set_option maxRecDepth 100000 in
theorem wd_931 : Cond.code ⟨"SpinBenchModel", "isShelf", "(I)Z"⟩ prog_14_method_17_code 1 (some .boolean) ∈ gw_All := gw_in 931 rfl rfl
theorem wd_932 : Cond.constantLong "SpinBenchModel" 100 (-1) ∈ gw_All := gw_in 932 (by decide +kernel) (by decide +kernel)
theorem wd_933 : Cond.methodLink "SpinBenchModel" 121 ⟨"SpinBenchModel", "placeOf", "(I)I"⟩ ∈ gw_All := gw_in 933 (by decide +kernel) (by decide +kernel)
theorem wd_934 : Cond.static ⟨"SpinBenchModel", "placeOf", "(I)I"⟩ ∈ gw_All := gw_in 934 (by decide +kernel) (by decide +kernel)
set_option maxRecDepth 100000 in
theorem wd_935 : Cond.code ⟨"SpinBenchModel", "placeOf", "(I)I"⟩ prog_14_method_16_code 1 (some .int) ∈ gw_All := gw_in 935 rfl rfl
theorem wd_936 : Cond.methodLink "SpinBenchLaw" 47 ⟨"SpinBenchModel", "add", "(III)I"⟩ ∈ gw_All := gw_in 936 (by decide +kernel) (by decide +kernel)
theorem wd_937 : Cond.instanceMethod ⟨"SpinBenchModel", "add", "(III)I"⟩ ∈ gw_All := gw_in 937 (by decide +kernel) (by decide +kernel)
theorem wd_938 : Cond.selects "SpinBenchModel" ⟨"SpinBenchModel", "add", "(III)I"⟩ ⟨"SpinBenchModel", "add", "(III)I"⟩ ∈ gw_All := gw_in 938 (by decide +kernel) (by decide +kernel)
set_option maxRecDepth 100000 in
theorem wd_939 : Cond.code ⟨"SpinBenchModel", "add", "(III)I"⟩ prog_14_method_24_code 4 (some .int) ∈ gw_All := gw_in 939 rfl rfl
theorem wd_940 : Cond.methodLink "SpinBenchModel" 124 ⟨"SpinBenchModel", "isProduct", "(I)Z"⟩ ∈ gw_All := gw_in 940 (by decide +kernel) (by decide +kernel)
theorem wd_942 : Cond.instanceMethod ⟨"SpinBenchModel", "isProduct", "(I)Z"⟩ ∈ gw_All := gw_in 942 (by decide +kernel) (by decide +kernel)
set_option maxRecDepth 100000 in
theorem wd_943 : Cond.code ⟨"SpinBenchModel", "isProduct", "(I)Z"⟩ prog_14_method_18_code 2 (some .boolean) ∈ gw_All := gw_in 943 rfl rfl
theorem wd_944 : Cond.methodLink "SpinBenchModel" 127 ⟨"SpinBenchModel", "putAll", "(IJ)V"⟩ ∈ gw_All := gw_in 944 (by decide +kernel) (by decide +kernel)
theorem wd_946 : Cond.instanceMethod ⟨"SpinBenchModel", "putAll", "(IJ)V"⟩ ∈ gw_All := gw_in 946 (by decide +kernel) (by decide +kernel)
set_option maxRecDepth 100000 in
theorem wd_947 : Cond.code ⟨"SpinBenchModel", "putAll", "(IJ)V"⟩ prog_14_method_20_code 5 none ∈ gw_All := gw_in 947 rfl rfl
theorem wd_948 : Cond.methodLink "SpinBenchModel" 110 ⟨"SpinBenchModel", "put", "(IJ)V"⟩ ∈ gw_All := gw_in 948 (by decide +kernel) (by decide +kernel)
theorem wd_950 : Cond.instanceMethod ⟨"SpinBenchModel", "put", "(IJ)V"⟩ ∈ gw_All := gw_in 950 (by decide +kernel) (by decide +kernel)
set_option maxRecDepth 100000 in
theorem wd_951 : Cond.code ⟨"SpinBenchModel", "put", "(IJ)V"⟩ prog_14_method_15_code 7 none ∈ gw_All := gw_in 951 rfl rfl
theorem wd_952 : Cond.methodLink "SpinBenchModel" 130 ⟨"SpinBenchModel", "kept", "(I)I"⟩ ∈ gw_All := gw_in 952 (by decide +kernel) (by decide +kernel)
theorem wd_954 : Cond.instanceMethod ⟨"SpinBenchModel", "kept", "(I)I"⟩ ∈ gw_All := gw_in 954 (by decide +kernel) (by decide +kernel)
set_option maxRecDepth 100000 in
theorem wd_955 : Cond.code ⟨"SpinBenchModel", "kept", "(I)I"⟩ prog_14_method_22_code 2 (some .int) ∈ gw_All := gw_in 955 rfl rfl
theorem wd_956 : Cond.methodLink "SpinBenchModel" 114 ⟨"SpinBenchModel", "keep", "(I)Z"⟩ ∈ gw_All := gw_in 956 (by decide +kernel) (by decide +kernel)
theorem wd_958 : Cond.instanceMethod ⟨"SpinBenchModel", "keep", "(I)Z"⟩ ∈ gw_All := gw_in 958 (by decide +kernel) (by decide +kernel)
set_option maxRecDepth 100000 in
theorem wd_959 : Cond.code ⟨"SpinBenchModel", "keep", "(I)Z"⟩ prog_14_method_19_code 6 (some .boolean) ∈ gw_All := gw_in 959 rfl rfl
theorem wd_960 : Cond.constantLong "SpinBenchModel" 102 (-1000000000000) ∈ gw_All := gw_in 960 (by decide +kernel) (by decide +kernel)
theorem wd_961 : Cond.constantLong "SpinBenchModel" 104 1000000000000 ∈ gw_All := gw_in 961 (by decide +kernel) (by decide +kernel)
theorem wd_962 : Cond.methodLink "SpinBenchModel" 106 ⟨"SpinBenchModel", "cosine", "(II)I"⟩ ∈ gw_All := gw_in 962 (by decide +kernel) (by decide +kernel)
theorem wd_963 : Cond.static ⟨"SpinBenchModel", "cosine", "(II)I"⟩ ∈ gw_All := gw_in 963 (by decide +kernel) (by decide +kernel)
set_option maxRecDepth 100000 in
theorem wd_964 : Cond.code ⟨"SpinBenchModel", "cosine", "(II)I"⟩ prog_14_method_10_code 2 (some .int) ∈ gw_All := gw_in 964 rfl rfl
theorem wd_965 : Cond.constant "SpinBenchModel" 117 (-1000003) ∈ gw_All := gw_in 965 (by decide +kernel) (by decide +kernel)
theorem wd_966 : Cond.methodLink "SpinBenchLaw" 52 ⟨"SpinBenchModel", "take", "(II)I"⟩ ∈ gw_All := gw_in 966 (by decide +kernel) (by decide +kernel)
theorem wd_967 : Cond.instanceMethod ⟨"SpinBenchModel", "take", "(II)I"⟩ ∈ gw_All := gw_in 967 (by decide +kernel) (by decide +kernel)
theorem wd_968 : Cond.selects "SpinBenchModel" ⟨"SpinBenchModel", "take", "(II)I"⟩ ⟨"SpinBenchModel", "take", "(II)I"⟩ ∈ gw_All := gw_in 968 (by decide +kernel) (by decide +kernel)
set_option maxRecDepth 100000 in
theorem wd_969 : Cond.code ⟨"SpinBenchModel", "take", "(II)I"⟩ prog_14_method_25_code 3 (some .int) ∈ gw_All := gw_in 969 rfl rfl
theorem wd_970 : Cond.methodLink "SpinBenchModel" 133 ⟨"SpinBenchModel", "copySum", "(II)V"⟩ ∈ gw_All := gw_in 970 (by decide +kernel) (by decide +kernel)
theorem wd_972 : Cond.instanceMethod ⟨"SpinBenchModel", "copySum", "(II)V"⟩ ∈ gw_All := gw_in 972 (by decide +kernel) (by decide +kernel)
set_option maxRecDepth 100000 in
theorem wd_973 : Cond.code ⟨"SpinBenchModel", "copySum", "(II)V"⟩ prog_14_method_21_code 4 none ∈ gw_All := gw_in 973 rfl rfl
theorem wd_974 : Cond.methodLink "SpinBenchLaw" 56 ⟨"SpinBenchModel", "join", "(III)I"⟩ ∈ gw_All := gw_in 974 (by decide +kernel) (by decide +kernel)
theorem wd_975 : Cond.instanceMethod ⟨"SpinBenchModel", "join", "(III)I"⟩ ∈ gw_All := gw_in 975 (by decide +kernel) (by decide +kernel)
theorem wd_976 : Cond.selects "SpinBenchModel" ⟨"SpinBenchModel", "join", "(III)I"⟩ ⟨"SpinBenchModel", "join", "(III)I"⟩ ∈ gw_All := gw_in 976 (by decide +kernel) (by decide +kernel)
set_option maxRecDepth 100000 in
theorem wd_977 : Cond.code ⟨"SpinBenchModel", "join", "(III)I"⟩ prog_14_method_26_code 4 (some .int) ∈ gw_All := gw_in 977 rfl rfl
theorem wd_978 : Cond.constantLong "SpinBenchModel" 137 (-3) ∈ gw_All := gw_in 978 (by decide +kernel) (by decide +kernel)
theorem wd_979 : Cond.constantLong "SpinBenchModel" 139 3 ∈ gw_All := gw_in 979 (by decide +kernel) (by decide +kernel)
theorem wd_980 : Cond.methodLink "SpinBenchModel" 141 ⟨"SpinBenchModel", "joined", "(III)Z"⟩ ∈ gw_All := gw_in 980 (by decide +kernel) (by decide +kernel)
theorem wd_982 : Cond.instanceMethod ⟨"SpinBenchModel", "joined", "(III)Z"⟩ ∈ gw_All := gw_in 982 (by decide +kernel) (by decide +kernel)
set_option maxRecDepth 100000 in
theorem wd_983 : Cond.code ⟨"SpinBenchModel", "joined", "(III)Z"⟩ prog_14_method_27_code 4 (some .boolean) ∈ gw_All := gw_in 983 rfl rfl
theorem wd_984 : Cond.methodLink "SpinBenchLaw" 60 ⟨"SpinBenchModel", "quarter", "(II)I"⟩ ∈ gw_All := gw_in 984 (by decide +kernel) (by decide +kernel)
theorem wd_985 : Cond.instanceMethod ⟨"SpinBenchModel", "quarter", "(II)I"⟩ ∈ gw_All := gw_in 985 (by decide +kernel) (by decide +kernel)
theorem wd_986 : Cond.selects "SpinBenchModel" ⟨"SpinBenchModel", "quarter", "(II)I"⟩ ⟨"SpinBenchModel", "quarter", "(II)I"⟩ ∈ gw_All := gw_in 986 (by decide +kernel) (by decide +kernel)
set_option maxRecDepth 100000 in
theorem wd_987 : Cond.code ⟨"SpinBenchModel", "quarter", "(II)I"⟩ prog_14_method_32_code 3 (some .int) ∈ gw_All := gw_in 987 rfl rfl
theorem wd_988 : Cond.methodLink "SpinBenchModel" 168 ⟨"SpinBenchModel", "turnQuarter", "(II)V"⟩ ∈ gw_All := gw_in 988 (by decide +kernel) (by decide +kernel)
theorem wd_990 : Cond.instanceMethod ⟨"SpinBenchModel", "turnQuarter", "(II)V"⟩ ∈ gw_All := gw_in 990 (by decide +kernel) (by decide +kernel)
set_option maxRecDepth 100000 in
theorem wd_991 : Cond.code ⟨"SpinBenchModel", "turnQuarter", "(II)V"⟩ prog_14_method_30_code 8 none ∈ gw_All := gw_in 991 rfl rfl
theorem wd_992 : Cond.methodLink "SpinBenchModel" 148 ⟨"SpinBenchModel", "productOf", "(I)I"⟩ ∈ gw_All := gw_in 992 (by decide +kernel) (by decide +kernel)
theorem wd_993 : Cond.static ⟨"SpinBenchModel", "productOf", "(I)I"⟩ ∈ gw_All := gw_in 993 (by decide +kernel) (by decide +kernel)
set_option maxRecDepth 100000 in
theorem wd_994 : Cond.code ⟨"SpinBenchModel", "productOf", "(I)I"⟩ prog_14_method_14_code 1 (some .int) ∈ gw_All := gw_in 994 rfl rfl
theorem wd_995 : Cond.methodLink "SpinBenchModel" 151 ⟨"SpinBenchModel", "fits", "(II)Z"⟩ ∈ gw_All := gw_in 995 (by decide +kernel) (by decide +kernel)
theorem wd_997 : Cond.instanceMethod ⟨"SpinBenchModel", "fits", "(II)Z"⟩ ∈ gw_All := gw_in 997 (by decide +kernel) (by decide +kernel)
set_option maxRecDepth 100000 in
theorem wd_998 : Cond.code ⟨"SpinBenchModel", "fits", "(II)Z"⟩ prog_14_method_28_code 7 (some .boolean) ∈ gw_All := gw_in 998 rfl rfl
theorem wd_999 : Cond.methodLink "SpinBenchModel" 155 ⟨"SpinBenchModel", "with", "(II)I"⟩ ∈ gw_All := gw_in 999 (by decide +kernel) (by decide +kernel)
theorem wd_1001 : Cond.instanceMethod ⟨"SpinBenchModel", "with", "(II)I"⟩ ∈ gw_All := gw_in 1001 (by decide +kernel) (by decide +kernel)
set_option maxRecDepth 100000 in
theorem wd_1002 : Cond.code ⟨"SpinBenchModel", "with", "(II)I"⟩ prog_14_method_29_code 9 (some .int) ∈ gw_All := gw_in 1002 rfl rfl
theorem wd_1003 : Cond.constant "SpinBenchModel" 158 1048575 ∈ gw_All := gw_in 1003 (by decide +kernel) (by decide +kernel)
theorem wd_1004 : Cond.methodLink "SpinBenchLaw" 64 ⟨"SpinBenchModel", "letter", "(III)I"⟩ ∈ gw_All := gw_in 1004 (by decide +kernel) (by decide +kernel)
theorem wd_1005 : Cond.instanceMethod ⟨"SpinBenchModel", "letter", "(III)I"⟩ ∈ gw_All := gw_in 1005 (by decide +kernel) (by decide +kernel)
theorem wd_1006 : Cond.selects "SpinBenchModel" ⟨"SpinBenchModel", "letter", "(III)I"⟩ ⟨"SpinBenchModel", "letter", "(III)I"⟩ ∈ gw_All := gw_in 1006 (by decide +kernel) (by decide +kernel)
set_option maxRecDepth 100000 in
theorem wd_1007 : Cond.code ⟨"SpinBenchModel", "letter", "(III)I"⟩ prog_14_method_34_code 4 (some .int) ∈ gw_All := gw_in 1007 rfl rfl
theorem wd_1008 : Cond.methodLink "SpinBenchModel" 171 ⟨"SpinBenchModel", "isWay", "(I)Z"⟩ ∈ gw_All := gw_in 1008 (by decide +kernel) (by decide +kernel)
theorem wd_1009 : Cond.static ⟨"SpinBenchModel", "isWay", "(I)Z"⟩ ∈ gw_All := gw_in 1009 (by decide +kernel) (by decide +kernel)
set_option maxRecDepth 100000 in
theorem wd_1010 : Cond.code ⟨"SpinBenchModel", "isWay", "(I)Z"⟩ prog_14_method_33_code 1 (some .boolean) ∈ gw_All := gw_in 1010 rfl rfl
theorem wd_1011 : Cond.methodLink "SpinBenchModel" 174 ⟨"SpinBenchModel", "turnLetter", "(III)Z"⟩ ∈ gw_All := gw_in 1011 (by decide +kernel) (by decide +kernel)
theorem wd_1013 : Cond.instanceMethod ⟨"SpinBenchModel", "turnLetter", "(III)Z"⟩ ∈ gw_All := gw_in 1013 (by decide +kernel) (by decide +kernel)
set_option maxRecDepth 100000 in
theorem wd_1014 : Cond.code ⟨"SpinBenchModel", "turnLetter", "(III)Z"⟩ prog_14_method_31_code 11 (some .boolean) ∈ gw_All := gw_in 1014 rfl rfl
theorem wd_1015 : Cond.methodLink "SpinBenchModel" 159 ⟨"SpinBenchModel", "oneCosine", "(I)I"⟩ ∈ gw_All := gw_in 1015 (by decide +kernel) (by decide +kernel)
theorem wd_1016 : Cond.static ⟨"SpinBenchModel", "oneCosine", "(I)I"⟩ ∈ gw_All := gw_in 1016 (by decide +kernel) (by decide +kernel)
set_option maxRecDepth 100000 in
theorem wd_1017 : Cond.code ⟨"SpinBenchModel", "oneCosine", "(I)I"⟩ prog_14_method_12_code 1 (some .int) ∈ gw_All := gw_in 1017 rfl rfl
theorem wd_1018 : Cond.methodLink "SpinBenchModel" 162 ⟨"SpinBenchModel", "sine", "(II)I"⟩ ∈ gw_All := gw_in 1018 (by decide +kernel) (by decide +kernel)
theorem wd_1019 : Cond.static ⟨"SpinBenchModel", "sine", "(II)I"⟩ ∈ gw_All := gw_in 1019 (by decide +kernel) (by decide +kernel)
set_option maxRecDepth 100000 in
theorem wd_1020 : Cond.code ⟨"SpinBenchModel", "sine", "(II)I"⟩ prog_14_method_11_code 2 (some .int) ∈ gw_All := gw_in 1020 rfl rfl
theorem wd_1021 : Cond.methodLink "SpinBenchModel" 165 ⟨"SpinBenchModel", "oneSine", "(I)I"⟩ ∈ gw_All := gw_in 1021 (by decide +kernel) (by decide +kernel)
theorem wd_1022 : Cond.static ⟨"SpinBenchModel", "oneSine", "(I)I"⟩ ∈ gw_All := gw_in 1022 (by decide +kernel) (by decide +kernel)
set_option maxRecDepth 100000 in
theorem wd_1023 : Cond.code ⟨"SpinBenchModel", "oneSine", "(I)I"⟩ prog_14_method_13_code 1 (some .int) ∈ gw_All := gw_in 1023 rfl rfl
theorem wd_1024 : Cond.methodLink "SpinBenchLaw" 68 ⟨"SpinBenchModel", "terms", "(I)I"⟩ ∈ gw_All := gw_in 1024 (by decide +kernel) (by decide +kernel)
theorem wd_1025 : Cond.instanceMethod ⟨"SpinBenchModel", "terms", "(I)I"⟩ ∈ gw_All := gw_in 1025 (by decide +kernel) (by decide +kernel)
theorem wd_1026 : Cond.selects "SpinBenchModel" ⟨"SpinBenchModel", "terms", "(I)I"⟩ ⟨"SpinBenchModel", "terms", "(I)I"⟩ ∈ gw_All := gw_in 1026 (by decide +kernel) (by decide +kernel)
set_option maxRecDepth 100000 in
theorem wd_1027 : Cond.code ⟨"SpinBenchModel", "terms", "(I)I"⟩ prog_14_method_35_code 2 (some .int) ∈ gw_All := gw_in 1027 rfl rfl
theorem wd_1028 : Cond.methodLink "SpinBenchLaw" 73 ⟨"SpinBenchModel", "number", "(II)J"⟩ ∈ gw_All := gw_in 1028 (by decide +kernel) (by decide +kernel)
theorem wd_1029 : Cond.instanceMethod ⟨"SpinBenchModel", "number", "(II)J"⟩ ∈ gw_All := gw_in 1029 (by decide +kernel) (by decide +kernel)
theorem wd_1030 : Cond.selects "SpinBenchModel" ⟨"SpinBenchModel", "number", "(II)J"⟩ ⟨"SpinBenchModel", "number", "(II)J"⟩ ∈ gw_All := gw_in 1030 (by decide +kernel) (by decide +kernel)
set_option maxRecDepth 100000 in
theorem wd_1031 : Cond.code ⟨"SpinBenchModel", "number", "(II)J"⟩ prog_14_method_37_code 3 (some .long) ∈ gw_All := gw_in 1031 rfl rfl
theorem wd_1032 : Cond.methodLink "SpinBenchModel" 177 ⟨"SpinBenchModel", "isTerm", "(II)Z"⟩ ∈ gw_All := gw_in 1032 (by decide +kernel) (by decide +kernel)
theorem wd_1034 : Cond.instanceMethod ⟨"SpinBenchModel", "isTerm", "(II)Z"⟩ ∈ gw_All := gw_in 1034 (by decide +kernel) (by decide +kernel)
set_option maxRecDepth 100000 in
theorem wd_1035 : Cond.code ⟨"SpinBenchModel", "isTerm", "(II)Z"⟩ prog_14_method_36_code 3 (some .boolean) ∈ gw_All := gw_in 1035 rfl rfl
theorem wd_1036 : Cond.constantLong "SpinBenchModel" 180 (-1000001) ∈ gw_All := gw_in 1036 (by decide +kernel) (by decide +kernel)
theorem wd_1037 : Cond.methodLink "SpinBenchLaw" 77 ⟨"SpinBenchModel", "power", "(III)I"⟩ ∈ gw_All := gw_in 1037 (by decide +kernel) (by decide +kernel)
theorem wd_1038 : Cond.instanceMethod ⟨"SpinBenchModel", "power", "(III)I"⟩ ∈ gw_All := gw_in 1038 (by decide +kernel) (by decide +kernel)
theorem wd_1039 : Cond.selects "SpinBenchModel" ⟨"SpinBenchModel", "power", "(III)I"⟩ ⟨"SpinBenchModel", "power", "(III)I"⟩ ∈ gw_All := gw_in 1039 (by decide +kernel) (by decide +kernel)
set_option maxRecDepth 100000 in
theorem wd_1040 : Cond.code ⟨"SpinBenchModel", "power", "(III)I"⟩ prog_14_method_39_code 4 (some .int) ∈ gw_All := gw_in 1040 rfl rfl
theorem wd_1041 : Cond.methodLink "SpinBenchModel" 182 ⟨"SpinBenchModel", "powerOf", "(II)I"⟩ ∈ gw_All := gw_in 1041 (by decide +kernel) (by decide +kernel)
theorem wd_1042 : Cond.static ⟨"SpinBenchModel", "powerOf", "(II)I"⟩ ∈ gw_All := gw_in 1042 (by decide +kernel) (by decide +kernel)
set_option maxRecDepth 100000 in
theorem wd_1043 : Cond.code ⟨"SpinBenchModel", "powerOf", "(II)I"⟩ prog_14_method_38_code 2 (some .int) ∈ gw_All := gw_in 1043 rfl rfl
theorem wd_1044 : Cond.methodLink "SpinBenchLaw" 81 ⟨"SpinBenchModel", "same", "(II)I"⟩ ∈ gw_All := gw_in 1044 (by decide +kernel) (by decide +kernel)
theorem wd_1045 : Cond.instanceMethod ⟨"SpinBenchModel", "same", "(II)I"⟩ ∈ gw_All := gw_in 1045 (by decide +kernel) (by decide +kernel)
theorem wd_1046 : Cond.selects "SpinBenchModel" ⟨"SpinBenchModel", "same", "(II)I"⟩ ⟨"SpinBenchModel", "same", "(II)I"⟩ ∈ gw_All := gw_in 1046 (by decide +kernel) (by decide +kernel)
set_option maxRecDepth 100000 in
theorem wd_1047 : Cond.code ⟨"SpinBenchModel", "same", "(II)I"⟩ prog_14_method_40_code 7 (some .int) ∈ gw_All := gw_in 1047 rfl rfl
theorem wd_1048 : Cond.methodLink "SpinBenchLaw" 85 ⟨"SpinBenchModel", "product", "(III)I"⟩ ∈ gw_All := gw_in 1048 (by decide +kernel) (by decide +kernel)
theorem wd_1049 : Cond.instanceMethod ⟨"SpinBenchModel", "product", "(III)I"⟩ ∈ gw_All := gw_in 1049 (by decide +kernel) (by decide +kernel)
theorem wd_1050 : Cond.selects "SpinBenchModel" ⟨"SpinBenchModel", "product", "(III)I"⟩ ⟨"SpinBenchModel", "product", "(III)I"⟩ ∈ gw_All := gw_in 1050 (by decide +kernel) (by decide +kernel)
set_option maxRecDepth 100000 in
theorem wd_1051 : Cond.code ⟨"SpinBenchModel", "product", "(III)I"⟩ prog_14_method_42_code 16 (some .int) ∈ gw_All := gw_in 1051 rfl rfl
theorem wd_1052 : Cond.methodLink "SpinBenchModel" 185 ⟨"SpinBenchModel", "multiply", "(IIJ)Z"⟩ ∈ gw_All := gw_in 1052 (by decide +kernel) (by decide +kernel)
theorem wd_1054 : Cond.instanceMethod ⟨"SpinBenchModel", "multiply", "(IIJ)Z"⟩ ∈ gw_All := gw_in 1054 (by decide +kernel) (by decide +kernel)
set_option maxRecDepth 100000 in
theorem wd_1055 : Cond.code ⟨"SpinBenchModel", "multiply", "(IIJ)Z"⟩ prog_14_method_41_code 12 (some .boolean) ∈ gw_All := gw_in 1055 rfl rfl
theorem wd_1056 : Cond.methodLink "SpinBenchLaw" 90 ⟨"SpinBenchModel", "digest", "(I)J"⟩ ∈ gw_All := gw_in 1056 (by decide +kernel) (by decide +kernel)
theorem wd_1057 : Cond.instanceMethod ⟨"SpinBenchModel", "digest", "(I)J"⟩ ∈ gw_All := gw_in 1057 (by decide +kernel) (by decide +kernel)
theorem wd_1058 : Cond.selects "SpinBenchModel" ⟨"SpinBenchModel", "digest", "(I)J"⟩ ⟨"SpinBenchModel", "digest", "(I)J"⟩ ∈ gw_All := gw_in 1058 (by decide +kernel) (by decide +kernel)
set_option maxRecDepth 100000 in
theorem wd_1059 : Cond.code ⟨"SpinBenchModel", "digest", "(I)J"⟩ prog_14_method_43_code 7 (some .long) ∈ gw_All := gw_in 1059 rfl rfl
theorem wd_1060 : Cond.constantLong "SpinBenchModel" 189 17 ∈ gw_All := gw_in 1060 (by decide +kernel) (by decide +kernel)
theorem wd_1061 : Cond.constantLong "SpinBenchModel" 191 31 ∈ gw_All := gw_in 1061 (by decide +kernel) (by decide +kernel)
theorem wd_1062 : Cond.methodLink "SpinBenchLaw" 94 ⟨"SpinBenchModel", "pulse", "(III)I"⟩ ∈ gw_All := gw_in 1062 (by decide +kernel) (by decide +kernel)
theorem wd_1063 : Cond.instanceMethod ⟨"SpinBenchModel", "pulse", "(III)I"⟩ ∈ gw_All := gw_in 1063 (by decide +kernel) (by decide +kernel)
theorem wd_1064 : Cond.selects "SpinBenchModel" ⟨"SpinBenchModel", "pulse", "(III)I"⟩ ⟨"SpinBenchModel", "pulse", "(III)I"⟩ ∈ gw_All := gw_in 1064 (by decide +kernel) (by decide +kernel)
set_option maxRecDepth 100000 in
theorem wd_1065 : Cond.code ⟨"SpinBenchModel", "pulse", "(III)I"⟩ prog_14_method_46_code 4 (some .int) ∈ gw_All := gw_in 1065 rfl rfl
theorem wd_1066 : Cond.methodLink "SpinBenchModel" 196 ⟨"SpinBenchModel", "isPulse", "(III)Z"⟩ ∈ gw_All := gw_in 1066 (by decide +kernel) (by decide +kernel)
theorem wd_1068 : Cond.instanceMethod ⟨"SpinBenchModel", "isPulse", "(III)Z"⟩ ∈ gw_All := gw_in 1068 (by decide +kernel) (by decide +kernel)
set_option maxRecDepth 100000 in
theorem wd_1069 : Cond.code ⟨"SpinBenchModel", "isPulse", "(III)Z"⟩ prog_14_method_45_code 4 (some .boolean) ∈ gw_All := gw_in 1069 rfl rfl
theorem wd_1070 : Cond.methodLink "SpinBenchModel" 199 ⟨"SpinBenchModel", "come", "(IIIII)I"⟩ ∈ gw_All := gw_in 1070 (by decide +kernel) (by decide +kernel)
theorem wd_1072 : Cond.instanceMethod ⟨"SpinBenchModel", "come", "(IIIII)I"⟩ ∈ gw_All := gw_in 1072 (by decide +kernel) (by decide +kernel)
set_option maxRecDepth 100000 in
theorem wd_1073 : Cond.code ⟨"SpinBenchModel", "come", "(IIIII)I"⟩ prog_14_method_44_code 6 (some .int) ∈ gw_All := gw_in 1073 rfl rfl
theorem wd_1074 : Cond.methodLink "SpinBenchLaw" 99 ⟨"SpinBenchModel", "cycled", "(IIII)I"⟩ ∈ gw_All := gw_in 1074 (by decide +kernel) (by decide +kernel)
theorem wd_1075 : Cond.instanceMethod ⟨"SpinBenchModel", "cycled", "(IIII)I"⟩ ∈ gw_All := gw_in 1075 (by decide +kernel) (by decide +kernel)
theorem wd_1076 : Cond.selects "SpinBenchModel" ⟨"SpinBenchModel", "cycled", "(IIII)I"⟩ ⟨"SpinBenchModel", "cycled", "(IIII)I"⟩ ∈ gw_All := gw_in 1076 (by decide +kernel) (by decide +kernel)
set_option maxRecDepth 100000 in
theorem wd_1077 : Cond.code ⟨"SpinBenchModel", "cycled", "(IIII)I"⟩ prog_14_method_47_code 5 (some .int) ∈ gw_All := gw_in 1077 rfl rfl
theorem wd_1078 : Cond.methodLink "SpinBenchLaw" 103 ⟨"SpinBenchModel", "delay", "(III)I"⟩ ∈ gw_All := gw_in 1078 (by decide +kernel) (by decide +kernel)
theorem wd_1079 : Cond.instanceMethod ⟨"SpinBenchModel", "delay", "(III)I"⟩ ∈ gw_All := gw_in 1079 (by decide +kernel) (by decide +kernel)
theorem wd_1080 : Cond.selects "SpinBenchModel" ⟨"SpinBenchModel", "delay", "(III)I"⟩ ⟨"SpinBenchModel", "delay", "(III)I"⟩ ∈ gw_All := gw_in 1080 (by decide +kernel) (by decide +kernel)
set_option maxRecDepth 100000 in
theorem wd_1081 : Cond.code ⟨"SpinBenchModel", "delay", "(III)I"⟩ prog_14_method_48_code 4 (some .int) ∈ gw_All := gw_in 1081 rfl rfl
theorem wd_1082 : Cond.methodLink "SpinBenchLaw" 107 ⟨"SpinBenchModel", "round", "(I)I"⟩ ∈ gw_All := gw_in 1082 (by decide +kernel) (by decide +kernel)
theorem wd_1083 : Cond.instanceMethod ⟨"SpinBenchModel", "round", "(I)I"⟩ ∈ gw_All := gw_in 1083 (by decide +kernel) (by decide +kernel)
theorem wd_1084 : Cond.selects "SpinBenchModel" ⟨"SpinBenchModel", "round", "(I)I"⟩ ⟨"SpinBenchModel", "round", "(I)I"⟩ ∈ gw_All := gw_in 1084 (by decide +kernel) (by decide +kernel)
set_option maxRecDepth 100000 in
theorem wd_1085 : Cond.code ⟨"SpinBenchModel", "round", "(I)I"⟩ prog_14_method_49_code 3 (some .int) ∈ gw_All := gw_in 1085 rfl rfl
theorem wd_1086 : Cond.constantLong "SpinBenchModel" 203 8 ∈ gw_All := gw_in 1086 (by decide +kernel) (by decide +kernel)
theorem wd_1087 : Cond.constant "SpinBenchModel" 208 (-1000002) ∈ gw_All := gw_in 1087 (by decide +kernel) (by decide +kernel)
theorem wd_1088 : Cond.methodLink "SpinBenchLaw" 112 ⟨"SpinBenchModel", "end", "()I"⟩ ∈ gw_All := gw_in 1088 (by decide +kernel) (by decide +kernel)
theorem wd_1089 : Cond.instanceMethod ⟨"SpinBenchModel", "end", "()I"⟩ ∈ gw_All := gw_in 1089 (by decide +kernel) (by decide +kernel)
theorem wd_1090 : Cond.selects "SpinBenchModel" ⟨"SpinBenchModel", "end", "()I"⟩ ⟨"SpinBenchModel", "end", "()I"⟩ ∈ gw_All := gw_in 1090 (by decide +kernel) (by decide +kernel)
set_option maxRecDepth 100000 in
theorem wd_1091 : Cond.code ⟨"SpinBenchModel", "end", "()I"⟩ prog_14_method_50_code 2 (some .int) ∈ gw_All := gw_in 1091 rfl rfl
theorem wd_1092 : Cond.methodLink "SpinBenchLaw" 116 ⟨"SpinBenchModel", "store", "(II)I"⟩ ∈ gw_All := gw_in 1092 (by decide +kernel) (by decide +kernel)
theorem wd_1093 : Cond.instanceMethod ⟨"SpinBenchModel", "store", "(II)I"⟩ ∈ gw_All := gw_in 1093 (by decide +kernel) (by decide +kernel)
theorem wd_1094 : Cond.selects "SpinBenchModel" ⟨"SpinBenchModel", "store", "(II)I"⟩ ⟨"SpinBenchModel", "store", "(II)I"⟩ ∈ gw_All := gw_in 1094 (by decide +kernel) (by decide +kernel)
set_option maxRecDepth 100000 in
theorem wd_1095 : Cond.code ⟨"SpinBenchModel", "store", "(II)I"⟩ prog_14_method_51_code 3 (some .int) ∈ gw_All := gw_in 1095 rfl rfl
theorem wd_1096 : Cond.methodLink "SpinBenchLaw" 120 ⟨"SpinBenchModel", "back", "()I"⟩ ∈ gw_All := gw_in 1096 (by decide +kernel) (by decide +kernel)
theorem wd_1097 : Cond.instanceMethod ⟨"SpinBenchModel", "back", "()I"⟩ ∈ gw_All := gw_in 1097 (by decide +kernel) (by decide +kernel)
theorem wd_1098 : Cond.selects "SpinBenchModel" ⟨"SpinBenchModel", "back", "()I"⟩ ⟨"SpinBenchModel", "back", "()I"⟩ ∈ gw_All := gw_in 1098 (by decide +kernel) (by decide +kernel)
set_option maxRecDepth 100000 in
theorem wd_1099 : Cond.code ⟨"SpinBenchModel", "back", "()I"⟩ prog_14_method_52_code 1 (some .int) ∈ gw_All := gw_in 1099 rfl rfl
theorem wd_1100 : Cond.methodLink "SpinBenchLaw" 124 ⟨"SpinBenchModel", "kind", "(I)I"⟩ ∈ gw_All := gw_in 1100 (by decide +kernel) (by decide +kernel)
theorem wd_1101 : Cond.instanceMethod ⟨"SpinBenchModel", "kind", "(I)I"⟩ ∈ gw_All := gw_in 1101 (by decide +kernel) (by decide +kernel)
theorem wd_1102 : Cond.selects "SpinBenchModel" ⟨"SpinBenchModel", "kind", "(I)I"⟩ ⟨"SpinBenchModel", "kind", "(I)I"⟩ ∈ gw_All := gw_in 1102 (by decide +kernel) (by decide +kernel)
set_option maxRecDepth 100000 in
theorem wd_1103 : Cond.code ⟨"SpinBenchModel", "kind", "(I)I"⟩ prog_14_method_54_code 2 (some .int) ∈ gw_All := gw_in 1103 rfl rfl
theorem wd_1104 : Cond.methodLink "SpinBenchModel" 209 ⟨"SpinBenchModel", "isOp", "(I)Z"⟩ ∈ gw_All := gw_in 1104 (by decide +kernel) (by decide +kernel)
theorem wd_1106 : Cond.instanceMethod ⟨"SpinBenchModel", "isOp", "(I)Z"⟩ ∈ gw_All := gw_in 1106 (by decide +kernel) (by decide +kernel)
set_option maxRecDepth 100000 in
theorem wd_1107 : Cond.code ⟨"SpinBenchModel", "isOp", "(I)Z"⟩ prog_14_method_53_code 2 (some .boolean) ∈ gw_All := gw_in 1107 rfl rfl
theorem wd_1108 : Cond.methodLink "SpinBenchLaw" 128 ⟨"SpinBenchModel", "is", "(II)I"⟩ ∈ gw_All := gw_in 1108 (by decide +kernel) (by decide +kernel)
theorem wd_1109 : Cond.instanceMethod ⟨"SpinBenchModel", "is", "(II)I"⟩ ∈ gw_All := gw_in 1109 (by decide +kernel) (by decide +kernel)
theorem wd_1110 : Cond.selects "SpinBenchModel" ⟨"SpinBenchModel", "is", "(II)I"⟩ ⟨"SpinBenchModel", "is", "(II)I"⟩ ∈ gw_All := gw_in 1110 (by decide +kernel) (by decide +kernel)
set_option maxRecDepth 100000 in
theorem wd_1111 : Cond.code ⟨"SpinBenchModel", "is", "(II)I"⟩ prog_14_method_55_code 4 (some .int) ∈ gw_All := gw_in 1111 rfl rfl
theorem wd_1112 : Cond.methodLink "SpinBenchLaw" 132 ⟨"SpinBenchModel", "spins", "(I)I"⟩ ∈ gw_All := gw_in 1112 (by decide +kernel) (by decide +kernel)
theorem wd_1113 : Cond.instanceMethod ⟨"SpinBenchModel", "spins", "(I)I"⟩ ∈ gw_All := gw_in 1113 (by decide +kernel) (by decide +kernel)
theorem wd_1114 : Cond.selects "SpinBenchModel" ⟨"SpinBenchModel", "spins", "(I)I"⟩ ⟨"SpinBenchModel", "spins", "(I)I"⟩ ∈ gw_All := gw_in 1114 (by decide +kernel) (by decide +kernel)
set_option maxRecDepth 100000 in
theorem wd_1115 : Cond.code ⟨"SpinBenchModel", "spins", "(I)I"⟩ prog_14_method_56_code 2 (some .int) ∈ gw_All := gw_in 1115 rfl rfl
theorem wd_1116 : Cond.methodLink "SpinBenchLaw" 136 ⟨"SpinBenchModel", "ask", "(II)I"⟩ ∈ gw_All := gw_in 1116 (by decide +kernel) (by decide +kernel)
theorem wd_1117 : Cond.instanceMethod ⟨"SpinBenchModel", "ask", "(II)I"⟩ ∈ gw_All := gw_in 1117 (by decide +kernel) (by decide +kernel)
theorem wd_1118 : Cond.selects "SpinBenchModel" ⟨"SpinBenchModel", "ask", "(II)I"⟩ ⟨"SpinBenchModel", "ask", "(II)I"⟩ ∈ gw_All := gw_in 1118 (by decide +kernel) (by decide +kernel)
set_option maxRecDepth 100000 in
theorem wd_1119 : Cond.code ⟨"SpinBenchModel", "ask", "(II)I"⟩ prog_14_method_61_code 3 (some .int) ∈ gw_All := gw_in 1119 rfl rfl
theorem wd_1120 : Cond.methodLink "SpinBenchModel" 222 ⟨"SpinBenchModel", "cost", "(I)I"⟩ ∈ gw_All := gw_in 1120 (by decide +kernel) (by decide +kernel)
theorem wd_1122 : Cond.instanceMethod ⟨"SpinBenchModel", "cost", "(I)I"⟩ ∈ gw_All := gw_in 1122 (by decide +kernel) (by decide +kernel)
set_option maxRecDepth 100000 in
theorem wd_1123 : Cond.code ⟨"SpinBenchModel", "cost", "(I)I"⟩ prog_14_method_58_code 6 (some .int) ∈ gw_All := gw_in 1123 rfl rfl
theorem wd_1124 : Cond.methodLink "SpinBenchModel" 215 ⟨"SpinBenchModel", "begins", "(I)V"⟩ ∈ gw_All := gw_in 1124 (by decide +kernel) (by decide +kernel)
theorem wd_1126 : Cond.instanceMethod ⟨"SpinBenchModel", "begins", "(I)V"⟩ ∈ gw_All := gw_in 1126 (by decide +kernel) (by decide +kernel)
set_option maxRecDepth 100000 in
theorem wd_1127 : Cond.code ⟨"SpinBenchModel", "begins", "(I)V"⟩ prog_14_method_57_code 2 none ∈ gw_All := gw_in 1127 rfl rfl
theorem wd_1128 : Cond.methodLink "SpinBenchModel" 219 ⟨"SpinBenchModel", "mark2", "(I)I"⟩ ∈ gw_All := gw_in 1128 (by decide +kernel) (by decide +kernel)
theorem wd_1130 : Cond.instanceMethod ⟨"SpinBenchModel", "mark2", "(I)I"⟩ ∈ gw_All := gw_in 1130 (by decide +kernel) (by decide +kernel)
set_option maxRecDepth 100000 in
theorem wd_1131 : Cond.code ⟨"SpinBenchModel", "mark2", "(I)I"⟩ prog_14_method_59_code 2 (some .int) ∈ gw_All := gw_in 1131 rfl rfl
theorem wd_1132 : Cond.methodLink "SpinBenchModel" 225 ⟨"SpinBenchModel", "mark", "(I)I"⟩ ∈ gw_All := gw_in 1132 (by decide +kernel) (by decide +kernel)
theorem wd_1134 : Cond.instanceMethod ⟨"SpinBenchModel", "mark", "(I)I"⟩ ∈ gw_All := gw_in 1134 (by decide +kernel) (by decide +kernel)
set_option maxRecDepth 100000 in
theorem wd_1135 : Cond.code ⟨"SpinBenchModel", "mark", "(I)I"⟩ prog_14_method_60_code 4 (some .int) ∈ gw_All := gw_in 1135 rfl rfl
theorem wd_1136 : Cond.methodLink "SpinBenchLaw" 140 ⟨"SpinBenchModel", "trace", "(I)I"⟩ ∈ gw_All := gw_in 1136 (by decide +kernel) (by decide +kernel)
theorem wd_1137 : Cond.instanceMethod ⟨"SpinBenchModel", "trace", "(I)I"⟩ ∈ gw_All := gw_in 1137 (by decide +kernel) (by decide +kernel)
theorem wd_1138 : Cond.selects "SpinBenchModel" ⟨"SpinBenchModel", "trace", "(I)I"⟩ ⟨"SpinBenchModel", "trace", "(I)I"⟩ ∈ gw_All := gw_in 1138 (by decide +kernel) (by decide +kernel)
set_option maxRecDepth 100000 in
theorem wd_1139 : Cond.code ⟨"SpinBenchModel", "trace", "(I)I"⟩ prog_14_method_62_code 2 (some .int) ∈ gw_All := gw_in 1139 rfl rfl
theorem wd_1140 : Cond.methodLink "SpinBenchLaw" 144 ⟨"SpinBenchModel", "run", "()I"⟩ ∈ gw_All := gw_in 1140 (by decide +kernel) (by decide +kernel)
theorem wd_1141 : Cond.instanceMethod ⟨"SpinBenchModel", "run", "()I"⟩ ∈ gw_All := gw_in 1141 (by decide +kernel) (by decide +kernel)
theorem wd_1142 : Cond.selects "SpinBenchModel" ⟨"SpinBenchModel", "run", "()I"⟩ ⟨"SpinBenchModel", "run", "()I"⟩ ∈ gw_All := gw_in 1142 (by decide +kernel) (by decide +kernel)
set_option maxRecDepth 100000 in
theorem wd_1143 : Cond.code ⟨"SpinBenchModel", "run", "()I"⟩ prog_14_method_65_code 4 (some .int) ∈ gw_All := gw_in 1143 rfl rfl
theorem wd_1144 : Cond.methodLink "SpinBenchModel" 237 ⟨"SpinBenchModel", "does", "(I)I"⟩ ∈ gw_All := gw_in 1144 (by decide +kernel) (by decide +kernel)
theorem wd_1146 : Cond.instanceMethod ⟨"SpinBenchModel", "does", "(I)I"⟩ ∈ gw_All := gw_in 1146 (by decide +kernel) (by decide +kernel)
set_option maxRecDepth 100000 in
theorem wd_1147 : Cond.code ⟨"SpinBenchModel", "does", "(I)I"⟩ prog_14_method_64_code 4 (some .int) ∈ gw_All := gw_in 1147 rfl rfl
theorem wd_1148 : Cond.methodLink "SpinBenchModel" 228 ⟨"SpinBenchModel", "doPulse", "(II)V"⟩ ∈ gw_All := gw_in 1148 (by decide +kernel) (by decide +kernel)
theorem wd_1150 : Cond.instanceMethod ⟨"SpinBenchModel", "doPulse", "(II)V"⟩ ∈ gw_All := gw_in 1150 (by decide +kernel) (by decide +kernel)
set_option maxRecDepth 100000 in
theorem wd_1151 : Cond.code ⟨"SpinBenchModel", "doPulse", "(II)V"⟩ prog_14_method_63_code 5 none ∈ gw_All := gw_in 1151 rfl rfl
theorem wd_1152 : Cond.methodLink "SpinBenchLaw" 148 ⟨"SpinBenchModel", "told", "(I)I"⟩ ∈ gw_All := gw_in 1152 (by decide +kernel) (by decide +kernel)
theorem wd_1153 : Cond.instanceMethod ⟨"SpinBenchModel", "told", "(I)I"⟩ ∈ gw_All := gw_in 1153 (by decide +kernel) (by decide +kernel)
theorem wd_1154 : Cond.selects "SpinBenchModel" ⟨"SpinBenchModel", "told", "(I)I"⟩ ⟨"SpinBenchModel", "told", "(I)I"⟩ ∈ gw_All := gw_in 1154 (by decide +kernel) (by decide +kernel)
set_option maxRecDepth 100000 in
theorem wd_1155 : Cond.code ⟨"SpinBenchModel", "told", "(I)I"⟩ prog_14_method_66_code 2 (some .int) ∈ gw_All := gw_in 1155 rfl rfl
theorem wd_1156 : Cond.methodLink "SpinBenchLaw" 152 ⟨"SpinBenchModel", "count", "(I)I"⟩ ∈ gw_All := gw_in 1156 (by decide +kernel) (by decide +kernel)
theorem wd_1157 : Cond.instanceMethod ⟨"SpinBenchModel", "count", "(I)I"⟩ ∈ gw_All := gw_in 1157 (by decide +kernel) (by decide +kernel)
theorem wd_1158 : Cond.selects "SpinBenchModel" ⟨"SpinBenchModel", "count", "(I)I"⟩ ⟨"SpinBenchModel", "count", "(I)I"⟩ ∈ gw_All := gw_in 1158 (by decide +kernel) (by decide +kernel)
set_option maxRecDepth 100000 in
theorem wd_1159 : Cond.code ⟨"SpinBenchModel", "count", "(I)I"⟩ prog_14_method_67_code 4 (some .int) ∈ gw_All := gw_in 1159 rfl rfl
theorem wd_1160 : Cond.methodLink "SpinBenchLaw" 156 ⟨"SpinBenchModel", "status", "()I"⟩ ∈ gw_All := gw_in 1160 (by decide +kernel) (by decide +kernel)
theorem wd_1161 : Cond.instanceMethod ⟨"SpinBenchModel", "status", "()I"⟩ ∈ gw_All := gw_in 1161 (by decide +kernel) (by decide +kernel)
theorem wd_1162 : Cond.selects "SpinBenchModel" ⟨"SpinBenchModel", "status", "()I"⟩ ⟨"SpinBenchModel", "status", "()I"⟩ ∈ gw_All := gw_in 1162 (by decide +kernel) (by decide +kernel)
set_option maxRecDepth 100000 in
theorem wd_1163 : Cond.code ⟨"SpinBenchModel", "status", "()I"⟩ prog_14_method_68_code 1 (some .int) ∈ gw_All := gw_in 1163 rfl rfl
theorem wd_1164 : Cond.sameMethod "SpinBench$Lead" "SpinBench$Lead" "isOfKind" "(I)Z" ∈ gw_All := gw_in 1164 (by decide +kernel) (by decide +kernel)
theorem wd_1165 : Cond.sameMethod "SpinBench$Pulse" "SpinBench$Pulse" "cost" "(LSpinBench;)I" ∈ gw_All := gw_in 1165 (by decide +kernel) (by decide +kernel)
theorem wd_1166 : Cond.sameMethod "SpinBench$Lead" "SpinBench$Lead" "cost" "(LSpinBench;)I" ∈ gw_All := gw_in 1166 (by decide +kernel) (by decide +kernel)
theorem wd_1167 : Cond.sameMethod "SpinBench$Lead" "SpinBench$Lead" "mark" "(LSpinBench;)I" ∈ gw_All := gw_in 1167 (by decide +kernel) (by decide +kernel)
theorem wd_1168 : Cond.selects "SpinBench$Cycled" ⟨"SpinBench$Lead", "cost", "(LSpinBench;)I"⟩ ⟨"SpinBench$Cycled", "cost", "(LSpinBench;)I"⟩ ∈ gw_All := gw_in 1168 (by decide +kernel) (by decide +kernel)
theorem wd_1169 : Cond.selects "SpinBench$Delay" ⟨"SpinBench$Lead", "cost", "(LSpinBench;)I"⟩ ⟨"SpinBench$Lead", "cost", "(LSpinBench;)I"⟩ ∈ gw_All := gw_in 1169 (by decide +kernel) (by decide +kernel)
theorem wd_1170 : Cond.selects "SpinBench$Pulse" ⟨"SpinBench$Lead", "cost", "(LSpinBench;)I"⟩ ⟨"SpinBench$Pulse", "cost", "(LSpinBench;)I"⟩ ∈ gw_All := gw_in 1170 (by decide +kernel) (by decide +kernel)
theorem wd_1171 : Cond.sameMethod "SpinBench$Pulse" "SpinBench$Pulse" "turnSpins" "(LSpinBench;I)I" ∈ gw_All := gw_in 1171 (by decide +kernel) (by decide +kernel)
theorem wd_1172 : Cond.selects "SpinBench$Cycled" ⟨"SpinBench$Pulse", "turnSpins", "(LSpinBench;I)I"⟩ ⟨"SpinBench$Pulse", "turnSpins", "(LSpinBench;I)I"⟩ ∈ gw_All := gw_in 1172 (by decide +kernel) (by decide +kernel)
theorem wd_1173 : Cond.selects "SpinBench$Pulse" ⟨"SpinBench$Pulse", "turnSpins", "(LSpinBench;I)I"⟩ ⟨"SpinBench$Pulse", "turnSpins", "(LSpinBench;I)I"⟩ ∈ gw_All := gw_in 1173 (by decide +kernel) (by decide +kernel)
theorem inX0 : ∀ w ∈ u_ws RX0 TX0 6, w ∈ gw_All := gw_in_r _ [523, 524, 525, 526, 527, 521] (by decide +kernel) (by decide +kernel)
theorem inX1 : ∀ w ∈ u_ws RX1 TX1 5, w ∈ gw_All := gw_in_r _ [548, 549, 542, 544, 546] (by decide +kernel) (by decide +kernel)
theorem inX2 : ∀ w ∈ u_ws RX2 TX2 2, w ∈ gw_All := gw_in_r _ [588, 589] (by decide +kernel) (by decide +kernel)
theorem inX4 : ∀ w ∈ u_ws RX4 TX4 8, w ∈ gw_All := gw_in_r _ [98, 100, 102, 104, 106, 108, 110, 112] (by decide +kernel) (by decide +kernel)
theorem inX6 : ∀ w ∈ u_ws RX6 TX6 5, w ∈ gw_All := gw_in_r _ [501, 503, 495, 497, 499] (by decide +kernel) (by decide +kernel)
theorem inX7 : ∀ w ∈ u_ws RX7 TX7 4, w ∈ gw_All := gw_in_r _ [575, 576, 571, 573] (by decide +kernel) (by decide +kernel)
theorem inX8 : ∀ w ∈ u_ws RX8 TX8 4, w ∈ gw_All := gw_in_r _ [607, 608, 603, 605] (by decide +kernel) (by decide +kernel)
theorem inX9 : ∀ w ∈ u_ws RX9 TX9 3, w ∈ gw_All := gw_in_r _ [142, 144, 146] (by decide +kernel) (by decide +kernel)
theorem inX10 : ∀ w ∈ u_ws RX10 TX10 4, w ∈ gw_All := gw_in_r _ [164, 166, 168, 170] (by decide +kernel) (by decide +kernel)
theorem inX11 : ∀ w ∈ u_ws RX11 TX11 15, w ∈ gw_All := gw_in_r _ [191, 193, 195, 197, 199, 201, 203, 205, 207, 209, 211, 213, 215, 217, 219] (by decide +kernel) (by decide +kernel)
theorem inX12 : ∀ w ∈ u_ws RX12 TX12 28, w ∈ gw_All := gw_in_r _ [834, 836, 838, 840, 842, 844, 846, 848, 850, 852, 854, 856, 858, 860, 862, 864, 866, 868, 870, 872, 874, 876, 878, 880, 882, 884, 886, 888] (by decide +kernel) (by decide +kernel)
theorem wd_c_min : Cond.code Lib.Math.min.name Lib.Math.min.code 2 (some .int) ∈ gw_All := gw_in 124 (by decide +kernel) (by decide +kernel)
theorem wd_c_max : Cond.code Lib.Math.max.name Lib.Math.max.code 2 (some .int) ∈ gw_All := gw_in 127 (by decide +kernel) (by decide +kernel)
theorem wd_c_abs : Cond.code Lib.MathLoose.abs_long.x Lib.MathLoose.abs_long.code 2 (some .long) ∈ gw_All := gw_in 321 (by decide +kernel) (by decide +kernel)
