-- ===== PART A: goes FIRST, ahead of the names: the tables' words, and 'selects' of the private methods out of them =====
/-- a private method of a class that the tables say can be made, by its rows of tables_1 -/
def lw_okq (q : MethodName × Nat) : Prop := (q.1.cls ≠ "java/lang/invoke/MethodHandle" ∧ q.1.cls ≠ "java/lang/invoke/VarHandle") ∧ Cond.instantiable q.1.cls q.2 ∈ tables_1 ∧ Cond.privateMethod q.1 ∈ tables_1 ∧ Cond.instanceMethod q.1 ∈ tables_1
theorem lw_p0 : lw_okq (⟨"SpinBench", "tableAt", "(I)LSpinBench$Table;"⟩, 15) := ⟨⟨by decide +kernel, by decide +kernel⟩, List.mem_of_getElem? (i := 19) (by decide +kernel), List.mem_of_getElem? (i := 171) (by decide +kernel), List.mem_of_getElem? (i := 172) (by decide +kernel)⟩
theorem lw_p1 : lw_okq (⟨"SpinBench", "found", "(I)I"⟩, 15) := ⟨⟨by decide +kernel, by decide +kernel⟩, List.mem_of_getElem? (i := 19) (by decide +kernel), List.mem_of_getElem? (i := 179) (by decide +kernel), List.mem_of_getElem? (i := 180) (by decide +kernel)⟩
theorem lw_p2 : lw_okq (⟨"SpinBench$Table", "make", "(II)V"⟩, 4) := ⟨⟨by decide +kernel, by decide +kernel⟩, List.mem_of_getElem? (i := 93) (by decide +kernel), List.mem_of_getElem? (i := 184) (by decide +kernel), List.mem_of_getElem? (i := 185) (by decide +kernel)⟩
theorem lw_p3 : lw_okq (⟨"SpinBench", "notFound", "(I)I"⟩, 15) := ⟨⟨by decide +kernel, by decide +kernel⟩, List.mem_of_getElem? (i := 19) (by decide +kernel), List.mem_of_getElem? (i := 191) (by decide +kernel), List.mem_of_getElem? (i := 192) (by decide +kernel)⟩
theorem lw_p4 : lw_okq (⟨"SpinBench$Table", "hasPlaces", "(II)Z"⟩, 4) := ⟨⟨by decide +kernel, by decide +kernel⟩, List.mem_of_getElem? (i := 93) (by decide +kernel), List.mem_of_getElem? (i := 199) (by decide +kernel), List.mem_of_getElem? (i := 200) (by decide +kernel)⟩
theorem lw_p5 : lw_okq (⟨"SpinBench$Table", "fitted", "(I)I"⟩, 4) := ⟨⟨by decide +kernel, by decide +kernel⟩, List.mem_of_getElem? (i := 93) (by decide +kernel), List.mem_of_getElem? (i := 203) (by decide +kernel), List.mem_of_getElem? (i := 204) (by decide +kernel)⟩
theorem lw_p6 : lw_okq (⟨"SpinBench", "sumAt", "(I)LSpinBench$Sum;"⟩, 15) := ⟨⟨by decide +kernel, by decide +kernel⟩, List.mem_of_getElem? (i := 19) (by decide +kernel), List.mem_of_getElem? (i := 222) (by decide +kernel), List.mem_of_getElem? (i := 223) (by decide +kernel)⟩
theorem lw_p7 : lw_okq (⟨"SpinBench", "isProduct", "(I)Z"⟩, 15) := ⟨⟨by decide +kernel, by decide +kernel⟩, List.mem_of_getElem? (i := 19) (by decide +kernel), List.mem_of_getElem? (i := 230) (by decide +kernel), List.mem_of_getElem? (i := 231) (by decide +kernel)⟩
theorem lw_p8 : lw_okq (⟨"SpinBench$Mixer", "begin", "()V"⟩, 8) := ⟨⟨by decide +kernel, by decide +kernel⟩, List.mem_of_getElem? (i := 29) (by decide +kernel), List.mem_of_getElem? (i := 234) (by decide +kernel), List.mem_of_getElem? (i := 235) (by decide +kernel)⟩
theorem lw_p9 : lw_okq (⟨"SpinBench$Mixer", "putSum", "(LSpinBench$Sum;I)V"⟩, 8) := ⟨⟨by decide +kernel, by decide +kernel⟩, List.mem_of_getElem? (i := 29) (by decide +kernel), List.mem_of_getElem? (i := 238) (by decide +kernel), List.mem_of_getElem? (i := 239) (by decide +kernel)⟩
theorem lw_p10 : lw_okq (⟨"SpinBench$Mixer", "put", "(IJ)V"⟩, 8) := ⟨⟨by decide +kernel, by decide +kernel⟩, List.mem_of_getElem? (i := 29) (by decide +kernel), List.mem_of_getElem? (i := 242) (by decide +kernel), List.mem_of_getElem? (i := 243) (by decide +kernel)⟩
theorem lw_p11 : lw_okq (⟨"SpinBench$Mixer", "enter", "(IIJ)V"⟩, 8) := ⟨⟨by decide +kernel, by decide +kernel⟩, List.mem_of_getElem? (i := 29) (by decide +kernel), List.mem_of_getElem? (i := 247) (by decide +kernel), List.mem_of_getElem? (i := 248) (by decide +kernel)⟩
theorem lw_p12 : lw_okq (⟨"SpinBench$Mixer", "settle", "(LSpinBench$Sum;)Z"⟩, 8) := ⟨⟨by decide +kernel, by decide +kernel⟩, List.mem_of_getElem? (i := 29) (by decide +kernel), List.mem_of_getElem? (i := 252) (by decide +kernel), List.mem_of_getElem? (i := 253) (by decide +kernel)⟩
theorem lw_p13 : lw_okq (⟨"SpinBench$Mixer", "dropZeros", "()V"⟩, 8) := ⟨⟨by decide +kernel, by decide +kernel⟩, List.mem_of_getElem? (i := 29) (by decide +kernel), List.mem_of_getElem? (i := 256) (by decide +kernel), List.mem_of_getElem? (i := 257) (by decide +kernel)⟩
theorem lw_p14 : lw_okq (⟨"SpinBench$Mixer", "isSum", "()Z"⟩, 8) := ⟨⟨by decide +kernel, by decide +kernel⟩, List.mem_of_getElem? (i := 29) (by decide +kernel), List.mem_of_getElem? (i := 260) (by decide +kernel), List.mem_of_getElem? (i := 261) (by decide +kernel)⟩
theorem lw_p15 : lw_okq (⟨"SpinBench$Mixer", "sort", "()V"⟩, 8) := ⟨⟨by decide +kernel, by decide +kernel⟩, List.mem_of_getElem? (i := 29) (by decide +kernel), List.mem_of_getElem? (i := 271) (by decide +kernel), List.mem_of_getElem? (i := 272) (by decide +kernel)⟩
def lw_privs_1 : List (MethodName × Nat) := [(⟨"SpinBench", "tableAt", "(I)LSpinBench$Table;"⟩, 15), (⟨"SpinBench", "found", "(I)I"⟩, 15), (⟨"SpinBench$Table", "make", "(II)V"⟩, 4), (⟨"SpinBench", "notFound", "(I)I"⟩, 15), (⟨"SpinBench$Table", "hasPlaces", "(II)Z"⟩, 4), (⟨"SpinBench$Table", "fitted", "(I)I"⟩, 4), (⟨"SpinBench", "sumAt", "(I)LSpinBench$Sum;"⟩, 15), (⟨"SpinBench", "isProduct", "(I)Z"⟩, 15), (⟨"SpinBench$Mixer", "begin", "()V"⟩, 8), (⟨"SpinBench$Mixer", "putSum", "(LSpinBench$Sum;I)V"⟩, 8), (⟨"SpinBench$Mixer", "put", "(IJ)V"⟩, 8), (⟨"SpinBench$Mixer", "enter", "(IIJ)V"⟩, 8), (⟨"SpinBench$Mixer", "settle", "(LSpinBench$Sum;)Z"⟩, 8), (⟨"SpinBench$Mixer", "dropZeros", "()V"⟩, 8), (⟨"SpinBench$Mixer", "isSum", "()Z"⟩, 8), (⟨"SpinBench$Mixer", "sort", "()V"⟩, 8)]
theorem lw_r1 : ∀ q ∈ lw_privs_1, lw_okq q := List.forall_mem_cons.mpr ⟨lw_p0, List.forall_mem_cons.mpr ⟨lw_p1, List.forall_mem_cons.mpr ⟨lw_p2, List.forall_mem_cons.mpr ⟨lw_p3, List.forall_mem_cons.mpr ⟨lw_p4, List.forall_mem_cons.mpr ⟨lw_p5, List.forall_mem_cons.mpr ⟨lw_p6, List.forall_mem_cons.mpr ⟨lw_p7, List.forall_mem_cons.mpr ⟨lw_p8, List.forall_mem_cons.mpr ⟨lw_p9, List.forall_mem_cons.mpr ⟨lw_p10, List.forall_mem_cons.mpr ⟨lw_p11, List.forall_mem_cons.mpr ⟨lw_p12, List.forall_mem_cons.mpr ⟨lw_p13, List.forall_mem_cons.mpr ⟨lw_p14, List.forall_mem_cons.mpr ⟨lw_p15, fun _ h => absurd h List.not_mem_nil⟩⟩⟩⟩⟩⟩⟩⟩⟩⟩⟩⟩⟩⟩⟩⟩
theorem lw_p16 : lw_okq (⟨"SpinBench$Mixer", "merge", "(III)V"⟩, 8) := ⟨⟨by decide +kernel, by decide +kernel⟩, List.mem_of_getElem? (i := 29) (by decide +kernel), List.mem_of_getElem? (i := 276) (by decide +kernel), List.mem_of_getElem? (i := 277) (by decide +kernel)⟩
theorem lw_p17 : lw_okq (⟨"SpinBench$Sum", "become", "(LSpinBench$Sum;)V"⟩, 3) := ⟨⟨by decide +kernel, by decide +kernel⟩, List.mem_of_getElem? (i := 72) (by decide +kernel), List.mem_of_getElem? (i := 286) (by decide +kernel), List.mem_of_getElem? (i := 287) (by decide +kernel)⟩
theorem lw_p18 : lw_okq (⟨"SpinBench$Mixer", "joinSums", "(LSpinBench$Sum;LSpinBench$Sum;I)Z"⟩, 8) := ⟨⟨by decide +kernel, by decide +kernel⟩, List.mem_of_getElem? (i := 29) (by decide +kernel), List.mem_of_getElem? (i := 295) (by decide +kernel), List.mem_of_getElem? (i := 296) (by decide +kernel)⟩
theorem lw_p19 : lw_okq (⟨"SpinBench", "turnByQuarters", "(II)Z"⟩, 15) := ⟨⟨by decide +kernel, by decide +kernel⟩, List.mem_of_getElem? (i := 19) (by decide +kernel), List.mem_of_getElem? (i := 306) (by decide +kernel), List.mem_of_getElem? (i := 307) (by decide +kernel)⟩
theorem lw_p20 : lw_okq (⟨"SpinBench", "turnByLetter", "(III)Z"⟩, 15) := ⟨⟨by decide +kernel, by decide +kernel⟩, List.mem_of_getElem? (i := 19) (by decide +kernel), List.mem_of_getElem? (i := 326) (by decide +kernel), List.mem_of_getElem? (i := 327) (by decide +kernel)⟩
theorem lw_p21 : lw_okq (⟨"SpinBench$Mixer", "putTimesSine", "(IIJ)V"⟩, 8) := ⟨⟨by decide +kernel, by decide +kernel⟩, List.mem_of_getElem? (i := 29) (by decide +kernel), List.mem_of_getElem? (i := 336) (by decide +kernel), List.mem_of_getElem? (i := 337) (by decide +kernel)⟩
theorem lw_p22 : lw_okq (⟨"SpinBench$Sum", "isLike", "(LSpinBench$Sum;)Z"⟩, 3) := ⟨⟨by decide +kernel, by decide +kernel⟩, List.mem_of_getElem? (i := 72) (by decide +kernel), List.mem_of_getElem? (i := 366) (by decide +kernel), List.mem_of_getElem? (i := 367) (by decide +kernel)⟩
theorem lw_p23 : lw_okq (⟨"SpinBench$Mixer", "multiply", "(LSpinBench$Sum;LSpinBench$Sum;LSpinBench$Sum;)Z"⟩, 8) := ⟨⟨by decide +kernel, by decide +kernel⟩, List.mem_of_getElem? (i := 29) (by decide +kernel), List.mem_of_getElem? (i := 374) (by decide +kernel), List.mem_of_getElem? (i := 375) (by decide +kernel)⟩
theorem lw_p24 : lw_okq (⟨"SpinBench$Mixer", "putRows", "(IIJ)Z"⟩, 8) := ⟨⟨by decide +kernel, by decide +kernel⟩, List.mem_of_getElem? (i := 29) (by decide +kernel), List.mem_of_getElem? (i := 382) (by decide +kernel), List.mem_of_getElem? (i := 383) (by decide +kernel)⟩
theorem lw_p25 : lw_okq (⟨"SpinBench", "isPulse", "(III)Z"⟩, 15) := ⟨⟨by decide +kernel, by decide +kernel⟩, List.mem_of_getElem? (i := 19) (by decide +kernel), List.mem_of_getElem? (i := 406) (by decide +kernel), List.mem_of_getElem? (i := 407) (by decide +kernel)⟩
theorem lw_p26 : lw_okq (⟨"SpinBench", "append", "(LSpinBench$Op;)I"⟩, 15) := ⟨⟨by decide +kernel, by decide +kernel⟩, List.mem_of_getElem? (i := 19) (by decide +kernel), List.mem_of_getElem? (i := 451) (by decide +kernel), List.mem_of_getElem? (i := 452) (by decide +kernel)⟩
theorem lw_p27 : lw_okq (⟨"SpinBench", "openRounds", "()I"⟩, 15) := ⟨⟨by decide +kernel, by decide +kernel⟩, List.mem_of_getElem? (i := 19) (by decide +kernel), List.mem_of_getElem? (i := 500) (by decide +kernel), List.mem_of_getElem? (i := 501) (by decide +kernel)⟩
theorem lw_p28 : lw_okq (⟨"SpinBench", "opAt", "(I)LSpinBench$Op;"⟩, 15) := ⟨⟨by decide +kernel, by decide +kernel⟩, List.mem_of_getElem? (i := 19) (by decide +kernel), List.mem_of_getElem? (i := 559) (by decide +kernel), List.mem_of_getElem? (i := 560) (by decide +kernel)⟩
theorem lw_p29 : lw_okq (⟨"SpinBench", "leaveBody", "(I)V"⟩, 15) := ⟨⟨by decide +kernel, by decide +kernel⟩, List.mem_of_getElem? (i := 19) (by decide +kernel), List.mem_of_getElem? (i := 623) (by decide +kernel), List.mem_of_getElem? (i := 624) (by decide +kernel)⟩
theorem lw_p30 : lw_okq (⟨"SpinBench", "presentTables", "()I"⟩, 15) := ⟨⟨by decide +kernel, by decide +kernel⟩, List.mem_of_getElem? (i := 19) (by decide +kernel), List.mem_of_getElem? (i := 729) (by decide +kernel), List.mem_of_getElem? (i := 730) (by decide +kernel)⟩
theorem lw_p31 : lw_okq (⟨"SpinBench", "allTerms", "()I"⟩, 15) := ⟨⟨by decide +kernel, by decide +kernel⟩, List.mem_of_getElem? (i := 19) (by decide +kernel), List.mem_of_getElem? (i := 733) (by decide +kernel), List.mem_of_getElem? (i := 734) (by decide +kernel)⟩
def lw_privs_2 : List (MethodName × Nat) := [(⟨"SpinBench$Mixer", "merge", "(III)V"⟩, 8), (⟨"SpinBench$Sum", "become", "(LSpinBench$Sum;)V"⟩, 3), (⟨"SpinBench$Mixer", "joinSums", "(LSpinBench$Sum;LSpinBench$Sum;I)Z"⟩, 8), (⟨"SpinBench", "turnByQuarters", "(II)Z"⟩, 15), (⟨"SpinBench", "turnByLetter", "(III)Z"⟩, 15), (⟨"SpinBench$Mixer", "putTimesSine", "(IIJ)V"⟩, 8), (⟨"SpinBench$Sum", "isLike", "(LSpinBench$Sum;)Z"⟩, 3), (⟨"SpinBench$Mixer", "multiply", "(LSpinBench$Sum;LSpinBench$Sum;LSpinBench$Sum;)Z"⟩, 8), (⟨"SpinBench$Mixer", "putRows", "(IIJ)Z"⟩, 8), (⟨"SpinBench", "isPulse", "(III)Z"⟩, 15), (⟨"SpinBench", "append", "(LSpinBench$Op;)I"⟩, 15), (⟨"SpinBench", "openRounds", "()I"⟩, 15), (⟨"SpinBench", "opAt", "(I)LSpinBench$Op;"⟩, 15), (⟨"SpinBench", "leaveBody", "(I)V"⟩, 15), (⟨"SpinBench", "presentTables", "()I"⟩, 15), (⟨"SpinBench", "allTerms", "()I"⟩, 15)]
theorem lw_r2 : ∀ q ∈ lw_privs_2, lw_okq q := List.forall_mem_cons.mpr ⟨lw_p16, List.forall_mem_cons.mpr ⟨lw_p17, List.forall_mem_cons.mpr ⟨lw_p18, List.forall_mem_cons.mpr ⟨lw_p19, List.forall_mem_cons.mpr ⟨lw_p20, List.forall_mem_cons.mpr ⟨lw_p21, List.forall_mem_cons.mpr ⟨lw_p22, List.forall_mem_cons.mpr ⟨lw_p23, List.forall_mem_cons.mpr ⟨lw_p24, List.forall_mem_cons.mpr ⟨lw_p25, List.forall_mem_cons.mpr ⟨lw_p26, List.forall_mem_cons.mpr ⟨lw_p27, List.forall_mem_cons.mpr ⟨lw_p28, List.forall_mem_cons.mpr ⟨lw_p29, List.forall_mem_cons.mpr ⟨lw_p30, List.forall_mem_cons.mpr ⟨lw_p31, fun _ h => absurd h List.not_mem_nil⟩⟩⟩⟩⟩⟩⟩⟩⟩⟩⟩⟩⟩⟩⟩⟩
theorem lw_p32 : lw_okq (⟨"SpinBenchModel", "finds", "(I)I"⟩, 28) := ⟨⟨by decide +kernel, by decide +kernel⟩, List.mem_of_getElem? (i := 744) (by decide +kernel), List.mem_of_getElem? (i := 849) (by decide +kernel), List.mem_of_getElem? (i := 850) (by decide +kernel)⟩
theorem lw_p33 : lw_okq (⟨"SpinBenchModel", "well", "(I)I"⟩, 28) := ⟨⟨by decide +kernel, by decide +kernel⟩, List.mem_of_getElem? (i := 744) (by decide +kernel), List.mem_of_getElem? (i := 854) (by decide +kernel), List.mem_of_getElem? (i := 855) (by decide +kernel)⟩
theorem lw_p34 : lw_okq (⟨"SpinBenchModel", "isProduct", "(I)Z"⟩, 28) := ⟨⟨by decide +kernel, by decide +kernel⟩, List.mem_of_getElem? (i := 744) (by decide +kernel), List.mem_of_getElem? (i := 885) (by decide +kernel), List.mem_of_getElem? (i := 886) (by decide +kernel)⟩
theorem lw_p35 : lw_okq (⟨"SpinBenchModel", "putAll", "(IJ)V"⟩, 28) := ⟨⟨by decide +kernel, by decide +kernel⟩, List.mem_of_getElem? (i := 744) (by decide +kernel), List.mem_of_getElem? (i := 889) (by decide +kernel), List.mem_of_getElem? (i := 890) (by decide +kernel)⟩
theorem lw_p36 : lw_okq (⟨"SpinBenchModel", "put", "(IJ)V"⟩, 28) := ⟨⟨by decide +kernel, by decide +kernel⟩, List.mem_of_getElem? (i := 744) (by decide +kernel), List.mem_of_getElem? (i := 893) (by decide +kernel), List.mem_of_getElem? (i := 894) (by decide +kernel)⟩
theorem lw_p37 : lw_okq (⟨"SpinBenchModel", "kept", "(I)I"⟩, 28) := ⟨⟨by decide +kernel, by decide +kernel⟩, List.mem_of_getElem? (i := 744) (by decide +kernel), List.mem_of_getElem? (i := 897) (by decide +kernel), List.mem_of_getElem? (i := 898) (by decide +kernel)⟩
theorem lw_p38 : lw_okq (⟨"SpinBenchModel", "keep", "(I)Z"⟩, 28) := ⟨⟨by decide +kernel, by decide +kernel⟩, List.mem_of_getElem? (i := 744) (by decide +kernel), List.mem_of_getElem? (i := 901) (by decide +kernel), List.mem_of_getElem? (i := 902) (by decide +kernel)⟩
theorem lw_p39 : lw_okq (⟨"SpinBenchModel", "copySum", "(II)V"⟩, 28) := ⟨⟨by decide +kernel, by decide +kernel⟩, List.mem_of_getElem? (i := 744) (by decide +kernel), List.mem_of_getElem? (i := 915) (by decide +kernel), List.mem_of_getElem? (i := 916) (by decide +kernel)⟩
theorem lw_p40 : lw_okq (⟨"SpinBenchModel", "joined", "(III)Z"⟩, 28) := ⟨⟨by decide +kernel, by decide +kernel⟩, List.mem_of_getElem? (i := 744) (by decide +kernel), List.mem_of_getElem? (i := 925) (by decide +kernel), List.mem_of_getElem? (i := 926) (by decide +kernel)⟩
theorem lw_p41 : lw_okq (⟨"SpinBenchModel", "turnQuarter", "(II)V"⟩, 28) := ⟨⟨by decide +kernel, by decide +kernel⟩, List.mem_of_getElem? (i := 744) (by decide +kernel), List.mem_of_getElem? (i := 933) (by decide +kernel), List.mem_of_getElem? (i := 934) (by decide +kernel)⟩
theorem lw_p42 : lw_okq (⟨"SpinBenchModel", "fits", "(II)Z"⟩, 28) := ⟨⟨by decide +kernel, by decide +kernel⟩, List.mem_of_getElem? (i := 744) (by decide +kernel), List.mem_of_getElem? (i := 940) (by decide +kernel), List.mem_of_getElem? (i := 941) (by decide +kernel)⟩
theorem lw_p43 : lw_okq (⟨"SpinBenchModel", "with", "(II)I"⟩, 28) := ⟨⟨by decide +kernel, by decide +kernel⟩, List.mem_of_getElem? (i := 744) (by decide +kernel), List.mem_of_getElem? (i := 944) (by decide +kernel), List.mem_of_getElem? (i := 945) (by decide +kernel)⟩
theorem lw_p44 : lw_okq (⟨"SpinBenchModel", "turnLetter", "(III)Z"⟩, 28) := ⟨⟨by decide +kernel, by decide +kernel⟩, List.mem_of_getElem? (i := 744) (by decide +kernel), List.mem_of_getElem? (i := 956) (by decide +kernel), List.mem_of_getElem? (i := 957) (by decide +kernel)⟩
theorem lw_p45 : lw_okq (⟨"SpinBenchModel", "isTerm", "(II)Z"⟩, 28) := ⟨⟨by decide +kernel, by decide +kernel⟩, List.mem_of_getElem? (i := 744) (by decide +kernel), List.mem_of_getElem? (i := 977) (by decide +kernel), List.mem_of_getElem? (i := 978) (by decide +kernel)⟩
theorem lw_p46 : lw_okq (⟨"SpinBenchModel", "multiply", "(IIJ)Z"⟩, 28) := ⟨⟨by decide +kernel, by decide +kernel⟩, List.mem_of_getElem? (i := 744) (by decide +kernel), List.mem_of_getElem? (i := 997) (by decide +kernel), List.mem_of_getElem? (i := 998) (by decide +kernel)⟩
theorem lw_p47 : lw_okq (⟨"SpinBenchModel", "isPulse", "(III)Z"⟩, 28) := ⟨⟨by decide +kernel, by decide +kernel⟩, List.mem_of_getElem? (i := 744) (by decide +kernel), List.mem_of_getElem? (i := 1011) (by decide +kernel), List.mem_of_getElem? (i := 1012) (by decide +kernel)⟩
def lw_privs_3 : List (MethodName × Nat) := [(⟨"SpinBenchModel", "finds", "(I)I"⟩, 28), (⟨"SpinBenchModel", "well", "(I)I"⟩, 28), (⟨"SpinBenchModel", "isProduct", "(I)Z"⟩, 28), (⟨"SpinBenchModel", "putAll", "(IJ)V"⟩, 28), (⟨"SpinBenchModel", "put", "(IJ)V"⟩, 28), (⟨"SpinBenchModel", "kept", "(I)I"⟩, 28), (⟨"SpinBenchModel", "keep", "(I)Z"⟩, 28), (⟨"SpinBenchModel", "copySum", "(II)V"⟩, 28), (⟨"SpinBenchModel", "joined", "(III)Z"⟩, 28), (⟨"SpinBenchModel", "turnQuarter", "(II)V"⟩, 28), (⟨"SpinBenchModel", "fits", "(II)Z"⟩, 28), (⟨"SpinBenchModel", "with", "(II)I"⟩, 28), (⟨"SpinBenchModel", "turnLetter", "(III)Z"⟩, 28), (⟨"SpinBenchModel", "isTerm", "(II)Z"⟩, 28), (⟨"SpinBenchModel", "multiply", "(IIJ)Z"⟩, 28), (⟨"SpinBenchModel", "isPulse", "(III)Z"⟩, 28)]
theorem lw_r3 : ∀ q ∈ lw_privs_3, lw_okq q := List.forall_mem_cons.mpr ⟨lw_p32, List.forall_mem_cons.mpr ⟨lw_p33, List.forall_mem_cons.mpr ⟨lw_p34, List.forall_mem_cons.mpr ⟨lw_p35, List.forall_mem_cons.mpr ⟨lw_p36, List.forall_mem_cons.mpr ⟨lw_p37, List.forall_mem_cons.mpr ⟨lw_p38, List.forall_mem_cons.mpr ⟨lw_p39, List.forall_mem_cons.mpr ⟨lw_p40, List.forall_mem_cons.mpr ⟨lw_p41, List.forall_mem_cons.mpr ⟨lw_p42, List.forall_mem_cons.mpr ⟨lw_p43, List.forall_mem_cons.mpr ⟨lw_p44, List.forall_mem_cons.mpr ⟨lw_p45, List.forall_mem_cons.mpr ⟨lw_p46, List.forall_mem_cons.mpr ⟨lw_p47, fun _ h => absurd h List.not_mem_nil⟩⟩⟩⟩⟩⟩⟩⟩⟩⟩⟩⟩⟩⟩⟩⟩
theorem lw_p48 : lw_okq (⟨"SpinBenchModel", "come", "(IIIII)I"⟩, 28) := ⟨⟨by decide +kernel, by decide +kernel⟩, List.mem_of_getElem? (i := 744) (by decide +kernel), List.mem_of_getElem? (i := 1015) (by decide +kernel), List.mem_of_getElem? (i := 1016) (by decide +kernel)⟩
theorem lw_p49 : lw_okq (⟨"SpinBenchModel", "isOp", "(I)Z"⟩, 28) := ⟨⟨by decide +kernel, by decide +kernel⟩, List.mem_of_getElem? (i := 744) (by decide +kernel), List.mem_of_getElem? (i := 1049) (by decide +kernel), List.mem_of_getElem? (i := 1050) (by decide +kernel)⟩
theorem lw_p50 : lw_okq (⟨"SpinBenchModel", "cost", "(I)I"⟩, 28) := ⟨⟨by decide +kernel, by decide +kernel⟩, List.mem_of_getElem? (i := 744) (by decide +kernel), List.mem_of_getElem? (i := 1065) (by decide +kernel), List.mem_of_getElem? (i := 1066) (by decide +kernel)⟩
theorem lw_p51 : lw_okq (⟨"SpinBenchModel", "begins", "(I)V"⟩, 28) := ⟨⟨by decide +kernel, by decide +kernel⟩, List.mem_of_getElem? (i := 744) (by decide +kernel), List.mem_of_getElem? (i := 1069) (by decide +kernel), List.mem_of_getElem? (i := 1070) (by decide +kernel)⟩
theorem lw_p52 : lw_okq (⟨"SpinBenchModel", "mark2", "(I)I"⟩, 28) := ⟨⟨by decide +kernel, by decide +kernel⟩, List.mem_of_getElem? (i := 744) (by decide +kernel), List.mem_of_getElem? (i := 1073) (by decide +kernel), List.mem_of_getElem? (i := 1074) (by decide +kernel)⟩
theorem lw_p53 : lw_okq (⟨"SpinBenchModel", "mark", "(I)I"⟩, 28) := ⟨⟨by decide +kernel, by decide +kernel⟩, List.mem_of_getElem? (i := 744) (by decide +kernel), List.mem_of_getElem? (i := 1077) (by decide +kernel), List.mem_of_getElem? (i := 1078) (by decide +kernel)⟩
theorem lw_p54 : lw_okq (⟨"SpinBenchModel", "does", "(I)I"⟩, 28) := ⟨⟨by decide +kernel, by decide +kernel⟩, List.mem_of_getElem? (i := 744) (by decide +kernel), List.mem_of_getElem? (i := 1089) (by decide +kernel), List.mem_of_getElem? (i := 1090) (by decide +kernel)⟩
theorem lw_p55 : lw_okq (⟨"SpinBenchModel", "doPulse", "(II)V"⟩, 28) := ⟨⟨by decide +kernel, by decide +kernel⟩, List.mem_of_getElem? (i := 744) (by decide +kernel), List.mem_of_getElem? (i := 1093) (by decide +kernel), List.mem_of_getElem? (i := 1094) (by decide +kernel)⟩
def lw_privs_4 : List (MethodName × Nat) := [(⟨"SpinBenchModel", "come", "(IIIII)I"⟩, 28), (⟨"SpinBenchModel", "isOp", "(I)Z"⟩, 28), (⟨"SpinBenchModel", "cost", "(I)I"⟩, 28), (⟨"SpinBenchModel", "begins", "(I)V"⟩, 28), (⟨"SpinBenchModel", "mark2", "(I)I"⟩, 28), (⟨"SpinBenchModel", "mark", "(I)I"⟩, 28), (⟨"SpinBenchModel", "does", "(I)I"⟩, 28), (⟨"SpinBenchModel", "doPulse", "(II)V"⟩, 28)]
theorem lw_r4 : ∀ q ∈ lw_privs_4, lw_okq q := List.forall_mem_cons.mpr ⟨lw_p48, List.forall_mem_cons.mpr ⟨lw_p49, List.forall_mem_cons.mpr ⟨lw_p50, List.forall_mem_cons.mpr ⟨lw_p51, List.forall_mem_cons.mpr ⟨lw_p52, List.forall_mem_cons.mpr ⟨lw_p53, List.forall_mem_cons.mpr ⟨lw_p54, List.forall_mem_cons.mpr ⟨lw_p55, fun _ h => absurd h List.not_mem_nil⟩⟩⟩⟩⟩⟩⟩⟩
def lw_privs : List (MethodName × Nat) := lw_privs_1 ++ (lw_privs_2 ++ (lw_privs_3 ++ (lw_privs_4)))
def lw_tbl : List Cond := k2_sels lw_privs ++ tables_1
theorem lw_privs_ok : ∀ q ∈ lw_privs, lw_okq q := by
  show ∀ q ∈ lw_privs_1 ++ (lw_privs_2 ++ (lw_privs_3 ++ (lw_privs_4))), lw_okq q
  exact List.forall_mem_append.mpr ⟨lw_r1, List.forall_mem_append.mpr ⟨lw_r2, List.forall_mem_append.mpr ⟨lw_r3, lw_r4⟩⟩⟩
def RX0 : String := "SpinBench$Cycled"
def TX0 : u_T := fun k => match k with
  | 0 => ("SpinBench$Pulse", "spinSet", "I", true)
  | 1 => ("SpinBench$Pulse", "phase", "I", true)
  | 2 => ("SpinBench$Pulse", "quarters", "I", true)
  | 3 => ("SpinBench$Op", "place", "I", true)
  | 4 => ("SpinBench$Op", "around", "LSpinBench$Round;", true)
  | _ => ("SpinBench$Cycled", "cycle", "I", true)
def tyX0 : Nat → FieldType := fun k => match k with
  | 0 => .int
  | 1 => .int
  | 2 => .int
  | 3 => .int
  | 4 => .object "SpinBench$Round"
  | _ => .int
abbrev wsX00 : List Cond := u_ws RX0 TX0 6
theorem nmX0 : ∀ a, a < 6 → ∀ b, b < 6 → a ≠ b → (TX0 a).2.1 ≠ (TX0 b).2.1 := by decide +kernel
theorem tyX0_ok : ∀ k, k < 6 → parseFieldDescriptor (TX0 k).2.2.1 = some (tyX0 k) := by decide +kernel
abbrev cX0_init : ByteArray := prog_2_method_1_code
def yX0_init : MethodName := ⟨RX0, "<init>", "(ILSpinBench$Round;IIII)V"⟩
abbrev cX0_ownKind : ByteArray := prog_2_method_2_code
def yX0_ownKind : MethodName := ⟨RX0, "ownKind", "()I"⟩
abbrev cX0_cost : ByteArray := prog_2_method_3_code
def yX0_cost : MethodName := ⟨RX0, "cost", "(LSpinBench;)I"⟩
abbrev cX0_mark : ByteArray := prog_2_method_4_code
def yX0_mark : MethodName := ⟨RX0, "mark", "(LSpinBench;)I"⟩
abbrev cX0_perform : ByteArray := prog_2_method_5_code
def yX0_perform : MethodName := ⟨RX0, "perform", "(LSpinBench;)I"⟩
def RX1 : String := "SpinBench$Delay"
def TX1 : u_T := fun k => match k with
  | 0 => ("SpinBench$Op", "place", "I", true)
  | 1 => ("SpinBench$Op", "around", "LSpinBench$Round;", true)
  | 2 => ("SpinBench$Delay", "about", "I", true)
  | 3 => ("SpinBench$Delay", "angle", "I", true)
  | _ => ("SpinBench$Delay", "way", "I", true)
def tyX1 : Nat → FieldType := fun k => match k with
  | 0 => .int
  | 1 => .object "SpinBench$Round"
  | 2 => .int
  | 3 => .int
  | _ => .int
abbrev wsX10 : List Cond := u_ws RX1 TX1 5
theorem nmX1 : ∀ a, a < 5 → ∀ b, b < 5 → a ≠ b → (TX1 a).2.1 ≠ (TX1 b).2.1 := by decide +kernel
theorem tyX1_ok : ∀ k, k < 5 → parseFieldDescriptor (TX1 k).2.2.1 = some (tyX1 k) := by decide +kernel
abbrev cX1_init : ByteArray := prog_3_method_1_code
def yX1_init : MethodName := ⟨RX1, "<init>", "(ILSpinBench$Round;III)V"⟩
abbrev cX1_ownKind : ByteArray := prog_3_method_2_code
def yX1_ownKind : MethodName := ⟨RX1, "ownKind", "()I"⟩
abbrev cX1_mark : ByteArray := prog_3_method_3_code
def yX1_mark : MethodName := ⟨RX1, "mark", "(LSpinBench;)I"⟩
abbrev cX1_perform : ByteArray := prog_3_method_4_code
def yX1_perform : MethodName := ⟨RX1, "perform", "(LSpinBench;)I"⟩
def RX2 : String := "SpinBench$End"
def TX2 : u_T := fun k => match k with
  | 0 => ("SpinBench$Op", "place", "I", true)
  | _ => ("SpinBench$Op", "around", "LSpinBench$Round;", true)
def tyX2 : Nat → FieldType := fun k => match k with
  | 0 => .int
  | _ => .object "SpinBench$Round"
abbrev wsX20 : List Cond := u_ws RX2 TX2 2
theorem nmX2 : ∀ a, a < 2 → ∀ b, b < 2 → a ≠ b → (TX2 a).2.1 ≠ (TX2 b).2.1 := by decide +kernel
theorem tyX2_ok : ∀ k, k < 2 → parseFieldDescriptor (TX2 k).2.2.1 = some (tyX2 k) := by decide +kernel
abbrev cX2_init : ByteArray := prog_4_method_1_code
def yX2_init : MethodName := ⟨RX2, "<init>", "(ILSpinBench$Round;)V"⟩
abbrev cX2_ownKind : ByteArray := prog_4_method_2_code
def yX2_ownKind : MethodName := ⟨RX2, "ownKind", "()I"⟩
abbrev cX2_perform : ByteArray := prog_4_method_3_code
def yX2_perform : MethodName := ⟨RX2, "perform", "(LSpinBench;)I"⟩
def RX3 : String := "SpinBench$Lead"
def TX3 : u_T := fun k => match k with
  | _ => ("", "", "", false)
def tyX3 : Nat → FieldType := fun k => match k with
  | _ => .int
abbrev wsX30 : List Cond := u_ws RX3 TX3 0
theorem nmX3 : ∀ a, a < 0 → ∀ b, b < 0 → a ≠ b → (TX3 a).2.1 ≠ (TX3 b).2.1 := by decide +kernel
theorem tyX3_ok : ∀ k, k < 0 → parseFieldDescriptor (TX3 k).2.2.1 = some (tyX3 k) := by decide +kernel
abbrev cX3_init : ByteArray := prog_5_method_1_code
def yX3_init : MethodName := ⟨RX3, "<init>", "(ILSpinBench$Round;)V"⟩
abbrev cX3_isOfKind : ByteArray := prog_5_method_2_code
def yX3_isOfKind : MethodName := ⟨RX3, "isOfKind", "(I)Z"⟩
abbrev cX3_cost : ByteArray := prog_5_method_3_code
def yX3_cost : MethodName := ⟨RX3, "cost", "(LSpinBench;)I"⟩
abbrev cX3_mark : ByteArray := prog_5_method_4_code
def yX3_mark : MethodName := ⟨RX3, "mark", "(LSpinBench;)I"⟩
def RX4 : String := "SpinBench$Mixer"
def TX4 : u_T := fun k => match k with
  | 0 => ("SpinBench$Mixer", "keys", "[I", false)
  | 1 => ("SpinBench$Mixer", "numbers", "[J", false)
  | 2 => ("SpinBench$Mixer", "spareKeys", "[I", false)
  | 3 => ("SpinBench$Mixer", "spareNumbers", "[J", false)
  | 4 => ("SpinBench$Mixer", "size", "I", false)
  | 5 => ("SpinBench$Mixer", "slots", "[I", true)
  | 6 => ("SpinBench$Mixer", "slotsUsed", "[I", true)
  | _ => ("SpinBench$Mixer", "used", "I", false)
def tyX4 : Nat → FieldType := fun k => match k with
  | 0 => .array .int
  | 1 => .array .long
  | 2 => .array .int
  | 3 => .array .long
  | 4 => .int
  | 5 => .array .int
  | 6 => .array .int
  | _ => .int
abbrev wsX40 : List Cond := u_ws RX4 TX4 8
theorem nmX4 : ∀ a, a < 8 → ∀ b, b < 8 → a ≠ b → (TX4 a).2.1 ≠ (TX4 b).2.1 := by decide +kernel
theorem tyX4_ok : ∀ k, k < 8 → parseFieldDescriptor (TX4 k).2.2.1 = some (tyX4 k) := by decide +kernel
abbrev cX4_init : ByteArray := prog_6_method_1_code
def yX4_init : MethodName := ⟨RX4, "<init>", "()V"⟩
abbrev cX4_begin : ByteArray := prog_6_method_2_code
def yX4_begin : MethodName := ⟨RX4, "begin", "()V"⟩
abbrev cX4_put : ByteArray := prog_6_method_3_code
def yX4_put : MethodName := ⟨RX4, "put", "(IJ)V"⟩
abbrev cX4_enter : ByteArray := prog_6_method_4_code
def yX4_enter : MethodName := ⟨RX4, "enter", "(IIJ)V"⟩
abbrev cX4_putSum : ByteArray := prog_6_method_5_code
def yX4_putSum : MethodName := ⟨RX4, "putSum", "(LSpinBench$Sum;I)V"⟩
abbrev cX4_putTimesSine : ByteArray := prog_6_method_6_code
def yX4_putTimesSine : MethodName := ⟨RX4, "putTimesSine", "(IIJ)V"⟩
abbrev cX4_joinSums : ByteArray := prog_6_method_7_code
def yX4_joinSums : MethodName := ⟨RX4, "joinSums", "(LSpinBench$Sum;LSpinBench$Sum;I)Z"⟩
abbrev cX4_multiply : ByteArray := prog_6_method_8_code
def yX4_multiply : MethodName := ⟨RX4, "multiply", "(LSpinBench$Sum;LSpinBench$Sum;LSpinBench$Sum;)Z"⟩
abbrev cX4_isBeyond : ByteArray := prog_6_method_9_code
def yX4_isBeyond : MethodName := ⟨RX4, "isBeyond", "(JJ)Z"⟩
abbrev cX4_putRows : ByteArray := prog_6_method_10_code
def yX4_putRows : MethodName := ⟨RX4, "putRows", "(IIJ)Z"⟩
abbrev cX4_squaredCosines : ByteArray := prog_6_method_11_code
def yX4_squaredCosines : MethodName := ⟨RX4, "squaredCosines", "(I)I"⟩
abbrev cX4_settle : ByteArray := prog_6_method_12_code
def yX4_settle : MethodName := ⟨RX4, "settle", "(LSpinBench$Sum;)Z"⟩
abbrev cX4_dropZeros : ByteArray := prog_6_method_13_code
def yX4_dropZeros : MethodName := ⟨RX4, "dropZeros", "()V"⟩
abbrev cX4_isSum : ByteArray := prog_6_method_14_code
def yX4_isSum : MethodName := ⟨RX4, "isSum", "()Z"⟩
abbrev cX4_sort : ByteArray := prog_6_method_15_code
def yX4_sort : MethodName := ⟨RX4, "sort", "()V"⟩
abbrev cX4_merge : ByteArray := prog_6_method_16_code
def yX4_merge : MethodName := ⟨RX4, "merge", "(III)V"⟩
def RX5 : String := "SpinBench$Op"
def TX5 : u_T := fun k => match k with
  | _ => ("", "", "", false)
def tyX5 : Nat → FieldType := fun k => match k with
  | _ => .int
abbrev wsX50 : List Cond := u_ws RX5 TX5 0
theorem nmX5 : ∀ a, a < 0 → ∀ b, b < 0 → a ≠ b → (TX5 a).2.1 ≠ (TX5 b).2.1 := by decide +kernel
theorem tyX5_ok : ∀ k, k < 0 → parseFieldDescriptor (TX5 k).2.2.1 = some (tyX5 k) := by decide +kernel
abbrev cX5_init : ByteArray := prog_7_method_1_code
def yX5_init : MethodName := ⟨RX5, "<init>", "(ILSpinBench$Round;)V"⟩
abbrev cX5_isOfKind : ByteArray := prog_7_method_4_code
def yX5_isOfKind : MethodName := ⟨RX5, "isOfKind", "(I)Z"⟩
abbrev cX5_cost : ByteArray := prog_7_method_5_code
def yX5_cost : MethodName := ⟨RX5, "cost", "(LSpinBench;)I"⟩
abbrev cX5_mark : ByteArray := prog_7_method_6_code
def yX5_mark : MethodName := ⟨RX5, "mark", "(LSpinBench;)I"⟩
def RX6 : String := "SpinBench$Pulse"
def TX6 : u_T := fun k => match k with
  | 0 => ("SpinBench$Op", "place", "I", true)
  | 1 => ("SpinBench$Op", "around", "LSpinBench$Round;", true)
  | 2 => ("SpinBench$Pulse", "spinSet", "I", true)
  | 3 => ("SpinBench$Pulse", "phase", "I", true)
  | _ => ("SpinBench$Pulse", "quarters", "I", true)
def tyX6 : Nat → FieldType := fun k => match k with
  | 0 => .int
  | 1 => .object "SpinBench$Round"
  | 2 => .int
  | 3 => .int
  | _ => .int
abbrev wsX60 : List Cond := u_ws RX6 TX6 5
theorem nmX6 : ∀ a, a < 5 → ∀ b, b < 5 → a ≠ b → (TX6 a).2.1 ≠ (TX6 b).2.1 := by decide +kernel
theorem tyX6_ok : ∀ k, k < 5 → parseFieldDescriptor (TX6 k).2.2.1 = some (tyX6 k) := by decide +kernel
abbrev cX6_init : ByteArray := prog_8_method_1_code
def yX6_init : MethodName := ⟨RX6, "<init>", "(ILSpinBench$Round;III)V"⟩
abbrev cX6_ownKind : ByteArray := prog_8_method_2_code
def yX6_ownKind : MethodName := ⟨RX6, "ownKind", "()I"⟩
abbrev cX6_isOfKind : ByteArray := prog_8_method_3_code
def yX6_isOfKind : MethodName := ⟨RX6, "isOfKind", "(I)Z"⟩
abbrev cX6_cost : ByteArray := prog_8_method_4_code
def yX6_cost : MethodName := ⟨RX6, "cost", "(LSpinBench;)I"⟩
abbrev cX6_perform : ByteArray := prog_8_method_5_code
def yX6_perform : MethodName := ⟨RX6, "perform", "(LSpinBench;)I"⟩
abbrev cX6_turnSpins : ByteArray := prog_8_method_6_code
def yX6_turnSpins : MethodName := ⟨RX6, "turnSpins", "(LSpinBench;I)I"⟩
def RX7 : String := "SpinBench$Round"
def TX7 : u_T := fun k => match k with
  | 0 => ("SpinBench$Op", "place", "I", true)
  | 1 => ("SpinBench$Op", "around", "LSpinBench$Round;", true)
  | 2 => ("SpinBench$Round", "often", "I", true)
  | _ => ("SpinBench$Round", "timesDone", "I", false)
def tyX7 : Nat → FieldType := fun k => match k with
  | 0 => .int
  | 1 => .object "SpinBench$Round"
  | 2 => .int
  | _ => .int
abbrev wsX70 : List Cond := u_ws RX7 TX7 4
theorem nmX7 : ∀ a, a < 4 → ∀ b, b < 4 → a ≠ b → (TX7 a).2.1 ≠ (TX7 b).2.1 := by decide +kernel
theorem tyX7_ok : ∀ k, k < 4 → parseFieldDescriptor (TX7 k).2.2.1 = some (tyX7 k) := by decide +kernel
abbrev cX7_init : ByteArray := prog_9_method_1_code
def yX7_init : MethodName := ⟨RX7, "<init>", "(ILSpinBench$Round;I)V"⟩
abbrev cX7_ownKind : ByteArray := prog_9_method_2_code
def yX7_ownKind : MethodName := ⟨RX7, "ownKind", "()I"⟩
abbrev cX7_cost : ByteArray := prog_9_method_3_code
def yX7_cost : MethodName := ⟨RX7, "cost", "(LSpinBench;)I"⟩
abbrev cX7_perform : ByteArray := prog_9_method_4_code
def yX7_perform : MethodName := ⟨RX7, "perform", "(LSpinBench;)I"⟩
def RX8 : String := "SpinBench$Store"
def TX8 : u_T := fun k => match k with
  | 0 => ("SpinBench$Op", "place", "I", true)
  | 1 => ("SpinBench$Op", "around", "LSpinBench$Round;", true)
  | 2 => ("SpinBench$Store", "shelf", "I", true)
  | _ => ("SpinBench$Store", "times", "I", true)
def tyX8 : Nat → FieldType := fun k => match k with
  | 0 => .int
  | 1 => .object "SpinBench$Round"
  | 2 => .int
  | _ => .int
abbrev wsX80 : List Cond := u_ws RX8 TX8 4
theorem nmX8 : ∀ a, a < 4 → ∀ b, b < 4 → a ≠ b → (TX8 a).2.1 ≠ (TX8 b).2.1 := by decide +kernel
theorem tyX8_ok : ∀ k, k < 4 → parseFieldDescriptor (TX8 k).2.2.1 = some (tyX8 k) := by decide +kernel
abbrev cX8_init : ByteArray := prog_10_method_1_code
def yX8_init : MethodName := ⟨RX8, "<init>", "(ILSpinBench$Round;II)V"⟩
abbrev cX8_ownKind : ByteArray := prog_10_method_2_code
def yX8_ownKind : MethodName := ⟨RX8, "ownKind", "()I"⟩
abbrev cX8_mark : ByteArray := prog_10_method_3_code
def yX8_mark : MethodName := ⟨RX8, "mark", "(LSpinBench;)I"⟩
abbrev cX8_perform : ByteArray := prog_10_method_4_code
def yX8_perform : MethodName := ⟨RX8, "perform", "(LSpinBench;)I"⟩
def RX9 : String := "SpinBench$Sum"
def TX9 : u_T := fun k => match k with
  | 0 => ("SpinBench$Sum", "keys", "[I", true)
  | 1 => ("SpinBench$Sum", "numbers", "[J", true)
  | _ => ("SpinBench$Sum", "size", "I", false)
def tyX9 : Nat → FieldType := fun k => match k with
  | 0 => .array .int
  | 1 => .array .long
  | _ => .int
abbrev wsX90 : List Cond := u_ws RX9 TX9 3
theorem nmX9 : ∀ a, a < 3 → ∀ b, b < 3 → a ≠ b → (TX9 a).2.1 ≠ (TX9 b).2.1 := by decide +kernel
theorem tyX9_ok : ∀ k, k < 3 → parseFieldDescriptor (TX9 k).2.2.1 = some (tyX9 k) := by decide +kernel
abbrev cX9_init : ByteArray := prog_11_method_1_code
def yX9_init : MethodName := ⟨RX9, "<init>", "()V"⟩
abbrev cX9_become : ByteArray := prog_11_method_2_code
def yX9_become : MethodName := ⟨RX9, "become", "(LSpinBench$Sum;)V"⟩
abbrev cX9_isLike : ByteArray := prog_11_method_3_code
def yX9_isLike : MethodName := ⟨RX9, "isLike", "(LSpinBench$Sum;)Z"⟩
def RX10 : String := "SpinBench$Table"
def TX10 : u_T := fun k => match k with
  | 0 => ("SpinBench$Table", "items", "[I", true)
  | 1 => ("SpinBench$Table", "missing", "Z", false)
  | 2 => ("SpinBench$Table", "lane", "I", false)
  | _ => ("SpinBench$Table", "size", "I", false)
def tyX10 : Nat → FieldType := fun k => match k with
  | 0 => .array .int
  | 1 => .boolean
  | 2 => .int
  | _ => .int
abbrev wsX100 : List Cond := u_ws RX10 TX10 4
theorem nmX10 : ∀ a, a < 4 → ∀ b, b < 4 → a ≠ b → (TX10 a).2.1 ≠ (TX10 b).2.1 := by decide +kernel
theorem tyX10_ok : ∀ k, k < 4 → parseFieldDescriptor (TX10 k).2.2.1 = some (tyX10 k) := by decide +kernel
abbrev cX10_init : ByteArray := prog_12_method_1_code
def yX10_init : MethodName := ⟨RX10, "<init>", "()V"⟩
abbrev cX10_make : ByteArray := prog_12_method_2_code
def yX10_make : MethodName := ⟨RX10, "make", "(II)V"⟩
abbrev cX10_hasPlaces : ByteArray := prog_12_method_3_code
def yX10_hasPlaces : MethodName := ⟨RX10, "hasPlaces", "(II)Z"⟩
abbrev cX10_fitted : ByteArray := prog_12_method_4_code
def yX10_fitted : MethodName := ⟨RX10, "fitted", "(I)I"⟩
def RX11 : String := "SpinBench"
def TX11 : u_T := fun k => match k with
  | 0 => ("SpinBench", "spinCount", "I", true)
  | 1 => ("SpinBench", "sums", "[LSpinBench$Sum;", true)
  | 2 => ("SpinBench", "sumsAhead", "[LSpinBench$Sum;", true)
  | 3 => ("SpinBench", "work", "LSpinBench$Sum;", true)
  | 4 => ("SpinBench", "mixer", "LSpinBench$Mixer;", true)
  | 5 => ("SpinBench", "tables", "[LSpinBench$Table;", true)
  | 6 => ("SpinBench", "program", "[LSpinBench$Op;", true)
  | 7 => ("SpinBench", "length", "I", false)
  | 8 => ("SpinBench", "latestOpen", "LSpinBench$Round;", false)
  | 9 => ("SpinBench", "next", "I", false)
  | 10 => ("SpinBench", "stepsDone", "I", false)
  | 11 => ("SpinBench", "lastBegun", "I", false)
  | 12 => ("SpinBench", "bodies", "[I", true)
  | 13 => ("SpinBench", "bodiesBegun", "I", false)
  | _ => ("SpinBench", "latestFinding", "I", false)
def tyX11 : Nat → FieldType := fun k => match k with
  | 0 => .int
  | 1 => .array (.object "SpinBench$Sum")
  | 2 => .array (.object "SpinBench$Sum")
  | 3 => .object "SpinBench$Sum"
  | 4 => .object "SpinBench$Mixer"
  | 5 => .array (.object "SpinBench$Table")
  | 6 => .array (.object "SpinBench$Op")
  | 7 => .int
  | 8 => .object "SpinBench$Round"
  | 9 => .int
  | 10 => .int
  | 11 => .int
  | 12 => .array .int
  | 13 => .int
  | _ => .int
abbrev wsX110 : List Cond := u_ws RX11 TX11 15
theorem nmX11 : ∀ a, a < 15 → ∀ b, b < 15 → a ≠ b → (TX11 a).2.1 ≠ (TX11 b).2.1 := by decide +kernel
theorem tyX11_ok : ∀ k, k < 15 → parseFieldDescriptor (TX11 k).2.2.1 = some (tyX11 k) := by decide +kernel
abbrev cX11_init : ByteArray := prog_1_method_1_code
def yX11_init : MethodName := ⟨RX11, "<init>", "(I)V"⟩
abbrev cX11_table : ByteArray := prog_1_method_2_code
def yX11_table : MethodName := ⟨RX11, "table", "(III)I"⟩
abbrev cX11_set : ByteArray := prog_1_method_3_code
def yX11_set : MethodName := ⟨RX11, "set", "(III)I"⟩
abbrev cX11_copy : ByteArray := prog_1_method_4_code
def yX11_copy : MethodName := ⟨RX11, "copy", "(IIIII)I"⟩
abbrev cX11_drop : ByteArray := prog_1_method_5_code
def yX11_drop : MethodName := ⟨RX11, "drop", "(I)I"⟩
abbrev cX11_clear : ByteArray := prog_1_method_6_code
def yX11_clear : MethodName := ⟨RX11, "clear", "(I)I"⟩
abbrev cX11_add : ByteArray := prog_1_method_7_code
def yX11_add : MethodName := ⟨RX11, "add", "(III)I"⟩
abbrev cX11_take : ByteArray := prog_1_method_8_code
def yX11_take : MethodName := ⟨RX11, "take", "(II)I"⟩
abbrev cX11_join : ByteArray := prog_1_method_9_code
def yX11_join : MethodName := ⟨RX11, "join", "(III)I"⟩
abbrev cX11_quarter : ByteArray := prog_1_method_10_code
def yX11_quarter : MethodName := ⟨RX11, "quarter", "(II)I"⟩
abbrev cX11_letter : ByteArray := prog_1_method_11_code
def yX11_letter : MethodName := ⟨RX11, "letter", "(III)I"⟩
abbrev cX11_terms : ByteArray := prog_1_method_12_code
def yX11_terms : MethodName := ⟨RX11, "terms", "(I)I"⟩
abbrev cX11_number : ByteArray := prog_1_method_13_code
def yX11_number : MethodName := ⟨RX11, "number", "(II)J"⟩
abbrev cX11_power : ByteArray := prog_1_method_14_code
def yX11_power : MethodName := ⟨RX11, "power", "(III)I"⟩
abbrev cX11_same : ByteArray := prog_1_method_15_code
def yX11_same : MethodName := ⟨RX11, "same", "(II)I"⟩
abbrev cX11_product : ByteArray := prog_1_method_16_code
def yX11_product : MethodName := ⟨RX11, "product", "(III)I"⟩
abbrev cX11_digest : ByteArray := prog_1_method_17_code
def yX11_digest : MethodName := ⟨RX11, "digest", "(I)J"⟩
abbrev cX11_pulse : ByteArray := prog_1_method_18_code
def yX11_pulse : MethodName := ⟨RX11, "pulse", "(III)I"⟩
abbrev cX11_cycled : ByteArray := prog_1_method_19_code
def yX11_cycled : MethodName := ⟨RX11, "cycled", "(IIII)I"⟩
abbrev cX11_delay : ByteArray := prog_1_method_20_code
def yX11_delay : MethodName := ⟨RX11, "delay", "(III)I"⟩
abbrev cX11_round : ByteArray := prog_1_method_21_code
def yX11_round : MethodName := ⟨RX11, "round", "(I)I"⟩
abbrev cX11_end : ByteArray := prog_1_method_22_code
def yX11_end : MethodName := ⟨RX11, "end", "()I"⟩
abbrev cX11_store : ByteArray := prog_1_method_23_code
def yX11_store : MethodName := ⟨RX11, "store", "(II)I"⟩
abbrev cX11_back : ByteArray := prog_1_method_24_code
def yX11_back : MethodName := ⟨RX11, "back", "()I"⟩
abbrev cX11_kind : ByteArray := prog_1_method_25_code
def yX11_kind : MethodName := ⟨RX11, "kind", "(I)I"⟩
abbrev cX11_is : ByteArray := prog_1_method_26_code
def yX11_is : MethodName := ⟨RX11, "is", "(II)I"⟩
abbrev cX11_spins : ByteArray := prog_1_method_27_code
def yX11_spins : MethodName := ⟨RX11, "spins", "(I)I"⟩
abbrev cX11_ask : ByteArray := prog_1_method_28_code
def yX11_ask : MethodName := ⟨RX11, "ask", "(II)I"⟩
abbrev cX11_trace : ByteArray := prog_1_method_29_code
def yX11_trace : MethodName := ⟨RX11, "trace", "(I)I"⟩
abbrev cX11_run : ByteArray := prog_1_method_30_code
def yX11_run : MethodName := ⟨RX11, "run", "()I"⟩
abbrev cX11_told : ByteArray := prog_1_method_31_code
def yX11_told : MethodName := ⟨RX11, "told", "(I)I"⟩
abbrev cX11_count : ByteArray := prog_1_method_32_code
def yX11_count : MethodName := ⟨RX11, "count", "(I)I"⟩
abbrev cX11_status : ByteArray := prog_1_method_33_code
def yX11_status : MethodName := ⟨RX11, "status", "()I"⟩
abbrev cX11_within : ByteArray := prog_1_method_34_code
def yX11_within : MethodName := ⟨RX11, "within", "(III)Z"⟩
abbrev cX11_isWay : ByteArray := prog_1_method_35_code
def yX11_isWay : MethodName := ⟨RX11, "isWay", "(I)Z"⟩
abbrev cX11_isProduct : ByteArray := prog_1_method_36_code
def yX11_isProduct : MethodName := ⟨RX11, "isProduct", "(I)Z"⟩
abbrev cX11_isPulse : ByteArray := prog_1_method_37_code
def yX11_isPulse : MethodName := ⟨RX11, "isPulse", "(III)Z"⟩
abbrev cX11_tableAt : ByteArray := prog_1_method_38_code
def yX11_tableAt : MethodName := ⟨RX11, "tableAt", "(I)LSpinBench$Table;"⟩
abbrev cX11_sumAt : ByteArray := prog_1_method_39_code
def yX11_sumAt : MethodName := ⟨RX11, "sumAt", "(I)LSpinBench$Sum;"⟩
abbrev cX11_opAt : ByteArray := prog_1_method_40_code
def yX11_opAt : MethodName := ⟨RX11, "opAt", "(I)LSpinBench$Op;"⟩
abbrev cX11_found : ByteArray := prog_1_method_41_code
def yX11_found : MethodName := ⟨RX11, "found", "(I)I"⟩
abbrev cX11_notFound : ByteArray := prog_1_method_42_code
def yX11_notFound : MethodName := ⟨RX11, "notFound", "(I)I"⟩
abbrev cX11_append : ByteArray := prog_1_method_43_code
def yX11_append : MethodName := ⟨RX11, "append", "(LSpinBench$Op;)I"⟩
abbrev cX11_presentTables : ByteArray := prog_1_method_44_code
def yX11_presentTables : MethodName := ⟨RX11, "presentTables", "()I"⟩
abbrev cX11_openRounds : ByteArray := prog_1_method_45_code
def yX11_openRounds : MethodName := ⟨RX11, "openRounds", "()I"⟩
abbrev cX11_allTerms : ByteArray := prog_1_method_46_code
def yX11_allTerms : MethodName := ⟨RX11, "allTerms", "()I"⟩
abbrev cX11_takeAll : ByteArray := prog_1_method_47_code
def yX11_takeAll : MethodName := ⟨RX11, "takeAll", "([LSpinBench$Sum;[LSpinBench$Sum;)V"⟩
abbrev cX11_leaveBody : ByteArray := prog_1_method_48_code
def yX11_leaveBody : MethodName := ⟨RX11, "leaveBody", "(I)V"⟩
abbrev cX11_signOf : ByteArray := prog_1_method_49_code
def yX11_signOf : MethodName := ⟨RX11, "signOf", "(II)I"⟩
abbrev cX11_withProduct : ByteArray := prog_1_method_50_code
def yX11_withProduct : MethodName := ⟨RX11, "withProduct", "(II)I"⟩
abbrev cX11_turnByQuarters : ByteArray := prog_1_method_51_code
def yX11_turnByQuarters : MethodName := ⟨RX11, "turnByQuarters", "(II)Z"⟩
abbrev cX11_turnByLetter : ByteArray := prog_1_method_52_code
def yX11_turnByLetter : MethodName := ⟨RX11, "turnByLetter", "(III)Z"⟩
abbrev cX11_productOf : ByteArray := prog_1_method_53_code
def yX11_productOf : MethodName := ⟨RX11, "productOf", "(I)I"⟩
abbrev cX11_oneSine : ByteArray := prog_1_method_54_code
def yX11_oneSine : MethodName := ⟨RX11, "oneSine", "(I)I"⟩
abbrev cX11_oneCosine : ByteArray := prog_1_method_55_code
def yX11_oneCosine : MethodName := ⟨RX11, "oneCosine", "(I)I"⟩
abbrev cX11_cosinesOf : ByteArray := prog_1_method_56_code
def yX11_cosinesOf : MethodName := ⟨RX11, "cosinesOf", "(II)I"⟩
abbrev cX11_sinesOf : ByteArray := prog_1_method_57_code
def yX11_sinesOf : MethodName := ⟨RX11, "sinesOf", "(II)I"⟩
abbrev cX11_powerOf : ByteArray := prog_1_method_58_code
def yX11_powerOf : MethodName := ⟨RX11, "powerOf", "(II)I"⟩
def RX12 : String := "SpinBenchModel"
def TX12 : u_T := fun k => match k with
  | 0 => ("SpinBenchModel", "spins", "I", true)
  | 1 => ("SpinBenchModel", "products", "I", true)
  | 2 => ("SpinBenchModel", "lane", "[I", true)
  | 3 => ("SpinBenchModel", "size", "[I", true)
  | 4 => ("SpinBenchModel", "item", "[I", true)
  | 5 => ("SpinBenchModel", "moving", "[I", true)
  | 6 => ("SpinBenchModel", "many", "[I", true)
  | 7 => ("SpinBenchModel", "key", "[I", true)
  | 8 => ("SpinBenchModel", "number", "[J", true)
  | 9 => ("SpinBenchModel", "made", "I", false)
  | 10 => ("SpinBenchModel", "madeKey", "[I", true)
  | 11 => ("SpinBenchModel", "madeNumber", "[J", true)
  | 12 => ("SpinBenchModel", "ops", "I", false)
  | 13 => ("SpinBenchModel", "kind", "[I", true)
  | 14 => ("SpinBenchModel", "set", "[I", true)
  | 15 => ("SpinBenchModel", "phase", "[I", true)
  | 16 => ("SpinBenchModel", "turns", "[I", true)
  | 17 => ("SpinBenchModel", "table", "[I", true)
  | 18 => ("SpinBenchModel", "notEnded", "I", false)
  | 19 => ("SpinBenchModel", "status", "I", false)
  | 20 => ("SpinBenchModel", "trace", "[I", true)
  | 21 => ("SpinBenchModel", "traced", "I", false)
  | 22 => ("SpinBenchModel", "steps", "I", false)
  | 23 => ("SpinBenchModel", "latest", "I", false)
  | 24 => ("SpinBenchModel", "sign", "I", false)
  | 25 => ("SpinBenchModel", "rounds", "I", false)
  | 26 => ("SpinBenchModel", "roundAt", "[I", true)
  | _ => ("SpinBenchModel", "roundDone", "[I", true)
def tyX12 : Nat → FieldType := fun k => match k with
  | 0 => .int
  | 1 => .int
  | 2 => .array .int
  | 3 => .array .int
  | 4 => .array .int
  | 5 => .array .int
  | 6 => .array .int
  | 7 => .array .int
  | 8 => .array .long
  | 9 => .int
  | 10 => .array .int
  | 11 => .array .long
  | 12 => .int
  | 13 => .array .int
  | 14 => .array .int
  | 15 => .array .int
  | 16 => .array .int
  | 17 => .array .int
  | 18 => .int
  | 19 => .int
  | 20 => .array .int
  | 21 => .int
  | 22 => .int
  | 23 => .int
  | 24 => .int
  | 25 => .int
  | 26 => .array .int
  | _ => .array .int
abbrev wsX120 : List Cond := u_ws RX12 TX12 28
theorem nmX12 : ∀ a, a < 28 → ∀ b, b < 28 → a ≠ b → (TX12 a).2.1 ≠ (TX12 b).2.1 := by decide +kernel
theorem tyX12_ok : ∀ k, k < 28 → parseFieldDescriptor (TX12 k).2.2.1 = some (tyX12 k) := by decide +kernel
abbrev cX12_init : ByteArray := prog_14_method_1_code
def yX12_init : MethodName := ⟨RX12, "<init>", "(I)V"⟩
abbrev cX12_in : ByteArray := prog_14_method_2_code
def yX12_in : MethodName := ⟨RX12, "in", "(JJJ)Z"⟩
abbrev cX12_finds : ByteArray := prog_14_method_3_code
def yX12_finds : MethodName := ⟨RX12, "finds", "(I)I"⟩
abbrev cX12_well : ByteArray := prog_14_method_4_code
def yX12_well : MethodName := ⟨RX12, "well", "(I)I"⟩
abbrev cX12_isTable : ByteArray := prog_14_method_5_code
def yX12_isTable : MethodName := ⟨RX12, "isTable", "(I)Z"⟩
abbrev cX12_table : ByteArray := prog_14_method_6_code
def yX12_table : MethodName := ⟨RX12, "table", "(III)I"⟩
abbrev cX12_set : ByteArray := prog_14_method_7_code
def yX12_set : MethodName := ⟨RX12, "set", "(III)I"⟩
abbrev cX12_copy : ByteArray := prog_14_method_8_code
def yX12_copy : MethodName := ⟨RX12, "copy", "(IIIII)I"⟩
abbrev cX12_drop : ByteArray := prog_14_method_9_code
def yX12_drop : MethodName := ⟨RX12, "drop", "(I)I"⟩
abbrev cX12_cosine : ByteArray := prog_14_method_10_code
def yX12_cosine : MethodName := ⟨RX12, "cosine", "(II)I"⟩
abbrev cX12_sine : ByteArray := prog_14_method_11_code
def yX12_sine : MethodName := ⟨RX12, "sine", "(II)I"⟩
abbrev cX12_oneCosine : ByteArray := prog_14_method_12_code
def yX12_oneCosine : MethodName := ⟨RX12, "oneCosine", "(I)I"⟩
abbrev cX12_oneSine : ByteArray := prog_14_method_13_code
def yX12_oneSine : MethodName := ⟨RX12, "oneSine", "(I)I"⟩
abbrev cX12_productOf : ByteArray := prog_14_method_14_code
def yX12_productOf : MethodName := ⟨RX12, "productOf", "(I)I"⟩
abbrev cX12_put : ByteArray := prog_14_method_15_code
def yX12_put : MethodName := ⟨RX12, "put", "(IJ)V"⟩
abbrev cX12_placeOf : ByteArray := prog_14_method_16_code
def yX12_placeOf : MethodName := ⟨RX12, "placeOf", "(I)I"⟩
abbrev cX12_isShelf : ByteArray := prog_14_method_17_code
def yX12_isShelf : MethodName := ⟨RX12, "isShelf", "(I)Z"⟩
abbrev cX12_isProduct : ByteArray := prog_14_method_18_code
def yX12_isProduct : MethodName := ⟨RX12, "isProduct", "(I)Z"⟩
abbrev cX12_keep : ByteArray := prog_14_method_19_code
def yX12_keep : MethodName := ⟨RX12, "keep", "(I)Z"⟩
abbrev cX12_putAll : ByteArray := prog_14_method_20_code
def yX12_putAll : MethodName := ⟨RX12, "putAll", "(IJ)V"⟩
abbrev cX12_copySum : ByteArray := prog_14_method_21_code
def yX12_copySum : MethodName := ⟨RX12, "copySum", "(II)V"⟩
abbrev cX12_kept : ByteArray := prog_14_method_22_code
def yX12_kept : MethodName := ⟨RX12, "kept", "(I)I"⟩
abbrev cX12_clear : ByteArray := prog_14_method_23_code
def yX12_clear : MethodName := ⟨RX12, "clear", "(I)I"⟩
abbrev cX12_add : ByteArray := prog_14_method_24_code
def yX12_add : MethodName := ⟨RX12, "add", "(III)I"⟩
abbrev cX12_take : ByteArray := prog_14_method_25_code
def yX12_take : MethodName := ⟨RX12, "take", "(II)I"⟩
abbrev cX12_join : ByteArray := prog_14_method_26_code
def yX12_join : MethodName := ⟨RX12, "join", "(III)I"⟩
abbrev cX12_joined : ByteArray := prog_14_method_27_code
def yX12_joined : MethodName := ⟨RX12, "joined", "(III)Z"⟩
abbrev cX12_fits : ByteArray := prog_14_method_28_code
def yX12_fits : MethodName := ⟨RX12, "fits", "(II)Z"⟩
abbrev cX12_with : ByteArray := prog_14_method_29_code
def yX12_with : MethodName := ⟨RX12, "with", "(II)I"⟩
abbrev cX12_turnQuarter : ByteArray := prog_14_method_30_code
def yX12_turnQuarter : MethodName := ⟨RX12, "turnQuarter", "(II)V"⟩
abbrev cX12_turnLetter : ByteArray := prog_14_method_31_code
def yX12_turnLetter : MethodName := ⟨RX12, "turnLetter", "(III)Z"⟩
abbrev cX12_quarter : ByteArray := prog_14_method_32_code
def yX12_quarter : MethodName := ⟨RX12, "quarter", "(II)I"⟩
abbrev cX12_isWay : ByteArray := prog_14_method_33_code
def yX12_isWay : MethodName := ⟨RX12, "isWay", "(I)Z"⟩
abbrev cX12_letter : ByteArray := prog_14_method_34_code
def yX12_letter : MethodName := ⟨RX12, "letter", "(III)I"⟩
abbrev cX12_terms : ByteArray := prog_14_method_35_code
def yX12_terms : MethodName := ⟨RX12, "terms", "(I)I"⟩
abbrev cX12_isTerm : ByteArray := prog_14_method_36_code
def yX12_isTerm : MethodName := ⟨RX12, "isTerm", "(II)Z"⟩
abbrev cX12_number : ByteArray := prog_14_method_37_code
def yX12_number : MethodName := ⟨RX12, "number", "(II)J"⟩
abbrev cX12_powerOf : ByteArray := prog_14_method_38_code
def yX12_powerOf : MethodName := ⟨RX12, "powerOf", "(II)I"⟩
abbrev cX12_power : ByteArray := prog_14_method_39_code
def yX12_power : MethodName := ⟨RX12, "power", "(III)I"⟩
abbrev cX12_same : ByteArray := prog_14_method_40_code
def yX12_same : MethodName := ⟨RX12, "same", "(II)I"⟩
abbrev cX12_multiply : ByteArray := prog_14_method_41_code
def yX12_multiply : MethodName := ⟨RX12, "multiply", "(IIJ)Z"⟩
abbrev cX12_product : ByteArray := prog_14_method_42_code
def yX12_product : MethodName := ⟨RX12, "product", "(III)I"⟩
abbrev cX12_digest : ByteArray := prog_14_method_43_code
def yX12_digest : MethodName := ⟨RX12, "digest", "(I)J"⟩
abbrev cX12_come : ByteArray := prog_14_method_44_code
def yX12_come : MethodName := ⟨RX12, "come", "(IIIII)I"⟩
abbrev cX12_isPulse : ByteArray := prog_14_method_45_code
def yX12_isPulse : MethodName := ⟨RX12, "isPulse", "(III)Z"⟩
abbrev cX12_pulse : ByteArray := prog_14_method_46_code
def yX12_pulse : MethodName := ⟨RX12, "pulse", "(III)I"⟩
abbrev cX12_cycled : ByteArray := prog_14_method_47_code
def yX12_cycled : MethodName := ⟨RX12, "cycled", "(IIII)I"⟩
abbrev cX12_delay : ByteArray := prog_14_method_48_code
def yX12_delay : MethodName := ⟨RX12, "delay", "(III)I"⟩
abbrev cX12_round : ByteArray := prog_14_method_49_code
def yX12_round : MethodName := ⟨RX12, "round", "(I)I"⟩
abbrev cX12_end : ByteArray := prog_14_method_50_code
def yX12_end : MethodName := ⟨RX12, "end", "()I"⟩
abbrev cX12_store : ByteArray := prog_14_method_51_code
def yX12_store : MethodName := ⟨RX12, "store", "(II)I"⟩
abbrev cX12_back : ByteArray := prog_14_method_52_code
def yX12_back : MethodName := ⟨RX12, "back", "()I"⟩
abbrev cX12_isOp : ByteArray := prog_14_method_53_code
def yX12_isOp : MethodName := ⟨RX12, "isOp", "(I)Z"⟩
abbrev cX12_kind : ByteArray := prog_14_method_54_code
def yX12_kind : MethodName := ⟨RX12, "kind", "(I)I"⟩
abbrev cX12_is : ByteArray := prog_14_method_55_code
def yX12_is : MethodName := ⟨RX12, "is", "(II)I"⟩
abbrev cX12_spins : ByteArray := prog_14_method_56_code
def yX12_spins : MethodName := ⟨RX12, "spins", "(I)I"⟩
abbrev cX12_begins : ByteArray := prog_14_method_57_code
def yX12_begins : MethodName := ⟨RX12, "begins", "(I)V"⟩
abbrev cX12_cost : ByteArray := prog_14_method_58_code
def yX12_cost : MethodName := ⟨RX12, "cost", "(I)I"⟩
abbrev cX12_mark2 : ByteArray := prog_14_method_59_code
def yX12_mark2 : MethodName := ⟨RX12, "mark2", "(I)I"⟩
abbrev cX12_mark : ByteArray := prog_14_method_60_code
def yX12_mark : MethodName := ⟨RX12, "mark", "(I)I"⟩
abbrev cX12_ask : ByteArray := prog_14_method_61_code
def yX12_ask : MethodName := ⟨RX12, "ask", "(II)I"⟩
abbrev cX12_trace : ByteArray := prog_14_method_62_code
def yX12_trace : MethodName := ⟨RX12, "trace", "(I)I"⟩
abbrev cX12_doPulse : ByteArray := prog_14_method_63_code
def yX12_doPulse : MethodName := ⟨RX12, "doPulse", "(II)V"⟩
abbrev cX12_does : ByteArray := prog_14_method_64_code
def yX12_does : MethodName := ⟨RX12, "does", "(I)I"⟩
abbrev cX12_run : ByteArray := prog_14_method_65_code
def yX12_run : MethodName := ⟨RX12, "run", "()I"⟩
abbrev cX12_told : ByteArray := prog_14_method_66_code
def yX12_told : MethodName := ⟨RX12, "told", "(I)I"⟩
abbrev cX12_count : ByteArray := prog_14_method_67_code
def yX12_count : MethodName := ⟨RX12, "count", "(I)I"⟩
abbrev cX12_status : ByteArray := prog_14_method_68_code
def yX12_status : MethodName := ⟨RX12, "status", "()I"⟩
def RJ6 : String := "java/lang/Integer"
def TJ6 : u_T := fun k => match k with
  | _ => ("", "", "", false)
def tyJ6 : Nat → FieldType := fun k => match k with
  | _ => .int
abbrev wsJ60 : List Cond := u_ws RJ6 TJ6 0
theorem nmJ6 : ∀ a, a < 0 → ∀ b, b < 0 → a ≠ b → (TJ6 a).2.1 ≠ (TJ6 b).2.1 := by decide +kernel
theorem tyJ6_ok : ∀ k, k < 0 → parseFieldDescriptor (TJ6 k).2.2.1 = some (tyJ6 k) := by decide +kernel
abbrev cJ6_bitCount_0f7a4 : ByteArray := prog_15_method_49_code
def yJ6_bitCount_0f7a4 : MethodName := ⟨RJ6, "bitCount", "(I)I"⟩
def RJ9 : String := "java/lang/Math"
def TJ9 : u_T := fun k => match k with
  | _ => ("", "", "", false)
def tyJ9 : Nat → FieldType := fun k => match k with
  | _ => .int
abbrev wsJ90 : List Cond := u_ws RJ9 TJ9 0
theorem nmJ9 : ∀ a, a < 0 → ∀ b, b < 0 → a ≠ b → (TJ9 a).2.1 ≠ (TJ9 b).2.1 := by decide +kernel
theorem tyJ9_ok : ∀ k, k < 0 → parseFieldDescriptor (TJ9 k).2.2.1 = some (tyJ9 k) := by decide +kernel
abbrev cJ9_abs_067f4 : ByteArray := prog_16_method_61_code
def yJ9_abs_067f4 : MethodName := ⟨RJ9, "abs", "(J)J"⟩
abbrev cJ9_max_7cf53 : ByteArray := prog_16_method_65_code
def yJ9_max_7cf53 : MethodName := ⟨RJ9, "max", "(II)I"⟩
abbrev cJ9_min_7cf53 : ByteArray := prog_16_method_69_code
def yJ9_min_7cf53 : MethodName := ⟨RJ9, "min", "(II)I"⟩
def RJ10 : String := "java/lang/System"
def TJ10 : u_T := fun k => match k with
  | _ => ("", "", "", false)
def tyJ10 : Nat → FieldType := fun k => match k with
  | _ => .int
abbrev wsJ100 : List Cond := u_ws RJ10 TJ10 0
theorem nmJ10 : ∀ a, a < 0 → ∀ b, b < 0 → a ≠ b → (TJ10 a).2.1 ≠ (TJ10 b).2.1 := by decide +kernel
theorem tyJ10_ok : ∀ k, k < 0 → parseFieldDescriptor (TJ10 k).2.2.1 = some (tyJ10 k) := by decide +kernel
def RJ7 : String := "java/util/Arrays"
def TJ7 : u_T := fun k => match k with
  | _ => ("", "", "", false)
def tyJ7 : Nat → FieldType := fun k => match k with
  | _ => .int
abbrev wsJ70 : List Cond := u_ws RJ7 TJ7 0
theorem nmJ7 : ∀ a, a < 0 → ∀ b, b < 0 → a ≠ b → (TJ7 a).2.1 ≠ (TJ7 b).2.1 := by decide +kernel
theorem tyJ7_ok : ∀ k, k < 0 → parseFieldDescriptor (TJ7 k).2.2.1 = some (tyJ7 k) := by decide +kernel
abbrev cJ7_fill_53178 : ByteArray := prog_18_method_103_code
def yJ7_fill_53178 : MethodName := ⟨RJ7, "fill", "([II)V"⟩
def RL : String := "SpinBenchLaw"
abbrev cL_cell : ByteArray := method_2_code
def yL_cell : MethodName := ⟨RL, "cell", "([II)I"⟩
abbrev cL_law : ByteArray := code
def yL_law : MethodName := ⟨RL, "law", "([I)Z"⟩
abbrev vwCl : List vw_C := [(RX0, TX0, 6), (RX1, TX1, 5), (RX2, TX2, 2), (RX4, TX4, 8), (RX6, TX6, 5), (RX7, TX7, 4), (RX8, TX8, 4), (RX9, TX9, 3), (RX10, TX10, 4), (RX11, TX11, 15), (RX12, TX12, 28)]
