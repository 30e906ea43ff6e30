section
-- ===== PART A: goes FIRST, ahead of the names: the tables' words, and 'selects' of the private methods out of them =====
/-- a private method of a class that the tables say can be made, by its rows of tables_1 -/
def lw_okq (q : MethodName × Nat) : Prop := (q.1.cls ≠ "java/lang/invoke/MethodHandle" ∧ q.1.cls ≠ "java/lang/invoke/VarHandle") ∧ Cond.instantiable q.1.cls q.2 ∈ tables_1 ∧ Cond.privateMethod q.1 ∈ tables_1 ∧ Cond.instanceMethod q.1 ∈ tables_1
theorem lw_p0 : lw_okq (⟨"SpinBench", "tableAt", "(I)LSpinBench$Table;"⟩, 15) := ⟨⟨by decide +kernel, by decide +kernel⟩, List.mem_of_getElem? (i := 19) (by decide +kernel), List.mem_of_getElem? (i := 171) (by decide +kernel), List.mem_of_getElem? (i := 172) (by decide +kernel)⟩
theorem lw_p1 : lw_okq (⟨"SpinBench", "found", "(I)I"⟩, 15) := ⟨⟨by decide +kernel, by decide +kernel⟩, List.mem_of_getElem? (i := 19) (by decide +kernel), List.mem_of_getElem? (i := 179) (by decide +kernel), List.mem_of_getElem? (i := 180) (by decide +kernel)⟩
theorem lw_p2 : lw_okq (⟨"SpinBench$Table", "make", "(II)V"⟩, 4) := ⟨⟨by decide +kernel, by decide +kernel⟩, List.mem_of_getElem? (i := 93) (by decide +kernel), List.mem_of_getElem? (i := 184) (by decide +kernel), List.mem_of_getElem? (i := 185) (by decide +kernel)⟩
theorem lw_p3 : lw_okq (⟨"SpinBench", "notFound", "(I)I"⟩, 15) := ⟨⟨by decide +kernel, by decide +kernel⟩, List.mem_of_getElem? (i := 19) (by decide +kernel), List.mem_of_getElem? (i := 191) (by decide +kernel), List.mem_of_getElem? (i := 192) (by decide +kernel)⟩
theorem lw_p4 : lw_okq (⟨"SpinBench$Table", "hasPlaces", "(II)Z"⟩, 4) := ⟨⟨by decide +kernel, by decide +kernel⟩, List.mem_of_getElem? (i := 93) (by decide +kernel), List.mem_of_getElem? (i := 199) (by decide +kernel), List.mem_of_getElem? (i := 200) (by decide +kernel)⟩
theorem lw_p5 : lw_okq (⟨"SpinBench$Table", "fitted", "(I)I"⟩, 4) := ⟨⟨by decide +kernel, by decide +kernel⟩, List.mem_of_getElem? (i := 93) (by decide +kernel), List.mem_of_getElem? (i := 203) (by decide +kernel), List.mem_of_getElem? (i := 204) (by decide +kernel)⟩
theorem lw_p6 : lw_okq (⟨"SpinBench", "sumAt", "(I)LSpinBench$Sum;"⟩, 15) := ⟨⟨by decide +kernel, by decide +kernel⟩, List.mem_of_getElem? (i := 19) (by decide +kernel), List.mem_of_getElem? (i := 222) (by decide +kernel), List.mem_of_getElem? (i := 223) (by decide +kernel)⟩
theorem lw_p7 : lw_okq (⟨"SpinBench", "isProduct", "(I)Z"⟩, 15) := ⟨⟨by decide +kernel, by decide +kernel⟩, List.mem_of_getElem? (i := 19) (by decide +kernel), List.mem_of_getElem? (i := 230) (by decide +kernel), List.mem_of_getElem? (i := 231) (by decide +kernel)⟩
theorem lw_p8 : lw_okq (⟨"SpinBench$Mixer", "begin", "()V"⟩, 8) := ⟨⟨by decide +kernel, by decide +kernel⟩, List.mem_of_getElem? (i := 29) (by decide +kernel), List.mem_of_getElem? (i := 234) (by decide +kernel), List.mem_of_getElem? (i := 235) (by decide +kernel)⟩
theorem lw_p9 : lw_okq (⟨"SpinBench$Mixer", "putSum", "(LSpinBench$Sum;I)V"⟩, 8) := ⟨⟨by decide +kernel, by decide +kernel⟩, List.mem_of_getElem? (i := 29) (by decide +kernel), List.mem_of_getElem? (i := 238) (by decide +kernel), List.mem_of_getElem? (i := 239) (by decide +kernel)⟩
theorem lw_p10 : lw_okq (⟨"SpinBench$Mixer", "put", "(IJ)V"⟩, 8) := ⟨⟨by decide +kernel, by decide +kernel⟩, List.mem_of_getElem? (i := 29) (by decide +kernel), List.mem_of_getElem? (i := 242) (by decide +kernel), List.mem_of_getElem? (i := 243) (by decide +kernel)⟩
theorem lw_p11 : lw_okq (⟨"SpinBench$Mixer", "enter", "(IIJ)V"⟩, 8) := ⟨⟨by decide +kernel, by decide +kernel⟩, List.mem_of_getElem? (i := 29) (by decide +kernel), List.mem_of_getElem? (i := 247) (by decide +kernel), List.mem_of_getElem? (i := 248) (by decide +kernel)⟩
theorem lw_p12 : lw_okq (⟨"SpinBench$Mixer", "settle", "(LSpinBench$Sum;)Z"⟩, 8) := ⟨⟨by decide +kernel, by decide +kernel⟩, List.mem_of_getElem? (i := 29) (by decide +kernel), List.mem_of_getElem? (i := 252) (by decide +kernel), List.mem_of_getElem? (i := 253) (by decide +kernel)⟩
theorem lw_p13 : lw_okq (⟨"SpinBench$Mixer", "dropZeros", "()V"⟩, 8) := ⟨⟨by decide +kernel, by decide +kernel⟩, List.mem_of_getElem? (i := 29) (by decide +kernel), List.mem_of_getElem? (i := 256) (by decide +kernel), List.mem_of_getElem? (i := 257) (by decide +kernel)⟩
theorem lw_p14 : lw_okq (⟨"SpinBench$Mixer", "isSum", "()Z"⟩, 8) := ⟨⟨by decide +kernel, by decide +kernel⟩, List.mem_of_getElem? (i := 29) (by decide +kernel), List.mem_of_getElem? (i := 260) (by decide +kernel), List.mem_of_getElem? (i := 261) (by decide +kernel)⟩
theorem lw_p15 : lw_okq (⟨"SpinBench$Mixer", "sort", "()V"⟩, 8) := ⟨⟨by decide +kernel, by decide +kernel⟩, List.mem_of_getElem? (i := 29) (by decide +kernel), List.mem_of_getElem? (i := 271) (by decide +kernel), List.mem_of_getElem? (i := 272) (by decide +kernel)⟩
def lw_privs_1 : List (MethodName × Nat) := [(⟨"SpinBench", "tableAt", "(I)LSpinBench$Table;"⟩, 15), (⟨"SpinBench", "found", "(I)I"⟩, 15), (⟨"SpinBench$Table", "make", "(II)V"⟩, 4), (⟨"SpinBench", "notFound", "(I)I"⟩, 15), (⟨"SpinBench$Table", "hasPlaces", "(II)Z"⟩, 4), (⟨"SpinBench$Table", "fitted", "(I)I"⟩, 4), (⟨"SpinBench", "sumAt", "(I)LSpinBench$Sum;"⟩, 15), (⟨"SpinBench", "isProduct", "(I)Z"⟩, 15), (⟨"SpinBench$Mixer", "begin", "()V"⟩, 8), (⟨"SpinBench$Mixer", "putSum", "(LSpinBench$Sum;I)V"⟩, 8), (⟨"SpinBench$Mixer", "put", "(IJ)V"⟩, 8), (⟨"SpinBench$Mixer", "enter", "(IIJ)V"⟩, 8), (⟨"SpinBench$Mixer", "settle", "(LSpinBench$Sum;)Z"⟩, 8), (⟨"SpinBench$Mixer", "dropZeros", "()V"⟩, 8), (⟨"SpinBench$Mixer", "isSum", "()Z"⟩, 8), (⟨"SpinBench$Mixer", "sort", "()V"⟩, 8)]
theorem lw_r1 : ∀ q ∈ lw_privs_1, lw_okq q := List.forall_mem_cons.mpr ⟨lw_p0, List.forall_mem_cons.mpr ⟨lw_p1, List.forall_mem_cons.mpr ⟨lw_p2, List.forall_mem_cons.mpr ⟨lw_p3, List.forall_mem_cons.mpr ⟨lw_p4, List.forall_mem_cons.mpr ⟨lw_p5, List.forall_mem_cons.mpr ⟨lw_p6, List.forall_mem_cons.mpr ⟨lw_p7, List.forall_mem_cons.mpr ⟨lw_p8, List.forall_mem_cons.mpr ⟨lw_p9, List.forall_mem_cons.mpr ⟨lw_p10, List.forall_mem_cons.mpr ⟨lw_p11, List.forall_mem_cons.mpr ⟨lw_p12, List.forall_mem_cons.mpr ⟨lw_p13, List.forall_mem_cons.mpr ⟨lw_p14, List.forall_mem_cons.mpr ⟨lw_p15, fun _ h => absurd h List.not_mem_nil⟩⟩⟩⟩⟩⟩⟩⟩⟩⟩⟩⟩⟩⟩⟩⟩
theorem lw_p16 : lw_okq (⟨"SpinBench$Mixer", "merge", "(III)V"⟩, 8) := ⟨⟨by decide +kernel, by decide +kernel⟩, List.mem_of_getElem? (i := 29) (by decide +kernel), List.mem_of_getElem? (i := 276) (by decide +kernel), List.mem_of_getElem? (i := 277) (by decide +kernel)⟩
theorem lw_p17 : lw_okq (⟨"SpinBench$Sum", "become", "(LSpinBench$Sum;)V"⟩, 3) := ⟨⟨by decide +kernel, by decide +kernel⟩, List.mem_of_getElem? (i := 72) (by decide +kernel), List.mem_of_getElem? (i := 286) (by decide +kernel), List.mem_of_getElem? (i := 287) (by decide +kernel)⟩
theorem lw_p18 : lw_okq (⟨"SpinBench$Mixer", "joinSums", "(LSpinBench$Sum;LSpinBench$Sum;I)Z"⟩, 8) := ⟨⟨by decide +kernel, by decide +kernel⟩, List.mem_of_getElem? (i := 29) (by decide +kernel), List.mem_of_getElem? (i := 295) (by decide +kernel), List.mem_of_getElem? (i := 296) (by decide +kernel)⟩
theorem lw_p19 : lw_okq (⟨"SpinBench", "turnByQuarters", "(II)Z"⟩, 15) := ⟨⟨by decide +kernel, by decide +kernel⟩, List.mem_of_getElem? (i := 19) (by decide +kernel), List.mem_of_getElem? (i := 306) (by decide +kernel), List.mem_of_getElem? (i := 307) (by decide +kernel)⟩
theorem lw_p20 : lw_okq (⟨"SpinBench", "turnByLetter", "(III)Z"⟩, 15) := ⟨⟨by decide +kernel, by decide +kernel⟩, List.mem_of_getElem? (i := 19) (by decide +kernel), List.mem_of_getElem? (i := 326) (by decide +kernel), List.mem_of_getElem? (i := 327) (by decide +kernel)⟩
theorem lw_p21 : lw_okq (⟨"SpinBench$Mixer", "putTimesSine", "(IIJ)V"⟩, 8) := ⟨⟨by decide +kernel, by decide +kernel⟩, List.mem_of_getElem? (i := 29) (by decide +kernel), List.mem_of_getElem? (i := 336) (by decide +kernel), List.mem_of_getElem? (i := 337) (by decide +kernel)⟩
theorem lw_p22 : lw_okq (⟨"SpinBench$Sum", "isLike", "(LSpinBench$Sum;)Z"⟩, 3) := ⟨⟨by decide +kernel, by decide +kernel⟩, List.mem_of_getElem? (i := 72) (by decide +kernel), List.mem_of_getElem? (i := 366) (by decide +kernel), List.mem_of_getElem? (i := 367) (by decide +kernel)⟩
theorem lw_p23 : lw_okq (⟨"SpinBench$Mixer", "multiply", "(LSpinBench$Sum;LSpinBench$Sum;LSpinBench$Sum;)Z"⟩, 8) := ⟨⟨by decide +kernel, by decide +kernel⟩, List.mem_of_getElem? (i := 29) (by decide +kernel), List.mem_of_getElem? (i := 374) (by decide +kernel), List.mem_of_getElem? (i := 375) (by decide +kernel)⟩
theorem lw_p24 : lw_okq (⟨"SpinBench$Mixer", "putRows", "(IIJ)Z"⟩, 8) := ⟨⟨by decide +kernel, by decide +kernel⟩, List.mem_of_getElem? (i := 29) (by decide +kernel), List.mem_of_getElem? (i := 382) (by decide +kernel), List.mem_of_getElem? (i := 383) (by decide +kernel)⟩
theorem lw_p25 : lw_okq (⟨"SpinBench", "isPulse", "(III)Z"⟩, 15) := ⟨⟨by decide +kernel, by decide +kernel⟩, List.mem_of_getElem? (i := 19) (by decide +kernel), List.mem_of_getElem? (i := 406) (by decide +kernel), List.mem_of_getElem? (i := 407) (by decide +kernel)⟩
theorem lw_p26 : lw_okq (⟨"SpinBench", "append", "(LSpinBench$Op;)I"⟩, 15) := ⟨⟨by decide +kernel, by decide +kernel⟩, List.mem_of_getElem? (i := 19) (by decide +kernel), List.mem_of_getElem? (i := 451) (by decide +kernel), List.mem_of_getElem? (i := 452) (by decide +kernel)⟩
theorem lw_p27 : lw_okq (⟨"SpinBench", "openRounds", "()I"⟩, 15) := ⟨⟨by decide +kernel, by decide +kernel⟩, List.mem_of_getElem? (i := 19) (by decide +kernel), List.mem_of_getElem? (i := 500) (by decide +kernel), List.mem_of_getElem? (i := 501) (by decide +kernel)⟩
theorem lw_p28 : lw_okq (⟨"SpinBench", "opAt", "(I)LSpinBench$Op;"⟩, 15) := ⟨⟨by decide +kernel, by decide +kernel⟩, List.mem_of_getElem? (i := 19) (by decide +kernel), List.mem_of_getElem? (i := 559) (by decide +kernel), List.mem_of_getElem? (i := 560) (by decide +kernel)⟩
theorem lw_p29 : lw_okq (⟨"SpinBench", "leaveBody", "(I)V"⟩, 15) := ⟨⟨by decide +kernel, by decide +kernel⟩, List.mem_of_getElem? (i := 19) (by decide +kernel), List.mem_of_getElem? (i := 623) (by decide +kernel), List.mem_of_getElem? (i := 624) (by decide +kernel)⟩
theorem lw_p30 : lw_okq (⟨"SpinBench", "presentTables", "()I"⟩, 15) := ⟨⟨by decide +kernel, by decide +kernel⟩, List.mem_of_getElem? (i := 19) (by decide +kernel), List.mem_of_getElem? (i := 729) (by decide +kernel), List.mem_of_getElem? (i := 730) (by decide +kernel)⟩
theorem lw_p31 : lw_okq (⟨"SpinBench", "allTerms", "()I"⟩, 15) := ⟨⟨by decide +kernel, by decide +kernel⟩, List.mem_of_getElem? (i := 19) (by decide +kernel), List.mem_of_getElem? (i := 733) (by decide +kernel), List.mem_of_getElem? (i := 734) (by decide +kernel)⟩
def lw_privs_2 : List (MethodName × Nat) := [(⟨"SpinBench$Mixer", "merge", "(III)V"⟩, 8), (⟨"SpinBench$Sum", "become", "(LSpinBench$Sum;)V"⟩, 3), (⟨"SpinBench$Mixer", "joinSums", "(LSpinBench$Sum;LSpinBench$Sum;I)Z"⟩, 8), (⟨"SpinBench", "turnByQuarters", "(II)Z"⟩, 15), (⟨"SpinBench", "turnByLetter", "(III)Z"⟩, 15), (⟨"SpinBench$Mixer", "putTimesSine", "(IIJ)V"⟩, 8), (⟨"SpinBench$Sum", "isLike", "(LSpinBench$Sum;)Z"⟩, 3), (⟨"SpinBench$Mixer", "multiply", "(LSpinBench$Sum;LSpinBench$Sum;LSpinBench$Sum;)Z"⟩, 8), (⟨"SpinBench$Mixer", "putRows", "(IIJ)Z"⟩, 8), (⟨"SpinBench", "isPulse", "(III)Z"⟩, 15), (⟨"SpinBench", "append", "(LSpinBench$Op;)I"⟩, 15), (⟨"SpinBench", "openRounds", "()I"⟩, 15), (⟨"SpinBench", "opAt", "(I)LSpinBench$Op;"⟩, 15), (⟨"SpinBench", "leaveBody", "(I)V"⟩, 15), (⟨"SpinBench", "presentTables", "()I"⟩, 15), (⟨"SpinBench", "allTerms", "()I"⟩, 15)]
theorem lw_r2 : ∀ q ∈ lw_privs_2, lw_okq q := List.forall_mem_cons.mpr ⟨lw_p16, List.forall_mem_cons.mpr ⟨lw_p17, List.forall_mem_cons.mpr ⟨lw_p18, List.forall_mem_cons.mpr ⟨lw_p19, List.forall_mem_cons.mpr ⟨lw_p20, List.forall_mem_cons.mpr ⟨lw_p21, List.forall_mem_cons.mpr ⟨lw_p22, List.forall_mem_cons.mpr ⟨lw_p23, List.forall_mem_cons.mpr ⟨lw_p24, List.forall_mem_cons.mpr ⟨lw_p25, List.forall_mem_cons.mpr ⟨lw_p26, List.forall_mem_cons.mpr ⟨lw_p27, List.forall_mem_cons.mpr ⟨lw_p28, List.forall_mem_cons.mpr ⟨lw_p29, List.forall_mem_cons.mpr ⟨lw_p30, List.forall_mem_cons.mpr ⟨lw_p31, fun _ h => absurd h List.not_mem_nil⟩⟩⟩⟩⟩⟩⟩⟩⟩⟩⟩⟩⟩⟩⟩⟩
theorem lw_p32 : lw_okq (⟨"SpinBenchModel", "finds", "(I)I"⟩, 28) := ⟨⟨by decide +kernel, by decide +kernel⟩, List.mem_of_getElem? (i := 744) (by decide +kernel), List.mem_of_getElem? (i := 849) (by decide +kernel), List.mem_of_getElem? (i := 850) (by decide +kernel)⟩
theorem lw_p33 : lw_okq (⟨"SpinBenchModel", "well", "(I)I"⟩, 28) := ⟨⟨by decide +kernel, by decide +kernel⟩, List.mem_of_getElem? (i := 744) (by decide +kernel), List.mem_of_getElem? (i := 854) (by decide +kernel), List.mem_of_getElem? (i := 855) (by decide +kernel)⟩
theorem lw_p34 : lw_okq (⟨"SpinBenchModel", "isProduct", "(I)Z"⟩, 28) := ⟨⟨by decide +kernel, by decide +kernel⟩, List.mem_of_getElem? (i := 744) (by decide +kernel), List.mem_of_getElem? (i := 885) (by decide +kernel), List.mem_of_getElem? (i := 886) (by decide +kernel)⟩
theorem lw_p35 : lw_okq (⟨"SpinBenchModel", "putAll", "(IJ)V"⟩, 28) := ⟨⟨by decide +kernel, by decide +kernel⟩, List.mem_of_getElem? (i := 744) (by decide +kernel), List.mem_of_getElem? (i := 889) (by decide +kernel), List.mem_of_getElem? (i := 890) (by decide +kernel)⟩
theorem lw_p36 : lw_okq (⟨"SpinBenchModel", "put", "(IJ)V"⟩, 28) := ⟨⟨by decide +kernel, by decide +kernel⟩, List.mem_of_getElem? (i := 744) (by decide +kernel), List.mem_of_getElem? (i := 893) (by decide +kernel), List.mem_of_getElem? (i := 894) (by decide +kernel)⟩
theorem lw_p37 : lw_okq (⟨"SpinBenchModel", "kept", "(I)I"⟩, 28) := ⟨⟨by decide +kernel, by decide +kernel⟩, List.mem_of_getElem? (i := 744) (by decide +kernel), List.mem_of_getElem? (i := 897) (by decide +kernel), List.mem_of_getElem? (i := 898) (by decide +kernel)⟩
theorem lw_p38 : lw_okq (⟨"SpinBenchModel", "keep", "(I)Z"⟩, 28) := ⟨⟨by decide +kernel, by decide +kernel⟩, List.mem_of_getElem? (i := 744) (by decide +kernel), List.mem_of_getElem? (i := 901) (by decide +kernel), List.mem_of_getElem? (i := 902) (by decide +kernel)⟩
theorem lw_p39 : lw_okq (⟨"SpinBenchModel", "copySum", "(II)V"⟩, 28) := ⟨⟨by decide +kernel, by decide +kernel⟩, List.mem_of_getElem? (i := 744) (by decide +kernel), List.mem_of_getElem? (i := 915) (by decide +kernel), List.mem_of_getElem? (i := 916) (by decide +kernel)⟩
theorem lw_p40 : lw_okq (⟨"SpinBenchModel", "joined", "(III)Z"⟩, 28) := ⟨⟨by decide +kernel, by decide +kernel⟩, List.mem_of_getElem? (i := 744) (by decide +kernel), List.mem_of_getElem? (i := 925) (by decide +kernel), List.mem_of_getElem? (i := 926) (by decide +kernel)⟩
theorem lw_p41 : lw_okq (⟨"SpinBenchModel", "turnQuarter", "(II)V"⟩, 28) := ⟨⟨by decide +kernel, by decide +kernel⟩, List.mem_of_getElem? (i := 744) (by decide +kernel), List.mem_of_getElem? (i := 933) (by decide +kernel), List.mem_of_getElem? (i := 934) (by decide +kernel)⟩
theorem lw_p42 : lw_okq (⟨"SpinBenchModel", "fits", "(II)Z"⟩, 28) := ⟨⟨by decide +kernel, by decide +kernel⟩, List.mem_of_getElem? (i := 744) (by decide +kernel), List.mem_of_getElem? (i := 940) (by decide +kernel), List.mem_of_getElem? (i := 941) (by decide +kernel)⟩
theorem lw_p43 : lw_okq (⟨"SpinBenchModel", "with", "(II)I"⟩, 28) := ⟨⟨by decide +kernel, by decide +kernel⟩, List.mem_of_getElem? (i := 744) (by decide +kernel), List.mem_of_getElem? (i := 944) (by decide +kernel), List.mem_of_getElem? (i := 945) (by decide +kernel)⟩
theorem lw_p44 : lw_okq (⟨"SpinBenchModel", "turnLetter", "(III)Z"⟩, 28) := ⟨⟨by decide +kernel, by decide +kernel⟩, List.mem_of_getElem? (i := 744) (by decide +kernel), List.mem_of_getElem? (i := 956) (by decide +kernel), List.mem_of_getElem? (i := 957) (by decide +kernel)⟩
theorem lw_p45 : lw_okq (⟨"SpinBenchModel", "isTerm", "(II)Z"⟩, 28) := ⟨⟨by decide +kernel, by decide +kernel⟩, List.mem_of_getElem? (i := 744) (by decide +kernel), List.mem_of_getElem? (i := 977) (by decide +kernel), List.mem_of_getElem? (i := 978) (by decide +kernel)⟩
theorem lw_p46 : lw_okq (⟨"SpinBenchModel", "multiply", "(IIJ)Z"⟩, 28) := ⟨⟨by decide +kernel, by decide +kernel⟩, List.mem_of_getElem? (i := 744) (by decide +kernel), List.mem_of_getElem? (i := 997) (by decide +kernel), List.mem_of_getElem? (i := 998) (by decide +kernel)⟩
theorem lw_p47 : lw_okq (⟨"SpinBenchModel", "isPulse", "(III)Z"⟩, 28) := ⟨⟨by decide +kernel, by decide +kernel⟩, List.mem_of_getElem? (i := 744) (by decide +kernel), List.mem_of_getElem? (i := 1011) (by decide +kernel), List.mem_of_getElem? (i := 1012) (by decide +kernel)⟩
def lw_privs_3 : List (MethodName × Nat) := [(⟨"SpinBenchModel", "finds", "(I)I"⟩, 28), (⟨"SpinBenchModel", "well", "(I)I"⟩, 28), (⟨"SpinBenchModel", "isProduct", "(I)Z"⟩, 28), (⟨"SpinBenchModel", "putAll", "(IJ)V"⟩, 28), (⟨"SpinBenchModel", "put", "(IJ)V"⟩, 28), (⟨"SpinBenchModel", "kept", "(I)I"⟩, 28), (⟨"SpinBenchModel", "keep", "(I)Z"⟩, 28), (⟨"SpinBenchModel", "copySum", "(II)V"⟩, 28), (⟨"SpinBenchModel", "joined", "(III)Z"⟩, 28), (⟨"SpinBenchModel", "turnQuarter", "(II)V"⟩, 28), (⟨"SpinBenchModel", "fits", "(II)Z"⟩, 28), (⟨"SpinBenchModel", "with", "(II)I"⟩, 28), (⟨"SpinBenchModel", "turnLetter", "(III)Z"⟩, 28), (⟨"SpinBenchModel", "isTerm", "(II)Z"⟩, 28), (⟨"SpinBenchModel", "multiply", "(IIJ)Z"⟩, 28), (⟨"SpinBenchModel", "isPulse", "(III)Z"⟩, 28)]
theorem lw_r3 : ∀ q ∈ lw_privs_3, lw_okq q := List.forall_mem_cons.mpr ⟨lw_p32, List.forall_mem_cons.mpr ⟨lw_p33, List.forall_mem_cons.mpr ⟨lw_p34, List.forall_mem_cons.mpr ⟨lw_p35, List.forall_mem_cons.mpr ⟨lw_p36, List.forall_mem_cons.mpr ⟨lw_p37, List.forall_mem_cons.mpr ⟨lw_p38, List.forall_mem_cons.mpr ⟨lw_p39, List.forall_mem_cons.mpr ⟨lw_p40, List.forall_mem_cons.mpr ⟨lw_p41, List.forall_mem_cons.mpr ⟨lw_p42, List.forall_mem_cons.mpr ⟨lw_p43, List.forall_mem_cons.mpr ⟨lw_p44, List.forall_mem_cons.mpr ⟨lw_p45, List.forall_mem_cons.mpr ⟨lw_p46, List.forall_mem_cons.mpr ⟨lw_p47, fun _ h => absurd h List.not_mem_nil⟩⟩⟩⟩⟩⟩⟩⟩⟩⟩⟩⟩⟩⟩⟩⟩
theorem lw_p48 : lw_okq (⟨"SpinBenchModel", "come", "(IIIII)I"⟩, 28) := ⟨⟨by decide +kernel, by decide +kernel⟩, List.mem_of_getElem? (i := 744) (by decide +kernel), List.mem_of_getElem? (i := 1015) (by decide +kernel), List.mem_of_getElem? (i := 1016) (by decide +kernel)⟩
theorem lw_p49 : lw_okq (⟨"SpinBenchModel", "isOp", "(I)Z"⟩, 28) := ⟨⟨by decide +kernel, by decide +kernel⟩, List.mem_of_getElem? (i := 744) (by decide +kernel), List.mem_of_getElem? (i := 1049) (by decide +kernel), List.mem_of_getElem? (i := 1050) (by decide +kernel)⟩
theorem lw_p50 : lw_okq (⟨"SpinBenchModel", "cost", "(I)I"⟩, 28) := ⟨⟨by decide +kernel, by decide +kernel⟩, List.mem_of_getElem? (i := 744) (by decide +kernel), List.mem_of_getElem? (i := 1065) (by decide +kernel), List.mem_of_getElem? (i := 1066) (by decide +kernel)⟩
theorem lw_p51 : lw_okq (⟨"SpinBenchModel", "begins", "(I)V"⟩, 28) := ⟨⟨by decide +kernel, by decide +kernel⟩, List.mem_of_getElem? (i := 744) (by decide +kernel), List.mem_of_getElem? (i := 1069) (by decide +kernel), List.mem_of_getElem? (i := 1070) (by decide +kernel)⟩
theorem lw_p52 : lw_okq (⟨"SpinBenchModel", "mark2", "(I)I"⟩, 28) := ⟨⟨by decide +kernel, by decide +kernel⟩, List.mem_of_getElem? (i := 744) (by decide +kernel), List.mem_of_getElem? (i := 1073) (by decide +kernel), List.mem_of_getElem? (i := 1074) (by decide +kernel)⟩
theorem lw_p53 : lw_okq (⟨"SpinBenchModel", "mark", "(I)I"⟩, 28) := ⟨⟨by decide +kernel, by decide +kernel⟩, List.mem_of_getElem? (i := 744) (by decide +kernel), List.mem_of_getElem? (i := 1077) (by decide +kernel), List.mem_of_getElem? (i := 1078) (by decide +kernel)⟩
theorem lw_p54 : lw_okq (⟨"SpinBenchModel", "does", "(I)I"⟩, 28) := ⟨⟨by decide +kernel, by decide +kernel⟩, List.mem_of_getElem? (i := 744) (by decide +kernel), List.mem_of_getElem? (i := 1089) (by decide +kernel), List.mem_of_getElem? (i := 1090) (by decide +kernel)⟩
theorem lw_p55 : lw_okq (⟨"SpinBenchModel", "doPulse", "(II)V"⟩, 28) := ⟨⟨by decide +kernel, by decide +kernel⟩, List.mem_of_getElem? (i := 744) (by decide +kernel), List.mem_of_getElem? (i := 1093) (by decide +kernel), List.mem_of_getElem? (i := 1094) (by decide +kernel)⟩
def lw_privs_4 : List (MethodName × Nat) := [(⟨"SpinBenchModel", "come", "(IIIII)I"⟩, 28), (⟨"SpinBenchModel", "isOp", "(I)Z"⟩, 28), (⟨"SpinBenchModel", "cost", "(I)I"⟩, 28), (⟨"SpinBenchModel", "begins", "(I)V"⟩, 28), (⟨"SpinBenchModel", "mark2", "(I)I"⟩, 28), (⟨"SpinBenchModel", "mark", "(I)I"⟩, 28), (⟨"SpinBenchModel", "does", "(I)I"⟩, 28), (⟨"SpinBenchModel", "doPulse", "(II)V"⟩, 28)]
theorem lw_r4 : ∀ q ∈ lw_privs_4, lw_okq q := List.forall_mem_cons.mpr ⟨lw_p48, List.forall_mem_cons.mpr ⟨lw_p49, List.forall_mem_cons.mpr ⟨lw_p50, List.forall_mem_cons.mpr ⟨lw_p51, List.forall_mem_cons.mpr ⟨lw_p52, List.forall_mem_cons.mpr ⟨lw_p53, List.forall_mem_cons.mpr ⟨lw_p54, List.forall_mem_cons.mpr ⟨lw_p55, fun _ h => absurd h List.not_mem_nil⟩⟩⟩⟩⟩⟩⟩⟩
def lw_privs : List (MethodName × Nat) := lw_privs_1 ++ (lw_privs_2 ++ (lw_privs_3 ++ (lw_privs_4)))
def lw_tbl : List Cond := k2_sels lw_privs ++ tables_1
theorem lw_privs_ok : ∀ q ∈ lw_privs, lw_okq q := by
  show ∀ q ∈ lw_privs_1 ++ (lw_privs_2 ++ (lw_privs_3 ++ (lw_privs_4))), lw_okq q
  exact List.forall_mem_append.mpr ⟨lw_r1, List.forall_mem_append.mpr ⟨lw_r2, List.forall_mem_append.mpr ⟨lw_r3, lw_r4⟩⟩⟩
def RX0 : String := "SpinBench$Cycled"
def TX0 : u_T := fun k => match k with
  | 0 => ("SpinBench$Pulse", "spinSet", "I", true)
  | 1 => ("SpinBench$Pulse", "phase", "I", true)
  | 2 => ("SpinBench$Pulse", "quarters", "I", true)
  | 3 => ("SpinBench$Op", "place", "I", true)
  | 4 => ("SpinBench$Op", "around", "LSpinBench$Round;", true)
  | _ => ("SpinBench$Cycled", "cycle", "I", true)
def tyX0 : Nat → FieldType := fun k => match k with
  | 0 => .int
  | 1 => .int
  | 2 => .int
  | 3 => .int
  | 4 => .object "SpinBench$Round"
  | _ => .int
abbrev wsX00 : List Cond := u_ws RX0 TX0 6
theorem nmX0 : ∀ a, a < 6 → ∀ b, b < 6 → a ≠ b → (TX0 a).2.1 ≠ (TX0 b).2.1 := by decide +kernel
theorem tyX0_ok : ∀ k, k < 6 → parseFieldDescriptor (TX0 k).2.2.1 = some (tyX0 k) := by decide +kernel
abbrev cX0_init : ByteArray := prog_2_method_1_code
def yX0_init : MethodName := ⟨RX0, "<init>", "(ILSpinBench$Round;IIII)V"⟩
abbrev cX0_ownKind : ByteArray := prog_2_method_2_code
def yX0_ownKind : MethodName := ⟨RX0, "ownKind", "()I"⟩
abbrev cX0_cost : ByteArray := prog_2_method_3_code
def yX0_cost : MethodName := ⟨RX0, "cost", "(LSpinBench;)I"⟩
abbrev cX0_mark : ByteArray := prog_2_method_4_code
def yX0_mark : MethodName := ⟨RX0, "mark", "(LSpinBench;)I"⟩
abbrev cX0_perform : ByteArray := prog_2_method_5_code
def yX0_perform : MethodName := ⟨RX0, "perform", "(LSpinBench;)I"⟩
def RX1 : String := "SpinBench$Delay"
def TX1 : u_T := fun k => match k with
  | 0 => ("SpinBench$Op", "place", "I", true)
  | 1 => ("SpinBench$Op", "around", "LSpinBench$Round;", true)
  | 2 => ("SpinBench$Delay", "about", "I", true)
  | 3 => ("SpinBench$Delay", "angle", "I", true)
  | _ => ("SpinBench$Delay", "way", "I", true)
def tyX1 : Nat → FieldType := fun k => match k with
  | 0 => .int
  | 1 => .object "SpinBench$Round"
  | 2 => .int
  | 3 => .int
  | _ => .int
abbrev wsX10 : List Cond := u_ws RX1 TX1 5
theorem nmX1 : ∀ a, a < 5 → ∀ b, b < 5 → a ≠ b → (TX1 a).2.1 ≠ (TX1 b).2.1 := by decide +kernel
theorem tyX1_ok : ∀ k, k < 5 → parseFieldDescriptor (TX1 k).2.2.1 = some (tyX1 k) := by decide +kernel
abbrev cX1_init : ByteArray := prog_3_method_1_code
def yX1_init : MethodName := ⟨RX1, "<init>", "(ILSpinBench$Round;III)V"⟩
abbrev cX1_ownKind : ByteArray := prog_3_method_2_code
def yX1_ownKind : MethodName := ⟨RX1, "ownKind", "()I"⟩
abbrev cX1_mark : ByteArray := prog_3_method_3_code
def yX1_mark : MethodName := ⟨RX1, "mark", "(LSpinBench;)I"⟩
abbrev cX1_perform : ByteArray := prog_3_method_4_code
def yX1_perform : MethodName := ⟨RX1, "perform", "(LSpinBench;)I"⟩
def RX2 : String := "SpinBench$End"
def TX2 : u_T := fun k => match k with
  | 0 => ("SpinBench$Op", "place", "I", true)
  | _ => ("SpinBench$Op", "around", "LSpinBench$Round;", true)
def tyX2 : Nat → FieldType := fun k => match k with
  | 0 => .int
  | _ => .object "SpinBench$Round"
abbrev wsX20 : List Cond := u_ws RX2 TX2 2
theorem nmX2 : ∀ a, a < 2 → ∀ b, b < 2 → a ≠ b → (TX2 a).2.1 ≠ (TX2 b).2.1 := by decide +kernel
theorem tyX2_ok : ∀ k, k < 2 → parseFieldDescriptor (TX2 k).2.2.1 = some (tyX2 k) := by decide +kernel
abbrev cX2_init : ByteArray := prog_4_method_1_code
def yX2_init : MethodName := ⟨RX2, "<init>", "(ILSpinBench$Round;)V"⟩
abbrev cX2_ownKind : ByteArray := prog_4_method_2_code
def yX2_ownKind : MethodName := ⟨RX2, "ownKind", "()I"⟩
abbrev cX2_perform : ByteArray := prog_4_method_3_code
def yX2_perform : MethodName := ⟨RX2, "perform", "(LSpinBench;)I"⟩
def RX3 : String := "SpinBench$Lead"
def TX3 : u_T := fun k => match k with
  | _ => ("", "", "", false)
def tyX3 : Nat → FieldType := fun k => match k with
  | _ => .int
abbrev wsX30 : List Cond := u_ws RX3 TX3 0
theorem nmX3 : ∀ a, a < 0 → ∀ b, b < 0 → a ≠ b → (TX3 a).2.1 ≠ (TX3 b).2.1 := by decide +kernel
theorem tyX3_ok : ∀ k, k < 0 → parseFieldDescriptor (TX3 k).2.2.1 = some (tyX3 k) := by decide +kernel
abbrev cX3_init : ByteArray := prog_5_method_1_code
def yX3_init : MethodName := ⟨RX3, "<init>", "(ILSpinBench$Round;)V"⟩
abbrev cX3_isOfKind : ByteArray := prog_5_method_2_code
def yX3_isOfKind : MethodName := ⟨RX3, "isOfKind", "(I)Z"⟩
abbrev cX3_cost : ByteArray := prog_5_method_3_code
def yX3_cost : MethodName := ⟨RX3, "cost", "(LSpinBench;)I"⟩
abbrev cX3_mark : ByteArray := prog_5_method_4_code
def yX3_mark : MethodName := ⟨RX3, "mark", "(LSpinBench;)I"⟩
def RX4 : String := "SpinBench$Mixer"
def TX4 : u_T := fun k => match k with
  | 0 => ("SpinBench$Mixer", "keys", "[I", false)
  | 1 => ("SpinBench$Mixer", "numbers", "[J", false)
  | 2 => ("SpinBench$Mixer", "spareKeys", "[I", false)
  | 3 => ("SpinBench$Mixer", "spareNumbers", "[J", false)
  | 4 => ("SpinBench$Mixer", "size", "I", false)
  | 5 => ("SpinBench$Mixer", "slots", "[I", true)
  | 6 => ("SpinBench$Mixer", "slotsUsed", "[I", true)
  | _ => ("SpinBench$Mixer", "used", "I", false)
def tyX4 : Nat → FieldType := fun k => match k with
  | 0 => .array .int
  | 1 => .array .long
  | 2 => .array .int
  | 3 => .array .long
  | 4 => .int
  | 5 => .array .int
  | 6 => .array .int
  | _ => .int
abbrev wsX40 : List Cond := u_ws RX4 TX4 8
theorem nmX4 : ∀ a, a < 8 → ∀ b, b < 8 → a ≠ b → (TX4 a).2.1 ≠ (TX4 b).2.1 := by decide +kernel
theorem tyX4_ok : ∀ k, k < 8 → parseFieldDescriptor (TX4 k).2.2.1 = some (tyX4 k) := by decide +kernel
abbrev cX4_init : ByteArray := prog_6_method_1_code
def yX4_init : MethodName := ⟨RX4, "<init>", "()V"⟩
abbrev cX4_begin : ByteArray := prog_6_method_2_code
def yX4_begin : MethodName := ⟨RX4, "begin", "()V"⟩
abbrev cX4_put : ByteArray := prog_6_method_3_code
def yX4_put : MethodName := ⟨RX4, "put", "(IJ)V"⟩
abbrev cX4_enter : ByteArray := prog_6_method_4_code
def yX4_enter : MethodName := ⟨RX4, "enter", "(IIJ)V"⟩
abbrev cX4_putSum : ByteArray := prog_6_method_5_code
def yX4_putSum : MethodName := ⟨RX4, "putSum", "(LSpinBench$Sum;I)V"⟩
abbrev cX4_putTimesSine : ByteArray := prog_6_method_6_code
def yX4_putTimesSine : MethodName := ⟨RX4, "putTimesSine", "(IIJ)V"⟩
abbrev cX4_joinSums : ByteArray := prog_6_method_7_code
def yX4_joinSums : MethodName := ⟨RX4, "joinSums", "(LSpinBench$Sum;LSpinBench$Sum;I)Z"⟩
abbrev cX4_multiply : ByteArray := prog_6_method_8_code
def yX4_multiply : MethodName := ⟨RX4, "multiply", "(LSpinBench$Sum;LSpinBench$Sum;LSpinBench$Sum;)Z"⟩
abbrev cX4_isBeyond : ByteArray := prog_6_method_9_code
def yX4_isBeyond : MethodName := ⟨RX4, "isBeyond", "(JJ)Z"⟩
abbrev cX4_putRows : ByteArray := prog_6_method_10_code
def yX4_putRows : MethodName := ⟨RX4, "putRows", "(IIJ)Z"⟩
abbrev cX4_squaredCosines : ByteArray := prog_6_method_11_code
def yX4_squaredCosines : MethodName := ⟨RX4, "squaredCosines", "(I)I"⟩
abbrev cX4_settle : ByteArray := prog_6_method_12_code
def yX4_settle : MethodName := ⟨RX4, "settle", "(LSpinBench$Sum;)Z"⟩
abbrev cX4_dropZeros : ByteArray := prog_6_method_13_code
def yX4_dropZeros : MethodName := ⟨RX4, "dropZeros", "()V"⟩
abbrev cX4_isSum : ByteArray := prog_6_method_14_code
def yX4_isSum : MethodName := ⟨RX4, "isSum", "()Z"⟩
abbrev cX4_sort : ByteArray := prog_6_method_15_code
def yX4_sort : MethodName := ⟨RX4, "sort", "()V"⟩
abbrev cX4_merge : ByteArray := prog_6_method_16_code
def yX4_merge : MethodName := ⟨RX4, "merge", "(III)V"⟩
def RX5 : String := "SpinBench$Op"
def TX5 : u_T := fun k => match k with
  | _ => ("", "", "", false)
def tyX5 : Nat → FieldType := fun k => match k with
  | _ => .int
abbrev wsX50 : List Cond := u_ws RX5 TX5 0
theorem nmX5 : ∀ a, a < 0 → ∀ b, b < 0 → a ≠ b → (TX5 a).2.1 ≠ (TX5 b).2.1 := by decide +kernel
theorem tyX5_ok : ∀ k, k < 0 → parseFieldDescriptor (TX5 k).2.2.1 = some (tyX5 k) := by decide +kernel
abbrev cX5_init : ByteArray := prog_7_method_1_code
def yX5_init : MethodName := ⟨RX5, "<init>", "(ILSpinBench$Round;)V"⟩
abbrev cX5_isOfKind : ByteArray := prog_7_method_4_code
def yX5_isOfKind : MethodName := ⟨RX5, "isOfKind", "(I)Z"⟩
abbrev cX5_cost : ByteArray := prog_7_method_5_code
def yX5_cost : MethodName := ⟨RX5, "cost", "(LSpinBench;)I"⟩
abbrev cX5_mark : ByteArray := prog_7_method_6_code
def yX5_mark : MethodName := ⟨RX5, "mark", "(LSpinBench;)I"⟩
def RX6 : String := "SpinBench$Pulse"
def TX6 : u_T := fun k => match k with
  | 0 => ("SpinBench$Op", "place", "I", true)
  | 1 => ("SpinBench$Op", "around", "LSpinBench$Round;", true)
  | 2 => ("SpinBench$Pulse", "spinSet", "I", true)
  | 3 => ("SpinBench$Pulse", "phase", "I", true)
  | _ => ("SpinBench$Pulse", "quarters", "I", true)
def tyX6 : Nat → FieldType := fun k => match k with
  | 0 => .int
  | 1 => .object "SpinBench$Round"
  | 2 => .int
  | 3 => .int
  | _ => .int
abbrev wsX60 : List Cond := u_ws RX6 TX6 5
theorem nmX6 : ∀ a, a < 5 → ∀ b, b < 5 → a ≠ b → (TX6 a).2.1 ≠ (TX6 b).2.1 := by decide +kernel
theorem tyX6_ok : ∀ k, k < 5 → parseFieldDescriptor (TX6 k).2.2.1 = some (tyX6 k) := by decide +kernel
abbrev cX6_init : ByteArray := prog_8_method_1_code
def yX6_init : MethodName := ⟨RX6, "<init>", "(ILSpinBench$Round;III)V"⟩
abbrev cX6_ownKind : ByteArray := prog_8_method_2_code
def yX6_ownKind : MethodName := ⟨RX6, "ownKind", "()I"⟩
abbrev cX6_isOfKind : ByteArray := prog_8_method_3_code
def yX6_isOfKind : MethodName := ⟨RX6, "isOfKind", "(I)Z"⟩
abbrev cX6_cost : ByteArray := prog_8_method_4_code
def yX6_cost : MethodName := ⟨RX6, "cost", "(LSpinBench;)I"⟩
abbrev cX6_perform : ByteArray := prog_8_method_5_code
def yX6_perform : MethodName := ⟨RX6, "perform", "(LSpinBench;)I"⟩
abbrev cX6_turnSpins : ByteArray := prog_8_method_6_code
def yX6_turnSpins : MethodName := ⟨RX6, "turnSpins", "(LSpinBench;I)I"⟩
def RX7 : String := "SpinBench$Round"
def TX7 : u_T := fun k => match k with
  | 0 => ("SpinBench$Op", "place", "I", true)
  | 1 => ("SpinBench$Op", "around", "LSpinBench$Round;", true)
  | 2 => ("SpinBench$Round", "often", "I", true)
  | _ => ("SpinBench$Round", "timesDone", "I", false)
def tyX7 : Nat → FieldType := fun k => match k with
  | 0 => .int
  | 1 => .object "SpinBench$Round"
  | 2 => .int
  | _ => .int
abbrev wsX70 : List Cond := u_ws RX7 TX7 4
theorem nmX7 : ∀ a, a < 4 → ∀ b, b < 4 → a ≠ b → (TX7 a).2.1 ≠ (TX7 b).2.1 := by decide +kernel
theorem tyX7_ok : ∀ k, k < 4 → parseFieldDescriptor (TX7 k).2.2.1 = some (tyX7 k) := by decide +kernel
abbrev cX7_init : ByteArray := prog_9_method_1_code
def yX7_init : MethodName := ⟨RX7, "<init>", "(ILSpinBench$Round;I)V"⟩
abbrev cX7_ownKind : ByteArray := prog_9_method_2_code
def yX7_ownKind : MethodName := ⟨RX7, "ownKind", "()I"⟩
abbrev cX7_cost : ByteArray := prog_9_method_3_code
def yX7_cost : MethodName := ⟨RX7, "cost", "(LSpinBench;)I"⟩
abbrev cX7_perform : ByteArray := prog_9_method_4_code
def yX7_perform : MethodName := ⟨RX7, "perform", "(LSpinBench;)I"⟩
def RX8 : String := "SpinBench$Store"
def TX8 : u_T := fun k => match k with
  | 0 => ("SpinBench$Op", "place", "I", true)
  | 1 => ("SpinBench$Op", "around", "LSpinBench$Round;", true)
  | 2 => ("SpinBench$Store", "shelf", "I", true)
  | _ => ("SpinBench$Store", "times", "I", true)
def tyX8 : Nat → FieldType := fun k => match k with
  | 0 => .int
  | 1 => .object "SpinBench$Round"
  | 2 => .int
  | _ => .int
abbrev wsX80 : List Cond := u_ws RX8 TX8 4
theorem nmX8 : ∀ a, a < 4 → ∀ b, b < 4 → a ≠ b → (TX8 a).2.1 ≠ (TX8 b).2.1 := by decide +kernel
theorem tyX8_ok : ∀ k, k < 4 → parseFieldDescriptor (TX8 k).2.2.1 = some (tyX8 k) := by decide +kernel
abbrev cX8_init : ByteArray := prog_10_method_1_code
def yX8_init : MethodName := ⟨RX8, "<init>", "(ILSpinBench$Round;II)V"⟩
abbrev cX8_ownKind : ByteArray := prog_10_method_2_code
def yX8_ownKind : MethodName := ⟨RX8, "ownKind", "()I"⟩
abbrev cX8_mark : ByteArray := prog_10_method_3_code
def yX8_mark : MethodName := ⟨RX8, "mark", "(LSpinBench;)I"⟩
abbrev cX8_perform : ByteArray := prog_10_method_4_code
def yX8_perform : MethodName := ⟨RX8, "perform", "(LSpinBench;)I"⟩
def RX9 : String := "SpinBench$Sum"
def TX9 : u_T := fun k => match k with
  | 0 => ("SpinBench$Sum", "keys", "[I", true)
  | 1 => ("SpinBench$Sum", "numbers", "[J", true)
  | _ => ("SpinBench$Sum", "size", "I", false)
def tyX9 : Nat → FieldType := fun k => match k with
  | 0 => .array .int
  | 1 => .array .long
  | _ => .int
abbrev wsX90 : List Cond := u_ws RX9 TX9 3
theorem nmX9 : ∀ a, a < 3 → ∀ b, b < 3 → a ≠ b → (TX9 a).2.1 ≠ (TX9 b).2.1 := by decide +kernel
theorem tyX9_ok : ∀ k, k < 3 → parseFieldDescriptor (TX9 k).2.2.1 = some (tyX9 k) := by decide +kernel
abbrev cX9_init : ByteArray := prog_11_method_1_code
def yX9_init : MethodName := ⟨RX9, "<init>", "()V"⟩
abbrev cX9_become : ByteArray := prog_11_method_2_code
def yX9_become : MethodName := ⟨RX9, "become", "(LSpinBench$Sum;)V"⟩
abbrev cX9_isLike : ByteArray := prog_11_method_3_code
def yX9_isLike : MethodName := ⟨RX9, "isLike", "(LSpinBench$Sum;)Z"⟩
def RX10 : String := "SpinBench$Table"
def TX10 : u_T := fun k => match k with
  | 0 => ("SpinBench$Table", "items", "[I", true)
  | 1 => ("SpinBench$Table", "missing", "Z", false)
  | 2 => ("SpinBench$Table", "lane", "I", false)
  | _ => ("SpinBench$Table", "size", "I", false)
def tyX10 : Nat → FieldType := fun k => match k with
  | 0 => .array .int
  | 1 => .boolean
  | 2 => .int
  | _ => .int
abbrev wsX100 : List Cond := u_ws RX10 TX10 4
theorem nmX10 : ∀ a, a < 4 → ∀ b, b < 4 → a ≠ b → (TX10 a).2.1 ≠ (TX10 b).2.1 := by decide +kernel
theorem tyX10_ok : ∀ k, k < 4 → parseFieldDescriptor (TX10 k).2.2.1 = some (tyX10 k) := by decide +kernel
abbrev cX10_init : ByteArray := prog_12_method_1_code
def yX10_init : MethodName := ⟨RX10, "<init>", "()V"⟩
abbrev cX10_make : ByteArray := prog_12_method_2_code
def yX10_make : MethodName := ⟨RX10, "make", "(II)V"⟩
abbrev cX10_hasPlaces : ByteArray := prog_12_method_3_code
def yX10_hasPlaces : MethodName := ⟨RX10, "hasPlaces", "(II)Z"⟩
abbrev cX10_fitted : ByteArray := prog_12_method_4_code
def yX10_fitted : MethodName := ⟨RX10, "fitted", "(I)I"⟩
def RX11 : String := "SpinBench"
def TX11 : u_T := fun k => match k with
  | 0 => ("SpinBench", "spinCount", "I", true)
  | 1 => ("SpinBench", "sums", "[LSpinBench$Sum;", true)
  | 2 => ("SpinBench", "sumsAhead", "[LSpinBench$Sum;", true)
  | 3 => ("SpinBench", "work", "LSpinBench$Sum;", true)
  | 4 => ("SpinBench", "mixer", "LSpinBench$Mixer;", true)
  | 5 => ("SpinBench", "tables", "[LSpinBench$Table;", true)
  | 6 => ("SpinBench", "program", "[LSpinBench$Op;", true)
  | 7 => ("SpinBench", "length", "I", false)
  | 8 => ("SpinBench", "latestOpen", "LSpinBench$Round;", false)
  | 9 => ("SpinBench", "next", "I", false)
  | 10 => ("SpinBench", "stepsDone", "I", false)
  | 11 => ("SpinBench", "lastBegun", "I", false)
  | 12 => ("SpinBench", "bodies", "[I", true)
  | 13 => ("SpinBench", "bodiesBegun", "I", false)
  | _ => ("SpinBench", "latestFinding", "I", false)
def tyX11 : Nat → FieldType := fun k => match k with
  | 0 => .int
  | 1 => .array (.object "SpinBench$Sum")
  | 2 => .array (.object "SpinBench$Sum")
  | 3 => .object "SpinBench$Sum"
  | 4 => .object "SpinBench$Mixer"
  | 5 => .array (.object "SpinBench$Table")
  | 6 => .array (.object "SpinBench$Op")
  | 7 => .int
  | 8 => .object "SpinBench$Round"
  | 9 => .int
  | 10 => .int
  | 11 => .int
  | 12 => .array .int
  | 13 => .int
  | _ => .int
abbrev wsX110 : List Cond := u_ws RX11 TX11 15
theorem nmX11 : ∀ a, a < 15 → ∀ b, b < 15 → a ≠ b → (TX11 a).2.1 ≠ (TX11 b).2.1 := by decide +kernel
theorem tyX11_ok : ∀ k, k < 15 → parseFieldDescriptor (TX11 k).2.2.1 = some (tyX11 k) := by decide +kernel
abbrev cX11_init : ByteArray := prog_1_method_1_code
def yX11_init : MethodName := ⟨RX11, "<init>", "(I)V"⟩
abbrev cX11_table : ByteArray := prog_1_method_2_code
def yX11_table : MethodName := ⟨RX11, "table", "(III)I"⟩
abbrev cX11_set : ByteArray := prog_1_method_3_code
def yX11_set : MethodName := ⟨RX11, "set", "(III)I"⟩
abbrev cX11_copy : ByteArray := prog_1_method_4_code
def yX11_copy : MethodName := ⟨RX11, "copy", "(IIIII)I"⟩
abbrev cX11_drop : ByteArray := prog_1_method_5_code
def yX11_drop : MethodName := ⟨RX11, "drop", "(I)I"⟩
abbrev cX11_clear : ByteArray := prog_1_method_6_code
def yX11_clear : MethodName := ⟨RX11, "clear", "(I)I"⟩
abbrev cX11_add : ByteArray := prog_1_method_7_code
def yX11_add : MethodName := ⟨RX11, "add", "(III)I"⟩
abbrev cX11_take : ByteArray := prog_1_method_8_code
def yX11_take : MethodName := ⟨RX11, "take", "(II)I"⟩
abbrev cX11_join : ByteArray := prog_1_method_9_code
def yX11_join : MethodName := ⟨RX11, "join", "(III)I"⟩
abbrev cX11_quarter : ByteArray := prog_1_method_10_code
def yX11_quarter : MethodName := ⟨RX11, "quarter", "(II)I"⟩
abbrev cX11_letter : ByteArray := prog_1_method_11_code
def yX11_letter : MethodName := ⟨RX11, "letter", "(III)I"⟩
abbrev cX11_terms : ByteArray := prog_1_method_12_code
def yX11_terms : MethodName := ⟨RX11, "terms", "(I)I"⟩
abbrev cX11_number : ByteArray := prog_1_method_13_code
def yX11_number : MethodName := ⟨RX11, "number", "(II)J"⟩
abbrev cX11_power : ByteArray := prog_1_method_14_code
def yX11_power : MethodName := ⟨RX11, "power", "(III)I"⟩
abbrev cX11_same : ByteArray := prog_1_method_15_code
def yX11_same : MethodName := ⟨RX11, "same", "(II)I"⟩
abbrev cX11_product : ByteArray := prog_1_method_16_code
def yX11_product : MethodName := ⟨RX11, "product", "(III)I"⟩
abbrev cX11_digest : ByteArray := prog_1_method_17_code
def yX11_digest : MethodName := ⟨RX11, "digest", "(I)J"⟩
abbrev cX11_pulse : ByteArray := prog_1_method_18_code
def yX11_pulse : MethodName := ⟨RX11, "pulse", "(III)I"⟩
abbrev cX11_cycled : ByteArray := prog_1_method_19_code
def yX11_cycled : MethodName := ⟨RX11, "cycled", "(IIII)I"⟩
abbrev cX11_delay : ByteArray := prog_1_method_20_code
def yX11_delay : MethodName := ⟨RX11, "delay", "(III)I"⟩
abbrev cX11_round : ByteArray := prog_1_method_21_code
def yX11_round : MethodName := ⟨RX11, "round", "(I)I"⟩
abbrev cX11_end : ByteArray := prog_1_method_22_code
def yX11_end : MethodName := ⟨RX11, "end", "()I"⟩
abbrev cX11_store : ByteArray := prog_1_method_23_code
def yX11_store : MethodName := ⟨RX11, "store", "(II)I"⟩
abbrev cX11_back : ByteArray := prog_1_method_24_code
def yX11_back : MethodName := ⟨RX11, "back", "()I"⟩
abbrev cX11_kind : ByteArray := prog_1_method_25_code
def yX11_kind : MethodName := ⟨RX11, "kind", "(I)I"⟩
abbrev cX11_is : ByteArray := prog_1_method_26_code
def yX11_is : MethodName := ⟨RX11, "is", "(II)I"⟩
abbrev cX11_spins : ByteArray := prog_1_method_27_code
def yX11_spins : MethodName := ⟨RX11, "spins", "(I)I"⟩
abbrev cX11_ask : ByteArray := prog_1_method_28_code
def yX11_ask : MethodName := ⟨RX11, "ask", "(II)I"⟩
abbrev cX11_trace : ByteArray := prog_1_method_29_code
def yX11_trace : MethodName := ⟨RX11, "trace", "(I)I"⟩
abbrev cX11_run : ByteArray := prog_1_method_30_code
def yX11_run : MethodName := ⟨RX11, "run", "()I"⟩
abbrev cX11_told : ByteArray := prog_1_method_31_code
def yX11_told : MethodName := ⟨RX11, "told", "(I)I"⟩
abbrev cX11_count : ByteArray := prog_1_method_32_code
def yX11_count : MethodName := ⟨RX11, "count", "(I)I"⟩
abbrev cX11_status : ByteArray := prog_1_method_33_code
def yX11_status : MethodName := ⟨RX11, "status", "()I"⟩
abbrev cX11_within : ByteArray := prog_1_method_34_code
def yX11_within : MethodName := ⟨RX11, "within", "(III)Z"⟩
abbrev cX11_isWay : ByteArray := prog_1_method_35_code
def yX11_isWay : MethodName := ⟨RX11, "isWay", "(I)Z"⟩
abbrev cX11_isProduct : ByteArray := prog_1_method_36_code
def yX11_isProduct : MethodName := ⟨RX11, "isProduct", "(I)Z"⟩
abbrev cX11_isPulse : ByteArray := prog_1_method_37_code
def yX11_isPulse : MethodName := ⟨RX11, "isPulse", "(III)Z"⟩
abbrev cX11_tableAt : ByteArray := prog_1_method_38_code
def yX11_tableAt : MethodName := ⟨RX11, "tableAt", "(I)LSpinBench$Table;"⟩
abbrev cX11_sumAt : ByteArray := prog_1_method_39_code
def yX11_sumAt : MethodName := ⟨RX11, "sumAt", "(I)LSpinBench$Sum;"⟩
abbrev cX11_opAt : ByteArray := prog_1_method_40_code
def yX11_opAt : MethodName := ⟨RX11, "opAt", "(I)LSpinBench$Op;"⟩
abbrev cX11_found : ByteArray := prog_1_method_41_code
def yX11_found : MethodName := ⟨RX11, "found", "(I)I"⟩
abbrev cX11_notFound : ByteArray := prog_1_method_42_code
def yX11_notFound : MethodName := ⟨RX11, "notFound", "(I)I"⟩
abbrev cX11_append : ByteArray := prog_1_method_43_code
def yX11_append : MethodName := ⟨RX11, "append", "(LSpinBench$Op;)I"⟩
abbrev cX11_presentTables : ByteArray := prog_1_method_44_code
def yX11_presentTables : MethodName := ⟨RX11, "presentTables", "()I"⟩
abbrev cX11_openRounds : ByteArray := prog_1_method_45_code
def yX11_openRounds : MethodName := ⟨RX11, "openRounds", "()I"⟩
abbrev cX11_allTerms : ByteArray := prog_1_method_46_code
def yX11_allTerms : MethodName := ⟨RX11, "allTerms", "()I"⟩
abbrev cX11_takeAll : ByteArray := prog_1_method_47_code
def yX11_takeAll : MethodName := ⟨RX11, "takeAll", "([LSpinBench$Sum;[LSpinBench$Sum;)V"⟩
abbrev cX11_leaveBody : ByteArray := prog_1_method_48_code
def yX11_leaveBody : MethodName := ⟨RX11, "leaveBody", "(I)V"⟩
abbrev cX11_signOf : ByteArray := prog_1_method_49_code
def yX11_signOf : MethodName := ⟨RX11, "signOf", "(II)I"⟩
abbrev cX11_withProduct : ByteArray := prog_1_method_50_code
def yX11_withProduct : MethodName := ⟨RX11, "withProduct", "(II)I"⟩
abbrev cX11_turnByQuarters : ByteArray := prog_1_method_51_code
def yX11_turnByQuarters : MethodName := ⟨RX11, "turnByQuarters", "(II)Z"⟩
abbrev cX11_turnByLetter : ByteArray := prog_1_method_52_code
def yX11_turnByLetter : MethodName := ⟨RX11, "turnByLetter", "(III)Z"⟩
abbrev cX11_productOf : ByteArray := prog_1_method_53_code
def yX11_productOf : MethodName := ⟨RX11, "productOf", "(I)I"⟩
abbrev cX11_oneSine : ByteArray := prog_1_method_54_code
def yX11_oneSine : MethodName := ⟨RX11, "oneSine", "(I)I"⟩
abbrev cX11_oneCosine : ByteArray := prog_1_method_55_code
def yX11_oneCosine : MethodName := ⟨RX11, "oneCosine", "(I)I"⟩
abbrev cX11_cosinesOf : ByteArray := prog_1_method_56_code
def yX11_cosinesOf : MethodName := ⟨RX11, "cosinesOf", "(II)I"⟩
abbrev cX11_sinesOf : ByteArray := prog_1_method_57_code
def yX11_sinesOf : MethodName := ⟨RX11, "sinesOf", "(II)I"⟩
abbrev cX11_powerOf : ByteArray := prog_1_method_58_code
def yX11_powerOf : MethodName := ⟨RX11, "powerOf", "(II)I"⟩
def RX12 : String := "SpinBenchModel"
def TX12 : u_T := fun k => match k with
  | 0 => ("SpinBenchModel", "spins", "I", true)
  | 1 => ("SpinBenchModel", "products", "I", true)
  | 2 => ("SpinBenchModel", "lane", "[I", true)
  | 3 => ("SpinBenchModel", "size", "[I", true)
  | 4 => ("SpinBenchModel", "item", "[I", true)
  | 5 => ("SpinBenchModel", "moving", "[I", true)
  | 6 => ("SpinBenchModel", "many", "[I", true)
  | 7 => ("SpinBenchModel", "key", "[I", true)
  | 8 => ("SpinBenchModel", "number", "[J", true)
  | 9 => ("SpinBenchModel", "made", "I", false)
  | 10 => ("SpinBenchModel", "madeKey", "[I", true)
  | 11 => ("SpinBenchModel", "madeNumber", "[J", true)
  | 12 => ("SpinBenchModel", "ops", "I", false)
  | 13 => ("SpinBenchModel", "kind", "[I", true)
  | 14 => ("SpinBenchModel", "set", "[I", true)
  | 15 => ("SpinBenchModel", "phase", "[I", true)
  | 16 => ("SpinBenchModel", "turns", "[I", true)
  | 17 => ("SpinBenchModel", "table", "[I", true)
  | 18 => ("SpinBenchModel", "notEnded", "I", false)
  | 19 => ("SpinBenchModel", "status", "I", false)
  | 20 => ("SpinBenchModel", "trace", "[I", true)
  | 21 => ("SpinBenchModel", "traced", "I", false)
  | 22 => ("SpinBenchModel", "steps", "I", false)
  | 23 => ("SpinBenchModel", "latest", "I", false)
  | 24 => ("SpinBenchModel", "sign", "I", false)
  | 25 => ("SpinBenchModel", "rounds", "I", false)
  | 26 => ("SpinBenchModel", "roundAt", "[I", true)
  | _ => ("SpinBenchModel", "roundDone", "[I", true)
def tyX12 : Nat → FieldType := fun k => match k with
  | 0 => .int
  | 1 => .int
  | 2 => .array .int
  | 3 => .array .int
  | 4 => .array .int
  | 5 => .array .int
  | 6 => .array .int
  | 7 => .array .int
  | 8 => .array .long
  | 9 => .int
  | 10 => .array .int
  | 11 => .array .long
  | 12 => .int
  | 13 => .array .int
  | 14 => .array .int
  | 15 => .array .int
  | 16 => .array .int
  | 17 => .array .int
  | 18 => .int
  | 19 => .int
  | 20 => .array .int
  | 21 => .int
  | 22 => .int
  | 23 => .int
  | 24 => .int
  | 25 => .int
  | 26 => .array .int
  | _ => .array .int
abbrev wsX120 : List Cond := u_ws RX12 TX12 28
theorem nmX12 : ∀ a, a < 28 → ∀ b, b < 28 → a ≠ b → (TX12 a).2.1 ≠ (TX12 b).2.1 := by decide +kernel
theorem tyX12_ok : ∀ k, k < 28 → parseFieldDescriptor (TX12 k).2.2.1 = some (tyX12 k) := by decide +kernel
abbrev cX12_init : ByteArray := prog_14_method_1_code
def yX12_init : MethodName := ⟨RX12, "<init>", "(I)V"⟩
abbrev cX12_in : ByteArray := prog_14_method_2_code
def yX12_in : MethodName := ⟨RX12, "in", "(JJJ)Z"⟩
abbrev cX12_finds : ByteArray := prog_14_method_3_code
def yX12_finds : MethodName := ⟨RX12, "finds", "(I)I"⟩
abbrev cX12_well : ByteArray := prog_14_method_4_code
def yX12_well : MethodName := ⟨RX12, "well", "(I)I"⟩
abbrev cX12_isTable : ByteArray := prog_14_method_5_code
def yX12_isTable : MethodName := ⟨RX12, "isTable", "(I)Z"⟩
abbrev cX12_table : ByteArray := prog_14_method_6_code
def yX12_table : MethodName := ⟨RX12, "table", "(III)I"⟩
abbrev cX12_set : ByteArray := prog_14_method_7_code
def yX12_set : MethodName := ⟨RX12, "set", "(III)I"⟩
abbrev cX12_copy : ByteArray := prog_14_method_8_code
def yX12_copy : MethodName := ⟨RX12, "copy", "(IIIII)I"⟩
abbrev cX12_drop : ByteArray := prog_14_method_9_code
def yX12_drop : MethodName := ⟨RX12, "drop", "(I)I"⟩
abbrev cX12_cosine : ByteArray := prog_14_method_10_code
def yX12_cosine : MethodName := ⟨RX12, "cosine", "(II)I"⟩
abbrev cX12_sine : ByteArray := prog_14_method_11_code
def yX12_sine : MethodName := ⟨RX12, "sine", "(II)I"⟩
abbrev cX12_oneCosine : ByteArray := prog_14_method_12_code
def yX12_oneCosine : MethodName := ⟨RX12, "oneCosine", "(I)I"⟩
abbrev cX12_oneSine : ByteArray := prog_14_method_13_code
def yX12_oneSine : MethodName := ⟨RX12, "oneSine", "(I)I"⟩
abbrev cX12_productOf : ByteArray := prog_14_method_14_code
def yX12_productOf : MethodName := ⟨RX12, "productOf", "(I)I"⟩
abbrev cX12_put : ByteArray := prog_14_method_15_code
def yX12_put : MethodName := ⟨RX12, "put", "(IJ)V"⟩
abbrev cX12_placeOf : ByteArray := prog_14_method_16_code
def yX12_placeOf : MethodName := ⟨RX12, "placeOf", "(I)I"⟩
abbrev cX12_isShelf : ByteArray := prog_14_method_17_code
def yX12_isShelf : MethodName := ⟨RX12, "isShelf", "(I)Z"⟩
abbrev cX12_isProduct : ByteArray := prog_14_method_18_code
def yX12_isProduct : MethodName := ⟨RX12, "isProduct", "(I)Z"⟩
abbrev cX12_keep : ByteArray := prog_14_method_19_code
def yX12_keep : MethodName := ⟨RX12, "keep", "(I)Z"⟩
abbrev cX12_putAll : ByteArray := prog_14_method_20_code
def yX12_putAll : MethodName := ⟨RX12, "putAll", "(IJ)V"⟩
abbrev cX12_copySum : ByteArray := prog_14_method_21_code
def yX12_copySum : MethodName := ⟨RX12, "copySum", "(II)V"⟩
abbrev cX12_kept : ByteArray := prog_14_method_22_code
def yX12_kept : MethodName := ⟨RX12, "kept", "(I)I"⟩
abbrev cX12_clear : ByteArray := prog_14_method_23_code
def yX12_clear : MethodName := ⟨RX12, "clear", "(I)I"⟩
abbrev cX12_add : ByteArray := prog_14_method_24_code
def yX12_add : MethodName := ⟨RX12, "add", "(III)I"⟩
abbrev cX12_take : ByteArray := prog_14_method_25_code
def yX12_take : MethodName := ⟨RX12, "take", "(II)I"⟩
abbrev cX12_join : ByteArray := prog_14_method_26_code
def yX12_join : MethodName := ⟨RX12, "join", "(III)I"⟩
abbrev cX12_joined : ByteArray := prog_14_method_27_code
def yX12_joined : MethodName := ⟨RX12, "joined", "(III)Z"⟩
abbrev cX12_fits : ByteArray := prog_14_method_28_code
def yX12_fits : MethodName := ⟨RX12, "fits", "(II)Z"⟩
abbrev cX12_with : ByteArray := prog_14_method_29_code
def yX12_with : MethodName := ⟨RX12, "with", "(II)I"⟩
abbrev cX12_turnQuarter : ByteArray := prog_14_method_30_code
def yX12_turnQuarter : MethodName := ⟨RX12, "turnQuarter", "(II)V"⟩
abbrev cX12_turnLetter : ByteArray := prog_14_method_31_code
def yX12_turnLetter : MethodName := ⟨RX12, "turnLetter", "(III)Z"⟩
abbrev cX12_quarter : ByteArray := prog_14_method_32_code
def yX12_quarter : MethodName := ⟨RX12, "quarter", "(II)I"⟩
abbrev cX12_isWay : ByteArray := prog_14_method_33_code
def yX12_isWay : MethodName := ⟨RX12, "isWay", "(I)Z"⟩
abbrev cX12_letter : ByteArray := prog_14_method_34_code
def yX12_letter : MethodName := ⟨RX12, "letter", "(III)I"⟩
abbrev cX12_terms : ByteArray := prog_14_method_35_code
def yX12_terms : MethodName := ⟨RX12, "terms", "(I)I"⟩
abbrev cX12_isTerm : ByteArray := prog_14_method_36_code
def yX12_isTerm : MethodName := ⟨RX12, "isTerm", "(II)Z"⟩
abbrev cX12_number : ByteArray := prog_14_method_37_code
def yX12_number : MethodName := ⟨RX12, "number", "(II)J"⟩
abbrev cX12_powerOf : ByteArray := prog_14_method_38_code
def yX12_powerOf : MethodName := ⟨RX12, "powerOf", "(II)I"⟩
abbrev cX12_power : ByteArray := prog_14_method_39_code
def yX12_power : MethodName := ⟨RX12, "power", "(III)I"⟩
abbrev cX12_same : ByteArray := prog_14_method_40_code
def yX12_same : MethodName := ⟨RX12, "same", "(II)I"⟩
abbrev cX12_multiply : ByteArray := prog_14_method_41_code
def yX12_multiply : MethodName := ⟨RX12, "multiply", "(IIJ)Z"⟩
abbrev cX12_product : ByteArray := prog_14_method_42_code
def yX12_product : MethodName := ⟨RX12, "product", "(III)I"⟩
abbrev cX12_digest : ByteArray := prog_14_method_43_code
def yX12_digest : MethodName := ⟨RX12, "digest", "(I)J"⟩
abbrev cX12_come : ByteArray := prog_14_method_44_code
def yX12_come : MethodName := ⟨RX12, "come", "(IIIII)I"⟩
abbrev cX12_isPulse : ByteArray := prog_14_method_45_code
def yX12_isPulse : MethodName := ⟨RX12, "isPulse", "(III)Z"⟩
abbrev cX12_pulse : ByteArray := prog_14_method_46_code
def yX12_pulse : MethodName := ⟨RX12, "pulse", "(III)I"⟩
abbrev cX12_cycled : ByteArray := prog_14_method_47_code
def yX12_cycled : MethodName := ⟨RX12, "cycled", "(IIII)I"⟩
abbrev cX12_delay : ByteArray := prog_14_method_48_code
def yX12_delay : MethodName := ⟨RX12, "delay", "(III)I"⟩
abbrev cX12_round : ByteArray := prog_14_method_49_code
def yX12_round : MethodName := ⟨RX12, "round", "(I)I"⟩
abbrev cX12_end : ByteArray := prog_14_method_50_code
def yX12_end : MethodName := ⟨RX12, "end", "()I"⟩
abbrev cX12_store : ByteArray := prog_14_method_51_code
def yX12_store : MethodName := ⟨RX12, "store", "(II)I"⟩
abbrev cX12_back : ByteArray := prog_14_method_52_code
def yX12_back : MethodName := ⟨RX12, "back", "()I"⟩
abbrev cX12_isOp : ByteArray := prog_14_method_53_code
def yX12_isOp : MethodName := ⟨RX12, "isOp", "(I)Z"⟩
abbrev cX12_kind : ByteArray := prog_14_method_54_code
def yX12_kind : MethodName := ⟨RX12, "kind", "(I)I"⟩
abbrev cX12_is : ByteArray := prog_14_method_55_code
def yX12_is : MethodName := ⟨RX12, "is", "(II)I"⟩
abbrev cX12_spins : ByteArray := prog_14_method_56_code
def yX12_spins : MethodName := ⟨RX12, "spins", "(I)I"⟩
abbrev cX12_begins : ByteArray := prog_14_method_57_code
def yX12_begins : MethodName := ⟨RX12, "begins", "(I)V"⟩
abbrev cX12_cost : ByteArray := prog_14_method_58_code
def yX12_cost : MethodName := ⟨RX12, "cost", "(I)I"⟩
abbrev cX12_mark2 : ByteArray := prog_14_method_59_code
def yX12_mark2 : MethodName := ⟨RX12, "mark2", "(I)I"⟩
abbrev cX12_mark : ByteArray := prog_14_method_60_code
def yX12_mark : MethodName := ⟨RX12, "mark", "(I)I"⟩
abbrev cX12_ask : ByteArray := prog_14_method_61_code
def yX12_ask : MethodName := ⟨RX12, "ask", "(II)I"⟩
abbrev cX12_trace : ByteArray := prog_14_method_62_code
def yX12_trace : MethodName := ⟨RX12, "trace", "(I)I"⟩
abbrev cX12_doPulse : ByteArray := prog_14_method_63_code
def yX12_doPulse : MethodName := ⟨RX12, "doPulse", "(II)V"⟩
abbrev cX12_does : ByteArray := prog_14_method_64_code
def yX12_does : MethodName := ⟨RX12, "does", "(I)I"⟩
abbrev cX12_run : ByteArray := prog_14_method_65_code
def yX12_run : MethodName := ⟨RX12, "run", "()I"⟩
abbrev cX12_told : ByteArray := prog_14_method_66_code
def yX12_told : MethodName := ⟨RX12, "told", "(I)I"⟩
abbrev cX12_count : ByteArray := prog_14_method_67_code
def yX12_count : MethodName := ⟨RX12, "count", "(I)I"⟩
abbrev cX12_status : ByteArray := prog_14_method_68_code
def yX12_status : MethodName := ⟨RX12, "status", "()I"⟩
def RJ6 : String := "java/lang/Integer"
def TJ6 : u_T := fun k => match k with
  | _ => ("", "", "", false)
def tyJ6 : Nat → FieldType := fun k => match k with
  | _ => .int
abbrev wsJ60 : List Cond := u_ws RJ6 TJ6 0
theorem nmJ6 : ∀ a, a < 0 → ∀ b, b < 0 → a ≠ b → (TJ6 a).2.1 ≠ (TJ6 b).2.1 := by decide +kernel
theorem tyJ6_ok : ∀ k, k < 0 → parseFieldDescriptor (TJ6 k).2.2.1 = some (tyJ6 k) := by decide +kernel
abbrev cJ6_bitCount_0f7a4 : ByteArray := prog_15_method_49_code
def yJ6_bitCount_0f7a4 : MethodName := ⟨RJ6, "bitCount", "(I)I"⟩
def RJ9 : String := "java/lang/Math"
def TJ9 : u_T := fun k => match k with
  | _ => ("", "", "", false)
def tyJ9 : Nat → FieldType := fun k => match k with
  | _ => .int
abbrev wsJ90 : List Cond := u_ws RJ9 TJ9 0
theorem nmJ9 : ∀ a, a < 0 → ∀ b, b < 0 → a ≠ b → (TJ9 a).2.1 ≠ (TJ9 b).2.1 := by decide +kernel
theorem tyJ9_ok : ∀ k, k < 0 → parseFieldDescriptor (TJ9 k).2.2.1 = some (tyJ9 k) := by decide +kernel
abbrev cJ9_abs_067f4 : ByteArray := prog_16_method_61_code
def yJ9_abs_067f4 : MethodName := ⟨RJ9, "abs", "(J)J"⟩
abbrev cJ9_max_7cf53 : ByteArray := prog_16_method_65_code
def yJ9_max_7cf53 : MethodName := ⟨RJ9, "max", "(II)I"⟩
abbrev cJ9_min_7cf53 : ByteArray := prog_16_method_69_code
def yJ9_min_7cf53 : MethodName := ⟨RJ9, "min", "(II)I"⟩
def RJ10 : String := "java/lang/System"
def TJ10 : u_T := fun k => match k with
  | _ => ("", "", "", false)
def tyJ10 : Nat → FieldType := fun k => match k with
  | _ => .int
abbrev wsJ100 : List Cond := u_ws RJ10 TJ10 0
theorem nmJ10 : ∀ a, a < 0 → ∀ b, b < 0 → a ≠ b → (TJ10 a).2.1 ≠ (TJ10 b).2.1 := by decide +kernel
theorem tyJ10_ok : ∀ k, k < 0 → parseFieldDescriptor (TJ10 k).2.2.1 = some (tyJ10 k) := by decide +kernel
def RJ7 : String := "java/util/Arrays"
def TJ7 : u_T := fun k => match k with
  | _ => ("", "", "", false)
def tyJ7 : Nat → FieldType := fun k => match k with
  | _ => .int
abbrev wsJ70 : List Cond := u_ws RJ7 TJ7 0
theorem nmJ7 : ∀ a, a < 0 → ∀ b, b < 0 → a ≠ b → (TJ7 a).2.1 ≠ (TJ7 b).2.1 := by decide +kernel
theorem tyJ7_ok : ∀ k, k < 0 → parseFieldDescriptor (TJ7 k).2.2.1 = some (tyJ7 k) := by decide +kernel
abbrev cJ7_fill_53178 : ByteArray := prog_18_method_103_code
def yJ7_fill_53178 : MethodName := ⟨RJ7, "fill", "([II)V"⟩
def RL : String := "SpinBenchLaw"
abbrev cL_cell : ByteArray := method_2_code
def yL_cell : MethodName := ⟨RL, "cell", "([II)I"⟩
abbrev cL_law : ByteArray := code
def yL_law : MethodName := ⟨RL, "law", "([I)Z"⟩
abbrev vwCl : List vw_C := [(RX0, TX0, 6), (RX1, TX1, 5), (RX2, TX2, 2), (RX4, TX4, 8), (RX6, TX6, 5), (RX7, TX7, 4), (RX8, TX8, 4), (RX9, TX9, 3), (RX10, TX10, 4), (RX11, TX11, 15), (RX12, TX12, 28)]
end
section
/-! the words of the tables that a call may pass on, a row a word, by its place -/
def gw_All : List Cond := lw_tbl.filter goodWord
theorem gw_in {w : Cond} (i : Nat) (h : lw_tbl[i]? = some w) (g : goodWord w = true) : w ∈ gw_All := List.mem_filter.mpr ⟨List.mem_of_getElem? h, g⟩
theorem gw_good {big : List Cond} (hb : ∀ w ∈ gw_All, w ∈ big) : GoodIn big gw_All := fun w hw => ⟨hb w hw, good_of_word (List.mem_filter.mp hw).2⟩
theorem gw_in_r (ws : List Cond) (ps : List Nat) (hp : ws = ps.filterMap (fun i => lw_tbl[i]?)) (h : ws.all goodWord = true) : ∀ w ∈ ws, w ∈ gw_All := by
  intro w hw
  have h1 := List.all_eq_true.mp h w hw
  rw [hp] at hw
  obtain ⟨i, -, hi⟩ := List.mem_filterMap.mp hw
  exact gw_in i hi h1
theorem wd_0 : Cond.selects "SpinBench" ⟨"SpinBench", "tableAt", "(I)LSpinBench$Table;"⟩ ⟨"SpinBench", "tableAt", "(I)LSpinBench$Table;"⟩ ∈ gw_All := gw_in 0 (by decide +kernel) (by decide +kernel)
theorem wd_1 : Cond.selects "SpinBench" ⟨"SpinBench", "found", "(I)I"⟩ ⟨"SpinBench", "found", "(I)I"⟩ ∈ gw_All := gw_in 1 (by decide +kernel) (by decide +kernel)
theorem wd_2 : Cond.selects "SpinBench$Table" ⟨"SpinBench$Table", "make", "(II)V"⟩ ⟨"SpinBench$Table", "make", "(II)V"⟩ ∈ gw_All := gw_in 2 (by decide +kernel) (by decide +kernel)
theorem wd_3 : Cond.selects "SpinBench" ⟨"SpinBench", "notFound", "(I)I"⟩ ⟨"SpinBench", "notFound", "(I)I"⟩ ∈ gw_All := gw_in 3 (by decide +kernel) (by decide +kernel)
theorem wd_4 : Cond.selects "SpinBench$Table" ⟨"SpinBench$Table", "hasPlaces", "(II)Z"⟩ ⟨"SpinBench$Table", "hasPlaces", "(II)Z"⟩ ∈ gw_All := gw_in 4 (by decide +kernel) (by decide +kernel)
theorem wd_5 : Cond.selects "SpinBench$Table" ⟨"SpinBench$Table", "fitted", "(I)I"⟩ ⟨"SpinBench$Table", "fitted", "(I)I"⟩ ∈ gw_All := gw_in 5 (by decide +kernel) (by decide +kernel)
theorem wd_6 : Cond.selects "SpinBench" ⟨"SpinBench", "sumAt", "(I)LSpinBench$Sum;"⟩ ⟨"SpinBench", "sumAt", "(I)LSpinBench$Sum;"⟩ ∈ gw_All := gw_in 6 (by decide +kernel) (by decide +kernel)
theorem wd_7 : Cond.selects "SpinBench" ⟨"SpinBench", "isProduct", "(I)Z"⟩ ⟨"SpinBench", "isProduct", "(I)Z"⟩ ∈ gw_All := gw_in 7 (by decide +kernel) (by decide +kernel)
theorem wd_8 : Cond.selects "SpinBench$Mixer" ⟨"SpinBench$Mixer", "begin", "()V"⟩ ⟨"SpinBench$Mixer", "begin", "()V"⟩ ∈ gw_All := gw_in 8 (by decide +kernel) (by decide +kernel)
theorem wd_9 : Cond.selects "SpinBench$Mixer" ⟨"SpinBench$Mixer", "putSum", "(LSpinBench$Sum;I)V"⟩ ⟨"SpinBench$Mixer", "putSum", "(LSpinBench$Sum;I)V"⟩ ∈ gw_All := gw_in 9 (by decide +kernel) (by decide +kernel)
theorem wd_10 : Cond.selects "SpinBench$Mixer" ⟨"SpinBench$Mixer", "put", "(IJ)V"⟩ ⟨"SpinBench$Mixer", "put", "(IJ)V"⟩ ∈ gw_All := gw_in 10 (by decide +kernel) (by decide +kernel)
theorem wd_11 : Cond.selects "SpinBench$Mixer" ⟨"SpinBench$Mixer", "enter", "(IIJ)V"⟩ ⟨"SpinBench$Mixer", "enter", "(IIJ)V"⟩ ∈ gw_All := gw_in 11 (by decide +kernel) (by decide +kernel)
theorem wd_12 : Cond.selects "SpinBench$Mixer" ⟨"SpinBench$Mixer", "settle", "(LSpinBench$Sum;)Z"⟩ ⟨"SpinBench$Mixer", "settle", "(LSpinBench$Sum;)Z"⟩ ∈ gw_All := gw_in 12 (by decide +kernel) (by decide +kernel)
theorem wd_13 : Cond.selects "SpinBench$Mixer" ⟨"SpinBench$Mixer", "dropZeros", "()V"⟩ ⟨"SpinBench$Mixer", "dropZeros", "()V"⟩ ∈ gw_All := gw_in 13 (by decide +kernel) (by decide +kernel)
theorem wd_14 : Cond.selects "SpinBench$Mixer" ⟨"SpinBench$Mixer", "isSum", "()Z"⟩ ⟨"SpinBench$Mixer", "isSum", "()Z"⟩ ∈ gw_All := gw_in 14 (by decide +kernel) (by decide +kernel)
theorem wd_15 : Cond.selects "SpinBench$Mixer" ⟨"SpinBench$Mixer", "sort", "()V"⟩ ⟨"SpinBench$Mixer", "sort", "()V"⟩ ∈ gw_All := gw_in 15 (by decide +kernel) (by decide +kernel)
theorem wd_16 : Cond.selects "SpinBench$Mixer" ⟨"SpinBench$Mixer", "merge", "(III)V"⟩ ⟨"SpinBench$Mixer", "merge", "(III)V"⟩ ∈ gw_All := gw_in 16 (by decide +kernel) (by decide +kernel)
theorem wd_17 : Cond.selects "SpinBench$Sum" ⟨"SpinBench$Sum", "become", "(LSpinBench$Sum;)V"⟩ ⟨"SpinBench$Sum", "become", "(LSpinBench$Sum;)V"⟩ ∈ gw_All := gw_in 17 (by decide +kernel) (by decide +kernel)
theorem wd_18 : Cond.selects "SpinBench$Mixer" ⟨"SpinBench$Mixer", "joinSums", "(LSpinBench$Sum;LSpinBench$Sum;I)Z"⟩ ⟨"SpinBench$Mixer", "joinSums", "(LSpinBench$Sum;LSpinBench$Sum;I)Z"⟩ ∈ gw_All := gw_in 18 (by decide +kernel) (by decide +kernel)
theorem wd_19 : Cond.selects "SpinBench" ⟨"SpinBench", "turnByQuarters", "(II)Z"⟩ ⟨"SpinBench", "turnByQuarters", "(II)Z"⟩ ∈ gw_All := gw_in 19 (by decide +kernel) (by decide +kernel)
theorem wd_20 : Cond.selects "SpinBench" ⟨"SpinBench", "turnByLetter", "(III)Z"⟩ ⟨"SpinBench", "turnByLetter", "(III)Z"⟩ ∈ gw_All := gw_in 20 (by decide +kernel) (by decide +kernel)
theorem wd_21 : Cond.selects "SpinBench$Mixer" ⟨"SpinBench$Mixer", "putTimesSine", "(IIJ)V"⟩ ⟨"SpinBench$Mixer", "putTimesSine", "(IIJ)V"⟩ ∈ gw_All := gw_in 21 (by decide +kernel) (by decide +kernel)
theorem wd_22 : Cond.selects "SpinBench$Sum" ⟨"SpinBench$Sum", "isLike", "(LSpinBench$Sum;)Z"⟩ ⟨"SpinBench$Sum", "isLike", "(LSpinBench$Sum;)Z"⟩ ∈ gw_All := gw_in 22 (by decide +kernel) (by decide +kernel)
theorem wd_23 : Cond.selects "SpinBench$Mixer" ⟨"SpinBench$Mixer", "multiply", "(LSpinBench$Sum;LSpinBench$Sum;LSpinBench$Sum;)Z"⟩ ⟨"SpinBench$Mixer", "multiply", "(LSpinBench$Sum;LSpinBench$Sum;LSpinBench$Sum;)Z"⟩ ∈ gw_All := gw_in 23 (by decide +kernel) (by decide +kernel)
theorem wd_24 : Cond.selects "SpinBench$Mixer" ⟨"SpinBench$Mixer", "putRows", "(IIJ)Z"⟩ ⟨"SpinBench$Mixer", "putRows", "(IIJ)Z"⟩ ∈ gw_All := gw_in 24 (by decide +kernel) (by decide +kernel)
theorem wd_25 : Cond.selects "SpinBench" ⟨"SpinBench", "isPulse", "(III)Z"⟩ ⟨"SpinBench", "isPulse", "(III)Z"⟩ ∈ gw_All := gw_in 25 (by decide +kernel) (by decide +kernel)
theorem wd_26 : Cond.selects "SpinBench" ⟨"SpinBench", "append", "(LSpinBench$Op;)I"⟩ ⟨"SpinBench", "append", "(LSpinBench$Op;)I"⟩ ∈ gw_All := gw_in 26 (by decide +kernel) (by decide +kernel)
theorem wd_27 : Cond.selects "SpinBench" ⟨"SpinBench", "openRounds", "()I"⟩ ⟨"SpinBench", "openRounds", "()I"⟩ ∈ gw_All := gw_in 27 (by decide +kernel) (by decide +kernel)
theorem wd_28 : Cond.selects "SpinBench" ⟨"SpinBench", "opAt", "(I)LSpinBench$Op;"⟩ ⟨"SpinBench", "opAt", "(I)LSpinBench$Op;"⟩ ∈ gw_All := gw_in 28 (by decide +kernel) (by decide +kernel)
theorem wd_29 : Cond.selects "SpinBench" ⟨"SpinBench", "leaveBody", "(I)V"⟩ ⟨"SpinBench", "leaveBody", "(I)V"⟩ ∈ gw_All := gw_in 29 (by decide +kernel) (by decide +kernel)
theorem wd_30 : Cond.selects "SpinBench" ⟨"SpinBench", "presentTables", "()I"⟩ ⟨"SpinBench", "presentTables", "()I"⟩ ∈ gw_All := gw_in 30 (by decide +kernel) (by decide +kernel)
theorem wd_31 : Cond.selects "SpinBench" ⟨"SpinBench", "allTerms", "()I"⟩ ⟨"SpinBench", "allTerms", "()I"⟩ ∈ gw_All := gw_in 31 (by decide +kernel) (by decide +kernel)
theorem wd_32 : Cond.selects "SpinBenchModel" ⟨"SpinBenchModel", "finds", "(I)I"⟩ ⟨"SpinBenchModel", "finds", "(I)I"⟩ ∈ gw_All := gw_in 32 (by decide +kernel) (by decide +kernel)
theorem wd_33 : Cond.selects "SpinBenchModel" ⟨"SpinBenchModel", "well", "(I)I"⟩ ⟨"SpinBenchModel", "well", "(I)I"⟩ ∈ gw_All := gw_in 33 (by decide +kernel) (by decide +kernel)
theorem wd_34 : Cond.selects "SpinBenchModel" ⟨"SpinBenchModel", "isProduct", "(I)Z"⟩ ⟨"SpinBenchModel", "isProduct", "(I)Z"⟩ ∈ gw_All := gw_in 34 (by decide +kernel) (by decide +kernel)
theorem wd_35 : Cond.selects "SpinBenchModel" ⟨"SpinBenchModel", "putAll", "(IJ)V"⟩ ⟨"SpinBenchModel", "putAll", "(IJ)V"⟩ ∈ gw_All := gw_in 35 (by decide +kernel) (by decide +kernel)
theorem wd_36 : Cond.selects "SpinBenchModel" ⟨"SpinBenchModel", "put", "(IJ)V"⟩ ⟨"SpinBenchModel", "put", "(IJ)V"⟩ ∈ gw_All := gw_in 36 (by decide +kernel) (by decide +kernel)
theorem wd_37 : Cond.selects "SpinBenchModel" ⟨"SpinBenchModel", "kept", "(I)I"⟩ ⟨"SpinBenchModel", "kept", "(I)I"⟩ ∈ gw_All := gw_in 37 (by decide +kernel) (by decide +kernel)
theorem wd_38 : Cond.selects "SpinBenchModel" ⟨"SpinBenchModel", "keep", "(I)Z"⟩ ⟨"SpinBenchModel", "keep", "(I)Z"⟩ ∈ gw_All := gw_in 38 (by decide +kernel) (by decide +kernel)
theorem wd_39 : Cond.selects "SpinBenchModel" ⟨"SpinBenchModel", "copySum", "(II)V"⟩ ⟨"SpinBenchModel", "copySum", "(II)V"⟩ ∈ gw_All := gw_in 39 (by decide +kernel) (by decide +kernel)
theorem wd_40 : Cond.selects "SpinBenchModel" ⟨"SpinBenchModel", "joined", "(III)Z"⟩ ⟨"SpinBenchModel", "joined", "(III)Z"⟩ ∈ gw_All := gw_in 40 (by decide +kernel) (by decide +kernel)
theorem wd_41 : Cond.selects "SpinBenchModel" ⟨"SpinBenchModel", "turnQuarter", "(II)V"⟩ ⟨"SpinBenchModel", "turnQuarter", "(II)V"⟩ ∈ gw_All := gw_in 41 (by decide +kernel) (by decide +kernel)
theorem wd_42 : Cond.selects "SpinBenchModel" ⟨"SpinBenchModel", "fits", "(II)Z"⟩ ⟨"SpinBenchModel", "fits", "(II)Z"⟩ ∈ gw_All := gw_in 42 (by decide +kernel) (by decide +kernel)
theorem wd_43 : Cond.selects "SpinBenchModel" ⟨"SpinBenchModel", "with", "(II)I"⟩ ⟨"SpinBenchModel", "with", "(II)I"⟩ ∈ gw_All := gw_in 43 (by decide +kernel) (by decide +kernel)
theorem wd_44 : Cond.selects "SpinBenchModel" ⟨"SpinBenchModel", "turnLetter", "(III)Z"⟩ ⟨"SpinBenchModel", "turnLetter", "(III)Z"⟩ ∈ gw_All := gw_in 44 (by decide +kernel) (by decide +kernel)
theorem wd_45 : Cond.selects "SpinBenchModel" ⟨"SpinBenchModel", "isTerm", "(II)Z"⟩ ⟨"SpinBenchModel", "isTerm", "(II)Z"⟩ ∈ gw_All := gw_in 45 (by decide +kernel) (by decide +kernel)
theorem wd_46 : Cond.selects "SpinBenchModel" ⟨"SpinBenchModel", "multiply", "(IIJ)Z"⟩ ⟨"SpinBenchModel", "multiply", "(IIJ)Z"⟩ ∈ gw_All := gw_in 46 (by decide +kernel) (by decide +kernel)
theorem wd_47 : Cond.selects "SpinBenchModel" ⟨"SpinBenchModel", "isPulse", "(III)Z"⟩ ⟨"SpinBenchModel", "isPulse", "(III)Z"⟩ ∈ gw_All := gw_in 47 (by decide +kernel) (by decide +kernel)
theorem wd_48 : Cond.selects "SpinBenchModel" ⟨"SpinBenchModel", "come", "(IIIII)I"⟩ ⟨"SpinBenchModel", "come", "(IIIII)I"⟩ ∈ gw_All := gw_in 48 (by decide +kernel) (by decide +kernel)
theorem wd_49 : Cond.selects "SpinBenchModel" ⟨"SpinBenchModel", "isOp", "(I)Z"⟩ ⟨"SpinBenchModel", "isOp", "(I)Z"⟩ ∈ gw_All := gw_in 49 (by decide +kernel) (by decide +kernel)
theorem wd_50 : Cond.selects "SpinBenchModel" ⟨"SpinBenchModel", "cost", "(I)I"⟩ ⟨"SpinBenchModel", "cost", "(I)I"⟩ ∈ gw_All := gw_in 50 (by decide +kernel) (by decide +kernel)
theorem wd_51 : Cond.selects "SpinBenchModel" ⟨"SpinBenchModel", "begins", "(I)V"⟩ ⟨"SpinBenchModel", "begins", "(I)V"⟩ ∈ gw_All := gw_in 51 (by decide +kernel) (by decide +kernel)
theorem wd_52 : Cond.selects "SpinBenchModel" ⟨"SpinBenchModel", "mark2", "(I)I"⟩ ⟨"SpinBenchModel", "mark2", "(I)I"⟩ ∈ gw_All := gw_in 52 (by decide +kernel) (by decide +kernel)
theorem wd_53 : Cond.selects "SpinBenchModel" ⟨"SpinBenchModel", "mark", "(I)I"⟩ ⟨"SpinBenchModel", "mark", "(I)I"⟩ ∈ gw_All := gw_in 53 (by decide +kernel) (by decide +kernel)
theorem wd_54 : Cond.selects "SpinBenchModel" ⟨"SpinBenchModel", "does", "(I)I"⟩ ⟨"SpinBenchModel", "does", "(I)I"⟩ ∈ gw_All := gw_in 54 (by decide +kernel) (by decide +kernel)
theorem wd_55 : Cond.selects "SpinBenchModel" ⟨"SpinBenchModel", "doPulse", "(II)V"⟩ ⟨"SpinBenchModel", "doPulse", "(II)V"⟩ ∈ gw_All := gw_in 55 (by decide +kernel) (by decide +kernel)
theorem wd_56 : Cond.initialized "SpinBenchLaw" ∈ gw_All := gw_in 56 (by decide +kernel) (by decide +kernel)
theorem wd_57 : Cond.initialized "SpinBench" ∈ gw_All := gw_in 57 (by decide +kernel) (by decide +kernel)
theorem wd_58 : Cond.initialized "SpinBench$Mixer" ∈ gw_All := gw_in 58 (by decide +kernel) (by decide +kernel)
theorem wd_59 : Cond.initialized "java/lang/Math" ∈ gw_All := gw_in 59 (by decide +kernel) (by decide +kernel)
theorem wd_60 : Cond.initialized "SpinBench$Sum" ∈ gw_All := gw_in 60 (by decide +kernel) (by decide +kernel)
theorem wd_61 : Cond.initialized "SpinBench$Table" ∈ gw_All := gw_in 61 (by decide +kernel) (by decide +kernel)
theorem wd_62 : Cond.initialized "SpinBenchModel" ∈ gw_All := gw_in 62 (by decide +kernel) (by decide +kernel)
theorem wd_63 : Cond.initialized "java/util/Arrays" ∈ gw_All := gw_in 63 (by decide +kernel) (by decide +kernel)
theorem wd_64 : Cond.initialized "java/lang/System" ∈ gw_All := gw_in 64 (by decide +kernel) (by decide +kernel)
theorem wd_65 : Cond.initialized "java/lang/Integer" ∈ gw_All := gw_in 65 (by decide +kernel) (by decide +kernel)
theorem wd_66 : Cond.initialized "SpinBench$Op" ∈ gw_All := gw_in 66 (by decide +kernel) (by decide +kernel)
theorem wd_67 : Cond.initialized "SpinBench$Lead" ∈ gw_All := gw_in 67 (by decide +kernel) (by decide +kernel)
theorem wd_68 : Cond.initialized "SpinBench$Pulse" ∈ gw_All := gw_in 68 (by decide +kernel) (by decide +kernel)
theorem wd_69 : Cond.initialized "SpinBench$Cycled" ∈ gw_All := gw_in 69 (by decide +kernel) (by decide +kernel)
theorem wd_70 : Cond.initialized "SpinBench$Delay" ∈ gw_All := gw_in 70 (by decide +kernel) (by decide +kernel)
theorem wd_71 : Cond.initialized "SpinBench$Round" ∈ gw_All := gw_in 71 (by decide +kernel) (by decide +kernel)
theorem wd_72 : Cond.initialized "SpinBench$End" ∈ gw_All := gw_in 72 (by decide +kernel) (by decide +kernel)
theorem wd_73 : Cond.initialized "SpinBench$Store" ∈ gw_All := gw_in 73 (by decide +kernel) (by decide +kernel)
theorem wd_74 : Cond.classLink "SpinBenchLaw" 7 "SpinBench" ∈ gw_All := gw_in 74 (by decide +kernel) (by decide +kernel)
theorem wd_75 : Cond.instantiable "SpinBench" 15 ∈ gw_All := gw_in 75 (by decide +kernel) (by decide +kernel)
theorem wd_76 : Cond.methodLink "SpinBenchLaw" 15 ⟨"SpinBench", "<init>", "(I)V"⟩ ∈ gw_All := gw_in 76 (by decide +kernel) (by decide +kernel)
theorem wd_77 : Cond.instanceMethod ⟨"SpinBench", "<init>", "(I)V"⟩ ∈ gw_All := gw_in 77 (by decide +kernel) (by decide +kernel)
set_option maxRecDepth 100000 in
theorem wd_78 : Cond.code ⟨"SpinBench", "<init>", "(I)V"⟩ prog_1_method_1_code 3 none ∈ gw_All := gw_in 78 rfl rfl
theorem wd_79 : Cond.methodLink "SpinBench" 1 ⟨"java/lang/Object", "<init>", "()V"⟩ ∈ gw_All := gw_in 79 (by decide +kernel) (by decide +kernel)
theorem wd_80 : Cond.instanceMethod ⟨"java/lang/Object", "<init>", "()V"⟩ ∈ gw_All := gw_in 80 (by decide +kernel) (by decide +kernel)
set_option maxRecDepth 100000 in
theorem wd_81 : Cond.code ⟨"java/lang/Object", "<init>", "()V"⟩ object_method_1_code 1 none ∈ gw_All := gw_in 81 rfl rfl
theorem wd_82 : Cond.classLink "SpinBench" 9 "SpinBench$Sum" ∈ gw_All := gw_in 82 (by decide +kernel) (by decide +kernel)
theorem wd_84 : Cond.classLink "SpinBench" 18 "SpinBench$Mixer" ∈ gw_All := gw_in 84 (by decide +kernel) (by decide +kernel)
theorem wd_85 : Cond.instantiable "SpinBench$Mixer" 8 ∈ gw_All := gw_in 85 (by decide +kernel) (by decide +kernel)
theorem wd_87 : Cond.instanceMethod ⟨"SpinBench$Mixer", "<init>", "()V"⟩ ∈ gw_All := gw_in 87 (by decide +kernel) (by decide +kernel)
set_option maxRecDepth 100000 in
theorem wd_88 : Cond.code ⟨"SpinBench$Mixer", "<init>", "()V"⟩ prog_6_method_1_code 1 none ∈ gw_All := gw_in 88 rfl rfl
theorem wd_89 : Cond.methodLink "SpinBench$Mixer" 5 ⟨"java/lang/Object", "<init>", "()V"⟩ ∈ gw_All := gw_in 89 (by decide +kernel) (by decide +kernel)
theorem wd_90 : Cond.fieldLink "SpinBench$Mixer" 11 "SpinBench$Mixer" "keys" "[I" ∈ gw_All := gw_in 90 (by decide +kernel) (by decide +kernel)
theorem wd_91 : Cond.fieldLink "SpinBench$Mixer" 15 "SpinBench$Mixer" "numbers" "[J" ∈ gw_All := gw_in 91 (by decide +kernel) (by decide +kernel)
theorem wd_92 : Cond.fieldLink "SpinBench$Mixer" 19 "SpinBench$Mixer" "spareKeys" "[I" ∈ gw_All := gw_in 92 (by decide +kernel) (by decide +kernel)
theorem wd_93 : Cond.fieldLink "SpinBench$Mixer" 22 "SpinBench$Mixer" "spareNumbers" "[J" ∈ gw_All := gw_in 93 (by decide +kernel) (by decide +kernel)
theorem wd_94 : Cond.fieldLink "SpinBench$Mixer" 35 "SpinBench$Mixer" "size" "I" ∈ gw_All := gw_in 94 (by decide +kernel) (by decide +kernel)
theorem wd_95 : Cond.fieldLink "SpinBench$Mixer" 25 "SpinBench$Mixer" "slots" "[I" ∈ gw_All := gw_in 95 (by decide +kernel) (by decide +kernel)
theorem wd_96 : Cond.fieldLink "SpinBench$Mixer" 28 "SpinBench$Mixer" "slotsUsed" "[I" ∈ gw_All := gw_in 96 (by decide +kernel) (by decide +kernel)
theorem wd_97 : Cond.fieldLink "SpinBench$Mixer" 31 "SpinBench$Mixer" "used" "I" ∈ gw_All := gw_in 97 (by decide +kernel) (by decide +kernel)
theorem wd_114 : Cond.superclass "SpinBench$Mixer" "java/lang/Object" ∈ gw_All := gw_in 114 (by decide +kernel) (by decide +kernel)
theorem wd_115 : Cond.arrayClass .int ∈ gw_All := gw_in 115 (by decide +kernel) (by decide +kernel)
theorem wd_116 : Cond.arrayClass .long ∈ gw_All := gw_in 116 (by decide +kernel) (by decide +kernel)
theorem wd_117 : Cond.classLink "SpinBench" 25 "SpinBench$Table" ∈ gw_All := gw_in 117 (by decide +kernel) (by decide +kernel)
theorem wd_119 : Cond.classLink "SpinBench" 31 "SpinBench$Op" ∈ gw_All := gw_in 119 (by decide +kernel) (by decide +kernel)
theorem wd_121 : Cond.constant "SpinBench" 37 (-1000000) ∈ gw_All := gw_in 121 (by decide +kernel) (by decide +kernel)
theorem wd_122 : Cond.methodLink "SpinBench" 46 ⟨"java/lang/Math", "min", "(II)I"⟩ ∈ gw_All := gw_in 122 (by decide +kernel) (by decide +kernel)
theorem wd_123 : Cond.static ⟨"java/lang/Math", "min", "(II)I"⟩ ∈ gw_All := gw_in 123 (by decide +kernel) (by decide +kernel)
set_option maxRecDepth 100000 in
theorem wd_124 : Cond.code ⟨"java/lang/Math", "min", "(II)I"⟩ prog_16_method_69_code 2 (some .int) ∈ gw_All := gw_in 124 rfl rfl
theorem wd_125 : Cond.methodLink "SpinBench" 52 ⟨"java/lang/Math", "max", "(II)I"⟩ ∈ gw_All := gw_in 125 (by decide +kernel) (by decide +kernel)
theorem wd_126 : Cond.static ⟨"java/lang/Math", "max", "(II)I"⟩ ∈ gw_All := gw_in 126 (by decide +kernel) (by decide +kernel)
set_option maxRecDepth 100000 in
theorem wd_127 : Cond.code ⟨"java/lang/Math", "max", "(II)I"⟩ prog_16_method_65_code 2 (some .int) ∈ gw_All := gw_in 127 rfl rfl
theorem wd_128 : Cond.instantiable "SpinBench$Sum" 3 ∈ gw_All := gw_in 128 (by decide +kernel) (by decide +kernel)
theorem wd_130 : Cond.instanceMethod ⟨"SpinBench$Sum", "<init>", "()V"⟩ ∈ gw_All := gw_in 130 (by decide +kernel) (by decide +kernel)
set_option maxRecDepth 100000 in
theorem wd_131 : Cond.code ⟨"SpinBench$Sum", "<init>", "()V"⟩ prog_11_method_1_code 1 none ∈ gw_All := gw_in 131 rfl rfl
theorem wd_132 : Cond.methodLink "SpinBench$Sum" 3 ⟨"java/lang/Object", "<init>", "()V"⟩ ∈ gw_All := gw_in 132 (by decide +kernel) (by decide +kernel)
theorem wd_133 : Cond.fieldLink "SpinBench$Sum" 9 "SpinBench$Sum" "keys" "[I" ∈ gw_All := gw_in 133 (by decide +kernel) (by decide +kernel)
theorem wd_136 : Cond.fieldLink "SpinBench$Sum" 15 "SpinBench$Sum" "numbers" "[J" ∈ gw_All := gw_in 136 (by decide +kernel) (by decide +kernel)
theorem wd_139 : Cond.fieldLink "SpinBench$Sum" 19 "SpinBench$Sum" "size" "I" ∈ gw_All := gw_in 139 (by decide +kernel) (by decide +kernel)
theorem wd_148 : Cond.superclass "SpinBench$Sum" "java/lang/Object" ∈ gw_All := gw_in 148 (by decide +kernel) (by decide +kernel)
theorem wd_149 : Cond.instantiable "SpinBench$Table" 4 ∈ gw_All := gw_in 149 (by decide +kernel) (by decide +kernel)
theorem wd_151 : Cond.instanceMethod ⟨"SpinBench$Table", "<init>", "()V"⟩ ∈ gw_All := gw_in 151 (by decide +kernel) (by decide +kernel)
set_option maxRecDepth 100000 in
theorem wd_152 : Cond.code ⟨"SpinBench$Table", "<init>", "()V"⟩ prog_12_method_1_code 1 none ∈ gw_All := gw_in 152 rfl rfl
theorem wd_153 : Cond.methodLink "SpinBench$Table" 3 ⟨"java/lang/Object", "<init>", "()V"⟩ ∈ gw_All := gw_in 153 (by decide +kernel) (by decide +kernel)
theorem wd_154 : Cond.fieldLink "SpinBench$Table" 9 "SpinBench$Table" "items" "[I" ∈ gw_All := gw_in 154 (by decide +kernel) (by decide +kernel)
theorem wd_157 : Cond.fieldLink "SpinBench$Table" 15 "SpinBench$Table" "missing" "Z" ∈ gw_All := gw_in 157 (by decide +kernel) (by decide +kernel)
theorem wd_160 : Cond.fieldLink "SpinBench$Table" 19 "SpinBench$Table" "lane" "I" ∈ gw_All := gw_in 160 (by decide +kernel) (by decide +kernel)
theorem wd_162 : Cond.fieldLink "SpinBench$Table" 23 "SpinBench$Table" "size" "I" ∈ gw_All := gw_in 162 (by decide +kernel) (by decide +kernel)
theorem wd_172 : Cond.superclass "SpinBench$Table" "java/lang/Object" ∈ gw_All := gw_in 172 (by decide +kernel) (by decide +kernel)
theorem wd_173 : Cond.fieldLink "SpinBench" 55 "SpinBench" "spinCount" "I" ∈ gw_All := gw_in 173 (by decide +kernel) (by decide +kernel)
theorem wd_174 : Cond.fieldLink "SpinBench" 11 "SpinBench" "sums" "[LSpinBench$Sum;" ∈ gw_All := gw_in 174 (by decide +kernel) (by decide +kernel)
theorem wd_175 : Cond.fieldLink "SpinBench" 15 "SpinBench" "sumsAhead" "[LSpinBench$Sum;" ∈ gw_All := gw_in 175 (by decide +kernel) (by decide +kernel)
theorem wd_176 : Cond.fieldLink "SpinBench" 59 "SpinBench" "work" "LSpinBench$Sum;" ∈ gw_All := gw_in 176 (by decide +kernel) (by decide +kernel)
theorem wd_178 : Cond.fieldLink "SpinBench" 21 "SpinBench" "mixer" "LSpinBench$Mixer;" ∈ gw_All := gw_in 178 (by decide +kernel) (by decide +kernel)
theorem wd_180 : Cond.fieldLink "SpinBench" 27 "SpinBench" "tables" "[LSpinBench$Table;" ∈ gw_All := gw_in 180 (by decide +kernel) (by decide +kernel)
theorem wd_181 : Cond.fieldLink "SpinBench" 33 "SpinBench" "program" "[LSpinBench$Op;" ∈ gw_All := gw_in 181 (by decide +kernel) (by decide +kernel)
theorem wd_182 : Cond.fieldLink "SpinBench" 183 "SpinBench" "length" "I" ∈ gw_All := gw_in 182 (by decide +kernel) (by decide +kernel)
theorem wd_183 : Cond.fieldLink "SpinBench" 186 "SpinBench" "latestOpen" "LSpinBench$Round;" ∈ gw_All := gw_in 183 (by decide +kernel) (by decide +kernel)
theorem wd_185 : Cond.fieldLink "SpinBench" 262 "SpinBench" "next" "I" ∈ gw_All := gw_in 185 (by decide +kernel) (by decide +kernel)
theorem wd_186 : Cond.fieldLink "SpinBench" 256 "SpinBench" "stepsDone" "I" ∈ gw_All := gw_in 186 (by decide +kernel) (by decide +kernel)
theorem wd_187 : Cond.fieldLink "SpinBench" 38 "SpinBench" "lastBegun" "I" ∈ gw_All := gw_in 187 (by decide +kernel) (by decide +kernel)
theorem wd_188 : Cond.fieldLink "SpinBench" 42 "SpinBench" "bodies" "[I" ∈ gw_All := gw_in 188 (by decide +kernel) (by decide +kernel)
theorem wd_189 : Cond.fieldLink "SpinBench" 242 "SpinBench" "bodiesBegun" "I" ∈ gw_All := gw_in 189 (by decide +kernel) (by decide +kernel)
theorem wd_190 : Cond.fieldLink "SpinBench" 274 "SpinBench" "latestFinding" "I" ∈ gw_All := gw_in 190 (by decide +kernel) (by decide +kernel)
theorem wd_221 : Cond.superclass "SpinBench" "java/lang/Object" ∈ gw_All := gw_in 221 (by decide +kernel) (by decide +kernel)
theorem wd_222 : Cond.methodLink "SpinBenchLaw" 21 ⟨"SpinBench", "table", "(III)I"⟩ ∈ gw_All := gw_in 222 (by decide +kernel) (by decide +kernel)
theorem wd_223 : Cond.instanceMethod ⟨"SpinBench", "table", "(III)I"⟩ ∈ gw_All := gw_in 223 (by decide +kernel) (by decide +kernel)
theorem wd_224 : Cond.selects "SpinBench" ⟨"SpinBench", "table", "(III)I"⟩ ⟨"SpinBench", "table", "(III)I"⟩ ∈ gw_All := gw_in 224 (by decide +kernel) (by decide +kernel)
set_option maxRecDepth 100000 in
theorem wd_225 : Cond.code ⟨"SpinBench", "table", "(III)I"⟩ prog_1_method_2_code 5 (some .int) ∈ gw_All := gw_in 225 rfl rfl
theorem wd_226 : Cond.methodLink "SpinBench" 64 ⟨"SpinBench", "tableAt", "(I)LSpinBench$Table;"⟩ ∈ gw_All := gw_in 226 (by decide +kernel) (by decide +kernel)
theorem wd_228 : Cond.instanceMethod ⟨"SpinBench", "tableAt", "(I)LSpinBench$Table;"⟩ ∈ gw_All := gw_in 228 (by decide +kernel) (by decide +kernel)
set_option maxRecDepth 100000 in
theorem wd_229 : Cond.code ⟨"SpinBench", "tableAt", "(I)LSpinBench$Table;"⟩ prog_1_method_38_code 2 (some (.object "SpinBench$Table")) ∈ gw_All := gw_in 229 rfl rfl
theorem wd_230 : Cond.methodLink "SpinBench" 68 ⟨"SpinBench", "within", "(III)Z"⟩ ∈ gw_All := gw_in 230 (by decide +kernel) (by decide +kernel)
theorem wd_231 : Cond.static ⟨"SpinBench", "within", "(III)Z"⟩ ∈ gw_All := gw_in 231 (by decide +kernel) (by decide +kernel)
set_option maxRecDepth 100000 in
theorem wd_232 : Cond.code ⟨"SpinBench", "within", "(III)Z"⟩ prog_1_method_34_code 3 (some .boolean) ∈ gw_All := gw_in 232 rfl rfl
theorem wd_233 : Cond.constant "SpinBench" 72 (-1000001) ∈ gw_All := gw_in 233 (by decide +kernel) (by decide +kernel)
theorem wd_234 : Cond.methodLink "SpinBench" 73 ⟨"SpinBench", "found", "(I)I"⟩ ∈ gw_All := gw_in 234 (by decide +kernel) (by decide +kernel)
theorem wd_236 : Cond.instanceMethod ⟨"SpinBench", "found", "(I)I"⟩ ∈ gw_All := gw_in 236 (by decide +kernel) (by decide +kernel)
set_option maxRecDepth 100000 in
theorem wd_237 : Cond.code ⟨"SpinBench", "found", "(I)I"⟩ prog_1_method_41_code 2 (some .int) ∈ gw_All := gw_in 237 rfl rfl
theorem wd_238 : Cond.constant "SpinBench" 277 (-1000010) ∈ gw_All := gw_in 238 (by decide +kernel) (by decide +kernel)
theorem wd_241 : Cond.instanceMethod ⟨"SpinBench$Table", "make", "(II)V"⟩ ∈ gw_All := gw_in 241 (by decide +kernel) (by decide +kernel)
set_option maxRecDepth 100000 in
theorem wd_242 : Cond.code ⟨"SpinBench$Table", "make", "(II)V"⟩ prog_12_method_2_code 3 none ∈ gw_All := gw_in 242 rfl rfl
theorem wd_243 : Cond.methodLink "SpinBench$Table" 26 ⟨"java/util/Arrays", "fill", "([II)V"⟩ ∈ gw_All := gw_in 243 (by decide +kernel) (by decide +kernel)
theorem wd_244 : Cond.static ⟨"java/util/Arrays", "fill", "([II)V"⟩ ∈ gw_All := gw_in 244 (by decide +kernel) (by decide +kernel)
set_option maxRecDepth 100000 in
theorem wd_245 : Cond.code ⟨"java/util/Arrays", "fill", "([II)V"⟩ prog_18_method_103_code 4 none ∈ gw_All := gw_in 245 rfl rfl
theorem wd_246 : Cond.methodLink "SpinBench" 81 ⟨"SpinBench", "notFound", "(I)I"⟩ ∈ gw_All := gw_in 246 (by decide +kernel) (by decide +kernel)
theorem wd_248 : Cond.instanceMethod ⟨"SpinBench", "notFound", "(I)I"⟩ ∈ gw_All := gw_in 248 (by decide +kernel) (by decide +kernel)
set_option maxRecDepth 100000 in
theorem wd_249 : Cond.code ⟨"SpinBench", "notFound", "(I)I"⟩ prog_1_method_42_code 2 (some .int) ∈ gw_All := gw_in 249 rfl rfl
theorem wd_250 : Cond.methodLink "SpinBenchLaw" 26 ⟨"SpinBench", "set", "(III)I"⟩ ∈ gw_All := gw_in 250 (by decide +kernel) (by decide +kernel)
theorem wd_251 : Cond.instanceMethod ⟨"SpinBench", "set", "(III)I"⟩ ∈ gw_All := gw_in 251 (by decide +kernel) (by decide +kernel)
theorem wd_252 : Cond.selects "SpinBench" ⟨"SpinBench", "set", "(III)I"⟩ ⟨"SpinBench", "set", "(III)I"⟩ ∈ gw_All := gw_in 252 (by decide +kernel) (by decide +kernel)
set_option maxRecDepth 100000 in
theorem wd_253 : Cond.code ⟨"SpinBench", "set", "(III)I"⟩ prog_1_method_3_code 5 (some .int) ∈ gw_All := gw_in 253 rfl rfl
theorem wd_256 : Cond.instanceMethod ⟨"SpinBench$Table", "hasPlaces", "(II)Z"⟩ ∈ gw_All := gw_in 256 (by decide +kernel) (by decide +kernel)
set_option maxRecDepth 100000 in
theorem wd_257 : Cond.code ⟨"SpinBench$Table", "hasPlaces", "(II)Z"⟩ prog_12_method_3_code 3 (some .boolean) ∈ gw_All := gw_in 257 rfl rfl
theorem wd_260 : Cond.instanceMethod ⟨"SpinBench$Table", "fitted", "(I)I"⟩ ∈ gw_All := gw_in 260 (by decide +kernel) (by decide +kernel)
set_option maxRecDepth 100000 in
theorem wd_261 : Cond.code ⟨"SpinBench$Table", "fitted", "(I)I"⟩ prog_12_method_4_code 2 (some .int) ∈ gw_All := gw_in 261 rfl rfl
theorem wd_262 : Cond.methodLink "SpinBenchLaw" 30 ⟨"SpinBench", "copy", "(IIIII)I"⟩ ∈ gw_All := gw_in 262 (by decide +kernel) (by decide +kernel)
theorem wd_263 : Cond.instanceMethod ⟨"SpinBench", "copy", "(IIIII)I"⟩ ∈ gw_All := gw_in 263 (by decide +kernel) (by decide +kernel)
theorem wd_264 : Cond.selects "SpinBench" ⟨"SpinBench", "copy", "(IIIII)I"⟩ ⟨"SpinBench", "copy", "(IIIII)I"⟩ ∈ gw_All := gw_in 264 (by decide +kernel) (by decide +kernel)
set_option maxRecDepth 100000 in
theorem wd_265 : Cond.code ⟨"SpinBench", "copy", "(IIIII)I"⟩ prog_1_method_4_code 8 (some .int) ∈ gw_All := gw_in 265 rfl rfl
theorem wd_266 : Cond.methodLink "SpinBench" 101 ⟨"java/lang/System", "arraycopy", "(Ljava/lang/Object;ILjava/lang/Object;II)V"⟩ ∈ gw_All := gw_in 266 (by decide +kernel) (by decide +kernel)
theorem wd_267 : Cond.static ⟨"java/lang/System", "arraycopy", "(Ljava/lang/Object;ILjava/lang/Object;II)V"⟩ ∈ gw_All := gw_in 267 (by decide +kernel) (by decide +kernel)
theorem wd_268 : Cond.native ⟨"java/lang/System", "arraycopy", "(Ljava/lang/Object;ILjava/lang/Object;II)V"⟩ ∈ gw_All := gw_in 268 (by decide +kernel) (by decide +kernel)
theorem wd_269 : Cond.methodLink "SpinBenchLaw" 35 ⟨"SpinBench", "drop", "(I)I"⟩ ∈ gw_All := gw_in 269 (by decide +kernel) (by decide +kernel)
theorem wd_270 : Cond.instanceMethod ⟨"SpinBench", "drop", "(I)I"⟩ ∈ gw_All := gw_in 270 (by decide +kernel) (by decide +kernel)
theorem wd_271 : Cond.selects "SpinBench" ⟨"SpinBench", "drop", "(I)I"⟩ ⟨"SpinBench", "drop", "(I)I"⟩ ∈ gw_All := gw_in 271 (by decide +kernel) (by decide +kernel)
set_option maxRecDepth 100000 in
theorem wd_272 : Cond.code ⟨"SpinBench", "drop", "(I)I"⟩ prog_1_method_5_code 3 (some .int) ∈ gw_All := gw_in 272 rfl rfl
theorem wd_273 : Cond.methodLink "SpinBenchLaw" 40 ⟨"SpinBench", "clear", "(I)I"⟩ ∈ gw_All := gw_in 273 (by decide +kernel) (by decide +kernel)
theorem wd_274 : Cond.instanceMethod ⟨"SpinBench", "clear", "(I)I"⟩ ∈ gw_All := gw_in 274 (by decide +kernel) (by decide +kernel)
theorem wd_275 : Cond.selects "SpinBench" ⟨"SpinBench", "clear", "(I)I"⟩ ⟨"SpinBench", "clear", "(I)I"⟩ ∈ gw_All := gw_in 275 (by decide +kernel) (by decide +kernel)
set_option maxRecDepth 100000 in
theorem wd_276 : Cond.code ⟨"SpinBench", "clear", "(I)I"⟩ prog_1_method_6_code 4 (some .int) ∈ gw_All := gw_in 276 rfl rfl
theorem wd_277 : Cond.methodLink "SpinBench" 110 ⟨"SpinBench", "sumAt", "(I)LSpinBench$Sum;"⟩ ∈ gw_All := gw_in 277 (by decide +kernel) (by decide +kernel)
theorem wd_279 : Cond.instanceMethod ⟨"SpinBench", "sumAt", "(I)LSpinBench$Sum;"⟩ ∈ gw_All := gw_in 279 (by decide +kernel) (by decide +kernel)
set_option maxRecDepth 100000 in
theorem wd_280 : Cond.code ⟨"SpinBench", "sumAt", "(I)LSpinBench$Sum;"⟩ prog_1_method_39_code 2 (some (.object "SpinBench$Sum")) ∈ gw_All := gw_in 280 rfl rfl
theorem wd_281 : Cond.methodLink "SpinBenchLaw" 44 ⟨"SpinBench", "add", "(III)I"⟩ ∈ gw_All := gw_in 281 (by decide +kernel) (by decide +kernel)
theorem wd_282 : Cond.instanceMethod ⟨"SpinBench", "add", "(III)I"⟩ ∈ gw_All := gw_in 282 (by decide +kernel) (by decide +kernel)
theorem wd_283 : Cond.selects "SpinBench" ⟨"SpinBench", "add", "(III)I"⟩ ⟨"SpinBench", "add", "(III)I"⟩ ∈ gw_All := gw_in 283 (by decide +kernel) (by decide +kernel)
set_option maxRecDepth 100000 in
theorem wd_284 : Cond.code ⟨"SpinBench", "add", "(III)I"⟩ prog_1_method_7_code 5 (some .int) ∈ gw_All := gw_in 284 rfl rfl
theorem wd_285 : Cond.methodLink "SpinBench" 115 ⟨"SpinBench", "isProduct", "(I)Z"⟩ ∈ gw_All := gw_in 285 (by decide +kernel) (by decide +kernel)
theorem wd_287 : Cond.instanceMethod ⟨"SpinBench", "isProduct", "(I)Z"⟩ ∈ gw_All := gw_in 287 (by decide +kernel) (by decide +kernel)
set_option maxRecDepth 100000 in
theorem wd_288 : Cond.code ⟨"SpinBench", "isProduct", "(I)Z"⟩ prog_1_method_36_code 2 (some .boolean) ∈ gw_All := gw_in 288 rfl rfl
theorem wd_291 : Cond.instanceMethod ⟨"SpinBench$Mixer", "begin", "()V"⟩ ∈ gw_All := gw_in 291 (by decide +kernel) (by decide +kernel)
set_option maxRecDepth 100000 in
theorem wd_292 : Cond.code ⟨"SpinBench$Mixer", "begin", "()V"⟩ prog_6_method_2_code 2 none ∈ gw_All := gw_in 292 rfl rfl
theorem wd_295 : Cond.instanceMethod ⟨"SpinBench$Mixer", "putSum", "(LSpinBench$Sum;I)V"⟩ ∈ gw_All := gw_in 295 (by decide +kernel) (by decide +kernel)
set_option maxRecDepth 100000 in
theorem wd_296 : Cond.code ⟨"SpinBench$Mixer", "putSum", "(LSpinBench$Sum;I)V"⟩ prog_6_method_5_code 4 none ∈ gw_All := gw_in 296 rfl rfl
theorem wd_297 : Cond.methodLink "SpinBench$Mixer" 48 ⟨"SpinBench$Mixer", "put", "(IJ)V"⟩ ∈ gw_All := gw_in 297 (by decide +kernel) (by decide +kernel)
theorem wd_299 : Cond.instanceMethod ⟨"SpinBench$Mixer", "put", "(IJ)V"⟩ ∈ gw_All := gw_in 299 (by decide +kernel) (by decide +kernel)
set_option maxRecDepth 100000 in
theorem wd_300 : Cond.code ⟨"SpinBench$Mixer", "put", "(IJ)V"⟩ prog_6_method_3_code 7 none ∈ gw_All := gw_in 300 rfl rfl
theorem wd_301 : Cond.constant "SpinBench$Mixer" 38 (-1640531535) ∈ gw_All := gw_in 301 (by decide +kernel) (by decide +kernel)
theorem wd_302 : Cond.methodLink "SpinBench$Mixer" 39 ⟨"SpinBench$Mixer", "enter", "(IIJ)V"⟩ ∈ gw_All := gw_in 302 (by decide +kernel) (by decide +kernel)
theorem wd_304 : Cond.instanceMethod ⟨"SpinBench$Mixer", "enter", "(IIJ)V"⟩ ∈ gw_All := gw_in 304 (by decide +kernel) (by decide +kernel)
set_option maxRecDepth 100000 in
theorem wd_305 : Cond.code ⟨"SpinBench$Mixer", "enter", "(IIJ)V"⟩ prog_6_method_4_code 5 none ∈ gw_All := gw_in 305 rfl rfl
theorem wd_309 : Cond.instanceMethod ⟨"SpinBench$Mixer", "settle", "(LSpinBench$Sum;)Z"⟩ ∈ gw_All := gw_in 309 (by decide +kernel) (by decide +kernel)
set_option maxRecDepth 100000 in
theorem wd_310 : Cond.code ⟨"SpinBench$Mixer", "settle", "(LSpinBench$Sum;)Z"⟩ prog_6_method_12_code 2 (some .boolean) ∈ gw_All := gw_in 310 rfl rfl
theorem wd_311 : Cond.methodLink "SpinBench$Mixer" 104 ⟨"SpinBench$Mixer", "dropZeros", "()V"⟩ ∈ gw_All := gw_in 311 (by decide +kernel) (by decide +kernel)
theorem wd_313 : Cond.instanceMethod ⟨"SpinBench$Mixer", "dropZeros", "()V"⟩ ∈ gw_All := gw_in 313 (by decide +kernel) (by decide +kernel)
set_option maxRecDepth 100000 in
theorem wd_314 : Cond.code ⟨"SpinBench$Mixer", "dropZeros", "()V"⟩ prog_6_method_13_code 3 none ∈ gw_All := gw_in 314 rfl rfl
theorem wd_315 : Cond.methodLink "SpinBench$Mixer" 107 ⟨"SpinBench$Mixer", "isSum", "()Z"⟩ ∈ gw_All := gw_in 315 (by decide +kernel) (by decide +kernel)
theorem wd_317 : Cond.instanceMethod ⟨"SpinBench$Mixer", "isSum", "()Z"⟩ ∈ gw_All := gw_in 317 (by decide +kernel) (by decide +kernel)
set_option maxRecDepth 100000 in
theorem wd_318 : Cond.code ⟨"SpinBench$Mixer", "isSum", "()Z"⟩ prog_6_method_14_code 3 (some .boolean) ∈ gw_All := gw_in 318 rfl rfl
theorem wd_319 : Cond.methodLink "SpinBench$Mixer" 81 ⟨"java/lang/Math", "abs", "(J)J"⟩ ∈ gw_All := gw_in 319 (by decide +kernel) (by decide +kernel)
theorem wd_320 : Cond.static ⟨"java/lang/Math", "abs", "(J)J"⟩ ∈ gw_All := gw_in 320 (by decide +kernel) (by decide +kernel)
set_option maxRecDepth 100000 in
theorem wd_321 : Cond.code ⟨"java/lang/Math", "abs", "(J)J"⟩ prog_16_method_61_code 2 (some .long) ∈ gw_All := gw_in 321 rfl rfl
theorem wd_322 : Cond.constantLong "SpinBench$Mixer" 87 1000000000000 ∈ gw_All := gw_in 322 (by decide +kernel) (by decide +kernel)
theorem wd_324 : Cond.static ⟨"SpinBench", "cosinesOf", "(II)I"⟩ ∈ gw_All := gw_in 324 (by decide +kernel) (by decide +kernel)
set_option maxRecDepth 100000 in
theorem wd_325 : Cond.code ⟨"SpinBench", "cosinesOf", "(II)I"⟩ prog_1_method_56_code 2 (some .int) ∈ gw_All := gw_in 325 rfl rfl
theorem wd_326 : Cond.methodLink "SpinBench$Mixer" 111 ⟨"SpinBench$Mixer", "sort", "()V"⟩ ∈ gw_All := gw_in 326 (by decide +kernel) (by decide +kernel)
theorem wd_328 : Cond.instanceMethod ⟨"SpinBench$Mixer", "sort", "()V"⟩ ∈ gw_All := gw_in 328 (by decide +kernel) (by decide +kernel)
set_option maxRecDepth 100000 in
theorem wd_329 : Cond.code ⟨"SpinBench$Mixer", "sort", "()V"⟩ prog_6_method_15_code 4 none ∈ gw_All := gw_in 329 rfl rfl
theorem wd_330 : Cond.methodLink "SpinBench$Mixer" 120 ⟨"java/lang/Math", "min", "(II)I"⟩ ∈ gw_All := gw_in 330 (by decide +kernel) (by decide +kernel)
theorem wd_331 : Cond.methodLink "SpinBench$Mixer" 123 ⟨"SpinBench$Mixer", "merge", "(III)V"⟩ ∈ gw_All := gw_in 331 (by decide +kernel) (by decide +kernel)
theorem wd_333 : Cond.instanceMethod ⟨"SpinBench$Mixer", "merge", "(III)V"⟩ ∈ gw_All := gw_in 333 (by decide +kernel) (by decide +kernel)
set_option maxRecDepth 100000 in
theorem wd_334 : Cond.code ⟨"SpinBench$Mixer", "merge", "(III)V"⟩ prog_6_method_16_code 8 none ∈ gw_All := gw_in 334 rfl rfl
theorem wd_335 : Cond.methodLink "SpinBench$Mixer" 114 ⟨"java/lang/System", "arraycopy", "(Ljava/lang/Object;ILjava/lang/Object;II)V"⟩ ∈ gw_All := gw_in 335 (by decide +kernel) (by decide +kernel)
theorem wd_336 : Cond.constant "SpinBench" 134 (-1000003) ∈ gw_All := gw_in 336 (by decide +kernel) (by decide +kernel)
theorem wd_337 : Cond.methodLink "SpinBenchLaw" 48 ⟨"SpinBench", "take", "(II)I"⟩ ∈ gw_All := gw_in 337 (by decide +kernel) (by decide +kernel)
theorem wd_338 : Cond.instanceMethod ⟨"SpinBench", "take", "(II)I"⟩ ∈ gw_All := gw_in 338 (by decide +kernel) (by decide +kernel)
theorem wd_339 : Cond.selects "SpinBench" ⟨"SpinBench", "take", "(II)I"⟩ ⟨"SpinBench", "take", "(II)I"⟩ ∈ gw_All := gw_in 339 (by decide +kernel) (by decide +kernel)
set_option maxRecDepth 100000 in
theorem wd_340 : Cond.code ⟨"SpinBench", "take", "(II)I"⟩ prog_1_method_8_code 5 (some .int) ∈ gw_All := gw_in 340 rfl rfl
theorem wd_343 : Cond.instanceMethod ⟨"SpinBench$Sum", "become", "(LSpinBench$Sum;)V"⟩ ∈ gw_All := gw_in 343 (by decide +kernel) (by decide +kernel)
set_option maxRecDepth 100000 in
theorem wd_344 : Cond.code ⟨"SpinBench$Sum", "become", "(LSpinBench$Sum;)V"⟩ prog_11_method_2_code 2 none ∈ gw_All := gw_in 344 rfl rfl
theorem wd_345 : Cond.methodLink "SpinBench$Sum" 23 ⟨"java/lang/System", "arraycopy", "(Ljava/lang/Object;ILjava/lang/Object;II)V"⟩ ∈ gw_All := gw_in 345 (by decide +kernel) (by decide +kernel)
theorem wd_346 : Cond.methodLink "SpinBenchLaw" 53 ⟨"SpinBench", "join", "(III)I"⟩ ∈ gw_All := gw_in 346 (by decide +kernel) (by decide +kernel)
theorem wd_347 : Cond.instanceMethod ⟨"SpinBench", "join", "(III)I"⟩ ∈ gw_All := gw_in 347 (by decide +kernel) (by decide +kernel)
theorem wd_348 : Cond.selects "SpinBench" ⟨"SpinBench", "join", "(III)I"⟩ ⟨"SpinBench", "join", "(III)I"⟩ ∈ gw_All := gw_in 348 (by decide +kernel) (by decide +kernel)
set_option maxRecDepth 100000 in
theorem wd_349 : Cond.code ⟨"SpinBench", "join", "(III)I"⟩ prog_1_method_9_code 6 (some .int) ∈ gw_All := gw_in 349 rfl rfl
theorem wd_352 : Cond.instanceMethod ⟨"SpinBench$Mixer", "joinSums", "(LSpinBench$Sum;LSpinBench$Sum;I)Z"⟩ ∈ gw_All := gw_in 352 (by decide +kernel) (by decide +kernel)
set_option maxRecDepth 100000 in
theorem wd_353 : Cond.code ⟨"SpinBench$Mixer", "joinSums", "(LSpinBench$Sum;LSpinBench$Sum;I)Z"⟩ prog_6_method_7_code 4 (some .boolean) ∈ gw_All := gw_in 353 rfl rfl
theorem wd_354 : Cond.methodLink "SpinBench$Mixer" 59 ⟨"SpinBench$Mixer", "begin", "()V"⟩ ∈ gw_All := gw_in 354 (by decide +kernel) (by decide +kernel)
theorem wd_355 : Cond.methodLink "SpinBench$Mixer" 62 ⟨"SpinBench$Mixer", "putSum", "(LSpinBench$Sum;I)V"⟩ ∈ gw_All := gw_in 355 (by decide +kernel) (by decide +kernel)
theorem wd_356 : Cond.methodLink "SpinBench$Mixer" 66 ⟨"SpinBench$Mixer", "settle", "(LSpinBench$Sum;)Z"⟩ ∈ gw_All := gw_in 356 (by decide +kernel) (by decide +kernel)
theorem wd_357 : Cond.methodLink "SpinBenchLaw" 57 ⟨"SpinBench", "quarter", "(II)I"⟩ ∈ gw_All := gw_in 357 (by decide +kernel) (by decide +kernel)
theorem wd_358 : Cond.instanceMethod ⟨"SpinBench", "quarter", "(II)I"⟩ ∈ gw_All := gw_in 358 (by decide +kernel) (by decide +kernel)
theorem wd_359 : Cond.selects "SpinBench" ⟨"SpinBench", "quarter", "(II)I"⟩ ⟨"SpinBench", "quarter", "(II)I"⟩ ∈ gw_All := gw_in 359 (by decide +kernel) (by decide +kernel)
set_option maxRecDepth 100000 in
theorem wd_360 : Cond.code ⟨"SpinBench", "quarter", "(II)I"⟩ prog_1_method_10_code 3 (some .int) ∈ gw_All := gw_in 360 rfl rfl
theorem wd_361 : Cond.methodLink "SpinBench" 143 ⟨"SpinBench", "turnByQuarters", "(II)Z"⟩ ∈ gw_All := gw_in 361 (by decide +kernel) (by decide +kernel)
theorem wd_363 : Cond.instanceMethod ⟨"SpinBench", "turnByQuarters", "(II)Z"⟩ ∈ gw_All := gw_in 363 (by decide +kernel) (by decide +kernel)
set_option maxRecDepth 100000 in
theorem wd_364 : Cond.code ⟨"SpinBench", "turnByQuarters", "(II)Z"⟩ prog_1_method_51_code 8 (some .boolean) ∈ gw_All := gw_in 364 rfl rfl
theorem wd_365 : Cond.methodLink "SpinBench" 161 ⟨"SpinBench", "productOf", "(I)I"⟩ ∈ gw_All := gw_in 365 (by decide +kernel) (by decide +kernel)
theorem wd_366 : Cond.static ⟨"SpinBench", "productOf", "(I)I"⟩ ∈ gw_All := gw_in 366 (by decide +kernel) (by decide +kernel)
set_option maxRecDepth 100000 in
theorem wd_367 : Cond.code ⟨"SpinBench", "productOf", "(I)I"⟩ prog_1_method_53_code 1 (some .int) ∈ gw_All := gw_in 367 rfl rfl
theorem wd_368 : Cond.methodLink "SpinBench" 278 ⟨"SpinBench", "signOf", "(II)I"⟩ ∈ gw_All := gw_in 368 (by decide +kernel) (by decide +kernel)
theorem wd_369 : Cond.static ⟨"SpinBench", "signOf", "(II)I"⟩ ∈ gw_All := gw_in 369 (by decide +kernel) (by decide +kernel)
set_option maxRecDepth 100000 in
theorem wd_370 : Cond.code ⟨"SpinBench", "signOf", "(II)I"⟩ prog_1_method_49_code 6 (some .int) ∈ gw_All := gw_in 370 rfl rfl
theorem wd_371 : Cond.methodLink "SpinBench" 281 ⟨"SpinBench", "withProduct", "(II)I"⟩ ∈ gw_All := gw_in 371 (by decide +kernel) (by decide +kernel)
theorem wd_372 : Cond.static ⟨"SpinBench", "withProduct", "(II)I"⟩ ∈ gw_All := gw_in 372 (by decide +kernel) (by decide +kernel)
set_option maxRecDepth 100000 in
theorem wd_373 : Cond.code ⟨"SpinBench", "withProduct", "(II)I"⟩ prog_1_method_50_code 2 (some .int) ∈ gw_All := gw_in 373 rfl rfl
theorem wd_374 : Cond.methodLink "SpinBenchLaw" 61 ⟨"SpinBench", "letter", "(III)I"⟩ ∈ gw_All := gw_in 374 (by decide +kernel) (by decide +kernel)
theorem wd_375 : Cond.instanceMethod ⟨"SpinBench", "letter", "(III)I"⟩ ∈ gw_All := gw_in 375 (by decide +kernel) (by decide +kernel)
theorem wd_376 : Cond.selects "SpinBench" ⟨"SpinBench", "letter", "(III)I"⟩ ⟨"SpinBench", "letter", "(III)I"⟩ ∈ gw_All := gw_in 376 (by decide +kernel) (by decide +kernel)
set_option maxRecDepth 100000 in
theorem wd_377 : Cond.code ⟨"SpinBench", "letter", "(III)I"⟩ prog_1_method_11_code 4 (some .int) ∈ gw_All := gw_in 377 rfl rfl
theorem wd_378 : Cond.methodLink "SpinBench" 146 ⟨"SpinBench", "isWay", "(I)Z"⟩ ∈ gw_All := gw_in 378 (by decide +kernel) (by decide +kernel)
theorem wd_379 : Cond.static ⟨"SpinBench", "isWay", "(I)Z"⟩ ∈ gw_All := gw_in 379 (by decide +kernel) (by decide +kernel)
set_option maxRecDepth 100000 in
theorem wd_380 : Cond.code ⟨"SpinBench", "isWay", "(I)Z"⟩ prog_1_method_35_code 1 (some .boolean) ∈ gw_All := gw_in 380 rfl rfl
theorem wd_381 : Cond.methodLink "SpinBench" 149 ⟨"SpinBench", "turnByLetter", "(III)Z"⟩ ∈ gw_All := gw_in 381 (by decide +kernel) (by decide +kernel)
theorem wd_383 : Cond.instanceMethod ⟨"SpinBench", "turnByLetter", "(III)Z"⟩ ∈ gw_All := gw_in 383 (by decide +kernel) (by decide +kernel)
set_option maxRecDepth 100000 in
theorem wd_384 : Cond.code ⟨"SpinBench", "turnByLetter", "(III)Z"⟩ prog_1_method_52_code 9 (some .boolean) ∈ gw_All := gw_in 384 rfl rfl
theorem wd_385 : Cond.methodLink "SpinBench" 284 ⟨"SpinBench", "oneCosine", "(I)I"⟩ ∈ gw_All := gw_in 385 (by decide +kernel) (by decide +kernel)
theorem wd_386 : Cond.static ⟨"SpinBench", "oneCosine", "(I)I"⟩ ∈ gw_All := gw_in 386 (by decide +kernel) (by decide +kernel)
set_option maxRecDepth 100000 in
theorem wd_387 : Cond.code ⟨"SpinBench", "oneCosine", "(I)I"⟩ prog_1_method_55_code 1 (some .int) ∈ gw_All := gw_in 387 rfl rfl
theorem wd_388 : Cond.methodLink "SpinBench" 291 ⟨"SpinBench", "oneSine", "(I)I"⟩ ∈ gw_All := gw_in 388 (by decide +kernel) (by decide +kernel)
theorem wd_389 : Cond.static ⟨"SpinBench", "oneSine", "(I)I"⟩ ∈ gw_All := gw_in 389 (by decide +kernel) (by decide +kernel)
set_option maxRecDepth 100000 in
theorem wd_390 : Cond.code ⟨"SpinBench", "oneSine", "(I)I"⟩ prog_1_method_54_code 1 (some .int) ∈ gw_All := gw_in 390 rfl rfl
theorem wd_393 : Cond.instanceMethod ⟨"SpinBench$Mixer", "putTimesSine", "(IIJ)V"⟩ ∈ gw_All := gw_in 393 (by decide +kernel) (by decide +kernel)
set_option maxRecDepth 100000 in
theorem wd_394 : Cond.code ⟨"SpinBench$Mixer", "putTimesSine", "(IIJ)V"⟩ prog_6_method_6_code 6 none ∈ gw_All := gw_in 394 rfl rfl
theorem wd_397 : Cond.methodLink "SpinBenchLaw" 65 ⟨"SpinBench", "terms", "(I)I"⟩ ∈ gw_All := gw_in 397 (by decide +kernel) (by decide +kernel)
theorem wd_398 : Cond.instanceMethod ⟨"SpinBench", "terms", "(I)I"⟩ ∈ gw_All := gw_in 398 (by decide +kernel) (by decide +kernel)
theorem wd_399 : Cond.selects "SpinBench" ⟨"SpinBench", "terms", "(I)I"⟩ ⟨"SpinBench", "terms", "(I)I"⟩ ∈ gw_All := gw_in 399 (by decide +kernel) (by decide +kernel)
set_option maxRecDepth 100000 in
theorem wd_400 : Cond.code ⟨"SpinBench", "terms", "(I)I"⟩ prog_1_method_12_code 3 (some .int) ∈ gw_All := gw_in 400 rfl rfl
theorem wd_401 : Cond.methodLink "SpinBenchLaw" 69 ⟨"SpinBench", "number", "(II)J"⟩ ∈ gw_All := gw_in 401 (by decide +kernel) (by decide +kernel)
theorem wd_402 : Cond.instanceMethod ⟨"SpinBench", "number", "(II)J"⟩ ∈ gw_All := gw_in 402 (by decide +kernel) (by decide +kernel)
theorem wd_403 : Cond.selects "SpinBench" ⟨"SpinBench", "number", "(II)J"⟩ ⟨"SpinBench", "number", "(II)J"⟩ ∈ gw_All := gw_in 403 (by decide +kernel) (by decide +kernel)
set_option maxRecDepth 100000 in
theorem wd_404 : Cond.code ⟨"SpinBench", "number", "(II)J"⟩ prog_1_method_13_code 4 (some .long) ∈ gw_All := gw_in 404 rfl rfl
theorem wd_405 : Cond.constantLong "SpinBench" 152 (-1000001) ∈ gw_All := gw_in 405 (by decide +kernel) (by decide +kernel)
theorem wd_406 : Cond.methodLink "SpinBenchLaw" 74 ⟨"SpinBench", "power", "(III)I"⟩ ∈ gw_All := gw_in 406 (by decide +kernel) (by decide +kernel)
theorem wd_407 : Cond.instanceMethod ⟨"SpinBench", "power", "(III)I"⟩ ∈ gw_All := gw_in 407 (by decide +kernel) (by decide +kernel)
theorem wd_408 : Cond.selects "SpinBench" ⟨"SpinBench", "power", "(III)I"⟩ ⟨"SpinBench", "power", "(III)I"⟩ ∈ gw_All := gw_in 408 (by decide +kernel) (by decide +kernel)
set_option maxRecDepth 100000 in
theorem wd_409 : Cond.code ⟨"SpinBench", "power", "(III)I"⟩ prog_1_method_14_code 5 (some .int) ∈ gw_All := gw_in 409 rfl rfl
theorem wd_410 : Cond.methodLink "SpinBench" 164 ⟨"SpinBench", "powerOf", "(II)I"⟩ ∈ gw_All := gw_in 410 (by decide +kernel) (by decide +kernel)
theorem wd_411 : Cond.static ⟨"SpinBench", "powerOf", "(II)I"⟩ ∈ gw_All := gw_in 411 (by decide +kernel) (by decide +kernel)
set_option maxRecDepth 100000 in
theorem wd_412 : Cond.code ⟨"SpinBench", "powerOf", "(II)I"⟩ prog_1_method_58_code 2 (some .int) ∈ gw_All := gw_in 412 rfl rfl
theorem wd_413 : Cond.methodLink "SpinBench" 294 ⟨"SpinBench", "cosinesOf", "(II)I"⟩ ∈ gw_All := gw_in 413 (by decide +kernel) (by decide +kernel)
theorem wd_414 : Cond.methodLink "SpinBench" 297 ⟨"SpinBench", "sinesOf", "(II)I"⟩ ∈ gw_All := gw_in 414 (by decide +kernel) (by decide +kernel)
theorem wd_415 : Cond.static ⟨"SpinBench", "sinesOf", "(II)I"⟩ ∈ gw_All := gw_in 415 (by decide +kernel) (by decide +kernel)
set_option maxRecDepth 100000 in
theorem wd_416 : Cond.code ⟨"SpinBench", "sinesOf", "(II)I"⟩ prog_1_method_57_code 2 (some .int) ∈ gw_All := gw_in 416 rfl rfl
theorem wd_417 : Cond.methodLink "SpinBenchLaw" 78 ⟨"SpinBench", "same", "(II)I"⟩ ∈ gw_All := gw_in 417 (by decide +kernel) (by decide +kernel)
theorem wd_418 : Cond.instanceMethod ⟨"SpinBench", "same", "(II)I"⟩ ∈ gw_All := gw_in 418 (by decide +kernel) (by decide +kernel)
theorem wd_419 : Cond.selects "SpinBench" ⟨"SpinBench", "same", "(II)I"⟩ ⟨"SpinBench", "same", "(II)I"⟩ ∈ gw_All := gw_in 419 (by decide +kernel) (by decide +kernel)
set_option maxRecDepth 100000 in
theorem wd_420 : Cond.code ⟨"SpinBench", "same", "(II)I"⟩ prog_1_method_15_code 5 (some .int) ∈ gw_All := gw_in 420 rfl rfl
theorem wd_423 : Cond.instanceMethod ⟨"SpinBench$Sum", "isLike", "(LSpinBench$Sum;)Z"⟩ ∈ gw_All := gw_in 423 (by decide +kernel) (by decide +kernel)
set_option maxRecDepth 100000 in
theorem wd_424 : Cond.code ⟨"SpinBench$Sum", "isLike", "(LSpinBench$Sum;)Z"⟩ prog_11_method_3_code 3 (some .boolean) ∈ gw_All := gw_in 424 rfl rfl
theorem wd_425 : Cond.methodLink "SpinBenchLaw" 82 ⟨"SpinBench", "product", "(III)I"⟩ ∈ gw_All := gw_in 425 (by decide +kernel) (by decide +kernel)
theorem wd_426 : Cond.instanceMethod ⟨"SpinBench", "product", "(III)I"⟩ ∈ gw_All := gw_in 426 (by decide +kernel) (by decide +kernel)
theorem wd_427 : Cond.selects "SpinBench" ⟨"SpinBench", "product", "(III)I"⟩ ⟨"SpinBench", "product", "(III)I"⟩ ∈ gw_All := gw_in 427 (by decide +kernel) (by decide +kernel)
set_option maxRecDepth 100000 in
theorem wd_428 : Cond.code ⟨"SpinBench", "product", "(III)I"⟩ prog_1_method_16_code 7 (some .int) ∈ gw_All := gw_in 428 rfl rfl
theorem wd_431 : Cond.instanceMethod ⟨"SpinBench$Mixer", "multiply", "(LSpinBench$Sum;LSpinBench$Sum;LSpinBench$Sum;)Z"⟩ ∈ gw_All := gw_in 431 (by decide +kernel) (by decide +kernel)
set_option maxRecDepth 100000 in
theorem wd_432 : Cond.code ⟨"SpinBench$Mixer", "multiply", "(LSpinBench$Sum;LSpinBench$Sum;LSpinBench$Sum;)Z"⟩ prog_6_method_8_code 6 (some .boolean) ∈ gw_All := gw_in 432 rfl rfl
theorem wd_434 : Cond.methodLink "SpinBench$Mixer" 73 ⟨"SpinBench$Mixer", "isBeyond", "(JJ)Z"⟩ ∈ gw_All := gw_in 434 (by decide +kernel) (by decide +kernel)
theorem wd_435 : Cond.static ⟨"SpinBench$Mixer", "isBeyond", "(JJ)Z"⟩ ∈ gw_All := gw_in 435 (by decide +kernel) (by decide +kernel)
set_option maxRecDepth 100000 in
theorem wd_436 : Cond.code ⟨"SpinBench$Mixer", "isBeyond", "(JJ)Z"⟩ prog_6_method_9_code 4 (some .boolean) ∈ gw_All := gw_in 436 rfl rfl
theorem wd_437 : Cond.methodLink "SpinBench$Mixer" 77 ⟨"SpinBench$Mixer", "putRows", "(IIJ)Z"⟩ ∈ gw_All := gw_in 437 (by decide +kernel) (by decide +kernel)
theorem wd_439 : Cond.instanceMethod ⟨"SpinBench$Mixer", "putRows", "(IIJ)Z"⟩ ∈ gw_All := gw_in 439 (by decide +kernel) (by decide +kernel)
set_option maxRecDepth 100000 in
theorem wd_440 : Cond.code ⟨"SpinBench$Mixer", "putRows", "(IIJ)Z"⟩ prog_6_method_10_code 10 (some .boolean) ∈ gw_All := gw_in 440 rfl rfl
theorem wd_442 : Cond.methodLink "SpinBench$Mixer" 96 ⟨"SpinBench$Mixer", "squaredCosines", "(I)I"⟩ ∈ gw_All := gw_in 442 (by decide +kernel) (by decide +kernel)
theorem wd_443 : Cond.static ⟨"SpinBench$Mixer", "squaredCosines", "(I)I"⟩ ∈ gw_All := gw_in 443 (by decide +kernel) (by decide +kernel)
set_option maxRecDepth 100000 in
theorem wd_444 : Cond.code ⟨"SpinBench$Mixer", "squaredCosines", "(I)I"⟩ prog_6_method_11_code 3 (some .int) ∈ gw_All := gw_in 444 rfl rfl
theorem wd_445 : Cond.methodLink "SpinBench$Mixer" 99 ⟨"java/lang/Integer", "bitCount", "(I)I"⟩ ∈ gw_All := gw_in 445 (by decide +kernel) (by decide +kernel)
theorem wd_446 : Cond.static ⟨"java/lang/Integer", "bitCount", "(I)I"⟩ ∈ gw_All := gw_in 446 (by decide +kernel) (by decide +kernel)
set_option maxRecDepth 100000 in
theorem wd_447 : Cond.code ⟨"java/lang/Integer", "bitCount", "(I)I"⟩ prog_15_method_49_code 1 (some .int) ∈ gw_All := gw_in 447 rfl rfl
theorem wd_448 : Cond.constant "java/lang/Integer" 265 1431655765 ∈ gw_All := gw_in 448 (by decide +kernel) (by decide +kernel)
theorem wd_449 : Cond.constant "java/lang/Integer" 266 858993459 ∈ gw_All := gw_in 449 (by decide +kernel) (by decide +kernel)
theorem wd_450 : Cond.constant "java/lang/Integer" 267 252645135 ∈ gw_All := gw_in 450 (by decide +kernel) (by decide +kernel)
theorem wd_451 : Cond.methodLink "SpinBenchLaw" 86 ⟨"SpinBench", "digest", "(I)J"⟩ ∈ gw_All := gw_in 451 (by decide +kernel) (by decide +kernel)
theorem wd_452 : Cond.instanceMethod ⟨"SpinBench", "digest", "(I)J"⟩ ∈ gw_All := gw_in 452 (by decide +kernel) (by decide +kernel)
theorem wd_453 : Cond.selects "SpinBench" ⟨"SpinBench", "digest", "(I)J"⟩ ⟨"SpinBench", "digest", "(I)J"⟩ ∈ gw_All := gw_in 453 (by decide +kernel) (by decide +kernel)
set_option maxRecDepth 100000 in
theorem wd_454 : Cond.code ⟨"SpinBench", "digest", "(I)J"⟩ prog_1_method_17_code 7 (some .long) ∈ gw_All := gw_in 454 rfl rfl
theorem wd_455 : Cond.constantLong "SpinBench" 174 17 ∈ gw_All := gw_in 455 (by decide +kernel) (by decide +kernel)
theorem wd_456 : Cond.constantLong "SpinBench" 176 31 ∈ gw_All := gw_in 456 (by decide +kernel) (by decide +kernel)
theorem wd_457 : Cond.methodLink "SpinBenchLaw" 91 ⟨"SpinBench", "pulse", "(III)I"⟩ ∈ gw_All := gw_in 457 (by decide +kernel) (by decide +kernel)
theorem wd_458 : Cond.instanceMethod ⟨"SpinBench", "pulse", "(III)I"⟩ ∈ gw_All := gw_in 458 (by decide +kernel) (by decide +kernel)
theorem wd_459 : Cond.selects "SpinBench" ⟨"SpinBench", "pulse", "(III)I"⟩ ⟨"SpinBench", "pulse", "(III)I"⟩ ∈ gw_All := gw_in 459 (by decide +kernel) (by decide +kernel)
set_option maxRecDepth 100000 in
theorem wd_460 : Cond.code ⟨"SpinBench", "pulse", "(III)I"⟩ prog_1_method_18_code 4 (some .int) ∈ gw_All := gw_in 460 rfl rfl
theorem wd_461 : Cond.methodLink "SpinBench" 178 ⟨"SpinBench", "isPulse", "(III)Z"⟩ ∈ gw_All := gw_in 461 (by decide +kernel) (by decide +kernel)
theorem wd_463 : Cond.instanceMethod ⟨"SpinBench", "isPulse", "(III)Z"⟩ ∈ gw_All := gw_in 463 (by decide +kernel) (by decide +kernel)
set_option maxRecDepth 100000 in
theorem wd_464 : Cond.code ⟨"SpinBench", "isPulse", "(III)Z"⟩ prog_1_method_37_code 4 (some .boolean) ∈ gw_All := gw_in 464 rfl rfl
theorem wd_465 : Cond.classLink "SpinBench" 181 "SpinBench$Pulse" ∈ gw_All := gw_in 465 (by decide +kernel) (by decide +kernel)
theorem wd_466 : Cond.instantiable "SpinBench$Pulse" 5 ∈ gw_All := gw_in 466 (by decide +kernel) (by decide +kernel)
theorem wd_467 : Cond.methodLink "SpinBench" 190 ⟨"SpinBench$Pulse", "<init>", "(ILSpinBench$Round;III)V"⟩ ∈ gw_All := gw_in 467 (by decide +kernel) (by decide +kernel)
theorem wd_468 : Cond.instanceMethod ⟨"SpinBench$Pulse", "<init>", "(ILSpinBench$Round;III)V"⟩ ∈ gw_All := gw_in 468 (by decide +kernel) (by decide +kernel)
set_option maxRecDepth 100000 in
theorem wd_469 : Cond.code ⟨"SpinBench$Pulse", "<init>", "(ILSpinBench$Round;III)V"⟩ prog_8_method_1_code 6 none ∈ gw_All := gw_in 469 rfl rfl
theorem wd_470 : Cond.methodLink "SpinBench$Pulse" 3 ⟨"SpinBench$Lead", "<init>", "(ILSpinBench$Round;)V"⟩ ∈ gw_All := gw_in 470 (by decide +kernel) (by decide +kernel)
theorem wd_471 : Cond.instanceMethod ⟨"SpinBench$Lead", "<init>", "(ILSpinBench$Round;)V"⟩ ∈ gw_All := gw_in 471 (by decide +kernel) (by decide +kernel)
set_option maxRecDepth 100000 in
theorem wd_472 : Cond.code ⟨"SpinBench$Lead", "<init>", "(ILSpinBench$Round;)V"⟩ prog_5_method_1_code 3 none ∈ gw_All := gw_in 472 rfl rfl
theorem wd_473 : Cond.methodLink "SpinBench$Lead" 3 ⟨"SpinBench$Op", "<init>", "(ILSpinBench$Round;)V"⟩ ∈ gw_All := gw_in 473 (by decide +kernel) (by decide +kernel)
theorem wd_474 : Cond.instanceMethod ⟨"SpinBench$Op", "<init>", "(ILSpinBench$Round;)V"⟩ ∈ gw_All := gw_in 474 (by decide +kernel) (by decide +kernel)
set_option maxRecDepth 100000 in
theorem wd_475 : Cond.code ⟨"SpinBench$Op", "<init>", "(ILSpinBench$Round;)V"⟩ prog_7_method_1_code 3 none ∈ gw_All := gw_in 475 rfl rfl
theorem wd_476 : Cond.methodLink "SpinBench$Op" 3 ⟨"java/lang/Object", "<init>", "()V"⟩ ∈ gw_All := gw_in 476 (by decide +kernel) (by decide +kernel)
theorem wd_477 : Cond.fieldLink "SpinBench$Pulse" 9 "SpinBench$Pulse" "spinSet" "I" ∈ gw_All := gw_in 477 (by decide +kernel) (by decide +kernel)
theorem wd_478 : Cond.fieldLink "SpinBench" 239 "SpinBench$Pulse" "spinSet" "I" ∈ gw_All := gw_in 478 (by decide +kernel) (by decide +kernel)
theorem wd_479 : Cond.fieldLink "SpinBench$Pulse" 15 "SpinBench$Pulse" "phase" "I" ∈ gw_All := gw_in 479 (by decide +kernel) (by decide +kernel)
theorem wd_480 : Cond.fieldLink "SpinBench$Cycled" 49 "SpinBench$Cycled" "phase" "I" ∈ gw_All := gw_in 480 (by decide +kernel) (by decide +kernel)
theorem wd_481 : Cond.sameField "SpinBench$Cycled" "SpinBench$Pulse" "phase" "I" ∈ gw_All := gw_in 481 (by decide +kernel) (by decide +kernel)
theorem wd_482 : Cond.fieldLink "SpinBench$Pulse" 18 "SpinBench$Pulse" "quarters" "I" ∈ gw_All := gw_in 482 (by decide +kernel) (by decide +kernel)
theorem wd_483 : Cond.fieldLink "SpinBench$Op" 9 "SpinBench$Op" "place" "I" ∈ gw_All := gw_in 483 (by decide +kernel) (by decide +kernel)
theorem wd_484 : Cond.fieldLink "SpinBench$End" 24 "SpinBench$Round" "place" "I" ∈ gw_All := gw_in 484 (by decide +kernel) (by decide +kernel)
theorem wd_485 : Cond.sameField "SpinBench$Round" "SpinBench$Op" "place" "I" ∈ gw_All := gw_in 485 (by decide +kernel) (by decide +kernel)
theorem wd_486 : Cond.fieldLink "SpinBench" 259 "SpinBench$Op" "place" "I" ∈ gw_All := gw_in 486 (by decide +kernel) (by decide +kernel)
theorem wd_487 : Cond.fieldLink "SpinBench$Op" 15 "SpinBench$Op" "around" "LSpinBench$Round;" ∈ gw_All := gw_in 487 (by decide +kernel) (by decide +kernel)
theorem wd_488 : Cond.fieldLink "SpinBench$End" 9 "SpinBench$End" "around" "LSpinBench$Round;" ∈ gw_All := gw_in 488 (by decide +kernel) (by decide +kernel)
theorem wd_489 : Cond.sameField "SpinBench$End" "SpinBench$Op" "around" "LSpinBench$Round;" ∈ gw_All := gw_in 489 (by decide +kernel) (by decide +kernel)
theorem wd_490 : Cond.fieldLink "SpinBench$Cycled" 36 "SpinBench$Cycled" "around" "LSpinBench$Round;" ∈ gw_All := gw_in 490 (by decide +kernel) (by decide +kernel)
theorem wd_491 : Cond.sameField "SpinBench$Cycled" "SpinBench$Op" "around" "LSpinBench$Round;" ∈ gw_All := gw_in 491 (by decide +kernel) (by decide +kernel)
theorem wd_492 : Cond.fieldLink "SpinBench" 220 "SpinBench$Round" "around" "LSpinBench$Round;" ∈ gw_All := gw_in 492 (by decide +kernel) (by decide +kernel)
theorem wd_493 : Cond.sameField "SpinBench$Round" "SpinBench$Op" "around" "LSpinBench$Round;" ∈ gw_All := gw_in 493 (by decide +kernel) (by decide +kernel)
theorem wd_494 : Cond.fieldLink "SpinBench" 232 "SpinBench$Op" "around" "LSpinBench$Round;" ∈ gw_All := gw_in 494 (by decide +kernel) (by decide +kernel)
theorem wd_505 : Cond.superclass "SpinBench$Pulse" "SpinBench$Lead" ∈ gw_All := gw_in 505 (by decide +kernel) (by decide +kernel)
theorem wd_506 : Cond.methodLink "SpinBench" 193 ⟨"SpinBench", "append", "(LSpinBench$Op;)I"⟩ ∈ gw_All := gw_in 506 (by decide +kernel) (by decide +kernel)
theorem wd_508 : Cond.instanceMethod ⟨"SpinBench", "append", "(LSpinBench$Op;)I"⟩ ∈ gw_All := gw_in 508 (by decide +kernel) (by decide +kernel)
set_option maxRecDepth 100000 in
theorem wd_509 : Cond.code ⟨"SpinBench", "append", "(LSpinBench$Op;)I"⟩ prog_1_method_43_code 3 (some .int) ∈ gw_All := gw_in 509 rfl rfl
theorem wd_510 : Cond.methodLink "SpinBenchLaw" 95 ⟨"SpinBench", "cycled", "(IIII)I"⟩ ∈ gw_All := gw_in 510 (by decide +kernel) (by decide +kernel)
theorem wd_511 : Cond.instanceMethod ⟨"SpinBench", "cycled", "(IIII)I"⟩ ∈ gw_All := gw_in 511 (by decide +kernel) (by decide +kernel)
theorem wd_512 : Cond.selects "SpinBench" ⟨"SpinBench", "cycled", "(IIII)I"⟩ ⟨"SpinBench", "cycled", "(IIII)I"⟩ ∈ gw_All := gw_in 512 (by decide +kernel) (by decide +kernel)
set_option maxRecDepth 100000 in
theorem wd_513 : Cond.code ⟨"SpinBench", "cycled", "(IIII)I"⟩ prog_1_method_19_code 5 (some .int) ∈ gw_All := gw_in 513 rfl rfl
theorem wd_514 : Cond.classLink "SpinBench" 197 "SpinBench$Cycled" ∈ gw_All := gw_in 514 (by decide +kernel) (by decide +kernel)
theorem wd_515 : Cond.instantiable "SpinBench$Cycled" 6 ∈ gw_All := gw_in 515 (by decide +kernel) (by decide +kernel)
theorem wd_516 : Cond.methodLink "SpinBench" 199 ⟨"SpinBench$Cycled", "<init>", "(ILSpinBench$Round;IIII)V"⟩ ∈ gw_All := gw_in 516 (by decide +kernel) (by decide +kernel)
theorem wd_517 : Cond.instanceMethod ⟨"SpinBench$Cycled", "<init>", "(ILSpinBench$Round;IIII)V"⟩ ∈ gw_All := gw_in 517 (by decide +kernel) (by decide +kernel)
set_option maxRecDepth 100000 in
theorem wd_518 : Cond.code ⟨"SpinBench$Cycled", "<init>", "(ILSpinBench$Round;IIII)V"⟩ prog_2_method_1_code 7 none ∈ gw_All := gw_in 518 rfl rfl
theorem wd_519 : Cond.methodLink "SpinBench$Cycled" 3 ⟨"SpinBench$Pulse", "<init>", "(ILSpinBench$Round;III)V"⟩ ∈ gw_All := gw_in 519 (by decide +kernel) (by decide +kernel)
theorem wd_520 : Cond.fieldLink "SpinBench$Cycled" 9 "SpinBench$Cycled" "cycle" "I" ∈ gw_All := gw_in 520 (by decide +kernel) (by decide +kernel)
theorem wd_528 : Cond.superclass "SpinBench$Cycled" "SpinBench$Pulse" ∈ gw_All := gw_in 528 (by decide +kernel) (by decide +kernel)
theorem wd_529 : Cond.methodLink "SpinBenchLaw" 100 ⟨"SpinBench", "delay", "(III)I"⟩ ∈ gw_All := gw_in 529 (by decide +kernel) (by decide +kernel)
theorem wd_530 : Cond.instanceMethod ⟨"SpinBench", "delay", "(III)I"⟩ ∈ gw_All := gw_in 530 (by decide +kernel) (by decide +kernel)
theorem wd_531 : Cond.selects "SpinBench" ⟨"SpinBench", "delay", "(III)I"⟩ ⟨"SpinBench", "delay", "(III)I"⟩ ∈ gw_All := gw_in 531 (by decide +kernel) (by decide +kernel)
set_option maxRecDepth 100000 in
theorem wd_532 : Cond.code ⟨"SpinBench", "delay", "(III)I"⟩ prog_1_method_20_code 4 (some .int) ∈ gw_All := gw_in 532 rfl rfl
theorem wd_533 : Cond.classLink "SpinBench" 202 "SpinBench$Delay" ∈ gw_All := gw_in 533 (by decide +kernel) (by decide +kernel)
theorem wd_534 : Cond.instantiable "SpinBench$Delay" 5 ∈ gw_All := gw_in 534 (by decide +kernel) (by decide +kernel)
theorem wd_535 : Cond.methodLink "SpinBench" 204 ⟨"SpinBench$Delay", "<init>", "(ILSpinBench$Round;III)V"⟩ ∈ gw_All := gw_in 535 (by decide +kernel) (by decide +kernel)
theorem wd_536 : Cond.instanceMethod ⟨"SpinBench$Delay", "<init>", "(ILSpinBench$Round;III)V"⟩ ∈ gw_All := gw_in 536 (by decide +kernel) (by decide +kernel)
set_option maxRecDepth 100000 in
theorem wd_537 : Cond.code ⟨"SpinBench$Delay", "<init>", "(ILSpinBench$Round;III)V"⟩ prog_3_method_1_code 6 none ∈ gw_All := gw_in 537 rfl rfl
theorem wd_538 : Cond.methodLink "SpinBench$Delay" 3 ⟨"SpinBench$Lead", "<init>", "(ILSpinBench$Round;)V"⟩ ∈ gw_All := gw_in 538 (by decide +kernel) (by decide +kernel)
theorem wd_539 : Cond.fieldLink "SpinBench$Delay" 9 "SpinBench$Delay" "about" "I" ∈ gw_All := gw_in 539 (by decide +kernel) (by decide +kernel)
theorem wd_540 : Cond.fieldLink "SpinBench$Delay" 15 "SpinBench$Delay" "angle" "I" ∈ gw_All := gw_in 540 (by decide +kernel) (by decide +kernel)
theorem wd_541 : Cond.fieldLink "SpinBench$Delay" 18 "SpinBench$Delay" "way" "I" ∈ gw_All := gw_in 541 (by decide +kernel) (by decide +kernel)
theorem wd_550 : Cond.superclass "SpinBench$Delay" "SpinBench$Lead" ∈ gw_All := gw_in 550 (by decide +kernel) (by decide +kernel)
theorem wd_551 : Cond.methodLink "SpinBenchLaw" 104 ⟨"SpinBench", "round", "(I)I"⟩ ∈ gw_All := gw_in 551 (by decide +kernel) (by decide +kernel)
theorem wd_552 : Cond.instanceMethod ⟨"SpinBench", "round", "(I)I"⟩ ∈ gw_All := gw_in 552 (by decide +kernel) (by decide +kernel)
theorem wd_553 : Cond.selects "SpinBench" ⟨"SpinBench", "round", "(I)I"⟩ ⟨"SpinBench", "round", "(I)I"⟩ ∈ gw_All := gw_in 553 (by decide +kernel) (by decide +kernel)
set_option maxRecDepth 100000 in
theorem wd_554 : Cond.code ⟨"SpinBench", "round", "(I)I"⟩ prog_1_method_21_code 4 (some .int) ∈ gw_All := gw_in 554 rfl rfl
theorem wd_555 : Cond.methodLink "SpinBench" 205 ⟨"SpinBench", "openRounds", "()I"⟩ ∈ gw_All := gw_in 555 (by decide +kernel) (by decide +kernel)
theorem wd_557 : Cond.instanceMethod ⟨"SpinBench", "openRounds", "()I"⟩ ∈ gw_All := gw_in 557 (by decide +kernel) (by decide +kernel)
set_option maxRecDepth 100000 in
theorem wd_558 : Cond.code ⟨"SpinBench", "openRounds", "()I"⟩ prog_1_method_45_code 3 (some .int) ∈ gw_All := gw_in 558 rfl rfl
theorem wd_559 : Cond.constant "SpinBench" 209 (-1000002) ∈ gw_All := gw_in 559 (by decide +kernel) (by decide +kernel)
theorem wd_560 : Cond.classLink "SpinBench" 210 "SpinBench$Round" ∈ gw_All := gw_in 560 (by decide +kernel) (by decide +kernel)
theorem wd_561 : Cond.instantiable "SpinBench$Round" 4 ∈ gw_All := gw_in 561 (by decide +kernel) (by decide +kernel)
theorem wd_562 : Cond.methodLink "SpinBench" 212 ⟨"SpinBench$Round", "<init>", "(ILSpinBench$Round;I)V"⟩ ∈ gw_All := gw_in 562 (by decide +kernel) (by decide +kernel)
theorem wd_563 : Cond.instanceMethod ⟨"SpinBench$Round", "<init>", "(ILSpinBench$Round;I)V"⟩ ∈ gw_All := gw_in 563 (by decide +kernel) (by decide +kernel)
set_option maxRecDepth 100000 in
theorem wd_564 : Cond.code ⟨"SpinBench$Round", "<init>", "(ILSpinBench$Round;I)V"⟩ prog_9_method_1_code 4 none ∈ gw_All := gw_in 564 rfl rfl
theorem wd_565 : Cond.methodLink "SpinBench$Round" 3 ⟨"SpinBench$Op", "<init>", "(ILSpinBench$Round;)V"⟩ ∈ gw_All := gw_in 565 (by decide +kernel) (by decide +kernel)
theorem wd_566 : Cond.fieldLink "SpinBench$Round" 9 "SpinBench$Round" "often" "I" ∈ gw_All := gw_in 566 (by decide +kernel) (by decide +kernel)
theorem wd_569 : Cond.fieldLink "SpinBench$Round" 19 "SpinBench$Round" "timesDone" "I" ∈ gw_All := gw_in 569 (by decide +kernel) (by decide +kernel)
theorem wd_577 : Cond.superclass "SpinBench$Round" "SpinBench$Op" ∈ gw_All := gw_in 577 (by decide +kernel) (by decide +kernel)
theorem wd_578 : Cond.methodLink "SpinBenchLaw" 108 ⟨"SpinBench", "end", "()I"⟩ ∈ gw_All := gw_in 578 (by decide +kernel) (by decide +kernel)
theorem wd_579 : Cond.instanceMethod ⟨"SpinBench", "end", "()I"⟩ ∈ gw_All := gw_in 579 (by decide +kernel) (by decide +kernel)
theorem wd_580 : Cond.selects "SpinBench" ⟨"SpinBench", "end", "()I"⟩ ⟨"SpinBench", "end", "()I"⟩ ∈ gw_All := gw_in 580 (by decide +kernel) (by decide +kernel)
set_option maxRecDepth 100000 in
theorem wd_581 : Cond.code ⟨"SpinBench", "end", "()I"⟩ prog_1_method_22_code 3 (some .int) ∈ gw_All := gw_in 581 rfl rfl
theorem wd_582 : Cond.classLink "SpinBench" 215 "SpinBench$End" ∈ gw_All := gw_in 582 (by decide +kernel) (by decide +kernel)
theorem wd_583 : Cond.instantiable "SpinBench$End" 2 ∈ gw_All := gw_in 583 (by decide +kernel) (by decide +kernel)
theorem wd_584 : Cond.methodLink "SpinBench" 217 ⟨"SpinBench$End", "<init>", "(ILSpinBench$Round;)V"⟩ ∈ gw_All := gw_in 584 (by decide +kernel) (by decide +kernel)
theorem wd_585 : Cond.instanceMethod ⟨"SpinBench$End", "<init>", "(ILSpinBench$Round;)V"⟩ ∈ gw_All := gw_in 585 (by decide +kernel) (by decide +kernel)
set_option maxRecDepth 100000 in
theorem wd_586 : Cond.code ⟨"SpinBench$End", "<init>", "(ILSpinBench$Round;)V"⟩ prog_4_method_1_code 3 none ∈ gw_All := gw_in 586 rfl rfl
theorem wd_587 : Cond.methodLink "SpinBench$End" 3 ⟨"SpinBench$Op", "<init>", "(ILSpinBench$Round;)V"⟩ ∈ gw_All := gw_in 587 (by decide +kernel) (by decide +kernel)
theorem wd_590 : Cond.superclass "SpinBench$End" "SpinBench$Op" ∈ gw_All := gw_in 590 (by decide +kernel) (by decide +kernel)
theorem wd_591 : Cond.methodLink "SpinBenchLaw" 113 ⟨"SpinBench", "store", "(II)I"⟩ ∈ gw_All := gw_in 591 (by decide +kernel) (by decide +kernel)
theorem wd_592 : Cond.instanceMethod ⟨"SpinBench", "store", "(II)I"⟩ ∈ gw_All := gw_in 592 (by decide +kernel) (by decide +kernel)
theorem wd_593 : Cond.selects "SpinBench" ⟨"SpinBench", "store", "(II)I"⟩ ⟨"SpinBench", "store", "(II)I"⟩ ∈ gw_All := gw_in 593 (by decide +kernel) (by decide +kernel)
set_option maxRecDepth 100000 in
theorem wd_594 : Cond.code ⟨"SpinBench", "store", "(II)I"⟩ prog_1_method_23_code 3 (some .int) ∈ gw_All := gw_in 594 rfl rfl
theorem wd_595 : Cond.classLink "SpinBench" 223 "SpinBench$Store" ∈ gw_All := gw_in 595 (by decide +kernel) (by decide +kernel)
theorem wd_596 : Cond.instantiable "SpinBench$Store" 4 ∈ gw_All := gw_in 596 (by decide +kernel) (by decide +kernel)
theorem wd_597 : Cond.methodLink "SpinBench" 225 ⟨"SpinBench$Store", "<init>", "(ILSpinBench$Round;II)V"⟩ ∈ gw_All := gw_in 597 (by decide +kernel) (by decide +kernel)
theorem wd_598 : Cond.instanceMethod ⟨"SpinBench$Store", "<init>", "(ILSpinBench$Round;II)V"⟩ ∈ gw_All := gw_in 598 (by decide +kernel) (by decide +kernel)
set_option maxRecDepth 100000 in
theorem wd_599 : Cond.code ⟨"SpinBench$Store", "<init>", "(ILSpinBench$Round;II)V"⟩ prog_10_method_1_code 5 none ∈ gw_All := gw_in 599 rfl rfl
theorem wd_600 : Cond.methodLink "SpinBench$Store" 3 ⟨"SpinBench$Op", "<init>", "(ILSpinBench$Round;)V"⟩ ∈ gw_All := gw_in 600 (by decide +kernel) (by decide +kernel)
theorem wd_601 : Cond.fieldLink "SpinBench$Store" 9 "SpinBench$Store" "shelf" "I" ∈ gw_All := gw_in 601 (by decide +kernel) (by decide +kernel)
theorem wd_602 : Cond.fieldLink "SpinBench$Store" 15 "SpinBench$Store" "times" "I" ∈ gw_All := gw_in 602 (by decide +kernel) (by decide +kernel)
theorem wd_609 : Cond.superclass "SpinBench$Store" "SpinBench$Op" ∈ gw_All := gw_in 609 (by decide +kernel) (by decide +kernel)
theorem wd_610 : Cond.methodLink "SpinBenchLaw" 117 ⟨"SpinBench", "back", "()I"⟩ ∈ gw_All := gw_in 610 (by decide +kernel) (by decide +kernel)
theorem wd_611 : Cond.instanceMethod ⟨"SpinBench", "back", "()I"⟩ ∈ gw_All := gw_in 611 (by decide +kernel) (by decide +kernel)
theorem wd_612 : Cond.selects "SpinBench" ⟨"SpinBench", "back", "()I"⟩ ⟨"SpinBench", "back", "()I"⟩ ∈ gw_All := gw_in 612 (by decide +kernel) (by decide +kernel)
set_option maxRecDepth 100000 in
theorem wd_613 : Cond.code ⟨"SpinBench", "back", "()I"⟩ prog_1_method_24_code 2 (some .int) ∈ gw_All := gw_in 613 rfl rfl
theorem wd_614 : Cond.methodLink "SpinBench" 228 ⟨"SpinBench", "opAt", "(I)LSpinBench$Op;"⟩ ∈ gw_All := gw_in 614 (by decide +kernel) (by decide +kernel)
theorem wd_616 : Cond.instanceMethod ⟨"SpinBench", "opAt", "(I)LSpinBench$Op;"⟩ ∈ gw_All := gw_in 616 (by decide +kernel) (by decide +kernel)
set_option maxRecDepth 100000 in
theorem wd_617 : Cond.code ⟨"SpinBench", "opAt", "(I)LSpinBench$Op;"⟩ prog_1_method_40_code 2 (some (.object "SpinBench$Op")) ∈ gw_All := gw_in 617 rfl rfl
theorem wd_618 : Cond.methodLink "SpinBenchLaw" 121 ⟨"SpinBench", "kind", "(I)I"⟩ ∈ gw_All := gw_in 618 (by decide +kernel) (by decide +kernel)
theorem wd_619 : Cond.instanceMethod ⟨"SpinBench", "kind", "(I)I"⟩ ∈ gw_All := gw_in 619 (by decide +kernel) (by decide +kernel)
theorem wd_620 : Cond.selects "SpinBench" ⟨"SpinBench", "kind", "(I)I"⟩ ⟨"SpinBench", "kind", "(I)I"⟩ ∈ gw_All := gw_in 620 (by decide +kernel) (by decide +kernel)
set_option maxRecDepth 100000 in
theorem wd_621 : Cond.code ⟨"SpinBench", "kind", "(I)I"⟩ prog_1_method_25_code 3 (some .int) ∈ gw_All := gw_in 621 rfl rfl
theorem wd_622 : Cond.methodLink "SpinBench" 233 ⟨"SpinBench$Op", "ownKind", "()I"⟩ ∈ gw_All := gw_in 622 (by decide +kernel) (by decide +kernel)
theorem wd_624 : Cond.sameMethod "SpinBench$Op" "SpinBench$Op" "ownKind" "()I" ∈ gw_All := gw_in 624 (by decide +kernel) (by decide +kernel)
theorem wd_625 : Cond.selects "SpinBench$Cycled" ⟨"SpinBench$Op", "ownKind", "()I"⟩ ⟨"SpinBench$Cycled", "ownKind", "()I"⟩ ∈ gw_All := gw_in 625 (by decide +kernel) (by decide +kernel)
theorem wd_626 : Cond.instanceMethod ⟨"SpinBench$Cycled", "ownKind", "()I"⟩ ∈ gw_All := gw_in 626 (by decide +kernel) (by decide +kernel)
set_option maxRecDepth 100000 in
theorem wd_627 : Cond.code ⟨"SpinBench$Cycled", "ownKind", "()I"⟩ prog_2_method_2_code 1 (some .int) ∈ gw_All := gw_in 627 rfl rfl
theorem wd_628 : Cond.selects "SpinBench$Delay" ⟨"SpinBench$Op", "ownKind", "()I"⟩ ⟨"SpinBench$Delay", "ownKind", "()I"⟩ ∈ gw_All := gw_in 628 (by decide +kernel) (by decide +kernel)
theorem wd_629 : Cond.instanceMethod ⟨"SpinBench$Delay", "ownKind", "()I"⟩ ∈ gw_All := gw_in 629 (by decide +kernel) (by decide +kernel)
set_option maxRecDepth 100000 in
theorem wd_630 : Cond.code ⟨"SpinBench$Delay", "ownKind", "()I"⟩ prog_3_method_2_code 1 (some .int) ∈ gw_All := gw_in 630 rfl rfl
theorem wd_631 : Cond.selects "SpinBench$End" ⟨"SpinBench$Op", "ownKind", "()I"⟩ ⟨"SpinBench$End", "ownKind", "()I"⟩ ∈ gw_All := gw_in 631 (by decide +kernel) (by decide +kernel)
theorem wd_632 : Cond.instanceMethod ⟨"SpinBench$End", "ownKind", "()I"⟩ ∈ gw_All := gw_in 632 (by decide +kernel) (by decide +kernel)
set_option maxRecDepth 100000 in
theorem wd_633 : Cond.code ⟨"SpinBench$End", "ownKind", "()I"⟩ prog_4_method_2_code 1 (some .int) ∈ gw_All := gw_in 633 rfl rfl
theorem wd_634 : Cond.selects "SpinBench$Pulse" ⟨"SpinBench$Op", "ownKind", "()I"⟩ ⟨"SpinBench$Pulse", "ownKind", "()I"⟩ ∈ gw_All := gw_in 634 (by decide +kernel) (by decide +kernel)
theorem wd_635 : Cond.instanceMethod ⟨"SpinBench$Pulse", "ownKind", "()I"⟩ ∈ gw_All := gw_in 635 (by decide +kernel) (by decide +kernel)
set_option maxRecDepth 100000 in
theorem wd_636 : Cond.code ⟨"SpinBench$Pulse", "ownKind", "()I"⟩ prog_8_method_2_code 1 (some .int) ∈ gw_All := gw_in 636 rfl rfl
theorem wd_637 : Cond.selects "SpinBench$Round" ⟨"SpinBench$Op", "ownKind", "()I"⟩ ⟨"SpinBench$Round", "ownKind", "()I"⟩ ∈ gw_All := gw_in 637 (by decide +kernel) (by decide +kernel)
theorem wd_638 : Cond.instanceMethod ⟨"SpinBench$Round", "ownKind", "()I"⟩ ∈ gw_All := gw_in 638 (by decide +kernel) (by decide +kernel)
set_option maxRecDepth 100000 in
theorem wd_639 : Cond.code ⟨"SpinBench$Round", "ownKind", "()I"⟩ prog_9_method_2_code 1 (some .int) ∈ gw_All := gw_in 639 rfl rfl
theorem wd_640 : Cond.selects "SpinBench$Store" ⟨"SpinBench$Op", "ownKind", "()I"⟩ ⟨"SpinBench$Store", "ownKind", "()I"⟩ ∈ gw_All := gw_in 640 (by decide +kernel) (by decide +kernel)
theorem wd_641 : Cond.instanceMethod ⟨"SpinBench$Store", "ownKind", "()I"⟩ ∈ gw_All := gw_in 641 (by decide +kernel) (by decide +kernel)
set_option maxRecDepth 100000 in
theorem wd_642 : Cond.code ⟨"SpinBench$Store", "ownKind", "()I"⟩ prog_10_method_2_code 1 (some .int) ∈ gw_All := gw_in 642 rfl rfl
theorem wd_643 : Cond.methodLink "SpinBenchLaw" 125 ⟨"SpinBench", "is", "(II)I"⟩ ∈ gw_All := gw_in 643 (by decide +kernel) (by decide +kernel)
theorem wd_644 : Cond.instanceMethod ⟨"SpinBench", "is", "(II)I"⟩ ∈ gw_All := gw_in 644 (by decide +kernel) (by decide +kernel)
theorem wd_645 : Cond.selects "SpinBench" ⟨"SpinBench", "is", "(II)I"⟩ ⟨"SpinBench", "is", "(II)I"⟩ ∈ gw_All := gw_in 645 (by decide +kernel) (by decide +kernel)
set_option maxRecDepth 100000 in
theorem wd_646 : Cond.code ⟨"SpinBench", "is", "(II)I"⟩ prog_1_method_26_code 4 (some .int) ∈ gw_All := gw_in 646 rfl rfl
theorem wd_647 : Cond.methodLink "SpinBench" 236 ⟨"SpinBench$Op", "isOfKind", "(I)Z"⟩ ∈ gw_All := gw_in 647 (by decide +kernel) (by decide +kernel)
theorem wd_648 : Cond.instanceMethod ⟨"SpinBench$Op", "isOfKind", "(I)Z"⟩ ∈ gw_All := gw_in 648 (by decide +kernel) (by decide +kernel)
theorem wd_649 : Cond.sameMethod "SpinBench$Op" "SpinBench$Op" "isOfKind" "(I)Z" ∈ gw_All := gw_in 649 (by decide +kernel) (by decide +kernel)
theorem wd_650 : Cond.selects "SpinBench$Cycled" ⟨"SpinBench$Op", "isOfKind", "(I)Z"⟩ ⟨"SpinBench$Pulse", "isOfKind", "(I)Z"⟩ ∈ gw_All := gw_in 650 (by decide +kernel) (by decide +kernel)
theorem wd_651 : Cond.instanceMethod ⟨"SpinBench$Pulse", "isOfKind", "(I)Z"⟩ ∈ gw_All := gw_in 651 (by decide +kernel) (by decide +kernel)
set_option maxRecDepth 100000 in
theorem wd_652 : Cond.code ⟨"SpinBench$Pulse", "isOfKind", "(I)Z"⟩ prog_8_method_3_code 2 (some .boolean) ∈ gw_All := gw_in 652 rfl rfl
theorem wd_653 : Cond.methodLink "SpinBench$Pulse" 21 ⟨"SpinBench$Lead", "isOfKind", "(I)Z"⟩ ∈ gw_All := gw_in 653 (by decide +kernel) (by decide +kernel)
theorem wd_654 : Cond.instanceMethod ⟨"SpinBench$Lead", "isOfKind", "(I)Z"⟩ ∈ gw_All := gw_in 654 (by decide +kernel) (by decide +kernel)
set_option maxRecDepth 100000 in
theorem wd_655 : Cond.code ⟨"SpinBench$Lead", "isOfKind", "(I)Z"⟩ prog_5_method_2_code 2 (some .boolean) ∈ gw_All := gw_in 655 rfl rfl
theorem wd_656 : Cond.methodLink "SpinBench$Lead" 9 ⟨"SpinBench$Op", "isOfKind", "(I)Z"⟩ ∈ gw_All := gw_in 656 (by decide +kernel) (by decide +kernel)
theorem wd_657 : Cond.selects "SpinBench$Delay" ⟨"SpinBench$Op", "isOfKind", "(I)Z"⟩ ⟨"SpinBench$Lead", "isOfKind", "(I)Z"⟩ ∈ gw_All := gw_in 657 (by decide +kernel) (by decide +kernel)
theorem wd_658 : Cond.selects "SpinBench$End" ⟨"SpinBench$Op", "isOfKind", "(I)Z"⟩ ⟨"SpinBench$Op", "isOfKind", "(I)Z"⟩ ∈ gw_All := gw_in 658 (by decide +kernel) (by decide +kernel)
theorem wd_659 : Cond.selects "SpinBench$Pulse" ⟨"SpinBench$Op", "isOfKind", "(I)Z"⟩ ⟨"SpinBench$Pulse", "isOfKind", "(I)Z"⟩ ∈ gw_All := gw_in 659 (by decide +kernel) (by decide +kernel)
theorem wd_660 : Cond.selects "SpinBench$Round" ⟨"SpinBench$Op", "isOfKind", "(I)Z"⟩ ⟨"SpinBench$Op", "isOfKind", "(I)Z"⟩ ∈ gw_All := gw_in 660 (by decide +kernel) (by decide +kernel)
theorem wd_661 : Cond.selects "SpinBench$Store" ⟨"SpinBench$Op", "isOfKind", "(I)Z"⟩ ⟨"SpinBench$Op", "isOfKind", "(I)Z"⟩ ∈ gw_All := gw_in 661 (by decide +kernel) (by decide +kernel)
set_option maxRecDepth 100000 in
theorem wd_662 : Cond.code ⟨"SpinBench$Op", "isOfKind", "(I)Z"⟩ prog_7_method_4_code 2 (some .boolean) ∈ gw_All := gw_in 662 rfl rfl
theorem wd_663 : Cond.methodLink "SpinBench$Op" 19 ⟨"SpinBench$Op", "ownKind", "()I"⟩ ∈ gw_All := gw_in 663 (by decide +kernel) (by decide +kernel)
theorem wd_664 : Cond.methodLink "SpinBenchLaw" 129 ⟨"SpinBench", "spins", "(I)I"⟩ ∈ gw_All := gw_in 664 (by decide +kernel) (by decide +kernel)
theorem wd_665 : Cond.instanceMethod ⟨"SpinBench", "spins", "(I)I"⟩ ∈ gw_All := gw_in 665 (by decide +kernel) (by decide +kernel)
theorem wd_666 : Cond.selects "SpinBench" ⟨"SpinBench", "spins", "(I)I"⟩ ⟨"SpinBench", "spins", "(I)I"⟩ ∈ gw_All := gw_in 666 (by decide +kernel) (by decide +kernel)
set_option maxRecDepth 100000 in
theorem wd_667 : Cond.code ⟨"SpinBench", "spins", "(I)I"⟩ prog_1_method_27_code 4 (some .int) ∈ gw_All := gw_in 667 rfl rfl
theorem wd_668 : Cond.methodLink "SpinBenchLaw" 133 ⟨"SpinBench", "ask", "(II)I"⟩ ∈ gw_All := gw_in 668 (by decide +kernel) (by decide +kernel)
theorem wd_669 : Cond.instanceMethod ⟨"SpinBench", "ask", "(II)I"⟩ ∈ gw_All := gw_in 669 (by decide +kernel) (by decide +kernel)
theorem wd_670 : Cond.selects "SpinBench" ⟨"SpinBench", "ask", "(II)I"⟩ ⟨"SpinBench", "ask", "(II)I"⟩ ∈ gw_All := gw_in 670 (by decide +kernel) (by decide +kernel)
set_option maxRecDepth 100000 in
theorem wd_671 : Cond.code ⟨"SpinBench", "ask", "(II)I"⟩ prog_1_method_28_code 4 (some .int) ∈ gw_All := gw_in 671 rfl rfl
theorem wd_672 : Cond.methodLink "SpinBench" 245 ⟨"SpinBench$Op", "cost", "(LSpinBench;)I"⟩ ∈ gw_All := gw_in 672 (by decide +kernel) (by decide +kernel)
theorem wd_673 : Cond.instanceMethod ⟨"SpinBench$Op", "cost", "(LSpinBench;)I"⟩ ∈ gw_All := gw_in 673 (by decide +kernel) (by decide +kernel)
theorem wd_674 : Cond.sameMethod "SpinBench$Op" "SpinBench$Op" "cost" "(LSpinBench;)I" ∈ gw_All := gw_in 674 (by decide +kernel) (by decide +kernel)
theorem wd_675 : Cond.selects "SpinBench$Cycled" ⟨"SpinBench$Op", "cost", "(LSpinBench;)I"⟩ ⟨"SpinBench$Cycled", "cost", "(LSpinBench;)I"⟩ ∈ gw_All := gw_in 675 (by decide +kernel) (by decide +kernel)
theorem wd_676 : Cond.instanceMethod ⟨"SpinBench$Cycled", "cost", "(LSpinBench;)I"⟩ ∈ gw_All := gw_in 676 (by decide +kernel) (by decide +kernel)
set_option maxRecDepth 100000 in
theorem wd_677 : Cond.code ⟨"SpinBench$Cycled", "cost", "(LSpinBench;)I"⟩ prog_2_method_3_code 3 (some .int) ∈ gw_All := gw_in 677 rfl rfl
theorem wd_680 : Cond.instanceMethod ⟨"SpinBench", "leaveBody", "(I)V"⟩ ∈ gw_All := gw_in 680 (by decide +kernel) (by decide +kernel)
set_option maxRecDepth 100000 in
theorem wd_681 : Cond.code ⟨"SpinBench", "leaveBody", "(I)V"⟩ prog_1_method_48_code 2 none ∈ gw_All := gw_in 681 rfl rfl
theorem wd_682 : Cond.methodLink "SpinBench$Cycled" 19 ⟨"SpinBench$Pulse", "cost", "(LSpinBench;)I"⟩ ∈ gw_All := gw_in 682 (by decide +kernel) (by decide +kernel)
theorem wd_683 : Cond.instanceMethod ⟨"SpinBench$Pulse", "cost", "(LSpinBench;)I"⟩ ∈ gw_All := gw_in 683 (by decide +kernel) (by decide +kernel)
set_option maxRecDepth 100000 in
theorem wd_684 : Cond.code ⟨"SpinBench$Pulse", "cost", "(LSpinBench;)I"⟩ prog_8_method_4_code 2 (some .int) ∈ gw_All := gw_in 684 rfl rfl
theorem wd_686 : Cond.methodLink "SpinBench$Pulse" 29 ⟨"SpinBench$Lead", "cost", "(LSpinBench;)I"⟩ ∈ gw_All := gw_in 686 (by decide +kernel) (by decide +kernel)
theorem wd_687 : Cond.instanceMethod ⟨"SpinBench$Lead", "cost", "(LSpinBench;)I"⟩ ∈ gw_All := gw_in 687 (by decide +kernel) (by decide +kernel)
set_option maxRecDepth 100000 in
theorem wd_688 : Cond.code ⟨"SpinBench$Lead", "cost", "(LSpinBench;)I"⟩ prog_5_method_3_code 2 (some .int) ∈ gw_All := gw_in 688 rfl rfl
theorem wd_690 : Cond.methodLink "SpinBench$Lead" 17 ⟨"SpinBench$Op", "cost", "(LSpinBench;)I"⟩ ∈ gw_All := gw_in 690 (by decide +kernel) (by decide +kernel)
theorem wd_691 : Cond.methodLink "SpinBench$Pulse" 33 ⟨"java/lang/Integer", "bitCount", "(I)I"⟩ ∈ gw_All := gw_in 691 (by decide +kernel) (by decide +kernel)
theorem wd_692 : Cond.methodLink "SpinBench$Cycled" 23 ⟨"SpinBench$Cycled", "mark", "(LSpinBench;)I"⟩ ∈ gw_All := gw_in 692 (by decide +kernel) (by decide +kernel)
theorem wd_693 : Cond.instanceMethod ⟨"SpinBench$Cycled", "mark", "(LSpinBench;)I"⟩ ∈ gw_All := gw_in 693 (by decide +kernel) (by decide +kernel)
theorem wd_694 : Cond.selects "SpinBench$Cycled" ⟨"SpinBench$Cycled", "mark", "(LSpinBench;)I"⟩ ⟨"SpinBench$Cycled", "mark", "(LSpinBench;)I"⟩ ∈ gw_All := gw_in 694 (by decide +kernel) (by decide +kernel)
set_option maxRecDepth 100000 in
theorem wd_695 : Cond.code ⟨"SpinBench$Cycled", "mark", "(LSpinBench;)I"⟩ prog_2_method_4_code 2 (some .int) ∈ gw_All := gw_in 695 rfl rfl
theorem wd_696 : Cond.selects "SpinBench$Delay" ⟨"SpinBench$Op", "cost", "(LSpinBench;)I"⟩ ⟨"SpinBench$Lead", "cost", "(LSpinBench;)I"⟩ ∈ gw_All := gw_in 696 (by decide +kernel) (by decide +kernel)
theorem wd_697 : Cond.selects "SpinBench$End" ⟨"SpinBench$Op", "cost", "(LSpinBench;)I"⟩ ⟨"SpinBench$Op", "cost", "(LSpinBench;)I"⟩ ∈ gw_All := gw_in 697 (by decide +kernel) (by decide +kernel)
theorem wd_698 : Cond.selects "SpinBench$Pulse" ⟨"SpinBench$Op", "cost", "(LSpinBench;)I"⟩ ⟨"SpinBench$Pulse", "cost", "(LSpinBench;)I"⟩ ∈ gw_All := gw_in 698 (by decide +kernel) (by decide +kernel)
theorem wd_699 : Cond.selects "SpinBench$Round" ⟨"SpinBench$Op", "cost", "(LSpinBench;)I"⟩ ⟨"SpinBench$Round", "cost", "(LSpinBench;)I"⟩ ∈ gw_All := gw_in 699 (by decide +kernel) (by decide +kernel)
theorem wd_700 : Cond.instanceMethod ⟨"SpinBench$Round", "cost", "(LSpinBench;)I"⟩ ∈ gw_All := gw_in 700 (by decide +kernel) (by decide +kernel)
set_option maxRecDepth 100000 in
theorem wd_701 : Cond.code ⟨"SpinBench$Round", "cost", "(LSpinBench;)I"⟩ prog_9_method_3_code 2 (some .int) ∈ gw_All := gw_in 701 rfl rfl
theorem wd_703 : Cond.selects "SpinBench$Store" ⟨"SpinBench$Op", "cost", "(LSpinBench;)I"⟩ ⟨"SpinBench$Op", "cost", "(LSpinBench;)I"⟩ ∈ gw_All := gw_in 703 (by decide +kernel) (by decide +kernel)
set_option maxRecDepth 100000 in
theorem wd_704 : Cond.code ⟨"SpinBench$Op", "cost", "(LSpinBench;)I"⟩ prog_7_method_5_code 2 (some .int) ∈ gw_All := gw_in 704 rfl rfl
theorem wd_706 : Cond.methodLink "SpinBench" 249 ⟨"SpinBench$Op", "mark", "(LSpinBench;)I"⟩ ∈ gw_All := gw_in 706 (by decide +kernel) (by decide +kernel)
theorem wd_707 : Cond.instanceMethod ⟨"SpinBench$Op", "mark", "(LSpinBench;)I"⟩ ∈ gw_All := gw_in 707 (by decide +kernel) (by decide +kernel)
theorem wd_708 : Cond.sameMethod "SpinBench$Op" "SpinBench$Op" "mark" "(LSpinBench;)I" ∈ gw_All := gw_in 708 (by decide +kernel) (by decide +kernel)
theorem wd_709 : Cond.selects "SpinBench$Cycled" ⟨"SpinBench$Op", "mark", "(LSpinBench;)I"⟩ ⟨"SpinBench$Cycled", "mark", "(LSpinBench;)I"⟩ ∈ gw_All := gw_in 709 (by decide +kernel) (by decide +kernel)
theorem wd_710 : Cond.selects "SpinBench$Delay" ⟨"SpinBench$Op", "mark", "(LSpinBench;)I"⟩ ⟨"SpinBench$Delay", "mark", "(LSpinBench;)I"⟩ ∈ gw_All := gw_in 710 (by decide +kernel) (by decide +kernel)
theorem wd_711 : Cond.instanceMethod ⟨"SpinBench$Delay", "mark", "(LSpinBench;)I"⟩ ∈ gw_All := gw_in 711 (by decide +kernel) (by decide +kernel)
set_option maxRecDepth 100000 in
theorem wd_712 : Cond.code ⟨"SpinBench$Delay", "mark", "(LSpinBench;)I"⟩ prog_3_method_3_code 2 (some .int) ∈ gw_All := gw_in 712 rfl rfl
theorem wd_714 : Cond.methodLink "SpinBench$Delay" 25 ⟨"SpinBench$Lead", "mark", "(LSpinBench;)I"⟩ ∈ gw_All := gw_in 714 (by decide +kernel) (by decide +kernel)
theorem wd_715 : Cond.instanceMethod ⟨"SpinBench$Lead", "mark", "(LSpinBench;)I"⟩ ∈ gw_All := gw_in 715 (by decide +kernel) (by decide +kernel)
set_option maxRecDepth 100000 in
theorem wd_716 : Cond.code ⟨"SpinBench$Lead", "mark", "(LSpinBench;)I"⟩ prog_5_method_4_code 3 (some .int) ∈ gw_All := gw_in 716 rfl rfl
theorem wd_717 : Cond.methodLink "SpinBench$Lead" 21 ⟨"SpinBench$Op", "mark", "(LSpinBench;)I"⟩ ∈ gw_All := gw_in 717 (by decide +kernel) (by decide +kernel)
theorem wd_718 : Cond.methodLink "SpinBench$Lead" 24 ⟨"SpinBench$Lead", "cost", "(LSpinBench;)I"⟩ ∈ gw_All := gw_in 718 (by decide +kernel) (by decide +kernel)
theorem wd_719 : Cond.selects "SpinBench$End" ⟨"SpinBench$Op", "mark", "(LSpinBench;)I"⟩ ⟨"SpinBench$Op", "mark", "(LSpinBench;)I"⟩ ∈ gw_All := gw_in 719 (by decide +kernel) (by decide +kernel)
theorem wd_720 : Cond.selects "SpinBench$Pulse" ⟨"SpinBench$Op", "mark", "(LSpinBench;)I"⟩ ⟨"SpinBench$Lead", "mark", "(LSpinBench;)I"⟩ ∈ gw_All := gw_in 720 (by decide +kernel) (by decide +kernel)
theorem wd_721 : Cond.selects "SpinBench$Round" ⟨"SpinBench$Op", "mark", "(LSpinBench;)I"⟩ ⟨"SpinBench$Op", "mark", "(LSpinBench;)I"⟩ ∈ gw_All := gw_in 721 (by decide +kernel) (by decide +kernel)
theorem wd_722 : Cond.selects "SpinBench$Store" ⟨"SpinBench$Op", "mark", "(LSpinBench;)I"⟩ ⟨"SpinBench$Store", "mark", "(LSpinBench;)I"⟩ ∈ gw_All := gw_in 722 (by decide +kernel) (by decide +kernel)
theorem wd_723 : Cond.instanceMethod ⟨"SpinBench$Store", "mark", "(LSpinBench;)I"⟩ ∈ gw_All := gw_in 723 (by decide +kernel) (by decide +kernel)
set_option maxRecDepth 100000 in
theorem wd_724 : Cond.code ⟨"SpinBench$Store", "mark", "(LSpinBench;)I"⟩ prog_10_method_3_code 2 (some .int) ∈ gw_All := gw_in 724 rfl rfl
theorem wd_726 : Cond.methodLink "SpinBench$Store" 22 ⟨"SpinBench$Op", "mark", "(LSpinBench;)I"⟩ ∈ gw_All := gw_in 726 (by decide +kernel) (by decide +kernel)
set_option maxRecDepth 100000 in
theorem wd_727 : Cond.code ⟨"SpinBench$Op", "mark", "(LSpinBench;)I"⟩ prog_7_method_6_code 2 (some .int) ∈ gw_All := gw_in 727 rfl rfl
theorem wd_728 : Cond.methodLink "SpinBenchLaw" 137 ⟨"SpinBench", "trace", "(I)I"⟩ ∈ gw_All := gw_in 728 (by decide +kernel) (by decide +kernel)
theorem wd_729 : Cond.instanceMethod ⟨"SpinBench", "trace", "(I)I"⟩ ∈ gw_All := gw_in 729 (by decide +kernel) (by decide +kernel)
theorem wd_730 : Cond.selects "SpinBench" ⟨"SpinBench", "trace", "(I)I"⟩ ⟨"SpinBench", "trace", "(I)I"⟩ ∈ gw_All := gw_in 730 (by decide +kernel) (by decide +kernel)
set_option maxRecDepth 100000 in
theorem wd_731 : Cond.code ⟨"SpinBench", "trace", "(I)I"⟩ prog_1_method_29_code 2 (some .int) ∈ gw_All := gw_in 731 rfl rfl
theorem wd_732 : Cond.methodLink "SpinBenchLaw" 141 ⟨"SpinBench", "run", "()I"⟩ ∈ gw_All := gw_in 732 (by decide +kernel) (by decide +kernel)
theorem wd_733 : Cond.instanceMethod ⟨"SpinBench", "run", "()I"⟩ ∈ gw_All := gw_in 733 (by decide +kernel) (by decide +kernel)
theorem wd_734 : Cond.selects "SpinBench" ⟨"SpinBench", "run", "()I"⟩ ⟨"SpinBench", "run", "()I"⟩ ∈ gw_All := gw_in 734 (by decide +kernel) (by decide +kernel)
set_option maxRecDepth 100000 in
theorem wd_735 : Cond.code ⟨"SpinBench", "run", "()I"⟩ prog_1_method_30_code 4 (some .int) ∈ gw_All := gw_in 735 rfl rfl
theorem wd_736 : Cond.methodLink "SpinBench" 252 ⟨"SpinBench", "takeAll", "([LSpinBench$Sum;[LSpinBench$Sum;)V"⟩ ∈ gw_All := gw_in 736 (by decide +kernel) (by decide +kernel)
theorem wd_737 : Cond.static ⟨"SpinBench", "takeAll", "([LSpinBench$Sum;[LSpinBench$Sum;)V"⟩ ∈ gw_All := gw_in 737 (by decide +kernel) (by decide +kernel)
set_option maxRecDepth 100000 in
theorem wd_738 : Cond.code ⟨"SpinBench", "takeAll", "([LSpinBench$Sum;[LSpinBench$Sum;)V"⟩ prog_1_method_47_code 3 none ∈ gw_All := gw_in 738 rfl rfl
theorem wd_739 : Cond.methodLink "SpinBench" 265 ⟨"SpinBench$Op", "perform", "(LSpinBench;)I"⟩ ∈ gw_All := gw_in 739 (by decide +kernel) (by decide +kernel)
theorem wd_741 : Cond.sameMethod "SpinBench$Op" "SpinBench$Op" "perform" "(LSpinBench;)I" ∈ gw_All := gw_in 741 (by decide +kernel) (by decide +kernel)
theorem wd_742 : Cond.selects "SpinBench$Cycled" ⟨"SpinBench$Op", "perform", "(LSpinBench;)I"⟩ ⟨"SpinBench$Cycled", "perform", "(LSpinBench;)I"⟩ ∈ gw_All := gw_in 742 (by decide +kernel) (by decide +kernel)
theorem wd_743 : Cond.instanceMethod ⟨"SpinBench$Cycled", "perform", "(LSpinBench;)I"⟩ ∈ gw_All := gw_in 743 (by decide +kernel) (by decide +kernel)
set_option maxRecDepth 100000 in
theorem wd_744 : Cond.code ⟨"SpinBench$Cycled", "perform", "(LSpinBench;)I"⟩ prog_2_method_5_code 4 (some .int) ∈ gw_All := gw_in 744 rfl rfl
theorem wd_747 : Cond.methodLink "SpinBench$Cycled" 56 ⟨"SpinBench$Cycled", "turnSpins", "(LSpinBench;I)I"⟩ ∈ gw_All := gw_in 747 (by decide +kernel) (by decide +kernel)
theorem wd_748 : Cond.sameMethod "SpinBench$Cycled" "SpinBench$Pulse" "turnSpins" "(LSpinBench;I)I" ∈ gw_All := gw_in 748 (by decide +kernel) (by decide +kernel)
theorem wd_750 : Cond.selects "SpinBench$Cycled" ⟨"SpinBench$Cycled", "turnSpins", "(LSpinBench;I)I"⟩ ⟨"SpinBench$Pulse", "turnSpins", "(LSpinBench;I)I"⟩ ∈ gw_All := gw_in 750 (by decide +kernel) (by decide +kernel)
theorem wd_751 : Cond.instanceMethod ⟨"SpinBench$Pulse", "turnSpins", "(LSpinBench;I)I"⟩ ∈ gw_All := gw_in 751 (by decide +kernel) (by decide +kernel)
set_option maxRecDepth 100000 in
theorem wd_752 : Cond.code ⟨"SpinBench$Pulse", "turnSpins", "(LSpinBench;I)I"⟩ prog_8_method_6_code 6 (some .int) ∈ gw_All := gw_in 752 rfl rfl
theorem wd_754 : Cond.constant "SpinBench$Pulse" 47 (-1000003) ∈ gw_All := gw_in 754 (by decide +kernel) (by decide +kernel)
theorem wd_755 : Cond.selects "SpinBench$Delay" ⟨"SpinBench$Op", "perform", "(LSpinBench;)I"⟩ ⟨"SpinBench$Delay", "perform", "(LSpinBench;)I"⟩ ∈ gw_All := gw_in 755 (by decide +kernel) (by decide +kernel)
theorem wd_756 : Cond.instanceMethod ⟨"SpinBench$Delay", "perform", "(LSpinBench;)I"⟩ ∈ gw_All := gw_in 756 (by decide +kernel) (by decide +kernel)
set_option maxRecDepth 100000 in
theorem wd_757 : Cond.code ⟨"SpinBench$Delay", "perform", "(LSpinBench;)I"⟩ prog_3_method_4_code 2 (some .int) ∈ gw_All := gw_in 757 rfl rfl
theorem wd_759 : Cond.constant "SpinBench$Delay" 33 (-1000003) ∈ gw_All := gw_in 759 (by decide +kernel) (by decide +kernel)
theorem wd_760 : Cond.selects "SpinBench$End" ⟨"SpinBench$Op", "perform", "(LSpinBench;)I"⟩ ⟨"SpinBench$End", "perform", "(LSpinBench;)I"⟩ ∈ gw_All := gw_in 760 (by decide +kernel) (by decide +kernel)
theorem wd_761 : Cond.instanceMethod ⟨"SpinBench$End", "perform", "(LSpinBench;)I"⟩ ∈ gw_All := gw_in 761 (by decide +kernel) (by decide +kernel)
set_option maxRecDepth 100000 in
theorem wd_762 : Cond.code ⟨"SpinBench$End", "perform", "(LSpinBench;)I"⟩ prog_4_method_3_code 2 (some .int) ∈ gw_All := gw_in 762 rfl rfl
theorem wd_763 : Cond.selects "SpinBench$Pulse" ⟨"SpinBench$Op", "perform", "(LSpinBench;)I"⟩ ⟨"SpinBench$Pulse", "perform", "(LSpinBench;)I"⟩ ∈ gw_All := gw_in 763 (by decide +kernel) (by decide +kernel)
theorem wd_764 : Cond.instanceMethod ⟨"SpinBench$Pulse", "perform", "(LSpinBench;)I"⟩ ∈ gw_All := gw_in 764 (by decide +kernel) (by decide +kernel)
set_option maxRecDepth 100000 in
theorem wd_765 : Cond.code ⟨"SpinBench$Pulse", "perform", "(LSpinBench;)I"⟩ prog_8_method_5_code 2 (some .int) ∈ gw_All := gw_in 765 rfl rfl
theorem wd_766 : Cond.methodLink "SpinBench$Pulse" 39 ⟨"SpinBench$Pulse", "turnSpins", "(LSpinBench;I)I"⟩ ∈ gw_All := gw_in 766 (by decide +kernel) (by decide +kernel)
theorem wd_767 : Cond.selects "SpinBench$Round" ⟨"SpinBench$Op", "perform", "(LSpinBench;)I"⟩ ⟨"SpinBench$Round", "perform", "(LSpinBench;)I"⟩ ∈ gw_All := gw_in 767 (by decide +kernel) (by decide +kernel)
theorem wd_768 : Cond.instanceMethod ⟨"SpinBench$Round", "perform", "(LSpinBench;)I"⟩ ∈ gw_All := gw_in 768 (by decide +kernel) (by decide +kernel)
set_option maxRecDepth 100000 in
theorem wd_769 : Cond.code ⟨"SpinBench$Round", "perform", "(LSpinBench;)I"⟩ prog_9_method_4_code 2 (some .int) ∈ gw_All := gw_in 769 rfl rfl
theorem wd_770 : Cond.selects "SpinBench$Store" ⟨"SpinBench$Op", "perform", "(LSpinBench;)I"⟩ ⟨"SpinBench$Store", "perform", "(LSpinBench;)I"⟩ ∈ gw_All := gw_in 770 (by decide +kernel) (by decide +kernel)
theorem wd_771 : Cond.instanceMethod ⟨"SpinBench$Store", "perform", "(LSpinBench;)I"⟩ ∈ gw_All := gw_in 771 (by decide +kernel) (by decide +kernel)
set_option maxRecDepth 100000 in
theorem wd_772 : Cond.code ⟨"SpinBench$Store", "perform", "(LSpinBench;)I"⟩ prog_10_method_4_code 3 (some .int) ∈ gw_All := gw_in 772 rfl rfl
theorem wd_775 : Cond.constant "SpinBench$Store" 44 (-1000003) ∈ gw_All := gw_in 775 (by decide +kernel) (by decide +kernel)
theorem wd_776 : Cond.methodLink "SpinBenchLaw" 145 ⟨"SpinBench", "told", "(I)I"⟩ ∈ gw_All := gw_in 776 (by decide +kernel) (by decide +kernel)
theorem wd_777 : Cond.instanceMethod ⟨"SpinBench", "told", "(I)I"⟩ ∈ gw_All := gw_in 777 (by decide +kernel) (by decide +kernel)
theorem wd_778 : Cond.selects "SpinBench" ⟨"SpinBench", "told", "(I)I"⟩ ⟨"SpinBench", "told", "(I)I"⟩ ∈ gw_All := gw_in 778 (by decide +kernel) (by decide +kernel)
set_option maxRecDepth 100000 in
theorem wd_779 : Cond.code ⟨"SpinBench", "told", "(I)I"⟩ prog_1_method_31_code 2 (some .int) ∈ gw_All := gw_in 779 rfl rfl
theorem wd_780 : Cond.methodLink "SpinBenchLaw" 149 ⟨"SpinBench", "count", "(I)I"⟩ ∈ gw_All := gw_in 780 (by decide +kernel) (by decide +kernel)
theorem wd_781 : Cond.instanceMethod ⟨"SpinBench", "count", "(I)I"⟩ ∈ gw_All := gw_in 781 (by decide +kernel) (by decide +kernel)
theorem wd_782 : Cond.selects "SpinBench" ⟨"SpinBench", "count", "(I)I"⟩ ⟨"SpinBench", "count", "(I)I"⟩ ∈ gw_All := gw_in 782 (by decide +kernel) (by decide +kernel)
set_option maxRecDepth 100000 in
theorem wd_783 : Cond.code ⟨"SpinBench", "count", "(I)I"⟩ prog_1_method_32_code 2 (some .int) ∈ gw_All := gw_in 783 rfl rfl
theorem wd_784 : Cond.methodLink "SpinBench" 268 ⟨"SpinBench", "presentTables", "()I"⟩ ∈ gw_All := gw_in 784 (by decide +kernel) (by decide +kernel)
theorem wd_786 : Cond.instanceMethod ⟨"SpinBench", "presentTables", "()I"⟩ ∈ gw_All := gw_in 786 (by decide +kernel) (by decide +kernel)
set_option maxRecDepth 100000 in
theorem wd_787 : Cond.code ⟨"SpinBench", "presentTables", "()I"⟩ prog_1_method_44_code 3 (some .int) ∈ gw_All := gw_in 787 rfl rfl
theorem wd_788 : Cond.methodLink "SpinBench" 271 ⟨"SpinBench", "allTerms", "()I"⟩ ∈ gw_All := gw_in 788 (by decide +kernel) (by decide +kernel)
theorem wd_790 : Cond.instanceMethod ⟨"SpinBench", "allTerms", "()I"⟩ ∈ gw_All := gw_in 790 (by decide +kernel) (by decide +kernel)
set_option maxRecDepth 100000 in
theorem wd_791 : Cond.code ⟨"SpinBench", "allTerms", "()I"⟩ prog_1_method_46_code 3 (some .int) ∈ gw_All := gw_in 791 rfl rfl
theorem wd_792 : Cond.methodLink "SpinBenchLaw" 153 ⟨"SpinBench", "status", "()I"⟩ ∈ gw_All := gw_in 792 (by decide +kernel) (by decide +kernel)
theorem wd_793 : Cond.instanceMethod ⟨"SpinBench", "status", "()I"⟩ ∈ gw_All := gw_in 793 (by decide +kernel) (by decide +kernel)
theorem wd_794 : Cond.selects "SpinBench" ⟨"SpinBench", "status", "()I"⟩ ⟨"SpinBench", "status", "()I"⟩ ∈ gw_All := gw_in 794 (by decide +kernel) (by decide +kernel)
set_option maxRecDepth 100000 in
theorem wd_795 : Cond.code ⟨"SpinBench", "status", "()I"⟩ prog_1_method_33_code 1 (some .int) ∈ gw_All := gw_in 795 rfl rfl
theorem wd_796 : Cond.methodLink "SpinBenchLaw" 9 ⟨"SpinBenchLaw", "cell", "([II)I"⟩ ∈ gw_All := gw_in 796 (by decide +kernel) (by decide +kernel)
theorem wd_797 : Cond.static ⟨"SpinBenchLaw", "cell", "([II)I"⟩ ∈ gw_All := gw_in 797 (by decide +kernel) (by decide +kernel)
set_option maxRecDepth 100000 in
theorem wd_798 : Cond.code ⟨"SpinBenchLaw", "cell", "([II)I"⟩ method_2_code 2 (some .int) ∈ gw_All := gw_in 798 rfl rfl
theorem wd_799 : Cond.classLink "SpinBenchLaw" 18 "SpinBenchModel" ∈ gw_All := gw_in 799 (by decide +kernel) (by decide +kernel)
theorem wd_800 : Cond.instantiable "SpinBenchModel" 28 ∈ gw_All := gw_in 800 (by decide +kernel) (by decide +kernel)
theorem wd_801 : Cond.methodLink "SpinBenchLaw" 20 ⟨"SpinBenchModel", "<init>", "(I)V"⟩ ∈ gw_All := gw_in 801 (by decide +kernel) (by decide +kernel)
theorem wd_802 : Cond.instanceMethod ⟨"SpinBenchModel", "<init>", "(I)V"⟩ ∈ gw_All := gw_in 802 (by decide +kernel) (by decide +kernel)
set_option maxRecDepth 100000 in
theorem wd_803 : Cond.code ⟨"SpinBenchModel", "<init>", "(I)V"⟩ prog_14_method_1_code 2 none ∈ gw_All := gw_in 803 rfl rfl
theorem wd_804 : Cond.methodLink "SpinBenchModel" 1 ⟨"java/lang/Object", "<init>", "()V"⟩ ∈ gw_All := gw_in 804 (by decide +kernel) (by decide +kernel)
theorem wd_805 : Cond.constant "SpinBenchModel" 56 (-1000000) ∈ gw_All := gw_in 805 (by decide +kernel) (by decide +kernel)
theorem wd_806 : Cond.fieldLink "SpinBenchModel" 67 "SpinBenchModel" "spins" "I" ∈ gw_All := gw_in 806 (by decide +kernel) (by decide +kernel)
theorem wd_807 : Cond.fieldLink "SpinBenchModel" 70 "SpinBenchModel" "products" "I" ∈ gw_All := gw_in 807 (by decide +kernel) (by decide +kernel)
theorem wd_808 : Cond.fieldLink "SpinBenchModel" 7 "SpinBenchModel" "lane" "[I" ∈ gw_All := gw_in 808 (by decide +kernel) (by decide +kernel)
theorem wd_809 : Cond.fieldLink "SpinBenchModel" 13 "SpinBenchModel" "size" "[I" ∈ gw_All := gw_in 809 (by decide +kernel) (by decide +kernel)
theorem wd_810 : Cond.fieldLink "SpinBenchModel" 16 "SpinBenchModel" "item" "[I" ∈ gw_All := gw_in 810 (by decide +kernel) (by decide +kernel)
theorem wd_811 : Cond.fieldLink "SpinBenchModel" 19 "SpinBenchModel" "moving" "[I" ∈ gw_All := gw_in 811 (by decide +kernel) (by decide +kernel)
theorem wd_812 : Cond.fieldLink "SpinBenchModel" 22 "SpinBenchModel" "many" "[I" ∈ gw_All := gw_in 812 (by decide +kernel) (by decide +kernel)
theorem wd_813 : Cond.fieldLink "SpinBenchModel" 25 "SpinBenchModel" "key" "[I" ∈ gw_All := gw_in 813 (by decide +kernel) (by decide +kernel)
theorem wd_814 : Cond.fieldLink "SpinBenchModel" 28 "SpinBenchModel" "number" "[J" ∈ gw_All := gw_in 814 (by decide +kernel) (by decide +kernel)
theorem wd_815 : Cond.fieldLink "SpinBenchModel" 97 "SpinBenchModel" "made" "I" ∈ gw_All := gw_in 815 (by decide +kernel) (by decide +kernel)
theorem wd_816 : Cond.fieldLink "SpinBenchModel" 32 "SpinBenchModel" "madeKey" "[I" ∈ gw_All := gw_in 816 (by decide +kernel) (by decide +kernel)
theorem wd_817 : Cond.fieldLink "SpinBenchModel" 35 "SpinBenchModel" "madeNumber" "[J" ∈ gw_All := gw_in 817 (by decide +kernel) (by decide +kernel)
theorem wd_818 : Cond.fieldLink "SpinBenchModel" 193 "SpinBenchModel" "ops" "I" ∈ gw_All := gw_in 818 (by decide +kernel) (by decide +kernel)
theorem wd_819 : Cond.fieldLink "SpinBenchModel" 38 "SpinBenchModel" "kind" "[I" ∈ gw_All := gw_in 819 (by decide +kernel) (by decide +kernel)
theorem wd_820 : Cond.fieldLink "SpinBenchModel" 41 "SpinBenchModel" "set" "[I" ∈ gw_All := gw_in 820 (by decide +kernel) (by decide +kernel)
theorem wd_821 : Cond.fieldLink "SpinBenchModel" 44 "SpinBenchModel" "phase" "[I" ∈ gw_All := gw_in 821 (by decide +kernel) (by decide +kernel)
theorem wd_822 : Cond.fieldLink "SpinBenchModel" 47 "SpinBenchModel" "turns" "[I" ∈ gw_All := gw_in 822 (by decide +kernel) (by decide +kernel)
theorem wd_823 : Cond.fieldLink "SpinBenchModel" 50 "SpinBenchModel" "table" "[I" ∈ gw_All := gw_in 823 (by decide +kernel) (by decide +kernel)
theorem wd_824 : Cond.fieldLink "SpinBenchModel" 205 "SpinBenchModel" "notEnded" "I" ∈ gw_All := gw_in 824 (by decide +kernel) (by decide +kernel)
theorem wd_825 : Cond.fieldLink "SpinBenchModel" 73 "SpinBenchModel" "status" "I" ∈ gw_All := gw_in 825 (by decide +kernel) (by decide +kernel)
theorem wd_826 : Cond.fieldLink "SpinBenchModel" 53 "SpinBenchModel" "trace" "[I" ∈ gw_All := gw_in 826 (by decide +kernel) (by decide +kernel)
theorem wd_827 : Cond.fieldLink "SpinBenchModel" 212 "SpinBenchModel" "traced" "I" ∈ gw_All := gw_in 827 (by decide +kernel) (by decide +kernel)
theorem wd_828 : Cond.fieldLink "SpinBenchModel" 234 "SpinBenchModel" "steps" "I" ∈ gw_All := gw_in 828 (by decide +kernel) (by decide +kernel)
theorem wd_829 : Cond.fieldLink "SpinBenchModel" 57 "SpinBenchModel" "latest" "I" ∈ gw_All := gw_in 829 (by decide +kernel) (by decide +kernel)
theorem wd_830 : Cond.fieldLink "SpinBenchModel" 145 "SpinBenchModel" "sign" "I" ∈ gw_All := gw_in 830 (by decide +kernel) (by decide +kernel)
theorem wd_831 : Cond.fieldLink "SpinBenchModel" 231 "SpinBenchModel" "rounds" "I" ∈ gw_All := gw_in 831 (by decide +kernel) (by decide +kernel)
theorem wd_832 : Cond.fieldLink "SpinBenchModel" 61 "SpinBenchModel" "roundAt" "[I" ∈ gw_All := gw_in 832 (by decide +kernel) (by decide +kernel)
theorem wd_833 : Cond.fieldLink "SpinBenchModel" 64 "SpinBenchModel" "roundDone" "[I" ∈ gw_All := gw_in 833 (by decide +kernel) (by decide +kernel)
theorem wd_890 : Cond.superclass "SpinBenchModel" "java/lang/Object" ∈ gw_All := gw_in 890 (by decide +kernel) (by decide +kernel)
theorem wd_891 : Cond.methodLink "SpinBenchLaw" 25 ⟨"SpinBenchModel", "table", "(III)I"⟩ ∈ gw_All := gw_in 891 (by decide +kernel) (by decide +kernel)
theorem wd_892 : Cond.instanceMethod ⟨"SpinBenchModel", "table", "(III)I"⟩ ∈ gw_All := gw_in 892 (by decide +kernel) (by decide +kernel)
theorem wd_893 : Cond.selects "SpinBenchModel" ⟨"SpinBenchModel", "table", "(III)I"⟩ ⟨"SpinBenchModel", "table", "(III)I"⟩ ∈ gw_All := gw_in 893 (by decide +kernel) (by decide +kernel)
set_option maxRecDepth 100000 in
theorem wd_894 : Cond.code ⟨"SpinBenchModel", "table", "(III)I"⟩ prog_14_method_6_code 5 (some .int) ∈ gw_All := gw_in 894 rfl rfl
theorem wd_895 : Cond.methodLink "SpinBenchModel" 83 ⟨"SpinBenchModel", "isTable", "(I)Z"⟩ ∈ gw_All := gw_in 895 (by decide +kernel) (by decide +kernel)
theorem wd_896 : Cond.static ⟨"SpinBenchModel", "isTable", "(I)Z"⟩ ∈ gw_All := gw_in 896 (by decide +kernel) (by decide +kernel)
set_option maxRecDepth 100000 in
theorem wd_897 : Cond.code ⟨"SpinBenchModel", "isTable", "(I)Z"⟩ prog_14_method_5_code 1 (some .boolean) ∈ gw_All := gw_in 897 rfl rfl
theorem wd_898 : Cond.constantLong "SpinBenchModel" 77 7 ∈ gw_All := gw_in 898 (by decide +kernel) (by decide +kernel)
theorem wd_899 : Cond.methodLink "SpinBenchModel" 79 ⟨"SpinBenchModel", "in", "(JJJ)Z"⟩ ∈ gw_All := gw_in 899 (by decide +kernel) (by decide +kernel)
theorem wd_900 : Cond.static ⟨"SpinBenchModel", "in", "(JJJ)Z"⟩ ∈ gw_All := gw_in 900 (by decide +kernel) (by decide +kernel)
set_option maxRecDepth 100000 in
theorem wd_901 : Cond.code ⟨"SpinBenchModel", "in", "(JJJ)Z"⟩ prog_14_method_2_code 6 (some .boolean) ∈ gw_All := gw_in 901 rfl rfl
theorem wd_902 : Cond.constantLong "SpinBenchModel" 87 2 ∈ gw_All := gw_in 902 (by decide +kernel) (by decide +kernel)
theorem wd_903 : Cond.constant "SpinBenchModel" 89 (-1000001) ∈ gw_All := gw_in 903 (by decide +kernel) (by decide +kernel)
theorem wd_904 : Cond.methodLink "SpinBenchModel" 90 ⟨"SpinBenchModel", "finds", "(I)I"⟩ ∈ gw_All := gw_in 904 (by decide +kernel) (by decide +kernel)
theorem wd_906 : Cond.instanceMethod ⟨"SpinBenchModel", "finds", "(I)I"⟩ ∈ gw_All := gw_in 906 (by decide +kernel) (by decide +kernel)
set_option maxRecDepth 100000 in
theorem wd_907 : Cond.code ⟨"SpinBenchModel", "finds", "(I)I"⟩ prog_14_method_3_code 2 (some .int) ∈ gw_All := gw_in 907 rfl rfl
theorem wd_908 : Cond.constant "SpinBenchModel" 76 (-1000010) ∈ gw_All := gw_in 908 (by decide +kernel) (by decide +kernel)
theorem wd_909 : Cond.methodLink "SpinBenchModel" 94 ⟨"SpinBenchModel", "well", "(I)I"⟩ ∈ gw_All := gw_in 909 (by decide +kernel) (by decide +kernel)
theorem wd_911 : Cond.instanceMethod ⟨"SpinBenchModel", "well", "(I)I"⟩ ∈ gw_All := gw_in 911 (by decide +kernel) (by decide +kernel)
set_option maxRecDepth 100000 in
theorem wd_912 : Cond.code ⟨"SpinBenchModel", "well", "(I)I"⟩ prog_14_method_4_code 2 (some .int) ∈ gw_All := gw_in 912 rfl rfl
theorem wd_913 : Cond.methodLink "SpinBenchLaw" 29 ⟨"SpinBenchModel", "set", "(III)I"⟩ ∈ gw_All := gw_in 913 (by decide +kernel) (by decide +kernel)
theorem wd_914 : Cond.instanceMethod ⟨"SpinBenchModel", "set", "(III)I"⟩ ∈ gw_All := gw_in 914 (by decide +kernel) (by decide +kernel)
theorem wd_915 : Cond.selects "SpinBenchModel" ⟨"SpinBenchModel", "set", "(III)I"⟩ ⟨"SpinBenchModel", "set", "(III)I"⟩ ∈ gw_All := gw_in 915 (by decide +kernel) (by decide +kernel)
set_option maxRecDepth 100000 in
theorem wd_916 : Cond.code ⟨"SpinBenchModel", "set", "(III)I"⟩ prog_14_method_7_code 5 (some .int) ∈ gw_All := gw_in 916 rfl rfl
theorem wd_917 : Cond.methodLink "SpinBenchLaw" 34 ⟨"SpinBenchModel", "copy", "(IIIII)I"⟩ ∈ gw_All := gw_in 917 (by decide +kernel) (by decide +kernel)
theorem wd_918 : Cond.instanceMethod ⟨"SpinBenchModel", "copy", "(IIIII)I"⟩ ∈ gw_All := gw_in 918 (by decide +kernel) (by decide +kernel)
theorem wd_919 : Cond.selects "SpinBenchModel" ⟨"SpinBenchModel", "copy", "(IIIII)I"⟩ ⟨"SpinBenchModel", "copy", "(IIIII)I"⟩ ∈ gw_All := gw_in 919 (by decide +kernel) (by decide +kernel)
set_option maxRecDepth 100000 in
theorem wd_920 : Cond.code ⟨"SpinBenchModel", "copy", "(IIIII)I"⟩ prog_14_method_8_code 7 (some .int) ∈ gw_All := gw_in 920 rfl rfl
theorem wd_921 : Cond.methodLink "SpinBenchLaw" 39 ⟨"SpinBenchModel", "drop", "(I)I"⟩ ∈ gw_All := gw_in 921 (by decide +kernel) (by decide +kernel)
theorem wd_922 : Cond.instanceMethod ⟨"SpinBenchModel", "drop", "(I)I"⟩ ∈ gw_All := gw_in 922 (by decide +kernel) (by decide +kernel)
theorem wd_923 : Cond.selects "SpinBenchModel" ⟨"SpinBenchModel", "drop", "(I)I"⟩ ⟨"SpinBenchModel", "drop", "(I)I"⟩ ∈ gw_All := gw_in 923 (by decide +kernel) (by decide +kernel)
set_option maxRecDepth 100000 in
theorem wd_924 : Cond.code ⟨"SpinBenchModel", "drop", "(I)I"⟩ prog_14_method_9_code 2 (some .int) ∈ gw_All := gw_in 924 rfl rfl
theorem wd_925 : Cond.methodLink "SpinBenchLaw" 43 ⟨"SpinBenchModel", "clear", "(I)I"⟩ ∈ gw_All := gw_in 925 (by decide +kernel) (by decide +kernel)
theorem wd_926 : Cond.instanceMethod ⟨"SpinBenchModel", "clear", "(I)I"⟩ ∈ gw_All := gw_in 926 (by decide +kernel) (by decide +kernel)
theorem wd_927 : Cond.selects "SpinBenchModel" ⟨"SpinBenchModel", "clear", "(I)I"⟩ ⟨"SpinBenchModel", "clear", "(I)I"⟩ ∈ gw_All := gw_in 927 (by decide +kernel) (by decide +kernel)
set_option maxRecDepth 100000 in
theorem wd_928 : Cond.code ⟨"SpinBenchModel", "clear", "(I)I"⟩ prog_14_method_23_code 3 (some .int) ∈ gw_All := gw_in 928 rfl rfl
theorem wd_929 : Cond.methodLink "SpinBenchModel" 118 ⟨"SpinBenchModel", "isShelf", "(I)Z"⟩ ∈ gw_All := gw_in 929 (by decide +kernel) (by decide +kernel)
theorem wd_930 : Cond.static ⟨"SpinBenchModel", "isShelf", "(I)Z"⟩ ∈ gw_All := gw_in 930 (by decide +kernel) (by decide +kernel)
set_option maxRecDepth 100000 in
theorem wd_931 : Cond.code ⟨"SpinBenchModel", "isShelf", "(I)Z"⟩ prog_14_method_17_code 1 (some .boolean) ∈ gw_All := gw_in 931 rfl rfl
theorem wd_932 : Cond.constantLong "SpinBenchModel" 100 (-1) ∈ gw_All := gw_in 932 (by decide +kernel) (by decide +kernel)
theorem wd_933 : Cond.methodLink "SpinBenchModel" 121 ⟨"SpinBenchModel", "placeOf", "(I)I"⟩ ∈ gw_All := gw_in 933 (by decide +kernel) (by decide +kernel)
theorem wd_934 : Cond.static ⟨"SpinBenchModel", "placeOf", "(I)I"⟩ ∈ gw_All := gw_in 934 (by decide +kernel) (by decide +kernel)
set_option maxRecDepth 100000 in
theorem wd_935 : Cond.code ⟨"SpinBenchModel", "placeOf", "(I)I"⟩ prog_14_method_16_code 1 (some .int) ∈ gw_All := gw_in 935 rfl rfl
theorem wd_936 : Cond.methodLink "SpinBenchLaw" 47 ⟨"SpinBenchModel", "add", "(III)I"⟩ ∈ gw_All := gw_in 936 (by decide +kernel) (by decide +kernel)
theorem wd_937 : Cond.instanceMethod ⟨"SpinBenchModel", "add", "(III)I"⟩ ∈ gw_All := gw_in 937 (by decide +kernel) (by decide +kernel)
theorem wd_938 : Cond.selects "SpinBenchModel" ⟨"SpinBenchModel", "add", "(III)I"⟩ ⟨"SpinBenchModel", "add", "(III)I"⟩ ∈ gw_All := gw_in 938 (by decide +kernel) (by decide +kernel)
set_option maxRecDepth 100000 in
theorem wd_939 : Cond.code ⟨"SpinBenchModel", "add", "(III)I"⟩ prog_14_method_24_code 4 (some .int) ∈ gw_All := gw_in 939 rfl rfl
theorem wd_940 : Cond.methodLink "SpinBenchModel" 124 ⟨"SpinBenchModel", "isProduct", "(I)Z"⟩ ∈ gw_All := gw_in 940 (by decide +kernel) (by decide +kernel)
theorem wd_942 : Cond.instanceMethod ⟨"SpinBenchModel", "isProduct", "(I)Z"⟩ ∈ gw_All := gw_in 942 (by decide +kernel) (by decide +kernel)
set_option maxRecDepth 100000 in
theorem wd_943 : Cond.code ⟨"SpinBenchModel", "isProduct", "(I)Z"⟩ prog_14_method_18_code 2 (some .boolean) ∈ gw_All := gw_in 943 rfl rfl
theorem wd_944 : Cond.methodLink "SpinBenchModel" 127 ⟨"SpinBenchModel", "putAll", "(IJ)V"⟩ ∈ gw_All := gw_in 944 (by decide +kernel) (by decide +kernel)
theorem wd_946 : Cond.instanceMethod ⟨"SpinBenchModel", "putAll", "(IJ)V"⟩ ∈ gw_All := gw_in 946 (by decide +kernel) (by decide +kernel)
set_option maxRecDepth 100000 in
theorem wd_947 : Cond.code ⟨"SpinBenchModel", "putAll", "(IJ)V"⟩ prog_14_method_20_code 5 none ∈ gw_All := gw_in 947 rfl rfl
theorem wd_948 : Cond.methodLink "SpinBenchModel" 110 ⟨"SpinBenchModel", "put", "(IJ)V"⟩ ∈ gw_All := gw_in 948 (by decide +kernel) (by decide +kernel)
theorem wd_950 : Cond.instanceMethod ⟨"SpinBenchModel", "put", "(IJ)V"⟩ ∈ gw_All := gw_in 950 (by decide +kernel) (by decide +kernel)
set_option maxRecDepth 100000 in
theorem wd_951 : Cond.code ⟨"SpinBenchModel", "put", "(IJ)V"⟩ prog_14_method_15_code 7 none ∈ gw_All := gw_in 951 rfl rfl
theorem wd_952 : Cond.methodLink "SpinBenchModel" 130 ⟨"SpinBenchModel", "kept", "(I)I"⟩ ∈ gw_All := gw_in 952 (by decide +kernel) (by decide +kernel)
theorem wd_954 : Cond.instanceMethod ⟨"SpinBenchModel", "kept", "(I)I"⟩ ∈ gw_All := gw_in 954 (by decide +kernel) (by decide +kernel)
set_option maxRecDepth 100000 in
theorem wd_955 : Cond.code ⟨"SpinBenchModel", "kept", "(I)I"⟩ prog_14_method_22_code 2 (some .int) ∈ gw_All := gw_in 955 rfl rfl
theorem wd_956 : Cond.methodLink "SpinBenchModel" 114 ⟨"SpinBenchModel", "keep", "(I)Z"⟩ ∈ gw_All := gw_in 956 (by decide +kernel) (by decide +kernel)
theorem wd_958 : Cond.instanceMethod ⟨"SpinBenchModel", "keep", "(I)Z"⟩ ∈ gw_All := gw_in 958 (by decide +kernel) (by decide +kernel)
set_option maxRecDepth 100000 in
theorem wd_959 : Cond.code ⟨"SpinBenchModel", "keep", "(I)Z"⟩ prog_14_method_19_code 6 (some .boolean) ∈ gw_All := gw_in 959 rfl rfl
theorem wd_960 : Cond.constantLong "SpinBenchModel" 102 (-1000000000000) ∈ gw_All := gw_in 960 (by decide +kernel) (by decide +kernel)
theorem wd_961 : Cond.constantLong "SpinBenchModel" 104 1000000000000 ∈ gw_All := gw_in 961 (by decide +kernel) (by decide +kernel)
theorem wd_962 : Cond.methodLink "SpinBenchModel" 106 ⟨"SpinBenchModel", "cosine", "(II)I"⟩ ∈ gw_All := gw_in 962 (by decide +kernel) (by decide +kernel)
theorem wd_963 : Cond.static ⟨"SpinBenchModel", "cosine", "(II)I"⟩ ∈ gw_All := gw_in 963 (by decide +kernel) (by decide +kernel)
set_option maxRecDepth 100000 in
theorem wd_964 : Cond.code ⟨"SpinBenchModel", "cosine", "(II)I"⟩ prog_14_method_10_code 2 (some .int) ∈ gw_All := gw_in 964 rfl rfl
theorem wd_965 : Cond.constant "SpinBenchModel" 117 (-1000003) ∈ gw_All := gw_in 965 (by decide +kernel) (by decide +kernel)
theorem wd_966 : Cond.methodLink "SpinBenchLaw" 52 ⟨"SpinBenchModel", "take", "(II)I"⟩ ∈ gw_All := gw_in 966 (by decide +kernel) (by decide +kernel)
theorem wd_967 : Cond.instanceMethod ⟨"SpinBenchModel", "take", "(II)I"⟩ ∈ gw_All := gw_in 967 (by decide +kernel) (by decide +kernel)
theorem wd_968 : Cond.selects "SpinBenchModel" ⟨"SpinBenchModel", "take", "(II)I"⟩ ⟨"SpinBenchModel", "take", "(II)I"⟩ ∈ gw_All := gw_in 968 (by decide +kernel) (by decide +kernel)
set_option maxRecDepth 100000 in
theorem wd_969 : Cond.code ⟨"SpinBenchModel", "take", "(II)I"⟩ prog_14_method_25_code 3 (some .int) ∈ gw_All := gw_in 969 rfl rfl
theorem wd_970 : Cond.methodLink "SpinBenchModel" 133 ⟨"SpinBenchModel", "copySum", "(II)V"⟩ ∈ gw_All := gw_in 970 (by decide +kernel) (by decide +kernel)
theorem wd_972 : Cond.instanceMethod ⟨"SpinBenchModel", "copySum", "(II)V"⟩ ∈ gw_All := gw_in 972 (by decide +kernel) (by decide +kernel)
set_option maxRecDepth 100000 in
theorem wd_973 : Cond.code ⟨"SpinBenchModel", "copySum", "(II)V"⟩ prog_14_method_21_code 4 none ∈ gw_All := gw_in 973 rfl rfl
theorem wd_974 : Cond.methodLink "SpinBenchLaw" 56 ⟨"SpinBenchModel", "join", "(III)I"⟩ ∈ gw_All := gw_in 974 (by decide +kernel) (by decide +kernel)
theorem wd_975 : Cond.instanceMethod ⟨"SpinBenchModel", "join", "(III)I"⟩ ∈ gw_All := gw_in 975 (by decide +kernel) (by decide +kernel)
theorem wd_976 : Cond.selects "SpinBenchModel" ⟨"SpinBenchModel", "join", "(III)I"⟩ ⟨"SpinBenchModel", "join", "(III)I"⟩ ∈ gw_All := gw_in 976 (by decide +kernel) (by decide +kernel)
set_option maxRecDepth 100000 in
theorem wd_977 : Cond.code ⟨"SpinBenchModel", "join", "(III)I"⟩ prog_14_method_26_code 4 (some .int) ∈ gw_All := gw_in 977 rfl rfl
theorem wd_978 : Cond.constantLong "SpinBenchModel" 137 (-3) ∈ gw_All := gw_in 978 (by decide +kernel) (by decide +kernel)
theorem wd_979 : Cond.constantLong "SpinBenchModel" 139 3 ∈ gw_All := gw_in 979 (by decide +kernel) (by decide +kernel)
theorem wd_980 : Cond.methodLink "SpinBenchModel" 141 ⟨"SpinBenchModel", "joined", "(III)Z"⟩ ∈ gw_All := gw_in 980 (by decide +kernel) (by decide +kernel)
theorem wd_982 : Cond.instanceMethod ⟨"SpinBenchModel", "joined", "(III)Z"⟩ ∈ gw_All := gw_in 982 (by decide +kernel) (by decide +kernel)
set_option maxRecDepth 100000 in
theorem wd_983 : Cond.code ⟨"SpinBenchModel", "joined", "(III)Z"⟩ prog_14_method_27_code 4 (some .boolean) ∈ gw_All := gw_in 983 rfl rfl
theorem wd_984 : Cond.methodLink "SpinBenchLaw" 60 ⟨"SpinBenchModel", "quarter", "(II)I"⟩ ∈ gw_All := gw_in 984 (by decide +kernel) (by decide +kernel)
theorem wd_985 : Cond.instanceMethod ⟨"SpinBenchModel", "quarter", "(II)I"⟩ ∈ gw_All := gw_in 985 (by decide +kernel) (by decide +kernel)
theorem wd_986 : Cond.selects "SpinBenchModel" ⟨"SpinBenchModel", "quarter", "(II)I"⟩ ⟨"SpinBenchModel", "quarter", "(II)I"⟩ ∈ gw_All := gw_in 986 (by decide +kernel) (by decide +kernel)
set_option maxRecDepth 100000 in
theorem wd_987 : Cond.code ⟨"SpinBenchModel", "quarter", "(II)I"⟩ prog_14_method_32_code 3 (some .int) ∈ gw_All := gw_in 987 rfl rfl
theorem wd_988 : Cond.methodLink "SpinBenchModel" 168 ⟨"SpinBenchModel", "turnQuarter", "(II)V"⟩ ∈ gw_All := gw_in 988 (by decide +kernel) (by decide +kernel)
theorem wd_990 : Cond.instanceMethod ⟨"SpinBenchModel", "turnQuarter", "(II)V"⟩ ∈ gw_All := gw_in 990 (by decide +kernel) (by decide +kernel)
set_option maxRecDepth 100000 in
theorem wd_991 : Cond.code ⟨"SpinBenchModel", "turnQuarter", "(II)V"⟩ prog_14_method_30_code 8 none ∈ gw_All := gw_in 991 rfl rfl
theorem wd_992 : Cond.methodLink "SpinBenchModel" 148 ⟨"SpinBenchModel", "productOf", "(I)I"⟩ ∈ gw_All := gw_in 992 (by decide +kernel) (by decide +kernel)
theorem wd_993 : Cond.static ⟨"SpinBenchModel", "productOf", "(I)I"⟩ ∈ gw_All := gw_in 993 (by decide +kernel) (by decide +kernel)
set_option maxRecDepth 100000 in
theorem wd_994 : Cond.code ⟨"SpinBenchModel", "productOf", "(I)I"⟩ prog_14_method_14_code 1 (some .int) ∈ gw_All := gw_in 994 rfl rfl
theorem wd_995 : Cond.methodLink "SpinBenchModel" 151 ⟨"SpinBenchModel", "fits", "(II)Z"⟩ ∈ gw_All := gw_in 995 (by decide +kernel) (by decide +kernel)
theorem wd_997 : Cond.instanceMethod ⟨"SpinBenchModel", "fits", "(II)Z"⟩ ∈ gw_All := gw_in 997 (by decide +kernel) (by decide +kernel)
set_option maxRecDepth 100000 in
theorem wd_998 : Cond.code ⟨"SpinBenchModel", "fits", "(II)Z"⟩ prog_14_method_28_code 7 (some .boolean) ∈ gw_All := gw_in 998 rfl rfl
theorem wd_999 : Cond.methodLink "SpinBenchModel" 155 ⟨"SpinBenchModel", "with", "(II)I"⟩ ∈ gw_All := gw_in 999 (by decide +kernel) (by decide +kernel)
theorem wd_1001 : Cond.instanceMethod ⟨"SpinBenchModel", "with", "(II)I"⟩ ∈ gw_All := gw_in 1001 (by decide +kernel) (by decide +kernel)
set_option maxRecDepth 100000 in
theorem wd_1002 : Cond.code ⟨"SpinBenchModel", "with", "(II)I"⟩ prog_14_method_29_code 9 (some .int) ∈ gw_All := gw_in 1002 rfl rfl
theorem wd_1003 : Cond.constant "SpinBenchModel" 158 1048575 ∈ gw_All := gw_in 1003 (by decide +kernel) (by decide +kernel)
theorem wd_1004 : Cond.methodLink "SpinBenchLaw" 64 ⟨"SpinBenchModel", "letter", "(III)I"⟩ ∈ gw_All := gw_in 1004 (by decide +kernel) (by decide +kernel)
theorem wd_1005 : Cond.instanceMethod ⟨"SpinBenchModel", "letter", "(III)I"⟩ ∈ gw_All := gw_in 1005 (by decide +kernel) (by decide +kernel)
theorem wd_1006 : Cond.selects "SpinBenchModel" ⟨"SpinBenchModel", "letter", "(III)I"⟩ ⟨"SpinBenchModel", "letter", "(III)I"⟩ ∈ gw_All := gw_in 1006 (by decide +kernel) (by decide +kernel)
set_option maxRecDepth 100000 in
theorem wd_1007 : Cond.code ⟨"SpinBenchModel", "letter", "(III)I"⟩ prog_14_method_34_code 4 (some .int) ∈ gw_All := gw_in 1007 rfl rfl
theorem wd_1008 : Cond.methodLink "SpinBenchModel" 171 ⟨"SpinBenchModel", "isWay", "(I)Z"⟩ ∈ gw_All := gw_in 1008 (by decide +kernel) (by decide +kernel)
theorem wd_1009 : Cond.static ⟨"SpinBenchModel", "isWay", "(I)Z"⟩ ∈ gw_All := gw_in 1009 (by decide +kernel) (by decide +kernel)
set_option maxRecDepth 100000 in
theorem wd_1010 : Cond.code ⟨"SpinBenchModel", "isWay", "(I)Z"⟩ prog_14_method_33_code 1 (some .boolean) ∈ gw_All := gw_in 1010 rfl rfl
theorem wd_1011 : Cond.methodLink "SpinBenchModel" 174 ⟨"SpinBenchModel", "turnLetter", "(III)Z"⟩ ∈ gw_All := gw_in 1011 (by decide +kernel) (by decide +kernel)
theorem wd_1013 : Cond.instanceMethod ⟨"SpinBenchModel", "turnLetter", "(III)Z"⟩ ∈ gw_All := gw_in 1013 (by decide +kernel) (by decide +kernel)
set_option maxRecDepth 100000 in
theorem wd_1014 : Cond.code ⟨"SpinBenchModel", "turnLetter", "(III)Z"⟩ prog_14_method_31_code 11 (some .boolean) ∈ gw_All := gw_in 1014 rfl rfl
theorem wd_1015 : Cond.methodLink "SpinBenchModel" 159 ⟨"SpinBenchModel", "oneCosine", "(I)I"⟩ ∈ gw_All := gw_in 1015 (by decide +kernel) (by decide +kernel)
theorem wd_1016 : Cond.static ⟨"SpinBenchModel", "oneCosine", "(I)I"⟩ ∈ gw_All := gw_in 1016 (by decide +kernel) (by decide +kernel)
set_option maxRecDepth 100000 in
theorem wd_1017 : Cond.code ⟨"SpinBenchModel", "oneCosine", "(I)I"⟩ prog_14_method_12_code 1 (some .int) ∈ gw_All := gw_in 1017 rfl rfl
theorem wd_1018 : Cond.methodLink "SpinBenchModel" 162 ⟨"SpinBenchModel", "sine", "(II)I"⟩ ∈ gw_All := gw_in 1018 (by decide +kernel) (by decide +kernel)
theorem wd_1019 : Cond.static ⟨"SpinBenchModel", "sine", "(II)I"⟩ ∈ gw_All := gw_in 1019 (by decide +kernel) (by decide +kernel)
set_option maxRecDepth 100000 in
theorem wd_1020 : Cond.code ⟨"SpinBenchModel", "sine", "(II)I"⟩ prog_14_method_11_code 2 (some .int) ∈ gw_All := gw_in 1020 rfl rfl
theorem wd_1021 : Cond.methodLink "SpinBenchModel" 165 ⟨"SpinBenchModel", "oneSine", "(I)I"⟩ ∈ gw_All := gw_in 1021 (by decide +kernel) (by decide +kernel)
theorem wd_1022 : Cond.static ⟨"SpinBenchModel", "oneSine", "(I)I"⟩ ∈ gw_All := gw_in 1022 (by decide +kernel) (by decide +kernel)
set_option maxRecDepth 100000 in
theorem wd_1023 : Cond.code ⟨"SpinBenchModel", "oneSine", "(I)I"⟩ prog_14_method_13_code 1 (some .int) ∈ gw_All := gw_in 1023 rfl rfl
theorem wd_1024 : Cond.methodLink "SpinBenchLaw" 68 ⟨"SpinBenchModel", "terms", "(I)I"⟩ ∈ gw_All := gw_in 1024 (by decide +kernel) (by decide +kernel)
theorem wd_1025 : Cond.instanceMethod ⟨"SpinBenchModel", "terms", "(I)I"⟩ ∈ gw_All := gw_in 1025 (by decide +kernel) (by decide +kernel)
theorem wd_1026 : Cond.selects "SpinBenchModel" ⟨"SpinBenchModel", "terms", "(I)I"⟩ ⟨"SpinBenchModel", "terms", "(I)I"⟩ ∈ gw_All := gw_in 1026 (by decide +kernel) (by decide +kernel)
set_option maxRecDepth 100000 in
theorem wd_1027 : Cond.code ⟨"SpinBenchModel", "terms", "(I)I"⟩ prog_14_method_35_code 2 (some .int) ∈ gw_All := gw_in 1027 rfl rfl
theorem wd_1028 : Cond.methodLink "SpinBenchLaw" 73 ⟨"SpinBenchModel", "number", "(II)J"⟩ ∈ gw_All := gw_in 1028 (by decide +kernel) (by decide +kernel)
theorem wd_1029 : Cond.instanceMethod ⟨"SpinBenchModel", "number", "(II)J"⟩ ∈ gw_All := gw_in 1029 (by decide +kernel) (by decide +kernel)
theorem wd_1030 : Cond.selects "SpinBenchModel" ⟨"SpinBenchModel", "number", "(II)J"⟩ ⟨"SpinBenchModel", "number", "(II)J"⟩ ∈ gw_All := gw_in 1030 (by decide +kernel) (by decide +kernel)
set_option maxRecDepth 100000 in
theorem wd_1031 : Cond.code ⟨"SpinBenchModel", "number", "(II)J"⟩ prog_14_method_37_code 3 (some .long) ∈ gw_All := gw_in 1031 rfl rfl
theorem wd_1032 : Cond.methodLink "SpinBenchModel" 177 ⟨"SpinBenchModel", "isTerm", "(II)Z"⟩ ∈ gw_All := gw_in 1032 (by decide +kernel) (by decide +kernel)
theorem wd_1034 : Cond.instanceMethod ⟨"SpinBenchModel", "isTerm", "(II)Z"⟩ ∈ gw_All := gw_in 1034 (by decide +kernel) (by decide +kernel)
set_option maxRecDepth 100000 in
theorem wd_1035 : Cond.code ⟨"SpinBenchModel", "isTerm", "(II)Z"⟩ prog_14_method_36_code 3 (some .boolean) ∈ gw_All := gw_in 1035 rfl rfl
theorem wd_1036 : Cond.constantLong "SpinBenchModel" 180 (-1000001) ∈ gw_All := gw_in 1036 (by decide +kernel) (by decide +kernel)
theorem wd_1037 : Cond.methodLink "SpinBenchLaw" 77 ⟨"SpinBenchModel", "power", "(III)I"⟩ ∈ gw_All := gw_in 1037 (by decide +kernel) (by decide +kernel)
theorem wd_1038 : Cond.instanceMethod ⟨"SpinBenchModel", "power", "(III)I"⟩ ∈ gw_All := gw_in 1038 (by decide +kernel) (by decide +kernel)
theorem wd_1039 : Cond.selects "SpinBenchModel" ⟨"SpinBenchModel", "power", "(III)I"⟩ ⟨"SpinBenchModel", "power", "(III)I"⟩ ∈ gw_All := gw_in 1039 (by decide +kernel) (by decide +kernel)
set_option maxRecDepth 100000 in
theorem wd_1040 : Cond.code ⟨"SpinBenchModel", "power", "(III)I"⟩ prog_14_method_39_code 4 (some .int) ∈ gw_All := gw_in 1040 rfl rfl
theorem wd_1041 : Cond.methodLink "SpinBenchModel" 182 ⟨"SpinBenchModel", "powerOf", "(II)I"⟩ ∈ gw_All := gw_in 1041 (by decide +kernel) (by decide +kernel)
theorem wd_1042 : Cond.static ⟨"SpinBenchModel", "powerOf", "(II)I"⟩ ∈ gw_All := gw_in 1042 (by decide +kernel) (by decide +kernel)
set_option maxRecDepth 100000 in
theorem wd_1043 : Cond.code ⟨"SpinBenchModel", "powerOf", "(II)I"⟩ prog_14_method_38_code 2 (some .int) ∈ gw_All := gw_in 1043 rfl rfl
theorem wd_1044 : Cond.methodLink "SpinBenchLaw" 81 ⟨"SpinBenchModel", "same", "(II)I"⟩ ∈ gw_All := gw_in 1044 (by decide +kernel) (by decide +kernel)
theorem wd_1045 : Cond.instanceMethod ⟨"SpinBenchModel", "same", "(II)I"⟩ ∈ gw_All := gw_in 1045 (by decide +kernel) (by decide +kernel)
theorem wd_1046 : Cond.selects "SpinBenchModel" ⟨"SpinBenchModel", "same", "(II)I"⟩ ⟨"SpinBenchModel", "same", "(II)I"⟩ ∈ gw_All := gw_in 1046 (by decide +kernel) (by decide +kernel)
set_option maxRecDepth 100000 in
theorem wd_1047 : Cond.code ⟨"SpinBenchModel", "same", "(II)I"⟩ prog_14_method_40_code 7 (some .int) ∈ gw_All := gw_in 1047 rfl rfl
theorem wd_1048 : Cond.methodLink "SpinBenchLaw" 85 ⟨"SpinBenchModel", "product", "(III)I"⟩ ∈ gw_All := gw_in 1048 (by decide +kernel) (by decide +kernel)
theorem wd_1049 : Cond.instanceMethod ⟨"SpinBenchModel", "product", "(III)I"⟩ ∈ gw_All := gw_in 1049 (by decide +kernel) (by decide +kernel)
theorem wd_1050 : Cond.selects "SpinBenchModel" ⟨"SpinBenchModel", "product", "(III)I"⟩ ⟨"SpinBenchModel", "product", "(III)I"⟩ ∈ gw_All := gw_in 1050 (by decide +kernel) (by decide +kernel)
set_option maxRecDepth 100000 in
theorem wd_1051 : Cond.code ⟨"SpinBenchModel", "product", "(III)I"⟩ prog_14_method_42_code 16 (some .int) ∈ gw_All := gw_in 1051 rfl rfl
theorem wd_1052 : Cond.methodLink "SpinBenchModel" 185 ⟨"SpinBenchModel", "multiply", "(IIJ)Z"⟩ ∈ gw_All := gw_in 1052 (by decide +kernel) (by decide +kernel)
theorem wd_1054 : Cond.instanceMethod ⟨"SpinBenchModel", "multiply", "(IIJ)Z"⟩ ∈ gw_All := gw_in 1054 (by decide +kernel) (by decide +kernel)
set_option maxRecDepth 100000 in
theorem wd_1055 : Cond.code ⟨"SpinBenchModel", "multiply", "(IIJ)Z"⟩ prog_14_method_41_code 12 (some .boolean) ∈ gw_All := gw_in 1055 rfl rfl
theorem wd_1056 : Cond.methodLink "SpinBenchLaw" 90 ⟨"SpinBenchModel", "digest", "(I)J"⟩ ∈ gw_All := gw_in 1056 (by decide +kernel) (by decide +kernel)
theorem wd_1057 : Cond.instanceMethod ⟨"SpinBenchModel", "digest", "(I)J"⟩ ∈ gw_All := gw_in 1057 (by decide +kernel) (by decide +kernel)
theorem wd_1058 : Cond.selects "SpinBenchModel" ⟨"SpinBenchModel", "digest", "(I)J"⟩ ⟨"SpinBenchModel", "digest", "(I)J"⟩ ∈ gw_All := gw_in 1058 (by decide +kernel) (by decide +kernel)
set_option maxRecDepth 100000 in
theorem wd_1059 : Cond.code ⟨"SpinBenchModel", "digest", "(I)J"⟩ prog_14_method_43_code 7 (some .long) ∈ gw_All := gw_in 1059 rfl rfl
theorem wd_1060 : Cond.constantLong "SpinBenchModel" 189 17 ∈ gw_All := gw_in 1060 (by decide +kernel) (by decide +kernel)
theorem wd_1061 : Cond.constantLong "SpinBenchModel" 191 31 ∈ gw_All := gw_in 1061 (by decide +kernel) (by decide +kernel)
theorem wd_1062 : Cond.methodLink "SpinBenchLaw" 94 ⟨"SpinBenchModel", "pulse", "(III)I"⟩ ∈ gw_All := gw_in 1062 (by decide +kernel) (by decide +kernel)
theorem wd_1063 : Cond.instanceMethod ⟨"SpinBenchModel", "pulse", "(III)I"⟩ ∈ gw_All := gw_in 1063 (by decide +kernel) (by decide +kernel)
theorem wd_1064 : Cond.selects "SpinBenchModel" ⟨"SpinBenchModel", "pulse", "(III)I"⟩ ⟨"SpinBenchModel", "pulse", "(III)I"⟩ ∈ gw_All := gw_in 1064 (by decide +kernel) (by decide +kernel)
set_option maxRecDepth 100000 in
theorem wd_1065 : Cond.code ⟨"SpinBenchModel", "pulse", "(III)I"⟩ prog_14_method_46_code 4 (some .int) ∈ gw_All := gw_in 1065 rfl rfl
theorem wd_1066 : Cond.methodLink "SpinBenchModel" 196 ⟨"SpinBenchModel", "isPulse", "(III)Z"⟩ ∈ gw_All := gw_in 1066 (by decide +kernel) (by decide +kernel)
theorem wd_1068 : Cond.instanceMethod ⟨"SpinBenchModel", "isPulse", "(III)Z"⟩ ∈ gw_All := gw_in 1068 (by decide +kernel) (by decide +kernel)
set_option maxRecDepth 100000 in
theorem wd_1069 : Cond.code ⟨"SpinBenchModel", "isPulse", "(III)Z"⟩ prog_14_method_45_code 4 (some .boolean) ∈ gw_All := gw_in 1069 rfl rfl
theorem wd_1070 : Cond.methodLink "SpinBenchModel" 199 ⟨"SpinBenchModel", "come", "(IIIII)I"⟩ ∈ gw_All := gw_in 1070 (by decide +kernel) (by decide +kernel)
theorem wd_1072 : Cond.instanceMethod ⟨"SpinBenchModel", "come", "(IIIII)I"⟩ ∈ gw_All := gw_in 1072 (by decide +kernel) (by decide +kernel)
set_option maxRecDepth 100000 in
theorem wd_1073 : Cond.code ⟨"SpinBenchModel", "come", "(IIIII)I"⟩ prog_14_method_44_code 6 (some .int) ∈ gw_All := gw_in 1073 rfl rfl
theorem wd_1074 : Cond.methodLink "SpinBenchLaw" 99 ⟨"SpinBenchModel", "cycled", "(IIII)I"⟩ ∈ gw_All := gw_in 1074 (by decide +kernel) (by decide +kernel)
theorem wd_1075 : Cond.instanceMethod ⟨"SpinBenchModel", "cycled", "(IIII)I"⟩ ∈ gw_All := gw_in 1075 (by decide +kernel) (by decide +kernel)
theorem wd_1076 : Cond.selects "SpinBenchModel" ⟨"SpinBenchModel", "cycled", "(IIII)I"⟩ ⟨"SpinBenchModel", "cycled", "(IIII)I"⟩ ∈ gw_All := gw_in 1076 (by decide +kernel) (by decide +kernel)
set_option maxRecDepth 100000 in
theorem wd_1077 : Cond.code ⟨"SpinBenchModel", "cycled", "(IIII)I"⟩ prog_14_method_47_code 5 (some .int) ∈ gw_All := gw_in 1077 rfl rfl
theorem wd_1078 : Cond.methodLink "SpinBenchLaw" 103 ⟨"SpinBenchModel", "delay", "(III)I"⟩ ∈ gw_All := gw_in 1078 (by decide +kernel) (by decide +kernel)
theorem wd_1079 : Cond.instanceMethod ⟨"SpinBenchModel", "delay", "(III)I"⟩ ∈ gw_All := gw_in 1079 (by decide +kernel) (by decide +kernel)
theorem wd_1080 : Cond.selects "SpinBenchModel" ⟨"SpinBenchModel", "delay", "(III)I"⟩ ⟨"SpinBenchModel", "delay", "(III)I"⟩ ∈ gw_All := gw_in 1080 (by decide +kernel) (by decide +kernel)
set_option maxRecDepth 100000 in
theorem wd_1081 : Cond.code ⟨"SpinBenchModel", "delay", "(III)I"⟩ prog_14_method_48_code 4 (some .int) ∈ gw_All := gw_in 1081 rfl rfl
theorem wd_1082 : Cond.methodLink "SpinBenchLaw" 107 ⟨"SpinBenchModel", "round", "(I)I"⟩ ∈ gw_All := gw_in 1082 (by decide +kernel) (by decide +kernel)
theorem wd_1083 : Cond.instanceMethod ⟨"SpinBenchModel", "round", "(I)I"⟩ ∈ gw_All := gw_in 1083 (by decide +kernel) (by decide +kernel)
theorem wd_1084 : Cond.selects "SpinBenchModel" ⟨"SpinBenchModel", "round", "(I)I"⟩ ⟨"SpinBenchModel", "round", "(I)I"⟩ ∈ gw_All := gw_in 1084 (by decide +kernel) (by decide +kernel)
set_option maxRecDepth 100000 in
theorem wd_1085 : Cond.code ⟨"SpinBenchModel", "round", "(I)I"⟩ prog_14_method_49_code 3 (some .int) ∈ gw_All := gw_in 1085 rfl rfl
theorem wd_1086 : Cond.constantLong "SpinBenchModel" 203 8 ∈ gw_All := gw_in 1086 (by decide +kernel) (by decide +kernel)
theorem wd_1087 : Cond.constant "SpinBenchModel" 208 (-1000002) ∈ gw_All := gw_in 1087 (by decide +kernel) (by decide +kernel)
theorem wd_1088 : Cond.methodLink "SpinBenchLaw" 112 ⟨"SpinBenchModel", "end", "()I"⟩ ∈ gw_All := gw_in 1088 (by decide +kernel) (by decide +kernel)
theorem wd_1089 : Cond.instanceMethod ⟨"SpinBenchModel", "end", "()I"⟩ ∈ gw_All := gw_in 1089 (by decide +kernel) (by decide +kernel)
theorem wd_1090 : Cond.selects "SpinBenchModel" ⟨"SpinBenchModel", "end", "()I"⟩ ⟨"SpinBenchModel", "end", "()I"⟩ ∈ gw_All := gw_in 1090 (by decide +kernel) (by decide +kernel)
set_option maxRecDepth 100000 in
theorem wd_1091 : Cond.code ⟨"SpinBenchModel", "end", "()I"⟩ prog_14_method_50_code 2 (some .int) ∈ gw_All := gw_in 1091 rfl rfl
theorem wd_1092 : Cond.methodLink "SpinBenchLaw" 116 ⟨"SpinBenchModel", "store", "(II)I"⟩ ∈ gw_All := gw_in 1092 (by decide +kernel) (by decide +kernel)
theorem wd_1093 : Cond.instanceMethod ⟨"SpinBenchModel", "store", "(II)I"⟩ ∈ gw_All := gw_in 1093 (by decide +kernel) (by decide +kernel)
theorem wd_1094 : Cond.selects "SpinBenchModel" ⟨"SpinBenchModel", "store", "(II)I"⟩ ⟨"SpinBenchModel", "store", "(II)I"⟩ ∈ gw_All := gw_in 1094 (by decide +kernel) (by decide +kernel)
set_option maxRecDepth 100000 in
theorem wd_1095 : Cond.code ⟨"SpinBenchModel", "store", "(II)I"⟩ prog_14_method_51_code 3 (some .int) ∈ gw_All := gw_in 1095 rfl rfl
theorem wd_1096 : Cond.methodLink "SpinBenchLaw" 120 ⟨"SpinBenchModel", "back", "()I"⟩ ∈ gw_All := gw_in 1096 (by decide +kernel) (by decide +kernel)
theorem wd_1097 : Cond.instanceMethod ⟨"SpinBenchModel", "back", "()I"⟩ ∈ gw_All := gw_in 1097 (by decide +kernel) (by decide +kernel)
theorem wd_1098 : Cond.selects "SpinBenchModel" ⟨"SpinBenchModel", "back", "()I"⟩ ⟨"SpinBenchModel", "back", "()I"⟩ ∈ gw_All := gw_in 1098 (by decide +kernel) (by decide +kernel)
set_option maxRecDepth 100000 in
theorem wd_1099 : Cond.code ⟨"SpinBenchModel", "back", "()I"⟩ prog_14_method_52_code 1 (some .int) ∈ gw_All := gw_in 1099 rfl rfl
theorem wd_1100 : Cond.methodLink "SpinBenchLaw" 124 ⟨"SpinBenchModel", "kind", "(I)I"⟩ ∈ gw_All := gw_in 1100 (by decide +kernel) (by decide +kernel)
theorem wd_1101 : Cond.instanceMethod ⟨"SpinBenchModel", "kind", "(I)I"⟩ ∈ gw_All := gw_in 1101 (by decide +kernel) (by decide +kernel)
theorem wd_1102 : Cond.selects "SpinBenchModel" ⟨"SpinBenchModel", "kind", "(I)I"⟩ ⟨"SpinBenchModel", "kind", "(I)I"⟩ ∈ gw_All := gw_in 1102 (by decide +kernel) (by decide +kernel)
set_option maxRecDepth 100000 in
theorem wd_1103 : Cond.code ⟨"SpinBenchModel", "kind", "(I)I"⟩ prog_14_method_54_code 2 (some .int) ∈ gw_All := gw_in 1103 rfl rfl
theorem wd_1104 : Cond.methodLink "SpinBenchModel" 209 ⟨"SpinBenchModel", "isOp", "(I)Z"⟩ ∈ gw_All := gw_in 1104 (by decide +kernel) (by decide +kernel)
theorem wd_1106 : Cond.instanceMethod ⟨"SpinBenchModel", "isOp", "(I)Z"⟩ ∈ gw_All := gw_in 1106 (by decide +kernel) (by decide +kernel)
set_option maxRecDepth 100000 in
theorem wd_1107 : Cond.code ⟨"SpinBenchModel", "isOp", "(I)Z"⟩ prog_14_method_53_code 2 (some .boolean) ∈ gw_All := gw_in 1107 rfl rfl
theorem wd_1108 : Cond.methodLink "SpinBenchLaw" 128 ⟨"SpinBenchModel", "is", "(II)I"⟩ ∈ gw_All := gw_in 1108 (by decide +kernel) (by decide +kernel)
theorem wd_1109 : Cond.instanceMethod ⟨"SpinBenchModel", "is", "(II)I"⟩ ∈ gw_All := gw_in 1109 (by decide +kernel) (by decide +kernel)
theorem wd_1110 : Cond.selects "SpinBenchModel" ⟨"SpinBenchModel", "is", "(II)I"⟩ ⟨"SpinBenchModel", "is", "(II)I"⟩ ∈ gw_All := gw_in 1110 (by decide +kernel) (by decide +kernel)
set_option maxRecDepth 100000 in
theorem wd_1111 : Cond.code ⟨"SpinBenchModel", "is", "(II)I"⟩ prog_14_method_55_code 4 (some .int) ∈ gw_All := gw_in 1111 rfl rfl
theorem wd_1112 : Cond.methodLink "SpinBenchLaw" 132 ⟨"SpinBenchModel", "spins", "(I)I"⟩ ∈ gw_All := gw_in 1112 (by decide +kernel) (by decide +kernel)
theorem wd_1113 : Cond.instanceMethod ⟨"SpinBenchModel", "spins", "(I)I"⟩ ∈ gw_All := gw_in 1113 (by decide +kernel) (by decide +kernel)
theorem wd_1114 : Cond.selects "SpinBenchModel" ⟨"SpinBenchModel", "spins", "(I)I"⟩ ⟨"SpinBenchModel", "spins", "(I)I"⟩ ∈ gw_All := gw_in 1114 (by decide +kernel) (by decide +kernel)
set_option maxRecDepth 100000 in
theorem wd_1115 : Cond.code ⟨"SpinBenchModel", "spins", "(I)I"⟩ prog_14_method_56_code 2 (some .int) ∈ gw_All := gw_in 1115 rfl rfl
theorem wd_1116 : Cond.methodLink "SpinBenchLaw" 136 ⟨"SpinBenchModel", "ask", "(II)I"⟩ ∈ gw_All := gw_in 1116 (by decide +kernel) (by decide +kernel)
theorem wd_1117 : Cond.instanceMethod ⟨"SpinBenchModel", "ask", "(II)I"⟩ ∈ gw_All := gw_in 1117 (by decide +kernel) (by decide +kernel)
theorem wd_1118 : Cond.selects "SpinBenchModel" ⟨"SpinBenchModel", "ask", "(II)I"⟩ ⟨"SpinBenchModel", "ask", "(II)I"⟩ ∈ gw_All := gw_in 1118 (by decide +kernel) (by decide +kernel)
set_option maxRecDepth 100000 in
theorem wd_1119 : Cond.code ⟨"SpinBenchModel", "ask", "(II)I"⟩ prog_14_method_61_code 3 (some .int) ∈ gw_All := gw_in 1119 rfl rfl
theorem wd_1120 : Cond.methodLink "SpinBenchModel" 222 ⟨"SpinBenchModel", "cost", "(I)I"⟩ ∈ gw_All := gw_in 1120 (by decide +kernel) (by decide +kernel)
theorem wd_1122 : Cond.instanceMethod ⟨"SpinBenchModel", "cost", "(I)I"⟩ ∈ gw_All := gw_in 1122 (by decide +kernel) (by decide +kernel)
set_option maxRecDepth 100000 in
theorem wd_1123 : Cond.code ⟨"SpinBenchModel", "cost", "(I)I"⟩ prog_14_method_58_code 6 (some .int) ∈ gw_All := gw_in 1123 rfl rfl
theorem wd_1124 : Cond.methodLink "SpinBenchModel" 215 ⟨"SpinBenchModel", "begins", "(I)V"⟩ ∈ gw_All := gw_in 1124 (by decide +kernel) (by decide +kernel)
theorem wd_1126 : Cond.instanceMethod ⟨"SpinBenchModel", "begins", "(I)V"⟩ ∈ gw_All := gw_in 1126 (by decide +kernel) (by decide +kernel)
set_option maxRecDepth 100000 in
theorem wd_1127 : Cond.code ⟨"SpinBenchModel", "begins", "(I)V"⟩ prog_14_method_57_code 2 none ∈ gw_All := gw_in 1127 rfl rfl
theorem wd_1128 : Cond.methodLink "SpinBenchModel" 219 ⟨"SpinBenchModel", "mark2", "(I)I"⟩ ∈ gw_All := gw_in 1128 (by decide +kernel) (by decide +kernel)
theorem wd_1130 : Cond.instanceMethod ⟨"SpinBenchModel", "mark2", "(I)I"⟩ ∈ gw_All := gw_in 1130 (by decide +kernel) (by decide +kernel)
set_option maxRecDepth 100000 in
theorem wd_1131 : Cond.code ⟨"SpinBenchModel", "mark2", "(I)I"⟩ prog_14_method_59_code 2 (some .int) ∈ gw_All := gw_in 1131 rfl rfl
theorem wd_1132 : Cond.methodLink "SpinBenchModel" 225 ⟨"SpinBenchModel", "mark", "(I)I"⟩ ∈ gw_All := gw_in 1132 (by decide +kernel) (by decide +kernel)
theorem wd_1134 : Cond.instanceMethod ⟨"SpinBenchModel", "mark", "(I)I"⟩ ∈ gw_All := gw_in 1134 (by decide +kernel) (by decide +kernel)
set_option maxRecDepth 100000 in
theorem wd_1135 : Cond.code ⟨"SpinBenchModel", "mark", "(I)I"⟩ prog_14_method_60_code 4 (some .int) ∈ gw_All := gw_in 1135 rfl rfl
theorem wd_1136 : Cond.methodLink "SpinBenchLaw" 140 ⟨"SpinBenchModel", "trace", "(I)I"⟩ ∈ gw_All := gw_in 1136 (by decide +kernel) (by decide +kernel)
theorem wd_1137 : Cond.instanceMethod ⟨"SpinBenchModel", "trace", "(I)I"⟩ ∈ gw_All := gw_in 1137 (by decide +kernel) (by decide +kernel)
theorem wd_1138 : Cond.selects "SpinBenchModel" ⟨"SpinBenchModel", "trace", "(I)I"⟩ ⟨"SpinBenchModel", "trace", "(I)I"⟩ ∈ gw_All := gw_in 1138 (by decide +kernel) (by decide +kernel)
set_option maxRecDepth 100000 in
theorem wd_1139 : Cond.code ⟨"SpinBenchModel", "trace", "(I)I"⟩ prog_14_method_62_code 2 (some .int) ∈ gw_All := gw_in 1139 rfl rfl
theorem wd_1140 : Cond.methodLink "SpinBenchLaw" 144 ⟨"SpinBenchModel", "run", "()I"⟩ ∈ gw_All := gw_in 1140 (by decide +kernel) (by decide +kernel)
theorem wd_1141 : Cond.instanceMethod ⟨"SpinBenchModel", "run", "()I"⟩ ∈ gw_All := gw_in 1141 (by decide +kernel) (by decide +kernel)
theorem wd_1142 : Cond.selects "SpinBenchModel" ⟨"SpinBenchModel", "run", "()I"⟩ ⟨"SpinBenchModel", "run", "()I"⟩ ∈ gw_All := gw_in 1142 (by decide +kernel) (by decide +kernel)
set_option maxRecDepth 100000 in
theorem wd_1143 : Cond.code ⟨"SpinBenchModel", "run", "()I"⟩ prog_14_method_65_code 4 (some .int) ∈ gw_All := gw_in 1143 rfl rfl
theorem wd_1144 : Cond.methodLink "SpinBenchModel" 237 ⟨"SpinBenchModel", "does", "(I)I"⟩ ∈ gw_All := gw_in 1144 (by decide +kernel) (by decide +kernel)
theorem wd_1146 : Cond.instanceMethod ⟨"SpinBenchModel", "does", "(I)I"⟩ ∈ gw_All := gw_in 1146 (by decide +kernel) (by decide +kernel)
set_option maxRecDepth 100000 in
theorem wd_1147 : Cond.code ⟨"SpinBenchModel", "does", "(I)I"⟩ prog_14_method_64_code 4 (some .int) ∈ gw_All := gw_in 1147 rfl rfl
theorem wd_1148 : Cond.methodLink "SpinBenchModel" 228 ⟨"SpinBenchModel", "doPulse", "(II)V"⟩ ∈ gw_All := gw_in 1148 (by decide +kernel) (by decide +kernel)
theorem wd_1150 : Cond.instanceMethod ⟨"SpinBenchModel", "doPulse", "(II)V"⟩ ∈ gw_All := gw_in 1150 (by decide +kernel) (by decide +kernel)
set_option maxRecDepth 100000 in
theorem wd_1151 : Cond.code ⟨"SpinBenchModel", "doPulse", "(II)V"⟩ prog_14_method_63_code 5 none ∈ gw_All := gw_in 1151 rfl rfl
theorem wd_1152 : Cond.methodLink "SpinBenchLaw" 148 ⟨"SpinBenchModel", "told", "(I)I"⟩ ∈ gw_All := gw_in 1152 (by decide +kernel) (by decide +kernel)
theorem wd_1153 : Cond.instanceMethod ⟨"SpinBenchModel", "told", "(I)I"⟩ ∈ gw_All := gw_in 1153 (by decide +kernel) (by decide +kernel)
theorem wd_1154 : Cond.selects "SpinBenchModel" ⟨"SpinBenchModel", "told", "(I)I"⟩ ⟨"SpinBenchModel", "told", "(I)I"⟩ ∈ gw_All := gw_in 1154 (by decide +kernel) (by decide +kernel)
set_option maxRecDepth 100000 in
theorem wd_1155 : Cond.code ⟨"SpinBenchModel", "told", "(I)I"⟩ prog_14_method_66_code 2 (some .int) ∈ gw_All := gw_in 1155 rfl rfl
theorem wd_1156 : Cond.methodLink "SpinBenchLaw" 152 ⟨"SpinBenchModel", "count", "(I)I"⟩ ∈ gw_All := gw_in 1156 (by decide +kernel) (by decide +kernel)
theorem wd_1157 : Cond.instanceMethod ⟨"SpinBenchModel", "count", "(I)I"⟩ ∈ gw_All := gw_in 1157 (by decide +kernel) (by decide +kernel)
theorem wd_1158 : Cond.selects "SpinBenchModel" ⟨"SpinBenchModel", "count", "(I)I"⟩ ⟨"SpinBenchModel", "count", "(I)I"⟩ ∈ gw_All := gw_in 1158 (by decide +kernel) (by decide +kernel)
set_option maxRecDepth 100000 in
theorem wd_1159 : Cond.code ⟨"SpinBenchModel", "count", "(I)I"⟩ prog_14_method_67_code 4 (some .int) ∈ gw_All := gw_in 1159 rfl rfl
theorem wd_1160 : Cond.methodLink "SpinBenchLaw" 156 ⟨"SpinBenchModel", "status", "()I"⟩ ∈ gw_All := gw_in 1160 (by decide +kernel) (by decide +kernel)
theorem wd_1161 : Cond.instanceMethod ⟨"SpinBenchModel", "status", "()I"⟩ ∈ gw_All := gw_in 1161 (by decide +kernel) (by decide +kernel)
theorem wd_1162 : Cond.selects "SpinBenchModel" ⟨"SpinBenchModel", "status", "()I"⟩ ⟨"SpinBenchModel", "status", "()I"⟩ ∈ gw_All := gw_in 1162 (by decide +kernel) (by decide +kernel)
set_option maxRecDepth 100000 in
theorem wd_1163 : Cond.code ⟨"SpinBenchModel", "status", "()I"⟩ prog_14_method_68_code 1 (some .int) ∈ gw_All := gw_in 1163 rfl rfl
theorem wd_1164 : Cond.sameMethod "SpinBench$Lead" "SpinBench$Lead" "isOfKind" "(I)Z" ∈ gw_All := gw_in 1164 (by decide +kernel) (by decide +kernel)
theorem wd_1165 : Cond.sameMethod "SpinBench$Pulse" "SpinBench$Pulse" "cost" "(LSpinBench;)I" ∈ gw_All := gw_in 1165 (by decide +kernel) (by decide +kernel)
theorem wd_1166 : Cond.sameMethod "SpinBench$Lead" "SpinBench$Lead" "cost" "(LSpinBench;)I" ∈ gw_All := gw_in 1166 (by decide +kernel) (by decide +kernel)
theorem wd_1167 : Cond.sameMethod "SpinBench$Lead" "SpinBench$Lead" "mark" "(LSpinBench;)I" ∈ gw_All := gw_in 1167 (by decide +kernel) (by decide +kernel)
theorem wd_1168 : Cond.selects "SpinBench$Cycled" ⟨"SpinBench$Lead", "cost", "(LSpinBench;)I"⟩ ⟨"SpinBench$Cycled", "cost", "(LSpinBench;)I"⟩ ∈ gw_All := gw_in 1168 (by decide +kernel) (by decide +kernel)
theorem wd_1169 : Cond.selects "SpinBench$Delay" ⟨"SpinBench$Lead", "cost", "(LSpinBench;)I"⟩ ⟨"SpinBench$Lead", "cost", "(LSpinBench;)I"⟩ ∈ gw_All := gw_in 1169 (by decide +kernel) (by decide +kernel)
theorem wd_1170 : Cond.selects "SpinBench$Pulse" ⟨"SpinBench$Lead", "cost", "(LSpinBench;)I"⟩ ⟨"SpinBench$Pulse", "cost", "(LSpinBench;)I"⟩ ∈ gw_All := gw_in 1170 (by decide +kernel) (by decide +kernel)
theorem wd_1171 : Cond.sameMethod "SpinBench$Pulse" "SpinBench$Pulse" "turnSpins" "(LSpinBench;I)I" ∈ gw_All := gw_in 1171 (by decide +kernel) (by decide +kernel)
theorem wd_1172 : Cond.selects "SpinBench$Cycled" ⟨"SpinBench$Pulse", "turnSpins", "(LSpinBench;I)I"⟩ ⟨"SpinBench$Pulse", "turnSpins", "(LSpinBench;I)I"⟩ ∈ gw_All := gw_in 1172 (by decide +kernel) (by decide +kernel)
theorem wd_1173 : Cond.selects "SpinBench$Pulse" ⟨"SpinBench$Pulse", "turnSpins", "(LSpinBench;I)I"⟩ ⟨"SpinBench$Pulse", "turnSpins", "(LSpinBench;I)I"⟩ ∈ gw_All := gw_in 1173 (by decide +kernel) (by decide +kernel)
theorem inX0 : ∀ w ∈ u_ws RX0 TX0 6, w ∈ gw_All := gw_in_r _ [523, 524, 525, 526, 527, 521] (by decide +kernel) (by decide +kernel)
theorem inX1 : ∀ w ∈ u_ws RX1 TX1 5, w ∈ gw_All := gw_in_r _ [548, 549, 542, 544, 546] (by decide +kernel) (by decide +kernel)
theorem inX2 : ∀ w ∈ u_ws RX2 TX2 2, w ∈ gw_All := gw_in_r _ [588, 589] (by decide +kernel) (by decide +kernel)
theorem inX4 : ∀ w ∈ u_ws RX4 TX4 8, w ∈ gw_All := gw_in_r _ [98, 100, 102, 104, 106, 108, 110, 112] (by decide +kernel) (by decide +kernel)
theorem inX6 : ∀ w ∈ u_ws RX6 TX6 5, w ∈ gw_All := gw_in_r _ [501, 503, 495, 497, 499] (by decide +kernel) (by decide +kernel)
theorem inX7 : ∀ w ∈ u_ws RX7 TX7 4, w ∈ gw_All := gw_in_r _ [575, 576, 571, 573] (by decide +kernel) (by decide +kernel)
theorem inX8 : ∀ w ∈ u_ws RX8 TX8 4, w ∈ gw_All := gw_in_r _ [607, 608, 603, 605] (by decide +kernel) (by decide +kernel)
theorem inX9 : ∀ w ∈ u_ws RX9 TX9 3, w ∈ gw_All := gw_in_r _ [142, 144, 146] (by decide +kernel) (by decide +kernel)
theorem inX10 : ∀ w ∈ u_ws RX10 TX10 4, w ∈ gw_All := gw_in_r _ [164, 166, 168, 170] (by decide +kernel) (by decide +kernel)
theorem inX11 : ∀ w ∈ u_ws RX11 TX11 15, w ∈ gw_All := gw_in_r _ [191, 193, 195, 197, 199, 201, 203, 205, 207, 209, 211, 213, 215, 217, 219] (by decide +kernel) (by decide +kernel)
theorem inX12 : ∀ w ∈ u_ws RX12 TX12 28, w ∈ gw_All := gw_in_r _ [834, 836, 838, 840, 842, 844, 846, 848, 850, 852, 854, 856, 858, 860, 862, 864, 866, 868, 870, 872, 874, 876, 878, 880, 882, 884, 886, 888] (by decide +kernel) (by decide +kernel)
theorem wd_c_min : Cond.code Lib.Math.min.name Lib.Math.min.code 2 (some .int) ∈ gw_All := gw_in 124 (by decide +kernel) (by decide +kernel)
theorem wd_c_max : Cond.code Lib.Math.max.name Lib.Math.max.code 2 (some .int) ∈ gw_All := gw_in 127 (by decide +kernel) (by decide +kernel)
theorem wd_c_abs : Cond.code Lib.MathLoose.abs_long.x Lib.MathLoose.abs_long.code 2 (some .long) ∈ gw_All := gw_in 321 (by decide +kernel) (by decide +kernel)
end
section
/-! The judgement gw_W: from a symbolic state (a world of cells, locals, stack, at a place of a method's code) the machine comes to its end. Everything of the machine is quantified inside, so that a walk speaks of worlds, locals and stacks alone. gw_M: a contract of that form. -/
abbrev gw_K : Type := MethodName × ByteArray × Nat × Room × Option FieldType
abbrev gw_ws (κ : gw_K) : List Cond := Cond.code κ.1 κ.2.1 κ.2.2.1 κ.2.2.2.2 :: gw_All
abbrev gw_T (cy : Nat → ClassId) : List (ClassId × FieldType) := [(cy 0, .int), (cy 1, .long), (cy 2, .object RX5), (cy 3, .object RX9), (cy 4, .object RX10)]
def gw_N : List Cond := [.methodLinkNest "SpinBench" 20 ⟨"SpinBench$Mixer", "<init>", "()V"⟩ "SpinBench", .methodLinkNest "SpinBench" 58 ⟨"SpinBench$Sum", "<init>", "()V"⟩ "SpinBench", .fieldLinkNest "SpinBench$Mixer" 46 "SpinBench$Sum" "keys" "[I" "SpinBench", .fieldLinkNest "SpinBench" 158 "SpinBench$Sum" "keys" "[I" "SpinBench", .fieldLinkNest "SpinBench$Mixer" 47 "SpinBench$Sum" "numbers" "[J" "SpinBench", .fieldLinkNest "SpinBench" 154 "SpinBench$Sum" "numbers" "[J" "SpinBench", .fieldLinkNest "SpinBench$Mixer" 43 "SpinBench$Sum" "size" "I" "SpinBench", .fieldLinkNest "SpinBench" 114 "SpinBench$Sum" "size" "I" "SpinBench", .methodLinkNest "SpinBench" 63 ⟨"SpinBench$Table", "<init>", "()V"⟩ "SpinBench", .fieldLinkNest "SpinBench" 92 "SpinBench$Table" "items" "[I" "SpinBench", .fieldLinkNest "SpinBench$Cycled" 52 "SpinBench$Table" "items" "[I" "SpinBench", .fieldLinkNest "SpinBench" 84 "SpinBench$Table" "missing" "Z" "SpinBench", .fieldLinkNest "SpinBench$Cycled" 30 "SpinBench$Table" "missing" "Z" "SpinBench", .fieldLinkNest "SpinBench" 98 "SpinBench$Table" "lane" "I" "SpinBench", .fieldLinkNest "SpinBench" 107 "SpinBench$Table" "size" "I" "SpinBench", .fieldLinkNest "SpinBench$Store" 34 "SpinBench" "work" "LSpinBench$Sum;" "SpinBench", .fieldLinkNest "SpinBench$Store" 30 "SpinBench" "mixer" "LSpinBench$Mixer;" "SpinBench", .fieldLinkNest "SpinBench$End" 27 "SpinBench" "next" "I" "SpinBench", .methodLinkNest "SpinBench" 77 ⟨"SpinBench$Table", "make", "(II)V"⟩ "SpinBench", .methodLinkNest "SpinBench" 88 ⟨"SpinBench$Table", "hasPlaces", "(II)Z"⟩ "SpinBench", .methodLinkNest "SpinBench" 95 ⟨"SpinBench$Table", "fitted", "(I)I"⟩ "SpinBench", .methodLinkNest "SpinBench" 119 ⟨"SpinBench$Mixer", "begin", "()V"⟩ "SpinBench", .methodLinkNest "SpinBench" 122 ⟨"SpinBench$Mixer", "putSum", "(LSpinBench$Sum;I)V"⟩ "SpinBench", .methodLinkNest "SpinBench" 126 ⟨"SpinBench$Mixer", "put", "(IJ)V"⟩ "SpinBench", .methodLinkNest "SpinBench" 130 ⟨"SpinBench$Mixer", "settle", "(LSpinBench$Sum;)Z"⟩ "SpinBench", .methodLinkNest "SpinBench$Mixer" 89 ⟨"SpinBench", "cosinesOf", "(II)I"⟩ "SpinBench", .methodLinkNest "SpinBench" 135 ⟨"SpinBench$Sum", "become", "(LSpinBench$Sum;)V"⟩ "SpinBench", .methodLinkNest "SpinBench" 139 ⟨"SpinBench$Mixer", "joinSums", "(LSpinBench$Sum;LSpinBench$Sum;I)Z"⟩ "SpinBench", .methodLinkNest "SpinBench" 287 ⟨"SpinBench$Mixer", "putTimesSine", "(IIJ)V"⟩ "SpinBench", .methodLinkNest "SpinBench$Mixer" 52 ⟨"SpinBench", "oneSine", "(I)I"⟩ "SpinBench", .methodLinkNest "SpinBench$Mixer" 56 ⟨"SpinBench", "oneCosine", "(I)I"⟩ "SpinBench", .methodLinkNest "SpinBench" 167 ⟨"SpinBench$Sum", "isLike", "(LSpinBench$Sum;)Z"⟩ "SpinBench", .methodLinkNest "SpinBench" 170 ⟨"SpinBench$Mixer", "multiply", "(LSpinBench$Sum;LSpinBench$Sum;LSpinBench$Sum;)Z"⟩ "SpinBench", .methodLinkNest "SpinBench$Mixer" 70 ⟨"SpinBench", "productOf", "(I)I"⟩ "SpinBench", .methodLinkNest "SpinBench$Mixer" 93 ⟨"SpinBench", "sinesOf", "(II)I"⟩ "SpinBench", .fieldLinkNest "SpinBench$End" 21 "SpinBench$Round" "often" "I" "SpinBench", .fieldLinkNest "SpinBench$End" 15 "SpinBench$Round" "timesDone" "I" "SpinBench", .fieldLinkNest "SpinBench$Cycled" 40 "SpinBench$Round" "timesDone" "I" "SpinBench", .methodLinkNest "SpinBench$Cycled" 15 ⟨"SpinBench", "leaveBody", "(I)V"⟩ "SpinBench", .methodLinkNest "SpinBench$Pulse" 25 ⟨"SpinBench", "leaveBody", "(I)V"⟩ "SpinBench", .methodLinkNest "SpinBench$Lead" 13 ⟨"SpinBench", "leaveBody", "(I)V"⟩ "SpinBench", .methodLinkNest "SpinBench$Round" 15 ⟨"SpinBench", "leaveBody", "(I)V"⟩ "SpinBench", .methodLinkNest "SpinBench$Op" 23 ⟨"SpinBench", "leaveBody", "(I)V"⟩ "SpinBench", .methodLinkNest "SpinBench$Delay" 21 ⟨"SpinBench", "leaveBody", "(I)V"⟩ "SpinBench", .methodLinkNest "SpinBench$Store" 18 ⟨"SpinBench", "leaveBody", "(I)V"⟩ "SpinBench", .methodLinkNest "SpinBench$Cycled" 26 ⟨"SpinBench", "tableAt", "(I)LSpinBench$Table;"⟩ "SpinBench", .methodLinkNest "SpinBench$Cycled" 45 ⟨"SpinBench$Table", "hasPlaces", "(II)Z"⟩ "SpinBench", .methodLinkNest "SpinBench$Pulse" 43 ⟨"SpinBench", "turnByQuarters", "(II)Z"⟩ "SpinBench", .methodLinkNest "SpinBench$Delay" 29 ⟨"SpinBench", "turnByLetter", "(III)Z"⟩ "SpinBench", .methodLinkNest "SpinBench$Store" 26 ⟨"SpinBench", "sumAt", "(I)LSpinBench$Sum;"⟩ "SpinBench", .methodLinkNest "SpinBench$Store" 38 ⟨"SpinBench$Mixer", "joinSums", "(LSpinBench$Sum;LSpinBench$Sum;I)Z"⟩ "SpinBench", .castable "SpinBench$Cycled" "SpinBench$Pulse", .castable "SpinBench$Pulse" "SpinBench$Pulse", .castable "SpinBench$Cycled" "SpinBench$Op", .castable "SpinBench$Delay" "SpinBench$Op", .castable "SpinBench$End" "SpinBench$Op", .castable "SpinBench$Pulse" "SpinBench$Op", .castable "SpinBench$Round" "SpinBench$Op", .castable "SpinBench$Store" "SpinBench$Op"]
def gw_isN (w : Cond) : Bool := match w with
  | .fieldLinkNest .. => true
  | .methodLinkNest .. => true
  | .castable .. => true
  | _ => false
theorem gw_N_ok : ∀ w ∈ gw_N, gw_isN w = true := by decide +kernel
theorem gw_Nw_warm {w : Cond} (h : gw_isN w = true) {s U : State} (hW : s.WarmedH U.vm) (hZ : va_Nw w s) : va_Nw w U := by
  cases w <;> first | exact va_Nw.warmF hW hZ | exact va_Nw.warmM hW hZ | exact va_Nw.warmC hW hZ | (simp [gw_isN] at h)
theorem gw_Nw_same {w : Cond} (h : gw_isN w = true) {s U : State} (hv : s.vm = U.vm) (hZ : va_Nw w s) : va_Nw w U := by
  cases w <;> first | exact va_Nw.same rfl hv hZ | (simp [gw_isN] at h)
/-- what no word list carries: nest links, casts that hold, arrays of objects, casts that fail -/
def gw_E (U : State) : Prop := (∀ w ∈ gw_N, va_Nw w U) ∧ (va_AO RX5 U ∧ va_AO RX9 U ∧ va_AO RX10 U) ∧ va_Nc RX1 RX6 U ∧ va_Nc RX2 RX6 U ∧ va_Nc RX7 RX6 U ∧ va_Nc RX8 RX6 U
theorem gw_E.warm {s U : State} (hW : s.WarmedH U.vm) (h : gw_E s) : gw_E U :=
  ⟨fun w hw => gw_Nw_warm (gw_N_ok w hw) hW (h.1 w hw), ⟨va_AO.moved hW.alike h.2.1.1, va_AO.moved hW.alike h.2.1.2.1, va_AO.moved hW.alike h.2.1.2.2⟩, va_Nc.moved hW.alike h.2.2.1, va_Nc.moved hW.alike h.2.2.2.1, va_Nc.moved hW.alike h.2.2.2.2.1, va_Nc.moved hW.alike h.2.2.2.2.2⟩
theorem gw_E.same {s U : State} (hv : s.vm = U.vm) (h : gw_E s) : gw_E U :=
  have hA : s.vm.Alike U.vm := hv ▸ Vm.Alike.refl s.vm
  ⟨fun w hw => gw_Nw_same (gw_N_ok w hw) hv (h.1 w hw), ⟨va_AO.moved hA h.2.1.1, va_AO.moved hA h.2.1.2.1, va_AO.moved hA h.2.1.2.2⟩, va_Nc.moved hA h.2.2.1, va_Nc.moved hA h.2.2.2.1, va_Nc.moved hA h.2.2.2.2.1, va_Nc.moved hA h.2.2.2.2.2⟩
/-- what a method's walk stands on -/
def gw_C (κ : gw_K) (cy : Nat → ClassId) (p : Program) (s : State) (m : MethodId) (args : Array Value) (meth : Method) (c : Code) (D : va_G) (A : Nat → Prop) : Prop :=
  p.tables.exec = Jvm.exec ∧ c.code = κ.2.1 ∧ meth.sig.returnType = κ.2.2.2.2 ∧ c.maxLocals = κ.2.2.1 ∧ s.vm.findClass κ.1.cls = some m.cls ∧ (∀ w ∈ gw_All, w.before args s = true) ∧ meth.locks = false ∧ meth.name = κ.1.name ∧ va_K D vwCl (gw_T cy) s ∧ gw_E s ∧ (∀ q, s.heap.size ≤ q → A q)
/-- locals by their places; none: nothing is known there -/
def gw_L (ls : Array Slot) (nL : Nat) (lv : List (Option Value)) : Prop := ls.size = nL ∧ lv_wf ls ∧ ∀ (i : Nat) (v : Value), lv[i]? = some (some v) → ls[i]? = some (.val v)
def gw_l : Nat → List (Option Value) → List (Nat × Value)
  | _, [] => []
  | k, none :: t => gw_l (k + 1) t
  | k, some v :: t => (k, v) :: gw_l (k + 1) t
theorem gw_l_mem (lv : List (Option Value)) : ∀ (k : Nat) (q : Nat × Value), q ∈ gw_l k lv ↔ ∃ i, q.1 = k + i ∧ lv[i]? = some (some q.2) := by
  induction lv with
  | nil => intro k q; simp [gw_l]
  | cons a t ih =>
    intro k q
    cases a with
    | none =>
      rw [gw_l, ih]
      constructor
      · rintro ⟨i, h1, h2⟩; exact ⟨i + 1, by omega, by simpa using h2⟩
      · rintro ⟨i, h1, h2⟩
        cases i with
        | zero => simp at h2
        | succ i => exact ⟨i, by omega, by simpa using h2⟩
    | some v =>
      rw [gw_l, List.mem_cons, ih]
      constructor
      · rintro (h | ⟨i, h1, h2⟩)
        · subst h; exact ⟨0, rfl, rfl⟩
        · exact ⟨i + 1, by omega, by simpa using h2⟩
      · rintro ⟨i, h1, h2⟩
        cases i with
        | zero => left; simp at h2; subst h2; exact Prod.ext (by simpa using h1) rfl
        | succ i => right; exact ⟨i, by omega, by simpa using h2⟩
theorem gw_L.has {ls : Array Slot} {nL : Nat} {lv : List (Option Value)} (h : gw_L ls nL lv) : lv_has ls nL (gw_l 0 lv) :=
  ⟨h.1, h.2.1, fun q hq => by obtain ⟨i, h1, h2⟩ := (gw_l_mem lv 0 q).mp hq; rw [h1, Nat.zero_add]; exact h.2.2 i q.2 h2⟩
/-- the local ahead of place i isn't the first half of a long -/
def gw_ok (lv : List (Option Value)) (i : Nat) : Bool := match i with
  | 0 => true
  | j + 1 => match lv[j]? with
    | some (some v) => v.category != 2
    | _ => true
theorem gw_ok_ne {lv : List (Option Value)} {i j : Nat} {v : Value} (h : gw_ok lv i = true) (hj : j + 1 = i) (hv : lv[j]? = some (some v)) : (v.category == 2) = false := by
  subst hj
  simp only [gw_ok, hv] at h
  simpa [bne] using h
theorem gw_L.set1 {ls' : Array Slot} {nL i : Nat} {lv : List (Option Value)} {x : Value} {l' : List (Nat × Value)} (hk : gw_ok lv i = true) (hl : (i, x) :: (gw_l 0 lv).filter (fun q => !(q.1 == i) && !(q.1 + 1 == i && q.2.category == 2)) = l') (h : lv_has ls' nL l') : gw_L ls' nL (lv.set i (some x)) := by
  subst hl
  refine ⟨h.1, h.2.1, fun j v hj => ?_⟩
  by_cases e : i = j
  · subst e
    have hv : v = x := by
      rw [List.getElem?_set] at hj
      by_cases hi : i < lv.length
      · simp [hi] at hj; exact hj.symm
      · simp [hi] at hj
    subst hv
    exact h.2.2 (i, v) List.mem_cons_self
  · rw [List.getElem?_set_ne e] at hj
    refine h.2.2 (j, v) (List.mem_cons_of_mem _ (List.mem_filter.mpr ⟨(gw_l_mem lv 0 (j, v)).mpr ⟨j, by simp, hj⟩, ?_⟩))
    have e1 : (j == i) = false := by simpa using fun h => e h.symm
    have e2 : (j + 1 == i && v.category == 2) = false := by
      by_cases g : j + 1 = i
      · simp [gw_ok_ne hk g hj]
      · simp [g]
    simp only [e1, e2]; rfl
theorem gw_L.set2 {ls' : Array Slot} {nL i : Nat} {lv : List (Option Value)} {x : Value} {l' : List (Nat × Value)} (hk : gw_ok lv i = true) (hl : (i, x) :: (gw_l 0 lv).filter (fun q => !(q.1 == i) && (!(q.1 == i + 1) && !(q.1 + 1 == i && q.2.category == 2))) = l') (h : lv_has ls' nL l') : gw_L ls' nL ((lv.set i (some x)).set (i + 1) none) := by
  subst hl
  refine ⟨h.1, h.2.1, fun j v hj => ?_⟩
  by_cases e0 : i + 1 = j
  · subst e0
    rw [List.getElem?_set] at hj
    by_cases hi : i + 1 < (lv.set i (some x)).length
    · simp [hi] at hj
    · simp [hi] at hj
  rw [List.getElem?_set_ne e0] at hj
  by_cases e : i = j
  · subst e
    have hv : v = x := by
      rw [List.getElem?_set] at hj
      by_cases hi : i < lv.length
      · simp [hi] at hj; exact hj.symm
      · simp [hi] at hj
    subst hv
    exact h.2.2 (i, v) List.mem_cons_self
  · rw [List.getElem?_set_ne e] at hj
    refine h.2.2 (j, v) (List.mem_cons_of_mem _ (List.mem_filter.mpr ⟨(gw_l_mem lv 0 (j, v)).mpr ⟨j, by simp, hj⟩, ?_⟩))
    have e1 : (j == i) = false := by simpa using fun h => e h.symm
    have e3 : (j == i + 1) = false := by simpa using fun h => e0 h.symm
    have e2 : (j + 1 == i && v.category == 2) = false := by
      by_cases g : j + 1 = i
      · simp [gw_ok_ne hk g hj]
      · simp [g]
    simp only [e1, e2, e3]; rfl
/-- the locals with which a method begins -/
def gw_args : List Value → List (Option Value)
  | [] => []
  | v :: t => if v.category = 2 then some v :: none :: gw_args t else some v :: gw_args t
theorem gw_args_mem (vs : List Value) : ∀ (k i : Nat) (v : Value), (gw_args vs)[i]? = some (some v) → (k + i, v) ∈ lv_args k vs := by
  induction vs with
  | nil => intro k i v h; simp [gw_args] at h
  | cons a t ih =>
    intro k i v h
    by_cases hc : a.category = 2
    · simp only [gw_args, hc, if_true] at h
      match i, h with
      | 0, h => simp at h; subst h; simp [lv_args]
      | 1, h => simp at h
      | i + 2, h =>
        simp at h
        have h2 := ih (k + 2) i v h
        rw [show k + (i + 2) = k + 2 + i by omega]
        simp [lv_args, hc, h2]
    · simp only [gw_args, hc, if_false] at h
      match i, h with
      | 0, h => simp at h; subst h; simp [lv_args]
      | i + 1, h =>
        simp at h
        have h2 := ih (k + 1) i v h
        rw [show k + (i + 1) = k + 1 + i by omega]
        have h3 : a.category = 1 := by cases a <;> simp [Value.category] at hc ⊢
        simp [lv_args, h3, h2]
abbrev gw_Z : Type := Program → Env → State → MethodId → Array Value → List Frame → Method → Code → va_G → (Nat → Prop) → (State → Prop) → Prop
abbrev gw_Q : Type := Option Value → va_W → Prop
def gw_Qc (D : va_G) (A : Nat → Prop) (post : gw_Q) : Array Value → State → Outcome → State → Prop := fun _ st oc t => (∃ (r : Option Value) (w' : va_W), oc = .returned r ∧ post r w' ∧ va_P D vwCl w' t.heap ∧ va_D A w') ∧ va_F A st t
/-- the end of a method's walk: its contract's -/
def gw_R (κ : gw_K) (post : gw_Q) : gw_Z := fun _ _ s _ args below _ _ D A Q => Q = MQ below (gw_Qc D A post) args s κ.2.2.2.1.cells κ.2.2.2.1.slots A
def gw_W (l : Launch) (κ : gw_K) (cy : Nat → ClassId) (Z : gw_Z) (w : va_W) (n1 n2 pc : Nat) (lv : List (Option Value)) (st : List Value) : Prop :=
  ∀ (p : Program) (e : Env) (s : State) (m : MethodId) (args : Array Value) (below : List Frame) (meth : Method) (c : Code) (D : va_G) (A : Nat → Prop) (Q : State → Prop) (H : Heap) (locs : List Loc) (ls : Array Slot),
    gw_C κ cy p s m args meth c D A → Z p e s m args below meth c D A Q → va_P D vwCl w H → va_D A w → va_S A s.heap H locs → gw_L ls κ.2.2.1 lv → W p l e κ.2.2.2.1 s m args below meth c H locs n1 n2 Q (F0 m pc ls st)
/-- a method's contract: from the world w, with these arguments, it answers r and leaves w', so that post r w' -/
def gw_M (l : Launch) (κ : gw_K) (cy : Nat → ClassId) (av : List Value) (w : va_W) (post : gw_Q) : Prop :=
  ∀ (D : va_G) (sz : Nat), Met l κ.1 (gw_ws κ) κ.2.2.2.1 (va_Pc av (fun U => U.heap.size = sz ∧ va_P D vwCl w U.heap ∧ va_K D vwCl (gw_T cy) U ∧ gw_E U ∧ va_D (fun _ => True) w)) (gw_Qc D (va_A w sz) post) κ.2.2.2.1.cells κ.2.2.2.1.slots (va_A w sz)
theorem gw_M.mk {l : Launch} {κ : gw_K} {cy : Nat → ClassId} {av : List Value} {w : va_W} {post : gw_Q} {lv : List (Option Value)} (hy : plainName κ.1.cls = true) (hn : (lg_sl av).length ≤ κ.2.2.1) (hlv : gw_args av ++ List.replicate (κ.2.2.1 - (gw_args av).length) none = lv)
    (k : gw_W l κ cy (gw_R κ post) w 0 0 0 lv []) : gw_M l κ cy av w post := by
  intro D sz
  refine Met.ofW (cc := κ.2.1) (maxL := κ.2.2.1) (ret := κ.2.2.2.2) hy rfl ?_
  intro p e s m args below meth c s₁ B hml hv
  obtain ⟨rfl, hsz, hP, hK, hE, hD0⟩ := hv
  subst hsz
  have hl := lv_entry av (n := κ.2.2.1) hn
  rw [lg_entry_eq]
  generalize (lg_sl av ++ List.replicate (κ.2.2.1 - (lg_sl av).length) Slot.unset).toArray = ls at hl ⊢
  refine k p e s m _ below meth c D (va_A w s.heap.size) _ s.heap [] ls ⟨B.exec, B.bytes, B.returns, hml, findClass_of_methodNamed B.named, fun w hw => atoms_spec (ws := gw_ws κ) B.pre w (List.mem_cons_of_mem _ hw), B.notSynchronized, (name_of_methodNamed B.named B.method).1, hK, hE, fun q h => Or.inr h⟩ rfl hP hD0.self va_S.rf ⟨hl.1, hl.2.1, fun i v hi => ?_⟩
  subst hlv
  have hm : (gw_args av)[i]? = some (some v) := by
    by_cases hlt : i < (gw_args av).length
    · rwa [List.getElem?_append_left hlt] at hi
    · rw [List.getElem?_append_right (by omega), List.getElem?_replicate] at hi
      split at hi <;> simp at hi
  have := gw_args_mem av 0 i v hm
  rw [Nat.zero_add] at this
  exact hl.2.2 (i, v) this
section GW
variable {l : Launch} {κ : gw_K} {cy : Nat → ClassId} {Z : gw_Z} {w : va_W} {n1 n2 pc : Nat} {lv : List (Option Value)} {st : List Value}
theorem gw_W.rst {st' : List Value} (h : st = st') (k : gw_W l κ cy Z w n1 n2 pc lv st') : gw_W l κ cy Z w n1 n2 pc lv st := h ▸ k
theorem gw_W.wd {w' : va_W} (h : w = w') (k : gw_W l κ cy Z w' n1 n2 pc lv st) : gw_W l κ cy Z w n1 n2 pc lv st := h ▸ k
theorem gw_W.rlv {lv' : List (Option Value)} (h : lv = lv') (k : gw_W l κ cy Z w n1 n2 pc lv' st) : gw_W l κ cy Z w n1 n2 pc lv st := h ▸ k
theorem gw_W.widen {k1 k2 : Nat} (h1 : n1 ≤ k1) (h2 : n2 ≤ k2) (k : gw_W l κ cy Z w k1 k2 pc lv st) : gw_W l κ cy Z w n1 n2 pc lv st := fun p e s m args below meth c D A Q H locs ls C z hP hD hS hl => W.widen h1 h2 (k p e s m args below meth c D A Q H locs ls C z hP hD hS hl)
/-- less is known of the locals -/
theorem gw_W.less {lv' : List (Option Value)} (h : ∀ (i : Nat) (v : Value), lv'[i]? = some (some v) → lv[i]? = some (some v)) (k : gw_W l κ cy Z w n1 n2 pc lv' st) : gw_W l κ cy Z w n1 n2 pc lv st := fun p e s m args below meth c D A Q H locs ls C z hP hD hS hl => k p e s m args below meth c D A Q H locs ls C z hP hD hS ⟨hl.1, hl.2.1, fun i v hi => hl.2.2 i v (h i v hi)⟩
theorem gw_W.forget (i : Nat) (k : gw_W l κ cy Z w n1 n2 pc (lv.set i none) st) : gw_W l κ cy Z w n1 n2 pc lv st := gw_W.less (fun j v hj => by
  rw [List.getElem?_set] at hj
  split at hj
  · split at hj <;> simp at hj
  · exact hj) k
theorem gw_topi {x y : Int32} (h : x = y) (k : gw_W l κ cy Z w n1 n2 pc lv (.int y :: st)) : gw_W l κ cy Z w n1 n2 pc lv (.int x :: st) := h ▸ k
theorem gw_topl {x y : Int64} (h : x = y) (k : gw_W l κ cy Z w n1 n2 pc lv (.long y :: st)) : gw_W l κ cy Z w n1 n2 pc lv (.long x :: st) := h ▸ k
theorem gw_iconst {n : Int} {v : Int32} (hd : decode κ.2.1 pc = .ok (.iconst n, 1)) (hv : Int32.ofInt n = v) (k : gw_W l κ cy Z w n1 n2 (pc + 1) lv (.int v :: st)) : gw_W l κ cy Z w n1 n2 pc lv (st) := fun p e s m args below meth c D A Q H locs ls C z hP hD hS hl => lv_iconst C.1 C.2.1 hd hv (k p e s m args below meth c D A Q H locs ls C z hP hD hS hl)
theorem gw_bipush {n : Int} {v : Int32} (hd : decode κ.2.1 pc = .ok (.bipush n, 2)) (hv : (Int8.ofInt n).toInt32 = v) (k : gw_W l κ cy Z w n1 n2 (pc + 2) lv (.int v :: st)) : gw_W l κ cy Z w n1 n2 pc lv (st) := fun p e s m args below meth c D A Q H locs ls C z hP hD hS hl => lv_bipush C.1 C.2.1 hd hv (k p e s m args below meth c D A Q H locs ls C z hP hD hS hl)
theorem gw_sipush {n : Int} {v : Int32} (hd : decode κ.2.1 pc = .ok (.sipush n, 3)) (hv : (Int16.ofInt n).toInt32 = v) (k : gw_W l κ cy Z w n1 n2 (pc + 3) lv (.int v :: st)) : gw_W l κ cy Z w n1 n2 pc lv (st) := fun p e s m args below meth c D A Q H locs ls C z hP hD hS hl => lv_sipush C.1 C.2.1 hd hv (k p e s m args below meth c D A Q H locs ls C z hP hD hS hl)
theorem gw_lconst {n : Fin 2} {v : Int64} (hd : decode κ.2.1 pc = .ok (.lconst n, 1)) (hv : Int64.ofNat (n : Nat) = v) (k : gw_W l κ cy Z w n1 n2 (pc + 1) lv (.long v :: st)) : gw_W l κ cy Z w n1 n2 pc lv (st) := fun p e s m args below meth c D A Q H locs ls C z hP hD hS hl => lv_lconst C.1 C.2.1 hd hv (k p e s m args below meth c D A Q H locs ls C z hP hD hS hl)
theorem gw_ldc {i : Nat} {v : Int32} (hd : decode κ.2.1 pc = .ok (.ldc i, 2)) (hc : Cond.constant κ.1.cls i v ∈ gw_All) (k : gw_W l κ cy Z w n1 n2 (pc + 2) lv (.int v :: st)) : gw_W l κ cy Z w n1 n2 pc lv (st) := fun p e s m args below meth c D A Q H locs ls C z hP hD hS hl => lv_ldc C.1 C.2.1 C.2.2.2.2.1 (C.2.2.2.2.2.1 _ hc) hd (k p e s m args below meth c D A Q H locs ls C z hP hD hS hl)
theorem gw_ldcw {i : Nat} {v : Int32} (hd : decode κ.2.1 pc = .ok (.ldc_w i, 3)) (hc : Cond.constant κ.1.cls i v ∈ gw_All) (k : gw_W l κ cy Z w n1 n2 (pc + 3) lv (.int v :: st)) : gw_W l κ cy Z w n1 n2 pc lv (st) := fun p e s m args below meth c D A Q H locs ls C z hP hD hS hl => lv_ldcw C.1 C.2.1 C.2.2.2.2.1 (C.2.2.2.2.2.1 _ hc) hd (k p e s m args below meth c D A Q H locs ls C z hP hD hS hl)
theorem gw_ldc2 {i : Nat} {v : Int64} (hd : decode κ.2.1 pc = .ok (.ldc2_w i, 3)) (hc : Cond.constantLong κ.1.cls i v ∈ gw_All) (k : gw_W l κ cy Z w n1 n2 (pc + 3) lv (.long v :: st)) : gw_W l κ cy Z w n1 n2 pc lv (st) := fun p e s m args below meth c D A Q H locs ls C z hP hD hS hl => lv_ldc2 C.1 C.2.1 C.2.2.2.2.1 (C.2.2.2.2.2.1 _ hc) hd (k p e s m args below meth c D A Q H locs ls C z hP hD hS hl)
theorem gw_null (hd : decode κ.2.1 pc = .ok (.aconst_null, 1)) (k : gw_W l κ cy Z w n1 n2 (pc + 1) lv (.null :: st)) : gw_W l κ cy Z w n1 n2 pc lv (st) := fun p e s m args below meth c D A Q H locs ls C z hP hD hS hl => lv_null C.1 C.2.1 hd (k p e s m args below meth c D A Q H locs ls C z hP hD hS hl)
theorem gw_iload_n {j : Fin 4} {x : Int32} (hd : decode κ.2.1 pc = .ok (.iload_n j, 1)) (h : lv[(j : Nat)]? = some (some (.int x))) (k : gw_W l κ cy Z w n1 n2 (pc + 1) lv (.int x :: st)) : gw_W l κ cy Z w n1 n2 pc lv (st) := fun p e s m args below meth c D A Q H locs ls C z hP hD hS hl => lv_iload_n C.1 C.2.1 hd rfl (hl.2.2 _ _ h) (k p e s m args below meth c D A Q H locs ls C z hP hD hS hl)
theorem gw_iload {i : Nat} {x : Int32} (hd : decode κ.2.1 pc = .ok (.iload i, 2)) (h : lv[i]? = some (some (.int x))) (k : gw_W l κ cy Z w n1 n2 (pc + 2) lv (.int x :: st)) : gw_W l κ cy Z w n1 n2 pc lv (st) := fun p e s m args below meth c D A Q H locs ls C z hP hD hS hl => lv_iload C.1 C.2.1 hd (hl.2.2 _ _ h) (k p e s m args below meth c D A Q H locs ls C z hP hD hS hl)
theorem gw_lload_n {j : Fin 4} {x : Int64} (hd : decode κ.2.1 pc = .ok (.lload_n j, 1)) (h : lv[(j : Nat)]? = some (some (.long x))) (k : gw_W l κ cy Z w n1 n2 (pc + 1) lv (.long x :: st)) : gw_W l κ cy Z w n1 n2 pc lv (st) := fun p e s m args below meth c D A Q H locs ls C z hP hD hS hl => lv_lload_n C.1 C.2.1 hd rfl (hl.2.2 _ _ h) (k p e s m args below meth c D A Q H locs ls C z hP hD hS hl)
theorem gw_lload {i : Nat} {x : Int64} (hd : decode κ.2.1 pc = .ok (.lload i, 2)) (h : lv[i]? = some (some (.long x))) (k : gw_W l κ cy Z w n1 n2 (pc + 2) lv (.long x :: st)) : gw_W l κ cy Z w n1 n2 pc lv (st) := fun p e s m args below meth c D A Q H locs ls C z hP hD hS hl => lv_lload C.1 C.2.1 hd (hl.2.2 _ _ h) (k p e s m args below meth c D A Q H locs ls C z hP hD hS hl)
theorem gw_aload_n {j : Fin 4} {x : Nat} (hd : decode κ.2.1 pc = .ok (.aload_n j, 1)) (h : lv[(j : Nat)]? = some (some (.ref x))) (k : gw_W l κ cy Z w n1 n2 (pc + 1) lv (.ref x :: st)) : gw_W l κ cy Z w n1 n2 pc lv (st) := fun p e s m args below meth c D A Q H locs ls C z hP hD hS hl => lv_aload_n C.1 C.2.1 hd rfl (hl.2.2 _ _ h) (k p e s m args below meth c D A Q H locs ls C z hP hD hS hl)
theorem gw_aload {i : Nat} {x : Nat} (hd : decode κ.2.1 pc = .ok (.aload i, 2)) (h : lv[i]? = some (some (.ref x))) (k : gw_W l κ cy Z w n1 n2 (pc + 2) lv (.ref x :: st)) : gw_W l κ cy Z w n1 n2 pc lv (st) := fun p e s m args below meth c D A Q H locs ls C z hP hD hS hl => lv_aload C.1 C.2.1 hd (hl.2.2 _ _ h) (k p e s m args below meth c D A Q H locs ls C z hP hD hS hl)
theorem gw_aload_nN {j : Fin 4} (hd : decode κ.2.1 pc = .ok (.aload_n j, 1)) (h : lv[(j : Nat)]? = some (some .null)) (k : gw_W l κ cy Z w n1 n2 (pc + 1) lv (.null :: st)) : gw_W l κ cy Z w n1 n2 pc lv (st) := fun p e s m args below meth c D A Q H locs ls C z hP hD hS hl => lv_aload_nN C.1 C.2.1 hd rfl (hl.2.2 _ _ h) (k p e s m args below meth c D A Q H locs ls C z hP hD hS hl)
theorem gw_aloadN {i : Nat} (hd : decode κ.2.1 pc = .ok (.aload i, 2)) (h : lv[i]? = some (some .null)) (k : gw_W l κ cy Z w n1 n2 (pc + 2) lv (.null :: st)) : gw_W l κ cy Z w n1 n2 pc lv (st) := fun p e s m args below meth c D A Q H locs ls C z hP hD hS hl => lv_aloadN C.1 C.2.1 hd (hl.2.2 _ _ h) (k p e s m args below meth c D A Q H locs ls C z hP hD hS hl)
theorem gw_istore_n {j : Fin 4} {x : Int32} (hd : decode κ.2.1 pc = .ok (.istore_n j, 1)) (hn : (j : Nat) < κ.2.2.1) (ho : gw_ok lv (j : Nat) = true) (k : gw_W l κ cy Z w n1 n2 (pc + 1) (lv.set (j : Nat) (some (.int x))) st) : gw_W l κ cy Z w n1 n2 pc lv (.int x :: st) := fun p e s m args below meth c D A Q H locs ls C z hP hD hS hl => lv_istore_n C.1 C.2.1 hd rfl hl.has hn rfl (fun ls' hl' => k p e s m args below meth c D A Q H locs ls' C z hP hD hS (gw_L.set1 ho rfl hl'))
theorem gw_istore {i : Nat} {x : Int32} (hd : decode κ.2.1 pc = .ok (.istore i, 2)) (hn : i < κ.2.2.1) (ho : gw_ok lv i = true) (k : gw_W l κ cy Z w n1 n2 (pc + 2) (lv.set i (some (.int x))) st) : gw_W l κ cy Z w n1 n2 pc lv (.int x :: st) := fun p e s m args below meth c D A Q H locs ls C z hP hD hS hl => lv_istore C.1 C.2.1 hd  hl.has hn rfl (fun ls' hl' => k p e s m args below meth c D A Q H locs ls' C z hP hD hS (gw_L.set1 ho rfl hl'))
theorem gw_lstore_n {j : Fin 4} {x : Int64} (hd : decode κ.2.1 pc = .ok (.lstore_n j, 1)) (hn : (j : Nat) + 1 < κ.2.2.1) (ho : gw_ok lv (j : Nat) = true) (k : gw_W l κ cy Z w n1 n2 (pc + 1) ((lv.set (j : Nat) (some (.long x))).set ((j : Nat) + 1) none) st) : gw_W l κ cy Z w n1 n2 pc lv (.long x :: st) := fun p e s m args below meth c D A Q H locs ls C z hP hD hS hl => lv_lstore_n C.1 C.2.1 hd rfl hl.has hn rfl (fun ls' hl' => k p e s m args below meth c D A Q H locs ls' C z hP hD hS (gw_L.set2 ho rfl hl'))
theorem gw_lstore {i : Nat} {x : Int64} (hd : decode κ.2.1 pc = .ok (.lstore i, 2)) (hn : i + 1 < κ.2.2.1) (ho : gw_ok lv i = true) (k : gw_W l κ cy Z w n1 n2 (pc + 2) ((lv.set i (some (.long x))).set (i + 1) none) st) : gw_W l κ cy Z w n1 n2 pc lv (.long x :: st) := fun p e s m args below meth c D A Q H locs ls C z hP hD hS hl => lv_lstore C.1 C.2.1 hd  hl.has hn rfl (fun ls' hl' => k p e s m args below meth c D A Q H locs ls' C z hP hD hS (gw_L.set2 ho rfl hl'))
theorem gw_astore_n {j : Fin 4} {x : Nat} (hd : decode κ.2.1 pc = .ok (.astore_n j, 1)) (hn : (j : Nat) < κ.2.2.1) (ho : gw_ok lv (j : Nat) = true) (k : gw_W l κ cy Z w n1 n2 (pc + 1) (lv.set (j : Nat) (some (.ref x))) st) : gw_W l κ cy Z w n1 n2 pc lv (.ref x :: st) := fun p e s m args below meth c D A Q H locs ls C z hP hD hS hl => lv_astore_n C.1 C.2.1 hd rfl hl.has hn rfl (fun ls' hl' => k p e s m args below meth c D A Q H locs ls' C z hP hD hS (gw_L.set1 ho rfl hl'))
theorem gw_astore {i : Nat} {x : Nat} (hd : decode κ.2.1 pc = .ok (.astore i, 2)) (hn : i < κ.2.2.1) (ho : gw_ok lv i = true) (k : gw_W l κ cy Z w n1 n2 (pc + 2) (lv.set i (some (.ref x))) st) : gw_W l κ cy Z w n1 n2 pc lv (.ref x :: st) := fun p e s m args below meth c D A Q H locs ls C z hP hD hS hl => lv_astore C.1 C.2.1 hd  hl.has hn rfl (fun ls' hl' => k p e s m args below meth c D A Q H locs ls' C z hP hD hS (gw_L.set1 ho rfl hl'))
theorem gw_astore_nN {j : Fin 4} (hd : decode κ.2.1 pc = .ok (.astore_n j, 1)) (hn : (j : Nat) < κ.2.2.1) (ho : gw_ok lv (j : Nat) = true) (k : gw_W l κ cy Z w n1 n2 (pc + 1) (lv.set (j : Nat) (some (.null))) st) : gw_W l κ cy Z w n1 n2 pc lv (.null :: st) := fun p e s m args below meth c D A Q H locs ls C z hP hD hS hl => lv_astore_nN C.1 C.2.1 hd rfl hl.has hn rfl (fun ls' hl' => k p e s m args below meth c D A Q H locs ls' C z hP hD hS (gw_L.set1 ho rfl hl'))
theorem gw_astoreN {i : Nat} (hd : decode κ.2.1 pc = .ok (.astore i, 2)) (hn : i < κ.2.2.1) (ho : gw_ok lv i = true) (k : gw_W l κ cy Z w n1 n2 (pc + 2) (lv.set i (some (.null))) st) : gw_W l κ cy Z w n1 n2 pc lv (.null :: st) := fun p e s m args below meth c D A Q H locs ls C z hP hD hS hl => lv_astoreN C.1 C.2.1 hd  hl.has hn rfl (fun ls' hl' => k p e s m args below meth c D A Q H locs ls' C z hP hD hS (gw_L.set1 ho rfl hl'))
theorem gw_l_get {lv : List (Option Value)} {i : Nat} {v : Value} (h : lv[i]? = some (some v)) : ∃ k : Nat, (gw_l 0 lv)[k]? = some (i, v) := by
  have := (gw_l_mem lv 0 (i, v)).mpr ⟨i, by simp, h⟩
  exact List.getElem?_of_mem this
theorem gw_iinc {i : Nat} {n : Int} {x v : Int32} (hd : decode κ.2.1 pc = .ok (.iinc i n, 3)) (h : lv[i]? = some (some (.int x))) (hv : x + Int32.ofInt n = v) (hn : i < κ.2.2.1) (ho : gw_ok lv i = true) (k : gw_W l κ cy Z w n1 n2 (pc + 3) (lv.set i (some (.int v))) st) : gw_W l κ cy Z w n1 n2 pc lv st := fun p e s m args below meth c D A Q H locs ls C z hP hD hS hl => by
  obtain ⟨kk, hkk⟩ := gw_l_get h
  exact lv_iinc C.1 C.2.1 hd hl.has hkk hv hn rfl (fun ls' hl' => k p e s m args below meth c D A Q H locs ls' C z hP hD hS (gw_L.set1 ho rfl hl'))
theorem gw_iadd {x y : Int32} (hd : decode κ.2.1 pc = .ok (.iadd, 1)) (k : gw_W l κ cy Z w n1 n2 (pc + 1) lv (.int (x + y) :: st)) : gw_W l κ cy Z w n1 n2 pc lv (.int y :: .int x :: st) := fun p e s m args below meth c D A Q H locs ls C z hP hD hS hl => lv_iadd C.1 C.2.1 hd (k p e s m args below meth c D A Q H locs ls C z hP hD hS hl)
theorem gw_isub {x y : Int32} (hd : decode κ.2.1 pc = .ok (.isub, 1)) (k : gw_W l κ cy Z w n1 n2 (pc + 1) lv (.int (x - y) :: st)) : gw_W l κ cy Z w n1 n2 pc lv (.int y :: .int x :: st) := fun p e s m args below meth c D A Q H locs ls C z hP hD hS hl => lv_isub C.1 C.2.1 hd (k p e s m args below meth c D A Q H locs ls C z hP hD hS hl)
theorem gw_imul {x y : Int32} (hd : decode κ.2.1 pc = .ok (.imul, 1)) (k : gw_W l κ cy Z w n1 n2 (pc + 1) lv (.int (x * y) :: st)) : gw_W l κ cy Z w n1 n2 pc lv (.int y :: .int x :: st) := fun p e s m args below meth c D A Q H locs ls C z hP hD hS hl => lv_imul C.1 C.2.1 hd (k p e s m args below meth c D A Q H locs ls C z hP hD hS hl)
theorem gw_iand {x y : Int32} (hd : decode κ.2.1 pc = .ok (.iand, 1)) (k : gw_W l κ cy Z w n1 n2 (pc + 1) lv (.int (x &&& y) :: st)) : gw_W l κ cy Z w n1 n2 pc lv (.int y :: .int x :: st) := fun p e s m args below meth c D A Q H locs ls C z hP hD hS hl => lv_iand C.1 C.2.1 hd (k p e s m args below meth c D A Q H locs ls C z hP hD hS hl)
theorem gw_ior {x y : Int32} (hd : decode κ.2.1 pc = .ok (.ior, 1)) (k : gw_W l κ cy Z w n1 n2 (pc + 1) lv (.int (x ||| y) :: st)) : gw_W l κ cy Z w n1 n2 pc lv (.int y :: .int x :: st) := fun p e s m args below meth c D A Q H locs ls C z hP hD hS hl => lv_ior C.1 C.2.1 hd (k p e s m args below meth c D A Q H locs ls C z hP hD hS hl)
theorem gw_ixor {x y : Int32} (hd : decode κ.2.1 pc = .ok (.ixor, 1)) (k : gw_W l κ cy Z w n1 n2 (pc + 1) lv (.int (x ^^^ y) :: st)) : gw_W l κ cy Z w n1 n2 pc lv (.int y :: .int x :: st) := fun p e s m args below meth c D A Q H locs ls C z hP hD hS hl => lv_ixor C.1 C.2.1 hd (k p e s m args below meth c D A Q H locs ls C z hP hD hS hl)
theorem gw_ishl {x y : Int32} (hd : decode κ.2.1 pc = .ok (.ishl, 1)) (k : gw_W l κ cy Z w n1 n2 (pc + 1) lv (.int (x <<< (y &&& 31)) :: st)) : gw_W l κ cy Z w n1 n2 pc lv (.int y :: .int x :: st) := fun p e s m args below meth c D A Q H locs ls C z hP hD hS hl => lv_ishl C.1 C.2.1 hd (k p e s m args below meth c D A Q H locs ls C z hP hD hS hl)
theorem gw_ishr {x y : Int32} (hd : decode κ.2.1 pc = .ok (.ishr, 1)) (k : gw_W l κ cy Z w n1 n2 (pc + 1) lv (.int (x >>> (y &&& 31)) :: st)) : gw_W l κ cy Z w n1 n2 pc lv (.int y :: .int x :: st) := fun p e s m args below meth c D A Q H locs ls C z hP hD hS hl => lv_ishr C.1 C.2.1 hd (k p e s m args below meth c D A Q H locs ls C z hP hD hS hl)
theorem gw_iushr {x y v : Int32} (hd : decode κ.2.1 pc = .ok (.iushr, 1)) (hv : (x.toUInt32 >>> (y.toUInt32 &&& Int32.toUInt32 31)).toInt32 = v) (k : gw_W l κ cy Z w n1 n2 (pc + 1) lv (.int v :: st)) : gw_W l κ cy Z w n1 n2 pc lv (.int y :: .int x :: st) := fun p e s m args below meth c D A Q H locs ls C z hP hD hS hl => lv_iushr C.1 C.2.1 hd hv (k p e s m args below meth c D A Q H locs ls C z hP hD hS hl)
theorem gw_idiv {x y : Int32} (hd : decode κ.2.1 pc = .ok (.idiv, 1)) (hne : ¬ y = 0) (k : gw_W l κ cy Z w n1 n2 (pc + 1) lv (.int (x / y) :: st)) : gw_W l κ cy Z w n1 n2 pc lv (.int y :: .int x :: st) := fun p e s m args below meth c D A Q H locs ls C z hP hD hS hl => lv_idiv C.1 C.2.1 hd hne (k p e s m args below meth c D A Q H locs ls C z hP hD hS hl)
theorem gw_irem {x y : Int32} (hd : decode κ.2.1 pc = .ok (.irem, 1)) (hne : ¬ y = 0) (k : gw_W l κ cy Z w n1 n2 (pc + 1) lv (.int (x - x / y * y) :: st)) : gw_W l κ cy Z w n1 n2 pc lv (.int y :: .int x :: st) := fun p e s m args below meth c D A Q H locs ls C z hP hD hS hl => lv_irem C.1 C.2.1 hd hne (k p e s m args below meth c D A Q H locs ls C z hP hD hS hl)
theorem gw_ineg {x : Int32} (hd : decode κ.2.1 pc = .ok (.ineg, 1)) (k : gw_W l κ cy Z w n1 n2 (pc + 1) lv (.int (-x) :: st)) : gw_W l κ cy Z w n1 n2 pc lv (.int x :: st) := fun p e s m args below meth c D A Q H locs ls C z hP hD hS hl => lv_ineg C.1 C.2.1 hd (k p e s m args below meth c D A Q H locs ls C z hP hD hS hl)
theorem gw_ladd {x y : Int64} (hd : decode κ.2.1 pc = .ok (.ladd, 1)) (k : gw_W l κ cy Z w n1 n2 (pc + 1) lv (.long (x + y) :: st)) : gw_W l κ cy Z w n1 n2 pc lv (.long y :: .long x :: st) := fun p e s m args below meth c D A Q H locs ls C z hP hD hS hl => lv_ladd C.1 C.2.1 hd (k p e s m args below meth c D A Q H locs ls C z hP hD hS hl)
theorem gw_lsub {x y : Int64} (hd : decode κ.2.1 pc = .ok (.lsub, 1)) (k : gw_W l κ cy Z w n1 n2 (pc + 1) lv (.long (x - y) :: st)) : gw_W l κ cy Z w n1 n2 pc lv (.long y :: .long x :: st) := fun p e s m args below meth c D A Q H locs ls C z hP hD hS hl => lv_lsub C.1 C.2.1 hd (k p e s m args below meth c D A Q H locs ls C z hP hD hS hl)
theorem gw_lmul {x y : Int64} (hd : decode κ.2.1 pc = .ok (.lmul, 1)) (k : gw_W l κ cy Z w n1 n2 (pc + 1) lv (.long (x * y) :: st)) : gw_W l κ cy Z w n1 n2 pc lv (.long y :: .long x :: st) := fun p e s m args below meth c D A Q H locs ls C z hP hD hS hl => lv_lmul C.1 C.2.1 hd (k p e s m args below meth c D A Q H locs ls C z hP hD hS hl)
theorem gw_ldiv {x y : Int64} (hd : decode κ.2.1 pc = .ok (.ldiv, 1)) (hne : ¬ y = 0) (k : gw_W l κ cy Z w n1 n2 (pc + 1) lv (.long (x / y) :: st)) : gw_W l κ cy Z w n1 n2 pc lv (.long y :: .long x :: st) := fun p e s m args below meth c D A Q H locs ls C z hP hD hS hl => lv_ldiv C.1 C.2.1 hd hne (k p e s m args below meth c D A Q H locs ls C z hP hD hS hl)
theorem gw_lneg {x : Int64} (hd : decode κ.2.1 pc = .ok (.lneg, 1)) (k : gw_W l κ cy Z w n1 n2 (pc + 1) lv (.long (-x) :: st)) : gw_W l κ cy Z w n1 n2 pc lv (.long x :: st) := fun p e s m args below meth c D A Q H locs ls C z hP hD hS hl => lv_lneg C.1 C.2.1 hd (k p e s m args below meth c D A Q H locs ls C z hP hD hS hl)
theorem gw_lcmp {x y : Int64} (hd : decode κ.2.1 pc = .ok (.lcmp, 1)) (k : gw_W l κ cy Z w n1 n2 (pc + 1) lv (.int (lg_cmp x y) :: st)) : gw_W l κ cy Z w n1 n2 pc lv (.long y :: .long x :: st) := fun p e s m args below meth c D A Q H locs ls C z hP hD hS hl => W.lcmp C.1 C.2.1 hd (k p e s m args below meth c D A Q H locs ls C z hP hD hS hl)
theorem gw_i2l {x : Int32} {v : Int64} (hd : decode κ.2.1 pc = .ok (.i2l, 1)) (hv : x.toInt64 = v) (k : gw_W l κ cy Z w n1 n2 (pc + 1) lv (.long v :: st)) : gw_W l κ cy Z w n1 n2 pc lv (.int x :: st) := fun p e s m args below meth c D A Q H locs ls C z hP hD hS hl => lv_i2l C.1 C.2.1 hd hv (k p e s m args below meth c D A Q H locs ls C z hP hD hS hl)
theorem gw_i2b {x v : Int32} (hd : decode κ.2.1 pc = .ok (.i2b, 1)) (hv : x.toInt8.toInt32 = v) (k : gw_W l κ cy Z w n1 n2 (pc + 1) lv (.int v :: st)) : gw_W l κ cy Z w n1 n2 pc lv (.int x :: st) := fun p e s m args below meth c D A Q H locs ls C z hP hD hS hl => lv_i2b C.1 C.2.1 hd hv (k p e s m args below meth c D A Q H locs ls C z hP hD hS hl)
theorem gw_i2s {x v : Int32} (hd : decode κ.2.1 pc = .ok (.i2s, 1)) (hv : x.toInt16.toInt32 = v) (k : gw_W l κ cy Z w n1 n2 (pc + 1) lv (.int v :: st)) : gw_W l κ cy Z w n1 n2 pc lv (.int x :: st) := fun p e s m args below meth c D A Q H locs ls C z hP hD hS hl => lv_i2s C.1 C.2.1 hd hv (k p e s m args below meth c D A Q H locs ls C z hP hD hS hl)
theorem gw_dup {va : Value} (hd : decode κ.2.1 pc = .ok (.dup, 1)) (hva : va.category = 1) (k : gw_W l κ cy Z w n1 n2 (pc + 1) lv (va :: va :: st)) : gw_W l κ cy Z w n1 n2 pc lv (va :: st) := fun p e s m args below meth c D A Q H locs ls C z hP hD hS hl => lv_dup C.1 C.2.1 hd hva (k p e s m args below meth c D A Q H locs ls C z hP hD hS hl)
theorem gw_dup2 {va vb : Value} (hd : decode κ.2.1 pc = .ok (.dup2, 1)) (hva : va.category = 1) (hvb : vb.category = 1) (k : gw_W l κ cy Z w n1 n2 (pc + 1) lv (va :: vb :: va :: vb :: st)) : gw_W l κ cy Z w n1 n2 pc lv (va :: vb :: st) := fun p e s m args below meth c D A Q H locs ls C z hP hD hS hl => lv_dup2_11 C.1 C.2.1 hd hva hvb (k p e s m args below meth c D A Q H locs ls C z hP hD hS hl)
theorem gw_dup2L {va : Value} (hd : decode κ.2.1 pc = .ok (.dup2, 1)) (hva : va.category = 2) (k : gw_W l κ cy Z w n1 n2 (pc + 1) lv (va :: va :: st)) : gw_W l κ cy Z w n1 n2 pc lv (va :: st) := fun p e s m args below meth c D A Q H locs ls C z hP hD hS hl => lv_dup2_2 C.1 C.2.1 hd hva (k p e s m args below meth c D A Q H locs ls C z hP hD hS hl)
theorem gw_if_eq {x : Int32} {off : Int} {tgt : Nat} (hd : decode κ.2.1 pc = .ok (.ifCond .eq off, 3)) (ht : (pc : Int) + off = (tgt : Int)) (kt : x = 0 → gw_W l κ cy Z w n1 n2 tgt lv st) (kf : ¬ x = 0 → gw_W l κ cy Z w n1 n2 (pc + 3) lv st) : gw_W l κ cy Z w n1 n2 pc lv (.int x :: st) := fun p e s m args below meth c D A Q H locs ls C z hP hD hS hl => lv_if_eq C.1 C.2.1 hd ht (fun h => kt h p e s m args below meth c D A Q H locs ls C z hP hD hS hl) (fun h => kf h p e s m args below meth c D A Q H locs ls C z hP hD hS hl)
theorem gw_icmp_eq {x y : Int32} {off : Int} {tgt : Nat} (hd : decode κ.2.1 pc = .ok (.if_icmp .eq off, 3)) (ht : (pc : Int) + off = (tgt : Int)) (kt : x = y → gw_W l κ cy Z w n1 n2 tgt lv st) (kf : ¬ x = y → gw_W l κ cy Z w n1 n2 (pc + 3) lv st) : gw_W l κ cy Z w n1 n2 pc lv (.int y :: .int x :: st) := fun p e s m args below meth c D A Q H locs ls C z hP hD hS hl => lv_icmp_eq C.1 C.2.1 hd ht (fun h => kt h p e s m args below meth c D A Q H locs ls C z hP hD hS hl) (fun h => kf h p e s m args below meth c D A Q H locs ls C z hP hD hS hl)
theorem gw_if_ne {x : Int32} {off : Int} {tgt : Nat} (hd : decode κ.2.1 pc = .ok (.ifCond .ne off, 3)) (ht : (pc : Int) + off = (tgt : Int)) (kt : ¬ x = 0 → gw_W l κ cy Z w n1 n2 tgt lv st) (kf : x = 0 → gw_W l κ cy Z w n1 n2 (pc + 3) lv st) : gw_W l κ cy Z w n1 n2 pc lv (.int x :: st) := fun p e s m args below meth c D A Q H locs ls C z hP hD hS hl => lv_if_ne C.1 C.2.1 hd ht (fun h => kt h p e s m args below meth c D A Q H locs ls C z hP hD hS hl) (fun h => kf h p e s m args below meth c D A Q H locs ls C z hP hD hS hl)
theorem gw_icmp_ne {x y : Int32} {off : Int} {tgt : Nat} (hd : decode κ.2.1 pc = .ok (.if_icmp .ne off, 3)) (ht : (pc : Int) + off = (tgt : Int)) (kt : ¬ x = y → gw_W l κ cy Z w n1 n2 tgt lv st) (kf : x = y → gw_W l κ cy Z w n1 n2 (pc + 3) lv st) : gw_W l κ cy Z w n1 n2 pc lv (.int y :: .int x :: st) := fun p e s m args below meth c D A Q H locs ls C z hP hD hS hl => lv_icmp_ne C.1 C.2.1 hd ht (fun h => kt h p e s m args below meth c D A Q H locs ls C z hP hD hS hl) (fun h => kf h p e s m args below meth c D A Q H locs ls C z hP hD hS hl)
theorem gw_if_lt {x : Int32} {off : Int} {tgt : Nat} (hd : decode κ.2.1 pc = .ok (.ifCond .lt off, 3)) (ht : (pc : Int) + off = (tgt : Int)) (kt : x < 0 → gw_W l κ cy Z w n1 n2 tgt lv st) (kf : ¬ x < 0 → gw_W l κ cy Z w n1 n2 (pc + 3) lv st) : gw_W l κ cy Z w n1 n2 pc lv (.int x :: st) := fun p e s m args below meth c D A Q H locs ls C z hP hD hS hl => lv_if_lt C.1 C.2.1 hd ht (fun h => kt h p e s m args below meth c D A Q H locs ls C z hP hD hS hl) (fun h => kf h p e s m args below meth c D A Q H locs ls C z hP hD hS hl)
theorem gw_icmp_lt {x y : Int32} {off : Int} {tgt : Nat} (hd : decode κ.2.1 pc = .ok (.if_icmp .lt off, 3)) (ht : (pc : Int) + off = (tgt : Int)) (kt : x < y → gw_W l κ cy Z w n1 n2 tgt lv st) (kf : ¬ x < y → gw_W l κ cy Z w n1 n2 (pc + 3) lv st) : gw_W l κ cy Z w n1 n2 pc lv (.int y :: .int x :: st) := fun p e s m args below meth c D A Q H locs ls C z hP hD hS hl => lv_icmp_lt C.1 C.2.1 hd ht (fun h => kt h p e s m args below meth c D A Q H locs ls C z hP hD hS hl) (fun h => kf h p e s m args below meth c D A Q H locs ls C z hP hD hS hl)
theorem gw_if_ge {x : Int32} {off : Int} {tgt : Nat} (hd : decode κ.2.1 pc = .ok (.ifCond .ge off, 3)) (ht : (pc : Int) + off = (tgt : Int)) (kt : 0 ≤ x → gw_W l κ cy Z w n1 n2 tgt lv st) (kf : ¬ 0 ≤ x → gw_W l κ cy Z w n1 n2 (pc + 3) lv st) : gw_W l κ cy Z w n1 n2 pc lv (.int x :: st) := fun p e s m args below meth c D A Q H locs ls C z hP hD hS hl => lv_if_ge C.1 C.2.1 hd ht (fun h => kt h p e s m args below meth c D A Q H locs ls C z hP hD hS hl) (fun h => kf h p e s m args below meth c D A Q H locs ls C z hP hD hS hl)
theorem gw_icmp_ge {x y : Int32} {off : Int} {tgt : Nat} (hd : decode κ.2.1 pc = .ok (.if_icmp .ge off, 3)) (ht : (pc : Int) + off = (tgt : Int)) (kt : y ≤ x → gw_W l κ cy Z w n1 n2 tgt lv st) (kf : ¬ y ≤ x → gw_W l κ cy Z w n1 n2 (pc + 3) lv st) : gw_W l κ cy Z w n1 n2 pc lv (.int y :: .int x :: st) := fun p e s m args below meth c D A Q H locs ls C z hP hD hS hl => lv_icmp_ge C.1 C.2.1 hd ht (fun h => kt h p e s m args below meth c D A Q H locs ls C z hP hD hS hl) (fun h => kf h p e s m args below meth c D A Q H locs ls C z hP hD hS hl)
theorem gw_if_gt {x : Int32} {off : Int} {tgt : Nat} (hd : decode κ.2.1 pc = .ok (.ifCond .gt off, 3)) (ht : (pc : Int) + off = (tgt : Int)) (kt : 0 < x → gw_W l κ cy Z w n1 n2 tgt lv st) (kf : ¬ 0 < x → gw_W l κ cy Z w n1 n2 (pc + 3) lv st) : gw_W l κ cy Z w n1 n2 pc lv (.int x :: st) := fun p e s m args below meth c D A Q H locs ls C z hP hD hS hl => lv_if_gt C.1 C.2.1 hd ht (fun h => kt h p e s m args below meth c D A Q H locs ls C z hP hD hS hl) (fun h => kf h p e s m args below meth c D A Q H locs ls C z hP hD hS hl)
theorem gw_icmp_gt {x y : Int32} {off : Int} {tgt : Nat} (hd : decode κ.2.1 pc = .ok (.if_icmp .gt off, 3)) (ht : (pc : Int) + off = (tgt : Int)) (kt : y < x → gw_W l κ cy Z w n1 n2 tgt lv st) (kf : ¬ y < x → gw_W l κ cy Z w n1 n2 (pc + 3) lv st) : gw_W l κ cy Z w n1 n2 pc lv (.int y :: .int x :: st) := fun p e s m args below meth c D A Q H locs ls C z hP hD hS hl => lv_icmp_gt C.1 C.2.1 hd ht (fun h => kt h p e s m args below meth c D A Q H locs ls C z hP hD hS hl) (fun h => kf h p e s m args below meth c D A Q H locs ls C z hP hD hS hl)
theorem gw_if_le {x : Int32} {off : Int} {tgt : Nat} (hd : decode κ.2.1 pc = .ok (.ifCond .le off, 3)) (ht : (pc : Int) + off = (tgt : Int)) (kt : x ≤ 0 → gw_W l κ cy Z w n1 n2 tgt lv st) (kf : ¬ x ≤ 0 → gw_W l κ cy Z w n1 n2 (pc + 3) lv st) : gw_W l κ cy Z w n1 n2 pc lv (.int x :: st) := fun p e s m args below meth c D A Q H locs ls C z hP hD hS hl => lv_if_le C.1 C.2.1 hd ht (fun h => kt h p e s m args below meth c D A Q H locs ls C z hP hD hS hl) (fun h => kf h p e s m args below meth c D A Q H locs ls C z hP hD hS hl)
theorem gw_icmp_le {x y : Int32} {off : Int} {tgt : Nat} (hd : decode κ.2.1 pc = .ok (.if_icmp .le off, 3)) (ht : (pc : Int) + off = (tgt : Int)) (kt : x ≤ y → gw_W l κ cy Z w n1 n2 tgt lv st) (kf : ¬ x ≤ y → gw_W l κ cy Z w n1 n2 (pc + 3) lv st) : gw_W l κ cy Z w n1 n2 pc lv (.int y :: .int x :: st) := fun p e s m args below meth c D A Q H locs ls C z hP hD hS hl => lv_icmp_le C.1 C.2.1 hd ht (fun h => kt h p e s m args below meth c D A Q H locs ls C z hP hD hS hl) (fun h => kf h p e s m args below meth c D A Q H locs ls C z hP hD hS hl)
theorem gw_goto {off : Int} {tgt : Nat} (hd : decode κ.2.1 pc = .ok (.goto off, 3)) (ht : (pc : Int) + off = (tgt : Int)) (k : gw_W l κ cy Z w n1 n2 tgt lv st) : gw_W l κ cy Z w n1 n2 pc lv st := fun p e s m args below meth c D A Q H locs ls C z hP hD hS hl => lv_goto C.1 C.2.1 hd ht (k p e s m args below meth c D A Q H locs ls C z hP hD hS hl)
theorem gw_ifnull {x : Nat} {off : Int} (hd : decode κ.2.1 pc = .ok (.ifnull off, 3)) (k : gw_W l κ cy Z w n1 n2 (pc + 3) lv st) : gw_W l κ cy Z w n1 n2 pc lv (.ref x :: st) := fun p e s m args below meth c D A Q H locs ls C z hP hD hS hl => lv_ifnull C.1 C.2.1 hd (k p e s m args below meth c D A Q H locs ls C z hP hD hS hl)
theorem gw_ifnonnull {x : Nat} {off : Int} {tgt : Nat} (hd : decode κ.2.1 pc = .ok (.ifnonnull off, 3)) (ht : (pc : Int) + off = (tgt : Int)) (k : gw_W l κ cy Z w n1 n2 tgt lv st) : gw_W l κ cy Z w n1 n2 pc lv (.ref x :: st) := fun p e s m args below meth c D A Q H locs ls C z hP hD hS hl => lv_ifnonnull C.1 C.2.1 hd ht (k p e s m args below meth c D A Q H locs ls C z hP hD hS hl)
theorem gw_ifnullN {off : Int} {tgt : Nat} (hd : decode κ.2.1 pc = .ok (.ifnull off, 3)) (ht : (pc : Int) + off = (tgt : Int)) (k : gw_W l κ cy Z w n1 n2 tgt lv st) : gw_W l κ cy Z w n1 n2 pc lv (.null :: st) := fun p e s m args below meth c D A Q H locs ls C z hP hD hS hl => lv_ifnullN C.1 C.2.1 hd ht (k p e s m args below meth c D A Q H locs ls C z hP hD hS hl)
theorem gw_ifnonnullN {off : Int} (hd : decode κ.2.1 pc = .ok (.ifnonnull off, 3)) (k : gw_W l κ cy Z w n1 n2 (pc + 3) lv st) : gw_W l κ cy Z w n1 n2 pc lv (.null :: st) := fun p e s m args below meth c D A Q H locs ls C z hP hD hS hl => lv_ifnonnullN C.1 C.2.1 hd (k p e s m args below meth c D A Q H locs ls C z hP hD hS hl)
theorem gw_tableIn {dflt lo hi : Int} {offs : Array Int} {len : Nat} {x : Int32} {off : Int} {tgt : Nat} (hd : decode κ.2.1 pc = .ok (.tableswitch dflt lo hi offs, len)) (h1 : ¬ x.toInt < lo) (h2 : ¬ hi < x.toInt) (ho : offs[(x.toInt - lo).toNat]? = some off) (ht : (pc : Int) + off = (tgt : Int)) (k : gw_W l κ cy Z w n1 n2 tgt lv st) : gw_W l κ cy Z w n1 n2 pc lv (.int x :: st) := fun p e s m args below meth c D A Q H locs ls C z hP hD hS hl => lv_tableIn C.1 C.2.1 hd h1 h2 ho ht (k p e s m args below meth c D A Q H locs ls C z hP hD hS hl)
theorem gw_tableOut {dflt lo hi : Int} {offs : Array Int} {len : Nat} {x : Int32} {tgt : Nat} (hd : decode κ.2.1 pc = .ok (.tableswitch dflt lo hi offs, len)) (h : x.toInt < lo ∨ hi < x.toInt) (ht : (pc : Int) + dflt = (tgt : Int)) (k : gw_W l κ cy Z w n1 n2 tgt lv st) : gw_W l κ cy Z w n1 n2 pc lv (.int x :: st) := fun p e s m args below meth c D A Q H locs ls C z hP hD hS hl => lv_tableOut C.1 C.2.1 hd h ht (k p e s m args below meth c D A Q H locs ls C z hP hD hS hl)
theorem gw_lookup {dflt : Int} {ps : Array (Int × Int)} {len : Nat} {x : Int32} {off : Int} {tgt : Nat} (hd : decode κ.2.1 pc = .ok (.lookupswitch dflt ps, len)) (hp : (ps.toList.zip (ps.toList.drop 1)).all (fun (a, next) => a.1 < next.1) = true) (ho : Op.lookupswitch.offset ps.toList dflt x.toInt = off) (ht : (pc : Int) + off = (tgt : Int)) (k : gw_W l κ cy Z w n1 n2 tgt lv st) : gw_W l κ cy Z w n1 n2 pc lv (.int x :: st) := fun p e s m args below meth c D A Q H locs ls C z hP hD hS hl => lv_lookup C.1 C.2.1 hd hp ho ht (k p e s m args below meth c D A Q H locs ls C z hP hD hS hl)
end GW
end
section
section GWH
variable {l : Launch} {κ : gw_K} {cy : Nat → ClassId} {Z : gw_Z} {w : va_W} {n1 n2 pc : Nat} {lv : List (Option Value)} {st : List Value}
/-- a field under the name of the class that the code speaks of -/
def gw_same (ws : List Cond) (ref own name desc : String) : Prop := ref = own ∨ Cond.sameField ref own name desc ∈ ws
theorem gw_same.use {ws : List Cond} {ref own name desc : String} (h : gw_same ws ref own name desc) {args : Array Value} {s : State} (hts : ∀ w ∈ ws, w.before args s = true) : ∀ x, s.fieldFound? own name desc = some x → s.fieldFound? ref name desc = some x := by
  intro x hx
  rcases h with h | h
  · rw [h]; exact hx
  · exact u_same (hts _ h) x hx
theorem gw_get {a ci index N : Nat} {ref C0 : String} {T : u_T} {fs : List Value} (q0 : Nat) (he : w[q0]? = some (a, .inr (ci, fs))) (hc : vwCl[ci]? = some (C0, T, N)) (hin : ∀ x ∈ u_ws C0 T N, x ∈ gw_All) (f : Nat) (hf : f < N) (hk : Cond.fieldLink κ.1.cls index ref (T f).2.1 (T f).2.2.1 ∈ gw_All) (hs : gw_same gw_All ref (T f).1 (T f).2.1 (T f).2.2.1) {v : Value} (hv : fs[f]? = some v) (hd : decode κ.2.1 pc = .ok (.getfield index, 3)) (k : gw_W l κ cy Z w n1 n2 (pc + 3) lv (v :: st)) : gw_W l κ cy Z w n1 n2 pc lv (.ref a :: st) := fun p e s m args below meth c D A Q H locs ls C z hP hD hS hl => va_get C.1 C.2.1 C.2.2.2.2.2.1 hin C.2.2.2.2.1 C.2.2.2.2.2.2.2.2.1 hP q0 he hc f hf (C.2.2.2.2.2.1 _ hk) (hs.use C.2.2.2.2.2.1) hv hd (k p e s m args below meth c D A Q H locs ls C z hP hD hS hl)
theorem gw_getN {a ci index N : Nat} {ref C0 : String} {T : u_T} {fs : List Value} (q0 : Nat) (he : w[q0]? = some (a, .inr (ci, fs))) (hc : vwCl[ci]? = some (C0, T, N)) (hin : ∀ x ∈ u_ws C0 T N, x ∈ gw_All) (f : Nat) (hf : f < N) {host : String} (hk : Cond.fieldLinkNest κ.1.cls index ref (T f).2.1 (T f).2.2.1 host ∈ gw_N) (hs : gw_same gw_All ref (T f).1 (T f).2.1 (T f).2.2.1) {v : Value} (hv : fs[f]? = some v) (hd : decode κ.2.1 pc = .ok (.getfield index, 3)) (k : gw_W l κ cy Z w n1 n2 (pc + 3) lv (v :: st)) : gw_W l κ cy Z w n1 n2 pc lv (.ref a :: st) := fun p e s m args below meth c D A Q H locs ls C z hP hD hS hl => va_getN C.1 C.2.1 C.2.2.2.2.2.1 hin C.2.2.2.2.1 C.2.2.2.2.2.2.2.2.1 hP q0 he hc f hf (va_Nw.use rfl (C.2.2.2.2.2.2.2.2.2.1.1 _ hk)) (hs.use C.2.2.2.2.2.1) hv hd (k p e s m args below meth c D A Q H locs ls C z hP hD hS hl)
theorem gw_put {a ci index N : Nat} {ref C0 : String} {T : u_T} {fs : List Value} (q0 : Nat) (he : w[q0]? = some (a, .inr (ci, fs))) (hc : vwCl[ci]? = some (C0, T, N)) (hin : ∀ x ∈ u_ws C0 T N, x ∈ gw_All) (f : Nat) (hf : f < N) (ty0 : Nat → FieldType) (hty : ∀ k, k < N → parseFieldDescriptor (T k).2.2.1 = some (ty0 k)) (hnm : ∀ a, a < N → ∀ b, b < N → a ≠ b → (T a).2.1 ≠ (T b).2.1) (hk : Cond.fieldLink κ.1.cls index ref (T f).2.1 (T f).2.2.1 ∈ gw_All) (hs : gw_same gw_All ref (T f).1 (T f).2.1 (T f).2.2.1) (hfin : (T f).2.2.2 = false) {ty : FieldType} {v : Value} (hde : parseFieldDescriptor (T f).2.2.1 = some ty) (hn : narrow ty v = v) (hfit : fits ty v = true) (hfl : f < fs.length) (hd : decode κ.2.1 pc = .ok (.putfield index, 3)) (k : gw_W l κ cy Z (w.set q0 (a, .inr (ci, fs.set f v))) n1 n2 (pc + 3) lv st) : gw_W l κ cy Z w n1 n2 pc lv (v :: .ref a :: st) := fun p e s m args below meth c D A Q H locs ls C z hP hD hS hl => va_put C.1 C.2.1 C.2.2.2.2.2.1 hin ty0 hty hnm C.2.2.2.2.1 C.2.2.2.2.2.2.2.2.1 hP hD hS q0 he hc f hf (C.2.2.2.2.2.1 _ hk) (hs.use C.2.2.2.2.2.1) hfin hde hn hfit hfl hd (fun H1 locs1 hP' hD' hS' => k p e s m args below meth c D A Q H1 locs1 ls C z hP' hD' hS' hl)
theorem gw_putN {a ci index N : Nat} {ref C0 : String} {T : u_T} {fs : List Value} (q0 : Nat) (he : w[q0]? = some (a, .inr (ci, fs))) (hc : vwCl[ci]? = some (C0, T, N)) (hin : ∀ x ∈ u_ws C0 T N, x ∈ gw_All) (f : Nat) (hf : f < N) (ty0 : Nat → FieldType) (hty : ∀ k, k < N → parseFieldDescriptor (T k).2.2.1 = some (ty0 k)) (hnm : ∀ a, a < N → ∀ b, b < N → a ≠ b → (T a).2.1 ≠ (T b).2.1) {host : String} (hk : Cond.fieldLinkNest κ.1.cls index ref (T f).2.1 (T f).2.2.1 host ∈ gw_N) (hs : gw_same gw_All ref (T f).1 (T f).2.1 (T f).2.2.1) (hfin : (T f).2.2.2 = false) {ty : FieldType} {v : Value} (hde : parseFieldDescriptor (T f).2.2.1 = some ty) (hn : narrow ty v = v) (hfit : fits ty v = true) (hfl : f < fs.length) (hd : decode κ.2.1 pc = .ok (.putfield index, 3)) (k : gw_W l κ cy Z (w.set q0 (a, .inr (ci, fs.set f v))) n1 n2 (pc + 3) lv st) : gw_W l κ cy Z w n1 n2 pc lv (v :: .ref a :: st) := fun p e s m args below meth c D A Q H locs ls C z hP hD hS hl => va_putN C.1 C.2.1 C.2.2.2.2.2.1 hin ty0 hty hnm C.2.2.2.2.1 C.2.2.2.2.2.2.2.2.1 hP hD hS q0 he hc f hf (va_Nw.use rfl (C.2.2.2.2.2.2.2.2.2.1.1 _ hk)) (hs.use C.2.2.2.2.2.1) hfin hde hn hfit hfl hd (fun H1 locs1 hP' hD' hS' => k p e s m args below meth c D A Q H1 locs1 ls C z hP' hD' hS' hl)
theorem gw_putF {a ci index N : Nat} {ref C0 : String} {T : u_T} {fs : List Value} (q0 : Nat) (he : w[q0]? = some (a, .inr (ci, fs))) (hc : vwCl[ci]? = some (C0, T, N)) (hin : ∀ x ∈ u_ws C0 T N, x ∈ gw_All) (f : Nat) (hf : f < N) (ty0 : Nat → FieldType) (hty : ∀ k, k < N → parseFieldDescriptor (T k).2.2.1 = some (ty0 k)) (hnm : ∀ a, a < N → ∀ b, b < N → a ≠ b → (T a).2.1 ≠ (T b).2.1) (hk : Cond.fieldLink κ.1.cls index ref (T f).2.1 (T f).2.2.1 ∈ gw_All) (hs : gw_same gw_All ref (T f).1 (T f).2.1 (T f).2.2.1) (hfin : (T f).2.2.2 = true) (hi : κ.1.name = "<init>") (hdc : (T f).1 = κ.1.cls) {ty : FieldType} {v : Value} (hde : parseFieldDescriptor (T f).2.2.1 = some ty) (hn : narrow ty v = v) (hfit : fits ty v = true) (hfl : f < fs.length) (hd : decode κ.2.1 pc = .ok (.putfield index, 3)) (k : gw_W l κ cy Z (w.set q0 (a, .inr (ci, fs.set f v))) n1 n2 (pc + 3) lv st) : gw_W l κ cy Z w n1 n2 pc lv (v :: .ref a :: st) := fun p e s m args below meth c D A Q H locs ls C z hP hD hS hl => va_putF C.1 C.2.1 C.2.2.2.2.2.1 hin ty0 hty hnm C.2.2.2.2.1 C.2.2.2.2.2.2.2.2.1 hP hD hS q0 he hc f hf (C.2.2.2.2.2.1 _ hk) (hs.use C.2.2.2.2.2.1) hfin (C.2.2.2.2.2.2.2.1.trans hi) hdc hde hn hfit hfl hd (fun H1 locs1 hP' hD' hS' => k p e s m args below meth c D A Q H1 locs1 ls C z hP' hD' hS' hl)
theorem gw_iald {a N j : Nat} {f : Nat → Int32} {i : Int32} (q0 : Nat) (ha : w[q0]? = some (a, .inl (cy 0, N, .inl f))) (hi : i = nI j) (hj : j < N) (hN : N < 2 ^ 31) (hd : decode κ.2.1 pc = .ok (.iaload, 1)) (k : gw_W l κ cy Z w n1 n2 (pc + 1) lv (.int (f j) :: st)) : gw_W l κ cy Z w n1 n2 pc lv (.int i :: .ref a :: st) := by
  subst hi
  exact fun p e s m args below meth c D A Q H locs ls C z hP hD hS hl => va_iald C.1 C.2.1 C.2.2.2.2.2.2.2.2.1 hP q0 0 ha rfl (vp_in_nI hj hN) hd (by rw [nI_clamp (Nat.lt_trans hj hN)]; exact (k p e s m args below meth c D A Q H locs ls C z hP hD hS hl))
theorem gw_lald {a N j : Nat} {f : Nat → Int64} {i : Int32} (q0 : Nat) (ha : w[q0]? = some (a, .inl (cy 1, N, .inr (.inl f)))) (hi : i = nI j) (hj : j < N) (hN : N < 2 ^ 31) (hd : decode κ.2.1 pc = .ok (.laload, 1)) (k : gw_W l κ cy Z w n1 n2 (pc + 1) lv (.long (f j) :: st)) : gw_W l κ cy Z w n1 n2 pc lv (.int i :: .ref a :: st) := by
  subst hi
  exact fun p e s m args below meth c D A Q H locs ls C z hP hD hS hl => va_lald C.1 C.2.1 C.2.2.2.2.2.2.2.2.1 hP q0 1 ha rfl (vp_in_nI hj hN) hd (by rw [nI_clamp (Nat.lt_trans hj hN)]; exact (k p e s m args below meth c D A Q H locs ls C z hP hD hS hl))
theorem gw_aald2 {a N j : Nat} {f : Nat → Option Nat} {i : Int32} (q0 : Nat) (ha : w[q0]? = some (a, .inl (cy 2, N, .inr (.inr (.inr (.inr f)))))) (hi : i = nI j) (hj : j < N) (hN : N < 2 ^ 31) (hd : decode κ.2.1 pc = .ok (.aaload, 1)) (k : gw_W l κ cy Z w n1 n2 (pc + 1) lv (va_rf (f j) :: st)) : gw_W l κ cy Z w n1 n2 pc lv (.int i :: .ref a :: st) := by
  subst hi
  exact fun p e s m args below meth c D A Q H locs ls C z hP hD hS hl => va_aldq C.1 C.2.1 C.2.2.2.2.2.2.2.2.1 hP q0 2 ha rfl (vp_in_nI hj hN) hd (by rw [nI_clamp (Nat.lt_trans hj hN)]; exact (k p e s m args below meth c D A Q H locs ls C z hP hD hS hl))
theorem gw_aald3 {a N j : Nat} {f : Nat → Option Nat} {i : Int32} (q0 : Nat) (ha : w[q0]? = some (a, .inl (cy 3, N, .inr (.inr (.inr (.inr f)))))) (hi : i = nI j) (hj : j < N) (hN : N < 2 ^ 31) (hd : decode κ.2.1 pc = .ok (.aaload, 1)) (k : gw_W l κ cy Z w n1 n2 (pc + 1) lv (va_rf (f j) :: st)) : gw_W l κ cy Z w n1 n2 pc lv (.int i :: .ref a :: st) := by
  subst hi
  exact fun p e s m args below meth c D A Q H locs ls C z hP hD hS hl => va_aldq C.1 C.2.1 C.2.2.2.2.2.2.2.2.1 hP q0 3 ha rfl (vp_in_nI hj hN) hd (by rw [nI_clamp (Nat.lt_trans hj hN)]; exact (k p e s m args below meth c D A Q H locs ls C z hP hD hS hl))
theorem gw_aald4 {a N j : Nat} {f : Nat → Option Nat} {i : Int32} (q0 : Nat) (ha : w[q0]? = some (a, .inl (cy 4, N, .inr (.inr (.inr (.inr f)))))) (hi : i = nI j) (hj : j < N) (hN : N < 2 ^ 31) (hd : decode κ.2.1 pc = .ok (.aaload, 1)) (k : gw_W l κ cy Z w n1 n2 (pc + 1) lv (va_rf (f j) :: st)) : gw_W l κ cy Z w n1 n2 pc lv (.int i :: .ref a :: st) := by
  subst hi
  exact fun p e s m args below meth c D A Q H locs ls C z hP hD hS hl => va_aldq C.1 C.2.1 C.2.2.2.2.2.2.2.2.1 hP q0 4 ha rfl (vp_in_nI hj hN) hd (by rw [nI_clamp (Nat.lt_trans hj hN)]; exact (k p e s m args below meth c D A Q H locs ls C z hP hD hS hl))
theorem gw_iast {a N j : Nat} {f : Nat → Int32} {i : Int32} {x : Int32} (q0 : Nat) (ha : w[q0]? = some (a, .inl (cy 0, N, .inl f))) (hi : i = nI j) (hj : j < N) (hN : N < 2 ^ 31) (hd : decode κ.2.1 pc = .ok (.iastore, 1)) (k : gw_W l κ cy Z (w.set q0 (a, .inl (cy 0, N, .inl (upd f j x)))) n1 n2 (pc + 1) lv st) : gw_W l κ cy Z w n1 n2 pc lv (.int x :: .int i :: .ref a :: st) := by
  subst hi
  exact fun p e s m args below meth c D A Q H locs ls C z hP hD hS hl => va_iast C.1 C.2.1 C.2.2.2.2.2.2.2.2.1 hP hD hS q0 0 ha rfl (vp_in_nI hj hN) hd (by rw [nI_clamp (Nat.lt_trans hj hN)]; exact (fun H1 locs1 hP' hD' hS' => k p e s m args below meth c D A Q H1 locs1 ls C z hP' hD' hS' hl))
theorem gw_last {a N j : Nat} {f : Nat → Int64} {i : Int32} {x : Int64} (q0 : Nat) (ha : w[q0]? = some (a, .inl (cy 1, N, .inr (.inl f)))) (hi : i = nI j) (hj : j < N) (hN : N < 2 ^ 31) (hd : decode κ.2.1 pc = .ok (.lastore, 1)) (k : gw_W l κ cy Z (w.set q0 (a, .inl (cy 1, N, .inr (.inl (vp_updL f j x))))) n1 n2 (pc + 1) lv st) : gw_W l κ cy Z w n1 n2 pc lv (.long x :: .int i :: .ref a :: st) := by
  subst hi
  exact fun p e s m args below meth c D A Q H locs ls C z hP hD hS hl => va_last C.1 C.2.1 C.2.2.2.2.2.2.2.2.1 hP hD hS q0 1 ha rfl (vp_in_nI hj hN) hd (by rw [nI_clamp (Nat.lt_trans hj hN)]; exact (fun H1 locs1 hP' hD' hS' => k p e s m args below meth c D A Q H1 locs1 ls C z hP' hD' hS' hl))
theorem gw_aast2 {a N j v : Nat} {vs : List Value} {f : Nat → Option Nat} {i : Int32} (q0 qk ci : Nat) {r : vw_C} (ha : w[q0]? = some (a, .inl (cy 2, N, .inr (.inr (.inr (.inr f)))))) (hv : w[qk]? = some (v, .inr (ci, vs))) (hc : vwCl[ci]? = some r) (hca : r.1 = RX5 ∨ Cond.castable r.1 RX5 ∈ gw_N) (hi : i = nI j) (hj : j < N) (hN : N < 2 ^ 31) (hd : decode κ.2.1 pc = .ok (.aastore, 1)) (k : gw_W l κ cy Z (w.set q0 (a, .inl (cy 2, N, .inr (.inr (.inr (.inr (va_up f j (some v)))))))) n1 n2 (pc + 1) lv st) : gw_W l κ cy Z w n1 n2 pc lv (.ref v :: .int i :: .ref a :: st) := by
  subst hi
  intro p e s m args below meth c D A Q H locs ls C z hP hD hS hl
  have e1 : (nI j).toNatClampNeg = j := nI_clamp (Nat.lt_trans hj hN)
  rcases hca with hca | hca
  · exact va_astq C.1 C.2.1 C.2.2.2.2.2.2.2.2.1 hP hD hS q0 2 qk ci ha (by rw [hca]; rfl) hv hc (vp_in_nI hj hN) hd (by rw [e1]; exact (fun H1 locs1 hP' hD' hS' => k p e s m args below meth c D A Q H1 locs1 ls C z hP' hD' hS' hl))
  · exact va_astqO C.1 C.2.1 C.2.2.2.2.2.2.2.2.1 hP hD hS q0 2 qk ci ha rfl (C.2.2.2.2.2.2.2.2.2.1.1 _ hca) hv hc (vp_in_nI hj hN) hd (by rw [e1]; exact (fun H1 locs1 hP' hD' hS' => k p e s m args below meth c D A Q H1 locs1 ls C z hP' hD' hS' hl))
theorem gw_aast3 {a N j v : Nat} {vs : List Value} {f : Nat → Option Nat} {i : Int32} (q0 qk ci : Nat) {r : vw_C} (ha : w[q0]? = some (a, .inl (cy 3, N, .inr (.inr (.inr (.inr f)))))) (hv : w[qk]? = some (v, .inr (ci, vs))) (hc : vwCl[ci]? = some r) (hca : r.1 = RX9 ∨ Cond.castable r.1 RX9 ∈ gw_N) (hi : i = nI j) (hj : j < N) (hN : N < 2 ^ 31) (hd : decode κ.2.1 pc = .ok (.aastore, 1)) (k : gw_W l κ cy Z (w.set q0 (a, .inl (cy 3, N, .inr (.inr (.inr (.inr (va_up f j (some v)))))))) n1 n2 (pc + 1) lv st) : gw_W l κ cy Z w n1 n2 pc lv (.ref v :: .int i :: .ref a :: st) := by
  subst hi
  intro p e s m args below meth c D A Q H locs ls C z hP hD hS hl
  have e1 : (nI j).toNatClampNeg = j := nI_clamp (Nat.lt_trans hj hN)
  rcases hca with hca | hca
  · exact va_astq C.1 C.2.1 C.2.2.2.2.2.2.2.2.1 hP hD hS q0 3 qk ci ha (by rw [hca]; rfl) hv hc (vp_in_nI hj hN) hd (by rw [e1]; exact (fun H1 locs1 hP' hD' hS' => k p e s m args below meth c D A Q H1 locs1 ls C z hP' hD' hS' hl))
  · exact va_astqO C.1 C.2.1 C.2.2.2.2.2.2.2.2.1 hP hD hS q0 3 qk ci ha rfl (C.2.2.2.2.2.2.2.2.2.1.1 _ hca) hv hc (vp_in_nI hj hN) hd (by rw [e1]; exact (fun H1 locs1 hP' hD' hS' => k p e s m args below meth c D A Q H1 locs1 ls C z hP' hD' hS' hl))
theorem gw_aast4 {a N j v : Nat} {vs : List Value} {f : Nat → Option Nat} {i : Int32} (q0 qk ci : Nat) {r : vw_C} (ha : w[q0]? = some (a, .inl (cy 4, N, .inr (.inr (.inr (.inr f)))))) (hv : w[qk]? = some (v, .inr (ci, vs))) (hc : vwCl[ci]? = some r) (hca : r.1 = RX10 ∨ Cond.castable r.1 RX10 ∈ gw_N) (hi : i = nI j) (hj : j < N) (hN : N < 2 ^ 31) (hd : decode κ.2.1 pc = .ok (.aastore, 1)) (k : gw_W l κ cy Z (w.set q0 (a, .inl (cy 4, N, .inr (.inr (.inr (.inr (va_up f j (some v)))))))) n1 n2 (pc + 1) lv st) : gw_W l κ cy Z w n1 n2 pc lv (.ref v :: .int i :: .ref a :: st) := by
  subst hi
  intro p e s m args below meth c D A Q H locs ls C z hP hD hS hl
  have e1 : (nI j).toNatClampNeg = j := nI_clamp (Nat.lt_trans hj hN)
  rcases hca with hca | hca
  · exact va_astq C.1 C.2.1 C.2.2.2.2.2.2.2.2.1 hP hD hS q0 4 qk ci ha (by rw [hca]; rfl) hv hc (vp_in_nI hj hN) hd (by rw [e1]; exact (fun H1 locs1 hP' hD' hS' => k p e s m args below meth c D A Q H1 locs1 ls C z hP' hD' hS' hl))
  · exact va_astqO C.1 C.2.1 C.2.2.2.2.2.2.2.2.1 hP hD hS q0 4 qk ci ha rfl (C.2.2.2.2.2.2.2.2.2.1.1 _ hca) hv hc (vp_in_nI hj hN) hd (by rw [e1]; exact (fun H1 locs1 hP' hD' hS' => k p e s m args below meth c D A Q H1 locs1 ls C z hP' hD' hS' hl))
theorem gw_aast2N {a N j : Nat} {f : Nat → Option Nat} {i : Int32} (q0 : Nat) (ha : w[q0]? = some (a, .inl (cy 2, N, .inr (.inr (.inr (.inr f)))))) (hi : i = nI j) (hj : j < N) (hN : N < 2 ^ 31) (hd : decode κ.2.1 pc = .ok (.aastore, 1)) (k : gw_W l κ cy Z (w.set q0 (a, .inl (cy 2, N, .inr (.inr (.inr (.inr (va_up f j none))))))) n1 n2 (pc + 1) lv st) : gw_W l κ cy Z w n1 n2 pc lv (.null :: .int i :: .ref a :: st) := by
  subst hi
  exact fun p e s m args below meth c D A Q H locs ls C z hP hD hS hl => va_astqN C.1 C.2.1 C.2.2.2.2.2.2.2.2.1 hP hD hS q0 2 ha rfl (vp_in_nI hj hN) hd (by rw [nI_clamp (Nat.lt_trans hj hN)]; exact (fun H1 locs1 hP' hD' hS' => k p e s m args below meth c D A Q H1 locs1 ls C z hP' hD' hS' hl))
theorem gw_alen {a t0 : Nat} {cA : ClassId} {x : vp_A} {ty : FieldType} (q0 : Nat) (ha : w[q0]? = some (a, .inl (cA, x))) (ht : (gw_T cy)[t0]? = some (cA, ty)) (hd : decode κ.2.1 pc = .ok (.arraylength, 1)) (k : gw_W l κ cy Z w n1 n2 (pc + 1) lv (.int (nI x.1) :: st)) : gw_W l κ cy Z w n1 n2 pc lv (.ref a :: st) := fun p e s m args below meth c D A Q H locs ls C z hP hD hS hl => va_alen C.1 C.2.1 C.2.2.2.2.2.2.2.2.1 hP q0 t0 ha ht rfl hd (k p e s m args below meth c D A Q H locs ls C z hP hD hS hl)
theorem gw_cls {U : State} {cy : Nat → ClassId} {D : va_G} {cA : ClassId} {ty : FieldType} {t0 : Nat} {cB : ClassId} (hK : va_K D vwCl (gw_T cy) U) (ht : (gw_T cy)[t0]? = some (cB, ty)) (hr : va_RA U cA ty) : cA = cB := by
  have h2 := (hK.2 t0 _ ht).2
  cases ty with
  | object C => exact Option.some.inj (hr.choose_spec.choose_spec.2.2.2.symm.trans h2.choose_spec.choose_spec.2.2.2)
  | _ => exact Option.some.inj (Eq.trans (Eq.symm hr) h2)
theorem gw_lastK {U : State} {cy : Nat → ClassId} {D : va_G} {cA : ClassId} {ty : FieldType} (h : va_K D vwCl (gw_T cy ++ [(cA, ty)]) U) : va_RA U cA ty := (h.2 5 (cA, ty) rfl).2
theorem gw_newI {n : Int32} {N : Nat} (hw : Cond.arrayClass .int ∈ gw_All) (hn : n = nI N) (hN : N < 100000) (h1 : n1 + 1 ≤ κ.2.2.2.1.cells) (h2 : n2 + N ≤ κ.2.2.2.1.slots) (hd : decode κ.2.1 pc = .ok (.newarray .int, 2)) (k : ∀ q : Nat, gw_W l κ cy Z (w ++ [(q, .inl (cy 0, N, .inl (fun _ => 0)))]) (n1 + 1) (n2 + N) (pc + 2) lv (.ref q :: st)) : gw_W l κ cy Z w n1 n2 pc lv (.int n :: st) := by
  subst hn
  intro p e s m args below meth c D A Q H locs ls C z hP hD hS hl
  have e1 : (nI N).toNatClampNeg = N := nI_clamp (by omega)
  refine va_newa (atype := .int) (ty := .int) (N' := N) (a0 := (N, .inl (fun _ => 0))) C.1 C.2.1 (C.2.2.2.2.2.1 _ hw) rfl C.2.2.2.2.2.2.2.2.1 hP hD hS C.2.2.2.2.2.2.2.2.2.2 (fun cA => by rfl) (nI_pos (by omega)) e1 (by simp [componentBytes]; omega) h1 h2 hd (fun q cA H1 hK1 hP1 hD1 hS1 => ?_)
  have hc : cA = cy 0 := gw_cls C.2.2.2.2.2.2.2.2.1 (t0 := 0) rfl (gw_lastK hK1)
  subst hc
  exact k q p e s m args below meth c D A Q H1 locs ls C z hP1 hD1 hS1 hl
theorem gw_newJ {n : Int32} {N : Nat} (hw : Cond.arrayClass .long ∈ gw_All) (hn : n = nI N) (hN : N < 100000) (h1 : n1 + 1 ≤ κ.2.2.2.1.cells) (h2 : n2 + N ≤ κ.2.2.2.1.slots) (hd : decode κ.2.1 pc = .ok (.newarray .long, 2)) (k : ∀ q : Nat, gw_W l κ cy Z (w ++ [(q, .inl (cy 1, N, .inr (.inl (fun _ => 0))))]) (n1 + 1) (n2 + N) (pc + 2) lv (.ref q :: st)) : gw_W l κ cy Z w n1 n2 pc lv (.int n :: st) := by
  subst hn
  intro p e s m args below meth c D A Q H locs ls C z hP hD hS hl
  have e1 : (nI N).toNatClampNeg = N := nI_clamp (by omega)
  refine va_newa (atype := .long) (ty := .long) (N' := N) (a0 := (N, .inr (.inl (fun _ => 0)))) C.1 C.2.1 (C.2.2.2.2.2.1 _ hw) rfl C.2.2.2.2.2.2.2.2.1 hP hD hS C.2.2.2.2.2.2.2.2.2.2 (fun cA => by rfl) (nI_pos (by omega)) e1 (by simp [componentBytes]; omega) h1 h2 hd (fun q cA H1 hK1 hP1 hD1 hS1 => ?_)
  have hc : cA = cy 1 := gw_cls C.2.2.2.2.2.2.2.2.1 (t0 := 1) rfl (gw_lastK hK1)
  subst hc
  exact k q p e s m args below meth c D A Q H1 locs ls C z hP1 hD1 hS1 hl
theorem gw_newA2 {n : Int32} {N index : Nat} (hw : Cond.classLink κ.1.cls index RX5 ∈ gw_All) (hn : n = nI N) (hN : N < 100000) (h1 : n1 + 1 ≤ κ.2.2.2.1.cells) (h2 : n2 + N ≤ κ.2.2.2.1.slots) (hd : decode κ.2.1 pc = .ok (.anewarray index, 3)) (k : ∀ q : Nat, gw_W l κ cy Z (w ++ [(q, .inl (cy 2, N, .inr (.inr (.inr (.inr (fun _ => none))))))]) (n1 + 1) (n2 + N) (pc + 3) lv (.ref q :: st)) : gw_W l κ cy Z w n1 n2 pc lv (.int n :: st) := by
  subst hn
  intro p e s m args below meth c D A Q H locs ls C z hP hD hS hl
  have e1 : (nI N).toNatClampNeg = N := nI_clamp (by omega)
  refine va_newq (N' := N) C.1 C.2.1 C.2.2.2.2.1 (C.2.2.2.2.2.1 _ hw) (C.2.2.2.2.2.2.2.2.2.1.2.1.1) C.2.2.2.2.2.2.2.2.1 hP hD hS C.2.2.2.2.2.2.2.2.2.2 (nI_pos (by omega)) e1 (by omega) h1 h2 hd (fun q cA H1 hK1 hP1 hD1 hS1 => ?_)
  have hc : cA = cy 2 := gw_cls C.2.2.2.2.2.2.2.2.1 (t0 := 2) rfl (gw_lastK hK1)
  subst hc
  exact k q p e s m args below meth c D A Q H1 locs ls C z hP1 hD1 hS1 hl
theorem gw_newA3 {n : Int32} {N index : Nat} (hw : Cond.classLink κ.1.cls index RX9 ∈ gw_All) (hn : n = nI N) (hN : N < 100000) (h1 : n1 + 1 ≤ κ.2.2.2.1.cells) (h2 : n2 + N ≤ κ.2.2.2.1.slots) (hd : decode κ.2.1 pc = .ok (.anewarray index, 3)) (k : ∀ q : Nat, gw_W l κ cy Z (w ++ [(q, .inl (cy 3, N, .inr (.inr (.inr (.inr (fun _ => none))))))]) (n1 + 1) (n2 + N) (pc + 3) lv (.ref q :: st)) : gw_W l κ cy Z w n1 n2 pc lv (.int n :: st) := by
  subst hn
  intro p e s m args below meth c D A Q H locs ls C z hP hD hS hl
  have e1 : (nI N).toNatClampNeg = N := nI_clamp (by omega)
  refine va_newq (N' := N) C.1 C.2.1 C.2.2.2.2.1 (C.2.2.2.2.2.1 _ hw) (C.2.2.2.2.2.2.2.2.2.1.2.1.2.1) C.2.2.2.2.2.2.2.2.1 hP hD hS C.2.2.2.2.2.2.2.2.2.2 (nI_pos (by omega)) e1 (by omega) h1 h2 hd (fun q cA H1 hK1 hP1 hD1 hS1 => ?_)
  have hc : cA = cy 3 := gw_cls C.2.2.2.2.2.2.2.2.1 (t0 := 3) rfl (gw_lastK hK1)
  subst hc
  exact k q p e s m args below meth c D A Q H1 locs ls C z hP1 hD1 hS1 hl
theorem gw_newA4 {n : Int32} {N index : Nat} (hw : Cond.classLink κ.1.cls index RX10 ∈ gw_All) (hn : n = nI N) (hN : N < 100000) (h1 : n1 + 1 ≤ κ.2.2.2.1.cells) (h2 : n2 + N ≤ κ.2.2.2.1.slots) (hd : decode κ.2.1 pc = .ok (.anewarray index, 3)) (k : ∀ q : Nat, gw_W l κ cy Z (w ++ [(q, .inl (cy 4, N, .inr (.inr (.inr (.inr (fun _ => none))))))]) (n1 + 1) (n2 + N) (pc + 3) lv (.ref q :: st)) : gw_W l κ cy Z w n1 n2 pc lv (.int n :: st) := by
  subst hn
  intro p e s m args below meth c D A Q H locs ls C z hP hD hS hl
  have e1 : (nI N).toNatClampNeg = N := nI_clamp (by omega)
  refine va_newq (N' := N) C.1 C.2.1 C.2.2.2.2.1 (C.2.2.2.2.2.1 _ hw) (C.2.2.2.2.2.2.2.2.2.1.2.1.2.2) C.2.2.2.2.2.2.2.2.1 hP hD hS C.2.2.2.2.2.2.2.2.2.2 (nI_pos (by omega)) e1 (by omega) h1 h2 hd (fun q cA H1 hK1 hP1 hD1 hS1 => ?_)
  have hc : cA = cy 4 := gw_cls C.2.2.2.2.2.2.2.2.1 (t0 := 4) rfl (gw_lastK hK1)
  subst hc
  exact k q p e s m args below meth c D A Q H1 locs ls C z hP1 hD1 hS1 hl
theorem gw_new {ci index N : Nat} {C0 : String} {T : u_T} {fs : List Value} (ty : Nat → FieldType) (hty : ∀ k, k < N → parseFieldDescriptor (T k).2.2.1 = some (ty k)) (hc : vwCl[ci]? = some (C0, T, N)) (hin : ∀ x ∈ u_ws C0 T N, x ∈ gw_All) (hcl : Cond.classLink κ.1.cls index C0 ∈ gw_All) (hinst : Cond.instantiable C0 N ∈ gw_All) (hini : Cond.initialized C0 ∈ gw_All) (hfs : ∀ j, j < N → defaultValue (ty j) = vp_V fs j) (h1 : n1 + 1 ≤ κ.2.2.2.1.cells) (h2 : n2 + N ≤ κ.2.2.2.1.slots) (hd : decode κ.2.1 pc = .ok (.new index, 3)) (k : ∀ q : Nat, gw_W l κ cy Z (w ++ [(q, .inr (ci, fs))]) (n1 + 1) (n2 + N) (pc + 3) lv (.ref q :: st)) : gw_W l κ cy Z w n1 n2 pc lv st := fun p e s m args below meth c D A Q H locs ls C z hP hD hS hl => va_new C.1 C.2.1 C.2.2.2.2.2.1 hin ty hty C.2.2.2.2.1 (C.2.2.2.2.2.1 _ hcl) (C.2.2.2.2.2.1 _ hinst) (C.2.2.2.2.2.1 _ hini) C.2.2.2.2.2.2.2.2.1 hP hD hS C.2.2.2.2.2.2.2.2.2.2 hc hfs h1 h2 hd (fun q H1 hP1 hD1 hS1 => k q p e s m args below meth c D A Q H1 locs ls C z hP1 hD1 hS1 hl)
theorem gw_objInit {a index : Nat} (hk : Cond.methodLink κ.1.cls index objectInit ∈ gw_All) (hi : Cond.instanceMethod objectInit ∈ gw_All) (hc : Cond.code objectInit ⟨#[0xb1]⟩ 1 none ∈ gw_All) (hr : 1 ≤ κ.2.2.2.1.frames ∧ (st.map fun v => v.category).sum + 12 ≤ κ.2.2.2.1.locals) (hd : decode κ.2.1 pc = .ok (.invokespecial index, 3)) (k : gw_W l κ cy Z w n1 n2 (pc + 3) lv st) : gw_W l κ cy Z w n1 n2 pc lv (.ref a :: st) := fun p e s m args below meth c D A Q H locs ls C z hP hD hS hl => W.objInit C.1 C.2.1 C.2.2.2.2.1 (C.2.2.2.2.2.1 _ hk) (C.2.2.2.2.2.1 _ hi) (C.2.2.2.2.2.1 _ hc) rfl (hl.1.trans C.2.2.2.1.symm) rfl hd hr.1 (by have := hr.2; simpa [JFrame.monitorRoom] using this) (k p e s m args below meth c D A Q H locs ls C z hP hD hS hl)
theorem gw_mmin {index : Nat} {x y : Int32} (hk : Cond.methodLink κ.1.cls index Lib.Math.min.name ∈ gw_All) (hs : Cond.static Lib.Math.min.name ∈ gw_All) (hi : Cond.initialized "java/lang/Math" ∈ gw_All) (hc : Cond.code Lib.Math.min.name Lib.Math.min.code 2 (some .int) ∈ gw_All) (hr : 1 ≤ κ.2.2.2.1.frames ∧ (st.map fun v => v.category).sum + 13 ≤ κ.2.2.2.1.locals ∧ n1 ≤ κ.2.2.2.1.cells ∧ n2 ≤ κ.2.2.2.1.slots) (hd : decode κ.2.1 pc = .ok (.invokestatic index, 3)) (k : gw_W l κ cy Z w n1 n2 (pc + 3) lv (.int (if y < x then y else x) :: st)) : gw_W l κ cy Z w n1 n2 pc lv (.int y :: .int x :: st) := fun p e s m args below meth c D A Q H locs ls C z hP hD hS hl => va_mmin C.1 C.2.1 (C.2.2.2.1.trans hl.1.symm) C.2.2.2.2.1 (C.2.2.2.2.2.1 _ hk) (C.2.2.2.2.2.1 _ hs) (C.2.2.2.2.2.1 _ hi) (C.2.2.2.2.2.1 _ hc) hr.1 hr.2.1 hr.2.2.1 hr.2.2.2 hd (k p e s m args below meth c D A Q H locs ls C z hP hD hS hl)
theorem gw_mmax {index : Nat} {x y : Int32} (hk : Cond.methodLink κ.1.cls index Lib.Math.max.name ∈ gw_All) (hs : Cond.static Lib.Math.max.name ∈ gw_All) (hi : Cond.initialized "java/lang/Math" ∈ gw_All) (hc : Cond.code Lib.Math.max.name Lib.Math.max.code 2 (some .int) ∈ gw_All) (hr : 1 ≤ κ.2.2.2.1.frames ∧ (st.map fun v => v.category).sum + 13 ≤ κ.2.2.2.1.locals ∧ n1 ≤ κ.2.2.2.1.cells ∧ n2 ≤ κ.2.2.2.1.slots) (hd : decode κ.2.1 pc = .ok (.invokestatic index, 3)) (k : gw_W l κ cy Z w n1 n2 (pc + 3) lv (.int (if x < y then y else x) :: st)) : gw_W l κ cy Z w n1 n2 pc lv (.int y :: .int x :: st) := fun p e s m args below meth c D A Q H locs ls C z hP hD hS hl => va_mmax C.1 C.2.1 (C.2.2.2.1.trans hl.1.symm) C.2.2.2.2.1 (C.2.2.2.2.2.1 _ hk) (C.2.2.2.2.2.1 _ hs) (C.2.2.2.2.2.1 _ hi) (C.2.2.2.2.2.1 _ hc) hr.1 hr.2.1 hr.2.2.1 hr.2.2.2 hd (k p e s m args below meth c D A Q H locs ls C z hP hD hS hl)
theorem gw_mabsL {index : Nat} {x : Int64} (hk : Cond.methodLink κ.1.cls index Lib.MathLoose.abs_long.x ∈ gw_All) (hs : Cond.static Lib.MathLoose.abs_long.x ∈ gw_All) (hi : Cond.initialized "java/lang/Math" ∈ gw_All) (hc : Cond.code Lib.MathLoose.abs_long.x Lib.MathLoose.abs_long.code 2 (some .long) ∈ gw_All) (hr : 1 ≤ κ.2.2.2.1.frames ∧ (st.map fun v => v.category).sum + 13 ≤ κ.2.2.2.1.locals ∧ n1 ≤ κ.2.2.2.1.cells ∧ n2 ≤ κ.2.2.2.1.slots) (hd : decode κ.2.1 pc = .ok (.invokestatic index, 3)) (k : gw_W l κ cy Z w n1 n2 (pc + 3) lv (.long (if 0 < x then x else -x) :: st)) : gw_W l κ cy Z w n1 n2 pc lv (.long x :: st) := fun p e s m args below meth c D A Q H locs ls C z hP hD hS hl => va_mabs_long C.1 C.2.1 (C.2.2.2.1.trans hl.1.symm) C.2.2.2.2.1 (C.2.2.2.2.2.1 _ hk) (C.2.2.2.2.2.1 _ hs) (C.2.2.2.2.2.1 _ hi) (C.2.2.2.2.2.1 _ hc) hr.1 hr.2.1 hr.2.2.1 hr.2.2.2 hd (k p e s m args below meth c D A Q H locs ls C z hP hD hS hl)
theorem gw_copyI {index a0 a1 N0 N1 sp dp n : Nat} {isp idp inn : Int32} {f g : Nat → Int32} (hk : Cond.methodLink κ.1.cls index arraycopyName ∈ gw_All) (hna : Cond.native arraycopyName ∈ gw_All) (hs : Cond.static arraycopyName ∈ gw_All) (hi : Cond.initialized "java/lang/System" ∈ gw_All) (q0 q1 : Nat) (ha0 : w[q0]? = some (a0, .inl (cy 0, N0, .inl f))) (ha1 : w[q1]? = some (a1, .inl (cy 0, N1, .inl g))) (e1 : isp = nI sp) (e2 : idp = nI dp) (e3 : inn = nI n) (h4 : sp + n ≤ N0) (h5 : dp + n ≤ N1) (hN : N0 < 2 ^ 31 ∧ N1 < 2 ^ 31) (hr : 1 ≤ κ.2.2.2.1.frames ∧ (st.map fun v => v.category).sum + (nativeFrameWords "java/lang/System" "arraycopy" 5 + 11) ≤ κ.2.2.2.1.locals) (hd : decode κ.2.1 pc = .ok (.invokestatic index, 3)) (k : gw_W l κ cy Z (w.set q1 (a1, .inl (cy 0, N1, .inl (va_cpy f g sp dp n)))) n1 n2 (pc + 3) lv st) : gw_W l κ cy Z w n1 n2 pc lv (.int inn :: .int idp :: .ref a1 :: .int isp :: .ref a0 :: st) := by
  subst e1 e2 e3
  intro p e s m args below meth c D A Q H locs ls C z hP hD hS hl
  have c1 : (nI sp).toNatClampNeg = sp := nI_clamp (by omega)
  have c2 : (nI dp).toNatClampNeg = dp := nI_clamp (by omega)
  have c3 : (nI n).toNatClampNeg = n := nI_clamp (by omega)
  refine va_copyi C.1 C.2.1 (C.2.2.2.1.trans hl.1.symm) C.2.2.2.2.1 (C.2.2.2.2.2.1 _ hk) (C.2.2.2.2.2.1 _ hna) (C.2.2.2.2.2.1 _ hs) (C.2.2.2.2.2.1 _ hi) C.2.2.2.2.2.2.2.2.1 hP hD hS q0 q1 0 0 ha0 ha1 rfl rfl rfl (nI_pos (by omega)) (nI_pos (by omega)) (nI_pos (by omega)) (by rw [c1, c3]; exact h4) (by rw [c2, c3]; exact h5) (fun i _ => rfl) hr.1 hr.2 hd ?_
  rw [c1, c2, c3]
  exact (fun H1 locs1 hP' hD' hS' => k p e s m args below meth c D A Q H1 locs1 ls C z hP' hD' hS' hl)
theorem gw_copyJ {index a0 a1 N0 N1 sp dp n : Nat} {isp idp inn : Int32} {f g : Nat → Int64} (hk : Cond.methodLink κ.1.cls index arraycopyName ∈ gw_All) (hna : Cond.native arraycopyName ∈ gw_All) (hs : Cond.static arraycopyName ∈ gw_All) (hi : Cond.initialized "java/lang/System" ∈ gw_All) (q0 q1 : Nat) (ha0 : w[q0]? = some (a0, .inl (cy 1, N0, .inr (.inl f)))) (ha1 : w[q1]? = some (a1, .inl (cy 1, N1, .inr (.inl g)))) (e1 : isp = nI sp) (e2 : idp = nI dp) (e3 : inn = nI n) (h4 : sp + n ≤ N0) (h5 : dp + n ≤ N1) (hN : N0 < 2 ^ 31 ∧ N1 < 2 ^ 31) (hr : 1 ≤ κ.2.2.2.1.frames ∧ (st.map fun v => v.category).sum + (nativeFrameWords "java/lang/System" "arraycopy" 5 + 11) ≤ κ.2.2.2.1.locals) (hd : decode κ.2.1 pc = .ok (.invokestatic index, 3)) (k : gw_W l κ cy Z (w.set q1 (a1, .inl (cy 1, N1, .inr (.inl (va_cpy f g sp dp n))))) n1 n2 (pc + 3) lv st) : gw_W l κ cy Z w n1 n2 pc lv (.int inn :: .int idp :: .ref a1 :: .int isp :: .ref a0 :: st) := by
  subst e1 e2 e3
  intro p e s m args below meth c D A Q H locs ls C z hP hD hS hl
  have c1 : (nI sp).toNatClampNeg = sp := nI_clamp (by omega)
  have c2 : (nI dp).toNatClampNeg = dp := nI_clamp (by omega)
  have c3 : (nI n).toNatClampNeg = n := nI_clamp (by omega)
  refine va_copyl C.1 C.2.1 (C.2.2.2.1.trans hl.1.symm) C.2.2.2.2.1 (C.2.2.2.2.2.1 _ hk) (C.2.2.2.2.2.1 _ hna) (C.2.2.2.2.2.1 _ hs) (C.2.2.2.2.2.1 _ hi) C.2.2.2.2.2.2.2.2.1 hP hD hS q0 q1 1 1 ha0 ha1 rfl rfl rfl (nI_pos (by omega)) (nI_pos (by omega)) (nI_pos (by omega)) (by rw [c1, c3]; exact h4) (by rw [c2, c3]; exact h5) (fun i _ => rfl) hr.1 hr.2 hd ?_
  rw [c1, c2, c3]
  exact (fun H1 locs1 hP' hD' hS' => k p e s m args below meth c D A Q H1 locs1 ls C z hP' hD' hS' hl)
theorem gw_iret {v : Int32} {post : gw_Q} (hq : post (some (.int v)) w) (h1 : n1 ≤ κ.2.2.2.1.cells) (h2 : n2 ≤ κ.2.2.2.1.slots) (hr : κ.2.2.2.2 = some .int) (hd : decode κ.2.1 pc = .ok (.ireturn, 1)) : gw_W l κ cy (gw_R κ post) w n1 n2 pc lv [.int v] := fun p e s m args below meth c D A Q H locs ls C z hP hD hS hl => by
  subst z
  exact W.widen h1 h2 (W.iret C.1 C.2.1 (C.2.2.1.trans hr) (fun t ht hW => ⟨⟨_, w, rfl, hq, by rw [ht]; exact hP, hD⟩, hS.F ht⟩) hS.2.2 hd C.2.2.2.2.2.2.1)
theorem gw_zret {v : Int32} {post : gw_Q} (hq : post (some (.int v)) w) (h1 : n1 ≤ κ.2.2.2.1.cells) (h2 : n2 ≤ κ.2.2.2.1.slots) (hr : κ.2.2.2.2 = some .boolean) (hn : narrow .boolean (.int v) = .int v) (hd : decode κ.2.1 pc = .ok (.ireturn, 1)) : gw_W l κ cy (gw_R κ post) w n1 n2 pc lv [.int v] := fun p e s m args below meth c D A Q H locs ls C z hP hD hS hl => by
  subst z
  exact W.widen h1 h2 (W.zret C.1 C.2.1 (C.2.2.1.trans hr) hn (fun t ht hW => ⟨⟨_, w, rfl, hq, by rw [ht]; exact hP, hD⟩, hS.F ht⟩) hS.2.2 hd C.2.2.2.2.2.2.1)
theorem gw_lret {v : Int64} {post : gw_Q} (hq : post (some (.long v)) w) (h1 : n1 ≤ κ.2.2.2.1.cells) (h2 : n2 ≤ κ.2.2.2.1.slots) (hr : κ.2.2.2.2 = some .long) (hd : decode κ.2.1 pc = .ok (.lreturn, 1)) : gw_W l κ cy (gw_R κ post) w n1 n2 pc lv [.long v] := fun p e s m args below meth c D A Q H locs ls C z hP hD hS hl => by
  subst z
  exact W.widen h1 h2 (W.lret C.1 C.2.1 (C.2.2.1.trans hr) (fun t ht hW => ⟨⟨_, w, rfl, hq, by rw [ht]; exact hP, hD⟩, hS.F ht⟩) hS.2.2 hd C.2.2.2.2.2.2.1)
theorem gw_aret {o : Option Nat} {Cn : String} {post : gw_Q} (hq : post (some (va_rf o)) w) (h1 : n1 ≤ κ.2.2.2.1.cells) (h2 : n2 ≤ κ.2.2.2.1.slots) (hr : κ.2.2.2.2 = some (.object Cn)) (hd : decode κ.2.1 pc = .ok (.areturn, 1)) : gw_W l κ cy (gw_R κ post) w n1 n2 pc lv [va_rf o] := fun p e s m args below meth c D A Q H locs ls C z hP hD hS hl => by
  subst z
  exact W.widen h1 h2 (W.aret C.1 C.2.1 (C.2.2.1.trans hr) (Or.inl ⟨_, rfl⟩) (va_rf_or o) (fun t ht hW => ⟨⟨_, w, rfl, hq, by rw [ht]; exact hP, hD⟩, hS.F ht⟩) hS.2.2 hd C.2.2.2.2.2.2.1)
theorem gw_vret {post : gw_Q} (hq : post none w) (h1 : n1 ≤ κ.2.2.2.1.cells) (h2 : n2 ≤ κ.2.2.2.1.slots) (hr : κ.2.2.2.2 = none) (hd : decode κ.2.1 pc = .ok (.return_, 1)) : gw_W l κ cy (gw_R κ post) w n1 n2 pc lv [] := fun p e s m args below meth c D A Q H locs ls C z hP hD hS hl => by
  subst z
  exact W.widen h1 h2 (W.vret C.1 C.2.1 (C.2.2.1.trans hr) (fun t ht hW => ⟨⟨_, w, rfl, hq, by rw [ht]; exact hP, hD⟩, hS.F ht⟩) hS.2.2 hd C.2.2.2.2.2.2.1)
end GWH
end
section
/-! calls by contract, the frame rule, worlds in another order -/
theorem gw_P_iff {D : va_G} {cl : List vw_C} {w : va_W} {H : Heap} : va_P D cl w H ↔ ∀ q ∈ w, va_at D cl q H := by
  constructor
  · intro h q hq
    obtain ⟨k, hk⟩ := List.getElem?_of_mem hq
    exact h k q hk
  · intro h k q hk
    exact h q (List.mem_of_getElem? hk)
theorem gw_D_iff {A : Nat → Prop} {w : va_W} : va_D A w ↔ (w.map (·.1)).Nodup ∧ ∀ q ∈ w, A q.1 := by
  constructor
  · intro h
    refine ⟨?_, fun q hq => ?_⟩
    · rw [List.nodup_iff_pairwise_ne, List.pairwise_iff_getElem]
      intro i j hi hj hij e
      simp only [List.length_map] at hi hj
      simp only [List.getElem_map] at e
      have := h.1 i j w[i] w[j] (List.getElem?_eq_getElem hi) (List.getElem?_eq_getElem hj) e
      omega
    · obtain ⟨k, hk⟩ := List.getElem?_of_mem hq
      exact h.2 k q hk
  · rintro ⟨h1, h2⟩
    refine ⟨fun i j p q hp hq e => ?_, fun k q hk => h2 q (List.mem_of_getElem? hk)⟩
    rw [List.nodup_iff_pairwise_ne, List.pairwise_iff_getElem] at h1
    obtain ⟨hi, ei⟩ := List.getElem?_eq_some_iff.mp hp
    obtain ⟨hj, ej⟩ := List.getElem?_eq_some_iff.mp hq
    by_cases hij : i = j
    · exact hij
    · exfalso
      rcases Nat.lt_or_gt_of_ne hij with g | g
      · exact h1 i j (by simpa using hi) (by simpa using hj) g (by simp only [List.getElem_map, ei, ej]; exact e)
      · exact h1 j i (by simpa using hj) (by simpa using hi) g (by simp only [List.getElem_map, ei, ej]; exact e.symm)
theorem gw_P_perm {D : va_G} {cl : List vw_C} {w w' : va_W} {H : Heap} (h : w.Perm w') (hP : va_P D cl w H) : va_P D cl w' H := gw_P_iff.mpr fun q hq => gw_P_iff.mp hP q (h.mem_iff.mpr hq)
theorem gw_D_perm {A : Nat → Prop} {w w' : va_W} (h : w.Perm w') (hD : va_D A w) : va_D A w' := by
  rw [gw_D_iff] at hD ⊢
  exact ⟨(h.map (·.1)).nodup_iff.mp hD.1, fun q hq => hD.2 q (h.mem_iff.mpr hq)⟩
section GWC
variable {l : Launch} {κ : gw_K} {cy : Nat → ClassId} {Z : gw_Z} {w : va_W} {n1 n2 pc : Nat} {lv : List (Option Value)} {st : List Value}
theorem gw_W.perm {w' : va_W} (h : w.Perm w') (k : gw_W l κ cy Z w' n1 n2 pc lv st) : gw_W l κ cy Z w n1 n2 pc lv st := fun p e s m args below meth c D A Q H locs ls C z hP hD hS hl => k p e s m args below meth c D A Q H locs ls C z (gw_P_perm h hP) (gw_D_perm h hD) hS hl
theorem gw_A_perm {w w' : va_W} (h : w.Perm w') {sz q : Nat} (ha : va_A w sz q) : va_A w' sz q := by
  rcases ha with ⟨k, e, hk⟩ | ha
  · obtain ⟨j, hj⟩ := List.getElem?_of_mem (h.mem_iff.mp (List.mem_of_getElem? hk))
    exact Or.inl ⟨j, e, hj⟩
  · exact Or.inr ha
theorem gw_at_kept {D : va_G} {cl : List vw_C} {q : Nat × va_E} {H H1 : Heap} (h : va_at D cl q H) (hk : H1[q.1]? = H[q.1]?) : va_at D cl q H1 := va_at.kept h hk
/-- THE FRAME: a contract in a larger world: what is beside it stays -/
theorem gw_M.frame {av : List Value} {post : gw_Q} {f w2 : va_W} (h : gw_M l κ cy av w post) (hw : w2.Perm (w ++ f)) : gw_M l κ cy av w2 (fun r w' => ∃ w1, post r w1 ∧ w' = w1 ++ f) := by
  intro D sz p e ha hc hk s m args below hf hap hP hK
  obtain ⟨e1, e2, hP2, hK2, hE2, hD2⟩ := hP
  have hP3 := gw_P_iff.mp (gw_P_perm hw hP2)
  have hD3 := gw_D_iff.mp (gw_D_perm hw hD2)
  obtain ⟨n, o, g1, g2, g3, g4, L, g5, g6⟩ := h D sz p e ha hc hk s m args below hf hap ⟨e1, e2, gw_P_iff.mpr fun q hq => hP3 q (List.mem_append_left _ hq), hK2, hE2, gw_D_iff.mpr ⟨by
    have := hD3.1
    rw [List.map_append] at this
    exact (List.nodup_append.mp this).1, fun _ _ => trivial⟩⟩ hK
  have hA : ∀ q, va_A w sz q → va_A w2 sz q := fun q hq => gw_A_perm hw.symm (by
    rcases hq with ⟨k, e, hk⟩ | hq
    · exact Or.inl ⟨k, e, by rw [List.getElem?_append_left (List.getElem?_eq_some_iff.mp hk).1]; exact hk⟩
    · exact Or.inr hq)
  have hfr : ∀ q ∈ f, q.1 < s.heap.size ∧ ¬ va_A w sz q.1 := by
    intro q hq
    have hat := hP3 q (List.mem_append_right _ hq)
    have hlt := va_at.lt hat
    refine ⟨hlt, fun hn => ?_⟩
    rcases hn with ⟨k, e, hk⟩ | hn
    · have hnd := hD3.1
      rw [List.map_append] at hnd
      exact (List.nodup_append.mp hnd).2.2 q.1 (List.mem_map.mpr ⟨(q.1, e), List.mem_of_getElem? hk, rfl⟩) q.1 (List.mem_map.mpr ⟨q, hq, rfl⟩) rfl
    · omega
  refine ⟨n, o, g1, g2, g3, ?_, L, g5, fun q hq => hA _ (g6 q hq)⟩
  obtain ⟨⟨r, w1, h1, h2, h3, h4⟩, h5, h6⟩ := g4
  refine ⟨⟨r, w1 ++ f, h1, ⟨w1, h2, rfl⟩, gw_P_iff.mpr fun q hq => ?_, gw_D_iff.mpr ⟨?_, fun q hq => ?_⟩⟩, h5, fun q hq hn => h6 q hq (fun z => hn (hA q z))⟩
  · rcases List.mem_append.mp hq with hq | hq
    · exact gw_P_iff.mp h3 q hq
    · exact gw_at_kept (hP3 q (List.mem_append_right _ hq)) (h6 q.1 (hfr q hq).1 (hfr q hq).2)
  · rw [List.map_append, List.nodup_append]
    have hnd := hD3.1
    rw [List.map_append] at hnd
    refine ⟨(gw_D_iff.mp h4).1, (List.nodup_append.mp hnd).2.1, fun a ha b hb e => ?_⟩
    obtain ⟨x, hx, rfl⟩ := List.mem_map.mp ha
    obtain ⟨y, hy, rfl⟩ := List.mem_map.mp hb
    exact (hfr y hy).2 (e ▸ (gw_D_iff.mp h4).2 x hx)
  · rcases List.mem_append.mp hq with hq | hq
    · exact hA _ ((gw_D_iff.mp h4).2 q hq)
    · exact gw_A_perm hw.symm (Or.inl (by
        obtain ⟨k, hk⟩ := List.getElem?_of_mem (List.mem_append_right w hq)
        exact ⟨k, q.2, hk⟩))
/-- a contract says less -/
theorem gw_M.less {av : List Value} {post post' : gw_Q} (h : gw_M l κ cy av w post) (hp : ∀ r w', post r w' → post' r w') : gw_M l κ cy av w post' := by
  intro D sz p e ha hc hk s m args below hf hap hP hK
  obtain ⟨n, o, g1, g2, g3, ⟨⟨r, w1, h1, h2, h3⟩, h5⟩, g6⟩ := h D sz p e ha hc hk s m args below hf hap hP hK
  exact ⟨n, o, g1, g2, g3, ⟨⟨r, w1, h1, hp _ _ h2, h3⟩, h5⟩, g6⟩
theorem gw_go {p : Program} {e : Env} {R : Room} {s : State} {m : MethodId} {args : Array Value} {below : List Frame} {meth : Method} {c : Code} {D : va_G} {A : Nat → Prop} {Q : State → Prop} {H : Heap} {locs : List Loc} {ls : Array Slot} {post : gw_Q} {mc ms : Nat} {a : Array Value} {stk : List Value}
    (hr : va_Run p l e R s m args below meth c H locs n1 n2 mc ms (F0 m pc ls stk) st (gw_Qc D (va_A w H.size) post a) (va_A w H.size)) (hS : va_S A s.heap H locs) (hD : va_D A w) (hA : ∀ q, s.heap.size ≤ q → A q)
    (kk : ∀ (r : Option Value) (w' : va_W) (H1 : Heap) (locs1 : List Loc), post r w' → va_P D vwCl w' H1 → va_D A w' → va_S A s.heap H1 locs1 → W p l e R s m args below meth c H1 locs1 (n1 + mc) (n2 + ms) Q (F0 m (pc + 3) ls (r.toList ++ st))) : W p l e R s m args below meth c H locs n1 n2 Q (F0 m pc ls stk) := by
  intro T hT X
  obtain ⟨v, st₀, t, T', L, h0, X', hL, e1, e2, ⟨⟨r, w', hv, hp, hP', hD'⟩, hz, hk⟩, stp⟩ := hr T hT X
  cases hv
  rw [h0] at hz hk
  have hAA : ∀ q, va_A w H.size q → A q := fun q h => by
    rcases h with ⟨k, e, h⟩ | h
    · exact hD.2 k (q, e) h
    · exact hA q (Nat.le_trans hS.1 h)
  obtain ⟨t2, a1, b1⟩ := kk _ w' T'.heap (locs ++ L) hp (by rw [e1]; exact hP') (hD'.weaken (fun _ q _ h => hAA _ h))
    ⟨Nat.le_trans hS.1 (by rw [e1]; exact hz), fun q h1 h2 => by rw [e1, hk q (Nat.lt_of_lt_of_le h1 hS.1) (fun z => h2 (hAA q z))]; exact hS.2.1 q h1 h2, fun q hq => by
      rcases List.mem_append.mp hq with h | h
      · exact hS.2.2 q h
      · exact hAA _ (hL q h)⟩ T' rfl X'
  exact ⟨t2, stp t2 a1, b1⟩
/-- what a caller knows of a callee: its words, its arguments' number -/
abbrev gw_desc (κ' : gw_K) (n : Nat) : Prop := κ'.1.cls ≠ "java/lang/invoke/MethodHandle" ∧ κ'.1.cls ≠ "java/lang/invoke/VarHandle" ∧ (parseMethodDescriptor κ'.1.desc).map (fun d => d.parameters.length) = some n
def gw_calB (κ' : gw_K) (n : Nat) : Prop := Cond.code κ'.1 κ'.2.1 κ'.2.2.1 κ'.2.2.2.2 ∈ gw_All ∧ Cond.initialized κ'.1.cls ∈ gw_All ∧ gw_desc κ' n
def gw_calV (κ' : gw_K) (n : Nat) : Prop := gw_calB κ' n ∧ Cond.instanceMethod κ'.1 ∈ gw_All ∧ Cond.selects κ'.1.cls κ'.1 κ'.1 ∈ gw_All
def gw_calS (κ' : gw_K) (n : Nat) : Prop := gw_calB κ' n ∧ Cond.static κ'.1 ∈ gw_All
def gw_calI (κ' : gw_K) (n : Nat) : Prop := gw_calB κ' n ∧ Cond.instanceMethod κ'.1 ∈ gw_All ∧ κ'.1.name = "<init>" ∧ κ'.2.2.2.2 = none
theorem gw_goodws {κ' : gw_K} (h : Cond.code κ'.1 κ'.2.1 κ'.2.2.1 κ'.2.2.2.2 ∈ gw_All) : GoodIn gw_All (gw_ws κ') := fun w hw => by
  rcases List.mem_cons.mp hw with e | hw
  · rw [e]; exact ⟨h, good_of_word (List.mem_filter.mp h).2⟩
  · exact ⟨hw, good_of_word (List.mem_filter.mp hw).2⟩
theorem gw_blind {av : List Value} {D : va_G} {sz : Nat} : FrameBlind (va_Pc av (fun U => U.heap.size = sz ∧ va_P D vwCl w U.heap ∧ va_K D vwCl (gw_T cy) U ∧ gw_E U ∧ va_D (fun _ => True) w)) := fun a U g mk q => by
  obtain ⟨q0, q1, qP, qK, qE, qD⟩ := q
  exact ⟨q0, q1, qP, va_K.moved (u := U) (U := U.calling g mk a) (Vm.Alike.refl U.vm) qK, gw_E.same (s := U) rfl qE, qD⟩
theorem gw_preS {s : State} {H : Heap} {av : List Value} {D : va_G} {A : Nat → Prop} (hP : va_P D vwCl w H) (hK : va_K D vwCl (gw_T cy) s) (hE : gw_E s) (hD : va_D A w) : PreS s H (va_Pc av (fun U => U.heap.size = H.size ∧ va_P D vwCl w U.heap ∧ va_K D vwCl (gw_T cy) U ∧ gw_E U ∧ va_D (fun _ => True) w)) av :=
  ⟨gw_blind, fun U hU hW => ⟨rfl, by rw [hU], by rw [hU]; exact hP, va_K.moved hW.alike hK, gw_E.warm hW hE, hD.weaken (fun _ _ _ _ => trivial)⟩⟩
theorem gw_callV {κ' : gw_K} {index n : Nat} {As stk : List Value} {post : gw_Q} {b ci : Nat} {q : vw_C} {fs : List Value} (q0 : Nat) (hM : gw_M l κ' cy (.ref b :: As) w post) (hc : gw_calV κ' n) (he : w[q0]? = some (b, .inr (ci, fs))) (hq : vwCl[ci]? = some q) (hC : q.1 = κ'.1.cls) (hk : Cond.methodLink κ.1.cls index κ'.1 ∈ gw_All) (hn : As.length = n) (hs : stk = As.reverse ++ .ref b :: st) (hd : decode κ.2.1 pc = .ok (.invokevirtual index, 3)) (hR : κ'.2.2.2.1.frames + 1 ≤ κ.2.2.2.1.frames ∧ 8 + (κ'.2.2.1 + 11) + κ'.2.2.2.1.locals ≤ κ.2.2.2.1.locals) (hf : n1 + κ'.2.2.2.1.cells ≤ κ.2.2.2.1.cells ∧ n2 + κ'.2.2.2.1.slots ≤ κ.2.2.2.1.slots) (hr : (st.map fun v => v.category).sum ≤ 8) (k : ∀ (r : Option Value) (w' : va_W), post r w' → gw_W l κ cy Z w' (n1 + κ'.2.2.2.1.cells) (n2 + κ'.2.2.2.1.slots) (pc + 3) lv (r.toList ++ st)) : gw_W l κ cy Z w n1 n2 pc lv stk := by
  intro p e s m args below meth c D A Q H locs ls C z hP hD hS hl
  have hrc := va_recv C.2.2.2.2.2.2.2.2.1 hP hq he
  rw [hC] at hrc
  have hpre := gw_preS (av := .ref b :: As) hP C.2.2.2.2.2.2.2.2.1 C.2.2.2.2.2.2.2.2.2.1 hD
  exact gw_go (va_runV (As := As) (rest := st) ⟨C.1, C.2.1, C.2.2.2.1, C.2.2.2.2.1, C.2.2.2.2.2.1⟩ (hM D H.size) ⟨(callB_of n C.2.2.2.2.2.1 (gw_goodws hc.1.1) rfl rfl rfl (C.2.2.2.2.2.1 _ hc.1.2.1) (C.2.2.2.2.2.1 _ hk) hc.1.2.2 hR), C.2.2.2.2.2.1 _ hc.2.1, C.2.2.2.2.2.1 _ hc.2.2⟩ ⟨hpre.1, hrc, hpre.2⟩ rfl hn hl.1 hs (lv_room hr) hd hf) hS hD C.2.2.2.2.2.2.2.2.2.2 (fun r w' H1 locs1 hp hP1 hD1 hS1 => k r w' hp p e s m args below meth c D A Q H1 locs1 ls C z hP1 hD1 hS1 hl)
theorem gw_callVN {κ' : gw_K} {index n : Nat} {As stk : List Value} {post : gw_Q} {b ci : Nat} {q : vw_C} {fs : List Value} (q0 : Nat) (hM : gw_M l κ' cy (.ref b :: As) w post) (hc : gw_calV κ' n) (he : w[q0]? = some (b, .inr (ci, fs))) (hq : vwCl[ci]? = some q) (hC : q.1 = κ'.1.cls) {host : String} (hk : Cond.methodLinkNest κ.1.cls index κ'.1 host ∈ gw_N) (hn : As.length = n) (hs : stk = As.reverse ++ .ref b :: st) (hd : decode κ.2.1 pc = .ok (.invokevirtual index, 3)) (hR : κ'.2.2.2.1.frames + 1 ≤ κ.2.2.2.1.frames ∧ 8 + (κ'.2.2.1 + 11) + κ'.2.2.2.1.locals ≤ κ.2.2.2.1.locals) (hf : n1 + κ'.2.2.2.1.cells ≤ κ.2.2.2.1.cells ∧ n2 + κ'.2.2.2.1.slots ≤ κ.2.2.2.1.slots) (hr : (st.map fun v => v.category).sum ≤ 8) (k : ∀ (r : Option Value) (w' : va_W), post r w' → gw_W l κ cy Z w' (n1 + κ'.2.2.2.1.cells) (n2 + κ'.2.2.2.1.slots) (pc + 3) lv (r.toList ++ st)) : gw_W l κ cy Z w n1 n2 pc lv stk := by
  intro p e s m args below meth c D A Q H locs ls C z hP hD hS hl
  have hrc := va_recv C.2.2.2.2.2.2.2.2.1 hP hq he
  rw [hC] at hrc
  have hpre := gw_preS (av := .ref b :: As) hP C.2.2.2.2.2.2.2.2.1 C.2.2.2.2.2.2.2.2.2.1 hD
  exact gw_go (va_runVN (As := As) (rest := st) ⟨C.1, C.2.1, C.2.2.2.1, C.2.2.2.2.1, C.2.2.2.2.2.1⟩ (hM D H.size) ⟨(va_cnB n C.2.2.2.2.2.1 (gw_goodws hc.1.1) rfl rfl rfl (C.2.2.2.2.2.2.2.2.2.1.1 _ hk) (C.2.2.2.2.2.1 _ hc.1.2.1) hc.1.2.2 hR), C.2.2.2.2.2.1 _ hc.2.1, C.2.2.2.2.2.1 _ hc.2.2⟩ ⟨hpre.1, hrc, hpre.2⟩ rfl hn hl.1 hs (lv_room hr) hd hf) hS hD C.2.2.2.2.2.2.2.2.2.2 (fun r w' H1 locs1 hp hP1 hD1 hS1 => k r w' hp p e s m args below meth c D A Q H1 locs1 ls C z hP1 hD1 hS1 hl)
theorem gw_callS {κ' : gw_K} {index n : Nat} {As stk : List Value} {post : gw_Q} (hM : gw_M l κ' cy As w post) (hc : gw_calS κ' n) (hk : Cond.methodLink κ.1.cls index κ'.1 ∈ gw_All) (hn : As.length = n) (hs : stk = As.reverse ++ st) (hd : decode κ.2.1 pc = .ok (.invokestatic index, 3)) (hR : κ'.2.2.2.1.frames + 1 ≤ κ.2.2.2.1.frames ∧ 8 + (κ'.2.2.1 + 11) + κ'.2.2.2.1.locals ≤ κ.2.2.2.1.locals) (hf : n1 + κ'.2.2.2.1.cells ≤ κ.2.2.2.1.cells ∧ n2 + κ'.2.2.2.1.slots ≤ κ.2.2.2.1.slots) (hr : (st.map fun v => v.category).sum ≤ 8) (k : ∀ (r : Option Value) (w' : va_W), post r w' → gw_W l κ cy Z w' (n1 + κ'.2.2.2.1.cells) (n2 + κ'.2.2.2.1.slots) (pc + 3) lv (r.toList ++ st)) : gw_W l κ cy Z w n1 n2 pc lv stk := by
  intro p e s m args below meth c D A Q H locs ls C z hP hD hS hl
  have hpre := gw_preS (av := As) hP C.2.2.2.2.2.2.2.2.1 C.2.2.2.2.2.2.2.2.2.1 hD
  exact gw_go (va_runS (As := As) (rest := st) ⟨C.1, C.2.1, C.2.2.2.1, C.2.2.2.2.1, C.2.2.2.2.2.1⟩ (hM D H.size) ⟨(callB_of n C.2.2.2.2.2.1 (gw_goodws hc.1.1) rfl rfl rfl (C.2.2.2.2.2.1 _ hc.1.2.1) (C.2.2.2.2.2.1 _ hk) hc.1.2.2 hR), C.2.2.2.2.2.1 _ hc.2⟩ hpre rfl hn hl.1 hs (lv_room hr) hd hf) hS hD C.2.2.2.2.2.2.2.2.2.2 (fun r w' H1 locs1 hp hP1 hD1 hS1 => k r w' hp p e s m args below meth c D A Q H1 locs1 ls C z hP1 hD1 hS1 hl)
theorem gw_callSN {κ' : gw_K} {index n : Nat} {As stk : List Value} {post : gw_Q} (hM : gw_M l κ' cy As w post) (hc : gw_calS κ' n) {host : String} (hk : Cond.methodLinkNest κ.1.cls index κ'.1 host ∈ gw_N) (hn : As.length = n) (hs : stk = As.reverse ++ st) (hd : decode κ.2.1 pc = .ok (.invokestatic index, 3)) (hR : κ'.2.2.2.1.frames + 1 ≤ κ.2.2.2.1.frames ∧ 8 + (κ'.2.2.1 + 11) + κ'.2.2.2.1.locals ≤ κ.2.2.2.1.locals) (hf : n1 + κ'.2.2.2.1.cells ≤ κ.2.2.2.1.cells ∧ n2 + κ'.2.2.2.1.slots ≤ κ.2.2.2.1.slots) (hr : (st.map fun v => v.category).sum ≤ 8) (k : ∀ (r : Option Value) (w' : va_W), post r w' → gw_W l κ cy Z w' (n1 + κ'.2.2.2.1.cells) (n2 + κ'.2.2.2.1.slots) (pc + 3) lv (r.toList ++ st)) : gw_W l κ cy Z w n1 n2 pc lv stk := by
  intro p e s m args below meth c D A Q H locs ls C z hP hD hS hl
  have hpre := gw_preS (av := As) hP C.2.2.2.2.2.2.2.2.1 C.2.2.2.2.2.2.2.2.2.1 hD
  exact gw_go (va_runSN (As := As) (rest := st) ⟨C.1, C.2.1, C.2.2.2.1, C.2.2.2.2.1, C.2.2.2.2.2.1⟩ (hM D H.size) ⟨(va_cnB n C.2.2.2.2.2.1 (gw_goodws hc.1.1) rfl rfl rfl (C.2.2.2.2.2.2.2.2.2.1.1 _ hk) (C.2.2.2.2.2.1 _ hc.1.2.1) hc.1.2.2 hR), C.2.2.2.2.2.1 _ hc.2, trivial⟩ hpre rfl hn hl.1 hs (lv_room hr) hd hf) hS hD C.2.2.2.2.2.2.2.2.2.2 (fun r w' H1 locs1 hp hP1 hD1 hS1 => k r w' hp p e s m args below meth c D A Q H1 locs1 ls C z hP1 hD1 hS1 hl)
theorem gw_callI {κ' : gw_K} {index n : Nat} {As stk : List Value} {post : gw_Q} {b : Nat} (hM : gw_M l κ' cy (.ref b :: As) w post) (hc : gw_calI κ' n) (hk : Cond.methodLink κ.1.cls index κ'.1 ∈ gw_All) (hn : As.length = n) (hs : stk = As.reverse ++ .ref b :: st) (hd : decode κ.2.1 pc = .ok (.invokespecial index, 3)) (hR : κ'.2.2.2.1.frames + 1 ≤ κ.2.2.2.1.frames ∧ 8 + (κ'.2.2.1 + 11) + κ'.2.2.2.1.locals ≤ κ.2.2.2.1.locals) (hf : n1 + κ'.2.2.2.1.cells ≤ κ.2.2.2.1.cells ∧ n2 + κ'.2.2.2.1.slots ≤ κ.2.2.2.1.slots) (hr : (st.map fun v => v.category).sum ≤ 8) (k : ∀ (r : Option Value) (w' : va_W), post r w' → gw_W l κ cy Z w' (n1 + κ'.2.2.2.1.cells) (n2 + κ'.2.2.2.1.slots) (pc + 3) lv (r.toList ++ st)) : gw_W l κ cy Z w n1 n2 pc lv stk := by
  intro p e s m args below meth c D A Q H locs ls C z hP hD hS hl
  have hpre := gw_preS (av := (.ref b :: As)) hP C.2.2.2.2.2.2.2.2.1 C.2.2.2.2.2.2.2.2.2.1 hD
  exact gw_go (va_runI (As := As) (rest := st) ⟨C.1, C.2.1, C.2.2.2.1, C.2.2.2.2.1, C.2.2.2.2.2.1⟩ (hM D H.size) ⟨(callB_of n C.2.2.2.2.2.1 (gw_goodws hc.1.1) (show gw_ws κ' = Cond.code κ'.1 κ'.2.1 κ'.2.2.1 none :: gw_All by rw [gw_ws, hc.2.2.2]) rfl rfl (C.2.2.2.2.2.1 _ hc.1.2.1) (C.2.2.2.2.2.1 _ hk) hc.1.2.2 hR), hc.2.2.1, C.2.2.2.2.2.1 _ hc.2.1⟩ hpre rfl hn hl.1 hs (lv_room hr) hd hf) hS hD C.2.2.2.2.2.2.2.2.2.2 (fun r w' H1 locs1 hp hP1 hD1 hS1 => k r w' hp p e s m args below meth c D A Q H1 locs1 ls C z hP1 hD1 hS1 hl)
theorem gw_callIN {κ' : gw_K} {index n : Nat} {As stk : List Value} {post : gw_Q} {b : Nat} (hM : gw_M l κ' cy (.ref b :: As) w post) (hc : gw_calI κ' n) {host : String} (hk : Cond.methodLinkNest κ.1.cls index κ'.1 host ∈ gw_N) (hn : As.length = n) (hs : stk = As.reverse ++ .ref b :: st) (hd : decode κ.2.1 pc = .ok (.invokespecial index, 3)) (hR : κ'.2.2.2.1.frames + 1 ≤ κ.2.2.2.1.frames ∧ 8 + (κ'.2.2.1 + 11) + κ'.2.2.2.1.locals ≤ κ.2.2.2.1.locals) (hf : n1 + κ'.2.2.2.1.cells ≤ κ.2.2.2.1.cells ∧ n2 + κ'.2.2.2.1.slots ≤ κ.2.2.2.1.slots) (hr : (st.map fun v => v.category).sum ≤ 8) (k : ∀ (r : Option Value) (w' : va_W), post r w' → gw_W l κ cy Z w' (n1 + κ'.2.2.2.1.cells) (n2 + κ'.2.2.2.1.slots) (pc + 3) lv (r.toList ++ st)) : gw_W l κ cy Z w n1 n2 pc lv stk := by
  intro p e s m args below meth c D A Q H locs ls C z hP hD hS hl
  have hpre := gw_preS (av := (.ref b :: As)) hP C.2.2.2.2.2.2.2.2.1 C.2.2.2.2.2.2.2.2.2.1 hD
  exact gw_go (va_runIN (As := As) (rest := st) ⟨C.1, C.2.1, C.2.2.2.1, C.2.2.2.2.1, C.2.2.2.2.2.1⟩ (hM D H.size) ⟨(va_cnB n C.2.2.2.2.2.1 (gw_goodws hc.1.1) (show gw_ws κ' = Cond.code κ'.1 κ'.2.1 κ'.2.2.1 none :: gw_All by rw [gw_ws, hc.2.2.2]) rfl rfl (C.2.2.2.2.2.2.2.2.2.1.1 _ hk) (C.2.2.2.2.2.1 _ hc.1.2.1) hc.1.2.2 hR), hc.2.2.1, C.2.2.2.2.2.1 _ hc.2.1⟩ hpre rfl hn hl.1 hs (lv_room hr) hd hf) hS hD C.2.2.2.2.2.2.2.2.2.2 (fun r w' H1 locs1 hp hP1 hD1 hS1 => k r w' hp p e s m args below meth c D A Q H1 locs1 ls C z hP1 hD1 hS1 hl)
end GWC
end
