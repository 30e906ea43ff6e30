section
-- ===== PART A: goes FIRST, ahead of the names: the tables' words, and 'selects' of the private methods out of them =====
/-- a private method of a class that the tables say can be made, by its rows of tables_1 -/
def lw_okq (q : MethodName × Nat) : Prop := (q.1.cls ≠ "java/lang/invoke/MethodHandle" ∧ q.1.cls ≠ "java/lang/invoke/VarHandle") ∧ Cond.instantiable q.1.cls q.2 ∈ tables_1 ∧ Cond.privateMethod q.1 ∈ tables_1 ∧ Cond.instanceMethod q.1 ∈ tables_1
theorem lw_p0 : lw_okq (⟨"SpinBench", "tableAt", "(I)LSpinBench$Table;"⟩, 15) := ⟨⟨by decide +kernel, by decide +kernel⟩, List.mem_of_getElem? (i := 19) (by decide +kernel), List.mem_of_getElem? (i := 171) (by decide +kernel), List.mem_of_getElem? (i := 172) (by decide +kernel)⟩
theorem lw_p1 : lw_okq (⟨"SpinBench", "found", "(I)I"⟩, 15) := ⟨⟨by decide +kernel, by decide +kernel⟩, List.mem_of_getElem? (i := 19) (by decide +kernel), List.mem_of_getElem? (i := 179) (by decide +kernel), List.mem_of_getElem? (i := 180) (by decide +kernel)⟩
theorem lw_p2 : lw_okq (⟨"SpinBench$Table", "make", "(II)V"⟩, 4) := ⟨⟨by decide +kernel, by decide +kernel⟩, List.mem_of_getElem? (i := 93) (by decide +kernel), List.mem_of_getElem? (i := 184) (by decide +kernel), List.mem_of_getElem? (i := 185) (by decide +kernel)⟩
theorem lw_p3 : lw_okq (⟨"SpinBench", "notFound", "(I)I"⟩, 15) := ⟨⟨by decide +kernel, by decide +kernel⟩, List.mem_of_getElem? (i := 19) (by decide +kernel), List.mem_of_getElem? (i := 191) (by decide +kernel), List.mem_of_getElem? (i := 192) (by decide +kernel)⟩
theorem lw_p4 : lw_okq (⟨"SpinBench$Table", "hasPlaces", "(II)Z"⟩, 4) := ⟨⟨by decide +kernel, by decide +kernel⟩, List.mem_of_getElem? (i := 93) (by decide +kernel), List.mem_of_getElem? (i := 199) (by decide +kernel), List.mem_of_getElem? (i := 200) (by decide +kernel)⟩
theorem lw_p5 : lw_okq (⟨"SpinBench$Table", "fitted", "(I)I"⟩, 4) := ⟨⟨by decide +kernel, by decide +kernel⟩, List.mem_of_getElem? (i := 93) (by decide +kernel), List.mem_of_getElem? (i := 203) (by decide +kernel), List.mem_of_getElem? (i := 204) (by decide +kernel)⟩
theorem lw_p6 : lw_okq (⟨"SpinBench", "sumAt", "(I)LSpinBench$Sum;"⟩, 15) := ⟨⟨by decide +kernel, by decide +kernel⟩, List.mem_of_getElem? (i := 19) (by decide +kernel), List.mem_of_getElem? (i := 222) (by decide +kernel), List.mem_of_getElem? (i := 223) (by decide +kernel)⟩
theorem lw_p7 : lw_okq (⟨"SpinBench", "isProduct", "(I)Z"⟩, 15) := ⟨⟨by decide +kernel, by decide +kernel⟩, List.mem_of_getElem? (i := 19) (by decide +kernel), List.mem_of_getElem? (i := 230) (by decide +kernel), List.mem_of_getElem? (i := 231) (by decide +kernel)⟩
theorem lw_p8 : lw_okq (⟨"SpinBench$Mixer", "begin", "()V"⟩, 8) := ⟨⟨by decide +kernel, by decide +kernel⟩, List.mem_of_getElem? (i := 29) (by decide +kernel), List.mem_of_getElem? (i := 234) (by decide +kernel), List.mem_of_getElem? (i := 235) (by decide +kernel)⟩
theorem lw_p9 : lw_okq (⟨"SpinBench$Mixer", "putSum", "(LSpinBench$Sum;I)V"⟩, 8) := ⟨⟨by decide +kernel, by decide +kernel⟩, List.mem_of_getElem? (i := 29) (by decide +kernel), List.mem_of_getElem? (i := 238) (by decide +kernel), List.mem_of_getElem? (i := 239) (by decide +kernel)⟩
theorem lw_p10 : lw_okq (⟨"SpinBench$Mixer", "put", "(IJ)V"⟩, 8) := ⟨⟨by decide +kernel, by decide +kernel⟩, List.mem_of_getElem? (i := 29) (by decide +kernel), List.mem_of_getElem? (i := 242) (by decide +kernel), List.mem_of_getElem? (i := 243) (by decide +kernel)⟩
theorem lw_p11 : lw_okq (⟨"SpinBench$Mixer", "enter", "(IIJ)V"⟩, 8) := ⟨⟨by decide +kernel, by decide +kernel⟩, List.mem_of_getElem? (i := 29) (by decide +kernel), List.mem_of_getElem? (i := 247) (by decide +kernel), List.mem_of_getElem? (i := 248) (by decide +kernel)⟩
theorem lw_p12 : lw_okq (⟨"SpinBench$Mixer", "settle", "(LSpinBench$Sum;)Z"⟩, 8) := ⟨⟨by decide +kernel, by decide +kernel⟩, List.mem_of_getElem? (i := 29) (by decide +kernel), List.mem_of_getElem? (i := 252) (by decide +kernel), List.mem_of_getElem? (i := 253) (by decide +kernel)⟩
theorem lw_p13 : lw_okq (⟨"SpinBench$Mixer", "dropZeros", "()V"⟩, 8) := ⟨⟨by decide +kernel, by decide +kernel⟩, List.mem_of_getElem? (i := 29) (by decide +kernel), List.mem_of_getElem? (i := 256) (by decide +kernel), List.mem_of_getElem? (i := 257) (by decide +kernel)⟩
theorem lw_p14 : lw_okq (⟨"SpinBench$Mixer", "isSum", "()Z"⟩, 8) := ⟨⟨by decide +kernel, by decide +kernel⟩, List.mem_of_getElem? (i := 29) (by decide +kernel), List.mem_of_getElem? (i := 260) (by decide +kernel), List.mem_of_getElem? (i := 261) (by decide +kernel)⟩
theorem lw_p15 : lw_okq (⟨"SpinBench$Mixer", "sort", "()V"⟩, 8) := ⟨⟨by decide +kernel, by decide +kernel⟩, List.mem_of_getElem? (i := 29) (by decide +kernel), List.mem_of_getElem? (i := 271) (by decide +kernel), List.mem_of_getElem? (i := 272) (by decide +kernel)⟩
def lw_privs_1 : List (MethodName × Nat) := [(⟨"SpinBench", "tableAt", "(I)LSpinBench$Table;"⟩, 15), (⟨"SpinBench", "found", "(I)I"⟩, 15), (⟨"SpinBench$Table", "make", "(II)V"⟩, 4), (⟨"SpinBench", "notFound", "(I)I"⟩, 15), (⟨"SpinBench$Table", "hasPlaces", "(II)Z"⟩, 4), (⟨"SpinBench$Table", "fitted", "(I)I"⟩, 4), (⟨"SpinBench", "sumAt", "(I)LSpinBench$Sum;"⟩, 15), (⟨"SpinBench", "isProduct", "(I)Z"⟩, 15), (⟨"SpinBench$Mixer", "begin", "()V"⟩, 8), (⟨"SpinBench$Mixer", "putSum", "(LSpinBench$Sum;I)V"⟩, 8), (⟨"SpinBench$Mixer", "put", "(IJ)V"⟩, 8), (⟨"SpinBench$Mixer", "enter", "(IIJ)V"⟩, 8), (⟨"SpinBench$Mixer", "settle", "(LSpinBench$Sum;)Z"⟩, 8), (⟨"SpinBench$Mixer", "dropZeros", "()V"⟩, 8), (⟨"SpinBench$Mixer", "isSum", "()Z"⟩, 8), (⟨"SpinBench$Mixer", "sort", "()V"⟩, 8)]
theorem lw_r1 : ∀ q ∈ lw_privs_1, lw_okq q := List.forall_mem_cons.mpr ⟨lw_p0, List.forall_mem_cons.mpr ⟨lw_p1, List.forall_mem_cons.mpr ⟨lw_p2, List.forall_mem_cons.mpr ⟨lw_p3, List.forall_mem_cons.mpr ⟨lw_p4, List.forall_mem_cons.mpr ⟨lw_p5, List.forall_mem_cons.mpr ⟨lw_p6, List.forall_mem_cons.mpr ⟨lw_p7, List.forall_mem_cons.mpr ⟨lw_p8, List.forall_mem_cons.mpr ⟨lw_p9, List.forall_mem_cons.mpr ⟨lw_p10, List.forall_mem_cons.mpr ⟨lw_p11, List.forall_mem_cons.mpr ⟨lw_p12, List.forall_mem_cons.mpr ⟨lw_p13, List.forall_mem_cons.mpr ⟨lw_p14, List.forall_mem_cons.mpr ⟨lw_p15, fun _ h => absurd h List.not_mem_nil⟩⟩⟩⟩⟩⟩⟩⟩⟩⟩⟩⟩⟩⟩⟩⟩
theorem lw_p16 : lw_okq (⟨"SpinBench$Mixer", "merge", "(III)V"⟩, 8) := ⟨⟨by decide +kernel, by decide +kernel⟩, List.mem_of_getElem? (i := 29) (by decide +kernel), List.mem_of_getElem? (i := 276) (by decide +kernel), List.mem_of_getElem? (i := 277) (by decide +kernel)⟩
theorem lw_p17 : lw_okq (⟨"SpinBench$Sum", "become", "(LSpinBench$Sum;)V"⟩, 3) := ⟨⟨by decide +kernel, by decide +kernel⟩, List.mem_of_getElem? (i := 72) (by decide +kernel), List.mem_of_getElem? (i := 286) (by decide +kernel), List.mem_of_getElem? (i := 287) (by decide +kernel)⟩
theorem lw_p18 : lw_okq (⟨"SpinBench$Mixer", "joinSums", "(LSpinBench$Sum;LSpinBench$Sum;I)Z"⟩, 8) := ⟨⟨by decide +kernel, by decide +kernel⟩, List.mem_of_getElem? (i := 29) (by decide +kernel), List.mem_of_getElem? (i := 295) (by decide +kernel), List.mem_of_getElem? (i := 296) (by decide +kernel)⟩
theorem lw_p19 : lw_okq (⟨"SpinBench", "turnByQuarters", "(II)Z"⟩, 15) := ⟨⟨by decide +kernel, by decide +kernel⟩, List.mem_of_getElem? (i := 19) (by decide +kernel), List.mem_of_getElem? (i := 306) (by decide +kernel), List.mem_of_getElem? (i := 307) (by decide +kernel)⟩
theorem lw_p20 : lw_okq (⟨"SpinBench", "turnByLetter", "(III)Z"⟩, 15) := ⟨⟨by decide +kernel, by decide +kernel⟩, List.mem_of_getElem? (i := 19) (by decide +kernel), List.mem_of_getElem? (i := 326) (by decide +kernel), List.mem_of_getElem? (i := 327) (by decide +kernel)⟩
theorem lw_p21 : lw_okq (⟨"SpinBench$Mixer", "putTimesSine", "(IIJ)V"⟩, 8) := ⟨⟨by decide +kernel, by decide +kernel⟩, List.mem_of_getElem? (i := 29) (by decide +kernel), List.mem_of_getElem? (i := 336) (by decide +kernel), List.mem_of_getElem? (i := 337) (by decide +kernel)⟩
theorem lw_p22 : lw_okq (⟨"SpinBench$Sum", "isLike", "(LSpinBench$Sum;)Z"⟩, 3) := ⟨⟨by decide +kernel, by decide +kernel⟩, List.mem_of_getElem? (i := 72) (by decide +kernel), List.mem_of_getElem? (i := 366) (by decide +kernel), List.mem_of_getElem? (i := 367) (by decide +kernel)⟩
theorem lw_p23 : lw_okq (⟨"SpinBench$Mixer", "multiply", "(LSpinBench$Sum;LSpinBench$Sum;LSpinBench$Sum;)Z"⟩, 8) := ⟨⟨by decide +kernel, by decide +kernel⟩, List.mem_of_getElem? (i := 29) (by decide +kernel), List.mem_of_getElem? (i := 374) (by decide +kernel), List.mem_of_getElem? (i := 375) (by decide +kernel)⟩
theorem lw_p24 : lw_okq (⟨"SpinBench$Mixer", "putRows", "(IIJ)Z"⟩, 8) := ⟨⟨by decide +kernel, by decide +kernel⟩, List.mem_of_getElem? (i := 29) (by decide +kernel), List.mem_of_getElem? (i := 382) (by decide +kernel), List.mem_of_getElem? (i := 383) (by decide +kernel)⟩
theorem lw_p25 : lw_okq (⟨"SpinBench", "isPulse", "(III)Z"⟩, 15) := ⟨⟨by decide +kernel, by decide +kernel⟩, List.mem_of_getElem? (i := 19) (by decide +kernel), List.mem_of_getElem? (i := 406) (by decide +kernel), List.mem_of_getElem? (i := 407) (by decide +kernel)⟩
theorem lw_p26 : lw_okq (⟨"SpinBench", "append", "(LSpinBench$Op;)I"⟩, 15) := ⟨⟨by decide +kernel, by decide +kernel⟩, List.mem_of_getElem? (i := 19) (by decide +kernel), List.mem_of_getElem? (i := 451) (by decide +kernel), List.mem_of_getElem? (i := 452) (by decide +kernel)⟩
theorem lw_p27 : lw_okq (⟨"SpinBench", "openRounds", "()I"⟩, 15) := ⟨⟨by decide +kernel, by decide +kernel⟩, List.mem_of_getElem? (i := 19) (by decide +kernel), List.mem_of_getElem? (i := 500) (by decide +kernel), List.mem_of_getElem? (i := 501) (by decide +kernel)⟩
theorem lw_p28 : lw_okq (⟨"SpinBench", "opAt", "(I)LSpinBench$Op;"⟩, 15) := ⟨⟨by decide +kernel, by decide +kernel⟩, List.mem_of_getElem? (i := 19) (by decide +kernel), List.mem_of_getElem? (i := 559) (by decide +kernel), List.mem_of_getElem? (i := 560) (by decide +kernel)⟩
theorem lw_p29 : lw_okq (⟨"SpinBench", "leaveBody", "(I)V"⟩, 15) := ⟨⟨by decide +kernel, by decide +kernel⟩, List.mem_of_getElem? (i := 19) (by decide +kernel), List.mem_of_getElem? (i := 623) (by decide +kernel), List.mem_of_getElem? (i := 624) (by decide +kernel)⟩
theorem lw_p30 : lw_okq (⟨"SpinBench", "presentTables", "()I"⟩, 15) := ⟨⟨by decide +kernel, by decide +kernel⟩, List.mem_of_getElem? (i := 19) (by decide +kernel), List.mem_of_getElem? (i := 729) (by decide +kernel), List.mem_of_getElem? (i := 730) (by decide +kernel)⟩
theorem lw_p31 : lw_okq (⟨"SpinBench", "allTerms", "()I"⟩, 15) := ⟨⟨by decide +kernel, by decide +kernel⟩, List.mem_of_getElem? (i := 19) (by decide +kernel), List.mem_of_getElem? (i := 733) (by decide +kernel), List.mem_of_getElem? (i := 734) (by decide +kernel)⟩
def lw_privs_2 : List (MethodName × Nat) := [(⟨"SpinBench$Mixer", "merge", "(III)V"⟩, 8), (⟨"SpinBench$Sum", "become", "(LSpinBench$Sum;)V"⟩, 3), (⟨"SpinBench$Mixer", "joinSums", "(LSpinBench$Sum;LSpinBench$Sum;I)Z"⟩, 8), (⟨"SpinBench", "turnByQuarters", "(II)Z"⟩, 15), (⟨"SpinBench", "turnByLetter", "(III)Z"⟩, 15), (⟨"SpinBench$Mixer", "putTimesSine", "(IIJ)V"⟩, 8), (⟨"SpinBench$Sum", "isLike", "(LSpinBench$Sum;)Z"⟩, 3), (⟨"SpinBench$Mixer", "multiply", "(LSpinBench$Sum;LSpinBench$Sum;LSpinBench$Sum;)Z"⟩, 8), (⟨"SpinBench$Mixer", "putRows", "(IIJ)Z"⟩, 8), (⟨"SpinBench", "isPulse", "(III)Z"⟩, 15), (⟨"SpinBench", "append", "(LSpinBench$Op;)I"⟩, 15), (⟨"SpinBench", "openRounds", "()I"⟩, 15), (⟨"SpinBench", "opAt", "(I)LSpinBench$Op;"⟩, 15), (⟨"SpinBench", "leaveBody", "(I)V"⟩, 15), (⟨"SpinBench", "presentTables", "()I"⟩, 15), (⟨"SpinBench", "allTerms", "()I"⟩, 15)]
theorem lw_r2 : ∀ q ∈ lw_privs_2, lw_okq q := List.forall_mem_cons.mpr ⟨lw_p16, List.forall_mem_cons.mpr ⟨lw_p17, List.forall_mem_cons.mpr ⟨lw_p18, List.forall_mem_cons.mpr ⟨lw_p19, List.forall_mem_cons.mpr ⟨lw_p20, List.forall_mem_cons.mpr ⟨lw_p21, List.forall_mem_cons.mpr ⟨lw_p22, List.forall_mem_cons.mpr ⟨lw_p23, List.forall_mem_cons.mpr ⟨lw_p24, List.forall_mem_cons.mpr ⟨lw_p25, List.forall_mem_cons.mpr ⟨lw_p26, List.forall_mem_cons.mpr ⟨lw_p27, List.forall_mem_cons.mpr ⟨lw_p28, List.forall_mem_cons.mpr ⟨lw_p29, List.forall_mem_cons.mpr ⟨lw_p30, List.forall_mem_cons.mpr ⟨lw_p31, fun _ h => absurd h List.not_mem_nil⟩⟩⟩⟩⟩⟩⟩⟩⟩⟩⟩⟩⟩⟩⟩⟩
theorem lw_p32 : lw_okq (⟨"SpinBenchModel", "finds", "(I)I"⟩, 28) := ⟨⟨by decide +kernel, by decide +kernel⟩, List.mem_of_getElem? (i := 744) (by decide +kernel), List.mem_of_getElem? (i := 849) (by decide +kernel), List.mem_of_getElem? (i := 850) (by decide +kernel)⟩
theorem lw_p33 : lw_okq (⟨"SpinBenchModel", "well", "(I)I"⟩, 28) := ⟨⟨by decide +kernel, by decide +kernel⟩, List.mem_of_getElem? (i := 744) (by decide +kernel), List.mem_of_getElem? (i := 854) (by decide +kernel), List.mem_of_getElem? (i := 855) (by decide +kernel)⟩
theorem lw_p34 : lw_okq (⟨"SpinBenchModel", "isProduct", "(I)Z"⟩, 28) := ⟨⟨by decide +kernel, by decide +kernel⟩, List.mem_of_getElem? (i := 744) (by decide +kernel), List.mem_of_getElem? (i := 885) (by decide +kernel), List.mem_of_getElem? (i := 886) (by decide +kernel)⟩
theorem lw_p35 : lw_okq (⟨"SpinBenchModel", "putAll", "(IJ)V"⟩, 28) := ⟨⟨by decide +kernel, by decide +kernel⟩, List.mem_of_getElem? (i := 744) (by decide +kernel), List.mem_of_getElem? (i := 889) (by decide +kernel), List.mem_of_getElem? (i := 890) (by decide +kernel)⟩
theorem lw_p36 : lw_okq (⟨"SpinBenchModel", "put", "(IJ)V"⟩, 28) := ⟨⟨by decide +kernel, by decide +kernel⟩, List.mem_of_getElem? (i := 744) (by decide +kernel), List.mem_of_getElem? (i := 893) (by decide +kernel), List.mem_of_getElem? (i := 894) (by decide +kernel)⟩
theorem lw_p37 : lw_okq (⟨"SpinBenchModel", "kept", "(I)I"⟩, 28) := ⟨⟨by decide +kernel, by decide +kernel⟩, List.mem_of_getElem? (i := 744) (by decide +kernel), List.mem_of_getElem? (i := 897) (by decide +kernel), List.mem_of_getElem? (i := 898) (by decide +kernel)⟩
theorem lw_p38 : lw_okq (⟨"SpinBenchModel", "keep", "(I)Z"⟩, 28) := ⟨⟨by decide +kernel, by decide +kernel⟩, List.mem_of_getElem? (i := 744) (by decide +kernel), List.mem_of_getElem? (i := 901) (by decide +kernel), List.mem_of_getElem? (i := 902) (by decide +kernel)⟩
theorem lw_p39 : lw_okq (⟨"SpinBenchModel", "copySum", "(II)V"⟩, 28) := ⟨⟨by decide +kernel, by decide +kernel⟩, List.mem_of_getElem? (i := 744) (by decide +kernel), List.mem_of_getElem? (i := 915) (by decide +kernel), List.mem_of_getElem? (i := 916) (by decide +kernel)⟩
theorem lw_p40 : lw_okq (⟨"SpinBenchModel", "joined", "(III)Z"⟩, 28) := ⟨⟨by decide +kernel, by decide +kernel⟩, List.mem_of_getElem? (i := 744) (by decide +kernel), List.mem_of_getElem? (i := 925) (by decide +kernel), List.mem_of_getElem? (i := 926) (by decide +kernel)⟩
theorem lw_p41 : lw_okq (⟨"SpinBenchModel", "turnQuarter", "(II)V"⟩, 28) := ⟨⟨by decide +kernel, by decide +kernel⟩, List.mem_of_getElem? (i := 744) (by decide +kernel), List.mem_of_getElem? (i := 933) (by decide +kernel), List.mem_of_getElem? (i := 934) (by decide +kernel)⟩
theorem lw_p42 : lw_okq (⟨"SpinBenchModel", "fits", "(II)Z"⟩, 28) := ⟨⟨by decide +kernel, by decide +kernel⟩, List.mem_of_getElem? (i := 744) (by decide +kernel), List.mem_of_getElem? (i := 940) (by decide +kernel), List.mem_of_getElem? (i := 941) (by decide +kernel)⟩
theorem lw_p43 : lw_okq (⟨"SpinBenchModel", "with", "(II)I"⟩, 28) := ⟨⟨by decide +kernel, by decide +kernel⟩, List.mem_of_getElem? (i := 744) (by decide +kernel), List.mem_of_getElem? (i := 944) (by decide +kernel), List.mem_of_getElem? (i := 945) (by decide +kernel)⟩
theorem lw_p44 : lw_okq (⟨"SpinBenchModel", "turnLetter", "(III)Z"⟩, 28) := ⟨⟨by decide +kernel, by decide +kernel⟩, List.mem_of_getElem? (i := 744) (by decide +kernel), List.mem_of_getElem? (i := 956) (by decide +kernel), List.mem_of_getElem? (i := 957) (by decide +kernel)⟩
theorem lw_p45 : lw_okq (⟨"SpinBenchModel", "isTerm", "(II)Z"⟩, 28) := ⟨⟨by decide +kernel, by decide +kernel⟩, List.mem_of_getElem? (i := 744) (by decide +kernel), List.mem_of_getElem? (i := 977) (by decide +kernel), List.mem_of_getElem? (i := 978) (by decide +kernel)⟩
theorem lw_p46 : lw_okq (⟨"SpinBenchModel", "multiply", "(IIJ)Z"⟩, 28) := ⟨⟨by decide +kernel, by decide +kernel⟩, List.mem_of_getElem? (i := 744) (by decide +kernel), List.mem_of_getElem? (i := 997) (by decide +kernel), List.mem_of_getElem? (i := 998) (by decide +kernel)⟩
theorem lw_p47 : lw_okq (⟨"SpinBenchModel", "isPulse", "(III)Z"⟩, 28) := ⟨⟨by decide +kernel, by decide +kernel⟩, List.mem_of_getElem? (i := 744) (by decide +kernel), List.mem_of_getElem? (i := 1011) (by decide +kernel), List.mem_of_getElem? (i := 1012) (by decide +kernel)⟩
def lw_privs_3 : List (MethodName × Nat) := [(⟨"SpinBenchModel", "finds", "(I)I"⟩, 28), (⟨"SpinBenchModel", "well", "(I)I"⟩, 28), (⟨"SpinBenchModel", "isProduct", "(I)Z"⟩, 28), (⟨"SpinBenchModel", "putAll", "(IJ)V"⟩, 28), (⟨"SpinBenchModel", "put", "(IJ)V"⟩, 28), (⟨"SpinBenchModel", "kept", "(I)I"⟩, 28), (⟨"SpinBenchModel", "keep", "(I)Z"⟩, 28), (⟨"SpinBenchModel", "copySum", "(II)V"⟩, 28), (⟨"SpinBenchModel", "joined", "(III)Z"⟩, 28), (⟨"SpinBenchModel", "turnQuarter", "(II)V"⟩, 28), (⟨"SpinBenchModel", "fits", "(II)Z"⟩, 28), (⟨"SpinBenchModel", "with", "(II)I"⟩, 28), (⟨"SpinBenchModel", "turnLetter", "(III)Z"⟩, 28), (⟨"SpinBenchModel", "isTerm", "(II)Z"⟩, 28), (⟨"SpinBenchModel", "multiply", "(IIJ)Z"⟩, 28), (⟨"SpinBenchModel", "isPulse", "(III)Z"⟩, 28)]
theorem lw_r3 : ∀ q ∈ lw_privs_3, lw_okq q := List.forall_mem_cons.mpr ⟨lw_p32, List.forall_mem_cons.mpr ⟨lw_p33, List.forall_mem_cons.mpr ⟨lw_p34, List.forall_mem_cons.mpr ⟨lw_p35, List.forall_mem_cons.mpr ⟨lw_p36, List.forall_mem_cons.mpr ⟨lw_p37, List.forall_mem_cons.mpr ⟨lw_p38, List.forall_mem_cons.mpr ⟨lw_p39, List.forall_mem_cons.mpr ⟨lw_p40, List.forall_mem_cons.mpr ⟨lw_p41, List.forall_mem_cons.mpr ⟨lw_p42, List.forall_mem_cons.mpr ⟨lw_p43, List.forall_mem_cons.mpr ⟨lw_p44, List.forall_mem_cons.mpr ⟨lw_p45, List.forall_mem_cons.mpr ⟨lw_p46, List.forall_mem_cons.mpr ⟨lw_p47, fun _ h => absurd h List.not_mem_nil⟩⟩⟩⟩⟩⟩⟩⟩⟩⟩⟩⟩⟩⟩⟩⟩
theorem lw_p48 : lw_okq (⟨"SpinBenchModel", "come", "(IIIII)I"⟩, 28) := ⟨⟨by decide +kernel, by decide +kernel⟩, List.mem_of_getElem? (i := 744) (by decide +kernel), List.mem_of_getElem? (i := 1015) (by decide +kernel), List.mem_of_getElem? (i := 1016) (by decide +kernel)⟩
theorem lw_p49 : lw_okq (⟨"SpinBenchModel", "isOp", "(I)Z"⟩, 28) := ⟨⟨by decide +kernel, by decide +kernel⟩, List.mem_of_getElem? (i := 744) (by decide +kernel), List.mem_of_getElem? (i := 1049) (by decide +kernel), List.mem_of_getElem? (i := 1050) (by decide +kernel)⟩
theorem lw_p50 : lw_okq (⟨"SpinBenchModel", "cost", "(I)I"⟩, 28) := ⟨⟨by decide +kernel, by decide +kernel⟩, List.mem_of_getElem? (i := 744) (by decide +kernel), List.mem_of_getElem? (i := 1065) (by decide +kernel), List.mem_of_getElem? (i := 1066) (by decide +kernel)⟩
theorem lw_p51 : lw_okq (⟨"SpinBenchModel", "begins", "(I)V"⟩, 28) := ⟨⟨by decide +kernel, by decide +kernel⟩, List.mem_of_getElem? (i := 744) (by decide +kernel), List.mem_of_getElem? (i := 1069) (by decide +kernel), List.mem_of_getElem? (i := 1070) (by decide +kernel)⟩
theorem lw_p52 : lw_okq (⟨"SpinBenchModel", "mark2", "(I)I"⟩, 28) := ⟨⟨by decide +kernel, by decide +kernel⟩, List.mem_of_getElem? (i := 744) (by decide +kernel), List.mem_of_getElem? (i := 1073) (by decide +kernel), List.mem_of_getElem? (i := 1074) (by decide +kernel)⟩
theorem lw_p53 : lw_okq (⟨"SpinBenchModel", "mark", "(I)I"⟩, 28) := ⟨⟨by decide +kernel, by decide +kernel⟩, List.mem_of_getElem? (i := 744) (by decide +kernel), List.mem_of_getElem? (i := 1077) (by decide +kernel), List.mem_of_getElem? (i := 1078) (by decide +kernel)⟩
theorem lw_p54 : lw_okq (⟨"SpinBenchModel", "does", "(I)I"⟩, 28) := ⟨⟨by decide +kernel, by decide +kernel⟩, List.mem_of_getElem? (i := 744) (by decide +kernel), List.mem_of_getElem? (i := 1089) (by decide +kernel), List.mem_of_getElem? (i := 1090) (by decide +kernel)⟩
theorem lw_p55 : lw_okq (⟨"SpinBenchModel", "doPulse", "(II)V"⟩, 28) := ⟨⟨by decide +kernel, by decide +kernel⟩, List.mem_of_getElem? (i := 744) (by decide +kernel), List.mem_of_getElem? (i := 1093) (by decide +kernel), List.mem_of_getElem? (i := 1094) (by decide +kernel)⟩
def lw_privs_4 : List (MethodName × Nat) := [(⟨"SpinBenchModel", "come", "(IIIII)I"⟩, 28), (⟨"SpinBenchModel", "isOp", "(I)Z"⟩, 28), (⟨"SpinBenchModel", "cost", "(I)I"⟩, 28), (⟨"SpinBenchModel", "begins", "(I)V"⟩, 28), (⟨"SpinBenchModel", "mark2", "(I)I"⟩, 28), (⟨"SpinBenchModel", "mark", "(I)I"⟩, 28), (⟨"SpinBenchModel", "does", "(I)I"⟩, 28), (⟨"SpinBenchModel", "doPulse", "(II)V"⟩, 28)]
theorem lw_r4 : ∀ q ∈ lw_privs_4, lw_okq q := List.forall_mem_cons.mpr ⟨lw_p48, List.forall_mem_cons.mpr ⟨lw_p49, List.forall_mem_cons.mpr ⟨lw_p50, List.forall_mem_cons.mpr ⟨lw_p51, List.forall_mem_cons.mpr ⟨lw_p52, List.forall_mem_cons.mpr ⟨lw_p53, List.forall_mem_cons.mpr ⟨lw_p54, List.forall_mem_cons.mpr ⟨lw_p55, fun _ h => absurd h List.not_mem_nil⟩⟩⟩⟩⟩⟩⟩⟩
def lw_privs : List (MethodName × Nat) := lw_privs_1 ++ (lw_privs_2 ++ (lw_privs_3 ++ (lw_privs_4)))
def lw_tbl : List Cond := k2_sels lw_privs ++ tables_1
theorem lw_privs_ok : ∀ q ∈ lw_privs, lw_okq q := by
  show ∀ q ∈ lw_privs_1 ++ (lw_privs_2 ++ (lw_privs_3 ++ (lw_privs_4))), lw_okq q
  exact List.forall_mem_append.mpr ⟨lw_r1, List.forall_mem_append.mpr ⟨lw_r2, List.forall_mem_append.mpr ⟨lw_r3, lw_r4⟩⟩⟩
def RX0 : String := "SpinBench$Cycled"
def TX0 : u_T := fun k => match k with
  | 0 => ("SpinBench$Pulse", "spinSet", "I", true)
  | 1 => ("SpinBench$Pulse", "phase", "I", true)
  | 2 => ("SpinBench$Pulse", "quarters", "I", true)
  | 3 => ("SpinBench$Op", "place", "I", true)
  | 4 => ("SpinBench$Op", "around", "LSpinBench$Round;", true)
  | _ => ("SpinBench$Cycled", "cycle", "I", true)
def tyX0 : Nat → FieldType := fun k => match k with
  | 0 => .int
  | 1 => .int
  | 2 => .int
  | 3 => .int
  | 4 => .object "SpinBench$Round"
  | _ => .int
abbrev wsX00 : List Cond := u_ws RX0 TX0 6
theorem nmX0 : ∀ a, a < 6 → ∀ b, b < 6 → a ≠ b → (TX0 a).2.1 ≠ (TX0 b).2.1 := by decide +kernel
theorem tyX0_ok : ∀ k, k < 6 → parseFieldDescriptor (TX0 k).2.2.1 = some (tyX0 k) := by decide +kernel
abbrev cX0_init : ByteArray := prog_2_method_1_code
def yX0_init : MethodName := ⟨RX0, "<init>", "(ILSpinBench$Round;IIII)V"⟩
abbrev cX0_ownKind : ByteArray := prog_2_method_2_code
def yX0_ownKind : MethodName := ⟨RX0, "ownKind", "()I"⟩
abbrev cX0_cost : ByteArray := prog_2_method_3_code
def yX0_cost : MethodName := ⟨RX0, "cost", "(LSpinBench;)I"⟩
abbrev cX0_mark : ByteArray := prog_2_method_4_code
def yX0_mark : MethodName := ⟨RX0, "mark", "(LSpinBench;)I"⟩
abbrev cX0_perform : ByteArray := prog_2_method_5_code
def yX0_perform : MethodName := ⟨RX0, "perform", "(LSpinBench;)I"⟩
def RX1 : String := "SpinBench$Delay"
def TX1 : u_T := fun k => match k with
  | 0 => ("SpinBench$Op", "place", "I", true)
  | 1 => ("SpinBench$Op", "around", "LSpinBench$Round;", true)
  | 2 => ("SpinBench$Delay", "about", "I", true)
  | 3 => ("SpinBench$Delay", "angle", "I", true)
  | _ => ("SpinBench$Delay", "way", "I", true)
def tyX1 : Nat → FieldType := fun k => match k with
  | 0 => .int
  | 1 => .object "SpinBench$Round"
  | 2 => .int
  | 3 => .int
  | _ => .int
abbrev wsX10 : List Cond := u_ws RX1 TX1 5
theorem nmX1 : ∀ a, a < 5 → ∀ b, b < 5 → a ≠ b → (TX1 a).2.1 ≠ (TX1 b).2.1 := by decide +kernel
theorem tyX1_ok : ∀ k, k < 5 → parseFieldDescriptor (TX1 k).2.2.1 = some (tyX1 k) := by decide +kernel
abbrev cX1_init : ByteArray := prog_3_method_1_code
def yX1_init : MethodName := ⟨RX1, "<init>", "(ILSpinBench$Round;III)V"⟩
abbrev cX1_ownKind : ByteArray := prog_3_method_2_code
def yX1_ownKind : MethodName := ⟨RX1, "ownKind", "()I"⟩
abbrev cX1_mark : ByteArray := prog_3_method_3_code
def yX1_mark : MethodName := ⟨RX1, "mark", "(LSpinBench;)I"⟩
abbrev cX1_perform : ByteArray := prog_3_method_4_code
def yX1_perform : MethodName := ⟨RX1, "perform", "(LSpinBench;)I"⟩
def RX2 : String := "SpinBench$End"
def TX2 : u_T := fun k => match k with
  | 0 => ("SpinBench$Op", "place", "I", true)
  | _ => ("SpinBench$Op", "around", "LSpinBench$Round;", true)
def tyX2 : Nat → FieldType := fun k => match k with
  | 0 => .int
  | _ => .object "SpinBench$Round"
abbrev wsX20 : List Cond := u_ws RX2 TX2 2
theorem nmX2 : ∀ a, a < 2 → ∀ b, b < 2 → a ≠ b → (TX2 a).2.1 ≠ (TX2 b).2.1 := by decide +kernel
theorem tyX2_ok : ∀ k, k < 2 → parseFieldDescriptor (TX2 k).2.2.1 = some (tyX2 k) := by decide +kernel
abbrev cX2_init : ByteArray := prog_4_method_1_code
def yX2_init : MethodName := ⟨RX2, "<init>", "(ILSpinBench$Round;)V"⟩
abbrev cX2_ownKind : ByteArray := prog_4_method_2_code
def yX2_ownKind : MethodName := ⟨RX2, "ownKind", "()I"⟩
abbrev cX2_perform : ByteArray := prog_4_method_3_code
def yX2_perform : MethodName := ⟨RX2, "perform", "(LSpinBench;)I"⟩
def RX3 : String := "SpinBench$Lead"
def TX3 : u_T := fun k => match k with
  | _ => ("", "", "", false)
def tyX3 : Nat → FieldType := fun k => match k with
  | _ => .int
abbrev wsX30 : List Cond := u_ws RX3 TX3 0
theorem nmX3 : ∀ a, a < 0 → ∀ b, b < 0 → a ≠ b → (TX3 a).2.1 ≠ (TX3 b).2.1 := by decide +kernel
theorem tyX3_ok : ∀ k, k < 0 → parseFieldDescriptor (TX3 k).2.2.1 = some (tyX3 k) := by decide +kernel
abbrev cX3_init : ByteArray := prog_5_method_1_code
def yX3_init : MethodName := ⟨RX3, "<init>", "(ILSpinBench$Round;)V"⟩
abbrev cX3_isOfKind : ByteArray := prog_5_method_2_code
def yX3_isOfKind : MethodName := ⟨RX3, "isOfKind", "(I)Z"⟩
abbrev cX3_cost : ByteArray := prog_5_method_3_code
def yX3_cost : MethodName := ⟨RX3, "cost", "(LSpinBench;)I"⟩
abbrev cX3_mark : ByteArray := prog_5_method_4_code
def yX3_mark : MethodName := ⟨RX3, "mark", "(LSpinBench;)I"⟩
def RX4 : String := "SpinBench$Mixer"
def TX4 : u_T := fun k => match k with
  | 0 => ("SpinBench$Mixer", "keys", "[I", false)
  | 1 => ("SpinBench$Mixer", "numbers", "[J", false)
  | 2 => ("SpinBench$Mixer", "spareKeys", "[I", false)
  | 3 => ("SpinBench$Mixer", "spareNumbers", "[J", false)
  | 4 => ("SpinBench$Mixer", "size", "I", false)
  | 5 => ("SpinBench$Mixer", "slots", "[I", true)
  | 6 => ("SpinBench$Mixer", "slotsUsed", "[I", true)
  | _ => ("SpinBench$Mixer", "used", "I", false)
def tyX4 : Nat → FieldType := fun k => match k with
  | 0 => .array .int
  | 1 => .array .long
  | 2 => .array .int
  | 3 => .array .long
  | 4 => .int
  | 5 => .array .int
  | 6 => .array .int
  | _ => .int
abbrev wsX40 : List Cond := u_ws RX4 TX4 8
theorem nmX4 : ∀ a, a < 8 → ∀ b, b < 8 → a ≠ b → (TX4 a).2.1 ≠ (TX4 b).2.1 := by decide +kernel
theorem tyX4_ok : ∀ k, k < 8 → parseFieldDescriptor (TX4 k).2.2.1 = some (tyX4 k) := by decide +kernel
abbrev cX4_init : ByteArray := prog_6_method_1_code
def yX4_init : MethodName := ⟨RX4, "<init>", "()V"⟩
abbrev cX4_begin : ByteArray := prog_6_method_2_code
def yX4_begin : MethodName := ⟨RX4, "begin", "()V"⟩
abbrev cX4_put : ByteArray := prog_6_method_3_code
def yX4_put : MethodName := ⟨RX4, "put", "(IJ)V"⟩
abbrev cX4_enter : ByteArray := prog_6_method_4_code
def yX4_enter : MethodName := ⟨RX4, "enter", "(IIJ)V"⟩
abbrev cX4_putSum : ByteArray := prog_6_method_5_code
def yX4_putSum : MethodName := ⟨RX4, "putSum", "(LSpinBench$Sum;I)V"⟩
abbrev cX4_putTimesSine : ByteArray := prog_6_method_6_code
def yX4_putTimesSine : MethodName := ⟨RX4, "putTimesSine", "(IIJ)V"⟩
abbrev cX4_joinSums : ByteArray := prog_6_method_7_code
def yX4_joinSums : MethodName := ⟨RX4, "joinSums", "(LSpinBench$Sum;LSpinBench$Sum;I)Z"⟩
abbrev cX4_multiply : ByteArray := prog_6_method_8_code
def yX4_multiply : MethodName := ⟨RX4, "multiply", "(LSpinBench$Sum;LSpinBench$Sum;LSpinBench$Sum;)Z"⟩
abbrev cX4_isBeyond : ByteArray := prog_6_method_9_code
def yX4_isBeyond : MethodName := ⟨RX4, "isBeyond", "(JJ)Z"⟩
abbrev cX4_putRows : ByteArray := prog_6_method_10_code
def yX4_putRows : MethodName := ⟨RX4, "putRows", "(IIJ)Z"⟩
abbrev cX4_squaredCosines : ByteArray := prog_6_method_11_code
def yX4_squaredCosines : MethodName := ⟨RX4, "squaredCosines", "(I)I"⟩
abbrev cX4_settle : ByteArray := prog_6_method_12_code
def yX4_settle : MethodName := ⟨RX4, "settle", "(LSpinBench$Sum;)Z"⟩
abbrev cX4_dropZeros : ByteArray := prog_6_method_13_code
def yX4_dropZeros : MethodName := ⟨RX4, "dropZeros", "()V"⟩
abbrev cX4_isSum : ByteArray := prog_6_method_14_code
def yX4_isSum : MethodName := ⟨RX4, "isSum", "()Z"⟩
abbrev cX4_sort : ByteArray := prog_6_method_15_code
def yX4_sort : MethodName := ⟨RX4, "sort", "()V"⟩
abbrev cX4_merge : ByteArray := prog_6_method_16_code
def yX4_merge : MethodName := ⟨RX4, "merge", "(III)V"⟩
def RX5 : String := "SpinBench$Op"
def TX5 : u_T := fun k => match k with
  | _ => ("", "", "", false)
def tyX5 : Nat → FieldType := fun k => match k with
  | _ => .int
abbrev wsX50 : List Cond := u_ws RX5 TX5 0
theorem nmX5 : ∀ a, a < 0 → ∀ b, b < 0 → a ≠ b → (TX5 a).2.1 ≠ (TX5 b).2.1 := by decide +kernel
theorem tyX5_ok : ∀ k, k < 0 → parseFieldDescriptor (TX5 k).2.2.1 = some (tyX5 k) := by decide +kernel
abbrev cX5_init : ByteArray := prog_7_method_1_code
def yX5_init : MethodName := ⟨RX5, "<init>", "(ILSpinBench$Round;)V"⟩
abbrev cX5_isOfKind : ByteArray := prog_7_method_4_code
def yX5_isOfKind : MethodName := ⟨RX5, "isOfKind", "(I)Z"⟩
abbrev cX5_cost : ByteArray := prog_7_method_5_code
def yX5_cost : MethodName := ⟨RX5, "cost", "(LSpinBench;)I"⟩
abbrev cX5_mark : ByteArray := prog_7_method_6_code
def yX5_mark : MethodName := ⟨RX5, "mark", "(LSpinBench;)I"⟩
def RX6 : String := "SpinBench$Pulse"
def TX6 : u_T := fun k => match k with
  | 0 => ("SpinBench$Op", "place", "I", true)
  | 1 => ("SpinBench$Op", "around", "LSpinBench$Round;", true)
  | 2 => ("SpinBench$Pulse", "spinSet", "I", true)
  | 3 => ("SpinBench$Pulse", "phase", "I", true)
  | _ => ("SpinBench$Pulse", "quarters", "I", true)
def tyX6 : Nat → FieldType := fun k => match k with
  | 0 => .int
  | 1 => .object "SpinBench$Round"
  | 2 => .int
  | 3 => .int
  | _ => .int
abbrev wsX60 : List Cond := u_ws RX6 TX6 5
theorem nmX6 : ∀ a, a < 5 → ∀ b, b < 5 → a ≠ b → (TX6 a).2.1 ≠ (TX6 b).2.1 := by decide +kernel
theorem tyX6_ok : ∀ k, k < 5 → parseFieldDescriptor (TX6 k).2.2.1 = some (tyX6 k) := by decide +kernel
abbrev cX6_init : ByteArray := prog_8_method_1_code
def yX6_init : MethodName := ⟨RX6, "<init>", "(ILSpinBench$Round;III)V"⟩
abbrev cX6_ownKind : ByteArray := prog_8_method_2_code
def yX6_ownKind : MethodName := ⟨RX6, "ownKind", "()I"⟩
abbrev cX6_isOfKind : ByteArray := prog_8_method_3_code
def yX6_isOfKind : MethodName := ⟨RX6, "isOfKind", "(I)Z"⟩
abbrev cX6_cost : ByteArray := prog_8_method_4_code
def yX6_cost : MethodName := ⟨RX6, "cost", "(LSpinBench;)I"⟩
abbrev cX6_perform : ByteArray := prog_8_method_5_code
def yX6_perform : MethodName := ⟨RX6, "perform", "(LSpinBench;)I"⟩
abbrev cX6_turnSpins : ByteArray := prog_8_method_6_code
def yX6_turnSpins : MethodName := ⟨RX6, "turnSpins", "(LSpinBench;I)I"⟩
def RX7 : String := "SpinBench$Round"
def TX7 : u_T := fun k => match k with
  | 0 => ("SpinBench$Op", "place", "I", true)
  | 1 => ("SpinBench$Op", "around", "LSpinBench$Round;", true)
  | 2 => ("SpinBench$Round", "often", "I", true)
  | _ => ("SpinBench$Round", "timesDone", "I", false)
def tyX7 : Nat → FieldType := fun k => match k with
  | 0 => .int
  | 1 => .object "SpinBench$Round"
  | 2 => .int
  | _ => .int
abbrev wsX70 : List Cond := u_ws RX7 TX7 4
theorem nmX7 : ∀ a, a < 4 → ∀ b, b < 4 → a ≠ b → (TX7 a).2.1 ≠ (TX7 b).2.1 := by decide +kernel
theorem tyX7_ok : ∀ k, k < 4 → parseFieldDescriptor (TX7 k).2.2.1 = some (tyX7 k) := by decide +kernel
abbrev cX7_init : ByteArray := prog_9_method_1_code
def yX7_init : MethodName := ⟨RX7, "<init>", "(ILSpinBench$Round;I)V"⟩
abbrev cX7_ownKind : ByteArray := prog_9_method_2_code
def yX7_ownKind : MethodName := ⟨RX7, "ownKind", "()I"⟩
abbrev cX7_cost : ByteArray := prog_9_method_3_code
def yX7_cost : MethodName := ⟨RX7, "cost", "(LSpinBench;)I"⟩
abbrev cX7_perform : ByteArray := prog_9_method_4_code
def yX7_perform : MethodName := ⟨RX7, "perform", "(LSpinBench;)I"⟩
def RX8 : String := "SpinBench$Store"
def TX8 : u_T := fun k => match k with
  | 0 => ("SpinBench$Op", "place", "I", true)
  | 1 => ("SpinBench$Op", "around", "LSpinBench$Round;", true)
  | 2 => ("SpinBench$Store", "shelf", "I", true)
  | _ => ("SpinBench$Store", "times", "I", true)
def tyX8 : Nat → FieldType := fun k => match k with
  | 0 => .int
  | 1 => .object "SpinBench$Round"
  | 2 => .int
  | _ => .int
abbrev wsX80 : List Cond := u_ws RX8 TX8 4
theorem nmX8 : ∀ a, a < 4 → ∀ b, b < 4 → a ≠ b → (TX8 a).2.1 ≠ (TX8 b).2.1 := by decide +kernel
theorem tyX8_ok : ∀ k, k < 4 → parseFieldDescriptor (TX8 k).2.2.1 = some (tyX8 k) := by decide +kernel
abbrev cX8_init : ByteArray := prog_10_method_1_code
def yX8_init : MethodName := ⟨RX8, "<init>", "(ILSpinBench$Round;II)V"⟩
abbrev cX8_ownKind : ByteArray := prog_10_method_2_code
def yX8_ownKind : MethodName := ⟨RX8, "ownKind", "()I"⟩
abbrev cX8_mark : ByteArray := prog_10_method_3_code
def yX8_mark : MethodName := ⟨RX8, "mark", "(LSpinBench;)I"⟩
abbrev cX8_perform : ByteArray := prog_10_method_4_code
def yX8_perform : MethodName := ⟨RX8, "perform", "(LSpinBench;)I"⟩
def RX9 : String := "SpinBench$Sum"
def TX9 : u_T := fun k => match k with
  | 0 => ("SpinBench$Sum", "keys", "[I", true)
  | 1 => ("SpinBench$Sum", "numbers", "[J", true)
  | _ => ("SpinBench$Sum", "size", "I", false)
def tyX9 : Nat → FieldType := fun k => match k with
  | 0 => .array .int
  | 1 => .array .long
  | _ => .int
abbrev wsX90 : List Cond := u_ws RX9 TX9 3
theorem nmX9 : ∀ a, a < 3 → ∀ b, b < 3 → a ≠ b → (TX9 a).2.1 ≠ (TX9 b).2.1 := by decide +kernel
theorem tyX9_ok : ∀ k, k < 3 → parseFieldDescriptor (TX9 k).2.2.1 = some (tyX9 k) := by decide +kernel
abbrev cX9_init : ByteArray := prog_11_method_1_code
def yX9_init : MethodName := ⟨RX9, "<init>", "()V"⟩
abbrev cX9_become : ByteArray := prog_11_method_2_code
def yX9_become : MethodName := ⟨RX9, "become", "(LSpinBench$Sum;)V"⟩
abbrev cX9_isLike : ByteArray := prog_11_method_3_code
def yX9_isLike : MethodName := ⟨RX9, "isLike", "(LSpinBench$Sum;)Z"⟩
def RX10 : String := "SpinBench$Table"
def TX10 : u_T := fun k => match k with
  | 0 => ("SpinBench$Table", "items", "[I", true)
  | 1 => ("SpinBench$Table", "missing", "Z", false)
  | 2 => ("SpinBench$Table", "lane", "I", false)
  | _ => ("SpinBench$Table", "size", "I", false)
def tyX10 : Nat → FieldType := fun k => match k with
  | 0 => .array .int
  | 1 => .boolean
  | 2 => .int
  | _ => .int
abbrev wsX100 : List Cond := u_ws RX10 TX10 4
theorem nmX10 : ∀ a, a < 4 → ∀ b, b < 4 → a ≠ b → (TX10 a).2.1 ≠ (TX10 b).2.1 := by decide +kernel
theorem tyX10_ok : ∀ k, k < 4 → parseFieldDescriptor (TX10 k).2.2.1 = some (tyX10 k) := by decide +kernel
abbrev cX10_init : ByteArray := prog_12_method_1_code
def yX10_init : MethodName := ⟨RX10, "<init>", "()V"⟩
abbrev cX10_make : ByteArray := prog_12_method_2_code
def yX10_make : MethodName := ⟨RX10, "make", "(II)V"⟩
abbrev cX10_hasPlaces : ByteArray := prog_12_method_3_code
def yX10_hasPlaces : MethodName := ⟨RX10, "hasPlaces", "(II)Z"⟩
abbrev cX10_fitted : ByteArray := prog_12_method_4_code
def yX10_fitted : MethodName := ⟨RX10, "fitted", "(I)I"⟩
def RX11 : String := "SpinBench"
def TX11 : u_T := fun k => match k with
  | 0 => ("SpinBench", "spinCount", "I", true)
  | 1 => ("SpinBench", "sums", "[LSpinBench$Sum;", true)
  | 2 => ("SpinBench", "sumsAhead", "[LSpinBench$Sum;", true)
  | 3 => ("SpinBench", "work", "LSpinBench$Sum;", true)
  | 4 => ("SpinBench", "mixer", "LSpinBench$Mixer;", true)
  | 5 => ("SpinBench", "tables", "[LSpinBench$Table;", true)
  | 6 => ("SpinBench", "program", "[LSpinBench$Op;", true)
  | 7 => ("SpinBench", "length", "I", false)
  | 8 => ("SpinBench", "latestOpen", "LSpinBench$Round;", false)
  | 9 => ("SpinBench", "next", "I", false)
  | 10 => ("SpinBench", "stepsDone", "I", false)
  | 11 => ("SpinBench", "lastBegun", "I", false)
  | 12 => ("SpinBench", "bodies", "[I", true)
  | 13 => ("SpinBench", "bodiesBegun", "I", false)
  | _ => ("SpinBench", "latestFinding", "I", false)
def tyX11 : Nat → FieldType := fun k => match k with
  | 0 => .int
  | 1 => .array (.object "SpinBench$Sum")
  | 2 => .array (.object "SpinBench$Sum")
  | 3 => .object "SpinBench$Sum"
  | 4 => .object "SpinBench$Mixer"
  | 5 => .array (.object "SpinBench$Table")
  | 6 => .array (.object "SpinBench$Op")
  | 7 => .int
  | 8 => .object "SpinBench$Round"
  | 9 => .int
  | 10 => .int
  | 11 => .int
  | 12 => .array .int
  | 13 => .int
  | _ => .int
abbrev wsX110 : List Cond := u_ws RX11 TX11 15
theorem nmX11 : ∀ a, a < 15 → ∀ b, b < 15 → a ≠ b → (TX11 a).2.1 ≠ (TX11 b).2.1 := by decide +kernel
theorem tyX11_ok : ∀ k, k < 15 → parseFieldDescriptor (TX11 k).2.2.1 = some (tyX11 k) := by decide +kernel
abbrev cX11_init : ByteArray := prog_1_method_1_code
def yX11_init : MethodName := ⟨RX11, "<init>", "(I)V"⟩
abbrev cX11_table : ByteArray := prog_1_method_2_code
def yX11_table : MethodName := ⟨RX11, "table", "(III)I"⟩
abbrev cX11_set : ByteArray := prog_1_method_3_code
def yX11_set : MethodName := ⟨RX11, "set", "(III)I"⟩
abbrev cX11_copy : ByteArray := prog_1_method_4_code
def yX11_copy : MethodName := ⟨RX11, "copy", "(IIIII)I"⟩
abbrev cX11_drop : ByteArray := prog_1_method_5_code
def yX11_drop : MethodName := ⟨RX11, "drop", "(I)I"⟩
abbrev cX11_clear : ByteArray := prog_1_method_6_code
def yX11_clear : MethodName := ⟨RX11, "clear", "(I)I"⟩
abbrev cX11_add : ByteArray := prog_1_method_7_code
def yX11_add : MethodName := ⟨RX11, "add", "(III)I"⟩
abbrev cX11_take : ByteArray := prog_1_method_8_code
def yX11_take : MethodName := ⟨RX11, "take", "(II)I"⟩
abbrev cX11_join : ByteArray := prog_1_method_9_code
def yX11_join : MethodName := ⟨RX11, "join", "(III)I"⟩
abbrev cX11_quarter : ByteArray := prog_1_method_10_code
def yX11_quarter : MethodName := ⟨RX11, "quarter", "(II)I"⟩
abbrev cX11_letter : ByteArray := prog_1_method_11_code
def yX11_letter : MethodName := ⟨RX11, "letter", "(III)I"⟩
abbrev cX11_terms : ByteArray := prog_1_method_12_code
def yX11_terms : MethodName := ⟨RX11, "terms", "(I)I"⟩
abbrev cX11_number : ByteArray := prog_1_method_13_code
def yX11_number : MethodName := ⟨RX11, "number", "(II)J"⟩
abbrev cX11_power : ByteArray := prog_1_method_14_code
def yX11_power : MethodName := ⟨RX11, "power", "(III)I"⟩
abbrev cX11_same : ByteArray := prog_1_method_15_code
def yX11_same : MethodName := ⟨RX11, "same", "(II)I"⟩
abbrev cX11_product : ByteArray := prog_1_method_16_code
def yX11_product : MethodName := ⟨RX11, "product", "(III)I"⟩
abbrev cX11_digest : ByteArray := prog_1_method_17_code
def yX11_digest : MethodName := ⟨RX11, "digest", "(I)J"⟩
abbrev cX11_pulse : ByteArray := prog_1_method_18_code
def yX11_pulse : MethodName := ⟨RX11, "pulse", "(III)I"⟩
abbrev cX11_cycled : ByteArray := prog_1_method_19_code
def yX11_cycled : MethodName := ⟨RX11, "cycled", "(IIII)I"⟩
abbrev cX11_delay : ByteArray := prog_1_method_20_code
def yX11_delay : MethodName := ⟨RX11, "delay", "(III)I"⟩
abbrev cX11_round : ByteArray := prog_1_method_21_code
def yX11_round : MethodName := ⟨RX11, "round", "(I)I"⟩
abbrev cX11_end : ByteArray := prog_1_method_22_code
def yX11_end : MethodName := ⟨RX11, "end", "()I"⟩
abbrev cX11_store : ByteArray := prog_1_method_23_code
def yX11_store : MethodName := ⟨RX11, "store", "(II)I"⟩
abbrev cX11_back : ByteArray := prog_1_method_24_code
def yX11_back : MethodName := ⟨RX11, "back", "()I"⟩
abbrev cX11_kind : ByteArray := prog_1_method_25_code
def yX11_kind : MethodName := ⟨RX11, "kind", "(I)I"⟩
abbrev cX11_is : ByteArray := prog_1_method_26_code
def yX11_is : MethodName := ⟨RX11, "is", "(II)I"⟩
abbrev cX11_spins : ByteArray := prog_1_method_27_code
def yX11_spins : MethodName := ⟨RX11, "spins", "(I)I"⟩
abbrev cX11_ask : ByteArray := prog_1_method_28_code
def yX11_ask : MethodName := ⟨RX11, "ask", "(II)I"⟩
abbrev cX11_trace : ByteArray := prog_1_method_29_code
def yX11_trace : MethodName := ⟨RX11, "trace", "(I)I"⟩
abbrev cX11_run : ByteArray := prog_1_method_30_code
def yX11_run : MethodName := ⟨RX11, "run", "()I"⟩
abbrev cX11_told : ByteArray := prog_1_method_31_code
def yX11_told : MethodName := ⟨RX11, "told", "(I)I"⟩
abbrev cX11_count : ByteArray := prog_1_method_32_code
def yX11_count : MethodName := ⟨RX11, "count", "(I)I"⟩
abbrev cX11_status : ByteArray := prog_1_method_33_code
def yX11_status : MethodName := ⟨RX11, "status", "()I"⟩
abbrev cX11_within : ByteArray := prog_1_method_34_code
def yX11_within : MethodName := ⟨RX11, "within", "(III)Z"⟩
abbrev cX11_isWay : ByteArray := prog_1_method_35_code
def yX11_isWay : MethodName := ⟨RX11, "isWay", "(I)Z"⟩
abbrev cX11_isProduct : ByteArray := prog_1_method_36_code
def yX11_isProduct : MethodName := ⟨RX11, "isProduct", "(I)Z"⟩
abbrev cX11_isPulse : ByteArray := prog_1_method_37_code
def yX11_isPulse : MethodName := ⟨RX11, "isPulse", "(III)Z"⟩
abbrev cX11_tableAt : ByteArray := prog_1_method_38_code
def yX11_tableAt : MethodName := ⟨RX11, "tableAt", "(I)LSpinBench$Table;"⟩
abbrev cX11_sumAt : ByteArray := prog_1_method_39_code
def yX11_sumAt : MethodName := ⟨RX11, "sumAt", "(I)LSpinBench$Sum;"⟩
abbrev cX11_opAt : ByteArray := prog_1_method_40_code
def yX11_opAt : MethodName := ⟨RX11, "opAt", "(I)LSpinBench$Op;"⟩
abbrev cX11_found : ByteArray := prog_1_method_41_code
def yX11_found : MethodName := ⟨RX11, "found", "(I)I"⟩
abbrev cX11_notFound : ByteArray := prog_1_method_42_code
def yX11_notFound : MethodName := ⟨RX11, "notFound", "(I)I"⟩
abbrev cX11_append : ByteArray := prog_1_method_43_code
def yX11_append : MethodName := ⟨RX11, "append", "(LSpinBench$Op;)I"⟩
abbrev cX11_presentTables : ByteArray := prog_1_method_44_code
def yX11_presentTables : MethodName := ⟨RX11, "presentTables", "()I"⟩
abbrev cX11_openRounds : ByteArray := prog_1_method_45_code
def yX11_openRounds : MethodName := ⟨RX11, "openRounds", "()I"⟩
abbrev cX11_allTerms : ByteArray := prog_1_method_46_code
def yX11_allTerms : MethodName := ⟨RX11, "allTerms", "()I"⟩
abbrev cX11_takeAll : ByteArray := prog_1_method_47_code
def yX11_takeAll : MethodName := ⟨RX11, "takeAll", "([LSpinBench$Sum;[LSpinBench$Sum;)V"⟩
abbrev cX11_leaveBody : ByteArray := prog_1_method_48_code
def yX11_leaveBody : MethodName := ⟨RX11, "leaveBody", "(I)V"⟩
abbrev cX11_signOf : ByteArray := prog_1_method_49_code
def yX11_signOf : MethodName := ⟨RX11, "signOf", "(II)I"⟩
abbrev cX11_withProduct : ByteArray := prog_1_method_50_code
def yX11_withProduct : MethodName := ⟨RX11, "withProduct", "(II)I"⟩
abbrev cX11_turnByQuarters : ByteArray := prog_1_method_51_code
def yX11_turnByQuarters : MethodName := ⟨RX11, "turnByQuarters", "(II)Z"⟩
abbrev cX11_turnByLetter : ByteArray := prog_1_method_52_code
def yX11_turnByLetter : MethodName := ⟨RX11, "turnByLetter", "(III)Z"⟩
abbrev cX11_productOf : ByteArray := prog_1_method_53_code
def yX11_productOf : MethodName := ⟨RX11, "productOf", "(I)I"⟩
abbrev cX11_oneSine : ByteArray := prog_1_method_54_code
def yX11_oneSine : MethodName := ⟨RX11, "oneSine", "(I)I"⟩
abbrev cX11_oneCosine : ByteArray := prog_1_method_55_code
def yX11_oneCosine : MethodName := ⟨RX11, "oneCosine", "(I)I"⟩
abbrev cX11_cosinesOf : ByteArray := prog_1_method_56_code
def yX11_cosinesOf : MethodName := ⟨RX11, "cosinesOf", "(II)I"⟩
abbrev cX11_sinesOf : ByteArray := prog_1_method_57_code
def yX11_sinesOf : MethodName := ⟨RX11, "sinesOf", "(II)I"⟩
abbrev cX11_powerOf : ByteArray := prog_1_method_58_code
def yX11_powerOf : MethodName := ⟨RX11, "powerOf", "(II)I"⟩
def RX12 : String := "SpinBenchModel"
def TX12 : u_T := fun k => match k with
  | 0 => ("SpinBenchModel", "spins", "I", true)
  | 1 => ("SpinBenchModel", "products", "I", true)
  | 2 => ("SpinBenchModel", "lane", "[I", true)
  | 3 => ("SpinBenchModel", "size", "[I", true)
  | 4 => ("SpinBenchModel", "item", "[I", true)
  | 5 => ("SpinBenchModel", "moving", "[I", true)
  | 6 => ("SpinBenchModel", "many", "[I", true)
  | 7 => ("SpinBenchModel", "key", "[I", true)
  | 8 => ("SpinBenchModel", "number", "[J", true)
  | 9 => ("SpinBenchModel", "made", "I", false)
  | 10 => ("SpinBenchModel", "madeKey", "[I", true)
  | 11 => ("SpinBenchModel", "madeNumber", "[J", true)
  | 12 => ("SpinBenchModel", "ops", "I", false)
  | 13 => ("SpinBenchModel", "kind", "[I", true)
  | 14 => ("SpinBenchModel", "set", "[I", true)
  | 15 => ("SpinBenchModel", "phase", "[I", true)
  | 16 => ("SpinBenchModel", "turns", "[I", true)
  | 17 => ("SpinBenchModel", "table", "[I", true)
  | 18 => ("SpinBenchModel", "notEnded", "I", false)
  | 19 => ("SpinBenchModel", "status", "I", false)
  | 20 => ("SpinBenchModel", "trace", "[I", true)
  | 21 => ("SpinBenchModel", "traced", "I", false)
  | 22 => ("SpinBenchModel", "steps", "I", false)
  | 23 => ("SpinBenchModel", "latest", "I", false)
  | 24 => ("SpinBenchModel", "sign", "I", false)
  | 25 => ("SpinBenchModel", "rounds", "I", false)
  | 26 => ("SpinBenchModel", "roundAt", "[I", true)
  | _ => ("SpinBenchModel", "roundDone", "[I", true)
def tyX12 : Nat → FieldType := fun k => match k with
  | 0 => .int
  | 1 => .int
  | 2 => .array .int
  | 3 => .array .int
  | 4 => .array .int
  | 5 => .array .int
  | 6 => .array .int
  | 7 => .array .int
  | 8 => .array .long
  | 9 => .int
  | 10 => .array .int
  | 11 => .array .long
  | 12 => .int
  | 13 => .array .int
  | 14 => .array .int
  | 15 => .array .int
  | 16 => .array .int
  | 17 => .array .int
  | 18 => .int
  | 19 => .int
  | 20 => .array .int
  | 21 => .int
  | 22 => .int
  | 23 => .int
  | 24 => .int
  | 25 => .int
  | 26 => .array .int
  | _ => .array .int
abbrev wsX120 : List Cond := u_ws RX12 TX12 28
theorem nmX12 : ∀ a, a < 28 → ∀ b, b < 28 → a ≠ b → (TX12 a).2.1 ≠ (TX12 b).2.1 := by decide +kernel
theorem tyX12_ok : ∀ k, k < 28 → parseFieldDescriptor (TX12 k).2.2.1 = some (tyX12 k) := by decide +kernel
abbrev cX12_init : ByteArray := prog_14_method_1_code
def yX12_init : MethodName := ⟨RX12, "<init>", "(I)V"⟩
abbrev cX12_in : ByteArray := prog_14_method_2_code
def yX12_in : MethodName := ⟨RX12, "in", "(JJJ)Z"⟩
abbrev cX12_finds : ByteArray := prog_14_method_3_code
def yX12_finds : MethodName := ⟨RX12, "finds", "(I)I"⟩
abbrev cX12_well : ByteArray := prog_14_method_4_code
def yX12_well : MethodName := ⟨RX12, "well", "(I)I"⟩
abbrev cX12_isTable : ByteArray := prog_14_method_5_code
def yX12_isTable : MethodName := ⟨RX12, "isTable", "(I)Z"⟩
abbrev cX12_table : ByteArray := prog_14_method_6_code
def yX12_table : MethodName := ⟨RX12, "table", "(III)I"⟩
abbrev cX12_set : ByteArray := prog_14_method_7_code
def yX12_set : MethodName := ⟨RX12, "set", "(III)I"⟩
abbrev cX12_copy : ByteArray := prog_14_method_8_code
def yX12_copy : MethodName := ⟨RX12, "copy", "(IIIII)I"⟩
abbrev cX12_drop : ByteArray := prog_14_method_9_code
def yX12_drop : MethodName := ⟨RX12, "drop", "(I)I"⟩
abbrev cX12_cosine : ByteArray := prog_14_method_10_code
def yX12_cosine : MethodName := ⟨RX12, "cosine", "(II)I"⟩
abbrev cX12_sine : ByteArray := prog_14_method_11_code
def yX12_sine : MethodName := ⟨RX12, "sine", "(II)I"⟩
abbrev cX12_oneCosine : ByteArray := prog_14_method_12_code
def yX12_oneCosine : MethodName := ⟨RX12, "oneCosine", "(I)I"⟩
abbrev cX12_oneSine : ByteArray := prog_14_method_13_code
def yX12_oneSine : MethodName := ⟨RX12, "oneSine", "(I)I"⟩
abbrev cX12_productOf : ByteArray := prog_14_method_14_code
def yX12_productOf : MethodName := ⟨RX12, "productOf", "(I)I"⟩
abbrev cX12_put : ByteArray := prog_14_method_15_code
def yX12_put : MethodName := ⟨RX12, "put", "(IJ)V"⟩
abbrev cX12_placeOf : ByteArray := prog_14_method_16_code
def yX12_placeOf : MethodName := ⟨RX12, "placeOf", "(I)I"⟩
abbrev cX12_isShelf : ByteArray := prog_14_method_17_code
def yX12_isShelf : MethodName := ⟨RX12, "isShelf", "(I)Z"⟩
abbrev cX12_isProduct : ByteArray := prog_14_method_18_code
def yX12_isProduct : MethodName := ⟨RX12, "isProduct", "(I)Z"⟩
abbrev cX12_keep : ByteArray := prog_14_method_19_code
def yX12_keep : MethodName := ⟨RX12, "keep", "(I)Z"⟩
abbrev cX12_putAll : ByteArray := prog_14_method_20_code
def yX12_putAll : MethodName := ⟨RX12, "putAll", "(IJ)V"⟩
abbrev cX12_copySum : ByteArray := prog_14_method_21_code
def yX12_copySum : MethodName := ⟨RX12, "copySum", "(II)V"⟩
abbrev cX12_kept : ByteArray := prog_14_method_22_code
def yX12_kept : MethodName := ⟨RX12, "kept", "(I)I"⟩
abbrev cX12_clear : ByteArray := prog_14_method_23_code
def yX12_clear : MethodName := ⟨RX12, "clear", "(I)I"⟩
abbrev cX12_add : ByteArray := prog_14_method_24_code
def yX12_add : MethodName := ⟨RX12, "add", "(III)I"⟩
abbrev cX12_take : ByteArray := prog_14_method_25_code
def yX12_take : MethodName := ⟨RX12, "take", "(II)I"⟩
abbrev cX12_join : ByteArray := prog_14_method_26_code
def yX12_join : MethodName := ⟨RX12, "join", "(III)I"⟩
abbrev cX12_joined : ByteArray := prog_14_method_27_code
def yX12_joined : MethodName := ⟨RX12, "joined", "(III)Z"⟩
abbrev cX12_fits : ByteArray := prog_14_method_28_code
def yX12_fits : MethodName := ⟨RX12, "fits", "(II)Z"⟩
abbrev cX12_with : ByteArray := prog_14_method_29_code
def yX12_with : MethodName := ⟨RX12, "with", "(II)I"⟩
abbrev cX12_turnQuarter : ByteArray := prog_14_method_30_code
def yX12_turnQuarter : MethodName := ⟨RX12, "turnQuarter", "(II)V"⟩
abbrev cX12_turnLetter : ByteArray := prog_14_method_31_code
def yX12_turnLetter : MethodName := ⟨RX12, "turnLetter", "(III)Z"⟩
abbrev cX12_quarter : ByteArray := prog_14_method_32_code
def yX12_quarter : MethodName := ⟨RX12, "quarter", "(II)I"⟩
abbrev cX12_isWay : ByteArray := prog_14_method_33_code
def yX12_isWay : MethodName := ⟨RX12, "isWay", "(I)Z"⟩
abbrev cX12_letter : ByteArray := prog_14_method_34_code
def yX12_letter : MethodName := ⟨RX12, "letter", "(III)I"⟩
abbrev cX12_terms : ByteArray := prog_14_method_35_code
def yX12_terms : MethodName := ⟨RX12, "terms", "(I)I"⟩
abbrev cX12_isTerm : ByteArray := prog_14_method_36_code
def yX12_isTerm : MethodName := ⟨RX12, "isTerm", "(II)Z"⟩
abbrev cX12_number : ByteArray := prog_14_method_37_code
def yX12_number : MethodName := ⟨RX12, "number", "(II)J"⟩
abbrev cX12_powerOf : ByteArray := prog_14_method_38_code
def yX12_powerOf : MethodName := ⟨RX12, "powerOf", "(II)I"⟩
abbrev cX12_power : ByteArray := prog_14_method_39_code
def yX12_power : MethodName := ⟨RX12, "power", "(III)I"⟩
abbrev cX12_same : ByteArray := prog_14_method_40_code
def yX12_same : MethodName := ⟨RX12, "same", "(II)I"⟩
abbrev cX12_multiply : ByteArray := prog_14_method_41_code
def yX12_multiply : MethodName := ⟨RX12, "multiply", "(IIJ)Z"⟩
abbrev cX12_product : ByteArray := prog_14_method_42_code
def yX12_product : MethodName := ⟨RX12, "product", "(III)I"⟩
abbrev cX12_digest : ByteArray := prog_14_method_43_code
def yX12_digest : MethodName := ⟨RX12, "digest", "(I)J"⟩
abbrev cX12_come : ByteArray := prog_14_method_44_code
def yX12_come : MethodName := ⟨RX12, "come", "(IIIII)I"⟩
abbrev cX12_isPulse : ByteArray := prog_14_method_45_code
def yX12_isPulse : MethodName := ⟨RX12, "isPulse", "(III)Z"⟩
abbrev cX12_pulse : ByteArray := prog_14_method_46_code
def yX12_pulse : MethodName := ⟨RX12, "pulse", "(III)I"⟩
abbrev cX12_cycled : ByteArray := prog_14_method_47_code
def yX12_cycled : MethodName := ⟨RX12, "cycled", "(IIII)I"⟩
abbrev cX12_delay : ByteArray := prog_14_method_48_code
def yX12_delay : MethodName := ⟨RX12, "delay", "(III)I"⟩
abbrev cX12_round : ByteArray := prog_14_method_49_code
def yX12_round : MethodName := ⟨RX12, "round", "(I)I"⟩
abbrev cX12_end : ByteArray := prog_14_method_50_code
def yX12_end : MethodName := ⟨RX12, "end", "()I"⟩
abbrev cX12_store : ByteArray := prog_14_method_51_code
def yX12_store : MethodName := ⟨RX12, "store", "(II)I"⟩
abbrev cX12_back : ByteArray := prog_14_method_52_code
def yX12_back : MethodName := ⟨RX12, "back", "()I"⟩
abbrev cX12_isOp : ByteArray := prog_14_method_53_code
def yX12_isOp : MethodName := ⟨RX12, "isOp", "(I)Z"⟩
abbrev cX12_kind : ByteArray := prog_14_method_54_code
def yX12_kind : MethodName := ⟨RX12, "kind", "(I)I"⟩
abbrev cX12_is : ByteArray := prog_14_method_55_code
def yX12_is : MethodName := ⟨RX12, "is", "(II)I"⟩
abbrev cX12_spins : ByteArray := prog_14_method_56_code
def yX12_spins : MethodName := ⟨RX12, "spins", "(I)I"⟩
abbrev cX12_begins : ByteArray := prog_14_method_57_code
def yX12_begins : MethodName := ⟨RX12, "begins", "(I)V"⟩
abbrev cX12_cost : ByteArray := prog_14_method_58_code
def yX12_cost : MethodName := ⟨RX12, "cost", "(I)I"⟩
abbrev cX12_mark2 : ByteArray := prog_14_method_59_code
def yX12_mark2 : MethodName := ⟨RX12, "mark2", "(I)I"⟩
abbrev cX12_mark : ByteArray := prog_14_method_60_code
def yX12_mark : MethodName := ⟨RX12, "mark", "(I)I"⟩
abbrev cX12_ask : ByteArray := prog_14_method_61_code
def yX12_ask : MethodName := ⟨RX12, "ask", "(II)I"⟩
abbrev cX12_trace : ByteArray := prog_14_method_62_code
def yX12_trace : MethodName := ⟨RX12, "trace", "(I)I"⟩
abbrev cX12_doPulse : ByteArray := prog_14_method_63_code
def yX12_doPulse : MethodName := ⟨RX12, "doPulse", "(II)V"⟩
abbrev cX12_does : ByteArray := prog_14_method_64_code
def yX12_does : MethodName := ⟨RX12, "does", "(I)I"⟩
abbrev cX12_run : ByteArray := prog_14_method_65_code
def yX12_run : MethodName := ⟨RX12, "run", "()I"⟩
abbrev cX12_told : ByteArray := prog_14_method_66_code
def yX12_told : MethodName := ⟨RX12, "told", "(I)I"⟩
abbrev cX12_count : ByteArray := prog_14_method_67_code
def yX12_count : MethodName := ⟨RX12, "count", "(I)I"⟩
abbrev cX12_status : ByteArray := prog_14_method_68_code
def yX12_status : MethodName := ⟨RX12, "status", "()I"⟩
def RJ6 : String := "java/lang/Integer"
def TJ6 : u_T := fun k => match k with
  | _ => ("", "", "", false)
def tyJ6 : Nat → FieldType := fun k => match k with
  | _ => .int
abbrev wsJ60 : List Cond := u_ws RJ6 TJ6 0
theorem nmJ6 : ∀ a, a < 0 → ∀ b, b < 0 → a ≠ b → (TJ6 a).2.1 ≠ (TJ6 b).2.1 := by decide +kernel
theorem tyJ6_ok : ∀ k, k < 0 → parseFieldDescriptor (TJ6 k).2.2.1 = some (tyJ6 k) := by decide +kernel
abbrev cJ6_bitCount_0f7a4 : ByteArray := prog_15_method_49_code
def yJ6_bitCount_0f7a4 : MethodName := ⟨RJ6, "bitCount", "(I)I"⟩
def RJ9 : String := "java/lang/Math"
def TJ9 : u_T := fun k => match k with
  | _ => ("", "", "", false)
def tyJ9 : Nat → FieldType := fun k => match k with
  | _ => .int
abbrev wsJ90 : List Cond := u_ws RJ9 TJ9 0
theorem nmJ9 : ∀ a, a < 0 → ∀ b, b < 0 → a ≠ b → (TJ9 a).2.1 ≠ (TJ9 b).2.1 := by decide +kernel
theorem tyJ9_ok : ∀ k, k < 0 → parseFieldDescriptor (TJ9 k).2.2.1 = some (tyJ9 k) := by decide +kernel
abbrev cJ9_abs_067f4 : ByteArray := prog_16_method_61_code
def yJ9_abs_067f4 : MethodName := ⟨RJ9, "abs", "(J)J"⟩
abbrev cJ9_max_7cf53 : ByteArray := prog_16_method_65_code
def yJ9_max_7cf53 : MethodName := ⟨RJ9, "max", "(II)I"⟩
abbrev cJ9_min_7cf53 : ByteArray := prog_16_method_69_code
def yJ9_min_7cf53 : MethodName := ⟨RJ9, "min", "(II)I"⟩
def RJ10 : String := "java/lang/System"
def TJ10 : u_T := fun k => match k with
  | _ => ("", "", "", false)
def tyJ10 : Nat → FieldType := fun k => match k with
  | _ => .int
abbrev wsJ100 : List Cond := u_ws RJ10 TJ10 0
theorem nmJ10 : ∀ a, a < 0 → ∀ b, b < 0 → a ≠ b → (TJ10 a).2.1 ≠ (TJ10 b).2.1 := by decide +kernel
theorem tyJ10_ok : ∀ k, k < 0 → parseFieldDescriptor (TJ10 k).2.2.1 = some (tyJ10 k) := by decide +kernel
def RJ7 : String := "java/util/Arrays"
def TJ7 : u_T := fun k => match k with
  | _ => ("", "", "", false)
def tyJ7 : Nat → FieldType := fun k => match k with
  | _ => .int
abbrev wsJ70 : List Cond := u_ws RJ7 TJ7 0
theorem nmJ7 : ∀ a, a < 0 → ∀ b, b < 0 → a ≠ b → (TJ7 a).2.1 ≠ (TJ7 b).2.1 := by decide +kernel
theorem tyJ7_ok : ∀ k, k < 0 → parseFieldDescriptor (TJ7 k).2.2.1 = some (tyJ7 k) := by decide +kernel
abbrev cJ7_fill_53178 : ByteArray := prog_18_method_103_code
def yJ7_fill_53178 : MethodName := ⟨RJ7, "fill", "([II)V"⟩
def RL : String := "SpinBenchLaw"
abbrev cL_cell : ByteArray := method_2_code
def yL_cell : MethodName := ⟨RL, "cell", "([II)I"⟩
abbrev cL_law : ByteArray := code
def yL_law : MethodName := ⟨RL, "law", "([I)Z"⟩
abbrev vwCl : List vw_C := [(RX0, TX0, 6), (RX1, TX1, 5), (RX2, TX2, 2), (RX4, TX4, 8), (RX6, TX6, 5), (RX7, TX7, 4), (RX8, TX8, 4), (RX9, TX9, 3), (RX10, TX10, 4), (RX11, TX11, 15), (RX12, TX12, 28)]
end
section
/-! the words of the tables that a call may pass on, a row a word, by its place -/
def gw_All : List Cond := lw_tbl.filter goodWord
theorem gw_in {w : Cond} (i : Nat) (h : lw_tbl[i]? = some w) (g : goodWord w = true) : w ∈ gw_All := List.mem_filter.mpr ⟨List.mem_of_getElem? h, g⟩
theorem gw_good {big : List Cond} (hb : ∀ w ∈ gw_All, w ∈ big) : GoodIn big gw_All := fun w hw => ⟨hb w hw, good_of_word (List.mem_filter.mp hw).2⟩
theorem gw_in_r (ws : List Cond) (ps : List Nat) (hp : ws = ps.filterMap (fun i => lw_tbl[i]?)) (h : ws.all goodWord = true) : ∀ w ∈ ws, w ∈ gw_All := by
  intro w hw
  have h1 := List.all_eq_true.mp h w hw
  rw [hp] at hw
  obtain ⟨i, -, hi⟩ := List.mem_filterMap.mp hw
  exact gw_in i hi h1
theorem wd_0 : Cond.selects "SpinBench" ⟨"SpinBench", "tableAt", "(I)LSpinBench$Table;"⟩ ⟨"SpinBench", "tableAt", "(I)LSpinBench$Table;"⟩ ∈ gw_All := gw_in 0 (by decide +kernel) (by decide +kernel)
theorem wd_1 : Cond.selects "SpinBench" ⟨"SpinBench", "found", "(I)I"⟩ ⟨"SpinBench", "found", "(I)I"⟩ ∈ gw_All := gw_in 1 (by decide +kernel) (by decide +kernel)
theorem wd_2 : Cond.selects "SpinBench$Table" ⟨"SpinBench$Table", "make", "(II)V"⟩ ⟨"SpinBench$Table", "make", "(II)V"⟩ ∈ gw_All := gw_in 2 (by decide +kernel) (by decide +kernel)
theorem wd_3 : Cond.selects "SpinBench" ⟨"SpinBench", "notFound", "(I)I"⟩ ⟨"SpinBench", "notFound", "(I)I"⟩ ∈ gw_All := gw_in 3 (by decide +kernel) (by decide +kernel)
theorem wd_4 : Cond.selects "SpinBench$Table" ⟨"SpinBench$Table", "hasPlaces", "(II)Z"⟩ ⟨"SpinBench$Table", "hasPlaces", "(II)Z"⟩ ∈ gw_All := gw_in 4 (by decide +kernel) (by decide +kernel)
theorem wd_5 : Cond.selects "SpinBench$Table" ⟨"SpinBench$Table", "fitted", "(I)I"⟩ ⟨"SpinBench$Table", "fitted", "(I)I"⟩ ∈ gw_All := gw_in 5 (by decide +kernel) (by decide +kernel)
theorem wd_6 : Cond.selects "SpinBench" ⟨"SpinBench", "sumAt", "(I)LSpinBench$Sum;"⟩ ⟨"SpinBench", "sumAt", "(I)LSpinBench$Sum;"⟩ ∈ gw_All := gw_in 6 (by decide +kernel) (by decide +kernel)
theorem wd_7 : Cond.selects "SpinBench" ⟨"SpinBench", "isProduct", "(I)Z"⟩ ⟨"SpinBench", "isProduct", "(I)Z"⟩ ∈ gw_All := gw_in 7 (by decide +kernel) (by decide +kernel)
theorem wd_8 : Cond.selects "SpinBench$Mixer" ⟨"SpinBench$Mixer", "begin", "()V"⟩ ⟨"SpinBench$Mixer", "begin", "()V"⟩ ∈ gw_All := gw_in 8 (by decide +kernel) (by decide +kernel)
theorem wd_9 : Cond.selects "SpinBench$Mixer" ⟨"SpinBench$Mixer", "putSum", "(LSpinBench$Sum;I)V"⟩ ⟨"SpinBench$Mixer", "putSum", "(LSpinBench$Sum;I)V"⟩ ∈ gw_All := gw_in 9 (by decide +kernel) (by decide +kernel)
theorem wd_10 : Cond.selects "SpinBench$Mixer" ⟨"SpinBench$Mixer", "put", "(IJ)V"⟩ ⟨"SpinBench$Mixer", "put", "(IJ)V"⟩ ∈ gw_All := gw_in 10 (by decide +kernel) (by decide +kernel)
theorem wd_11 : Cond.selects "SpinBench$Mixer" ⟨"SpinBench$Mixer", "enter", "(IIJ)V"⟩ ⟨"SpinBench$Mixer", "enter", "(IIJ)V"⟩ ∈ gw_All := gw_in 11 (by decide +kernel) (by decide +kernel)
theorem wd_12 : Cond.selects "SpinBench$Mixer" ⟨"SpinBench$Mixer", "settle", "(LSpinBench$Sum;)Z"⟩ ⟨"SpinBench$Mixer", "settle", "(LSpinBench$Sum;)Z"⟩ ∈ gw_All := gw_in 12 (by decide +kernel) (by decide +kernel)
theorem wd_13 : Cond.selects "SpinBench$Mixer" ⟨"SpinBench$Mixer", "dropZeros", "()V"⟩ ⟨"SpinBench$Mixer", "dropZeros", "()V"⟩ ∈ gw_All := gw_in 13 (by decide +kernel) (by decide +kernel)
theorem wd_14 : Cond.selects "SpinBench$Mixer" ⟨"SpinBench$Mixer", "isSum", "()Z"⟩ ⟨"SpinBench$Mixer", "isSum", "()Z"⟩ ∈ gw_All := gw_in 14 (by decide +kernel) (by decide +kernel)
theorem wd_15 : Cond.selects "SpinBench$Mixer" ⟨"SpinBench$Mixer", "sort", "()V"⟩ ⟨"SpinBench$Mixer", "sort", "()V"⟩ ∈ gw_All := gw_in 15 (by decide +kernel) (by decide +kernel)
theorem wd_16 : Cond.selects "SpinBench$Mixer" ⟨"SpinBench$Mixer", "merge", "(III)V"⟩ ⟨"SpinBench$Mixer", "merge", "(III)V"⟩ ∈ gw_All := gw_in 16 (by decide +kernel) (by decide +kernel)
theorem wd_17 : Cond.selects "SpinBench$Sum" ⟨"SpinBench$Sum", "become", "(LSpinBench$Sum;)V"⟩ ⟨"SpinBench$Sum", "become", "(LSpinBench$Sum;)V"⟩ ∈ gw_All := gw_in 17 (by decide +kernel) (by decide +kernel)
theorem wd_18 : Cond.selects "SpinBench$Mixer" ⟨"SpinBench$Mixer", "joinSums", "(LSpinBench$Sum;LSpinBench$Sum;I)Z"⟩ ⟨"SpinBench$Mixer", "joinSums", "(LSpinBench$Sum;LSpinBench$Sum;I)Z"⟩ ∈ gw_All := gw_in 18 (by decide +kernel) (by decide +kernel)
theorem wd_19 : Cond.selects "SpinBench" ⟨"SpinBench", "turnByQuarters", "(II)Z"⟩ ⟨"SpinBench", "turnByQuarters", "(II)Z"⟩ ∈ gw_All := gw_in 19 (by decide +kernel) (by decide +kernel)
theorem wd_20 : Cond.selects "SpinBench" ⟨"SpinBench", "turnByLetter", "(III)Z"⟩ ⟨"SpinBench", "turnByLetter", "(III)Z"⟩ ∈ gw_All := gw_in 20 (by decide +kernel) (by decide +kernel)
theorem wd_21 : Cond.selects "SpinBench$Mixer" ⟨"SpinBench$Mixer", "putTimesSine", "(IIJ)V"⟩ ⟨"SpinBench$Mixer", "putTimesSine", "(IIJ)V"⟩ ∈ gw_All := gw_in 21 (by decide +kernel) (by decide +kernel)
theorem wd_22 : Cond.selects "SpinBench$Sum" ⟨"SpinBench$Sum", "isLike", "(LSpinBench$Sum;)Z"⟩ ⟨"SpinBench$Sum", "isLike", "(LSpinBench$Sum;)Z"⟩ ∈ gw_All := gw_in 22 (by decide +kernel) (by decide +kernel)
theorem wd_23 : Cond.selects "SpinBench$Mixer" ⟨"SpinBench$Mixer", "multiply", "(LSpinBench$Sum;LSpinBench$Sum;LSpinBench$Sum;)Z"⟩ ⟨"SpinBench$Mixer", "multiply", "(LSpinBench$Sum;LSpinBench$Sum;LSpinBench$Sum;)Z"⟩ ∈ gw_All := gw_in 23 (by decide +kernel) (by decide +kernel)
theorem wd_24 : Cond.selects "SpinBench$Mixer" ⟨"SpinBench$Mixer", "putRows", "(IIJ)Z"⟩ ⟨"SpinBench$Mixer", "putRows", "(IIJ)Z"⟩ ∈ gw_All := gw_in 24 (by decide +kernel) (by decide +kernel)
theorem wd_25 : Cond.selects "SpinBench" ⟨"SpinBench", "isPulse", "(III)Z"⟩ ⟨"SpinBench", "isPulse", "(III)Z"⟩ ∈ gw_All := gw_in 25 (by decide +kernel) (by decide +kernel)
theorem wd_26 : Cond.selects "SpinBench" ⟨"SpinBench", "append", "(LSpinBench$Op;)I"⟩ ⟨"SpinBench", "append", "(LSpinBench$Op;)I"⟩ ∈ gw_All := gw_in 26 (by decide +kernel) (by decide +kernel)
theorem wd_27 : Cond.selects "SpinBench" ⟨"SpinBench", "openRounds", "()I"⟩ ⟨"SpinBench", "openRounds", "()I"⟩ ∈ gw_All := gw_in 27 (by decide +kernel) (by decide +kernel)
theorem wd_28 : Cond.selects "SpinBench" ⟨"SpinBench", "opAt", "(I)LSpinBench$Op;"⟩ ⟨"SpinBench", "opAt", "(I)LSpinBench$Op;"⟩ ∈ gw_All := gw_in 28 (by decide +kernel) (by decide +kernel)
theorem wd_29 : Cond.selects "SpinBench" ⟨"SpinBench", "leaveBody", "(I)V"⟩ ⟨"SpinBench", "leaveBody", "(I)V"⟩ ∈ gw_All := gw_in 29 (by decide +kernel) (by decide +kernel)
theorem wd_30 : Cond.selects "SpinBench" ⟨"SpinBench", "presentTables", "()I"⟩ ⟨"SpinBench", "presentTables", "()I"⟩ ∈ gw_All := gw_in 30 (by decide +kernel) (by decide +kernel)
theorem wd_31 : Cond.selects "SpinBench" ⟨"SpinBench", "allTerms", "()I"⟩ ⟨"SpinBench", "allTerms", "()I"⟩ ∈ gw_All := gw_in 31 (by decide +kernel) (by decide +kernel)
theorem wd_32 : Cond.selects "SpinBenchModel" ⟨"SpinBenchModel", "finds", "(I)I"⟩ ⟨"SpinBenchModel", "finds", "(I)I"⟩ ∈ gw_All := gw_in 32 (by decide +kernel) (by decide +kernel)
theorem wd_33 : Cond.selects "SpinBenchModel" ⟨"SpinBenchModel", "well", "(I)I"⟩ ⟨"SpinBenchModel", "well", "(I)I"⟩ ∈ gw_All := gw_in 33 (by decide +kernel) (by decide +kernel)
theorem wd_34 : Cond.selects "SpinBenchModel" ⟨"SpinBenchModel", "isProduct", "(I)Z"⟩ ⟨"SpinBenchModel", "isProduct", "(I)Z"⟩ ∈ gw_All := gw_in 34 (by decide +kernel) (by decide +kernel)
theorem wd_35 : Cond.selects "SpinBenchModel" ⟨"SpinBenchModel", "putAll", "(IJ)V"⟩ ⟨"SpinBenchModel", "putAll", "(IJ)V"⟩ ∈ gw_All := gw_in 35 (by decide +kernel) (by decide +kernel)
theorem wd_36 : Cond.selects "SpinBenchModel" ⟨"SpinBenchModel", "put", "(IJ)V"⟩ ⟨"SpinBenchModel", "put", "(IJ)V"⟩ ∈ gw_All := gw_in 36 (by decide +kernel) (by decide +kernel)
theorem wd_37 : Cond.selects "SpinBenchModel" ⟨"SpinBenchModel", "kept", "(I)I"⟩ ⟨"SpinBenchModel", "kept", "(I)I"⟩ ∈ gw_All := gw_in 37 (by decide +kernel) (by decide +kernel)
theorem wd_38 : Cond.selects "SpinBenchModel" ⟨"SpinBenchModel", "keep", "(I)Z"⟩ ⟨"SpinBenchModel", "keep", "(I)Z"⟩ ∈ gw_All := gw_in 38 (by decide +kernel) (by decide +kernel)
theorem wd_39 : Cond.selects "SpinBenchModel" ⟨"SpinBenchModel", "copySum", "(II)V"⟩ ⟨"SpinBenchModel", "copySum", "(II)V"⟩ ∈ gw_All := gw_in 39 (by decide +kernel) (by decide +kernel)
theorem wd_40 : Cond.selects "SpinBenchModel" ⟨"SpinBenchModel", "joined", "(III)Z"⟩ ⟨"SpinBenchModel", "joined", "(III)Z"⟩ ∈ gw_All := gw_in 40 (by decide +kernel) (by decide +kernel)
theorem wd_41 : Cond.selects "SpinBenchModel" ⟨"SpinBenchModel", "turnQuarter", "(II)V"⟩ ⟨"SpinBenchModel", "turnQuarter", "(II)V"⟩ ∈ gw_All := gw_in 41 (by decide +kernel) (by decide +kernel)
theorem wd_42 : Cond.selects "SpinBenchModel" ⟨"SpinBenchModel", "fits", "(II)Z"⟩ ⟨"SpinBenchModel", "fits", "(II)Z"⟩ ∈ gw_All := gw_in 42 (by decide +kernel) (by decide +kernel)
theorem wd_43 : Cond.selects "SpinBenchModel" ⟨"SpinBenchModel", "with", "(II)I"⟩ ⟨"SpinBenchModel", "with", "(II)I"⟩ ∈ gw_All := gw_in 43 (by decide +kernel) (by decide +kernel)
theorem wd_44 : Cond.selects "SpinBenchModel" ⟨"SpinBenchModel", "turnLetter", "(III)Z"⟩ ⟨"SpinBenchModel", "turnLetter", "(III)Z"⟩ ∈ gw_All := gw_in 44 (by decide +kernel) (by decide +kernel)
theorem wd_45 : Cond.selects "SpinBenchModel" ⟨"SpinBenchModel", "isTerm", "(II)Z"⟩ ⟨"SpinBenchModel", "isTerm", "(II)Z"⟩ ∈ gw_All := gw_in 45 (by decide +kernel) (by decide +kernel)
theorem wd_46 : Cond.selects "SpinBenchModel" ⟨"SpinBenchModel", "multiply", "(IIJ)Z"⟩ ⟨"SpinBenchModel", "multiply", "(IIJ)Z"⟩ ∈ gw_All := gw_in 46 (by decide +kernel) (by decide +kernel)
theorem wd_47 : Cond.selects "SpinBenchModel" ⟨"SpinBenchModel", "isPulse", "(III)Z"⟩ ⟨"SpinBenchModel", "isPulse", "(III)Z"⟩ ∈ gw_All := gw_in 47 (by decide +kernel) (by decide +kernel)
theorem wd_48 : Cond.selects "SpinBenchModel" ⟨"SpinBenchModel", "come", "(IIIII)I"⟩ ⟨"SpinBenchModel", "come", "(IIIII)I"⟩ ∈ gw_All := gw_in 48 (by decide +kernel) (by decide +kernel)
theorem wd_49 : Cond.selects "SpinBenchModel" ⟨"SpinBenchModel", "isOp", "(I)Z"⟩ ⟨"SpinBenchModel", "isOp", "(I)Z"⟩ ∈ gw_All := gw_in 49 (by decide +kernel) (by decide +kernel)
theorem wd_50 : Cond.selects "SpinBenchModel" ⟨"SpinBenchModel", "cost", "(I)I"⟩ ⟨"SpinBenchModel", "cost", "(I)I"⟩ ∈ gw_All := gw_in 50 (by decide +kernel) (by decide +kernel)
theorem wd_51 : Cond.selects "SpinBenchModel" ⟨"SpinBenchModel", "begins", "(I)V"⟩ ⟨"SpinBenchModel", "begins", "(I)V"⟩ ∈ gw_All := gw_in 51 (by decide +kernel) (by decide +kernel)
theorem wd_52 : Cond.selects "SpinBenchModel" ⟨"SpinBenchModel", "mark2", "(I)I"⟩ ⟨"SpinBenchModel", "mark2", "(I)I"⟩ ∈ gw_All := gw_in 52 (by decide +kernel) (by decide +kernel)
theorem wd_53 : Cond.selects "SpinBenchModel" ⟨"SpinBenchModel", "mark", "(I)I"⟩ ⟨"SpinBenchModel", "mark", "(I)I"⟩ ∈ gw_All := gw_in 53 (by decide +kernel) (by decide +kernel)
theorem wd_54 : Cond.selects "SpinBenchModel" ⟨"SpinBenchModel", "does", "(I)I"⟩ ⟨"SpinBenchModel", "does", "(I)I"⟩ ∈ gw_All := gw_in 54 (by decide +kernel) (by decide +kernel)
theorem wd_55 : Cond.selects "SpinBenchModel" ⟨"SpinBenchModel", "doPulse", "(II)V"⟩ ⟨"SpinBenchModel", "doPulse", "(II)V"⟩ ∈ gw_All := gw_in 55 (by decide +kernel) (by decide +kernel)
theorem wd_56 : Cond.initialized "SpinBenchLaw" ∈ gw_All := gw_in 56 (by decide +kernel) (by decide +kernel)
theorem wd_57 : Cond.initialized "SpinBench" ∈ gw_All := gw_in 57 (by decide +kernel) (by decide +kernel)
theorem wd_58 : Cond.initialized "SpinBench$Mixer" ∈ gw_All := gw_in 58 (by decide +kernel) (by decide +kernel)
theorem wd_59 : Cond.initialized "java/lang/Math" ∈ gw_All := gw_in 59 (by decide +kernel) (by decide +kernel)
theorem wd_60 : Cond.initialized "SpinBench$Sum" ∈ gw_All := gw_in 60 (by decide +kernel) (by decide +kernel)
theorem wd_61 : Cond.initialized "SpinBench$Table" ∈ gw_All := gw_in 61 (by decide +kernel) (by decide +kernel)
theorem wd_62 : Cond.initialized "SpinBenchModel" ∈ gw_All := gw_in 62 (by decide +kernel) (by decide +kernel)
theorem wd_63 : Cond.initialized "java/util/Arrays" ∈ gw_All := gw_in 63 (by decide +kernel) (by decide +kernel)
theorem wd_64 : Cond.initialized "java/lang/System" ∈ gw_All := gw_in 64 (by decide +kernel) (by decide +kernel)
theorem wd_65 : Cond.initialized "java/lang/Integer" ∈ gw_All := gw_in 65 (by decide +kernel) (by decide +kernel)
theorem wd_66 : Cond.initialized "SpinBench$Op" ∈ gw_All := gw_in 66 (by decide +kernel) (by decide +kernel)
theorem wd_67 : Cond.initialized "SpinBench$Lead" ∈ gw_All := gw_in 67 (by decide +kernel) (by decide +kernel)
theorem wd_68 : Cond.initialized "SpinBench$Pulse" ∈ gw_All := gw_in 68 (by decide +kernel) (by decide +kernel)
theorem wd_69 : Cond.initialized "SpinBench$Cycled" ∈ gw_All := gw_in 69 (by decide +kernel) (by decide +kernel)
theorem wd_70 : Cond.initialized "SpinBench$Delay" ∈ gw_All := gw_in 70 (by decide +kernel) (by decide +kernel)
theorem wd_71 : Cond.initialized "SpinBench$Round" ∈ gw_All := gw_in 71 (by decide +kernel) (by decide +kernel)
theorem wd_72 : Cond.initialized "SpinBench$End" ∈ gw_All := gw_in 72 (by decide +kernel) (by decide +kernel)
theorem wd_73 : Cond.initialized "SpinBench$Store" ∈ gw_All := gw_in 73 (by decide +kernel) (by decide +kernel)
theorem wd_74 : Cond.classLink "SpinBenchLaw" 7 "SpinBench" ∈ gw_All := gw_in 74 (by decide +kernel) (by decide +kernel)
theorem wd_75 : Cond.instantiable "SpinBench" 15 ∈ gw_All := gw_in 75 (by decide +kernel) (by decide +kernel)
theorem wd_76 : Cond.methodLink "SpinBenchLaw" 15 ⟨"SpinBench", "<init>", "(I)V"⟩ ∈ gw_All := gw_in 76 (by decide +kernel) (by decide +kernel)
theorem wd_77 : Cond.instanceMethod ⟨"SpinBench", "<init>", "(I)V"⟩ ∈ gw_All := gw_in 77 (by decide +kernel) (by decide +kernel)
set_option maxRecDepth 100000 in
theorem wd_78 : Cond.code ⟨"SpinBench", "<init>", "(I)V"⟩ prog_1_method_1_code 3 none ∈ gw_All := gw_in 78 rfl rfl
theorem wd_79 : Cond.methodLink "SpinBench" 1 ⟨"java/lang/Object", "<init>", "()V"⟩ ∈ gw_All := gw_in 79 (by decide +kernel) (by decide +kernel)
theorem wd_80 : Cond.instanceMethod ⟨"java/lang/Object", "<init>", "()V"⟩ ∈ gw_All := gw_in 80 (by decide +kernel) (by decide +kernel)
set_option maxRecDepth 100000 in
theorem wd_81 : Cond.code ⟨"java/lang/Object", "<init>", "()V"⟩ object_method_1_code 1 none ∈ gw_All := gw_in 81 rfl rfl
theorem wd_82 : Cond.classLink "SpinBench" 9 "SpinBench$Sum" ∈ gw_All := gw_in 82 (by decide +kernel) (by decide +kernel)
theorem wd_84 : Cond.classLink "SpinBench" 18 "SpinBench$Mixer" ∈ gw_All := gw_in 84 (by decide +kernel) (by decide +kernel)
theorem wd_85 : Cond.instantiable "SpinBench$Mixer" 8 ∈ gw_All := gw_in 85 (by decide +kernel) (by decide +kernel)
theorem wd_87 : Cond.instanceMethod ⟨"SpinBench$Mixer", "<init>", "()V"⟩ ∈ gw_All := gw_in 87 (by decide +kernel) (by decide +kernel)
set_option maxRecDepth 100000 in
theorem wd_88 : Cond.code ⟨"SpinBench$Mixer", "<init>", "()V"⟩ prog_6_method_1_code 1 none ∈ gw_All := gw_in 88 rfl rfl
theorem wd_89 : Cond.methodLink "SpinBench$Mixer" 5 ⟨"java/lang/Object", "<init>", "()V"⟩ ∈ gw_All := gw_in 89 (by decide +kernel) (by decide +kernel)
theorem wd_90 : Cond.fieldLink "SpinBench$Mixer" 11 "SpinBench$Mixer" "keys" "[I" ∈ gw_All := gw_in 90 (by decide +kernel) (by decide +kernel)
theorem wd_91 : Cond.fieldLink "SpinBench$Mixer" 15 "SpinBench$Mixer" "numbers" "[J" ∈ gw_All := gw_in 91 (by decide +kernel) (by decide +kernel)
theorem wd_92 : Cond.fieldLink "SpinBench$Mixer" 19 "SpinBench$Mixer" "spareKeys" "[I" ∈ gw_All := gw_in 92 (by decide +kernel) (by decide +kernel)
theorem wd_93 : Cond.fieldLink "SpinBench$Mixer" 22 "SpinBench$Mixer" "spareNumbers" "[J" ∈ gw_All := gw_in 93 (by decide +kernel) (by decide +kernel)
theorem wd_94 : Cond.fieldLink "SpinBench$Mixer" 35 "SpinBench$Mixer" "size" "I" ∈ gw_All := gw_in 94 (by decide +kernel) (by decide +kernel)
theorem wd_95 : Cond.fieldLink "SpinBench$Mixer" 25 "SpinBench$Mixer" "slots" "[I" ∈ gw_All := gw_in 95 (by decide +kernel) (by decide +kernel)
theorem wd_96 : Cond.fieldLink "SpinBench$Mixer" 28 "SpinBench$Mixer" "slotsUsed" "[I" ∈ gw_All := gw_in 96 (by decide +kernel) (by decide +kernel)
theorem wd_97 : Cond.fieldLink "SpinBench$Mixer" 31 "SpinBench$Mixer" "used" "I" ∈ gw_All := gw_in 97 (by decide +kernel) (by decide +kernel)
theorem wd_114 : Cond.superclass "SpinBench$Mixer" "java/lang/Object" ∈ gw_All := gw_in 114 (by decide +kernel) (by decide +kernel)
theorem wd_115 : Cond.arrayClass .int ∈ gw_All := gw_in 115 (by decide +kernel) (by decide +kernel)
theorem wd_116 : Cond.arrayClass .long ∈ gw_All := gw_in 116 (by decide +kernel) (by decide +kernel)
theorem wd_117 : Cond.classLink "SpinBench" 25 "SpinBench$Table" ∈ gw_All := gw_in 117 (by decide +kernel) (by decide +kernel)
theorem wd_119 : Cond.classLink "SpinBench" 31 "SpinBench$Op" ∈ gw_All := gw_in 119 (by decide +kernel) (by decide +kernel)
theorem wd_121 : Cond.constant "SpinBench" 37 (-1000000) ∈ gw_All := gw_in 121 (by decide +kernel) (by decide +kernel)
theorem wd_122 : Cond.methodLink "SpinBench" 46 ⟨"java/lang/Math", "min", "(II)I"⟩ ∈ gw_All := gw_in 122 (by decide +kernel) (by decide +kernel)
theorem wd_123 : Cond.static ⟨"java/lang/Math", "min", "(II)I"⟩ ∈ gw_All := gw_in 123 (by decide +kernel) (by decide +kernel)
set_option maxRecDepth 100000 in
theorem wd_124 : Cond.code ⟨"java/lang/Math", "min", "(II)I"⟩ prog_16_method_69_code 2 (some .int) ∈ gw_All := gw_in 124 rfl rfl
theorem wd_125 : Cond.methodLink "SpinBench" 52 ⟨"java/lang/Math", "max", "(II)I"⟩ ∈ gw_All := gw_in 125 (by decide +kernel) (by decide +kernel)
theorem wd_126 : Cond.static ⟨"java/lang/Math", "max", "(II)I"⟩ ∈ gw_All := gw_in 126 (by decide +kernel) (by decide +kernel)
set_option maxRecDepth 100000 in
theorem wd_127 : Cond.code ⟨"java/lang/Math", "max", "(II)I"⟩ prog_16_method_65_code 2 (some .int) ∈ gw_All := gw_in 127 rfl rfl
theorem wd_128 : Cond.instantiable "SpinBench$Sum" 3 ∈ gw_All := gw_in 128 (by decide +kernel) (by decide +kernel)
theorem wd_130 : Cond.instanceMethod ⟨"SpinBench$Sum", "<init>", "()V"⟩ ∈ gw_All := gw_in 130 (by decide +kernel) (by decide +kernel)
set_option maxRecDepth 100000 in
theorem wd_131 : Cond.code ⟨"SpinBench$Sum", "<init>", "()V"⟩ prog_11_method_1_code 1 none ∈ gw_All := gw_in 131 rfl rfl
theorem wd_132 : Cond.methodLink "SpinBench$Sum" 3 ⟨"java/lang/Object", "<init>", "()V"⟩ ∈ gw_All := gw_in 132 (by decide +kernel) (by decide +kernel)
theorem wd_133 : Cond.fieldLink "SpinBench$Sum" 9 "SpinBench$Sum" "keys" "[I" ∈ gw_All := gw_in 133 (by decide +kernel) (by decide +kernel)
theorem wd_136 : Cond.fieldLink "SpinBench$Sum" 15 "SpinBench$Sum" "numbers" "[J" ∈ gw_All := gw_in 136 (by decide +kernel) (by decide +kernel)
theorem wd_139 : Cond.fieldLink "SpinBench$Sum" 19 "SpinBench$Sum" "size" "I" ∈ gw_All := gw_in 139 (by decide +kernel) (by decide +kernel)
theorem wd_148 : Cond.superclass "SpinBench$Sum" "java/lang/Object" ∈ gw_All := gw_in 148 (by decide +kernel) (by decide +kernel)
theorem wd_149 : Cond.instantiable "SpinBench$Table" 4 ∈ gw_All := gw_in 149 (by decide +kernel) (by decide +kernel)
theorem wd_151 : Cond.instanceMethod ⟨"SpinBench$Table", "<init>", "()V"⟩ ∈ gw_All := gw_in 151 (by decide +kernel) (by decide +kernel)
set_option maxRecDepth 100000 in
theorem wd_152 : Cond.code ⟨"SpinBench$Table", "<init>", "()V"⟩ prog_12_method_1_code 1 none ∈ gw_All := gw_in 152 rfl rfl
theorem wd_153 : Cond.methodLink "SpinBench$Table" 3 ⟨"java/lang/Object", "<init>", "()V"⟩ ∈ gw_All := gw_in 153 (by decide +kernel) (by decide +kernel)
theorem wd_154 : Cond.fieldLink "SpinBench$Table" 9 "SpinBench$Table" "items" "[I" ∈ gw_All := gw_in 154 (by decide +kernel) (by decide +kernel)
theorem wd_157 : Cond.fieldLink "SpinBench$Table" 15 "SpinBench$Table" "missing" "Z" ∈ gw_All := gw_in 157 (by decide +kernel) (by decide +kernel)
theorem wd_160 : Cond.fieldLink "SpinBench$Table" 19 "SpinBench$Table" "lane" "I" ∈ gw_All := gw_in 160 (by decide +kernel) (by decide +kernel)
theorem wd_162 : Cond.fieldLink "SpinBench$Table" 23 "SpinBench$Table" "size" "I" ∈ gw_All := gw_in 162 (by decide +kernel) (by decide +kernel)
theorem wd_172 : Cond.superclass "SpinBench$Table" "java/lang/Object" ∈ gw_All := gw_in 172 (by decide +kernel) (by decide +kernel)
theorem wd_173 : Cond.fieldLink "SpinBench" 55 "SpinBench" "spinCount" "I" ∈ gw_All := gw_in 173 (by decide +kernel) (by decide +kernel)
theorem wd_174 : Cond.fieldLink "SpinBench" 11 "SpinBench" "sums" "[LSpinBench$Sum;" ∈ gw_All := gw_in 174 (by decide +kernel) (by decide +kernel)
theorem wd_175 : Cond.fieldLink "SpinBench" 15 "SpinBench" "sumsAhead" "[LSpinBench$Sum;" ∈ gw_All := gw_in 175 (by decide +kernel) (by decide +kernel)
theorem wd_176 : Cond.fieldLink "SpinBench" 59 "SpinBench" "work" "LSpinBench$Sum;" ∈ gw_All := gw_in 176 (by decide +kernel) (by decide +kernel)
theorem wd_178 : Cond.fieldLink "SpinBench" 21 "SpinBench" "mixer" "LSpinBench$Mixer;" ∈ gw_All := gw_in 178 (by decide +kernel) (by decide +kernel)
theorem wd_180 : Cond.fieldLink "SpinBench" 27 "SpinBench" "tables" "[LSpinBench$Table;" ∈ gw_All := gw_in 180 (by decide +kernel) (by decide +kernel)
theorem wd_181 : Cond.fieldLink "SpinBench" 33 "SpinBench" "program" "[LSpinBench$Op;" ∈ gw_All := gw_in 181 (by decide +kernel) (by decide +kernel)
theorem wd_182 : Cond.fieldLink "SpinBench" 183 "SpinBench" "length" "I" ∈ gw_All := gw_in 182 (by decide +kernel) (by decide +kernel)
theorem wd_183 : Cond.fieldLink "SpinBench" 186 "SpinBench" "latestOpen" "LSpinBench$Round;" ∈ gw_All := gw_in 183 (by decide +kernel) (by decide +kernel)
theorem wd_185 : Cond.fieldLink "SpinBench" 262 "SpinBench" "next" "I" ∈ gw_All := gw_in 185 (by decide +kernel) (by decide +kernel)
theorem wd_186 : Cond.fieldLink "SpinBench" 256 "SpinBench" "stepsDone" "I" ∈ gw_All := gw_in 186 (by decide +kernel) (by decide +kernel)
theorem wd_187 : Cond.fieldLink "SpinBench" 38 "SpinBench" "lastBegun" "I" ∈ gw_All := gw_in 187 (by decide +kernel) (by decide +kernel)
theorem wd_188 : Cond.fieldLink "SpinBench" 42 "SpinBench" "bodies" "[I" ∈ gw_All := gw_in 188 (by decide +kernel) (by decide +kernel)
theorem wd_189 : Cond.fieldLink "SpinBench" 242 "SpinBench" "bodiesBegun" "I" ∈ gw_All := gw_in 189 (by decide +kernel) (by decide +kernel)
theorem wd_190 : Cond.fieldLink "SpinBench" 274 "SpinBench" "latestFinding" "I" ∈ gw_All := gw_in 190 (by decide +kernel) (by decide +kernel)
theorem wd_221 : Cond.superclass "SpinBench" "java/lang/Object" ∈ gw_All := gw_in 221 (by decide +kernel) (by decide +kernel)
theorem wd_222 : Cond.methodLink "SpinBenchLaw" 21 ⟨"SpinBench", "table", "(III)I"⟩ ∈ gw_All := gw_in 222 (by decide +kernel) (by decide +kernel)
theorem wd_223 : Cond.instanceMethod ⟨"SpinBench", "table", "(III)I"⟩ ∈ gw_All := gw_in 223 (by decide +kernel) (by decide +kernel)
theorem wd_224 : Cond.selects "SpinBench" ⟨"SpinBench", "table", "(III)I"⟩ ⟨"SpinBench", "table", "(III)I"⟩ ∈ gw_All := gw_in 224 (by decide +kernel) (by decide +kernel)
set_option maxRecDepth 100000 in
theorem wd_225 : Cond.code ⟨"SpinBench", "table", "(III)I"⟩ prog_1_method_2_code 5 (some .int) ∈ gw_All := gw_in 225 rfl rfl
theorem wd_226 : Cond.methodLink "SpinBench" 64 ⟨"SpinBench", "tableAt", "(I)LSpinBench$Table;"⟩ ∈ gw_All := gw_in 226 (by decide +kernel) (by decide +kernel)
theorem wd_228 : Cond.instanceMethod ⟨"SpinBench", "tableAt", "(I)LSpinBench$Table;"⟩ ∈ gw_All := gw_in 228 (by decide +kernel) (by decide +kernel)
set_option maxRecDepth 100000 in
theorem wd_229 : Cond.code ⟨"SpinBench", "tableAt", "(I)LSpinBench$Table;"⟩ prog_1_method_38_code 2 (some (.object "SpinBench$Table")) ∈ gw_All := gw_in 229 rfl rfl
theorem wd_230 : Cond.methodLink "SpinBench" 68 ⟨"SpinBench", "within", "(III)Z"⟩ ∈ gw_All := gw_in 230 (by decide +kernel) (by decide +kernel)
theorem wd_231 : Cond.static ⟨"SpinBench", "within", "(III)Z"⟩ ∈ gw_All := gw_in 231 (by decide +kernel) (by decide +kernel)
set_option maxRecDepth 100000 in
theorem wd_232 : Cond.code ⟨"SpinBench", "within", "(III)Z"⟩ prog_1_method_34_code 3 (some .boolean) ∈ gw_All := gw_in 232 rfl rfl
theorem wd_233 : Cond.constant "SpinBench" 72 (-1000001) ∈ gw_All := gw_in 233 (by decide +kernel) (by decide +kernel)
theorem wd_234 : Cond.methodLink "SpinBench" 73 ⟨"SpinBench", "found", "(I)I"⟩ ∈ gw_All := gw_in 234 (by decide +kernel) (by decide +kernel)
theorem wd_236 : Cond.instanceMethod ⟨"SpinBench", "found", "(I)I"⟩ ∈ gw_All := gw_in 236 (by decide +kernel) (by decide +kernel)
set_option maxRecDepth 100000 in
theorem wd_237 : Cond.code ⟨"SpinBench", "found", "(I)I"⟩ prog_1_method_41_code 2 (some .int) ∈ gw_All := gw_in 237 rfl rfl
theorem wd_238 : Cond.constant "SpinBench" 277 (-1000010) ∈ gw_All := gw_in 238 (by decide +kernel) (by decide +kernel)
theorem wd_241 : Cond.instanceMethod ⟨"SpinBench$Table", "make", "(II)V"⟩ ∈ gw_All := gw_in 241 (by decide +kernel) (by decide +kernel)
set_option maxRecDepth 100000 in
theorem wd_242 : Cond.code ⟨"SpinBench$Table", "make", "(II)V"⟩ prog_12_method_2_code 3 none ∈ gw_All := gw_in 242 rfl rfl
theorem wd_243 : Cond.methodLink "SpinBench$Table" 26 ⟨"java/util/Arrays", "fill", "([II)V"⟩ ∈ gw_All := gw_in 243 (by decide +kernel) (by decide +kernel)
theorem wd_244 : Cond.static ⟨"java/util/Arrays", "fill", "([II)V"⟩ ∈ gw_All := gw_in 244 (by decide +kernel) (by decide +kernel)
set_option maxRecDepth 100000 in
theorem wd_245 : Cond.code ⟨"java/util/Arrays", "fill", "([II)V"⟩ prog_18_method_103_code 4 none ∈ gw_All := gw_in 245 rfl rfl
theorem wd_246 : Cond.methodLink "SpinBench" 81 ⟨"SpinBench", "notFound", "(I)I"⟩ ∈ gw_All := gw_in 246 (by decide +kernel) (by decide +kernel)
theorem wd_248 : Cond.instanceMethod ⟨"SpinBench", "notFound", "(I)I"⟩ ∈ gw_All := gw_in 248 (by decide +kernel) (by decide +kernel)
set_option maxRecDepth 100000 in
theorem wd_249 : Cond.code ⟨"SpinBench", "notFound", "(I)I"⟩ prog_1_method_42_code 2 (some .int) ∈ gw_All := gw_in 249 rfl rfl
theorem wd_250 : Cond.methodLink "SpinBenchLaw" 26 ⟨"SpinBench", "set", "(III)I"⟩ ∈ gw_All := gw_in 250 (by decide +kernel) (by decide +kernel)
theorem wd_251 : Cond.instanceMethod ⟨"SpinBench", "set", "(III)I"⟩ ∈ gw_All := gw_in 251 (by decide +kernel) (by decide +kernel)
theorem wd_252 : Cond.selects "SpinBench" ⟨"SpinBench", "set", "(III)I"⟩ ⟨"SpinBench", "set", "(III)I"⟩ ∈ gw_All := gw_in 252 (by decide +kernel) (by decide +kernel)
set_option maxRecDepth 100000 in
theorem wd_253 : Cond.code ⟨"SpinBench", "set", "(III)I"⟩ prog_1_method_3_code 5 (some .int) ∈ gw_All := gw_in 253 rfl rfl
theorem wd_256 : Cond.instanceMethod ⟨"SpinBench$Table", "hasPlaces", "(II)Z"⟩ ∈ gw_All := gw_in 256 (by decide +kernel) (by decide +kernel)
set_option maxRecDepth 100000 in
theorem wd_257 : Cond.code ⟨"SpinBench$Table", "hasPlaces", "(II)Z"⟩ prog_12_method_3_code 3 (some .boolean) ∈ gw_All := gw_in 257 rfl rfl
theorem wd_260 : Cond.instanceMethod ⟨"SpinBench$Table", "fitted", "(I)I"⟩ ∈ gw_All := gw_in 260 (by decide +kernel) (by decide +kernel)
set_option maxRecDepth 100000 in
theorem wd_261 : Cond.code ⟨"SpinBench$Table", "fitted", "(I)I"⟩ prog_12_method_4_code 2 (some .int) ∈ gw_All := gw_in 261 rfl rfl
theorem wd_262 : Cond.methodLink "SpinBenchLaw" 30 ⟨"SpinBench", "copy", "(IIIII)I"⟩ ∈ gw_All := gw_in 262 (by decide +kernel) (by decide +kernel)
theorem wd_263 : Cond.instanceMethod ⟨"SpinBench", "copy", "(IIIII)I"⟩ ∈ gw_All := gw_in 263 (by decide +kernel) (by decide +kernel)
theorem wd_264 : Cond.selects "SpinBench" ⟨"SpinBench", "copy", "(IIIII)I"⟩ ⟨"SpinBench", "copy", "(IIIII)I"⟩ ∈ gw_All := gw_in 264 (by decide +kernel) (by decide +kernel)
set_option maxRecDepth 100000 in
theorem wd_265 : Cond.code ⟨"SpinBench", "copy", "(IIIII)I"⟩ prog_1_method_4_code 8 (some .int) ∈ gw_All := gw_in 265 rfl rfl
theorem wd_266 : Cond.methodLink "SpinBench" 101 ⟨"java/lang/System", "arraycopy", "(Ljava/lang/Object;ILjava/lang/Object;II)V"⟩ ∈ gw_All := gw_in 266 (by decide +kernel) (by decide +kernel)
theorem wd_267 : Cond.static ⟨"java/lang/System", "arraycopy", "(Ljava/lang/Object;ILjava/lang/Object;II)V"⟩ ∈ gw_All := gw_in 267 (by decide +kernel) (by decide +kernel)
theorem wd_268 : Cond.native ⟨"java/lang/System", "arraycopy", "(Ljava/lang/Object;ILjava/lang/Object;II)V"⟩ ∈ gw_All := gw_in 268 (by decide +kernel) (by decide +kernel)
theorem wd_269 : Cond.methodLink "SpinBenchLaw" 35 ⟨"SpinBench", "drop", "(I)I"⟩ ∈ gw_All := gw_in 269 (by decide +kernel) (by decide +kernel)
theorem wd_270 : Cond.instanceMethod ⟨"SpinBench", "drop", "(I)I"⟩ ∈ gw_All := gw_in 270 (by decide +kernel) (by decide +kernel)
theorem wd_271 : Cond.selects "SpinBench" ⟨"SpinBench", "drop", "(I)I"⟩ ⟨"SpinBench", "drop", "(I)I"⟩ ∈ gw_All := gw_in 271 (by decide +kernel) (by decide +kernel)
set_option maxRecDepth 100000 in
theorem wd_272 : Cond.code ⟨"SpinBench", "drop", "(I)I"⟩ prog_1_method_5_code 3 (some .int) ∈ gw_All := gw_in 272 rfl rfl
theorem wd_273 : Cond.methodLink "SpinBenchLaw" 40 ⟨"SpinBench", "clear", "(I)I"⟩ ∈ gw_All := gw_in 273 (by decide +kernel) (by decide +kernel)
theorem wd_274 : Cond.instanceMethod ⟨"SpinBench", "clear", "(I)I"⟩ ∈ gw_All := gw_in 274 (by decide +kernel) (by decide +kernel)
theorem wd_275 : Cond.selects "SpinBench" ⟨"SpinBench", "clear", "(I)I"⟩ ⟨"SpinBench", "clear", "(I)I"⟩ ∈ gw_All := gw_in 275 (by decide +kernel) (by decide +kernel)
set_option maxRecDepth 100000 in
theorem wd_276 : Cond.code ⟨"SpinBench", "clear", "(I)I"⟩ prog_1_method_6_code 4 (some .int) ∈ gw_All := gw_in 276 rfl rfl
theorem wd_277 : Cond.methodLink "SpinBench" 110 ⟨"SpinBench", "sumAt", "(I)LSpinBench$Sum;"⟩ ∈ gw_All := gw_in 277 (by decide +kernel) (by decide +kernel)
theorem wd_279 : Cond.instanceMethod ⟨"SpinBench", "sumAt", "(I)LSpinBench$Sum;"⟩ ∈ gw_All := gw_in 279 (by decide +kernel) (by decide +kernel)
set_option maxRecDepth 100000 in
theorem wd_280 : Cond.code ⟨"SpinBench", "sumAt", "(I)LSpinBench$Sum;"⟩ prog_1_method_39_code 2 (some (.object "SpinBench$Sum")) ∈ gw_All := gw_in 280 rfl rfl
theorem wd_281 : Cond.methodLink "SpinBenchLaw" 44 ⟨"SpinBench", "add", "(III)I"⟩ ∈ gw_All := gw_in 281 (by decide +kernel) (by decide +kernel)
theorem wd_282 : Cond.instanceMethod ⟨"SpinBench", "add", "(III)I"⟩ ∈ gw_All := gw_in 282 (by decide +kernel) (by decide +kernel)
theorem wd_283 : Cond.selects "SpinBench" ⟨"SpinBench", "add", "(III)I"⟩ ⟨"SpinBench", "add", "(III)I"⟩ ∈ gw_All := gw_in 283 (by decide +kernel) (by decide +kernel)
set_option maxRecDepth 100000 in
theorem wd_284 : Cond.code ⟨"SpinBench", "add", "(III)I"⟩ prog_1_method_7_code 5 (some .int) ∈ gw_All := gw_in 284 rfl rfl
theorem wd_285 : Cond.methodLink "SpinBench" 115 ⟨"SpinBench", "isProduct", "(I)Z"⟩ ∈ gw_All := gw_in 285 (by decide +kernel) (by decide +kernel)
theorem wd_287 : Cond.instanceMethod ⟨"SpinBench", "isProduct", "(I)Z"⟩ ∈ gw_All := gw_in 287 (by decide +kernel) (by decide +kernel)
set_option maxRecDepth 100000 in
theorem wd_288 : Cond.code ⟨"SpinBench", "isProduct", "(I)Z"⟩ prog_1_method_36_code 2 (some .boolean) ∈ gw_All := gw_in 288 rfl rfl
theorem wd_291 : Cond.instanceMethod ⟨"SpinBench$Mixer", "begin", "()V"⟩ ∈ gw_All := gw_in 291 (by decide +kernel) (by decide +kernel)
set_option maxRecDepth 100000 in
theorem wd_292 : Cond.code ⟨"SpinBench$Mixer", "begin", "()V"⟩ prog_6_method_2_code 2 none ∈ gw_All := gw_in 292 rfl rfl
theorem wd_295 : Cond.instanceMethod ⟨"SpinBench$Mixer", "putSum", "(LSpinBench$Sum;I)V"⟩ ∈ gw_All := gw_in 295 (by decide +kernel) (by decide +kernel)
set_option maxRecDepth 100000 in
theorem wd_296 : Cond.code ⟨"SpinBench$Mixer", "putSum", "(LSpinBench$Sum;I)V"⟩ prog_6_method_5_code 4 none ∈ gw_All := gw_in 296 rfl rfl
theorem wd_297 : Cond.methodLink "SpinBench$Mixer" 48 ⟨"SpinBench$Mixer", "put", "(IJ)V"⟩ ∈ gw_All := gw_in 297 (by decide +kernel) (by decide +kernel)
theorem wd_299 : Cond.instanceMethod ⟨"SpinBench$Mixer", "put", "(IJ)V"⟩ ∈ gw_All := gw_in 299 (by decide +kernel) (by decide +kernel)
set_option maxRecDepth 100000 in
theorem wd_300 : Cond.code ⟨"SpinBench$Mixer", "put", "(IJ)V"⟩ prog_6_method_3_code 7 none ∈ gw_All := gw_in 300 rfl rfl
theorem wd_301 : Cond.constant "SpinBench$Mixer" 38 (-1640531535) ∈ gw_All := gw_in 301 (by decide +kernel) (by decide +kernel)
theorem wd_302 : Cond.methodLink "SpinBench$Mixer" 39 ⟨"SpinBench$Mixer", "enter", "(IIJ)V"⟩ ∈ gw_All := gw_in 302 (by decide +kernel) (by decide +kernel)
theorem wd_304 : Cond.instanceMethod ⟨"SpinBench$Mixer", "enter", "(IIJ)V"⟩ ∈ gw_All := gw_in 304 (by decide +kernel) (by decide +kernel)
set_option maxRecDepth 100000 in
theorem wd_305 : Cond.code ⟨"SpinBench$Mixer", "enter", "(IIJ)V"⟩ prog_6_method_4_code 5 none ∈ gw_All := gw_in 305 rfl rfl
theorem wd_309 : Cond.instanceMethod ⟨"SpinBench$Mixer", "settle", "(LSpinBench$Sum;)Z"⟩ ∈ gw_All := gw_in 309 (by decide +kernel) (by decide +kernel)
set_option maxRecDepth 100000 in
theorem wd_310 : Cond.code ⟨"SpinBench$Mixer", "settle", "(LSpinBench$Sum;)Z"⟩ prog_6_method_12_code 2 (some .boolean) ∈ gw_All := gw_in 310 rfl rfl
theorem wd_311 : Cond.methodLink "SpinBench$Mixer" 104 ⟨"SpinBench$Mixer", "dropZeros", "()V"⟩ ∈ gw_All := gw_in 311 (by decide +kernel) (by decide +kernel)
theorem wd_313 : Cond.instanceMethod ⟨"SpinBench$Mixer", "dropZeros", "()V"⟩ ∈ gw_All := gw_in 313 (by decide +kernel) (by decide +kernel)
set_option maxRecDepth 100000 in
theorem wd_314 : Cond.code ⟨"SpinBench$Mixer", "dropZeros", "()V"⟩ prog_6_method_13_code 3 none ∈ gw_All := gw_in 314 rfl rfl
theorem wd_315 : Cond.methodLink "SpinBench$Mixer" 107 ⟨"SpinBench$Mixer", "isSum", "()Z"⟩ ∈ gw_All := gw_in 315 (by decide +kernel) (by decide +kernel)
theorem wd_317 : Cond.instanceMethod ⟨"SpinBench$Mixer", "isSum", "()Z"⟩ ∈ gw_All := gw_in 317 (by decide +kernel) (by decide +kernel)
set_option maxRecDepth 100000 in
theorem wd_318 : Cond.code ⟨"SpinBench$Mixer", "isSum", "()Z"⟩ prog_6_method_14_code 3 (some .boolean) ∈ gw_All := gw_in 318 rfl rfl
theorem wd_319 : Cond.methodLink "SpinBench$Mixer" 81 ⟨"java/lang/Math", "abs", "(J)J"⟩ ∈ gw_All := gw_in 319 (by decide +kernel) (by decide +kernel)
theorem wd_320 : Cond.static ⟨"java/lang/Math", "abs", "(J)J"⟩ ∈ gw_All := gw_in 320 (by decide +kernel) (by decide +kernel)
set_option maxRecDepth 100000 in
theorem wd_321 : Cond.code ⟨"java/lang/Math", "abs", "(J)J"⟩ prog_16_method_61_code 2 (some .long) ∈ gw_All := gw_in 321 rfl rfl
theorem wd_322 : Cond.constantLong "SpinBench$Mixer" 87 1000000000000 ∈ gw_All := gw_in 322 (by decide +kernel) (by decide +kernel)
theorem wd_324 : Cond.static ⟨"SpinBench", "cosinesOf", "(II)I"⟩ ∈ gw_All := gw_in 324 (by decide +kernel) (by decide +kernel)
set_option maxRecDepth 100000 in
theorem wd_325 : Cond.code ⟨"SpinBench", "cosinesOf", "(II)I"⟩ prog_1_method_56_code 2 (some .int) ∈ gw_All := gw_in 325 rfl rfl
theorem wd_326 : Cond.methodLink "SpinBench$Mixer" 111 ⟨"SpinBench$Mixer", "sort", "()V"⟩ ∈ gw_All := gw_in 326 (by decide +kernel) (by decide +kernel)
theorem wd_328 : Cond.instanceMethod ⟨"SpinBench$Mixer", "sort", "()V"⟩ ∈ gw_All := gw_in 328 (by decide +kernel) (by decide +kernel)
set_option maxRecDepth 100000 in
theorem wd_329 : Cond.code ⟨"SpinBench$Mixer", "sort", "()V"⟩ prog_6_method_15_code 4 none ∈ gw_All := gw_in 329 rfl rfl
theorem wd_330 : Cond.methodLink "SpinBench$Mixer" 120 ⟨"java/lang/Math", "min", "(II)I"⟩ ∈ gw_All := gw_in 330 (by decide +kernel) (by decide +kernel)
theorem wd_331 : Cond.methodLink "SpinBench$Mixer" 123 ⟨"SpinBench$Mixer", "merge", "(III)V"⟩ ∈ gw_All := gw_in 331 (by decide +kernel) (by decide +kernel)
theorem wd_333 : Cond.instanceMethod ⟨"SpinBench$Mixer", "merge", "(III)V"⟩ ∈ gw_All := gw_in 333 (by decide +kernel) (by decide +kernel)
set_option maxRecDepth 100000 in
theorem wd_334 : Cond.code ⟨"SpinBench$Mixer", "merge", "(III)V"⟩ prog_6_method_16_code 8 none ∈ gw_All := gw_in 334 rfl rfl
theorem wd_335 : Cond.methodLink "SpinBench$Mixer" 114 ⟨"java/lang/System", "arraycopy", "(Ljava/lang/Object;ILjava/lang/Object;II)V"⟩ ∈ gw_All := gw_in 335 (by decide +kernel) (by decide +kernel)
theorem wd_336 : Cond.constant "SpinBench" 134 (-1000003) ∈ gw_All := gw_in 336 (by decide +kernel) (by decide +kernel)
theorem wd_337 : Cond.methodLink "SpinBenchLaw" 48 ⟨"SpinBench", "take", "(II)I"⟩ ∈ gw_All := gw_in 337 (by decide +kernel) (by decide +kernel)
theorem wd_338 : Cond.instanceMethod ⟨"SpinBench", "take", "(II)I"⟩ ∈ gw_All := gw_in 338 (by decide +kernel) (by decide +kernel)
theorem wd_339 : Cond.selects "SpinBench" ⟨"SpinBench", "take", "(II)I"⟩ ⟨"SpinBench", "take", "(II)I"⟩ ∈ gw_All := gw_in 339 (by decide +kernel) (by decide +kernel)
set_option maxRecDepth 100000 in
theorem wd_340 : Cond.code ⟨"SpinBench", "take", "(II)I"⟩ prog_1_method_8_code 5 (some .int) ∈ gw_All := gw_in 340 rfl rfl
theorem wd_343 : Cond.instanceMethod ⟨"SpinBench$Sum", "become", "(LSpinBench$Sum;)V"⟩ ∈ gw_All := gw_in 343 (by decide +kernel) (by decide +kernel)
set_option maxRecDepth 100000 in
theorem wd_344 : Cond.code ⟨"SpinBench$Sum", "become", "(LSpinBench$Sum;)V"⟩ prog_11_method_2_code 2 none ∈ gw_All := gw_in 344 rfl rfl
theorem wd_345 : Cond.methodLink "SpinBench$Sum" 23 ⟨"java/lang/System", "arraycopy", "(Ljava/lang/Object;ILjava/lang/Object;II)V"⟩ ∈ gw_All := gw_in 345 (by decide +kernel) (by decide +kernel)
theorem wd_346 : Cond.methodLink "SpinBenchLaw" 53 ⟨"SpinBench", "join", "(III)I"⟩ ∈ gw_All := gw_in 346 (by decide +kernel) (by decide +kernel)
theorem wd_347 : Cond.instanceMethod ⟨"SpinBench", "join", "(III)I"⟩ ∈ gw_All := gw_in 347 (by decide +kernel) (by decide +kernel)
theorem wd_348 : Cond.selects "SpinBench" ⟨"SpinBench", "join", "(III)I"⟩ ⟨"SpinBench", "join", "(III)I"⟩ ∈ gw_All := gw_in 348 (by decide +kernel) (by decide +kernel)
set_option maxRecDepth 100000 in
theorem wd_349 : Cond.code ⟨"SpinBench", "join", "(III)I"⟩ prog_1_method_9_code 6 (some .int) ∈ gw_All := gw_in 349 rfl rfl
theorem wd_352 : Cond.instanceMethod ⟨"SpinBench$Mixer", "joinSums", "(LSpinBench$Sum;LSpinBench$Sum;I)Z"⟩ ∈ gw_All := gw_in 352 (by decide +kernel) (by decide +kernel)
set_option maxRecDepth 100000 in
theorem wd_353 : Cond.code ⟨"SpinBench$Mixer", "joinSums", "(LSpinBench$Sum;LSpinBench$Sum;I)Z"⟩ prog_6_method_7_code 4 (some .boolean) ∈ gw_All := gw_in 353 rfl rfl
theorem wd_354 : Cond.methodLink "SpinBench$Mixer" 59 ⟨"SpinBench$Mixer", "begin", "()V"⟩ ∈ gw_All := gw_in 354 (by decide +kernel) (by decide +kernel)
theorem wd_355 : Cond.methodLink "SpinBench$Mixer" 62 ⟨"SpinBench$Mixer", "putSum", "(LSpinBench$Sum;I)V"⟩ ∈ gw_All := gw_in 355 (by decide +kernel) (by decide +kernel)
theorem wd_356 : Cond.methodLink "SpinBench$Mixer" 66 ⟨"SpinBench$Mixer", "settle", "(LSpinBench$Sum;)Z"⟩ ∈ gw_All := gw_in 356 (by decide +kernel) (by decide +kernel)
theorem wd_357 : Cond.methodLink "SpinBenchLaw" 57 ⟨"SpinBench", "quarter", "(II)I"⟩ ∈ gw_All := gw_in 357 (by decide +kernel) (by decide +kernel)
theorem wd_358 : Cond.instanceMethod ⟨"SpinBench", "quarter", "(II)I"⟩ ∈ gw_All := gw_in 358 (by decide +kernel) (by decide +kernel)
theorem wd_359 : Cond.selects "SpinBench" ⟨"SpinBench", "quarter", "(II)I"⟩ ⟨"SpinBench", "quarter", "(II)I"⟩ ∈ gw_All := gw_in 359 (by decide +kernel) (by decide +kernel)
set_option maxRecDepth 100000 in
theorem wd_360 : Cond.code ⟨"SpinBench", "quarter", "(II)I"⟩ prog_1_method_10_code 3 (some .int) ∈ gw_All := gw_in 360 rfl rfl
theorem wd_361 : Cond.methodLink "SpinBench" 143 ⟨"SpinBench", "turnByQuarters", "(II)Z"⟩ ∈ gw_All := gw_in 361 (by decide +kernel) (by decide +kernel)
theorem wd_363 : Cond.instanceMethod ⟨"SpinBench", "turnByQuarters", "(II)Z"⟩ ∈ gw_All := gw_in 363 (by decide +kernel) (by decide +kernel)
set_option maxRecDepth 100000 in
theorem wd_364 : Cond.code ⟨"SpinBench", "turnByQuarters", "(II)Z"⟩ prog_1_method_51_code 8 (some .boolean) ∈ gw_All := gw_in 364 rfl rfl
theorem wd_365 : Cond.methodLink "SpinBench" 161 ⟨"SpinBench", "productOf", "(I)I"⟩ ∈ gw_All := gw_in 365 (by decide +kernel) (by decide +kernel)
theorem wd_366 : Cond.static ⟨"SpinBench", "productOf", "(I)I"⟩ ∈ gw_All := gw_in 366 (by decide +kernel) (by decide +kernel)
set_option maxRecDepth 100000 in
theorem wd_367 : Cond.code ⟨"SpinBench", "productOf", "(I)I"⟩ prog_1_method_53_code 1 (some .int) ∈ gw_All := gw_in 367 rfl rfl
theorem wd_368 : Cond.methodLink "SpinBench" 278 ⟨"SpinBench", "signOf", "(II)I"⟩ ∈ gw_All := gw_in 368 (by decide +kernel) (by decide +kernel)
theorem wd_369 : Cond.static ⟨"SpinBench", "signOf", "(II)I"⟩ ∈ gw_All := gw_in 369 (by decide +kernel) (by decide +kernel)
set_option maxRecDepth 100000 in
theorem wd_370 : Cond.code ⟨"SpinBench", "signOf", "(II)I"⟩ prog_1_method_49_code 6 (some .int) ∈ gw_All := gw_in 370 rfl rfl
theorem wd_371 : Cond.methodLink "SpinBench" 281 ⟨"SpinBench", "withProduct", "(II)I"⟩ ∈ gw_All := gw_in 371 (by decide +kernel) (by decide +kernel)
theorem wd_372 : Cond.static ⟨"SpinBench", "withProduct", "(II)I"⟩ ∈ gw_All := gw_in 372 (by decide +kernel) (by decide +kernel)
set_option maxRecDepth 100000 in
theorem wd_373 : Cond.code ⟨"SpinBench", "withProduct", "(II)I"⟩ prog_1_method_50_code 2 (some .int) ∈ gw_All := gw_in 373 rfl rfl
theorem wd_374 : Cond.methodLink "SpinBenchLaw" 61 ⟨"SpinBench", "letter", "(III)I"⟩ ∈ gw_All := gw_in 374 (by decide +kernel) (by decide +kernel)
theorem wd_375 : Cond.instanceMethod ⟨"SpinBench", "letter", "(III)I"⟩ ∈ gw_All := gw_in 375 (by decide +kernel) (by decide +kernel)
theorem wd_376 : Cond.selects "SpinBench" ⟨"SpinBench", "letter", "(III)I"⟩ ⟨"SpinBench", "letter", "(III)I"⟩ ∈ gw_All := gw_in 376 (by decide +kernel) (by decide +kernel)
set_option maxRecDepth 100000 in
theorem wd_377 : Cond.code ⟨"SpinBench", "letter", "(III)I"⟩ prog_1_method_11_code 4 (some .int) ∈ gw_All := gw_in 377 rfl rfl
theorem wd_378 : Cond.methodLink "SpinBench" 146 ⟨"SpinBench", "isWay", "(I)Z"⟩ ∈ gw_All := gw_in 378 (by decide +kernel) (by decide +kernel)
theorem wd_379 : Cond.static ⟨"SpinBench", "isWay", "(I)Z"⟩ ∈ gw_All := gw_in 379 (by decide +kernel) (by decide +kernel)
set_option maxRecDepth 100000 in
theorem wd_380 : Cond.code ⟨"SpinBench", "isWay", "(I)Z"⟩ prog_1_method_35_code 1 (some .boolean) ∈ gw_All := gw_in 380 rfl rfl
theorem wd_381 : Cond.methodLink "SpinBench" 149 ⟨"SpinBench", "turnByLetter", "(III)Z"⟩ ∈ gw_All := gw_in 381 (by decide +kernel) (by decide +kernel)
theorem wd_383 : Cond.instanceMethod ⟨"SpinBench", "turnByLetter", "(III)Z"⟩ ∈ gw_All := gw_in 383 (by decide +kernel) (by decide +kernel)
set_option maxRecDepth 100000 in
theorem wd_384 : Cond.code ⟨"SpinBench", "turnByLetter", "(III)Z"⟩ prog_1_method_52_code 9 (some .boolean) ∈ gw_All := gw_in 384 rfl rfl
theorem wd_385 : Cond.methodLink "SpinBench" 284 ⟨"SpinBench", "oneCosine", "(I)I"⟩ ∈ gw_All := gw_in 385 (by decide +kernel) (by decide +kernel)
theorem wd_386 : Cond.static ⟨"SpinBench", "oneCosine", "(I)I"⟩ ∈ gw_All := gw_in 386 (by decide +kernel) (by decide +kernel)
set_option maxRecDepth 100000 in
theorem wd_387 : Cond.code ⟨"SpinBench", "oneCosine", "(I)I"⟩ prog_1_method_55_code 1 (some .int) ∈ gw_All := gw_in 387 rfl rfl
theorem wd_388 : Cond.methodLink "SpinBench" 291 ⟨"SpinBench", "oneSine", "(I)I"⟩ ∈ gw_All := gw_in 388 (by decide +kernel) (by decide +kernel)
theorem wd_389 : Cond.static ⟨"SpinBench", "oneSine", "(I)I"⟩ ∈ gw_All := gw_in 389 (by decide +kernel) (by decide +kernel)
set_option maxRecDepth 100000 in
theorem wd_390 : Cond.code ⟨"SpinBench", "oneSine", "(I)I"⟩ prog_1_method_54_code 1 (some .int) ∈ gw_All := gw_in 390 rfl rfl
theorem wd_393 : Cond.instanceMethod ⟨"SpinBench$Mixer", "putTimesSine", "(IIJ)V"⟩ ∈ gw_All := gw_in 393 (by decide +kernel) (by decide +kernel)
set_option maxRecDepth 100000 in
theorem wd_394 : Cond.code ⟨"SpinBench$Mixer", "putTimesSine", "(IIJ)V"⟩ prog_6_method_6_code 6 none ∈ gw_All := gw_in 394 rfl rfl
theorem wd_397 : Cond.methodLink "SpinBenchLaw" 65 ⟨"SpinBench", "terms", "(I)I"⟩ ∈ gw_All := gw_in 397 (by decide +kernel) (by decide +kernel)
theorem wd_398 : Cond.instanceMethod ⟨"SpinBench", "terms", "(I)I"⟩ ∈ gw_All := gw_in 398 (by decide +kernel) (by decide +kernel)
theorem wd_399 : Cond.selects "SpinBench" ⟨"SpinBench", "terms", "(I)I"⟩ ⟨"SpinBench", "terms", "(I)I"⟩ ∈ gw_All := gw_in 399 (by decide +kernel) (by decide +kernel)
set_option maxRecDepth 100000 in
theorem wd_400 : Cond.code ⟨"SpinBench", "terms", "(I)I"⟩ prog_1_method_12_code 3 (some .int) ∈ gw_All := gw_in 400 rfl rfl
theorem wd_401 : Cond.methodLink "SpinBenchLaw" 69 ⟨"SpinBench", "number", "(II)J"⟩ ∈ gw_All := gw_in 401 (by decide +kernel) (by decide +kernel)
theorem wd_402 : Cond.instanceMethod ⟨"SpinBench", "number", "(II)J"⟩ ∈ gw_All := gw_in 402 (by decide +kernel) (by decide +kernel)
theorem wd_403 : Cond.selects "SpinBench" ⟨"SpinBench", "number", "(II)J"⟩ ⟨"SpinBench", "number", "(II)J"⟩ ∈ gw_All := gw_in 403 (by decide +kernel) (by decide +kernel)
set_option maxRecDepth 100000 in
theorem wd_404 : Cond.code ⟨"SpinBench", "number", "(II)J"⟩ prog_1_method_13_code 4 (some .long) ∈ gw_All := gw_in 404 rfl rfl
theorem wd_405 : Cond.constantLong "SpinBench" 152 (-1000001) ∈ gw_All := gw_in 405 (by decide +kernel) (by decide +kernel)
theorem wd_406 : Cond.methodLink "SpinBenchLaw" 74 ⟨"SpinBench", "power", "(III)I"⟩ ∈ gw_All := gw_in 406 (by decide +kernel) (by decide +kernel)
theorem wd_407 : Cond.instanceMethod ⟨"SpinBench", "power", "(III)I"⟩ ∈ gw_All := gw_in 407 (by decide +kernel) (by decide +kernel)
theorem wd_408 : Cond.selects "SpinBench" ⟨"SpinBench", "power", "(III)I"⟩ ⟨"SpinBench", "power", "(III)I"⟩ ∈ gw_All := gw_in 408 (by decide +kernel) (by decide +kernel)
set_option maxRecDepth 100000 in
theorem wd_409 : Cond.code ⟨"SpinBench", "power", "(III)I"⟩ prog_1_method_14_code 5 (some .int) ∈ gw_All := gw_in 409 rfl rfl
theorem wd_410 : Cond.methodLink "SpinBench" 164 ⟨"SpinBench", "powerOf", "(II)I"⟩ ∈ gw_All := gw_in 410 (by decide +kernel) (by decide +kernel)
theorem wd_411 : Cond.static ⟨"SpinBench", "powerOf", "(II)I"⟩ ∈ gw_All := gw_in 411 (by decide +kernel) (by decide +kernel)
set_option maxRecDepth 100000 in
theorem wd_412 : Cond.code ⟨"SpinBench", "powerOf", "(II)I"⟩ prog_1_method_58_code 2 (some .int) ∈ gw_All := gw_in 412 rfl rfl
theorem wd_413 : Cond.methodLink "SpinBench" 294 ⟨"SpinBench", "cosinesOf", "(II)I"⟩ ∈ gw_All := gw_in 413 (by decide +kernel) (by decide +kernel)
theorem wd_414 : Cond.methodLink "SpinBench" 297 ⟨"SpinBench", "sinesOf", "(II)I"⟩ ∈ gw_All := gw_in 414 (by decide +kernel) (by decide +kernel)
theorem wd_415 : Cond.static ⟨"SpinBench", "sinesOf", "(II)I"⟩ ∈ gw_All := gw_in 415 (by decide +kernel) (by decide +kernel)
set_option maxRecDepth 100000 in
theorem wd_416 : Cond.code ⟨"SpinBench", "sinesOf", "(II)I"⟩ prog_1_method_57_code 2 (some .int) ∈ gw_All := gw_in 416 rfl rfl
theorem wd_417 : Cond.methodLink "SpinBenchLaw" 78 ⟨"SpinBench", "same", "(II)I"⟩ ∈ gw_All := gw_in 417 (by decide +kernel) (by decide +kernel)
theorem wd_418 : Cond.instanceMethod ⟨"SpinBench", "same", "(II)I"⟩ ∈ gw_All := gw_in 418 (by decide +kernel) (by decide +kernel)
theorem wd_419 : Cond.selects "SpinBench" ⟨"SpinBench", "same", "(II)I"⟩ ⟨"SpinBench", "same", "(II)I"⟩ ∈ gw_All := gw_in 419 (by decide +kernel) (by decide +kernel)
set_option maxRecDepth 100000 in
theorem wd_420 : Cond.code ⟨"SpinBench", "same", "(II)I"⟩ prog_1_method_15_code 5 (some .int) ∈ gw_All := gw_in 420 rfl rfl
theorem wd_423 : Cond.instanceMethod ⟨"SpinBench$Sum", "isLike", "(LSpinBench$Sum;)Z"⟩ ∈ gw_All := gw_in 423 (by decide +kernel) (by decide +kernel)
set_option maxRecDepth 100000 in
theorem wd_424 : Cond.code ⟨"SpinBench$Sum", "isLike", "(LSpinBench$Sum;)Z"⟩ prog_11_method_3_code 3 (some .boolean) ∈ gw_All := gw_in 424 rfl rfl
theorem wd_425 : Cond.methodLink "SpinBenchLaw" 82 ⟨"SpinBench", "product", "(III)I"⟩ ∈ gw_All := gw_in 425 (by decide +kernel) (by decide +kernel)
theorem wd_426 : Cond.instanceMethod ⟨"SpinBench", "product", "(III)I"⟩ ∈ gw_All := gw_in 426 (by decide +kernel) (by decide +kernel)
theorem wd_427 : Cond.selects "SpinBench" ⟨"SpinBench", "product", "(III)I"⟩ ⟨"SpinBench", "product", "(III)I"⟩ ∈ gw_All := gw_in 427 (by decide +kernel) (by decide +kernel)
set_option maxRecDepth 100000 in
theorem wd_428 : Cond.code ⟨"SpinBench", "product", "(III)I"⟩ prog_1_method_16_code 7 (some .int) ∈ gw_All := gw_in 428 rfl rfl
theorem wd_431 : Cond.instanceMethod ⟨"SpinBench$Mixer", "multiply", "(LSpinBench$Sum;LSpinBench$Sum;LSpinBench$Sum;)Z"⟩ ∈ gw_All := gw_in 431 (by decide +kernel) (by decide +kernel)
set_option maxRecDepth 100000 in
theorem wd_432 : Cond.code ⟨"SpinBench$Mixer", "multiply", "(LSpinBench$Sum;LSpinBench$Sum;LSpinBench$Sum;)Z"⟩ prog_6_method_8_code 6 (some .boolean) ∈ gw_All := gw_in 432 rfl rfl
theorem wd_434 : Cond.methodLink "SpinBench$Mixer" 73 ⟨"SpinBench$Mixer", "isBeyond", "(JJ)Z"⟩ ∈ gw_All := gw_in 434 (by decide +kernel) (by decide +kernel)
theorem wd_435 : Cond.static ⟨"SpinBench$Mixer", "isBeyond", "(JJ)Z"⟩ ∈ gw_All := gw_in 435 (by decide +kernel) (by decide +kernel)
set_option maxRecDepth 100000 in
theorem wd_436 : Cond.code ⟨"SpinBench$Mixer", "isBeyond", "(JJ)Z"⟩ prog_6_method_9_code 4 (some .boolean) ∈ gw_All := gw_in 436 rfl rfl
theorem wd_437 : Cond.methodLink "SpinBench$Mixer" 77 ⟨"SpinBench$Mixer", "putRows", "(IIJ)Z"⟩ ∈ gw_All := gw_in 437 (by decide +kernel) (by decide +kernel)
theorem wd_439 : Cond.instanceMethod ⟨"SpinBench$Mixer", "putRows", "(IIJ)Z"⟩ ∈ gw_All := gw_in 439 (by decide +kernel) (by decide +kernel)
set_option maxRecDepth 100000 in
theorem wd_440 : Cond.code ⟨"SpinBench$Mixer", "putRows", "(IIJ)Z"⟩ prog_6_method_10_code 10 (some .boolean) ∈ gw_All := gw_in 440 rfl rfl
theorem wd_442 : Cond.methodLink "SpinBench$Mixer" 96 ⟨"SpinBench$Mixer", "squaredCosines", "(I)I"⟩ ∈ gw_All := gw_in 442 (by decide +kernel) (by decide +kernel)
theorem wd_443 : Cond.static ⟨"SpinBench$Mixer", "squaredCosines", "(I)I"⟩ ∈ gw_All := gw_in 443 (by decide +kernel) (by decide +kernel)
set_option maxRecDepth 100000 in
theorem wd_444 : Cond.code ⟨"SpinBench$Mixer", "squaredCosines", "(I)I"⟩ prog_6_method_11_code 3 (some .int) ∈ gw_All := gw_in 444 rfl rfl
theorem wd_445 : Cond.methodLink "SpinBench$Mixer" 99 ⟨"java/lang/Integer", "bitCount", "(I)I"⟩ ∈ gw_All := gw_in 445 (by decide +kernel) (by decide +kernel)
theorem wd_446 : Cond.static ⟨"java/lang/Integer", "bitCount", "(I)I"⟩ ∈ gw_All := gw_in 446 (by decide +kernel) (by decide +kernel)
set_option maxRecDepth 100000 in
theorem wd_447 : Cond.code ⟨"java/lang/Integer", "bitCount", "(I)I"⟩ prog_15_method_49_code 1 (some .int) ∈ gw_All := gw_in 447 rfl rfl
theorem wd_448 : Cond.constant "java/lang/Integer" 265 1431655765 ∈ gw_All := gw_in 448 (by decide +kernel) (by decide +kernel)
theorem wd_449 : Cond.constant "java/lang/Integer" 266 858993459 ∈ gw_All := gw_in 449 (by decide +kernel) (by decide +kernel)
theorem wd_450 : Cond.constant "java/lang/Integer" 267 252645135 ∈ gw_All := gw_in 450 (by decide +kernel) (by decide +kernel)
theorem wd_451 : Cond.methodLink "SpinBenchLaw" 86 ⟨"SpinBench", "digest", "(I)J"⟩ ∈ gw_All := gw_in 451 (by decide +kernel) (by decide +kernel)
theorem wd_452 : Cond.instanceMethod ⟨"SpinBench", "digest", "(I)J"⟩ ∈ gw_All := gw_in 452 (by decide +kernel) (by decide +kernel)
theorem wd_453 : Cond.selects "SpinBench" ⟨"SpinBench", "digest", "(I)J"⟩ ⟨"SpinBench", "digest", "(I)J"⟩ ∈ gw_All := gw_in 453 (by decide +kernel) (by decide +kernel)
set_option maxRecDepth 100000 in
theorem wd_454 : Cond.code ⟨"SpinBench", "digest", "(I)J"⟩ prog_1_method_17_code 7 (some .long) ∈ gw_All := gw_in 454 rfl rfl
theorem wd_455 : Cond.constantLong "SpinBench" 174 17 ∈ gw_All := gw_in 455 (by decide +kernel) (by decide +kernel)
theorem wd_456 : Cond.constantLong "SpinBench" 176 31 ∈ gw_All := gw_in 456 (by decide +kernel) (by decide +kernel)
theorem wd_457 : Cond.methodLink "SpinBenchLaw" 91 ⟨"SpinBench", "pulse", "(III)I"⟩ ∈ gw_All := gw_in 457 (by decide +kernel) (by decide +kernel)
theorem wd_458 : Cond.instanceMethod ⟨"SpinBench", "pulse", "(III)I"⟩ ∈ gw_All := gw_in 458 (by decide +kernel) (by decide +kernel)
theorem wd_459 : Cond.selects "SpinBench" ⟨"SpinBench", "pulse", "(III)I"⟩ ⟨"SpinBench", "pulse", "(III)I"⟩ ∈ gw_All := gw_in 459 (by decide +kernel) (by decide +kernel)
set_option maxRecDepth 100000 in
theorem wd_460 : Cond.code ⟨"SpinBench", "pulse", "(III)I"⟩ prog_1_method_18_code 4 (some .int) ∈ gw_All := gw_in 460 rfl rfl
theorem wd_461 : Cond.methodLink "SpinBench" 178 ⟨"SpinBench", "isPulse", "(III)Z"⟩ ∈ gw_All := gw_in 461 (by decide +kernel) (by decide +kernel)
theorem wd_463 : Cond.instanceMethod ⟨"SpinBench", "isPulse", "(III)Z"⟩ ∈ gw_All := gw_in 463 (by decide +kernel) (by decide +kernel)
set_option maxRecDepth 100000 in
theorem wd_464 : Cond.code ⟨"SpinBench", "isPulse", "(III)Z"⟩ prog_1_method_37_code 4 (some .boolean) ∈ gw_All := gw_in 464 rfl rfl
theorem wd_465 : Cond.classLink "SpinBench" 181 "SpinBench$Pulse" ∈ gw_All := gw_in 465 (by decide +kernel) (by decide +kernel)
theorem wd_466 : Cond.instantiable "SpinBench$Pulse" 5 ∈ gw_All := gw_in 466 (by decide +kernel) (by decide +kernel)
theorem wd_467 : Cond.methodLink "SpinBench" 190 ⟨"SpinBench$Pulse", "<init>", "(ILSpinBench$Round;III)V"⟩ ∈ gw_All := gw_in 467 (by decide +kernel) (by decide +kernel)
theorem wd_468 : Cond.instanceMethod ⟨"SpinBench$Pulse", "<init>", "(ILSpinBench$Round;III)V"⟩ ∈ gw_All := gw_in 468 (by decide +kernel) (by decide +kernel)
set_option maxRecDepth 100000 in
theorem wd_469 : Cond.code ⟨"SpinBench$Pulse", "<init>", "(ILSpinBench$Round;III)V"⟩ prog_8_method_1_code 6 none ∈ gw_All := gw_in 469 rfl rfl
theorem wd_470 : Cond.methodLink "SpinBench$Pulse" 3 ⟨"SpinBench$Lead", "<init>", "(ILSpinBench$Round;)V"⟩ ∈ gw_All := gw_in 470 (by decide +kernel) (by decide +kernel)
theorem wd_471 : Cond.instanceMethod ⟨"SpinBench$Lead", "<init>", "(ILSpinBench$Round;)V"⟩ ∈ gw_All := gw_in 471 (by decide +kernel) (by decide +kernel)
set_option maxRecDepth 100000 in
theorem wd_472 : Cond.code ⟨"SpinBench$Lead", "<init>", "(ILSpinBench$Round;)V"⟩ prog_5_method_1_code 3 none ∈ gw_All := gw_in 472 rfl rfl
theorem wd_473 : Cond.methodLink "SpinBench$Lead" 3 ⟨"SpinBench$Op", "<init>", "(ILSpinBench$Round;)V"⟩ ∈ gw_All := gw_in 473 (by decide +kernel) (by decide +kernel)
theorem wd_474 : Cond.instanceMethod ⟨"SpinBench$Op", "<init>", "(ILSpinBench$Round;)V"⟩ ∈ gw_All := gw_in 474 (by decide +kernel) (by decide +kernel)
set_option maxRecDepth 100000 in
theorem wd_475 : Cond.code ⟨"SpinBench$Op", "<init>", "(ILSpinBench$Round;)V"⟩ prog_7_method_1_code 3 none ∈ gw_All := gw_in 475 rfl rfl
theorem wd_476 : Cond.methodLink "SpinBench$Op" 3 ⟨"java/lang/Object", "<init>", "()V"⟩ ∈ gw_All := gw_in 476 (by decide +kernel) (by decide +kernel)
theorem wd_477 : Cond.fieldLink "SpinBench$Pulse" 9 "SpinBench$Pulse" "spinSet" "I" ∈ gw_All := gw_in 477 (by decide +kernel) (by decide +kernel)
theorem wd_478 : Cond.fieldLink "SpinBench" 239 "SpinBench$Pulse" "spinSet" "I" ∈ gw_All := gw_in 478 (by decide +kernel) (by decide +kernel)
theorem wd_479 : Cond.fieldLink "SpinBench$Pulse" 15 "SpinBench$Pulse" "phase" "I" ∈ gw_All := gw_in 479 (by decide +kernel) (by decide +kernel)
theorem wd_480 : Cond.fieldLink "SpinBench$Cycled" 49 "SpinBench$Cycled" "phase" "I" ∈ gw_All := gw_in 480 (by decide +kernel) (by decide +kernel)
theorem wd_481 : Cond.sameField "SpinBench$Cycled" "SpinBench$Pulse" "phase" "I" ∈ gw_All := gw_in 481 (by decide +kernel) (by decide +kernel)
theorem wd_482 : Cond.fieldLink "SpinBench$Pulse" 18 "SpinBench$Pulse" "quarters" "I" ∈ gw_All := gw_in 482 (by decide +kernel) (by decide +kernel)
theorem wd_483 : Cond.fieldLink "SpinBench$Op" 9 "SpinBench$Op" "place" "I" ∈ gw_All := gw_in 483 (by decide +kernel) (by decide +kernel)
theorem wd_484 : Cond.fieldLink "SpinBench$End" 24 "SpinBench$Round" "place" "I" ∈ gw_All := gw_in 484 (by decide +kernel) (by decide +kernel)
theorem wd_485 : Cond.sameField "SpinBench$Round" "SpinBench$Op" "place" "I" ∈ gw_All := gw_in 485 (by decide +kernel) (by decide +kernel)
theorem wd_486 : Cond.fieldLink "SpinBench" 259 "SpinBench$Op" "place" "I" ∈ gw_All := gw_in 486 (by decide +kernel) (by decide +kernel)
theorem wd_487 : Cond.fieldLink "SpinBench$Op" 15 "SpinBench$Op" "around" "LSpinBench$Round;" ∈ gw_All := gw_in 487 (by decide +kernel) (by decide +kernel)
theorem wd_488 : Cond.fieldLink "SpinBench$End" 9 "SpinBench$End" "around" "LSpinBench$Round;" ∈ gw_All := gw_in 488 (by decide +kernel) (by decide +kernel)
theorem wd_489 : Cond.sameField "SpinBench$End" "SpinBench$Op" "around" "LSpinBench$Round;" ∈ gw_All := gw_in 489 (by decide +kernel) (by decide +kernel)
theorem wd_490 : Cond.fieldLink "SpinBench$Cycled" 36 "SpinBench$Cycled" "around" "LSpinBench$Round;" ∈ gw_All := gw_in 490 (by decide +kernel) (by decide +kernel)
theorem wd_491 : Cond.sameField "SpinBench$Cycled" "SpinBench$Op" "around" "LSpinBench$Round;" ∈ gw_All := gw_in 491 (by decide +kernel) (by decide +kernel)
theorem wd_492 : Cond.fieldLink "SpinBench" 220 "SpinBench$Round" "around" "LSpinBench$Round;" ∈ gw_All := gw_in 492 (by decide +kernel) (by decide +kernel)
theorem wd_493 : Cond.sameField "SpinBench$Round" "SpinBench$Op" "around" "LSpinBench$Round;" ∈ gw_All := gw_in 493 (by decide +kernel) (by decide +kernel)
theorem wd_494 : Cond.fieldLink "SpinBench" 232 "SpinBench$Op" "around" "LSpinBench$Round;" ∈ gw_All := gw_in 494 (by decide +kernel) (by decide +kernel)
theorem wd_505 : Cond.superclass "SpinBench$Pulse" "SpinBench$Lead" ∈ gw_All := gw_in 505 (by decide +kernel) (by decide +kernel)
theorem wd_506 : Cond.methodLink "SpinBench" 193 ⟨"SpinBench", "append", "(LSpinBench$Op;)I"⟩ ∈ gw_All := gw_in 506 (by decide +kernel) (by decide +kernel)
theorem wd_508 : Cond.instanceMethod ⟨"SpinBench", "append", "(LSpinBench$Op;)I"⟩ ∈ gw_All := gw_in 508 (by decide +kernel) (by decide +kernel)
set_option maxRecDepth 100000 in
theorem wd_509 : Cond.code ⟨"SpinBench", "append", "(LSpinBench$Op;)I"⟩ prog_1_method_43_code 3 (some .int) ∈ gw_All := gw_in 509 rfl rfl
theorem wd_510 : Cond.methodLink "SpinBenchLaw" 95 ⟨"SpinBench", "cycled", "(IIII)I"⟩ ∈ gw_All := gw_in 510 (by decide +kernel) (by decide +kernel)
theorem wd_511 : Cond.instanceMethod ⟨"SpinBench", "cycled", "(IIII)I"⟩ ∈ gw_All := gw_in 511 (by decide +kernel) (by decide +kernel)
theorem wd_512 : Cond.selects "SpinBench" ⟨"SpinBench", "cycled", "(IIII)I"⟩ ⟨"SpinBench", "cycled", "(IIII)I"⟩ ∈ gw_All := gw_in 512 (by decide +kernel) (by decide +kernel)
set_option maxRecDepth 100000 in
theorem wd_513 : Cond.code ⟨"SpinBench", "cycled", "(IIII)I"⟩ prog_1_method_19_code 5 (some .int) ∈ gw_All := gw_in 513 rfl rfl
theorem wd_514 : Cond.classLink "SpinBench" 197 "SpinBench$Cycled" ∈ gw_All := gw_in 514 (by decide +kernel) (by decide +kernel)
theorem wd_515 : Cond.instantiable "SpinBench$Cycled" 6 ∈ gw_All := gw_in 515 (by decide +kernel) (by decide +kernel)
theorem wd_516 : Cond.methodLink "SpinBench" 199 ⟨"SpinBench$Cycled", "<init>", "(ILSpinBench$Round;IIII)V"⟩ ∈ gw_All := gw_in 516 (by decide +kernel) (by decide +kernel)
theorem wd_517 : Cond.instanceMethod ⟨"SpinBench$Cycled", "<init>", "(ILSpinBench$Round;IIII)V"⟩ ∈ gw_All := gw_in 517 (by decide +kernel) (by decide +kernel)
set_option maxRecDepth 100000 in
theorem wd_518 : Cond.code ⟨"SpinBench$Cycled", "<init>", "(ILSpinBench$Round;IIII)V"⟩ prog_2_method_1_code 7 none ∈ gw_All := gw_in 518 rfl rfl
theorem wd_519 : Cond.methodLink "SpinBench$Cycled" 3 ⟨"SpinBench$Pulse", "<init>", "(ILSpinBench$Round;III)V"⟩ ∈ gw_All := gw_in 519 (by decide +kernel) (by decide +kernel)
theorem wd_520 : Cond.fieldLink "SpinBench$Cycled" 9 "SpinBench$Cycled" "cycle" "I" ∈ gw_All := gw_in 520 (by decide +kernel) (by decide +kernel)
theorem wd_528 : Cond.superclass "SpinBench$Cycled" "SpinBench$Pulse" ∈ gw_All := gw_in 528 (by decide +kernel) (by decide +kernel)
theorem wd_529 : Cond.methodLink "SpinBenchLaw" 100 ⟨"SpinBench", "delay", "(III)I"⟩ ∈ gw_All := gw_in 529 (by decide +kernel) (by decide +kernel)
theorem wd_530 : Cond.instanceMethod ⟨"SpinBench", "delay", "(III)I"⟩ ∈ gw_All := gw_in 530 (by decide +kernel) (by decide +kernel)
theorem wd_531 : Cond.selects "SpinBench" ⟨"SpinBench", "delay", "(III)I"⟩ ⟨"SpinBench", "delay", "(III)I"⟩ ∈ gw_All := gw_in 531 (by decide +kernel) (by decide +kernel)
set_option maxRecDepth 100000 in
theorem wd_532 : Cond.code ⟨"SpinBench", "delay", "(III)I"⟩ prog_1_method_20_code 4 (some .int) ∈ gw_All := gw_in 532 rfl rfl
theorem wd_533 : Cond.classLink "SpinBench" 202 "SpinBench$Delay" ∈ gw_All := gw_in 533 (by decide +kernel) (by decide +kernel)
theorem wd_534 : Cond.instantiable "SpinBench$Delay" 5 ∈ gw_All := gw_in 534 (by decide +kernel) (by decide +kernel)
theorem wd_535 : Cond.methodLink "SpinBench" 204 ⟨"SpinBench$Delay", "<init>", "(ILSpinBench$Round;III)V"⟩ ∈ gw_All := gw_in 535 (by decide +kernel) (by decide +kernel)
theorem wd_536 : Cond.instanceMethod ⟨"SpinBench$Delay", "<init>", "(ILSpinBench$Round;III)V"⟩ ∈ gw_All := gw_in 536 (by decide +kernel) (by decide +kernel)
set_option maxRecDepth 100000 in
theorem wd_537 : Cond.code ⟨"SpinBench$Delay", "<init>", "(ILSpinBench$Round;III)V"⟩ prog_3_method_1_code 6 none ∈ gw_All := gw_in 537 rfl rfl
theorem wd_538 : Cond.methodLink "SpinBench$Delay" 3 ⟨"SpinBench$Lead", "<init>", "(ILSpinBench$Round;)V"⟩ ∈ gw_All := gw_in 538 (by decide +kernel) (by decide +kernel)
theorem wd_539 : Cond.fieldLink "SpinBench$Delay" 9 "SpinBench$Delay" "about" "I" ∈ gw_All := gw_in 539 (by decide +kernel) (by decide +kernel)
theorem wd_540 : Cond.fieldLink "SpinBench$Delay" 15 "SpinBench$Delay" "angle" "I" ∈ gw_All := gw_in 540 (by decide +kernel) (by decide +kernel)
theorem wd_541 : Cond.fieldLink "SpinBench$Delay" 18 "SpinBench$Delay" "way" "I" ∈ gw_All := gw_in 541 (by decide +kernel) (by decide +kernel)
theorem wd_550 : Cond.superclass "SpinBench$Delay" "SpinBench$Lead" ∈ gw_All := gw_in 550 (by decide +kernel) (by decide +kernel)
theorem wd_551 : Cond.methodLink "SpinBenchLaw" 104 ⟨"SpinBench", "round", "(I)I"⟩ ∈ gw_All := gw_in 551 (by decide +kernel) (by decide +kernel)
theorem wd_552 : Cond.instanceMethod ⟨"SpinBench", "round", "(I)I"⟩ ∈ gw_All := gw_in 552 (by decide +kernel) (by decide +kernel)
theorem wd_553 : Cond.selects "SpinBench" ⟨"SpinBench", "round", "(I)I"⟩ ⟨"SpinBench", "round", "(I)I"⟩ ∈ gw_All := gw_in 553 (by decide +kernel) (by decide +kernel)
set_option maxRecDepth 100000 in
theorem wd_554 : Cond.code ⟨"SpinBench", "round", "(I)I"⟩ prog_1_method_21_code 4 (some .int) ∈ gw_All := gw_in 554 rfl rfl
theorem wd_555 : Cond.methodLink "SpinBench" 205 ⟨"SpinBench", "openRounds", "()I"⟩ ∈ gw_All := gw_in 555 (by decide +kernel) (by decide +kernel)
theorem wd_557 : Cond.instanceMethod ⟨"SpinBench", "openRounds", "()I"⟩ ∈ gw_All := gw_in 557 (by decide +kernel) (by decide +kernel)
set_option maxRecDepth 100000 in
theorem wd_558 : Cond.code ⟨"SpinBench", "openRounds", "()I"⟩ prog_1_method_45_code 3 (some .int) ∈ gw_All := gw_in 558 rfl rfl
theorem wd_559 : Cond.constant "SpinBench" 209 (-1000002) ∈ gw_All := gw_in 559 (by decide +kernel) (by decide +kernel)
theorem wd_560 : Cond.classLink "SpinBench" 210 "SpinBench$Round" ∈ gw_All := gw_in 560 (by decide +kernel) (by decide +kernel)
theorem wd_561 : Cond.instantiable "SpinBench$Round" 4 ∈ gw_All := gw_in 561 (by decide +kernel) (by decide +kernel)
theorem wd_562 : Cond.methodLink "SpinBench" 212 ⟨"SpinBench$Round", "<init>", "(ILSpinBench$Round;I)V"⟩ ∈ gw_All := gw_in 562 (by decide +kernel) (by decide +kernel)
theorem wd_563 : Cond.instanceMethod ⟨"SpinBench$Round", "<init>", "(ILSpinBench$Round;I)V"⟩ ∈ gw_All := gw_in 563 (by decide +kernel) (by decide +kernel)
set_option maxRecDepth 100000 in
theorem wd_564 : Cond.code ⟨"SpinBench$Round", "<init>", "(ILSpinBench$Round;I)V"⟩ prog_9_method_1_code 4 none ∈ gw_All := gw_in 564 rfl rfl
theorem wd_565 : Cond.methodLink "SpinBench$Round" 3 ⟨"SpinBench$Op", "<init>", "(ILSpinBench$Round;)V"⟩ ∈ gw_All := gw_in 565 (by decide +kernel) (by decide +kernel)
theorem wd_566 : Cond.fieldLink "SpinBench$Round" 9 "SpinBench$Round" "often" "I" ∈ gw_All := gw_in 566 (by decide +kernel) (by decide +kernel)
theorem wd_569 : Cond.fieldLink "SpinBench$Round" 19 "SpinBench$Round" "timesDone" "I" ∈ gw_All := gw_in 569 (by decide +kernel) (by decide +kernel)
theorem wd_577 : Cond.superclass "SpinBench$Round" "SpinBench$Op" ∈ gw_All := gw_in 577 (by decide +kernel) (by decide +kernel)
theorem wd_578 : Cond.methodLink "SpinBenchLaw" 108 ⟨"SpinBench", "end", "()I"⟩ ∈ gw_All := gw_in 578 (by decide +kernel) (by decide +kernel)
theorem wd_579 : Cond.instanceMethod ⟨"SpinBench", "end", "()I"⟩ ∈ gw_All := gw_in 579 (by decide +kernel) (by decide +kernel)
theorem wd_580 : Cond.selects "SpinBench" ⟨"SpinBench", "end", "()I"⟩ ⟨"SpinBench", "end", "()I"⟩ ∈ gw_All := gw_in 580 (by decide +kernel) (by decide +kernel)
set_option maxRecDepth 100000 in
theorem wd_581 : Cond.code ⟨"SpinBench", "end", "()I"⟩ prog_1_method_22_code 3 (some .int) ∈ gw_All := gw_in 581 rfl rfl
theorem wd_582 : Cond.classLink "SpinBench" 215 "SpinBench$End" ∈ gw_All := gw_in 582 (by decide +kernel) (by decide +kernel)
theorem wd_583 : Cond.instantiable "SpinBench$End" 2 ∈ gw_All := gw_in 583 (by decide +kernel) (by decide +kernel)
theorem wd_584 : Cond.methodLink "SpinBench" 217 ⟨"SpinBench$End", "<init>", "(ILSpinBench$Round;)V"⟩ ∈ gw_All := gw_in 584 (by decide +kernel) (by decide +kernel)
theorem wd_585 : Cond.instanceMethod ⟨"SpinBench$End", "<init>", "(ILSpinBench$Round;)V"⟩ ∈ gw_All := gw_in 585 (by decide +kernel) (by decide +kernel)
set_option maxRecDepth 100000 in
theorem wd_586 : Cond.code ⟨"SpinBench$End", "<init>", "(ILSpinBench$Round;)V"⟩ prog_4_method_1_code 3 none ∈ gw_All := gw_in 586 rfl rfl
theorem wd_587 : Cond.methodLink "SpinBench$End" 3 ⟨"SpinBench$Op", "<init>", "(ILSpinBench$Round;)V"⟩ ∈ gw_All := gw_in 587 (by decide +kernel) (by decide +kernel)
theorem wd_590 : Cond.superclass "SpinBench$End" "SpinBench$Op" ∈ gw_All := gw_in 590 (by decide +kernel) (by decide +kernel)
theorem wd_591 : Cond.methodLink "SpinBenchLaw" 113 ⟨"SpinBench", "store", "(II)I"⟩ ∈ gw_All := gw_in 591 (by decide +kernel) (by decide +kernel)
theorem wd_592 : Cond.instanceMethod ⟨"SpinBench", "store", "(II)I"⟩ ∈ gw_All := gw_in 592 (by decide +kernel) (by decide +kernel)
theorem wd_593 : Cond.selects "SpinBench" ⟨"SpinBench", "store", "(II)I"⟩ ⟨"SpinBench", "store", "(II)I"⟩ ∈ gw_All := gw_in 593 (by decide +kernel) (by decide +kernel)
set_option maxRecDepth 100000 in
theorem wd_594 : Cond.code ⟨"SpinBench", "store", "(II)I"⟩ prog_1_method_23_code 3 (some .int) ∈ gw_All := gw_in 594 rfl rfl
theorem wd_595 : Cond.classLink "SpinBench" 223 "SpinBench$Store" ∈ gw_All := gw_in 595 (by decide +kernel) (by decide +kernel)
theorem wd_596 : Cond.instantiable "SpinBench$Store" 4 ∈ gw_All := gw_in 596 (by decide +kernel) (by decide +kernel)
theorem wd_597 : Cond.methodLink "SpinBench" 225 ⟨"SpinBench$Store", "<init>", "(ILSpinBench$Round;II)V"⟩ ∈ gw_All := gw_in 597 (by decide +kernel) (by decide +kernel)
theorem wd_598 : Cond.instanceMethod ⟨"SpinBench$Store", "<init>", "(ILSpinBench$Round;II)V"⟩ ∈ gw_All := gw_in 598 (by decide +kernel) (by decide +kernel)
set_option maxRecDepth 100000 in
theorem wd_599 : Cond.code ⟨"SpinBench$Store", "<init>", "(ILSpinBench$Round;II)V"⟩ prog_10_method_1_code 5 none ∈ gw_All := gw_in 599 rfl rfl
theorem wd_600 : Cond.methodLink "SpinBench$Store" 3 ⟨"SpinBench$Op", "<init>", "(ILSpinBench$Round;)V"⟩ ∈ gw_All := gw_in 600 (by decide +kernel) (by decide +kernel)
theorem wd_601 : Cond.fieldLink "SpinBench$Store" 9 "SpinBench$Store" "shelf" "I" ∈ gw_All := gw_in 601 (by decide +kernel) (by decide +kernel)
theorem wd_602 : Cond.fieldLink "SpinBench$Store" 15 "SpinBench$Store" "times" "I" ∈ gw_All := gw_in 602 (by decide +kernel) (by decide +kernel)
theorem wd_609 : Cond.superclass "SpinBench$Store" "SpinBench$Op" ∈ gw_All := gw_in 609 (by decide +kernel) (by decide +kernel)
theorem wd_610 : Cond.methodLink "SpinBenchLaw" 117 ⟨"SpinBench", "back", "()I"⟩ ∈ gw_All := gw_in 610 (by decide +kernel) (by decide +kernel)
theorem wd_611 : Cond.instanceMethod ⟨"SpinBench", "back", "()I"⟩ ∈ gw_All := gw_in 611 (by decide +kernel) (by decide +kernel)
theorem wd_612 : Cond.selects "SpinBench" ⟨"SpinBench", "back", "()I"⟩ ⟨"SpinBench", "back", "()I"⟩ ∈ gw_All := gw_in 612 (by decide +kernel) (by decide +kernel)
set_option maxRecDepth 100000 in
theorem wd_613 : Cond.code ⟨"SpinBench", "back", "()I"⟩ prog_1_method_24_code 2 (some .int) ∈ gw_All := gw_in 613 rfl rfl
theorem wd_614 : Cond.methodLink "SpinBench" 228 ⟨"SpinBench", "opAt", "(I)LSpinBench$Op;"⟩ ∈ gw_All := gw_in 614 (by decide +kernel) (by decide +kernel)
theorem wd_616 : Cond.instanceMethod ⟨"SpinBench", "opAt", "(I)LSpinBench$Op;"⟩ ∈ gw_All := gw_in 616 (by decide +kernel) (by decide +kernel)
set_option maxRecDepth 100000 in
theorem wd_617 : Cond.code ⟨"SpinBench", "opAt", "(I)LSpinBench$Op;"⟩ prog_1_method_40_code 2 (some (.object "SpinBench$Op")) ∈ gw_All := gw_in 617 rfl rfl
theorem wd_618 : Cond.methodLink "SpinBenchLaw" 121 ⟨"SpinBench", "kind", "(I)I"⟩ ∈ gw_All := gw_in 618 (by decide +kernel) (by decide +kernel)
theorem wd_619 : Cond.instanceMethod ⟨"SpinBench", "kind", "(I)I"⟩ ∈ gw_All := gw_in 619 (by decide +kernel) (by decide +kernel)
theorem wd_620 : Cond.selects "SpinBench" ⟨"SpinBench", "kind", "(I)I"⟩ ⟨"SpinBench", "kind", "(I)I"⟩ ∈ gw_All := gw_in 620 (by decide +kernel) (by decide +kernel)
set_option maxRecDepth 100000 in
theorem wd_621 : Cond.code ⟨"SpinBench", "kind", "(I)I"⟩ prog_1_method_25_code 3 (some .int) ∈ gw_All := gw_in 621 rfl rfl
theorem wd_622 : Cond.methodLink "SpinBench" 233 ⟨"SpinBench$Op", "ownKind", "()I"⟩ ∈ gw_All := gw_in 622 (by decide +kernel) (by decide +kernel)
theorem wd_624 : Cond.sameMethod "SpinBench$Op" "SpinBench$Op" "ownKind" "()I" ∈ gw_All := gw_in 624 (by decide +kernel) (by decide +kernel)
theorem wd_625 : Cond.selects "SpinBench$Cycled" ⟨"SpinBench$Op", "ownKind", "()I"⟩ ⟨"SpinBench$Cycled", "ownKind", "()I"⟩ ∈ gw_All := gw_in 625 (by decide +kernel) (by decide +kernel)
theorem wd_626 : Cond.instanceMethod ⟨"SpinBench$Cycled", "ownKind", "()I"⟩ ∈ gw_All := gw_in 626 (by decide +kernel) (by decide +kernel)
set_option maxRecDepth 100000 in
theorem wd_627 : Cond.code ⟨"SpinBench$Cycled", "ownKind", "()I"⟩ prog_2_method_2_code 1 (some .int) ∈ gw_All := gw_in 627 rfl rfl
theorem wd_628 : Cond.selects "SpinBench$Delay" ⟨"SpinBench$Op", "ownKind", "()I"⟩ ⟨"SpinBench$Delay", "ownKind", "()I"⟩ ∈ gw_All := gw_in 628 (by decide +kernel) (by decide +kernel)
theorem wd_629 : Cond.instanceMethod ⟨"SpinBench$Delay", "ownKind", "()I"⟩ ∈ gw_All := gw_in 629 (by decide +kernel) (by decide +kernel)
set_option maxRecDepth 100000 in
theorem wd_630 : Cond.code ⟨"SpinBench$Delay", "ownKind", "()I"⟩ prog_3_method_2_code 1 (some .int) ∈ gw_All := gw_in 630 rfl rfl
theorem wd_631 : Cond.selects "SpinBench$End" ⟨"SpinBench$Op", "ownKind", "()I"⟩ ⟨"SpinBench$End", "ownKind", "()I"⟩ ∈ gw_All := gw_in 631 (by decide +kernel) (by decide +kernel)
theorem wd_632 : Cond.instanceMethod ⟨"SpinBench$End", "ownKind", "()I"⟩ ∈ gw_All := gw_in 632 (by decide +kernel) (by decide +kernel)
set_option maxRecDepth 100000 in
theorem wd_633 : Cond.code ⟨"SpinBench$End", "ownKind", "()I"⟩ prog_4_method_2_code 1 (some .int) ∈ gw_All := gw_in 633 rfl rfl
theorem wd_634 : Cond.selects "SpinBench$Pulse" ⟨"SpinBench$Op", "ownKind", "()I"⟩ ⟨"SpinBench$Pulse", "ownKind", "()I"⟩ ∈ gw_All := gw_in 634 (by decide +kernel) (by decide +kernel)
theorem wd_635 : Cond.instanceMethod ⟨"SpinBench$Pulse", "ownKind", "()I"⟩ ∈ gw_All := gw_in 635 (by decide +kernel) (by decide +kernel)
set_option maxRecDepth 100000 in
theorem wd_636 : Cond.code ⟨"SpinBench$Pulse", "ownKind", "()I"⟩ prog_8_method_2_code 1 (some .int) ∈ gw_All := gw_in 636 rfl rfl
theorem wd_637 : Cond.selects "SpinBench$Round" ⟨"SpinBench$Op", "ownKind", "()I"⟩ ⟨"SpinBench$Round", "ownKind", "()I"⟩ ∈ gw_All := gw_in 637 (by decide +kernel) (by decide +kernel)
theorem wd_638 : Cond.instanceMethod ⟨"SpinBench$Round", "ownKind", "()I"⟩ ∈ gw_All := gw_in 638 (by decide +kernel) (by decide +kernel)
set_option maxRecDepth 100000 in
theorem wd_639 : Cond.code ⟨"SpinBench$Round", "ownKind", "()I"⟩ prog_9_method_2_code 1 (some .int) ∈ gw_All := gw_in 639 rfl rfl
theorem wd_640 : Cond.selects "SpinBench$Store" ⟨"SpinBench$Op", "ownKind", "()I"⟩ ⟨"SpinBench$Store", "ownKind", "()I"⟩ ∈ gw_All := gw_in 640 (by decide +kernel) (by decide +kernel)
theorem wd_641 : Cond.instanceMethod ⟨"SpinBench$Store", "ownKind", "()I"⟩ ∈ gw_All := gw_in 641 (by decide +kernel) (by decide +kernel)
set_option maxRecDepth 100000 in
theorem wd_642 : Cond.code ⟨"SpinBench$Store", "ownKind", "()I"⟩ prog_10_method_2_code 1 (some .int) ∈ gw_All := gw_in 642 rfl rfl
theorem wd_643 : Cond.methodLink "SpinBenchLaw" 125 ⟨"SpinBench", "is", "(II)I"⟩ ∈ gw_All := gw_in 643 (by decide +kernel) (by decide +kernel)
theorem wd_644 : Cond.instanceMethod ⟨"SpinBench", "is", "(II)I"⟩ ∈ gw_All := gw_in 644 (by decide +kernel) (by decide +kernel)
theorem wd_645 : Cond.selects "SpinBench" ⟨"SpinBench", "is", "(II)I"⟩ ⟨"SpinBench", "is", "(II)I"⟩ ∈ gw_All := gw_in 645 (by decide +kernel) (by decide +kernel)
set_option maxRecDepth 100000 in
theorem wd_646 : Cond.code ⟨"SpinBench", "is", "(II)I"⟩ prog_1_method_26_code 4 (some .int) ∈ gw_All := gw_in 646 rfl rfl
theorem wd_647 : Cond.methodLink "SpinBench" 236 ⟨"SpinBench$Op", "isOfKind", "(I)Z"⟩ ∈ gw_All := gw_in 647 (by decide +kernel) (by decide +kernel)
theorem wd_648 : Cond.instanceMethod ⟨"SpinBench$Op", "isOfKind", "(I)Z"⟩ ∈ gw_All := gw_in 648 (by decide +kernel) (by decide +kernel)
theorem wd_649 : Cond.sameMethod "SpinBench$Op" "SpinBench$Op" "isOfKind" "(I)Z" ∈ gw_All := gw_in 649 (by decide +kernel) (by decide +kernel)
theorem wd_650 : Cond.selects "SpinBench$Cycled" ⟨"SpinBench$Op", "isOfKind", "(I)Z"⟩ ⟨"SpinBench$Pulse", "isOfKind", "(I)Z"⟩ ∈ gw_All := gw_in 650 (by decide +kernel) (by decide +kernel)
theorem wd_651 : Cond.instanceMethod ⟨"SpinBench$Pulse", "isOfKind", "(I)Z"⟩ ∈ gw_All := gw_in 651 (by decide +kernel) (by decide +kernel)
set_option maxRecDepth 100000 in
theorem wd_652 : Cond.code ⟨"SpinBench$Pulse", "isOfKind", "(I)Z"⟩ prog_8_method_3_code 2 (some .boolean) ∈ gw_All := gw_in 652 rfl rfl
theorem wd_653 : Cond.methodLink "SpinBench$Pulse" 21 ⟨"SpinBench$Lead", "isOfKind", "(I)Z"⟩ ∈ gw_All := gw_in 653 (by decide +kernel) (by decide +kernel)
theorem wd_654 : Cond.instanceMethod ⟨"SpinBench$Lead", "isOfKind", "(I)Z"⟩ ∈ gw_All := gw_in 654 (by decide +kernel) (by decide +kernel)
set_option maxRecDepth 100000 in
theorem wd_655 : Cond.code ⟨"SpinBench$Lead", "isOfKind", "(I)Z"⟩ prog_5_method_2_code 2 (some .boolean) ∈ gw_All := gw_in 655 rfl rfl
theorem wd_656 : Cond.methodLink "SpinBench$Lead" 9 ⟨"SpinBench$Op", "isOfKind", "(I)Z"⟩ ∈ gw_All := gw_in 656 (by decide +kernel) (by decide +kernel)
theorem wd_657 : Cond.selects "SpinBench$Delay" ⟨"SpinBench$Op", "isOfKind", "(I)Z"⟩ ⟨"SpinBench$Lead", "isOfKind", "(I)Z"⟩ ∈ gw_All := gw_in 657 (by decide +kernel) (by decide +kernel)
theorem wd_658 : Cond.selects "SpinBench$End" ⟨"SpinBench$Op", "isOfKind", "(I)Z"⟩ ⟨"SpinBench$Op", "isOfKind", "(I)Z"⟩ ∈ gw_All := gw_in 658 (by decide +kernel) (by decide +kernel)
theorem wd_659 : Cond.selects "SpinBench$Pulse" ⟨"SpinBench$Op", "isOfKind", "(I)Z"⟩ ⟨"SpinBench$Pulse", "isOfKind", "(I)Z"⟩ ∈ gw_All := gw_in 659 (by decide +kernel) (by decide +kernel)
theorem wd_660 : Cond.selects "SpinBench$Round" ⟨"SpinBench$Op", "isOfKind", "(I)Z"⟩ ⟨"SpinBench$Op", "isOfKind", "(I)Z"⟩ ∈ gw_All := gw_in 660 (by decide +kernel) (by decide +kernel)
theorem wd_661 : Cond.selects "SpinBench$Store" ⟨"SpinBench$Op", "isOfKind", "(I)Z"⟩ ⟨"SpinBench$Op", "isOfKind", "(I)Z"⟩ ∈ gw_All := gw_in 661 (by decide +kernel) (by decide +kernel)
set_option maxRecDepth 100000 in
theorem wd_662 : Cond.code ⟨"SpinBench$Op", "isOfKind", "(I)Z"⟩ prog_7_method_4_code 2 (some .boolean) ∈ gw_All := gw_in 662 rfl rfl
theorem wd_663 : Cond.methodLink "SpinBench$Op" 19 ⟨"SpinBench$Op", "ownKind", "()I"⟩ ∈ gw_All := gw_in 663 (by decide +kernel) (by decide +kernel)
theorem wd_664 : Cond.methodLink "SpinBenchLaw" 129 ⟨"SpinBench", "spins", "(I)I"⟩ ∈ gw_All := gw_in 664 (by decide +kernel) (by decide +kernel)
theorem wd_665 : Cond.instanceMethod ⟨"SpinBench", "spins", "(I)I"⟩ ∈ gw_All := gw_in 665 (by decide +kernel) (by decide +kernel)
theorem wd_666 : Cond.selects "SpinBench" ⟨"SpinBench", "spins", "(I)I"⟩ ⟨"SpinBench", "spins", "(I)I"⟩ ∈ gw_All := gw_in 666 (by decide +kernel) (by decide +kernel)
set_option maxRecDepth 100000 in
theorem wd_667 : Cond.code ⟨"SpinBench", "spins", "(I)I"⟩ prog_1_method_27_code 4 (some .int) ∈ gw_All := gw_in 667 rfl rfl
theorem wd_668 : Cond.methodLink "SpinBenchLaw" 133 ⟨"SpinBench", "ask", "(II)I"⟩ ∈ gw_All := gw_in 668 (by decide +kernel) (by decide +kernel)
theorem wd_669 : Cond.instanceMethod ⟨"SpinBench", "ask", "(II)I"⟩ ∈ gw_All := gw_in 669 (by decide +kernel) (by decide +kernel)
theorem wd_670 : Cond.selects "SpinBench" ⟨"SpinBench", "ask", "(II)I"⟩ ⟨"SpinBench", "ask", "(II)I"⟩ ∈ gw_All := gw_in 670 (by decide +kernel) (by decide +kernel)
set_option maxRecDepth 100000 in
theorem wd_671 : Cond.code ⟨"SpinBench", "ask", "(II)I"⟩ prog_1_method_28_code 4 (some .int) ∈ gw_All := gw_in 671 rfl rfl
theorem wd_672 : Cond.methodLink "SpinBench" 245 ⟨"SpinBench$Op", "cost", "(LSpinBench;)I"⟩ ∈ gw_All := gw_in 672 (by decide +kernel) (by decide +kernel)
theorem wd_673 : Cond.instanceMethod ⟨"SpinBench$Op", "cost", "(LSpinBench;)I"⟩ ∈ gw_All := gw_in 673 (by decide +kernel) (by decide +kernel)
theorem wd_674 : Cond.sameMethod "SpinBench$Op" "SpinBench$Op" "cost" "(LSpinBench;)I" ∈ gw_All := gw_in 674 (by decide +kernel) (by decide +kernel)
theorem wd_675 : Cond.selects "SpinBench$Cycled" ⟨"SpinBench$Op", "cost", "(LSpinBench;)I"⟩ ⟨"SpinBench$Cycled", "cost", "(LSpinBench;)I"⟩ ∈ gw_All := gw_in 675 (by decide +kernel) (by decide +kernel)
theorem wd_676 : Cond.instanceMethod ⟨"SpinBench$Cycled", "cost", "(LSpinBench;)I"⟩ ∈ gw_All := gw_in 676 (by decide +kernel) (by decide +kernel)
set_option maxRecDepth 100000 in
theorem wd_677 : Cond.code ⟨"SpinBench$Cycled", "cost", "(LSpinBench;)I"⟩ prog_2_method_3_code 3 (some .int) ∈ gw_All := gw_in 677 rfl rfl
theorem wd_680 : Cond.instanceMethod ⟨"SpinBench", "leaveBody", "(I)V"⟩ ∈ gw_All := gw_in 680 (by decide +kernel) (by decide +kernel)
set_option maxRecDepth 100000 in
theorem wd_681 : Cond.code ⟨"SpinBench", "leaveBody", "(I)V"⟩ prog_1_method_48_code 2 none ∈ gw_All := gw_in 681 rfl rfl
theorem wd_682 : Cond.methodLink "SpinBench$Cycled" 19 ⟨"SpinBench$Pulse", "cost", "(LSpinBench;)I"⟩ ∈ gw_All := gw_in 682 (by decide +kernel) (by decide +kernel)
theorem wd_683 : Cond.instanceMethod ⟨"SpinBench$Pulse", "cost", "(LSpinBench;)I"⟩ ∈ gw_All := gw_in 683 (by decide +kernel) (by decide +kernel)
set_option maxRecDepth 100000 in
theorem wd_684 : Cond.code ⟨"SpinBench$Pulse", "cost", "(LSpinBench;)I"⟩ prog_8_method_4_code 2 (some .int) ∈ gw_All := gw_in 684 rfl rfl
theorem wd_686 : Cond.methodLink "SpinBench$Pulse" 29 ⟨"SpinBench$Lead", "cost", "(LSpinBench;)I"⟩ ∈ gw_All := gw_in 686 (by decide +kernel) (by decide +kernel)
theorem wd_687 : Cond.instanceMethod ⟨"SpinBench$Lead", "cost", "(LSpinBench;)I"⟩ ∈ gw_All := gw_in 687 (by decide +kernel) (by decide +kernel)
set_option maxRecDepth 100000 in
theorem wd_688 : Cond.code ⟨"SpinBench$Lead", "cost", "(LSpinBench;)I"⟩ prog_5_method_3_code 2 (some .int) ∈ gw_All := gw_in 688 rfl rfl
theorem wd_690 : Cond.methodLink "SpinBench$Lead" 17 ⟨"SpinBench$Op", "cost", "(LSpinBench;)I"⟩ ∈ gw_All := gw_in 690 (by decide +kernel) (by decide +kernel)
theorem wd_691 : Cond.methodLink "SpinBench$Pulse" 33 ⟨"java/lang/Integer", "bitCount", "(I)I"⟩ ∈ gw_All := gw_in 691 (by decide +kernel) (by decide +kernel)
theorem wd_692 : Cond.methodLink "SpinBench$Cycled" 23 ⟨"SpinBench$Cycled", "mark", "(LSpinBench;)I"⟩ ∈ gw_All := gw_in 692 (by decide +kernel) (by decide +kernel)
theorem wd_693 : Cond.instanceMethod ⟨"SpinBench$Cycled", "mark", "(LSpinBench;)I"⟩ ∈ gw_All := gw_in 693 (by decide +kernel) (by decide +kernel)
theorem wd_694 : Cond.selects "SpinBench$Cycled" ⟨"SpinBench$Cycled", "mark", "(LSpinBench;)I"⟩ ⟨"SpinBench$Cycled", "mark", "(LSpinBench;)I"⟩ ∈ gw_All := gw_in 694 (by decide +kernel) (by decide +kernel)
set_option maxRecDepth 100000 in
theorem wd_695 : Cond.code ⟨"SpinBench$Cycled", "mark", "(LSpinBench;)I"⟩ prog_2_method_4_code 2 (some .int) ∈ gw_All := gw_in 695 rfl rfl
theorem wd_696 : Cond.selects "SpinBench$Delay" ⟨"SpinBench$Op", "cost", "(LSpinBench;)I"⟩ ⟨"SpinBench$Lead", "cost", "(LSpinBench;)I"⟩ ∈ gw_All := gw_in 696 (by decide +kernel) (by decide +kernel)
theorem wd_697 : Cond.selects "SpinBench$End" ⟨"SpinBench$Op", "cost", "(LSpinBench;)I"⟩ ⟨"SpinBench$Op", "cost", "(LSpinBench;)I"⟩ ∈ gw_All := gw_in 697 (by decide +kernel) (by decide +kernel)
theorem wd_698 : Cond.selects "SpinBench$Pulse" ⟨"SpinBench$Op", "cost", "(LSpinBench;)I"⟩ ⟨"SpinBench$Pulse", "cost", "(LSpinBench;)I"⟩ ∈ gw_All := gw_in 698 (by decide +kernel) (by decide +kernel)
theorem wd_699 : Cond.selects "SpinBench$Round" ⟨"SpinBench$Op", "cost", "(LSpinBench;)I"⟩ ⟨"SpinBench$Round", "cost", "(LSpinBench;)I"⟩ ∈ gw_All := gw_in 699 (by decide +kernel) (by decide +kernel)
theorem wd_700 : Cond.instanceMethod ⟨"SpinBench$Round", "cost", "(LSpinBench;)I"⟩ ∈ gw_All := gw_in 700 (by decide +kernel) (by decide +kernel)
set_option maxRecDepth 100000 in
theorem wd_701 : Cond.code ⟨"SpinBench$Round", "cost", "(LSpinBench;)I"⟩ prog_9_method_3_code 2 (some .int) ∈ gw_All := gw_in 701 rfl rfl
theorem wd_703 : Cond.selects "SpinBench$Store" ⟨"SpinBench$Op", "cost", "(LSpinBench;)I"⟩ ⟨"SpinBench$Op", "cost", "(LSpinBench;)I"⟩ ∈ gw_All := gw_in 703 (by decide +kernel) (by decide +kernel)
set_option maxRecDepth 100000 in
theorem wd_704 : Cond.code ⟨"SpinBench$Op", "cost", "(LSpinBench;)I"⟩ prog_7_method_5_code 2 (some .int) ∈ gw_All := gw_in 704 rfl rfl
theorem wd_706 : Cond.methodLink "SpinBench" 249 ⟨"SpinBench$Op", "mark", "(LSpinBench;)I"⟩ ∈ gw_All := gw_in 706 (by decide +kernel) (by decide +kernel)
theorem wd_707 : Cond.instanceMethod ⟨"SpinBench$Op", "mark", "(LSpinBench;)I"⟩ ∈ gw_All := gw_in 707 (by decide +kernel) (by decide +kernel)
theorem wd_708 : Cond.sameMethod "SpinBench$Op" "SpinBench$Op" "mark" "(LSpinBench;)I" ∈ gw_All := gw_in 708 (by decide +kernel) (by decide +kernel)
theorem wd_709 : Cond.selects "SpinBench$Cycled" ⟨"SpinBench$Op", "mark", "(LSpinBench;)I"⟩ ⟨"SpinBench$Cycled", "mark", "(LSpinBench;)I"⟩ ∈ gw_All := gw_in 709 (by decide +kernel) (by decide +kernel)
theorem wd_710 : Cond.selects "SpinBench$Delay" ⟨"SpinBench$Op", "mark", "(LSpinBench;)I"⟩ ⟨"SpinBench$Delay", "mark", "(LSpinBench;)I"⟩ ∈ gw_All := gw_in 710 (by decide +kernel) (by decide +kernel)
theorem wd_711 : Cond.instanceMethod ⟨"SpinBench$Delay", "mark", "(LSpinBench;)I"⟩ ∈ gw_All := gw_in 711 (by decide +kernel) (by decide +kernel)
set_option maxRecDepth 100000 in
theorem wd_712 : Cond.code ⟨"SpinBench$Delay", "mark", "(LSpinBench;)I"⟩ prog_3_method_3_code 2 (some .int) ∈ gw_All := gw_in 712 rfl rfl
theorem wd_714 : Cond.methodLink "SpinBench$Delay" 25 ⟨"SpinBench$Lead", "mark", "(LSpinBench;)I"⟩ ∈ gw_All := gw_in 714 (by decide +kernel) (by decide +kernel)
theorem wd_715 : Cond.instanceMethod ⟨"SpinBench$Lead", "mark", "(LSpinBench;)I"⟩ ∈ gw_All := gw_in 715 (by decide +kernel) (by decide +kernel)
set_option maxRecDepth 100000 in
theorem wd_716 : Cond.code ⟨"SpinBench$Lead", "mark", "(LSpinBench;)I"⟩ prog_5_method_4_code 3 (some .int) ∈ gw_All := gw_in 716 rfl rfl
theorem wd_717 : Cond.methodLink "SpinBench$Lead" 21 ⟨"SpinBench$Op", "mark", "(LSpinBench;)I"⟩ ∈ gw_All := gw_in 717 (by decide +kernel) (by decide +kernel)
theorem wd_718 : Cond.methodLink "SpinBench$Lead" 24 ⟨"SpinBench$Lead", "cost", "(LSpinBench;)I"⟩ ∈ gw_All := gw_in 718 (by decide +kernel) (by decide +kernel)
theorem wd_719 : Cond.selects "SpinBench$End" ⟨"SpinBench$Op", "mark", "(LSpinBench;)I"⟩ ⟨"SpinBench$Op", "mark", "(LSpinBench;)I"⟩ ∈ gw_All := gw_in 719 (by decide +kernel) (by decide +kernel)
theorem wd_720 : Cond.selects "SpinBench$Pulse" ⟨"SpinBench$Op", "mark", "(LSpinBench;)I"⟩ ⟨"SpinBench$Lead", "mark", "(LSpinBench;)I"⟩ ∈ gw_All := gw_in 720 (by decide +kernel) (by decide +kernel)
theorem wd_721 : Cond.selects "SpinBench$Round" ⟨"SpinBench$Op", "mark", "(LSpinBench;)I"⟩ ⟨"SpinBench$Op", "mark", "(LSpinBench;)I"⟩ ∈ gw_All := gw_in 721 (by decide +kernel) (by decide +kernel)
theorem wd_722 : Cond.selects "SpinBench$Store" ⟨"SpinBench$Op", "mark", "(LSpinBench;)I"⟩ ⟨"SpinBench$Store", "mark", "(LSpinBench;)I"⟩ ∈ gw_All := gw_in 722 (by decide +kernel) (by decide +kernel)
theorem wd_723 : Cond.instanceMethod ⟨"SpinBench$Store", "mark", "(LSpinBench;)I"⟩ ∈ gw_All := gw_in 723 (by decide +kernel) (by decide +kernel)
set_option maxRecDepth 100000 in
theorem wd_724 : Cond.code ⟨"SpinBench$Store", "mark", "(LSpinBench;)I"⟩ prog_10_method_3_code 2 (some .int) ∈ gw_All := gw_in 724 rfl rfl
theorem wd_726 : Cond.methodLink "SpinBench$Store" 22 ⟨"SpinBench$Op", "mark", "(LSpinBench;)I"⟩ ∈ gw_All := gw_in 726 (by decide +kernel) (by decide +kernel)
set_option maxRecDepth 100000 in
theorem wd_727 : Cond.code ⟨"SpinBench$Op", "mark", "(LSpinBench;)I"⟩ prog_7_method_6_code 2 (some .int) ∈ gw_All := gw_in 727 rfl rfl
theorem wd_728 : Cond.methodLink "SpinBenchLaw" 137 ⟨"SpinBench", "trace", "(I)I"⟩ ∈ gw_All := gw_in 728 (by decide +kernel) (by decide +kernel)
theorem wd_729 : Cond.instanceMethod ⟨"SpinBench", "trace", "(I)I"⟩ ∈ gw_All := gw_in 729 (by decide +kernel) (by decide +kernel)
theorem wd_730 : Cond.selects "SpinBench" ⟨"SpinBench", "trace", "(I)I"⟩ ⟨"SpinBench", "trace", "(I)I"⟩ ∈ gw_All := gw_in 730 (by decide +kernel) (by decide +kernel)
set_option maxRecDepth 100000 in
theorem wd_731 : Cond.code ⟨"SpinBench", "trace", "(I)I"⟩ prog_1_method_29_code 2 (some .int) ∈ gw_All := gw_in 731 rfl rfl
theorem wd_732 : Cond.methodLink "SpinBenchLaw" 141 ⟨"SpinBench", "run", "()I"⟩ ∈ gw_All := gw_in 732 (by decide +kernel) (by decide +kernel)
theorem wd_733 : Cond.instanceMethod ⟨"SpinBench", "run", "()I"⟩ ∈ gw_All := gw_in 733 (by decide +kernel) (by decide +kernel)
theorem wd_734 : Cond.selects "SpinBench" ⟨"SpinBench", "run", "()I"⟩ ⟨"SpinBench", "run", "()I"⟩ ∈ gw_All := gw_in 734 (by decide +kernel) (by decide +kernel)
set_option maxRecDepth 100000 in
theorem wd_735 : Cond.code ⟨"SpinBench", "run", "()I"⟩ prog_1_method_30_code 4 (some .int) ∈ gw_All := gw_in 735 rfl rfl
theorem wd_736 : Cond.methodLink "SpinBench" 252 ⟨"SpinBench", "takeAll", "([LSpinBench$Sum;[LSpinBench$Sum;)V"⟩ ∈ gw_All := gw_in 736 (by decide +kernel) (by decide +kernel)
theorem wd_737 : Cond.static ⟨"SpinBench", "takeAll", "([LSpinBench$Sum;[LSpinBench$Sum;)V"⟩ ∈ gw_All := gw_in 737 (by decide +kernel) (by decide +kernel)
set_option maxRecDepth 100000 in
theorem wd_738 : Cond.code ⟨"SpinBench", "takeAll", "([LSpinBench$Sum;[LSpinBench$Sum;)V"⟩ prog_1_method_47_code 3 none ∈ gw_All := gw_in 738 rfl rfl
theorem wd_739 : Cond.methodLink "SpinBench" 265 ⟨"SpinBench$Op", "perform", "(LSpinBench;)I"⟩ ∈ gw_All := gw_in 739 (by decide +kernel) (by decide +kernel)
theorem wd_741 : Cond.sameMethod "SpinBench$Op" "SpinBench$Op" "perform" "(LSpinBench;)I" ∈ gw_All := gw_in 741 (by decide +kernel) (by decide +kernel)
theorem wd_742 : Cond.selects "SpinBench$Cycled" ⟨"SpinBench$Op", "perform", "(LSpinBench;)I"⟩ ⟨"SpinBench$Cycled", "perform", "(LSpinBench;)I"⟩ ∈ gw_All := gw_in 742 (by decide +kernel) (by decide +kernel)
theorem wd_743 : Cond.instanceMethod ⟨"SpinBench$Cycled", "perform", "(LSpinBench;)I"⟩ ∈ gw_All := gw_in 743 (by decide +kernel) (by decide +kernel)
set_option maxRecDepth 100000 in
theorem wd_744 : Cond.code ⟨"SpinBench$Cycled", "perform", "(LSpinBench;)I"⟩ prog_2_method_5_code 4 (some .int) ∈ gw_All := gw_in 744 rfl rfl
theorem wd_747 : Cond.methodLink "SpinBench$Cycled" 56 ⟨"SpinBench$Cycled", "turnSpins", "(LSpinBench;I)I"⟩ ∈ gw_All := gw_in 747 (by decide +kernel) (by decide +kernel)
theorem wd_748 : Cond.sameMethod "SpinBench$Cycled" "SpinBench$Pulse" "turnSpins" "(LSpinBench;I)I" ∈ gw_All := gw_in 748 (by decide +kernel) (by decide +kernel)
theorem wd_750 : Cond.selects "SpinBench$Cycled" ⟨"SpinBench$Cycled", "turnSpins", "(LSpinBench;I)I"⟩ ⟨"SpinBench$Pulse", "turnSpins", "(LSpinBench;I)I"⟩ ∈ gw_All := gw_in 750 (by decide +kernel) (by decide +kernel)
theorem wd_751 : Cond.instanceMethod ⟨"SpinBench$Pulse", "turnSpins", "(LSpinBench;I)I"⟩ ∈ gw_All := gw_in 751 (by decide +kernel) (by decide +kernel)
set_option maxRecDepth 100000 in
theorem wd_752 : Cond.code ⟨"SpinBench$Pulse", "turnSpins", "(LSpinBench;I)I"⟩ prog_8_method_6_code 6 (some .int) ∈ gw_All := gw_in 752 rfl rfl
theorem wd_754 : Cond.constant "SpinBench$Pulse" 47 (-1000003) ∈ gw_All := gw_in 754 (by decide +kernel) (by decide +kernel)
theorem wd_755 : Cond.selects "SpinBench$Delay" ⟨"SpinBench$Op", "perform", "(LSpinBench;)I"⟩ ⟨"SpinBench$Delay", "perform", "(LSpinBench;)I"⟩ ∈ gw_All := gw_in 755 (by decide +kernel) (by decide +kernel)
theorem wd_756 : Cond.instanceMethod ⟨"SpinBench$Delay", "perform", "(LSpinBench;)I"⟩ ∈ gw_All := gw_in 756 (by decide +kernel) (by decide +kernel)
set_option maxRecDepth 100000 in
theorem wd_757 : Cond.code ⟨"SpinBench$Delay", "perform", "(LSpinBench;)I"⟩ prog_3_method_4_code 2 (some .int) ∈ gw_All := gw_in 757 rfl rfl
theorem wd_759 : Cond.constant "SpinBench$Delay" 33 (-1000003) ∈ gw_All := gw_in 759 (by decide +kernel) (by decide +kernel)
theorem wd_760 : Cond.selects "SpinBench$End" ⟨"SpinBench$Op", "perform", "(LSpinBench;)I"⟩ ⟨"SpinBench$End", "perform", "(LSpinBench;)I"⟩ ∈ gw_All := gw_in 760 (by decide +kernel) (by decide +kernel)
theorem wd_761 : Cond.instanceMethod ⟨"SpinBench$End", "perform", "(LSpinBench;)I"⟩ ∈ gw_All := gw_in 761 (by decide +kernel) (by decide +kernel)
set_option maxRecDepth 100000 in
theorem wd_762 : Cond.code ⟨"SpinBench$End", "perform", "(LSpinBench;)I"⟩ prog_4_method_3_code 2 (some .int) ∈ gw_All := gw_in 762 rfl rfl
theorem wd_763 : Cond.selects "SpinBench$Pulse" ⟨"SpinBench$Op", "perform", "(LSpinBench;)I"⟩ ⟨"SpinBench$Pulse", "perform", "(LSpinBench;)I"⟩ ∈ gw_All := gw_in 763 (by decide +kernel) (by decide +kernel)
theorem wd_764 : Cond.instanceMethod ⟨"SpinBench$Pulse", "perform", "(LSpinBench;)I"⟩ ∈ gw_All := gw_in 764 (by decide +kernel) (by decide +kernel)
set_option maxRecDepth 100000 in
theorem wd_765 : Cond.code ⟨"SpinBench$Pulse", "perform", "(LSpinBench;)I"⟩ prog_8_method_5_code 2 (some .int) ∈ gw_All := gw_in 765 rfl rfl
theorem wd_766 : Cond.methodLink "SpinBench$Pulse" 39 ⟨"SpinBench$Pulse", "turnSpins", "(LSpinBench;I)I"⟩ ∈ gw_All := gw_in 766 (by decide +kernel) (by decide +kernel)
theorem wd_767 : Cond.selects "SpinBench$Round" ⟨"SpinBench$Op", "perform", "(LSpinBench;)I"⟩ ⟨"SpinBench$Round", "perform", "(LSpinBench;)I"⟩ ∈ gw_All := gw_in 767 (by decide +kernel) (by decide +kernel)
theorem wd_768 : Cond.instanceMethod ⟨"SpinBench$Round", "perform", "(LSpinBench;)I"⟩ ∈ gw_All := gw_in 768 (by decide +kernel) (by decide +kernel)
set_option maxRecDepth 100000 in
theorem wd_769 : Cond.code ⟨"SpinBench$Round", "perform", "(LSpinBench;)I"⟩ prog_9_method_4_code 2 (some .int) ∈ gw_All := gw_in 769 rfl rfl
theorem wd_770 : Cond.selects "SpinBench$Store" ⟨"SpinBench$Op", "perform", "(LSpinBench;)I"⟩ ⟨"SpinBench$Store", "perform", "(LSpinBench;)I"⟩ ∈ gw_All := gw_in 770 (by decide +kernel) (by decide +kernel)
theorem wd_771 : Cond.instanceMethod ⟨"SpinBench$Store", "perform", "(LSpinBench;)I"⟩ ∈ gw_All := gw_in 771 (by decide +kernel) (by decide +kernel)
set_option maxRecDepth 100000 in
theorem wd_772 : Cond.code ⟨"SpinBench$Store", "perform", "(LSpinBench;)I"⟩ prog_10_method_4_code 3 (some .int) ∈ gw_All := gw_in 772 rfl rfl
theorem wd_775 : Cond.constant "SpinBench$Store" 44 (-1000003) ∈ gw_All := gw_in 775 (by decide +kernel) (by decide +kernel)
theorem wd_776 : Cond.methodLink "SpinBenchLaw" 145 ⟨"SpinBench", "told", "(I)I"⟩ ∈ gw_All := gw_in 776 (by decide +kernel) (by decide +kernel)
theorem wd_777 : Cond.instanceMethod ⟨"SpinBench", "told", "(I)I"⟩ ∈ gw_All := gw_in 777 (by decide +kernel) (by decide +kernel)
theorem wd_778 : Cond.selects "SpinBench" ⟨"SpinBench", "told", "(I)I"⟩ ⟨"SpinBench", "told", "(I)I"⟩ ∈ gw_All := gw_in 778 (by decide +kernel) (by decide +kernel)
set_option maxRecDepth 100000 in
theorem wd_779 : Cond.code ⟨"SpinBench", "told", "(I)I"⟩ prog_1_method_31_code 2 (some .int) ∈ gw_All := gw_in 779 rfl rfl
theorem wd_780 : Cond.methodLink "SpinBenchLaw" 149 ⟨"SpinBench", "count", "(I)I"⟩ ∈ gw_All := gw_in 780 (by decide +kernel) (by decide +kernel)
theorem wd_781 : Cond.instanceMethod ⟨"SpinBench", "count", "(I)I"⟩ ∈ gw_All := gw_in 781 (by decide +kernel) (by decide +kernel)
theorem wd_782 : Cond.selects "SpinBench" ⟨"SpinBench", "count", "(I)I"⟩ ⟨"SpinBench", "count", "(I)I"⟩ ∈ gw_All := gw_in 782 (by decide +kernel) (by decide +kernel)
set_option maxRecDepth 100000 in
theorem wd_783 : Cond.code ⟨"SpinBench", "count", "(I)I"⟩ prog_1_method_32_code 2 (some .int) ∈ gw_All := gw_in 783 rfl rfl
theorem wd_784 : Cond.methodLink "SpinBench" 268 ⟨"SpinBench", "presentTables", "()I"⟩ ∈ gw_All := gw_in 784 (by decide +kernel) (by decide +kernel)
theorem wd_786 : Cond.instanceMethod ⟨"SpinBench", "presentTables", "()I"⟩ ∈ gw_All := gw_in 786 (by decide +kernel) (by decide +kernel)
set_option maxRecDepth 100000 in
theorem wd_787 : Cond.code ⟨"SpinBench", "presentTables", "()I"⟩ prog_1_method_44_code 3 (some .int) ∈ gw_All := gw_in 787 rfl rfl
theorem wd_788 : Cond.methodLink "SpinBench" 271 ⟨"SpinBench", "allTerms", "()I"⟩ ∈ gw_All := gw_in 788 (by decide +kernel) (by decide +kernel)
theorem wd_790 : Cond.instanceMethod ⟨"SpinBench", "allTerms", "()I"⟩ ∈ gw_All := gw_in 790 (by decide +kernel) (by decide +kernel)
set_option maxRecDepth 100000 in
theorem wd_791 : Cond.code ⟨"SpinBench", "allTerms", "()I"⟩ prog_1_method_46_code 3 (some .int) ∈ gw_All := gw_in 791 rfl rfl
theorem wd_792 : Cond.methodLink "SpinBenchLaw" 153 ⟨"SpinBench", "status", "()I"⟩ ∈ gw_All := gw_in 792 (by decide +kernel) (by decide +kernel)
theorem wd_793 : Cond.instanceMethod ⟨"SpinBench", "status", "()I"⟩ ∈ gw_All := gw_in 793 (by decide +kernel) (by decide +kernel)
theorem wd_794 : Cond.selects "SpinBench" ⟨"SpinBench", "status", "()I"⟩ ⟨"SpinBench", "status", "()I"⟩ ∈ gw_All := gw_in 794 (by decide +kernel) (by decide +kernel)
set_option maxRecDepth 100000 in
theorem wd_795 : Cond.code ⟨"SpinBench", "status", "()I"⟩ prog_1_method_33_code 1 (some .int) ∈ gw_All := gw_in 795 rfl rfl
theorem wd_796 : Cond.methodLink "SpinBenchLaw" 9 ⟨"SpinBenchLaw", "cell", "([II)I"⟩ ∈ gw_All := gw_in 796 (by decide +kernel) (by decide +kernel)
theorem wd_797 : Cond.static ⟨"SpinBenchLaw", "cell", "([II)I"⟩ ∈ gw_All := gw_in 797 (by decide +kernel) (by decide +kernel)
set_option maxRecDepth 100000 in
theorem wd_798 : Cond.code ⟨"SpinBenchLaw", "cell", "([II)I"⟩ method_2_code 2 (some .int) ∈ gw_All := gw_in 798 rfl rfl
theorem wd_799 : Cond.classLink "SpinBenchLaw" 18 "SpinBenchModel" ∈ gw_All := gw_in 799 (by decide +kernel) (by decide +kernel)
theorem wd_800 : Cond.instantiable "SpinBenchModel" 28 ∈ gw_All := gw_in 800 (by decide +kernel) (by decide +kernel)
theorem wd_801 : Cond.methodLink "SpinBenchLaw" 20 ⟨"SpinBenchModel", "<init>", "(I)V"⟩ ∈ gw_All := gw_in 801 (by decide +kernel) (by decide +kernel)
theorem wd_802 : Cond.instanceMethod ⟨"SpinBenchModel", "<init>", "(I)V"⟩ ∈ gw_All := gw_in 802 (by decide +kernel) (by decide +kernel)
set_option maxRecDepth 100000 in
theorem wd_803 : Cond.code ⟨"SpinBenchModel", "<init>", "(I)V"⟩ prog_14_method_1_code 2 none ∈ gw_All := gw_in 803 rfl rfl
theorem wd_804 : Cond.methodLink "SpinBenchModel" 1 ⟨"java/lang/Object", "<init>", "()V"⟩ ∈ gw_All := gw_in 804 (by decide +kernel) (by decide +kernel)
theorem wd_805 : Cond.constant "SpinBenchModel" 56 (-1000000) ∈ gw_All := gw_in 805 (by decide +kernel) (by decide +kernel)
theorem wd_806 : Cond.fieldLink "SpinBenchModel" 67 "SpinBenchModel" "spins" "I" ∈ gw_All := gw_in 806 (by decide +kernel) (by decide +kernel)
theorem wd_807 : Cond.fieldLink "SpinBenchModel" 70 "SpinBenchModel" "products" "I" ∈ gw_All := gw_in 807 (by decide +kernel) (by decide +kernel)
theorem wd_808 : Cond.fieldLink "SpinBenchModel" 7 "SpinBenchModel" "lane" "[I" ∈ gw_All := gw_in 808 (by decide +kernel) (by decide +kernel)
theorem wd_809 : Cond.fieldLink "SpinBenchModel" 13 "SpinBenchModel" "size" "[I" ∈ gw_All := gw_in 809 (by decide +kernel) (by decide +kernel)
theorem wd_810 : Cond.fieldLink "SpinBenchModel" 16 "SpinBenchModel" "item" "[I" ∈ gw_All := gw_in 810 (by decide +kernel) (by decide +kernel)
theorem wd_811 : Cond.fieldLink "SpinBenchModel" 19 "SpinBenchModel" "moving" "[I" ∈ gw_All := gw_in 811 (by decide +kernel) (by decide +kernel)
theorem wd_812 : Cond.fieldLink "SpinBenchModel" 22 "SpinBenchModel" "many" "[I" ∈ gw_All := gw_in 812 (by decide +kernel) (by decide +kernel)
theorem wd_813 : Cond.fieldLink "SpinBenchModel" 25 "SpinBenchModel" "key" "[I" ∈ gw_All := gw_in 813 (by decide +kernel) (by decide +kernel)
theorem wd_814 : Cond.fieldLink "SpinBenchModel" 28 "SpinBenchModel" "number" "[J" ∈ gw_All := gw_in 814 (by decide +kernel) (by decide +kernel)
theorem wd_815 : Cond.fieldLink "SpinBenchModel" 97 "SpinBenchModel" "made" "I" ∈ gw_All := gw_in 815 (by decide +kernel) (by decide +kernel)
theorem wd_816 : Cond.fieldLink "SpinBenchModel" 32 "SpinBenchModel" "madeKey" "[I" ∈ gw_All := gw_in 816 (by decide +kernel) (by decide +kernel)
theorem wd_817 : Cond.fieldLink "SpinBenchModel" 35 "SpinBenchModel" "madeNumber" "[J" ∈ gw_All := gw_in 817 (by decide +kernel) (by decide +kernel)
theorem wd_818 : Cond.fieldLink "SpinBenchModel" 193 "SpinBenchModel" "ops" "I" ∈ gw_All := gw_in 818 (by decide +kernel) (by decide +kernel)
theorem wd_819 : Cond.fieldLink "SpinBenchModel" 38 "SpinBenchModel" "kind" "[I" ∈ gw_All := gw_in 819 (by decide +kernel) (by decide +kernel)
theorem wd_820 : Cond.fieldLink "SpinBenchModel" 41 "SpinBenchModel" "set" "[I" ∈ gw_All := gw_in 820 (by decide +kernel) (by decide +kernel)
theorem wd_821 : Cond.fieldLink "SpinBenchModel" 44 "SpinBenchModel" "phase" "[I" ∈ gw_All := gw_in 821 (by decide +kernel) (by decide +kernel)
theorem wd_822 : Cond.fieldLink "SpinBenchModel" 47 "SpinBenchModel" "turns" "[I" ∈ gw_All := gw_in 822 (by decide +kernel) (by decide +kernel)
theorem wd_823 : Cond.fieldLink "SpinBenchModel" 50 "SpinBenchModel" "table" "[I" ∈ gw_All := gw_in 823 (by decide +kernel) (by decide +kernel)
theorem wd_824 : Cond.fieldLink "SpinBenchModel" 205 "SpinBenchModel" "notEnded" "I" ∈ gw_All := gw_in 824 (by decide +kernel) (by decide +kernel)
theorem wd_825 : Cond.fieldLink "SpinBenchModel" 73 "SpinBenchModel" "status" "I" ∈ gw_All := gw_in 825 (by decide +kernel) (by decide +kernel)
theorem wd_826 : Cond.fieldLink "SpinBenchModel" 53 "SpinBenchModel" "trace" "[I" ∈ gw_All := gw_in 826 (by decide +kernel) (by decide +kernel)
theorem wd_827 : Cond.fieldLink "SpinBenchModel" 212 "SpinBenchModel" "traced" "I" ∈ gw_All := gw_in 827 (by decide +kernel) (by decide +kernel)
theorem wd_828 : Cond.fieldLink "SpinBenchModel" 234 "SpinBenchModel" "steps" "I" ∈ gw_All := gw_in 828 (by decide +kernel) (by decide +kernel)
theorem wd_829 : Cond.fieldLink "SpinBenchModel" 57 "SpinBenchModel" "latest" "I" ∈ gw_All := gw_in 829 (by decide +kernel) (by decide +kernel)
theorem wd_830 : Cond.fieldLink "SpinBenchModel" 145 "SpinBenchModel" "sign" "I" ∈ gw_All := gw_in 830 (by decide +kernel) (by decide +kernel)
theorem wd_831 : Cond.fieldLink "SpinBenchModel" 231 "SpinBenchModel" "rounds" "I" ∈ gw_All := gw_in 831 (by decide +kernel) (by decide +kernel)
theorem wd_832 : Cond.fieldLink "SpinBenchModel" 61 "SpinBenchModel" "roundAt" "[I" ∈ gw_All := gw_in 832 (by decide +kernel) (by decide +kernel)
theorem wd_833 : Cond.fieldLink "SpinBenchModel" 64 "SpinBenchModel" "roundDone" "[I" ∈ gw_All := gw_in 833 (by decide +kernel) (by decide +kernel)
theorem wd_890 : Cond.superclass "SpinBenchModel" "java/lang/Object" ∈ gw_All := gw_in 890 (by decide +kernel) (by decide +kernel)
theorem wd_891 : Cond.methodLink "SpinBenchLaw" 25 ⟨"SpinBenchModel", "table", "(III)I"⟩ ∈ gw_All := gw_in 891 (by decide +kernel) (by decide +kernel)
theorem wd_892 : Cond.instanceMethod ⟨"SpinBenchModel", "table", "(III)I"⟩ ∈ gw_All := gw_in 892 (by decide +kernel) (by decide +kernel)
theorem wd_893 : Cond.selects "SpinBenchModel" ⟨"SpinBenchModel", "table", "(III)I"⟩ ⟨"SpinBenchModel", "table", "(III)I"⟩ ∈ gw_All := gw_in 893 (by decide +kernel) (by decide +kernel)
set_option maxRecDepth 100000 in
theorem wd_894 : Cond.code ⟨"SpinBenchModel", "table", "(III)I"⟩ prog_14_method_6_code 5 (some .int) ∈ gw_All := gw_in 894 rfl rfl
theorem wd_895 : Cond.methodLink "SpinBenchModel" 83 ⟨"SpinBenchModel", "isTable", "(I)Z"⟩ ∈ gw_All := gw_in 895 (by decide +kernel) (by decide +kernel)
theorem wd_896 : Cond.static ⟨"SpinBenchModel", "isTable", "(I)Z"⟩ ∈ gw_All := gw_in 896 (by decide +kernel) (by decide +kernel)
set_option maxRecDepth 100000 in
theorem wd_897 : Cond.code ⟨"SpinBenchModel", "isTable", "(I)Z"⟩ prog_14_method_5_code 1 (some .boolean) ∈ gw_All := gw_in 897 rfl rfl
theorem wd_898 : Cond.constantLong "SpinBenchModel" 77 7 ∈ gw_All := gw_in 898 (by decide +kernel) (by decide +kernel)
theorem wd_899 : Cond.methodLink "SpinBenchModel" 79 ⟨"SpinBenchModel", "in", "(JJJ)Z"⟩ ∈ gw_All := gw_in 899 (by decide +kernel) (by decide +kernel)
theorem wd_900 : Cond.static ⟨"SpinBenchModel", "in", "(JJJ)Z"⟩ ∈ gw_All := gw_in 900 (by decide +kernel) (by decide +kernel)
set_option maxRecDepth 100000 in
theorem wd_901 : Cond.code ⟨"SpinBenchModel", "in", "(JJJ)Z"⟩ prog_14_method_2_code 6 (some .boolean) ∈ gw_All := gw_in 901 rfl rfl
theorem wd_902 : Cond.constantLong "SpinBenchModel" 87 2 ∈ gw_All := gw_in 902 (by decide +kernel) (by decide +kernel)
theorem wd_903 : Cond.constant "SpinBenchModel" 89 (-1000001) ∈ gw_All := gw_in 903 (by decide +kernel) (by decide +kernel)
theorem wd_904 : Cond.methodLink "SpinBenchModel" 90 ⟨"SpinBenchModel", "finds", "(I)I"⟩ ∈ gw_All := gw_in 904 (by decide +kernel) (by decide +kernel)
theorem wd_906 : Cond.instanceMethod ⟨"SpinBenchModel", "finds", "(I)I"⟩ ∈ gw_All := gw_in 906 (by decide +kernel) (by decide +kernel)
set_option maxRecDepth 100000 in
theorem wd_907 : Cond.code ⟨"SpinBenchModel", "finds", "(I)I"⟩ prog_14_method_3_code 2 (some .int) ∈ gw_All := gw_in 907 rfl rfl
theorem wd_908 : Cond.constant "SpinBenchModel" 76 (-1000010) ∈ gw_All := gw_in 908 (by decide +kernel) (by decide +kernel)
theorem wd_909 : Cond.methodLink "SpinBenchModel" 94 ⟨"SpinBenchModel", "well", "(I)I"⟩ ∈ gw_All := gw_in 909 (by decide +kernel) (by decide +kernel)
theorem wd_911 : Cond.instanceMethod ⟨"SpinBenchModel", "well", "(I)I"⟩ ∈ gw_All := gw_in 911 (by decide +kernel) (by decide +kernel)
set_option maxRecDepth 100000 in
theorem wd_912 : Cond.code ⟨"SpinBenchModel", "well", "(I)I"⟩ prog_14_method_4_code 2 (some .int) ∈ gw_All := gw_in 912 rfl rfl
theorem wd_913 : Cond.methodLink "SpinBenchLaw" 29 ⟨"SpinBenchModel", "set", "(III)I"⟩ ∈ gw_All := gw_in 913 (by decide +kernel) (by decide +kernel)
theorem wd_914 : Cond.instanceMethod ⟨"SpinBenchModel", "set", "(III)I"⟩ ∈ gw_All := gw_in 914 (by decide +kernel) (by decide +kernel)
theorem wd_915 : Cond.selects "SpinBenchModel" ⟨"SpinBenchModel", "set", "(III)I"⟩ ⟨"SpinBenchModel", "set", "(III)I"⟩ ∈ gw_All := gw_in 915 (by decide +kernel) (by decide +kernel)
set_option maxRecDepth 100000 in
theorem wd_916 : Cond.code ⟨"SpinBenchModel", "set", "(III)I"⟩ prog_14_method_7_code 5 (some .int) ∈ gw_All := gw_in 916 rfl rfl
theorem wd_917 : Cond.methodLink "SpinBenchLaw" 34 ⟨"SpinBenchModel", "copy", "(IIIII)I"⟩ ∈ gw_All := gw_in 917 (by decide +kernel) (by decide +kernel)
theorem wd_918 : Cond.instanceMethod ⟨"SpinBenchModel", "copy", "(IIIII)I"⟩ ∈ gw_All := gw_in 918 (by decide +kernel) (by decide +kernel)
theorem wd_919 : Cond.selects "SpinBenchModel" ⟨"SpinBenchModel", "copy", "(IIIII)I"⟩ ⟨"SpinBenchModel", "copy", "(IIIII)I"⟩ ∈ gw_All := gw_in 919 (by decide +kernel) (by decide +kernel)
set_option maxRecDepth 100000 in
theorem wd_920 : Cond.code ⟨"SpinBenchModel", "copy", "(IIIII)I"⟩ prog_14_method_8_code 7 (some .int) ∈ gw_All := gw_in 920 rfl rfl
theorem wd_921 : Cond.methodLink "SpinBenchLaw" 39 ⟨"SpinBenchModel", "drop", "(I)I"⟩ ∈ gw_All := gw_in 921 (by decide +kernel) (by decide +kernel)
theorem wd_922 : Cond.instanceMethod ⟨"SpinBenchModel", "drop", "(I)I"⟩ ∈ gw_All := gw_in 922 (by decide +kernel) (by decide +kernel)
theorem wd_923 : Cond.selects "SpinBenchModel" ⟨"SpinBenchModel", "drop", "(I)I"⟩ ⟨"SpinBenchModel", "drop", "(I)I"⟩ ∈ gw_All := gw_in 923 (by decide +kernel) (by decide +kernel)
set_option maxRecDepth 100000 in
theorem wd_924 : Cond.code ⟨"SpinBenchModel", "drop", "(I)I"⟩ prog_14_method_9_code 2 (some .int) ∈ gw_All := gw_in 924 rfl rfl
theorem wd_925 : Cond.methodLink "SpinBenchLaw" 43 ⟨"SpinBenchModel", "clear", "(I)I"⟩ ∈ gw_All := gw_in 925 (by decide +kernel) (by decide +kernel)
theorem wd_926 : Cond.instanceMethod ⟨"SpinBenchModel", "clear", "(I)I"⟩ ∈ gw_All := gw_in 926 (by decide +kernel) (by decide +kernel)
theorem wd_927 : Cond.selects "SpinBenchModel" ⟨"SpinBenchModel", "clear", "(I)I"⟩ ⟨"SpinBenchModel", "clear", "(I)I"⟩ ∈ gw_All := gw_in 927 (by decide +kernel) (by decide +kernel)
set_option maxRecDepth 100000 in
theorem wd_928 : Cond.code ⟨"SpinBenchModel", "clear", "(I)I"⟩ prog_14_method_23_code 3 (some .int) ∈ gw_All := gw_in 928 rfl rfl
theorem wd_929 : Cond.methodLink "SpinBenchModel" 118 ⟨"SpinBenchModel", "isShelf", "(I)Z"⟩ ∈ gw_All := gw_in 929 (by decide +kernel) (by decide +kernel)
theorem wd_930 : Cond.static ⟨"SpinBenchModel", "isShelf", "(I)Z"⟩ ∈ gw_All := gw_in 930 (by decide +kernel) (by decide +kernel)
set_option maxRecDepth 100000 in
theorem wd_931 : Cond.code ⟨"SpinBenchModel", "isShelf", "(I)Z"⟩ prog_14_method_17_code 1 (some .boolean) ∈ gw_All := gw_in 931 rfl rfl
theorem wd_932 : Cond.constantLong "SpinBenchModel" 100 (-1) ∈ gw_All := gw_in 932 (by decide +kernel) (by decide +kernel)
theorem wd_933 : Cond.methodLink "SpinBenchModel" 121 ⟨"SpinBenchModel", "placeOf", "(I)I"⟩ ∈ gw_All := gw_in 933 (by decide +kernel) (by decide +kernel)
theorem wd_934 : Cond.static ⟨"SpinBenchModel", "placeOf", "(I)I"⟩ ∈ gw_All := gw_in 934 (by decide +kernel) (by decide +kernel)
set_option maxRecDepth 100000 in
theorem wd_935 : Cond.code ⟨"SpinBenchModel", "placeOf", "(I)I"⟩ prog_14_method_16_code 1 (some .int) ∈ gw_All := gw_in 935 rfl rfl
theorem wd_936 : Cond.methodLink "SpinBenchLaw" 47 ⟨"SpinBenchModel", "add", "(III)I"⟩ ∈ gw_All := gw_in 936 (by decide +kernel) (by decide +kernel)
theorem wd_937 : Cond.instanceMethod ⟨"SpinBenchModel", "add", "(III)I"⟩ ∈ gw_All := gw_in 937 (by decide +kernel) (by decide +kernel)
theorem wd_938 : Cond.selects "SpinBenchModel" ⟨"SpinBenchModel", "add", "(III)I"⟩ ⟨"SpinBenchModel", "add", "(III)I"⟩ ∈ gw_All := gw_in 938 (by decide +kernel) (by decide +kernel)
set_option maxRecDepth 100000 in
theorem wd_939 : Cond.code ⟨"SpinBenchModel", "add", "(III)I"⟩ prog_14_method_24_code 4 (some .int) ∈ gw_All := gw_in 939 rfl rfl
theorem wd_940 : Cond.methodLink "SpinBenchModel" 124 ⟨"SpinBenchModel", "isProduct", "(I)Z"⟩ ∈ gw_All := gw_in 940 (by decide +kernel) (by decide +kernel)
theorem wd_942 : Cond.instanceMethod ⟨"SpinBenchModel", "isProduct", "(I)Z"⟩ ∈ gw_All := gw_in 942 (by decide +kernel) (by decide +kernel)
set_option maxRecDepth 100000 in
theorem wd_943 : Cond.code ⟨"SpinBenchModel", "isProduct", "(I)Z"⟩ prog_14_method_18_code 2 (some .boolean) ∈ gw_All := gw_in 943 rfl rfl
theorem wd_944 : Cond.methodLink "SpinBenchModel" 127 ⟨"SpinBenchModel", "putAll", "(IJ)V"⟩ ∈ gw_All := gw_in 944 (by decide +kernel) (by decide +kernel)
theorem wd_946 : Cond.instanceMethod ⟨"SpinBenchModel", "putAll", "(IJ)V"⟩ ∈ gw_All := gw_in 946 (by decide +kernel) (by decide +kernel)
set_option maxRecDepth 100000 in
theorem wd_947 : Cond.code ⟨"SpinBenchModel", "putAll", "(IJ)V"⟩ prog_14_method_20_code 5 none ∈ gw_All := gw_in 947 rfl rfl
theorem wd_948 : Cond.methodLink "SpinBenchModel" 110 ⟨"SpinBenchModel", "put", "(IJ)V"⟩ ∈ gw_All := gw_in 948 (by decide +kernel) (by decide +kernel)
theorem wd_950 : Cond.instanceMethod ⟨"SpinBenchModel", "put", "(IJ)V"⟩ ∈ gw_All := gw_in 950 (by decide +kernel) (by decide +kernel)
set_option maxRecDepth 100000 in
theorem wd_951 : Cond.code ⟨"SpinBenchModel", "put", "(IJ)V"⟩ prog_14_method_15_code 7 none ∈ gw_All := gw_in 951 rfl rfl
theorem wd_952 : Cond.methodLink "SpinBenchModel" 130 ⟨"SpinBenchModel", "kept", "(I)I"⟩ ∈ gw_All := gw_in 952 (by decide +kernel) (by decide +kernel)
theorem wd_954 : Cond.instanceMethod ⟨"SpinBenchModel", "kept", "(I)I"⟩ ∈ gw_All := gw_in 954 (by decide +kernel) (by decide +kernel)
set_option maxRecDepth 100000 in
theorem wd_955 : Cond.code ⟨"SpinBenchModel", "kept", "(I)I"⟩ prog_14_method_22_code 2 (some .int) ∈ gw_All := gw_in 955 rfl rfl
theorem wd_956 : Cond.methodLink "SpinBenchModel" 114 ⟨"SpinBenchModel", "keep", "(I)Z"⟩ ∈ gw_All := gw_in 956 (by decide +kernel) (by decide +kernel)
theorem wd_958 : Cond.instanceMethod ⟨"SpinBenchModel", "keep", "(I)Z"⟩ ∈ gw_All := gw_in 958 (by decide +kernel) (by decide +kernel)
set_option maxRecDepth 100000 in
theorem wd_959 : Cond.code ⟨"SpinBenchModel", "keep", "(I)Z"⟩ prog_14_method_19_code 6 (some .boolean) ∈ gw_All := gw_in 959 rfl rfl
theorem wd_960 : Cond.constantLong "SpinBenchModel" 102 (-1000000000000) ∈ gw_All := gw_in 960 (by decide +kernel) (by decide +kernel)
theorem wd_961 : Cond.constantLong "SpinBenchModel" 104 1000000000000 ∈ gw_All := gw_in 961 (by decide +kernel) (by decide +kernel)
theorem wd_962 : Cond.methodLink "SpinBenchModel" 106 ⟨"SpinBenchModel", "cosine", "(II)I"⟩ ∈ gw_All := gw_in 962 (by decide +kernel) (by decide +kernel)
theorem wd_963 : Cond.static ⟨"SpinBenchModel", "cosine", "(II)I"⟩ ∈ gw_All := gw_in 963 (by decide +kernel) (by decide +kernel)
set_option maxRecDepth 100000 in
theorem wd_964 : Cond.code ⟨"SpinBenchModel", "cosine", "(II)I"⟩ prog_14_method_10_code 2 (some .int) ∈ gw_All := gw_in 964 rfl rfl
theorem wd_965 : Cond.constant "SpinBenchModel" 117 (-1000003) ∈ gw_All := gw_in 965 (by decide +kernel) (by decide +kernel)
theorem wd_966 : Cond.methodLink "SpinBenchLaw" 52 ⟨"SpinBenchModel", "take", "(II)I"⟩ ∈ gw_All := gw_in 966 (by decide +kernel) (by decide +kernel)
theorem wd_967 : Cond.instanceMethod ⟨"SpinBenchModel", "take", "(II)I"⟩ ∈ gw_All := gw_in 967 (by decide +kernel) (by decide +kernel)
theorem wd_968 : Cond.selects "SpinBenchModel" ⟨"SpinBenchModel", "take", "(II)I"⟩ ⟨"SpinBenchModel", "take", "(II)I"⟩ ∈ gw_All := gw_in 968 (by decide +kernel) (by decide +kernel)
set_option maxRecDepth 100000 in
theorem wd_969 : Cond.code ⟨"SpinBenchModel", "take", "(II)I"⟩ prog_14_method_25_code 3 (some .int) ∈ gw_All := gw_in 969 rfl rfl
theorem wd_970 : Cond.methodLink "SpinBenchModel" 133 ⟨"SpinBenchModel", "copySum", "(II)V"⟩ ∈ gw_All := gw_in 970 (by decide +kernel) (by decide +kernel)
theorem wd_972 : Cond.instanceMethod ⟨"SpinBenchModel", "copySum", "(II)V"⟩ ∈ gw_All := gw_in 972 (by decide +kernel) (by decide +kernel)
set_option maxRecDepth 100000 in
theorem wd_973 : Cond.code ⟨"SpinBenchModel", "copySum", "(II)V"⟩ prog_14_method_21_code 4 none ∈ gw_All := gw_in 973 rfl rfl
theorem wd_974 : Cond.methodLink "SpinBenchLaw" 56 ⟨"SpinBenchModel", "join", "(III)I"⟩ ∈ gw_All := gw_in 974 (by decide +kernel) (by decide +kernel)
theorem wd_975 : Cond.instanceMethod ⟨"SpinBenchModel", "join", "(III)I"⟩ ∈ gw_All := gw_in 975 (by decide +kernel) (by decide +kernel)
theorem wd_976 : Cond.selects "SpinBenchModel" ⟨"SpinBenchModel", "join", "(III)I"⟩ ⟨"SpinBenchModel", "join", "(III)I"⟩ ∈ gw_All := gw_in 976 (by decide +kernel) (by decide +kernel)
set_option maxRecDepth 100000 in
theorem wd_977 : Cond.code ⟨"SpinBenchModel", "join", "(III)I"⟩ prog_14_method_26_code 4 (some .int) ∈ gw_All := gw_in 977 rfl rfl
theorem wd_978 : Cond.constantLong "SpinBenchModel" 137 (-3) ∈ gw_All := gw_in 978 (by decide +kernel) (by decide +kernel)
theorem wd_979 : Cond.constantLong "SpinBenchModel" 139 3 ∈ gw_All := gw_in 979 (by decide +kernel) (by decide +kernel)
theorem wd_980 : Cond.methodLink "SpinBenchModel" 141 ⟨"SpinBenchModel", "joined", "(III)Z"⟩ ∈ gw_All := gw_in 980 (by decide +kernel) (by decide +kernel)
theorem wd_982 : Cond.instanceMethod ⟨"SpinBenchModel", "joined", "(III)Z"⟩ ∈ gw_All := gw_in 982 (by decide +kernel) (by decide +kernel)
set_option maxRecDepth 100000 in
theorem wd_983 : Cond.code ⟨"SpinBenchModel", "joined", "(III)Z"⟩ prog_14_method_27_code 4 (some .boolean) ∈ gw_All := gw_in 983 rfl rfl
theorem wd_984 : Cond.methodLink "SpinBenchLaw" 60 ⟨"SpinBenchModel", "quarter", "(II)I"⟩ ∈ gw_All := gw_in 984 (by decide +kernel) (by decide +kernel)
theorem wd_985 : Cond.instanceMethod ⟨"SpinBenchModel", "quarter", "(II)I"⟩ ∈ gw_All := gw_in 985 (by decide +kernel) (by decide +kernel)
theorem wd_986 : Cond.selects "SpinBenchModel" ⟨"SpinBenchModel", "quarter", "(II)I"⟩ ⟨"SpinBenchModel", "quarter", "(II)I"⟩ ∈ gw_All := gw_in 986 (by decide +kernel) (by decide +kernel)
set_option maxRecDepth 100000 in
theorem wd_987 : Cond.code ⟨"SpinBenchModel", "quarter", "(II)I"⟩ prog_14_method_32_code 3 (some .int) ∈ gw_All := gw_in 987 rfl rfl
theorem wd_988 : Cond.methodLink "SpinBenchModel" 168 ⟨"SpinBenchModel", "turnQuarter", "(II)V"⟩ ∈ gw_All := gw_in 988 (by decide +kernel) (by decide +kernel)
theorem wd_990 : Cond.instanceMethod ⟨"SpinBenchModel", "turnQuarter", "(II)V"⟩ ∈ gw_All := gw_in 990 (by decide +kernel) (by decide +kernel)
set_option maxRecDepth 100000 in
theorem wd_991 : Cond.code ⟨"SpinBenchModel", "turnQuarter", "(II)V"⟩ prog_14_method_30_code 8 none ∈ gw_All := gw_in 991 rfl rfl
theorem wd_992 : Cond.methodLink "SpinBenchModel" 148 ⟨"SpinBenchModel", "productOf", "(I)I"⟩ ∈ gw_All := gw_in 992 (by decide +kernel) (by decide +kernel)
theorem wd_993 : Cond.static ⟨"SpinBenchModel", "productOf", "(I)I"⟩ ∈ gw_All := gw_in 993 (by decide +kernel) (by decide +kernel)
set_option maxRecDepth 100000 in
theorem wd_994 : Cond.code ⟨"SpinBenchModel", "productOf", "(I)I"⟩ prog_14_method_14_code 1 (some .int) ∈ gw_All := gw_in 994 rfl rfl
theorem wd_995 : Cond.methodLink "SpinBenchModel" 151 ⟨"SpinBenchModel", "fits", "(II)Z"⟩ ∈ gw_All := gw_in 995 (by decide +kernel) (by decide +kernel)
theorem wd_997 : Cond.instanceMethod ⟨"SpinBenchModel", "fits", "(II)Z"⟩ ∈ gw_All := gw_in 997 (by decide +kernel) (by decide +kernel)
set_option maxRecDepth 100000 in
theorem wd_998 : Cond.code ⟨"SpinBenchModel", "fits", "(II)Z"⟩ prog_14_method_28_code 7 (some .boolean) ∈ gw_All := gw_in 998 rfl rfl
theorem wd_999 : Cond.methodLink "SpinBenchModel" 155 ⟨"SpinBenchModel", "with", "(II)I"⟩ ∈ gw_All := gw_in 999 (by decide +kernel) (by decide +kernel)
theorem wd_1001 : Cond.instanceMethod ⟨"SpinBenchModel", "with", "(II)I"⟩ ∈ gw_All := gw_in 1001 (by decide +kernel) (by decide +kernel)
set_option maxRecDepth 100000 in
theorem wd_1002 : Cond.code ⟨"SpinBenchModel", "with", "(II)I"⟩ prog_14_method_29_code 9 (some .int) ∈ gw_All := gw_in 1002 rfl rfl
theorem wd_1003 : Cond.constant "SpinBenchModel" 158 1048575 ∈ gw_All := gw_in 1003 (by decide +kernel) (by decide +kernel)
theorem wd_1004 : Cond.methodLink "SpinBenchLaw" 64 ⟨"SpinBenchModel", "letter", "(III)I"⟩ ∈ gw_All := gw_in 1004 (by decide +kernel) (by decide +kernel)
theorem wd_1005 : Cond.instanceMethod ⟨"SpinBenchModel", "letter", "(III)I"⟩ ∈ gw_All := gw_in 1005 (by decide +kernel) (by decide +kernel)
theorem wd_1006 : Cond.selects "SpinBenchModel" ⟨"SpinBenchModel", "letter", "(III)I"⟩ ⟨"SpinBenchModel", "letter", "(III)I"⟩ ∈ gw_All := gw_in 1006 (by decide +kernel) (by decide +kernel)
set_option maxRecDepth 100000 in
theorem wd_1007 : Cond.code ⟨"SpinBenchModel", "letter", "(III)I"⟩ prog_14_method_34_code 4 (some .int) ∈ gw_All := gw_in 1007 rfl rfl
theorem wd_1008 : Cond.methodLink "SpinBenchModel" 171 ⟨"SpinBenchModel", "isWay", "(I)Z"⟩ ∈ gw_All := gw_in 1008 (by decide +kernel) (by decide +kernel)
theorem wd_1009 : Cond.static ⟨"SpinBenchModel", "isWay", "(I)Z"⟩ ∈ gw_All := gw_in 1009 (by decide +kernel) (by decide +kernel)
set_option maxRecDepth 100000 in
theorem wd_1010 : Cond.code ⟨"SpinBenchModel", "isWay", "(I)Z"⟩ prog_14_method_33_code 1 (some .boolean) ∈ gw_All := gw_in 1010 rfl rfl
theorem wd_1011 : Cond.methodLink "SpinBenchModel" 174 ⟨"SpinBenchModel", "turnLetter", "(III)Z"⟩ ∈ gw_All := gw_in 1011 (by decide +kernel) (by decide +kernel)
theorem wd_1013 : Cond.instanceMethod ⟨"SpinBenchModel", "turnLetter", "(III)Z"⟩ ∈ gw_All := gw_in 1013 (by decide +kernel) (by decide +kernel)
set_option maxRecDepth 100000 in
theorem wd_1014 : Cond.code ⟨"SpinBenchModel", "turnLetter", "(III)Z"⟩ prog_14_method_31_code 11 (some .boolean) ∈ gw_All := gw_in 1014 rfl rfl
theorem wd_1015 : Cond.methodLink "SpinBenchModel" 159 ⟨"SpinBenchModel", "oneCosine", "(I)I"⟩ ∈ gw_All := gw_in 1015 (by decide +kernel) (by decide +kernel)
theorem wd_1016 : Cond.static ⟨"SpinBenchModel", "oneCosine", "(I)I"⟩ ∈ gw_All := gw_in 1016 (by decide +kernel) (by decide +kernel)
set_option maxRecDepth 100000 in
theorem wd_1017 : Cond.code ⟨"SpinBenchModel", "oneCosine", "(I)I"⟩ prog_14_method_12_code 1 (some .int) ∈ gw_All := gw_in 1017 rfl rfl
theorem wd_1018 : Cond.methodLink "SpinBenchModel" 162 ⟨"SpinBenchModel", "sine", "(II)I"⟩ ∈ gw_All := gw_in 1018 (by decide +kernel) (by decide +kernel)
theorem wd_1019 : Cond.static ⟨"SpinBenchModel", "sine", "(II)I"⟩ ∈ gw_All := gw_in 1019 (by decide +kernel) (by decide +kernel)
set_option maxRecDepth 100000 in
theorem wd_1020 : Cond.code ⟨"SpinBenchModel", "sine", "(II)I"⟩ prog_14_method_11_code 2 (some .int) ∈ gw_All := gw_in 1020 rfl rfl
theorem wd_1021 : Cond.methodLink "SpinBenchModel" 165 ⟨"SpinBenchModel", "oneSine", "(I)I"⟩ ∈ gw_All := gw_in 1021 (by decide +kernel) (by decide +kernel)
theorem wd_1022 : Cond.static ⟨"SpinBenchModel", "oneSine", "(I)I"⟩ ∈ gw_All := gw_in 1022 (by decide +kernel) (by decide +kernel)
set_option maxRecDepth 100000 in
theorem wd_1023 : Cond.code ⟨"SpinBenchModel", "oneSine", "(I)I"⟩ prog_14_method_13_code 1 (some .int) ∈ gw_All := gw_in 1023 rfl rfl
theorem wd_1024 : Cond.methodLink "SpinBenchLaw" 68 ⟨"SpinBenchModel", "terms", "(I)I"⟩ ∈ gw_All := gw_in 1024 (by decide +kernel) (by decide +kernel)
theorem wd_1025 : Cond.instanceMethod ⟨"SpinBenchModel", "terms", "(I)I"⟩ ∈ gw_All := gw_in 1025 (by decide +kernel) (by decide +kernel)
theorem wd_1026 : Cond.selects "SpinBenchModel" ⟨"SpinBenchModel", "terms", "(I)I"⟩ ⟨"SpinBenchModel", "terms", "(I)I"⟩ ∈ gw_All := gw_in 1026 (by decide +kernel) (by decide +kernel)
set_option maxRecDepth 100000 in
theorem wd_1027 : Cond.code ⟨"SpinBenchModel", "terms", "(I)I"⟩ prog_14_method_35_code 2 (some .int) ∈ gw_All := gw_in 1027 rfl rfl
theorem wd_1028 : Cond.methodLink "SpinBenchLaw" 73 ⟨"SpinBenchModel", "number", "(II)J"⟩ ∈ gw_All := gw_in 1028 (by decide +kernel) (by decide +kernel)
theorem wd_1029 : Cond.instanceMethod ⟨"SpinBenchModel", "number", "(II)J"⟩ ∈ gw_All := gw_in 1029 (by decide +kernel) (by decide +kernel)
theorem wd_1030 : Cond.selects "SpinBenchModel" ⟨"SpinBenchModel", "number", "(II)J"⟩ ⟨"SpinBenchModel", "number", "(II)J"⟩ ∈ gw_All := gw_in 1030 (by decide +kernel) (by decide +kernel)
set_option maxRecDepth 100000 in
theorem wd_1031 : Cond.code ⟨"SpinBenchModel", "number", "(II)J"⟩ prog_14_method_37_code 3 (some .long) ∈ gw_All := gw_in 1031 rfl rfl
theorem wd_1032 : Cond.methodLink "SpinBenchModel" 177 ⟨"SpinBenchModel", "isTerm", "(II)Z"⟩ ∈ gw_All := gw_in 1032 (by decide +kernel) (by decide +kernel)
theorem wd_1034 : Cond.instanceMethod ⟨"SpinBenchModel", "isTerm", "(II)Z"⟩ ∈ gw_All := gw_in 1034 (by decide +kernel) (by decide +kernel)
set_option maxRecDepth 100000 in
theorem wd_1035 : Cond.code ⟨"SpinBenchModel", "isTerm", "(II)Z"⟩ prog_14_method_36_code 3 (some .boolean) ∈ gw_All := gw_in 1035 rfl rfl
theorem wd_1036 : Cond.constantLong "SpinBenchModel" 180 (-1000001) ∈ gw_All := gw_in 1036 (by decide +kernel) (by decide +kernel)
theorem wd_1037 : Cond.methodLink "SpinBenchLaw" 77 ⟨"SpinBenchModel", "power", "(III)I"⟩ ∈ gw_All := gw_in 1037 (by decide +kernel) (by decide +kernel)
theorem wd_1038 : Cond.instanceMethod ⟨"SpinBenchModel", "power", "(III)I"⟩ ∈ gw_All := gw_in 1038 (by decide +kernel) (by decide +kernel)
theorem wd_1039 : Cond.selects "SpinBenchModel" ⟨"SpinBenchModel", "power", "(III)I"⟩ ⟨"SpinBenchModel", "power", "(III)I"⟩ ∈ gw_All := gw_in 1039 (by decide +kernel) (by decide +kernel)
set_option maxRecDepth 100000 in
theorem wd_1040 : Cond.code ⟨"SpinBenchModel", "power", "(III)I"⟩ prog_14_method_39_code 4 (some .int) ∈ gw_All := gw_in 1040 rfl rfl
theorem wd_1041 : Cond.methodLink "SpinBenchModel" 182 ⟨"SpinBenchModel", "powerOf", "(II)I"⟩ ∈ gw_All := gw_in 1041 (by decide +kernel) (by decide +kernel)
theorem wd_1042 : Cond.static ⟨"SpinBenchModel", "powerOf", "(II)I"⟩ ∈ gw_All := gw_in 1042 (by decide +kernel) (by decide +kernel)
set_option maxRecDepth 100000 in
theorem wd_1043 : Cond.code ⟨"SpinBenchModel", "powerOf", "(II)I"⟩ prog_14_method_38_code 2 (some .int) ∈ gw_All := gw_in 1043 rfl rfl
theorem wd_1044 : Cond.methodLink "SpinBenchLaw" 81 ⟨"SpinBenchModel", "same", "(II)I"⟩ ∈ gw_All := gw_in 1044 (by decide +kernel) (by decide +kernel)
theorem wd_1045 : Cond.instanceMethod ⟨"SpinBenchModel", "same", "(II)I"⟩ ∈ gw_All := gw_in 1045 (by decide +kernel) (by decide +kernel)
theorem wd_1046 : Cond.selects "SpinBenchModel" ⟨"SpinBenchModel", "same", "(II)I"⟩ ⟨"SpinBenchModel", "same", "(II)I"⟩ ∈ gw_All := gw_in 1046 (by decide +kernel) (by decide +kernel)
set_option maxRecDepth 100000 in
theorem wd_1047 : Cond.code ⟨"SpinBenchModel", "same", "(II)I"⟩ prog_14_method_40_code 7 (some .int) ∈ gw_All := gw_in 1047 rfl rfl
theorem wd_1048 : Cond.methodLink "SpinBenchLaw" 85 ⟨"SpinBenchModel", "product", "(III)I"⟩ ∈ gw_All := gw_in 1048 (by decide +kernel) (by decide +kernel)
theorem wd_1049 : Cond.instanceMethod ⟨"SpinBenchModel", "product", "(III)I"⟩ ∈ gw_All := gw_in 1049 (by decide +kernel) (by decide +kernel)
theorem wd_1050 : Cond.selects "SpinBenchModel" ⟨"SpinBenchModel", "product", "(III)I"⟩ ⟨"SpinBenchModel", "product", "(III)I"⟩ ∈ gw_All := gw_in 1050 (by decide +kernel) (by decide +kernel)
set_option maxRecDepth 100000 in
theorem wd_1051 : Cond.code ⟨"SpinBenchModel", "product", "(III)I"⟩ prog_14_method_42_code 16 (some .int) ∈ gw_All := gw_in 1051 rfl rfl
theorem wd_1052 : Cond.methodLink "SpinBenchModel" 185 ⟨"SpinBenchModel", "multiply", "(IIJ)Z"⟩ ∈ gw_All := gw_in 1052 (by decide +kernel) (by decide +kernel)
theorem wd_1054 : Cond.instanceMethod ⟨"SpinBenchModel", "multiply", "(IIJ)Z"⟩ ∈ gw_All := gw_in 1054 (by decide +kernel) (by decide +kernel)
set_option maxRecDepth 100000 in
theorem wd_1055 : Cond.code ⟨"SpinBenchModel", "multiply", "(IIJ)Z"⟩ prog_14_method_41_code 12 (some .boolean) ∈ gw_All := gw_in 1055 rfl rfl
theorem wd_1056 : Cond.methodLink "SpinBenchLaw" 90 ⟨"SpinBenchModel", "digest", "(I)J"⟩ ∈ gw_All := gw_in 1056 (by decide +kernel) (by decide +kernel)
theorem wd_1057 : Cond.instanceMethod ⟨"SpinBenchModel", "digest", "(I)J"⟩ ∈ gw_All := gw_in 1057 (by decide +kernel) (by decide +kernel)
theorem wd_1058 : Cond.selects "SpinBenchModel" ⟨"SpinBenchModel", "digest", "(I)J"⟩ ⟨"SpinBenchModel", "digest", "(I)J"⟩ ∈ gw_All := gw_in 1058 (by decide +kernel) (by decide +kernel)
set_option maxRecDepth 100000 in
theorem wd_1059 : Cond.code ⟨"SpinBenchModel", "digest", "(I)J"⟩ prog_14_method_43_code 7 (some .long) ∈ gw_All := gw_in 1059 rfl rfl
theorem wd_1060 : Cond.constantLong "SpinBenchModel" 189 17 ∈ gw_All := gw_in 1060 (by decide +kernel) (by decide +kernel)
theorem wd_1061 : Cond.constantLong "SpinBenchModel" 191 31 ∈ gw_All := gw_in 1061 (by decide +kernel) (by decide +kernel)
theorem wd_1062 : Cond.methodLink "SpinBenchLaw" 94 ⟨"SpinBenchModel", "pulse", "(III)I"⟩ ∈ gw_All := gw_in 1062 (by decide +kernel) (by decide +kernel)
theorem wd_1063 : Cond.instanceMethod ⟨"SpinBenchModel", "pulse", "(III)I"⟩ ∈ gw_All := gw_in 1063 (by decide +kernel) (by decide +kernel)
theorem wd_1064 : Cond.selects "SpinBenchModel" ⟨"SpinBenchModel", "pulse", "(III)I"⟩ ⟨"SpinBenchModel", "pulse", "(III)I"⟩ ∈ gw_All := gw_in 1064 (by decide +kernel) (by decide +kernel)
set_option maxRecDepth 100000 in
theorem wd_1065 : Cond.code ⟨"SpinBenchModel", "pulse", "(III)I"⟩ prog_14_method_46_code 4 (some .int) ∈ gw_All := gw_in 1065 rfl rfl
theorem wd_1066 : Cond.methodLink "SpinBenchModel" 196 ⟨"SpinBenchModel", "isPulse", "(III)Z"⟩ ∈ gw_All := gw_in 1066 (by decide +kernel) (by decide +kernel)
theorem wd_1068 : Cond.instanceMethod ⟨"SpinBenchModel", "isPulse", "(III)Z"⟩ ∈ gw_All := gw_in 1068 (by decide +kernel) (by decide +kernel)
set_option maxRecDepth 100000 in
theorem wd_1069 : Cond.code ⟨"SpinBenchModel", "isPulse", "(III)Z"⟩ prog_14_method_45_code 4 (some .boolean) ∈ gw_All := gw_in 1069 rfl rfl
theorem wd_1070 : Cond.methodLink "SpinBenchModel" 199 ⟨"SpinBenchModel", "come", "(IIIII)I"⟩ ∈ gw_All := gw_in 1070 (by decide +kernel) (by decide +kernel)
theorem wd_1072 : Cond.instanceMethod ⟨"SpinBenchModel", "come", "(IIIII)I"⟩ ∈ gw_All := gw_in 1072 (by decide +kernel) (by decide +kernel)
set_option maxRecDepth 100000 in
theorem wd_1073 : Cond.code ⟨"SpinBenchModel", "come", "(IIIII)I"⟩ prog_14_method_44_code 6 (some .int) ∈ gw_All := gw_in 1073 rfl rfl
theorem wd_1074 : Cond.methodLink "SpinBenchLaw" 99 ⟨"SpinBenchModel", "cycled", "(IIII)I"⟩ ∈ gw_All := gw_in 1074 (by decide +kernel) (by decide +kernel)
theorem wd_1075 : Cond.instanceMethod ⟨"SpinBenchModel", "cycled", "(IIII)I"⟩ ∈ gw_All := gw_in 1075 (by decide +kernel) (by decide +kernel)
theorem wd_1076 : Cond.selects "SpinBenchModel" ⟨"SpinBenchModel", "cycled", "(IIII)I"⟩ ⟨"SpinBenchModel", "cycled", "(IIII)I"⟩ ∈ gw_All := gw_in 1076 (by decide +kernel) (by decide +kernel)
set_option maxRecDepth 100000 in
theorem wd_1077 : Cond.code ⟨"SpinBenchModel", "cycled", "(IIII)I"⟩ prog_14_method_47_code 5 (some .int) ∈ gw_All := gw_in 1077 rfl rfl
theorem wd_1078 : Cond.methodLink "SpinBenchLaw" 103 ⟨"SpinBenchModel", "delay", "(III)I"⟩ ∈ gw_All := gw_in 1078 (by decide +kernel) (by decide +kernel)
theorem wd_1079 : Cond.instanceMethod ⟨"SpinBenchModel", "delay", "(III)I"⟩ ∈ gw_All := gw_in 1079 (by decide +kernel) (by decide +kernel)
theorem wd_1080 : Cond.selects "SpinBenchModel" ⟨"SpinBenchModel", "delay", "(III)I"⟩ ⟨"SpinBenchModel", "delay", "(III)I"⟩ ∈ gw_All := gw_in 1080 (by decide +kernel) (by decide +kernel)
set_option maxRecDepth 100000 in
theorem wd_1081 : Cond.code ⟨"SpinBenchModel", "delay", "(III)I"⟩ prog_14_method_48_code 4 (some .int) ∈ gw_All := gw_in 1081 rfl rfl
theorem wd_1082 : Cond.methodLink "SpinBenchLaw" 107 ⟨"SpinBenchModel", "round", "(I)I"⟩ ∈ gw_All := gw_in 1082 (by decide +kernel) (by decide +kernel)
theorem wd_1083 : Cond.instanceMethod ⟨"SpinBenchModel", "round", "(I)I"⟩ ∈ gw_All := gw_in 1083 (by decide +kernel) (by decide +kernel)
theorem wd_1084 : Cond.selects "SpinBenchModel" ⟨"SpinBenchModel", "round", "(I)I"⟩ ⟨"SpinBenchModel", "round", "(I)I"⟩ ∈ gw_All := gw_in 1084 (by decide +kernel) (by decide +kernel)
set_option maxRecDepth 100000 in
theorem wd_1085 : Cond.code ⟨"SpinBenchModel", "round", "(I)I"⟩ prog_14_method_49_code 3 (some .int) ∈ gw_All := gw_in 1085 rfl rfl
theorem wd_1086 : Cond.constantLong "SpinBenchModel" 203 8 ∈ gw_All := gw_in 1086 (by decide +kernel) (by decide +kernel)
theorem wd_1087 : Cond.constant "SpinBenchModel" 208 (-1000002) ∈ gw_All := gw_in 1087 (by decide +kernel) (by decide +kernel)
theorem wd_1088 : Cond.methodLink "SpinBenchLaw" 112 ⟨"SpinBenchModel", "end", "()I"⟩ ∈ gw_All := gw_in 1088 (by decide +kernel) (by decide +kernel)
theorem wd_1089 : Cond.instanceMethod ⟨"SpinBenchModel", "end", "()I"⟩ ∈ gw_All := gw_in 1089 (by decide +kernel) (by decide +kernel)
theorem wd_1090 : Cond.selects "SpinBenchModel" ⟨"SpinBenchModel", "end", "()I"⟩ ⟨"SpinBenchModel", "end", "()I"⟩ ∈ gw_All := gw_in 1090 (by decide +kernel) (by decide +kernel)
set_option maxRecDepth 100000 in
theorem wd_1091 : Cond.code ⟨"SpinBenchModel", "end", "()I"⟩ prog_14_method_50_code 2 (some .int) ∈ gw_All := gw_in 1091 rfl rfl
theorem wd_1092 : Cond.methodLink "SpinBenchLaw" 116 ⟨"SpinBenchModel", "store", "(II)I"⟩ ∈ gw_All := gw_in 1092 (by decide +kernel) (by decide +kernel)
theorem wd_1093 : Cond.instanceMethod ⟨"SpinBenchModel", "store", "(II)I"⟩ ∈ gw_All := gw_in 1093 (by decide +kernel) (by decide +kernel)
theorem wd_1094 : Cond.selects "SpinBenchModel" ⟨"SpinBenchModel", "store", "(II)I"⟩ ⟨"SpinBenchModel", "store", "(II)I"⟩ ∈ gw_All := gw_in 1094 (by decide +kernel) (by decide +kernel)
set_option maxRecDepth 100000 in
theorem wd_1095 : Cond.code ⟨"SpinBenchModel", "store", "(II)I"⟩ prog_14_method_51_code 3 (some .int) ∈ gw_All := gw_in 1095 rfl rfl
theorem wd_1096 : Cond.methodLink "SpinBenchLaw" 120 ⟨"SpinBenchModel", "back", "()I"⟩ ∈ gw_All := gw_in 1096 (by decide +kernel) (by decide +kernel)
theorem wd_1097 : Cond.instanceMethod ⟨"SpinBenchModel", "back", "()I"⟩ ∈ gw_All := gw_in 1097 (by decide +kernel) (by decide +kernel)
theorem wd_1098 : Cond.selects "SpinBenchModel" ⟨"SpinBenchModel", "back", "()I"⟩ ⟨"SpinBenchModel", "back", "()I"⟩ ∈ gw_All := gw_in 1098 (by decide +kernel) (by decide +kernel)
set_option maxRecDepth 100000 in
theorem wd_1099 : Cond.code ⟨"SpinBenchModel", "back", "()I"⟩ prog_14_method_52_code 1 (some .int) ∈ gw_All := gw_in 1099 rfl rfl
theorem wd_1100 : Cond.methodLink "SpinBenchLaw" 124 ⟨"SpinBenchModel", "kind", "(I)I"⟩ ∈ gw_All := gw_in 1100 (by decide +kernel) (by decide +kernel)
theorem wd_1101 : Cond.instanceMethod ⟨"SpinBenchModel", "kind", "(I)I"⟩ ∈ gw_All := gw_in 1101 (by decide +kernel) (by decide +kernel)
theorem wd_1102 : Cond.selects "SpinBenchModel" ⟨"SpinBenchModel", "kind", "(I)I"⟩ ⟨"SpinBenchModel", "kind", "(I)I"⟩ ∈ gw_All := gw_in 1102 (by decide +kernel) (by decide +kernel)
set_option maxRecDepth 100000 in
theorem wd_1103 : Cond.code ⟨"SpinBenchModel", "kind", "(I)I"⟩ prog_14_method_54_code 2 (some .int) ∈ gw_All := gw_in 1103 rfl rfl
theorem wd_1104 : Cond.methodLink "SpinBenchModel" 209 ⟨"SpinBenchModel", "isOp", "(I)Z"⟩ ∈ gw_All := gw_in 1104 (by decide +kernel) (by decide +kernel)
theorem wd_1106 : Cond.instanceMethod ⟨"SpinBenchModel", "isOp", "(I)Z"⟩ ∈ gw_All := gw_in 1106 (by decide +kernel) (by decide +kernel)
set_option maxRecDepth 100000 in
theorem wd_1107 : Cond.code ⟨"SpinBenchModel", "isOp", "(I)Z"⟩ prog_14_method_53_code 2 (some .boolean) ∈ gw_All := gw_in 1107 rfl rfl
theorem wd_1108 : Cond.methodLink "SpinBenchLaw" 128 ⟨"SpinBenchModel", "is", "(II)I"⟩ ∈ gw_All := gw_in 1108 (by decide +kernel) (by decide +kernel)
theorem wd_1109 : Cond.instanceMethod ⟨"SpinBenchModel", "is", "(II)I"⟩ ∈ gw_All := gw_in 1109 (by decide +kernel) (by decide +kernel)
theorem wd_1110 : Cond.selects "SpinBenchModel" ⟨"SpinBenchModel", "is", "(II)I"⟩ ⟨"SpinBenchModel", "is", "(II)I"⟩ ∈ gw_All := gw_in 1110 (by decide +kernel) (by decide +kernel)
set_option maxRecDepth 100000 in
theorem wd_1111 : Cond.code ⟨"SpinBenchModel", "is", "(II)I"⟩ prog_14_method_55_code 4 (some .int) ∈ gw_All := gw_in 1111 rfl rfl
theorem wd_1112 : Cond.methodLink "SpinBenchLaw" 132 ⟨"SpinBenchModel", "spins", "(I)I"⟩ ∈ gw_All := gw_in 1112 (by decide +kernel) (by decide +kernel)
theorem wd_1113 : Cond.instanceMethod ⟨"SpinBenchModel", "spins", "(I)I"⟩ ∈ gw_All := gw_in 1113 (by decide +kernel) (by decide +kernel)
theorem wd_1114 : Cond.selects "SpinBenchModel" ⟨"SpinBenchModel", "spins", "(I)I"⟩ ⟨"SpinBenchModel", "spins", "(I)I"⟩ ∈ gw_All := gw_in 1114 (by decide +kernel) (by decide +kernel)
set_option maxRecDepth 100000 in
theorem wd_1115 : Cond.code ⟨"SpinBenchModel", "spins", "(I)I"⟩ prog_14_method_56_code 2 (some .int) ∈ gw_All := gw_in 1115 rfl rfl
theorem wd_1116 : Cond.methodLink "SpinBenchLaw" 136 ⟨"SpinBenchModel", "ask", "(II)I"⟩ ∈ gw_All := gw_in 1116 (by decide +kernel) (by decide +kernel)
theorem wd_1117 : Cond.instanceMethod ⟨"SpinBenchModel", "ask", "(II)I"⟩ ∈ gw_All := gw_in 1117 (by decide +kernel) (by decide +kernel)
theorem wd_1118 : Cond.selects "SpinBenchModel" ⟨"SpinBenchModel", "ask", "(II)I"⟩ ⟨"SpinBenchModel", "ask", "(II)I"⟩ ∈ gw_All := gw_in 1118 (by decide +kernel) (by decide +kernel)
set_option maxRecDepth 100000 in
theorem wd_1119 : Cond.code ⟨"SpinBenchModel", "ask", "(II)I"⟩ prog_14_method_61_code 3 (some .int) ∈ gw_All := gw_in 1119 rfl rfl
theorem wd_1120 : Cond.methodLink "SpinBenchModel" 222 ⟨"SpinBenchModel", "cost", "(I)I"⟩ ∈ gw_All := gw_in 1120 (by decide +kernel) (by decide +kernel)
theorem wd_1122 : Cond.instanceMethod ⟨"SpinBenchModel", "cost", "(I)I"⟩ ∈ gw_All := gw_in 1122 (by decide +kernel) (by decide +kernel)
set_option maxRecDepth 100000 in
theorem wd_1123 : Cond.code ⟨"SpinBenchModel", "cost", "(I)I"⟩ prog_14_method_58_code 6 (some .int) ∈ gw_All := gw_in 1123 rfl rfl
theorem wd_1124 : Cond.methodLink "SpinBenchModel" 215 ⟨"SpinBenchModel", "begins", "(I)V"⟩ ∈ gw_All := gw_in 1124 (by decide +kernel) (by decide +kernel)
theorem wd_1126 : Cond.instanceMethod ⟨"SpinBenchModel", "begins", "(I)V"⟩ ∈ gw_All := gw_in 1126 (by decide +kernel) (by decide +kernel)
set_option maxRecDepth 100000 in
theorem wd_1127 : Cond.code ⟨"SpinBenchModel", "begins", "(I)V"⟩ prog_14_method_57_code 2 none ∈ gw_All := gw_in 1127 rfl rfl
theorem wd_1128 : Cond.methodLink "SpinBenchModel" 219 ⟨"SpinBenchModel", "mark2", "(I)I"⟩ ∈ gw_All := gw_in 1128 (by decide +kernel) (by decide +kernel)
theorem wd_1130 : Cond.instanceMethod ⟨"SpinBenchModel", "mark2", "(I)I"⟩ ∈ gw_All := gw_in 1130 (by decide +kernel) (by decide +kernel)
set_option maxRecDepth 100000 in
theorem wd_1131 : Cond.code ⟨"SpinBenchModel", "mark2", "(I)I"⟩ prog_14_method_59_code 2 (some .int) ∈ gw_All := gw_in 1131 rfl rfl
theorem wd_1132 : Cond.methodLink "SpinBenchModel" 225 ⟨"SpinBenchModel", "mark", "(I)I"⟩ ∈ gw_All := gw_in 1132 (by decide +kernel) (by decide +kernel)
theorem wd_1134 : Cond.instanceMethod ⟨"SpinBenchModel", "mark", "(I)I"⟩ ∈ gw_All := gw_in 1134 (by decide +kernel) (by decide +kernel)
set_option maxRecDepth 100000 in
theorem wd_1135 : Cond.code ⟨"SpinBenchModel", "mark", "(I)I"⟩ prog_14_method_60_code 4 (some .int) ∈ gw_All := gw_in 1135 rfl rfl
theorem wd_1136 : Cond.methodLink "SpinBenchLaw" 140 ⟨"SpinBenchModel", "trace", "(I)I"⟩ ∈ gw_All := gw_in 1136 (by decide +kernel) (by decide +kernel)
theorem wd_1137 : Cond.instanceMethod ⟨"SpinBenchModel", "trace", "(I)I"⟩ ∈ gw_All := gw_in 1137 (by decide +kernel) (by decide +kernel)
theorem wd_1138 : Cond.selects "SpinBenchModel" ⟨"SpinBenchModel", "trace", "(I)I"⟩ ⟨"SpinBenchModel", "trace", "(I)I"⟩ ∈ gw_All := gw_in 1138 (by decide +kernel) (by decide +kernel)
set_option maxRecDepth 100000 in
theorem wd_1139 : Cond.code ⟨"SpinBenchModel", "trace", "(I)I"⟩ prog_14_method_62_code 2 (some .int) ∈ gw_All := gw_in 1139 rfl rfl
theorem wd_1140 : Cond.methodLink "SpinBenchLaw" 144 ⟨"SpinBenchModel", "run", "()I"⟩ ∈ gw_All := gw_in 1140 (by decide +kernel) (by decide +kernel)
theorem wd_1141 : Cond.instanceMethod ⟨"SpinBenchModel", "run", "()I"⟩ ∈ gw_All := gw_in 1141 (by decide +kernel) (by decide +kernel)
theorem wd_1142 : Cond.selects "SpinBenchModel" ⟨"SpinBenchModel", "run", "()I"⟩ ⟨"SpinBenchModel", "run", "()I"⟩ ∈ gw_All := gw_in 1142 (by decide +kernel) (by decide +kernel)
set_option maxRecDepth 100000 in
theorem wd_1143 : Cond.code ⟨"SpinBenchModel", "run", "()I"⟩ prog_14_method_65_code 4 (some .int) ∈ gw_All := gw_in 1143 rfl rfl
theorem wd_1144 : Cond.methodLink "SpinBenchModel" 237 ⟨"SpinBenchModel", "does", "(I)I"⟩ ∈ gw_All := gw_in 1144 (by decide +kernel) (by decide +kernel)
theorem wd_1146 : Cond.instanceMethod ⟨"SpinBenchModel", "does", "(I)I"⟩ ∈ gw_All := gw_in 1146 (by decide +kernel) (by decide +kernel)
set_option maxRecDepth 100000 in
theorem wd_1147 : Cond.code ⟨"SpinBenchModel", "does", "(I)I"⟩ prog_14_method_64_code 4 (some .int) ∈ gw_All := gw_in 1147 rfl rfl
theorem wd_1148 : Cond.methodLink "SpinBenchModel" 228 ⟨"SpinBenchModel", "doPulse", "(II)V"⟩ ∈ gw_All := gw_in 1148 (by decide +kernel) (by decide +kernel)
theorem wd_1150 : Cond.instanceMethod ⟨"SpinBenchModel", "doPulse", "(II)V"⟩ ∈ gw_All := gw_in 1150 (by decide +kernel) (by decide +kernel)
set_option maxRecDepth 100000 in
theorem wd_1151 : Cond.code ⟨"SpinBenchModel", "doPulse", "(II)V"⟩ prog_14_method_63_code 5 none ∈ gw_All := gw_in 1151 rfl rfl
theorem wd_1152 : Cond.methodLink "SpinBenchLaw" 148 ⟨"SpinBenchModel", "told", "(I)I"⟩ ∈ gw_All := gw_in 1152 (by decide +kernel) (by decide +kernel)
theorem wd_1153 : Cond.instanceMethod ⟨"SpinBenchModel", "told", "(I)I"⟩ ∈ gw_All := gw_in 1153 (by decide +kernel) (by decide +kernel)
theorem wd_1154 : Cond.selects "SpinBenchModel" ⟨"SpinBenchModel", "told", "(I)I"⟩ ⟨"SpinBenchModel", "told", "(I)I"⟩ ∈ gw_All := gw_in 1154 (by decide +kernel) (by decide +kernel)
set_option maxRecDepth 100000 in
theorem wd_1155 : Cond.code ⟨"SpinBenchModel", "told", "(I)I"⟩ prog_14_method_66_code 2 (some .int) ∈ gw_All := gw_in 1155 rfl rfl
theorem wd_1156 : Cond.methodLink "SpinBenchLaw" 152 ⟨"SpinBenchModel", "count", "(I)I"⟩ ∈ gw_All := gw_in 1156 (by decide +kernel) (by decide +kernel)
theorem wd_1157 : Cond.instanceMethod ⟨"SpinBenchModel", "count", "(I)I"⟩ ∈ gw_All := gw_in 1157 (by decide +kernel) (by decide +kernel)
theorem wd_1158 : Cond.selects "SpinBenchModel" ⟨"SpinBenchModel", "count", "(I)I"⟩ ⟨"SpinBenchModel", "count", "(I)I"⟩ ∈ gw_All := gw_in 1158 (by decide +kernel) (by decide +kernel)
set_option maxRecDepth 100000 in
theorem wd_1159 : Cond.code ⟨"SpinBenchModel", "count", "(I)I"⟩ prog_14_method_67_code 4 (some .int) ∈ gw_All := gw_in 1159 rfl rfl
theorem wd_1160 : Cond.methodLink "SpinBenchLaw" 156 ⟨"SpinBenchModel", "status", "()I"⟩ ∈ gw_All := gw_in 1160 (by decide +kernel) (by decide +kernel)
theorem wd_1161 : Cond.instanceMethod ⟨"SpinBenchModel", "status", "()I"⟩ ∈ gw_All := gw_in 1161 (by decide +kernel) (by decide +kernel)
theorem wd_1162 : Cond.selects "SpinBenchModel" ⟨"SpinBenchModel", "status", "()I"⟩ ⟨"SpinBenchModel", "status", "()I"⟩ ∈ gw_All := gw_in 1162 (by decide +kernel) (by decide +kernel)
set_option maxRecDepth 100000 in
theorem wd_1163 : Cond.code ⟨"SpinBenchModel", "status", "()I"⟩ prog_14_method_68_code 1 (some .int) ∈ gw_All := gw_in 1163 rfl rfl
theorem wd_1164 : Cond.sameMethod "SpinBench$Lead" "SpinBench$Lead" "isOfKind" "(I)Z" ∈ gw_All := gw_in 1164 (by decide +kernel) (by decide +kernel)
theorem wd_1165 : Cond.sameMethod "SpinBench$Pulse" "SpinBench$Pulse" "cost" "(LSpinBench;)I" ∈ gw_All := gw_in 1165 (by decide +kernel) (by decide +kernel)
theorem wd_1166 : Cond.sameMethod "SpinBench$Lead" "SpinBench$Lead" "cost" "(LSpinBench;)I" ∈ gw_All := gw_in 1166 (by decide +kernel) (by decide +kernel)
theorem wd_1167 : Cond.sameMethod "SpinBench$Lead" "SpinBench$Lead" "mark" "(LSpinBench;)I" ∈ gw_All := gw_in 1167 (by decide +kernel) (by decide +kernel)
theorem wd_1168 : Cond.selects "SpinBench$Cycled" ⟨"SpinBench$Lead", "cost", "(LSpinBench;)I"⟩ ⟨"SpinBench$Cycled", "cost", "(LSpinBench;)I"⟩ ∈ gw_All := gw_in 1168 (by decide +kernel) (by decide +kernel)
theorem wd_1169 : Cond.selects "SpinBench$Delay" ⟨"SpinBench$Lead", "cost", "(LSpinBench;)I"⟩ ⟨"SpinBench$Lead", "cost", "(LSpinBench;)I"⟩ ∈ gw_All := gw_in 1169 (by decide +kernel) (by decide +kernel)
theorem wd_1170 : Cond.selects "SpinBench$Pulse" ⟨"SpinBench$Lead", "cost", "(LSpinBench;)I"⟩ ⟨"SpinBench$Pulse", "cost", "(LSpinBench;)I"⟩ ∈ gw_All := gw_in 1170 (by decide +kernel) (by decide +kernel)
theorem wd_1171 : Cond.sameMethod "SpinBench$Pulse" "SpinBench$Pulse" "turnSpins" "(LSpinBench;I)I" ∈ gw_All := gw_in 1171 (by decide +kernel) (by decide +kernel)
theorem wd_1172 : Cond.selects "SpinBench$Cycled" ⟨"SpinBench$Pulse", "turnSpins", "(LSpinBench;I)I"⟩ ⟨"SpinBench$Pulse", "turnSpins", "(LSpinBench;I)I"⟩ ∈ gw_All := gw_in 1172 (by decide +kernel) (by decide +kernel)
theorem wd_1173 : Cond.selects "SpinBench$Pulse" ⟨"SpinBench$Pulse", "turnSpins", "(LSpinBench;I)I"⟩ ⟨"SpinBench$Pulse", "turnSpins", "(LSpinBench;I)I"⟩ ∈ gw_All := gw_in 1173 (by decide +kernel) (by decide +kernel)
theorem inX0 : ∀ w ∈ u_ws RX0 TX0 6, w ∈ gw_All := gw_in_r _ [523, 524, 525, 526, 527, 521] (by decide +kernel) (by decide +kernel)
theorem inX1 : ∀ w ∈ u_ws RX1 TX1 5, w ∈ gw_All := gw_in_r _ [548, 549, 542, 544, 546] (by decide +kernel) (by decide +kernel)
theorem inX2 : ∀ w ∈ u_ws RX2 TX2 2, w ∈ gw_All := gw_in_r _ [588, 589] (by decide +kernel) (by decide +kernel)
theorem inX4 : ∀ w ∈ u_ws RX4 TX4 8, w ∈ gw_All := gw_in_r _ [98, 100, 102, 104, 106, 108, 110, 112] (by decide +kernel) (by decide +kernel)
theorem inX6 : ∀ w ∈ u_ws RX6 TX6 5, w ∈ gw_All := gw_in_r _ [501, 503, 495, 497, 499] (by decide +kernel) (by decide +kernel)
theorem inX7 : ∀ w ∈ u_ws RX7 TX7 4, w ∈ gw_All := gw_in_r _ [575, 576, 571, 573] (by decide +kernel) (by decide +kernel)
theorem inX8 : ∀ w ∈ u_ws RX8 TX8 4, w ∈ gw_All := gw_in_r _ [607, 608, 603, 605] (by decide +kernel) (by decide +kernel)
theorem inX9 : ∀ w ∈ u_ws RX9 TX9 3, w ∈ gw_All := gw_in_r _ [142, 144, 146] (by decide +kernel) (by decide +kernel)
theorem inX10 : ∀ w ∈ u_ws RX10 TX10 4, w ∈ gw_All := gw_in_r _ [164, 166, 168, 170] (by decide +kernel) (by decide +kernel)
theorem inX11 : ∀ w ∈ u_ws RX11 TX11 15, w ∈ gw_All := gw_in_r _ [191, 193, 195, 197, 199, 201, 203, 205, 207, 209, 211, 213, 215, 217, 219] (by decide +kernel) (by decide +kernel)
theorem inX12 : ∀ w ∈ u_ws RX12 TX12 28, w ∈ gw_All := gw_in_r _ [834, 836, 838, 840, 842, 844, 846, 848, 850, 852, 854, 856, 858, 860, 862, 864, 866, 868, 870, 872, 874, 876, 878, 880, 882, 884, 886, 888] (by decide +kernel) (by decide +kernel)
theorem wd_c_min : Cond.code Lib.Math.min.name Lib.Math.min.code 2 (some .int) ∈ gw_All := gw_in 124 (by decide +kernel) (by decide +kernel)
theorem wd_c_max : Cond.code Lib.Math.max.name Lib.Math.max.code 2 (some .int) ∈ gw_All := gw_in 127 (by decide +kernel) (by decide +kernel)
theorem wd_c_abs : Cond.code Lib.MathLoose.abs_long.x Lib.MathLoose.abs_long.code 2 (some .long) ∈ gw_All := gw_in 321 (by decide +kernel) (by decide +kernel)
end
section
theorem dX0_init_0 : decode cX0_init 0 = .ok (.aload_n 0, 1) := by decide +kernel
theorem dX0_init_1 : decode cX0_init 1 = .ok (.iload_n 1, 1) := by decide +kernel
theorem dX0_init_2 : decode cX0_init 2 = .ok (.aload_n 2, 1) := by decide +kernel
theorem dX0_init_3 : decode cX0_init 3 = .ok (.iload_n 3, 1) := by decide +kernel
theorem dX0_init_4 : decode cX0_init 4 = .ok (.iload 4, 2) := by decide +kernel
theorem dX0_init_6 : decode cX0_init 6 = .ok (.iload 5, 2) := by decide +kernel
theorem dX0_init_8 : decode cX0_init 8 = .ok (.invokespecial 3, 3) := by decide +kernel
theorem dX0_init_11 : decode cX0_init 11 = .ok (.aload_n 0, 1) := by decide +kernel
theorem dX0_init_12 : decode cX0_init 12 = .ok (.iload 6, 2) := by decide +kernel
theorem dX0_init_14 : decode cX0_init 14 = .ok (.putfield 9, 3) := by decide +kernel
theorem dX0_init_17 : decode cX0_init 17 = .ok (.return_, 1) := by decide +kernel
theorem dX0_ownKind_0 : decode cX0_ownKind 0 = .ok (.iconst 3, 1) := by decide +kernel
theorem dX0_ownKind_1 : decode cX0_ownKind 1 = .ok (.ireturn, 1) := by decide +kernel
theorem dX0_cost_0 : decode cX0_cost 0 = .ok (.aload_n 1, 1) := by decide +kernel
theorem dX0_cost_1 : decode cX0_cost 1 = .ok (.bipush 13, 2) := by decide +kernel
theorem dX0_cost_3 : decode cX0_cost 3 = .ok (.invokevirtual 15, 3) := by decide +kernel
theorem dX0_cost_6 : decode cX0_cost 6 = .ok (.aload_n 0, 1) := by decide +kernel
theorem dX0_cost_7 : decode cX0_cost 7 = .ok (.aload_n 1, 1) := by decide +kernel
theorem dX0_cost_8 : decode cX0_cost 8 = .ok (.invokespecial 19, 3) := by decide +kernel
theorem dX0_cost_11 : decode cX0_cost 11 = .ok (.istore_n 2, 1) := by decide +kernel
theorem dX0_cost_12 : decode cX0_cost 12 = .ok (.iload_n 2, 1) := by decide +kernel
theorem dX0_cost_13 : decode cX0_cost 13 = .ok (.aload_n 0, 1) := by decide +kernel
theorem dX0_cost_14 : decode cX0_cost 14 = .ok (.aload_n 1, 1) := by decide +kernel
theorem dX0_cost_15 : decode cX0_cost 15 = .ok (.invokevirtual 23, 3) := by decide +kernel
theorem dX0_cost_18 : decode cX0_cost 18 = .ok (.iadd, 1) := by decide +kernel
theorem dX0_cost_19 : decode cX0_cost 19 = .ok (.ireturn, 1) := by decide +kernel
theorem dX0_mark_0 : decode cX0_mark 0 = .ok (.aload_n 1, 1) := by decide +kernel
theorem dX0_mark_1 : decode cX0_mark 1 = .ok (.bipush 23, 2) := by decide +kernel
theorem dX0_mark_3 : decode cX0_mark 3 = .ok (.invokevirtual 15, 3) := by decide +kernel
theorem dX0_mark_6 : decode cX0_mark 6 = .ok (.aload_n 0, 1) := by decide +kernel
theorem dX0_mark_7 : decode cX0_mark 7 = .ok (.getfield 9, 3) := by decide +kernel
theorem dX0_mark_10 : decode cX0_mark 10 = .ok (.ireturn, 1) := by decide +kernel
theorem dX0_perform_0 : decode cX0_perform 0 = .ok (.aload_n 1, 1) := by decide +kernel
theorem dX0_perform_1 : decode cX0_perform 1 = .ok (.aload_n 0, 1) := by decide +kernel
theorem dX0_perform_2 : decode cX0_perform 2 = .ok (.getfield 9, 3) := by decide +kernel
theorem dX0_perform_5 : decode cX0_perform 5 = .ok (.invokevirtual 26, 3) := by decide +kernel
theorem dX0_perform_8 : decode cX0_perform 8 = .ok (.astore_n 2, 1) := by decide +kernel
theorem dX0_perform_9 : decode cX0_perform 9 = .ok (.aload_n 2, 1) := by decide +kernel
theorem dX0_perform_10 : decode cX0_perform 10 = .ok (.ifnull 10, 3) := by decide +kernel
theorem dX0_perform_13 : decode cX0_perform 13 = .ok (.aload_n 2, 1) := by decide +kernel
theorem dX0_perform_14 : decode cX0_perform 14 = .ok (.getfield 30, 3) := by decide +kernel
theorem dX0_perform_17 : decode cX0_perform 17 = .ok (.ifCond .eq 5, 3) := by decide +kernel
theorem dX0_perform_20 : decode cX0_perform 20 = .ok (.iconst 1, 1) := by decide +kernel
theorem dX0_perform_21 : decode cX0_perform 21 = .ok (.ireturn, 1) := by decide +kernel
theorem dX0_perform_22 : decode cX0_perform 22 = .ok (.aload_n 0, 1) := by decide +kernel
theorem dX0_perform_23 : decode cX0_perform 23 = .ok (.getfield 36, 3) := by decide +kernel
theorem dX0_perform_26 : decode cX0_perform 26 = .ok (.ifnonnull 7, 3) := by decide +kernel
theorem dX0_perform_29 : decode cX0_perform 29 = .ok (.iconst 0, 1) := by decide +kernel
theorem dX0_perform_30 : decode cX0_perform 30 = .ok (.goto 10, 3) := by decide +kernel
theorem dX0_perform_33 : decode cX0_perform 33 = .ok (.aload_n 0, 1) := by decide +kernel
theorem dX0_perform_34 : decode cX0_perform 34 = .ok (.getfield 36, 3) := by decide +kernel
theorem dX0_perform_37 : decode cX0_perform 37 = .ok (.getfield 40, 3) := by decide +kernel
theorem dX0_perform_40 : decode cX0_perform 40 = .ok (.istore_n 3, 1) := by decide +kernel
theorem dX0_perform_41 : decode cX0_perform 41 = .ok (.aload_n 2, 1) := by decide +kernel
theorem dX0_perform_42 : decode cX0_perform 42 = .ok (.iload_n 3, 1) := by decide +kernel
theorem dX0_perform_43 : decode cX0_perform 43 = .ok (.iconst 1, 1) := by decide +kernel
theorem dX0_perform_44 : decode cX0_perform 44 = .ok (.invokevirtual 45, 3) := by decide +kernel
theorem dX0_perform_47 : decode cX0_perform 47 = .ok (.ifCond .ne 5, 3) := by decide +kernel
theorem dX0_perform_50 : decode cX0_perform 50 = .ok (.iconst 2, 1) := by decide +kernel
theorem dX0_perform_51 : decode cX0_perform 51 = .ok (.ireturn, 1) := by decide +kernel
theorem dX0_perform_52 : decode cX0_perform 52 = .ok (.aload_n 0, 1) := by decide +kernel
theorem dX0_perform_53 : decode cX0_perform 53 = .ok (.aload_n 1, 1) := by decide +kernel
theorem dX0_perform_54 : decode cX0_perform 54 = .ok (.aload_n 0, 1) := by decide +kernel
theorem dX0_perform_55 : decode cX0_perform 55 = .ok (.getfield 49, 3) := by decide +kernel
theorem dX0_perform_58 : decode cX0_perform 58 = .ok (.aload_n 2, 1) := by decide +kernel
theorem dX0_perform_59 : decode cX0_perform 59 = .ok (.getfield 52, 3) := by decide +kernel
theorem dX0_perform_62 : decode cX0_perform 62 = .ok (.iload_n 3, 1) := by decide +kernel
theorem dX0_perform_63 : decode cX0_perform 63 = .ok (.iaload, 1) := by decide +kernel
theorem dX0_perform_64 : decode cX0_perform 64 = .ok (.iadd, 1) := by decide +kernel
theorem dX0_perform_65 : decode cX0_perform 65 = .ok (.iconst 3, 1) := by decide +kernel
theorem dX0_perform_66 : decode cX0_perform 66 = .ok (.iand, 1) := by decide +kernel
theorem dX0_perform_67 : decode cX0_perform 67 = .ok (.invokevirtual 56, 3) := by decide +kernel
theorem dX0_perform_70 : decode cX0_perform 70 = .ok (.ireturn, 1) := by decide +kernel
theorem dX1_init_0 : decode cX1_init 0 = .ok (.aload_n 0, 1) := by decide +kernel
theorem dX1_init_1 : decode cX1_init 1 = .ok (.iload_n 1, 1) := by decide +kernel
theorem dX1_init_2 : decode cX1_init 2 = .ok (.aload_n 2, 1) := by decide +kernel
theorem dX1_init_3 : decode cX1_init 3 = .ok (.invokespecial 3, 3) := by decide +kernel
theorem dX1_init_6 : decode cX1_init 6 = .ok (.aload_n 0, 1) := by decide +kernel
theorem dX1_init_7 : decode cX1_init 7 = .ok (.iload_n 3, 1) := by decide +kernel
theorem dX1_init_8 : decode cX1_init 8 = .ok (.putfield 9, 3) := by decide +kernel
theorem dX1_init_11 : decode cX1_init 11 = .ok (.aload_n 0, 1) := by decide +kernel
theorem dX1_init_12 : decode cX1_init 12 = .ok (.iload 4, 2) := by decide +kernel
theorem dX1_init_14 : decode cX1_init 14 = .ok (.putfield 15, 3) := by decide +kernel
theorem dX1_init_17 : decode cX1_init 17 = .ok (.aload_n 0, 1) := by decide +kernel
theorem dX1_init_18 : decode cX1_init 18 = .ok (.iload 5, 2) := by decide +kernel
theorem dX1_init_20 : decode cX1_init 20 = .ok (.putfield 18, 3) := by decide +kernel
theorem dX1_init_23 : decode cX1_init 23 = .ok (.return_, 1) := by decide +kernel
theorem dX1_ownKind_0 : decode cX1_ownKind 0 = .ok (.iconst 4, 1) := by decide +kernel
theorem dX1_ownKind_1 : decode cX1_ownKind 1 = .ok (.ireturn, 1) := by decide +kernel
theorem dX1_mark_0 : decode cX1_mark 0 = .ok (.aload_n 1, 1) := by decide +kernel
theorem dX1_mark_1 : decode cX1_mark 1 = .ok (.bipush 22, 2) := by decide +kernel
theorem dX1_mark_3 : decode cX1_mark 3 = .ok (.invokevirtual 21, 3) := by decide +kernel
theorem dX1_mark_6 : decode cX1_mark 6 = .ok (.aload_n 0, 1) := by decide +kernel
theorem dX1_mark_7 : decode cX1_mark 7 = .ok (.aload_n 1, 1) := by decide +kernel
theorem dX1_mark_8 : decode cX1_mark 8 = .ok (.invokespecial 25, 3) := by decide +kernel
theorem dX1_mark_11 : decode cX1_mark 11 = .ok (.aload_n 0, 1) := by decide +kernel
theorem dX1_mark_12 : decode cX1_mark 12 = .ok (.getfield 15, 3) := by decide +kernel
theorem dX1_mark_15 : decode cX1_mark 15 = .ok (.iadd, 1) := by decide +kernel
theorem dX1_mark_16 : decode cX1_mark 16 = .ok (.ireturn, 1) := by decide +kernel
theorem dX1_perform_0 : decode cX1_perform 0 = .ok (.aload_n 1, 1) := by decide +kernel
theorem dX1_perform_1 : decode cX1_perform 1 = .ok (.aload_n 0, 1) := by decide +kernel
theorem dX1_perform_2 : decode cX1_perform 2 = .ok (.getfield 9, 3) := by decide +kernel
theorem dX1_perform_5 : decode cX1_perform 5 = .ok (.aload_n 0, 1) := by decide +kernel
theorem dX1_perform_6 : decode cX1_perform 6 = .ok (.getfield 15, 3) := by decide +kernel
theorem dX1_perform_9 : decode cX1_perform 9 = .ok (.aload_n 0, 1) := by decide +kernel
theorem dX1_perform_10 : decode cX1_perform 10 = .ok (.getfield 18, 3) := by decide +kernel
theorem dX1_perform_13 : decode cX1_perform 13 = .ok (.invokevirtual 29, 3) := by decide +kernel
theorem dX1_perform_16 : decode cX1_perform 16 = .ok (.ifCond .eq 7, 3) := by decide +kernel
theorem dX1_perform_19 : decode cX1_perform 19 = .ok (.iconst 0, 1) := by decide +kernel
theorem dX1_perform_20 : decode cX1_perform 20 = .ok (.goto 5, 3) := by decide +kernel
theorem dX1_perform_23 : decode cX1_perform 23 = .ok (.ldc 33, 2) := by decide +kernel
theorem dX1_perform_25 : decode cX1_perform 25 = .ok (.ireturn, 1) := by decide +kernel
theorem dX2_init_0 : decode cX2_init 0 = .ok (.aload_n 0, 1) := by decide +kernel
theorem dX2_init_1 : decode cX2_init 1 = .ok (.iload_n 1, 1) := by decide +kernel
theorem dX2_init_2 : decode cX2_init 2 = .ok (.aload_n 2, 1) := by decide +kernel
theorem dX2_init_3 : decode cX2_init 3 = .ok (.invokespecial 3, 3) := by decide +kernel
theorem dX2_init_6 : decode cX2_init 6 = .ok (.return_, 1) := by decide +kernel
theorem dX2_ownKind_0 : decode cX2_ownKind 0 = .ok (.bipush 6, 2) := by decide +kernel
theorem dX2_ownKind_2 : decode cX2_ownKind 2 = .ok (.ireturn, 1) := by decide +kernel
theorem dX2_perform_0 : decode cX2_perform 0 = .ok (.aload_n 0, 1) := by decide +kernel
theorem dX2_perform_1 : decode cX2_perform 1 = .ok (.getfield 9, 3) := by decide +kernel
theorem dX2_perform_4 : decode cX2_perform 4 = .ok (.ifnull 46, 3) := by decide +kernel
theorem dX2_perform_7 : decode cX2_perform 7 = .ok (.aload_n 0, 1) := by decide +kernel
theorem dX2_perform_8 : decode cX2_perform 8 = .ok (.getfield 9, 3) := by decide +kernel
theorem dX2_perform_11 : decode cX2_perform 11 = .ok (.dup, 1) := by decide +kernel
theorem dX2_perform_12 : decode cX2_perform 12 = .ok (.getfield 15, 3) := by decide +kernel
theorem dX2_perform_15 : decode cX2_perform 15 = .ok (.iconst 1, 1) := by decide +kernel
theorem dX2_perform_16 : decode cX2_perform 16 = .ok (.iadd, 1) := by decide +kernel
theorem dX2_perform_17 : decode cX2_perform 17 = .ok (.putfield 15, 3) := by decide +kernel
theorem dX2_perform_20 : decode cX2_perform 20 = .ok (.aload_n 0, 1) := by decide +kernel
theorem dX2_perform_21 : decode cX2_perform 21 = .ok (.getfield 9, 3) := by decide +kernel
theorem dX2_perform_24 : decode cX2_perform 24 = .ok (.getfield 15, 3) := by decide +kernel
theorem dX2_perform_27 : decode cX2_perform 27 = .ok (.aload_n 0, 1) := by decide +kernel
theorem dX2_perform_28 : decode cX2_perform 28 = .ok (.getfield 9, 3) := by decide +kernel
theorem dX2_perform_31 : decode cX2_perform 31 = .ok (.getfield 21, 3) := by decide +kernel
theorem dX2_perform_34 : decode cX2_perform 34 = .ok (.if_icmp .ge 16, 3) := by decide +kernel
theorem dX2_perform_37 : decode cX2_perform 37 = .ok (.aload_n 1, 1) := by decide +kernel
theorem dX2_perform_38 : decode cX2_perform 38 = .ok (.aload_n 0, 1) := by decide +kernel
theorem dX2_perform_39 : decode cX2_perform 39 = .ok (.getfield 9, 3) := by decide +kernel
theorem dX2_perform_42 : decode cX2_perform 42 = .ok (.getfield 24, 3) := by decide +kernel
theorem dX2_perform_45 : decode cX2_perform 45 = .ok (.iconst 1, 1) := by decide +kernel
theorem dX2_perform_46 : decode cX2_perform 46 = .ok (.iadd, 1) := by decide +kernel
theorem dX2_perform_47 : decode cX2_perform 47 = .ok (.putfield 27, 3) := by decide +kernel
theorem dX2_perform_50 : decode cX2_perform 50 = .ok (.iconst 0, 1) := by decide +kernel
theorem dX2_perform_51 : decode cX2_perform 51 = .ok (.ireturn, 1) := by decide +kernel
theorem dX3_init_0 : decode cX3_init 0 = .ok (.aload_n 0, 1) := by decide +kernel
theorem dX3_init_1 : decode cX3_init 1 = .ok (.iload_n 1, 1) := by decide +kernel
theorem dX3_init_2 : decode cX3_init 2 = .ok (.aload_n 2, 1) := by decide +kernel
theorem dX3_init_3 : decode cX3_init 3 = .ok (.invokespecial 3, 3) := by decide +kernel
theorem dX3_init_6 : decode cX3_init 6 = .ok (.return_, 1) := by decide +kernel
theorem dX3_isOfKind_0 : decode cX3_isOfKind 0 = .ok (.iload_n 1, 1) := by decide +kernel
theorem dX3_isOfKind_1 : decode cX3_isOfKind 1 = .ok (.iconst 1, 1) := by decide +kernel
theorem dX3_isOfKind_2 : decode cX3_isOfKind 2 = .ok (.if_icmp .eq 11, 3) := by decide +kernel
theorem dX3_isOfKind_5 : decode cX3_isOfKind 5 = .ok (.aload_n 0, 1) := by decide +kernel
theorem dX3_isOfKind_6 : decode cX3_isOfKind 6 = .ok (.iload_n 1, 1) := by decide +kernel
theorem dX3_isOfKind_7 : decode cX3_isOfKind 7 = .ok (.invokespecial 9, 3) := by decide +kernel
theorem dX3_isOfKind_10 : decode cX3_isOfKind 10 = .ok (.ifCond .eq 7, 3) := by decide +kernel
theorem dX3_isOfKind_13 : decode cX3_isOfKind 13 = .ok (.iconst 1, 1) := by decide +kernel
theorem dX3_isOfKind_14 : decode cX3_isOfKind 14 = .ok (.goto 4, 3) := by decide +kernel
theorem dX3_isOfKind_17 : decode cX3_isOfKind 17 = .ok (.iconst 0, 1) := by decide +kernel
theorem dX3_isOfKind_18 : decode cX3_isOfKind 18 = .ok (.ireturn, 1) := by decide +kernel
theorem dX3_cost_0 : decode cX3_cost 0 = .ok (.aload_n 1, 1) := by decide +kernel
theorem dX3_cost_1 : decode cX3_cost 1 = .ok (.bipush 11, 2) := by decide +kernel
theorem dX3_cost_3 : decode cX3_cost 3 = .ok (.invokevirtual 13, 3) := by decide +kernel
theorem dX3_cost_6 : decode cX3_cost 6 = .ok (.aload_n 0, 1) := by decide +kernel
theorem dX3_cost_7 : decode cX3_cost 7 = .ok (.aload_n 1, 1) := by decide +kernel
theorem dX3_cost_8 : decode cX3_cost 8 = .ok (.invokespecial 17, 3) := by decide +kernel
theorem dX3_cost_11 : decode cX3_cost 11 = .ok (.iconst 1, 1) := by decide +kernel
theorem dX3_cost_12 : decode cX3_cost 12 = .ok (.iadd, 1) := by decide +kernel
theorem dX3_cost_13 : decode cX3_cost 13 = .ok (.ireturn, 1) := by decide +kernel
theorem dX3_mark_0 : decode cX3_mark 0 = .ok (.aload_n 1, 1) := by decide +kernel
theorem dX3_mark_1 : decode cX3_mark 1 = .ok (.bipush 21, 2) := by decide +kernel
theorem dX3_mark_3 : decode cX3_mark 3 = .ok (.invokevirtual 13, 3) := by decide +kernel
theorem dX3_mark_6 : decode cX3_mark 6 = .ok (.aload_n 0, 1) := by decide +kernel
theorem dX3_mark_7 : decode cX3_mark 7 = .ok (.aload_n 1, 1) := by decide +kernel
theorem dX3_mark_8 : decode cX3_mark 8 = .ok (.invokespecial 21, 3) := by decide +kernel
theorem dX3_mark_11 : decode cX3_mark 11 = .ok (.istore_n 2, 1) := by decide +kernel
theorem dX3_mark_12 : decode cX3_mark 12 = .ok (.iload_n 2, 1) := by decide +kernel
theorem dX3_mark_13 : decode cX3_mark 13 = .ok (.aload_n 0, 1) := by decide +kernel
theorem dX3_mark_14 : decode cX3_mark 14 = .ok (.aload_n 1, 1) := by decide +kernel
theorem dX3_mark_15 : decode cX3_mark 15 = .ok (.invokevirtual 24, 3) := by decide +kernel
theorem dX3_mark_18 : decode cX3_mark 18 = .ok (.iadd, 1) := by decide +kernel
theorem dX3_mark_19 : decode cX3_mark 19 = .ok (.ireturn, 1) := by decide +kernel
theorem dX4_init_0 : decode cX4_init 0 = .ok (.aload_n 0, 1) := by decide +kernel
theorem dX4_init_1 : decode cX4_init 1 = .ok (.invokespecial 5, 3) := by decide +kernel
theorem dX4_init_4 : decode cX4_init 4 = .ok (.aload_n 0, 1) := by decide +kernel
theorem dX4_init_5 : decode cX4_init 5 = .ok (.sipush 900, 3) := by decide +kernel
theorem dX4_init_8 : decode cX4_init 8 = .ok (.newarray .int, 2) := by decide +kernel
theorem dX4_init_10 : decode cX4_init 10 = .ok (.putfield 11, 3) := by decide +kernel
theorem dX4_init_13 : decode cX4_init 13 = .ok (.aload_n 0, 1) := by decide +kernel
theorem dX4_init_14 : decode cX4_init 14 = .ok (.sipush 900, 3) := by decide +kernel
theorem dX4_init_17 : decode cX4_init 17 = .ok (.newarray .long, 2) := by decide +kernel
theorem dX4_init_19 : decode cX4_init 19 = .ok (.putfield 15, 3) := by decide +kernel
theorem dX4_init_22 : decode cX4_init 22 = .ok (.aload_n 0, 1) := by decide +kernel
theorem dX4_init_23 : decode cX4_init 23 = .ok (.sipush 900, 3) := by decide +kernel
theorem dX4_init_26 : decode cX4_init 26 = .ok (.newarray .int, 2) := by decide +kernel
theorem dX4_init_28 : decode cX4_init 28 = .ok (.putfield 19, 3) := by decide +kernel
theorem dX4_init_31 : decode cX4_init 31 = .ok (.aload_n 0, 1) := by decide +kernel
theorem dX4_init_32 : decode cX4_init 32 = .ok (.sipush 900, 3) := by decide +kernel
theorem dX4_init_35 : decode cX4_init 35 = .ok (.newarray .long, 2) := by decide +kernel
theorem dX4_init_37 : decode cX4_init 37 = .ok (.putfield 22, 3) := by decide +kernel
theorem dX4_init_40 : decode cX4_init 40 = .ok (.aload_n 0, 1) := by decide +kernel
theorem dX4_init_41 : decode cX4_init 41 = .ok (.sipush 2048, 3) := by decide +kernel
theorem dX4_init_44 : decode cX4_init 44 = .ok (.newarray .int, 2) := by decide +kernel
theorem dX4_init_46 : decode cX4_init 46 = .ok (.putfield 25, 3) := by decide +kernel
theorem dX4_init_49 : decode cX4_init 49 = .ok (.aload_n 0, 1) := by decide +kernel
theorem dX4_init_50 : decode cX4_init 50 = .ok (.sipush 900, 3) := by decide +kernel
theorem dX4_init_53 : decode cX4_init 53 = .ok (.newarray .int, 2) := by decide +kernel
theorem dX4_init_55 : decode cX4_init 55 = .ok (.putfield 28, 3) := by decide +kernel
theorem dX4_init_58 : decode cX4_init 58 = .ok (.return_, 1) := by decide +kernel
theorem dX4_begin_0 : decode cX4_begin 0 = .ok (.iconst 0, 1) := by decide +kernel
theorem dX4_begin_1 : decode cX4_begin 1 = .ok (.istore_n 1, 1) := by decide +kernel
theorem dX4_begin_2 : decode cX4_begin 2 = .ok (.iload_n 1, 1) := by decide +kernel
theorem dX4_begin_3 : decode cX4_begin 3 = .ok (.aload_n 0, 1) := by decide +kernel
theorem dX4_begin_4 : decode cX4_begin 4 = .ok (.getfield 31, 3) := by decide +kernel
theorem dX4_begin_7 : decode cX4_begin 7 = .ok (.if_icmp .ge 21, 3) := by decide +kernel
theorem dX4_begin_10 : decode cX4_begin 10 = .ok (.aload_n 0, 1) := by decide +kernel
theorem dX4_begin_11 : decode cX4_begin 11 = .ok (.getfield 25, 3) := by decide +kernel
theorem dX4_begin_14 : decode cX4_begin 14 = .ok (.aload_n 0, 1) := by decide +kernel
theorem dX4_begin_15 : decode cX4_begin 15 = .ok (.getfield 28, 3) := by decide +kernel
theorem dX4_begin_18 : decode cX4_begin 18 = .ok (.iload_n 1, 1) := by decide +kernel
theorem dX4_begin_19 : decode cX4_begin 19 = .ok (.iaload, 1) := by decide +kernel
theorem dX4_begin_20 : decode cX4_begin 20 = .ok (.iconst 0, 1) := by decide +kernel
theorem dX4_begin_21 : decode cX4_begin 21 = .ok (.iastore, 1) := by decide +kernel
theorem dX4_begin_22 : decode cX4_begin 22 = .ok (.iinc 1 1, 3) := by decide +kernel
theorem dX4_begin_25 : decode cX4_begin 25 = .ok (.goto (-23), 3) := by decide +kernel
theorem dX4_begin_28 : decode cX4_begin 28 = .ok (.aload_n 0, 1) := by decide +kernel
theorem dX4_begin_29 : decode cX4_begin 29 = .ok (.iconst 0, 1) := by decide +kernel
theorem dX4_begin_30 : decode cX4_begin 30 = .ok (.putfield 31, 3) := by decide +kernel
theorem dX4_begin_33 : decode cX4_begin 33 = .ok (.aload_n 0, 1) := by decide +kernel
theorem dX4_begin_34 : decode cX4_begin 34 = .ok (.iconst 0, 1) := by decide +kernel
theorem dX4_begin_35 : decode cX4_begin 35 = .ok (.putfield 35, 3) := by decide +kernel
theorem dX4_begin_38 : decode cX4_begin 38 = .ok (.return_, 1) := by decide +kernel
theorem dX4_put_0 : decode cX4_put 0 = .ok (.iload_n 1, 1) := by decide +kernel
theorem dX4_put_1 : decode cX4_put 1 = .ok (.ldc 38, 2) := by decide +kernel
theorem dX4_put_3 : decode cX4_put 3 = .ok (.imul, 1) := by decide +kernel
theorem dX4_put_4 : decode cX4_put 4 = .ok (.bipush 21, 2) := by decide +kernel
theorem dX4_put_6 : decode cX4_put 6 = .ok (.iushr, 1) := by decide +kernel
theorem dX4_put_7 : decode cX4_put 7 = .ok (.istore 4, 2) := by decide +kernel
theorem dX4_put_9 : decode cX4_put 9 = .ok (.iconst 0, 1) := by decide +kernel
theorem dX4_put_10 : decode cX4_put 10 = .ok (.istore 5, 2) := by decide +kernel
theorem dX4_put_12 : decode cX4_put 12 = .ok (.iload 5, 2) := by decide +kernel
theorem dX4_put_14 : decode cX4_put 14 = .ok (.sipush 2048, 3) := by decide +kernel
theorem dX4_put_17 : decode cX4_put 17 = .ok (.if_icmp .ge 67, 3) := by decide +kernel
theorem dX4_put_20 : decode cX4_put 20 = .ok (.aload_n 0, 1) := by decide +kernel
theorem dX4_put_21 : decode cX4_put 21 = .ok (.getfield 25, 3) := by decide +kernel
theorem dX4_put_24 : decode cX4_put 24 = .ok (.iload 4, 2) := by decide +kernel
theorem dX4_put_26 : decode cX4_put 26 = .ok (.iaload, 1) := by decide +kernel
theorem dX4_put_27 : decode cX4_put 27 = .ok (.iconst 1, 1) := by decide +kernel
theorem dX4_put_28 : decode cX4_put 28 = .ok (.isub, 1) := by decide +kernel
theorem dX4_put_29 : decode cX4_put 29 = .ok (.istore 6, 2) := by decide +kernel
theorem dX4_put_31 : decode cX4_put 31 = .ok (.iload 6, 2) := by decide +kernel
theorem dX4_put_33 : decode cX4_put 33 = .ok (.ifCond .ge 12, 3) := by decide +kernel
theorem dX4_put_36 : decode cX4_put 36 = .ok (.aload_n 0, 1) := by decide +kernel
theorem dX4_put_37 : decode cX4_put 37 = .ok (.iload 4, 2) := by decide +kernel
theorem dX4_put_39 : decode cX4_put 39 = .ok (.iload_n 1, 1) := by decide +kernel
theorem dX4_put_40 : decode cX4_put 40 = .ok (.lload_n 2, 1) := by decide +kernel
theorem dX4_put_41 : decode cX4_put 41 = .ok (.invokevirtual 39, 3) := by decide +kernel
theorem dX4_put_44 : decode cX4_put 44 = .ok (.return_, 1) := by decide +kernel
theorem dX4_put_45 : decode cX4_put 45 = .ok (.aload_n 0, 1) := by decide +kernel
theorem dX4_put_46 : decode cX4_put 46 = .ok (.getfield 11, 3) := by decide +kernel
theorem dX4_put_49 : decode cX4_put 49 = .ok (.iload 6, 2) := by decide +kernel
theorem dX4_put_51 : decode cX4_put 51 = .ok (.iaload, 1) := by decide +kernel
theorem dX4_put_52 : decode cX4_put 52 = .ok (.iload_n 1, 1) := by decide +kernel
theorem dX4_put_53 : decode cX4_put 53 = .ok (.if_icmp .ne 15, 3) := by decide +kernel
theorem dX4_put_56 : decode cX4_put 56 = .ok (.aload_n 0, 1) := by decide +kernel
theorem dX4_put_57 : decode cX4_put 57 = .ok (.getfield 15, 3) := by decide +kernel
theorem dX4_put_60 : decode cX4_put 60 = .ok (.iload 6, 2) := by decide +kernel
theorem dX4_put_62 : decode cX4_put 62 = .ok (.dup2, 1) := by decide +kernel
theorem dX4_put_63 : decode cX4_put 63 = .ok (.laload, 1) := by decide +kernel
theorem dX4_put_64 : decode cX4_put 64 = .ok (.lload_n 2, 1) := by decide +kernel
theorem dX4_put_65 : decode cX4_put 65 = .ok (.ladd, 1) := by decide +kernel
theorem dX4_put_66 : decode cX4_put 66 = .ok (.lastore, 1) := by decide +kernel
theorem dX4_put_67 : decode cX4_put 67 = .ok (.return_, 1) := by decide +kernel
theorem dX4_put_68 : decode cX4_put 68 = .ok (.iload 4, 2) := by decide +kernel
theorem dX4_put_70 : decode cX4_put 70 = .ok (.iconst 1, 1) := by decide +kernel
theorem dX4_put_71 : decode cX4_put 71 = .ok (.iadd, 1) := by decide +kernel
theorem dX4_put_72 : decode cX4_put 72 = .ok (.sipush 2047, 3) := by decide +kernel
theorem dX4_put_75 : decode cX4_put 75 = .ok (.iand, 1) := by decide +kernel
theorem dX4_put_76 : decode cX4_put 76 = .ok (.istore 4, 2) := by decide +kernel
theorem dX4_put_78 : decode cX4_put 78 = .ok (.iinc 5 1, 3) := by decide +kernel
theorem dX4_put_81 : decode cX4_put 81 = .ok (.goto (-69), 3) := by decide +kernel
theorem dX4_put_84 : decode cX4_put 84 = .ok (.return_, 1) := by decide +kernel
theorem dX4_enter_0 : decode cX4_enter 0 = .ok (.aload_n 0, 1) := by decide +kernel
theorem dX4_enter_1 : decode cX4_enter 1 = .ok (.getfield 35, 3) := by decide +kernel
theorem dX4_enter_4 : decode cX4_enter 4 = .ok (.sipush 900, 3) := by decide +kernel
theorem dX4_enter_7 : decode cX4_enter 7 = .ok (.if_icmp .ge 13, 3) := by decide +kernel
theorem dX4_enter_10 : decode cX4_enter 10 = .ok (.aload_n 0, 1) := by decide +kernel
theorem dX4_enter_11 : decode cX4_enter 11 = .ok (.getfield 31, 3) := by decide +kernel
theorem dX4_enter_14 : decode cX4_enter 14 = .ok (.sipush 900, 3) := by decide +kernel
theorem dX4_enter_17 : decode cX4_enter 17 = .ok (.if_icmp .lt 4, 3) := by decide +kernel
theorem dX4_enter_20 : decode cX4_enter 20 = .ok (.return_, 1) := by decide +kernel
theorem dX4_enter_21 : decode cX4_enter 21 = .ok (.aload_n 0, 1) := by decide +kernel
theorem dX4_enter_22 : decode cX4_enter 22 = .ok (.getfield 28, 3) := by decide +kernel
theorem dX4_enter_25 : decode cX4_enter 25 = .ok (.aload_n 0, 1) := by decide +kernel
theorem dX4_enter_26 : decode cX4_enter 26 = .ok (.getfield 31, 3) := by decide +kernel
theorem dX4_enter_29 : decode cX4_enter 29 = .ok (.iload_n 1, 1) := by decide +kernel
theorem dX4_enter_30 : decode cX4_enter 30 = .ok (.iastore, 1) := by decide +kernel
theorem dX4_enter_31 : decode cX4_enter 31 = .ok (.aload_n 0, 1) := by decide +kernel
theorem dX4_enter_32 : decode cX4_enter 32 = .ok (.dup, 1) := by decide +kernel
theorem dX4_enter_33 : decode cX4_enter 33 = .ok (.getfield 31, 3) := by decide +kernel
theorem dX4_enter_36 : decode cX4_enter 36 = .ok (.iconst 1, 1) := by decide +kernel
theorem dX4_enter_37 : decode cX4_enter 37 = .ok (.iadd, 1) := by decide +kernel
theorem dX4_enter_38 : decode cX4_enter 38 = .ok (.putfield 31, 3) := by decide +kernel
theorem dX4_enter_41 : decode cX4_enter 41 = .ok (.aload_n 0, 1) := by decide +kernel
theorem dX4_enter_42 : decode cX4_enter 42 = .ok (.getfield 11, 3) := by decide +kernel
theorem dX4_enter_45 : decode cX4_enter 45 = .ok (.aload_n 0, 1) := by decide +kernel
theorem dX4_enter_46 : decode cX4_enter 46 = .ok (.getfield 35, 3) := by decide +kernel
theorem dX4_enter_49 : decode cX4_enter 49 = .ok (.iload_n 2, 1) := by decide +kernel
theorem dX4_enter_50 : decode cX4_enter 50 = .ok (.iastore, 1) := by decide +kernel
theorem dX4_enter_51 : decode cX4_enter 51 = .ok (.aload_n 0, 1) := by decide +kernel
theorem dX4_enter_52 : decode cX4_enter 52 = .ok (.getfield 15, 3) := by decide +kernel
theorem dX4_enter_55 : decode cX4_enter 55 = .ok (.aload_n 0, 1) := by decide +kernel
theorem dX4_enter_56 : decode cX4_enter 56 = .ok (.getfield 35, 3) := by decide +kernel
theorem dX4_enter_59 : decode cX4_enter 59 = .ok (.lload_n 3, 1) := by decide +kernel
theorem dX4_enter_60 : decode cX4_enter 60 = .ok (.lastore, 1) := by decide +kernel
theorem dX4_enter_61 : decode cX4_enter 61 = .ok (.aload_n 0, 1) := by decide +kernel
theorem dX4_enter_62 : decode cX4_enter 62 = .ok (.dup, 1) := by decide +kernel
theorem dX4_enter_63 : decode cX4_enter 63 = .ok (.getfield 35, 3) := by decide +kernel
theorem dX4_enter_66 : decode cX4_enter 66 = .ok (.iconst 1, 1) := by decide +kernel
theorem dX4_enter_67 : decode cX4_enter 67 = .ok (.iadd, 1) := by decide +kernel
theorem dX4_enter_68 : decode cX4_enter 68 = .ok (.putfield 35, 3) := by decide +kernel
theorem dX4_enter_71 : decode cX4_enter 71 = .ok (.aload_n 0, 1) := by decide +kernel
theorem dX4_enter_72 : decode cX4_enter 72 = .ok (.getfield 25, 3) := by decide +kernel
theorem dX4_enter_75 : decode cX4_enter 75 = .ok (.iload_n 1, 1) := by decide +kernel
theorem dX4_enter_76 : decode cX4_enter 76 = .ok (.aload_n 0, 1) := by decide +kernel
theorem dX4_enter_77 : decode cX4_enter 77 = .ok (.getfield 35, 3) := by decide +kernel
theorem dX4_enter_80 : decode cX4_enter 80 = .ok (.iastore, 1) := by decide +kernel
theorem dX4_enter_81 : decode cX4_enter 81 = .ok (.return_, 1) := by decide +kernel
theorem dX4_putSum_0 : decode cX4_putSum 0 = .ok (.iconst 0, 1) := by decide +kernel
theorem dX4_putSum_1 : decode cX4_putSum 1 = .ok (.istore_n 3, 1) := by decide +kernel
theorem dX4_putSum_2 : decode cX4_putSum 2 = .ok (.iload_n 3, 1) := by decide +kernel
theorem dX4_putSum_3 : decode cX4_putSum 3 = .ok (.aload_n 1, 1) := by decide +kernel
theorem dX4_putSum_4 : decode cX4_putSum 4 = .ok (.getfield 43, 3) := by decide +kernel
theorem dX4_putSum_7 : decode cX4_putSum 7 = .ok (.if_icmp .ge 28, 3) := by decide +kernel
theorem dX4_putSum_10 : decode cX4_putSum 10 = .ok (.aload_n 0, 1) := by decide +kernel
theorem dX4_putSum_11 : decode cX4_putSum 11 = .ok (.aload_n 1, 1) := by decide +kernel
theorem dX4_putSum_12 : decode cX4_putSum 12 = .ok (.getfield 46, 3) := by decide +kernel
theorem dX4_putSum_15 : decode cX4_putSum 15 = .ok (.iload_n 3, 1) := by decide +kernel
theorem dX4_putSum_16 : decode cX4_putSum 16 = .ok (.iaload, 1) := by decide +kernel
theorem dX4_putSum_17 : decode cX4_putSum 17 = .ok (.aload_n 1, 1) := by decide +kernel
theorem dX4_putSum_18 : decode cX4_putSum 18 = .ok (.getfield 47, 3) := by decide +kernel
theorem dX4_putSum_21 : decode cX4_putSum 21 = .ok (.iload_n 3, 1) := by decide +kernel
theorem dX4_putSum_22 : decode cX4_putSum 22 = .ok (.laload, 1) := by decide +kernel
theorem dX4_putSum_23 : decode cX4_putSum 23 = .ok (.iload_n 2, 1) := by decide +kernel
theorem dX4_putSum_24 : decode cX4_putSum 24 = .ok (.i2l, 1) := by decide +kernel
theorem dX4_putSum_25 : decode cX4_putSum 25 = .ok (.lmul, 1) := by decide +kernel
theorem dX4_putSum_26 : decode cX4_putSum 26 = .ok (.invokevirtual 48, 3) := by decide +kernel
theorem dX4_putSum_29 : decode cX4_putSum 29 = .ok (.iinc 3 1, 3) := by decide +kernel
theorem dX4_putSum_32 : decode cX4_putSum 32 = .ok (.goto (-30), 3) := by decide +kernel
theorem dX4_putSum_35 : decode cX4_putSum 35 = .ok (.return_, 1) := by decide +kernel
theorem dX4_putTimesSine_0 : decode cX4_putTimesSine 0 = .ok (.iload_n 2, 1) := by decide +kernel
theorem dX4_putTimesSine_1 : decode cX4_putTimesSine 1 = .ok (.invokestatic 52, 3) := by decide +kernel
theorem dX4_putTimesSine_4 : decode cX4_putTimesSine 4 = .ok (.istore 5, 2) := by decide +kernel
theorem dX4_putTimesSine_6 : decode cX4_putTimesSine 6 = .ok (.iload_n 1, 1) := by decide +kernel
theorem dX4_putTimesSine_7 : decode cX4_putTimesSine 7 = .ok (.iload 5, 2) := by decide +kernel
theorem dX4_putTimesSine_9 : decode cX4_putTimesSine 9 = .ok (.iand, 1) := by decide +kernel
theorem dX4_putTimesSine_10 : decode cX4_putTimesSine 10 = .ok (.ifCond .ne 15, 3) := by decide +kernel
theorem dX4_putTimesSine_13 : decode cX4_putTimesSine 13 = .ok (.aload_n 0, 1) := by decide +kernel
theorem dX4_putTimesSine_14 : decode cX4_putTimesSine 14 = .ok (.iload_n 1, 1) := by decide +kernel
theorem dX4_putTimesSine_15 : decode cX4_putTimesSine 15 = .ok (.iload 5, 2) := by decide +kernel
theorem dX4_putTimesSine_17 : decode cX4_putTimesSine 17 = .ok (.iadd, 1) := by decide +kernel
theorem dX4_putTimesSine_18 : decode cX4_putTimesSine 18 = .ok (.lload_n 3, 1) := by decide +kernel
theorem dX4_putTimesSine_19 : decode cX4_putTimesSine 19 = .ok (.invokevirtual 48, 3) := by decide +kernel
theorem dX4_putTimesSine_22 : decode cX4_putTimesSine 22 = .ok (.goto 29, 3) := by decide +kernel
theorem dX4_putTimesSine_25 : decode cX4_putTimesSine 25 = .ok (.aload_n 0, 1) := by decide +kernel
theorem dX4_putTimesSine_26 : decode cX4_putTimesSine 26 = .ok (.iload_n 1, 1) := by decide +kernel
theorem dX4_putTimesSine_27 : decode cX4_putTimesSine 27 = .ok (.iload 5, 2) := by decide +kernel
theorem dX4_putTimesSine_29 : decode cX4_putTimesSine 29 = .ok (.isub, 1) := by decide +kernel
theorem dX4_putTimesSine_30 : decode cX4_putTimesSine 30 = .ok (.lload_n 3, 1) := by decide +kernel
theorem dX4_putTimesSine_31 : decode cX4_putTimesSine 31 = .ok (.invokevirtual 48, 3) := by decide +kernel
theorem dX4_putTimesSine_34 : decode cX4_putTimesSine 34 = .ok (.aload_n 0, 1) := by decide +kernel
theorem dX4_putTimesSine_35 : decode cX4_putTimesSine 35 = .ok (.iload_n 1, 1) := by decide +kernel
theorem dX4_putTimesSine_36 : decode cX4_putTimesSine 36 = .ok (.iload 5, 2) := by decide +kernel
theorem dX4_putTimesSine_38 : decode cX4_putTimesSine 38 = .ok (.isub, 1) := by decide +kernel
theorem dX4_putTimesSine_39 : decode cX4_putTimesSine 39 = .ok (.iconst 2, 1) := by decide +kernel
theorem dX4_putTimesSine_40 : decode cX4_putTimesSine 40 = .ok (.iload_n 2, 1) := by decide +kernel
theorem dX4_putTimesSine_41 : decode cX4_putTimesSine 41 = .ok (.invokestatic 56, 3) := by decide +kernel
theorem dX4_putTimesSine_44 : decode cX4_putTimesSine 44 = .ok (.imul, 1) := by decide +kernel
theorem dX4_putTimesSine_45 : decode cX4_putTimesSine 45 = .ok (.iadd, 1) := by decide +kernel
theorem dX4_putTimesSine_46 : decode cX4_putTimesSine 46 = .ok (.lload_n 3, 1) := by decide +kernel
theorem dX4_putTimesSine_47 : decode cX4_putTimesSine 47 = .ok (.lneg, 1) := by decide +kernel
theorem dX4_putTimesSine_48 : decode cX4_putTimesSine 48 = .ok (.invokevirtual 48, 3) := by decide +kernel
theorem dX4_putTimesSine_51 : decode cX4_putTimesSine 51 = .ok (.return_, 1) := by decide +kernel
theorem dX4_joinSums_0 : decode cX4_joinSums 0 = .ok (.aload_n 0, 1) := by decide +kernel
theorem dX4_joinSums_1 : decode cX4_joinSums 1 = .ok (.invokevirtual 59, 3) := by decide +kernel
theorem dX4_joinSums_4 : decode cX4_joinSums 4 = .ok (.aload_n 0, 1) := by decide +kernel
theorem dX4_joinSums_5 : decode cX4_joinSums 5 = .ok (.aload_n 1, 1) := by decide +kernel
theorem dX4_joinSums_6 : decode cX4_joinSums 6 = .ok (.iconst 1, 1) := by decide +kernel
theorem dX4_joinSums_7 : decode cX4_joinSums 7 = .ok (.invokevirtual 62, 3) := by decide +kernel
theorem dX4_joinSums_10 : decode cX4_joinSums 10 = .ok (.aload_n 0, 1) := by decide +kernel
theorem dX4_joinSums_11 : decode cX4_joinSums 11 = .ok (.aload_n 2, 1) := by decide +kernel
theorem dX4_joinSums_12 : decode cX4_joinSums 12 = .ok (.iload_n 3, 1) := by decide +kernel
theorem dX4_joinSums_13 : decode cX4_joinSums 13 = .ok (.invokevirtual 62, 3) := by decide +kernel
theorem dX4_joinSums_16 : decode cX4_joinSums 16 = .ok (.aload_n 0, 1) := by decide +kernel
theorem dX4_joinSums_17 : decode cX4_joinSums 17 = .ok (.aload_n 1, 1) := by decide +kernel
theorem dX4_joinSums_18 : decode cX4_joinSums 18 = .ok (.invokevirtual 66, 3) := by decide +kernel
theorem dX4_joinSums_21 : decode cX4_joinSums 21 = .ok (.ireturn, 1) := by decide +kernel
theorem dX4_multiply_0 : decode cX4_multiply 0 = .ok (.aload_n 0, 1) := by decide +kernel
theorem dX4_multiply_1 : decode cX4_multiply 1 = .ok (.invokevirtual 59, 3) := by decide +kernel
theorem dX4_multiply_4 : decode cX4_multiply 4 = .ok (.iconst 0, 1) := by decide +kernel
theorem dX4_multiply_5 : decode cX4_multiply 5 = .ok (.istore 4, 2) := by decide +kernel
theorem dX4_multiply_7 : decode cX4_multiply 7 = .ok (.iload 4, 2) := by decide +kernel
theorem dX4_multiply_9 : decode cX4_multiply 9 = .ok (.aload_n 2, 1) := by decide +kernel
theorem dX4_multiply_10 : decode cX4_multiply 10 = .ok (.getfield 43, 3) := by decide +kernel
theorem dX4_multiply_13 : decode cX4_multiply 13 = .ok (.if_icmp .ge 111, 3) := by decide +kernel
theorem dX4_multiply_16 : decode cX4_multiply 16 = .ok (.iconst 0, 1) := by decide +kernel
theorem dX4_multiply_17 : decode cX4_multiply 17 = .ok (.istore 5, 2) := by decide +kernel
theorem dX4_multiply_19 : decode cX4_multiply 19 = .ok (.iload 5, 2) := by decide +kernel
theorem dX4_multiply_21 : decode cX4_multiply 21 = .ok (.aload_n 3, 1) := by decide +kernel
theorem dX4_multiply_22 : decode cX4_multiply 22 = .ok (.getfield 43, 3) := by decide +kernel
theorem dX4_multiply_25 : decode cX4_multiply 25 = .ok (.if_icmp .ge 93, 3) := by decide +kernel
theorem dX4_multiply_28 : decode cX4_multiply 28 = .ok (.aload_n 2, 1) := by decide +kernel
theorem dX4_multiply_29 : decode cX4_multiply 29 = .ok (.getfield 46, 3) := by decide +kernel
theorem dX4_multiply_32 : decode cX4_multiply 32 = .ok (.iload 4, 2) := by decide +kernel
theorem dX4_multiply_34 : decode cX4_multiply 34 = .ok (.iaload, 1) := by decide +kernel
theorem dX4_multiply_35 : decode cX4_multiply 35 = .ok (.invokestatic 70, 3) := by decide +kernel
theorem dX4_multiply_38 : decode cX4_multiply 38 = .ok (.aload_n 3, 1) := by decide +kernel
theorem dX4_multiply_39 : decode cX4_multiply 39 = .ok (.getfield 46, 3) := by decide +kernel
theorem dX4_multiply_42 : decode cX4_multiply 42 = .ok (.iload 5, 2) := by decide +kernel
theorem dX4_multiply_44 : decode cX4_multiply 44 = .ok (.iaload, 1) := by decide +kernel
theorem dX4_multiply_45 : decode cX4_multiply 45 = .ok (.invokestatic 70, 3) := by decide +kernel
theorem dX4_multiply_48 : decode cX4_multiply 48 = .ok (.if_icmp .eq 6, 3) := by decide +kernel
theorem dX4_multiply_51 : decode cX4_multiply 51 = .ok (.goto 61, 3) := by decide +kernel
theorem dX4_multiply_54 : decode cX4_multiply 54 = .ok (.aload_n 2, 1) := by decide +kernel
theorem dX4_multiply_55 : decode cX4_multiply 55 = .ok (.getfield 47, 3) := by decide +kernel
theorem dX4_multiply_58 : decode cX4_multiply 58 = .ok (.iload 4, 2) := by decide +kernel
theorem dX4_multiply_60 : decode cX4_multiply 60 = .ok (.laload, 1) := by decide +kernel
theorem dX4_multiply_61 : decode cX4_multiply 61 = .ok (.aload_n 3, 1) := by decide +kernel
theorem dX4_multiply_62 : decode cX4_multiply 62 = .ok (.getfield 47, 3) := by decide +kernel
theorem dX4_multiply_65 : decode cX4_multiply 65 = .ok (.iload 5, 2) := by decide +kernel
theorem dX4_multiply_67 : decode cX4_multiply 67 = .ok (.laload, 1) := by decide +kernel
theorem dX4_multiply_68 : decode cX4_multiply 68 = .ok (.invokestatic 73, 3) := by decide +kernel
theorem dX4_multiply_71 : decode cX4_multiply 71 = .ok (.ifCond .ne 39, 3) := by decide +kernel
theorem dX4_multiply_74 : decode cX4_multiply 74 = .ok (.aload_n 0, 1) := by decide +kernel
theorem dX4_multiply_75 : decode cX4_multiply 75 = .ok (.aload_n 2, 1) := by decide +kernel
theorem dX4_multiply_76 : decode cX4_multiply 76 = .ok (.getfield 46, 3) := by decide +kernel
theorem dX4_multiply_79 : decode cX4_multiply 79 = .ok (.iload 4, 2) := by decide +kernel
theorem dX4_multiply_81 : decode cX4_multiply 81 = .ok (.iaload, 1) := by decide +kernel
theorem dX4_multiply_82 : decode cX4_multiply 82 = .ok (.aload_n 3, 1) := by decide +kernel
theorem dX4_multiply_83 : decode cX4_multiply 83 = .ok (.getfield 46, 3) := by decide +kernel
theorem dX4_multiply_86 : decode cX4_multiply 86 = .ok (.iload 5, 2) := by decide +kernel
theorem dX4_multiply_88 : decode cX4_multiply 88 = .ok (.iaload, 1) := by decide +kernel
theorem dX4_multiply_89 : decode cX4_multiply 89 = .ok (.aload_n 2, 1) := by decide +kernel
theorem dX4_multiply_90 : decode cX4_multiply 90 = .ok (.getfield 47, 3) := by decide +kernel
theorem dX4_multiply_93 : decode cX4_multiply 93 = .ok (.iload 4, 2) := by decide +kernel
theorem dX4_multiply_95 : decode cX4_multiply 95 = .ok (.laload, 1) := by decide +kernel
theorem dX4_multiply_96 : decode cX4_multiply 96 = .ok (.aload_n 3, 1) := by decide +kernel
theorem dX4_multiply_97 : decode cX4_multiply 97 = .ok (.getfield 47, 3) := by decide +kernel
theorem dX4_multiply_100 : decode cX4_multiply 100 = .ok (.iload 5, 2) := by decide +kernel
theorem dX4_multiply_102 : decode cX4_multiply 102 = .ok (.laload, 1) := by decide +kernel
theorem dX4_multiply_103 : decode cX4_multiply 103 = .ok (.lmul, 1) := by decide +kernel
theorem dX4_multiply_104 : decode cX4_multiply 104 = .ok (.invokevirtual 77, 3) := by decide +kernel
theorem dX4_multiply_107 : decode cX4_multiply 107 = .ok (.ifCond .ne 5, 3) := by decide +kernel
theorem dX4_multiply_110 : decode cX4_multiply 110 = .ok (.iconst 0, 1) := by decide +kernel
theorem dX4_multiply_111 : decode cX4_multiply 111 = .ok (.ireturn, 1) := by decide +kernel
theorem dX4_multiply_112 : decode cX4_multiply 112 = .ok (.iinc 5 1, 3) := by decide +kernel
theorem dX4_multiply_115 : decode cX4_multiply 115 = .ok (.goto (-96), 3) := by decide +kernel
theorem dX4_multiply_118 : decode cX4_multiply 118 = .ok (.iinc 4 1, 3) := by decide +kernel
theorem dX4_multiply_121 : decode cX4_multiply 121 = .ok (.goto (-114), 3) := by decide +kernel
theorem dX4_multiply_124 : decode cX4_multiply 124 = .ok (.aload_n 0, 1) := by decide +kernel
theorem dX4_multiply_125 : decode cX4_multiply 125 = .ok (.aload_n 1, 1) := by decide +kernel
theorem dX4_multiply_126 : decode cX4_multiply 126 = .ok (.invokevirtual 66, 3) := by decide +kernel
theorem dX4_multiply_129 : decode cX4_multiply 129 = .ok (.ireturn, 1) := by decide +kernel
theorem dX4_isBeyond_0 : decode cX4_isBeyond 0 = .ok (.lload_n 2, 1) := by decide +kernel
theorem dX4_isBeyond_1 : decode cX4_isBeyond 1 = .ok (.lconst 0, 1) := by decide +kernel
theorem dX4_isBeyond_2 : decode cX4_isBeyond 2 = .ok (.lcmp, 1) := by decide +kernel
theorem dX4_isBeyond_3 : decode cX4_isBeyond 3 = .ok (.ifCond .eq 23, 3) := by decide +kernel
theorem dX4_isBeyond_6 : decode cX4_isBeyond 6 = .ok (.lload_n 0, 1) := by decide +kernel
theorem dX4_isBeyond_7 : decode cX4_isBeyond 7 = .ok (.invokestatic 81, 3) := by decide +kernel
theorem dX4_isBeyond_10 : decode cX4_isBeyond 10 = .ok (.ldc2_w 87, 3) := by decide +kernel
theorem dX4_isBeyond_13 : decode cX4_isBeyond 13 = .ok (.lload_n 2, 1) := by decide +kernel
theorem dX4_isBeyond_14 : decode cX4_isBeyond 14 = .ok (.invokestatic 81, 3) := by decide +kernel
theorem dX4_isBeyond_17 : decode cX4_isBeyond 17 = .ok (.ldiv, 1) := by decide +kernel
theorem dX4_isBeyond_18 : decode cX4_isBeyond 18 = .ok (.lcmp, 1) := by decide +kernel
theorem dX4_isBeyond_19 : decode cX4_isBeyond 19 = .ok (.ifCond .le 7, 3) := by decide +kernel
theorem dX4_isBeyond_22 : decode cX4_isBeyond 22 = .ok (.iconst 1, 1) := by decide +kernel
theorem dX4_isBeyond_23 : decode cX4_isBeyond 23 = .ok (.goto 4, 3) := by decide +kernel
theorem dX4_isBeyond_26 : decode cX4_isBeyond 26 = .ok (.iconst 0, 1) := by decide +kernel
theorem dX4_isBeyond_27 : decode cX4_isBeyond 27 = .ok (.ireturn, 1) := by decide +kernel
theorem dX4_putRows_0 : decode cX4_putRows 0 = .ok (.iconst 0, 1) := by decide +kernel
theorem dX4_putRows_1 : decode cX4_putRows 1 = .ok (.istore 5, 2) := by decide +kernel
theorem dX4_putRows_3 : decode cX4_putRows 3 = .ok (.iconst 0, 1) := by decide +kernel
theorem dX4_putRows_4 : decode cX4_putRows 4 = .ok (.istore 6, 2) := by decide +kernel
theorem dX4_putRows_6 : decode cX4_putRows 6 = .ok (.iconst 0, 1) := by decide +kernel
theorem dX4_putRows_7 : decode cX4_putRows 7 = .ok (.istore 7, 2) := by decide +kernel
theorem dX4_putRows_9 : decode cX4_putRows 9 = .ok (.iload 7, 2) := by decide +kernel
theorem dX4_putRows_11 : decode cX4_putRows 11 = .ok (.iconst 4, 1) := by decide +kernel
theorem dX4_putRows_12 : decode cX4_putRows 12 = .ok (.if_icmp .ge 89, 3) := by decide +kernel
theorem dX4_putRows_15 : decode cX4_putRows 15 = .ok (.iload_n 1, 1) := by decide +kernel
theorem dX4_putRows_16 : decode cX4_putRows 16 = .ok (.iload 7, 2) := by decide +kernel
theorem dX4_putRows_18 : decode cX4_putRows 18 = .ok (.invokestatic 89, 3) := by decide +kernel
theorem dX4_putRows_21 : decode cX4_putRows 21 = .ok (.iload_n 2, 1) := by decide +kernel
theorem dX4_putRows_22 : decode cX4_putRows 22 = .ok (.iload 7, 2) := by decide +kernel
theorem dX4_putRows_24 : decode cX4_putRows 24 = .ok (.invokestatic 89, 3) := by decide +kernel
theorem dX4_putRows_27 : decode cX4_putRows 27 = .ok (.iadd, 1) := by decide +kernel
theorem dX4_putRows_28 : decode cX4_putRows 28 = .ok (.istore 8, 2) := by decide +kernel
theorem dX4_putRows_30 : decode cX4_putRows 30 = .ok (.iload_n 1, 1) := by decide +kernel
theorem dX4_putRows_31 : decode cX4_putRows 31 = .ok (.iload 7, 2) := by decide +kernel
theorem dX4_putRows_33 : decode cX4_putRows 33 = .ok (.invokestatic 93, 3) := by decide +kernel
theorem dX4_putRows_36 : decode cX4_putRows 36 = .ok (.iload_n 2, 1) := by decide +kernel
theorem dX4_putRows_37 : decode cX4_putRows 37 = .ok (.iload 7, 2) := by decide +kernel
theorem dX4_putRows_39 : decode cX4_putRows 39 = .ok (.invokestatic 93, 3) := by decide +kernel
theorem dX4_putRows_42 : decode cX4_putRows 42 = .ok (.iadd, 1) := by decide +kernel
theorem dX4_putRows_43 : decode cX4_putRows 43 = .ok (.istore 9, 2) := by decide +kernel
theorem dX4_putRows_45 : decode cX4_putRows 45 = .ok (.iload 8, 2) := by decide +kernel
theorem dX4_putRows_47 : decode cX4_putRows 47 = .ok (.iload 9, 2) := by decide +kernel
theorem dX4_putRows_49 : decode cX4_putRows 49 = .ok (.iconst 2, 1) := by decide +kernel
theorem dX4_putRows_50 : decode cX4_putRows 50 = .ok (.iand, 1) := by decide +kernel
theorem dX4_putRows_51 : decode cX4_putRows 51 = .ok (.iadd, 1) := by decide +kernel
theorem dX4_putRows_52 : decode cX4_putRows 52 = .ok (.bipush 12, 2) := by decide +kernel
theorem dX4_putRows_54 : decode cX4_putRows 54 = .ok (.if_icmp .le 5, 3) := by decide +kernel
theorem dX4_putRows_57 : decode cX4_putRows 57 = .ok (.iconst 0, 1) := by decide +kernel
theorem dX4_putRows_58 : decode cX4_putRows 58 = .ok (.ireturn, 1) := by decide +kernel
theorem dX4_putRows_59 : decode cX4_putRows 59 = .ok (.iload 5, 2) := by decide +kernel
theorem dX4_putRows_61 : decode cX4_putRows 61 = .ok (.iload 8, 2) := by decide +kernel
theorem dX4_putRows_63 : decode cX4_putRows 63 = .ok (.iload 7, 2) := by decide +kernel
theorem dX4_putRows_65 : decode cX4_putRows 65 = .ok (.invokestatic 56, 3) := by decide +kernel
theorem dX4_putRows_68 : decode cX4_putRows 68 = .ok (.imul, 1) := by decide +kernel
theorem dX4_putRows_69 : decode cX4_putRows 69 = .ok (.iload 9, 2) := by decide +kernel
theorem dX4_putRows_71 : decode cX4_putRows 71 = .ok (.iconst 1, 1) := by decide +kernel
theorem dX4_putRows_72 : decode cX4_putRows 72 = .ok (.iand, 1) := by decide +kernel
theorem dX4_putRows_73 : decode cX4_putRows 73 = .ok (.iload 7, 2) := by decide +kernel
theorem dX4_putRows_75 : decode cX4_putRows 75 = .ok (.invokestatic 52, 3) := by decide +kernel
theorem dX4_putRows_78 : decode cX4_putRows 78 = .ok (.imul, 1) := by decide +kernel
theorem dX4_putRows_79 : decode cX4_putRows 79 = .ok (.iadd, 1) := by decide +kernel
theorem dX4_putRows_80 : decode cX4_putRows 80 = .ok (.iadd, 1) := by decide +kernel
theorem dX4_putRows_81 : decode cX4_putRows 81 = .ok (.istore 5, 2) := by decide +kernel
theorem dX4_putRows_83 : decode cX4_putRows 83 = .ok (.iload 6, 2) := by decide +kernel
theorem dX4_putRows_85 : decode cX4_putRows 85 = .ok (.iload 9, 2) := by decide +kernel
theorem dX4_putRows_87 : decode cX4_putRows 87 = .ok (.iconst 1, 1) := by decide +kernel
theorem dX4_putRows_88 : decode cX4_putRows 88 = .ok (.ishr, 1) := by decide +kernel
theorem dX4_putRows_89 : decode cX4_putRows 89 = .ok (.iload 7, 2) := by decide +kernel
theorem dX4_putRows_91 : decode cX4_putRows 91 = .ok (.ishl, 1) := by decide +kernel
theorem dX4_putRows_92 : decode cX4_putRows 92 = .ok (.ior, 1) := by decide +kernel
theorem dX4_putRows_93 : decode cX4_putRows 93 = .ok (.istore 6, 2) := by decide +kernel
theorem dX4_putRows_95 : decode cX4_putRows 95 = .ok (.iinc 7 1, 3) := by decide +kernel
theorem dX4_putRows_98 : decode cX4_putRows 98 = .ok (.goto (-89), 3) := by decide +kernel
theorem dX4_putRows_101 : decode cX4_putRows 101 = .ok (.iconst 0, 1) := by decide +kernel
theorem dX4_putRows_102 : decode cX4_putRows 102 = .ok (.istore 7, 2) := by decide +kernel
theorem dX4_putRows_104 : decode cX4_putRows 104 = .ok (.iload 7, 2) := by decide +kernel
theorem dX4_putRows_106 : decode cX4_putRows 106 = .ok (.bipush 16, 2) := by decide +kernel
theorem dX4_putRows_108 : decode cX4_putRows 108 = .ok (.if_icmp .ge 47, 3) := by decide +kernel
theorem dX4_putRows_111 : decode cX4_putRows 111 = .ok (.iload 7, 2) := by decide +kernel
theorem dX4_putRows_113 : decode cX4_putRows 113 = .ok (.iload 6, 2) := by decide +kernel
theorem dX4_putRows_115 : decode cX4_putRows 115 = .ok (.iand, 1) := by decide +kernel
theorem dX4_putRows_116 : decode cX4_putRows 116 = .ok (.iload 7, 2) := by decide +kernel
theorem dX4_putRows_118 : decode cX4_putRows 118 = .ok (.if_icmp .ne 31, 3) := by decide +kernel
theorem dX4_putRows_121 : decode cX4_putRows 121 = .ok (.aload_n 0, 1) := by decide +kernel
theorem dX4_putRows_122 : decode cX4_putRows 122 = .ok (.iload 5, 2) := by decide +kernel
theorem dX4_putRows_124 : decode cX4_putRows 124 = .ok (.iload 7, 2) := by decide +kernel
theorem dX4_putRows_126 : decode cX4_putRows 126 = .ok (.invokestatic 96, 3) := by decide +kernel
theorem dX4_putRows_129 : decode cX4_putRows 129 = .ok (.iadd, 1) := by decide +kernel
theorem dX4_putRows_130 : decode cX4_putRows 130 = .ok (.iload 7, 2) := by decide +kernel
theorem dX4_putRows_132 : decode cX4_putRows 132 = .ok (.invokestatic 99, 3) := by decide +kernel
theorem dX4_putRows_135 : decode cX4_putRows 135 = .ok (.iconst 1, 1) := by decide +kernel
theorem dX4_putRows_136 : decode cX4_putRows 136 = .ok (.iand, 1) := by decide +kernel
theorem dX4_putRows_137 : decode cX4_putRows 137 = .ok (.ifCond .ne 7, 3) := by decide +kernel
theorem dX4_putRows_140 : decode cX4_putRows 140 = .ok (.lload_n 3, 1) := by decide +kernel
theorem dX4_putRows_141 : decode cX4_putRows 141 = .ok (.goto 5, 3) := by decide +kernel
theorem dX4_putRows_144 : decode cX4_putRows 144 = .ok (.lload_n 3, 1) := by decide +kernel
theorem dX4_putRows_145 : decode cX4_putRows 145 = .ok (.lneg, 1) := by decide +kernel
theorem dX4_putRows_146 : decode cX4_putRows 146 = .ok (.invokevirtual 48, 3) := by decide +kernel
theorem dX4_putRows_149 : decode cX4_putRows 149 = .ok (.iinc 7 1, 3) := by decide +kernel
theorem dX4_putRows_152 : decode cX4_putRows 152 = .ok (.goto (-48), 3) := by decide +kernel
theorem dX4_putRows_155 : decode cX4_putRows 155 = .ok (.aload_n 0, 1) := by decide +kernel
theorem dX4_putRows_156 : decode cX4_putRows 156 = .ok (.getfield 35, 3) := by decide +kernel
theorem dX4_putRows_159 : decode cX4_putRows 159 = .ok (.sipush 300, 3) := by decide +kernel
theorem dX4_putRows_162 : decode cX4_putRows 162 = .ok (.if_icmp .gt 7, 3) := by decide +kernel
theorem dX4_putRows_165 : decode cX4_putRows 165 = .ok (.iconst 1, 1) := by decide +kernel
theorem dX4_putRows_166 : decode cX4_putRows 166 = .ok (.goto 4, 3) := by decide +kernel
theorem dX4_putRows_169 : decode cX4_putRows 169 = .ok (.iconst 0, 1) := by decide +kernel
theorem dX4_putRows_170 : decode cX4_putRows 170 = .ok (.ireturn, 1) := by decide +kernel
theorem dX4_squaredCosines_0 : decode cX4_squaredCosines 0 = .ok (.iconst 0, 1) := by decide +kernel
theorem dX4_squaredCosines_1 : decode cX4_squaredCosines 1 = .ok (.istore_n 1, 1) := by decide +kernel
theorem dX4_squaredCosines_2 : decode cX4_squaredCosines 2 = .ok (.iconst 0, 1) := by decide +kernel
theorem dX4_squaredCosines_3 : decode cX4_squaredCosines 3 = .ok (.istore_n 2, 1) := by decide +kernel
theorem dX4_squaredCosines_4 : decode cX4_squaredCosines 4 = .ok (.iload_n 2, 1) := by decide +kernel
theorem dX4_squaredCosines_5 : decode cX4_squaredCosines 5 = .ok (.iconst 4, 1) := by decide +kernel
theorem dX4_squaredCosines_6 : decode cX4_squaredCosines 6 = .ok (.if_icmp .ge 26, 3) := by decide +kernel
theorem dX4_squaredCosines_9 : decode cX4_squaredCosines 9 = .ok (.iload_n 0, 1) := by decide +kernel
theorem dX4_squaredCosines_10 : decode cX4_squaredCosines 10 = .ok (.iload_n 2, 1) := by decide +kernel
theorem dX4_squaredCosines_11 : decode cX4_squaredCosines 11 = .ok (.ishr, 1) := by decide +kernel
theorem dX4_squaredCosines_12 : decode cX4_squaredCosines 12 = .ok (.iconst 1, 1) := by decide +kernel
theorem dX4_squaredCosines_13 : decode cX4_squaredCosines 13 = .ok (.iand, 1) := by decide +kernel
theorem dX4_squaredCosines_14 : decode cX4_squaredCosines 14 = .ok (.ifCond .eq 12, 3) := by decide +kernel
theorem dX4_squaredCosines_17 : decode cX4_squaredCosines 17 = .ok (.iload_n 1, 1) := by decide +kernel
theorem dX4_squaredCosines_18 : decode cX4_squaredCosines 18 = .ok (.iconst 2, 1) := by decide +kernel
theorem dX4_squaredCosines_19 : decode cX4_squaredCosines 19 = .ok (.iload_n 2, 1) := by decide +kernel
theorem dX4_squaredCosines_20 : decode cX4_squaredCosines 20 = .ok (.invokestatic 56, 3) := by decide +kernel
theorem dX4_squaredCosines_23 : decode cX4_squaredCosines 23 = .ok (.imul, 1) := by decide +kernel
theorem dX4_squaredCosines_24 : decode cX4_squaredCosines 24 = .ok (.iadd, 1) := by decide +kernel
theorem dX4_squaredCosines_25 : decode cX4_squaredCosines 25 = .ok (.istore_n 1, 1) := by decide +kernel
theorem dX4_squaredCosines_26 : decode cX4_squaredCosines 26 = .ok (.iinc 2 1, 3) := by decide +kernel
theorem dX4_squaredCosines_29 : decode cX4_squaredCosines 29 = .ok (.goto (-25), 3) := by decide +kernel
theorem dX4_squaredCosines_32 : decode cX4_squaredCosines 32 = .ok (.iload_n 1, 1) := by decide +kernel
theorem dX4_squaredCosines_33 : decode cX4_squaredCosines 33 = .ok (.ireturn, 1) := by decide +kernel
theorem dX4_settle_0 : decode cX4_settle 0 = .ok (.aload_n 0, 1) := by decide +kernel
theorem dX4_settle_1 : decode cX4_settle 1 = .ok (.invokevirtual 104, 3) := by decide +kernel
theorem dX4_settle_4 : decode cX4_settle 4 = .ok (.aload_n 0, 1) := by decide +kernel
theorem dX4_settle_5 : decode cX4_settle 5 = .ok (.invokevirtual 107, 3) := by decide +kernel
theorem dX4_settle_8 : decode cX4_settle 8 = .ok (.ifCond .ne 5, 3) := by decide +kernel
theorem dX4_settle_11 : decode cX4_settle 11 = .ok (.iconst 0, 1) := by decide +kernel
theorem dX4_settle_12 : decode cX4_settle 12 = .ok (.ireturn, 1) := by decide +kernel
theorem dX4_settle_13 : decode cX4_settle 13 = .ok (.aload_n 0, 1) := by decide +kernel
theorem dX4_settle_14 : decode cX4_settle 14 = .ok (.invokevirtual 111, 3) := by decide +kernel
theorem dX4_settle_17 : decode cX4_settle 17 = .ok (.aload_n 0, 1) := by decide +kernel
theorem dX4_settle_18 : decode cX4_settle 18 = .ok (.getfield 11, 3) := by decide +kernel
theorem dX4_settle_21 : decode cX4_settle 21 = .ok (.iconst 0, 1) := by decide +kernel
theorem dX4_settle_22 : decode cX4_settle 22 = .ok (.aload_n 1, 1) := by decide +kernel
theorem dX4_settle_23 : decode cX4_settle 23 = .ok (.getfield 46, 3) := by decide +kernel
theorem dX4_settle_26 : decode cX4_settle 26 = .ok (.iconst 0, 1) := by decide +kernel
theorem dX4_settle_27 : decode cX4_settle 27 = .ok (.aload_n 0, 1) := by decide +kernel
theorem dX4_settle_28 : decode cX4_settle 28 = .ok (.getfield 35, 3) := by decide +kernel
theorem dX4_settle_31 : decode cX4_settle 31 = .ok (.invokestatic 114, 3) := by decide +kernel
theorem dX4_settle_34 : decode cX4_settle 34 = .ok (.aload_n 0, 1) := by decide +kernel
theorem dX4_settle_35 : decode cX4_settle 35 = .ok (.getfield 15, 3) := by decide +kernel
theorem dX4_settle_38 : decode cX4_settle 38 = .ok (.iconst 0, 1) := by decide +kernel
theorem dX4_settle_39 : decode cX4_settle 39 = .ok (.aload_n 1, 1) := by decide +kernel
theorem dX4_settle_40 : decode cX4_settle 40 = .ok (.getfield 47, 3) := by decide +kernel
theorem dX4_settle_43 : decode cX4_settle 43 = .ok (.iconst 0, 1) := by decide +kernel
theorem dX4_settle_44 : decode cX4_settle 44 = .ok (.aload_n 0, 1) := by decide +kernel
theorem dX4_settle_45 : decode cX4_settle 45 = .ok (.getfield 35, 3) := by decide +kernel
theorem dX4_settle_48 : decode cX4_settle 48 = .ok (.invokestatic 114, 3) := by decide +kernel
theorem dX4_settle_51 : decode cX4_settle 51 = .ok (.aload_n 1, 1) := by decide +kernel
theorem dX4_settle_52 : decode cX4_settle 52 = .ok (.aload_n 0, 1) := by decide +kernel
theorem dX4_settle_53 : decode cX4_settle 53 = .ok (.getfield 35, 3) := by decide +kernel
theorem dX4_settle_56 : decode cX4_settle 56 = .ok (.putfield 43, 3) := by decide +kernel
theorem dX4_settle_59 : decode cX4_settle 59 = .ok (.iconst 1, 1) := by decide +kernel
theorem dX4_settle_60 : decode cX4_settle 60 = .ok (.ireturn, 1) := by decide +kernel
theorem dX4_dropZeros_0 : decode cX4_dropZeros 0 = .ok (.iconst 0, 1) := by decide +kernel
theorem dX4_dropZeros_1 : decode cX4_dropZeros 1 = .ok (.istore_n 1, 1) := by decide +kernel
theorem dX4_dropZeros_2 : decode cX4_dropZeros 2 = .ok (.iconst 0, 1) := by decide +kernel
theorem dX4_dropZeros_3 : decode cX4_dropZeros 3 = .ok (.istore_n 2, 1) := by decide +kernel
theorem dX4_dropZeros_4 : decode cX4_dropZeros 4 = .ok (.iload_n 2, 1) := by decide +kernel
theorem dX4_dropZeros_5 : decode cX4_dropZeros 5 = .ok (.aload_n 0, 1) := by decide +kernel
theorem dX4_dropZeros_6 : decode cX4_dropZeros 6 = .ok (.getfield 35, 3) := by decide +kernel
theorem dX4_dropZeros_9 : decode cX4_dropZeros 9 = .ok (.if_icmp .ge 47, 3) := by decide +kernel
theorem dX4_dropZeros_12 : decode cX4_dropZeros 12 = .ok (.aload_n 0, 1) := by decide +kernel
theorem dX4_dropZeros_13 : decode cX4_dropZeros 13 = .ok (.getfield 15, 3) := by decide +kernel
theorem dX4_dropZeros_16 : decode cX4_dropZeros 16 = .ok (.iload_n 2, 1) := by decide +kernel
theorem dX4_dropZeros_17 : decode cX4_dropZeros 17 = .ok (.laload, 1) := by decide +kernel
theorem dX4_dropZeros_18 : decode cX4_dropZeros 18 = .ok (.lconst 0, 1) := by decide +kernel
theorem dX4_dropZeros_19 : decode cX4_dropZeros 19 = .ok (.lcmp, 1) := by decide +kernel
theorem dX4_dropZeros_20 : decode cX4_dropZeros 20 = .ok (.ifCond .eq 30, 3) := by decide +kernel
theorem dX4_dropZeros_23 : decode cX4_dropZeros 23 = .ok (.aload_n 0, 1) := by decide +kernel
theorem dX4_dropZeros_24 : decode cX4_dropZeros 24 = .ok (.getfield 11, 3) := by decide +kernel
theorem dX4_dropZeros_27 : decode cX4_dropZeros 27 = .ok (.iload_n 1, 1) := by decide +kernel
theorem dX4_dropZeros_28 : decode cX4_dropZeros 28 = .ok (.aload_n 0, 1) := by decide +kernel
theorem dX4_dropZeros_29 : decode cX4_dropZeros 29 = .ok (.getfield 11, 3) := by decide +kernel
theorem dX4_dropZeros_32 : decode cX4_dropZeros 32 = .ok (.iload_n 2, 1) := by decide +kernel
theorem dX4_dropZeros_33 : decode cX4_dropZeros 33 = .ok (.iaload, 1) := by decide +kernel
theorem dX4_dropZeros_34 : decode cX4_dropZeros 34 = .ok (.iastore, 1) := by decide +kernel
theorem dX4_dropZeros_35 : decode cX4_dropZeros 35 = .ok (.aload_n 0, 1) := by decide +kernel
theorem dX4_dropZeros_36 : decode cX4_dropZeros 36 = .ok (.getfield 15, 3) := by decide +kernel
theorem dX4_dropZeros_39 : decode cX4_dropZeros 39 = .ok (.iload_n 1, 1) := by decide +kernel
theorem dX4_dropZeros_40 : decode cX4_dropZeros 40 = .ok (.aload_n 0, 1) := by decide +kernel
theorem dX4_dropZeros_41 : decode cX4_dropZeros 41 = .ok (.getfield 15, 3) := by decide +kernel
theorem dX4_dropZeros_44 : decode cX4_dropZeros 44 = .ok (.iload_n 2, 1) := by decide +kernel
theorem dX4_dropZeros_45 : decode cX4_dropZeros 45 = .ok (.laload, 1) := by decide +kernel
theorem dX4_dropZeros_46 : decode cX4_dropZeros 46 = .ok (.lastore, 1) := by decide +kernel
theorem dX4_dropZeros_47 : decode cX4_dropZeros 47 = .ok (.iinc 1 1, 3) := by decide +kernel
theorem dX4_dropZeros_50 : decode cX4_dropZeros 50 = .ok (.iinc 2 1, 3) := by decide +kernel
theorem dX4_dropZeros_53 : decode cX4_dropZeros 53 = .ok (.goto (-49), 3) := by decide +kernel
theorem dX4_dropZeros_56 : decode cX4_dropZeros 56 = .ok (.aload_n 0, 1) := by decide +kernel
theorem dX4_dropZeros_57 : decode cX4_dropZeros 57 = .ok (.iload_n 1, 1) := by decide +kernel
theorem dX4_dropZeros_58 : decode cX4_dropZeros 58 = .ok (.putfield 35, 3) := by decide +kernel
theorem dX4_dropZeros_61 : decode cX4_dropZeros 61 = .ok (.return_, 1) := by decide +kernel
theorem dX4_isSum_0 : decode cX4_isSum 0 = .ok (.aload_n 0, 1) := by decide +kernel
theorem dX4_isSum_1 : decode cX4_isSum 1 = .ok (.getfield 35, 3) := by decide +kernel
theorem dX4_isSum_4 : decode cX4_isSum 4 = .ok (.sipush 300, 3) := by decide +kernel
theorem dX4_isSum_7 : decode cX4_isSum 7 = .ok (.if_icmp .le 5, 3) := by decide +kernel
theorem dX4_isSum_10 : decode cX4_isSum 10 = .ok (.iconst 0, 1) := by decide +kernel
theorem dX4_isSum_11 : decode cX4_isSum 11 = .ok (.ireturn, 1) := by decide +kernel
theorem dX4_isSum_12 : decode cX4_isSum 12 = .ok (.iconst 0, 1) := by decide +kernel
theorem dX4_isSum_13 : decode cX4_isSum 13 = .ok (.istore_n 1, 1) := by decide +kernel
theorem dX4_isSum_14 : decode cX4_isSum 14 = .ok (.iload_n 1, 1) := by decide +kernel
theorem dX4_isSum_15 : decode cX4_isSum 15 = .ok (.aload_n 0, 1) := by decide +kernel
theorem dX4_isSum_16 : decode cX4_isSum 16 = .ok (.getfield 35, 3) := by decide +kernel
theorem dX4_isSum_19 : decode cX4_isSum 19 = .ok (.if_icmp .ge 57, 3) := by decide +kernel
theorem dX4_isSum_22 : decode cX4_isSum 22 = .ok (.aload_n 0, 1) := by decide +kernel
theorem dX4_isSum_23 : decode cX4_isSum 23 = .ok (.getfield 15, 3) := by decide +kernel
theorem dX4_isSum_26 : decode cX4_isSum 26 = .ok (.iload_n 1, 1) := by decide +kernel
theorem dX4_isSum_27 : decode cX4_isSum 27 = .ok (.laload, 1) := by decide +kernel
theorem dX4_isSum_28 : decode cX4_isSum 28 = .ok (.invokestatic 81, 3) := by decide +kernel
theorem dX4_isSum_31 : decode cX4_isSum 31 = .ok (.ldc2_w 87, 3) := by decide +kernel
theorem dX4_isSum_34 : decode cX4_isSum 34 = .ok (.lcmp, 1) := by decide +kernel
theorem dX4_isSum_35 : decode cX4_isSum 35 = .ok (.ifCond .le 5, 3) := by decide +kernel
theorem dX4_isSum_38 : decode cX4_isSum 38 = .ok (.iconst 0, 1) := by decide +kernel
theorem dX4_isSum_39 : decode cX4_isSum 39 = .ok (.ireturn, 1) := by decide +kernel
theorem dX4_isSum_40 : decode cX4_isSum 40 = .ok (.iconst 0, 1) := by decide +kernel
theorem dX4_isSum_41 : decode cX4_isSum 41 = .ok (.istore_n 2, 1) := by decide +kernel
theorem dX4_isSum_42 : decode cX4_isSum 42 = .ok (.iload_n 2, 1) := by decide +kernel
theorem dX4_isSum_43 : decode cX4_isSum 43 = .ok (.iconst 4, 1) := by decide +kernel
theorem dX4_isSum_44 : decode cX4_isSum 44 = .ok (.if_icmp .ge 26, 3) := by decide +kernel
theorem dX4_isSum_47 : decode cX4_isSum 47 = .ok (.aload_n 0, 1) := by decide +kernel
theorem dX4_isSum_48 : decode cX4_isSum 48 = .ok (.getfield 11, 3) := by decide +kernel
theorem dX4_isSum_51 : decode cX4_isSum 51 = .ok (.iload_n 1, 1) := by decide +kernel
theorem dX4_isSum_52 : decode cX4_isSum 52 = .ok (.iaload, 1) := by decide +kernel
theorem dX4_isSum_53 : decode cX4_isSum 53 = .ok (.iload_n 2, 1) := by decide +kernel
theorem dX4_isSum_54 : decode cX4_isSum 54 = .ok (.invokestatic 89, 3) := by decide +kernel
theorem dX4_isSum_57 : decode cX4_isSum 57 = .ok (.bipush 12, 2) := by decide +kernel
theorem dX4_isSum_59 : decode cX4_isSum 59 = .ok (.if_icmp .le 5, 3) := by decide +kernel
theorem dX4_isSum_62 : decode cX4_isSum 62 = .ok (.iconst 0, 1) := by decide +kernel
theorem dX4_isSum_63 : decode cX4_isSum 63 = .ok (.ireturn, 1) := by decide +kernel
theorem dX4_isSum_64 : decode cX4_isSum 64 = .ok (.iinc 2 1, 3) := by decide +kernel
theorem dX4_isSum_67 : decode cX4_isSum 67 = .ok (.goto (-25), 3) := by decide +kernel
theorem dX4_isSum_70 : decode cX4_isSum 70 = .ok (.iinc 1 1, 3) := by decide +kernel
theorem dX4_isSum_73 : decode cX4_isSum 73 = .ok (.goto (-59), 3) := by decide +kernel
theorem dX4_isSum_76 : decode cX4_isSum 76 = .ok (.iconst 1, 1) := by decide +kernel
theorem dX4_isSum_77 : decode cX4_isSum 77 = .ok (.ireturn, 1) := by decide +kernel
theorem dX4_sort_0 : decode cX4_sort 0 = .ok (.iconst 1, 1) := by decide +kernel
theorem dX4_sort_1 : decode cX4_sort 1 = .ok (.istore_n 1, 1) := by decide +kernel
theorem dX4_sort_2 : decode cX4_sort 2 = .ok (.iload_n 1, 1) := by decide +kernel
theorem dX4_sort_3 : decode cX4_sort 3 = .ok (.aload_n 0, 1) := by decide +kernel
theorem dX4_sort_4 : decode cX4_sort 4 = .ok (.getfield 35, 3) := by decide +kernel
theorem dX4_sort_7 : decode cX4_sort 7 = .ok (.if_icmp .ge 92, 3) := by decide +kernel
theorem dX4_sort_10 : decode cX4_sort 10 = .ok (.iconst 0, 1) := by decide +kernel
theorem dX4_sort_11 : decode cX4_sort 11 = .ok (.istore_n 2, 1) := by decide +kernel
theorem dX4_sort_12 : decode cX4_sort 12 = .ok (.iload_n 2, 1) := by decide +kernel
theorem dX4_sort_13 : decode cX4_sort 13 = .ok (.aload_n 0, 1) := by decide +kernel
theorem dX4_sort_14 : decode cX4_sort 14 = .ok (.getfield 35, 3) := by decide +kernel
theorem dX4_sort_17 : decode cX4_sort 17 = .ok (.if_icmp .ge 39, 3) := by decide +kernel
theorem dX4_sort_20 : decode cX4_sort 20 = .ok (.aload_n 0, 1) := by decide +kernel
theorem dX4_sort_21 : decode cX4_sort 21 = .ok (.iload_n 2, 1) := by decide +kernel
theorem dX4_sort_22 : decode cX4_sort 22 = .ok (.iload_n 2, 1) := by decide +kernel
theorem dX4_sort_23 : decode cX4_sort 23 = .ok (.iload_n 1, 1) := by decide +kernel
theorem dX4_sort_24 : decode cX4_sort 24 = .ok (.iadd, 1) := by decide +kernel
theorem dX4_sort_25 : decode cX4_sort 25 = .ok (.aload_n 0, 1) := by decide +kernel
theorem dX4_sort_26 : decode cX4_sort 26 = .ok (.getfield 35, 3) := by decide +kernel
theorem dX4_sort_29 : decode cX4_sort 29 = .ok (.invokestatic 120, 3) := by decide +kernel
theorem dX4_sort_32 : decode cX4_sort 32 = .ok (.iload_n 2, 1) := by decide +kernel
theorem dX4_sort_33 : decode cX4_sort 33 = .ok (.iload_n 1, 1) := by decide +kernel
theorem dX4_sort_34 : decode cX4_sort 34 = .ok (.iadd, 1) := by decide +kernel
theorem dX4_sort_35 : decode cX4_sort 35 = .ok (.iload_n 1, 1) := by decide +kernel
theorem dX4_sort_36 : decode cX4_sort 36 = .ok (.iadd, 1) := by decide +kernel
theorem dX4_sort_37 : decode cX4_sort 37 = .ok (.aload_n 0, 1) := by decide +kernel
theorem dX4_sort_38 : decode cX4_sort 38 = .ok (.getfield 35, 3) := by decide +kernel
theorem dX4_sort_41 : decode cX4_sort 41 = .ok (.invokestatic 120, 3) := by decide +kernel
theorem dX4_sort_44 : decode cX4_sort 44 = .ok (.invokevirtual 123, 3) := by decide +kernel
theorem dX4_sort_47 : decode cX4_sort 47 = .ok (.iload_n 2, 1) := by decide +kernel
theorem dX4_sort_48 : decode cX4_sort 48 = .ok (.iload_n 1, 1) := by decide +kernel
theorem dX4_sort_49 : decode cX4_sort 49 = .ok (.iload_n 1, 1) := by decide +kernel
theorem dX4_sort_50 : decode cX4_sort 50 = .ok (.iadd, 1) := by decide +kernel
theorem dX4_sort_51 : decode cX4_sort 51 = .ok (.iadd, 1) := by decide +kernel
theorem dX4_sort_52 : decode cX4_sort 52 = .ok (.istore_n 2, 1) := by decide +kernel
theorem dX4_sort_53 : decode cX4_sort 53 = .ok (.goto (-41), 3) := by decide +kernel
theorem dX4_sort_56 : decode cX4_sort 56 = .ok (.aload_n 0, 1) := by decide +kernel
theorem dX4_sort_57 : decode cX4_sort 57 = .ok (.getfield 19, 3) := by decide +kernel
theorem dX4_sort_60 : decode cX4_sort 60 = .ok (.astore_n 2, 1) := by decide +kernel
theorem dX4_sort_61 : decode cX4_sort 61 = .ok (.aload_n 0, 1) := by decide +kernel
theorem dX4_sort_62 : decode cX4_sort 62 = .ok (.getfield 22, 3) := by decide +kernel
theorem dX4_sort_65 : decode cX4_sort 65 = .ok (.astore_n 3, 1) := by decide +kernel
theorem dX4_sort_66 : decode cX4_sort 66 = .ok (.aload_n 0, 1) := by decide +kernel
theorem dX4_sort_67 : decode cX4_sort 67 = .ok (.aload_n 0, 1) := by decide +kernel
theorem dX4_sort_68 : decode cX4_sort 68 = .ok (.getfield 11, 3) := by decide +kernel
theorem dX4_sort_71 : decode cX4_sort 71 = .ok (.putfield 19, 3) := by decide +kernel
theorem dX4_sort_74 : decode cX4_sort 74 = .ok (.aload_n 0, 1) := by decide +kernel
theorem dX4_sort_75 : decode cX4_sort 75 = .ok (.aload_n 0, 1) := by decide +kernel
theorem dX4_sort_76 : decode cX4_sort 76 = .ok (.getfield 15, 3) := by decide +kernel
theorem dX4_sort_79 : decode cX4_sort 79 = .ok (.putfield 22, 3) := by decide +kernel
theorem dX4_sort_82 : decode cX4_sort 82 = .ok (.aload_n 0, 1) := by decide +kernel
theorem dX4_sort_83 : decode cX4_sort 83 = .ok (.aload_n 2, 1) := by decide +kernel
theorem dX4_sort_84 : decode cX4_sort 84 = .ok (.putfield 11, 3) := by decide +kernel
theorem dX4_sort_87 : decode cX4_sort 87 = .ok (.aload_n 0, 1) := by decide +kernel
theorem dX4_sort_88 : decode cX4_sort 88 = .ok (.aload_n 3, 1) := by decide +kernel
theorem dX4_sort_89 : decode cX4_sort 89 = .ok (.putfield 15, 3) := by decide +kernel
theorem dX4_sort_92 : decode cX4_sort 92 = .ok (.iload_n 1, 1) := by decide +kernel
theorem dX4_sort_93 : decode cX4_sort 93 = .ok (.iload_n 1, 1) := by decide +kernel
theorem dX4_sort_94 : decode cX4_sort 94 = .ok (.iadd, 1) := by decide +kernel
theorem dX4_sort_95 : decode cX4_sort 95 = .ok (.istore_n 1, 1) := by decide +kernel
theorem dX4_sort_96 : decode cX4_sort 96 = .ok (.goto (-94), 3) := by decide +kernel
theorem dX4_sort_99 : decode cX4_sort 99 = .ok (.return_, 1) := by decide +kernel
theorem dX4_merge_0 : decode cX4_merge 0 = .ok (.iload_n 1, 1) := by decide +kernel
theorem dX4_merge_1 : decode cX4_merge 1 = .ok (.istore 4, 2) := by decide +kernel
theorem dX4_merge_3 : decode cX4_merge 3 = .ok (.iload_n 2, 1) := by decide +kernel
theorem dX4_merge_4 : decode cX4_merge 4 = .ok (.istore 5, 2) := by decide +kernel
theorem dX4_merge_6 : decode cX4_merge 6 = .ok (.iload_n 1, 1) := by decide +kernel
theorem dX4_merge_7 : decode cX4_merge 7 = .ok (.istore 6, 2) := by decide +kernel
theorem dX4_merge_9 : decode cX4_merge 9 = .ok (.iload 6, 2) := by decide +kernel
theorem dX4_merge_11 : decode cX4_merge 11 = .ok (.iload_n 3, 1) := by decide +kernel
theorem dX4_merge_12 : decode cX4_merge 12 = .ok (.if_icmp .ge 83, 3) := by decide +kernel
theorem dX4_merge_15 : decode cX4_merge 15 = .ok (.iload 4, 2) := by decide +kernel
theorem dX4_merge_17 : decode cX4_merge 17 = .ok (.iload_n 2, 1) := by decide +kernel
theorem dX4_merge_18 : decode cX4_merge 18 = .ok (.if_icmp .ge 36, 3) := by decide +kernel
theorem dX4_merge_21 : decode cX4_merge 21 = .ok (.iload 5, 2) := by decide +kernel
theorem dX4_merge_23 : decode cX4_merge 23 = .ok (.iload_n 3, 1) := by decide +kernel
theorem dX4_merge_24 : decode cX4_merge 24 = .ok (.if_icmp .ge 20, 3) := by decide +kernel
theorem dX4_merge_27 : decode cX4_merge 27 = .ok (.aload_n 0, 1) := by decide +kernel
theorem dX4_merge_28 : decode cX4_merge 28 = .ok (.getfield 11, 3) := by decide +kernel
theorem dX4_merge_31 : decode cX4_merge 31 = .ok (.iload 4, 2) := by decide +kernel
theorem dX4_merge_33 : decode cX4_merge 33 = .ok (.iaload, 1) := by decide +kernel
theorem dX4_merge_34 : decode cX4_merge 34 = .ok (.aload_n 0, 1) := by decide +kernel
theorem dX4_merge_35 : decode cX4_merge 35 = .ok (.getfield 11, 3) := by decide +kernel
theorem dX4_merge_38 : decode cX4_merge 38 = .ok (.iload 5, 2) := by decide +kernel
theorem dX4_merge_40 : decode cX4_merge 40 = .ok (.iaload, 1) := by decide +kernel
theorem dX4_merge_41 : decode cX4_merge 41 = .ok (.if_icmp .gt 13, 3) := by decide +kernel
theorem dX4_merge_44 : decode cX4_merge 44 = .ok (.iload 4, 2) := by decide +kernel
theorem dX4_merge_46 : decode cX4_merge 46 = .ok (.istore 7, 2) := by decide +kernel
theorem dX4_merge_48 : decode cX4_merge 48 = .ok (.iinc 4 1, 3) := by decide +kernel
theorem dX4_merge_51 : decode cX4_merge 51 = .ok (.goto 10, 3) := by decide +kernel
theorem dX4_merge_54 : decode cX4_merge 54 = .ok (.iload 5, 2) := by decide +kernel
theorem dX4_merge_56 : decode cX4_merge 56 = .ok (.istore 7, 2) := by decide +kernel
theorem dX4_merge_58 : decode cX4_merge 58 = .ok (.iinc 5 1, 3) := by decide +kernel
theorem dX4_merge_61 : decode cX4_merge 61 = .ok (.aload_n 0, 1) := by decide +kernel
theorem dX4_merge_62 : decode cX4_merge 62 = .ok (.getfield 19, 3) := by decide +kernel
theorem dX4_merge_65 : decode cX4_merge 65 = .ok (.iload 6, 2) := by decide +kernel
theorem dX4_merge_67 : decode cX4_merge 67 = .ok (.aload_n 0, 1) := by decide +kernel
theorem dX4_merge_68 : decode cX4_merge 68 = .ok (.getfield 11, 3) := by decide +kernel
theorem dX4_merge_71 : decode cX4_merge 71 = .ok (.iload 7, 2) := by decide +kernel
theorem dX4_merge_73 : decode cX4_merge 73 = .ok (.iaload, 1) := by decide +kernel
theorem dX4_merge_74 : decode cX4_merge 74 = .ok (.iastore, 1) := by decide +kernel
theorem dX4_merge_75 : decode cX4_merge 75 = .ok (.aload_n 0, 1) := by decide +kernel
theorem dX4_merge_76 : decode cX4_merge 76 = .ok (.getfield 22, 3) := by decide +kernel
theorem dX4_merge_79 : decode cX4_merge 79 = .ok (.iload 6, 2) := by decide +kernel
theorem dX4_merge_81 : decode cX4_merge 81 = .ok (.aload_n 0, 1) := by decide +kernel
theorem dX4_merge_82 : decode cX4_merge 82 = .ok (.getfield 15, 3) := by decide +kernel
theorem dX4_merge_85 : decode cX4_merge 85 = .ok (.iload 7, 2) := by decide +kernel
theorem dX4_merge_87 : decode cX4_merge 87 = .ok (.laload, 1) := by decide +kernel
theorem dX4_merge_88 : decode cX4_merge 88 = .ok (.lastore, 1) := by decide +kernel
theorem dX4_merge_89 : decode cX4_merge 89 = .ok (.iinc 6 1, 3) := by decide +kernel
theorem dX4_merge_92 : decode cX4_merge 92 = .ok (.goto (-83), 3) := by decide +kernel
theorem dX4_merge_95 : decode cX4_merge 95 = .ok (.return_, 1) := by decide +kernel
theorem dX5_init_0 : decode cX5_init 0 = .ok (.aload_n 0, 1) := by decide +kernel
theorem dX5_init_1 : decode cX5_init 1 = .ok (.invokespecial 3, 3) := by decide +kernel
theorem dX5_init_4 : decode cX5_init 4 = .ok (.aload_n 0, 1) := by decide +kernel
theorem dX5_init_5 : decode cX5_init 5 = .ok (.iload_n 1, 1) := by decide +kernel
theorem dX5_init_6 : decode cX5_init 6 = .ok (.putfield 9, 3) := by decide +kernel
theorem dX5_init_9 : decode cX5_init 9 = .ok (.aload_n 0, 1) := by decide +kernel
theorem dX5_init_10 : decode cX5_init 10 = .ok (.aload_n 2, 1) := by decide +kernel
theorem dX5_init_11 : decode cX5_init 11 = .ok (.putfield 15, 3) := by decide +kernel
theorem dX5_init_14 : decode cX5_init 14 = .ok (.return_, 1) := by decide +kernel
theorem dX5_isOfKind_0 : decode cX5_isOfKind 0 = .ok (.iload_n 1, 1) := by decide +kernel
theorem dX5_isOfKind_1 : decode cX5_isOfKind 1 = .ok (.ifCond .eq 11, 3) := by decide +kernel
theorem dX5_isOfKind_4 : decode cX5_isOfKind 4 = .ok (.iload_n 1, 1) := by decide +kernel
theorem dX5_isOfKind_5 : decode cX5_isOfKind 5 = .ok (.aload_n 0, 1) := by decide +kernel
theorem dX5_isOfKind_6 : decode cX5_isOfKind 6 = .ok (.invokevirtual 19, 3) := by decide +kernel
theorem dX5_isOfKind_9 : decode cX5_isOfKind 9 = .ok (.if_icmp .ne 7, 3) := by decide +kernel
theorem dX5_isOfKind_12 : decode cX5_isOfKind 12 = .ok (.iconst 1, 1) := by decide +kernel
theorem dX5_isOfKind_13 : decode cX5_isOfKind 13 = .ok (.goto 4, 3) := by decide +kernel
theorem dX5_isOfKind_16 : decode cX5_isOfKind 16 = .ok (.iconst 0, 1) := by decide +kernel
theorem dX5_isOfKind_17 : decode cX5_isOfKind 17 = .ok (.ireturn, 1) := by decide +kernel
theorem dX5_cost_0 : decode cX5_cost 0 = .ok (.aload_n 1, 1) := by decide +kernel
theorem dX5_cost_1 : decode cX5_cost 1 = .ok (.bipush 10, 2) := by decide +kernel
theorem dX5_cost_3 : decode cX5_cost 3 = .ok (.invokevirtual 23, 3) := by decide +kernel
theorem dX5_cost_6 : decode cX5_cost 6 = .ok (.iconst 1, 1) := by decide +kernel
theorem dX5_cost_7 : decode cX5_cost 7 = .ok (.ireturn, 1) := by decide +kernel
theorem dX5_mark_0 : decode cX5_mark 0 = .ok (.aload_n 1, 1) := by decide +kernel
theorem dX5_mark_1 : decode cX5_mark 1 = .ok (.bipush 20, 2) := by decide +kernel
theorem dX5_mark_3 : decode cX5_mark 3 = .ok (.invokevirtual 23, 3) := by decide +kernel
theorem dX5_mark_6 : decode cX5_mark 6 = .ok (.aload_n 0, 1) := by decide +kernel
theorem dX5_mark_7 : decode cX5_mark 7 = .ok (.getfield 9, 3) := by decide +kernel
theorem dX5_mark_10 : decode cX5_mark 10 = .ok (.ireturn, 1) := by decide +kernel
theorem dX6_init_0 : decode cX6_init 0 = .ok (.aload_n 0, 1) := by decide +kernel
theorem dX6_init_1 : decode cX6_init 1 = .ok (.iload_n 1, 1) := by decide +kernel
theorem dX6_init_2 : decode cX6_init 2 = .ok (.aload_n 2, 1) := by decide +kernel
theorem dX6_init_3 : decode cX6_init 3 = .ok (.invokespecial 3, 3) := by decide +kernel
theorem dX6_init_6 : decode cX6_init 6 = .ok (.aload_n 0, 1) := by decide +kernel
theorem dX6_init_7 : decode cX6_init 7 = .ok (.iload_n 3, 1) := by decide +kernel
theorem dX6_init_8 : decode cX6_init 8 = .ok (.putfield 9, 3) := by decide +kernel
theorem dX6_init_11 : decode cX6_init 11 = .ok (.aload_n 0, 1) := by decide +kernel
theorem dX6_init_12 : decode cX6_init 12 = .ok (.iload 4, 2) := by decide +kernel
theorem dX6_init_14 : decode cX6_init 14 = .ok (.putfield 15, 3) := by decide +kernel
theorem dX6_init_17 : decode cX6_init 17 = .ok (.aload_n 0, 1) := by decide +kernel
theorem dX6_init_18 : decode cX6_init 18 = .ok (.iload 5, 2) := by decide +kernel
theorem dX6_init_20 : decode cX6_init 20 = .ok (.putfield 18, 3) := by decide +kernel
theorem dX6_init_23 : decode cX6_init 23 = .ok (.return_, 1) := by decide +kernel
theorem dX6_ownKind_0 : decode cX6_ownKind 0 = .ok (.iconst 2, 1) := by decide +kernel
theorem dX6_ownKind_1 : decode cX6_ownKind 1 = .ok (.ireturn, 1) := by decide +kernel
theorem dX6_isOfKind_0 : decode cX6_isOfKind 0 = .ok (.iload_n 1, 1) := by decide +kernel
theorem dX6_isOfKind_1 : decode cX6_isOfKind 1 = .ok (.iconst 2, 1) := by decide +kernel
theorem dX6_isOfKind_2 : decode cX6_isOfKind 2 = .ok (.if_icmp .eq 11, 3) := by decide +kernel
theorem dX6_isOfKind_5 : decode cX6_isOfKind 5 = .ok (.aload_n 0, 1) := by decide +kernel
theorem dX6_isOfKind_6 : decode cX6_isOfKind 6 = .ok (.iload_n 1, 1) := by decide +kernel
theorem dX6_isOfKind_7 : decode cX6_isOfKind 7 = .ok (.invokespecial 21, 3) := by decide +kernel
theorem dX6_isOfKind_10 : decode cX6_isOfKind 10 = .ok (.ifCond .eq 7, 3) := by decide +kernel
theorem dX6_isOfKind_13 : decode cX6_isOfKind 13 = .ok (.iconst 1, 1) := by decide +kernel
theorem dX6_isOfKind_14 : decode cX6_isOfKind 14 = .ok (.goto 4, 3) := by decide +kernel
theorem dX6_isOfKind_17 : decode cX6_isOfKind 17 = .ok (.iconst 0, 1) := by decide +kernel
theorem dX6_isOfKind_18 : decode cX6_isOfKind 18 = .ok (.ireturn, 1) := by decide +kernel
theorem dX6_cost_0 : decode cX6_cost 0 = .ok (.aload_n 1, 1) := by decide +kernel
theorem dX6_cost_1 : decode cX6_cost 1 = .ok (.bipush 12, 2) := by decide +kernel
theorem dX6_cost_3 : decode cX6_cost 3 = .ok (.invokevirtual 25, 3) := by decide +kernel
theorem dX6_cost_6 : decode cX6_cost 6 = .ok (.aload_n 0, 1) := by decide +kernel
theorem dX6_cost_7 : decode cX6_cost 7 = .ok (.aload_n 1, 1) := by decide +kernel
theorem dX6_cost_8 : decode cX6_cost 8 = .ok (.invokespecial 29, 3) := by decide +kernel
theorem dX6_cost_11 : decode cX6_cost 11 = .ok (.aload_n 0, 1) := by decide +kernel
theorem dX6_cost_12 : decode cX6_cost 12 = .ok (.getfield 9, 3) := by decide +kernel
theorem dX6_cost_15 : decode cX6_cost 15 = .ok (.invokestatic 33, 3) := by decide +kernel
theorem dX6_cost_18 : decode cX6_cost 18 = .ok (.imul, 1) := by decide +kernel
theorem dX6_cost_19 : decode cX6_cost 19 = .ok (.ireturn, 1) := by decide +kernel
theorem dX6_perform_0 : decode cX6_perform 0 = .ok (.aload_n 0, 1) := by decide +kernel
theorem dX6_perform_1 : decode cX6_perform 1 = .ok (.aload_n 1, 1) := by decide +kernel
theorem dX6_perform_2 : decode cX6_perform 2 = .ok (.aload_n 0, 1) := by decide +kernel
theorem dX6_perform_3 : decode cX6_perform 3 = .ok (.getfield 15, 3) := by decide +kernel
theorem dX6_perform_6 : decode cX6_perform 6 = .ok (.invokevirtual 39, 3) := by decide +kernel
theorem dX6_perform_9 : decode cX6_perform 9 = .ok (.ireturn, 1) := by decide +kernel
theorem dX6_turnSpins_0 : decode cX6_turnSpins 0 = .ok (.iload_n 2, 1) := by decide +kernel
theorem dX6_turnSpins_1 : decode cX6_turnSpins 1 = .ok (.iconst 1, 1) := by decide +kernel
theorem dX6_turnSpins_2 : decode cX6_turnSpins 2 = .ok (.iand, 1) := by decide +kernel
theorem dX6_turnSpins_3 : decode cX6_turnSpins 3 = .ok (.ifCond .ne 7, 3) := by decide +kernel
theorem dX6_turnSpins_6 : decode cX6_turnSpins 6 = .ok (.iconst 1, 1) := by decide +kernel
theorem dX6_turnSpins_7 : decode cX6_turnSpins 7 = .ok (.goto 4, 3) := by decide +kernel
theorem dX6_turnSpins_10 : decode cX6_turnSpins 10 = .ok (.iconst 2, 1) := by decide +kernel
theorem dX6_turnSpins_11 : decode cX6_turnSpins 11 = .ok (.istore_n 3, 1) := by decide +kernel
theorem dX6_turnSpins_12 : decode cX6_turnSpins 12 = .ok (.iload_n 2, 1) := by decide +kernel
theorem dX6_turnSpins_13 : decode cX6_turnSpins 13 = .ok (.iconst 2, 1) := by decide +kernel
theorem dX6_turnSpins_14 : decode cX6_turnSpins 14 = .ok (.if_icmp .ge 10, 3) := by decide +kernel
theorem dX6_turnSpins_17 : decode cX6_turnSpins 17 = .ok (.aload_n 0, 1) := by decide +kernel
theorem dX6_turnSpins_18 : decode cX6_turnSpins 18 = .ok (.getfield 18, 3) := by decide +kernel
theorem dX6_turnSpins_21 : decode cX6_turnSpins 21 = .ok (.goto 11, 3) := by decide +kernel
theorem dX6_turnSpins_24 : decode cX6_turnSpins 24 = .ok (.iconst 4, 1) := by decide +kernel
theorem dX6_turnSpins_25 : decode cX6_turnSpins 25 = .ok (.aload_n 0, 1) := by decide +kernel
theorem dX6_turnSpins_26 : decode cX6_turnSpins 26 = .ok (.getfield 18, 3) := by decide +kernel
theorem dX6_turnSpins_29 : decode cX6_turnSpins 29 = .ok (.isub, 1) := by decide +kernel
theorem dX6_turnSpins_30 : decode cX6_turnSpins 30 = .ok (.iconst 3, 1) := by decide +kernel
theorem dX6_turnSpins_31 : decode cX6_turnSpins 31 = .ok (.iand, 1) := by decide +kernel
theorem dX6_turnSpins_32 : decode cX6_turnSpins 32 = .ok (.istore 4, 2) := by decide +kernel
theorem dX6_turnSpins_34 : decode cX6_turnSpins 34 = .ok (.iconst 0, 1) := by decide +kernel
theorem dX6_turnSpins_35 : decode cX6_turnSpins 35 = .ok (.istore 5, 2) := by decide +kernel
theorem dX6_turnSpins_37 : decode cX6_turnSpins 37 = .ok (.iload 5, 2) := by decide +kernel
theorem dX6_turnSpins_39 : decode cX6_turnSpins 39 = .ok (.iconst 4, 1) := by decide +kernel
theorem dX6_turnSpins_40 : decode cX6_turnSpins 40 = .ok (.if_icmp .ge 39, 3) := by decide +kernel
theorem dX6_turnSpins_43 : decode cX6_turnSpins 43 = .ok (.aload_n 0, 1) := by decide +kernel
theorem dX6_turnSpins_44 : decode cX6_turnSpins 44 = .ok (.getfield 9, 3) := by decide +kernel
theorem dX6_turnSpins_47 : decode cX6_turnSpins 47 = .ok (.iload 5, 2) := by decide +kernel
theorem dX6_turnSpins_49 : decode cX6_turnSpins 49 = .ok (.ishr, 1) := by decide +kernel
theorem dX6_turnSpins_50 : decode cX6_turnSpins 50 = .ok (.iconst 1, 1) := by decide +kernel
theorem dX6_turnSpins_51 : decode cX6_turnSpins 51 = .ok (.iand, 1) := by decide +kernel
theorem dX6_turnSpins_52 : decode cX6_turnSpins 52 = .ok (.ifCond .eq 21, 3) := by decide +kernel
theorem dX6_turnSpins_55 : decode cX6_turnSpins 55 = .ok (.aload_n 1, 1) := by decide +kernel
theorem dX6_turnSpins_56 : decode cX6_turnSpins 56 = .ok (.iload_n 3, 1) := by decide +kernel
theorem dX6_turnSpins_57 : decode cX6_turnSpins 57 = .ok (.iconst 2, 1) := by decide +kernel
theorem dX6_turnSpins_58 : decode cX6_turnSpins 58 = .ok (.iload 5, 2) := by decide +kernel
theorem dX6_turnSpins_60 : decode cX6_turnSpins 60 = .ok (.imul, 1) := by decide +kernel
theorem dX6_turnSpins_61 : decode cX6_turnSpins 61 = .ok (.ishl, 1) := by decide +kernel
theorem dX6_turnSpins_62 : decode cX6_turnSpins 62 = .ok (.iload 4, 2) := by decide +kernel
theorem dX6_turnSpins_64 : decode cX6_turnSpins 64 = .ok (.invokevirtual 43, 3) := by decide +kernel
theorem dX6_turnSpins_67 : decode cX6_turnSpins 67 = .ok (.ifCond .ne 6, 3) := by decide +kernel
theorem dX6_turnSpins_70 : decode cX6_turnSpins 70 = .ok (.ldc 47, 2) := by decide +kernel
theorem dX6_turnSpins_72 : decode cX6_turnSpins 72 = .ok (.ireturn, 1) := by decide +kernel
theorem dX6_turnSpins_73 : decode cX6_turnSpins 73 = .ok (.iinc 5 1, 3) := by decide +kernel
theorem dX6_turnSpins_76 : decode cX6_turnSpins 76 = .ok (.goto (-39), 3) := by decide +kernel
theorem dX6_turnSpins_79 : decode cX6_turnSpins 79 = .ok (.iconst 0, 1) := by decide +kernel
theorem dX6_turnSpins_80 : decode cX6_turnSpins 80 = .ok (.ireturn, 1) := by decide +kernel
theorem dX7_init_0 : decode cX7_init 0 = .ok (.aload_n 0, 1) := by decide +kernel
theorem dX7_init_1 : decode cX7_init 1 = .ok (.iload_n 1, 1) := by decide +kernel
theorem dX7_init_2 : decode cX7_init 2 = .ok (.aload_n 2, 1) := by decide +kernel
theorem dX7_init_3 : decode cX7_init 3 = .ok (.invokespecial 3, 3) := by decide +kernel
theorem dX7_init_6 : decode cX7_init 6 = .ok (.aload_n 0, 1) := by decide +kernel
theorem dX7_init_7 : decode cX7_init 7 = .ok (.iload_n 3, 1) := by decide +kernel
theorem dX7_init_8 : decode cX7_init 8 = .ok (.putfield 9, 3) := by decide +kernel
theorem dX7_init_11 : decode cX7_init 11 = .ok (.return_, 1) := by decide +kernel
theorem dX7_ownKind_0 : decode cX7_ownKind 0 = .ok (.iconst 5, 1) := by decide +kernel
theorem dX7_ownKind_1 : decode cX7_ownKind 1 = .ok (.ireturn, 1) := by decide +kernel
theorem dX7_cost_0 : decode cX7_cost 0 = .ok (.aload_n 1, 1) := by decide +kernel
theorem dX7_cost_1 : decode cX7_cost 1 = .ok (.bipush 14, 2) := by decide +kernel
theorem dX7_cost_3 : decode cX7_cost 3 = .ok (.invokevirtual 15, 3) := by decide +kernel
theorem dX7_cost_6 : decode cX7_cost 6 = .ok (.aload_n 0, 1) := by decide +kernel
theorem dX7_cost_7 : decode cX7_cost 7 = .ok (.getfield 9, 3) := by decide +kernel
theorem dX7_cost_10 : decode cX7_cost 10 = .ok (.ireturn, 1) := by decide +kernel
theorem dX7_perform_0 : decode cX7_perform 0 = .ok (.aload_n 0, 1) := by decide +kernel
theorem dX7_perform_1 : decode cX7_perform 1 = .ok (.iconst 0, 1) := by decide +kernel
theorem dX7_perform_2 : decode cX7_perform 2 = .ok (.putfield 19, 3) := by decide +kernel
theorem dX7_perform_5 : decode cX7_perform 5 = .ok (.iconst 0, 1) := by decide +kernel
theorem dX7_perform_6 : decode cX7_perform 6 = .ok (.ireturn, 1) := by decide +kernel
theorem dX8_init_0 : decode cX8_init 0 = .ok (.aload_n 0, 1) := by decide +kernel
theorem dX8_init_1 : decode cX8_init 1 = .ok (.iload_n 1, 1) := by decide +kernel
theorem dX8_init_2 : decode cX8_init 2 = .ok (.aload_n 2, 1) := by decide +kernel
theorem dX8_init_3 : decode cX8_init 3 = .ok (.invokespecial 3, 3) := by decide +kernel
theorem dX8_init_6 : decode cX8_init 6 = .ok (.aload_n 0, 1) := by decide +kernel
theorem dX8_init_7 : decode cX8_init 7 = .ok (.iload_n 3, 1) := by decide +kernel
theorem dX8_init_8 : decode cX8_init 8 = .ok (.putfield 9, 3) := by decide +kernel
theorem dX8_init_11 : decode cX8_init 11 = .ok (.aload_n 0, 1) := by decide +kernel
theorem dX8_init_12 : decode cX8_init 12 = .ok (.iload 4, 2) := by decide +kernel
theorem dX8_init_14 : decode cX8_init 14 = .ok (.putfield 15, 3) := by decide +kernel
theorem dX8_init_17 : decode cX8_init 17 = .ok (.return_, 1) := by decide +kernel
theorem dX8_ownKind_0 : decode cX8_ownKind 0 = .ok (.bipush 7, 2) := by decide +kernel
theorem dX8_ownKind_2 : decode cX8_ownKind 2 = .ok (.ireturn, 1) := by decide +kernel
theorem dX8_mark_0 : decode cX8_mark 0 = .ok (.aload_n 1, 1) := by decide +kernel
theorem dX8_mark_1 : decode cX8_mark 1 = .ok (.bipush 24, 2) := by decide +kernel
theorem dX8_mark_3 : decode cX8_mark 3 = .ok (.invokevirtual 18, 3) := by decide +kernel
theorem dX8_mark_6 : decode cX8_mark 6 = .ok (.aload_n 0, 1) := by decide +kernel
theorem dX8_mark_7 : decode cX8_mark 7 = .ok (.aload_n 1, 1) := by decide +kernel
theorem dX8_mark_8 : decode cX8_mark 8 = .ok (.invokespecial 22, 3) := by decide +kernel
theorem dX8_mark_11 : decode cX8_mark 11 = .ok (.aload_n 0, 1) := by decide +kernel
theorem dX8_mark_12 : decode cX8_mark 12 = .ok (.getfield 9, 3) := by decide +kernel
theorem dX8_mark_15 : decode cX8_mark 15 = .ok (.iadd, 1) := by decide +kernel
theorem dX8_mark_16 : decode cX8_mark 16 = .ok (.ireturn, 1) := by decide +kernel
theorem dX8_perform_0 : decode cX8_perform 0 = .ok (.aload_n 1, 1) := by decide +kernel
theorem dX8_perform_1 : decode cX8_perform 1 = .ok (.aload_n 0, 1) := by decide +kernel
theorem dX8_perform_2 : decode cX8_perform 2 = .ok (.getfield 9, 3) := by decide +kernel
theorem dX8_perform_5 : decode cX8_perform 5 = .ok (.invokevirtual 26, 3) := by decide +kernel
theorem dX8_perform_8 : decode cX8_perform 8 = .ok (.astore_n 2, 1) := by decide +kernel
theorem dX8_perform_9 : decode cX8_perform 9 = .ok (.aload_n 2, 1) := by decide +kernel
theorem dX8_perform_10 : decode cX8_perform 10 = .ok (.ifnull 26, 3) := by decide +kernel
theorem dX8_perform_13 : decode cX8_perform 13 = .ok (.aload_n 1, 1) := by decide +kernel
theorem dX8_perform_14 : decode cX8_perform 14 = .ok (.getfield 30, 3) := by decide +kernel
theorem dX8_perform_17 : decode cX8_perform 17 = .ok (.aload_n 2, 1) := by decide +kernel
theorem dX8_perform_18 : decode cX8_perform 18 = .ok (.aload_n 1, 1) := by decide +kernel
theorem dX8_perform_19 : decode cX8_perform 19 = .ok (.getfield 34, 3) := by decide +kernel
theorem dX8_perform_22 : decode cX8_perform 22 = .ok (.aload_n 0, 1) := by decide +kernel
theorem dX8_perform_23 : decode cX8_perform 23 = .ok (.getfield 15, 3) := by decide +kernel
theorem dX8_perform_26 : decode cX8_perform 26 = .ok (.invokevirtual 38, 3) := by decide +kernel
theorem dX8_perform_29 : decode cX8_perform 29 = .ok (.ifCond .eq 7, 3) := by decide +kernel
theorem dX8_perform_32 : decode cX8_perform 32 = .ok (.iconst 0, 1) := by decide +kernel
theorem dX8_perform_33 : decode cX8_perform 33 = .ok (.goto 5, 3) := by decide +kernel
theorem dX8_perform_36 : decode cX8_perform 36 = .ok (.ldc 44, 2) := by decide +kernel
theorem dX8_perform_38 : decode cX8_perform 38 = .ok (.ireturn, 1) := by decide +kernel
theorem dX9_init_0 : decode cX9_init 0 = .ok (.aload_n 0, 1) := by decide +kernel
theorem dX9_init_1 : decode cX9_init 1 = .ok (.invokespecial 3, 3) := by decide +kernel
theorem dX9_init_4 : decode cX9_init 4 = .ok (.aload_n 0, 1) := by decide +kernel
theorem dX9_init_5 : decode cX9_init 5 = .ok (.sipush 300, 3) := by decide +kernel
theorem dX9_init_8 : decode cX9_init 8 = .ok (.newarray .int, 2) := by decide +kernel
theorem dX9_init_10 : decode cX9_init 10 = .ok (.putfield 9, 3) := by decide +kernel
theorem dX9_init_13 : decode cX9_init 13 = .ok (.aload_n 0, 1) := by decide +kernel
theorem dX9_init_14 : decode cX9_init 14 = .ok (.sipush 300, 3) := by decide +kernel
theorem dX9_init_17 : decode cX9_init 17 = .ok (.newarray .long, 2) := by decide +kernel
theorem dX9_init_19 : decode cX9_init 19 = .ok (.putfield 15, 3) := by decide +kernel
theorem dX9_init_22 : decode cX9_init 22 = .ok (.return_, 1) := by decide +kernel
theorem dX9_become_0 : decode cX9_become 0 = .ok (.aload_n 1, 1) := by decide +kernel
theorem dX9_become_1 : decode cX9_become 1 = .ok (.getfield 9, 3) := by decide +kernel
theorem dX9_become_4 : decode cX9_become 4 = .ok (.iconst 0, 1) := by decide +kernel
theorem dX9_become_5 : decode cX9_become 5 = .ok (.aload_n 0, 1) := by decide +kernel
theorem dX9_become_6 : decode cX9_become 6 = .ok (.getfield 9, 3) := by decide +kernel
theorem dX9_become_9 : decode cX9_become 9 = .ok (.iconst 0, 1) := by decide +kernel
theorem dX9_become_10 : decode cX9_become 10 = .ok (.aload_n 1, 1) := by decide +kernel
theorem dX9_become_11 : decode cX9_become 11 = .ok (.getfield 19, 3) := by decide +kernel
theorem dX9_become_14 : decode cX9_become 14 = .ok (.invokestatic 23, 3) := by decide +kernel
theorem dX9_become_17 : decode cX9_become 17 = .ok (.aload_n 1, 1) := by decide +kernel
theorem dX9_become_18 : decode cX9_become 18 = .ok (.getfield 15, 3) := by decide +kernel
theorem dX9_become_21 : decode cX9_become 21 = .ok (.iconst 0, 1) := by decide +kernel
theorem dX9_become_22 : decode cX9_become 22 = .ok (.aload_n 0, 1) := by decide +kernel
theorem dX9_become_23 : decode cX9_become 23 = .ok (.getfield 15, 3) := by decide +kernel
theorem dX9_become_26 : decode cX9_become 26 = .ok (.iconst 0, 1) := by decide +kernel
theorem dX9_become_27 : decode cX9_become 27 = .ok (.aload_n 1, 1) := by decide +kernel
theorem dX9_become_28 : decode cX9_become 28 = .ok (.getfield 19, 3) := by decide +kernel
theorem dX9_become_31 : decode cX9_become 31 = .ok (.invokestatic 23, 3) := by decide +kernel
theorem dX9_become_34 : decode cX9_become 34 = .ok (.aload_n 0, 1) := by decide +kernel
theorem dX9_become_35 : decode cX9_become 35 = .ok (.aload_n 1, 1) := by decide +kernel
theorem dX9_become_36 : decode cX9_become 36 = .ok (.getfield 19, 3) := by decide +kernel
theorem dX9_become_39 : decode cX9_become 39 = .ok (.putfield 19, 3) := by decide +kernel
theorem dX9_become_42 : decode cX9_become 42 = .ok (.return_, 1) := by decide +kernel
theorem dX9_isLike_0 : decode cX9_isLike 0 = .ok (.aload_n 0, 1) := by decide +kernel
theorem dX9_isLike_1 : decode cX9_isLike 1 = .ok (.getfield 19, 3) := by decide +kernel
theorem dX9_isLike_4 : decode cX9_isLike 4 = .ok (.aload_n 1, 1) := by decide +kernel
theorem dX9_isLike_5 : decode cX9_isLike 5 = .ok (.getfield 19, 3) := by decide +kernel
theorem dX9_isLike_8 : decode cX9_isLike 8 = .ok (.if_icmp .eq 5, 3) := by decide +kernel
theorem dX9_isLike_11 : decode cX9_isLike 11 = .ok (.iconst 0, 1) := by decide +kernel
theorem dX9_isLike_12 : decode cX9_isLike 12 = .ok (.ireturn, 1) := by decide +kernel
theorem dX9_isLike_13 : decode cX9_isLike 13 = .ok (.iconst 0, 1) := by decide +kernel
theorem dX9_isLike_14 : decode cX9_isLike 14 = .ok (.istore_n 2, 1) := by decide +kernel
theorem dX9_isLike_15 : decode cX9_isLike 15 = .ok (.iload_n 2, 1) := by decide +kernel
theorem dX9_isLike_16 : decode cX9_isLike 16 = .ok (.aload_n 0, 1) := by decide +kernel
theorem dX9_isLike_17 : decode cX9_isLike 17 = .ok (.getfield 19, 3) := by decide +kernel
theorem dX9_isLike_20 : decode cX9_isLike 20 = .ok (.if_icmp .ge 42, 3) := by decide +kernel
theorem dX9_isLike_23 : decode cX9_isLike 23 = .ok (.aload_n 0, 1) := by decide +kernel
theorem dX9_isLike_24 : decode cX9_isLike 24 = .ok (.getfield 9, 3) := by decide +kernel
theorem dX9_isLike_27 : decode cX9_isLike 27 = .ok (.iload_n 2, 1) := by decide +kernel
theorem dX9_isLike_28 : decode cX9_isLike 28 = .ok (.iaload, 1) := by decide +kernel
theorem dX9_isLike_29 : decode cX9_isLike 29 = .ok (.aload_n 1, 1) := by decide +kernel
theorem dX9_isLike_30 : decode cX9_isLike 30 = .ok (.getfield 9, 3) := by decide +kernel
theorem dX9_isLike_33 : decode cX9_isLike 33 = .ok (.iload_n 2, 1) := by decide +kernel
theorem dX9_isLike_34 : decode cX9_isLike 34 = .ok (.iaload, 1) := by decide +kernel
theorem dX9_isLike_35 : decode cX9_isLike 35 = .ok (.if_icmp .ne 19, 3) := by decide +kernel
theorem dX9_isLike_38 : decode cX9_isLike 38 = .ok (.aload_n 0, 1) := by decide +kernel
theorem dX9_isLike_39 : decode cX9_isLike 39 = .ok (.getfield 15, 3) := by decide +kernel
theorem dX9_isLike_42 : decode cX9_isLike 42 = .ok (.iload_n 2, 1) := by decide +kernel
theorem dX9_isLike_43 : decode cX9_isLike 43 = .ok (.laload, 1) := by decide +kernel
theorem dX9_isLike_44 : decode cX9_isLike 44 = .ok (.aload_n 1, 1) := by decide +kernel
theorem dX9_isLike_45 : decode cX9_isLike 45 = .ok (.getfield 15, 3) := by decide +kernel
theorem dX9_isLike_48 : decode cX9_isLike 48 = .ok (.iload_n 2, 1) := by decide +kernel
theorem dX9_isLike_49 : decode cX9_isLike 49 = .ok (.laload, 1) := by decide +kernel
theorem dX9_isLike_50 : decode cX9_isLike 50 = .ok (.lcmp, 1) := by decide +kernel
theorem dX9_isLike_51 : decode cX9_isLike 51 = .ok (.ifCond .eq 5, 3) := by decide +kernel
theorem dX9_isLike_54 : decode cX9_isLike 54 = .ok (.iconst 0, 1) := by decide +kernel
theorem dX9_isLike_55 : decode cX9_isLike 55 = .ok (.ireturn, 1) := by decide +kernel
theorem dX9_isLike_56 : decode cX9_isLike 56 = .ok (.iinc 2 1, 3) := by decide +kernel
theorem dX9_isLike_59 : decode cX9_isLike 59 = .ok (.goto (-44), 3) := by decide +kernel
theorem dX9_isLike_62 : decode cX9_isLike 62 = .ok (.iconst 1, 1) := by decide +kernel
theorem dX9_isLike_63 : decode cX9_isLike 63 = .ok (.ireturn, 1) := by decide +kernel
theorem dX10_init_0 : decode cX10_init 0 = .ok (.aload_n 0, 1) := by decide +kernel
theorem dX10_init_1 : decode cX10_init 1 = .ok (.invokespecial 3, 3) := by decide +kernel
theorem dX10_init_4 : decode cX10_init 4 = .ok (.aload_n 0, 1) := by decide +kernel
theorem dX10_init_5 : decode cX10_init 5 = .ok (.bipush 60, 2) := by decide +kernel
theorem dX10_init_7 : decode cX10_init 7 = .ok (.newarray .int, 2) := by decide +kernel
theorem dX10_init_9 : decode cX10_init 9 = .ok (.putfield 9, 3) := by decide +kernel
theorem dX10_init_12 : decode cX10_init 12 = .ok (.aload_n 0, 1) := by decide +kernel
theorem dX10_init_13 : decode cX10_init 13 = .ok (.iconst 1, 1) := by decide +kernel
theorem dX10_init_14 : decode cX10_init 14 = .ok (.putfield 15, 3) := by decide +kernel
theorem dX10_init_17 : decode cX10_init 17 = .ok (.return_, 1) := by decide +kernel
theorem dX10_make_0 : decode cX10_make 0 = .ok (.aload_n 0, 1) := by decide +kernel
theorem dX10_make_1 : decode cX10_make 1 = .ok (.iconst 0, 1) := by decide +kernel
theorem dX10_make_2 : decode cX10_make 2 = .ok (.putfield 15, 3) := by decide +kernel
theorem dX10_make_5 : decode cX10_make 5 = .ok (.aload_n 0, 1) := by decide +kernel
theorem dX10_make_6 : decode cX10_make 6 = .ok (.iload_n 1, 1) := by decide +kernel
theorem dX10_make_7 : decode cX10_make 7 = .ok (.putfield 19, 3) := by decide +kernel
theorem dX10_make_10 : decode cX10_make 10 = .ok (.aload_n 0, 1) := by decide +kernel
theorem dX10_make_11 : decode cX10_make 11 = .ok (.iload_n 2, 1) := by decide +kernel
theorem dX10_make_12 : decode cX10_make 12 = .ok (.putfield 23, 3) := by decide +kernel
theorem dX10_make_15 : decode cX10_make 15 = .ok (.aload_n 0, 1) := by decide +kernel
theorem dX10_make_16 : decode cX10_make 16 = .ok (.getfield 9, 3) := by decide +kernel
theorem dX10_make_19 : decode cX10_make 19 = .ok (.iconst 0, 1) := by decide +kernel
theorem dX10_make_20 : decode cX10_make 20 = .ok (.invokestatic 26, 3) := by decide +kernel
theorem dX10_make_23 : decode cX10_make 23 = .ok (.return_, 1) := by decide +kernel
theorem dX10_hasPlaces_0 : decode cX10_hasPlaces 0 = .ok (.iload_n 1, 1) := by decide +kernel
theorem dX10_hasPlaces_1 : decode cX10_hasPlaces 1 = .ok (.ifCond .lt 21, 3) := by decide +kernel
theorem dX10_hasPlaces_4 : decode cX10_hasPlaces 4 = .ok (.iload_n 2, 1) := by decide +kernel
theorem dX10_hasPlaces_5 : decode cX10_hasPlaces 5 = .ok (.ifCond .lt 17, 3) := by decide +kernel
theorem dX10_hasPlaces_8 : decode cX10_hasPlaces 8 = .ok (.iload_n 1, 1) := by decide +kernel
theorem dX10_hasPlaces_9 : decode cX10_hasPlaces 9 = .ok (.aload_n 0, 1) := by decide +kernel
theorem dX10_hasPlaces_10 : decode cX10_hasPlaces 10 = .ok (.getfield 23, 3) := by decide +kernel
theorem dX10_hasPlaces_13 : decode cX10_hasPlaces 13 = .ok (.iload_n 2, 1) := by decide +kernel
theorem dX10_hasPlaces_14 : decode cX10_hasPlaces 14 = .ok (.isub, 1) := by decide +kernel
theorem dX10_hasPlaces_15 : decode cX10_hasPlaces 15 = .ok (.if_icmp .gt 7, 3) := by decide +kernel
theorem dX10_hasPlaces_18 : decode cX10_hasPlaces 18 = .ok (.iconst 1, 1) := by decide +kernel
theorem dX10_hasPlaces_19 : decode cX10_hasPlaces 19 = .ok (.goto 4, 3) := by decide +kernel
theorem dX10_hasPlaces_22 : decode cX10_hasPlaces 22 = .ok (.iconst 0, 1) := by decide +kernel
theorem dX10_hasPlaces_23 : decode cX10_hasPlaces 23 = .ok (.ireturn, 1) := by decide +kernel
theorem dX10_fitted_0 : decode cX10_fitted 0 = .ok (.aload_n 0, 1) := by decide +kernel
theorem dX10_fitted_1 : decode cX10_fitted 1 = .ok (.getfield 19, 3) := by decide +kernel
theorem dX10_fitted_4 : decode cX10_fitted 4 = .ok (.lookupswitch 34 #[(0, 28), (1, 31)], 28) := by decide +kernel
theorem dX10_fitted_32 : decode cX10_fitted 32 = .ok (.iload_n 1, 1) := by decide +kernel
theorem dX10_fitted_33 : decode cX10_fitted 33 = .ok (.i2b, 1) := by decide +kernel
theorem dX10_fitted_34 : decode cX10_fitted 34 = .ok (.ireturn, 1) := by decide +kernel
theorem dX10_fitted_35 : decode cX10_fitted 35 = .ok (.iload_n 1, 1) := by decide +kernel
theorem dX10_fitted_36 : decode cX10_fitted 36 = .ok (.i2s, 1) := by decide +kernel
theorem dX10_fitted_37 : decode cX10_fitted 37 = .ok (.ireturn, 1) := by decide +kernel
theorem dX10_fitted_38 : decode cX10_fitted 38 = .ok (.iload_n 1, 1) := by decide +kernel
theorem dX10_fitted_39 : decode cX10_fitted 39 = .ok (.ireturn, 1) := by decide +kernel
theorem dX11_init_0 : decode cX11_init 0 = .ok (.aload_n 0, 1) := by decide +kernel
theorem dX11_init_1 : decode cX11_init 1 = .ok (.invokespecial 1, 3) := by decide +kernel
theorem dX11_init_4 : decode cX11_init 4 = .ok (.aload_n 0, 1) := by decide +kernel
theorem dX11_init_5 : decode cX11_init 5 = .ok (.bipush 9, 2) := by decide +kernel
theorem dX11_init_7 : decode cX11_init 7 = .ok (.anewarray 9, 3) := by decide +kernel
theorem dX11_init_10 : decode cX11_init 10 = .ok (.putfield 11, 3) := by decide +kernel
theorem dX11_init_13 : decode cX11_init 13 = .ok (.aload_n 0, 1) := by decide +kernel
theorem dX11_init_14 : decode cX11_init 14 = .ok (.bipush 9, 2) := by decide +kernel
theorem dX11_init_16 : decode cX11_init 16 = .ok (.anewarray 9, 3) := by decide +kernel
theorem dX11_init_19 : decode cX11_init 19 = .ok (.putfield 15, 3) := by decide +kernel
theorem dX11_init_22 : decode cX11_init 22 = .ok (.aload_n 0, 1) := by decide +kernel
theorem dX11_init_23 : decode cX11_init 23 = .ok (.new 18, 3) := by decide +kernel
theorem dX11_init_26 : decode cX11_init 26 = .ok (.dup, 1) := by decide +kernel
theorem dX11_init_27 : decode cX11_init 27 = .ok (.invokespecial 20, 3) := by decide +kernel
theorem dX11_init_30 : decode cX11_init 30 = .ok (.putfield 21, 3) := by decide +kernel
theorem dX11_init_33 : decode cX11_init 33 = .ok (.aload_n 0, 1) := by decide +kernel
theorem dX11_init_34 : decode cX11_init 34 = .ok (.bipush 8, 2) := by decide +kernel
theorem dX11_init_36 : decode cX11_init 36 = .ok (.anewarray 25, 3) := by decide +kernel
theorem dX11_init_39 : decode cX11_init 39 = .ok (.putfield 27, 3) := by decide +kernel
theorem dX11_init_42 : decode cX11_init 42 = .ok (.aload_n 0, 1) := by decide +kernel
theorem dX11_init_43 : decode cX11_init 43 = .ok (.bipush 40, 2) := by decide +kernel
theorem dX11_init_45 : decode cX11_init 45 = .ok (.anewarray 31, 3) := by decide +kernel
theorem dX11_init_48 : decode cX11_init 48 = .ok (.putfield 33, 3) := by decide +kernel
theorem dX11_init_51 : decode cX11_init 51 = .ok (.aload_n 0, 1) := by decide +kernel
theorem dX11_init_52 : decode cX11_init 52 = .ok (.ldc 37, 2) := by decide +kernel
theorem dX11_init_54 : decode cX11_init 54 = .ok (.putfield 38, 3) := by decide +kernel
theorem dX11_init_57 : decode cX11_init 57 = .ok (.aload_n 0, 1) := by decide +kernel
theorem dX11_init_58 : decode cX11_init 58 = .ok (.bipush 16, 2) := by decide +kernel
theorem dX11_init_60 : decode cX11_init 60 = .ok (.newarray .int, 2) := by decide +kernel
theorem dX11_init_62 : decode cX11_init 62 = .ok (.putfield 42, 3) := by decide +kernel
theorem dX11_init_65 : decode cX11_init 65 = .ok (.aload_n 0, 1) := by decide +kernel
theorem dX11_init_66 : decode cX11_init 66 = .ok (.iconst 1, 1) := by decide +kernel
theorem dX11_init_67 : decode cX11_init 67 = .ok (.iconst 4, 1) := by decide +kernel
theorem dX11_init_68 : decode cX11_init 68 = .ok (.iload_n 1, 1) := by decide +kernel
theorem dX11_init_69 : decode cX11_init 69 = .ok (.invokestatic 46, 3) := by decide +kernel
theorem dX11_init_72 : decode cX11_init 72 = .ok (.invokestatic 52, 3) := by decide +kernel
theorem dX11_init_75 : decode cX11_init 75 = .ok (.putfield 55, 3) := by decide +kernel
theorem dX11_init_78 : decode cX11_init 78 = .ok (.aload_n 0, 1) := by decide +kernel
theorem dX11_init_79 : decode cX11_init 79 = .ok (.new 9, 3) := by decide +kernel
theorem dX11_init_82 : decode cX11_init 82 = .ok (.dup, 1) := by decide +kernel
theorem dX11_init_83 : decode cX11_init 83 = .ok (.invokespecial 58, 3) := by decide +kernel
theorem dX11_init_86 : decode cX11_init 86 = .ok (.putfield 59, 3) := by decide +kernel
theorem dX11_init_89 : decode cX11_init 89 = .ok (.aload_n 0, 1) := by decide +kernel
theorem dX11_init_90 : decode cX11_init 90 = .ok (.getfield 11, 3) := by decide +kernel
theorem dX11_init_93 : decode cX11_init 93 = .ok (.iconst 0, 1) := by decide +kernel
theorem dX11_init_94 : decode cX11_init 94 = .ok (.aload_n 0, 1) := by decide +kernel
theorem dX11_init_95 : decode cX11_init 95 = .ok (.getfield 59, 3) := by decide +kernel
theorem dX11_init_98 : decode cX11_init 98 = .ok (.aastore, 1) := by decide +kernel
theorem dX11_init_99 : decode cX11_init 99 = .ok (.iconst 1, 1) := by decide +kernel
theorem dX11_init_100 : decode cX11_init 100 = .ok (.istore_n 2, 1) := by decide +kernel
theorem dX11_init_101 : decode cX11_init 101 = .ok (.iload_n 2, 1) := by decide +kernel
theorem dX11_init_102 : decode cX11_init 102 = .ok (.aload_n 0, 1) := by decide +kernel
theorem dX11_init_103 : decode cX11_init 103 = .ok (.getfield 11, 3) := by decide +kernel
theorem dX11_init_106 : decode cX11_init 106 = .ok (.arraylength, 1) := by decide +kernel
theorem dX11_init_107 : decode cX11_init 107 = .ok (.if_icmp .ge 22, 3) := by decide +kernel
theorem dX11_init_110 : decode cX11_init 110 = .ok (.aload_n 0, 1) := by decide +kernel
theorem dX11_init_111 : decode cX11_init 111 = .ok (.getfield 11, 3) := by decide +kernel
theorem dX11_init_114 : decode cX11_init 114 = .ok (.iload_n 2, 1) := by decide +kernel
theorem dX11_init_115 : decode cX11_init 115 = .ok (.new 9, 3) := by decide +kernel
theorem dX11_init_118 : decode cX11_init 118 = .ok (.dup, 1) := by decide +kernel
theorem dX11_init_119 : decode cX11_init 119 = .ok (.invokespecial 58, 3) := by decide +kernel
theorem dX11_init_122 : decode cX11_init 122 = .ok (.aastore, 1) := by decide +kernel
theorem dX11_init_123 : decode cX11_init 123 = .ok (.iinc 2 1, 3) := by decide +kernel
theorem dX11_init_126 : decode cX11_init 126 = .ok (.goto (-25), 3) := by decide +kernel
theorem dX11_init_129 : decode cX11_init 129 = .ok (.iconst 0, 1) := by decide +kernel
theorem dX11_init_130 : decode cX11_init 130 = .ok (.istore_n 2, 1) := by decide +kernel
theorem dX11_init_131 : decode cX11_init 131 = .ok (.iload_n 2, 1) := by decide +kernel
theorem dX11_init_132 : decode cX11_init 132 = .ok (.aload_n 0, 1) := by decide +kernel
theorem dX11_init_133 : decode cX11_init 133 = .ok (.getfield 15, 3) := by decide +kernel
theorem dX11_init_136 : decode cX11_init 136 = .ok (.arraylength, 1) := by decide +kernel
theorem dX11_init_137 : decode cX11_init 137 = .ok (.if_icmp .ge 22, 3) := by decide +kernel
theorem dX11_init_140 : decode cX11_init 140 = .ok (.aload_n 0, 1) := by decide +kernel
theorem dX11_init_141 : decode cX11_init 141 = .ok (.getfield 15, 3) := by decide +kernel
theorem dX11_init_144 : decode cX11_init 144 = .ok (.iload_n 2, 1) := by decide +kernel
theorem dX11_init_145 : decode cX11_init 145 = .ok (.new 9, 3) := by decide +kernel
theorem dX11_init_148 : decode cX11_init 148 = .ok (.dup, 1) := by decide +kernel
theorem dX11_init_149 : decode cX11_init 149 = .ok (.invokespecial 58, 3) := by decide +kernel
theorem dX11_init_152 : decode cX11_init 152 = .ok (.aastore, 1) := by decide +kernel
theorem dX11_init_153 : decode cX11_init 153 = .ok (.iinc 2 1, 3) := by decide +kernel
theorem dX11_init_156 : decode cX11_init 156 = .ok (.goto (-25), 3) := by decide +kernel
theorem dX11_init_159 : decode cX11_init 159 = .ok (.iconst 0, 1) := by decide +kernel
theorem dX11_init_160 : decode cX11_init 160 = .ok (.istore_n 2, 1) := by decide +kernel
theorem dX11_init_161 : decode cX11_init 161 = .ok (.iload_n 2, 1) := by decide +kernel
theorem dX11_init_162 : decode cX11_init 162 = .ok (.bipush 8, 2) := by decide +kernel
theorem dX11_init_164 : decode cX11_init 164 = .ok (.if_icmp .ge 22, 3) := by decide +kernel
theorem dX11_init_167 : decode cX11_init 167 = .ok (.aload_n 0, 1) := by decide +kernel
theorem dX11_init_168 : decode cX11_init 168 = .ok (.getfield 27, 3) := by decide +kernel
theorem dX11_init_171 : decode cX11_init 171 = .ok (.iload_n 2, 1) := by decide +kernel
theorem dX11_init_172 : decode cX11_init 172 = .ok (.new 25, 3) := by decide +kernel
theorem dX11_init_175 : decode cX11_init 175 = .ok (.dup, 1) := by decide +kernel
theorem dX11_init_176 : decode cX11_init 176 = .ok (.invokespecial 63, 3) := by decide +kernel
theorem dX11_init_179 : decode cX11_init 179 = .ok (.aastore, 1) := by decide +kernel
theorem dX11_init_180 : decode cX11_init 180 = .ok (.iinc 2 1, 3) := by decide +kernel
theorem dX11_init_183 : decode cX11_init 183 = .ok (.goto (-22), 3) := by decide +kernel
theorem dX11_init_186 : decode cX11_init 186 = .ok (.return_, 1) := by decide +kernel
theorem dX11_table_0 : decode cX11_table 0 = .ok (.aload_n 0, 1) := by decide +kernel
theorem dX11_table_1 : decode cX11_table 1 = .ok (.iload_n 1, 1) := by decide +kernel
theorem dX11_table_2 : decode cX11_table 2 = .ok (.invokevirtual 64, 3) := by decide +kernel
theorem dX11_table_5 : decode cX11_table 5 = .ok (.astore 4, 2) := by decide +kernel
theorem dX11_table_7 : decode cX11_table 7 = .ok (.aload 4, 2) := by decide +kernel
theorem dX11_table_9 : decode cX11_table 9 = .ok (.ifnull 18, 3) := by decide +kernel
theorem dX11_table_12 : decode cX11_table 12 = .ok (.iload_n 2, 1) := by decide +kernel
theorem dX11_table_13 : decode cX11_table 13 = .ok (.iconst 0, 1) := by decide +kernel
theorem dX11_table_14 : decode cX11_table 14 = .ok (.iconst 2, 1) := by decide +kernel
theorem dX11_table_15 : decode cX11_table 15 = .ok (.invokestatic 68, 3) := by decide +kernel
theorem dX11_table_18 : decode cX11_table 18 = .ok (.ifCond .eq 9, 3) := by decide +kernel
theorem dX11_table_21 : decode cX11_table 21 = .ok (.iload_n 3, 1) := by decide +kernel
theorem dX11_table_22 : decode cX11_table 22 = .ok (.bipush 60, 2) := by decide +kernel
theorem dX11_table_24 : decode cX11_table 24 = .ok (.if_icmp .le 6, 3) := by decide +kernel
theorem dX11_table_27 : decode cX11_table 27 = .ok (.ldc 72, 2) := by decide +kernel
theorem dX11_table_29 : decode cX11_table 29 = .ok (.ireturn, 1) := by decide +kernel
theorem dX11_table_30 : decode cX11_table 30 = .ok (.iload_n 3, 1) := by decide +kernel
theorem dX11_table_31 : decode cX11_table 31 = .ok (.ifCond .ge 9, 3) := by decide +kernel
theorem dX11_table_34 : decode cX11_table 34 = .ok (.aload_n 0, 1) := by decide +kernel
theorem dX11_table_35 : decode cX11_table 35 = .ok (.iconst 4, 1) := by decide +kernel
theorem dX11_table_36 : decode cX11_table 36 = .ok (.invokevirtual 73, 3) := by decide +kernel
theorem dX11_table_39 : decode cX11_table 39 = .ok (.ireturn, 1) := by decide +kernel
theorem dX11_table_40 : decode cX11_table 40 = .ok (.aload 4, 2) := by decide +kernel
theorem dX11_table_42 : decode cX11_table 42 = .ok (.iload_n 2, 1) := by decide +kernel
theorem dX11_table_43 : decode cX11_table 43 = .ok (.iload_n 3, 1) := by decide +kernel
theorem dX11_table_44 : decode cX11_table 44 = .ok (.invokevirtual 77, 3) := by decide +kernel
theorem dX11_table_47 : decode cX11_table 47 = .ok (.aload_n 0, 1) := by decide +kernel
theorem dX11_table_48 : decode cX11_table 48 = .ok (.iload_n 3, 1) := by decide +kernel
theorem dX11_table_49 : decode cX11_table 49 = .ok (.invokevirtual 81, 3) := by decide +kernel
theorem dX11_table_52 : decode cX11_table 52 = .ok (.ireturn, 1) := by decide +kernel
theorem dX11_set_0 : decode cX11_set 0 = .ok (.aload_n 0, 1) := by decide +kernel
theorem dX11_set_1 : decode cX11_set 1 = .ok (.iload_n 1, 1) := by decide +kernel
theorem dX11_set_2 : decode cX11_set 2 = .ok (.invokevirtual 64, 3) := by decide +kernel
theorem dX11_set_5 : decode cX11_set 5 = .ok (.astore 4, 2) := by decide +kernel
theorem dX11_set_7 : decode cX11_set 7 = .ok (.aload 4, 2) := by decide +kernel
theorem dX11_set_9 : decode cX11_set 9 = .ok (.ifnonnull 6, 3) := by decide +kernel
theorem dX11_set_12 : decode cX11_set 12 = .ok (.ldc 72, 2) := by decide +kernel
theorem dX11_set_14 : decode cX11_set 14 = .ok (.ireturn, 1) := by decide +kernel
theorem dX11_set_15 : decode cX11_set 15 = .ok (.aload 4, 2) := by decide +kernel
theorem dX11_set_17 : decode cX11_set 17 = .ok (.getfield 84, 3) := by decide +kernel
theorem dX11_set_20 : decode cX11_set 20 = .ok (.ifCond .eq 9, 3) := by decide +kernel
theorem dX11_set_23 : decode cX11_set 23 = .ok (.aload_n 0, 1) := by decide +kernel
theorem dX11_set_24 : decode cX11_set 24 = .ok (.iconst 1, 1) := by decide +kernel
theorem dX11_set_25 : decode cX11_set 25 = .ok (.invokevirtual 73, 3) := by decide +kernel
theorem dX11_set_28 : decode cX11_set 28 = .ok (.ireturn, 1) := by decide +kernel
theorem dX11_set_29 : decode cX11_set 29 = .ok (.aload 4, 2) := by decide +kernel
theorem dX11_set_31 : decode cX11_set 31 = .ok (.iload_n 2, 1) := by decide +kernel
theorem dX11_set_32 : decode cX11_set 32 = .ok (.iconst 1, 1) := by decide +kernel
theorem dX11_set_33 : decode cX11_set 33 = .ok (.invokevirtual 88, 3) := by decide +kernel
theorem dX11_set_36 : decode cX11_set 36 = .ok (.ifCond .ne 9, 3) := by decide +kernel
theorem dX11_set_39 : decode cX11_set 39 = .ok (.aload_n 0, 1) := by decide +kernel
theorem dX11_set_40 : decode cX11_set 40 = .ok (.iconst 2, 1) := by decide +kernel
theorem dX11_set_41 : decode cX11_set 41 = .ok (.invokevirtual 73, 3) := by decide +kernel
theorem dX11_set_44 : decode cX11_set 44 = .ok (.ireturn, 1) := by decide +kernel
theorem dX11_set_45 : decode cX11_set 45 = .ok (.aload 4, 2) := by decide +kernel
theorem dX11_set_47 : decode cX11_set 47 = .ok (.getfield 92, 3) := by decide +kernel
theorem dX11_set_50 : decode cX11_set 50 = .ok (.iload_n 2, 1) := by decide +kernel
theorem dX11_set_51 : decode cX11_set 51 = .ok (.aload 4, 2) := by decide +kernel
theorem dX11_set_53 : decode cX11_set 53 = .ok (.iload_n 3, 1) := by decide +kernel
theorem dX11_set_54 : decode cX11_set 54 = .ok (.invokevirtual 95, 3) := by decide +kernel
theorem dX11_set_57 : decode cX11_set 57 = .ok (.iastore, 1) := by decide +kernel
theorem dX11_set_58 : decode cX11_set 58 = .ok (.aload_n 0, 1) := by decide +kernel
theorem dX11_set_59 : decode cX11_set 59 = .ok (.aload 4, 2) := by decide +kernel
theorem dX11_set_61 : decode cX11_set 61 = .ok (.getfield 92, 3) := by decide +kernel
theorem dX11_set_64 : decode cX11_set 64 = .ok (.iload_n 2, 1) := by decide +kernel
theorem dX11_set_65 : decode cX11_set 65 = .ok (.iaload, 1) := by decide +kernel
theorem dX11_set_66 : decode cX11_set 66 = .ok (.invokevirtual 81, 3) := by decide +kernel
theorem dX11_set_69 : decode cX11_set 69 = .ok (.ireturn, 1) := by decide +kernel
theorem dX11_copy_0 : decode cX11_copy 0 = .ok (.aload_n 0, 1) := by decide +kernel
theorem dX11_copy_1 : decode cX11_copy 1 = .ok (.iload_n 1, 1) := by decide +kernel
theorem dX11_copy_2 : decode cX11_copy 2 = .ok (.invokevirtual 64, 3) := by decide +kernel
theorem dX11_copy_5 : decode cX11_copy 5 = .ok (.astore 6, 2) := by decide +kernel
theorem dX11_copy_7 : decode cX11_copy 7 = .ok (.aload_n 0, 1) := by decide +kernel
theorem dX11_copy_8 : decode cX11_copy 8 = .ok (.iload_n 3, 1) := by decide +kernel
theorem dX11_copy_9 : decode cX11_copy 9 = .ok (.invokevirtual 64, 3) := by decide +kernel
theorem dX11_copy_12 : decode cX11_copy 12 = .ok (.astore 7, 2) := by decide +kernel
theorem dX11_copy_14 : decode cX11_copy 14 = .ok (.aload 6, 2) := by decide +kernel
theorem dX11_copy_16 : decode cX11_copy 16 = .ok (.ifnull 8, 3) := by decide +kernel
theorem dX11_copy_19 : decode cX11_copy 19 = .ok (.aload 7, 2) := by decide +kernel
theorem dX11_copy_21 : decode cX11_copy 21 = .ok (.ifnonnull 6, 3) := by decide +kernel
theorem dX11_copy_24 : decode cX11_copy 24 = .ok (.ldc 72, 2) := by decide +kernel
theorem dX11_copy_26 : decode cX11_copy 26 = .ok (.ireturn, 1) := by decide +kernel
theorem dX11_copy_27 : decode cX11_copy 27 = .ok (.aload 6, 2) := by decide +kernel
theorem dX11_copy_29 : decode cX11_copy 29 = .ok (.getfield 84, 3) := by decide +kernel
theorem dX11_copy_32 : decode cX11_copy 32 = .ok (.ifCond .ne 11, 3) := by decide +kernel
theorem dX11_copy_35 : decode cX11_copy 35 = .ok (.aload 7, 2) := by decide +kernel
theorem dX11_copy_37 : decode cX11_copy 37 = .ok (.getfield 84, 3) := by decide +kernel
theorem dX11_copy_40 : decode cX11_copy 40 = .ok (.ifCond .eq 9, 3) := by decide +kernel
theorem dX11_copy_43 : decode cX11_copy 43 = .ok (.aload_n 0, 1) := by decide +kernel
theorem dX11_copy_44 : decode cX11_copy 44 = .ok (.iconst 1, 1) := by decide +kernel
theorem dX11_copy_45 : decode cX11_copy 45 = .ok (.invokevirtual 73, 3) := by decide +kernel
theorem dX11_copy_48 : decode cX11_copy 48 = .ok (.ireturn, 1) := by decide +kernel
theorem dX11_copy_49 : decode cX11_copy 49 = .ok (.aload 6, 2) := by decide +kernel
theorem dX11_copy_51 : decode cX11_copy 51 = .ok (.getfield 98, 3) := by decide +kernel
theorem dX11_copy_54 : decode cX11_copy 54 = .ok (.aload 7, 2) := by decide +kernel
theorem dX11_copy_56 : decode cX11_copy 56 = .ok (.getfield 98, 3) := by decide +kernel
theorem dX11_copy_59 : decode cX11_copy 59 = .ok (.if_icmp .eq 9, 3) := by decide +kernel
theorem dX11_copy_62 : decode cX11_copy 62 = .ok (.aload_n 0, 1) := by decide +kernel
theorem dX11_copy_63 : decode cX11_copy 63 = .ok (.iconst 5, 1) := by decide +kernel
theorem dX11_copy_64 : decode cX11_copy 64 = .ok (.invokevirtual 73, 3) := by decide +kernel
theorem dX11_copy_67 : decode cX11_copy 67 = .ok (.ireturn, 1) := by decide +kernel
theorem dX11_copy_68 : decode cX11_copy 68 = .ok (.aload 6, 2) := by decide +kernel
theorem dX11_copy_70 : decode cX11_copy 70 = .ok (.iload_n 2, 1) := by decide +kernel
theorem dX11_copy_71 : decode cX11_copy 71 = .ok (.iload 5, 2) := by decide +kernel
theorem dX11_copy_73 : decode cX11_copy 73 = .ok (.invokevirtual 88, 3) := by decide +kernel
theorem dX11_copy_76 : decode cX11_copy 76 = .ok (.ifCond .eq 15, 3) := by decide +kernel
theorem dX11_copy_79 : decode cX11_copy 79 = .ok (.aload 7, 2) := by decide +kernel
theorem dX11_copy_81 : decode cX11_copy 81 = .ok (.iload 4, 2) := by decide +kernel
theorem dX11_copy_83 : decode cX11_copy 83 = .ok (.iload 5, 2) := by decide +kernel
theorem dX11_copy_85 : decode cX11_copy 85 = .ok (.invokevirtual 88, 3) := by decide +kernel
theorem dX11_copy_88 : decode cX11_copy 88 = .ok (.ifCond .ne 9, 3) := by decide +kernel
theorem dX11_copy_91 : decode cX11_copy 91 = .ok (.aload_n 0, 1) := by decide +kernel
theorem dX11_copy_92 : decode cX11_copy 92 = .ok (.iconst 2, 1) := by decide +kernel
theorem dX11_copy_93 : decode cX11_copy 93 = .ok (.invokevirtual 73, 3) := by decide +kernel
theorem dX11_copy_96 : decode cX11_copy 96 = .ok (.ireturn, 1) := by decide +kernel
theorem dX11_copy_97 : decode cX11_copy 97 = .ok (.aload 6, 2) := by decide +kernel
theorem dX11_copy_99 : decode cX11_copy 99 = .ok (.getfield 92, 3) := by decide +kernel
theorem dX11_copy_102 : decode cX11_copy 102 = .ok (.iload_n 2, 1) := by decide +kernel
theorem dX11_copy_103 : decode cX11_copy 103 = .ok (.aload 7, 2) := by decide +kernel
theorem dX11_copy_105 : decode cX11_copy 105 = .ok (.getfield 92, 3) := by decide +kernel
theorem dX11_copy_108 : decode cX11_copy 108 = .ok (.iload 4, 2) := by decide +kernel
theorem dX11_copy_110 : decode cX11_copy 110 = .ok (.iload 5, 2) := by decide +kernel
theorem dX11_copy_112 : decode cX11_copy 112 = .ok (.invokestatic 101, 3) := by decide +kernel
theorem dX11_copy_115 : decode cX11_copy 115 = .ok (.aload_n 0, 1) := by decide +kernel
theorem dX11_copy_116 : decode cX11_copy 116 = .ok (.iload 5, 2) := by decide +kernel
theorem dX11_copy_118 : decode cX11_copy 118 = .ok (.invokevirtual 81, 3) := by decide +kernel
theorem dX11_copy_121 : decode cX11_copy 121 = .ok (.ireturn, 1) := by decide +kernel
theorem dX11_drop_0 : decode cX11_drop 0 = .ok (.aload_n 0, 1) := by decide +kernel
theorem dX11_drop_1 : decode cX11_drop 1 = .ok (.iload_n 1, 1) := by decide +kernel
theorem dX11_drop_2 : decode cX11_drop 2 = .ok (.invokevirtual 64, 3) := by decide +kernel
theorem dX11_drop_5 : decode cX11_drop 5 = .ok (.astore_n 2, 1) := by decide +kernel
theorem dX11_drop_6 : decode cX11_drop 6 = .ok (.aload_n 2, 1) := by decide +kernel
theorem dX11_drop_7 : decode cX11_drop 7 = .ok (.ifnonnull 6, 3) := by decide +kernel
theorem dX11_drop_10 : decode cX11_drop 10 = .ok (.ldc 72, 2) := by decide +kernel
theorem dX11_drop_12 : decode cX11_drop 12 = .ok (.ireturn, 1) := by decide +kernel
theorem dX11_drop_13 : decode cX11_drop 13 = .ok (.aload_n 2, 1) := by decide +kernel
theorem dX11_drop_14 : decode cX11_drop 14 = .ok (.getfield 84, 3) := by decide +kernel
theorem dX11_drop_17 : decode cX11_drop 17 = .ok (.ifCond .eq 9, 3) := by decide +kernel
theorem dX11_drop_20 : decode cX11_drop 20 = .ok (.aload_n 0, 1) := by decide +kernel
theorem dX11_drop_21 : decode cX11_drop 21 = .ok (.iconst 1, 1) := by decide +kernel
theorem dX11_drop_22 : decode cX11_drop 22 = .ok (.invokevirtual 73, 3) := by decide +kernel
theorem dX11_drop_25 : decode cX11_drop 25 = .ok (.ireturn, 1) := by decide +kernel
theorem dX11_drop_26 : decode cX11_drop 26 = .ok (.aload_n 2, 1) := by decide +kernel
theorem dX11_drop_27 : decode cX11_drop 27 = .ok (.iconst 1, 1) := by decide +kernel
theorem dX11_drop_28 : decode cX11_drop 28 = .ok (.putfield 84, 3) := by decide +kernel
theorem dX11_drop_31 : decode cX11_drop 31 = .ok (.aload_n 0, 1) := by decide +kernel
theorem dX11_drop_32 : decode cX11_drop 32 = .ok (.aload_n 2, 1) := by decide +kernel
theorem dX11_drop_33 : decode cX11_drop 33 = .ok (.getfield 107, 3) := by decide +kernel
theorem dX11_drop_36 : decode cX11_drop 36 = .ok (.invokevirtual 81, 3) := by decide +kernel
theorem dX11_drop_39 : decode cX11_drop 39 = .ok (.ireturn, 1) := by decide +kernel
theorem dX11_clear_0 : decode cX11_clear 0 = .ok (.aload_n 0, 1) := by decide +kernel
theorem dX11_clear_1 : decode cX11_clear 1 = .ok (.iload_n 1, 1) := by decide +kernel
theorem dX11_clear_2 : decode cX11_clear 2 = .ok (.invokevirtual 110, 3) := by decide +kernel
theorem dX11_clear_5 : decode cX11_clear 5 = .ok (.astore_n 2, 1) := by decide +kernel
theorem dX11_clear_6 : decode cX11_clear 6 = .ok (.aload_n 2, 1) := by decide +kernel
theorem dX11_clear_7 : decode cX11_clear 7 = .ok (.ifnonnull 6, 3) := by decide +kernel
theorem dX11_clear_10 : decode cX11_clear 10 = .ok (.ldc 72, 2) := by decide +kernel
theorem dX11_clear_12 : decode cX11_clear 12 = .ok (.ireturn, 1) := by decide +kernel
theorem dX11_clear_13 : decode cX11_clear 13 = .ok (.aload_n 2, 1) := by decide +kernel
theorem dX11_clear_14 : decode cX11_clear 14 = .ok (.getfield 114, 3) := by decide +kernel
theorem dX11_clear_17 : decode cX11_clear 17 = .ok (.istore_n 3, 1) := by decide +kernel
theorem dX11_clear_18 : decode cX11_clear 18 = .ok (.aload_n 2, 1) := by decide +kernel
theorem dX11_clear_19 : decode cX11_clear 19 = .ok (.iconst 0, 1) := by decide +kernel
theorem dX11_clear_20 : decode cX11_clear 20 = .ok (.putfield 114, 3) := by decide +kernel
theorem dX11_clear_23 : decode cX11_clear 23 = .ok (.iload_n 3, 1) := by decide +kernel
theorem dX11_clear_24 : decode cX11_clear 24 = .ok (.ireturn, 1) := by decide +kernel
theorem dX11_add_0 : decode cX11_add 0 = .ok (.aload_n 0, 1) := by decide +kernel
theorem dX11_add_1 : decode cX11_add 1 = .ok (.iload_n 1, 1) := by decide +kernel
theorem dX11_add_2 : decode cX11_add 2 = .ok (.invokevirtual 110, 3) := by decide +kernel
theorem dX11_add_5 : decode cX11_add 5 = .ok (.astore 4, 2) := by decide +kernel
theorem dX11_add_7 : decode cX11_add 7 = .ok (.aload 4, 2) := by decide +kernel
theorem dX11_add_9 : decode cX11_add 9 = .ok (.ifnull 11, 3) := by decide +kernel
theorem dX11_add_12 : decode cX11_add 12 = .ok (.aload_n 0, 1) := by decide +kernel
theorem dX11_add_13 : decode cX11_add 13 = .ok (.iload_n 2, 1) := by decide +kernel
theorem dX11_add_14 : decode cX11_add 14 = .ok (.invokevirtual 115, 3) := by decide +kernel
theorem dX11_add_17 : decode cX11_add 17 = .ok (.ifCond .ne 6, 3) := by decide +kernel
theorem dX11_add_20 : decode cX11_add 20 = .ok (.ldc 72, 2) := by decide +kernel
theorem dX11_add_22 : decode cX11_add 22 = .ok (.ireturn, 1) := by decide +kernel
theorem dX11_add_23 : decode cX11_add 23 = .ok (.aload_n 0, 1) := by decide +kernel
theorem dX11_add_24 : decode cX11_add 24 = .ok (.getfield 21, 3) := by decide +kernel
theorem dX11_add_27 : decode cX11_add 27 = .ok (.invokevirtual 119, 3) := by decide +kernel
theorem dX11_add_30 : decode cX11_add 30 = .ok (.aload_n 0, 1) := by decide +kernel
theorem dX11_add_31 : decode cX11_add 31 = .ok (.getfield 21, 3) := by decide +kernel
theorem dX11_add_34 : decode cX11_add 34 = .ok (.aload 4, 2) := by decide +kernel
theorem dX11_add_36 : decode cX11_add 36 = .ok (.iconst 1, 1) := by decide +kernel
theorem dX11_add_37 : decode cX11_add 37 = .ok (.invokevirtual 122, 3) := by decide +kernel
theorem dX11_add_40 : decode cX11_add 40 = .ok (.aload_n 0, 1) := by decide +kernel
theorem dX11_add_41 : decode cX11_add 41 = .ok (.getfield 21, 3) := by decide +kernel
theorem dX11_add_44 : decode cX11_add 44 = .ok (.iload_n 2, 1) := by decide +kernel
theorem dX11_add_45 : decode cX11_add 45 = .ok (.bipush 20, 2) := by decide +kernel
theorem dX11_add_47 : decode cX11_add 47 = .ok (.ishl, 1) := by decide +kernel
theorem dX11_add_48 : decode cX11_add 48 = .ok (.iload_n 3, 1) := by decide +kernel
theorem dX11_add_49 : decode cX11_add 49 = .ok (.i2l, 1) := by decide +kernel
theorem dX11_add_50 : decode cX11_add 50 = .ok (.invokevirtual 126, 3) := by decide +kernel
theorem dX11_add_53 : decode cX11_add 53 = .ok (.aload_n 0, 1) := by decide +kernel
theorem dX11_add_54 : decode cX11_add 54 = .ok (.getfield 21, 3) := by decide +kernel
theorem dX11_add_57 : decode cX11_add 57 = .ok (.aload 4, 2) := by decide +kernel
theorem dX11_add_59 : decode cX11_add 59 = .ok (.invokevirtual 130, 3) := by decide +kernel
theorem dX11_add_62 : decode cX11_add 62 = .ok (.ifCond .eq 11, 3) := by decide +kernel
theorem dX11_add_65 : decode cX11_add 65 = .ok (.aload 4, 2) := by decide +kernel
theorem dX11_add_67 : decode cX11_add 67 = .ok (.getfield 114, 3) := by decide +kernel
theorem dX11_add_70 : decode cX11_add 70 = .ok (.goto 5, 3) := by decide +kernel
theorem dX11_add_73 : decode cX11_add 73 = .ok (.ldc 134, 2) := by decide +kernel
theorem dX11_add_75 : decode cX11_add 75 = .ok (.ireturn, 1) := by decide +kernel
theorem dX11_take_0 : decode cX11_take 0 = .ok (.aload_n 0, 1) := by decide +kernel
theorem dX11_take_1 : decode cX11_take 1 = .ok (.iload_n 1, 1) := by decide +kernel
theorem dX11_take_2 : decode cX11_take 2 = .ok (.invokevirtual 110, 3) := by decide +kernel
theorem dX11_take_5 : decode cX11_take 5 = .ok (.astore_n 3, 1) := by decide +kernel
theorem dX11_take_6 : decode cX11_take 6 = .ok (.aload_n 0, 1) := by decide +kernel
theorem dX11_take_7 : decode cX11_take 7 = .ok (.iload_n 2, 1) := by decide +kernel
theorem dX11_take_8 : decode cX11_take 8 = .ok (.invokevirtual 110, 3) := by decide +kernel
theorem dX11_take_11 : decode cX11_take 11 = .ok (.astore 4, 2) := by decide +kernel
theorem dX11_take_13 : decode cX11_take 13 = .ok (.aload_n 3, 1) := by decide +kernel
theorem dX11_take_14 : decode cX11_take 14 = .ok (.ifnull 8, 3) := by decide +kernel
theorem dX11_take_17 : decode cX11_take 17 = .ok (.aload 4, 2) := by decide +kernel
theorem dX11_take_19 : decode cX11_take 19 = .ok (.ifnonnull 6, 3) := by decide +kernel
theorem dX11_take_22 : decode cX11_take 22 = .ok (.ldc 72, 2) := by decide +kernel
theorem dX11_take_24 : decode cX11_take 24 = .ok (.ireturn, 1) := by decide +kernel
theorem dX11_take_25 : decode cX11_take 25 = .ok (.aload_n 3, 1) := by decide +kernel
theorem dX11_take_26 : decode cX11_take 26 = .ok (.aload 4, 2) := by decide +kernel
theorem dX11_take_28 : decode cX11_take 28 = .ok (.invokevirtual 135, 3) := by decide +kernel
theorem dX11_take_31 : decode cX11_take 31 = .ok (.aload_n 3, 1) := by decide +kernel
theorem dX11_take_32 : decode cX11_take 32 = .ok (.getfield 114, 3) := by decide +kernel
theorem dX11_take_35 : decode cX11_take 35 = .ok (.ireturn, 1) := by decide +kernel
theorem dX11_join_0 : decode cX11_join 0 = .ok (.aload_n 0, 1) := by decide +kernel
theorem dX11_join_1 : decode cX11_join 1 = .ok (.iload_n 1, 1) := by decide +kernel
theorem dX11_join_2 : decode cX11_join 2 = .ok (.invokevirtual 110, 3) := by decide +kernel
theorem dX11_join_5 : decode cX11_join 5 = .ok (.astore 4, 2) := by decide +kernel
theorem dX11_join_7 : decode cX11_join 7 = .ok (.aload_n 0, 1) := by decide +kernel
theorem dX11_join_8 : decode cX11_join 8 = .ok (.iload_n 2, 1) := by decide +kernel
theorem dX11_join_9 : decode cX11_join 9 = .ok (.invokevirtual 110, 3) := by decide +kernel
theorem dX11_join_12 : decode cX11_join 12 = .ok (.astore 5, 2) := by decide +kernel
theorem dX11_join_14 : decode cX11_join 14 = .ok (.aload 4, 2) := by decide +kernel
theorem dX11_join_16 : decode cX11_join 16 = .ok (.ifnull 18, 3) := by decide +kernel
theorem dX11_join_19 : decode cX11_join 19 = .ok (.aload 5, 2) := by decide +kernel
theorem dX11_join_21 : decode cX11_join 21 = .ok (.ifnull 13, 3) := by decide +kernel
theorem dX11_join_24 : decode cX11_join 24 = .ok (.iload_n 3, 1) := by decide +kernel
theorem dX11_join_25 : decode cX11_join 25 = .ok (.bipush (-3), 2) := by decide +kernel
theorem dX11_join_27 : decode cX11_join 27 = .ok (.iconst 3, 1) := by decide +kernel
theorem dX11_join_28 : decode cX11_join 28 = .ok (.invokestatic 68, 3) := by decide +kernel
theorem dX11_join_31 : decode cX11_join 31 = .ok (.ifCond .ne 6, 3) := by decide +kernel
theorem dX11_join_34 : decode cX11_join 34 = .ok (.ldc 72, 2) := by decide +kernel
theorem dX11_join_36 : decode cX11_join 36 = .ok (.ireturn, 1) := by decide +kernel
theorem dX11_join_37 : decode cX11_join 37 = .ok (.aload_n 0, 1) := by decide +kernel
theorem dX11_join_38 : decode cX11_join 38 = .ok (.getfield 21, 3) := by decide +kernel
theorem dX11_join_41 : decode cX11_join 41 = .ok (.aload 4, 2) := by decide +kernel
theorem dX11_join_43 : decode cX11_join 43 = .ok (.aload 5, 2) := by decide +kernel
theorem dX11_join_45 : decode cX11_join 45 = .ok (.iload_n 3, 1) := by decide +kernel
theorem dX11_join_46 : decode cX11_join 46 = .ok (.invokevirtual 139, 3) := by decide +kernel
theorem dX11_join_49 : decode cX11_join 49 = .ok (.ifCond .eq 11, 3) := by decide +kernel
theorem dX11_join_52 : decode cX11_join 52 = .ok (.aload 4, 2) := by decide +kernel
theorem dX11_join_54 : decode cX11_join 54 = .ok (.getfield 114, 3) := by decide +kernel
theorem dX11_join_57 : decode cX11_join 57 = .ok (.goto 5, 3) := by decide +kernel
theorem dX11_join_60 : decode cX11_join 60 = .ok (.ldc 134, 2) := by decide +kernel
theorem dX11_join_62 : decode cX11_join 62 = .ok (.ireturn, 1) := by decide +kernel
theorem dX11_quarter_0 : decode cX11_quarter 0 = .ok (.aload_n 0, 1) := by decide +kernel
theorem dX11_quarter_1 : decode cX11_quarter 1 = .ok (.iload_n 1, 1) := by decide +kernel
theorem dX11_quarter_2 : decode cX11_quarter 2 = .ok (.invokevirtual 115, 3) := by decide +kernel
theorem dX11_quarter_5 : decode cX11_quarter 5 = .ok (.ifCond .eq 12, 3) := by decide +kernel
theorem dX11_quarter_8 : decode cX11_quarter 8 = .ok (.iload_n 2, 1) := by decide +kernel
theorem dX11_quarter_9 : decode cX11_quarter 9 = .ok (.iconst 0, 1) := by decide +kernel
theorem dX11_quarter_10 : decode cX11_quarter 10 = .ok (.iconst 3, 1) := by decide +kernel
theorem dX11_quarter_11 : decode cX11_quarter 11 = .ok (.invokestatic 68, 3) := by decide +kernel
theorem dX11_quarter_14 : decode cX11_quarter 14 = .ok (.ifCond .ne 6, 3) := by decide +kernel
theorem dX11_quarter_17 : decode cX11_quarter 17 = .ok (.ldc 72, 2) := by decide +kernel
theorem dX11_quarter_19 : decode cX11_quarter 19 = .ok (.ireturn, 1) := by decide +kernel
theorem dX11_quarter_20 : decode cX11_quarter 20 = .ok (.aload_n 0, 1) := by decide +kernel
theorem dX11_quarter_21 : decode cX11_quarter 21 = .ok (.iload_n 1, 1) := by decide +kernel
theorem dX11_quarter_22 : decode cX11_quarter 22 = .ok (.iload_n 2, 1) := by decide +kernel
theorem dX11_quarter_23 : decode cX11_quarter 23 = .ok (.invokevirtual 143, 3) := by decide +kernel
theorem dX11_quarter_26 : decode cX11_quarter 26 = .ok (.ifCond .eq 13, 3) := by decide +kernel
theorem dX11_quarter_29 : decode cX11_quarter 29 = .ok (.aload_n 0, 1) := by decide +kernel
theorem dX11_quarter_30 : decode cX11_quarter 30 = .ok (.getfield 59, 3) := by decide +kernel
theorem dX11_quarter_33 : decode cX11_quarter 33 = .ok (.getfield 114, 3) := by decide +kernel
theorem dX11_quarter_36 : decode cX11_quarter 36 = .ok (.goto 5, 3) := by decide +kernel
theorem dX11_quarter_39 : decode cX11_quarter 39 = .ok (.ldc 134, 2) := by decide +kernel
theorem dX11_quarter_41 : decode cX11_quarter 41 = .ok (.ireturn, 1) := by decide +kernel
theorem dX11_letter_0 : decode cX11_letter 0 = .ok (.aload_n 0, 1) := by decide +kernel
theorem dX11_letter_1 : decode cX11_letter 1 = .ok (.iload_n 1, 1) := by decide +kernel
theorem dX11_letter_2 : decode cX11_letter 2 = .ok (.invokevirtual 115, 3) := by decide +kernel
theorem dX11_letter_5 : decode cX11_letter 5 = .ok (.ifCond .eq 19, 3) := by decide +kernel
theorem dX11_letter_8 : decode cX11_letter 8 = .ok (.iload_n 2, 1) := by decide +kernel
theorem dX11_letter_9 : decode cX11_letter 9 = .ok (.iconst 0, 1) := by decide +kernel
theorem dX11_letter_10 : decode cX11_letter 10 = .ok (.iconst 3, 1) := by decide +kernel
theorem dX11_letter_11 : decode cX11_letter 11 = .ok (.invokestatic 68, 3) := by decide +kernel
theorem dX11_letter_14 : decode cX11_letter 14 = .ok (.ifCond .eq 10, 3) := by decide +kernel
theorem dX11_letter_17 : decode cX11_letter 17 = .ok (.iload_n 3, 1) := by decide +kernel
theorem dX11_letter_18 : decode cX11_letter 18 = .ok (.invokestatic 146, 3) := by decide +kernel
theorem dX11_letter_21 : decode cX11_letter 21 = .ok (.ifCond .ne 6, 3) := by decide +kernel
theorem dX11_letter_24 : decode cX11_letter 24 = .ok (.ldc 72, 2) := by decide +kernel
theorem dX11_letter_26 : decode cX11_letter 26 = .ok (.ireturn, 1) := by decide +kernel
theorem dX11_letter_27 : decode cX11_letter 27 = .ok (.aload_n 0, 1) := by decide +kernel
theorem dX11_letter_28 : decode cX11_letter 28 = .ok (.iload_n 1, 1) := by decide +kernel
theorem dX11_letter_29 : decode cX11_letter 29 = .ok (.iload_n 2, 1) := by decide +kernel
theorem dX11_letter_30 : decode cX11_letter 30 = .ok (.iload_n 3, 1) := by decide +kernel
theorem dX11_letter_31 : decode cX11_letter 31 = .ok (.invokevirtual 149, 3) := by decide +kernel
theorem dX11_letter_34 : decode cX11_letter 34 = .ok (.ifCond .eq 13, 3) := by decide +kernel
theorem dX11_letter_37 : decode cX11_letter 37 = .ok (.aload_n 0, 1) := by decide +kernel
theorem dX11_letter_38 : decode cX11_letter 38 = .ok (.getfield 59, 3) := by decide +kernel
theorem dX11_letter_41 : decode cX11_letter 41 = .ok (.getfield 114, 3) := by decide +kernel
theorem dX11_letter_44 : decode cX11_letter 44 = .ok (.goto 5, 3) := by decide +kernel
theorem dX11_letter_47 : decode cX11_letter 47 = .ok (.ldc 134, 2) := by decide +kernel
theorem dX11_letter_49 : decode cX11_letter 49 = .ok (.ireturn, 1) := by decide +kernel
theorem dX11_terms_0 : decode cX11_terms 0 = .ok (.aload_n 0, 1) := by decide +kernel
theorem dX11_terms_1 : decode cX11_terms 1 = .ok (.iload_n 1, 1) := by decide +kernel
theorem dX11_terms_2 : decode cX11_terms 2 = .ok (.invokevirtual 110, 3) := by decide +kernel
theorem dX11_terms_5 : decode cX11_terms 5 = .ok (.astore_n 2, 1) := by decide +kernel
theorem dX11_terms_6 : decode cX11_terms 6 = .ok (.aload_n 2, 1) := by decide +kernel
theorem dX11_terms_7 : decode cX11_terms 7 = .ok (.ifnonnull 8, 3) := by decide +kernel
theorem dX11_terms_10 : decode cX11_terms 10 = .ok (.ldc 72, 2) := by decide +kernel
theorem dX11_terms_12 : decode cX11_terms 12 = .ok (.goto 7, 3) := by decide +kernel
theorem dX11_terms_15 : decode cX11_terms 15 = .ok (.aload_n 2, 1) := by decide +kernel
theorem dX11_terms_16 : decode cX11_terms 16 = .ok (.getfield 114, 3) := by decide +kernel
theorem dX11_terms_19 : decode cX11_terms 19 = .ok (.ireturn, 1) := by decide +kernel
theorem dX11_number_0 : decode cX11_number 0 = .ok (.aload_n 0, 1) := by decide +kernel
theorem dX11_number_1 : decode cX11_number 1 = .ok (.iload_n 1, 1) := by decide +kernel
theorem dX11_number_2 : decode cX11_number 2 = .ok (.invokevirtual 110, 3) := by decide +kernel
theorem dX11_number_5 : decode cX11_number 5 = .ok (.astore_n 3, 1) := by decide +kernel
theorem dX11_number_6 : decode cX11_number 6 = .ok (.aload_n 3, 1) := by decide +kernel
theorem dX11_number_7 : decode cX11_number 7 = .ok (.ifnull 17, 3) := by decide +kernel
theorem dX11_number_10 : decode cX11_number 10 = .ok (.iload_n 2, 1) := by decide +kernel
theorem dX11_number_11 : decode cX11_number 11 = .ok (.iconst 0, 1) := by decide +kernel
theorem dX11_number_12 : decode cX11_number 12 = .ok (.aload_n 3, 1) := by decide +kernel
theorem dX11_number_13 : decode cX11_number 13 = .ok (.getfield 114, 3) := by decide +kernel
theorem dX11_number_16 : decode cX11_number 16 = .ok (.iconst 1, 1) := by decide +kernel
theorem dX11_number_17 : decode cX11_number 17 = .ok (.isub, 1) := by decide +kernel
theorem dX11_number_18 : decode cX11_number 18 = .ok (.invokestatic 68, 3) := by decide +kernel
theorem dX11_number_21 : decode cX11_number 21 = .ok (.ifCond .ne 7, 3) := by decide +kernel
theorem dX11_number_24 : decode cX11_number 24 = .ok (.ldc2_w 152, 3) := by decide +kernel
theorem dX11_number_27 : decode cX11_number 27 = .ok (.lreturn, 1) := by decide +kernel
theorem dX11_number_28 : decode cX11_number 28 = .ok (.aload_n 3, 1) := by decide +kernel
theorem dX11_number_29 : decode cX11_number 29 = .ok (.getfield 154, 3) := by decide +kernel
theorem dX11_number_32 : decode cX11_number 32 = .ok (.iload_n 2, 1) := by decide +kernel
theorem dX11_number_33 : decode cX11_number 33 = .ok (.laload, 1) := by decide +kernel
theorem dX11_number_34 : decode cX11_number 34 = .ok (.lreturn, 1) := by decide +kernel
theorem dX11_power_0 : decode cX11_power 0 = .ok (.aload_n 0, 1) := by decide +kernel
theorem dX11_power_1 : decode cX11_power 1 = .ok (.iload_n 1, 1) := by decide +kernel
theorem dX11_power_2 : decode cX11_power 2 = .ok (.invokevirtual 110, 3) := by decide +kernel
theorem dX11_power_5 : decode cX11_power 5 = .ok (.astore 4, 2) := by decide +kernel
theorem dX11_power_7 : decode cX11_power 7 = .ok (.aload 4, 2) := by decide +kernel
theorem dX11_power_9 : decode cX11_power 9 = .ok (.ifnull 28, 3) := by decide +kernel
theorem dX11_power_12 : decode cX11_power 12 = .ok (.iload_n 2, 1) := by decide +kernel
theorem dX11_power_13 : decode cX11_power 13 = .ok (.iconst 0, 1) := by decide +kernel
theorem dX11_power_14 : decode cX11_power 14 = .ok (.aload 4, 2) := by decide +kernel
theorem dX11_power_16 : decode cX11_power 16 = .ok (.getfield 114, 3) := by decide +kernel
theorem dX11_power_19 : decode cX11_power 19 = .ok (.iconst 1, 1) := by decide +kernel
theorem dX11_power_20 : decode cX11_power 20 = .ok (.isub, 1) := by decide +kernel
theorem dX11_power_21 : decode cX11_power 21 = .ok (.invokestatic 68, 3) := by decide +kernel
theorem dX11_power_24 : decode cX11_power 24 = .ok (.ifCond .eq 13, 3) := by decide +kernel
theorem dX11_power_27 : decode cX11_power 27 = .ok (.iload_n 3, 1) := by decide +kernel
theorem dX11_power_28 : decode cX11_power 28 = .ok (.iconst (-1), 1) := by decide +kernel
theorem dX11_power_29 : decode cX11_power 29 = .ok (.bipush 7, 2) := by decide +kernel
theorem dX11_power_31 : decode cX11_power 31 = .ok (.invokestatic 68, 3) := by decide +kernel
theorem dX11_power_34 : decode cX11_power 34 = .ok (.ifCond .ne 6, 3) := by decide +kernel
theorem dX11_power_37 : decode cX11_power 37 = .ok (.ldc 72, 2) := by decide +kernel
theorem dX11_power_39 : decode cX11_power 39 = .ok (.ireturn, 1) := by decide +kernel
theorem dX11_power_40 : decode cX11_power 40 = .ok (.iload_n 3, 1) := by decide +kernel
theorem dX11_power_41 : decode cX11_power 41 = .ok (.ifCond .ge 16, 3) := by decide +kernel
theorem dX11_power_44 : decode cX11_power 44 = .ok (.aload 4, 2) := by decide +kernel
theorem dX11_power_46 : decode cX11_power 46 = .ok (.getfield 158, 3) := by decide +kernel
theorem dX11_power_49 : decode cX11_power 49 = .ok (.iload_n 2, 1) := by decide +kernel
theorem dX11_power_50 : decode cX11_power 50 = .ok (.iaload, 1) := by decide +kernel
theorem dX11_power_51 : decode cX11_power 51 = .ok (.invokestatic 161, 3) := by decide +kernel
theorem dX11_power_54 : decode cX11_power 54 = .ok (.goto 14, 3) := by decide +kernel
theorem dX11_power_57 : decode cX11_power 57 = .ok (.aload 4, 2) := by decide +kernel
theorem dX11_power_59 : decode cX11_power 59 = .ok (.getfield 158, 3) := by decide +kernel
theorem dX11_power_62 : decode cX11_power 62 = .ok (.iload_n 2, 1) := by decide +kernel
theorem dX11_power_63 : decode cX11_power 63 = .ok (.iaload, 1) := by decide +kernel
theorem dX11_power_64 : decode cX11_power 64 = .ok (.iload_n 3, 1) := by decide +kernel
theorem dX11_power_65 : decode cX11_power 65 = .ok (.invokestatic 164, 3) := by decide +kernel
theorem dX11_power_68 : decode cX11_power 68 = .ok (.ireturn, 1) := by decide +kernel
theorem dX11_same_0 : decode cX11_same 0 = .ok (.aload_n 0, 1) := by decide +kernel
theorem dX11_same_1 : decode cX11_same 1 = .ok (.iload_n 1, 1) := by decide +kernel
theorem dX11_same_2 : decode cX11_same 2 = .ok (.invokevirtual 110, 3) := by decide +kernel
theorem dX11_same_5 : decode cX11_same 5 = .ok (.astore_n 3, 1) := by decide +kernel
theorem dX11_same_6 : decode cX11_same 6 = .ok (.aload_n 0, 1) := by decide +kernel
theorem dX11_same_7 : decode cX11_same 7 = .ok (.iload_n 2, 1) := by decide +kernel
theorem dX11_same_8 : decode cX11_same 8 = .ok (.invokevirtual 110, 3) := by decide +kernel
theorem dX11_same_11 : decode cX11_same 11 = .ok (.astore 4, 2) := by decide +kernel
theorem dX11_same_13 : decode cX11_same 13 = .ok (.aload_n 3, 1) := by decide +kernel
theorem dX11_same_14 : decode cX11_same 14 = .ok (.ifnull 8, 3) := by decide +kernel
theorem dX11_same_17 : decode cX11_same 17 = .ok (.aload 4, 2) := by decide +kernel
theorem dX11_same_19 : decode cX11_same 19 = .ok (.ifnonnull 6, 3) := by decide +kernel
theorem dX11_same_22 : decode cX11_same 22 = .ok (.ldc 72, 2) := by decide +kernel
theorem dX11_same_24 : decode cX11_same 24 = .ok (.ireturn, 1) := by decide +kernel
theorem dX11_same_25 : decode cX11_same 25 = .ok (.aload_n 3, 1) := by decide +kernel
theorem dX11_same_26 : decode cX11_same 26 = .ok (.aload 4, 2) := by decide +kernel
theorem dX11_same_28 : decode cX11_same 28 = .ok (.invokevirtual 167, 3) := by decide +kernel
theorem dX11_same_31 : decode cX11_same 31 = .ok (.ifCond .eq 7, 3) := by decide +kernel
theorem dX11_same_34 : decode cX11_same 34 = .ok (.iconst 1, 1) := by decide +kernel
theorem dX11_same_35 : decode cX11_same 35 = .ok (.goto 4, 3) := by decide +kernel
theorem dX11_same_38 : decode cX11_same 38 = .ok (.iconst 0, 1) := by decide +kernel
theorem dX11_same_39 : decode cX11_same 39 = .ok (.ireturn, 1) := by decide +kernel
theorem dX11_product_0 : decode cX11_product 0 = .ok (.aload_n 0, 1) := by decide +kernel
theorem dX11_product_1 : decode cX11_product 1 = .ok (.iload_n 1, 1) := by decide +kernel
theorem dX11_product_2 : decode cX11_product 2 = .ok (.invokevirtual 110, 3) := by decide +kernel
theorem dX11_product_5 : decode cX11_product 5 = .ok (.astore 4, 2) := by decide +kernel
theorem dX11_product_7 : decode cX11_product 7 = .ok (.aload_n 0, 1) := by decide +kernel
theorem dX11_product_8 : decode cX11_product 8 = .ok (.iload_n 2, 1) := by decide +kernel
theorem dX11_product_9 : decode cX11_product 9 = .ok (.invokevirtual 110, 3) := by decide +kernel
theorem dX11_product_12 : decode cX11_product 12 = .ok (.astore 5, 2) := by decide +kernel
theorem dX11_product_14 : decode cX11_product 14 = .ok (.aload_n 0, 1) := by decide +kernel
theorem dX11_product_15 : decode cX11_product 15 = .ok (.iload_n 3, 1) := by decide +kernel
theorem dX11_product_16 : decode cX11_product 16 = .ok (.invokevirtual 110, 3) := by decide +kernel
theorem dX11_product_19 : decode cX11_product 19 = .ok (.astore 6, 2) := by decide +kernel
theorem dX11_product_21 : decode cX11_product 21 = .ok (.aload 4, 2) := by decide +kernel
theorem dX11_product_23 : decode cX11_product 23 = .ok (.ifnull 13, 3) := by decide +kernel
theorem dX11_product_26 : decode cX11_product 26 = .ok (.aload 5, 2) := by decide +kernel
theorem dX11_product_28 : decode cX11_product 28 = .ok (.ifnull 8, 3) := by decide +kernel
theorem dX11_product_31 : decode cX11_product 31 = .ok (.aload 6, 2) := by decide +kernel
theorem dX11_product_33 : decode cX11_product 33 = .ok (.ifnonnull 6, 3) := by decide +kernel
theorem dX11_product_36 : decode cX11_product 36 = .ok (.ldc 72, 2) := by decide +kernel
theorem dX11_product_38 : decode cX11_product 38 = .ok (.ireturn, 1) := by decide +kernel
theorem dX11_product_39 : decode cX11_product 39 = .ok (.aload_n 0, 1) := by decide +kernel
theorem dX11_product_40 : decode cX11_product 40 = .ok (.getfield 21, 3) := by decide +kernel
theorem dX11_product_43 : decode cX11_product 43 = .ok (.aload 4, 2) := by decide +kernel
theorem dX11_product_45 : decode cX11_product 45 = .ok (.aload 5, 2) := by decide +kernel
theorem dX11_product_47 : decode cX11_product 47 = .ok (.aload 6, 2) := by decide +kernel
theorem dX11_product_49 : decode cX11_product 49 = .ok (.invokevirtual 170, 3) := by decide +kernel
theorem dX11_product_52 : decode cX11_product 52 = .ok (.ifCond .eq 11, 3) := by decide +kernel
theorem dX11_product_55 : decode cX11_product 55 = .ok (.aload 4, 2) := by decide +kernel
theorem dX11_product_57 : decode cX11_product 57 = .ok (.getfield 114, 3) := by decide +kernel
theorem dX11_product_60 : decode cX11_product 60 = .ok (.goto 5, 3) := by decide +kernel
theorem dX11_product_63 : decode cX11_product 63 = .ok (.ldc 134, 2) := by decide +kernel
theorem dX11_product_65 : decode cX11_product 65 = .ok (.ireturn, 1) := by decide +kernel
theorem dX11_digest_0 : decode cX11_digest 0 = .ok (.aload_n 0, 1) := by decide +kernel
theorem dX11_digest_1 : decode cX11_digest 1 = .ok (.iload_n 1, 1) := by decide +kernel
theorem dX11_digest_2 : decode cX11_digest 2 = .ok (.invokevirtual 110, 3) := by decide +kernel
theorem dX11_digest_5 : decode cX11_digest 5 = .ok (.astore_n 2, 1) := by decide +kernel
theorem dX11_digest_6 : decode cX11_digest 6 = .ok (.aload_n 2, 1) := by decide +kernel
theorem dX11_digest_7 : decode cX11_digest 7 = .ok (.ifnonnull 7, 3) := by decide +kernel
theorem dX11_digest_10 : decode cX11_digest 10 = .ok (.ldc2_w 152, 3) := by decide +kernel
theorem dX11_digest_13 : decode cX11_digest 13 = .ok (.lreturn, 1) := by decide +kernel
theorem dX11_digest_14 : decode cX11_digest 14 = .ok (.ldc2_w 174, 3) := by decide +kernel
theorem dX11_digest_17 : decode cX11_digest 17 = .ok (.lstore_n 3, 1) := by decide +kernel
theorem dX11_digest_18 : decode cX11_digest 18 = .ok (.iconst 0, 1) := by decide +kernel
theorem dX11_digest_19 : decode cX11_digest 19 = .ok (.istore 5, 2) := by decide +kernel
theorem dX11_digest_21 : decode cX11_digest 21 = .ok (.iload 5, 2) := by decide +kernel
theorem dX11_digest_23 : decode cX11_digest 23 = .ok (.aload_n 2, 1) := by decide +kernel
theorem dX11_digest_24 : decode cX11_digest 24 = .ok (.getfield 114, 3) := by decide +kernel
theorem dX11_digest_27 : decode cX11_digest 27 = .ok (.if_icmp .ge 77, 3) := by decide +kernel
theorem dX11_digest_30 : decode cX11_digest 30 = .ok (.ldc2_w 176, 3) := by decide +kernel
theorem dX11_digest_33 : decode cX11_digest 33 = .ok (.lload_n 3, 1) := by decide +kernel
theorem dX11_digest_34 : decode cX11_digest 34 = .ok (.lmul, 1) := by decide +kernel
theorem dX11_digest_35 : decode cX11_digest 35 = .ok (.aload_n 2, 1) := by decide +kernel
theorem dX11_digest_36 : decode cX11_digest 36 = .ok (.getfield 158, 3) := by decide +kernel
theorem dX11_digest_39 : decode cX11_digest 39 = .ok (.iload 5, 2) := by decide +kernel
theorem dX11_digest_41 : decode cX11_digest 41 = .ok (.iaload, 1) := by decide +kernel
theorem dX11_digest_42 : decode cX11_digest 42 = .ok (.invokestatic 161, 3) := by decide +kernel
theorem dX11_digest_45 : decode cX11_digest 45 = .ok (.i2l, 1) := by decide +kernel
theorem dX11_digest_46 : decode cX11_digest 46 = .ok (.ladd, 1) := by decide +kernel
theorem dX11_digest_47 : decode cX11_digest 47 = .ok (.lstore_n 3, 1) := by decide +kernel
theorem dX11_digest_48 : decode cX11_digest 48 = .ok (.iconst 0, 1) := by decide +kernel
theorem dX11_digest_49 : decode cX11_digest 49 = .ok (.istore 6, 2) := by decide +kernel
theorem dX11_digest_51 : decode cX11_digest 51 = .ok (.iload 6, 2) := by decide +kernel
theorem dX11_digest_53 : decode cX11_digest 53 = .ok (.bipush 8, 2) := by decide +kernel
theorem dX11_digest_55 : decode cX11_digest 55 = .ok (.if_icmp .ge 29, 3) := by decide +kernel
theorem dX11_digest_58 : decode cX11_digest 58 = .ok (.ldc2_w 176, 3) := by decide +kernel
theorem dX11_digest_61 : decode cX11_digest 61 = .ok (.lload_n 3, 1) := by decide +kernel
theorem dX11_digest_62 : decode cX11_digest 62 = .ok (.lmul, 1) := by decide +kernel
theorem dX11_digest_63 : decode cX11_digest 63 = .ok (.aload_n 2, 1) := by decide +kernel
theorem dX11_digest_64 : decode cX11_digest 64 = .ok (.getfield 158, 3) := by decide +kernel
theorem dX11_digest_67 : decode cX11_digest 67 = .ok (.iload 5, 2) := by decide +kernel
theorem dX11_digest_69 : decode cX11_digest 69 = .ok (.iaload, 1) := by decide +kernel
theorem dX11_digest_70 : decode cX11_digest 70 = .ok (.iload 6, 2) := by decide +kernel
theorem dX11_digest_72 : decode cX11_digest 72 = .ok (.invokestatic 164, 3) := by decide +kernel
theorem dX11_digest_75 : decode cX11_digest 75 = .ok (.i2l, 1) := by decide +kernel
theorem dX11_digest_76 : decode cX11_digest 76 = .ok (.ladd, 1) := by decide +kernel
theorem dX11_digest_77 : decode cX11_digest 77 = .ok (.lstore_n 3, 1) := by decide +kernel
theorem dX11_digest_78 : decode cX11_digest 78 = .ok (.iinc 6 1, 3) := by decide +kernel
theorem dX11_digest_81 : decode cX11_digest 81 = .ok (.goto (-30), 3) := by decide +kernel
theorem dX11_digest_84 : decode cX11_digest 84 = .ok (.ldc2_w 176, 3) := by decide +kernel
theorem dX11_digest_87 : decode cX11_digest 87 = .ok (.lload_n 3, 1) := by decide +kernel
theorem dX11_digest_88 : decode cX11_digest 88 = .ok (.lmul, 1) := by decide +kernel
theorem dX11_digest_89 : decode cX11_digest 89 = .ok (.aload_n 2, 1) := by decide +kernel
theorem dX11_digest_90 : decode cX11_digest 90 = .ok (.getfield 154, 3) := by decide +kernel
theorem dX11_digest_93 : decode cX11_digest 93 = .ok (.iload 5, 2) := by decide +kernel
theorem dX11_digest_95 : decode cX11_digest 95 = .ok (.laload, 1) := by decide +kernel
theorem dX11_digest_96 : decode cX11_digest 96 = .ok (.ladd, 1) := by decide +kernel
theorem dX11_digest_97 : decode cX11_digest 97 = .ok (.lstore_n 3, 1) := by decide +kernel
theorem dX11_digest_98 : decode cX11_digest 98 = .ok (.iinc 5 1, 3) := by decide +kernel
theorem dX11_digest_101 : decode cX11_digest 101 = .ok (.goto (-80), 3) := by decide +kernel
theorem dX11_digest_104 : decode cX11_digest 104 = .ok (.lload_n 3, 1) := by decide +kernel
theorem dX11_digest_105 : decode cX11_digest 105 = .ok (.lreturn, 1) := by decide +kernel
theorem dX11_pulse_0 : decode cX11_pulse 0 = .ok (.aload_n 0, 1) := by decide +kernel
theorem dX11_pulse_1 : decode cX11_pulse 1 = .ok (.iload_n 1, 1) := by decide +kernel
theorem dX11_pulse_2 : decode cX11_pulse 2 = .ok (.iload_n 2, 1) := by decide +kernel
theorem dX11_pulse_3 : decode cX11_pulse 3 = .ok (.iload_n 3, 1) := by decide +kernel
theorem dX11_pulse_4 : decode cX11_pulse 4 = .ok (.invokevirtual 178, 3) := by decide +kernel
theorem dX11_pulse_7 : decode cX11_pulse 7 = .ok (.ifCond .ne 6, 3) := by decide +kernel
theorem dX11_pulse_10 : decode cX11_pulse 10 = .ok (.ldc 72, 2) := by decide +kernel
theorem dX11_pulse_12 : decode cX11_pulse 12 = .ok (.ireturn, 1) := by decide +kernel
theorem dX11_pulse_13 : decode cX11_pulse 13 = .ok (.aload_n 0, 1) := by decide +kernel
theorem dX11_pulse_14 : decode cX11_pulse 14 = .ok (.new 181, 3) := by decide +kernel
theorem dX11_pulse_17 : decode cX11_pulse 17 = .ok (.dup, 1) := by decide +kernel
theorem dX11_pulse_18 : decode cX11_pulse 18 = .ok (.aload_n 0, 1) := by decide +kernel
theorem dX11_pulse_19 : decode cX11_pulse 19 = .ok (.getfield 183, 3) := by decide +kernel
theorem dX11_pulse_22 : decode cX11_pulse 22 = .ok (.aload_n 0, 1) := by decide +kernel
theorem dX11_pulse_23 : decode cX11_pulse 23 = .ok (.getfield 186, 3) := by decide +kernel
theorem dX11_pulse_26 : decode cX11_pulse 26 = .ok (.iload_n 1, 1) := by decide +kernel
theorem dX11_pulse_27 : decode cX11_pulse 27 = .ok (.iload_n 2, 1) := by decide +kernel
theorem dX11_pulse_28 : decode cX11_pulse 28 = .ok (.iload_n 3, 1) := by decide +kernel
theorem dX11_pulse_29 : decode cX11_pulse 29 = .ok (.invokespecial 190, 3) := by decide +kernel
theorem dX11_pulse_32 : decode cX11_pulse 32 = .ok (.invokevirtual 193, 3) := by decide +kernel
theorem dX11_pulse_35 : decode cX11_pulse 35 = .ok (.ireturn, 1) := by decide +kernel
theorem dX11_cycled_0 : decode cX11_cycled 0 = .ok (.aload_n 0, 1) := by decide +kernel
theorem dX11_cycled_1 : decode cX11_cycled 1 = .ok (.iload_n 1, 1) := by decide +kernel
theorem dX11_cycled_2 : decode cX11_cycled 2 = .ok (.iload_n 2, 1) := by decide +kernel
theorem dX11_cycled_3 : decode cX11_cycled 3 = .ok (.iload_n 3, 1) := by decide +kernel
theorem dX11_cycled_4 : decode cX11_cycled 4 = .ok (.invokevirtual 178, 3) := by decide +kernel
theorem dX11_cycled_7 : decode cX11_cycled 7 = .ok (.ifCond .eq 14, 3) := by decide +kernel
theorem dX11_cycled_10 : decode cX11_cycled 10 = .ok (.iload 4, 2) := by decide +kernel
theorem dX11_cycled_12 : decode cX11_cycled 12 = .ok (.iconst 0, 1) := by decide +kernel
theorem dX11_cycled_13 : decode cX11_cycled 13 = .ok (.bipush 7, 2) := by decide +kernel
theorem dX11_cycled_15 : decode cX11_cycled 15 = .ok (.invokestatic 68, 3) := by decide +kernel
theorem dX11_cycled_18 : decode cX11_cycled 18 = .ok (.ifCond .ne 6, 3) := by decide +kernel
theorem dX11_cycled_21 : decode cX11_cycled 21 = .ok (.ldc 72, 2) := by decide +kernel
theorem dX11_cycled_23 : decode cX11_cycled 23 = .ok (.ireturn, 1) := by decide +kernel
theorem dX11_cycled_24 : decode cX11_cycled 24 = .ok (.aload_n 0, 1) := by decide +kernel
theorem dX11_cycled_25 : decode cX11_cycled 25 = .ok (.new 197, 3) := by decide +kernel
theorem dX11_cycled_28 : decode cX11_cycled 28 = .ok (.dup, 1) := by decide +kernel
theorem dX11_cycled_29 : decode cX11_cycled 29 = .ok (.aload_n 0, 1) := by decide +kernel
theorem dX11_cycled_30 : decode cX11_cycled 30 = .ok (.getfield 183, 3) := by decide +kernel
theorem dX11_cycled_33 : decode cX11_cycled 33 = .ok (.aload_n 0, 1) := by decide +kernel
theorem dX11_cycled_34 : decode cX11_cycled 34 = .ok (.getfield 186, 3) := by decide +kernel
theorem dX11_cycled_37 : decode cX11_cycled 37 = .ok (.iload_n 1, 1) := by decide +kernel
theorem dX11_cycled_38 : decode cX11_cycled 38 = .ok (.iload_n 2, 1) := by decide +kernel
theorem dX11_cycled_39 : decode cX11_cycled 39 = .ok (.iload_n 3, 1) := by decide +kernel
theorem dX11_cycled_40 : decode cX11_cycled 40 = .ok (.iload 4, 2) := by decide +kernel
theorem dX11_cycled_42 : decode cX11_cycled 42 = .ok (.invokespecial 199, 3) := by decide +kernel
theorem dX11_cycled_45 : decode cX11_cycled 45 = .ok (.invokevirtual 193, 3) := by decide +kernel
theorem dX11_cycled_48 : decode cX11_cycled 48 = .ok (.ireturn, 1) := by decide +kernel
theorem dX11_delay_0 : decode cX11_delay 0 = .ok (.aload_n 0, 1) := by decide +kernel
theorem dX11_delay_1 : decode cX11_delay 1 = .ok (.iload_n 1, 1) := by decide +kernel
theorem dX11_delay_2 : decode cX11_delay 2 = .ok (.invokevirtual 115, 3) := by decide +kernel
theorem dX11_delay_5 : decode cX11_delay 5 = .ok (.ifCond .eq 19, 3) := by decide +kernel
theorem dX11_delay_8 : decode cX11_delay 8 = .ok (.iload_n 2, 1) := by decide +kernel
theorem dX11_delay_9 : decode cX11_delay 9 = .ok (.iconst 0, 1) := by decide +kernel
theorem dX11_delay_10 : decode cX11_delay 10 = .ok (.iconst 3, 1) := by decide +kernel
theorem dX11_delay_11 : decode cX11_delay 11 = .ok (.invokestatic 68, 3) := by decide +kernel
theorem dX11_delay_14 : decode cX11_delay 14 = .ok (.ifCond .eq 10, 3) := by decide +kernel
theorem dX11_delay_17 : decode cX11_delay 17 = .ok (.iload_n 3, 1) := by decide +kernel
theorem dX11_delay_18 : decode cX11_delay 18 = .ok (.invokestatic 146, 3) := by decide +kernel
theorem dX11_delay_21 : decode cX11_delay 21 = .ok (.ifCond .ne 6, 3) := by decide +kernel
theorem dX11_delay_24 : decode cX11_delay 24 = .ok (.ldc 72, 2) := by decide +kernel
theorem dX11_delay_26 : decode cX11_delay 26 = .ok (.ireturn, 1) := by decide +kernel
theorem dX11_delay_27 : decode cX11_delay 27 = .ok (.aload_n 0, 1) := by decide +kernel
theorem dX11_delay_28 : decode cX11_delay 28 = .ok (.new 202, 3) := by decide +kernel
theorem dX11_delay_31 : decode cX11_delay 31 = .ok (.dup, 1) := by decide +kernel
theorem dX11_delay_32 : decode cX11_delay 32 = .ok (.aload_n 0, 1) := by decide +kernel
theorem dX11_delay_33 : decode cX11_delay 33 = .ok (.getfield 183, 3) := by decide +kernel
theorem dX11_delay_36 : decode cX11_delay 36 = .ok (.aload_n 0, 1) := by decide +kernel
theorem dX11_delay_37 : decode cX11_delay 37 = .ok (.getfield 186, 3) := by decide +kernel
theorem dX11_delay_40 : decode cX11_delay 40 = .ok (.iload_n 1, 1) := by decide +kernel
theorem dX11_delay_41 : decode cX11_delay 41 = .ok (.iload_n 2, 1) := by decide +kernel
theorem dX11_delay_42 : decode cX11_delay 42 = .ok (.iload_n 3, 1) := by decide +kernel
theorem dX11_delay_43 : decode cX11_delay 43 = .ok (.invokespecial 204, 3) := by decide +kernel
theorem dX11_delay_46 : decode cX11_delay 46 = .ok (.invokevirtual 193, 3) := by decide +kernel
theorem dX11_delay_49 : decode cX11_delay 49 = .ok (.ireturn, 1) := by decide +kernel
theorem dX11_round_0 : decode cX11_round 0 = .ok (.iload_n 1, 1) := by decide +kernel
theorem dX11_round_1 : decode cX11_round 1 = .ok (.iconst 1, 1) := by decide +kernel
theorem dX11_round_2 : decode cX11_round 2 = .ok (.bipush 8, 2) := by decide +kernel
theorem dX11_round_4 : decode cX11_round 4 = .ok (.invokestatic 68, 3) := by decide +kernel
theorem dX11_round_7 : decode cX11_round 7 = .ok (.ifCond .ne 6, 3) := by decide +kernel
theorem dX11_round_10 : decode cX11_round 10 = .ok (.ldc 72, 2) := by decide +kernel
theorem dX11_round_12 : decode cX11_round 12 = .ok (.ireturn, 1) := by decide +kernel
theorem dX11_round_13 : decode cX11_round 13 = .ok (.aload_n 0, 1) := by decide +kernel
theorem dX11_round_14 : decode cX11_round 14 = .ok (.invokevirtual 205, 3) := by decide +kernel
theorem dX11_round_17 : decode cX11_round 17 = .ok (.iconst 3, 1) := by decide +kernel
theorem dX11_round_18 : decode cX11_round 18 = .ok (.if_icmp .lt 6, 3) := by decide +kernel
theorem dX11_round_21 : decode cX11_round 21 = .ok (.ldc 209, 2) := by decide +kernel
theorem dX11_round_23 : decode cX11_round 23 = .ok (.ireturn, 1) := by decide +kernel
theorem dX11_round_24 : decode cX11_round 24 = .ok (.new 210, 3) := by decide +kernel
theorem dX11_round_27 : decode cX11_round 27 = .ok (.dup, 1) := by decide +kernel
theorem dX11_round_28 : decode cX11_round 28 = .ok (.aload_n 0, 1) := by decide +kernel
theorem dX11_round_29 : decode cX11_round 29 = .ok (.getfield 183, 3) := by decide +kernel
theorem dX11_round_32 : decode cX11_round 32 = .ok (.aload_n 0, 1) := by decide +kernel
theorem dX11_round_33 : decode cX11_round 33 = .ok (.getfield 186, 3) := by decide +kernel
theorem dX11_round_36 : decode cX11_round 36 = .ok (.iload_n 1, 1) := by decide +kernel
theorem dX11_round_37 : decode cX11_round 37 = .ok (.invokespecial 212, 3) := by decide +kernel
theorem dX11_round_40 : decode cX11_round 40 = .ok (.astore_n 2, 1) := by decide +kernel
theorem dX11_round_41 : decode cX11_round 41 = .ok (.aload_n 0, 1) := by decide +kernel
theorem dX11_round_42 : decode cX11_round 42 = .ok (.aload_n 2, 1) := by decide +kernel
theorem dX11_round_43 : decode cX11_round 43 = .ok (.invokevirtual 193, 3) := by decide +kernel
theorem dX11_round_46 : decode cX11_round 46 = .ok (.istore_n 3, 1) := by decide +kernel
theorem dX11_round_47 : decode cX11_round 47 = .ok (.iload_n 3, 1) := by decide +kernel
theorem dX11_round_48 : decode cX11_round 48 = .ok (.ldc 134, 2) := by decide +kernel
theorem dX11_round_50 : decode cX11_round 50 = .ok (.if_icmp .eq 8, 3) := by decide +kernel
theorem dX11_round_53 : decode cX11_round 53 = .ok (.aload_n 0, 1) := by decide +kernel
theorem dX11_round_54 : decode cX11_round 54 = .ok (.aload_n 2, 1) := by decide +kernel
theorem dX11_round_55 : decode cX11_round 55 = .ok (.putfield 186, 3) := by decide +kernel
theorem dX11_round_58 : decode cX11_round 58 = .ok (.iload_n 3, 1) := by decide +kernel
theorem dX11_round_59 : decode cX11_round 59 = .ok (.ireturn, 1) := by decide +kernel
theorem dX11_end_0 : decode cX11_end 0 = .ok (.aload_n 0, 1) := by decide +kernel
theorem dX11_end_1 : decode cX11_end 1 = .ok (.getfield 186, 3) := by decide +kernel
theorem dX11_end_4 : decode cX11_end 4 = .ok (.astore_n 1, 1) := by decide +kernel
theorem dX11_end_5 : decode cX11_end 5 = .ok (.aload_n 1, 1) := by decide +kernel
theorem dX11_end_6 : decode cX11_end 6 = .ok (.ifnonnull 6, 3) := by decide +kernel
theorem dX11_end_9 : decode cX11_end 9 = .ok (.ldc 209, 2) := by decide +kernel
theorem dX11_end_11 : decode cX11_end 11 = .ok (.ireturn, 1) := by decide +kernel
theorem dX11_end_12 : decode cX11_end 12 = .ok (.aload_n 0, 1) := by decide +kernel
theorem dX11_end_13 : decode cX11_end 13 = .ok (.new 215, 3) := by decide +kernel
theorem dX11_end_16 : decode cX11_end 16 = .ok (.dup, 1) := by decide +kernel
theorem dX11_end_17 : decode cX11_end 17 = .ok (.aload_n 0, 1) := by decide +kernel
theorem dX11_end_18 : decode cX11_end 18 = .ok (.getfield 183, 3) := by decide +kernel
theorem dX11_end_21 : decode cX11_end 21 = .ok (.aload_n 1, 1) := by decide +kernel
theorem dX11_end_22 : decode cX11_end 22 = .ok (.invokespecial 217, 3) := by decide +kernel
theorem dX11_end_25 : decode cX11_end 25 = .ok (.invokevirtual 193, 3) := by decide +kernel
theorem dX11_end_28 : decode cX11_end 28 = .ok (.istore_n 2, 1) := by decide +kernel
theorem dX11_end_29 : decode cX11_end 29 = .ok (.iload_n 2, 1) := by decide +kernel
theorem dX11_end_30 : decode cX11_end 30 = .ok (.ldc 134, 2) := by decide +kernel
theorem dX11_end_32 : decode cX11_end 32 = .ok (.if_icmp .eq 11, 3) := by decide +kernel
theorem dX11_end_35 : decode cX11_end 35 = .ok (.aload_n 0, 1) := by decide +kernel
theorem dX11_end_36 : decode cX11_end 36 = .ok (.aload_n 1, 1) := by decide +kernel
theorem dX11_end_37 : decode cX11_end 37 = .ok (.getfield 220, 3) := by decide +kernel
theorem dX11_end_40 : decode cX11_end 40 = .ok (.putfield 186, 3) := by decide +kernel
theorem dX11_end_43 : decode cX11_end 43 = .ok (.iload_n 2, 1) := by decide +kernel
theorem dX11_end_44 : decode cX11_end 44 = .ok (.ireturn, 1) := by decide +kernel
theorem dX11_store_0 : decode cX11_store 0 = .ok (.iload_n 1, 1) := by decide +kernel
theorem dX11_store_1 : decode cX11_store 1 = .ok (.iconst 0, 1) := by decide +kernel
theorem dX11_store_2 : decode cX11_store 2 = .ok (.bipush 7, 2) := by decide +kernel
theorem dX11_store_4 : decode cX11_store 4 = .ok (.invokestatic 68, 3) := by decide +kernel
theorem dX11_store_7 : decode cX11_store 7 = .ok (.ifCond .eq 13, 3) := by decide +kernel
theorem dX11_store_10 : decode cX11_store 10 = .ok (.iload_n 2, 1) := by decide +kernel
theorem dX11_store_11 : decode cX11_store 11 = .ok (.bipush (-3), 2) := by decide +kernel
theorem dX11_store_13 : decode cX11_store 13 = .ok (.iconst 3, 1) := by decide +kernel
theorem dX11_store_14 : decode cX11_store 14 = .ok (.invokestatic 68, 3) := by decide +kernel
theorem dX11_store_17 : decode cX11_store 17 = .ok (.ifCond .ne 6, 3) := by decide +kernel
theorem dX11_store_20 : decode cX11_store 20 = .ok (.ldc 72, 2) := by decide +kernel
theorem dX11_store_22 : decode cX11_store 22 = .ok (.ireturn, 1) := by decide +kernel
theorem dX11_store_23 : decode cX11_store 23 = .ok (.aload_n 0, 1) := by decide +kernel
theorem dX11_store_24 : decode cX11_store 24 = .ok (.new 223, 3) := by decide +kernel
theorem dX11_store_27 : decode cX11_store 27 = .ok (.dup, 1) := by decide +kernel
theorem dX11_store_28 : decode cX11_store 28 = .ok (.aload_n 0, 1) := by decide +kernel
theorem dX11_store_29 : decode cX11_store 29 = .ok (.getfield 183, 3) := by decide +kernel
theorem dX11_store_32 : decode cX11_store 32 = .ok (.aload_n 0, 1) := by decide +kernel
theorem dX11_store_33 : decode cX11_store 33 = .ok (.getfield 186, 3) := by decide +kernel
theorem dX11_store_36 : decode cX11_store 36 = .ok (.iload_n 1, 1) := by decide +kernel
theorem dX11_store_37 : decode cX11_store 37 = .ok (.iload_n 2, 1) := by decide +kernel
theorem dX11_store_38 : decode cX11_store 38 = .ok (.invokespecial 225, 3) := by decide +kernel
theorem dX11_store_41 : decode cX11_store 41 = .ok (.invokevirtual 193, 3) := by decide +kernel
theorem dX11_store_44 : decode cX11_store 44 = .ok (.ireturn, 1) := by decide +kernel
theorem dX11_back_0 : decode cX11_back 0 = .ok (.aload_n 0, 1) := by decide +kernel
theorem dX11_back_1 : decode cX11_back 1 = .ok (.aload_n 0, 1) := by decide +kernel
theorem dX11_back_2 : decode cX11_back 2 = .ok (.getfield 183, 3) := by decide +kernel
theorem dX11_back_5 : decode cX11_back 5 = .ok (.iconst 1, 1) := by decide +kernel
theorem dX11_back_6 : decode cX11_back 6 = .ok (.isub, 1) := by decide +kernel
theorem dX11_back_7 : decode cX11_back 7 = .ok (.invokevirtual 228, 3) := by decide +kernel
theorem dX11_back_10 : decode cX11_back 10 = .ok (.astore_n 1, 1) := by decide +kernel
theorem dX11_back_11 : decode cX11_back 11 = .ok (.aload_n 1, 1) := by decide +kernel
theorem dX11_back_12 : decode cX11_back 12 = .ok (.ifnonnull 6, 3) := by decide +kernel
theorem dX11_back_15 : decode cX11_back 15 = .ok (.ldc 209, 2) := by decide +kernel
theorem dX11_back_17 : decode cX11_back 17 = .ok (.ireturn, 1) := by decide +kernel
theorem dX11_back_18 : decode cX11_back 18 = .ok (.aload_n 0, 1) := by decide +kernel
theorem dX11_back_19 : decode cX11_back 19 = .ok (.dup, 1) := by decide +kernel
theorem dX11_back_20 : decode cX11_back 20 = .ok (.getfield 183, 3) := by decide +kernel
theorem dX11_back_23 : decode cX11_back 23 = .ok (.iconst 1, 1) := by decide +kernel
theorem dX11_back_24 : decode cX11_back 24 = .ok (.isub, 1) := by decide +kernel
theorem dX11_back_25 : decode cX11_back 25 = .ok (.putfield 183, 3) := by decide +kernel
theorem dX11_back_28 : decode cX11_back 28 = .ok (.aload_n 0, 1) := by decide +kernel
theorem dX11_back_29 : decode cX11_back 29 = .ok (.getfield 33, 3) := by decide +kernel
theorem dX11_back_32 : decode cX11_back 32 = .ok (.aload_n 0, 1) := by decide +kernel
theorem dX11_back_33 : decode cX11_back 33 = .ok (.getfield 183, 3) := by decide +kernel
theorem dX11_back_36 : decode cX11_back 36 = .ok (.aconst_null, 1) := by decide +kernel
theorem dX11_back_37 : decode cX11_back 37 = .ok (.aastore, 1) := by decide +kernel
theorem dX11_back_38 : decode cX11_back 38 = .ok (.aload_n 0, 1) := by decide +kernel
theorem dX11_back_39 : decode cX11_back 39 = .ok (.aload_n 1, 1) := by decide +kernel
theorem dX11_back_40 : decode cX11_back 40 = .ok (.getfield 232, 3) := by decide +kernel
theorem dX11_back_43 : decode cX11_back 43 = .ok (.putfield 186, 3) := by decide +kernel
theorem dX11_back_46 : decode cX11_back 46 = .ok (.aload_n 0, 1) := by decide +kernel
theorem dX11_back_47 : decode cX11_back 47 = .ok (.getfield 183, 3) := by decide +kernel
theorem dX11_back_50 : decode cX11_back 50 = .ok (.ireturn, 1) := by decide +kernel
theorem dX11_kind_0 : decode cX11_kind 0 = .ok (.aload_n 0, 1) := by decide +kernel
theorem dX11_kind_1 : decode cX11_kind 1 = .ok (.iload_n 1, 1) := by decide +kernel
theorem dX11_kind_2 : decode cX11_kind 2 = .ok (.invokevirtual 228, 3) := by decide +kernel
theorem dX11_kind_5 : decode cX11_kind 5 = .ok (.astore_n 2, 1) := by decide +kernel
theorem dX11_kind_6 : decode cX11_kind 6 = .ok (.aload_n 2, 1) := by decide +kernel
theorem dX11_kind_7 : decode cX11_kind 7 = .ok (.ifnonnull 8, 3) := by decide +kernel
theorem dX11_kind_10 : decode cX11_kind 10 = .ok (.ldc 72, 2) := by decide +kernel
theorem dX11_kind_12 : decode cX11_kind 12 = .ok (.goto 7, 3) := by decide +kernel
theorem dX11_kind_15 : decode cX11_kind 15 = .ok (.aload_n 2, 1) := by decide +kernel
theorem dX11_kind_16 : decode cX11_kind 16 = .ok (.invokevirtual 233, 3) := by decide +kernel
theorem dX11_kind_19 : decode cX11_kind 19 = .ok (.ireturn, 1) := by decide +kernel
theorem dX11_is_0 : decode cX11_is 0 = .ok (.aload_n 0, 1) := by decide +kernel
theorem dX11_is_1 : decode cX11_is 1 = .ok (.iload_n 1, 1) := by decide +kernel
theorem dX11_is_2 : decode cX11_is 2 = .ok (.invokevirtual 228, 3) := by decide +kernel
theorem dX11_is_5 : decode cX11_is 5 = .ok (.astore_n 3, 1) := by decide +kernel
theorem dX11_is_6 : decode cX11_is 6 = .ok (.aload_n 3, 1) := by decide +kernel
theorem dX11_is_7 : decode cX11_is 7 = .ok (.ifnull 13, 3) := by decide +kernel
theorem dX11_is_10 : decode cX11_is 10 = .ok (.iload_n 2, 1) := by decide +kernel
theorem dX11_is_11 : decode cX11_is 11 = .ok (.iconst 0, 1) := by decide +kernel
theorem dX11_is_12 : decode cX11_is 12 = .ok (.bipush 7, 2) := by decide +kernel
theorem dX11_is_14 : decode cX11_is 14 = .ok (.invokestatic 68, 3) := by decide +kernel
theorem dX11_is_17 : decode cX11_is 17 = .ok (.ifCond .ne 6, 3) := by decide +kernel
theorem dX11_is_20 : decode cX11_is 20 = .ok (.ldc 72, 2) := by decide +kernel
theorem dX11_is_22 : decode cX11_is 22 = .ok (.ireturn, 1) := by decide +kernel
theorem dX11_is_23 : decode cX11_is 23 = .ok (.aload_n 3, 1) := by decide +kernel
theorem dX11_is_24 : decode cX11_is 24 = .ok (.iload_n 2, 1) := by decide +kernel
theorem dX11_is_25 : decode cX11_is 25 = .ok (.invokevirtual 236, 3) := by decide +kernel
theorem dX11_is_28 : decode cX11_is 28 = .ok (.ifCond .eq 7, 3) := by decide +kernel
theorem dX11_is_31 : decode cX11_is 31 = .ok (.iconst 1, 1) := by decide +kernel
theorem dX11_is_32 : decode cX11_is 32 = .ok (.goto 4, 3) := by decide +kernel
theorem dX11_is_35 : decode cX11_is 35 = .ok (.iconst 0, 1) := by decide +kernel
theorem dX11_is_36 : decode cX11_is 36 = .ok (.ireturn, 1) := by decide +kernel
theorem dX11_spins_0 : decode cX11_spins 0 = .ok (.aload_n 0, 1) := by decide +kernel
theorem dX11_spins_1 : decode cX11_spins 1 = .ok (.iload_n 1, 1) := by decide +kernel
theorem dX11_spins_2 : decode cX11_spins 2 = .ok (.invokevirtual 228, 3) := by decide +kernel
theorem dX11_spins_5 : decode cX11_spins 5 = .ok (.astore_n 2, 1) := by decide +kernel
theorem dX11_spins_6 : decode cX11_spins 6 = .ok (.aload_n 2, 1) := by decide +kernel
theorem dX11_spins_7 : decode cX11_spins 7 = .ok (.ifnonnull 6, 3) := by decide +kernel
theorem dX11_spins_10 : decode cX11_spins 10 = .ok (.ldc 72, 2) := by decide +kernel
theorem dX11_spins_12 : decode cX11_spins 12 = .ok (.ireturn, 1) := by decide +kernel
theorem dX11_spins_13 : decode cX11_spins 13 = .ok (.aload_n 2, 1) := by decide +kernel
theorem dX11_spins_14 : decode cX11_spins 14 = .ok (.instanceof 181, 3) := by decide +kernel
theorem dX11_spins_17 : decode cX11_spins 17 = .ok (.ifCond .eq 17, 3) := by decide +kernel
theorem dX11_spins_20 : decode cX11_spins 20 = .ok (.aload_n 2, 1) := by decide +kernel
theorem dX11_spins_21 : decode cX11_spins 21 = .ok (.checkcast 181, 3) := by decide +kernel
theorem dX11_spins_24 : decode cX11_spins 24 = .ok (.astore_n 3, 1) := by decide +kernel
theorem dX11_spins_25 : decode cX11_spins 25 = .ok (.aload_n 0, 1) := by decide +kernel
theorem dX11_spins_26 : decode cX11_spins 26 = .ok (.aload_n 3, 1) := by decide +kernel
theorem dX11_spins_27 : decode cX11_spins 27 = .ok (.getfield 239, 3) := by decide +kernel
theorem dX11_spins_30 : decode cX11_spins 30 = .ok (.invokevirtual 81, 3) := by decide +kernel
theorem dX11_spins_33 : decode cX11_spins 33 = .ok (.ireturn, 1) := by decide +kernel
theorem dX11_spins_34 : decode cX11_spins 34 = .ok (.aload_n 0, 1) := by decide +kernel
theorem dX11_spins_35 : decode cX11_spins 35 = .ok (.iconst 3, 1) := by decide +kernel
theorem dX11_spins_36 : decode cX11_spins 36 = .ok (.invokevirtual 73, 3) := by decide +kernel
theorem dX11_spins_39 : decode cX11_spins 39 = .ok (.ireturn, 1) := by decide +kernel
theorem dX11_ask_0 : decode cX11_ask 0 = .ok (.aload_n 0, 1) := by decide +kernel
theorem dX11_ask_1 : decode cX11_ask 1 = .ok (.iload_n 1, 1) := by decide +kernel
theorem dX11_ask_2 : decode cX11_ask 2 = .ok (.invokevirtual 228, 3) := by decide +kernel
theorem dX11_ask_5 : decode cX11_ask 5 = .ok (.astore_n 3, 1) := by decide +kernel
theorem dX11_ask_6 : decode cX11_ask 6 = .ok (.aload_n 3, 1) := by decide +kernel
theorem dX11_ask_7 : decode cX11_ask 7 = .ok (.ifnull 12, 3) := by decide +kernel
theorem dX11_ask_10 : decode cX11_ask 10 = .ok (.iload_n 2, 1) := by decide +kernel
theorem dX11_ask_11 : decode cX11_ask 11 = .ok (.iconst 0, 1) := by decide +kernel
theorem dX11_ask_12 : decode cX11_ask 12 = .ok (.iconst 1, 1) := by decide +kernel
theorem dX11_ask_13 : decode cX11_ask 13 = .ok (.invokestatic 68, 3) := by decide +kernel
theorem dX11_ask_16 : decode cX11_ask 16 = .ok (.ifCond .ne 6, 3) := by decide +kernel
theorem dX11_ask_19 : decode cX11_ask 19 = .ok (.ldc 72, 2) := by decide +kernel
theorem dX11_ask_21 : decode cX11_ask 21 = .ok (.ireturn, 1) := by decide +kernel
theorem dX11_ask_22 : decode cX11_ask 22 = .ok (.aload_n 0, 1) := by decide +kernel
theorem dX11_ask_23 : decode cX11_ask 23 = .ok (.iconst 0, 1) := by decide +kernel
theorem dX11_ask_24 : decode cX11_ask 24 = .ok (.putfield 242, 3) := by decide +kernel
theorem dX11_ask_27 : decode cX11_ask 27 = .ok (.iload_n 2, 1) := by decide +kernel
theorem dX11_ask_28 : decode cX11_ask 28 = .ok (.ifCond .ne 11, 3) := by decide +kernel
theorem dX11_ask_31 : decode cX11_ask 31 = .ok (.aload_n 3, 1) := by decide +kernel
theorem dX11_ask_32 : decode cX11_ask 32 = .ok (.aload_n 0, 1) := by decide +kernel
theorem dX11_ask_33 : decode cX11_ask 33 = .ok (.invokevirtual 245, 3) := by decide +kernel
theorem dX11_ask_36 : decode cX11_ask 36 = .ok (.goto 8, 3) := by decide +kernel
theorem dX11_ask_39 : decode cX11_ask 39 = .ok (.aload_n 3, 1) := by decide +kernel
theorem dX11_ask_40 : decode cX11_ask 40 = .ok (.aload_n 0, 1) := by decide +kernel
theorem dX11_ask_41 : decode cX11_ask 41 = .ok (.invokevirtual 249, 3) := by decide +kernel
theorem dX11_ask_44 : decode cX11_ask 44 = .ok (.ireturn, 1) := by decide +kernel
theorem dX11_trace_0 : decode cX11_trace 0 = .ok (.iload_n 1, 1) := by decide +kernel
theorem dX11_trace_1 : decode cX11_trace 1 = .ok (.iconst 0, 1) := by decide +kernel
theorem dX11_trace_2 : decode cX11_trace 2 = .ok (.aload_n 0, 1) := by decide +kernel
theorem dX11_trace_3 : decode cX11_trace 3 = .ok (.getfield 242, 3) := by decide +kernel
theorem dX11_trace_6 : decode cX11_trace 6 = .ok (.iconst 1, 1) := by decide +kernel
theorem dX11_trace_7 : decode cX11_trace 7 = .ok (.isub, 1) := by decide +kernel
theorem dX11_trace_8 : decode cX11_trace 8 = .ok (.invokestatic 68, 3) := by decide +kernel
theorem dX11_trace_11 : decode cX11_trace 11 = .ok (.ifCond .eq 12, 3) := by decide +kernel
theorem dX11_trace_14 : decode cX11_trace 14 = .ok (.aload_n 0, 1) := by decide +kernel
theorem dX11_trace_15 : decode cX11_trace 15 = .ok (.getfield 42, 3) := by decide +kernel
theorem dX11_trace_18 : decode cX11_trace 18 = .ok (.iload_n 1, 1) := by decide +kernel
theorem dX11_trace_19 : decode cX11_trace 19 = .ok (.iaload, 1) := by decide +kernel
theorem dX11_trace_20 : decode cX11_trace 20 = .ok (.goto 5, 3) := by decide +kernel
theorem dX11_trace_23 : decode cX11_trace 23 = .ok (.ldc 37, 2) := by decide +kernel
theorem dX11_trace_25 : decode cX11_trace 25 = .ok (.ireturn, 1) := by decide +kernel
theorem dX11_run_0 : decode cX11_run 0 = .ok (.aload_n 0, 1) := by decide +kernel
theorem dX11_run_1 : decode cX11_run 1 = .ok (.getfield 186, 3) := by decide +kernel
theorem dX11_run_4 : decode cX11_run 4 = .ok (.ifnull 6, 3) := by decide +kernel
theorem dX11_run_7 : decode cX11_run 7 = .ok (.ldc 209, 2) := by decide +kernel
theorem dX11_run_9 : decode cX11_run 9 = .ok (.ireturn, 1) := by decide +kernel
theorem dX11_run_10 : decode cX11_run 10 = .ok (.aload_n 0, 1) := by decide +kernel
theorem dX11_run_11 : decode cX11_run 11 = .ok (.getfield 15, 3) := by decide +kernel
theorem dX11_run_14 : decode cX11_run 14 = .ok (.aload_n 0, 1) := by decide +kernel
theorem dX11_run_15 : decode cX11_run 15 = .ok (.getfield 11, 3) := by decide +kernel
theorem dX11_run_18 : decode cX11_run 18 = .ok (.invokestatic 252, 3) := by decide +kernel
theorem dX11_run_21 : decode cX11_run 21 = .ok (.aload_n 0, 1) := by decide +kernel
theorem dX11_run_22 : decode cX11_run 22 = .ok (.iconst 0, 1) := by decide +kernel
theorem dX11_run_23 : decode cX11_run 23 = .ok (.putfield 256, 3) := by decide +kernel
theorem dX11_run_26 : decode cX11_run 26 = .ok (.aload_n 0, 1) := by decide +kernel
theorem dX11_run_27 : decode cX11_run 27 = .ok (.ldc 37, 2) := by decide +kernel
theorem dX11_run_29 : decode cX11_run 29 = .ok (.putfield 38, 3) := by decide +kernel
theorem dX11_run_32 : decode cX11_run 32 = .ok (.iconst 0, 1) := by decide +kernel
theorem dX11_run_33 : decode cX11_run 33 = .ok (.istore_n 1, 1) := by decide +kernel
theorem dX11_run_34 : decode cX11_run 34 = .ok (.aload_n 0, 1) := by decide +kernel
theorem dX11_run_35 : decode cX11_run 35 = .ok (.iconst 0, 1) := by decide +kernel
theorem dX11_run_36 : decode cX11_run 36 = .ok (.invokevirtual 228, 3) := by decide +kernel
theorem dX11_run_39 : decode cX11_run 39 = .ok (.astore_n 2, 1) := by decide +kernel
theorem dX11_run_40 : decode cX11_run 40 = .ok (.iconst 0, 1) := by decide +kernel
theorem dX11_run_41 : decode cX11_run 41 = .ok (.istore_n 3, 1) := by decide +kernel
theorem dX11_run_42 : decode cX11_run 42 = .ok (.iload_n 3, 1) := by decide +kernel
theorem dX11_run_43 : decode cX11_run 43 = .ok (.sipush 500, 3) := by decide +kernel
theorem dX11_run_46 : decode cX11_run 46 = .ok (.if_icmp .ge 64, 3) := by decide +kernel
theorem dX11_run_49 : decode cX11_run 49 = .ok (.aload_n 2, 1) := by decide +kernel
theorem dX11_run_50 : decode cX11_run 50 = .ok (.ifnull 60, 3) := by decide +kernel
theorem dX11_run_53 : decode cX11_run 53 = .ok (.iload_n 1, 1) := by decide +kernel
theorem dX11_run_54 : decode cX11_run 54 = .ok (.ifCond .ne 56, 3) := by decide +kernel
theorem dX11_run_57 : decode cX11_run 57 = .ok (.aload_n 0, 1) := by decide +kernel
theorem dX11_run_58 : decode cX11_run 58 = .ok (.aload_n 2, 1) := by decide +kernel
theorem dX11_run_59 : decode cX11_run 59 = .ok (.getfield 259, 3) := by decide +kernel
theorem dX11_run_62 : decode cX11_run 62 = .ok (.putfield 38, 3) := by decide +kernel
theorem dX11_run_65 : decode cX11_run 65 = .ok (.aload_n 0, 1) := by decide +kernel
theorem dX11_run_66 : decode cX11_run 66 = .ok (.aload_n 2, 1) := by decide +kernel
theorem dX11_run_67 : decode cX11_run 67 = .ok (.getfield 259, 3) := by decide +kernel
theorem dX11_run_70 : decode cX11_run 70 = .ok (.iconst 1, 1) := by decide +kernel
theorem dX11_run_71 : decode cX11_run 71 = .ok (.iadd, 1) := by decide +kernel
theorem dX11_run_72 : decode cX11_run 72 = .ok (.putfield 262, 3) := by decide +kernel
theorem dX11_run_75 : decode cX11_run 75 = .ok (.aload_n 2, 1) := by decide +kernel
theorem dX11_run_76 : decode cX11_run 76 = .ok (.aload_n 0, 1) := by decide +kernel
theorem dX11_run_77 : decode cX11_run 77 = .ok (.invokevirtual 265, 3) := by decide +kernel
theorem dX11_run_80 : decode cX11_run 80 = .ok (.istore_n 1, 1) := by decide +kernel
theorem dX11_run_81 : decode cX11_run 81 = .ok (.iload_n 1, 1) := by decide +kernel
theorem dX11_run_82 : decode cX11_run 82 = .ok (.ifCond .ne 22, 3) := by decide +kernel
theorem dX11_run_85 : decode cX11_run 85 = .ok (.aload_n 0, 1) := by decide +kernel
theorem dX11_run_86 : decode cX11_run 86 = .ok (.dup, 1) := by decide +kernel
theorem dX11_run_87 : decode cX11_run 87 = .ok (.getfield 256, 3) := by decide +kernel
theorem dX11_run_90 : decode cX11_run 90 = .ok (.iconst 1, 1) := by decide +kernel
theorem dX11_run_91 : decode cX11_run 91 = .ok (.iadd, 1) := by decide +kernel
theorem dX11_run_92 : decode cX11_run 92 = .ok (.putfield 256, 3) := by decide +kernel
theorem dX11_run_95 : decode cX11_run 95 = .ok (.aload_n 0, 1) := by decide +kernel
theorem dX11_run_96 : decode cX11_run 96 = .ok (.aload_n 0, 1) := by decide +kernel
theorem dX11_run_97 : decode cX11_run 97 = .ok (.getfield 262, 3) := by decide +kernel
theorem dX11_run_100 : decode cX11_run 100 = .ok (.invokevirtual 228, 3) := by decide +kernel
theorem dX11_run_103 : decode cX11_run 103 = .ok (.astore_n 2, 1) := by decide +kernel
theorem dX11_run_104 : decode cX11_run 104 = .ok (.iinc 3 1, 3) := by decide +kernel
theorem dX11_run_107 : decode cX11_run 107 = .ok (.goto (-65), 3) := by decide +kernel
theorem dX11_run_110 : decode cX11_run 110 = .ok (.aload_n 2, 1) := by decide +kernel
theorem dX11_run_111 : decode cX11_run 111 = .ok (.ifnonnull 12, 3) := by decide +kernel
theorem dX11_run_114 : decode cX11_run 114 = .ok (.aload_n 0, 1) := by decide +kernel
theorem dX11_run_115 : decode cX11_run 115 = .ok (.aload_n 0, 1) := by decide +kernel
theorem dX11_run_116 : decode cX11_run 116 = .ok (.getfield 256, 3) := by decide +kernel
theorem dX11_run_119 : decode cX11_run 119 = .ok (.invokevirtual 81, 3) := by decide +kernel
theorem dX11_run_122 : decode cX11_run 122 = .ok (.ireturn, 1) := by decide +kernel
theorem dX11_run_123 : decode cX11_run 123 = .ok (.aload_n 0, 1) := by decide +kernel
theorem dX11_run_124 : decode cX11_run 124 = .ok (.getfield 11, 3) := by decide +kernel
theorem dX11_run_127 : decode cX11_run 127 = .ok (.aload_n 0, 1) := by decide +kernel
theorem dX11_run_128 : decode cX11_run 128 = .ok (.getfield 15, 3) := by decide +kernel
theorem dX11_run_131 : decode cX11_run 131 = .ok (.invokestatic 252, 3) := by decide +kernel
theorem dX11_run_134 : decode cX11_run 134 = .ok (.iload_n 1, 1) := by decide +kernel
theorem dX11_run_135 : decode cX11_run 135 = .ok (.ifCond .eq 9, 3) := by decide +kernel
theorem dX11_run_138 : decode cX11_run 138 = .ok (.iload_n 1, 1) := by decide +kernel
theorem dX11_run_139 : decode cX11_run 139 = .ok (.ldc 134, 2) := by decide +kernel
theorem dX11_run_141 : decode cX11_run 141 = .ok (.if_icmp .ne 8, 3) := by decide +kernel
theorem dX11_run_144 : decode cX11_run 144 = .ok (.ldc 134, 2) := by decide +kernel
theorem dX11_run_146 : decode cX11_run 146 = .ok (.goto 8, 3) := by decide +kernel
theorem dX11_run_149 : decode cX11_run 149 = .ok (.aload_n 0, 1) := by decide +kernel
theorem dX11_run_150 : decode cX11_run 150 = .ok (.iload_n 1, 1) := by decide +kernel
theorem dX11_run_151 : decode cX11_run 151 = .ok (.invokevirtual 73, 3) := by decide +kernel
theorem dX11_run_154 : decode cX11_run 154 = .ok (.ireturn, 1) := by decide +kernel
theorem dX11_told_0 : decode cX11_told 0 = .ok (.iload_n 1, 1) := by decide +kernel
theorem dX11_told_1 : decode cX11_told 1 = .ok (.lookupswitch 37 #[(0, 27), (1, 32)], 27) := by decide +kernel
theorem dX11_told_28 : decode cX11_told 28 = .ok (.aload_n 0, 1) := by decide +kernel
theorem dX11_told_29 : decode cX11_told 29 = .ok (.getfield 256, 3) := by decide +kernel
theorem dX11_told_32 : decode cX11_told 32 = .ok (.ireturn, 1) := by decide +kernel
theorem dX11_told_33 : decode cX11_told 33 = .ok (.aload_n 0, 1) := by decide +kernel
theorem dX11_told_34 : decode cX11_told 34 = .ok (.getfield 38, 3) := by decide +kernel
theorem dX11_told_37 : decode cX11_told 37 = .ok (.ireturn, 1) := by decide +kernel
theorem dX11_told_38 : decode cX11_told 38 = .ok (.ldc 72, 2) := by decide +kernel
theorem dX11_told_40 : decode cX11_told 40 = .ok (.ireturn, 1) := by decide +kernel
theorem dX11_count_0 : decode cX11_count 0 = .ok (.iload_n 1, 1) := by decide +kernel
theorem dX11_count_1 : decode cX11_count 1 = .ok (.tableswitch 60 0 4 #[35, 40, 45, 50, 55], 35) := by decide +kernel
theorem dX11_count_36 : decode cX11_count 36 = .ok (.aload_n 0, 1) := by decide +kernel
theorem dX11_count_37 : decode cX11_count 37 = .ok (.getfield 55, 3) := by decide +kernel
theorem dX11_count_40 : decode cX11_count 40 = .ok (.ireturn, 1) := by decide +kernel
theorem dX11_count_41 : decode cX11_count 41 = .ok (.aload_n 0, 1) := by decide +kernel
theorem dX11_count_42 : decode cX11_count 42 = .ok (.getfield 183, 3) := by decide +kernel
theorem dX11_count_45 : decode cX11_count 45 = .ok (.ireturn, 1) := by decide +kernel
theorem dX11_count_46 : decode cX11_count 46 = .ok (.aload_n 0, 1) := by decide +kernel
theorem dX11_count_47 : decode cX11_count 47 = .ok (.invokevirtual 268, 3) := by decide +kernel
theorem dX11_count_50 : decode cX11_count 50 = .ok (.ireturn, 1) := by decide +kernel
theorem dX11_count_51 : decode cX11_count 51 = .ok (.aload_n 0, 1) := by decide +kernel
theorem dX11_count_52 : decode cX11_count 52 = .ok (.invokevirtual 205, 3) := by decide +kernel
theorem dX11_count_55 : decode cX11_count 55 = .ok (.ireturn, 1) := by decide +kernel
theorem dX11_count_56 : decode cX11_count 56 = .ok (.aload_n 0, 1) := by decide +kernel
theorem dX11_count_57 : decode cX11_count 57 = .ok (.invokevirtual 271, 3) := by decide +kernel
theorem dX11_count_60 : decode cX11_count 60 = .ok (.ireturn, 1) := by decide +kernel
theorem dX11_count_61 : decode cX11_count 61 = .ok (.ldc 72, 2) := by decide +kernel
theorem dX11_count_63 : decode cX11_count 63 = .ok (.ireturn, 1) := by decide +kernel
theorem dX11_status_0 : decode cX11_status 0 = .ok (.aload_n 0, 1) := by decide +kernel
theorem dX11_status_1 : decode cX11_status 1 = .ok (.getfield 274, 3) := by decide +kernel
theorem dX11_status_4 : decode cX11_status 4 = .ok (.ireturn, 1) := by decide +kernel
theorem dX11_within_0 : decode cX11_within 0 = .ok (.iload_n 0, 1) := by decide +kernel
theorem dX11_within_1 : decode cX11_within 1 = .ok (.iload_n 1, 1) := by decide +kernel
theorem dX11_within_2 : decode cX11_within 2 = .ok (.if_icmp .lt 12, 3) := by decide +kernel
theorem dX11_within_5 : decode cX11_within 5 = .ok (.iload_n 0, 1) := by decide +kernel
theorem dX11_within_6 : decode cX11_within 6 = .ok (.iload_n 2, 1) := by decide +kernel
theorem dX11_within_7 : decode cX11_within 7 = .ok (.if_icmp .gt 7, 3) := by decide +kernel
theorem dX11_within_10 : decode cX11_within 10 = .ok (.iconst 1, 1) := by decide +kernel
theorem dX11_within_11 : decode cX11_within 11 = .ok (.goto 4, 3) := by decide +kernel
theorem dX11_within_14 : decode cX11_within 14 = .ok (.iconst 0, 1) := by decide +kernel
theorem dX11_within_15 : decode cX11_within 15 = .ok (.ireturn, 1) := by decide +kernel
theorem dX11_isWay_0 : decode cX11_isWay 0 = .ok (.iload_n 0, 1) := by decide +kernel
theorem dX11_isWay_1 : decode cX11_isWay 1 = .ok (.iconst 1, 1) := by decide +kernel
theorem dX11_isWay_2 : decode cX11_isWay 2 = .ok (.if_icmp .eq 8, 3) := by decide +kernel
theorem dX11_isWay_5 : decode cX11_isWay 5 = .ok (.iload_n 0, 1) := by decide +kernel
theorem dX11_isWay_6 : decode cX11_isWay 6 = .ok (.iconst (-1), 1) := by decide +kernel
theorem dX11_isWay_7 : decode cX11_isWay 7 = .ok (.if_icmp .ne 7, 3) := by decide +kernel
theorem dX11_isWay_10 : decode cX11_isWay 10 = .ok (.iconst 1, 1) := by decide +kernel
theorem dX11_isWay_11 : decode cX11_isWay 11 = .ok (.goto 4, 3) := by decide +kernel
theorem dX11_isWay_14 : decode cX11_isWay 14 = .ok (.iconst 0, 1) := by decide +kernel
theorem dX11_isWay_15 : decode cX11_isWay 15 = .ok (.ireturn, 1) := by decide +kernel
theorem dX11_isProduct_0 : decode cX11_isProduct 0 = .ok (.iload_n 1, 1) := by decide +kernel
theorem dX11_isProduct_1 : decode cX11_isProduct 1 = .ok (.iconst 0, 1) := by decide +kernel
theorem dX11_isProduct_2 : decode cX11_isProduct 2 = .ok (.iconst 1, 1) := by decide +kernel
theorem dX11_isProduct_3 : decode cX11_isProduct 3 = .ok (.iconst 2, 1) := by decide +kernel
theorem dX11_isProduct_4 : decode cX11_isProduct 4 = .ok (.aload_n 0, 1) := by decide +kernel
theorem dX11_isProduct_5 : decode cX11_isProduct 5 = .ok (.getfield 55, 3) := by decide +kernel
theorem dX11_isProduct_8 : decode cX11_isProduct 8 = .ok (.imul, 1) := by decide +kernel
theorem dX11_isProduct_9 : decode cX11_isProduct 9 = .ok (.ishl, 1) := by decide +kernel
theorem dX11_isProduct_10 : decode cX11_isProduct 10 = .ok (.iconst 1, 1) := by decide +kernel
theorem dX11_isProduct_11 : decode cX11_isProduct 11 = .ok (.isub, 1) := by decide +kernel
theorem dX11_isProduct_12 : decode cX11_isProduct 12 = .ok (.invokestatic 68, 3) := by decide +kernel
theorem dX11_isProduct_15 : decode cX11_isProduct 15 = .ok (.ireturn, 1) := by decide +kernel
theorem dX11_isPulse_0 : decode cX11_isPulse 0 = .ok (.iload_n 1, 1) := by decide +kernel
theorem dX11_isPulse_1 : decode cX11_isPulse 1 = .ok (.iconst 1, 1) := by decide +kernel
theorem dX11_isPulse_2 : decode cX11_isPulse 2 = .ok (.iconst 1, 1) := by decide +kernel
theorem dX11_isPulse_3 : decode cX11_isPulse 3 = .ok (.aload_n 0, 1) := by decide +kernel
theorem dX11_isPulse_4 : decode cX11_isPulse 4 = .ok (.getfield 55, 3) := by decide +kernel
theorem dX11_isPulse_7 : decode cX11_isPulse 7 = .ok (.ishl, 1) := by decide +kernel
theorem dX11_isPulse_8 : decode cX11_isPulse 8 = .ok (.iconst 1, 1) := by decide +kernel
theorem dX11_isPulse_9 : decode cX11_isPulse 9 = .ok (.isub, 1) := by decide +kernel
theorem dX11_isPulse_10 : decode cX11_isPulse 10 = .ok (.invokestatic 68, 3) := by decide +kernel
theorem dX11_isPulse_13 : decode cX11_isPulse 13 = .ok (.ifCond .eq 25, 3) := by decide +kernel
theorem dX11_isPulse_16 : decode cX11_isPulse 16 = .ok (.iload_n 2, 1) := by decide +kernel
theorem dX11_isPulse_17 : decode cX11_isPulse 17 = .ok (.iconst 0, 1) := by decide +kernel
theorem dX11_isPulse_18 : decode cX11_isPulse 18 = .ok (.iconst 3, 1) := by decide +kernel
theorem dX11_isPulse_19 : decode cX11_isPulse 19 = .ok (.invokestatic 68, 3) := by decide +kernel
theorem dX11_isPulse_22 : decode cX11_isPulse 22 = .ok (.ifCond .eq 16, 3) := by decide +kernel
theorem dX11_isPulse_25 : decode cX11_isPulse 25 = .ok (.iload_n 3, 1) := by decide +kernel
theorem dX11_isPulse_26 : decode cX11_isPulse 26 = .ok (.iconst 0, 1) := by decide +kernel
theorem dX11_isPulse_27 : decode cX11_isPulse 27 = .ok (.iconst 3, 1) := by decide +kernel
theorem dX11_isPulse_28 : decode cX11_isPulse 28 = .ok (.invokestatic 68, 3) := by decide +kernel
theorem dX11_isPulse_31 : decode cX11_isPulse 31 = .ok (.ifCond .eq 7, 3) := by decide +kernel
theorem dX11_isPulse_34 : decode cX11_isPulse 34 = .ok (.iconst 1, 1) := by decide +kernel
theorem dX11_isPulse_35 : decode cX11_isPulse 35 = .ok (.goto 4, 3) := by decide +kernel
theorem dX11_isPulse_38 : decode cX11_isPulse 38 = .ok (.iconst 0, 1) := by decide +kernel
theorem dX11_isPulse_39 : decode cX11_isPulse 39 = .ok (.ireturn, 1) := by decide +kernel
theorem dX11_tableAt_0 : decode cX11_tableAt 0 = .ok (.iload_n 1, 1) := by decide +kernel
theorem dX11_tableAt_1 : decode cX11_tableAt 1 = .ok (.iconst 0, 1) := by decide +kernel
theorem dX11_tableAt_2 : decode cX11_tableAt 2 = .ok (.bipush 7, 2) := by decide +kernel
theorem dX11_tableAt_4 : decode cX11_tableAt 4 = .ok (.invokestatic 68, 3) := by decide +kernel
theorem dX11_tableAt_7 : decode cX11_tableAt 7 = .ok (.ifCond .eq 12, 3) := by decide +kernel
theorem dX11_tableAt_10 : decode cX11_tableAt 10 = .ok (.aload_n 0, 1) := by decide +kernel
theorem dX11_tableAt_11 : decode cX11_tableAt 11 = .ok (.getfield 27, 3) := by decide +kernel
theorem dX11_tableAt_14 : decode cX11_tableAt 14 = .ok (.iload_n 1, 1) := by decide +kernel
theorem dX11_tableAt_15 : decode cX11_tableAt 15 = .ok (.aaload, 1) := by decide +kernel
theorem dX11_tableAt_16 : decode cX11_tableAt 16 = .ok (.goto 4, 3) := by decide +kernel
theorem dX11_tableAt_19 : decode cX11_tableAt 19 = .ok (.aconst_null, 1) := by decide +kernel
theorem dX11_tableAt_20 : decode cX11_tableAt 20 = .ok (.areturn, 1) := by decide +kernel
theorem dX11_sumAt_0 : decode cX11_sumAt 0 = .ok (.iload_n 1, 1) := by decide +kernel
theorem dX11_sumAt_1 : decode cX11_sumAt 1 = .ok (.iconst (-1), 1) := by decide +kernel
theorem dX11_sumAt_2 : decode cX11_sumAt 2 = .ok (.bipush 7, 2) := by decide +kernel
theorem dX11_sumAt_4 : decode cX11_sumAt 4 = .ok (.invokestatic 68, 3) := by decide +kernel
theorem dX11_sumAt_7 : decode cX11_sumAt 7 = .ok (.ifCond .eq 14, 3) := by decide +kernel
theorem dX11_sumAt_10 : decode cX11_sumAt 10 = .ok (.aload_n 0, 1) := by decide +kernel
theorem dX11_sumAt_11 : decode cX11_sumAt 11 = .ok (.getfield 11, 3) := by decide +kernel
theorem dX11_sumAt_14 : decode cX11_sumAt 14 = .ok (.iload_n 1, 1) := by decide +kernel
theorem dX11_sumAt_15 : decode cX11_sumAt 15 = .ok (.iconst 1, 1) := by decide +kernel
theorem dX11_sumAt_16 : decode cX11_sumAt 16 = .ok (.iadd, 1) := by decide +kernel
theorem dX11_sumAt_17 : decode cX11_sumAt 17 = .ok (.aaload, 1) := by decide +kernel
theorem dX11_sumAt_18 : decode cX11_sumAt 18 = .ok (.goto 4, 3) := by decide +kernel
theorem dX11_sumAt_21 : decode cX11_sumAt 21 = .ok (.aconst_null, 1) := by decide +kernel
theorem dX11_sumAt_22 : decode cX11_sumAt 22 = .ok (.areturn, 1) := by decide +kernel
theorem dX11_opAt_0 : decode cX11_opAt 0 = .ok (.iload_n 1, 1) := by decide +kernel
theorem dX11_opAt_1 : decode cX11_opAt 1 = .ok (.iconst 0, 1) := by decide +kernel
theorem dX11_opAt_2 : decode cX11_opAt 2 = .ok (.aload_n 0, 1) := by decide +kernel
theorem dX11_opAt_3 : decode cX11_opAt 3 = .ok (.getfield 183, 3) := by decide +kernel
theorem dX11_opAt_6 : decode cX11_opAt 6 = .ok (.iconst 1, 1) := by decide +kernel
theorem dX11_opAt_7 : decode cX11_opAt 7 = .ok (.isub, 1) := by decide +kernel
theorem dX11_opAt_8 : decode cX11_opAt 8 = .ok (.invokestatic 68, 3) := by decide +kernel
theorem dX11_opAt_11 : decode cX11_opAt 11 = .ok (.ifCond .eq 12, 3) := by decide +kernel
theorem dX11_opAt_14 : decode cX11_opAt 14 = .ok (.aload_n 0, 1) := by decide +kernel
theorem dX11_opAt_15 : decode cX11_opAt 15 = .ok (.getfield 33, 3) := by decide +kernel
theorem dX11_opAt_18 : decode cX11_opAt 18 = .ok (.iload_n 1, 1) := by decide +kernel
theorem dX11_opAt_19 : decode cX11_opAt 19 = .ok (.aaload, 1) := by decide +kernel
theorem dX11_opAt_20 : decode cX11_opAt 20 = .ok (.goto 4, 3) := by decide +kernel
theorem dX11_opAt_23 : decode cX11_opAt 23 = .ok (.aconst_null, 1) := by decide +kernel
theorem dX11_opAt_24 : decode cX11_opAt 24 = .ok (.areturn, 1) := by decide +kernel
theorem dX11_found_0 : decode cX11_found 0 = .ok (.aload_n 0, 1) := by decide +kernel
theorem dX11_found_1 : decode cX11_found 1 = .ok (.iload_n 1, 1) := by decide +kernel
theorem dX11_found_2 : decode cX11_found 2 = .ok (.putfield 274, 3) := by decide +kernel
theorem dX11_found_5 : decode cX11_found 5 = .ok (.ldc_w 277, 3) := by decide +kernel
theorem dX11_found_8 : decode cX11_found 8 = .ok (.iload_n 1, 1) := by decide +kernel
theorem dX11_found_9 : decode cX11_found 9 = .ok (.isub, 1) := by decide +kernel
theorem dX11_found_10 : decode cX11_found 10 = .ok (.ireturn, 1) := by decide +kernel
theorem dX11_notFound_0 : decode cX11_notFound 0 = .ok (.aload_n 0, 1) := by decide +kernel
theorem dX11_notFound_1 : decode cX11_notFound 1 = .ok (.iconst 0, 1) := by decide +kernel
theorem dX11_notFound_2 : decode cX11_notFound 2 = .ok (.putfield 274, 3) := by decide +kernel
theorem dX11_notFound_5 : decode cX11_notFound 5 = .ok (.iload_n 1, 1) := by decide +kernel
theorem dX11_notFound_6 : decode cX11_notFound 6 = .ok (.ireturn, 1) := by decide +kernel
theorem dX11_append_0 : decode cX11_append 0 = .ok (.aload_n 0, 1) := by decide +kernel
theorem dX11_append_1 : decode cX11_append 1 = .ok (.getfield 183, 3) := by decide +kernel
theorem dX11_append_4 : decode cX11_append 4 = .ok (.istore_n 2, 1) := by decide +kernel
theorem dX11_append_5 : decode cX11_append 5 = .ok (.iload_n 2, 1) := by decide +kernel
theorem dX11_append_6 : decode cX11_append 6 = .ok (.bipush 40, 2) := by decide +kernel
theorem dX11_append_8 : decode cX11_append 8 = .ok (.if_icmp .lt 6, 3) := by decide +kernel
theorem dX11_append_11 : decode cX11_append 11 = .ok (.ldc 134, 2) := by decide +kernel
theorem dX11_append_13 : decode cX11_append 13 = .ok (.ireturn, 1) := by decide +kernel
theorem dX11_append_14 : decode cX11_append 14 = .ok (.aload_n 0, 1) := by decide +kernel
theorem dX11_append_15 : decode cX11_append 15 = .ok (.getfield 33, 3) := by decide +kernel
theorem dX11_append_18 : decode cX11_append 18 = .ok (.iload_n 2, 1) := by decide +kernel
theorem dX11_append_19 : decode cX11_append 19 = .ok (.aload_n 1, 1) := by decide +kernel
theorem dX11_append_20 : decode cX11_append 20 = .ok (.aastore, 1) := by decide +kernel
theorem dX11_append_21 : decode cX11_append 21 = .ok (.aload_n 0, 1) := by decide +kernel
theorem dX11_append_22 : decode cX11_append 22 = .ok (.dup, 1) := by decide +kernel
theorem dX11_append_23 : decode cX11_append 23 = .ok (.getfield 183, 3) := by decide +kernel
theorem dX11_append_26 : decode cX11_append 26 = .ok (.iconst 1, 1) := by decide +kernel
theorem dX11_append_27 : decode cX11_append 27 = .ok (.iadd, 1) := by decide +kernel
theorem dX11_append_28 : decode cX11_append 28 = .ok (.putfield 183, 3) := by decide +kernel
theorem dX11_append_31 : decode cX11_append 31 = .ok (.iload_n 2, 1) := by decide +kernel
theorem dX11_append_32 : decode cX11_append 32 = .ok (.ireturn, 1) := by decide +kernel
theorem dX11_presentTables_0 : decode cX11_presentTables 0 = .ok (.iconst 0, 1) := by decide +kernel
theorem dX11_presentTables_1 : decode cX11_presentTables 1 = .ok (.istore_n 1, 1) := by decide +kernel
theorem dX11_presentTables_2 : decode cX11_presentTables 2 = .ok (.iconst 0, 1) := by decide +kernel
theorem dX11_presentTables_3 : decode cX11_presentTables 3 = .ok (.istore_n 2, 1) := by decide +kernel
theorem dX11_presentTables_4 : decode cX11_presentTables 4 = .ok (.iload_n 2, 1) := by decide +kernel
theorem dX11_presentTables_5 : decode cX11_presentTables 5 = .ok (.bipush 8, 2) := by decide +kernel
theorem dX11_presentTables_7 : decode cX11_presentTables 7 = .ok (.if_icmp .ge 24, 3) := by decide +kernel
theorem dX11_presentTables_10 : decode cX11_presentTables 10 = .ok (.aload_n 0, 1) := by decide +kernel
theorem dX11_presentTables_11 : decode cX11_presentTables 11 = .ok (.getfield 27, 3) := by decide +kernel
theorem dX11_presentTables_14 : decode cX11_presentTables 14 = .ok (.iload_n 2, 1) := by decide +kernel
theorem dX11_presentTables_15 : decode cX11_presentTables 15 = .ok (.aaload, 1) := by decide +kernel
theorem dX11_presentTables_16 : decode cX11_presentTables 16 = .ok (.getfield 84, 3) := by decide +kernel
theorem dX11_presentTables_19 : decode cX11_presentTables 19 = .ok (.ifCond .ne 6, 3) := by decide +kernel
theorem dX11_presentTables_22 : decode cX11_presentTables 22 = .ok (.iinc 1 1, 3) := by decide +kernel
theorem dX11_presentTables_25 : decode cX11_presentTables 25 = .ok (.iinc 2 1, 3) := by decide +kernel
theorem dX11_presentTables_28 : decode cX11_presentTables 28 = .ok (.goto (-24), 3) := by decide +kernel
theorem dX11_presentTables_31 : decode cX11_presentTables 31 = .ok (.iload_n 1, 1) := by decide +kernel
theorem dX11_presentTables_32 : decode cX11_presentTables 32 = .ok (.ireturn, 1) := by decide +kernel
theorem dX11_openRounds_0 : decode cX11_openRounds 0 = .ok (.iconst 0, 1) := by decide +kernel
theorem dX11_openRounds_1 : decode cX11_openRounds 1 = .ok (.istore_n 1, 1) := by decide +kernel
theorem dX11_openRounds_2 : decode cX11_openRounds 2 = .ok (.aload_n 0, 1) := by decide +kernel
theorem dX11_openRounds_3 : decode cX11_openRounds 3 = .ok (.getfield 186, 3) := by decide +kernel
theorem dX11_openRounds_6 : decode cX11_openRounds 6 = .ok (.astore_n 2, 1) := by decide +kernel
theorem dX11_openRounds_7 : decode cX11_openRounds 7 = .ok (.aload_n 2, 1) := by decide +kernel
theorem dX11_openRounds_8 : decode cX11_openRounds 8 = .ok (.ifnull 14, 3) := by decide +kernel
theorem dX11_openRounds_11 : decode cX11_openRounds 11 = .ok (.iinc 1 1, 3) := by decide +kernel
theorem dX11_openRounds_14 : decode cX11_openRounds 14 = .ok (.aload_n 2, 1) := by decide +kernel
theorem dX11_openRounds_15 : decode cX11_openRounds 15 = .ok (.getfield 220, 3) := by decide +kernel
theorem dX11_openRounds_18 : decode cX11_openRounds 18 = .ok (.astore_n 2, 1) := by decide +kernel
theorem dX11_openRounds_19 : decode cX11_openRounds 19 = .ok (.goto (-12), 3) := by decide +kernel
theorem dX11_openRounds_22 : decode cX11_openRounds 22 = .ok (.iload_n 1, 1) := by decide +kernel
theorem dX11_openRounds_23 : decode cX11_openRounds 23 = .ok (.ireturn, 1) := by decide +kernel
theorem dX11_allTerms_0 : decode cX11_allTerms 0 = .ok (.iconst 0, 1) := by decide +kernel
theorem dX11_allTerms_1 : decode cX11_allTerms 1 = .ok (.istore_n 1, 1) := by decide +kernel
theorem dX11_allTerms_2 : decode cX11_allTerms 2 = .ok (.iconst 0, 1) := by decide +kernel
theorem dX11_allTerms_3 : decode cX11_allTerms 3 = .ok (.istore_n 2, 1) := by decide +kernel
theorem dX11_allTerms_4 : decode cX11_allTerms 4 = .ok (.iload_n 2, 1) := by decide +kernel
theorem dX11_allTerms_5 : decode cX11_allTerms 5 = .ok (.aload_n 0, 1) := by decide +kernel
theorem dX11_allTerms_6 : decode cX11_allTerms 6 = .ok (.getfield 11, 3) := by decide +kernel
theorem dX11_allTerms_9 : decode cX11_allTerms 9 = .ok (.arraylength, 1) := by decide +kernel
theorem dX11_allTerms_10 : decode cX11_allTerms 10 = .ok (.if_icmp .ge 21, 3) := by decide +kernel
theorem dX11_allTerms_13 : decode cX11_allTerms 13 = .ok (.iload_n 1, 1) := by decide +kernel
theorem dX11_allTerms_14 : decode cX11_allTerms 14 = .ok (.aload_n 0, 1) := by decide +kernel
theorem dX11_allTerms_15 : decode cX11_allTerms 15 = .ok (.getfield 11, 3) := by decide +kernel
theorem dX11_allTerms_18 : decode cX11_allTerms 18 = .ok (.iload_n 2, 1) := by decide +kernel
theorem dX11_allTerms_19 : decode cX11_allTerms 19 = .ok (.aaload, 1) := by decide +kernel
theorem dX11_allTerms_20 : decode cX11_allTerms 20 = .ok (.getfield 114, 3) := by decide +kernel
theorem dX11_allTerms_23 : decode cX11_allTerms 23 = .ok (.iadd, 1) := by decide +kernel
theorem dX11_allTerms_24 : decode cX11_allTerms 24 = .ok (.istore_n 1, 1) := by decide +kernel
theorem dX11_allTerms_25 : decode cX11_allTerms 25 = .ok (.iinc 2 1, 3) := by decide +kernel
theorem dX11_allTerms_28 : decode cX11_allTerms 28 = .ok (.goto (-24), 3) := by decide +kernel
theorem dX11_allTerms_31 : decode cX11_allTerms 31 = .ok (.iload_n 1, 1) := by decide +kernel
theorem dX11_allTerms_32 : decode cX11_allTerms 32 = .ok (.ireturn, 1) := by decide +kernel
theorem dX11_takeAll_0 : decode cX11_takeAll 0 = .ok (.iconst 0, 1) := by decide +kernel
theorem dX11_takeAll_1 : decode cX11_takeAll 1 = .ok (.istore_n 2, 1) := by decide +kernel
theorem dX11_takeAll_2 : decode cX11_takeAll 2 = .ok (.iload_n 2, 1) := by decide +kernel
theorem dX11_takeAll_3 : decode cX11_takeAll 3 = .ok (.aload_n 0, 1) := by decide +kernel
theorem dX11_takeAll_4 : decode cX11_takeAll 4 = .ok (.arraylength, 1) := by decide +kernel
theorem dX11_takeAll_5 : decode cX11_takeAll 5 = .ok (.if_icmp .ge 24, 3) := by decide +kernel
theorem dX11_takeAll_8 : decode cX11_takeAll 8 = .ok (.iload_n 2, 1) := by decide +kernel
theorem dX11_takeAll_9 : decode cX11_takeAll 9 = .ok (.aload_n 1, 1) := by decide +kernel
theorem dX11_takeAll_10 : decode cX11_takeAll 10 = .ok (.arraylength, 1) := by decide +kernel
theorem dX11_takeAll_11 : decode cX11_takeAll 11 = .ok (.if_icmp .ge 18, 3) := by decide +kernel
theorem dX11_takeAll_14 : decode cX11_takeAll 14 = .ok (.aload_n 0, 1) := by decide +kernel
theorem dX11_takeAll_15 : decode cX11_takeAll 15 = .ok (.iload_n 2, 1) := by decide +kernel
theorem dX11_takeAll_16 : decode cX11_takeAll 16 = .ok (.aaload, 1) := by decide +kernel
theorem dX11_takeAll_17 : decode cX11_takeAll 17 = .ok (.aload_n 1, 1) := by decide +kernel
theorem dX11_takeAll_18 : decode cX11_takeAll 18 = .ok (.iload_n 2, 1) := by decide +kernel
theorem dX11_takeAll_19 : decode cX11_takeAll 19 = .ok (.aaload, 1) := by decide +kernel
theorem dX11_takeAll_20 : decode cX11_takeAll 20 = .ok (.invokevirtual 135, 3) := by decide +kernel
theorem dX11_takeAll_23 : decode cX11_takeAll 23 = .ok (.iinc 2 1, 3) := by decide +kernel
theorem dX11_takeAll_26 : decode cX11_takeAll 26 = .ok (.goto (-24), 3) := by decide +kernel
theorem dX11_takeAll_29 : decode cX11_takeAll 29 = .ok (.return_, 1) := by decide +kernel
theorem dX11_leaveBody_0 : decode cX11_leaveBody 0 = .ok (.aload_n 0, 1) := by decide +kernel
theorem dX11_leaveBody_1 : decode cX11_leaveBody 1 = .ok (.getfield 242, 3) := by decide +kernel
theorem dX11_leaveBody_4 : decode cX11_leaveBody 4 = .ok (.bipush 16, 2) := by decide +kernel
theorem dX11_leaveBody_6 : decode cX11_leaveBody 6 = .ok (.if_icmp .ge 23, 3) := by decide +kernel
theorem dX11_leaveBody_9 : decode cX11_leaveBody 9 = .ok (.aload_n 0, 1) := by decide +kernel
theorem dX11_leaveBody_10 : decode cX11_leaveBody 10 = .ok (.getfield 42, 3) := by decide +kernel
theorem dX11_leaveBody_13 : decode cX11_leaveBody 13 = .ok (.aload_n 0, 1) := by decide +kernel
theorem dX11_leaveBody_14 : decode cX11_leaveBody 14 = .ok (.getfield 242, 3) := by decide +kernel
theorem dX11_leaveBody_17 : decode cX11_leaveBody 17 = .ok (.iload_n 1, 1) := by decide +kernel
theorem dX11_leaveBody_18 : decode cX11_leaveBody 18 = .ok (.iastore, 1) := by decide +kernel
theorem dX11_leaveBody_19 : decode cX11_leaveBody 19 = .ok (.aload_n 0, 1) := by decide +kernel
theorem dX11_leaveBody_20 : decode cX11_leaveBody 20 = .ok (.dup, 1) := by decide +kernel
theorem dX11_leaveBody_21 : decode cX11_leaveBody 21 = .ok (.getfield 242, 3) := by decide +kernel
theorem dX11_leaveBody_24 : decode cX11_leaveBody 24 = .ok (.iconst 1, 1) := by decide +kernel
theorem dX11_leaveBody_25 : decode cX11_leaveBody 25 = .ok (.iadd, 1) := by decide +kernel
theorem dX11_leaveBody_26 : decode cX11_leaveBody 26 = .ok (.putfield 242, 3) := by decide +kernel
theorem dX11_leaveBody_29 : decode cX11_leaveBody 29 = .ok (.return_, 1) := by decide +kernel
theorem dX11_signOf_0 : decode cX11_signOf 0 = .ok (.iconst 0, 1) := by decide +kernel
theorem dX11_signOf_1 : decode cX11_signOf 1 = .ok (.istore_n 2, 1) := by decide +kernel
theorem dX11_signOf_2 : decode cX11_signOf 2 = .ok (.iconst 0, 1) := by decide +kernel
theorem dX11_signOf_3 : decode cX11_signOf 3 = .ok (.istore_n 3, 1) := by decide +kernel
theorem dX11_signOf_4 : decode cX11_signOf 4 = .ok (.iload_n 3, 1) := by decide +kernel
theorem dX11_signOf_5 : decode cX11_signOf 5 = .ok (.iconst 4, 1) := by decide +kernel
theorem dX11_signOf_6 : decode cX11_signOf 6 = .ok (.if_icmp .ge 71, 3) := by decide +kernel
theorem dX11_signOf_9 : decode cX11_signOf 9 = .ok (.iload_n 0, 1) := by decide +kernel
theorem dX11_signOf_10 : decode cX11_signOf 10 = .ok (.iconst 2, 1) := by decide +kernel
theorem dX11_signOf_11 : decode cX11_signOf 11 = .ok (.iload_n 3, 1) := by decide +kernel
theorem dX11_signOf_12 : decode cX11_signOf 12 = .ok (.imul, 1) := by decide +kernel
theorem dX11_signOf_13 : decode cX11_signOf 13 = .ok (.ishr, 1) := by decide +kernel
theorem dX11_signOf_14 : decode cX11_signOf 14 = .ok (.iconst 3, 1) := by decide +kernel
theorem dX11_signOf_15 : decode cX11_signOf 15 = .ok (.iand, 1) := by decide +kernel
theorem dX11_signOf_16 : decode cX11_signOf 16 = .ok (.istore 4, 2) := by decide +kernel
theorem dX11_signOf_18 : decode cX11_signOf 18 = .ok (.iload_n 1, 1) := by decide +kernel
theorem dX11_signOf_19 : decode cX11_signOf 19 = .ok (.iconst 2, 1) := by decide +kernel
theorem dX11_signOf_20 : decode cX11_signOf 20 = .ok (.iload_n 3, 1) := by decide +kernel
theorem dX11_signOf_21 : decode cX11_signOf 21 = .ok (.imul, 1) := by decide +kernel
theorem dX11_signOf_22 : decode cX11_signOf 22 = .ok (.ishr, 1) := by decide +kernel
theorem dX11_signOf_23 : decode cX11_signOf 23 = .ok (.iconst 3, 1) := by decide +kernel
theorem dX11_signOf_24 : decode cX11_signOf 24 = .ok (.iand, 1) := by decide +kernel
theorem dX11_signOf_25 : decode cX11_signOf 25 = .ok (.istore 5, 2) := by decide +kernel
theorem dX11_signOf_27 : decode cX11_signOf 27 = .ok (.iload 4, 2) := by decide +kernel
theorem dX11_signOf_29 : decode cX11_signOf 29 = .ok (.ifCond .eq 42, 3) := by decide +kernel
theorem dX11_signOf_32 : decode cX11_signOf 32 = .ok (.iload 5, 2) := by decide +kernel
theorem dX11_signOf_34 : decode cX11_signOf 34 = .ok (.ifCond .eq 37, 3) := by decide +kernel
theorem dX11_signOf_37 : decode cX11_signOf 37 = .ok (.iload 4, 2) := by decide +kernel
theorem dX11_signOf_39 : decode cX11_signOf 39 = .ok (.iload 5, 2) := by decide +kernel
theorem dX11_signOf_41 : decode cX11_signOf 41 = .ok (.if_icmp .eq 30, 3) := by decide +kernel
theorem dX11_signOf_44 : decode cX11_signOf 44 = .ok (.iload_n 2, 1) := by decide +kernel
theorem dX11_signOf_45 : decode cX11_signOf 45 = .ok (.iload 5, 2) := by decide +kernel
theorem dX11_signOf_47 : decode cX11_signOf 47 = .ok (.iload 4, 2) := by decide +kernel
theorem dX11_signOf_49 : decode cX11_signOf 49 = .ok (.isub, 1) := by decide +kernel
theorem dX11_signOf_50 : decode cX11_signOf 50 = .ok (.iconst 1, 1) := by decide +kernel
theorem dX11_signOf_51 : decode cX11_signOf 51 = .ok (.if_icmp .eq 13, 3) := by decide +kernel
theorem dX11_signOf_54 : decode cX11_signOf 54 = .ok (.iload 5, 2) := by decide +kernel
theorem dX11_signOf_56 : decode cX11_signOf 56 = .ok (.iload 4, 2) := by decide +kernel
theorem dX11_signOf_58 : decode cX11_signOf 58 = .ok (.isub, 1) := by decide +kernel
theorem dX11_signOf_59 : decode cX11_signOf 59 = .ok (.bipush (-2), 2) := by decide +kernel
theorem dX11_signOf_61 : decode cX11_signOf 61 = .ok (.if_icmp .ne 7, 3) := by decide +kernel
theorem dX11_signOf_64 : decode cX11_signOf 64 = .ok (.iconst 1, 1) := by decide +kernel
theorem dX11_signOf_65 : decode cX11_signOf 65 = .ok (.goto 4, 3) := by decide +kernel
theorem dX11_signOf_68 : decode cX11_signOf 68 = .ok (.iconst (-1), 1) := by decide +kernel
theorem dX11_signOf_69 : decode cX11_signOf 69 = .ok (.iadd, 1) := by decide +kernel
theorem dX11_signOf_70 : decode cX11_signOf 70 = .ok (.istore_n 2, 1) := by decide +kernel
theorem dX11_signOf_71 : decode cX11_signOf 71 = .ok (.iinc 3 1, 3) := by decide +kernel
theorem dX11_signOf_74 : decode cX11_signOf 74 = .ok (.goto (-70), 3) := by decide +kernel
theorem dX11_signOf_77 : decode cX11_signOf 77 = .ok (.iload_n 2, 1) := by decide +kernel
theorem dX11_signOf_78 : decode cX11_signOf 78 = .ok (.iconst 1, 1) := by decide +kernel
theorem dX11_signOf_79 : decode cX11_signOf 79 = .ok (.iand, 1) := by decide +kernel
theorem dX11_signOf_80 : decode cX11_signOf 80 = .ok (.ifCond .ne 5, 3) := by decide +kernel
theorem dX11_signOf_83 : decode cX11_signOf 83 = .ok (.iconst 0, 1) := by decide +kernel
theorem dX11_signOf_84 : decode cX11_signOf 84 = .ok (.ireturn, 1) := by decide +kernel
theorem dX11_signOf_85 : decode cX11_signOf 85 = .ok (.iload_n 2, 1) := by decide +kernel
theorem dX11_signOf_86 : decode cX11_signOf 86 = .ok (.iconst 1, 1) := by decide +kernel
theorem dX11_signOf_87 : decode cX11_signOf 87 = .ok (.isub, 1) := by decide +kernel
theorem dX11_signOf_88 : decode cX11_signOf 88 = .ok (.iconst 3, 1) := by decide +kernel
theorem dX11_signOf_89 : decode cX11_signOf 89 = .ok (.iand, 1) := by decide +kernel
theorem dX11_signOf_90 : decode cX11_signOf 90 = .ok (.ifCond .ne 7, 3) := by decide +kernel
theorem dX11_signOf_93 : decode cX11_signOf 93 = .ok (.iconst 1, 1) := by decide +kernel
theorem dX11_signOf_94 : decode cX11_signOf 94 = .ok (.goto 4, 3) := by decide +kernel
theorem dX11_signOf_97 : decode cX11_signOf 97 = .ok (.iconst (-1), 1) := by decide +kernel
theorem dX11_signOf_98 : decode cX11_signOf 98 = .ok (.ireturn, 1) := by decide +kernel
theorem dX11_withProduct_0 : decode cX11_withProduct 0 = .ok (.iload_n 0, 1) := by decide +kernel
theorem dX11_withProduct_1 : decode cX11_withProduct 1 = .ok (.iload_n 1, 1) := by decide +kernel
theorem dX11_withProduct_2 : decode cX11_withProduct 2 = .ok (.bipush 20, 2) := by decide +kernel
theorem dX11_withProduct_4 : decode cX11_withProduct 4 = .ok (.ishl, 1) := by decide +kernel
theorem dX11_withProduct_5 : decode cX11_withProduct 5 = .ok (.ixor, 1) := by decide +kernel
theorem dX11_withProduct_6 : decode cX11_withProduct 6 = .ok (.ireturn, 1) := by decide +kernel
theorem dX11_turnByQuarters_0 : decode cX11_turnByQuarters 0 = .ok (.iload_n 2, 1) := by decide +kernel
theorem dX11_turnByQuarters_1 : decode cX11_turnByQuarters 1 = .ok (.ifCond .ne 5, 3) := by decide +kernel
theorem dX11_turnByQuarters_4 : decode cX11_turnByQuarters 4 = .ok (.iconst 1, 1) := by decide +kernel
theorem dX11_turnByQuarters_5 : decode cX11_turnByQuarters 5 = .ok (.ireturn, 1) := by decide +kernel
theorem dX11_turnByQuarters_6 : decode cX11_turnByQuarters 6 = .ok (.aload_n 0, 1) := by decide +kernel
theorem dX11_turnByQuarters_7 : decode cX11_turnByQuarters 7 = .ok (.getfield 21, 3) := by decide +kernel
theorem dX11_turnByQuarters_10 : decode cX11_turnByQuarters 10 = .ok (.invokevirtual 119, 3) := by decide +kernel
theorem dX11_turnByQuarters_13 : decode cX11_turnByQuarters 13 = .ok (.iconst 0, 1) := by decide +kernel
theorem dX11_turnByQuarters_14 : decode cX11_turnByQuarters 14 = .ok (.istore_n 3, 1) := by decide +kernel
theorem dX11_turnByQuarters_15 : decode cX11_turnByQuarters 15 = .ok (.iload_n 3, 1) := by decide +kernel
theorem dX11_turnByQuarters_16 : decode cX11_turnByQuarters 16 = .ok (.aload_n 0, 1) := by decide +kernel
theorem dX11_turnByQuarters_17 : decode cX11_turnByQuarters 17 = .ok (.getfield 59, 3) := by decide +kernel
theorem dX11_turnByQuarters_20 : decode cX11_turnByQuarters 20 = .ok (.getfield 114, 3) := by decide +kernel
theorem dX11_turnByQuarters_23 : decode cX11_turnByQuarters 23 = .ok (.if_icmp .ge 115, 3) := by decide +kernel
theorem dX11_turnByQuarters_26 : decode cX11_turnByQuarters 26 = .ok (.aload_n 0, 1) := by decide +kernel
theorem dX11_turnByQuarters_27 : decode cX11_turnByQuarters 27 = .ok (.getfield 59, 3) := by decide +kernel
theorem dX11_turnByQuarters_30 : decode cX11_turnByQuarters 30 = .ok (.getfield 158, 3) := by decide +kernel
theorem dX11_turnByQuarters_33 : decode cX11_turnByQuarters 33 = .ok (.iload_n 3, 1) := by decide +kernel
theorem dX11_turnByQuarters_34 : decode cX11_turnByQuarters 34 = .ok (.iaload, 1) := by decide +kernel
theorem dX11_turnByQuarters_35 : decode cX11_turnByQuarters 35 = .ok (.istore 4, 2) := by decide +kernel
theorem dX11_turnByQuarters_37 : decode cX11_turnByQuarters 37 = .ok (.aload_n 0, 1) := by decide +kernel
theorem dX11_turnByQuarters_38 : decode cX11_turnByQuarters 38 = .ok (.getfield 59, 3) := by decide +kernel
theorem dX11_turnByQuarters_41 : decode cX11_turnByQuarters 41 = .ok (.getfield 154, 3) := by decide +kernel
theorem dX11_turnByQuarters_44 : decode cX11_turnByQuarters 44 = .ok (.iload_n 3, 1) := by decide +kernel
theorem dX11_turnByQuarters_45 : decode cX11_turnByQuarters 45 = .ok (.laload, 1) := by decide +kernel
theorem dX11_turnByQuarters_46 : decode cX11_turnByQuarters 46 = .ok (.lstore 5, 2) := by decide +kernel
theorem dX11_turnByQuarters_48 : decode cX11_turnByQuarters 48 = .ok (.iload_n 1, 1) := by decide +kernel
theorem dX11_turnByQuarters_49 : decode cX11_turnByQuarters 49 = .ok (.iload 4, 2) := by decide +kernel
theorem dX11_turnByQuarters_51 : decode cX11_turnByQuarters 51 = .ok (.invokestatic 161, 3) := by decide +kernel
theorem dX11_turnByQuarters_54 : decode cX11_turnByQuarters 54 = .ok (.invokestatic 278, 3) := by decide +kernel
theorem dX11_turnByQuarters_57 : decode cX11_turnByQuarters 57 = .ok (.istore 7, 2) := by decide +kernel
theorem dX11_turnByQuarters_59 : decode cX11_turnByQuarters 59 = .ok (.iload 7, 2) := by decide +kernel
theorem dX11_turnByQuarters_61 : decode cX11_turnByQuarters 61 = .ok (.ifCond .ne 17, 3) := by decide +kernel
theorem dX11_turnByQuarters_64 : decode cX11_turnByQuarters 64 = .ok (.aload_n 0, 1) := by decide +kernel
theorem dX11_turnByQuarters_65 : decode cX11_turnByQuarters 65 = .ok (.getfield 21, 3) := by decide +kernel
theorem dX11_turnByQuarters_68 : decode cX11_turnByQuarters 68 = .ok (.iload 4, 2) := by decide +kernel
theorem dX11_turnByQuarters_70 : decode cX11_turnByQuarters 70 = .ok (.lload 5, 2) := by decide +kernel
theorem dX11_turnByQuarters_72 : decode cX11_turnByQuarters 72 = .ok (.invokevirtual 126, 3) := by decide +kernel
theorem dX11_turnByQuarters_75 : decode cX11_turnByQuarters 75 = .ok (.goto 57, 3) := by decide +kernel
theorem dX11_turnByQuarters_78 : decode cX11_turnByQuarters 78 = .ok (.iload_n 2, 1) := by decide +kernel
theorem dX11_turnByQuarters_79 : decode cX11_turnByQuarters 79 = .ok (.iconst 2, 1) := by decide +kernel
theorem dX11_turnByQuarters_80 : decode cX11_turnByQuarters 80 = .ok (.if_icmp .ne 18, 3) := by decide +kernel
theorem dX11_turnByQuarters_83 : decode cX11_turnByQuarters 83 = .ok (.aload_n 0, 1) := by decide +kernel
theorem dX11_turnByQuarters_84 : decode cX11_turnByQuarters 84 = .ok (.getfield 21, 3) := by decide +kernel
theorem dX11_turnByQuarters_87 : decode cX11_turnByQuarters 87 = .ok (.iload 4, 2) := by decide +kernel
theorem dX11_turnByQuarters_89 : decode cX11_turnByQuarters 89 = .ok (.lload 5, 2) := by decide +kernel
theorem dX11_turnByQuarters_91 : decode cX11_turnByQuarters 91 = .ok (.lneg, 1) := by decide +kernel
theorem dX11_turnByQuarters_92 : decode cX11_turnByQuarters 92 = .ok (.invokevirtual 126, 3) := by decide +kernel
theorem dX11_turnByQuarters_95 : decode cX11_turnByQuarters 95 = .ok (.goto 37, 3) := by decide +kernel
theorem dX11_turnByQuarters_98 : decode cX11_turnByQuarters 98 = .ok (.aload_n 0, 1) := by decide +kernel
theorem dX11_turnByQuarters_99 : decode cX11_turnByQuarters 99 = .ok (.getfield 21, 3) := by decide +kernel
theorem dX11_turnByQuarters_102 : decode cX11_turnByQuarters 102 = .ok (.iload 4, 2) := by decide +kernel
theorem dX11_turnByQuarters_104 : decode cX11_turnByQuarters 104 = .ok (.iload_n 1, 1) := by decide +kernel
theorem dX11_turnByQuarters_105 : decode cX11_turnByQuarters 105 = .ok (.invokestatic 281, 3) := by decide +kernel
theorem dX11_turnByQuarters_108 : decode cX11_turnByQuarters 108 = .ok (.iload_n 2, 1) := by decide +kernel
theorem dX11_turnByQuarters_109 : decode cX11_turnByQuarters 109 = .ok (.iconst 1, 1) := by decide +kernel
theorem dX11_turnByQuarters_110 : decode cX11_turnByQuarters 110 = .ok (.if_icmp .ne 12, 3) := by decide +kernel
theorem dX11_turnByQuarters_113 : decode cX11_turnByQuarters 113 = .ok (.lload 5, 2) := by decide +kernel
theorem dX11_turnByQuarters_115 : decode cX11_turnByQuarters 115 = .ok (.iload 7, 2) := by decide +kernel
theorem dX11_turnByQuarters_117 : decode cX11_turnByQuarters 117 = .ok (.i2l, 1) := by decide +kernel
theorem dX11_turnByQuarters_118 : decode cX11_turnByQuarters 118 = .ok (.lmul, 1) := by decide +kernel
theorem dX11_turnByQuarters_119 : decode cX11_turnByQuarters 119 = .ok (.goto 10, 3) := by decide +kernel
theorem dX11_turnByQuarters_122 : decode cX11_turnByQuarters 122 = .ok (.lload 5, 2) := by decide +kernel
theorem dX11_turnByQuarters_124 : decode cX11_turnByQuarters 124 = .ok (.lneg, 1) := by decide +kernel
theorem dX11_turnByQuarters_125 : decode cX11_turnByQuarters 125 = .ok (.iload 7, 2) := by decide +kernel
theorem dX11_turnByQuarters_127 : decode cX11_turnByQuarters 127 = .ok (.i2l, 1) := by decide +kernel
theorem dX11_turnByQuarters_128 : decode cX11_turnByQuarters 128 = .ok (.lmul, 1) := by decide +kernel
theorem dX11_turnByQuarters_129 : decode cX11_turnByQuarters 129 = .ok (.invokevirtual 126, 3) := by decide +kernel
theorem dX11_turnByQuarters_132 : decode cX11_turnByQuarters 132 = .ok (.iinc 3 1, 3) := by decide +kernel
theorem dX11_turnByQuarters_135 : decode cX11_turnByQuarters 135 = .ok (.goto (-120), 3) := by decide +kernel
theorem dX11_turnByQuarters_138 : decode cX11_turnByQuarters 138 = .ok (.aload_n 0, 1) := by decide +kernel
theorem dX11_turnByQuarters_139 : decode cX11_turnByQuarters 139 = .ok (.getfield 21, 3) := by decide +kernel
theorem dX11_turnByQuarters_142 : decode cX11_turnByQuarters 142 = .ok (.aload_n 0, 1) := by decide +kernel
theorem dX11_turnByQuarters_143 : decode cX11_turnByQuarters 143 = .ok (.getfield 59, 3) := by decide +kernel
theorem dX11_turnByQuarters_146 : decode cX11_turnByQuarters 146 = .ok (.invokevirtual 130, 3) := by decide +kernel
theorem dX11_turnByQuarters_149 : decode cX11_turnByQuarters 149 = .ok (.ireturn, 1) := by decide +kernel
theorem dX11_turnByLetter_0 : decode cX11_turnByLetter 0 = .ok (.aload_n 0, 1) := by decide +kernel
theorem dX11_turnByLetter_1 : decode cX11_turnByLetter 1 = .ok (.getfield 21, 3) := by decide +kernel
theorem dX11_turnByLetter_4 : decode cX11_turnByLetter 4 = .ok (.invokevirtual 119, 3) := by decide +kernel
theorem dX11_turnByLetter_7 : decode cX11_turnByLetter 7 = .ok (.iconst 0, 1) := by decide +kernel
theorem dX11_turnByLetter_8 : decode cX11_turnByLetter 8 = .ok (.istore 4, 2) := by decide +kernel
theorem dX11_turnByLetter_10 : decode cX11_turnByLetter 10 = .ok (.iload 4, 2) := by decide +kernel
theorem dX11_turnByLetter_12 : decode cX11_turnByLetter 12 = .ok (.aload_n 0, 1) := by decide +kernel
theorem dX11_turnByLetter_13 : decode cX11_turnByLetter 13 = .ok (.getfield 59, 3) := by decide +kernel
theorem dX11_turnByLetter_16 : decode cX11_turnByLetter 16 = .ok (.getfield 114, 3) := by decide +kernel
theorem dX11_turnByLetter_19 : decode cX11_turnByLetter 19 = .ok (.if_icmp .ge 102, 3) := by decide +kernel
theorem dX11_turnByLetter_22 : decode cX11_turnByLetter 22 = .ok (.aload_n 0, 1) := by decide +kernel
theorem dX11_turnByLetter_23 : decode cX11_turnByLetter 23 = .ok (.getfield 59, 3) := by decide +kernel
theorem dX11_turnByLetter_26 : decode cX11_turnByLetter 26 = .ok (.getfield 158, 3) := by decide +kernel
theorem dX11_turnByLetter_29 : decode cX11_turnByLetter 29 = .ok (.iload 4, 2) := by decide +kernel
theorem dX11_turnByLetter_31 : decode cX11_turnByLetter 31 = .ok (.iaload, 1) := by decide +kernel
theorem dX11_turnByLetter_32 : decode cX11_turnByLetter 32 = .ok (.istore 5, 2) := by decide +kernel
theorem dX11_turnByLetter_34 : decode cX11_turnByLetter 34 = .ok (.aload_n 0, 1) := by decide +kernel
theorem dX11_turnByLetter_35 : decode cX11_turnByLetter 35 = .ok (.getfield 59, 3) := by decide +kernel
theorem dX11_turnByLetter_38 : decode cX11_turnByLetter 38 = .ok (.getfield 154, 3) := by decide +kernel
theorem dX11_turnByLetter_41 : decode cX11_turnByLetter 41 = .ok (.iload 4, 2) := by decide +kernel
theorem dX11_turnByLetter_43 : decode cX11_turnByLetter 43 = .ok (.laload, 1) := by decide +kernel
theorem dX11_turnByLetter_44 : decode cX11_turnByLetter 44 = .ok (.lstore 6, 2) := by decide +kernel
theorem dX11_turnByLetter_46 : decode cX11_turnByLetter 46 = .ok (.iload_n 1, 1) := by decide +kernel
theorem dX11_turnByLetter_47 : decode cX11_turnByLetter 47 = .ok (.iload 5, 2) := by decide +kernel
theorem dX11_turnByLetter_49 : decode cX11_turnByLetter 49 = .ok (.invokestatic 161, 3) := by decide +kernel
theorem dX11_turnByLetter_52 : decode cX11_turnByLetter 52 = .ok (.invokestatic 278, 3) := by decide +kernel
theorem dX11_turnByLetter_55 : decode cX11_turnByLetter 55 = .ok (.istore 8, 2) := by decide +kernel
theorem dX11_turnByLetter_57 : decode cX11_turnByLetter 57 = .ok (.iload 8, 2) := by decide +kernel
theorem dX11_turnByLetter_59 : decode cX11_turnByLetter 59 = .ok (.ifCond .ne 17, 3) := by decide +kernel
theorem dX11_turnByLetter_62 : decode cX11_turnByLetter 62 = .ok (.aload_n 0, 1) := by decide +kernel
theorem dX11_turnByLetter_63 : decode cX11_turnByLetter 63 = .ok (.getfield 21, 3) := by decide +kernel
theorem dX11_turnByLetter_66 : decode cX11_turnByLetter 66 = .ok (.iload 5, 2) := by decide +kernel
theorem dX11_turnByLetter_68 : decode cX11_turnByLetter 68 = .ok (.lload 6, 2) := by decide +kernel
theorem dX11_turnByLetter_70 : decode cX11_turnByLetter 70 = .ok (.invokevirtual 126, 3) := by decide +kernel
theorem dX11_turnByLetter_73 : decode cX11_turnByLetter 73 = .ok (.goto 42, 3) := by decide +kernel
theorem dX11_turnByLetter_76 : decode cX11_turnByLetter 76 = .ok (.aload_n 0, 1) := by decide +kernel
theorem dX11_turnByLetter_77 : decode cX11_turnByLetter 77 = .ok (.getfield 21, 3) := by decide +kernel
theorem dX11_turnByLetter_80 : decode cX11_turnByLetter 80 = .ok (.iload 5, 2) := by decide +kernel
theorem dX11_turnByLetter_82 : decode cX11_turnByLetter 82 = .ok (.iload_n 2, 1) := by decide +kernel
theorem dX11_turnByLetter_83 : decode cX11_turnByLetter 83 = .ok (.invokestatic 284, 3) := by decide +kernel
theorem dX11_turnByLetter_86 : decode cX11_turnByLetter 86 = .ok (.iadd, 1) := by decide +kernel
theorem dX11_turnByLetter_87 : decode cX11_turnByLetter 87 = .ok (.lload 6, 2) := by decide +kernel
theorem dX11_turnByLetter_89 : decode cX11_turnByLetter 89 = .ok (.invokevirtual 126, 3) := by decide +kernel
theorem dX11_turnByLetter_92 : decode cX11_turnByLetter 92 = .ok (.aload_n 0, 1) := by decide +kernel
theorem dX11_turnByLetter_93 : decode cX11_turnByLetter 93 = .ok (.getfield 21, 3) := by decide +kernel
theorem dX11_turnByLetter_96 : decode cX11_turnByLetter 96 = .ok (.iload 5, 2) := by decide +kernel
theorem dX11_turnByLetter_98 : decode cX11_turnByLetter 98 = .ok (.iload_n 1, 1) := by decide +kernel
theorem dX11_turnByLetter_99 : decode cX11_turnByLetter 99 = .ok (.invokestatic 281, 3) := by decide +kernel
theorem dX11_turnByLetter_102 : decode cX11_turnByLetter 102 = .ok (.iload_n 2, 1) := by decide +kernel
theorem dX11_turnByLetter_103 : decode cX11_turnByLetter 103 = .ok (.lload 6, 2) := by decide +kernel
theorem dX11_turnByLetter_105 : decode cX11_turnByLetter 105 = .ok (.iload 8, 2) := by decide +kernel
theorem dX11_turnByLetter_107 : decode cX11_turnByLetter 107 = .ok (.i2l, 1) := by decide +kernel
theorem dX11_turnByLetter_108 : decode cX11_turnByLetter 108 = .ok (.lmul, 1) := by decide +kernel
theorem dX11_turnByLetter_109 : decode cX11_turnByLetter 109 = .ok (.iload_n 3, 1) := by decide +kernel
theorem dX11_turnByLetter_110 : decode cX11_turnByLetter 110 = .ok (.i2l, 1) := by decide +kernel
theorem dX11_turnByLetter_111 : decode cX11_turnByLetter 111 = .ok (.lmul, 1) := by decide +kernel
theorem dX11_turnByLetter_112 : decode cX11_turnByLetter 112 = .ok (.invokevirtual 287, 3) := by decide +kernel
theorem dX11_turnByLetter_115 : decode cX11_turnByLetter 115 = .ok (.iinc 4 1, 3) := by decide +kernel
theorem dX11_turnByLetter_118 : decode cX11_turnByLetter 118 = .ok (.goto (-108), 3) := by decide +kernel
theorem dX11_turnByLetter_121 : decode cX11_turnByLetter 121 = .ok (.aload_n 0, 1) := by decide +kernel
theorem dX11_turnByLetter_122 : decode cX11_turnByLetter 122 = .ok (.getfield 21, 3) := by decide +kernel
theorem dX11_turnByLetter_125 : decode cX11_turnByLetter 125 = .ok (.aload_n 0, 1) := by decide +kernel
theorem dX11_turnByLetter_126 : decode cX11_turnByLetter 126 = .ok (.getfield 59, 3) := by decide +kernel
theorem dX11_turnByLetter_129 : decode cX11_turnByLetter 129 = .ok (.invokevirtual 130, 3) := by decide +kernel
theorem dX11_turnByLetter_132 : decode cX11_turnByLetter 132 = .ok (.ireturn, 1) := by decide +kernel
theorem dX11_productOf_0 : decode cX11_productOf 0 = .ok (.iload_n 0, 1) := by decide +kernel
theorem dX11_productOf_1 : decode cX11_productOf 1 = .ok (.bipush 20, 2) := by decide +kernel
theorem dX11_productOf_3 : decode cX11_productOf 3 = .ok (.iushr, 1) := by decide +kernel
theorem dX11_productOf_4 : decode cX11_productOf 4 = .ok (.ireturn, 1) := by decide +kernel
theorem dX11_oneSine_0 : decode cX11_oneSine 0 = .ok (.iconst 1, 1) := by decide +kernel
theorem dX11_oneSine_1 : decode cX11_oneSine 1 = .ok (.iconst 5, 1) := by decide +kernel
theorem dX11_oneSine_2 : decode cX11_oneSine 2 = .ok (.iconst 3, 1) := by decide +kernel
theorem dX11_oneSine_3 : decode cX11_oneSine 3 = .ok (.iload_n 0, 1) := by decide +kernel
theorem dX11_oneSine_4 : decode cX11_oneSine 4 = .ok (.isub, 1) := by decide +kernel
theorem dX11_oneSine_5 : decode cX11_oneSine 5 = .ok (.imul, 1) := by decide +kernel
theorem dX11_oneSine_6 : decode cX11_oneSine 6 = .ok (.ishl, 1) := by decide +kernel
theorem dX11_oneSine_7 : decode cX11_oneSine 7 = .ok (.ireturn, 1) := by decide +kernel
theorem dX11_oneCosine_0 : decode cX11_oneCosine 0 = .ok (.iload_n 0, 1) := by decide +kernel
theorem dX11_oneCosine_1 : decode cX11_oneCosine 1 = .ok (.invokestatic 291, 3) := by decide +kernel
theorem dX11_oneCosine_4 : decode cX11_oneCosine 4 = .ok (.iconst 1, 1) := by decide +kernel
theorem dX11_oneCosine_5 : decode cX11_oneCosine 5 = .ok (.ishl, 1) := by decide +kernel
theorem dX11_oneCosine_6 : decode cX11_oneCosine 6 = .ok (.ireturn, 1) := by decide +kernel
theorem dX11_cosinesOf_0 : decode cX11_cosinesOf 0 = .ok (.iload_n 0, 1) := by decide +kernel
theorem dX11_cosinesOf_1 : decode cX11_cosinesOf 1 = .ok (.iconst 5, 1) := by decide +kernel
theorem dX11_cosinesOf_2 : decode cX11_cosinesOf 2 = .ok (.iconst 3, 1) := by decide +kernel
theorem dX11_cosinesOf_3 : decode cX11_cosinesOf 3 = .ok (.iload_n 1, 1) := by decide +kernel
theorem dX11_cosinesOf_4 : decode cX11_cosinesOf 4 = .ok (.isub, 1) := by decide +kernel
theorem dX11_cosinesOf_5 : decode cX11_cosinesOf 5 = .ok (.imul, 1) := by decide +kernel
theorem dX11_cosinesOf_6 : decode cX11_cosinesOf 6 = .ok (.iconst 1, 1) := by decide +kernel
theorem dX11_cosinesOf_7 : decode cX11_cosinesOf 7 = .ok (.iadd, 1) := by decide +kernel
theorem dX11_cosinesOf_8 : decode cX11_cosinesOf 8 = .ok (.ishr, 1) := by decide +kernel
theorem dX11_cosinesOf_9 : decode cX11_cosinesOf 9 = .ok (.bipush 15, 2) := by decide +kernel
theorem dX11_cosinesOf_11 : decode cX11_cosinesOf 11 = .ok (.iand, 1) := by decide +kernel
theorem dX11_cosinesOf_12 : decode cX11_cosinesOf 12 = .ok (.ireturn, 1) := by decide +kernel
theorem dX11_sinesOf_0 : decode cX11_sinesOf 0 = .ok (.iload_n 0, 1) := by decide +kernel
theorem dX11_sinesOf_1 : decode cX11_sinesOf 1 = .ok (.iconst 5, 1) := by decide +kernel
theorem dX11_sinesOf_2 : decode cX11_sinesOf 2 = .ok (.iconst 3, 1) := by decide +kernel
theorem dX11_sinesOf_3 : decode cX11_sinesOf 3 = .ok (.iload_n 1, 1) := by decide +kernel
theorem dX11_sinesOf_4 : decode cX11_sinesOf 4 = .ok (.isub, 1) := by decide +kernel
theorem dX11_sinesOf_5 : decode cX11_sinesOf 5 = .ok (.imul, 1) := by decide +kernel
theorem dX11_sinesOf_6 : decode cX11_sinesOf 6 = .ok (.ishr, 1) := by decide +kernel
theorem dX11_sinesOf_7 : decode cX11_sinesOf 7 = .ok (.iconst 1, 1) := by decide +kernel
theorem dX11_sinesOf_8 : decode cX11_sinesOf 8 = .ok (.iand, 1) := by decide +kernel
theorem dX11_sinesOf_9 : decode cX11_sinesOf 9 = .ok (.ireturn, 1) := by decide +kernel
theorem dX11_powerOf_0 : decode cX11_powerOf 0 = .ok (.iload_n 1, 1) := by decide +kernel
theorem dX11_powerOf_1 : decode cX11_powerOf 1 = .ok (.iconst 1, 1) := by decide +kernel
theorem dX11_powerOf_2 : decode cX11_powerOf 2 = .ok (.iand, 1) := by decide +kernel
theorem dX11_powerOf_3 : decode cX11_powerOf 3 = .ok (.ifCond .ne 13, 3) := by decide +kernel
theorem dX11_powerOf_6 : decode cX11_powerOf 6 = .ok (.iload_n 0, 1) := by decide +kernel
theorem dX11_powerOf_7 : decode cX11_powerOf 7 = .ok (.iload_n 1, 1) := by decide +kernel
theorem dX11_powerOf_8 : decode cX11_powerOf 8 = .ok (.iconst 1, 1) := by decide +kernel
theorem dX11_powerOf_9 : decode cX11_powerOf 9 = .ok (.ishr, 1) := by decide +kernel
theorem dX11_powerOf_10 : decode cX11_powerOf 10 = .ok (.invokestatic 294, 3) := by decide +kernel
theorem dX11_powerOf_13 : decode cX11_powerOf 13 = .ok (.goto 10, 3) := by decide +kernel
theorem dX11_powerOf_16 : decode cX11_powerOf 16 = .ok (.iload_n 0, 1) := by decide +kernel
theorem dX11_powerOf_17 : decode cX11_powerOf 17 = .ok (.iload_n 1, 1) := by decide +kernel
theorem dX11_powerOf_18 : decode cX11_powerOf 18 = .ok (.iconst 1, 1) := by decide +kernel
theorem dX11_powerOf_19 : decode cX11_powerOf 19 = .ok (.ishr, 1) := by decide +kernel
theorem dX11_powerOf_20 : decode cX11_powerOf 20 = .ok (.invokestatic 297, 3) := by decide +kernel
theorem dX11_powerOf_23 : decode cX11_powerOf 23 = .ok (.ireturn, 1) := by decide +kernel
theorem dX12_init_0 : decode cX12_init 0 = .ok (.aload_n 0, 1) := by decide +kernel
theorem dX12_init_1 : decode cX12_init 1 = .ok (.invokespecial 1, 3) := by decide +kernel
theorem dX12_init_4 : decode cX12_init 4 = .ok (.aload_n 0, 1) := by decide +kernel
theorem dX12_init_5 : decode cX12_init 5 = .ok (.bipush 8, 2) := by decide +kernel
theorem dX12_init_7 : decode cX12_init 7 = .ok (.newarray .int, 2) := by decide +kernel
theorem dX12_init_9 : decode cX12_init 9 = .ok (.putfield 7, 3) := by decide +kernel
theorem dX12_init_12 : decode cX12_init 12 = .ok (.aload_n 0, 1) := by decide +kernel
theorem dX12_init_13 : decode cX12_init 13 = .ok (.bipush 8, 2) := by decide +kernel
theorem dX12_init_15 : decode cX12_init 15 = .ok (.newarray .int, 2) := by decide +kernel
theorem dX12_init_17 : decode cX12_init 17 = .ok (.putfield 13, 3) := by decide +kernel
theorem dX12_init_20 : decode cX12_init 20 = .ok (.aload_n 0, 1) := by decide +kernel
theorem dX12_init_21 : decode cX12_init 21 = .ok (.sipush 480, 3) := by decide +kernel
theorem dX12_init_24 : decode cX12_init 24 = .ok (.newarray .int, 2) := by decide +kernel
theorem dX12_init_26 : decode cX12_init 26 = .ok (.putfield 16, 3) := by decide +kernel
theorem dX12_init_29 : decode cX12_init 29 = .ok (.aload_n 0, 1) := by decide +kernel
theorem dX12_init_30 : decode cX12_init 30 = .ok (.bipush 60, 2) := by decide +kernel
theorem dX12_init_32 : decode cX12_init 32 = .ok (.newarray .int, 2) := by decide +kernel
theorem dX12_init_34 : decode cX12_init 34 = .ok (.putfield 19, 3) := by decide +kernel
theorem dX12_init_37 : decode cX12_init 37 = .ok (.aload_n 0, 1) := by decide +kernel
theorem dX12_init_38 : decode cX12_init 38 = .ok (.bipush 18, 2) := by decide +kernel
theorem dX12_init_40 : decode cX12_init 40 = .ok (.newarray .int, 2) := by decide +kernel
theorem dX12_init_42 : decode cX12_init 42 = .ok (.putfield 22, 3) := by decide +kernel
theorem dX12_init_45 : decode cX12_init 45 = .ok (.aload_n 0, 1) := by decide +kernel
theorem dX12_init_46 : decode cX12_init 46 = .ok (.sipush 5400, 3) := by decide +kernel
theorem dX12_init_49 : decode cX12_init 49 = .ok (.newarray .int, 2) := by decide +kernel
theorem dX12_init_51 : decode cX12_init 51 = .ok (.putfield 25, 3) := by decide +kernel
theorem dX12_init_54 : decode cX12_init 54 = .ok (.aload_n 0, 1) := by decide +kernel
theorem dX12_init_55 : decode cX12_init 55 = .ok (.sipush 5400, 3) := by decide +kernel
theorem dX12_init_58 : decode cX12_init 58 = .ok (.newarray .long, 2) := by decide +kernel
theorem dX12_init_60 : decode cX12_init 60 = .ok (.putfield 28, 3) := by decide +kernel
theorem dX12_init_63 : decode cX12_init 63 = .ok (.aload_n 0, 1) := by decide +kernel
theorem dX12_init_64 : decode cX12_init 64 = .ok (.sipush 1000, 3) := by decide +kernel
theorem dX12_init_67 : decode cX12_init 67 = .ok (.newarray .int, 2) := by decide +kernel
theorem dX12_init_69 : decode cX12_init 69 = .ok (.putfield 32, 3) := by decide +kernel
theorem dX12_init_72 : decode cX12_init 72 = .ok (.aload_n 0, 1) := by decide +kernel
theorem dX12_init_73 : decode cX12_init 73 = .ok (.sipush 1000, 3) := by decide +kernel
theorem dX12_init_76 : decode cX12_init 76 = .ok (.newarray .long, 2) := by decide +kernel
theorem dX12_init_78 : decode cX12_init 78 = .ok (.putfield 35, 3) := by decide +kernel
theorem dX12_init_81 : decode cX12_init 81 = .ok (.aload_n 0, 1) := by decide +kernel
theorem dX12_init_82 : decode cX12_init 82 = .ok (.bipush 40, 2) := by decide +kernel
theorem dX12_init_84 : decode cX12_init 84 = .ok (.newarray .int, 2) := by decide +kernel
theorem dX12_init_86 : decode cX12_init 86 = .ok (.putfield 38, 3) := by decide +kernel
theorem dX12_init_89 : decode cX12_init 89 = .ok (.aload_n 0, 1) := by decide +kernel
theorem dX12_init_90 : decode cX12_init 90 = .ok (.bipush 40, 2) := by decide +kernel
theorem dX12_init_92 : decode cX12_init 92 = .ok (.newarray .int, 2) := by decide +kernel
theorem dX12_init_94 : decode cX12_init 94 = .ok (.putfield 41, 3) := by decide +kernel
theorem dX12_init_97 : decode cX12_init 97 = .ok (.aload_n 0, 1) := by decide +kernel
theorem dX12_init_98 : decode cX12_init 98 = .ok (.bipush 40, 2) := by decide +kernel
theorem dX12_init_100 : decode cX12_init 100 = .ok (.newarray .int, 2) := by decide +kernel
theorem dX12_init_102 : decode cX12_init 102 = .ok (.putfield 44, 3) := by decide +kernel
theorem dX12_init_105 : decode cX12_init 105 = .ok (.aload_n 0, 1) := by decide +kernel
theorem dX12_init_106 : decode cX12_init 106 = .ok (.bipush 40, 2) := by decide +kernel
theorem dX12_init_108 : decode cX12_init 108 = .ok (.newarray .int, 2) := by decide +kernel
theorem dX12_init_110 : decode cX12_init 110 = .ok (.putfield 47, 3) := by decide +kernel
theorem dX12_init_113 : decode cX12_init 113 = .ok (.aload_n 0, 1) := by decide +kernel
theorem dX12_init_114 : decode cX12_init 114 = .ok (.bipush 40, 2) := by decide +kernel
theorem dX12_init_116 : decode cX12_init 116 = .ok (.newarray .int, 2) := by decide +kernel
theorem dX12_init_118 : decode cX12_init 118 = .ok (.putfield 50, 3) := by decide +kernel
theorem dX12_init_121 : decode cX12_init 121 = .ok (.aload_n 0, 1) := by decide +kernel
theorem dX12_init_122 : decode cX12_init 122 = .ok (.bipush 16, 2) := by decide +kernel
theorem dX12_init_124 : decode cX12_init 124 = .ok (.newarray .int, 2) := by decide +kernel
theorem dX12_init_126 : decode cX12_init 126 = .ok (.putfield 53, 3) := by decide +kernel
theorem dX12_init_129 : decode cX12_init 129 = .ok (.aload_n 0, 1) := by decide +kernel
theorem dX12_init_130 : decode cX12_init 130 = .ok (.ldc 56, 2) := by decide +kernel
theorem dX12_init_132 : decode cX12_init 132 = .ok (.putfield 57, 3) := by decide +kernel
theorem dX12_init_135 : decode cX12_init 135 = .ok (.aload_n 0, 1) := by decide +kernel
theorem dX12_init_136 : decode cX12_init 136 = .ok (.iconst 3, 1) := by decide +kernel
theorem dX12_init_137 : decode cX12_init 137 = .ok (.newarray .int, 2) := by decide +kernel
theorem dX12_init_139 : decode cX12_init 139 = .ok (.putfield 61, 3) := by decide +kernel
theorem dX12_init_142 : decode cX12_init 142 = .ok (.aload_n 0, 1) := by decide +kernel
theorem dX12_init_143 : decode cX12_init 143 = .ok (.iconst 3, 1) := by decide +kernel
theorem dX12_init_144 : decode cX12_init 144 = .ok (.newarray .int, 2) := by decide +kernel
theorem dX12_init_146 : decode cX12_init 146 = .ok (.putfield 64, 3) := by decide +kernel
theorem dX12_init_149 : decode cX12_init 149 = .ok (.aload_n 0, 1) := by decide +kernel
theorem dX12_init_150 : decode cX12_init 150 = .ok (.iload_n 1, 1) := by decide +kernel
theorem dX12_init_151 : decode cX12_init 151 = .ok (.iconst 1, 1) := by decide +kernel
theorem dX12_init_152 : decode cX12_init 152 = .ok (.if_icmp .ge 7, 3) := by decide +kernel
theorem dX12_init_155 : decode cX12_init 155 = .ok (.iconst 1, 1) := by decide +kernel
theorem dX12_init_156 : decode cX12_init 156 = .ok (.goto 13, 3) := by decide +kernel
theorem dX12_init_159 : decode cX12_init 159 = .ok (.iload_n 1, 1) := by decide +kernel
theorem dX12_init_160 : decode cX12_init 160 = .ok (.iconst 4, 1) := by decide +kernel
theorem dX12_init_161 : decode cX12_init 161 = .ok (.if_icmp .le 7, 3) := by decide +kernel
theorem dX12_init_164 : decode cX12_init 164 = .ok (.iconst 4, 1) := by decide +kernel
theorem dX12_init_165 : decode cX12_init 165 = .ok (.goto 4, 3) := by decide +kernel
theorem dX12_init_168 : decode cX12_init 168 = .ok (.iload_n 1, 1) := by decide +kernel
theorem dX12_init_169 : decode cX12_init 169 = .ok (.putfield 67, 3) := by decide +kernel
theorem dX12_init_172 : decode cX12_init 172 = .ok (.aload_n 0, 1) := by decide +kernel
theorem dX12_init_173 : decode cX12_init 173 = .ok (.iconst 1, 1) := by decide +kernel
theorem dX12_init_174 : decode cX12_init 174 = .ok (.iconst 2, 1) := by decide +kernel
theorem dX12_init_175 : decode cX12_init 175 = .ok (.aload_n 0, 1) := by decide +kernel
theorem dX12_init_176 : decode cX12_init 176 = .ok (.getfield 67, 3) := by decide +kernel
theorem dX12_init_179 : decode cX12_init 179 = .ok (.imul, 1) := by decide +kernel
theorem dX12_init_180 : decode cX12_init 180 = .ok (.ishl, 1) := by decide +kernel
theorem dX12_init_181 : decode cX12_init 181 = .ok (.putfield 70, 3) := by decide +kernel
theorem dX12_init_184 : decode cX12_init 184 = .ok (.return_, 1) := by decide +kernel
theorem dX12_in_0 : decode cX12_in 0 = .ok (.lload_n 0, 1) := by decide +kernel
theorem dX12_in_1 : decode cX12_in 1 = .ok (.lload_n 2, 1) := by decide +kernel
theorem dX12_in_2 : decode cX12_in 2 = .ok (.lcmp, 1) := by decide +kernel
theorem dX12_in_3 : decode cX12_in 3 = .ok (.ifCond .lt 14, 3) := by decide +kernel
theorem dX12_in_6 : decode cX12_in 6 = .ok (.lload_n 0, 1) := by decide +kernel
theorem dX12_in_7 : decode cX12_in 7 = .ok (.lload 4, 2) := by decide +kernel
theorem dX12_in_9 : decode cX12_in 9 = .ok (.lcmp, 1) := by decide +kernel
theorem dX12_in_10 : decode cX12_in 10 = .ok (.ifCond .gt 7, 3) := by decide +kernel
theorem dX12_in_13 : decode cX12_in 13 = .ok (.iconst 1, 1) := by decide +kernel
theorem dX12_in_14 : decode cX12_in 14 = .ok (.goto 4, 3) := by decide +kernel
theorem dX12_in_17 : decode cX12_in 17 = .ok (.iconst 0, 1) := by decide +kernel
theorem dX12_in_18 : decode cX12_in 18 = .ok (.ireturn, 1) := by decide +kernel
theorem dX12_finds_0 : decode cX12_finds 0 = .ok (.aload_n 0, 1) := by decide +kernel
theorem dX12_finds_1 : decode cX12_finds 1 = .ok (.iload_n 1, 1) := by decide +kernel
theorem dX12_finds_2 : decode cX12_finds 2 = .ok (.putfield 73, 3) := by decide +kernel
theorem dX12_finds_5 : decode cX12_finds 5 = .ok (.ldc 76, 2) := by decide +kernel
theorem dX12_finds_7 : decode cX12_finds 7 = .ok (.iload_n 1, 1) := by decide +kernel
theorem dX12_finds_8 : decode cX12_finds 8 = .ok (.isub, 1) := by decide +kernel
theorem dX12_finds_9 : decode cX12_finds 9 = .ok (.ireturn, 1) := by decide +kernel
theorem dX12_well_0 : decode cX12_well 0 = .ok (.aload_n 0, 1) := by decide +kernel
theorem dX12_well_1 : decode cX12_well 1 = .ok (.iconst 0, 1) := by decide +kernel
theorem dX12_well_2 : decode cX12_well 2 = .ok (.putfield 73, 3) := by decide +kernel
theorem dX12_well_5 : decode cX12_well 5 = .ok (.iload_n 1, 1) := by decide +kernel
theorem dX12_well_6 : decode cX12_well 6 = .ok (.ireturn, 1) := by decide +kernel
theorem dX12_isTable_0 : decode cX12_isTable 0 = .ok (.iload_n 0, 1) := by decide +kernel
theorem dX12_isTable_1 : decode cX12_isTable 1 = .ok (.i2l, 1) := by decide +kernel
theorem dX12_isTable_2 : decode cX12_isTable 2 = .ok (.lconst 0, 1) := by decide +kernel
theorem dX12_isTable_3 : decode cX12_isTable 3 = .ok (.ldc2_w 77, 3) := by decide +kernel
theorem dX12_isTable_6 : decode cX12_isTable 6 = .ok (.invokestatic 79, 3) := by decide +kernel
theorem dX12_isTable_9 : decode cX12_isTable 9 = .ok (.ireturn, 1) := by decide +kernel
theorem dX12_table_0 : decode cX12_table 0 = .ok (.iload_n 1, 1) := by decide +kernel
theorem dX12_table_1 : decode cX12_table 1 = .ok (.invokestatic 83, 3) := by decide +kernel
theorem dX12_table_4 : decode cX12_table 4 = .ok (.ifCond .eq 21, 3) := by decide +kernel
theorem dX12_table_7 : decode cX12_table 7 = .ok (.iload_n 2, 1) := by decide +kernel
theorem dX12_table_8 : decode cX12_table 8 = .ok (.i2l, 1) := by decide +kernel
theorem dX12_table_9 : decode cX12_table 9 = .ok (.lconst 0, 1) := by decide +kernel
theorem dX12_table_10 : decode cX12_table 10 = .ok (.ldc2_w 87, 3) := by decide +kernel
theorem dX12_table_13 : decode cX12_table 13 = .ok (.invokestatic 79, 3) := by decide +kernel
theorem dX12_table_16 : decode cX12_table 16 = .ok (.ifCond .eq 9, 3) := by decide +kernel
theorem dX12_table_19 : decode cX12_table 19 = .ok (.iload_n 3, 1) := by decide +kernel
theorem dX12_table_20 : decode cX12_table 20 = .ok (.bipush 60, 2) := by decide +kernel
theorem dX12_table_22 : decode cX12_table 22 = .ok (.if_icmp .le 6, 3) := by decide +kernel
theorem dX12_table_25 : decode cX12_table 25 = .ok (.ldc 89, 2) := by decide +kernel
theorem dX12_table_27 : decode cX12_table 27 = .ok (.ireturn, 1) := by decide +kernel
theorem dX12_table_28 : decode cX12_table 28 = .ok (.iload_n 3, 1) := by decide +kernel
theorem dX12_table_29 : decode cX12_table 29 = .ok (.ifCond .ge 9, 3) := by decide +kernel
theorem dX12_table_32 : decode cX12_table 32 = .ok (.aload_n 0, 1) := by decide +kernel
theorem dX12_table_33 : decode cX12_table 33 = .ok (.iconst 4, 1) := by decide +kernel
theorem dX12_table_34 : decode cX12_table 34 = .ok (.invokevirtual 90, 3) := by decide +kernel
theorem dX12_table_37 : decode cX12_table 37 = .ok (.ireturn, 1) := by decide +kernel
theorem dX12_table_38 : decode cX12_table 38 = .ok (.aload_n 0, 1) := by decide +kernel
theorem dX12_table_39 : decode cX12_table 39 = .ok (.getfield 7, 3) := by decide +kernel
theorem dX12_table_42 : decode cX12_table 42 = .ok (.iload_n 1, 1) := by decide +kernel
theorem dX12_table_43 : decode cX12_table 43 = .ok (.iload_n 2, 1) := by decide +kernel
theorem dX12_table_44 : decode cX12_table 44 = .ok (.iconst 1, 1) := by decide +kernel
theorem dX12_table_45 : decode cX12_table 45 = .ok (.iadd, 1) := by decide +kernel
theorem dX12_table_46 : decode cX12_table 46 = .ok (.iastore, 1) := by decide +kernel
theorem dX12_table_47 : decode cX12_table 47 = .ok (.aload_n 0, 1) := by decide +kernel
theorem dX12_table_48 : decode cX12_table 48 = .ok (.getfield 13, 3) := by decide +kernel
theorem dX12_table_51 : decode cX12_table 51 = .ok (.iload_n 1, 1) := by decide +kernel
theorem dX12_table_52 : decode cX12_table 52 = .ok (.iload_n 3, 1) := by decide +kernel
theorem dX12_table_53 : decode cX12_table 53 = .ok (.iastore, 1) := by decide +kernel
theorem dX12_table_54 : decode cX12_table 54 = .ok (.iconst 0, 1) := by decide +kernel
theorem dX12_table_55 : decode cX12_table 55 = .ok (.istore 4, 2) := by decide +kernel
theorem dX12_table_57 : decode cX12_table 57 = .ok (.iload 4, 2) := by decide +kernel
theorem dX12_table_59 : decode cX12_table 59 = .ok (.iload_n 3, 1) := by decide +kernel
theorem dX12_table_60 : decode cX12_table 60 = .ok (.if_icmp .ge 22, 3) := by decide +kernel
theorem dX12_table_63 : decode cX12_table 63 = .ok (.aload_n 0, 1) := by decide +kernel
theorem dX12_table_64 : decode cX12_table 64 = .ok (.getfield 16, 3) := by decide +kernel
theorem dX12_table_67 : decode cX12_table 67 = .ok (.bipush 60, 2) := by decide +kernel
theorem dX12_table_69 : decode cX12_table 69 = .ok (.iload_n 1, 1) := by decide +kernel
theorem dX12_table_70 : decode cX12_table 70 = .ok (.imul, 1) := by decide +kernel
theorem dX12_table_71 : decode cX12_table 71 = .ok (.iload 4, 2) := by decide +kernel
theorem dX12_table_73 : decode cX12_table 73 = .ok (.iadd, 1) := by decide +kernel
theorem dX12_table_74 : decode cX12_table 74 = .ok (.iconst 0, 1) := by decide +kernel
theorem dX12_table_75 : decode cX12_table 75 = .ok (.iastore, 1) := by decide +kernel
theorem dX12_table_76 : decode cX12_table 76 = .ok (.iinc 4 1, 3) := by decide +kernel
theorem dX12_table_79 : decode cX12_table 79 = .ok (.goto (-22), 3) := by decide +kernel
theorem dX12_table_82 : decode cX12_table 82 = .ok (.aload_n 0, 1) := by decide +kernel
theorem dX12_table_83 : decode cX12_table 83 = .ok (.iload_n 3, 1) := by decide +kernel
theorem dX12_table_84 : decode cX12_table 84 = .ok (.invokevirtual 94, 3) := by decide +kernel
theorem dX12_table_87 : decode cX12_table 87 = .ok (.ireturn, 1) := by decide +kernel
theorem dX12_set_0 : decode cX12_set 0 = .ok (.iload_n 1, 1) := by decide +kernel
theorem dX12_set_1 : decode cX12_set 1 = .ok (.invokestatic 83, 3) := by decide +kernel
theorem dX12_set_4 : decode cX12_set 4 = .ok (.ifCond .ne 6, 3) := by decide +kernel
theorem dX12_set_7 : decode cX12_set 7 = .ok (.ldc 89, 2) := by decide +kernel
theorem dX12_set_9 : decode cX12_set 9 = .ok (.ireturn, 1) := by decide +kernel
theorem dX12_set_10 : decode cX12_set 10 = .ok (.aload_n 0, 1) := by decide +kernel
theorem dX12_set_11 : decode cX12_set 11 = .ok (.getfield 7, 3) := by decide +kernel
theorem dX12_set_14 : decode cX12_set 14 = .ok (.iload_n 1, 1) := by decide +kernel
theorem dX12_set_15 : decode cX12_set 15 = .ok (.iaload, 1) := by decide +kernel
theorem dX12_set_16 : decode cX12_set 16 = .ok (.ifCond .ne 9, 3) := by decide +kernel
theorem dX12_set_19 : decode cX12_set 19 = .ok (.aload_n 0, 1) := by decide +kernel
theorem dX12_set_20 : decode cX12_set 20 = .ok (.iconst 1, 1) := by decide +kernel
theorem dX12_set_21 : decode cX12_set 21 = .ok (.invokevirtual 90, 3) := by decide +kernel
theorem dX12_set_24 : decode cX12_set 24 = .ok (.ireturn, 1) := by decide +kernel
theorem dX12_set_25 : decode cX12_set 25 = .ok (.iload_n 2, 1) := by decide +kernel
theorem dX12_set_26 : decode cX12_set 26 = .ok (.i2l, 1) := by decide +kernel
theorem dX12_set_27 : decode cX12_set 27 = .ok (.lconst 0, 1) := by decide +kernel
theorem dX12_set_28 : decode cX12_set 28 = .ok (.aload_n 0, 1) := by decide +kernel
theorem dX12_set_29 : decode cX12_set 29 = .ok (.getfield 13, 3) := by decide +kernel
theorem dX12_set_32 : decode cX12_set 32 = .ok (.iload_n 1, 1) := by decide +kernel
theorem dX12_set_33 : decode cX12_set 33 = .ok (.iaload, 1) := by decide +kernel
theorem dX12_set_34 : decode cX12_set 34 = .ok (.iconst 1, 1) := by decide +kernel
theorem dX12_set_35 : decode cX12_set 35 = .ok (.isub, 1) := by decide +kernel
theorem dX12_set_36 : decode cX12_set 36 = .ok (.i2l, 1) := by decide +kernel
theorem dX12_set_37 : decode cX12_set 37 = .ok (.invokestatic 79, 3) := by decide +kernel
theorem dX12_set_40 : decode cX12_set 40 = .ok (.ifCond .ne 9, 3) := by decide +kernel
theorem dX12_set_43 : decode cX12_set 43 = .ok (.aload_n 0, 1) := by decide +kernel
theorem dX12_set_44 : decode cX12_set 44 = .ok (.iconst 2, 1) := by decide +kernel
theorem dX12_set_45 : decode cX12_set 45 = .ok (.invokevirtual 90, 3) := by decide +kernel
end
section
theorem dX12_set_48 : decode cX12_set 48 = .ok (.ireturn, 1) := by decide +kernel
theorem dX12_set_49 : decode cX12_set 49 = .ok (.aload_n 0, 1) := by decide +kernel
theorem dX12_set_50 : decode cX12_set 50 = .ok (.getfield 7, 3) := by decide +kernel
theorem dX12_set_53 : decode cX12_set 53 = .ok (.iload_n 1, 1) := by decide +kernel
theorem dX12_set_54 : decode cX12_set 54 = .ok (.iaload, 1) := by decide +kernel
theorem dX12_set_55 : decode cX12_set 55 = .ok (.iconst 1, 1) := by decide +kernel
theorem dX12_set_56 : decode cX12_set 56 = .ok (.if_icmp .ne 8, 3) := by decide +kernel
theorem dX12_set_59 : decode cX12_set 59 = .ok (.iload_n 3, 1) := by decide +kernel
theorem dX12_set_60 : decode cX12_set 60 = .ok (.i2b, 1) := by decide +kernel
theorem dX12_set_61 : decode cX12_set 61 = .ok (.goto 19, 3) := by decide +kernel
theorem dX12_set_64 : decode cX12_set 64 = .ok (.aload_n 0, 1) := by decide +kernel
theorem dX12_set_65 : decode cX12_set 65 = .ok (.getfield 7, 3) := by decide +kernel
theorem dX12_set_68 : decode cX12_set 68 = .ok (.iload_n 1, 1) := by decide +kernel
theorem dX12_set_69 : decode cX12_set 69 = .ok (.iaload, 1) := by decide +kernel
theorem dX12_set_70 : decode cX12_set 70 = .ok (.iconst 2, 1) := by decide +kernel
theorem dX12_set_71 : decode cX12_set 71 = .ok (.if_icmp .ne 8, 3) := by decide +kernel
theorem dX12_set_74 : decode cX12_set 74 = .ok (.iload_n 3, 1) := by decide +kernel
theorem dX12_set_75 : decode cX12_set 75 = .ok (.i2s, 1) := by decide +kernel
theorem dX12_set_76 : decode cX12_set 76 = .ok (.goto 4, 3) := by decide +kernel
theorem dX12_set_79 : decode cX12_set 79 = .ok (.iload_n 3, 1) := by decide +kernel
theorem dX12_set_80 : decode cX12_set 80 = .ok (.istore 4, 2) := by decide +kernel
theorem dX12_set_82 : decode cX12_set 82 = .ok (.aload_n 0, 1) := by decide +kernel
theorem dX12_set_83 : decode cX12_set 83 = .ok (.getfield 16, 3) := by decide +kernel
theorem dX12_set_86 : decode cX12_set 86 = .ok (.bipush 60, 2) := by decide +kernel
theorem dX12_set_88 : decode cX12_set 88 = .ok (.iload_n 1, 1) := by decide +kernel
theorem dX12_set_89 : decode cX12_set 89 = .ok (.imul, 1) := by decide +kernel
theorem dX12_set_90 : decode cX12_set 90 = .ok (.iload_n 2, 1) := by decide +kernel
theorem dX12_set_91 : decode cX12_set 91 = .ok (.iadd, 1) := by decide +kernel
theorem dX12_set_92 : decode cX12_set 92 = .ok (.iload 4, 2) := by decide +kernel
theorem dX12_set_94 : decode cX12_set 94 = .ok (.iastore, 1) := by decide +kernel
theorem dX12_set_95 : decode cX12_set 95 = .ok (.aload_n 0, 1) := by decide +kernel
theorem dX12_set_96 : decode cX12_set 96 = .ok (.iload 4, 2) := by decide +kernel
theorem dX12_set_98 : decode cX12_set 98 = .ok (.invokevirtual 94, 3) := by decide +kernel
theorem dX12_set_101 : decode cX12_set 101 = .ok (.ireturn, 1) := by decide +kernel
theorem dX12_copy_0 : decode cX12_copy 0 = .ok (.iload_n 1, 1) := by decide +kernel
theorem dX12_copy_1 : decode cX12_copy 1 = .ok (.invokestatic 83, 3) := by decide +kernel
theorem dX12_copy_4 : decode cX12_copy 4 = .ok (.ifCond .eq 10, 3) := by decide +kernel
theorem dX12_copy_7 : decode cX12_copy 7 = .ok (.iload_n 3, 1) := by decide +kernel
theorem dX12_copy_8 : decode cX12_copy 8 = .ok (.invokestatic 83, 3) := by decide +kernel
theorem dX12_copy_11 : decode cX12_copy 11 = .ok (.ifCond .ne 6, 3) := by decide +kernel
theorem dX12_copy_14 : decode cX12_copy 14 = .ok (.ldc 89, 2) := by decide +kernel
theorem dX12_copy_16 : decode cX12_copy 16 = .ok (.ireturn, 1) := by decide +kernel
theorem dX12_copy_17 : decode cX12_copy 17 = .ok (.aload_n 0, 1) := by decide +kernel
theorem dX12_copy_18 : decode cX12_copy 18 = .ok (.getfield 7, 3) := by decide +kernel
theorem dX12_copy_21 : decode cX12_copy 21 = .ok (.iload_n 1, 1) := by decide +kernel
theorem dX12_copy_22 : decode cX12_copy 22 = .ok (.iaload, 1) := by decide +kernel
theorem dX12_copy_23 : decode cX12_copy 23 = .ok (.ifCond .eq 12, 3) := by decide +kernel
theorem dX12_copy_26 : decode cX12_copy 26 = .ok (.aload_n 0, 1) := by decide +kernel
theorem dX12_copy_27 : decode cX12_copy 27 = .ok (.getfield 7, 3) := by decide +kernel
theorem dX12_copy_30 : decode cX12_copy 30 = .ok (.iload_n 3, 1) := by decide +kernel
theorem dX12_copy_31 : decode cX12_copy 31 = .ok (.iaload, 1) := by decide +kernel
theorem dX12_copy_32 : decode cX12_copy 32 = .ok (.ifCond .ne 9, 3) := by decide +kernel
theorem dX12_copy_35 : decode cX12_copy 35 = .ok (.aload_n 0, 1) := by decide +kernel
theorem dX12_copy_36 : decode cX12_copy 36 = .ok (.iconst 1, 1) := by decide +kernel
theorem dX12_copy_37 : decode cX12_copy 37 = .ok (.invokevirtual 90, 3) := by decide +kernel
theorem dX12_copy_40 : decode cX12_copy 40 = .ok (.ireturn, 1) := by decide +kernel
theorem dX12_copy_41 : decode cX12_copy 41 = .ok (.aload_n 0, 1) := by decide +kernel
theorem dX12_copy_42 : decode cX12_copy 42 = .ok (.getfield 7, 3) := by decide +kernel
theorem dX12_copy_45 : decode cX12_copy 45 = .ok (.iload_n 1, 1) := by decide +kernel
theorem dX12_copy_46 : decode cX12_copy 46 = .ok (.iaload, 1) := by decide +kernel
theorem dX12_copy_47 : decode cX12_copy 47 = .ok (.aload_n 0, 1) := by decide +kernel
theorem dX12_copy_48 : decode cX12_copy 48 = .ok (.getfield 7, 3) := by decide +kernel
theorem dX12_copy_51 : decode cX12_copy 51 = .ok (.iload_n 3, 1) := by decide +kernel
theorem dX12_copy_52 : decode cX12_copy 52 = .ok (.iaload, 1) := by decide +kernel
theorem dX12_copy_53 : decode cX12_copy 53 = .ok (.if_icmp .eq 9, 3) := by decide +kernel
theorem dX12_copy_56 : decode cX12_copy 56 = .ok (.aload_n 0, 1) := by decide +kernel
theorem dX12_copy_57 : decode cX12_copy 57 = .ok (.iconst 5, 1) := by decide +kernel
theorem dX12_copy_58 : decode cX12_copy 58 = .ok (.invokevirtual 90, 3) := by decide +kernel
theorem dX12_copy_61 : decode cX12_copy 61 = .ok (.ireturn, 1) := by decide +kernel
theorem dX12_copy_62 : decode cX12_copy 62 = .ok (.iload_n 2, 1) := by decide +kernel
theorem dX12_copy_63 : decode cX12_copy 63 = .ok (.ifCond .lt 48, 3) := by decide +kernel
theorem dX12_copy_66 : decode cX12_copy 66 = .ok (.iload 4, 2) := by decide +kernel
theorem dX12_copy_68 : decode cX12_copy 68 = .ok (.ifCond .lt 43, 3) := by decide +kernel
theorem dX12_copy_71 : decode cX12_copy 71 = .ok (.iload 5, 2) := by decide +kernel
theorem dX12_copy_73 : decode cX12_copy 73 = .ok (.ifCond .lt 38, 3) := by decide +kernel
theorem dX12_copy_76 : decode cX12_copy 76 = .ok (.iload_n 2, 1) := by decide +kernel
theorem dX12_copy_77 : decode cX12_copy 77 = .ok (.i2l, 1) := by decide +kernel
theorem dX12_copy_78 : decode cX12_copy 78 = .ok (.iload 5, 2) := by decide +kernel
theorem dX12_copy_80 : decode cX12_copy 80 = .ok (.i2l, 1) := by decide +kernel
theorem dX12_copy_81 : decode cX12_copy 81 = .ok (.ladd, 1) := by decide +kernel
theorem dX12_copy_82 : decode cX12_copy 82 = .ok (.aload_n 0, 1) := by decide +kernel
theorem dX12_copy_83 : decode cX12_copy 83 = .ok (.getfield 13, 3) := by decide +kernel
theorem dX12_copy_86 : decode cX12_copy 86 = .ok (.iload_n 1, 1) := by decide +kernel
theorem dX12_copy_87 : decode cX12_copy 87 = .ok (.iaload, 1) := by decide +kernel
theorem dX12_copy_88 : decode cX12_copy 88 = .ok (.i2l, 1) := by decide +kernel
theorem dX12_copy_89 : decode cX12_copy 89 = .ok (.lcmp, 1) := by decide +kernel
theorem dX12_copy_90 : decode cX12_copy 90 = .ok (.ifCond .gt 21, 3) := by decide +kernel
theorem dX12_copy_93 : decode cX12_copy 93 = .ok (.iload 4, 2) := by decide +kernel
theorem dX12_copy_95 : decode cX12_copy 95 = .ok (.i2l, 1) := by decide +kernel
theorem dX12_copy_96 : decode cX12_copy 96 = .ok (.iload 5, 2) := by decide +kernel
theorem dX12_copy_98 : decode cX12_copy 98 = .ok (.i2l, 1) := by decide +kernel
theorem dX12_copy_99 : decode cX12_copy 99 = .ok (.ladd, 1) := by decide +kernel
theorem dX12_copy_100 : decode cX12_copy 100 = .ok (.aload_n 0, 1) := by decide +kernel
theorem dX12_copy_101 : decode cX12_copy 101 = .ok (.getfield 13, 3) := by decide +kernel
theorem dX12_copy_104 : decode cX12_copy 104 = .ok (.iload_n 3, 1) := by decide +kernel
theorem dX12_copy_105 : decode cX12_copy 105 = .ok (.iaload, 1) := by decide +kernel
theorem dX12_copy_106 : decode cX12_copy 106 = .ok (.i2l, 1) := by decide +kernel
theorem dX12_copy_107 : decode cX12_copy 107 = .ok (.lcmp, 1) := by decide +kernel
theorem dX12_copy_108 : decode cX12_copy 108 = .ok (.ifCond .le 9, 3) := by decide +kernel
theorem dX12_copy_111 : decode cX12_copy 111 = .ok (.aload_n 0, 1) := by decide +kernel
theorem dX12_copy_112 : decode cX12_copy 112 = .ok (.iconst 2, 1) := by decide +kernel
theorem dX12_copy_113 : decode cX12_copy 113 = .ok (.invokevirtual 90, 3) := by decide +kernel
theorem dX12_copy_116 : decode cX12_copy 116 = .ok (.ireturn, 1) := by decide +kernel
theorem dX12_copy_117 : decode cX12_copy 117 = .ok (.iconst 0, 1) := by decide +kernel
theorem dX12_copy_118 : decode cX12_copy 118 = .ok (.istore 6, 2) := by decide +kernel
theorem dX12_copy_120 : decode cX12_copy 120 = .ok (.iload 6, 2) := by decide +kernel
theorem dX12_copy_122 : decode cX12_copy 122 = .ok (.iload 5, 2) := by decide +kernel
theorem dX12_copy_124 : decode cX12_copy 124 = .ok (.if_icmp .ge 30, 3) := by decide +kernel
theorem dX12_copy_127 : decode cX12_copy 127 = .ok (.aload_n 0, 1) := by decide +kernel
theorem dX12_copy_128 : decode cX12_copy 128 = .ok (.getfield 19, 3) := by decide +kernel
theorem dX12_copy_131 : decode cX12_copy 131 = .ok (.iload 6, 2) := by decide +kernel
theorem dX12_copy_133 : decode cX12_copy 133 = .ok (.aload_n 0, 1) := by decide +kernel
theorem dX12_copy_134 : decode cX12_copy 134 = .ok (.getfield 16, 3) := by decide +kernel
theorem dX12_copy_137 : decode cX12_copy 137 = .ok (.bipush 60, 2) := by decide +kernel
theorem dX12_copy_139 : decode cX12_copy 139 = .ok (.iload_n 1, 1) := by decide +kernel
theorem dX12_copy_140 : decode cX12_copy 140 = .ok (.imul, 1) := by decide +kernel
theorem dX12_copy_141 : decode cX12_copy 141 = .ok (.iload_n 2, 1) := by decide +kernel
theorem dX12_copy_142 : decode cX12_copy 142 = .ok (.iadd, 1) := by decide +kernel
theorem dX12_copy_143 : decode cX12_copy 143 = .ok (.iload 6, 2) := by decide +kernel
theorem dX12_copy_145 : decode cX12_copy 145 = .ok (.iadd, 1) := by decide +kernel
theorem dX12_copy_146 : decode cX12_copy 146 = .ok (.iaload, 1) := by decide +kernel
theorem dX12_copy_147 : decode cX12_copy 147 = .ok (.iastore, 1) := by decide +kernel
theorem dX12_copy_148 : decode cX12_copy 148 = .ok (.iinc 6 1, 3) := by decide +kernel
theorem dX12_copy_151 : decode cX12_copy 151 = .ok (.goto (-31), 3) := by decide +kernel
theorem dX12_copy_154 : decode cX12_copy 154 = .ok (.iconst 0, 1) := by decide +kernel
theorem dX12_copy_155 : decode cX12_copy 155 = .ok (.istore 6, 2) := by decide +kernel
theorem dX12_copy_157 : decode cX12_copy 157 = .ok (.iload 6, 2) := by decide +kernel
theorem dX12_copy_159 : decode cX12_copy 159 = .ok (.iload 5, 2) := by decide +kernel
theorem dX12_copy_161 : decode cX12_copy 161 = .ok (.if_icmp .ge 31, 3) := by decide +kernel
theorem dX12_copy_164 : decode cX12_copy 164 = .ok (.aload_n 0, 1) := by decide +kernel
theorem dX12_copy_165 : decode cX12_copy 165 = .ok (.getfield 16, 3) := by decide +kernel
theorem dX12_copy_168 : decode cX12_copy 168 = .ok (.bipush 60, 2) := by decide +kernel
theorem dX12_copy_170 : decode cX12_copy 170 = .ok (.iload_n 3, 1) := by decide +kernel
theorem dX12_copy_171 : decode cX12_copy 171 = .ok (.imul, 1) := by decide +kernel
theorem dX12_copy_172 : decode cX12_copy 172 = .ok (.iload 4, 2) := by decide +kernel
theorem dX12_copy_174 : decode cX12_copy 174 = .ok (.iadd, 1) := by decide +kernel
theorem dX12_copy_175 : decode cX12_copy 175 = .ok (.iload 6, 2) := by decide +kernel
theorem dX12_copy_177 : decode cX12_copy 177 = .ok (.iadd, 1) := by decide +kernel
theorem dX12_copy_178 : decode cX12_copy 178 = .ok (.aload_n 0, 1) := by decide +kernel
theorem dX12_copy_179 : decode cX12_copy 179 = .ok (.getfield 19, 3) := by decide +kernel
theorem dX12_copy_182 : decode cX12_copy 182 = .ok (.iload 6, 2) := by decide +kernel
theorem dX12_copy_184 : decode cX12_copy 184 = .ok (.iaload, 1) := by decide +kernel
theorem dX12_copy_185 : decode cX12_copy 185 = .ok (.iastore, 1) := by decide +kernel
theorem dX12_copy_186 : decode cX12_copy 186 = .ok (.iinc 6 1, 3) := by decide +kernel
theorem dX12_copy_189 : decode cX12_copy 189 = .ok (.goto (-32), 3) := by decide +kernel
theorem dX12_copy_192 : decode cX12_copy 192 = .ok (.aload_n 0, 1) := by decide +kernel
theorem dX12_copy_193 : decode cX12_copy 193 = .ok (.iload 5, 2) := by decide +kernel
theorem dX12_copy_195 : decode cX12_copy 195 = .ok (.invokevirtual 94, 3) := by decide +kernel
theorem dX12_copy_198 : decode cX12_copy 198 = .ok (.ireturn, 1) := by decide +kernel
theorem dX12_drop_0 : decode cX12_drop 0 = .ok (.iload_n 1, 1) := by decide +kernel
theorem dX12_drop_1 : decode cX12_drop 1 = .ok (.invokestatic 83, 3) := by decide +kernel
theorem dX12_drop_4 : decode cX12_drop 4 = .ok (.ifCond .ne 6, 3) := by decide +kernel
theorem dX12_drop_7 : decode cX12_drop 7 = .ok (.ldc 89, 2) := by decide +kernel
theorem dX12_drop_9 : decode cX12_drop 9 = .ok (.ireturn, 1) := by decide +kernel
theorem dX12_drop_10 : decode cX12_drop 10 = .ok (.aload_n 0, 1) := by decide +kernel
theorem dX12_drop_11 : decode cX12_drop 11 = .ok (.getfield 7, 3) := by decide +kernel
theorem dX12_drop_14 : decode cX12_drop 14 = .ok (.iload_n 1, 1) := by decide +kernel
theorem dX12_drop_15 : decode cX12_drop 15 = .ok (.iaload, 1) := by decide +kernel
theorem dX12_drop_16 : decode cX12_drop 16 = .ok (.ifCond .ne 9, 3) := by decide +kernel
theorem dX12_drop_19 : decode cX12_drop 19 = .ok (.aload_n 0, 1) := by decide +kernel
theorem dX12_drop_20 : decode cX12_drop 20 = .ok (.iconst 1, 1) := by decide +kernel
theorem dX12_drop_21 : decode cX12_drop 21 = .ok (.invokevirtual 90, 3) := by decide +kernel
theorem dX12_drop_24 : decode cX12_drop 24 = .ok (.ireturn, 1) := by decide +kernel
theorem dX12_drop_25 : decode cX12_drop 25 = .ok (.aload_n 0, 1) := by decide +kernel
theorem dX12_drop_26 : decode cX12_drop 26 = .ok (.getfield 7, 3) := by decide +kernel
theorem dX12_drop_29 : decode cX12_drop 29 = .ok (.iload_n 1, 1) := by decide +kernel
theorem dX12_drop_30 : decode cX12_drop 30 = .ok (.iconst 0, 1) := by decide +kernel
theorem dX12_drop_31 : decode cX12_drop 31 = .ok (.iastore, 1) := by decide +kernel
theorem dX12_drop_32 : decode cX12_drop 32 = .ok (.aload_n 0, 1) := by decide +kernel
theorem dX12_drop_33 : decode cX12_drop 33 = .ok (.aload_n 0, 1) := by decide +kernel
theorem dX12_drop_34 : decode cX12_drop 34 = .ok (.getfield 13, 3) := by decide +kernel
theorem dX12_drop_37 : decode cX12_drop 37 = .ok (.iload_n 1, 1) := by decide +kernel
theorem dX12_drop_38 : decode cX12_drop 38 = .ok (.iaload, 1) := by decide +kernel
theorem dX12_drop_39 : decode cX12_drop 39 = .ok (.invokevirtual 94, 3) := by decide +kernel
theorem dX12_drop_42 : decode cX12_drop 42 = .ok (.ireturn, 1) := by decide +kernel
theorem dX12_cosine_0 : decode cX12_cosine 0 = .ok (.iload_n 0, 1) := by decide +kernel
theorem dX12_cosine_1 : decode cX12_cosine 1 = .ok (.bipush 16, 2) := by decide +kernel
theorem dX12_cosine_3 : decode cX12_cosine 3 = .ok (.iconst 5, 1) := by decide +kernel
theorem dX12_cosine_4 : decode cX12_cosine 4 = .ok (.iload_n 1, 1) := by decide +kernel
theorem dX12_cosine_5 : decode cX12_cosine 5 = .ok (.imul, 1) := by decide +kernel
theorem dX12_cosine_6 : decode cX12_cosine 6 = .ok (.isub, 1) := by decide +kernel
theorem dX12_cosine_7 : decode cX12_cosine 7 = .ok (.ishr, 1) := by decide +kernel
theorem dX12_cosine_8 : decode cX12_cosine 8 = .ok (.bipush 15, 2) := by decide +kernel
theorem dX12_cosine_10 : decode cX12_cosine 10 = .ok (.iand, 1) := by decide +kernel
theorem dX12_cosine_11 : decode cX12_cosine 11 = .ok (.ireturn, 1) := by decide +kernel
theorem dX12_sine_0 : decode cX12_sine 0 = .ok (.iload_n 0, 1) := by decide +kernel
theorem dX12_sine_1 : decode cX12_sine 1 = .ok (.bipush 15, 2) := by decide +kernel
theorem dX12_sine_3 : decode cX12_sine 3 = .ok (.iconst 5, 1) := by decide +kernel
theorem dX12_sine_4 : decode cX12_sine 4 = .ok (.iload_n 1, 1) := by decide +kernel
theorem dX12_sine_5 : decode cX12_sine 5 = .ok (.imul, 1) := by decide +kernel
theorem dX12_sine_6 : decode cX12_sine 6 = .ok (.isub, 1) := by decide +kernel
theorem dX12_sine_7 : decode cX12_sine 7 = .ok (.ishr, 1) := by decide +kernel
theorem dX12_sine_8 : decode cX12_sine 8 = .ok (.iconst 1, 1) := by decide +kernel
theorem dX12_sine_9 : decode cX12_sine 9 = .ok (.iand, 1) := by decide +kernel
theorem dX12_sine_10 : decode cX12_sine 10 = .ok (.ireturn, 1) := by decide +kernel
theorem dX12_oneCosine_0 : decode cX12_oneCosine 0 = .ok (.iconst 1, 1) := by decide +kernel
theorem dX12_oneCosine_1 : decode cX12_oneCosine 1 = .ok (.bipush 16, 2) := by decide +kernel
theorem dX12_oneCosine_3 : decode cX12_oneCosine 3 = .ok (.iconst 5, 1) := by decide +kernel
theorem dX12_oneCosine_4 : decode cX12_oneCosine 4 = .ok (.iload_n 0, 1) := by decide +kernel
theorem dX12_oneCosine_5 : decode cX12_oneCosine 5 = .ok (.imul, 1) := by decide +kernel
theorem dX12_oneCosine_6 : decode cX12_oneCosine 6 = .ok (.isub, 1) := by decide +kernel
theorem dX12_oneCosine_7 : decode cX12_oneCosine 7 = .ok (.ishl, 1) := by decide +kernel
theorem dX12_oneCosine_8 : decode cX12_oneCosine 8 = .ok (.ireturn, 1) := by decide +kernel
theorem dX12_oneSine_0 : decode cX12_oneSine 0 = .ok (.iconst 1, 1) := by decide +kernel
theorem dX12_oneSine_1 : decode cX12_oneSine 1 = .ok (.bipush 15, 2) := by decide +kernel
theorem dX12_oneSine_3 : decode cX12_oneSine 3 = .ok (.iconst 5, 1) := by decide +kernel
theorem dX12_oneSine_4 : decode cX12_oneSine 4 = .ok (.iload_n 0, 1) := by decide +kernel
theorem dX12_oneSine_5 : decode cX12_oneSine 5 = .ok (.imul, 1) := by decide +kernel
theorem dX12_oneSine_6 : decode cX12_oneSine 6 = .ok (.isub, 1) := by decide +kernel
theorem dX12_oneSine_7 : decode cX12_oneSine 7 = .ok (.ishl, 1) := by decide +kernel
theorem dX12_oneSine_8 : decode cX12_oneSine 8 = .ok (.ireturn, 1) := by decide +kernel
theorem dX12_productOf_0 : decode cX12_productOf 0 = .ok (.iload_n 0, 1) := by decide +kernel
theorem dX12_productOf_1 : decode cX12_productOf 1 = .ok (.bipush 20, 2) := by decide +kernel
theorem dX12_productOf_3 : decode cX12_productOf 3 = .ok (.ishr, 1) := by decide +kernel
theorem dX12_productOf_4 : decode cX12_productOf 4 = .ok (.ireturn, 1) := by decide +kernel
theorem dX12_put_0 : decode cX12_put 0 = .ok (.iconst 0, 1) := by decide +kernel
theorem dX12_put_1 : decode cX12_put 1 = .ok (.istore 4, 2) := by decide +kernel
theorem dX12_put_3 : decode cX12_put 3 = .ok (.aload_n 0, 1) := by decide +kernel
theorem dX12_put_4 : decode cX12_put 4 = .ok (.getfield 97, 3) := by decide +kernel
theorem dX12_put_7 : decode cX12_put 7 = .ok (.istore 5, 2) := by decide +kernel
theorem dX12_put_9 : decode cX12_put 9 = .ok (.iload 4, 2) := by decide +kernel
theorem dX12_put_11 : decode cX12_put 11 = .ok (.iload 5, 2) := by decide +kernel
theorem dX12_put_13 : decode cX12_put 13 = .ok (.if_icmp .ge 39, 3) := by decide +kernel
theorem dX12_put_16 : decode cX12_put 16 = .ok (.iload 4, 2) := by decide +kernel
theorem dX12_put_18 : decode cX12_put 18 = .ok (.iload 5, 2) := by decide +kernel
theorem dX12_put_20 : decode cX12_put 20 = .ok (.iadd, 1) := by decide +kernel
theorem dX12_put_21 : decode cX12_put 21 = .ok (.iconst 2, 1) := by decide +kernel
theorem dX12_put_22 : decode cX12_put 22 = .ok (.idiv, 1) := by decide +kernel
theorem dX12_put_23 : decode cX12_put 23 = .ok (.istore 6, 2) := by decide +kernel
theorem dX12_put_25 : decode cX12_put 25 = .ok (.aload_n 0, 1) := by decide +kernel
theorem dX12_put_26 : decode cX12_put 26 = .ok (.getfield 32, 3) := by decide +kernel
theorem dX12_put_29 : decode cX12_put 29 = .ok (.iload 6, 2) := by decide +kernel
theorem dX12_put_31 : decode cX12_put 31 = .ok (.iaload, 1) := by decide +kernel
theorem dX12_put_32 : decode cX12_put 32 = .ok (.iload_n 1, 1) := by decide +kernel
theorem dX12_put_33 : decode cX12_put 33 = .ok (.if_icmp .ge 12, 3) := by decide +kernel
theorem dX12_put_36 : decode cX12_put 36 = .ok (.iload 6, 2) := by decide +kernel
theorem dX12_put_38 : decode cX12_put 38 = .ok (.iconst 1, 1) := by decide +kernel
theorem dX12_put_39 : decode cX12_put 39 = .ok (.iadd, 1) := by decide +kernel
theorem dX12_put_40 : decode cX12_put 40 = .ok (.istore 4, 2) := by decide +kernel
theorem dX12_put_42 : decode cX12_put 42 = .ok (.goto 7, 3) := by decide +kernel
theorem dX12_put_45 : decode cX12_put 45 = .ok (.iload 6, 2) := by decide +kernel
theorem dX12_put_47 : decode cX12_put 47 = .ok (.istore 5, 2) := by decide +kernel
theorem dX12_put_49 : decode cX12_put 49 = .ok (.goto (-40), 3) := by decide +kernel
theorem dX12_put_52 : decode cX12_put 52 = .ok (.iload 4, 2) := by decide +kernel
theorem dX12_put_54 : decode cX12_put 54 = .ok (.aload_n 0, 1) := by decide +kernel
theorem dX12_put_55 : decode cX12_put 55 = .ok (.getfield 97, 3) := by decide +kernel
theorem dX12_put_58 : decode cX12_put 58 = .ok (.if_icmp .eq 14, 3) := by decide +kernel
theorem dX12_put_61 : decode cX12_put 61 = .ok (.aload_n 0, 1) := by decide +kernel
theorem dX12_put_62 : decode cX12_put 62 = .ok (.getfield 32, 3) := by decide +kernel
theorem dX12_put_65 : decode cX12_put 65 = .ok (.iload 4, 2) := by decide +kernel
theorem dX12_put_67 : decode cX12_put 67 = .ok (.iaload, 1) := by decide +kernel
theorem dX12_put_68 : decode cX12_put 68 = .ok (.iload_n 1, 1) := by decide +kernel
theorem dX12_put_69 : decode cX12_put 69 = .ok (.if_icmp .eq 80, 3) := by decide +kernel
theorem dX12_put_72 : decode cX12_put 72 = .ok (.aload_n 0, 1) := by decide +kernel
theorem dX12_put_73 : decode cX12_put 73 = .ok (.getfield 97, 3) := by decide +kernel
theorem dX12_put_76 : decode cX12_put 76 = .ok (.istore 6, 2) := by decide +kernel
theorem dX12_put_78 : decode cX12_put 78 = .ok (.iload 6, 2) := by decide +kernel
theorem dX12_put_80 : decode cX12_put 80 = .ok (.iload 4, 2) := by decide +kernel
theorem dX12_put_82 : decode cX12_put 82 = .ok (.if_icmp .le 41, 3) := by decide +kernel
theorem dX12_put_85 : decode cX12_put 85 = .ok (.aload_n 0, 1) := by decide +kernel
theorem dX12_put_86 : decode cX12_put 86 = .ok (.getfield 32, 3) := by decide +kernel
theorem dX12_put_89 : decode cX12_put 89 = .ok (.iload 6, 2) := by decide +kernel
theorem dX12_put_91 : decode cX12_put 91 = .ok (.aload_n 0, 1) := by decide +kernel
theorem dX12_put_92 : decode cX12_put 92 = .ok (.getfield 32, 3) := by decide +kernel
theorem dX12_put_95 : decode cX12_put 95 = .ok (.iload 6, 2) := by decide +kernel
theorem dX12_put_97 : decode cX12_put 97 = .ok (.iconst 1, 1) := by decide +kernel
theorem dX12_put_98 : decode cX12_put 98 = .ok (.isub, 1) := by decide +kernel
theorem dX12_put_99 : decode cX12_put 99 = .ok (.iaload, 1) := by decide +kernel
theorem dX12_put_100 : decode cX12_put 100 = .ok (.iastore, 1) := by decide +kernel
theorem dX12_put_101 : decode cX12_put 101 = .ok (.aload_n 0, 1) := by decide +kernel
theorem dX12_put_102 : decode cX12_put 102 = .ok (.getfield 35, 3) := by decide +kernel
theorem dX12_put_105 : decode cX12_put 105 = .ok (.iload 6, 2) := by decide +kernel
theorem dX12_put_107 : decode cX12_put 107 = .ok (.aload_n 0, 1) := by decide +kernel
theorem dX12_put_108 : decode cX12_put 108 = .ok (.getfield 35, 3) := by decide +kernel
theorem dX12_put_111 : decode cX12_put 111 = .ok (.iload 6, 2) := by decide +kernel
theorem dX12_put_113 : decode cX12_put 113 = .ok (.iconst 1, 1) := by decide +kernel
theorem dX12_put_114 : decode cX12_put 114 = .ok (.isub, 1) := by decide +kernel
theorem dX12_put_115 : decode cX12_put 115 = .ok (.laload, 1) := by decide +kernel
theorem dX12_put_116 : decode cX12_put 116 = .ok (.lastore, 1) := by decide +kernel
theorem dX12_put_117 : decode cX12_put 117 = .ok (.iinc 6 (-1), 3) := by decide +kernel
theorem dX12_put_120 : decode cX12_put 120 = .ok (.goto (-42), 3) := by decide +kernel
theorem dX12_put_123 : decode cX12_put 123 = .ok (.aload_n 0, 1) := by decide +kernel
theorem dX12_put_124 : decode cX12_put 124 = .ok (.getfield 32, 3) := by decide +kernel
theorem dX12_put_127 : decode cX12_put 127 = .ok (.iload 4, 2) := by decide +kernel
theorem dX12_put_129 : decode cX12_put 129 = .ok (.iload_n 1, 1) := by decide +kernel
theorem dX12_put_130 : decode cX12_put 130 = .ok (.iastore, 1) := by decide +kernel
theorem dX12_put_131 : decode cX12_put 131 = .ok (.aload_n 0, 1) := by decide +kernel
theorem dX12_put_132 : decode cX12_put 132 = .ok (.getfield 35, 3) := by decide +kernel
theorem dX12_put_135 : decode cX12_put 135 = .ok (.iload 4, 2) := by decide +kernel
theorem dX12_put_137 : decode cX12_put 137 = .ok (.lconst 0, 1) := by decide +kernel
theorem dX12_put_138 : decode cX12_put 138 = .ok (.lastore, 1) := by decide +kernel
theorem dX12_put_139 : decode cX12_put 139 = .ok (.aload_n 0, 1) := by decide +kernel
theorem dX12_put_140 : decode cX12_put 140 = .ok (.dup, 1) := by decide +kernel
theorem dX12_put_141 : decode cX12_put 141 = .ok (.getfield 97, 3) := by decide +kernel
theorem dX12_put_144 : decode cX12_put 144 = .ok (.iconst 1, 1) := by decide +kernel
theorem dX12_put_145 : decode cX12_put 145 = .ok (.iadd, 1) := by decide +kernel
theorem dX12_put_146 : decode cX12_put 146 = .ok (.putfield 97, 3) := by decide +kernel
theorem dX12_put_149 : decode cX12_put 149 = .ok (.aload_n 0, 1) := by decide +kernel
theorem dX12_put_150 : decode cX12_put 150 = .ok (.getfield 35, 3) := by decide +kernel
theorem dX12_put_153 : decode cX12_put 153 = .ok (.iload 4, 2) := by decide +kernel
theorem dX12_put_155 : decode cX12_put 155 = .ok (.dup2, 1) := by decide +kernel
theorem dX12_put_156 : decode cX12_put 156 = .ok (.laload, 1) := by decide +kernel
theorem dX12_put_157 : decode cX12_put 157 = .ok (.lload_n 2, 1) := by decide +kernel
theorem dX12_put_158 : decode cX12_put 158 = .ok (.ladd, 1) := by decide +kernel
theorem dX12_put_159 : decode cX12_put 159 = .ok (.lastore, 1) := by decide +kernel
theorem dX12_put_160 : decode cX12_put 160 = .ok (.return_, 1) := by decide +kernel
theorem dX12_placeOf_0 : decode cX12_placeOf 0 = .ok (.iload_n 0, 1) := by decide +kernel
theorem dX12_placeOf_1 : decode cX12_placeOf 1 = .ok (.ifCond .ge 8, 3) := by decide +kernel
theorem dX12_placeOf_4 : decode cX12_placeOf 4 = .ok (.bipush 8, 2) := by decide +kernel
theorem dX12_placeOf_6 : decode cX12_placeOf 6 = .ok (.goto 4, 3) := by decide +kernel
theorem dX12_placeOf_9 : decode cX12_placeOf 9 = .ok (.iload_n 0, 1) := by decide +kernel
theorem dX12_placeOf_10 : decode cX12_placeOf 10 = .ok (.ireturn, 1) := by decide +kernel
theorem dX12_isShelf_0 : decode cX12_isShelf 0 = .ok (.iload_n 0, 1) := by decide +kernel
theorem dX12_isShelf_1 : decode cX12_isShelf 1 = .ok (.i2l, 1) := by decide +kernel
theorem dX12_isShelf_2 : decode cX12_isShelf 2 = .ok (.ldc2_w 100, 3) := by decide +kernel
theorem dX12_isShelf_5 : decode cX12_isShelf 5 = .ok (.ldc2_w 77, 3) := by decide +kernel
theorem dX12_isShelf_8 : decode cX12_isShelf 8 = .ok (.invokestatic 79, 3) := by decide +kernel
theorem dX12_isShelf_11 : decode cX12_isShelf 11 = .ok (.ireturn, 1) := by decide +kernel
theorem dX12_isProduct_0 : decode cX12_isProduct 0 = .ok (.iload_n 1, 1) := by decide +kernel
theorem dX12_isProduct_1 : decode cX12_isProduct 1 = .ok (.i2l, 1) := by decide +kernel
theorem dX12_isProduct_2 : decode cX12_isProduct 2 = .ok (.lconst 0, 1) := by decide +kernel
theorem dX12_isProduct_3 : decode cX12_isProduct 3 = .ok (.aload_n 0, 1) := by decide +kernel
theorem dX12_isProduct_4 : decode cX12_isProduct 4 = .ok (.getfield 70, 3) := by decide +kernel
theorem dX12_isProduct_7 : decode cX12_isProduct 7 = .ok (.iconst 1, 1) := by decide +kernel
theorem dX12_isProduct_8 : decode cX12_isProduct 8 = .ok (.isub, 1) := by decide +kernel
theorem dX12_isProduct_9 : decode cX12_isProduct 9 = .ok (.i2l, 1) := by decide +kernel
theorem dX12_isProduct_10 : decode cX12_isProduct 10 = .ok (.invokestatic 79, 3) := by decide +kernel
theorem dX12_isProduct_13 : decode cX12_isProduct 13 = .ok (.ireturn, 1) := by decide +kernel
theorem dX12_keep_0 : decode cX12_keep 0 = .ok (.iconst 0, 1) := by decide +kernel
theorem dX12_keep_1 : decode cX12_keep 1 = .ok (.istore_n 2, 1) := by decide +kernel
theorem dX12_keep_2 : decode cX12_keep 2 = .ok (.iconst 0, 1) := by decide +kernel
theorem dX12_keep_3 : decode cX12_keep 3 = .ok (.istore_n 3, 1) := by decide +kernel
theorem dX12_keep_4 : decode cX12_keep 4 = .ok (.iload_n 3, 1) := by decide +kernel
theorem dX12_keep_5 : decode cX12_keep 5 = .ok (.aload_n 0, 1) := by decide +kernel
theorem dX12_keep_6 : decode cX12_keep 6 = .ok (.getfield 97, 3) := by decide +kernel
theorem dX12_keep_9 : decode cX12_keep 9 = .ok (.if_icmp .ge 90, 3) := by decide +kernel
theorem dX12_keep_12 : decode cX12_keep 12 = .ok (.aload_n 0, 1) := by decide +kernel
theorem dX12_keep_13 : decode cX12_keep 13 = .ok (.getfield 35, 3) := by decide +kernel
theorem dX12_keep_16 : decode cX12_keep 16 = .ok (.iload_n 3, 1) := by decide +kernel
theorem dX12_keep_17 : decode cX12_keep 17 = .ok (.laload, 1) := by decide +kernel
theorem dX12_keep_18 : decode cX12_keep 18 = .ok (.lconst 0, 1) := by decide +kernel
theorem dX12_keep_19 : decode cX12_keep 19 = .ok (.lcmp, 1) := by decide +kernel
theorem dX12_keep_20 : decode cX12_keep 20 = .ok (.ifCond .eq 73, 3) := by decide +kernel
theorem dX12_keep_23 : decode cX12_keep 23 = .ok (.aload_n 0, 1) := by decide +kernel
theorem dX12_keep_24 : decode cX12_keep 24 = .ok (.getfield 35, 3) := by decide +kernel
theorem dX12_keep_27 : decode cX12_keep 27 = .ok (.iload_n 3, 1) := by decide +kernel
theorem dX12_keep_28 : decode cX12_keep 28 = .ok (.laload, 1) := by decide +kernel
theorem dX12_keep_29 : decode cX12_keep 29 = .ok (.ldc2_w 102, 3) := by decide +kernel
theorem dX12_keep_32 : decode cX12_keep 32 = .ok (.ldc2_w 104, 3) := by decide +kernel
theorem dX12_keep_35 : decode cX12_keep 35 = .ok (.invokestatic 79, 3) := by decide +kernel
theorem dX12_keep_38 : decode cX12_keep 38 = .ok (.istore 4, 2) := by decide +kernel
theorem dX12_keep_40 : decode cX12_keep 40 = .ok (.iconst 0, 1) := by decide +kernel
theorem dX12_keep_41 : decode cX12_keep 41 = .ok (.istore 5, 2) := by decide +kernel
theorem dX12_keep_43 : decode cX12_keep 43 = .ok (.iload 5, 2) := by decide +kernel
theorem dX12_keep_45 : decode cX12_keep 45 = .ok (.iconst 4, 1) := by decide +kernel
theorem dX12_keep_46 : decode cX12_keep 46 = .ok (.if_icmp .ge 37, 3) := by decide +kernel
theorem dX12_keep_49 : decode cX12_keep 49 = .ok (.iload 4, 2) := by decide +kernel
theorem dX12_keep_51 : decode cX12_keep 51 = .ok (.ifCond .eq 23, 3) := by decide +kernel
theorem dX12_keep_54 : decode cX12_keep 54 = .ok (.aload_n 0, 1) := by decide +kernel
theorem dX12_keep_55 : decode cX12_keep 55 = .ok (.getfield 32, 3) := by decide +kernel
theorem dX12_keep_58 : decode cX12_keep 58 = .ok (.iload_n 3, 1) := by decide +kernel
theorem dX12_keep_59 : decode cX12_keep 59 = .ok (.iaload, 1) := by decide +kernel
theorem dX12_keep_60 : decode cX12_keep 60 = .ok (.iload 5, 2) := by decide +kernel
theorem dX12_keep_62 : decode cX12_keep 62 = .ok (.invokestatic 106, 3) := by decide +kernel
theorem dX12_keep_65 : decode cX12_keep 65 = .ok (.bipush 13, 2) := by decide +kernel
theorem dX12_keep_67 : decode cX12_keep 67 = .ok (.if_icmp .ge 7, 3) := by decide +kernel
theorem dX12_keep_70 : decode cX12_keep 70 = .ok (.iconst 1, 1) := by decide +kernel
theorem dX12_keep_71 : decode cX12_keep 71 = .ok (.goto 4, 3) := by decide +kernel
theorem dX12_keep_74 : decode cX12_keep 74 = .ok (.iconst 0, 1) := by decide +kernel
theorem dX12_keep_75 : decode cX12_keep 75 = .ok (.istore 4, 2) := by decide +kernel
theorem dX12_keep_77 : decode cX12_keep 77 = .ok (.iinc 5 1, 3) := by decide +kernel
theorem dX12_keep_80 : decode cX12_keep 80 = .ok (.goto (-37), 3) := by decide +kernel
theorem dX12_keep_83 : decode cX12_keep 83 = .ok (.iload 4, 2) := by decide +kernel
theorem dX12_keep_85 : decode cX12_keep 85 = .ok (.ifCond .ne 5, 3) := by decide +kernel
theorem dX12_keep_88 : decode cX12_keep 88 = .ok (.iconst 0, 1) := by decide +kernel
theorem dX12_keep_89 : decode cX12_keep 89 = .ok (.ireturn, 1) := by decide +kernel
theorem dX12_keep_90 : decode cX12_keep 90 = .ok (.iinc 2 1, 3) := by decide +kernel
theorem dX12_keep_93 : decode cX12_keep 93 = .ok (.iinc 3 1, 3) := by decide +kernel
theorem dX12_keep_96 : decode cX12_keep 96 = .ok (.goto (-92), 3) := by decide +kernel
theorem dX12_keep_99 : decode cX12_keep 99 = .ok (.iload_n 2, 1) := by decide +kernel
theorem dX12_keep_100 : decode cX12_keep 100 = .ok (.sipush 300, 3) := by decide +kernel
theorem dX12_keep_103 : decode cX12_keep 103 = .ok (.if_icmp .le 5, 3) := by decide +kernel
theorem dX12_keep_106 : decode cX12_keep 106 = .ok (.iconst 0, 1) := by decide +kernel
theorem dX12_keep_107 : decode cX12_keep 107 = .ok (.ireturn, 1) := by decide +kernel
theorem dX12_keep_108 : decode cX12_keep 108 = .ok (.iconst 0, 1) := by decide +kernel
theorem dX12_keep_109 : decode cX12_keep 109 = .ok (.istore_n 2, 1) := by decide +kernel
theorem dX12_keep_110 : decode cX12_keep 110 = .ok (.iconst 0, 1) := by decide +kernel
theorem dX12_keep_111 : decode cX12_keep 111 = .ok (.istore_n 3, 1) := by decide +kernel
theorem dX12_keep_112 : decode cX12_keep 112 = .ok (.iload_n 3, 1) := by decide +kernel
theorem dX12_keep_113 : decode cX12_keep 113 = .ok (.aload_n 0, 1) := by decide +kernel
theorem dX12_keep_114 : decode cX12_keep 114 = .ok (.getfield 97, 3) := by decide +kernel
theorem dX12_keep_117 : decode cX12_keep 117 = .ok (.if_icmp .ge 59, 3) := by decide +kernel
theorem dX12_keep_120 : decode cX12_keep 120 = .ok (.aload_n 0, 1) := by decide +kernel
theorem dX12_keep_121 : decode cX12_keep 121 = .ok (.getfield 35, 3) := by decide +kernel
theorem dX12_keep_124 : decode cX12_keep 124 = .ok (.iload_n 3, 1) := by decide +kernel
theorem dX12_keep_125 : decode cX12_keep 125 = .ok (.laload, 1) := by decide +kernel
theorem dX12_keep_126 : decode cX12_keep 126 = .ok (.lconst 0, 1) := by decide +kernel
theorem dX12_keep_127 : decode cX12_keep 127 = .ok (.lcmp, 1) := by decide +kernel
theorem dX12_keep_128 : decode cX12_keep 128 = .ok (.ifCond .eq 42, 3) := by decide +kernel
theorem dX12_keep_131 : decode cX12_keep 131 = .ok (.aload_n 0, 1) := by decide +kernel
theorem dX12_keep_132 : decode cX12_keep 132 = .ok (.getfield 25, 3) := by decide +kernel
theorem dX12_keep_135 : decode cX12_keep 135 = .ok (.sipush 300, 3) := by decide +kernel
theorem dX12_keep_138 : decode cX12_keep 138 = .ok (.iload_n 1, 1) := by decide +kernel
theorem dX12_keep_139 : decode cX12_keep 139 = .ok (.imul, 1) := by decide +kernel
theorem dX12_keep_140 : decode cX12_keep 140 = .ok (.iload_n 2, 1) := by decide +kernel
theorem dX12_keep_141 : decode cX12_keep 141 = .ok (.iadd, 1) := by decide +kernel
theorem dX12_keep_142 : decode cX12_keep 142 = .ok (.aload_n 0, 1) := by decide +kernel
theorem dX12_keep_143 : decode cX12_keep 143 = .ok (.getfield 32, 3) := by decide +kernel
theorem dX12_keep_146 : decode cX12_keep 146 = .ok (.iload_n 3, 1) := by decide +kernel
theorem dX12_keep_147 : decode cX12_keep 147 = .ok (.iaload, 1) := by decide +kernel
theorem dX12_keep_148 : decode cX12_keep 148 = .ok (.iastore, 1) := by decide +kernel
theorem dX12_keep_149 : decode cX12_keep 149 = .ok (.aload_n 0, 1) := by decide +kernel
theorem dX12_keep_150 : decode cX12_keep 150 = .ok (.getfield 28, 3) := by decide +kernel
theorem dX12_keep_153 : decode cX12_keep 153 = .ok (.sipush 300, 3) := by decide +kernel
theorem dX12_keep_156 : decode cX12_keep 156 = .ok (.iload_n 1, 1) := by decide +kernel
theorem dX12_keep_157 : decode cX12_keep 157 = .ok (.imul, 1) := by decide +kernel
theorem dX12_keep_158 : decode cX12_keep 158 = .ok (.iload_n 2, 1) := by decide +kernel
theorem dX12_keep_159 : decode cX12_keep 159 = .ok (.iadd, 1) := by decide +kernel
theorem dX12_keep_160 : decode cX12_keep 160 = .ok (.aload_n 0, 1) := by decide +kernel
theorem dX12_keep_161 : decode cX12_keep 161 = .ok (.getfield 35, 3) := by decide +kernel
theorem dX12_keep_164 : decode cX12_keep 164 = .ok (.iload_n 3, 1) := by decide +kernel
theorem dX12_keep_165 : decode cX12_keep 165 = .ok (.laload, 1) := by decide +kernel
theorem dX12_keep_166 : decode cX12_keep 166 = .ok (.lastore, 1) := by decide +kernel
theorem dX12_keep_167 : decode cX12_keep 167 = .ok (.iinc 2 1, 3) := by decide +kernel
theorem dX12_keep_170 : decode cX12_keep 170 = .ok (.iinc 3 1, 3) := by decide +kernel
theorem dX12_keep_173 : decode cX12_keep 173 = .ok (.goto (-61), 3) := by decide +kernel
theorem dX12_keep_176 : decode cX12_keep 176 = .ok (.aload_n 0, 1) := by decide +kernel
theorem dX12_keep_177 : decode cX12_keep 177 = .ok (.getfield 22, 3) := by decide +kernel
theorem dX12_keep_180 : decode cX12_keep 180 = .ok (.iload_n 1, 1) := by decide +kernel
theorem dX12_keep_181 : decode cX12_keep 181 = .ok (.iload_n 2, 1) := by decide +kernel
theorem dX12_keep_182 : decode cX12_keep 182 = .ok (.iastore, 1) := by decide +kernel
theorem dX12_keep_183 : decode cX12_keep 183 = .ok (.iconst 1, 1) := by decide +kernel
theorem dX12_keep_184 : decode cX12_keep 184 = .ok (.ireturn, 1) := by decide +kernel
theorem dX12_putAll_0 : decode cX12_putAll 0 = .ok (.iconst 0, 1) := by decide +kernel
theorem dX12_putAll_1 : decode cX12_putAll 1 = .ok (.istore 4, 2) := by decide +kernel
theorem dX12_putAll_3 : decode cX12_putAll 3 = .ok (.iload 4, 2) := by decide +kernel
theorem dX12_putAll_5 : decode cX12_putAll 5 = .ok (.aload_n 0, 1) := by decide +kernel
theorem dX12_putAll_6 : decode cX12_putAll 6 = .ok (.getfield 22, 3) := by decide +kernel
theorem dX12_putAll_9 : decode cX12_putAll 9 = .ok (.iload_n 1, 1) := by decide +kernel
theorem dX12_putAll_10 : decode cX12_putAll 10 = .ok (.iaload, 1) := by decide +kernel
theorem dX12_putAll_11 : decode cX12_putAll 11 = .ok (.if_icmp .ge 41, 3) := by decide +kernel
theorem dX12_putAll_14 : decode cX12_putAll 14 = .ok (.aload_n 0, 1) := by decide +kernel
theorem dX12_putAll_15 : decode cX12_putAll 15 = .ok (.aload_n 0, 1) := by decide +kernel
theorem dX12_putAll_16 : decode cX12_putAll 16 = .ok (.getfield 25, 3) := by decide +kernel
theorem dX12_putAll_19 : decode cX12_putAll 19 = .ok (.sipush 300, 3) := by decide +kernel
theorem dX12_putAll_22 : decode cX12_putAll 22 = .ok (.iload_n 1, 1) := by decide +kernel
theorem dX12_putAll_23 : decode cX12_putAll 23 = .ok (.imul, 1) := by decide +kernel
theorem dX12_putAll_24 : decode cX12_putAll 24 = .ok (.iload 4, 2) := by decide +kernel
theorem dX12_putAll_26 : decode cX12_putAll 26 = .ok (.iadd, 1) := by decide +kernel
theorem dX12_putAll_27 : decode cX12_putAll 27 = .ok (.iaload, 1) := by decide +kernel
theorem dX12_putAll_28 : decode cX12_putAll 28 = .ok (.lload_n 2, 1) := by decide +kernel
theorem dX12_putAll_29 : decode cX12_putAll 29 = .ok (.aload_n 0, 1) := by decide +kernel
theorem dX12_putAll_30 : decode cX12_putAll 30 = .ok (.getfield 28, 3) := by decide +kernel
theorem dX12_putAll_33 : decode cX12_putAll 33 = .ok (.sipush 300, 3) := by decide +kernel
theorem dX12_putAll_36 : decode cX12_putAll 36 = .ok (.iload_n 1, 1) := by decide +kernel
theorem dX12_putAll_37 : decode cX12_putAll 37 = .ok (.imul, 1) := by decide +kernel
theorem dX12_putAll_38 : decode cX12_putAll 38 = .ok (.iload 4, 2) := by decide +kernel
theorem dX12_putAll_40 : decode cX12_putAll 40 = .ok (.iadd, 1) := by decide +kernel
theorem dX12_putAll_41 : decode cX12_putAll 41 = .ok (.laload, 1) := by decide +kernel
theorem dX12_putAll_42 : decode cX12_putAll 42 = .ok (.lmul, 1) := by decide +kernel
theorem dX12_putAll_43 : decode cX12_putAll 43 = .ok (.invokevirtual 110, 3) := by decide +kernel
theorem dX12_putAll_46 : decode cX12_putAll 46 = .ok (.iinc 4 1, 3) := by decide +kernel
theorem dX12_putAll_49 : decode cX12_putAll 49 = .ok (.goto (-46), 3) := by decide +kernel
theorem dX12_putAll_52 : decode cX12_putAll 52 = .ok (.return_, 1) := by decide +kernel
theorem dX12_copySum_0 : decode cX12_copySum 0 = .ok (.aload_n 0, 1) := by decide +kernel
theorem dX12_copySum_1 : decode cX12_copySum 1 = .ok (.getfield 22, 3) := by decide +kernel
theorem dX12_copySum_4 : decode cX12_copySum 4 = .ok (.iload_n 1, 1) := by decide +kernel
theorem dX12_copySum_5 : decode cX12_copySum 5 = .ok (.aload_n 0, 1) := by decide +kernel
theorem dX12_copySum_6 : decode cX12_copySum 6 = .ok (.getfield 22, 3) := by decide +kernel
theorem dX12_copySum_9 : decode cX12_copySum 9 = .ok (.iload_n 2, 1) := by decide +kernel
theorem dX12_copySum_10 : decode cX12_copySum 10 = .ok (.iaload, 1) := by decide +kernel
theorem dX12_copySum_11 : decode cX12_copySum 11 = .ok (.iastore, 1) := by decide +kernel
theorem dX12_copySum_12 : decode cX12_copySum 12 = .ok (.iconst 0, 1) := by decide +kernel
theorem dX12_copySum_13 : decode cX12_copySum 13 = .ok (.istore_n 3, 1) := by decide +kernel
theorem dX12_copySum_14 : decode cX12_copySum 14 = .ok (.iload_n 3, 1) := by decide +kernel
theorem dX12_copySum_15 : decode cX12_copySum 15 = .ok (.aload_n 0, 1) := by decide +kernel
theorem dX12_copySum_16 : decode cX12_copySum 16 = .ok (.getfield 22, 3) := by decide +kernel
theorem dX12_copySum_19 : decode cX12_copySum 19 = .ok (.iload_n 2, 1) := by decide +kernel
theorem dX12_copySum_20 : decode cX12_copySum 20 = .ok (.iaload, 1) := by decide +kernel
theorem dX12_copySum_21 : decode cX12_copySum 21 = .ok (.if_icmp .ge 57, 3) := by decide +kernel
theorem dX12_copySum_24 : decode cX12_copySum 24 = .ok (.aload_n 0, 1) := by decide +kernel
theorem dX12_copySum_25 : decode cX12_copySum 25 = .ok (.getfield 25, 3) := by decide +kernel
theorem dX12_copySum_28 : decode cX12_copySum 28 = .ok (.sipush 300, 3) := by decide +kernel
theorem dX12_copySum_31 : decode cX12_copySum 31 = .ok (.iload_n 1, 1) := by decide +kernel
theorem dX12_copySum_32 : decode cX12_copySum 32 = .ok (.imul, 1) := by decide +kernel
theorem dX12_copySum_33 : decode cX12_copySum 33 = .ok (.iload_n 3, 1) := by decide +kernel
theorem dX12_copySum_34 : decode cX12_copySum 34 = .ok (.iadd, 1) := by decide +kernel
theorem dX12_copySum_35 : decode cX12_copySum 35 = .ok (.aload_n 0, 1) := by decide +kernel
theorem dX12_copySum_36 : decode cX12_copySum 36 = .ok (.getfield 25, 3) := by decide +kernel
theorem dX12_copySum_39 : decode cX12_copySum 39 = .ok (.sipush 300, 3) := by decide +kernel
theorem dX12_copySum_42 : decode cX12_copySum 42 = .ok (.iload_n 2, 1) := by decide +kernel
theorem dX12_copySum_43 : decode cX12_copySum 43 = .ok (.imul, 1) := by decide +kernel
theorem dX12_copySum_44 : decode cX12_copySum 44 = .ok (.iload_n 3, 1) := by decide +kernel
theorem dX12_copySum_45 : decode cX12_copySum 45 = .ok (.iadd, 1) := by decide +kernel
theorem dX12_copySum_46 : decode cX12_copySum 46 = .ok (.iaload, 1) := by decide +kernel
theorem dX12_copySum_47 : decode cX12_copySum 47 = .ok (.iastore, 1) := by decide +kernel
theorem dX12_copySum_48 : decode cX12_copySum 48 = .ok (.aload_n 0, 1) := by decide +kernel
theorem dX12_copySum_49 : decode cX12_copySum 49 = .ok (.getfield 28, 3) := by decide +kernel
theorem dX12_copySum_52 : decode cX12_copySum 52 = .ok (.sipush 300, 3) := by decide +kernel
theorem dX12_copySum_55 : decode cX12_copySum 55 = .ok (.iload_n 1, 1) := by decide +kernel
theorem dX12_copySum_56 : decode cX12_copySum 56 = .ok (.imul, 1) := by decide +kernel
theorem dX12_copySum_57 : decode cX12_copySum 57 = .ok (.iload_n 3, 1) := by decide +kernel
theorem dX12_copySum_58 : decode cX12_copySum 58 = .ok (.iadd, 1) := by decide +kernel
theorem dX12_copySum_59 : decode cX12_copySum 59 = .ok (.aload_n 0, 1) := by decide +kernel
theorem dX12_copySum_60 : decode cX12_copySum 60 = .ok (.getfield 28, 3) := by decide +kernel
theorem dX12_copySum_63 : decode cX12_copySum 63 = .ok (.sipush 300, 3) := by decide +kernel
theorem dX12_copySum_66 : decode cX12_copySum 66 = .ok (.iload_n 2, 1) := by decide +kernel
theorem dX12_copySum_67 : decode cX12_copySum 67 = .ok (.imul, 1) := by decide +kernel
theorem dX12_copySum_68 : decode cX12_copySum 68 = .ok (.iload_n 3, 1) := by decide +kernel
theorem dX12_copySum_69 : decode cX12_copySum 69 = .ok (.iadd, 1) := by decide +kernel
theorem dX12_copySum_70 : decode cX12_copySum 70 = .ok (.laload, 1) := by decide +kernel
theorem dX12_copySum_71 : decode cX12_copySum 71 = .ok (.lastore, 1) := by decide +kernel
theorem dX12_copySum_72 : decode cX12_copySum 72 = .ok (.iinc 3 1, 3) := by decide +kernel
theorem dX12_copySum_75 : decode cX12_copySum 75 = .ok (.goto (-61), 3) := by decide +kernel
theorem dX12_copySum_78 : decode cX12_copySum 78 = .ok (.return_, 1) := by decide +kernel
theorem dX12_kept_0 : decode cX12_kept 0 = .ok (.aload_n 0, 1) := by decide +kernel
theorem dX12_kept_1 : decode cX12_kept 1 = .ok (.iload_n 1, 1) := by decide +kernel
theorem dX12_kept_2 : decode cX12_kept 2 = .ok (.invokevirtual 114, 3) := by decide +kernel
theorem dX12_kept_5 : decode cX12_kept 5 = .ok (.ifCond .eq 12, 3) := by decide +kernel
theorem dX12_kept_8 : decode cX12_kept 8 = .ok (.aload_n 0, 1) := by decide +kernel
theorem dX12_kept_9 : decode cX12_kept 9 = .ok (.getfield 22, 3) := by decide +kernel
theorem dX12_kept_12 : decode cX12_kept 12 = .ok (.iload_n 1, 1) := by decide +kernel
theorem dX12_kept_13 : decode cX12_kept 13 = .ok (.iaload, 1) := by decide +kernel
theorem dX12_kept_14 : decode cX12_kept 14 = .ok (.goto 5, 3) := by decide +kernel
theorem dX12_kept_17 : decode cX12_kept 17 = .ok (.ldc 117, 2) := by decide +kernel
theorem dX12_kept_19 : decode cX12_kept 19 = .ok (.ireturn, 1) := by decide +kernel
theorem dX12_clear_0 : decode cX12_clear 0 = .ok (.iload_n 1, 1) := by decide +kernel
theorem dX12_clear_1 : decode cX12_clear 1 = .ok (.invokestatic 118, 3) := by decide +kernel
theorem dX12_clear_4 : decode cX12_clear 4 = .ok (.ifCond .ne 6, 3) := by decide +kernel
theorem dX12_clear_7 : decode cX12_clear 7 = .ok (.ldc 89, 2) := by decide +kernel
theorem dX12_clear_9 : decode cX12_clear 9 = .ok (.ireturn, 1) := by decide +kernel
theorem dX12_clear_10 : decode cX12_clear 10 = .ok (.aload_n 0, 1) := by decide +kernel
theorem dX12_clear_11 : decode cX12_clear 11 = .ok (.getfield 22, 3) := by decide +kernel
theorem dX12_clear_14 : decode cX12_clear 14 = .ok (.iload_n 1, 1) := by decide +kernel
theorem dX12_clear_15 : decode cX12_clear 15 = .ok (.invokestatic 121, 3) := by decide +kernel
theorem dX12_clear_18 : decode cX12_clear 18 = .ok (.iaload, 1) := by decide +kernel
theorem dX12_clear_19 : decode cX12_clear 19 = .ok (.istore_n 2, 1) := by decide +kernel
theorem dX12_clear_20 : decode cX12_clear 20 = .ok (.aload_n 0, 1) := by decide +kernel
theorem dX12_clear_21 : decode cX12_clear 21 = .ok (.getfield 22, 3) := by decide +kernel
theorem dX12_clear_24 : decode cX12_clear 24 = .ok (.iload_n 1, 1) := by decide +kernel
theorem dX12_clear_25 : decode cX12_clear 25 = .ok (.invokestatic 121, 3) := by decide +kernel
theorem dX12_clear_28 : decode cX12_clear 28 = .ok (.iconst 0, 1) := by decide +kernel
theorem dX12_clear_29 : decode cX12_clear 29 = .ok (.iastore, 1) := by decide +kernel
theorem dX12_clear_30 : decode cX12_clear 30 = .ok (.iload_n 2, 1) := by decide +kernel
theorem dX12_clear_31 : decode cX12_clear 31 = .ok (.ireturn, 1) := by decide +kernel
theorem dX12_add_0 : decode cX12_add 0 = .ok (.iload_n 1, 1) := by decide +kernel
theorem dX12_add_1 : decode cX12_add 1 = .ok (.invokestatic 118, 3) := by decide +kernel
theorem dX12_add_4 : decode cX12_add 4 = .ok (.ifCond .eq 11, 3) := by decide +kernel
theorem dX12_add_7 : decode cX12_add 7 = .ok (.aload_n 0, 1) := by decide +kernel
theorem dX12_add_8 : decode cX12_add 8 = .ok (.iload_n 2, 1) := by decide +kernel
theorem dX12_add_9 : decode cX12_add 9 = .ok (.invokevirtual 124, 3) := by decide +kernel
theorem dX12_add_12 : decode cX12_add 12 = .ok (.ifCond .ne 6, 3) := by decide +kernel
theorem dX12_add_15 : decode cX12_add 15 = .ok (.ldc 89, 2) := by decide +kernel
theorem dX12_add_17 : decode cX12_add 17 = .ok (.ireturn, 1) := by decide +kernel
theorem dX12_add_18 : decode cX12_add 18 = .ok (.aload_n 0, 1) := by decide +kernel
theorem dX12_add_19 : decode cX12_add 19 = .ok (.iconst 0, 1) := by decide +kernel
theorem dX12_add_20 : decode cX12_add 20 = .ok (.putfield 97, 3) := by decide +kernel
theorem dX12_add_23 : decode cX12_add 23 = .ok (.aload_n 0, 1) := by decide +kernel
theorem dX12_add_24 : decode cX12_add 24 = .ok (.iload_n 1, 1) := by decide +kernel
theorem dX12_add_25 : decode cX12_add 25 = .ok (.invokestatic 121, 3) := by decide +kernel
theorem dX12_add_28 : decode cX12_add 28 = .ok (.lconst 1, 1) := by decide +kernel
theorem dX12_add_29 : decode cX12_add 29 = .ok (.invokevirtual 127, 3) := by decide +kernel
theorem dX12_add_32 : decode cX12_add 32 = .ok (.aload_n 0, 1) := by decide +kernel
theorem dX12_add_33 : decode cX12_add 33 = .ok (.iload_n 2, 1) := by decide +kernel
theorem dX12_add_34 : decode cX12_add 34 = .ok (.bipush 20, 2) := by decide +kernel
theorem dX12_add_36 : decode cX12_add 36 = .ok (.ishl, 1) := by decide +kernel
theorem dX12_add_37 : decode cX12_add 37 = .ok (.iload_n 3, 1) := by decide +kernel
theorem dX12_add_38 : decode cX12_add 38 = .ok (.i2l, 1) := by decide +kernel
theorem dX12_add_39 : decode cX12_add 39 = .ok (.invokevirtual 110, 3) := by decide +kernel
theorem dX12_add_42 : decode cX12_add 42 = .ok (.aload_n 0, 1) := by decide +kernel
theorem dX12_add_43 : decode cX12_add 43 = .ok (.iload_n 1, 1) := by decide +kernel
theorem dX12_add_44 : decode cX12_add 44 = .ok (.invokestatic 121, 3) := by decide +kernel
theorem dX12_add_47 : decode cX12_add 47 = .ok (.invokevirtual 130, 3) := by decide +kernel
theorem dX12_add_50 : decode cX12_add 50 = .ok (.ireturn, 1) := by decide +kernel
theorem dX12_take_0 : decode cX12_take 0 = .ok (.iload_n 1, 1) := by decide +kernel
theorem dX12_take_1 : decode cX12_take 1 = .ok (.invokestatic 118, 3) := by decide +kernel
theorem dX12_take_4 : decode cX12_take 4 = .ok (.ifCond .eq 10, 3) := by decide +kernel
theorem dX12_take_7 : decode cX12_take 7 = .ok (.iload_n 2, 1) := by decide +kernel
theorem dX12_take_8 : decode cX12_take 8 = .ok (.invokestatic 118, 3) := by decide +kernel
theorem dX12_take_11 : decode cX12_take 11 = .ok (.ifCond .ne 6, 3) := by decide +kernel
theorem dX12_take_14 : decode cX12_take 14 = .ok (.ldc 89, 2) := by decide +kernel
theorem dX12_take_16 : decode cX12_take 16 = .ok (.ireturn, 1) := by decide +kernel
theorem dX12_take_17 : decode cX12_take 17 = .ok (.aload_n 0, 1) := by decide +kernel
theorem dX12_take_18 : decode cX12_take 18 = .ok (.iload_n 1, 1) := by decide +kernel
theorem dX12_take_19 : decode cX12_take 19 = .ok (.invokestatic 121, 3) := by decide +kernel
theorem dX12_take_22 : decode cX12_take 22 = .ok (.iload_n 2, 1) := by decide +kernel
theorem dX12_take_23 : decode cX12_take 23 = .ok (.invokestatic 121, 3) := by decide +kernel
theorem dX12_take_26 : decode cX12_take 26 = .ok (.invokevirtual 133, 3) := by decide +kernel
theorem dX12_take_29 : decode cX12_take 29 = .ok (.aload_n 0, 1) := by decide +kernel
theorem dX12_take_30 : decode cX12_take 30 = .ok (.getfield 22, 3) := by decide +kernel
theorem dX12_take_33 : decode cX12_take 33 = .ok (.iload_n 1, 1) := by decide +kernel
theorem dX12_take_34 : decode cX12_take 34 = .ok (.invokestatic 121, 3) := by decide +kernel
theorem dX12_take_37 : decode cX12_take 37 = .ok (.iaload, 1) := by decide +kernel
theorem dX12_take_38 : decode cX12_take 38 = .ok (.ireturn, 1) := by decide +kernel
theorem dX12_join_0 : decode cX12_join 0 = .ok (.iload_n 1, 1) := by decide +kernel
theorem dX12_join_1 : decode cX12_join 1 = .ok (.invokestatic 118, 3) := by decide +kernel
theorem dX12_join_4 : decode cX12_join 4 = .ok (.ifCond .eq 24, 3) := by decide +kernel
theorem dX12_join_7 : decode cX12_join 7 = .ok (.iload_n 2, 1) := by decide +kernel
theorem dX12_join_8 : decode cX12_join 8 = .ok (.invokestatic 118, 3) := by decide +kernel
theorem dX12_join_11 : decode cX12_join 11 = .ok (.ifCond .eq 17, 3) := by decide +kernel
theorem dX12_join_14 : decode cX12_join 14 = .ok (.iload_n 3, 1) := by decide +kernel
theorem dX12_join_15 : decode cX12_join 15 = .ok (.i2l, 1) := by decide +kernel
theorem dX12_join_16 : decode cX12_join 16 = .ok (.ldc2_w 137, 3) := by decide +kernel
theorem dX12_join_19 : decode cX12_join 19 = .ok (.ldc2_w 139, 3) := by decide +kernel
theorem dX12_join_22 : decode cX12_join 22 = .ok (.invokestatic 79, 3) := by decide +kernel
theorem dX12_join_25 : decode cX12_join 25 = .ok (.ifCond .ne 6, 3) := by decide +kernel
theorem dX12_join_28 : decode cX12_join 28 = .ok (.ldc 89, 2) := by decide +kernel
theorem dX12_join_30 : decode cX12_join 30 = .ok (.ireturn, 1) := by decide +kernel
theorem dX12_join_31 : decode cX12_join 31 = .ok (.aload_n 0, 1) := by decide +kernel
theorem dX12_join_32 : decode cX12_join 32 = .ok (.iload_n 1, 1) := by decide +kernel
theorem dX12_join_33 : decode cX12_join 33 = .ok (.invokestatic 121, 3) := by decide +kernel
theorem dX12_join_36 : decode cX12_join 36 = .ok (.iload_n 2, 1) := by decide +kernel
theorem dX12_join_37 : decode cX12_join 37 = .ok (.invokestatic 121, 3) := by decide +kernel
theorem dX12_join_40 : decode cX12_join 40 = .ok (.iload_n 3, 1) := by decide +kernel
theorem dX12_join_41 : decode cX12_join 41 = .ok (.invokevirtual 141, 3) := by decide +kernel
theorem dX12_join_44 : decode cX12_join 44 = .ok (.ifCond .eq 15, 3) := by decide +kernel
theorem dX12_join_47 : decode cX12_join 47 = .ok (.aload_n 0, 1) := by decide +kernel
theorem dX12_join_48 : decode cX12_join 48 = .ok (.getfield 22, 3) := by decide +kernel
theorem dX12_join_51 : decode cX12_join 51 = .ok (.iload_n 1, 1) := by decide +kernel
theorem dX12_join_52 : decode cX12_join 52 = .ok (.invokestatic 121, 3) := by decide +kernel
theorem dX12_join_55 : decode cX12_join 55 = .ok (.iaload, 1) := by decide +kernel
theorem dX12_join_56 : decode cX12_join 56 = .ok (.goto 5, 3) := by decide +kernel
theorem dX12_join_59 : decode cX12_join 59 = .ok (.ldc 117, 2) := by decide +kernel
theorem dX12_join_61 : decode cX12_join 61 = .ok (.ireturn, 1) := by decide +kernel
theorem dX12_joined_0 : decode cX12_joined 0 = .ok (.aload_n 0, 1) := by decide +kernel
theorem dX12_joined_1 : decode cX12_joined 1 = .ok (.iconst 0, 1) := by decide +kernel
theorem dX12_joined_2 : decode cX12_joined 2 = .ok (.putfield 97, 3) := by decide +kernel
theorem dX12_joined_5 : decode cX12_joined 5 = .ok (.aload_n 0, 1) := by decide +kernel
theorem dX12_joined_6 : decode cX12_joined 6 = .ok (.iload_n 1, 1) := by decide +kernel
theorem dX12_joined_7 : decode cX12_joined 7 = .ok (.lconst 1, 1) := by decide +kernel
theorem dX12_joined_8 : decode cX12_joined 8 = .ok (.invokevirtual 127, 3) := by decide +kernel
theorem dX12_joined_11 : decode cX12_joined 11 = .ok (.aload_n 0, 1) := by decide +kernel
theorem dX12_joined_12 : decode cX12_joined 12 = .ok (.iload_n 2, 1) := by decide +kernel
theorem dX12_joined_13 : decode cX12_joined 13 = .ok (.iload_n 3, 1) := by decide +kernel
theorem dX12_joined_14 : decode cX12_joined 14 = .ok (.i2l, 1) := by decide +kernel
theorem dX12_joined_15 : decode cX12_joined 15 = .ok (.invokevirtual 127, 3) := by decide +kernel
theorem dX12_joined_18 : decode cX12_joined 18 = .ok (.aload_n 0, 1) := by decide +kernel
theorem dX12_joined_19 : decode cX12_joined 19 = .ok (.iload_n 1, 1) := by decide +kernel
theorem dX12_joined_20 : decode cX12_joined 20 = .ok (.invokevirtual 114, 3) := by decide +kernel
theorem dX12_joined_23 : decode cX12_joined 23 = .ok (.ireturn, 1) := by decide +kernel
theorem dX12_fits_0 : decode cX12_fits 0 = .ok (.iconst 0, 1) := by decide +kernel
theorem dX12_fits_1 : decode cX12_fits 1 = .ok (.istore_n 3, 1) := by decide +kernel
theorem dX12_fits_2 : decode cX12_fits 2 = .ok (.iconst 0, 1) := by decide +kernel
theorem dX12_fits_3 : decode cX12_fits 3 = .ok (.istore 4, 2) := by decide +kernel
theorem dX12_fits_5 : decode cX12_fits 5 = .ok (.iload 4, 2) := by decide +kernel
theorem dX12_fits_7 : decode cX12_fits 7 = .ok (.aload_n 0, 1) := by decide +kernel
theorem dX12_fits_8 : decode cX12_fits 8 = .ok (.getfield 67, 3) := by decide +kernel
theorem dX12_fits_11 : decode cX12_fits 11 = .ok (.if_icmp .ge 54, 3) := by decide +kernel
theorem dX12_fits_14 : decode cX12_fits 14 = .ok (.iload_n 1, 1) := by decide +kernel
theorem dX12_fits_15 : decode cX12_fits 15 = .ok (.iconst 2, 1) := by decide +kernel
theorem dX12_fits_16 : decode cX12_fits 16 = .ok (.iload 4, 2) := by decide +kernel
theorem dX12_fits_18 : decode cX12_fits 18 = .ok (.imul, 1) := by decide +kernel
theorem dX12_fits_19 : decode cX12_fits 19 = .ok (.ishr, 1) := by decide +kernel
theorem dX12_fits_20 : decode cX12_fits 20 = .ok (.iconst 3, 1) := by decide +kernel
theorem dX12_fits_21 : decode cX12_fits 21 = .ok (.iand, 1) := by decide +kernel
theorem dX12_fits_22 : decode cX12_fits 22 = .ok (.istore 5, 2) := by decide +kernel
theorem dX12_fits_24 : decode cX12_fits 24 = .ok (.iload_n 2, 1) := by decide +kernel
theorem dX12_fits_25 : decode cX12_fits 25 = .ok (.iconst 2, 1) := by decide +kernel
theorem dX12_fits_26 : decode cX12_fits 26 = .ok (.iload 4, 2) := by decide +kernel
theorem dX12_fits_28 : decode cX12_fits 28 = .ok (.imul, 1) := by decide +kernel
theorem dX12_fits_29 : decode cX12_fits 29 = .ok (.ishr, 1) := by decide +kernel
theorem dX12_fits_30 : decode cX12_fits 30 = .ok (.iconst 3, 1) := by decide +kernel
theorem dX12_fits_31 : decode cX12_fits 31 = .ok (.iand, 1) := by decide +kernel
theorem dX12_fits_32 : decode cX12_fits 32 = .ok (.istore 6, 2) := by decide +kernel
theorem dX12_fits_34 : decode cX12_fits 34 = .ok (.iload_n 3, 1) := by decide +kernel
theorem dX12_fits_35 : decode cX12_fits 35 = .ok (.iload 5, 2) := by decide +kernel
theorem dX12_fits_37 : decode cX12_fits 37 = .ok (.ifCond .eq 19, 3) := by decide +kernel
theorem dX12_fits_40 : decode cX12_fits 40 = .ok (.iload 6, 2) := by decide +kernel
theorem dX12_fits_42 : decode cX12_fits 42 = .ok (.ifCond .eq 14, 3) := by decide +kernel
theorem dX12_fits_45 : decode cX12_fits 45 = .ok (.iload 5, 2) := by decide +kernel
theorem dX12_fits_47 : decode cX12_fits 47 = .ok (.iload 6, 2) := by decide +kernel
theorem dX12_fits_49 : decode cX12_fits 49 = .ok (.if_icmp .eq 7, 3) := by decide +kernel
theorem dX12_fits_52 : decode cX12_fits 52 = .ok (.iconst 1, 1) := by decide +kernel
theorem dX12_fits_53 : decode cX12_fits 53 = .ok (.goto 4, 3) := by decide +kernel
theorem dX12_fits_56 : decode cX12_fits 56 = .ok (.iconst 0, 1) := by decide +kernel
theorem dX12_fits_57 : decode cX12_fits 57 = .ok (.iadd, 1) := by decide +kernel
theorem dX12_fits_58 : decode cX12_fits 58 = .ok (.istore_n 3, 1) := by decide +kernel
theorem dX12_fits_59 : decode cX12_fits 59 = .ok (.iinc 4 1, 3) := by decide +kernel
theorem dX12_fits_62 : decode cX12_fits 62 = .ok (.goto (-57), 3) := by decide +kernel
theorem dX12_fits_65 : decode cX12_fits 65 = .ok (.iload_n 3, 1) := by decide +kernel
theorem dX12_fits_66 : decode cX12_fits 66 = .ok (.iconst 2, 1) := by decide +kernel
theorem dX12_fits_67 : decode cX12_fits 67 = .ok (.irem, 1) := by decide +kernel
theorem dX12_fits_68 : decode cX12_fits 68 = .ok (.ifCond .ne 7, 3) := by decide +kernel
theorem dX12_fits_71 : decode cX12_fits 71 = .ok (.iconst 1, 1) := by decide +kernel
theorem dX12_fits_72 : decode cX12_fits 72 = .ok (.goto 4, 3) := by decide +kernel
theorem dX12_fits_75 : decode cX12_fits 75 = .ok (.iconst 0, 1) := by decide +kernel
theorem dX12_fits_76 : decode cX12_fits 76 = .ok (.ireturn, 1) := by decide +kernel
theorem dX12_with_0 : decode cX12_with 0 = .ok (.iconst 0, 1) := by decide +kernel
theorem dX12_with_1 : decode cX12_with 1 = .ok (.istore_n 3, 1) := by decide +kernel
theorem dX12_with_2 : decode cX12_with 2 = .ok (.iconst (-1), 1) := by decide +kernel
theorem dX12_with_3 : decode cX12_with 3 = .ok (.istore 4, 2) := by decide +kernel
theorem dX12_with_5 : decode cX12_with 5 = .ok (.iconst 0, 1) := by decide +kernel
theorem dX12_with_6 : decode cX12_with 6 = .ok (.istore 5, 2) := by decide +kernel
theorem dX12_with_8 : decode cX12_with 8 = .ok (.iload 5, 2) := by decide +kernel
theorem dX12_with_10 : decode cX12_with 10 = .ok (.aload_n 0, 1) := by decide +kernel
theorem dX12_with_11 : decode cX12_with 11 = .ok (.getfield 67, 3) := by decide +kernel
theorem dX12_with_14 : decode cX12_with 14 = .ok (.if_icmp .ge 120, 3) := by decide +kernel
theorem dX12_with_17 : decode cX12_with 17 = .ok (.iload_n 1, 1) := by decide +kernel
theorem dX12_with_18 : decode cX12_with 18 = .ok (.iconst 2, 1) := by decide +kernel
theorem dX12_with_19 : decode cX12_with 19 = .ok (.iload 5, 2) := by decide +kernel
theorem dX12_with_21 : decode cX12_with 21 = .ok (.imul, 1) := by decide +kernel
theorem dX12_with_22 : decode cX12_with 22 = .ok (.ishr, 1) := by decide +kernel
theorem dX12_with_23 : decode cX12_with 23 = .ok (.iconst 3, 1) := by decide +kernel
theorem dX12_with_24 : decode cX12_with 24 = .ok (.iand, 1) := by decide +kernel
theorem dX12_with_25 : decode cX12_with 25 = .ok (.istore 6, 2) := by decide +kernel
theorem dX12_with_27 : decode cX12_with 27 = .ok (.iload_n 2, 1) := by decide +kernel
theorem dX12_with_28 : decode cX12_with 28 = .ok (.iconst 2, 1) := by decide +kernel
theorem dX12_with_29 : decode cX12_with 29 = .ok (.iload 5, 2) := by decide +kernel
theorem dX12_with_31 : decode cX12_with 31 = .ok (.imul, 1) := by decide +kernel
theorem dX12_with_32 : decode cX12_with 32 = .ok (.ishr, 1) := by decide +kernel
theorem dX12_with_33 : decode cX12_with 33 = .ok (.iconst 3, 1) := by decide +kernel
theorem dX12_with_34 : decode cX12_with 34 = .ok (.iand, 1) := by decide +kernel
theorem dX12_with_35 : decode cX12_with 35 = .ok (.istore 7, 2) := by decide +kernel
theorem dX12_with_37 : decode cX12_with 37 = .ok (.iload 6, 2) := by decide +kernel
theorem dX12_with_39 : decode cX12_with 39 = .ok (.ifCond .ne 8, 3) := by decide +kernel
theorem dX12_with_42 : decode cX12_with 42 = .ok (.iload 7, 2) := by decide +kernel
theorem dX12_with_44 : decode cX12_with 44 = .ok (.goto 32, 3) := by decide +kernel
theorem dX12_with_47 : decode cX12_with 47 = .ok (.iload 7, 2) := by decide +kernel
theorem dX12_with_49 : decode cX12_with 49 = .ok (.ifCond .ne 8, 3) := by decide +kernel
theorem dX12_with_52 : decode cX12_with 52 = .ok (.iload 6, 2) := by decide +kernel
theorem dX12_with_54 : decode cX12_with 54 = .ok (.goto 22, 3) := by decide +kernel
theorem dX12_with_57 : decode cX12_with 57 = .ok (.iload 6, 2) := by decide +kernel
theorem dX12_with_59 : decode cX12_with 59 = .ok (.iload 7, 2) := by decide +kernel
theorem dX12_with_61 : decode cX12_with 61 = .ok (.if_icmp .ne 7, 3) := by decide +kernel
theorem dX12_with_64 : decode cX12_with 64 = .ok (.iconst 0, 1) := by decide +kernel
theorem dX12_with_65 : decode cX12_with 65 = .ok (.goto 11, 3) := by decide +kernel
theorem dX12_with_68 : decode cX12_with 68 = .ok (.bipush 6, 2) := by decide +kernel
theorem dX12_with_70 : decode cX12_with 70 = .ok (.iload 6, 2) := by decide +kernel
theorem dX12_with_72 : decode cX12_with 72 = .ok (.isub, 1) := by decide +kernel
theorem dX12_with_73 : decode cX12_with 73 = .ok (.iload 7, 2) := by decide +kernel
theorem dX12_with_75 : decode cX12_with 75 = .ok (.isub, 1) := by decide +kernel
theorem dX12_with_76 : decode cX12_with 76 = .ok (.istore 8, 2) := by decide +kernel
theorem dX12_with_78 : decode cX12_with 78 = .ok (.iload_n 3, 1) := by decide +kernel
theorem dX12_with_79 : decode cX12_with 79 = .ok (.iload 8, 2) := by decide +kernel
theorem dX12_with_81 : decode cX12_with 81 = .ok (.iconst 2, 1) := by decide +kernel
theorem dX12_with_82 : decode cX12_with 82 = .ok (.iload 5, 2) := by decide +kernel
theorem dX12_with_84 : decode cX12_with 84 = .ok (.imul, 1) := by decide +kernel
theorem dX12_with_85 : decode cX12_with 85 = .ok (.ishl, 1) := by decide +kernel
theorem dX12_with_86 : decode cX12_with 86 = .ok (.ior, 1) := by decide +kernel
theorem dX12_with_87 : decode cX12_with 87 = .ok (.istore_n 3, 1) := by decide +kernel
theorem dX12_with_88 : decode cX12_with 88 = .ok (.iload 6, 2) := by decide +kernel
theorem dX12_with_90 : decode cX12_with 90 = .ok (.ifCond .eq 38, 3) := by decide +kernel
theorem dX12_with_93 : decode cX12_with 93 = .ok (.iload 7, 2) := by decide +kernel
theorem dX12_with_95 : decode cX12_with 95 = .ok (.ifCond .eq 33, 3) := by decide +kernel
theorem dX12_with_98 : decode cX12_with 98 = .ok (.iload 6, 2) := by decide +kernel
theorem dX12_with_100 : decode cX12_with 100 = .ok (.iload 7, 2) := by decide +kernel
theorem dX12_with_102 : decode cX12_with 102 = .ok (.if_icmp .eq 26, 3) := by decide +kernel
theorem dX12_with_105 : decode cX12_with 105 = .ok (.iload 4, 2) := by decide +kernel
theorem dX12_with_107 : decode cX12_with 107 = .ok (.iload 7, 2) := by decide +kernel
theorem dX12_with_109 : decode cX12_with 109 = .ok (.iload 6, 2) := by decide +kernel
theorem dX12_with_111 : decode cX12_with 111 = .ok (.isub, 1) := by decide +kernel
theorem dX12_with_112 : decode cX12_with 112 = .ok (.iconst 3, 1) := by decide +kernel
theorem dX12_with_113 : decode cX12_with 113 = .ok (.iadd, 1) := by decide +kernel
theorem dX12_with_114 : decode cX12_with 114 = .ok (.iconst 3, 1) := by decide +kernel
theorem dX12_with_115 : decode cX12_with 115 = .ok (.irem, 1) := by decide +kernel
theorem dX12_with_116 : decode cX12_with 116 = .ok (.iconst 1, 1) := by decide +kernel
theorem dX12_with_117 : decode cX12_with 117 = .ok (.if_icmp .ne 7, 3) := by decide +kernel
theorem dX12_with_120 : decode cX12_with 120 = .ok (.iconst 1, 1) := by decide +kernel
theorem dX12_with_121 : decode cX12_with 121 = .ok (.goto 4, 3) := by decide +kernel
theorem dX12_with_124 : decode cX12_with 124 = .ok (.iconst (-1), 1) := by decide +kernel
theorem dX12_with_125 : decode cX12_with 125 = .ok (.iadd, 1) := by decide +kernel
theorem dX12_with_126 : decode cX12_with 126 = .ok (.istore 4, 2) := by decide +kernel
theorem dX12_with_128 : decode cX12_with 128 = .ok (.iinc 5 1, 3) := by decide +kernel
theorem dX12_with_131 : decode cX12_with 131 = .ok (.goto (-123), 3) := by decide +kernel
theorem dX12_with_134 : decode cX12_with 134 = .ok (.aload_n 0, 1) := by decide +kernel
theorem dX12_with_135 : decode cX12_with 135 = .ok (.iload 4, 2) := by decide +kernel
theorem dX12_with_137 : decode cX12_with 137 = .ok (.iconst 4, 1) := by decide +kernel
theorem dX12_with_138 : decode cX12_with 138 = .ok (.irem, 1) := by decide +kernel
theorem dX12_with_139 : decode cX12_with 139 = .ok (.iconst 4, 1) := by decide +kernel
theorem dX12_with_140 : decode cX12_with 140 = .ok (.iadd, 1) := by decide +kernel
theorem dX12_with_141 : decode cX12_with 141 = .ok (.iconst 4, 1) := by decide +kernel
theorem dX12_with_142 : decode cX12_with 142 = .ok (.irem, 1) := by decide +kernel
theorem dX12_with_143 : decode cX12_with 143 = .ok (.ifCond .ne 7, 3) := by decide +kernel
theorem dX12_with_146 : decode cX12_with 146 = .ok (.iconst 1, 1) := by decide +kernel
theorem dX12_with_147 : decode cX12_with 147 = .ok (.goto 4, 3) := by decide +kernel
theorem dX12_with_150 : decode cX12_with 150 = .ok (.iconst (-1), 1) := by decide +kernel
theorem dX12_with_151 : decode cX12_with 151 = .ok (.putfield 145, 3) := by decide +kernel
theorem dX12_with_154 : decode cX12_with 154 = .ok (.iload_n 3, 1) := by decide +kernel
theorem dX12_with_155 : decode cX12_with 155 = .ok (.ireturn, 1) := by decide +kernel
theorem dX12_turnQuarter_0 : decode cX12_turnQuarter 0 = .ok (.aload_n 0, 1) := by decide +kernel
theorem dX12_turnQuarter_1 : decode cX12_turnQuarter 1 = .ok (.iconst 0, 1) := by decide +kernel
theorem dX12_turnQuarter_2 : decode cX12_turnQuarter 2 = .ok (.putfield 97, 3) := by decide +kernel
theorem dX12_turnQuarter_5 : decode cX12_turnQuarter 5 = .ok (.iconst 0, 1) := by decide +kernel
theorem dX12_turnQuarter_6 : decode cX12_turnQuarter 6 = .ok (.istore_n 3, 1) := by decide +kernel
theorem dX12_turnQuarter_7 : decode cX12_turnQuarter 7 = .ok (.iload_n 3, 1) := by decide +kernel
theorem dX12_turnQuarter_8 : decode cX12_turnQuarter 8 = .ok (.aload_n 0, 1) := by decide +kernel
theorem dX12_turnQuarter_9 : decode cX12_turnQuarter 9 = .ok (.getfield 22, 3) := by decide +kernel
theorem dX12_turnQuarter_12 : decode cX12_turnQuarter 12 = .ok (.bipush 8, 2) := by decide +kernel
theorem dX12_turnQuarter_14 : decode cX12_turnQuarter 14 = .ok (.iaload, 1) := by decide +kernel
theorem dX12_turnQuarter_15 : decode cX12_turnQuarter 15 = .ok (.if_icmp .ge 130, 3) := by decide +kernel
theorem dX12_turnQuarter_18 : decode cX12_turnQuarter 18 = .ok (.aload_n 0, 1) := by decide +kernel
theorem dX12_turnQuarter_19 : decode cX12_turnQuarter 19 = .ok (.getfield 25, 3) := by decide +kernel
theorem dX12_turnQuarter_22 : decode cX12_turnQuarter 22 = .ok (.sipush 2400, 3) := by decide +kernel
theorem dX12_turnQuarter_25 : decode cX12_turnQuarter 25 = .ok (.iload_n 3, 1) := by decide +kernel
theorem dX12_turnQuarter_26 : decode cX12_turnQuarter 26 = .ok (.iadd, 1) := by decide +kernel
theorem dX12_turnQuarter_27 : decode cX12_turnQuarter 27 = .ok (.iaload, 1) := by decide +kernel
theorem dX12_turnQuarter_28 : decode cX12_turnQuarter 28 = .ok (.istore 4, 2) := by decide +kernel
theorem dX12_turnQuarter_30 : decode cX12_turnQuarter 30 = .ok (.aload_n 0, 1) := by decide +kernel
theorem dX12_turnQuarter_31 : decode cX12_turnQuarter 31 = .ok (.getfield 28, 3) := by decide +kernel
theorem dX12_turnQuarter_34 : decode cX12_turnQuarter 34 = .ok (.sipush 2400, 3) := by decide +kernel
theorem dX12_turnQuarter_37 : decode cX12_turnQuarter 37 = .ok (.iload_n 3, 1) := by decide +kernel
theorem dX12_turnQuarter_38 : decode cX12_turnQuarter 38 = .ok (.iadd, 1) := by decide +kernel
theorem dX12_turnQuarter_39 : decode cX12_turnQuarter 39 = .ok (.laload, 1) := by decide +kernel
theorem dX12_turnQuarter_40 : decode cX12_turnQuarter 40 = .ok (.lstore 5, 2) := by decide +kernel
theorem dX12_turnQuarter_42 : decode cX12_turnQuarter 42 = .ok (.aload_n 0, 1) := by decide +kernel
theorem dX12_turnQuarter_43 : decode cX12_turnQuarter 43 = .ok (.iload_n 1, 1) := by decide +kernel
theorem dX12_turnQuarter_44 : decode cX12_turnQuarter 44 = .ok (.iload 4, 2) := by decide +kernel
theorem dX12_turnQuarter_46 : decode cX12_turnQuarter 46 = .ok (.invokestatic 148, 3) := by decide +kernel
theorem dX12_turnQuarter_49 : decode cX12_turnQuarter 49 = .ok (.invokevirtual 151, 3) := by decide +kernel
theorem dX12_turnQuarter_52 : decode cX12_turnQuarter 52 = .ok (.ifCond .ne 7, 3) := by decide +kernel
theorem dX12_turnQuarter_55 : decode cX12_turnQuarter 55 = .ok (.iload_n 2, 1) := by decide +kernel
theorem dX12_turnQuarter_56 : decode cX12_turnQuarter 56 = .ok (.ifCond .ne 14, 3) := by decide +kernel
theorem dX12_turnQuarter_59 : decode cX12_turnQuarter 59 = .ok (.aload_n 0, 1) := by decide +kernel
theorem dX12_turnQuarter_60 : decode cX12_turnQuarter 60 = .ok (.iload 4, 2) := by decide +kernel
theorem dX12_turnQuarter_62 : decode cX12_turnQuarter 62 = .ok (.lload 5, 2) := by decide +kernel
theorem dX12_turnQuarter_64 : decode cX12_turnQuarter 64 = .ok (.invokevirtual 110, 3) := by decide +kernel
theorem dX12_turnQuarter_67 : decode cX12_turnQuarter 67 = .ok (.goto 72, 3) := by decide +kernel
theorem dX12_turnQuarter_70 : decode cX12_turnQuarter 70 = .ok (.iload_n 2, 1) := by decide +kernel
theorem dX12_turnQuarter_71 : decode cX12_turnQuarter 71 = .ok (.iconst 2, 1) := by decide +kernel
theorem dX12_turnQuarter_72 : decode cX12_turnQuarter 72 = .ok (.if_icmp .ne 15, 3) := by decide +kernel
theorem dX12_turnQuarter_75 : decode cX12_turnQuarter 75 = .ok (.aload_n 0, 1) := by decide +kernel
theorem dX12_turnQuarter_76 : decode cX12_turnQuarter 76 = .ok (.iload 4, 2) := by decide +kernel
theorem dX12_turnQuarter_78 : decode cX12_turnQuarter 78 = .ok (.lload 5, 2) := by decide +kernel
theorem dX12_turnQuarter_80 : decode cX12_turnQuarter 80 = .ok (.lneg, 1) := by decide +kernel
theorem dX12_turnQuarter_81 : decode cX12_turnQuarter 81 = .ok (.invokevirtual 110, 3) := by decide +kernel
theorem dX12_turnQuarter_84 : decode cX12_turnQuarter 84 = .ok (.goto 55, 3) := by decide +kernel
theorem dX12_turnQuarter_87 : decode cX12_turnQuarter 87 = .ok (.aload_n 0, 1) := by decide +kernel
theorem dX12_turnQuarter_88 : decode cX12_turnQuarter 88 = .ok (.iload_n 1, 1) := by decide +kernel
theorem dX12_turnQuarter_89 : decode cX12_turnQuarter 89 = .ok (.iload 4, 2) := by decide +kernel
theorem dX12_turnQuarter_91 : decode cX12_turnQuarter 91 = .ok (.invokestatic 148, 3) := by decide +kernel
theorem dX12_turnQuarter_94 : decode cX12_turnQuarter 94 = .ok (.invokevirtual 155, 3) := by decide +kernel
theorem dX12_turnQuarter_97 : decode cX12_turnQuarter 97 = .ok (.bipush 20, 2) := by decide +kernel
theorem dX12_turnQuarter_99 : decode cX12_turnQuarter 99 = .ok (.ishl, 1) := by decide +kernel
theorem dX12_turnQuarter_100 : decode cX12_turnQuarter 100 = .ok (.iload 4, 2) := by decide +kernel
theorem dX12_turnQuarter_102 : decode cX12_turnQuarter 102 = .ok (.ldc 158, 2) := by decide +kernel
theorem dX12_turnQuarter_104 : decode cX12_turnQuarter 104 = .ok (.iand, 1) := by decide +kernel
theorem dX12_turnQuarter_105 : decode cX12_turnQuarter 105 = .ok (.ior, 1) := by decide +kernel
theorem dX12_turnQuarter_106 : decode cX12_turnQuarter 106 = .ok (.istore 7, 2) := by decide +kernel
theorem dX12_turnQuarter_108 : decode cX12_turnQuarter 108 = .ok (.aload_n 0, 1) := by decide +kernel
theorem dX12_turnQuarter_109 : decode cX12_turnQuarter 109 = .ok (.iload 7, 2) := by decide +kernel
theorem dX12_turnQuarter_111 : decode cX12_turnQuarter 111 = .ok (.iload_n 2, 1) := by decide +kernel
theorem dX12_turnQuarter_112 : decode cX12_turnQuarter 112 = .ok (.iconst 1, 1) := by decide +kernel
theorem dX12_turnQuarter_113 : decode cX12_turnQuarter 113 = .ok (.if_icmp .ne 14, 3) := by decide +kernel
theorem dX12_turnQuarter_116 : decode cX12_turnQuarter 116 = .ok (.aload_n 0, 1) := by decide +kernel
theorem dX12_turnQuarter_117 : decode cX12_turnQuarter 117 = .ok (.getfield 145, 3) := by decide +kernel
theorem dX12_turnQuarter_120 : decode cX12_turnQuarter 120 = .ok (.i2l, 1) := by decide +kernel
theorem dX12_turnQuarter_121 : decode cX12_turnQuarter 121 = .ok (.lload 5, 2) := by decide +kernel
theorem dX12_turnQuarter_123 : decode cX12_turnQuarter 123 = .ok (.lmul, 1) := by decide +kernel
theorem dX12_turnQuarter_124 : decode cX12_turnQuarter 124 = .ok (.goto 12, 3) := by decide +kernel
theorem dX12_turnQuarter_127 : decode cX12_turnQuarter 127 = .ok (.aload_n 0, 1) := by decide +kernel
theorem dX12_turnQuarter_128 : decode cX12_turnQuarter 128 = .ok (.getfield 145, 3) := by decide +kernel
theorem dX12_turnQuarter_131 : decode cX12_turnQuarter 131 = .ok (.ineg, 1) := by decide +kernel
theorem dX12_turnQuarter_132 : decode cX12_turnQuarter 132 = .ok (.i2l, 1) := by decide +kernel
theorem dX12_turnQuarter_133 : decode cX12_turnQuarter 133 = .ok (.lload 5, 2) := by decide +kernel
theorem dX12_turnQuarter_135 : decode cX12_turnQuarter 135 = .ok (.lmul, 1) := by decide +kernel
theorem dX12_turnQuarter_136 : decode cX12_turnQuarter 136 = .ok (.invokevirtual 110, 3) := by decide +kernel
theorem dX12_turnQuarter_139 : decode cX12_turnQuarter 139 = .ok (.iinc 3 1, 3) := by decide +kernel
theorem dX12_turnQuarter_142 : decode cX12_turnQuarter 142 = .ok (.goto (-135), 3) := by decide +kernel
theorem dX12_turnQuarter_145 : decode cX12_turnQuarter 145 = .ok (.aload_n 0, 1) := by decide +kernel
theorem dX12_turnQuarter_146 : decode cX12_turnQuarter 146 = .ok (.bipush 8, 2) := by decide +kernel
theorem dX12_turnQuarter_148 : decode cX12_turnQuarter 148 = .ok (.invokevirtual 114, 3) := by decide +kernel
theorem dX12_turnQuarter_151 : decode cX12_turnQuarter 151 = .ok (.istore_n 3, 1) := by decide +kernel
theorem dX12_turnQuarter_152 : decode cX12_turnQuarter 152 = .ok (.return_, 1) := by decide +kernel
theorem dX12_turnLetter_0 : decode cX12_turnLetter 0 = .ok (.aload_n 0, 1) := by decide +kernel
theorem dX12_turnLetter_1 : decode cX12_turnLetter 1 = .ok (.iconst 0, 1) := by decide +kernel
theorem dX12_turnLetter_2 : decode cX12_turnLetter 2 = .ok (.putfield 97, 3) := by decide +kernel
theorem dX12_turnLetter_5 : decode cX12_turnLetter 5 = .ok (.iconst 0, 1) := by decide +kernel
theorem dX12_turnLetter_6 : decode cX12_turnLetter 6 = .ok (.istore 4, 2) := by decide +kernel
theorem dX12_turnLetter_8 : decode cX12_turnLetter 8 = .ok (.iload 4, 2) := by decide +kernel
theorem dX12_turnLetter_10 : decode cX12_turnLetter 10 = .ok (.aload_n 0, 1) := by decide +kernel
theorem dX12_turnLetter_11 : decode cX12_turnLetter 11 = .ok (.getfield 22, 3) := by decide +kernel
theorem dX12_turnLetter_14 : decode cX12_turnLetter 14 = .ok (.bipush 8, 2) := by decide +kernel
theorem dX12_turnLetter_16 : decode cX12_turnLetter 16 = .ok (.iaload, 1) := by decide +kernel
theorem dX12_turnLetter_17 : decode cX12_turnLetter 17 = .ok (.if_icmp .ge 164, 3) := by decide +kernel
theorem dX12_turnLetter_20 : decode cX12_turnLetter 20 = .ok (.aload_n 0, 1) := by decide +kernel
theorem dX12_turnLetter_21 : decode cX12_turnLetter 21 = .ok (.getfield 25, 3) := by decide +kernel
theorem dX12_turnLetter_24 : decode cX12_turnLetter 24 = .ok (.sipush 2400, 3) := by decide +kernel
theorem dX12_turnLetter_27 : decode cX12_turnLetter 27 = .ok (.iload 4, 2) := by decide +kernel
theorem dX12_turnLetter_29 : decode cX12_turnLetter 29 = .ok (.iadd, 1) := by decide +kernel
theorem dX12_turnLetter_30 : decode cX12_turnLetter 30 = .ok (.iaload, 1) := by decide +kernel
theorem dX12_turnLetter_31 : decode cX12_turnLetter 31 = .ok (.istore 5, 2) := by decide +kernel
theorem dX12_turnLetter_33 : decode cX12_turnLetter 33 = .ok (.aload_n 0, 1) := by decide +kernel
theorem dX12_turnLetter_34 : decode cX12_turnLetter 34 = .ok (.getfield 28, 3) := by decide +kernel
theorem dX12_turnLetter_37 : decode cX12_turnLetter 37 = .ok (.sipush 2400, 3) := by decide +kernel
theorem dX12_turnLetter_40 : decode cX12_turnLetter 40 = .ok (.iload 4, 2) := by decide +kernel
theorem dX12_turnLetter_42 : decode cX12_turnLetter 42 = .ok (.iadd, 1) := by decide +kernel
theorem dX12_turnLetter_43 : decode cX12_turnLetter 43 = .ok (.laload, 1) := by decide +kernel
theorem dX12_turnLetter_44 : decode cX12_turnLetter 44 = .ok (.lstore 6, 2) := by decide +kernel
theorem dX12_turnLetter_46 : decode cX12_turnLetter 46 = .ok (.aload_n 0, 1) := by decide +kernel
theorem dX12_turnLetter_47 : decode cX12_turnLetter 47 = .ok (.iload_n 1, 1) := by decide +kernel
theorem dX12_turnLetter_48 : decode cX12_turnLetter 48 = .ok (.iload 5, 2) := by decide +kernel
theorem dX12_turnLetter_50 : decode cX12_turnLetter 50 = .ok (.invokestatic 148, 3) := by decide +kernel
theorem dX12_turnLetter_53 : decode cX12_turnLetter 53 = .ok (.invokevirtual 151, 3) := by decide +kernel
theorem dX12_turnLetter_56 : decode cX12_turnLetter 56 = .ok (.ifCond .eq 14, 3) := by decide +kernel
theorem dX12_turnLetter_59 : decode cX12_turnLetter 59 = .ok (.aload_n 0, 1) := by decide +kernel
theorem dX12_turnLetter_60 : decode cX12_turnLetter 60 = .ok (.iload 5, 2) := by decide +kernel
theorem dX12_turnLetter_62 : decode cX12_turnLetter 62 = .ok (.lload 6, 2) := by decide +kernel
theorem dX12_turnLetter_64 : decode cX12_turnLetter 64 = .ok (.invokevirtual 110, 3) := by decide +kernel
theorem dX12_turnLetter_67 : decode cX12_turnLetter 67 = .ok (.goto 108, 3) := by decide +kernel
theorem dX12_turnLetter_70 : decode cX12_turnLetter 70 = .ok (.aload_n 0, 1) := by decide +kernel
theorem dX12_turnLetter_71 : decode cX12_turnLetter 71 = .ok (.iload 5, 2) := by decide +kernel
theorem dX12_turnLetter_73 : decode cX12_turnLetter 73 = .ok (.iload_n 2, 1) := by decide +kernel
theorem dX12_turnLetter_74 : decode cX12_turnLetter 74 = .ok (.invokestatic 159, 3) := by decide +kernel
theorem dX12_turnLetter_77 : decode cX12_turnLetter 77 = .ok (.iadd, 1) := by decide +kernel
theorem dX12_turnLetter_78 : decode cX12_turnLetter 78 = .ok (.lload 6, 2) := by decide +kernel
theorem dX12_turnLetter_80 : decode cX12_turnLetter 80 = .ok (.invokevirtual 110, 3) := by decide +kernel
theorem dX12_turnLetter_83 : decode cX12_turnLetter 83 = .ok (.aload_n 0, 1) := by decide +kernel
theorem dX12_turnLetter_84 : decode cX12_turnLetter 84 = .ok (.iload_n 1, 1) := by decide +kernel
theorem dX12_turnLetter_85 : decode cX12_turnLetter 85 = .ok (.iload 5, 2) := by decide +kernel
theorem dX12_turnLetter_87 : decode cX12_turnLetter 87 = .ok (.invokestatic 148, 3) := by decide +kernel
theorem dX12_turnLetter_90 : decode cX12_turnLetter 90 = .ok (.invokevirtual 155, 3) := by decide +kernel
theorem dX12_turnLetter_93 : decode cX12_turnLetter 93 = .ok (.bipush 20, 2) := by decide +kernel
theorem dX12_turnLetter_95 : decode cX12_turnLetter 95 = .ok (.ishl, 1) := by decide +kernel
theorem dX12_turnLetter_96 : decode cX12_turnLetter 96 = .ok (.iload 5, 2) := by decide +kernel
theorem dX12_turnLetter_98 : decode cX12_turnLetter 98 = .ok (.ldc 158, 2) := by decide +kernel
theorem dX12_turnLetter_100 : decode cX12_turnLetter 100 = .ok (.iand, 1) := by decide +kernel
theorem dX12_turnLetter_101 : decode cX12_turnLetter 101 = .ok (.ior, 1) := by decide +kernel
theorem dX12_turnLetter_102 : decode cX12_turnLetter 102 = .ok (.istore 8, 2) := by decide +kernel
theorem dX12_turnLetter_104 : decode cX12_turnLetter 104 = .ok (.iload_n 3, 1) := by decide +kernel
theorem dX12_turnLetter_105 : decode cX12_turnLetter 105 = .ok (.aload_n 0, 1) := by decide +kernel
theorem dX12_turnLetter_106 : decode cX12_turnLetter 106 = .ok (.getfield 145, 3) := by decide +kernel
theorem dX12_turnLetter_109 : decode cX12_turnLetter 109 = .ok (.imul, 1) := by decide +kernel
theorem dX12_turnLetter_110 : decode cX12_turnLetter 110 = .ok (.i2l, 1) := by decide +kernel
theorem dX12_turnLetter_111 : decode cX12_turnLetter 111 = .ok (.lload 6, 2) := by decide +kernel
theorem dX12_turnLetter_113 : decode cX12_turnLetter 113 = .ok (.lmul, 1) := by decide +kernel
theorem dX12_turnLetter_114 : decode cX12_turnLetter 114 = .ok (.lstore 9, 2) := by decide +kernel
theorem dX12_turnLetter_116 : decode cX12_turnLetter 116 = .ok (.iload 5, 2) := by decide +kernel
theorem dX12_turnLetter_118 : decode cX12_turnLetter 118 = .ok (.iload_n 2, 1) := by decide +kernel
theorem dX12_turnLetter_119 : decode cX12_turnLetter 119 = .ok (.invokestatic 162, 3) := by decide +kernel
theorem dX12_turnLetter_122 : decode cX12_turnLetter 122 = .ok (.ifCond .ne 19, 3) := by decide +kernel
theorem dX12_turnLetter_125 : decode cX12_turnLetter 125 = .ok (.aload_n 0, 1) := by decide +kernel
theorem dX12_turnLetter_126 : decode cX12_turnLetter 126 = .ok (.iload 8, 2) := by decide +kernel
theorem dX12_turnLetter_128 : decode cX12_turnLetter 128 = .ok (.iload_n 2, 1) := by decide +kernel
theorem dX12_turnLetter_129 : decode cX12_turnLetter 129 = .ok (.invokestatic 165, 3) := by decide +kernel
theorem dX12_turnLetter_132 : decode cX12_turnLetter 132 = .ok (.iadd, 1) := by decide +kernel
theorem dX12_turnLetter_133 : decode cX12_turnLetter 133 = .ok (.lload 9, 2) := by decide +kernel
theorem dX12_turnLetter_135 : decode cX12_turnLetter 135 = .ok (.invokevirtual 110, 3) := by decide +kernel
theorem dX12_turnLetter_138 : decode cX12_turnLetter 138 = .ok (.goto 37, 3) := by decide +kernel
theorem dX12_turnLetter_141 : decode cX12_turnLetter 141 = .ok (.aload_n 0, 1) := by decide +kernel
theorem dX12_turnLetter_142 : decode cX12_turnLetter 142 = .ok (.iload 8, 2) := by decide +kernel
theorem dX12_turnLetter_144 : decode cX12_turnLetter 144 = .ok (.iload_n 2, 1) := by decide +kernel
theorem dX12_turnLetter_145 : decode cX12_turnLetter 145 = .ok (.invokestatic 165, 3) := by decide +kernel
theorem dX12_turnLetter_148 : decode cX12_turnLetter 148 = .ok (.isub, 1) := by decide +kernel
theorem dX12_turnLetter_149 : decode cX12_turnLetter 149 = .ok (.lload 9, 2) := by decide +kernel
theorem dX12_turnLetter_151 : decode cX12_turnLetter 151 = .ok (.invokevirtual 110, 3) := by decide +kernel
theorem dX12_turnLetter_154 : decode cX12_turnLetter 154 = .ok (.aload_n 0, 1) := by decide +kernel
theorem dX12_turnLetter_155 : decode cX12_turnLetter 155 = .ok (.iload 8, 2) := by decide +kernel
theorem dX12_turnLetter_157 : decode cX12_turnLetter 157 = .ok (.iload_n 2, 1) := by decide +kernel
theorem dX12_turnLetter_158 : decode cX12_turnLetter 158 = .ok (.invokestatic 165, 3) := by decide +kernel
theorem dX12_turnLetter_161 : decode cX12_turnLetter 161 = .ok (.isub, 1) := by decide +kernel
theorem dX12_turnLetter_162 : decode cX12_turnLetter 162 = .ok (.iconst 2, 1) := by decide +kernel
theorem dX12_turnLetter_163 : decode cX12_turnLetter 163 = .ok (.iload_n 2, 1) := by decide +kernel
theorem dX12_turnLetter_164 : decode cX12_turnLetter 164 = .ok (.invokestatic 159, 3) := by decide +kernel
theorem dX12_turnLetter_167 : decode cX12_turnLetter 167 = .ok (.imul, 1) := by decide +kernel
theorem dX12_turnLetter_168 : decode cX12_turnLetter 168 = .ok (.iadd, 1) := by decide +kernel
theorem dX12_turnLetter_169 : decode cX12_turnLetter 169 = .ok (.lload 9, 2) := by decide +kernel
theorem dX12_turnLetter_171 : decode cX12_turnLetter 171 = .ok (.lneg, 1) := by decide +kernel
theorem dX12_turnLetter_172 : decode cX12_turnLetter 172 = .ok (.invokevirtual 110, 3) := by decide +kernel
theorem dX12_turnLetter_175 : decode cX12_turnLetter 175 = .ok (.iinc 4 1, 3) := by decide +kernel
theorem dX12_turnLetter_178 : decode cX12_turnLetter 178 = .ok (.goto (-170), 3) := by decide +kernel
theorem dX12_turnLetter_181 : decode cX12_turnLetter 181 = .ok (.aload_n 0, 1) := by decide +kernel
theorem dX12_turnLetter_182 : decode cX12_turnLetter 182 = .ok (.bipush 8, 2) := by decide +kernel
theorem dX12_turnLetter_184 : decode cX12_turnLetter 184 = .ok (.invokevirtual 114, 3) := by decide +kernel
theorem dX12_turnLetter_187 : decode cX12_turnLetter 187 = .ok (.ireturn, 1) := by decide +kernel
theorem dX12_quarter_0 : decode cX12_quarter 0 = .ok (.aload_n 0, 1) := by decide +kernel
theorem dX12_quarter_1 : decode cX12_quarter 1 = .ok (.iload_n 1, 1) := by decide +kernel
theorem dX12_quarter_2 : decode cX12_quarter 2 = .ok (.invokevirtual 124, 3) := by decide +kernel
theorem dX12_quarter_5 : decode cX12_quarter 5 = .ok (.ifCond .eq 15, 3) := by decide +kernel
theorem dX12_quarter_8 : decode cX12_quarter 8 = .ok (.iload_n 2, 1) := by decide +kernel
theorem dX12_quarter_9 : decode cX12_quarter 9 = .ok (.i2l, 1) := by decide +kernel
theorem dX12_quarter_10 : decode cX12_quarter 10 = .ok (.lconst 0, 1) := by decide +kernel
theorem dX12_quarter_11 : decode cX12_quarter 11 = .ok (.ldc2_w 139, 3) := by decide +kernel
theorem dX12_quarter_14 : decode cX12_quarter 14 = .ok (.invokestatic 79, 3) := by decide +kernel
theorem dX12_quarter_17 : decode cX12_quarter 17 = .ok (.ifCond .ne 6, 3) := by decide +kernel
theorem dX12_quarter_20 : decode cX12_quarter 20 = .ok (.ldc 89, 2) := by decide +kernel
theorem dX12_quarter_22 : decode cX12_quarter 22 = .ok (.ireturn, 1) := by decide +kernel
theorem dX12_quarter_23 : decode cX12_quarter 23 = .ok (.aload_n 0, 1) := by decide +kernel
theorem dX12_quarter_24 : decode cX12_quarter 24 = .ok (.iload_n 1, 1) := by decide +kernel
theorem dX12_quarter_25 : decode cX12_quarter 25 = .ok (.iload_n 2, 1) := by decide +kernel
theorem dX12_quarter_26 : decode cX12_quarter 26 = .ok (.invokevirtual 168, 3) := by decide +kernel
theorem dX12_quarter_29 : decode cX12_quarter 29 = .ok (.aload_n 0, 1) := by decide +kernel
theorem dX12_quarter_30 : decode cX12_quarter 30 = .ok (.getfield 22, 3) := by decide +kernel
theorem dX12_quarter_33 : decode cX12_quarter 33 = .ok (.bipush 8, 2) := by decide +kernel
theorem dX12_quarter_35 : decode cX12_quarter 35 = .ok (.iaload, 1) := by decide +kernel
theorem dX12_quarter_36 : decode cX12_quarter 36 = .ok (.ireturn, 1) := by decide +kernel
theorem dX12_isWay_0 : decode cX12_isWay 0 = .ok (.iload_n 0, 1) := by decide +kernel
theorem dX12_isWay_1 : decode cX12_isWay 1 = .ok (.iconst 1, 1) := by decide +kernel
theorem dX12_isWay_2 : decode cX12_isWay 2 = .ok (.if_icmp .eq 8, 3) := by decide +kernel
theorem dX12_isWay_5 : decode cX12_isWay 5 = .ok (.iload_n 0, 1) := by decide +kernel
theorem dX12_isWay_6 : decode cX12_isWay 6 = .ok (.iconst (-1), 1) := by decide +kernel
theorem dX12_isWay_7 : decode cX12_isWay 7 = .ok (.if_icmp .ne 7, 3) := by decide +kernel
theorem dX12_isWay_10 : decode cX12_isWay 10 = .ok (.iconst 1, 1) := by decide +kernel
theorem dX12_isWay_11 : decode cX12_isWay 11 = .ok (.goto 4, 3) := by decide +kernel
theorem dX12_isWay_14 : decode cX12_isWay 14 = .ok (.iconst 0, 1) := by decide +kernel
theorem dX12_isWay_15 : decode cX12_isWay 15 = .ok (.ireturn, 1) := by decide +kernel
theorem dX12_letter_0 : decode cX12_letter 0 = .ok (.aload_n 0, 1) := by decide +kernel
theorem dX12_letter_1 : decode cX12_letter 1 = .ok (.iload_n 1, 1) := by decide +kernel
theorem dX12_letter_2 : decode cX12_letter 2 = .ok (.invokevirtual 124, 3) := by decide +kernel
theorem dX12_letter_5 : decode cX12_letter 5 = .ok (.ifCond .eq 22, 3) := by decide +kernel
theorem dX12_letter_8 : decode cX12_letter 8 = .ok (.iload_n 2, 1) := by decide +kernel
theorem dX12_letter_9 : decode cX12_letter 9 = .ok (.i2l, 1) := by decide +kernel
theorem dX12_letter_10 : decode cX12_letter 10 = .ok (.lconst 0, 1) := by decide +kernel
theorem dX12_letter_11 : decode cX12_letter 11 = .ok (.ldc2_w 139, 3) := by decide +kernel
theorem dX12_letter_14 : decode cX12_letter 14 = .ok (.invokestatic 79, 3) := by decide +kernel
theorem dX12_letter_17 : decode cX12_letter 17 = .ok (.ifCond .eq 10, 3) := by decide +kernel
theorem dX12_letter_20 : decode cX12_letter 20 = .ok (.iload_n 3, 1) := by decide +kernel
theorem dX12_letter_21 : decode cX12_letter 21 = .ok (.invokestatic 171, 3) := by decide +kernel
theorem dX12_letter_24 : decode cX12_letter 24 = .ok (.ifCond .ne 6, 3) := by decide +kernel
theorem dX12_letter_27 : decode cX12_letter 27 = .ok (.ldc 89, 2) := by decide +kernel
theorem dX12_letter_29 : decode cX12_letter 29 = .ok (.ireturn, 1) := by decide +kernel
theorem dX12_letter_30 : decode cX12_letter 30 = .ok (.aload_n 0, 1) := by decide +kernel
theorem dX12_letter_31 : decode cX12_letter 31 = .ok (.iload_n 1, 1) := by decide +kernel
theorem dX12_letter_32 : decode cX12_letter 32 = .ok (.iload_n 2, 1) := by decide +kernel
theorem dX12_letter_33 : decode cX12_letter 33 = .ok (.iload_n 3, 1) := by decide +kernel
theorem dX12_letter_34 : decode cX12_letter 34 = .ok (.invokevirtual 174, 3) := by decide +kernel
theorem dX12_letter_37 : decode cX12_letter 37 = .ok (.ifCond .eq 13, 3) := by decide +kernel
theorem dX12_letter_40 : decode cX12_letter 40 = .ok (.aload_n 0, 1) := by decide +kernel
theorem dX12_letter_41 : decode cX12_letter 41 = .ok (.getfield 22, 3) := by decide +kernel
theorem dX12_letter_44 : decode cX12_letter 44 = .ok (.bipush 8, 2) := by decide +kernel
theorem dX12_letter_46 : decode cX12_letter 46 = .ok (.iaload, 1) := by decide +kernel
theorem dX12_letter_47 : decode cX12_letter 47 = .ok (.goto 5, 3) := by decide +kernel
theorem dX12_letter_50 : decode cX12_letter 50 = .ok (.ldc 117, 2) := by decide +kernel
theorem dX12_letter_52 : decode cX12_letter 52 = .ok (.ireturn, 1) := by decide +kernel
theorem dX12_terms_0 : decode cX12_terms 0 = .ok (.iload_n 1, 1) := by decide +kernel
theorem dX12_terms_1 : decode cX12_terms 1 = .ok (.invokestatic 118, 3) := by decide +kernel
theorem dX12_terms_4 : decode cX12_terms 4 = .ok (.ifCond .eq 15, 3) := by decide +kernel
theorem dX12_terms_7 : decode cX12_terms 7 = .ok (.aload_n 0, 1) := by decide +kernel
theorem dX12_terms_8 : decode cX12_terms 8 = .ok (.getfield 22, 3) := by decide +kernel
theorem dX12_terms_11 : decode cX12_terms 11 = .ok (.iload_n 1, 1) := by decide +kernel
theorem dX12_terms_12 : decode cX12_terms 12 = .ok (.invokestatic 121, 3) := by decide +kernel
theorem dX12_terms_15 : decode cX12_terms 15 = .ok (.iaload, 1) := by decide +kernel
theorem dX12_terms_16 : decode cX12_terms 16 = .ok (.goto 5, 3) := by decide +kernel
theorem dX12_terms_19 : decode cX12_terms 19 = .ok (.ldc 89, 2) := by decide +kernel
theorem dX12_terms_21 : decode cX12_terms 21 = .ok (.ireturn, 1) := by decide +kernel
theorem dX12_isTerm_0 : decode cX12_isTerm 0 = .ok (.iload_n 1, 1) := by decide +kernel
theorem dX12_isTerm_1 : decode cX12_isTerm 1 = .ok (.invokestatic 118, 3) := by decide +kernel
theorem dX12_isTerm_4 : decode cX12_isTerm 4 = .ok (.ifCond .eq 28, 3) := by decide +kernel
theorem dX12_isTerm_7 : decode cX12_isTerm 7 = .ok (.iload_n 2, 1) := by decide +kernel
theorem dX12_isTerm_8 : decode cX12_isTerm 8 = .ok (.i2l, 1) := by decide +kernel
theorem dX12_isTerm_9 : decode cX12_isTerm 9 = .ok (.lconst 0, 1) := by decide +kernel
theorem dX12_isTerm_10 : decode cX12_isTerm 10 = .ok (.aload_n 0, 1) := by decide +kernel
theorem dX12_isTerm_11 : decode cX12_isTerm 11 = .ok (.getfield 22, 3) := by decide +kernel
theorem dX12_isTerm_14 : decode cX12_isTerm 14 = .ok (.iload_n 1, 1) := by decide +kernel
theorem dX12_isTerm_15 : decode cX12_isTerm 15 = .ok (.invokestatic 121, 3) := by decide +kernel
theorem dX12_isTerm_18 : decode cX12_isTerm 18 = .ok (.iaload, 1) := by decide +kernel
theorem dX12_isTerm_19 : decode cX12_isTerm 19 = .ok (.iconst 1, 1) := by decide +kernel
theorem dX12_isTerm_20 : decode cX12_isTerm 20 = .ok (.isub, 1) := by decide +kernel
theorem dX12_isTerm_21 : decode cX12_isTerm 21 = .ok (.i2l, 1) := by decide +kernel
theorem dX12_isTerm_22 : decode cX12_isTerm 22 = .ok (.invokestatic 79, 3) := by decide +kernel
theorem dX12_isTerm_25 : decode cX12_isTerm 25 = .ok (.ifCond .eq 7, 3) := by decide +kernel
theorem dX12_isTerm_28 : decode cX12_isTerm 28 = .ok (.iconst 1, 1) := by decide +kernel
theorem dX12_isTerm_29 : decode cX12_isTerm 29 = .ok (.goto 4, 3) := by decide +kernel
theorem dX12_isTerm_32 : decode cX12_isTerm 32 = .ok (.iconst 0, 1) := by decide +kernel
theorem dX12_isTerm_33 : decode cX12_isTerm 33 = .ok (.ireturn, 1) := by decide +kernel
theorem dX12_number_0 : decode cX12_number 0 = .ok (.aload_n 0, 1) := by decide +kernel
theorem dX12_number_1 : decode cX12_number 1 = .ok (.iload_n 1, 1) := by decide +kernel
theorem dX12_number_2 : decode cX12_number 2 = .ok (.iload_n 2, 1) := by decide +kernel
theorem dX12_number_3 : decode cX12_number 3 = .ok (.invokevirtual 177, 3) := by decide +kernel
theorem dX12_number_6 : decode cX12_number 6 = .ok (.ifCond .eq 21, 3) := by decide +kernel
theorem dX12_number_9 : decode cX12_number 9 = .ok (.aload_n 0, 1) := by decide +kernel
theorem dX12_number_10 : decode cX12_number 10 = .ok (.getfield 28, 3) := by decide +kernel
theorem dX12_number_13 : decode cX12_number 13 = .ok (.sipush 300, 3) := by decide +kernel
theorem dX12_number_16 : decode cX12_number 16 = .ok (.iload_n 1, 1) := by decide +kernel
theorem dX12_number_17 : decode cX12_number 17 = .ok (.invokestatic 121, 3) := by decide +kernel
theorem dX12_number_20 : decode cX12_number 20 = .ok (.imul, 1) := by decide +kernel
theorem dX12_number_21 : decode cX12_number 21 = .ok (.iload_n 2, 1) := by decide +kernel
theorem dX12_number_22 : decode cX12_number 22 = .ok (.iadd, 1) := by decide +kernel
theorem dX12_number_23 : decode cX12_number 23 = .ok (.laload, 1) := by decide +kernel
theorem dX12_number_24 : decode cX12_number 24 = .ok (.goto 6, 3) := by decide +kernel
theorem dX12_number_27 : decode cX12_number 27 = .ok (.ldc2_w 180, 3) := by decide +kernel
theorem dX12_number_30 : decode cX12_number 30 = .ok (.lreturn, 1) := by decide +kernel
theorem dX12_powerOf_0 : decode cX12_powerOf 0 = .ok (.iload_n 1, 1) := by decide +kernel
theorem dX12_powerOf_1 : decode cX12_powerOf 1 = .ok (.ifCond .ge 10, 3) := by decide +kernel
theorem dX12_powerOf_4 : decode cX12_powerOf 4 = .ok (.iload_n 0, 1) := by decide +kernel
theorem dX12_powerOf_5 : decode cX12_powerOf 5 = .ok (.invokestatic 148, 3) := by decide +kernel
theorem dX12_powerOf_8 : decode cX12_powerOf 8 = .ok (.goto 26, 3) := by decide +kernel
theorem dX12_powerOf_11 : decode cX12_powerOf 11 = .ok (.iload_n 1, 1) := by decide +kernel
theorem dX12_powerOf_12 : decode cX12_powerOf 12 = .ok (.iconst 2, 1) := by decide +kernel
theorem dX12_powerOf_13 : decode cX12_powerOf 13 = .ok (.irem, 1) := by decide +kernel
theorem dX12_powerOf_14 : decode cX12_powerOf 14 = .ok (.ifCond .ne 13, 3) := by decide +kernel
theorem dX12_powerOf_17 : decode cX12_powerOf 17 = .ok (.iload_n 0, 1) := by decide +kernel
theorem dX12_powerOf_18 : decode cX12_powerOf 18 = .ok (.iload_n 1, 1) := by decide +kernel
theorem dX12_powerOf_19 : decode cX12_powerOf 19 = .ok (.iconst 2, 1) := by decide +kernel
theorem dX12_powerOf_20 : decode cX12_powerOf 20 = .ok (.idiv, 1) := by decide +kernel
theorem dX12_powerOf_21 : decode cX12_powerOf 21 = .ok (.invokestatic 106, 3) := by decide +kernel
theorem dX12_powerOf_24 : decode cX12_powerOf 24 = .ok (.goto 10, 3) := by decide +kernel
theorem dX12_powerOf_27 : decode cX12_powerOf 27 = .ok (.iload_n 0, 1) := by decide +kernel
theorem dX12_powerOf_28 : decode cX12_powerOf 28 = .ok (.iload_n 1, 1) := by decide +kernel
theorem dX12_powerOf_29 : decode cX12_powerOf 29 = .ok (.iconst 2, 1) := by decide +kernel
theorem dX12_powerOf_30 : decode cX12_powerOf 30 = .ok (.idiv, 1) := by decide +kernel
theorem dX12_powerOf_31 : decode cX12_powerOf 31 = .ok (.invokestatic 162, 3) := by decide +kernel
theorem dX12_powerOf_34 : decode cX12_powerOf 34 = .ok (.ireturn, 1) := by decide +kernel
theorem dX12_power_0 : decode cX12_power 0 = .ok (.aload_n 0, 1) := by decide +kernel
theorem dX12_power_1 : decode cX12_power 1 = .ok (.iload_n 1, 1) := by decide +kernel
theorem dX12_power_2 : decode cX12_power 2 = .ok (.iload_n 2, 1) := by decide +kernel
theorem dX12_power_3 : decode cX12_power 3 = .ok (.invokevirtual 177, 3) := by decide +kernel
theorem dX12_power_6 : decode cX12_power 6 = .ok (.ifCond .eq 39, 3) := by decide +kernel
theorem dX12_power_9 : decode cX12_power 9 = .ok (.iload_n 3, 1) := by decide +kernel
theorem dX12_power_10 : decode cX12_power 10 = .ok (.i2l, 1) := by decide +kernel
theorem dX12_power_11 : decode cX12_power 11 = .ok (.ldc2_w 100, 3) := by decide +kernel
theorem dX12_power_14 : decode cX12_power 14 = .ok (.ldc2_w 77, 3) := by decide +kernel
theorem dX12_power_17 : decode cX12_power 17 = .ok (.invokestatic 79, 3) := by decide +kernel
theorem dX12_power_20 : decode cX12_power 20 = .ok (.ifCond .eq 25, 3) := by decide +kernel
theorem dX12_power_23 : decode cX12_power 23 = .ok (.aload_n 0, 1) := by decide +kernel
theorem dX12_power_24 : decode cX12_power 24 = .ok (.getfield 25, 3) := by decide +kernel
theorem dX12_power_27 : decode cX12_power 27 = .ok (.sipush 300, 3) := by decide +kernel
theorem dX12_power_30 : decode cX12_power 30 = .ok (.iload_n 1, 1) := by decide +kernel
theorem dX12_power_31 : decode cX12_power 31 = .ok (.invokestatic 121, 3) := by decide +kernel
theorem dX12_power_34 : decode cX12_power 34 = .ok (.imul, 1) := by decide +kernel
theorem dX12_power_35 : decode cX12_power 35 = .ok (.iload_n 2, 1) := by decide +kernel
theorem dX12_power_36 : decode cX12_power 36 = .ok (.iadd, 1) := by decide +kernel
theorem dX12_power_37 : decode cX12_power 37 = .ok (.iaload, 1) := by decide +kernel
theorem dX12_power_38 : decode cX12_power 38 = .ok (.iload_n 3, 1) := by decide +kernel
theorem dX12_power_39 : decode cX12_power 39 = .ok (.invokestatic 182, 3) := by decide +kernel
theorem dX12_power_42 : decode cX12_power 42 = .ok (.goto 5, 3) := by decide +kernel
theorem dX12_power_45 : decode cX12_power 45 = .ok (.ldc 89, 2) := by decide +kernel
theorem dX12_power_47 : decode cX12_power 47 = .ok (.ireturn, 1) := by decide +kernel
theorem dX12_same_0 : decode cX12_same 0 = .ok (.iload_n 1, 1) := by decide +kernel
theorem dX12_same_1 : decode cX12_same 1 = .ok (.invokestatic 118, 3) := by decide +kernel
theorem dX12_same_4 : decode cX12_same 4 = .ok (.ifCond .eq 10, 3) := by decide +kernel
theorem dX12_same_7 : decode cX12_same 7 = .ok (.iload_n 2, 1) := by decide +kernel
theorem dX12_same_8 : decode cX12_same 8 = .ok (.invokestatic 118, 3) := by decide +kernel
theorem dX12_same_11 : decode cX12_same 11 = .ok (.ifCond .ne 6, 3) := by decide +kernel
theorem dX12_same_14 : decode cX12_same 14 = .ok (.ldc 89, 2) := by decide +kernel
theorem dX12_same_16 : decode cX12_same 16 = .ok (.ireturn, 1) := by decide +kernel
theorem dX12_same_17 : decode cX12_same 17 = .ok (.iload_n 1, 1) := by decide +kernel
theorem dX12_same_18 : decode cX12_same 18 = .ok (.invokestatic 121, 3) := by decide +kernel
theorem dX12_same_21 : decode cX12_same 21 = .ok (.istore_n 3, 1) := by decide +kernel
theorem dX12_same_22 : decode cX12_same 22 = .ok (.iload_n 2, 1) := by decide +kernel
theorem dX12_same_23 : decode cX12_same 23 = .ok (.invokestatic 121, 3) := by decide +kernel
theorem dX12_same_26 : decode cX12_same 26 = .ok (.istore 4, 2) := by decide +kernel
theorem dX12_same_28 : decode cX12_same 28 = .ok (.aload_n 0, 1) := by decide +kernel
theorem dX12_same_29 : decode cX12_same 29 = .ok (.getfield 22, 3) := by decide +kernel
theorem dX12_same_32 : decode cX12_same 32 = .ok (.iload_n 3, 1) := by decide +kernel
theorem dX12_same_33 : decode cX12_same 33 = .ok (.iaload, 1) := by decide +kernel
theorem dX12_same_34 : decode cX12_same 34 = .ok (.aload_n 0, 1) := by decide +kernel
theorem dX12_same_35 : decode cX12_same 35 = .ok (.getfield 22, 3) := by decide +kernel
theorem dX12_same_38 : decode cX12_same 38 = .ok (.iload 4, 2) := by decide +kernel
theorem dX12_same_40 : decode cX12_same 40 = .ok (.iaload, 1) := by decide +kernel
theorem dX12_same_41 : decode cX12_same 41 = .ok (.if_icmp .ne 7, 3) := by decide +kernel
theorem dX12_same_44 : decode cX12_same 44 = .ok (.iconst 1, 1) := by decide +kernel
theorem dX12_same_45 : decode cX12_same 45 = .ok (.goto 4, 3) := by decide +kernel
theorem dX12_same_48 : decode cX12_same 48 = .ok (.iconst 0, 1) := by decide +kernel
theorem dX12_same_49 : decode cX12_same 49 = .ok (.istore 5, 2) := by decide +kernel
theorem dX12_same_51 : decode cX12_same 51 = .ok (.iconst 0, 1) := by decide +kernel
theorem dX12_same_52 : decode cX12_same 52 = .ok (.istore 6, 2) := by decide +kernel
theorem dX12_same_54 : decode cX12_same 54 = .ok (.iload 6, 2) := by decide +kernel
theorem dX12_same_56 : decode cX12_same 56 = .ok (.aload_n 0, 1) := by decide +kernel
theorem dX12_same_57 : decode cX12_same 57 = .ok (.getfield 22, 3) := by decide +kernel
theorem dX12_same_60 : decode cX12_same 60 = .ok (.iload_n 3, 1) := by decide +kernel
theorem dX12_same_61 : decode cX12_same 61 = .ok (.iaload, 1) := by decide +kernel
theorem dX12_same_62 : decode cX12_same 62 = .ok (.if_icmp .ge 82, 3) := by decide +kernel
theorem dX12_same_65 : decode cX12_same 65 = .ok (.iload 5, 2) := by decide +kernel
theorem dX12_same_67 : decode cX12_same 67 = .ok (.ifCond .eq 77, 3) := by decide +kernel
theorem dX12_same_70 : decode cX12_same 70 = .ok (.aload_n 0, 1) := by decide +kernel
theorem dX12_same_71 : decode cX12_same 71 = .ok (.getfield 25, 3) := by decide +kernel
theorem dX12_same_74 : decode cX12_same 74 = .ok (.sipush 300, 3) := by decide +kernel
theorem dX12_same_77 : decode cX12_same 77 = .ok (.iload_n 3, 1) := by decide +kernel
theorem dX12_same_78 : decode cX12_same 78 = .ok (.imul, 1) := by decide +kernel
theorem dX12_same_79 : decode cX12_same 79 = .ok (.iload 6, 2) := by decide +kernel
theorem dX12_same_81 : decode cX12_same 81 = .ok (.iadd, 1) := by decide +kernel
theorem dX12_same_82 : decode cX12_same 82 = .ok (.iaload, 1) := by decide +kernel
theorem dX12_same_83 : decode cX12_same 83 = .ok (.aload_n 0, 1) := by decide +kernel
theorem dX12_same_84 : decode cX12_same 84 = .ok (.getfield 25, 3) := by decide +kernel
theorem dX12_same_87 : decode cX12_same 87 = .ok (.sipush 300, 3) := by decide +kernel
theorem dX12_same_90 : decode cX12_same 90 = .ok (.iload 4, 2) := by decide +kernel
theorem dX12_same_92 : decode cX12_same 92 = .ok (.imul, 1) := by decide +kernel
theorem dX12_same_93 : decode cX12_same 93 = .ok (.iload 6, 2) := by decide +kernel
theorem dX12_same_95 : decode cX12_same 95 = .ok (.iadd, 1) := by decide +kernel
theorem dX12_same_96 : decode cX12_same 96 = .ok (.iaload, 1) := by decide +kernel
theorem dX12_same_97 : decode cX12_same 97 = .ok (.if_icmp .ne 38, 3) := by decide +kernel
theorem dX12_same_100 : decode cX12_same 100 = .ok (.aload_n 0, 1) := by decide +kernel
theorem dX12_same_101 : decode cX12_same 101 = .ok (.getfield 28, 3) := by decide +kernel
theorem dX12_same_104 : decode cX12_same 104 = .ok (.sipush 300, 3) := by decide +kernel
theorem dX12_same_107 : decode cX12_same 107 = .ok (.iload_n 3, 1) := by decide +kernel
theorem dX12_same_108 : decode cX12_same 108 = .ok (.imul, 1) := by decide +kernel
theorem dX12_same_109 : decode cX12_same 109 = .ok (.iload 6, 2) := by decide +kernel
theorem dX12_same_111 : decode cX12_same 111 = .ok (.iadd, 1) := by decide +kernel
theorem dX12_same_112 : decode cX12_same 112 = .ok (.laload, 1) := by decide +kernel
theorem dX12_same_113 : decode cX12_same 113 = .ok (.aload_n 0, 1) := by decide +kernel
theorem dX12_same_114 : decode cX12_same 114 = .ok (.getfield 28, 3) := by decide +kernel
theorem dX12_same_117 : decode cX12_same 117 = .ok (.sipush 300, 3) := by decide +kernel
theorem dX12_same_120 : decode cX12_same 120 = .ok (.iload 4, 2) := by decide +kernel
theorem dX12_same_122 : decode cX12_same 122 = .ok (.imul, 1) := by decide +kernel
theorem dX12_same_123 : decode cX12_same 123 = .ok (.iload 6, 2) := by decide +kernel
theorem dX12_same_125 : decode cX12_same 125 = .ok (.iadd, 1) := by decide +kernel
theorem dX12_same_126 : decode cX12_same 126 = .ok (.laload, 1) := by decide +kernel
theorem dX12_same_127 : decode cX12_same 127 = .ok (.lcmp, 1) := by decide +kernel
theorem dX12_same_128 : decode cX12_same 128 = .ok (.ifCond .ne 7, 3) := by decide +kernel
theorem dX12_same_131 : decode cX12_same 131 = .ok (.iconst 1, 1) := by decide +kernel
theorem dX12_same_132 : decode cX12_same 132 = .ok (.goto 4, 3) := by decide +kernel
theorem dX12_same_135 : decode cX12_same 135 = .ok (.iconst 0, 1) := by decide +kernel
theorem dX12_same_136 : decode cX12_same 136 = .ok (.istore 5, 2) := by decide +kernel
theorem dX12_same_138 : decode cX12_same 138 = .ok (.iinc 6 1, 3) := by decide +kernel
theorem dX12_same_141 : decode cX12_same 141 = .ok (.goto (-87), 3) := by decide +kernel
theorem dX12_same_144 : decode cX12_same 144 = .ok (.iload 5, 2) := by decide +kernel
theorem dX12_same_146 : decode cX12_same 146 = .ok (.ifCond .eq 7, 3) := by decide +kernel
theorem dX12_same_149 : decode cX12_same 149 = .ok (.iconst 1, 1) := by decide +kernel
theorem dX12_same_150 : decode cX12_same 150 = .ok (.goto 4, 3) := by decide +kernel
theorem dX12_same_153 : decode cX12_same 153 = .ok (.iconst 0, 1) := by decide +kernel
theorem dX12_same_154 : decode cX12_same 154 = .ok (.ireturn, 1) := by decide +kernel
theorem dX12_multiply_0 : decode cX12_multiply 0 = .ok (.iconst 0, 1) := by decide +kernel
theorem dX12_multiply_1 : decode cX12_multiply 1 = .ok (.istore 5, 2) := by decide +kernel
theorem dX12_multiply_3 : decode cX12_multiply 3 = .ok (.iconst 0, 1) := by decide +kernel
theorem dX12_multiply_4 : decode cX12_multiply 4 = .ok (.istore 6, 2) := by decide +kernel
theorem dX12_multiply_6 : decode cX12_multiply 6 = .ok (.iconst 0, 1) := by decide +kernel
theorem dX12_multiply_7 : decode cX12_multiply 7 = .ok (.istore 7, 2) := by decide +kernel
theorem dX12_multiply_9 : decode cX12_multiply 9 = .ok (.iload 7, 2) := by decide +kernel
theorem dX12_multiply_11 : decode cX12_multiply 11 = .ok (.iconst 4, 1) := by decide +kernel
theorem dX12_multiply_12 : decode cX12_multiply 12 = .ok (.if_icmp .ge 126, 3) := by decide +kernel
theorem dX12_multiply_15 : decode cX12_multiply 15 = .ok (.iload_n 1, 1) := by decide +kernel
theorem dX12_multiply_16 : decode cX12_multiply 16 = .ok (.iload 7, 2) := by decide +kernel
theorem dX12_multiply_18 : decode cX12_multiply 18 = .ok (.invokestatic 106, 3) := by decide +kernel
theorem dX12_multiply_21 : decode cX12_multiply 21 = .ok (.iload_n 2, 1) := by decide +kernel
theorem dX12_multiply_22 : decode cX12_multiply 22 = .ok (.iload 7, 2) := by decide +kernel
theorem dX12_multiply_24 : decode cX12_multiply 24 = .ok (.invokestatic 106, 3) := by decide +kernel
theorem dX12_multiply_27 : decode cX12_multiply 27 = .ok (.iadd, 1) := by decide +kernel
theorem dX12_multiply_28 : decode cX12_multiply 28 = .ok (.istore 8, 2) := by decide +kernel
theorem dX12_multiply_30 : decode cX12_multiply 30 = .ok (.iload_n 1, 1) := by decide +kernel
theorem dX12_multiply_31 : decode cX12_multiply 31 = .ok (.iload 7, 2) := by decide +kernel
theorem dX12_multiply_33 : decode cX12_multiply 33 = .ok (.invokestatic 162, 3) := by decide +kernel
theorem dX12_multiply_36 : decode cX12_multiply 36 = .ok (.iload_n 2, 1) := by decide +kernel
theorem dX12_multiply_37 : decode cX12_multiply 37 = .ok (.iload 7, 2) := by decide +kernel
theorem dX12_multiply_39 : decode cX12_multiply 39 = .ok (.invokestatic 162, 3) := by decide +kernel
theorem dX12_multiply_42 : decode cX12_multiply 42 = .ok (.iadd, 1) := by decide +kernel
theorem dX12_multiply_43 : decode cX12_multiply 43 = .ok (.iconst 2, 1) := by decide +kernel
theorem dX12_multiply_44 : decode cX12_multiply 44 = .ok (.if_icmp .ne 7, 3) := by decide +kernel
theorem dX12_multiply_47 : decode cX12_multiply 47 = .ok (.iconst 1, 1) := by decide +kernel
theorem dX12_multiply_48 : decode cX12_multiply 48 = .ok (.goto 4, 3) := by decide +kernel
theorem dX12_multiply_51 : decode cX12_multiply 51 = .ok (.iconst 0, 1) := by decide +kernel
theorem dX12_multiply_52 : decode cX12_multiply 52 = .ok (.istore 9, 2) := by decide +kernel
theorem dX12_multiply_54 : decode cX12_multiply 54 = .ok (.iload 8, 2) := by decide +kernel
theorem dX12_multiply_56 : decode cX12_multiply 56 = .ok (.iload 9, 2) := by decide +kernel
theorem dX12_multiply_58 : decode cX12_multiply 58 = .ok (.ifCond .eq 7, 3) := by decide +kernel
theorem dX12_multiply_61 : decode cX12_multiply 61 = .ok (.iconst 2, 1) := by decide +kernel
theorem dX12_multiply_62 : decode cX12_multiply 62 = .ok (.goto 4, 3) := by decide +kernel
theorem dX12_multiply_65 : decode cX12_multiply 65 = .ok (.iconst 0, 1) := by decide +kernel
theorem dX12_multiply_66 : decode cX12_multiply 66 = .ok (.iadd, 1) := by decide +kernel
theorem dX12_multiply_67 : decode cX12_multiply 67 = .ok (.bipush 12, 2) := by decide +kernel
theorem dX12_multiply_69 : decode cX12_multiply 69 = .ok (.if_icmp .le 5, 3) := by decide +kernel
theorem dX12_multiply_72 : decode cX12_multiply 72 = .ok (.iconst 0, 1) := by decide +kernel
theorem dX12_multiply_73 : decode cX12_multiply 73 = .ok (.ireturn, 1) := by decide +kernel
theorem dX12_multiply_74 : decode cX12_multiply 74 = .ok (.iload 5, 2) := by decide +kernel
theorem dX12_multiply_76 : decode cX12_multiply 76 = .ok (.iload 8, 2) := by decide +kernel
theorem dX12_multiply_78 : decode cX12_multiply 78 = .ok (.iload 7, 2) := by decide +kernel
theorem dX12_multiply_80 : decode cX12_multiply 80 = .ok (.invokestatic 159, 3) := by decide +kernel
theorem dX12_multiply_83 : decode cX12_multiply 83 = .ok (.imul, 1) := by decide +kernel
theorem dX12_multiply_84 : decode cX12_multiply 84 = .ok (.iload_n 1, 1) := by decide +kernel
theorem dX12_multiply_85 : decode cX12_multiply 85 = .ok (.iload 7, 2) := by decide +kernel
theorem dX12_multiply_87 : decode cX12_multiply 87 = .ok (.invokestatic 162, 3) := by decide +kernel
theorem dX12_multiply_90 : decode cX12_multiply 90 = .ok (.iload_n 2, 1) := by decide +kernel
theorem dX12_multiply_91 : decode cX12_multiply 91 = .ok (.iload 7, 2) := by decide +kernel
theorem dX12_multiply_93 : decode cX12_multiply 93 = .ok (.invokestatic 162, 3) := by decide +kernel
theorem dX12_multiply_96 : decode cX12_multiply 96 = .ok (.iadd, 1) := by decide +kernel
theorem dX12_multiply_97 : decode cX12_multiply 97 = .ok (.iconst 1, 1) := by decide +kernel
theorem dX12_multiply_98 : decode cX12_multiply 98 = .ok (.if_icmp .ne 11, 3) := by decide +kernel
theorem dX12_multiply_101 : decode cX12_multiply 101 = .ok (.iload 7, 2) := by decide +kernel
theorem dX12_multiply_103 : decode cX12_multiply 103 = .ok (.invokestatic 165, 3) := by decide +kernel
theorem dX12_multiply_106 : decode cX12_multiply 106 = .ok (.goto 4, 3) := by decide +kernel
theorem dX12_multiply_109 : decode cX12_multiply 109 = .ok (.iconst 0, 1) := by decide +kernel
theorem dX12_multiply_110 : decode cX12_multiply 110 = .ok (.iadd, 1) := by decide +kernel
theorem dX12_multiply_111 : decode cX12_multiply 111 = .ok (.iadd, 1) := by decide +kernel
theorem dX12_multiply_112 : decode cX12_multiply 112 = .ok (.istore 5, 2) := by decide +kernel
theorem dX12_multiply_114 : decode cX12_multiply 114 = .ok (.iload 6, 2) := by decide +kernel
theorem dX12_multiply_116 : decode cX12_multiply 116 = .ok (.iload 9, 2) := by decide +kernel
theorem dX12_multiply_118 : decode cX12_multiply 118 = .ok (.ifCond .eq 10, 3) := by decide +kernel
theorem dX12_multiply_121 : decode cX12_multiply 121 = .ok (.iconst 1, 1) := by decide +kernel
theorem dX12_multiply_122 : decode cX12_multiply 122 = .ok (.iload 7, 2) := by decide +kernel
theorem dX12_multiply_124 : decode cX12_multiply 124 = .ok (.ishl, 1) := by decide +kernel
theorem dX12_multiply_125 : decode cX12_multiply 125 = .ok (.goto 4, 3) := by decide +kernel
theorem dX12_multiply_128 : decode cX12_multiply 128 = .ok (.iconst 0, 1) := by decide +kernel
theorem dX12_multiply_129 : decode cX12_multiply 129 = .ok (.ior, 1) := by decide +kernel
theorem dX12_multiply_130 : decode cX12_multiply 130 = .ok (.istore 6, 2) := by decide +kernel
theorem dX12_multiply_132 : decode cX12_multiply 132 = .ok (.iinc 7 1, 3) := by decide +kernel
theorem dX12_multiply_135 : decode cX12_multiply 135 = .ok (.goto (-126), 3) := by decide +kernel
theorem dX12_multiply_138 : decode cX12_multiply 138 = .ok (.iconst 0, 1) := by decide +kernel
theorem dX12_multiply_139 : decode cX12_multiply 139 = .ok (.istore 7, 2) := by decide +kernel
theorem dX12_multiply_141 : decode cX12_multiply 141 = .ok (.iload 7, 2) := by decide +kernel
theorem dX12_multiply_143 : decode cX12_multiply 143 = .ok (.bipush 16, 2) := by decide +kernel
theorem dX12_multiply_145 : decode cX12_multiply 145 = .ok (.if_icmp .ge 89, 3) := by decide +kernel
theorem dX12_multiply_148 : decode cX12_multiply 148 = .ok (.iload 7, 2) := by decide +kernel
theorem dX12_multiply_150 : decode cX12_multiply 150 = .ok (.iload 6, 2) := by decide +kernel
theorem dX12_multiply_152 : decode cX12_multiply 152 = .ok (.iconst (-1), 1) := by decide +kernel
theorem dX12_multiply_153 : decode cX12_multiply 153 = .ok (.ixor, 1) := by decide +kernel
theorem dX12_multiply_154 : decode cX12_multiply 154 = .ok (.iand, 1) := by decide +kernel
theorem dX12_multiply_155 : decode cX12_multiply 155 = .ok (.ifCond .ne 73, 3) := by decide +kernel
theorem dX12_multiply_158 : decode cX12_multiply 158 = .ok (.iload 5, 2) := by decide +kernel
theorem dX12_multiply_160 : decode cX12_multiply 160 = .ok (.istore 8, 2) := by decide +kernel
theorem dX12_multiply_162 : decode cX12_multiply 162 = .ok (.lload_n 3, 1) := by decide +kernel
theorem dX12_multiply_163 : decode cX12_multiply 163 = .ok (.lstore 9, 2) := by decide +kernel
theorem dX12_multiply_165 : decode cX12_multiply 165 = .ok (.iconst 0, 1) := by decide +kernel
theorem dX12_multiply_166 : decode cX12_multiply 166 = .ok (.istore 11, 2) := by decide +kernel
theorem dX12_multiply_168 : decode cX12_multiply 168 = .ok (.iload 11, 2) := by decide +kernel
theorem dX12_multiply_170 : decode cX12_multiply 170 = .ok (.iconst 4, 1) := by decide +kernel
theorem dX12_multiply_171 : decode cX12_multiply 171 = .ok (.if_icmp .ge 37, 3) := by decide +kernel
theorem dX12_multiply_174 : decode cX12_multiply 174 = .ok (.iload 7, 2) := by decide +kernel
theorem dX12_multiply_176 : decode cX12_multiply 176 = .ok (.iload 11, 2) := by decide +kernel
theorem dX12_multiply_178 : decode cX12_multiply 178 = .ok (.ishr, 1) := by decide +kernel
theorem dX12_multiply_179 : decode cX12_multiply 179 = .ok (.iconst 1, 1) := by decide +kernel
theorem dX12_multiply_180 : decode cX12_multiply 180 = .ok (.iand, 1) := by decide +kernel
theorem dX12_multiply_181 : decode cX12_multiply 181 = .ok (.iconst 1, 1) := by decide +kernel
theorem dX12_multiply_182 : decode cX12_multiply 182 = .ok (.if_icmp .ne 20, 3) := by decide +kernel
theorem dX12_multiply_185 : decode cX12_multiply 185 = .ok (.iload 8, 2) := by decide +kernel
theorem dX12_multiply_187 : decode cX12_multiply 187 = .ok (.iconst 2, 1) := by decide +kernel
theorem dX12_multiply_188 : decode cX12_multiply 188 = .ok (.iload 11, 2) := by decide +kernel
theorem dX12_multiply_190 : decode cX12_multiply 190 = .ok (.invokestatic 159, 3) := by decide +kernel
theorem dX12_multiply_193 : decode cX12_multiply 193 = .ok (.imul, 1) := by decide +kernel
theorem dX12_multiply_194 : decode cX12_multiply 194 = .ok (.iadd, 1) := by decide +kernel
theorem dX12_multiply_195 : decode cX12_multiply 195 = .ok (.istore 8, 2) := by decide +kernel
theorem dX12_multiply_197 : decode cX12_multiply 197 = .ok (.lload 9, 2) := by decide +kernel
theorem dX12_multiply_199 : decode cX12_multiply 199 = .ok (.lneg, 1) := by decide +kernel
theorem dX12_multiply_200 : decode cX12_multiply 200 = .ok (.lstore 9, 2) := by decide +kernel
theorem dX12_multiply_202 : decode cX12_multiply 202 = .ok (.iinc 11 1, 3) := by decide +kernel
theorem dX12_multiply_205 : decode cX12_multiply 205 = .ok (.goto (-37), 3) := by decide +kernel
theorem dX12_multiply_208 : decode cX12_multiply 208 = .ok (.aload_n 0, 1) := by decide +kernel
theorem dX12_multiply_209 : decode cX12_multiply 209 = .ok (.iload 8, 2) := by decide +kernel
theorem dX12_multiply_211 : decode cX12_multiply 211 = .ok (.lload 9, 2) := by decide +kernel
theorem dX12_multiply_213 : decode cX12_multiply 213 = .ok (.invokevirtual 110, 3) := by decide +kernel
theorem dX12_multiply_216 : decode cX12_multiply 216 = .ok (.aload_n 0, 1) := by decide +kernel
theorem dX12_multiply_217 : decode cX12_multiply 217 = .ok (.getfield 97, 3) := by decide +kernel
theorem dX12_multiply_220 : decode cX12_multiply 220 = .ok (.sipush 300, 3) := by decide +kernel
theorem dX12_multiply_223 : decode cX12_multiply 223 = .ok (.if_icmp .le 5, 3) := by decide +kernel
theorem dX12_multiply_226 : decode cX12_multiply 226 = .ok (.iconst 0, 1) := by decide +kernel
theorem dX12_multiply_227 : decode cX12_multiply 227 = .ok (.ireturn, 1) := by decide +kernel
theorem dX12_multiply_228 : decode cX12_multiply 228 = .ok (.iinc 7 1, 3) := by decide +kernel
theorem dX12_multiply_231 : decode cX12_multiply 231 = .ok (.goto (-90), 3) := by decide +kernel
theorem dX12_multiply_234 : decode cX12_multiply 234 = .ok (.iconst 1, 1) := by decide +kernel
theorem dX12_multiply_235 : decode cX12_multiply 235 = .ok (.ireturn, 1) := by decide +kernel
theorem dX12_product_0 : decode cX12_product 0 = .ok (.iload_n 1, 1) := by decide +kernel
theorem dX12_product_1 : decode cX12_product 1 = .ok (.invokestatic 118, 3) := by decide +kernel
theorem dX12_product_4 : decode cX12_product 4 = .ok (.ifCond .eq 17, 3) := by decide +kernel
theorem dX12_product_7 : decode cX12_product 7 = .ok (.iload_n 2, 1) := by decide +kernel
theorem dX12_product_8 : decode cX12_product 8 = .ok (.invokestatic 118, 3) := by decide +kernel
theorem dX12_product_11 : decode cX12_product 11 = .ok (.ifCond .eq 10, 3) := by decide +kernel
theorem dX12_product_14 : decode cX12_product 14 = .ok (.iload_n 3, 1) := by decide +kernel
theorem dX12_product_15 : decode cX12_product 15 = .ok (.invokestatic 118, 3) := by decide +kernel
theorem dX12_product_18 : decode cX12_product 18 = .ok (.ifCond .ne 6, 3) := by decide +kernel
theorem dX12_product_21 : decode cX12_product 21 = .ok (.ldc 89, 2) := by decide +kernel
theorem dX12_product_23 : decode cX12_product 23 = .ok (.ireturn, 1) := by decide +kernel
theorem dX12_product_24 : decode cX12_product 24 = .ok (.iload_n 2, 1) := by decide +kernel
theorem dX12_product_25 : decode cX12_product 25 = .ok (.invokestatic 121, 3) := by decide +kernel
theorem dX12_product_28 : decode cX12_product 28 = .ok (.istore 4, 2) := by decide +kernel
theorem dX12_product_30 : decode cX12_product 30 = .ok (.iload_n 3, 1) := by decide +kernel
theorem dX12_product_31 : decode cX12_product 31 = .ok (.invokestatic 121, 3) := by decide +kernel
theorem dX12_product_34 : decode cX12_product 34 = .ok (.istore 5, 2) := by decide +kernel
theorem dX12_product_36 : decode cX12_product 36 = .ok (.aload_n 0, 1) := by decide +kernel
theorem dX12_product_37 : decode cX12_product 37 = .ok (.iconst 0, 1) := by decide +kernel
theorem dX12_product_38 : decode cX12_product 38 = .ok (.putfield 97, 3) := by decide +kernel
theorem dX12_product_41 : decode cX12_product 41 = .ok (.iconst 0, 1) := by decide +kernel
theorem dX12_product_42 : decode cX12_product 42 = .ok (.istore 6, 2) := by decide +kernel
theorem dX12_product_44 : decode cX12_product 44 = .ok (.iload 6, 2) := by decide +kernel
theorem dX12_product_46 : decode cX12_product 46 = .ok (.aload_n 0, 1) := by decide +kernel
theorem dX12_product_47 : decode cX12_product 47 = .ok (.getfield 22, 3) := by decide +kernel
theorem dX12_product_50 : decode cX12_product 50 = .ok (.iload 4, 2) := by decide +kernel
theorem dX12_product_52 : decode cX12_product 52 = .ok (.iaload, 1) := by decide +kernel
theorem dX12_product_53 : decode cX12_product 53 = .ok (.if_icmp .ge 166, 3) := by decide +kernel
theorem dX12_product_56 : decode cX12_product 56 = .ok (.iconst 0, 1) := by decide +kernel
theorem dX12_product_57 : decode cX12_product 57 = .ok (.istore 7, 2) := by decide +kernel
theorem dX12_product_59 : decode cX12_product 59 = .ok (.iload 7, 2) := by decide +kernel
theorem dX12_product_61 : decode cX12_product 61 = .ok (.aload_n 0, 1) := by decide +kernel
theorem dX12_product_62 : decode cX12_product 62 = .ok (.getfield 22, 3) := by decide +kernel
theorem dX12_product_65 : decode cX12_product 65 = .ok (.iload 5, 2) := by decide +kernel
theorem dX12_product_67 : decode cX12_product 67 = .ok (.iaload, 1) := by decide +kernel
theorem dX12_product_68 : decode cX12_product 68 = .ok (.if_icmp .ge 145, 3) := by decide +kernel
theorem dX12_product_71 : decode cX12_product 71 = .ok (.aload_n 0, 1) := by decide +kernel
theorem dX12_product_72 : decode cX12_product 72 = .ok (.getfield 25, 3) := by decide +kernel
theorem dX12_product_75 : decode cX12_product 75 = .ok (.sipush 300, 3) := by decide +kernel
theorem dX12_product_78 : decode cX12_product 78 = .ok (.iload 4, 2) := by decide +kernel
theorem dX12_product_80 : decode cX12_product 80 = .ok (.imul, 1) := by decide +kernel
theorem dX12_product_81 : decode cX12_product 81 = .ok (.iload 6, 2) := by decide +kernel
theorem dX12_product_83 : decode cX12_product 83 = .ok (.iadd, 1) := by decide +kernel
theorem dX12_product_84 : decode cX12_product 84 = .ok (.iaload, 1) := by decide +kernel
theorem dX12_product_85 : decode cX12_product 85 = .ok (.istore 8, 2) := by decide +kernel
theorem dX12_product_87 : decode cX12_product 87 = .ok (.aload_n 0, 1) := by decide +kernel
theorem dX12_product_88 : decode cX12_product 88 = .ok (.getfield 25, 3) := by decide +kernel
theorem dX12_product_91 : decode cX12_product 91 = .ok (.sipush 300, 3) := by decide +kernel
theorem dX12_product_94 : decode cX12_product 94 = .ok (.iload 5, 2) := by decide +kernel
theorem dX12_product_96 : decode cX12_product 96 = .ok (.imul, 1) := by decide +kernel
theorem dX12_product_97 : decode cX12_product 97 = .ok (.iload 7, 2) := by decide +kernel
theorem dX12_product_99 : decode cX12_product 99 = .ok (.iadd, 1) := by decide +kernel
theorem dX12_product_100 : decode cX12_product 100 = .ok (.iaload, 1) := by decide +kernel
theorem dX12_product_101 : decode cX12_product 101 = .ok (.istore 9, 2) := by decide +kernel
theorem dX12_product_103 : decode cX12_product 103 = .ok (.iload 8, 2) := by decide +kernel
theorem dX12_product_105 : decode cX12_product 105 = .ok (.invokestatic 148, 3) := by decide +kernel
theorem dX12_product_108 : decode cX12_product 108 = .ok (.iload 9, 2) := by decide +kernel
theorem dX12_product_110 : decode cX12_product 110 = .ok (.invokestatic 148, 3) := by decide +kernel
theorem dX12_product_113 : decode cX12_product 113 = .ok (.if_icmp .ne 94, 3) := by decide +kernel
theorem dX12_product_116 : decode cX12_product 116 = .ok (.aload_n 0, 1) := by decide +kernel
theorem dX12_product_117 : decode cX12_product 117 = .ok (.getfield 28, 3) := by decide +kernel
theorem dX12_product_120 : decode cX12_product 120 = .ok (.sipush 300, 3) := by decide +kernel
theorem dX12_product_123 : decode cX12_product 123 = .ok (.iload 4, 2) := by decide +kernel
theorem dX12_product_125 : decode cX12_product 125 = .ok (.imul, 1) := by decide +kernel
theorem dX12_product_126 : decode cX12_product 126 = .ok (.iload 6, 2) := by decide +kernel
theorem dX12_product_128 : decode cX12_product 128 = .ok (.iadd, 1) := by decide +kernel
theorem dX12_product_129 : decode cX12_product 129 = .ok (.laload, 1) := by decide +kernel
theorem dX12_product_130 : decode cX12_product 130 = .ok (.lstore 10, 2) := by decide +kernel
theorem dX12_product_132 : decode cX12_product 132 = .ok (.aload_n 0, 1) := by decide +kernel
theorem dX12_product_133 : decode cX12_product 133 = .ok (.getfield 28, 3) := by decide +kernel
theorem dX12_product_136 : decode cX12_product 136 = .ok (.sipush 300, 3) := by decide +kernel
theorem dX12_product_139 : decode cX12_product 139 = .ok (.iload 5, 2) := by decide +kernel
theorem dX12_product_141 : decode cX12_product 141 = .ok (.imul, 1) := by decide +kernel
theorem dX12_product_142 : decode cX12_product 142 = .ok (.iload 7, 2) := by decide +kernel
theorem dX12_product_144 : decode cX12_product 144 = .ok (.iadd, 1) := by decide +kernel
theorem dX12_product_145 : decode cX12_product 145 = .ok (.laload, 1) := by decide +kernel
theorem dX12_product_146 : decode cX12_product 146 = .ok (.lstore 12, 2) := by decide +kernel
theorem dX12_product_148 : decode cX12_product 148 = .ok (.ldc2_w 104, 3) := by decide +kernel
theorem dX12_product_151 : decode cX12_product 151 = .ok (.lload 12, 2) := by decide +kernel
theorem dX12_product_153 : decode cX12_product 153 = .ok (.lconst 0, 1) := by decide +kernel
theorem dX12_product_154 : decode cX12_product 154 = .ok (.lcmp, 1) := by decide +kernel
theorem dX12_product_155 : decode cX12_product 155 = .ok (.ifCond .ge 9, 3) := by decide +kernel
theorem dX12_product_158 : decode cX12_product 158 = .ok (.lload 12, 2) := by decide +kernel
theorem dX12_product_160 : decode cX12_product 160 = .ok (.lneg, 1) := by decide +kernel
theorem dX12_product_161 : decode cX12_product 161 = .ok (.goto 5, 3) := by decide +kernel
theorem dX12_product_164 : decode cX12_product 164 = .ok (.lload 12, 2) := by decide +kernel
theorem dX12_product_166 : decode cX12_product 166 = .ok (.ldiv, 1) := by decide +kernel
theorem dX12_product_167 : decode cX12_product 167 = .ok (.lstore 14, 2) := by decide +kernel
theorem dX12_product_169 : decode cX12_product 169 = .ok (.lload 10, 2) := by decide +kernel
theorem dX12_product_171 : decode cX12_product 171 = .ok (.lload 14, 2) := by decide +kernel
theorem dX12_product_173 : decode cX12_product 173 = .ok (.lneg, 1) := by decide +kernel
theorem dX12_product_174 : decode cX12_product 174 = .ok (.lload 14, 2) := by decide +kernel
theorem dX12_product_176 : decode cX12_product 176 = .ok (.invokestatic 79, 3) := by decide +kernel
theorem dX12_product_179 : decode cX12_product 179 = .ok (.ifCond .eq 25, 3) := by decide +kernel
theorem dX12_product_182 : decode cX12_product 182 = .ok (.aload_n 0, 1) := by decide +kernel
theorem dX12_product_183 : decode cX12_product 183 = .ok (.iload 8, 2) := by decide +kernel
theorem dX12_product_185 : decode cX12_product 185 = .ok (.ldc 158, 2) := by decide +kernel
theorem dX12_product_187 : decode cX12_product 187 = .ok (.iand, 1) := by decide +kernel
theorem dX12_product_188 : decode cX12_product 188 = .ok (.iload 9, 2) := by decide +kernel
theorem dX12_product_190 : decode cX12_product 190 = .ok (.ldc 158, 2) := by decide +kernel
theorem dX12_product_192 : decode cX12_product 192 = .ok (.iand, 1) := by decide +kernel
theorem dX12_product_193 : decode cX12_product 193 = .ok (.lload 10, 2) := by decide +kernel
theorem dX12_product_195 : decode cX12_product 195 = .ok (.lload 12, 2) := by decide +kernel
theorem dX12_product_197 : decode cX12_product 197 = .ok (.lmul, 1) := by decide +kernel
theorem dX12_product_198 : decode cX12_product 198 = .ok (.invokevirtual 185, 3) := by decide +kernel
theorem dX12_product_201 : decode cX12_product 201 = .ok (.ifCond .ne 6, 3) := by decide +kernel
theorem dX12_product_204 : decode cX12_product 204 = .ok (.ldc 117, 2) := by decide +kernel
theorem dX12_product_206 : decode cX12_product 206 = .ok (.ireturn, 1) := by decide +kernel
theorem dX12_product_207 : decode cX12_product 207 = .ok (.iinc 7 1, 3) := by decide +kernel
theorem dX12_product_210 : decode cX12_product 210 = .ok (.goto (-151), 3) := by decide +kernel
theorem dX12_product_213 : decode cX12_product 213 = .ok (.iinc 6 1, 3) := by decide +kernel
theorem dX12_product_216 : decode cX12_product 216 = .ok (.goto (-172), 3) := by decide +kernel
theorem dX12_product_219 : decode cX12_product 219 = .ok (.aload_n 0, 1) := by decide +kernel
theorem dX12_product_220 : decode cX12_product 220 = .ok (.iload_n 1, 1) := by decide +kernel
theorem dX12_product_221 : decode cX12_product 221 = .ok (.invokestatic 121, 3) := by decide +kernel
theorem dX12_product_224 : decode cX12_product 224 = .ok (.invokevirtual 130, 3) := by decide +kernel
theorem dX12_product_227 : decode cX12_product 227 = .ok (.ireturn, 1) := by decide +kernel
theorem dX12_digest_0 : decode cX12_digest 0 = .ok (.iload_n 1, 1) := by decide +kernel
theorem dX12_digest_1 : decode cX12_digest 1 = .ok (.invokestatic 118, 3) := by decide +kernel
theorem dX12_digest_4 : decode cX12_digest 4 = .ok (.ifCond .ne 7, 3) := by decide +kernel
theorem dX12_digest_7 : decode cX12_digest 7 = .ok (.ldc2_w 180, 3) := by decide +kernel
theorem dX12_digest_10 : decode cX12_digest 10 = .ok (.lreturn, 1) := by decide +kernel
theorem dX12_digest_11 : decode cX12_digest 11 = .ok (.ldc2_w 189, 3) := by decide +kernel
theorem dX12_digest_14 : decode cX12_digest 14 = .ok (.lstore_n 2, 1) := by decide +kernel
theorem dX12_digest_15 : decode cX12_digest 15 = .ok (.iload_n 1, 1) := by decide +kernel
theorem dX12_digest_16 : decode cX12_digest 16 = .ok (.invokestatic 121, 3) := by decide +kernel
theorem dX12_digest_19 : decode cX12_digest 19 = .ok (.istore 4, 2) := by decide +kernel
theorem dX12_digest_21 : decode cX12_digest 21 = .ok (.iconst 0, 1) := by decide +kernel
theorem dX12_digest_22 : decode cX12_digest 22 = .ok (.istore 5, 2) := by decide +kernel
theorem dX12_digest_24 : decode cX12_digest 24 = .ok (.iload 5, 2) := by decide +kernel
theorem dX12_digest_26 : decode cX12_digest 26 = .ok (.aload_n 0, 1) := by decide +kernel
theorem dX12_digest_27 : decode cX12_digest 27 = .ok (.getfield 22, 3) := by decide +kernel
theorem dX12_digest_30 : decode cX12_digest 30 = .ok (.iload 4, 2) := by decide +kernel
theorem dX12_digest_32 : decode cX12_digest 32 = .ok (.iaload, 1) := by decide +kernel
theorem dX12_digest_33 : decode cX12_digest 33 = .ok (.if_icmp .ge 73, 3) := by decide +kernel
theorem dX12_digest_36 : decode cX12_digest 36 = .ok (.iconst (-1), 1) := by decide +kernel
theorem dX12_digest_37 : decode cX12_digest 37 = .ok (.istore 6, 2) := by decide +kernel
theorem dX12_digest_39 : decode cX12_digest 39 = .ok (.iload 6, 2) := by decide +kernel
theorem dX12_digest_41 : decode cX12_digest 41 = .ok (.bipush 8, 2) := by decide +kernel
theorem dX12_digest_43 : decode cX12_digest 43 = .ok (.if_icmp .ge 36, 3) := by decide +kernel
theorem dX12_digest_46 : decode cX12_digest 46 = .ok (.ldc2_w 191, 3) := by decide +kernel
theorem dX12_digest_49 : decode cX12_digest 49 = .ok (.lload_n 2, 1) := by decide +kernel
theorem dX12_digest_50 : decode cX12_digest 50 = .ok (.lmul, 1) := by decide +kernel
theorem dX12_digest_51 : decode cX12_digest 51 = .ok (.aload_n 0, 1) := by decide +kernel
theorem dX12_digest_52 : decode cX12_digest 52 = .ok (.getfield 25, 3) := by decide +kernel
theorem dX12_digest_55 : decode cX12_digest 55 = .ok (.sipush 300, 3) := by decide +kernel
theorem dX12_digest_58 : decode cX12_digest 58 = .ok (.iload 4, 2) := by decide +kernel
theorem dX12_digest_60 : decode cX12_digest 60 = .ok (.imul, 1) := by decide +kernel
theorem dX12_digest_61 : decode cX12_digest 61 = .ok (.iload 5, 2) := by decide +kernel
theorem dX12_digest_63 : decode cX12_digest 63 = .ok (.iadd, 1) := by decide +kernel
theorem dX12_digest_64 : decode cX12_digest 64 = .ok (.iaload, 1) := by decide +kernel
theorem dX12_digest_65 : decode cX12_digest 65 = .ok (.iload 6, 2) := by decide +kernel
theorem dX12_digest_67 : decode cX12_digest 67 = .ok (.invokestatic 182, 3) := by decide +kernel
theorem dX12_digest_70 : decode cX12_digest 70 = .ok (.i2l, 1) := by decide +kernel
theorem dX12_digest_71 : decode cX12_digest 71 = .ok (.ladd, 1) := by decide +kernel
theorem dX12_digest_72 : decode cX12_digest 72 = .ok (.lstore_n 2, 1) := by decide +kernel
theorem dX12_digest_73 : decode cX12_digest 73 = .ok (.iinc 6 1, 3) := by decide +kernel
theorem dX12_digest_76 : decode cX12_digest 76 = .ok (.goto (-37), 3) := by decide +kernel
theorem dX12_digest_79 : decode cX12_digest 79 = .ok (.ldc2_w 191, 3) := by decide +kernel
theorem dX12_digest_82 : decode cX12_digest 82 = .ok (.lload_n 2, 1) := by decide +kernel
theorem dX12_digest_83 : decode cX12_digest 83 = .ok (.lmul, 1) := by decide +kernel
theorem dX12_digest_84 : decode cX12_digest 84 = .ok (.aload_n 0, 1) := by decide +kernel
theorem dX12_digest_85 : decode cX12_digest 85 = .ok (.getfield 28, 3) := by decide +kernel
theorem dX12_digest_88 : decode cX12_digest 88 = .ok (.sipush 300, 3) := by decide +kernel
theorem dX12_digest_91 : decode cX12_digest 91 = .ok (.iload 4, 2) := by decide +kernel
theorem dX12_digest_93 : decode cX12_digest 93 = .ok (.imul, 1) := by decide +kernel
theorem dX12_digest_94 : decode cX12_digest 94 = .ok (.iload 5, 2) := by decide +kernel
theorem dX12_digest_96 : decode cX12_digest 96 = .ok (.iadd, 1) := by decide +kernel
theorem dX12_digest_97 : decode cX12_digest 97 = .ok (.laload, 1) := by decide +kernel
theorem dX12_digest_98 : decode cX12_digest 98 = .ok (.ladd, 1) := by decide +kernel
theorem dX12_digest_99 : decode cX12_digest 99 = .ok (.lstore_n 2, 1) := by decide +kernel
theorem dX12_digest_100 : decode cX12_digest 100 = .ok (.iinc 5 1, 3) := by decide +kernel
theorem dX12_digest_103 : decode cX12_digest 103 = .ok (.goto (-79), 3) := by decide +kernel
theorem dX12_digest_106 : decode cX12_digest 106 = .ok (.lload_n 2, 1) := by decide +kernel
theorem dX12_digest_107 : decode cX12_digest 107 = .ok (.lreturn, 1) := by decide +kernel
theorem dX12_come_0 : decode cX12_come 0 = .ok (.aload_n 0, 1) := by decide +kernel
theorem dX12_come_1 : decode cX12_come 1 = .ok (.getfield 193, 3) := by decide +kernel
theorem dX12_come_4 : decode cX12_come 4 = .ok (.bipush 40, 2) := by decide +kernel
theorem dX12_come_6 : decode cX12_come 6 = .ok (.if_icmp .ne 6, 3) := by decide +kernel
theorem dX12_come_9 : decode cX12_come 9 = .ok (.ldc 117, 2) := by decide +kernel
theorem dX12_come_11 : decode cX12_come 11 = .ok (.ireturn, 1) := by decide +kernel
theorem dX12_come_12 : decode cX12_come 12 = .ok (.aload_n 0, 1) := by decide +kernel
theorem dX12_come_13 : decode cX12_come 13 = .ok (.getfield 38, 3) := by decide +kernel
theorem dX12_come_16 : decode cX12_come 16 = .ok (.aload_n 0, 1) := by decide +kernel
theorem dX12_come_17 : decode cX12_come 17 = .ok (.getfield 193, 3) := by decide +kernel
theorem dX12_come_20 : decode cX12_come 20 = .ok (.iload_n 1, 1) := by decide +kernel
theorem dX12_come_21 : decode cX12_come 21 = .ok (.iastore, 1) := by decide +kernel
theorem dX12_come_22 : decode cX12_come 22 = .ok (.aload_n 0, 1) := by decide +kernel
theorem dX12_come_23 : decode cX12_come 23 = .ok (.getfield 41, 3) := by decide +kernel
theorem dX12_come_26 : decode cX12_come 26 = .ok (.aload_n 0, 1) := by decide +kernel
theorem dX12_come_27 : decode cX12_come 27 = .ok (.getfield 193, 3) := by decide +kernel
theorem dX12_come_30 : decode cX12_come 30 = .ok (.iload_n 2, 1) := by decide +kernel
theorem dX12_come_31 : decode cX12_come 31 = .ok (.iastore, 1) := by decide +kernel
theorem dX12_come_32 : decode cX12_come 32 = .ok (.aload_n 0, 1) := by decide +kernel
theorem dX12_come_33 : decode cX12_come 33 = .ok (.getfield 44, 3) := by decide +kernel
theorem dX12_come_36 : decode cX12_come 36 = .ok (.aload_n 0, 1) := by decide +kernel
theorem dX12_come_37 : decode cX12_come 37 = .ok (.getfield 193, 3) := by decide +kernel
theorem dX12_come_40 : decode cX12_come 40 = .ok (.iload_n 3, 1) := by decide +kernel
theorem dX12_come_41 : decode cX12_come 41 = .ok (.iastore, 1) := by decide +kernel
theorem dX12_come_42 : decode cX12_come 42 = .ok (.aload_n 0, 1) := by decide +kernel
theorem dX12_come_43 : decode cX12_come 43 = .ok (.getfield 47, 3) := by decide +kernel
theorem dX12_come_46 : decode cX12_come 46 = .ok (.aload_n 0, 1) := by decide +kernel
theorem dX12_come_47 : decode cX12_come 47 = .ok (.getfield 193, 3) := by decide +kernel
theorem dX12_come_50 : decode cX12_come 50 = .ok (.iload 4, 2) := by decide +kernel
theorem dX12_come_52 : decode cX12_come 52 = .ok (.iastore, 1) := by decide +kernel
theorem dX12_come_53 : decode cX12_come 53 = .ok (.aload_n 0, 1) := by decide +kernel
theorem dX12_come_54 : decode cX12_come 54 = .ok (.getfield 50, 3) := by decide +kernel
theorem dX12_come_57 : decode cX12_come 57 = .ok (.aload_n 0, 1) := by decide +kernel
theorem dX12_come_58 : decode cX12_come 58 = .ok (.getfield 193, 3) := by decide +kernel
theorem dX12_come_61 : decode cX12_come 61 = .ok (.iload 5, 2) := by decide +kernel
theorem dX12_come_63 : decode cX12_come 63 = .ok (.iastore, 1) := by decide +kernel
theorem dX12_come_64 : decode cX12_come 64 = .ok (.aload_n 0, 1) := by decide +kernel
theorem dX12_come_65 : decode cX12_come 65 = .ok (.dup, 1) := by decide +kernel
theorem dX12_come_66 : decode cX12_come 66 = .ok (.getfield 193, 3) := by decide +kernel
theorem dX12_come_69 : decode cX12_come 69 = .ok (.iconst 1, 1) := by decide +kernel
theorem dX12_come_70 : decode cX12_come 70 = .ok (.iadd, 1) := by decide +kernel
theorem dX12_come_71 : decode cX12_come 71 = .ok (.putfield 193, 3) := by decide +kernel
theorem dX12_come_74 : decode cX12_come 74 = .ok (.aload_n 0, 1) := by decide +kernel
theorem dX12_come_75 : decode cX12_come 75 = .ok (.getfield 193, 3) := by decide +kernel
theorem dX12_come_78 : decode cX12_come 78 = .ok (.iconst 1, 1) := by decide +kernel
theorem dX12_come_79 : decode cX12_come 79 = .ok (.isub, 1) := by decide +kernel
theorem dX12_come_80 : decode cX12_come 80 = .ok (.ireturn, 1) := by decide +kernel
theorem dX12_isPulse_0 : decode cX12_isPulse 0 = .ok (.iload_n 1, 1) := by decide +kernel
theorem dX12_isPulse_1 : decode cX12_isPulse 1 = .ok (.i2l, 1) := by decide +kernel
theorem dX12_isPulse_2 : decode cX12_isPulse 2 = .ok (.lconst 1, 1) := by decide +kernel
theorem dX12_isPulse_3 : decode cX12_isPulse 3 = .ok (.iconst 1, 1) := by decide +kernel
theorem dX12_isPulse_4 : decode cX12_isPulse 4 = .ok (.aload_n 0, 1) := by decide +kernel
theorem dX12_isPulse_5 : decode cX12_isPulse 5 = .ok (.getfield 67, 3) := by decide +kernel
theorem dX12_isPulse_8 : decode cX12_isPulse 8 = .ok (.ishl, 1) := by decide +kernel
theorem dX12_isPulse_9 : decode cX12_isPulse 9 = .ok (.iconst 1, 1) := by decide +kernel
theorem dX12_isPulse_10 : decode cX12_isPulse 10 = .ok (.isub, 1) := by decide +kernel
theorem dX12_isPulse_11 : decode cX12_isPulse 11 = .ok (.i2l, 1) := by decide +kernel
theorem dX12_isPulse_12 : decode cX12_isPulse 12 = .ok (.invokestatic 79, 3) := by decide +kernel
theorem dX12_isPulse_15 : decode cX12_isPulse 15 = .ok (.ifCond .eq 31, 3) := by decide +kernel
theorem dX12_isPulse_18 : decode cX12_isPulse 18 = .ok (.iload_n 2, 1) := by decide +kernel
theorem dX12_isPulse_19 : decode cX12_isPulse 19 = .ok (.i2l, 1) := by decide +kernel
theorem dX12_isPulse_20 : decode cX12_isPulse 20 = .ok (.lconst 0, 1) := by decide +kernel
theorem dX12_isPulse_21 : decode cX12_isPulse 21 = .ok (.ldc2_w 139, 3) := by decide +kernel
theorem dX12_isPulse_24 : decode cX12_isPulse 24 = .ok (.invokestatic 79, 3) := by decide +kernel
theorem dX12_isPulse_27 : decode cX12_isPulse 27 = .ok (.ifCond .eq 19, 3) := by decide +kernel
theorem dX12_isPulse_30 : decode cX12_isPulse 30 = .ok (.iload_n 3, 1) := by decide +kernel
theorem dX12_isPulse_31 : decode cX12_isPulse 31 = .ok (.i2l, 1) := by decide +kernel
theorem dX12_isPulse_32 : decode cX12_isPulse 32 = .ok (.lconst 0, 1) := by decide +kernel
theorem dX12_isPulse_33 : decode cX12_isPulse 33 = .ok (.ldc2_w 139, 3) := by decide +kernel
theorem dX12_isPulse_36 : decode cX12_isPulse 36 = .ok (.invokestatic 79, 3) := by decide +kernel
theorem dX12_isPulse_39 : decode cX12_isPulse 39 = .ok (.ifCond .eq 7, 3) := by decide +kernel
theorem dX12_isPulse_42 : decode cX12_isPulse 42 = .ok (.iconst 1, 1) := by decide +kernel
theorem dX12_isPulse_43 : decode cX12_isPulse 43 = .ok (.goto 4, 3) := by decide +kernel
theorem dX12_isPulse_46 : decode cX12_isPulse 46 = .ok (.iconst 0, 1) := by decide +kernel
theorem dX12_isPulse_47 : decode cX12_isPulse 47 = .ok (.ireturn, 1) := by decide +kernel
theorem dX12_pulse_0 : decode cX12_pulse 0 = .ok (.aload_n 0, 1) := by decide +kernel
theorem dX12_pulse_1 : decode cX12_pulse 1 = .ok (.iload_n 1, 1) := by decide +kernel
theorem dX12_pulse_2 : decode cX12_pulse 2 = .ok (.iload_n 2, 1) := by decide +kernel
theorem dX12_pulse_3 : decode cX12_pulse 3 = .ok (.iload_n 3, 1) := by decide +kernel
theorem dX12_pulse_4 : decode cX12_pulse 4 = .ok (.invokevirtual 196, 3) := by decide +kernel
theorem dX12_pulse_7 : decode cX12_pulse 7 = .ok (.ifCond .eq 15, 3) := by decide +kernel
theorem dX12_pulse_10 : decode cX12_pulse 10 = .ok (.aload_n 0, 1) := by decide +kernel
theorem dX12_pulse_11 : decode cX12_pulse 11 = .ok (.iconst 2, 1) := by decide +kernel
theorem dX12_pulse_12 : decode cX12_pulse 12 = .ok (.iload_n 1, 1) := by decide +kernel
theorem dX12_pulse_13 : decode cX12_pulse 13 = .ok (.iload_n 2, 1) := by decide +kernel
theorem dX12_pulse_14 : decode cX12_pulse 14 = .ok (.iload_n 3, 1) := by decide +kernel
theorem dX12_pulse_15 : decode cX12_pulse 15 = .ok (.iconst 0, 1) := by decide +kernel
theorem dX12_pulse_16 : decode cX12_pulse 16 = .ok (.invokevirtual 199, 3) := by decide +kernel
theorem dX12_pulse_19 : decode cX12_pulse 19 = .ok (.goto 5, 3) := by decide +kernel
theorem dX12_pulse_22 : decode cX12_pulse 22 = .ok (.ldc 89, 2) := by decide +kernel
theorem dX12_pulse_24 : decode cX12_pulse 24 = .ok (.ireturn, 1) := by decide +kernel
theorem dX12_cycled_0 : decode cX12_cycled 0 = .ok (.aload_n 0, 1) := by decide +kernel
theorem dX12_cycled_1 : decode cX12_cycled 1 = .ok (.iload_n 1, 1) := by decide +kernel
theorem dX12_cycled_2 : decode cX12_cycled 2 = .ok (.iload_n 2, 1) := by decide +kernel
theorem dX12_cycled_3 : decode cX12_cycled 3 = .ok (.iload_n 3, 1) := by decide +kernel
theorem dX12_cycled_4 : decode cX12_cycled 4 = .ok (.invokevirtual 196, 3) := by decide +kernel
theorem dX12_cycled_7 : decode cX12_cycled 7 = .ok (.ifCond .eq 24, 3) := by decide +kernel
theorem dX12_cycled_10 : decode cX12_cycled 10 = .ok (.iload 4, 2) := by decide +kernel
theorem dX12_cycled_12 : decode cX12_cycled 12 = .ok (.invokestatic 83, 3) := by decide +kernel
theorem dX12_cycled_15 : decode cX12_cycled 15 = .ok (.ifCond .eq 16, 3) := by decide +kernel
theorem dX12_cycled_18 : decode cX12_cycled 18 = .ok (.aload_n 0, 1) := by decide +kernel
theorem dX12_cycled_19 : decode cX12_cycled 19 = .ok (.iconst 3, 1) := by decide +kernel
theorem dX12_cycled_20 : decode cX12_cycled 20 = .ok (.iload_n 1, 1) := by decide +kernel
theorem dX12_cycled_21 : decode cX12_cycled 21 = .ok (.iload_n 2, 1) := by decide +kernel
theorem dX12_cycled_22 : decode cX12_cycled 22 = .ok (.iload_n 3, 1) := by decide +kernel
theorem dX12_cycled_23 : decode cX12_cycled 23 = .ok (.iload 4, 2) := by decide +kernel
theorem dX12_cycled_25 : decode cX12_cycled 25 = .ok (.invokevirtual 199, 3) := by decide +kernel
theorem dX12_cycled_28 : decode cX12_cycled 28 = .ok (.goto 5, 3) := by decide +kernel
theorem dX12_cycled_31 : decode cX12_cycled 31 = .ok (.ldc 89, 2) := by decide +kernel
theorem dX12_cycled_33 : decode cX12_cycled 33 = .ok (.ireturn, 1) := by decide +kernel
theorem dX12_delay_0 : decode cX12_delay 0 = .ok (.aload_n 0, 1) := by decide +kernel
theorem dX12_delay_1 : decode cX12_delay 1 = .ok (.iload_n 1, 1) := by decide +kernel
theorem dX12_delay_2 : decode cX12_delay 2 = .ok (.invokevirtual 124, 3) := by decide +kernel
theorem dX12_delay_5 : decode cX12_delay 5 = .ok (.ifCond .eq 34, 3) := by decide +kernel
theorem dX12_delay_8 : decode cX12_delay 8 = .ok (.iload_n 2, 1) := by decide +kernel
theorem dX12_delay_9 : decode cX12_delay 9 = .ok (.i2l, 1) := by decide +kernel
theorem dX12_delay_10 : decode cX12_delay 10 = .ok (.lconst 0, 1) := by decide +kernel
theorem dX12_delay_11 : decode cX12_delay 11 = .ok (.ldc2_w 139, 3) := by decide +kernel
theorem dX12_delay_14 : decode cX12_delay 14 = .ok (.invokestatic 79, 3) := by decide +kernel
theorem dX12_delay_17 : decode cX12_delay 17 = .ok (.ifCond .eq 22, 3) := by decide +kernel
theorem dX12_delay_20 : decode cX12_delay 20 = .ok (.iload_n 3, 1) := by decide +kernel
theorem dX12_delay_21 : decode cX12_delay 21 = .ok (.invokestatic 171, 3) := by decide +kernel
theorem dX12_delay_24 : decode cX12_delay 24 = .ok (.ifCond .eq 15, 3) := by decide +kernel
theorem dX12_delay_27 : decode cX12_delay 27 = .ok (.aload_n 0, 1) := by decide +kernel
theorem dX12_delay_28 : decode cX12_delay 28 = .ok (.iconst 4, 1) := by decide +kernel
theorem dX12_delay_29 : decode cX12_delay 29 = .ok (.iload_n 1, 1) := by decide +kernel
theorem dX12_delay_30 : decode cX12_delay 30 = .ok (.iload_n 2, 1) := by decide +kernel
theorem dX12_delay_31 : decode cX12_delay 31 = .ok (.iload_n 3, 1) := by decide +kernel
theorem dX12_delay_32 : decode cX12_delay 32 = .ok (.iconst 0, 1) := by decide +kernel
theorem dX12_delay_33 : decode cX12_delay 33 = .ok (.invokevirtual 199, 3) := by decide +kernel
theorem dX12_delay_36 : decode cX12_delay 36 = .ok (.goto 5, 3) := by decide +kernel
theorem dX12_delay_39 : decode cX12_delay 39 = .ok (.ldc 89, 2) := by decide +kernel
theorem dX12_delay_41 : decode cX12_delay 41 = .ok (.ireturn, 1) := by decide +kernel
theorem dX12_round_0 : decode cX12_round 0 = .ok (.iload_n 1, 1) := by decide +kernel
theorem dX12_round_1 : decode cX12_round 1 = .ok (.i2l, 1) := by decide +kernel
theorem dX12_round_2 : decode cX12_round 2 = .ok (.lconst 1, 1) := by decide +kernel
theorem dX12_round_3 : decode cX12_round 3 = .ok (.ldc2_w 203, 3) := by decide +kernel
theorem dX12_round_6 : decode cX12_round 6 = .ok (.invokestatic 79, 3) := by decide +kernel
theorem dX12_round_9 : decode cX12_round 9 = .ok (.ifCond .ne 6, 3) := by decide +kernel
theorem dX12_round_12 : decode cX12_round 12 = .ok (.ldc 89, 2) := by decide +kernel
theorem dX12_round_14 : decode cX12_round 14 = .ok (.ireturn, 1) := by decide +kernel
theorem dX12_round_15 : decode cX12_round 15 = .ok (.aload_n 0, 1) := by decide +kernel
theorem dX12_round_16 : decode cX12_round 16 = .ok (.getfield 205, 3) := by decide +kernel
theorem dX12_round_19 : decode cX12_round 19 = .ok (.iconst 3, 1) := by decide +kernel
theorem dX12_round_20 : decode cX12_round 20 = .ok (.if_icmp .ne 6, 3) := by decide +kernel
theorem dX12_round_23 : decode cX12_round 23 = .ok (.ldc 208, 2) := by decide +kernel
theorem dX12_round_25 : decode cX12_round 25 = .ok (.ireturn, 1) := by decide +kernel
theorem dX12_round_26 : decode cX12_round 26 = .ok (.aload_n 0, 1) := by decide +kernel
theorem dX12_round_27 : decode cX12_round 27 = .ok (.iconst 5, 1) := by decide +kernel
theorem dX12_round_28 : decode cX12_round 28 = .ok (.iload_n 1, 1) := by decide +kernel
theorem dX12_round_29 : decode cX12_round 29 = .ok (.iconst 0, 1) := by decide +kernel
theorem dX12_round_30 : decode cX12_round 30 = .ok (.iconst 0, 1) := by decide +kernel
theorem dX12_round_31 : decode cX12_round 31 = .ok (.iconst 0, 1) := by decide +kernel
theorem dX12_round_32 : decode cX12_round 32 = .ok (.invokevirtual 199, 3) := by decide +kernel
theorem dX12_round_35 : decode cX12_round 35 = .ok (.istore_n 2, 1) := by decide +kernel
theorem dX12_round_36 : decode cX12_round 36 = .ok (.aload_n 0, 1) := by decide +kernel
theorem dX12_round_37 : decode cX12_round 37 = .ok (.dup, 1) := by decide +kernel
theorem dX12_round_38 : decode cX12_round 38 = .ok (.getfield 205, 3) := by decide +kernel
theorem dX12_round_41 : decode cX12_round 41 = .ok (.iload_n 2, 1) := by decide +kernel
theorem dX12_round_42 : decode cX12_round 42 = .ok (.ifCond .lt 7, 3) := by decide +kernel
theorem dX12_round_45 : decode cX12_round 45 = .ok (.iconst 1, 1) := by decide +kernel
theorem dX12_round_46 : decode cX12_round 46 = .ok (.goto 4, 3) := by decide +kernel
theorem dX12_round_49 : decode cX12_round 49 = .ok (.iconst 0, 1) := by decide +kernel
theorem dX12_round_50 : decode cX12_round 50 = .ok (.iadd, 1) := by decide +kernel
theorem dX12_round_51 : decode cX12_round 51 = .ok (.putfield 205, 3) := by decide +kernel
theorem dX12_round_54 : decode cX12_round 54 = .ok (.iload_n 2, 1) := by decide +kernel
theorem dX12_round_55 : decode cX12_round 55 = .ok (.ireturn, 1) := by decide +kernel
theorem dX12_end_0 : decode cX12_end 0 = .ok (.aload_n 0, 1) := by decide +kernel
theorem dX12_end_1 : decode cX12_end 1 = .ok (.getfield 205, 3) := by decide +kernel
theorem dX12_end_4 : decode cX12_end 4 = .ok (.ifCond .ne 6, 3) := by decide +kernel
theorem dX12_end_7 : decode cX12_end 7 = .ok (.ldc 208, 2) := by decide +kernel
theorem dX12_end_9 : decode cX12_end 9 = .ok (.ireturn, 1) := by decide +kernel
theorem dX12_end_10 : decode cX12_end 10 = .ok (.aload_n 0, 1) := by decide +kernel
theorem dX12_end_11 : decode cX12_end 11 = .ok (.bipush 6, 2) := by decide +kernel
theorem dX12_end_13 : decode cX12_end 13 = .ok (.iconst 0, 1) := by decide +kernel
theorem dX12_end_14 : decode cX12_end 14 = .ok (.iconst 0, 1) := by decide +kernel
theorem dX12_end_15 : decode cX12_end 15 = .ok (.iconst 0, 1) := by decide +kernel
theorem dX12_end_16 : decode cX12_end 16 = .ok (.iconst 0, 1) := by decide +kernel
theorem dX12_end_17 : decode cX12_end 17 = .ok (.invokevirtual 199, 3) := by decide +kernel
theorem dX12_end_20 : decode cX12_end 20 = .ok (.istore_n 1, 1) := by decide +kernel
theorem dX12_end_21 : decode cX12_end 21 = .ok (.aload_n 0, 1) := by decide +kernel
theorem dX12_end_22 : decode cX12_end 22 = .ok (.dup, 1) := by decide +kernel
theorem dX12_end_23 : decode cX12_end 23 = .ok (.getfield 205, 3) := by decide +kernel
theorem dX12_end_26 : decode cX12_end 26 = .ok (.iload_n 1, 1) := by decide +kernel
theorem dX12_end_27 : decode cX12_end 27 = .ok (.ifCond .lt 7, 3) := by decide +kernel
theorem dX12_end_30 : decode cX12_end 30 = .ok (.iconst 1, 1) := by decide +kernel
theorem dX12_end_31 : decode cX12_end 31 = .ok (.goto 4, 3) := by decide +kernel
theorem dX12_end_34 : decode cX12_end 34 = .ok (.iconst 0, 1) := by decide +kernel
theorem dX12_end_35 : decode cX12_end 35 = .ok (.isub, 1) := by decide +kernel
theorem dX12_end_36 : decode cX12_end 36 = .ok (.putfield 205, 3) := by decide +kernel
theorem dX12_end_39 : decode cX12_end 39 = .ok (.iload_n 1, 1) := by decide +kernel
theorem dX12_end_40 : decode cX12_end 40 = .ok (.ireturn, 1) := by decide +kernel
theorem dX12_store_0 : decode cX12_store 0 = .ok (.iload_n 1, 1) := by decide +kernel
theorem dX12_store_1 : decode cX12_store 1 = .ok (.i2l, 1) := by decide +kernel
theorem dX12_store_2 : decode cX12_store 2 = .ok (.lconst 0, 1) := by decide +kernel
theorem dX12_store_3 : decode cX12_store 3 = .ok (.ldc2_w 77, 3) := by decide +kernel
theorem dX12_store_6 : decode cX12_store 6 = .ok (.invokestatic 79, 3) := by decide +kernel
theorem dX12_store_9 : decode cX12_store 9 = .ok (.ifCond .eq 30, 3) := by decide +kernel
theorem dX12_store_12 : decode cX12_store 12 = .ok (.iload_n 2, 1) := by decide +kernel
theorem dX12_store_13 : decode cX12_store 13 = .ok (.i2l, 1) := by decide +kernel
theorem dX12_store_14 : decode cX12_store 14 = .ok (.ldc2_w 137, 3) := by decide +kernel
theorem dX12_store_17 : decode cX12_store 17 = .ok (.ldc2_w 139, 3) := by decide +kernel
theorem dX12_store_20 : decode cX12_store 20 = .ok (.invokestatic 79, 3) := by decide +kernel
theorem dX12_store_23 : decode cX12_store 23 = .ok (.ifCond .eq 16, 3) := by decide +kernel
theorem dX12_store_26 : decode cX12_store 26 = .ok (.aload_n 0, 1) := by decide +kernel
theorem dX12_store_27 : decode cX12_store 27 = .ok (.bipush 7, 2) := by decide +kernel
theorem dX12_store_29 : decode cX12_store 29 = .ok (.iload_n 1, 1) := by decide +kernel
theorem dX12_store_30 : decode cX12_store 30 = .ok (.iload_n 2, 1) := by decide +kernel
theorem dX12_store_31 : decode cX12_store 31 = .ok (.iconst 0, 1) := by decide +kernel
theorem dX12_store_32 : decode cX12_store 32 = .ok (.iconst 0, 1) := by decide +kernel
theorem dX12_store_33 : decode cX12_store 33 = .ok (.invokevirtual 199, 3) := by decide +kernel
theorem dX12_store_36 : decode cX12_store 36 = .ok (.goto 5, 3) := by decide +kernel
theorem dX12_store_39 : decode cX12_store 39 = .ok (.ldc 89, 2) := by decide +kernel
theorem dX12_store_41 : decode cX12_store 41 = .ok (.ireturn, 1) := by decide +kernel
theorem dX12_back_0 : decode cX12_back 0 = .ok (.aload_n 0, 1) := by decide +kernel
theorem dX12_back_1 : decode cX12_back 1 = .ok (.getfield 193, 3) := by decide +kernel
theorem dX12_back_4 : decode cX12_back 4 = .ok (.ifCond .ne 6, 3) := by decide +kernel
theorem dX12_back_7 : decode cX12_back 7 = .ok (.ldc 208, 2) := by decide +kernel
theorem dX12_back_9 : decode cX12_back 9 = .ok (.ireturn, 1) := by decide +kernel
theorem dX12_back_10 : decode cX12_back 10 = .ok (.aload_n 0, 1) := by decide +kernel
theorem dX12_back_11 : decode cX12_back 11 = .ok (.dup, 1) := by decide +kernel
theorem dX12_back_12 : decode cX12_back 12 = .ok (.getfield 193, 3) := by decide +kernel
theorem dX12_back_15 : decode cX12_back 15 = .ok (.iconst 1, 1) := by decide +kernel
theorem dX12_back_16 : decode cX12_back 16 = .ok (.isub, 1) := by decide +kernel
theorem dX12_back_17 : decode cX12_back 17 = .ok (.putfield 193, 3) := by decide +kernel
theorem dX12_back_20 : decode cX12_back 20 = .ok (.aload_n 0, 1) := by decide +kernel
theorem dX12_back_21 : decode cX12_back 21 = .ok (.dup, 1) := by decide +kernel
theorem dX12_back_22 : decode cX12_back 22 = .ok (.getfield 205, 3) := by decide +kernel
theorem dX12_back_25 : decode cX12_back 25 = .ok (.aload_n 0, 1) := by decide +kernel
theorem dX12_back_26 : decode cX12_back 26 = .ok (.getfield 38, 3) := by decide +kernel
theorem dX12_back_29 : decode cX12_back 29 = .ok (.aload_n 0, 1) := by decide +kernel
theorem dX12_back_30 : decode cX12_back 30 = .ok (.getfield 193, 3) := by decide +kernel
theorem dX12_back_33 : decode cX12_back 33 = .ok (.iaload, 1) := by decide +kernel
theorem dX12_back_34 : decode cX12_back 34 = .ok (.bipush 6, 2) := by decide +kernel
theorem dX12_back_36 : decode cX12_back 36 = .ok (.if_icmp .ne 7, 3) := by decide +kernel
theorem dX12_back_39 : decode cX12_back 39 = .ok (.iconst 1, 1) := by decide +kernel
theorem dX12_back_40 : decode cX12_back 40 = .ok (.goto 21, 3) := by decide +kernel
theorem dX12_back_43 : decode cX12_back 43 = .ok (.aload_n 0, 1) := by decide +kernel
theorem dX12_back_44 : decode cX12_back 44 = .ok (.getfield 38, 3) := by decide +kernel
theorem dX12_back_47 : decode cX12_back 47 = .ok (.aload_n 0, 1) := by decide +kernel
theorem dX12_back_48 : decode cX12_back 48 = .ok (.getfield 193, 3) := by decide +kernel
theorem dX12_back_51 : decode cX12_back 51 = .ok (.iaload, 1) := by decide +kernel
theorem dX12_back_52 : decode cX12_back 52 = .ok (.iconst 5, 1) := by decide +kernel
theorem dX12_back_53 : decode cX12_back 53 = .ok (.if_icmp .ne 7, 3) := by decide +kernel
theorem dX12_back_56 : decode cX12_back 56 = .ok (.iconst (-1), 1) := by decide +kernel
theorem dX12_back_57 : decode cX12_back 57 = .ok (.goto 4, 3) := by decide +kernel
theorem dX12_back_60 : decode cX12_back 60 = .ok (.iconst 0, 1) := by decide +kernel
theorem dX12_back_61 : decode cX12_back 61 = .ok (.iadd, 1) := by decide +kernel
theorem dX12_back_62 : decode cX12_back 62 = .ok (.putfield 205, 3) := by decide +kernel
theorem dX12_back_65 : decode cX12_back 65 = .ok (.aload_n 0, 1) := by decide +kernel
theorem dX12_back_66 : decode cX12_back 66 = .ok (.getfield 193, 3) := by decide +kernel
theorem dX12_back_69 : decode cX12_back 69 = .ok (.ireturn, 1) := by decide +kernel
theorem dX12_isOp_0 : decode cX12_isOp 0 = .ok (.iload_n 1, 1) := by decide +kernel
theorem dX12_isOp_1 : decode cX12_isOp 1 = .ok (.i2l, 1) := by decide +kernel
theorem dX12_isOp_2 : decode cX12_isOp 2 = .ok (.lconst 0, 1) := by decide +kernel
theorem dX12_isOp_3 : decode cX12_isOp 3 = .ok (.aload_n 0, 1) := by decide +kernel
theorem dX12_isOp_4 : decode cX12_isOp 4 = .ok (.getfield 193, 3) := by decide +kernel
theorem dX12_isOp_7 : decode cX12_isOp 7 = .ok (.iconst 1, 1) := by decide +kernel
theorem dX12_isOp_8 : decode cX12_isOp 8 = .ok (.isub, 1) := by decide +kernel
theorem dX12_isOp_9 : decode cX12_isOp 9 = .ok (.i2l, 1) := by decide +kernel
theorem dX12_isOp_10 : decode cX12_isOp 10 = .ok (.invokestatic 79, 3) := by decide +kernel
theorem dX12_isOp_13 : decode cX12_isOp 13 = .ok (.ireturn, 1) := by decide +kernel
theorem dX12_kind_0 : decode cX12_kind 0 = .ok (.aload_n 0, 1) := by decide +kernel
theorem dX12_kind_1 : decode cX12_kind 1 = .ok (.iload_n 1, 1) := by decide +kernel
theorem dX12_kind_2 : decode cX12_kind 2 = .ok (.invokevirtual 209, 3) := by decide +kernel
theorem dX12_kind_5 : decode cX12_kind 5 = .ok (.ifCond .eq 12, 3) := by decide +kernel
theorem dX12_kind_8 : decode cX12_kind 8 = .ok (.aload_n 0, 1) := by decide +kernel
theorem dX12_kind_9 : decode cX12_kind 9 = .ok (.getfield 38, 3) := by decide +kernel
theorem dX12_kind_12 : decode cX12_kind 12 = .ok (.iload_n 1, 1) := by decide +kernel
theorem dX12_kind_13 : decode cX12_kind 13 = .ok (.iaload, 1) := by decide +kernel
theorem dX12_kind_14 : decode cX12_kind 14 = .ok (.goto 5, 3) := by decide +kernel
theorem dX12_kind_17 : decode cX12_kind 17 = .ok (.ldc 89, 2) := by decide +kernel
theorem dX12_kind_19 : decode cX12_kind 19 = .ok (.ireturn, 1) := by decide +kernel
theorem dX12_is_0 : decode cX12_is 0 = .ok (.aload_n 0, 1) := by decide +kernel
theorem dX12_is_1 : decode cX12_is 1 = .ok (.iload_n 1, 1) := by decide +kernel
theorem dX12_is_2 : decode cX12_is 2 = .ok (.invokevirtual 209, 3) := by decide +kernel
theorem dX12_is_5 : decode cX12_is 5 = .ok (.ifCond .eq 15, 3) := by decide +kernel
theorem dX12_is_8 : decode cX12_is 8 = .ok (.iload_n 2, 1) := by decide +kernel
theorem dX12_is_9 : decode cX12_is 9 = .ok (.i2l, 1) := by decide +kernel
theorem dX12_is_10 : decode cX12_is 10 = .ok (.lconst 0, 1) := by decide +kernel
theorem dX12_is_11 : decode cX12_is 11 = .ok (.ldc2_w 77, 3) := by decide +kernel
theorem dX12_is_14 : decode cX12_is 14 = .ok (.invokestatic 79, 3) := by decide +kernel
theorem dX12_is_17 : decode cX12_is 17 = .ok (.ifCond .ne 6, 3) := by decide +kernel
theorem dX12_is_20 : decode cX12_is 20 = .ok (.ldc 89, 2) := by decide +kernel
theorem dX12_is_22 : decode cX12_is 22 = .ok (.ireturn, 1) := by decide +kernel
theorem dX12_is_23 : decode cX12_is 23 = .ok (.aload_n 0, 1) := by decide +kernel
theorem dX12_is_24 : decode cX12_is 24 = .ok (.getfield 38, 3) := by decide +kernel
theorem dX12_is_27 : decode cX12_is 27 = .ok (.iload_n 1, 1) := by decide +kernel
theorem dX12_is_28 : decode cX12_is 28 = .ok (.iaload, 1) := by decide +kernel
theorem dX12_is_29 : decode cX12_is 29 = .ok (.istore_n 3, 1) := by decide +kernel
theorem dX12_is_30 : decode cX12_is 30 = .ok (.iload_n 3, 1) := by decide +kernel
theorem dX12_is_31 : decode cX12_is 31 = .ok (.iload_n 2, 1) := by decide +kernel
theorem dX12_is_32 : decode cX12_is 32 = .ok (.if_icmp .eq 27, 3) := by decide +kernel
theorem dX12_is_35 : decode cX12_is 35 = .ok (.iload_n 2, 1) := by decide +kernel
theorem dX12_is_36 : decode cX12_is 36 = .ok (.ifCond .eq 23, 3) := by decide +kernel
theorem dX12_is_39 : decode cX12_is 39 = .ok (.iload_n 2, 1) := by decide +kernel
theorem dX12_is_40 : decode cX12_is 40 = .ok (.iconst 1, 1) := by decide +kernel
theorem dX12_is_41 : decode cX12_is 41 = .ok (.if_icmp .ne 8, 3) := by decide +kernel
theorem dX12_is_44 : decode cX12_is 44 = .ok (.iload_n 3, 1) := by decide +kernel
theorem dX12_is_45 : decode cX12_is 45 = .ok (.iconst 5, 1) := by decide +kernel
theorem dX12_is_46 : decode cX12_is 46 = .ok (.if_icmp .lt 13, 3) := by decide +kernel
theorem dX12_is_49 : decode cX12_is 49 = .ok (.iload_n 2, 1) := by decide +kernel
theorem dX12_is_50 : decode cX12_is 50 = .ok (.iconst 2, 1) := by decide +kernel
theorem dX12_is_51 : decode cX12_is 51 = .ok (.if_icmp .ne 12, 3) := by decide +kernel
theorem dX12_is_54 : decode cX12_is 54 = .ok (.iload_n 3, 1) := by decide +kernel
theorem dX12_is_55 : decode cX12_is 55 = .ok (.iconst 3, 1) := by decide +kernel
theorem dX12_is_56 : decode cX12_is 56 = .ok (.if_icmp .ne 7, 3) := by decide +kernel
theorem dX12_is_59 : decode cX12_is 59 = .ok (.iconst 1, 1) := by decide +kernel
theorem dX12_is_60 : decode cX12_is 60 = .ok (.goto 4, 3) := by decide +kernel
theorem dX12_is_63 : decode cX12_is 63 = .ok (.iconst 0, 1) := by decide +kernel
theorem dX12_is_64 : decode cX12_is 64 = .ok (.ireturn, 1) := by decide +kernel
theorem dX12_spins_0 : decode cX12_spins 0 = .ok (.aload_n 0, 1) := by decide +kernel
theorem dX12_spins_1 : decode cX12_spins 1 = .ok (.iload_n 1, 1) := by decide +kernel
theorem dX12_spins_2 : decode cX12_spins 2 = .ok (.invokevirtual 209, 3) := by decide +kernel
theorem dX12_spins_5 : decode cX12_spins 5 = .ok (.ifCond .ne 6, 3) := by decide +kernel
theorem dX12_spins_8 : decode cX12_spins 8 = .ok (.ldc 89, 2) := by decide +kernel
theorem dX12_spins_10 : decode cX12_spins 10 = .ok (.ireturn, 1) := by decide +kernel
theorem dX12_spins_11 : decode cX12_spins 11 = .ok (.aload_n 0, 1) := by decide +kernel
theorem dX12_spins_12 : decode cX12_spins 12 = .ok (.getfield 38, 3) := by decide +kernel
theorem dX12_spins_15 : decode cX12_spins 15 = .ok (.iload_n 1, 1) := by decide +kernel
theorem dX12_spins_16 : decode cX12_spins 16 = .ok (.iaload, 1) := by decide +kernel
theorem dX12_spins_17 : decode cX12_spins 17 = .ok (.iconst 2, 1) := by decide +kernel
theorem dX12_spins_18 : decode cX12_spins 18 = .ok (.if_icmp .eq 13, 3) := by decide +kernel
theorem dX12_spins_21 : decode cX12_spins 21 = .ok (.aload_n 0, 1) := by decide +kernel
theorem dX12_spins_22 : decode cX12_spins 22 = .ok (.getfield 38, 3) := by decide +kernel
theorem dX12_spins_25 : decode cX12_spins 25 = .ok (.iload_n 1, 1) := by decide +kernel
theorem dX12_spins_26 : decode cX12_spins 26 = .ok (.iaload, 1) := by decide +kernel
theorem dX12_spins_27 : decode cX12_spins 27 = .ok (.iconst 3, 1) := by decide +kernel
theorem dX12_spins_28 : decode cX12_spins 28 = .ok (.if_icmp .ne 16, 3) := by decide +kernel
theorem dX12_spins_31 : decode cX12_spins 31 = .ok (.aload_n 0, 1) := by decide +kernel
theorem dX12_spins_32 : decode cX12_spins 32 = .ok (.aload_n 0, 1) := by decide +kernel
theorem dX12_spins_33 : decode cX12_spins 33 = .ok (.getfield 41, 3) := by decide +kernel
theorem dX12_spins_36 : decode cX12_spins 36 = .ok (.iload_n 1, 1) := by decide +kernel
theorem dX12_spins_37 : decode cX12_spins 37 = .ok (.iaload, 1) := by decide +kernel
theorem dX12_spins_38 : decode cX12_spins 38 = .ok (.invokevirtual 94, 3) := by decide +kernel
theorem dX12_spins_41 : decode cX12_spins 41 = .ok (.goto 8, 3) := by decide +kernel
theorem dX12_spins_44 : decode cX12_spins 44 = .ok (.aload_n 0, 1) := by decide +kernel
theorem dX12_spins_45 : decode cX12_spins 45 = .ok (.iconst 3, 1) := by decide +kernel
theorem dX12_spins_46 : decode cX12_spins 46 = .ok (.invokevirtual 90, 3) := by decide +kernel
theorem dX12_spins_49 : decode cX12_spins 49 = .ok (.ireturn, 1) := by decide +kernel
theorem dX12_begins_0 : decode cX12_begins 0 = .ok (.aload_n 0, 1) := by decide +kernel
theorem dX12_begins_1 : decode cX12_begins 1 = .ok (.getfield 212, 3) := by decide +kernel
theorem dX12_begins_4 : decode cX12_begins 4 = .ok (.bipush 16, 2) := by decide +kernel
theorem dX12_begins_6 : decode cX12_begins 6 = .ok (.if_icmp .ge 23, 3) := by decide +kernel
theorem dX12_begins_9 : decode cX12_begins 9 = .ok (.aload_n 0, 1) := by decide +kernel
theorem dX12_begins_10 : decode cX12_begins 10 = .ok (.getfield 53, 3) := by decide +kernel
theorem dX12_begins_13 : decode cX12_begins 13 = .ok (.aload_n 0, 1) := by decide +kernel
theorem dX12_begins_14 : decode cX12_begins 14 = .ok (.getfield 212, 3) := by decide +kernel
theorem dX12_begins_17 : decode cX12_begins 17 = .ok (.iload_n 1, 1) := by decide +kernel
theorem dX12_begins_18 : decode cX12_begins 18 = .ok (.iastore, 1) := by decide +kernel
theorem dX12_begins_19 : decode cX12_begins 19 = .ok (.aload_n 0, 1) := by decide +kernel
theorem dX12_begins_20 : decode cX12_begins 20 = .ok (.dup, 1) := by decide +kernel
theorem dX12_begins_21 : decode cX12_begins 21 = .ok (.getfield 212, 3) := by decide +kernel
theorem dX12_begins_24 : decode cX12_begins 24 = .ok (.iconst 1, 1) := by decide +kernel
theorem dX12_begins_25 : decode cX12_begins 25 = .ok (.iadd, 1) := by decide +kernel
theorem dX12_begins_26 : decode cX12_begins 26 = .ok (.putfield 212, 3) := by decide +kernel
theorem dX12_begins_29 : decode cX12_begins 29 = .ok (.return_, 1) := by decide +kernel
theorem dX12_cost_0 : decode cX12_cost 0 = .ok (.aload_n 0, 1) := by decide +kernel
theorem dX12_cost_1 : decode cX12_cost 1 = .ok (.getfield 38, 3) := by decide +kernel
theorem dX12_cost_4 : decode cX12_cost 4 = .ok (.iload_n 1, 1) := by decide +kernel
theorem dX12_cost_5 : decode cX12_cost 5 = .ok (.iaload, 1) := by decide +kernel
theorem dX12_cost_6 : decode cX12_cost 6 = .ok (.istore_n 2, 1) := by decide +kernel
theorem dX12_cost_7 : decode cX12_cost 7 = .ok (.iload_n 2, 1) := by decide +kernel
theorem dX12_cost_8 : decode cX12_cost 8 = .ok (.iconst 5, 1) := by decide +kernel
theorem dX12_cost_9 : decode cX12_cost 9 = .ok (.if_icmp .ne 16, 3) := by decide +kernel
theorem dX12_cost_12 : decode cX12_cost 12 = .ok (.aload_n 0, 1) := by decide +kernel
theorem dX12_cost_13 : decode cX12_cost 13 = .ok (.bipush 14, 2) := by decide +kernel
theorem dX12_cost_15 : decode cX12_cost 15 = .ok (.invokevirtual 215, 3) := by decide +kernel
theorem dX12_cost_18 : decode cX12_cost 18 = .ok (.aload_n 0, 1) := by decide +kernel
theorem dX12_cost_19 : decode cX12_cost 19 = .ok (.getfield 41, 3) := by decide +kernel
theorem dX12_cost_22 : decode cX12_cost 22 = .ok (.iload_n 1, 1) := by decide +kernel
theorem dX12_cost_23 : decode cX12_cost 23 = .ok (.iaload, 1) := by decide +kernel
theorem dX12_cost_24 : decode cX12_cost 24 = .ok (.ireturn, 1) := by decide +kernel
theorem dX12_cost_25 : decode cX12_cost 25 = .ok (.iload_n 2, 1) := by decide +kernel
theorem dX12_cost_26 : decode cX12_cost 26 = .ok (.iconst 3, 1) := by decide +kernel
theorem dX12_cost_27 : decode cX12_cost 27 = .ok (.if_icmp .ne 9, 3) := by decide +kernel
theorem dX12_cost_30 : decode cX12_cost 30 = .ok (.aload_n 0, 1) := by decide +kernel
theorem dX12_cost_31 : decode cX12_cost 31 = .ok (.bipush 13, 2) := by decide +kernel
theorem dX12_cost_33 : decode cX12_cost 33 = .ok (.invokevirtual 215, 3) := by decide +kernel
theorem dX12_cost_36 : decode cX12_cost 36 = .ok (.iload_n 2, 1) := by decide +kernel
theorem dX12_cost_37 : decode cX12_cost 37 = .ok (.iconst 3, 1) := by decide +kernel
theorem dX12_cost_38 : decode cX12_cost 38 = .ok (.if_icmp .eq 8, 3) := by decide +kernel
theorem dX12_cost_41 : decode cX12_cost 41 = .ok (.iload_n 2, 1) := by decide +kernel
theorem dX12_cost_42 : decode cX12_cost 42 = .ok (.iconst 2, 1) := by decide +kernel
theorem dX12_cost_43 : decode cX12_cost 43 = .ok (.if_icmp .ne 9, 3) := by decide +kernel
theorem dX12_cost_46 : decode cX12_cost 46 = .ok (.aload_n 0, 1) := by decide +kernel
theorem dX12_cost_47 : decode cX12_cost 47 = .ok (.bipush 12, 2) := by decide +kernel
theorem dX12_cost_49 : decode cX12_cost 49 = .ok (.invokevirtual 215, 3) := by decide +kernel
theorem dX12_cost_52 : decode cX12_cost 52 = .ok (.iload_n 2, 1) := by decide +kernel
theorem dX12_cost_53 : decode cX12_cost 53 = .ok (.iconst 5, 1) := by decide +kernel
theorem dX12_cost_54 : decode cX12_cost 54 = .ok (.if_icmp .ge 9, 3) := by decide +kernel
theorem dX12_cost_57 : decode cX12_cost 57 = .ok (.aload_n 0, 1) := by decide +kernel
theorem dX12_cost_58 : decode cX12_cost 58 = .ok (.bipush 11, 2) := by decide +kernel
theorem dX12_cost_60 : decode cX12_cost 60 = .ok (.invokevirtual 215, 3) := by decide +kernel
theorem dX12_cost_63 : decode cX12_cost 63 = .ok (.aload_n 0, 1) := by decide +kernel
theorem dX12_cost_64 : decode cX12_cost 64 = .ok (.bipush 10, 2) := by decide +kernel
theorem dX12_cost_66 : decode cX12_cost 66 = .ok (.invokevirtual 215, 3) := by decide +kernel
theorem dX12_cost_69 : decode cX12_cost 69 = .ok (.iload_n 2, 1) := by decide +kernel
theorem dX12_cost_70 : decode cX12_cost 70 = .ok (.iconst 5, 1) := by decide +kernel
theorem dX12_cost_71 : decode cX12_cost 71 = .ok (.if_icmp .ge 7, 3) := by decide +kernel
theorem dX12_cost_74 : decode cX12_cost 74 = .ok (.iconst 2, 1) := by decide +kernel
theorem dX12_cost_75 : decode cX12_cost 75 = .ok (.goto 4, 3) := by decide +kernel
theorem dX12_cost_78 : decode cX12_cost 78 = .ok (.iconst 1, 1) := by decide +kernel
theorem dX12_cost_79 : decode cX12_cost 79 = .ok (.istore_n 3, 1) := by decide +kernel
theorem dX12_cost_80 : decode cX12_cost 80 = .ok (.iload_n 2, 1) := by decide +kernel
theorem dX12_cost_81 : decode cX12_cost 81 = .ok (.iconst 4, 1) := by decide +kernel
theorem dX12_cost_82 : decode cX12_cost 82 = .ok (.if_icmp .ge 45, 3) := by decide +kernel
theorem dX12_cost_85 : decode cX12_cost 85 = .ok (.iconst 0, 1) := by decide +kernel
theorem dX12_cost_86 : decode cX12_cost 86 = .ok (.istore 4, 2) := by decide +kernel
theorem dX12_cost_88 : decode cX12_cost 88 = .ok (.iconst 0, 1) := by decide +kernel
theorem dX12_cost_89 : decode cX12_cost 89 = .ok (.istore 5, 2) := by decide +kernel
theorem dX12_cost_91 : decode cX12_cost 91 = .ok (.iload 5, 2) := by decide +kernel
theorem dX12_cost_93 : decode cX12_cost 93 = .ok (.aload_n 0, 1) := by decide +kernel
theorem dX12_cost_94 : decode cX12_cost 94 = .ok (.getfield 67, 3) := by decide +kernel
theorem dX12_cost_97 : decode cX12_cost 97 = .ok (.if_icmp .ge 25, 3) := by decide +kernel
theorem dX12_cost_100 : decode cX12_cost 100 = .ok (.iload 4, 2) := by decide +kernel
theorem dX12_cost_102 : decode cX12_cost 102 = .ok (.aload_n 0, 1) := by decide +kernel
theorem dX12_cost_103 : decode cX12_cost 103 = .ok (.getfield 41, 3) := by decide +kernel
theorem dX12_cost_106 : decode cX12_cost 106 = .ok (.iload_n 1, 1) := by decide +kernel
theorem dX12_cost_107 : decode cX12_cost 107 = .ok (.iaload, 1) := by decide +kernel
theorem dX12_cost_108 : decode cX12_cost 108 = .ok (.iload 5, 2) := by decide +kernel
theorem dX12_cost_110 : decode cX12_cost 110 = .ok (.ishr, 1) := by decide +kernel
theorem dX12_cost_111 : decode cX12_cost 111 = .ok (.iconst 1, 1) := by decide +kernel
theorem dX12_cost_112 : decode cX12_cost 112 = .ok (.iand, 1) := by decide +kernel
theorem dX12_cost_113 : decode cX12_cost 113 = .ok (.iadd, 1) := by decide +kernel
theorem dX12_cost_114 : decode cX12_cost 114 = .ok (.istore 4, 2) := by decide +kernel
theorem dX12_cost_116 : decode cX12_cost 116 = .ok (.iinc 5 1, 3) := by decide +kernel
theorem dX12_cost_119 : decode cX12_cost 119 = .ok (.goto (-28), 3) := by decide +kernel
theorem dX12_cost_122 : decode cX12_cost 122 = .ok (.iload_n 3, 1) := by decide +kernel
theorem dX12_cost_123 : decode cX12_cost 123 = .ok (.iload 4, 2) := by decide +kernel
theorem dX12_cost_125 : decode cX12_cost 125 = .ok (.imul, 1) := by decide +kernel
theorem dX12_cost_126 : decode cX12_cost 126 = .ok (.istore_n 3, 1) := by decide +kernel
theorem dX12_cost_127 : decode cX12_cost 127 = .ok (.iload_n 2, 1) := by decide +kernel
theorem dX12_cost_128 : decode cX12_cost 128 = .ok (.iconst 3, 1) := by decide +kernel
theorem dX12_cost_129 : decode cX12_cost 129 = .ok (.if_icmp .ne 13, 3) := by decide +kernel
theorem dX12_cost_132 : decode cX12_cost 132 = .ok (.iload_n 3, 1) := by decide +kernel
theorem dX12_cost_133 : decode cX12_cost 133 = .ok (.aload_n 0, 1) := by decide +kernel
theorem dX12_cost_134 : decode cX12_cost 134 = .ok (.iload_n 1, 1) := by decide +kernel
theorem dX12_cost_135 : decode cX12_cost 135 = .ok (.invokevirtual 219, 3) := by decide +kernel
theorem dX12_cost_138 : decode cX12_cost 138 = .ok (.iadd, 1) := by decide +kernel
theorem dX12_cost_139 : decode cX12_cost 139 = .ok (.goto 4, 3) := by decide +kernel
theorem dX12_cost_142 : decode cX12_cost 142 = .ok (.iload_n 3, 1) := by decide +kernel
theorem dX12_cost_143 : decode cX12_cost 143 = .ok (.ireturn, 1) := by decide +kernel
theorem dX12_mark2_0 : decode cX12_mark2 0 = .ok (.aload_n 0, 1) := by decide +kernel
theorem dX12_mark2_1 : decode cX12_mark2 1 = .ok (.bipush 23, 2) := by decide +kernel
theorem dX12_mark2_3 : decode cX12_mark2 3 = .ok (.invokevirtual 215, 3) := by decide +kernel
theorem dX12_mark2_6 : decode cX12_mark2 6 = .ok (.aload_n 0, 1) := by decide +kernel
theorem dX12_mark2_7 : decode cX12_mark2 7 = .ok (.getfield 50, 3) := by decide +kernel
theorem dX12_mark2_10 : decode cX12_mark2 10 = .ok (.iload_n 1, 1) := by decide +kernel
theorem dX12_mark2_11 : decode cX12_mark2 11 = .ok (.iaload, 1) := by decide +kernel
theorem dX12_mark2_12 : decode cX12_mark2 12 = .ok (.ireturn, 1) := by decide +kernel
theorem dX12_mark_0 : decode cX12_mark 0 = .ok (.aload_n 0, 1) := by decide +kernel
theorem dX12_mark_1 : decode cX12_mark 1 = .ok (.getfield 38, 3) := by decide +kernel
theorem dX12_mark_4 : decode cX12_mark 4 = .ok (.iload_n 1, 1) := by decide +kernel
theorem dX12_mark_5 : decode cX12_mark 5 = .ok (.iaload, 1) := by decide +kernel
theorem dX12_mark_6 : decode cX12_mark 6 = .ok (.istore_n 2, 1) := by decide +kernel
theorem dX12_mark_7 : decode cX12_mark 7 = .ok (.iload_n 2, 1) := by decide +kernel
theorem dX12_mark_8 : decode cX12_mark 8 = .ok (.iconst 3, 1) := by decide +kernel
theorem dX12_mark_9 : decode cX12_mark 9 = .ok (.if_icmp .ne 9, 3) := by decide +kernel
theorem dX12_mark_12 : decode cX12_mark 12 = .ok (.aload_n 0, 1) := by decide +kernel
theorem dX12_mark_13 : decode cX12_mark 13 = .ok (.iload_n 1, 1) := by decide +kernel
theorem dX12_mark_14 : decode cX12_mark 14 = .ok (.invokevirtual 219, 3) := by decide +kernel
theorem dX12_mark_17 : decode cX12_mark 17 = .ok (.ireturn, 1) := by decide +kernel
theorem dX12_mark_18 : decode cX12_mark 18 = .ok (.iload_n 2, 1) := by decide +kernel
theorem dX12_mark_19 : decode cX12_mark 19 = .ok (.iconst 4, 1) := by decide +kernel
theorem dX12_mark_20 : decode cX12_mark 20 = .ok (.if_icmp .ne 9, 3) := by decide +kernel
theorem dX12_mark_23 : decode cX12_mark 23 = .ok (.aload_n 0, 1) := by decide +kernel
theorem dX12_mark_24 : decode cX12_mark 24 = .ok (.bipush 22, 2) := by decide +kernel
theorem dX12_mark_26 : decode cX12_mark 26 = .ok (.invokevirtual 215, 3) := by decide +kernel
theorem dX12_mark_29 : decode cX12_mark 29 = .ok (.iload_n 2, 1) := by decide +kernel
theorem dX12_mark_30 : decode cX12_mark 30 = .ok (.iconst 5, 1) := by decide +kernel
theorem dX12_mark_31 : decode cX12_mark 31 = .ok (.if_icmp .ge 9, 3) := by decide +kernel
theorem dX12_mark_34 : decode cX12_mark 34 = .ok (.aload_n 0, 1) := by decide +kernel
theorem dX12_mark_35 : decode cX12_mark 35 = .ok (.bipush 21, 2) := by decide +kernel
theorem dX12_mark_37 : decode cX12_mark 37 = .ok (.invokevirtual 215, 3) := by decide +kernel
theorem dX12_mark_40 : decode cX12_mark 40 = .ok (.iload_n 2, 1) := by decide +kernel
theorem dX12_mark_41 : decode cX12_mark 41 = .ok (.bipush 7, 2) := by decide +kernel
theorem dX12_mark_43 : decode cX12_mark 43 = .ok (.if_icmp .ne 9, 3) := by decide +kernel
theorem dX12_mark_46 : decode cX12_mark 46 = .ok (.aload_n 0, 1) := by decide +kernel
theorem dX12_mark_47 : decode cX12_mark 47 = .ok (.bipush 24, 2) := by decide +kernel
theorem dX12_mark_49 : decode cX12_mark 49 = .ok (.invokevirtual 215, 3) := by decide +kernel
theorem dX12_mark_52 : decode cX12_mark 52 = .ok (.aload_n 0, 1) := by decide +kernel
theorem dX12_mark_53 : decode cX12_mark 53 = .ok (.bipush 20, 2) := by decide +kernel
theorem dX12_mark_55 : decode cX12_mark 55 = .ok (.invokevirtual 215, 3) := by decide +kernel
theorem dX12_mark_58 : decode cX12_mark 58 = .ok (.iload_n 1, 1) := by decide +kernel
theorem dX12_mark_59 : decode cX12_mark 59 = .ok (.istore_n 3, 1) := by decide +kernel
theorem dX12_mark_60 : decode cX12_mark 60 = .ok (.iload_n 3, 1) := by decide +kernel
theorem dX12_mark_61 : decode cX12_mark 61 = .ok (.iload_n 2, 1) := by decide +kernel
theorem dX12_mark_62 : decode cX12_mark 62 = .ok (.iconst 5, 1) := by decide +kernel
theorem dX12_mark_63 : decode cX12_mark 63 = .ok (.if_icmp .ge 11, 3) := by decide +kernel
theorem dX12_mark_66 : decode cX12_mark 66 = .ok (.aload_n 0, 1) := by decide +kernel
theorem dX12_mark_67 : decode cX12_mark 67 = .ok (.iload_n 1, 1) := by decide +kernel
theorem dX12_mark_68 : decode cX12_mark 68 = .ok (.invokevirtual 222, 3) := by decide +kernel
theorem dX12_mark_71 : decode cX12_mark 71 = .ok (.goto 4, 3) := by decide +kernel
theorem dX12_mark_74 : decode cX12_mark 74 = .ok (.iconst 0, 1) := by decide +kernel
theorem dX12_mark_75 : decode cX12_mark 75 = .ok (.iadd, 1) := by decide +kernel
theorem dX12_mark_76 : decode cX12_mark 76 = .ok (.istore_n 3, 1) := by decide +kernel
theorem dX12_mark_77 : decode cX12_mark 77 = .ok (.iload_n 2, 1) := by decide +kernel
theorem dX12_mark_78 : decode cX12_mark 78 = .ok (.iconst 4, 1) := by decide +kernel
theorem dX12_mark_79 : decode cX12_mark 79 = .ok (.if_icmp .ne 14, 3) := by decide +kernel
theorem dX12_mark_82 : decode cX12_mark 82 = .ok (.iload_n 3, 1) := by decide +kernel
theorem dX12_mark_83 : decode cX12_mark 83 = .ok (.aload_n 0, 1) := by decide +kernel
theorem dX12_mark_84 : decode cX12_mark 84 = .ok (.getfield 44, 3) := by decide +kernel
theorem dX12_mark_87 : decode cX12_mark 87 = .ok (.iload_n 1, 1) := by decide +kernel
theorem dX12_mark_88 : decode cX12_mark 88 = .ok (.iaload, 1) := by decide +kernel
theorem dX12_mark_89 : decode cX12_mark 89 = .ok (.iadd, 1) := by decide +kernel
theorem dX12_mark_90 : decode cX12_mark 90 = .ok (.goto 21, 3) := by decide +kernel
theorem dX12_mark_93 : decode cX12_mark 93 = .ok (.iload_n 2, 1) := by decide +kernel
theorem dX12_mark_94 : decode cX12_mark 94 = .ok (.bipush 7, 2) := by decide +kernel
theorem dX12_mark_96 : decode cX12_mark 96 = .ok (.if_icmp .ne 14, 3) := by decide +kernel
theorem dX12_mark_99 : decode cX12_mark 99 = .ok (.iload_n 3, 1) := by decide +kernel
theorem dX12_mark_100 : decode cX12_mark 100 = .ok (.aload_n 0, 1) := by decide +kernel
theorem dX12_mark_101 : decode cX12_mark 101 = .ok (.getfield 41, 3) := by decide +kernel
theorem dX12_mark_104 : decode cX12_mark 104 = .ok (.iload_n 1, 1) := by decide +kernel
theorem dX12_mark_105 : decode cX12_mark 105 = .ok (.iaload, 1) := by decide +kernel
theorem dX12_mark_106 : decode cX12_mark 106 = .ok (.iadd, 1) := by decide +kernel
theorem dX12_mark_107 : decode cX12_mark 107 = .ok (.goto 4, 3) := by decide +kernel
theorem dX12_mark_110 : decode cX12_mark 110 = .ok (.iload_n 3, 1) := by decide +kernel
theorem dX12_mark_111 : decode cX12_mark 111 = .ok (.ireturn, 1) := by decide +kernel
theorem dX12_ask_0 : decode cX12_ask 0 = .ok (.aload_n 0, 1) := by decide +kernel
theorem dX12_ask_1 : decode cX12_ask 1 = .ok (.iload_n 1, 1) := by decide +kernel
theorem dX12_ask_2 : decode cX12_ask 2 = .ok (.invokevirtual 209, 3) := by decide +kernel
theorem dX12_ask_5 : decode cX12_ask 5 = .ok (.ifCond .eq 13, 3) := by decide +kernel
theorem dX12_ask_8 : decode cX12_ask 8 = .ok (.iload_n 2, 1) := by decide +kernel
theorem dX12_ask_9 : decode cX12_ask 9 = .ok (.i2l, 1) := by decide +kernel
theorem dX12_ask_10 : decode cX12_ask 10 = .ok (.lconst 0, 1) := by decide +kernel
theorem dX12_ask_11 : decode cX12_ask 11 = .ok (.lconst 1, 1) := by decide +kernel
theorem dX12_ask_12 : decode cX12_ask 12 = .ok (.invokestatic 79, 3) := by decide +kernel
theorem dX12_ask_15 : decode cX12_ask 15 = .ok (.ifCond .ne 6, 3) := by decide +kernel
theorem dX12_ask_18 : decode cX12_ask 18 = .ok (.ldc 89, 2) := by decide +kernel
theorem dX12_ask_20 : decode cX12_ask 20 = .ok (.ireturn, 1) := by decide +kernel
theorem dX12_ask_21 : decode cX12_ask 21 = .ok (.aload_n 0, 1) := by decide +kernel
theorem dX12_ask_22 : decode cX12_ask 22 = .ok (.iconst 0, 1) := by decide +kernel
theorem dX12_ask_23 : decode cX12_ask 23 = .ok (.putfield 212, 3) := by decide +kernel
theorem dX12_ask_26 : decode cX12_ask 26 = .ok (.iload_n 2, 1) := by decide +kernel
theorem dX12_ask_27 : decode cX12_ask 27 = .ok (.ifCond .ne 11, 3) := by decide +kernel
theorem dX12_ask_30 : decode cX12_ask 30 = .ok (.aload_n 0, 1) := by decide +kernel
theorem dX12_ask_31 : decode cX12_ask 31 = .ok (.iload_n 1, 1) := by decide +kernel
theorem dX12_ask_32 : decode cX12_ask 32 = .ok (.invokevirtual 222, 3) := by decide +kernel
theorem dX12_ask_35 : decode cX12_ask 35 = .ok (.goto 8, 3) := by decide +kernel
theorem dX12_ask_38 : decode cX12_ask 38 = .ok (.aload_n 0, 1) := by decide +kernel
theorem dX12_ask_39 : decode cX12_ask 39 = .ok (.iload_n 1, 1) := by decide +kernel
theorem dX12_ask_40 : decode cX12_ask 40 = .ok (.invokevirtual 225, 3) := by decide +kernel
theorem dX12_ask_43 : decode cX12_ask 43 = .ok (.ireturn, 1) := by decide +kernel
theorem dX12_trace_0 : decode cX12_trace 0 = .ok (.iload_n 1, 1) := by decide +kernel
theorem dX12_trace_1 : decode cX12_trace 1 = .ok (.i2l, 1) := by decide +kernel
theorem dX12_trace_2 : decode cX12_trace 2 = .ok (.lconst 0, 1) := by decide +kernel
theorem dX12_trace_3 : decode cX12_trace 3 = .ok (.aload_n 0, 1) := by decide +kernel
theorem dX12_trace_4 : decode cX12_trace 4 = .ok (.getfield 212, 3) := by decide +kernel
theorem dX12_trace_7 : decode cX12_trace 7 = .ok (.iconst 1, 1) := by decide +kernel
theorem dX12_trace_8 : decode cX12_trace 8 = .ok (.isub, 1) := by decide +kernel
theorem dX12_trace_9 : decode cX12_trace 9 = .ok (.i2l, 1) := by decide +kernel
theorem dX12_trace_10 : decode cX12_trace 10 = .ok (.invokestatic 79, 3) := by decide +kernel
theorem dX12_trace_13 : decode cX12_trace 13 = .ok (.ifCond .eq 12, 3) := by decide +kernel
theorem dX12_trace_16 : decode cX12_trace 16 = .ok (.aload_n 0, 1) := by decide +kernel
theorem dX12_trace_17 : decode cX12_trace 17 = .ok (.getfield 53, 3) := by decide +kernel
theorem dX12_trace_20 : decode cX12_trace 20 = .ok (.iload_n 1, 1) := by decide +kernel
theorem dX12_trace_21 : decode cX12_trace 21 = .ok (.iaload, 1) := by decide +kernel
theorem dX12_trace_22 : decode cX12_trace 22 = .ok (.goto 5, 3) := by decide +kernel
theorem dX12_trace_25 : decode cX12_trace 25 = .ok (.ldc 56, 2) := by decide +kernel
theorem dX12_trace_27 : decode cX12_trace 27 = .ok (.ireturn, 1) := by decide +kernel
theorem dX12_doPulse_0 : decode cX12_doPulse 0 = .ok (.iconst 0, 1) := by decide +kernel
theorem dX12_doPulse_1 : decode cX12_doPulse 1 = .ok (.istore_n 3, 1) := by decide +kernel
theorem dX12_doPulse_2 : decode cX12_doPulse 2 = .ok (.iload_n 3, 1) := by decide +kernel
theorem dX12_doPulse_3 : decode cX12_doPulse 3 = .ok (.aload_n 0, 1) := by decide +kernel
theorem dX12_doPulse_4 : decode cX12_doPulse 4 = .ok (.getfield 67, 3) := by decide +kernel
theorem dX12_doPulse_7 : decode cX12_doPulse 7 = .ok (.if_icmp .ge 70, 3) := by decide +kernel
theorem dX12_doPulse_10 : decode cX12_doPulse 10 = .ok (.aload_n 0, 1) := by decide +kernel
theorem dX12_doPulse_11 : decode cX12_doPulse 11 = .ok (.getfield 41, 3) := by decide +kernel
theorem dX12_doPulse_14 : decode cX12_doPulse 14 = .ok (.iload_n 1, 1) := by decide +kernel
theorem dX12_doPulse_15 : decode cX12_doPulse 15 = .ok (.iaload, 1) := by decide +kernel
theorem dX12_doPulse_16 : decode cX12_doPulse 16 = .ok (.iload_n 3, 1) := by decide +kernel
theorem dX12_doPulse_17 : decode cX12_doPulse 17 = .ok (.ishr, 1) := by decide +kernel
theorem dX12_doPulse_18 : decode cX12_doPulse 18 = .ok (.iconst 1, 1) := by decide +kernel
theorem dX12_doPulse_19 : decode cX12_doPulse 19 = .ok (.iand, 1) := by decide +kernel
theorem dX12_doPulse_20 : decode cX12_doPulse 20 = .ok (.iconst 1, 1) := by decide +kernel
theorem dX12_doPulse_21 : decode cX12_doPulse 21 = .ok (.if_icmp .ne 50, 3) := by decide +kernel
theorem dX12_doPulse_24 : decode cX12_doPulse 24 = .ok (.iload_n 2, 1) := by decide +kernel
theorem dX12_doPulse_25 : decode cX12_doPulse 25 = .ok (.iconst 2, 1) := by decide +kernel
theorem dX12_doPulse_26 : decode cX12_doPulse 26 = .ok (.irem, 1) := by decide +kernel
theorem dX12_doPulse_27 : decode cX12_doPulse 27 = .ok (.ifCond .ne 7, 3) := by decide +kernel
theorem dX12_doPulse_30 : decode cX12_doPulse 30 = .ok (.iconst 1, 1) := by decide +kernel
theorem dX12_doPulse_31 : decode cX12_doPulse 31 = .ok (.goto 4, 3) := by decide +kernel
theorem dX12_doPulse_34 : decode cX12_doPulse 34 = .ok (.iconst 2, 1) := by decide +kernel
theorem dX12_doPulse_35 : decode cX12_doPulse 35 = .ok (.istore 4, 2) := by decide +kernel
theorem dX12_doPulse_37 : decode cX12_doPulse 37 = .ok (.aload_n 0, 1) := by decide +kernel
theorem dX12_doPulse_38 : decode cX12_doPulse 38 = .ok (.iload 4, 2) := by decide +kernel
theorem dX12_doPulse_40 : decode cX12_doPulse 40 = .ok (.iconst 2, 1) := by decide +kernel
theorem dX12_doPulse_41 : decode cX12_doPulse 41 = .ok (.iload_n 3, 1) := by decide +kernel
theorem dX12_doPulse_42 : decode cX12_doPulse 42 = .ok (.imul, 1) := by decide +kernel
theorem dX12_doPulse_43 : decode cX12_doPulse 43 = .ok (.ishl, 1) := by decide +kernel
theorem dX12_doPulse_44 : decode cX12_doPulse 44 = .ok (.iload_n 2, 1) := by decide +kernel
theorem dX12_doPulse_45 : decode cX12_doPulse 45 = .ok (.iconst 2, 1) := by decide +kernel
theorem dX12_doPulse_46 : decode cX12_doPulse 46 = .ok (.if_icmp .ge 12, 3) := by decide +kernel
theorem dX12_doPulse_49 : decode cX12_doPulse 49 = .ok (.aload_n 0, 1) := by decide +kernel
theorem dX12_doPulse_50 : decode cX12_doPulse 50 = .ok (.getfield 47, 3) := by decide +kernel
theorem dX12_doPulse_53 : decode cX12_doPulse 53 = .ok (.iload_n 1, 1) := by decide +kernel
theorem dX12_doPulse_54 : decode cX12_doPulse 54 = .ok (.iaload, 1) := by decide +kernel
theorem dX12_doPulse_55 : decode cX12_doPulse 55 = .ok (.goto 13, 3) := by decide +kernel
theorem dX12_doPulse_58 : decode cX12_doPulse 58 = .ok (.iconst 4, 1) := by decide +kernel
theorem dX12_doPulse_59 : decode cX12_doPulse 59 = .ok (.aload_n 0, 1) := by decide +kernel
theorem dX12_doPulse_60 : decode cX12_doPulse 60 = .ok (.getfield 47, 3) := by decide +kernel
theorem dX12_doPulse_63 : decode cX12_doPulse 63 = .ok (.iload_n 1, 1) := by decide +kernel
theorem dX12_doPulse_64 : decode cX12_doPulse 64 = .ok (.iaload, 1) := by decide +kernel
theorem dX12_doPulse_65 : decode cX12_doPulse 65 = .ok (.isub, 1) := by decide +kernel
theorem dX12_doPulse_66 : decode cX12_doPulse 66 = .ok (.iconst 4, 1) := by decide +kernel
theorem dX12_doPulse_67 : decode cX12_doPulse 67 = .ok (.irem, 1) := by decide +kernel
theorem dX12_doPulse_68 : decode cX12_doPulse 68 = .ok (.invokevirtual 168, 3) := by decide +kernel
theorem dX12_doPulse_71 : decode cX12_doPulse 71 = .ok (.iinc 3 1, 3) := by decide +kernel
theorem dX12_doPulse_74 : decode cX12_doPulse 74 = .ok (.goto (-72), 3) := by decide +kernel
theorem dX12_doPulse_77 : decode cX12_doPulse 77 = .ok (.return_, 1) := by decide +kernel
theorem dX12_does_0 : decode cX12_does 0 = .ok (.aload_n 0, 1) := by decide +kernel
theorem dX12_does_1 : decode cX12_does 1 = .ok (.getfield 38, 3) := by decide +kernel
theorem dX12_does_4 : decode cX12_does 4 = .ok (.iload_n 1, 1) := by decide +kernel
theorem dX12_does_5 : decode cX12_does 5 = .ok (.iaload, 1) := by decide +kernel
theorem dX12_does_6 : decode cX12_does 6 = .ok (.tableswitch 205 2 7 #[38, 51, 145, 205, 205, 177], 38) := by decide +kernel
theorem dX12_does_44 : decode cX12_does 44 = .ok (.aload_n 0, 1) := by decide +kernel
theorem dX12_does_45 : decode cX12_does 45 = .ok (.iload_n 1, 1) := by decide +kernel
theorem dX12_does_46 : decode cX12_does 46 = .ok (.aload_n 0, 1) := by decide +kernel
theorem dX12_does_47 : decode cX12_does 47 = .ok (.getfield 44, 3) := by decide +kernel
theorem dX12_does_50 : decode cX12_does 50 = .ok (.iload_n 1, 1) := by decide +kernel
theorem dX12_does_51 : decode cX12_does 51 = .ok (.iaload, 1) := by decide +kernel
theorem dX12_does_52 : decode cX12_does 52 = .ok (.invokevirtual 228, 3) := by decide +kernel
theorem dX12_does_55 : decode cX12_does 55 = .ok (.iconst 0, 1) := by decide +kernel
theorem dX12_does_56 : decode cX12_does 56 = .ok (.ireturn, 1) := by decide +kernel
theorem dX12_does_57 : decode cX12_does 57 = .ok (.aload_n 0, 1) := by decide +kernel
theorem dX12_does_58 : decode cX12_does 58 = .ok (.getfield 231, 3) := by decide +kernel
theorem dX12_does_61 : decode cX12_does 61 = .ok (.ifCond .ne 7, 3) := by decide +kernel
theorem dX12_does_64 : decode cX12_does 64 = .ok (.iconst 0, 1) := by decide +kernel
theorem dX12_does_65 : decode cX12_does 65 = .ok (.goto 14, 3) := by decide +kernel
theorem dX12_does_68 : decode cX12_does 68 = .ok (.aload_n 0, 1) := by decide +kernel
theorem dX12_does_69 : decode cX12_does 69 = .ok (.getfield 64, 3) := by decide +kernel
theorem dX12_does_72 : decode cX12_does 72 = .ok (.aload_n 0, 1) := by decide +kernel
theorem dX12_does_73 : decode cX12_does 73 = .ok (.getfield 231, 3) := by decide +kernel
theorem dX12_does_76 : decode cX12_does 76 = .ok (.iconst 1, 1) := by decide +kernel
theorem dX12_does_77 : decode cX12_does 77 = .ok (.isub, 1) := by decide +kernel
theorem dX12_does_78 : decode cX12_does 78 = .ok (.iaload, 1) := by decide +kernel
theorem dX12_does_79 : decode cX12_does 79 = .ok (.istore_n 2, 1) := by decide +kernel
theorem dX12_does_80 : decode cX12_does 80 = .ok (.aload_n 0, 1) := by decide +kernel
theorem dX12_does_81 : decode cX12_does 81 = .ok (.getfield 7, 3) := by decide +kernel
theorem dX12_does_84 : decode cX12_does 84 = .ok (.aload_n 0, 1) := by decide +kernel
theorem dX12_does_85 : decode cX12_does 85 = .ok (.getfield 50, 3) := by decide +kernel
theorem dX12_does_88 : decode cX12_does 88 = .ok (.iload_n 1, 1) := by decide +kernel
theorem dX12_does_89 : decode cX12_does 89 = .ok (.iaload, 1) := by decide +kernel
theorem dX12_does_90 : decode cX12_does 90 = .ok (.iaload, 1) := by decide +kernel
theorem dX12_does_91 : decode cX12_does 91 = .ok (.ifCond .ne 5, 3) := by decide +kernel
theorem dX12_does_94 : decode cX12_does 94 = .ok (.iconst 1, 1) := by decide +kernel
theorem dX12_does_95 : decode cX12_does 95 = .ok (.ireturn, 1) := by decide +kernel
theorem dX12_does_96 : decode cX12_does 96 = .ok (.iload_n 2, 1) := by decide +kernel
theorem dX12_does_97 : decode cX12_does 97 = .ok (.aload_n 0, 1) := by decide +kernel
theorem dX12_does_98 : decode cX12_does 98 = .ok (.getfield 13, 3) := by decide +kernel
theorem dX12_does_101 : decode cX12_does 101 = .ok (.aload_n 0, 1) := by decide +kernel
theorem dX12_does_102 : decode cX12_does 102 = .ok (.getfield 50, 3) := by decide +kernel
theorem dX12_does_105 : decode cX12_does 105 = .ok (.iload_n 1, 1) := by decide +kernel
theorem dX12_does_106 : decode cX12_does 106 = .ok (.iaload, 1) := by decide +kernel
theorem dX12_does_107 : decode cX12_does 107 = .ok (.iaload, 1) := by decide +kernel
theorem dX12_does_108 : decode cX12_does 108 = .ok (.if_icmp .lt 5, 3) := by decide +kernel
theorem dX12_does_111 : decode cX12_does 111 = .ok (.iconst 2, 1) := by decide +kernel
theorem dX12_does_112 : decode cX12_does 112 = .ok (.ireturn, 1) := by decide +kernel
theorem dX12_does_113 : decode cX12_does 113 = .ok (.aload_n 0, 1) := by decide +kernel
theorem dX12_does_114 : decode cX12_does 114 = .ok (.getfield 44, 3) := by decide +kernel
theorem dX12_does_117 : decode cX12_does 117 = .ok (.iload_n 1, 1) := by decide +kernel
theorem dX12_does_118 : decode cX12_does 118 = .ok (.iaload, 1) := by decide +kernel
theorem dX12_does_119 : decode cX12_does 119 = .ok (.aload_n 0, 1) := by decide +kernel
theorem dX12_does_120 : decode cX12_does 120 = .ok (.getfield 16, 3) := by decide +kernel
theorem dX12_does_123 : decode cX12_does 123 = .ok (.bipush 60, 2) := by decide +kernel
theorem dX12_does_125 : decode cX12_does 125 = .ok (.aload_n 0, 1) := by decide +kernel
theorem dX12_does_126 : decode cX12_does 126 = .ok (.getfield 50, 3) := by decide +kernel
theorem dX12_does_129 : decode cX12_does 129 = .ok (.iload_n 1, 1) := by decide +kernel
theorem dX12_does_130 : decode cX12_does 130 = .ok (.iaload, 1) := by decide +kernel
theorem dX12_does_131 : decode cX12_does 131 = .ok (.imul, 1) := by decide +kernel
theorem dX12_does_132 : decode cX12_does 132 = .ok (.iload_n 2, 1) := by decide +kernel
theorem dX12_does_133 : decode cX12_does 133 = .ok (.iadd, 1) := by decide +kernel
theorem dX12_does_134 : decode cX12_does 134 = .ok (.iaload, 1) := by decide +kernel
theorem dX12_does_135 : decode cX12_does 135 = .ok (.iconst 4, 1) := by decide +kernel
theorem dX12_does_136 : decode cX12_does 136 = .ok (.irem, 1) := by decide +kernel
theorem dX12_does_137 : decode cX12_does 137 = .ok (.iadd, 1) := by decide +kernel
theorem dX12_does_138 : decode cX12_does 138 = .ok (.iconst 4, 1) := by decide +kernel
theorem dX12_does_139 : decode cX12_does 139 = .ok (.iadd, 1) := by decide +kernel
theorem dX12_does_140 : decode cX12_does 140 = .ok (.iconst 4, 1) := by decide +kernel
theorem dX12_does_141 : decode cX12_does 141 = .ok (.irem, 1) := by decide +kernel
theorem dX12_does_142 : decode cX12_does 142 = .ok (.istore_n 3, 1) := by decide +kernel
theorem dX12_does_143 : decode cX12_does 143 = .ok (.aload_n 0, 1) := by decide +kernel
theorem dX12_does_144 : decode cX12_does 144 = .ok (.iload_n 1, 1) := by decide +kernel
theorem dX12_does_145 : decode cX12_does 145 = .ok (.iload_n 3, 1) := by decide +kernel
theorem dX12_does_146 : decode cX12_does 146 = .ok (.invokevirtual 228, 3) := by decide +kernel
theorem dX12_does_149 : decode cX12_does 149 = .ok (.iconst 0, 1) := by decide +kernel
theorem dX12_does_150 : decode cX12_does 150 = .ok (.ireturn, 1) := by decide +kernel
theorem dX12_does_151 : decode cX12_does 151 = .ok (.aload_n 0, 1) := by decide +kernel
theorem dX12_does_152 : decode cX12_does 152 = .ok (.aload_n 0, 1) := by decide +kernel
theorem dX12_does_153 : decode cX12_does 153 = .ok (.getfield 41, 3) := by decide +kernel
theorem dX12_does_156 : decode cX12_does 156 = .ok (.iload_n 1, 1) := by decide +kernel
theorem dX12_does_157 : decode cX12_does 157 = .ok (.iaload, 1) := by decide +kernel
theorem dX12_does_158 : decode cX12_does 158 = .ok (.aload_n 0, 1) := by decide +kernel
theorem dX12_does_159 : decode cX12_does 159 = .ok (.getfield 44, 3) := by decide +kernel
theorem dX12_does_162 : decode cX12_does 162 = .ok (.iload_n 1, 1) := by decide +kernel
theorem dX12_does_163 : decode cX12_does 163 = .ok (.iaload, 1) := by decide +kernel
theorem dX12_does_164 : decode cX12_does 164 = .ok (.aload_n 0, 1) := by decide +kernel
theorem dX12_does_165 : decode cX12_does 165 = .ok (.getfield 47, 3) := by decide +kernel
theorem dX12_does_168 : decode cX12_does 168 = .ok (.iload_n 1, 1) := by decide +kernel
theorem dX12_does_169 : decode cX12_does 169 = .ok (.iaload, 1) := by decide +kernel
theorem dX12_does_170 : decode cX12_does 170 = .ok (.invokevirtual 174, 3) := by decide +kernel
theorem dX12_does_173 : decode cX12_does 173 = .ok (.ifCond .eq 7, 3) := by decide +kernel
theorem dX12_does_176 : decode cX12_does 176 = .ok (.iconst 0, 1) := by decide +kernel
theorem dX12_does_177 : decode cX12_does 177 = .ok (.goto 5, 3) := by decide +kernel
theorem dX12_does_180 : decode cX12_does 180 = .ok (.ldc 117, 2) := by decide +kernel
theorem dX12_does_182 : decode cX12_does 182 = .ok (.ireturn, 1) := by decide +kernel
theorem dX12_does_183 : decode cX12_does 183 = .ok (.aload_n 0, 1) := by decide +kernel
theorem dX12_does_184 : decode cX12_does 184 = .ok (.aload_n 0, 1) := by decide +kernel
theorem dX12_does_185 : decode cX12_does 185 = .ok (.getfield 41, 3) := by decide +kernel
theorem dX12_does_188 : decode cX12_does 188 = .ok (.iload_n 1, 1) := by decide +kernel
theorem dX12_does_189 : decode cX12_does 189 = .ok (.iaload, 1) := by decide +kernel
theorem dX12_does_190 : decode cX12_does 190 = .ok (.bipush 8, 2) := by decide +kernel
theorem dX12_does_192 : decode cX12_does 192 = .ok (.aload_n 0, 1) := by decide +kernel
theorem dX12_does_193 : decode cX12_does 193 = .ok (.getfield 44, 3) := by decide +kernel
theorem dX12_does_196 : decode cX12_does 196 = .ok (.iload_n 1, 1) := by decide +kernel
theorem dX12_does_197 : decode cX12_does 197 = .ok (.iaload, 1) := by decide +kernel
theorem dX12_does_198 : decode cX12_does 198 = .ok (.invokevirtual 141, 3) := by decide +kernel
theorem dX12_does_201 : decode cX12_does 201 = .ok (.ifCond .eq 7, 3) := by decide +kernel
theorem dX12_does_204 : decode cX12_does 204 = .ok (.iconst 0, 1) := by decide +kernel
theorem dX12_does_205 : decode cX12_does 205 = .ok (.goto 5, 3) := by decide +kernel
theorem dX12_does_208 : decode cX12_does 208 = .ok (.ldc 117, 2) := by decide +kernel
theorem dX12_does_210 : decode cX12_does 210 = .ok (.ireturn, 1) := by decide +kernel
theorem dX12_does_211 : decode cX12_does 211 = .ok (.iconst 0, 1) := by decide +kernel
theorem dX12_does_212 : decode cX12_does 212 = .ok (.ireturn, 1) := by decide +kernel
theorem dX12_run_0 : decode cX12_run 0 = .ok (.aload_n 0, 1) := by decide +kernel
theorem dX12_run_1 : decode cX12_run 1 = .ok (.getfield 205, 3) := by decide +kernel
theorem dX12_run_4 : decode cX12_run 4 = .ok (.ifCond .le 6, 3) := by decide +kernel
theorem dX12_run_7 : decode cX12_run 7 = .ok (.ldc 208, 2) := by decide +kernel
theorem dX12_run_9 : decode cX12_run 9 = .ok (.ireturn, 1) := by decide +kernel
theorem dX12_run_10 : decode cX12_run 10 = .ok (.iconst 0, 1) := by decide +kernel
theorem dX12_run_11 : decode cX12_run 11 = .ok (.istore_n 1, 1) := by decide +kernel
theorem dX12_run_12 : decode cX12_run 12 = .ok (.iload_n 1, 1) := by decide +kernel
theorem dX12_run_13 : decode cX12_run 13 = .ok (.bipush 9, 2) := by decide +kernel
theorem dX12_run_15 : decode cX12_run 15 = .ok (.if_icmp .ge 18, 3) := by decide +kernel
theorem dX12_run_18 : decode cX12_run 18 = .ok (.aload_n 0, 1) := by decide +kernel
theorem dX12_run_19 : decode cX12_run 19 = .ok (.bipush 9, 2) := by decide +kernel
theorem dX12_run_21 : decode cX12_run 21 = .ok (.iload_n 1, 1) := by decide +kernel
theorem dX12_run_22 : decode cX12_run 22 = .ok (.iadd, 1) := by decide +kernel
theorem dX12_run_23 : decode cX12_run 23 = .ok (.iload_n 1, 1) := by decide +kernel
theorem dX12_run_24 : decode cX12_run 24 = .ok (.invokevirtual 133, 3) := by decide +kernel
theorem dX12_run_27 : decode cX12_run 27 = .ok (.iinc 1 1, 3) := by decide +kernel
theorem dX12_run_30 : decode cX12_run 30 = .ok (.goto (-18), 3) := by decide +kernel
theorem dX12_run_33 : decode cX12_run 33 = .ok (.aload_n 0, 1) := by decide +kernel
theorem dX12_run_34 : decode cX12_run 34 = .ok (.iconst 0, 1) := by decide +kernel
theorem dX12_run_35 : decode cX12_run 35 = .ok (.putfield 234, 3) := by decide +kernel
theorem dX12_run_38 : decode cX12_run 38 = .ok (.aload_n 0, 1) := by decide +kernel
theorem dX12_run_39 : decode cX12_run 39 = .ok (.ldc 56, 2) := by decide +kernel
theorem dX12_run_41 : decode cX12_run 41 = .ok (.putfield 57, 3) := by decide +kernel
theorem dX12_run_44 : decode cX12_run 44 = .ok (.aload_n 0, 1) := by decide +kernel
theorem dX12_run_45 : decode cX12_run 45 = .ok (.iconst 0, 1) := by decide +kernel
theorem dX12_run_46 : decode cX12_run 46 = .ok (.putfield 231, 3) := by decide +kernel
theorem dX12_run_49 : decode cX12_run 49 = .ok (.iconst 0, 1) := by decide +kernel
theorem dX12_run_50 : decode cX12_run 50 = .ok (.istore_n 1, 1) := by decide +kernel
theorem dX12_run_51 : decode cX12_run 51 = .ok (.iconst 0, 1) := by decide +kernel
theorem dX12_run_52 : decode cX12_run 52 = .ok (.istore_n 2, 1) := by decide +kernel
theorem dX12_run_53 : decode cX12_run 53 = .ok (.iload_n 1, 1) := by decide +kernel
theorem dX12_run_54 : decode cX12_run 54 = .ok (.aload_n 0, 1) := by decide +kernel
theorem dX12_run_55 : decode cX12_run 55 = .ok (.getfield 193, 3) := by decide +kernel
theorem dX12_run_58 : decode cX12_run 58 = .ok (.if_icmp .ge 183, 3) := by decide +kernel
theorem dX12_run_61 : decode cX12_run 61 = .ok (.iload_n 2, 1) := by decide +kernel
theorem dX12_run_62 : decode cX12_run 62 = .ok (.ifCond .ne 179, 3) := by decide +kernel
theorem dX12_run_65 : decode cX12_run 65 = .ok (.aload_n 0, 1) := by decide +kernel
theorem dX12_run_66 : decode cX12_run 66 = .ok (.getfield 234, 3) := by decide +kernel
theorem dX12_run_69 : decode cX12_run 69 = .ok (.sipush 500, 3) := by decide +kernel
theorem dX12_run_72 : decode cX12_run 72 = .ok (.if_icmp .ne 9, 3) := by decide +kernel
theorem dX12_run_75 : decode cX12_run 75 = .ok (.ldc 117, 2) := by decide +kernel
theorem dX12_run_77 : decode cX12_run 77 = .ok (.istore_n 2, 1) := by decide +kernel
theorem dX12_run_78 : decode cX12_run 78 = .ok (.goto (-25), 3) := by decide +kernel
theorem dX12_run_81 : decode cX12_run 81 = .ok (.aload_n 0, 1) := by decide +kernel
theorem dX12_run_82 : decode cX12_run 82 = .ok (.iload_n 1, 1) := by decide +kernel
theorem dX12_run_83 : decode cX12_run 83 = .ok (.putfield 57, 3) := by decide +kernel
theorem dX12_run_86 : decode cX12_run 86 = .ok (.aload_n 0, 1) := by decide +kernel
theorem dX12_run_87 : decode cX12_run 87 = .ok (.iload_n 1, 1) := by decide +kernel
theorem dX12_run_88 : decode cX12_run 88 = .ok (.invokevirtual 237, 3) := by decide +kernel
theorem dX12_run_91 : decode cX12_run 91 = .ok (.istore_n 2, 1) := by decide +kernel
theorem dX12_run_92 : decode cX12_run 92 = .ok (.iload_n 2, 1) := by decide +kernel
theorem dX12_run_93 : decode cX12_run 93 = .ok (.ifCond .ne (-40), 3) := by decide +kernel
theorem dX12_run_96 : decode cX12_run 96 = .ok (.aload_n 0, 1) := by decide +kernel
theorem dX12_run_97 : decode cX12_run 97 = .ok (.dup, 1) := by decide +kernel
theorem dX12_run_98 : decode cX12_run 98 = .ok (.getfield 234, 3) := by decide +kernel
theorem dX12_run_101 : decode cX12_run 101 = .ok (.iconst 1, 1) := by decide +kernel
theorem dX12_run_102 : decode cX12_run 102 = .ok (.iadd, 1) := by decide +kernel
theorem dX12_run_103 : decode cX12_run 103 = .ok (.putfield 234, 3) := by decide +kernel
theorem dX12_run_106 : decode cX12_run 106 = .ok (.iload_n 1, 1) := by decide +kernel
theorem dX12_run_107 : decode cX12_run 107 = .ok (.iconst 1, 1) := by decide +kernel
theorem dX12_run_108 : decode cX12_run 108 = .ok (.iadd, 1) := by decide +kernel
theorem dX12_run_109 : decode cX12_run 109 = .ok (.istore_n 3, 1) := by decide +kernel
theorem dX12_run_110 : decode cX12_run 110 = .ok (.aload_n 0, 1) := by decide +kernel
theorem dX12_run_111 : decode cX12_run 111 = .ok (.getfield 38, 3) := by decide +kernel
theorem dX12_run_114 : decode cX12_run 114 = .ok (.iload_n 1, 1) := by decide +kernel
theorem dX12_run_115 : decode cX12_run 115 = .ok (.iaload, 1) := by decide +kernel
theorem dX12_run_116 : decode cX12_run 116 = .ok (.iconst 5, 1) := by decide +kernel
theorem dX12_run_117 : decode cX12_run 117 = .ok (.if_icmp .ne 36, 3) := by decide +kernel
theorem dX12_run_120 : decode cX12_run 120 = .ok (.aload_n 0, 1) := by decide +kernel
theorem dX12_run_121 : decode cX12_run 121 = .ok (.getfield 61, 3) := by decide +kernel
theorem dX12_run_124 : decode cX12_run 124 = .ok (.aload_n 0, 1) := by decide +kernel
theorem dX12_run_125 : decode cX12_run 125 = .ok (.getfield 231, 3) := by decide +kernel
theorem dX12_run_128 : decode cX12_run 128 = .ok (.iload_n 1, 1) := by decide +kernel
theorem dX12_run_129 : decode cX12_run 129 = .ok (.iastore, 1) := by decide +kernel
theorem dX12_run_130 : decode cX12_run 130 = .ok (.aload_n 0, 1) := by decide +kernel
theorem dX12_run_131 : decode cX12_run 131 = .ok (.getfield 64, 3) := by decide +kernel
theorem dX12_run_134 : decode cX12_run 134 = .ok (.aload_n 0, 1) := by decide +kernel
theorem dX12_run_135 : decode cX12_run 135 = .ok (.getfield 231, 3) := by decide +kernel
theorem dX12_run_138 : decode cX12_run 138 = .ok (.iconst 0, 1) := by decide +kernel
theorem dX12_run_139 : decode cX12_run 139 = .ok (.iastore, 1) := by decide +kernel
theorem dX12_run_140 : decode cX12_run 140 = .ok (.aload_n 0, 1) := by decide +kernel
theorem dX12_run_141 : decode cX12_run 141 = .ok (.dup, 1) := by decide +kernel
theorem dX12_run_142 : decode cX12_run 142 = .ok (.getfield 231, 3) := by decide +kernel
theorem dX12_run_145 : decode cX12_run 145 = .ok (.iconst 1, 1) := by decide +kernel
theorem dX12_run_146 : decode cX12_run 146 = .ok (.iadd, 1) := by decide +kernel
theorem dX12_run_147 : decode cX12_run 147 = .ok (.putfield 231, 3) := by decide +kernel
theorem dX12_run_150 : decode cX12_run 150 = .ok (.goto 86, 3) := by decide +kernel
theorem dX12_run_153 : decode cX12_run 153 = .ok (.aload_n 0, 1) := by decide +kernel
theorem dX12_run_154 : decode cX12_run 154 = .ok (.getfield 38, 3) := by decide +kernel
theorem dX12_run_157 : decode cX12_run 157 = .ok (.iload_n 1, 1) := by decide +kernel
theorem dX12_run_158 : decode cX12_run 158 = .ok (.iaload, 1) := by decide +kernel
theorem dX12_run_159 : decode cX12_run 159 = .ok (.bipush 6, 2) := by decide +kernel
theorem dX12_run_161 : decode cX12_run 161 = .ok (.if_icmp .ne 75, 3) := by decide +kernel
theorem dX12_run_164 : decode cX12_run 164 = .ok (.aload_n 0, 1) := by decide +kernel
theorem dX12_run_165 : decode cX12_run 165 = .ok (.getfield 64, 3) := by decide +kernel
theorem dX12_run_168 : decode cX12_run 168 = .ok (.aload_n 0, 1) := by decide +kernel
theorem dX12_run_169 : decode cX12_run 169 = .ok (.getfield 231, 3) := by decide +kernel
theorem dX12_run_172 : decode cX12_run 172 = .ok (.iconst 1, 1) := by decide +kernel
theorem dX12_run_173 : decode cX12_run 173 = .ok (.isub, 1) := by decide +kernel
theorem dX12_run_174 : decode cX12_run 174 = .ok (.dup2, 1) := by decide +kernel
theorem dX12_run_175 : decode cX12_run 175 = .ok (.iaload, 1) := by decide +kernel
theorem dX12_run_176 : decode cX12_run 176 = .ok (.iconst 1, 1) := by decide +kernel
theorem dX12_run_177 : decode cX12_run 177 = .ok (.iadd, 1) := by decide +kernel
theorem dX12_run_178 : decode cX12_run 178 = .ok (.iastore, 1) := by decide +kernel
theorem dX12_run_179 : decode cX12_run 179 = .ok (.aload_n 0, 1) := by decide +kernel
theorem dX12_run_180 : decode cX12_run 180 = .ok (.getfield 64, 3) := by decide +kernel
theorem dX12_run_183 : decode cX12_run 183 = .ok (.aload_n 0, 1) := by decide +kernel
theorem dX12_run_184 : decode cX12_run 184 = .ok (.getfield 231, 3) := by decide +kernel
theorem dX12_run_187 : decode cX12_run 187 = .ok (.iconst 1, 1) := by decide +kernel
theorem dX12_run_188 : decode cX12_run 188 = .ok (.isub, 1) := by decide +kernel
theorem dX12_run_189 : decode cX12_run 189 = .ok (.iaload, 1) := by decide +kernel
theorem dX12_run_190 : decode cX12_run 190 = .ok (.aload_n 0, 1) := by decide +kernel
theorem dX12_run_191 : decode cX12_run 191 = .ok (.getfield 41, 3) := by decide +kernel
theorem dX12_run_194 : decode cX12_run 194 = .ok (.aload_n 0, 1) := by decide +kernel
theorem dX12_run_195 : decode cX12_run 195 = .ok (.getfield 61, 3) := by decide +kernel
theorem dX12_run_198 : decode cX12_run 198 = .ok (.aload_n 0, 1) := by decide +kernel
theorem dX12_run_199 : decode cX12_run 199 = .ok (.getfield 231, 3) := by decide +kernel
theorem dX12_run_202 : decode cX12_run 202 = .ok (.iconst 1, 1) := by decide +kernel
theorem dX12_run_203 : decode cX12_run 203 = .ok (.isub, 1) := by decide +kernel
theorem dX12_run_204 : decode cX12_run 204 = .ok (.iaload, 1) := by decide +kernel
theorem dX12_run_205 : decode cX12_run 205 = .ok (.iaload, 1) := by decide +kernel
theorem dX12_run_206 : decode cX12_run 206 = .ok (.if_icmp .ge 20, 3) := by decide +kernel
theorem dX12_run_209 : decode cX12_run 209 = .ok (.aload_n 0, 1) := by decide +kernel
theorem dX12_run_210 : decode cX12_run 210 = .ok (.getfield 61, 3) := by decide +kernel
theorem dX12_run_213 : decode cX12_run 213 = .ok (.aload_n 0, 1) := by decide +kernel
theorem dX12_run_214 : decode cX12_run 214 = .ok (.getfield 231, 3) := by decide +kernel
theorem dX12_run_217 : decode cX12_run 217 = .ok (.iconst 1, 1) := by decide +kernel
theorem dX12_run_218 : decode cX12_run 218 = .ok (.isub, 1) := by decide +kernel
theorem dX12_run_219 : decode cX12_run 219 = .ok (.iaload, 1) := by decide +kernel
theorem dX12_run_220 : decode cX12_run 220 = .ok (.iconst 1, 1) := by decide +kernel
theorem dX12_run_221 : decode cX12_run 221 = .ok (.iadd, 1) := by decide +kernel
theorem dX12_run_222 : decode cX12_run 222 = .ok (.istore_n 3, 1) := by decide +kernel
theorem dX12_run_223 : decode cX12_run 223 = .ok (.goto 13, 3) := by decide +kernel
theorem dX12_run_226 : decode cX12_run 226 = .ok (.aload_n 0, 1) := by decide +kernel
theorem dX12_run_227 : decode cX12_run 227 = .ok (.dup, 1) := by decide +kernel
theorem dX12_run_228 : decode cX12_run 228 = .ok (.getfield 231, 3) := by decide +kernel
theorem dX12_run_231 : decode cX12_run 231 = .ok (.iconst 1, 1) := by decide +kernel
theorem dX12_run_232 : decode cX12_run 232 = .ok (.isub, 1) := by decide +kernel
theorem dX12_run_233 : decode cX12_run 233 = .ok (.putfield 231, 3) := by decide +kernel
theorem dX12_run_236 : decode cX12_run 236 = .ok (.iload_n 3, 1) := by decide +kernel
theorem dX12_run_237 : decode cX12_run 237 = .ok (.istore_n 1, 1) := by decide +kernel
theorem dX12_run_238 : decode cX12_run 238 = .ok (.goto (-185), 3) := by decide +kernel
theorem dX12_run_241 : decode cX12_run 241 = .ok (.iload_n 2, 1) := by decide +kernel
theorem dX12_run_242 : decode cX12_run 242 = .ok (.ifCond .ne 12, 3) := by decide +kernel
theorem dX12_run_245 : decode cX12_run 245 = .ok (.aload_n 0, 1) := by decide +kernel
theorem dX12_run_246 : decode cX12_run 246 = .ok (.aload_n 0, 1) := by decide +kernel
theorem dX12_run_247 : decode cX12_run 247 = .ok (.getfield 234, 3) := by decide +kernel
theorem dX12_run_250 : decode cX12_run 250 = .ok (.invokevirtual 94, 3) := by decide +kernel
theorem dX12_run_253 : decode cX12_run 253 = .ok (.ireturn, 1) := by decide +kernel
theorem dX12_run_254 : decode cX12_run 254 = .ok (.iconst 0, 1) := by decide +kernel
theorem dX12_run_255 : decode cX12_run 255 = .ok (.istore_n 3, 1) := by decide +kernel
theorem dX12_run_256 : decode cX12_run 256 = .ok (.iload_n 3, 1) := by decide +kernel
theorem dX12_run_257 : decode cX12_run 257 = .ok (.bipush 9, 2) := by decide +kernel
theorem dX12_run_259 : decode cX12_run 259 = .ok (.if_icmp .ge 18, 3) := by decide +kernel
theorem dX12_run_262 : decode cX12_run 262 = .ok (.aload_n 0, 1) := by decide +kernel
theorem dX12_run_263 : decode cX12_run 263 = .ok (.iload_n 3, 1) := by decide +kernel
theorem dX12_run_264 : decode cX12_run 264 = .ok (.bipush 9, 2) := by decide +kernel
theorem dX12_run_266 : decode cX12_run 266 = .ok (.iload_n 3, 1) := by decide +kernel
theorem dX12_run_267 : decode cX12_run 267 = .ok (.iadd, 1) := by decide +kernel
theorem dX12_run_268 : decode cX12_run 268 = .ok (.invokevirtual 133, 3) := by decide +kernel
theorem dX12_run_271 : decode cX12_run 271 = .ok (.iinc 3 1, 3) := by decide +kernel
theorem dX12_run_274 : decode cX12_run 274 = .ok (.goto (-18), 3) := by decide +kernel
theorem dX12_run_277 : decode cX12_run 277 = .ok (.iload_n 2, 1) := by decide +kernel
theorem dX12_run_278 : decode cX12_run 278 = .ok (.ldc 117, 2) := by decide +kernel
theorem dX12_run_280 : decode cX12_run 280 = .ok (.if_icmp .ne 8, 3) := by decide +kernel
theorem dX12_run_283 : decode cX12_run 283 = .ok (.ldc 117, 2) := by decide +kernel
theorem dX12_run_285 : decode cX12_run 285 = .ok (.goto 8, 3) := by decide +kernel
theorem dX12_run_288 : decode cX12_run 288 = .ok (.aload_n 0, 1) := by decide +kernel
theorem dX12_run_289 : decode cX12_run 289 = .ok (.iload_n 2, 1) := by decide +kernel
theorem dX12_run_290 : decode cX12_run 290 = .ok (.invokevirtual 90, 3) := by decide +kernel
theorem dX12_run_293 : decode cX12_run 293 = .ok (.ireturn, 1) := by decide +kernel
theorem dX12_told_0 : decode cX12_told 0 = .ok (.iload_n 1, 1) := by decide +kernel
theorem dX12_told_1 : decode cX12_told 1 = .ok (.ifCond .ne 10, 3) := by decide +kernel
theorem dX12_told_4 : decode cX12_told 4 = .ok (.aload_n 0, 1) := by decide +kernel
theorem dX12_told_5 : decode cX12_told 5 = .ok (.getfield 234, 3) := by decide +kernel
theorem dX12_told_8 : decode cX12_told 8 = .ok (.goto 17, 3) := by decide +kernel
theorem dX12_told_11 : decode cX12_told 11 = .ok (.iload_n 1, 1) := by decide +kernel
theorem dX12_told_12 : decode cX12_told 12 = .ok (.iconst 1, 1) := by decide +kernel
theorem dX12_told_13 : decode cX12_told 13 = .ok (.if_icmp .ne 10, 3) := by decide +kernel
theorem dX12_told_16 : decode cX12_told 16 = .ok (.aload_n 0, 1) := by decide +kernel
theorem dX12_told_17 : decode cX12_told 17 = .ok (.getfield 57, 3) := by decide +kernel
theorem dX12_told_20 : decode cX12_told 20 = .ok (.goto 5, 3) := by decide +kernel
theorem dX12_told_23 : decode cX12_told 23 = .ok (.ldc 89, 2) := by decide +kernel
theorem dX12_told_25 : decode cX12_told 25 = .ok (.ireturn, 1) := by decide +kernel
theorem dX12_count_0 : decode cX12_count 0 = .ok (.iconst 0, 1) := by decide +kernel
theorem dX12_count_1 : decode cX12_count 1 = .ok (.istore_n 2, 1) := by decide +kernel
theorem dX12_count_2 : decode cX12_count 2 = .ok (.iload_n 1, 1) := by decide +kernel
theorem dX12_count_3 : decode cX12_count 3 = .ok (.tableswitch 106 0 4 #[33, 38, 43, 76, 81], 33) := by decide +kernel
theorem dX12_count_36 : decode cX12_count 36 = .ok (.aload_n 0, 1) := by decide +kernel
theorem dX12_count_37 : decode cX12_count 37 = .ok (.getfield 67, 3) := by decide +kernel
theorem dX12_count_40 : decode cX12_count 40 = .ok (.ireturn, 1) := by decide +kernel
theorem dX12_count_41 : decode cX12_count 41 = .ok (.aload_n 0, 1) := by decide +kernel
theorem dX12_count_42 : decode cX12_count 42 = .ok (.getfield 193, 3) := by decide +kernel
theorem dX12_count_45 : decode cX12_count 45 = .ok (.ireturn, 1) := by decide +kernel
theorem dX12_count_46 : decode cX12_count 46 = .ok (.iconst 0, 1) := by decide +kernel
theorem dX12_count_47 : decode cX12_count 47 = .ok (.istore_n 3, 1) := by decide +kernel
theorem dX12_count_48 : decode cX12_count 48 = .ok (.iload_n 3, 1) := by decide +kernel
theorem dX12_count_49 : decode cX12_count 49 = .ok (.bipush 8, 2) := by decide +kernel
theorem dX12_count_51 : decode cX12_count 51 = .ok (.if_icmp .ge 26, 3) := by decide +kernel
theorem dX12_count_54 : decode cX12_count 54 = .ok (.iload_n 2, 1) := by decide +kernel
theorem dX12_count_55 : decode cX12_count 55 = .ok (.aload_n 0, 1) := by decide +kernel
theorem dX12_count_56 : decode cX12_count 56 = .ok (.getfield 7, 3) := by decide +kernel
theorem dX12_count_59 : decode cX12_count 59 = .ok (.iload_n 3, 1) := by decide +kernel
theorem dX12_count_60 : decode cX12_count 60 = .ok (.iaload, 1) := by decide +kernel
theorem dX12_count_61 : decode cX12_count 61 = .ok (.ifCond .le 7, 3) := by decide +kernel
theorem dX12_count_64 : decode cX12_count 64 = .ok (.iconst 1, 1) := by decide +kernel
theorem dX12_count_65 : decode cX12_count 65 = .ok (.goto 4, 3) := by decide +kernel
theorem dX12_count_68 : decode cX12_count 68 = .ok (.iconst 0, 1) := by decide +kernel
theorem dX12_count_69 : decode cX12_count 69 = .ok (.iadd, 1) := by decide +kernel
theorem dX12_count_70 : decode cX12_count 70 = .ok (.istore_n 2, 1) := by decide +kernel
theorem dX12_count_71 : decode cX12_count 71 = .ok (.iinc 3 1, 3) := by decide +kernel
theorem dX12_count_74 : decode cX12_count 74 = .ok (.goto (-26), 3) := by decide +kernel
theorem dX12_count_77 : decode cX12_count 77 = .ok (.iload_n 2, 1) := by decide +kernel
theorem dX12_count_78 : decode cX12_count 78 = .ok (.ireturn, 1) := by decide +kernel
theorem dX12_count_79 : decode cX12_count 79 = .ok (.aload_n 0, 1) := by decide +kernel
theorem dX12_count_80 : decode cX12_count 80 = .ok (.getfield 205, 3) := by decide +kernel
theorem dX12_count_83 : decode cX12_count 83 = .ok (.ireturn, 1) := by decide +kernel
theorem dX12_count_84 : decode cX12_count 84 = .ok (.iconst 0, 1) := by decide +kernel
theorem dX12_count_85 : decode cX12_count 85 = .ok (.istore_n 3, 1) := by decide +kernel
theorem dX12_count_86 : decode cX12_count 86 = .ok (.iload_n 3, 1) := by decide +kernel
theorem dX12_count_87 : decode cX12_count 87 = .ok (.bipush 9, 2) := by decide +kernel
theorem dX12_count_89 : decode cX12_count 89 = .ok (.if_icmp .ge 18, 3) := by decide +kernel
theorem dX12_count_92 : decode cX12_count 92 = .ok (.iload_n 2, 1) := by decide +kernel
theorem dX12_count_93 : decode cX12_count 93 = .ok (.aload_n 0, 1) := by decide +kernel
theorem dX12_count_94 : decode cX12_count 94 = .ok (.getfield 22, 3) := by decide +kernel
theorem dX12_count_97 : decode cX12_count 97 = .ok (.iload_n 3, 1) := by decide +kernel
theorem dX12_count_98 : decode cX12_count 98 = .ok (.iaload, 1) := by decide +kernel
theorem dX12_count_99 : decode cX12_count 99 = .ok (.iadd, 1) := by decide +kernel
theorem dX12_count_100 : decode cX12_count 100 = .ok (.istore_n 2, 1) := by decide +kernel
theorem dX12_count_101 : decode cX12_count 101 = .ok (.iinc 3 1, 3) := by decide +kernel
theorem dX12_count_104 : decode cX12_count 104 = .ok (.goto (-18), 3) := by decide +kernel
theorem dX12_count_107 : decode cX12_count 107 = .ok (.iload_n 2, 1) := by decide +kernel
theorem dX12_count_108 : decode cX12_count 108 = .ok (.ireturn, 1) := by decide +kernel
theorem dX12_count_109 : decode cX12_count 109 = .ok (.ldc 89, 2) := by decide +kernel
theorem dX12_count_111 : decode cX12_count 111 = .ok (.ireturn, 1) := by decide +kernel
theorem dX12_status_0 : decode cX12_status 0 = .ok (.aload_n 0, 1) := by decide +kernel
theorem dX12_status_1 : decode cX12_status 1 = .ok (.getfield 73, 3) := by decide +kernel
theorem dX12_status_4 : decode cX12_status 4 = .ok (.ireturn, 1) := by decide +kernel
theorem dJ6_bitCount_0f7a4_0 : decode cJ6_bitCount_0f7a4 0 = .ok (.iload_n 0, 1) := by decide +kernel
theorem dJ6_bitCount_0f7a4_1 : decode cJ6_bitCount_0f7a4 1 = .ok (.iload_n 0, 1) := by decide +kernel
theorem dJ6_bitCount_0f7a4_2 : decode cJ6_bitCount_0f7a4 2 = .ok (.iconst 1, 1) := by decide +kernel
theorem dJ6_bitCount_0f7a4_3 : decode cJ6_bitCount_0f7a4 3 = .ok (.iushr, 1) := by decide +kernel
theorem dJ6_bitCount_0f7a4_4 : decode cJ6_bitCount_0f7a4 4 = .ok (.ldc_w 265, 3) := by decide +kernel
theorem dJ6_bitCount_0f7a4_7 : decode cJ6_bitCount_0f7a4 7 = .ok (.iand, 1) := by decide +kernel
theorem dJ6_bitCount_0f7a4_8 : decode cJ6_bitCount_0f7a4 8 = .ok (.isub, 1) := by decide +kernel
theorem dJ6_bitCount_0f7a4_9 : decode cJ6_bitCount_0f7a4 9 = .ok (.istore_n 0, 1) := by decide +kernel
theorem dJ6_bitCount_0f7a4_10 : decode cJ6_bitCount_0f7a4 10 = .ok (.iload_n 0, 1) := by decide +kernel
theorem dJ6_bitCount_0f7a4_11 : decode cJ6_bitCount_0f7a4 11 = .ok (.ldc_w 266, 3) := by decide +kernel
theorem dJ6_bitCount_0f7a4_14 : decode cJ6_bitCount_0f7a4 14 = .ok (.iand, 1) := by decide +kernel
theorem dJ6_bitCount_0f7a4_15 : decode cJ6_bitCount_0f7a4 15 = .ok (.iload_n 0, 1) := by decide +kernel
theorem dJ6_bitCount_0f7a4_16 : decode cJ6_bitCount_0f7a4 16 = .ok (.iconst 2, 1) := by decide +kernel
theorem dJ6_bitCount_0f7a4_17 : decode cJ6_bitCount_0f7a4 17 = .ok (.iushr, 1) := by decide +kernel
theorem dJ6_bitCount_0f7a4_18 : decode cJ6_bitCount_0f7a4 18 = .ok (.ldc_w 266, 3) := by decide +kernel
theorem dJ6_bitCount_0f7a4_21 : decode cJ6_bitCount_0f7a4 21 = .ok (.iand, 1) := by decide +kernel
theorem dJ6_bitCount_0f7a4_22 : decode cJ6_bitCount_0f7a4 22 = .ok (.iadd, 1) := by decide +kernel
theorem dJ6_bitCount_0f7a4_23 : decode cJ6_bitCount_0f7a4 23 = .ok (.istore_n 0, 1) := by decide +kernel
theorem dJ6_bitCount_0f7a4_24 : decode cJ6_bitCount_0f7a4 24 = .ok (.iload_n 0, 1) := by decide +kernel
theorem dJ6_bitCount_0f7a4_25 : decode cJ6_bitCount_0f7a4 25 = .ok (.iload_n 0, 1) := by decide +kernel
theorem dJ6_bitCount_0f7a4_26 : decode cJ6_bitCount_0f7a4 26 = .ok (.iconst 4, 1) := by decide +kernel
theorem dJ6_bitCount_0f7a4_27 : decode cJ6_bitCount_0f7a4 27 = .ok (.iushr, 1) := by decide +kernel
theorem dJ6_bitCount_0f7a4_28 : decode cJ6_bitCount_0f7a4 28 = .ok (.iadd, 1) := by decide +kernel
theorem dJ6_bitCount_0f7a4_29 : decode cJ6_bitCount_0f7a4 29 = .ok (.ldc_w 267, 3) := by decide +kernel
theorem dJ6_bitCount_0f7a4_32 : decode cJ6_bitCount_0f7a4 32 = .ok (.iand, 1) := by decide +kernel
theorem dJ6_bitCount_0f7a4_33 : decode cJ6_bitCount_0f7a4 33 = .ok (.istore_n 0, 1) := by decide +kernel
theorem dJ6_bitCount_0f7a4_34 : decode cJ6_bitCount_0f7a4 34 = .ok (.iload_n 0, 1) := by decide +kernel
theorem dJ6_bitCount_0f7a4_35 : decode cJ6_bitCount_0f7a4 35 = .ok (.iload_n 0, 1) := by decide +kernel
theorem dJ6_bitCount_0f7a4_36 : decode cJ6_bitCount_0f7a4 36 = .ok (.bipush 8, 2) := by decide +kernel
theorem dJ6_bitCount_0f7a4_38 : decode cJ6_bitCount_0f7a4 38 = .ok (.iushr, 1) := by decide +kernel
theorem dJ6_bitCount_0f7a4_39 : decode cJ6_bitCount_0f7a4 39 = .ok (.iadd, 1) := by decide +kernel
theorem dJ6_bitCount_0f7a4_40 : decode cJ6_bitCount_0f7a4 40 = .ok (.istore_n 0, 1) := by decide +kernel
theorem dJ6_bitCount_0f7a4_41 : decode cJ6_bitCount_0f7a4 41 = .ok (.iload_n 0, 1) := by decide +kernel
theorem dJ6_bitCount_0f7a4_42 : decode cJ6_bitCount_0f7a4 42 = .ok (.iload_n 0, 1) := by decide +kernel
theorem dJ6_bitCount_0f7a4_43 : decode cJ6_bitCount_0f7a4 43 = .ok (.bipush 16, 2) := by decide +kernel
theorem dJ6_bitCount_0f7a4_45 : decode cJ6_bitCount_0f7a4 45 = .ok (.iushr, 1) := by decide +kernel
theorem dJ6_bitCount_0f7a4_46 : decode cJ6_bitCount_0f7a4 46 = .ok (.iadd, 1) := by decide +kernel
theorem dJ6_bitCount_0f7a4_47 : decode cJ6_bitCount_0f7a4 47 = .ok (.istore_n 0, 1) := by decide +kernel
theorem dJ6_bitCount_0f7a4_48 : decode cJ6_bitCount_0f7a4 48 = .ok (.iload_n 0, 1) := by decide +kernel
theorem dJ6_bitCount_0f7a4_49 : decode cJ6_bitCount_0f7a4 49 = .ok (.bipush 63, 2) := by decide +kernel
theorem dJ6_bitCount_0f7a4_51 : decode cJ6_bitCount_0f7a4 51 = .ok (.iand, 1) := by decide +kernel
theorem dJ6_bitCount_0f7a4_52 : decode cJ6_bitCount_0f7a4 52 = .ok (.ireturn, 1) := by decide +kernel
theorem dJ9_abs_067f4_0 : decode cJ9_abs_067f4 0 = .ok (.lload_n 0, 1) := by decide +kernel
theorem dJ9_abs_067f4_1 : decode cJ9_abs_067f4 1 = .ok (.lconst 0, 1) := by decide +kernel
theorem dJ9_abs_067f4_2 : decode cJ9_abs_067f4 2 = .ok (.lcmp, 1) := by decide +kernel
theorem dJ9_abs_067f4_3 : decode cJ9_abs_067f4 3 = .ok (.ifCond .ge 8, 3) := by decide +kernel
theorem dJ9_abs_067f4_6 : decode cJ9_abs_067f4 6 = .ok (.lload_n 0, 1) := by decide +kernel
theorem dJ9_abs_067f4_7 : decode cJ9_abs_067f4 7 = .ok (.lneg, 1) := by decide +kernel
theorem dJ9_abs_067f4_8 : decode cJ9_abs_067f4 8 = .ok (.goto 4, 3) := by decide +kernel
theorem dJ9_abs_067f4_11 : decode cJ9_abs_067f4 11 = .ok (.lload_n 0, 1) := by decide +kernel
theorem dJ9_abs_067f4_12 : decode cJ9_abs_067f4 12 = .ok (.lreturn, 1) := by decide +kernel
theorem dJ9_max_7cf53_0 : decode cJ9_max_7cf53 0 = .ok (.iload_n 0, 1) := by decide +kernel
theorem dJ9_max_7cf53_1 : decode cJ9_max_7cf53 1 = .ok (.iload_n 1, 1) := by decide +kernel
theorem dJ9_max_7cf53_2 : decode cJ9_max_7cf53 2 = .ok (.if_icmp .lt 7, 3) := by decide +kernel
theorem dJ9_max_7cf53_5 : decode cJ9_max_7cf53 5 = .ok (.iload_n 0, 1) := by decide +kernel
theorem dJ9_max_7cf53_6 : decode cJ9_max_7cf53 6 = .ok (.goto 4, 3) := by decide +kernel
theorem dJ9_max_7cf53_9 : decode cJ9_max_7cf53 9 = .ok (.iload_n 1, 1) := by decide +kernel
theorem dJ9_max_7cf53_10 : decode cJ9_max_7cf53 10 = .ok (.ireturn, 1) := by decide +kernel
theorem dJ9_min_7cf53_0 : decode cJ9_min_7cf53 0 = .ok (.iload_n 0, 1) := by decide +kernel
theorem dJ9_min_7cf53_1 : decode cJ9_min_7cf53 1 = .ok (.iload_n 1, 1) := by decide +kernel
theorem dJ9_min_7cf53_2 : decode cJ9_min_7cf53 2 = .ok (.if_icmp .gt 7, 3) := by decide +kernel
theorem dJ9_min_7cf53_5 : decode cJ9_min_7cf53 5 = .ok (.iload_n 0, 1) := by decide +kernel
theorem dJ9_min_7cf53_6 : decode cJ9_min_7cf53 6 = .ok (.goto 4, 3) := by decide +kernel
theorem dJ9_min_7cf53_9 : decode cJ9_min_7cf53 9 = .ok (.iload_n 1, 1) := by decide +kernel
theorem dJ9_min_7cf53_10 : decode cJ9_min_7cf53 10 = .ok (.ireturn, 1) := by decide +kernel
theorem dJ7_fill_53178_0 : decode cJ7_fill_53178 0 = .ok (.iconst 0, 1) := by decide +kernel
theorem dJ7_fill_53178_1 : decode cJ7_fill_53178 1 = .ok (.istore_n 2, 1) := by decide +kernel
theorem dJ7_fill_53178_2 : decode cJ7_fill_53178 2 = .ok (.aload_n 0, 1) := by decide +kernel
theorem dJ7_fill_53178_3 : decode cJ7_fill_53178 3 = .ok (.arraylength, 1) := by decide +kernel
theorem dJ7_fill_53178_4 : decode cJ7_fill_53178 4 = .ok (.istore_n 3, 1) := by decide +kernel
theorem dJ7_fill_53178_5 : decode cJ7_fill_53178 5 = .ok (.iload_n 2, 1) := by decide +kernel
theorem dJ7_fill_53178_6 : decode cJ7_fill_53178 6 = .ok (.iload_n 3, 1) := by decide +kernel
theorem dJ7_fill_53178_7 : decode cJ7_fill_53178 7 = .ok (.if_icmp .ge 13, 3) := by decide +kernel
theorem dJ7_fill_53178_10 : decode cJ7_fill_53178 10 = .ok (.aload_n 0, 1) := by decide +kernel
theorem dJ7_fill_53178_11 : decode cJ7_fill_53178 11 = .ok (.iload_n 2, 1) := by decide +kernel
theorem dJ7_fill_53178_12 : decode cJ7_fill_53178 12 = .ok (.iload_n 1, 1) := by decide +kernel
theorem dJ7_fill_53178_13 : decode cJ7_fill_53178 13 = .ok (.iastore, 1) := by decide +kernel
theorem dJ7_fill_53178_14 : decode cJ7_fill_53178 14 = .ok (.iinc 2 1, 3) := by decide +kernel
theorem dJ7_fill_53178_17 : decode cJ7_fill_53178 17 = .ok (.goto (-12), 3) := by decide +kernel
theorem dJ7_fill_53178_20 : decode cJ7_fill_53178 20 = .ok (.return_, 1) := by decide +kernel
theorem dL_cell_0 : decode cL_cell 0 = .ok (.iload_n 1, 1) := by decide +kernel
theorem dL_cell_1 : decode cL_cell 1 = .ok (.aload_n 0, 1) := by decide +kernel
theorem dL_cell_2 : decode cL_cell 2 = .ok (.arraylength, 1) := by decide +kernel
theorem dL_cell_3 : decode cL_cell 3 = .ok (.if_icmp .ge 9, 3) := by decide +kernel
theorem dL_cell_6 : decode cL_cell 6 = .ok (.aload_n 0, 1) := by decide +kernel
theorem dL_cell_7 : decode cL_cell 7 = .ok (.iload_n 1, 1) := by decide +kernel
theorem dL_cell_8 : decode cL_cell 8 = .ok (.iaload, 1) := by decide +kernel
theorem dL_cell_9 : decode cL_cell 9 = .ok (.goto 4, 3) := by decide +kernel
theorem dL_cell_12 : decode cL_cell 12 = .ok (.iconst 0, 1) := by decide +kernel
theorem dL_cell_13 : decode cL_cell 13 = .ok (.ireturn, 1) := by decide +kernel
end
section
/-! The judgement gw_W: from a symbolic state (a world of cells, locals, stack, at a place of a method's code) the machine comes to its end. Everything of the machine is quantified inside, so that a walk speaks of worlds, locals and stacks alone. gw_M: a contract of that form. -/
abbrev gw_K : Type := MethodName × ByteArray × Nat × Room × Option FieldType
abbrev gw_ws (κ : gw_K) : List Cond := Cond.code κ.1 κ.2.1 κ.2.2.1 κ.2.2.2.2 :: gw_All
abbrev gw_T (cy : Nat → ClassId) : List (ClassId × FieldType) := [(cy 0, .int), (cy 1, .long), (cy 2, .object RX5), (cy 3, .object RX9), (cy 4, .object RX10)]
def gw_N : List Cond := [.methodLinkNest "SpinBench" 20 ⟨"SpinBench$Mixer", "<init>", "()V"⟩ "SpinBench", .methodLinkNest "SpinBench" 58 ⟨"SpinBench$Sum", "<init>", "()V"⟩ "SpinBench", .fieldLinkNest "SpinBench$Mixer" 46 "SpinBench$Sum" "keys" "[I" "SpinBench", .fieldLinkNest "SpinBench" 158 "SpinBench$Sum" "keys" "[I" "SpinBench", .fieldLinkNest "SpinBench$Mixer" 47 "SpinBench$Sum" "numbers" "[J" "SpinBench", .fieldLinkNest "SpinBench" 154 "SpinBench$Sum" "numbers" "[J" "SpinBench", .fieldLinkNest "SpinBench$Mixer" 43 "SpinBench$Sum" "size" "I" "SpinBench", .fieldLinkNest "SpinBench" 114 "SpinBench$Sum" "size" "I" "SpinBench", .methodLinkNest "SpinBench" 63 ⟨"SpinBench$Table", "<init>", "()V"⟩ "SpinBench", .fieldLinkNest "SpinBench" 92 "SpinBench$Table" "items" "[I" "SpinBench", .fieldLinkNest "SpinBench$Cycled" 52 "SpinBench$Table" "items" "[I" "SpinBench", .fieldLinkNest "SpinBench" 84 "SpinBench$Table" "missing" "Z" "SpinBench", .fieldLinkNest "SpinBench$Cycled" 30 "SpinBench$Table" "missing" "Z" "SpinBench", .fieldLinkNest "SpinBench" 98 "SpinBench$Table" "lane" "I" "SpinBench", .fieldLinkNest "SpinBench" 107 "SpinBench$Table" "size" "I" "SpinBench", .fieldLinkNest "SpinBench$Store" 34 "SpinBench" "work" "LSpinBench$Sum;" "SpinBench", .fieldLinkNest "SpinBench$Store" 30 "SpinBench" "mixer" "LSpinBench$Mixer;" "SpinBench", .fieldLinkNest "SpinBench$End" 27 "SpinBench" "next" "I" "SpinBench", .methodLinkNest "SpinBench" 77 ⟨"SpinBench$Table", "make", "(II)V"⟩ "SpinBench", .methodLinkNest "SpinBench" 88 ⟨"SpinBench$Table", "hasPlaces", "(II)Z"⟩ "SpinBench", .methodLinkNest "SpinBench" 95 ⟨"SpinBench$Table", "fitted", "(I)I"⟩ "SpinBench", .methodLinkNest "SpinBench" 119 ⟨"SpinBench$Mixer", "begin", "()V"⟩ "SpinBench", .methodLinkNest "SpinBench" 122 ⟨"SpinBench$Mixer", "putSum", "(LSpinBench$Sum;I)V"⟩ "SpinBench", .methodLinkNest "SpinBench" 126 ⟨"SpinBench$Mixer", "put", "(IJ)V"⟩ "SpinBench", .methodLinkNest "SpinBench" 130 ⟨"SpinBench$Mixer", "settle", "(LSpinBench$Sum;)Z"⟩ "SpinBench", .methodLinkNest "SpinBench$Mixer" 89 ⟨"SpinBench", "cosinesOf", "(II)I"⟩ "SpinBench", .methodLinkNest "SpinBench" 135 ⟨"SpinBench$Sum", "become", "(LSpinBench$Sum;)V"⟩ "SpinBench", .methodLinkNest "SpinBench" 139 ⟨"SpinBench$Mixer", "joinSums", "(LSpinBench$Sum;LSpinBench$Sum;I)Z"⟩ "SpinBench", .methodLinkNest "SpinBench" 287 ⟨"SpinBench$Mixer", "putTimesSine", "(IIJ)V"⟩ "SpinBench", .methodLinkNest "SpinBench$Mixer" 52 ⟨"SpinBench", "oneSine", "(I)I"⟩ "SpinBench", .methodLinkNest "SpinBench$Mixer" 56 ⟨"SpinBench", "oneCosine", "(I)I"⟩ "SpinBench", .methodLinkNest "SpinBench" 167 ⟨"SpinBench$Sum", "isLike", "(LSpinBench$Sum;)Z"⟩ "SpinBench", .methodLinkNest "SpinBench" 170 ⟨"SpinBench$Mixer", "multiply", "(LSpinBench$Sum;LSpinBench$Sum;LSpinBench$Sum;)Z"⟩ "SpinBench", .methodLinkNest "SpinBench$Mixer" 70 ⟨"SpinBench", "productOf", "(I)I"⟩ "SpinBench", .methodLinkNest "SpinBench$Mixer" 93 ⟨"SpinBench", "sinesOf", "(II)I"⟩ "SpinBench", .fieldLinkNest "SpinBench$End" 21 "SpinBench$Round" "often" "I" "SpinBench", .fieldLinkNest "SpinBench$End" 15 "SpinBench$Round" "timesDone" "I" "SpinBench", .fieldLinkNest "SpinBench$Cycled" 40 "SpinBench$Round" "timesDone" "I" "SpinBench", .methodLinkNest "SpinBench$Cycled" 15 ⟨"SpinBench", "leaveBody", "(I)V"⟩ "SpinBench", .methodLinkNest "SpinBench$Pulse" 25 ⟨"SpinBench", "leaveBody", "(I)V"⟩ "SpinBench", .methodLinkNest "SpinBench$Lead" 13 ⟨"SpinBench", "leaveBody", "(I)V"⟩ "SpinBench", .methodLinkNest "SpinBench$Round" 15 ⟨"SpinBench", "leaveBody", "(I)V"⟩ "SpinBench", .methodLinkNest "SpinBench$Op" 23 ⟨"SpinBench", "leaveBody", "(I)V"⟩ "SpinBench", .methodLinkNest "SpinBench$Delay" 21 ⟨"SpinBench", "leaveBody", "(I)V"⟩ "SpinBench", .methodLinkNest "SpinBench$Store" 18 ⟨"SpinBench", "leaveBody", "(I)V"⟩ "SpinBench", .methodLinkNest "SpinBench$Cycled" 26 ⟨"SpinBench", "tableAt", "(I)LSpinBench$Table;"⟩ "SpinBench", .methodLinkNest "SpinBench$Cycled" 45 ⟨"SpinBench$Table", "hasPlaces", "(II)Z"⟩ "SpinBench", .methodLinkNest "SpinBench$Pulse" 43 ⟨"SpinBench", "turnByQuarters", "(II)Z"⟩ "SpinBench", .methodLinkNest "SpinBench$Delay" 29 ⟨"SpinBench", "turnByLetter", "(III)Z"⟩ "SpinBench", .methodLinkNest "SpinBench$Store" 26 ⟨"SpinBench", "sumAt", "(I)LSpinBench$Sum;"⟩ "SpinBench", .methodLinkNest "SpinBench$Store" 38 ⟨"SpinBench$Mixer", "joinSums", "(LSpinBench$Sum;LSpinBench$Sum;I)Z"⟩ "SpinBench", .castable "SpinBench$Cycled" "SpinBench$Pulse", .castable "SpinBench$Pulse" "SpinBench$Pulse", .castable "SpinBench$Cycled" "SpinBench$Op", .castable "SpinBench$Delay" "SpinBench$Op", .castable "SpinBench$End" "SpinBench$Op", .castable "SpinBench$Pulse" "SpinBench$Op", .castable "SpinBench$Round" "SpinBench$Op", .castable "SpinBench$Store" "SpinBench$Op"]
def gw_isN (w : Cond) : Bool := match w with
  | .fieldLinkNest .. => true
  | .methodLinkNest .. => true
  | .castable .. => true
  | _ => false
theorem gw_N_ok : ∀ w ∈ gw_N, gw_isN w = true := by decide +kernel
theorem gw_Nw_warm {w : Cond} (h : gw_isN w = true) {s U : State} (hW : s.WarmedH U.vm) (hZ : va_Nw w s) : va_Nw w U := by
  cases w <;> first | exact va_Nw.warmF hW hZ | exact va_Nw.warmM hW hZ | exact va_Nw.warmC hW hZ | (simp [gw_isN] at h)
theorem gw_Nw_same {w : Cond} (h : gw_isN w = true) {s U : State} (hv : s.vm = U.vm) (hZ : va_Nw w s) : va_Nw w U := by
  cases w <;> first | exact va_Nw.same rfl hv hZ | (simp [gw_isN] at h)
/-- what no word list carries: nest links, casts that hold, arrays of objects, casts that fail -/
def gw_E (U : State) : Prop := (∀ w ∈ gw_N, va_Nw w U) ∧ (va_AO RX5 U ∧ va_AO RX9 U ∧ va_AO RX10 U) ∧ va_Nc RX1 RX6 U ∧ va_Nc RX2 RX6 U ∧ va_Nc RX7 RX6 U ∧ va_Nc RX8 RX6 U
theorem gw_E.warm {s U : State} (hW : s.WarmedH U.vm) (h : gw_E s) : gw_E U :=
  ⟨fun w hw => gw_Nw_warm (gw_N_ok w hw) hW (h.1 w hw), ⟨va_AO.moved hW.alike h.2.1.1, va_AO.moved hW.alike h.2.1.2.1, va_AO.moved hW.alike h.2.1.2.2⟩, va_Nc.moved hW.alike h.2.2.1, va_Nc.moved hW.alike h.2.2.2.1, va_Nc.moved hW.alike h.2.2.2.2.1, va_Nc.moved hW.alike h.2.2.2.2.2⟩
theorem gw_E.same {s U : State} (hv : s.vm = U.vm) (h : gw_E s) : gw_E U :=
  have hA : s.vm.Alike U.vm := hv ▸ Vm.Alike.refl s.vm
  ⟨fun w hw => gw_Nw_same (gw_N_ok w hw) hv (h.1 w hw), ⟨va_AO.moved hA h.2.1.1, va_AO.moved hA h.2.1.2.1, va_AO.moved hA h.2.1.2.2⟩, va_Nc.moved hA h.2.2.1, va_Nc.moved hA h.2.2.2.1, va_Nc.moved hA h.2.2.2.2.1, va_Nc.moved hA h.2.2.2.2.2⟩
/-- what a method's walk stands on -/
def gw_C (κ : gw_K) (cy : Nat → ClassId) (p : Program) (s : State) (m : MethodId) (args : Array Value) (meth : Method) (c : Code) (D : va_G) (A : Nat → Prop) : Prop :=
  p.tables.exec = Jvm.exec ∧ c.code = κ.2.1 ∧ meth.sig.returnType = κ.2.2.2.2 ∧ c.maxLocals = κ.2.2.1 ∧ s.vm.findClass κ.1.cls = some m.cls ∧ (∀ w ∈ gw_All, w.before args s = true) ∧ meth.locks = false ∧ meth.name = κ.1.name ∧ va_K D vwCl (gw_T cy) s ∧ gw_E s ∧ (∀ q, s.heap.size ≤ q → A q)
/-- locals by their places; none: nothing is known there -/
def gw_L (ls : Array Slot) (nL : Nat) (lv : List (Option Value)) : Prop := ls.size = nL ∧ lv_wf ls ∧ ∀ (i : Nat) (v : Value), lv[i]? = some (some v) → ls[i]? = some (.val v)
def gw_l : Nat → List (Option Value) → List (Nat × Value)
  | _, [] => []
  | k, none :: t => gw_l (k + 1) t
  | k, some v :: t => (k, v) :: gw_l (k + 1) t
theorem gw_l_mem (lv : List (Option Value)) : ∀ (k : Nat) (q : Nat × Value), q ∈ gw_l k lv ↔ ∃ i, q.1 = k + i ∧ lv[i]? = some (some q.2) := by
  induction lv with
  | nil => intro k q; simp [gw_l]
  | cons a t ih =>
    intro k q
    cases a with
    | none =>
      rw [gw_l, ih]
      constructor
      · rintro ⟨i, h1, h2⟩; exact ⟨i + 1, by omega, by simpa using h2⟩
      · rintro ⟨i, h1, h2⟩
        cases i with
        | zero => simp at h2
        | succ i => exact ⟨i, by omega, by simpa using h2⟩
    | some v =>
      rw [gw_l, List.mem_cons, ih]
      constructor
      · rintro (h | ⟨i, h1, h2⟩)
        · subst h; exact ⟨0, rfl, rfl⟩
        · exact ⟨i + 1, by omega, by simpa using h2⟩
      · rintro ⟨i, h1, h2⟩
        cases i with
        | zero => left; simp at h2; subst h2; exact Prod.ext (by simpa using h1) rfl
        | succ i => right; exact ⟨i, by omega, by simpa using h2⟩
theorem gw_L.has {ls : Array Slot} {nL : Nat} {lv : List (Option Value)} (h : gw_L ls nL lv) : lv_has ls nL (gw_l 0 lv) :=
  ⟨h.1, h.2.1, fun q hq => by obtain ⟨i, h1, h2⟩ := (gw_l_mem lv 0 q).mp hq; rw [h1, Nat.zero_add]; exact h.2.2 i q.2 h2⟩
/-- the local ahead of place i isn't the first half of a long -/
def gw_ok (lv : List (Option Value)) (i : Nat) : Bool := match i with
  | 0 => true
  | j + 1 => match lv[j]? with
    | some (some v) => v.category != 2
    | _ => true
theorem gw_ok_ne {lv : List (Option Value)} {i j : Nat} {v : Value} (h : gw_ok lv i = true) (hj : j + 1 = i) (hv : lv[j]? = some (some v)) : (v.category == 2) = false := by
  subst hj
  simp only [gw_ok, hv] at h
  simpa [bne] using h
theorem gw_L.set1 {ls' : Array Slot} {nL i : Nat} {lv : List (Option Value)} {x : Value} {l' : List (Nat × Value)} (hk : gw_ok lv i = true) (hl : (i, x) :: (gw_l 0 lv).filter (fun q => !(q.1 == i) && !(q.1 + 1 == i && q.2.category == 2)) = l') (h : lv_has ls' nL l') : gw_L ls' nL (lv.set i (some x)) := by
  subst hl
  refine ⟨h.1, h.2.1, fun j v hj => ?_⟩
  by_cases e : i = j
  · subst e
    have hv : v = x := by
      rw [List.getElem?_set] at hj
      by_cases hi : i < lv.length
      · simp [hi] at hj; exact hj.symm
      · simp [hi] at hj
    subst hv
    exact h.2.2 (i, v) List.mem_cons_self
  · rw [List.getElem?_set_ne e] at hj
    refine h.2.2 (j, v) (List.mem_cons_of_mem _ (List.mem_filter.mpr ⟨(gw_l_mem lv 0 (j, v)).mpr ⟨j, by simp, hj⟩, ?_⟩))
    have e1 : (j == i) = false := by simpa using fun h => e h.symm
    have e2 : (j + 1 == i && v.category == 2) = false := by
      by_cases g : j + 1 = i
      · simp [gw_ok_ne hk g hj]
      · simp [g]
    simp only [e1, e2]; rfl
theorem gw_L.set2 {ls' : Array Slot} {nL i : Nat} {lv : List (Option Value)} {x : Value} {l' : List (Nat × Value)} (hk : gw_ok lv i = true) (hl : (i, x) :: (gw_l 0 lv).filter (fun q => !(q.1 == i) && (!(q.1 == i + 1) && !(q.1 + 1 == i && q.2.category == 2))) = l') (h : lv_has ls' nL l') : gw_L ls' nL ((lv.set i (some x)).set (i + 1) none) := by
  subst hl
  refine ⟨h.1, h.2.1, fun j v hj => ?_⟩
  by_cases e0 : i + 1 = j
  · subst e0
    rw [List.getElem?_set] at hj
    by_cases hi : i + 1 < (lv.set i (some x)).length
    · simp [hi] at hj
    · simp [hi] at hj
  rw [List.getElem?_set_ne e0] at hj
  by_cases e : i = j
  · subst e
    have hv : v = x := by
      rw [List.getElem?_set] at hj
      by_cases hi : i < lv.length
      · simp [hi] at hj; exact hj.symm
      · simp [hi] at hj
    subst hv
    exact h.2.2 (i, v) List.mem_cons_self
  · rw [List.getElem?_set_ne e] at hj
    refine h.2.2 (j, v) (List.mem_cons_of_mem _ (List.mem_filter.mpr ⟨(gw_l_mem lv 0 (j, v)).mpr ⟨j, by simp, hj⟩, ?_⟩))
    have e1 : (j == i) = false := by simpa using fun h => e h.symm
    have e3 : (j == i + 1) = false := by simpa using fun h => e0 h.symm
    have e2 : (j + 1 == i && v.category == 2) = false := by
      by_cases g : j + 1 = i
      · simp [gw_ok_ne hk g hj]
      · simp [g]
    simp only [e1, e2, e3]; rfl
/-- the locals with which a method begins -/
def gw_args : List Value → List (Option Value)
  | [] => []
  | v :: t => if v.category = 2 then some v :: none :: gw_args t else some v :: gw_args t
theorem gw_args_mem (vs : List Value) : ∀ (k i : Nat) (v : Value), (gw_args vs)[i]? = some (some v) → (k + i, v) ∈ lv_args k vs := by
  induction vs with
  | nil => intro k i v h; simp [gw_args] at h
  | cons a t ih =>
    intro k i v h
    by_cases hc : a.category = 2
    · simp only [gw_args, hc, if_true] at h
      match i, h with
      | 0, h => simp at h; subst h; simp [lv_args]
      | 1, h => simp at h
      | i + 2, h =>
        simp at h
        have h2 := ih (k + 2) i v h
        rw [show k + (i + 2) = k + 2 + i by omega]
        simp [lv_args, hc, h2]
    · simp only [gw_args, hc, if_false] at h
      match i, h with
      | 0, h => simp at h; subst h; simp [lv_args]
      | i + 1, h =>
        simp at h
        have h2 := ih (k + 1) i v h
        rw [show k + (i + 1) = k + 1 + i by omega]
        have h3 : a.category = 1 := by cases a <;> simp [Value.category] at hc ⊢
        simp [lv_args, h3, h2]
abbrev gw_Z : Type := Program → Env → State → MethodId → Array Value → List Frame → Method → Code → va_G → (Nat → Prop) → (State → Prop) → Prop
abbrev gw_Q : Type := Option Value → va_W → Prop
def gw_Qc (D : va_G) (A : Nat → Prop) (post : gw_Q) : Array Value → State → Outcome → State → Prop := fun _ st oc t => (∃ (r : Option Value) (w' : va_W), oc = .returned r ∧ post r w' ∧ va_P D vwCl w' t.heap ∧ va_D A w') ∧ va_F A st t
/-- the end of a method's walk: its contract's -/
def gw_R (κ : gw_K) (post : gw_Q) : gw_Z := fun _ _ s _ args below _ _ D A Q => Q = MQ below (gw_Qc D A post) args s κ.2.2.2.1.cells κ.2.2.2.1.slots A
def gw_W (l : Launch) (κ : gw_K) (cy : Nat → ClassId) (Z : gw_Z) (w : va_W) (n1 n2 pc : Nat) (lv : List (Option Value)) (st : List Value) : Prop :=
  ∀ (p : Program) (e : Env) (s : State) (m : MethodId) (args : Array Value) (below : List Frame) (meth : Method) (c : Code) (D : va_G) (A : Nat → Prop) (Q : State → Prop) (H : Heap) (locs : List Loc) (ls : Array Slot),
    gw_C κ cy p s m args meth c D A → Z p e s m args below meth c D A Q → va_P D vwCl w H → va_D A w → va_S A s.heap H locs → gw_L ls κ.2.2.1 lv → W p l e κ.2.2.2.1 s m args below meth c H locs n1 n2 Q (F0 m pc ls st)
/-- a method's contract: from the world w, with these arguments, it answers r and leaves w', so that post r w' -/
def gw_M (l : Launch) (κ : gw_K) (cy : Nat → ClassId) (av : List Value) (w : va_W) (post : gw_Q) : Prop :=
  ∀ (D : va_G) (sz : Nat), Met l κ.1 (gw_ws κ) κ.2.2.2.1 (va_Pc av (fun U => U.heap.size = sz ∧ va_P D vwCl w U.heap ∧ va_K D vwCl (gw_T cy) U ∧ gw_E U ∧ va_D (fun _ => True) w)) (gw_Qc D (va_A w sz) post) κ.2.2.2.1.cells κ.2.2.2.1.slots (va_A w sz)
theorem gw_M.mk {l : Launch} {κ : gw_K} {cy : Nat → ClassId} {av : List Value} {w : va_W} {post : gw_Q} {lv : List (Option Value)} (hy : plainName κ.1.cls = true) (hn : (lg_sl av).length ≤ κ.2.2.1) (hlv : gw_args av ++ List.replicate (κ.2.2.1 - (gw_args av).length) none = lv)
    (k : gw_W l κ cy (gw_R κ post) w 0 0 0 lv []) : gw_M l κ cy av w post := by
  intro D sz
  refine Met.ofW (cc := κ.2.1) (maxL := κ.2.2.1) (ret := κ.2.2.2.2) hy rfl ?_
  intro p e s m args below meth c s₁ B hml hv
  obtain ⟨rfl, hsz, hP, hK, hE, hD0⟩ := hv
  subst hsz
  have hl := lv_entry av (n := κ.2.2.1) hn
  rw [lg_entry_eq]
  generalize (lg_sl av ++ List.replicate (κ.2.2.1 - (lg_sl av).length) Slot.unset).toArray = ls at hl ⊢
  refine k p e s m _ below meth c D (va_A w s.heap.size) _ s.heap [] ls ⟨B.exec, B.bytes, B.returns, hml, findClass_of_methodNamed B.named, fun w hw => atoms_spec (ws := gw_ws κ) B.pre w (List.mem_cons_of_mem _ hw), B.notSynchronized, (name_of_methodNamed B.named B.method).1, hK, hE, fun q h => Or.inr h⟩ rfl hP hD0.self va_S.rf ⟨hl.1, hl.2.1, fun i v hi => ?_⟩
  subst hlv
  have hm : (gw_args av)[i]? = some (some v) := by
    by_cases hlt : i < (gw_args av).length
    · rwa [List.getElem?_append_left hlt] at hi
    · rw [List.getElem?_append_right (by omega), List.getElem?_replicate] at hi
      split at hi <;> simp at hi
  have := gw_args_mem av 0 i v hm
  rw [Nat.zero_add] at this
  exact hl.2.2 (i, v) this
section GW
variable {l : Launch} {κ : gw_K} {cy : Nat → ClassId} {Z : gw_Z} {w : va_W} {n1 n2 pc : Nat} {lv : List (Option Value)} {st : List Value}
theorem gw_W.rst {st' : List Value} (h : st = st') (k : gw_W l κ cy Z w n1 n2 pc lv st') : gw_W l κ cy Z w n1 n2 pc lv st := h ▸ k
theorem gw_W.wd {w' : va_W} (h : w = w') (k : gw_W l κ cy Z w' n1 n2 pc lv st) : gw_W l κ cy Z w n1 n2 pc lv st := h ▸ k
theorem gw_W.rlv {lv' : List (Option Value)} (h : lv = lv') (k : gw_W l κ cy Z w n1 n2 pc lv' st) : gw_W l κ cy Z w n1 n2 pc lv st := h ▸ k
theorem gw_W.widen {k1 k2 : Nat} (h1 : n1 ≤ k1) (h2 : n2 ≤ k2) (k : gw_W l κ cy Z w k1 k2 pc lv st) : gw_W l κ cy Z w n1 n2 pc lv st := fun p e s m args below meth c D A Q H locs ls C z hP hD hS hl => W.widen h1 h2 (k p e s m args below meth c D A Q H locs ls C z hP hD hS hl)
/-- less is known of the locals -/
theorem gw_W.less {lv' : List (Option Value)} (h : ∀ (i : Nat) (v : Value), lv'[i]? = some (some v) → lv[i]? = some (some v)) (k : gw_W l κ cy Z w n1 n2 pc lv' st) : gw_W l κ cy Z w n1 n2 pc lv st := fun p e s m args below meth c D A Q H locs ls C z hP hD hS hl => k p e s m args below meth c D A Q H locs ls C z hP hD hS ⟨hl.1, hl.2.1, fun i v hi => hl.2.2 i v (h i v hi)⟩
theorem gw_W.forget (i : Nat) (k : gw_W l κ cy Z w n1 n2 pc (lv.set i none) st) : gw_W l κ cy Z w n1 n2 pc lv st := gw_W.less (fun j v hj => by
  rw [List.getElem?_set] at hj
  split at hj
  · split at hj <;> simp at hj
  · exact hj) k
theorem gw_topi {x y : Int32} (h : x = y) (k : gw_W l κ cy Z w n1 n2 pc lv (.int y :: st)) : gw_W l κ cy Z w n1 n2 pc lv (.int x :: st) := h ▸ k
theorem gw_topl {x y : Int64} (h : x = y) (k : gw_W l κ cy Z w n1 n2 pc lv (.long y :: st)) : gw_W l κ cy Z w n1 n2 pc lv (.long x :: st) := h ▸ k
theorem gw_iconst {n : Int} {v : Int32} (hd : decode κ.2.1 pc = .ok (.iconst n, 1)) (hv : Int32.ofInt n = v) (k : gw_W l κ cy Z w n1 n2 (pc + 1) lv (.int v :: st)) : gw_W l κ cy Z w n1 n2 pc lv (st) := fun p e s m args below meth c D A Q H locs ls C z hP hD hS hl => lv_iconst C.1 C.2.1 hd hv (k p e s m args below meth c D A Q H locs ls C z hP hD hS hl)
theorem gw_bipush {n : Int} {v : Int32} (hd : decode κ.2.1 pc = .ok (.bipush n, 2)) (hv : (Int8.ofInt n).toInt32 = v) (k : gw_W l κ cy Z w n1 n2 (pc + 2) lv (.int v :: st)) : gw_W l κ cy Z w n1 n2 pc lv (st) := fun p e s m args below meth c D A Q H locs ls C z hP hD hS hl => lv_bipush C.1 C.2.1 hd hv (k p e s m args below meth c D A Q H locs ls C z hP hD hS hl)
theorem gw_sipush {n : Int} {v : Int32} (hd : decode κ.2.1 pc = .ok (.sipush n, 3)) (hv : (Int16.ofInt n).toInt32 = v) (k : gw_W l κ cy Z w n1 n2 (pc + 3) lv (.int v :: st)) : gw_W l κ cy Z w n1 n2 pc lv (st) := fun p e s m args below meth c D A Q H locs ls C z hP hD hS hl => lv_sipush C.1 C.2.1 hd hv (k p e s m args below meth c D A Q H locs ls C z hP hD hS hl)
theorem gw_lconst {n : Fin 2} {v : Int64} (hd : decode κ.2.1 pc = .ok (.lconst n, 1)) (hv : Int64.ofNat (n : Nat) = v) (k : gw_W l κ cy Z w n1 n2 (pc + 1) lv (.long v :: st)) : gw_W l κ cy Z w n1 n2 pc lv (st) := fun p e s m args below meth c D A Q H locs ls C z hP hD hS hl => lv_lconst C.1 C.2.1 hd hv (k p e s m args below meth c D A Q H locs ls C z hP hD hS hl)
theorem gw_ldc {i : Nat} {v : Int32} (hd : decode κ.2.1 pc = .ok (.ldc i, 2)) (hc : Cond.constant κ.1.cls i v ∈ gw_All) (k : gw_W l κ cy Z w n1 n2 (pc + 2) lv (.int v :: st)) : gw_W l κ cy Z w n1 n2 pc lv (st) := fun p e s m args below meth c D A Q H locs ls C z hP hD hS hl => lv_ldc C.1 C.2.1 C.2.2.2.2.1 (C.2.2.2.2.2.1 _ hc) hd (k p e s m args below meth c D A Q H locs ls C z hP hD hS hl)
theorem gw_ldcw {i : Nat} {v : Int32} (hd : decode κ.2.1 pc = .ok (.ldc_w i, 3)) (hc : Cond.constant κ.1.cls i v ∈ gw_All) (k : gw_W l κ cy Z w n1 n2 (pc + 3) lv (.int v :: st)) : gw_W l κ cy Z w n1 n2 pc lv (st) := fun p e s m args below meth c D A Q H locs ls C z hP hD hS hl => lv_ldcw C.1 C.2.1 C.2.2.2.2.1 (C.2.2.2.2.2.1 _ hc) hd (k p e s m args below meth c D A Q H locs ls C z hP hD hS hl)
theorem gw_ldc2 {i : Nat} {v : Int64} (hd : decode κ.2.1 pc = .ok (.ldc2_w i, 3)) (hc : Cond.constantLong κ.1.cls i v ∈ gw_All) (k : gw_W l κ cy Z w n1 n2 (pc + 3) lv (.long v :: st)) : gw_W l κ cy Z w n1 n2 pc lv (st) := fun p e s m args below meth c D A Q H locs ls C z hP hD hS hl => lv_ldc2 C.1 C.2.1 C.2.2.2.2.1 (C.2.2.2.2.2.1 _ hc) hd (k p e s m args below meth c D A Q H locs ls C z hP hD hS hl)
theorem gw_null (hd : decode κ.2.1 pc = .ok (.aconst_null, 1)) (k : gw_W l κ cy Z w n1 n2 (pc + 1) lv (.null :: st)) : gw_W l κ cy Z w n1 n2 pc lv (st) := fun p e s m args below meth c D A Q H locs ls C z hP hD hS hl => lv_null C.1 C.2.1 hd (k p e s m args below meth c D A Q H locs ls C z hP hD hS hl)
theorem gw_iload_n {j : Fin 4} {x : Int32} (hd : decode κ.2.1 pc = .ok (.iload_n j, 1)) (h : lv[(j : Nat)]? = some (some (.int x))) (k : gw_W l κ cy Z w n1 n2 (pc + 1) lv (.int x :: st)) : gw_W l κ cy Z w n1 n2 pc lv (st) := fun p e s m args below meth c D A Q H locs ls C z hP hD hS hl => lv_iload_n C.1 C.2.1 hd rfl (hl.2.2 _ _ h) (k p e s m args below meth c D A Q H locs ls C z hP hD hS hl)
theorem gw_iload {i : Nat} {x : Int32} (hd : decode κ.2.1 pc = .ok (.iload i, 2)) (h : lv[i]? = some (some (.int x))) (k : gw_W l κ cy Z w n1 n2 (pc + 2) lv (.int x :: st)) : gw_W l κ cy Z w n1 n2 pc lv (st) := fun p e s m args below meth c D A Q H locs ls C z hP hD hS hl => lv_iload C.1 C.2.1 hd (hl.2.2 _ _ h) (k p e s m args below meth c D A Q H locs ls C z hP hD hS hl)
theorem gw_lload_n {j : Fin 4} {x : Int64} (hd : decode κ.2.1 pc = .ok (.lload_n j, 1)) (h : lv[(j : Nat)]? = some (some (.long x))) (k : gw_W l κ cy Z w n1 n2 (pc + 1) lv (.long x :: st)) : gw_W l κ cy Z w n1 n2 pc lv (st) := fun p e s m args below meth c D A Q H locs ls C z hP hD hS hl => lv_lload_n C.1 C.2.1 hd rfl (hl.2.2 _ _ h) (k p e s m args below meth c D A Q H locs ls C z hP hD hS hl)
theorem gw_lload {i : Nat} {x : Int64} (hd : decode κ.2.1 pc = .ok (.lload i, 2)) (h : lv[i]? = some (some (.long x))) (k : gw_W l κ cy Z w n1 n2 (pc + 2) lv (.long x :: st)) : gw_W l κ cy Z w n1 n2 pc lv (st) := fun p e s m args below meth c D A Q H locs ls C z hP hD hS hl => lv_lload C.1 C.2.1 hd (hl.2.2 _ _ h) (k p e s m args below meth c D A Q H locs ls C z hP hD hS hl)
theorem gw_aload_n {j : Fin 4} {x : Nat} (hd : decode κ.2.1 pc = .ok (.aload_n j, 1)) (h : lv[(j : Nat)]? = some (some (.ref x))) (k : gw_W l κ cy Z w n1 n2 (pc + 1) lv (.ref x :: st)) : gw_W l κ cy Z w n1 n2 pc lv (st) := fun p e s m args below meth c D A Q H locs ls C z hP hD hS hl => lv_aload_n C.1 C.2.1 hd rfl (hl.2.2 _ _ h) (k p e s m args below meth c D A Q H locs ls C z hP hD hS hl)
theorem gw_aload {i : Nat} {x : Nat} (hd : decode κ.2.1 pc = .ok (.aload i, 2)) (h : lv[i]? = some (some (.ref x))) (k : gw_W l κ cy Z w n1 n2 (pc + 2) lv (.ref x :: st)) : gw_W l κ cy Z w n1 n2 pc lv (st) := fun p e s m args below meth c D A Q H locs ls C z hP hD hS hl => lv_aload C.1 C.2.1 hd (hl.2.2 _ _ h) (k p e s m args below meth c D A Q H locs ls C z hP hD hS hl)
theorem gw_aload_nN {j : Fin 4} (hd : decode κ.2.1 pc = .ok (.aload_n j, 1)) (h : lv[(j : Nat)]? = some (some .null)) (k : gw_W l κ cy Z w n1 n2 (pc + 1) lv (.null :: st)) : gw_W l κ cy Z w n1 n2 pc lv (st) := fun p e s m args below meth c D A Q H locs ls C z hP hD hS hl => lv_aload_nN C.1 C.2.1 hd rfl (hl.2.2 _ _ h) (k p e s m args below meth c D A Q H locs ls C z hP hD hS hl)
theorem gw_aloadN {i : Nat} (hd : decode κ.2.1 pc = .ok (.aload i, 2)) (h : lv[i]? = some (some .null)) (k : gw_W l κ cy Z w n1 n2 (pc + 2) lv (.null :: st)) : gw_W l κ cy Z w n1 n2 pc lv (st) := fun p e s m args below meth c D A Q H locs ls C z hP hD hS hl => lv_aloadN C.1 C.2.1 hd (hl.2.2 _ _ h) (k p e s m args below meth c D A Q H locs ls C z hP hD hS hl)
theorem gw_istore_n {j : Fin 4} {x : Int32} (hd : decode κ.2.1 pc = .ok (.istore_n j, 1)) (hn : (j : Nat) < κ.2.2.1) (ho : gw_ok lv (j : Nat) = true) (k : gw_W l κ cy Z w n1 n2 (pc + 1) (lv.set (j : Nat) (some (.int x))) st) : gw_W l κ cy Z w n1 n2 pc lv (.int x :: st) := fun p e s m args below meth c D A Q H locs ls C z hP hD hS hl => lv_istore_n C.1 C.2.1 hd rfl hl.has hn rfl (fun ls' hl' => k p e s m args below meth c D A Q H locs ls' C z hP hD hS (gw_L.set1 ho rfl hl'))
theorem gw_istore {i : Nat} {x : Int32} (hd : decode κ.2.1 pc = .ok (.istore i, 2)) (hn : i < κ.2.2.1) (ho : gw_ok lv i = true) (k : gw_W l κ cy Z w n1 n2 (pc + 2) (lv.set i (some (.int x))) st) : gw_W l κ cy Z w n1 n2 pc lv (.int x :: st) := fun p e s m args below meth c D A Q H locs ls C z hP hD hS hl => lv_istore C.1 C.2.1 hd  hl.has hn rfl (fun ls' hl' => k p e s m args below meth c D A Q H locs ls' C z hP hD hS (gw_L.set1 ho rfl hl'))
theorem gw_lstore_n {j : Fin 4} {x : Int64} (hd : decode κ.2.1 pc = .ok (.lstore_n j, 1)) (hn : (j : Nat) + 1 < κ.2.2.1) (ho : gw_ok lv (j : Nat) = true) (k : gw_W l κ cy Z w n1 n2 (pc + 1) ((lv.set (j : Nat) (some (.long x))).set ((j : Nat) + 1) none) st) : gw_W l κ cy Z w n1 n2 pc lv (.long x :: st) := fun p e s m args below meth c D A Q H locs ls C z hP hD hS hl => lv_lstore_n C.1 C.2.1 hd rfl hl.has hn rfl (fun ls' hl' => k p e s m args below meth c D A Q H locs ls' C z hP hD hS (gw_L.set2 ho rfl hl'))
theorem gw_lstore {i : Nat} {x : Int64} (hd : decode κ.2.1 pc = .ok (.lstore i, 2)) (hn : i + 1 < κ.2.2.1) (ho : gw_ok lv i = true) (k : gw_W l κ cy Z w n1 n2 (pc + 2) ((lv.set i (some (.long x))).set (i + 1) none) st) : gw_W l κ cy Z w n1 n2 pc lv (.long x :: st) := fun p e s m args below meth c D A Q H locs ls C z hP hD hS hl => lv_lstore C.1 C.2.1 hd  hl.has hn rfl (fun ls' hl' => k p e s m args below meth c D A Q H locs ls' C z hP hD hS (gw_L.set2 ho rfl hl'))
theorem gw_astore_n {j : Fin 4} {x : Nat} (hd : decode κ.2.1 pc = .ok (.astore_n j, 1)) (hn : (j : Nat) < κ.2.2.1) (ho : gw_ok lv (j : Nat) = true) (k : gw_W l κ cy Z w n1 n2 (pc + 1) (lv.set (j : Nat) (some (.ref x))) st) : gw_W l κ cy Z w n1 n2 pc lv (.ref x :: st) := fun p e s m args below meth c D A Q H locs ls C z hP hD hS hl => lv_astore_n C.1 C.2.1 hd rfl hl.has hn rfl (fun ls' hl' => k p e s m args below meth c D A Q H locs ls' C z hP hD hS (gw_L.set1 ho rfl hl'))
theorem gw_astore {i : Nat} {x : Nat} (hd : decode κ.2.1 pc = .ok (.astore i, 2)) (hn : i < κ.2.2.1) (ho : gw_ok lv i = true) (k : gw_W l κ cy Z w n1 n2 (pc + 2) (lv.set i (some (.ref x))) st) : gw_W l κ cy Z w n1 n2 pc lv (.ref x :: st) := fun p e s m args below meth c D A Q H locs ls C z hP hD hS hl => lv_astore C.1 C.2.1 hd  hl.has hn rfl (fun ls' hl' => k p e s m args below meth c D A Q H locs ls' C z hP hD hS (gw_L.set1 ho rfl hl'))
theorem gw_astore_nN {j : Fin 4} (hd : decode κ.2.1 pc = .ok (.astore_n j, 1)) (hn : (j : Nat) < κ.2.2.1) (ho : gw_ok lv (j : Nat) = true) (k : gw_W l κ cy Z w n1 n2 (pc + 1) (lv.set (j : Nat) (some (.null))) st) : gw_W l κ cy Z w n1 n2 pc lv (.null :: st) := fun p e s m args below meth c D A Q H locs ls C z hP hD hS hl => lv_astore_nN C.1 C.2.1 hd rfl hl.has hn rfl (fun ls' hl' => k p e s m args below meth c D A Q H locs ls' C z hP hD hS (gw_L.set1 ho rfl hl'))
theorem gw_astoreN {i : Nat} (hd : decode κ.2.1 pc = .ok (.astore i, 2)) (hn : i < κ.2.2.1) (ho : gw_ok lv i = true) (k : gw_W l κ cy Z w n1 n2 (pc + 2) (lv.set i (some (.null))) st) : gw_W l κ cy Z w n1 n2 pc lv (.null :: st) := fun p e s m args below meth c D A Q H locs ls C z hP hD hS hl => lv_astoreN C.1 C.2.1 hd  hl.has hn rfl (fun ls' hl' => k p e s m args below meth c D A Q H locs ls' C z hP hD hS (gw_L.set1 ho rfl hl'))
theorem gw_l_get {lv : List (Option Value)} {i : Nat} {v : Value} (h : lv[i]? = some (some v)) : ∃ k : Nat, (gw_l 0 lv)[k]? = some (i, v) := by
  have := (gw_l_mem lv 0 (i, v)).mpr ⟨i, by simp, h⟩
  exact List.getElem?_of_mem this
theorem gw_iinc {i : Nat} {n : Int} {x v : Int32} (hd : decode κ.2.1 pc = .ok (.iinc i n, 3)) (h : lv[i]? = some (some (.int x))) (hv : x + Int32.ofInt n = v) (hn : i < κ.2.2.1) (ho : gw_ok lv i = true) (k : gw_W l κ cy Z w n1 n2 (pc + 3) (lv.set i (some (.int v))) st) : gw_W l κ cy Z w n1 n2 pc lv st := fun p e s m args below meth c D A Q H locs ls C z hP hD hS hl => by
  obtain ⟨kk, hkk⟩ := gw_l_get h
  exact lv_iinc C.1 C.2.1 hd hl.has hkk hv hn rfl (fun ls' hl' => k p e s m args below meth c D A Q H locs ls' C z hP hD hS (gw_L.set1 ho rfl hl'))
theorem gw_iadd {x y : Int32} (hd : decode κ.2.1 pc = .ok (.iadd, 1)) (k : gw_W l κ cy Z w n1 n2 (pc + 1) lv (.int (x + y) :: st)) : gw_W l κ cy Z w n1 n2 pc lv (.int y :: .int x :: st) := fun p e s m args below meth c D A Q H locs ls C z hP hD hS hl => lv_iadd C.1 C.2.1 hd (k p e s m args below meth c D A Q H locs ls C z hP hD hS hl)
theorem gw_isub {x y : Int32} (hd : decode κ.2.1 pc = .ok (.isub, 1)) (k : gw_W l κ cy Z w n1 n2 (pc + 1) lv (.int (x - y) :: st)) : gw_W l κ cy Z w n1 n2 pc lv (.int y :: .int x :: st) := fun p e s m args below meth c D A Q H locs ls C z hP hD hS hl => lv_isub C.1 C.2.1 hd (k p e s m args below meth c D A Q H locs ls C z hP hD hS hl)
theorem gw_imul {x y : Int32} (hd : decode κ.2.1 pc = .ok (.imul, 1)) (k : gw_W l κ cy Z w n1 n2 (pc + 1) lv (.int (x * y) :: st)) : gw_W l κ cy Z w n1 n2 pc lv (.int y :: .int x :: st) := fun p e s m args below meth c D A Q H locs ls C z hP hD hS hl => lv_imul C.1 C.2.1 hd (k p e s m args below meth c D A Q H locs ls C z hP hD hS hl)
theorem gw_iand {x y : Int32} (hd : decode κ.2.1 pc = .ok (.iand, 1)) (k : gw_W l κ cy Z w n1 n2 (pc + 1) lv (.int (x &&& y) :: st)) : gw_W l κ cy Z w n1 n2 pc lv (.int y :: .int x :: st) := fun p e s m args below meth c D A Q H locs ls C z hP hD hS hl => lv_iand C.1 C.2.1 hd (k p e s m args below meth c D A Q H locs ls C z hP hD hS hl)
theorem gw_ior {x y : Int32} (hd : decode κ.2.1 pc = .ok (.ior, 1)) (k : gw_W l κ cy Z w n1 n2 (pc + 1) lv (.int (x ||| y) :: st)) : gw_W l κ cy Z w n1 n2 pc lv (.int y :: .int x :: st) := fun p e s m args below meth c D A Q H locs ls C z hP hD hS hl => lv_ior C.1 C.2.1 hd (k p e s m args below meth c D A Q H locs ls C z hP hD hS hl)
theorem gw_ixor {x y : Int32} (hd : decode κ.2.1 pc = .ok (.ixor, 1)) (k : gw_W l κ cy Z w n1 n2 (pc + 1) lv (.int (x ^^^ y) :: st)) : gw_W l κ cy Z w n1 n2 pc lv (.int y :: .int x :: st) := fun p e s m args below meth c D A Q H locs ls C z hP hD hS hl => lv_ixor C.1 C.2.1 hd (k p e s m args below meth c D A Q H locs ls C z hP hD hS hl)
theorem gw_ishl {x y : Int32} (hd : decode κ.2.1 pc = .ok (.ishl, 1)) (k : gw_W l κ cy Z w n1 n2 (pc + 1) lv (.int (x <<< (y &&& 31)) :: st)) : gw_W l κ cy Z w n1 n2 pc lv (.int y :: .int x :: st) := fun p e s m args below meth c D A Q H locs ls C z hP hD hS hl => lv_ishl C.1 C.2.1 hd (k p e s m args below meth c D A Q H locs ls C z hP hD hS hl)
theorem gw_ishr {x y : Int32} (hd : decode κ.2.1 pc = .ok (.ishr, 1)) (k : gw_W l κ cy Z w n1 n2 (pc + 1) lv (.int (x >>> (y &&& 31)) :: st)) : gw_W l κ cy Z w n1 n2 pc lv (.int y :: .int x :: st) := fun p e s m args below meth c D A Q H locs ls C z hP hD hS hl => lv_ishr C.1 C.2.1 hd (k p e s m args below meth c D A Q H locs ls C z hP hD hS hl)
theorem gw_iushr {x y v : Int32} (hd : decode κ.2.1 pc = .ok (.iushr, 1)) (hv : (x.toUInt32 >>> (y.toUInt32 &&& Int32.toUInt32 31)).toInt32 = v) (k : gw_W l κ cy Z w n1 n2 (pc + 1) lv (.int v :: st)) : gw_W l κ cy Z w n1 n2 pc lv (.int y :: .int x :: st) := fun p e s m args below meth c D A Q H locs ls C z hP hD hS hl => lv_iushr C.1 C.2.1 hd hv (k p e s m args below meth c D A Q H locs ls C z hP hD hS hl)
theorem gw_idiv {x y : Int32} (hd : decode κ.2.1 pc = .ok (.idiv, 1)) (hne : ¬ y = 0) (k : gw_W l κ cy Z w n1 n2 (pc + 1) lv (.int (x / y) :: st)) : gw_W l κ cy Z w n1 n2 pc lv (.int y :: .int x :: st) := fun p e s m args below meth c D A Q H locs ls C z hP hD hS hl => lv_idiv C.1 C.2.1 hd hne (k p e s m args below meth c D A Q H locs ls C z hP hD hS hl)
theorem gw_irem {x y : Int32} (hd : decode κ.2.1 pc = .ok (.irem, 1)) (hne : ¬ y = 0) (k : gw_W l κ cy Z w n1 n2 (pc + 1) lv (.int (x - x / y * y) :: st)) : gw_W l κ cy Z w n1 n2 pc lv (.int y :: .int x :: st) := fun p e s m args below meth c D A Q H locs ls C z hP hD hS hl => lv_irem C.1 C.2.1 hd hne (k p e s m args below meth c D A Q H locs ls C z hP hD hS hl)
theorem gw_ineg {x : Int32} (hd : decode κ.2.1 pc = .ok (.ineg, 1)) (k : gw_W l κ cy Z w n1 n2 (pc + 1) lv (.int (-x) :: st)) : gw_W l κ cy Z w n1 n2 pc lv (.int x :: st) := fun p e s m args below meth c D A Q H locs ls C z hP hD hS hl => lv_ineg C.1 C.2.1 hd (k p e s m args below meth c D A Q H locs ls C z hP hD hS hl)
theorem gw_ladd {x y : Int64} (hd : decode κ.2.1 pc = .ok (.ladd, 1)) (k : gw_W l κ cy Z w n1 n2 (pc + 1) lv (.long (x + y) :: st)) : gw_W l κ cy Z w n1 n2 pc lv (.long y :: .long x :: st) := fun p e s m args below meth c D A Q H locs ls C z hP hD hS hl => lv_ladd C.1 C.2.1 hd (k p e s m args below meth c D A Q H locs ls C z hP hD hS hl)
theorem gw_lsub {x y : Int64} (hd : decode κ.2.1 pc = .ok (.lsub, 1)) (k : gw_W l κ cy Z w n1 n2 (pc + 1) lv (.long (x - y) :: st)) : gw_W l κ cy Z w n1 n2 pc lv (.long y :: .long x :: st) := fun p e s m args below meth c D A Q H locs ls C z hP hD hS hl => lv_lsub C.1 C.2.1 hd (k p e s m args below meth c D A Q H locs ls C z hP hD hS hl)
theorem gw_lmul {x y : Int64} (hd : decode κ.2.1 pc = .ok (.lmul, 1)) (k : gw_W l κ cy Z w n1 n2 (pc + 1) lv (.long (x * y) :: st)) : gw_W l κ cy Z w n1 n2 pc lv (.long y :: .long x :: st) := fun p e s m args below meth c D A Q H locs ls C z hP hD hS hl => lv_lmul C.1 C.2.1 hd (k p e s m args below meth c D A Q H locs ls C z hP hD hS hl)
theorem gw_ldiv {x y : Int64} (hd : decode κ.2.1 pc = .ok (.ldiv, 1)) (hne : ¬ y = 0) (k : gw_W l κ cy Z w n1 n2 (pc + 1) lv (.long (x / y) :: st)) : gw_W l κ cy Z w n1 n2 pc lv (.long y :: .long x :: st) := fun p e s m args below meth c D A Q H locs ls C z hP hD hS hl => lv_ldiv C.1 C.2.1 hd hne (k p e s m args below meth c D A Q H locs ls C z hP hD hS hl)
theorem gw_lneg {x : Int64} (hd : decode κ.2.1 pc = .ok (.lneg, 1)) (k : gw_W l κ cy Z w n1 n2 (pc + 1) lv (.long (-x) :: st)) : gw_W l κ cy Z w n1 n2 pc lv (.long x :: st) := fun p e s m args below meth c D A Q H locs ls C z hP hD hS hl => lv_lneg C.1 C.2.1 hd (k p e s m args below meth c D A Q H locs ls C z hP hD hS hl)
theorem gw_lcmp {x y : Int64} (hd : decode κ.2.1 pc = .ok (.lcmp, 1)) (k : gw_W l κ cy Z w n1 n2 (pc + 1) lv (.int (lg_cmp x y) :: st)) : gw_W l κ cy Z w n1 n2 pc lv (.long y :: .long x :: st) := fun p e s m args below meth c D A Q H locs ls C z hP hD hS hl => W.lcmp C.1 C.2.1 hd (k p e s m args below meth c D A Q H locs ls C z hP hD hS hl)
theorem gw_i2l {x : Int32} {v : Int64} (hd : decode κ.2.1 pc = .ok (.i2l, 1)) (hv : x.toInt64 = v) (k : gw_W l κ cy Z w n1 n2 (pc + 1) lv (.long v :: st)) : gw_W l κ cy Z w n1 n2 pc lv (.int x :: st) := fun p e s m args below meth c D A Q H locs ls C z hP hD hS hl => lv_i2l C.1 C.2.1 hd hv (k p e s m args below meth c D A Q H locs ls C z hP hD hS hl)
theorem gw_i2b {x v : Int32} (hd : decode κ.2.1 pc = .ok (.i2b, 1)) (hv : x.toInt8.toInt32 = v) (k : gw_W l κ cy Z w n1 n2 (pc + 1) lv (.int v :: st)) : gw_W l κ cy Z w n1 n2 pc lv (.int x :: st) := fun p e s m args below meth c D A Q H locs ls C z hP hD hS hl => lv_i2b C.1 C.2.1 hd hv (k p e s m args below meth c D A Q H locs ls C z hP hD hS hl)
theorem gw_i2s {x v : Int32} (hd : decode κ.2.1 pc = .ok (.i2s, 1)) (hv : x.toInt16.toInt32 = v) (k : gw_W l κ cy Z w n1 n2 (pc + 1) lv (.int v :: st)) : gw_W l κ cy Z w n1 n2 pc lv (.int x :: st) := fun p e s m args below meth c D A Q H locs ls C z hP hD hS hl => lv_i2s C.1 C.2.1 hd hv (k p e s m args below meth c D A Q H locs ls C z hP hD hS hl)
theorem gw_dup {va : Value} (hd : decode κ.2.1 pc = .ok (.dup, 1)) (hva : va.category = 1) (k : gw_W l κ cy Z w n1 n2 (pc + 1) lv (va :: va :: st)) : gw_W l κ cy Z w n1 n2 pc lv (va :: st) := fun p e s m args below meth c D A Q H locs ls C z hP hD hS hl => lv_dup C.1 C.2.1 hd hva (k p e s m args below meth c D A Q H locs ls C z hP hD hS hl)
theorem gw_dup2 {va vb : Value} (hd : decode κ.2.1 pc = .ok (.dup2, 1)) (hva : va.category = 1) (hvb : vb.category = 1) (k : gw_W l κ cy Z w n1 n2 (pc + 1) lv (va :: vb :: va :: vb :: st)) : gw_W l κ cy Z w n1 n2 pc lv (va :: vb :: st) := fun p e s m args below meth c D A Q H locs ls C z hP hD hS hl => lv_dup2_11 C.1 C.2.1 hd hva hvb (k p e s m args below meth c D A Q H locs ls C z hP hD hS hl)
theorem gw_dup2L {va : Value} (hd : decode κ.2.1 pc = .ok (.dup2, 1)) (hva : va.category = 2) (k : gw_W l κ cy Z w n1 n2 (pc + 1) lv (va :: va :: st)) : gw_W l κ cy Z w n1 n2 pc lv (va :: st) := fun p e s m args below meth c D A Q H locs ls C z hP hD hS hl => lv_dup2_2 C.1 C.2.1 hd hva (k p e s m args below meth c D A Q H locs ls C z hP hD hS hl)
theorem gw_if_eq {x : Int32} {off : Int} {tgt : Nat} (hd : decode κ.2.1 pc = .ok (.ifCond .eq off, 3)) (ht : (pc : Int) + off = (tgt : Int)) (kt : x = 0 → gw_W l κ cy Z w n1 n2 tgt lv st) (kf : ¬ x = 0 → gw_W l κ cy Z w n1 n2 (pc + 3) lv st) : gw_W l κ cy Z w n1 n2 pc lv (.int x :: st) := fun p e s m args below meth c D A Q H locs ls C z hP hD hS hl => lv_if_eq C.1 C.2.1 hd ht (fun h => kt h p e s m args below meth c D A Q H locs ls C z hP hD hS hl) (fun h => kf h p e s m args below meth c D A Q H locs ls C z hP hD hS hl)
theorem gw_icmp_eq {x y : Int32} {off : Int} {tgt : Nat} (hd : decode κ.2.1 pc = .ok (.if_icmp .eq off, 3)) (ht : (pc : Int) + off = (tgt : Int)) (kt : x = y → gw_W l κ cy Z w n1 n2 tgt lv st) (kf : ¬ x = y → gw_W l κ cy Z w n1 n2 (pc + 3) lv st) : gw_W l κ cy Z w n1 n2 pc lv (.int y :: .int x :: st) := fun p e s m args below meth c D A Q H locs ls C z hP hD hS hl => lv_icmp_eq C.1 C.2.1 hd ht (fun h => kt h p e s m args below meth c D A Q H locs ls C z hP hD hS hl) (fun h => kf h p e s m args below meth c D A Q H locs ls C z hP hD hS hl)
theorem gw_if_ne {x : Int32} {off : Int} {tgt : Nat} (hd : decode κ.2.1 pc = .ok (.ifCond .ne off, 3)) (ht : (pc : Int) + off = (tgt : Int)) (kt : ¬ x = 0 → gw_W l κ cy Z w n1 n2 tgt lv st) (kf : x = 0 → gw_W l κ cy Z w n1 n2 (pc + 3) lv st) : gw_W l κ cy Z w n1 n2 pc lv (.int x :: st) := fun p e s m args below meth c D A Q H locs ls C z hP hD hS hl => lv_if_ne C.1 C.2.1 hd ht (fun h => kt h p e s m args below meth c D A Q H locs ls C z hP hD hS hl) (fun h => kf h p e s m args below meth c D A Q H locs ls C z hP hD hS hl)
theorem gw_icmp_ne {x y : Int32} {off : Int} {tgt : Nat} (hd : decode κ.2.1 pc = .ok (.if_icmp .ne off, 3)) (ht : (pc : Int) + off = (tgt : Int)) (kt : ¬ x = y → gw_W l κ cy Z w n1 n2 tgt lv st) (kf : x = y → gw_W l κ cy Z w n1 n2 (pc + 3) lv st) : gw_W l κ cy Z w n1 n2 pc lv (.int y :: .int x :: st) := fun p e s m args below meth c D A Q H locs ls C z hP hD hS hl => lv_icmp_ne C.1 C.2.1 hd ht (fun h => kt h p e s m args below meth c D A Q H locs ls C z hP hD hS hl) (fun h => kf h p e s m args below meth c D A Q H locs ls C z hP hD hS hl)
theorem gw_if_lt {x : Int32} {off : Int} {tgt : Nat} (hd : decode κ.2.1 pc = .ok (.ifCond .lt off, 3)) (ht : (pc : Int) + off = (tgt : Int)) (kt : x < 0 → gw_W l κ cy Z w n1 n2 tgt lv st) (kf : ¬ x < 0 → gw_W l κ cy Z w n1 n2 (pc + 3) lv st) : gw_W l κ cy Z w n1 n2 pc lv (.int x :: st) := fun p e s m args below meth c D A Q H locs ls C z hP hD hS hl => lv_if_lt C.1 C.2.1 hd ht (fun h => kt h p e s m args below meth c D A Q H locs ls C z hP hD hS hl) (fun h => kf h p e s m args below meth c D A Q H locs ls C z hP hD hS hl)
theorem gw_icmp_lt {x y : Int32} {off : Int} {tgt : Nat} (hd : decode κ.2.1 pc = .ok (.if_icmp .lt off, 3)) (ht : (pc : Int) + off = (tgt : Int)) (kt : x < y → gw_W l κ cy Z w n1 n2 tgt lv st) (kf : ¬ x < y → gw_W l κ cy Z w n1 n2 (pc + 3) lv st) : gw_W l κ cy Z w n1 n2 pc lv (.int y :: .int x :: st) := fun p e s m args below meth c D A Q H locs ls C z hP hD hS hl => lv_icmp_lt C.1 C.2.1 hd ht (fun h => kt h p e s m args below meth c D A Q H locs ls C z hP hD hS hl) (fun h => kf h p e s m args below meth c D A Q H locs ls C z hP hD hS hl)
theorem gw_if_ge {x : Int32} {off : Int} {tgt : Nat} (hd : decode κ.2.1 pc = .ok (.ifCond .ge off, 3)) (ht : (pc : Int) + off = (tgt : Int)) (kt : 0 ≤ x → gw_W l κ cy Z w n1 n2 tgt lv st) (kf : ¬ 0 ≤ x → gw_W l κ cy Z w n1 n2 (pc + 3) lv st) : gw_W l κ cy Z w n1 n2 pc lv (.int x :: st) := fun p e s m args below meth c D A Q H locs ls C z hP hD hS hl => lv_if_ge C.1 C.2.1 hd ht (fun h => kt h p e s m args below meth c D A Q H locs ls C z hP hD hS hl) (fun h => kf h p e s m args below meth c D A Q H locs ls C z hP hD hS hl)
theorem gw_icmp_ge {x y : Int32} {off : Int} {tgt : Nat} (hd : decode κ.2.1 pc = .ok (.if_icmp .ge off, 3)) (ht : (pc : Int) + off = (tgt : Int)) (kt : y ≤ x → gw_W l κ cy Z w n1 n2 tgt lv st) (kf : ¬ y ≤ x → gw_W l κ cy Z w n1 n2 (pc + 3) lv st) : gw_W l κ cy Z w n1 n2 pc lv (.int y :: .int x :: st) := fun p e s m args below meth c D A Q H locs ls C z hP hD hS hl => lv_icmp_ge C.1 C.2.1 hd ht (fun h => kt h p e s m args below meth c D A Q H locs ls C z hP hD hS hl) (fun h => kf h p e s m args below meth c D A Q H locs ls C z hP hD hS hl)
theorem gw_if_gt {x : Int32} {off : Int} {tgt : Nat} (hd : decode κ.2.1 pc = .ok (.ifCond .gt off, 3)) (ht : (pc : Int) + off = (tgt : Int)) (kt : 0 < x → gw_W l κ cy Z w n1 n2 tgt lv st) (kf : ¬ 0 < x → gw_W l κ cy Z w n1 n2 (pc + 3) lv st) : gw_W l κ cy Z w n1 n2 pc lv (.int x :: st) := fun p e s m args below meth c D A Q H locs ls C z hP hD hS hl => lv_if_gt C.1 C.2.1 hd ht (fun h => kt h p e s m args below meth c D A Q H locs ls C z hP hD hS hl) (fun h => kf h p e s m args below meth c D A Q H locs ls C z hP hD hS hl)
theorem gw_icmp_gt {x y : Int32} {off : Int} {tgt : Nat} (hd : decode κ.2.1 pc = .ok (.if_icmp .gt off, 3)) (ht : (pc : Int) + off = (tgt : Int)) (kt : y < x → gw_W l κ cy Z w n1 n2 tgt lv st) (kf : ¬ y < x → gw_W l κ cy Z w n1 n2 (pc + 3) lv st) : gw_W l κ cy Z w n1 n2 pc lv (.int y :: .int x :: st) := fun p e s m args below meth c D A Q H locs ls C z hP hD hS hl => lv_icmp_gt C.1 C.2.1 hd ht (fun h => kt h p e s m args below meth c D A Q H locs ls C z hP hD hS hl) (fun h => kf h p e s m args below meth c D A Q H locs ls C z hP hD hS hl)
theorem gw_if_le {x : Int32} {off : Int} {tgt : Nat} (hd : decode κ.2.1 pc = .ok (.ifCond .le off, 3)) (ht : (pc : Int) + off = (tgt : Int)) (kt : x ≤ 0 → gw_W l κ cy Z w n1 n2 tgt lv st) (kf : ¬ x ≤ 0 → gw_W l κ cy Z w n1 n2 (pc + 3) lv st) : gw_W l κ cy Z w n1 n2 pc lv (.int x :: st) := fun p e s m args below meth c D A Q H locs ls C z hP hD hS hl => lv_if_le C.1 C.2.1 hd ht (fun h => kt h p e s m args below meth c D A Q H locs ls C z hP hD hS hl) (fun h => kf h p e s m args below meth c D A Q H locs ls C z hP hD hS hl)
theorem gw_icmp_le {x y : Int32} {off : Int} {tgt : Nat} (hd : decode κ.2.1 pc = .ok (.if_icmp .le off, 3)) (ht : (pc : Int) + off = (tgt : Int)) (kt : x ≤ y → gw_W l κ cy Z w n1 n2 tgt lv st) (kf : ¬ x ≤ y → gw_W l κ cy Z w n1 n2 (pc + 3) lv st) : gw_W l κ cy Z w n1 n2 pc lv (.int y :: .int x :: st) := fun p e s m args below meth c D A Q H locs ls C z hP hD hS hl => lv_icmp_le C.1 C.2.1 hd ht (fun h => kt h p e s m args below meth c D A Q H locs ls C z hP hD hS hl) (fun h => kf h p e s m args below meth c D A Q H locs ls C z hP hD hS hl)
theorem gw_goto {off : Int} {tgt : Nat} (hd : decode κ.2.1 pc = .ok (.goto off, 3)) (ht : (pc : Int) + off = (tgt : Int)) (k : gw_W l κ cy Z w n1 n2 tgt lv st) : gw_W l κ cy Z w n1 n2 pc lv st := fun p e s m args below meth c D A Q H locs ls C z hP hD hS hl => lv_goto C.1 C.2.1 hd ht (k p e s m args below meth c D A Q H locs ls C z hP hD hS hl)
theorem gw_ifnull {x : Nat} {off : Int} (hd : decode κ.2.1 pc = .ok (.ifnull off, 3)) (k : gw_W l κ cy Z w n1 n2 (pc + 3) lv st) : gw_W l κ cy Z w n1 n2 pc lv (.ref x :: st) := fun p e s m args below meth c D A Q H locs ls C z hP hD hS hl => lv_ifnull C.1 C.2.1 hd (k p e s m args below meth c D A Q H locs ls C z hP hD hS hl)
theorem gw_ifnonnull {x : Nat} {off : Int} {tgt : Nat} (hd : decode κ.2.1 pc = .ok (.ifnonnull off, 3)) (ht : (pc : Int) + off = (tgt : Int)) (k : gw_W l κ cy Z w n1 n2 tgt lv st) : gw_W l κ cy Z w n1 n2 pc lv (.ref x :: st) := fun p e s m args below meth c D A Q H locs ls C z hP hD hS hl => lv_ifnonnull C.1 C.2.1 hd ht (k p e s m args below meth c D A Q H locs ls C z hP hD hS hl)
theorem gw_ifnullN {off : Int} {tgt : Nat} (hd : decode κ.2.1 pc = .ok (.ifnull off, 3)) (ht : (pc : Int) + off = (tgt : Int)) (k : gw_W l κ cy Z w n1 n2 tgt lv st) : gw_W l κ cy Z w n1 n2 pc lv (.null :: st) := fun p e s m args below meth c D A Q H locs ls C z hP hD hS hl => lv_ifnullN C.1 C.2.1 hd ht (k p e s m args below meth c D A Q H locs ls C z hP hD hS hl)
theorem gw_ifnonnullN {off : Int} (hd : decode κ.2.1 pc = .ok (.ifnonnull off, 3)) (k : gw_W l κ cy Z w n1 n2 (pc + 3) lv st) : gw_W l κ cy Z w n1 n2 pc lv (.null :: st) := fun p e s m args below meth c D A Q H locs ls C z hP hD hS hl => lv_ifnonnullN C.1 C.2.1 hd (k p e s m args below meth c D A Q H locs ls C z hP hD hS hl)
theorem gw_tableIn {dflt lo hi : Int} {offs : Array Int} {len : Nat} {x : Int32} {off : Int} {tgt : Nat} (hd : decode κ.2.1 pc = .ok (.tableswitch dflt lo hi offs, len)) (h1 : ¬ x.toInt < lo) (h2 : ¬ hi < x.toInt) (ho : offs[(x.toInt - lo).toNat]? = some off) (ht : (pc : Int) + off = (tgt : Int)) (k : gw_W l κ cy Z w n1 n2 tgt lv st) : gw_W l κ cy Z w n1 n2 pc lv (.int x :: st) := fun p e s m args below meth c D A Q H locs ls C z hP hD hS hl => lv_tableIn C.1 C.2.1 hd h1 h2 ho ht (k p e s m args below meth c D A Q H locs ls C z hP hD hS hl)
theorem gw_tableOut {dflt lo hi : Int} {offs : Array Int} {len : Nat} {x : Int32} {tgt : Nat} (hd : decode κ.2.1 pc = .ok (.tableswitch dflt lo hi offs, len)) (h : x.toInt < lo ∨ hi < x.toInt) (ht : (pc : Int) + dflt = (tgt : Int)) (k : gw_W l κ cy Z w n1 n2 tgt lv st) : gw_W l κ cy Z w n1 n2 pc lv (.int x :: st) := fun p e s m args below meth c D A Q H locs ls C z hP hD hS hl => lv_tableOut C.1 C.2.1 hd h ht (k p e s m args below meth c D A Q H locs ls C z hP hD hS hl)
theorem gw_lookup {dflt : Int} {ps : Array (Int × Int)} {len : Nat} {x : Int32} {off : Int} {tgt : Nat} (hd : decode κ.2.1 pc = .ok (.lookupswitch dflt ps, len)) (hp : (ps.toList.zip (ps.toList.drop 1)).all (fun (a, next) => a.1 < next.1) = true) (ho : Op.lookupswitch.offset ps.toList dflt x.toInt = off) (ht : (pc : Int) + off = (tgt : Int)) (k : gw_W l κ cy Z w n1 n2 tgt lv st) : gw_W l κ cy Z w n1 n2 pc lv (.int x :: st) := fun p e s m args below meth c D A Q H locs ls C z hP hD hS hl => lv_lookup C.1 C.2.1 hd hp ho ht (k p e s m args below meth c D A Q H locs ls C z hP hD hS hl)
end GW
end
section
section GWH
variable {l : Launch} {κ : gw_K} {cy : Nat → ClassId} {Z : gw_Z} {w : va_W} {n1 n2 pc : Nat} {lv : List (Option Value)} {st : List Value}
/-- a field under the name of the class that the code speaks of -/
def gw_same (ws : List Cond) (ref own name desc : String) : Prop := ref = own ∨ Cond.sameField ref own name desc ∈ ws
theorem gw_same.use {ws : List Cond} {ref own name desc : String} (h : gw_same ws ref own name desc) {args : Array Value} {s : State} (hts : ∀ w ∈ ws, w.before args s = true) : ∀ x, s.fieldFound? own name desc = some x → s.fieldFound? ref name desc = some x := by
  intro x hx
  rcases h with h | h
  · rw [h]; exact hx
  · exact u_same (hts _ h) x hx
theorem gw_get {a ci index N : Nat} {ref C0 : String} {T : u_T} {fs : List Value} (q0 : Nat) (he : w[q0]? = some (a, .inr (ci, fs))) (hc : vwCl[ci]? = some (C0, T, N)) (hin : ∀ x ∈ u_ws C0 T N, x ∈ gw_All) (f : Nat) (hf : f < N) (hk : Cond.fieldLink κ.1.cls index ref (T f).2.1 (T f).2.2.1 ∈ gw_All) (hs : gw_same gw_All ref (T f).1 (T f).2.1 (T f).2.2.1) {v : Value} (hv : fs[f]? = some v) (hd : decode κ.2.1 pc = .ok (.getfield index, 3)) (k : gw_W l κ cy Z w n1 n2 (pc + 3) lv (v :: st)) : gw_W l κ cy Z w n1 n2 pc lv (.ref a :: st) := fun p e s m args below meth c D A Q H locs ls C z hP hD hS hl => va_get C.1 C.2.1 C.2.2.2.2.2.1 hin C.2.2.2.2.1 C.2.2.2.2.2.2.2.2.1 hP q0 he hc f hf (C.2.2.2.2.2.1 _ hk) (hs.use C.2.2.2.2.2.1) hv hd (k p e s m args below meth c D A Q H locs ls C z hP hD hS hl)
theorem gw_getN {a ci index N : Nat} {ref C0 : String} {T : u_T} {fs : List Value} (q0 : Nat) (he : w[q0]? = some (a, .inr (ci, fs))) (hc : vwCl[ci]? = some (C0, T, N)) (hin : ∀ x ∈ u_ws C0 T N, x ∈ gw_All) (f : Nat) (hf : f < N) {host : String} (hk : Cond.fieldLinkNest κ.1.cls index ref (T f).2.1 (T f).2.2.1 host ∈ gw_N) (hs : gw_same gw_All ref (T f).1 (T f).2.1 (T f).2.2.1) {v : Value} (hv : fs[f]? = some v) (hd : decode κ.2.1 pc = .ok (.getfield index, 3)) (k : gw_W l κ cy Z w n1 n2 (pc + 3) lv (v :: st)) : gw_W l κ cy Z w n1 n2 pc lv (.ref a :: st) := fun p e s m args below meth c D A Q H locs ls C z hP hD hS hl => va_getN C.1 C.2.1 C.2.2.2.2.2.1 hin C.2.2.2.2.1 C.2.2.2.2.2.2.2.2.1 hP q0 he hc f hf (va_Nw.use rfl (C.2.2.2.2.2.2.2.2.2.1.1 _ hk)) (hs.use C.2.2.2.2.2.1) hv hd (k p e s m args below meth c D A Q H locs ls C z hP hD hS hl)
theorem gw_put {a ci index N : Nat} {ref C0 : String} {T : u_T} {fs : List Value} (q0 : Nat) (he : w[q0]? = some (a, .inr (ci, fs))) (hc : vwCl[ci]? = some (C0, T, N)) (hin : ∀ x ∈ u_ws C0 T N, x ∈ gw_All) (f : Nat) (hf : f < N) (ty0 : Nat → FieldType) (hty : ∀ k, k < N → parseFieldDescriptor (T k).2.2.1 = some (ty0 k)) (hnm : ∀ a, a < N → ∀ b, b < N → a ≠ b → (T a).2.1 ≠ (T b).2.1) (hk : Cond.fieldLink κ.1.cls index ref (T f).2.1 (T f).2.2.1 ∈ gw_All) (hs : gw_same gw_All ref (T f).1 (T f).2.1 (T f).2.2.1) (hfin : (T f).2.2.2 = false) {ty : FieldType} {v : Value} (hde : parseFieldDescriptor (T f).2.2.1 = some ty) (hn : narrow ty v = v) (hfit : fits ty v = true) (hfl : f < fs.length) (hd : decode κ.2.1 pc = .ok (.putfield index, 3)) (k : gw_W l κ cy Z (w.set q0 (a, .inr (ci, fs.set f v))) n1 n2 (pc + 3) lv st) : gw_W l κ cy Z w n1 n2 pc lv (v :: .ref a :: st) := fun p e s m args below meth c D A Q H locs ls C z hP hD hS hl => va_put C.1 C.2.1 C.2.2.2.2.2.1 hin ty0 hty hnm C.2.2.2.2.1 C.2.2.2.2.2.2.2.2.1 hP hD hS q0 he hc f hf (C.2.2.2.2.2.1 _ hk) (hs.use C.2.2.2.2.2.1) hfin hde hn hfit hfl hd (fun H1 locs1 hP' hD' hS' => k p e s m args below meth c D A Q H1 locs1 ls C z hP' hD' hS' hl)
theorem gw_putN {a ci index N : Nat} {ref C0 : String} {T : u_T} {fs : List Value} (q0 : Nat) (he : w[q0]? = some (a, .inr (ci, fs))) (hc : vwCl[ci]? = some (C0, T, N)) (hin : ∀ x ∈ u_ws C0 T N, x ∈ gw_All) (f : Nat) (hf : f < N) (ty0 : Nat → FieldType) (hty : ∀ k, k < N → parseFieldDescriptor (T k).2.2.1 = some (ty0 k)) (hnm : ∀ a, a < N → ∀ b, b < N → a ≠ b → (T a).2.1 ≠ (T b).2.1) {host : String} (hk : Cond.fieldLinkNest κ.1.cls index ref (T f).2.1 (T f).2.2.1 host ∈ gw_N) (hs : gw_same gw_All ref (T f).1 (T f).2.1 (T f).2.2.1) (hfin : (T f).2.2.2 = false) {ty : FieldType} {v : Value} (hde : parseFieldDescriptor (T f).2.2.1 = some ty) (hn : narrow ty v = v) (hfit : fits ty v = true) (hfl : f < fs.length) (hd : decode κ.2.1 pc = .ok (.putfield index, 3)) (k : gw_W l κ cy Z (w.set q0 (a, .inr (ci, fs.set f v))) n1 n2 (pc + 3) lv st) : gw_W l κ cy Z w n1 n2 pc lv (v :: .ref a :: st) := fun p e s m args below meth c D A Q H locs ls C z hP hD hS hl => va_putN C.1 C.2.1 C.2.2.2.2.2.1 hin ty0 hty hnm C.2.2.2.2.1 C.2.2.2.2.2.2.2.2.1 hP hD hS q0 he hc f hf (va_Nw.use rfl (C.2.2.2.2.2.2.2.2.2.1.1 _ hk)) (hs.use C.2.2.2.2.2.1) hfin hde hn hfit hfl hd (fun H1 locs1 hP' hD' hS' => k p e s m args below meth c D A Q H1 locs1 ls C z hP' hD' hS' hl)
theorem gw_putF {a ci index N : Nat} {ref C0 : String} {T : u_T} {fs : List Value} (q0 : Nat) (he : w[q0]? = some (a, .inr (ci, fs))) (hc : vwCl[ci]? = some (C0, T, N)) (hin : ∀ x ∈ u_ws C0 T N, x ∈ gw_All) (f : Nat) (hf : f < N) (ty0 : Nat → FieldType) (hty : ∀ k, k < N → parseFieldDescriptor (T k).2.2.1 = some (ty0 k)) (hnm : ∀ a, a < N → ∀ b, b < N → a ≠ b → (T a).2.1 ≠ (T b).2.1) (hk : Cond.fieldLink κ.1.cls index ref (T f).2.1 (T f).2.2.1 ∈ gw_All) (hs : gw_same gw_All ref (T f).1 (T f).2.1 (T f).2.2.1) (hfin : (T f).2.2.2 = true) (hi : κ.1.name = "<init>") (hdc : (T f).1 = κ.1.cls) {ty : FieldType} {v : Value} (hde : parseFieldDescriptor (T f).2.2.1 = some ty) (hn : narrow ty v = v) (hfit : fits ty v = true) (hfl : f < fs.length) (hd : decode κ.2.1 pc = .ok (.putfield index, 3)) (k : gw_W l κ cy Z (w.set q0 (a, .inr (ci, fs.set f v))) n1 n2 (pc + 3) lv st) : gw_W l κ cy Z w n1 n2 pc lv (v :: .ref a :: st) := fun p e s m args below meth c D A Q H locs ls C z hP hD hS hl => va_putF C.1 C.2.1 C.2.2.2.2.2.1 hin ty0 hty hnm C.2.2.2.2.1 C.2.2.2.2.2.2.2.2.1 hP hD hS q0 he hc f hf (C.2.2.2.2.2.1 _ hk) (hs.use C.2.2.2.2.2.1) hfin (C.2.2.2.2.2.2.2.1.trans hi) hdc hde hn hfit hfl hd (fun H1 locs1 hP' hD' hS' => k p e s m args below meth c D A Q H1 locs1 ls C z hP' hD' hS' hl)
theorem gw_iald {a N j : Nat} {f : Nat → Int32} {i : Int32} (q0 : Nat) (ha : w[q0]? = some (a, .inl (cy 0, N, .inl f))) (hi : i = nI j) (hj : j < N) (hN : N < 2 ^ 31) (hd : decode κ.2.1 pc = .ok (.iaload, 1)) (k : gw_W l κ cy Z w n1 n2 (pc + 1) lv (.int (f j) :: st)) : gw_W l κ cy Z w n1 n2 pc lv (.int i :: .ref a :: st) := by
  subst hi
  exact fun p e s m args below meth c D A Q H locs ls C z hP hD hS hl => va_iald C.1 C.2.1 C.2.2.2.2.2.2.2.2.1 hP q0 0 ha rfl (vp_in_nI hj hN) hd (by rw [nI_clamp (Nat.lt_trans hj hN)]; exact (k p e s m args below meth c D A Q H locs ls C z hP hD hS hl))
theorem gw_lald {a N j : Nat} {f : Nat → Int64} {i : Int32} (q0 : Nat) (ha : w[q0]? = some (a, .inl (cy 1, N, .inr (.inl f)))) (hi : i = nI j) (hj : j < N) (hN : N < 2 ^ 31) (hd : decode κ.2.1 pc = .ok (.laload, 1)) (k : gw_W l κ cy Z w n1 n2 (pc + 1) lv (.long (f j) :: st)) : gw_W l κ cy Z w n1 n2 pc lv (.int i :: .ref a :: st) := by
  subst hi
  exact fun p e s m args below meth c D A Q H locs ls C z hP hD hS hl => va_lald C.1 C.2.1 C.2.2.2.2.2.2.2.2.1 hP q0 1 ha rfl (vp_in_nI hj hN) hd (by rw [nI_clamp (Nat.lt_trans hj hN)]; exact (k p e s m args below meth c D A Q H locs ls C z hP hD hS hl))
theorem gw_aald2 {a N j : Nat} {f : Nat → Option Nat} {i : Int32} (q0 : Nat) (ha : w[q0]? = some (a, .inl (cy 2, N, .inr (.inr (.inr (.inr f)))))) (hi : i = nI j) (hj : j < N) (hN : N < 2 ^ 31) (hd : decode κ.2.1 pc = .ok (.aaload, 1)) (k : gw_W l κ cy Z w n1 n2 (pc + 1) lv (va_rf (f j) :: st)) : gw_W l κ cy Z w n1 n2 pc lv (.int i :: .ref a :: st) := by
  subst hi
  exact fun p e s m args below meth c D A Q H locs ls C z hP hD hS hl => va_aldq C.1 C.2.1 C.2.2.2.2.2.2.2.2.1 hP q0 2 ha rfl (vp_in_nI hj hN) hd (by rw [nI_clamp (Nat.lt_trans hj hN)]; exact (k p e s m args below meth c D A Q H locs ls C z hP hD hS hl))
theorem gw_aald3 {a N j : Nat} {f : Nat → Option Nat} {i : Int32} (q0 : Nat) (ha : w[q0]? = some (a, .inl (cy 3, N, .inr (.inr (.inr (.inr f)))))) (hi : i = nI j) (hj : j < N) (hN : N < 2 ^ 31) (hd : decode κ.2.1 pc = .ok (.aaload, 1)) (k : gw_W l κ cy Z w n1 n2 (pc + 1) lv (va_rf (f j) :: st)) : gw_W l κ cy Z w n1 n2 pc lv (.int i :: .ref a :: st) := by
  subst hi
  exact fun p e s m args below meth c D A Q H locs ls C z hP hD hS hl => va_aldq C.1 C.2.1 C.2.2.2.2.2.2.2.2.1 hP q0 3 ha rfl (vp_in_nI hj hN) hd (by rw [nI_clamp (Nat.lt_trans hj hN)]; exact (k p e s m args below meth c D A Q H locs ls C z hP hD hS hl))
theorem gw_aald4 {a N j : Nat} {f : Nat → Option Nat} {i : Int32} (q0 : Nat) (ha : w[q0]? = some (a, .inl (cy 4, N, .inr (.inr (.inr (.inr f)))))) (hi : i = nI j) (hj : j < N) (hN : N < 2 ^ 31) (hd : decode κ.2.1 pc = .ok (.aaload, 1)) (k : gw_W l κ cy Z w n1 n2 (pc + 1) lv (va_rf (f j) :: st)) : gw_W l κ cy Z w n1 n2 pc lv (.int i :: .ref a :: st) := by
  subst hi
  exact fun p e s m args below meth c D A Q H locs ls C z hP hD hS hl => va_aldq C.1 C.2.1 C.2.2.2.2.2.2.2.2.1 hP q0 4 ha rfl (vp_in_nI hj hN) hd (by rw [nI_clamp (Nat.lt_trans hj hN)]; exact (k p e s m args below meth c D A Q H locs ls C z hP hD hS hl))
theorem gw_iast {a N j : Nat} {f : Nat → Int32} {i : Int32} {x : Int32} (q0 : Nat) (ha : w[q0]? = some (a, .inl (cy 0, N, .inl f))) (hi : i = nI j) (hj : j < N) (hN : N < 2 ^ 31) (hd : decode κ.2.1 pc = .ok (.iastore, 1)) (k : gw_W l κ cy Z (w.set q0 (a, .inl (cy 0, N, .inl (upd f j x)))) n1 n2 (pc + 1) lv st) : gw_W l κ cy Z w n1 n2 pc lv (.int x :: .int i :: .ref a :: st) := by
  subst hi
  exact fun p e s m args below meth c D A Q H locs ls C z hP hD hS hl => va_iast C.1 C.2.1 C.2.2.2.2.2.2.2.2.1 hP hD hS q0 0 ha rfl (vp_in_nI hj hN) hd (by rw [nI_clamp (Nat.lt_trans hj hN)]; exact (fun H1 locs1 hP' hD' hS' => k p e s m args below meth c D A Q H1 locs1 ls C z hP' hD' hS' hl))
theorem gw_last {a N j : Nat} {f : Nat → Int64} {i : Int32} {x : Int64} (q0 : Nat) (ha : w[q0]? = some (a, .inl (cy 1, N, .inr (.inl f)))) (hi : i = nI j) (hj : j < N) (hN : N < 2 ^ 31) (hd : decode κ.2.1 pc = .ok (.lastore, 1)) (k : gw_W l κ cy Z (w.set q0 (a, .inl (cy 1, N, .inr (.inl (vp_updL f j x))))) n1 n2 (pc + 1) lv st) : gw_W l κ cy Z w n1 n2 pc lv (.long x :: .int i :: .ref a :: st) := by
  subst hi
  exact fun p e s m args below meth c D A Q H locs ls C z hP hD hS hl => va_last C.1 C.2.1 C.2.2.2.2.2.2.2.2.1 hP hD hS q0 1 ha rfl (vp_in_nI hj hN) hd (by rw [nI_clamp (Nat.lt_trans hj hN)]; exact (fun H1 locs1 hP' hD' hS' => k p e s m args below meth c D A Q H1 locs1 ls C z hP' hD' hS' hl))
theorem gw_aast2 {a N j v : Nat} {vs : List Value} {f : Nat → Option Nat} {i : Int32} (q0 qk ci : Nat) {r : vw_C} (ha : w[q0]? = some (a, .inl (cy 2, N, .inr (.inr (.inr (.inr f)))))) (hv : w[qk]? = some (v, .inr (ci, vs))) (hc : vwCl[ci]? = some r) (hca : r.1 = RX5 ∨ Cond.castable r.1 RX5 ∈ gw_N) (hi : i = nI j) (hj : j < N) (hN : N < 2 ^ 31) (hd : decode κ.2.1 pc = .ok (.aastore, 1)) (k : gw_W l κ cy Z (w.set q0 (a, .inl (cy 2, N, .inr (.inr (.inr (.inr (va_up f j (some v)))))))) n1 n2 (pc + 1) lv st) : gw_W l κ cy Z w n1 n2 pc lv (.ref v :: .int i :: .ref a :: st) := by
  subst hi
  intro p e s m args below meth c D A Q H locs ls C z hP hD hS hl
  have e1 : (nI j).toNatClampNeg = j := nI_clamp (Nat.lt_trans hj hN)
  rcases hca with hca | hca
  · exact va_astq C.1 C.2.1 C.2.2.2.2.2.2.2.2.1 hP hD hS q0 2 qk ci ha (by rw [hca]; rfl) hv hc (vp_in_nI hj hN) hd (by rw [e1]; exact (fun H1 locs1 hP' hD' hS' => k p e s m args below meth c D A Q H1 locs1 ls C z hP' hD' hS' hl))
  · exact va_astqO C.1 C.2.1 C.2.2.2.2.2.2.2.2.1 hP hD hS q0 2 qk ci ha rfl (C.2.2.2.2.2.2.2.2.2.1.1 _ hca) hv hc (vp_in_nI hj hN) hd (by rw [e1]; exact (fun H1 locs1 hP' hD' hS' => k p e s m args below meth c D A Q H1 locs1 ls C z hP' hD' hS' hl))
theorem gw_aast3 {a N j v : Nat} {vs : List Value} {f : Nat → Option Nat} {i : Int32} (q0 qk ci : Nat) {r : vw_C} (ha : w[q0]? = some (a, .inl (cy 3, N, .inr (.inr (.inr (.inr f)))))) (hv : w[qk]? = some (v, .inr (ci, vs))) (hc : vwCl[ci]? = some r) (hca : r.1 = RX9 ∨ Cond.castable r.1 RX9 ∈ gw_N) (hi : i = nI j) (hj : j < N) (hN : N < 2 ^ 31) (hd : decode κ.2.1 pc = .ok (.aastore, 1)) (k : gw_W l κ cy Z (w.set q0 (a, .inl (cy 3, N, .inr (.inr (.inr (.inr (va_up f j (some v)))))))) n1 n2 (pc + 1) lv st) : gw_W l κ cy Z w n1 n2 pc lv (.ref v :: .int i :: .ref a :: st) := by
  subst hi
  intro p e s m args below meth c D A Q H locs ls C z hP hD hS hl
  have e1 : (nI j).toNatClampNeg = j := nI_clamp (Nat.lt_trans hj hN)
  rcases hca with hca | hca
  · exact va_astq C.1 C.2.1 C.2.2.2.2.2.2.2.2.1 hP hD hS q0 3 qk ci ha (by rw [hca]; rfl) hv hc (vp_in_nI hj hN) hd (by rw [e1]; exact (fun H1 locs1 hP' hD' hS' => k p e s m args below meth c D A Q H1 locs1 ls C z hP' hD' hS' hl))
  · exact va_astqO C.1 C.2.1 C.2.2.2.2.2.2.2.2.1 hP hD hS q0 3 qk ci ha rfl (C.2.2.2.2.2.2.2.2.2.1.1 _ hca) hv hc (vp_in_nI hj hN) hd (by rw [e1]; exact (fun H1 locs1 hP' hD' hS' => k p e s m args below meth c D A Q H1 locs1 ls C z hP' hD' hS' hl))
theorem gw_aast4 {a N j v : Nat} {vs : List Value} {f : Nat → Option Nat} {i : Int32} (q0 qk ci : Nat) {r : vw_C} (ha : w[q0]? = some (a, .inl (cy 4, N, .inr (.inr (.inr (.inr f)))))) (hv : w[qk]? = some (v, .inr (ci, vs))) (hc : vwCl[ci]? = some r) (hca : r.1 = RX10 ∨ Cond.castable r.1 RX10 ∈ gw_N) (hi : i = nI j) (hj : j < N) (hN : N < 2 ^ 31) (hd : decode κ.2.1 pc = .ok (.aastore, 1)) (k : gw_W l κ cy Z (w.set q0 (a, .inl (cy 4, N, .inr (.inr (.inr (.inr (va_up f j (some v)))))))) n1 n2 (pc + 1) lv st) : gw_W l κ cy Z w n1 n2 pc lv (.ref v :: .int i :: .ref a :: st) := by
  subst hi
  intro p e s m args below meth c D A Q H locs ls C z hP hD hS hl
  have e1 : (nI j).toNatClampNeg = j := nI_clamp (Nat.lt_trans hj hN)
  rcases hca with hca | hca
  · exact va_astq C.1 C.2.1 C.2.2.2.2.2.2.2.2.1 hP hD hS q0 4 qk ci ha (by rw [hca]; rfl) hv hc (vp_in_nI hj hN) hd (by rw [e1]; exact (fun H1 locs1 hP' hD' hS' => k p e s m args below meth c D A Q H1 locs1 ls C z hP' hD' hS' hl))
  · exact va_astqO C.1 C.2.1 C.2.2.2.2.2.2.2.2.1 hP hD hS q0 4 qk ci ha rfl (C.2.2.2.2.2.2.2.2.2.1.1 _ hca) hv hc (vp_in_nI hj hN) hd (by rw [e1]; exact (fun H1 locs1 hP' hD' hS' => k p e s m args below meth c D A Q H1 locs1 ls C z hP' hD' hS' hl))
theorem gw_aast2N {a N j : Nat} {f : Nat → Option Nat} {i : Int32} (q0 : Nat) (ha : w[q0]? = some (a, .inl (cy 2, N, .inr (.inr (.inr (.inr f)))))) (hi : i = nI j) (hj : j < N) (hN : N < 2 ^ 31) (hd : decode κ.2.1 pc = .ok (.aastore, 1)) (k : gw_W l κ cy Z (w.set q0 (a, .inl (cy 2, N, .inr (.inr (.inr (.inr (va_up f j none))))))) n1 n2 (pc + 1) lv st) : gw_W l κ cy Z w n1 n2 pc lv (.null :: .int i :: .ref a :: st) := by
  subst hi
  exact fun p e s m args below meth c D A Q H locs ls C z hP hD hS hl => va_astqN C.1 C.2.1 C.2.2.2.2.2.2.2.2.1 hP hD hS q0 2 ha rfl (vp_in_nI hj hN) hd (by rw [nI_clamp (Nat.lt_trans hj hN)]; exact (fun H1 locs1 hP' hD' hS' => k p e s m args below meth c D A Q H1 locs1 ls C z hP' hD' hS' hl))
theorem gw_alen {a t0 : Nat} {cA : ClassId} {x : vp_A} {ty : FieldType} (q0 : Nat) (ha : w[q0]? = some (a, .inl (cA, x))) (ht : (gw_T cy)[t0]? = some (cA, ty)) (hd : decode κ.2.1 pc = .ok (.arraylength, 1)) (k : gw_W l κ cy Z w n1 n2 (pc + 1) lv (.int (nI x.1) :: st)) : gw_W l κ cy Z w n1 n2 pc lv (.ref a :: st) := fun p e s m args below meth c D A Q H locs ls C z hP hD hS hl => va_alen C.1 C.2.1 C.2.2.2.2.2.2.2.2.1 hP q0 t0 ha ht rfl hd (k p e s m args below meth c D A Q H locs ls C z hP hD hS hl)
theorem gw_cls {U : State} {cy : Nat → ClassId} {D : va_G} {cA : ClassId} {ty : FieldType} {t0 : Nat} {cB : ClassId} (hK : va_K D vwCl (gw_T cy) U) (ht : (gw_T cy)[t0]? = some (cB, ty)) (hr : va_RA U cA ty) : cA = cB := by
  have h2 := (hK.2 t0 _ ht).2
  cases ty with
  | object C => exact Option.some.inj (hr.choose_spec.choose_spec.2.2.2.symm.trans h2.choose_spec.choose_spec.2.2.2)
  | _ => exact Option.some.inj (Eq.trans (Eq.symm hr) h2)
theorem gw_lastK {U : State} {cy : Nat → ClassId} {D : va_G} {cA : ClassId} {ty : FieldType} (h : va_K D vwCl (gw_T cy ++ [(cA, ty)]) U) : va_RA U cA ty := (h.2 5 (cA, ty) rfl).2
theorem gw_newI {n : Int32} {N : Nat} (hw : Cond.arrayClass .int ∈ gw_All) (hn : n = nI N) (hN : N < 100000) (h1 : n1 + 1 ≤ κ.2.2.2.1.cells) (h2 : n2 + N ≤ κ.2.2.2.1.slots) (hd : decode κ.2.1 pc = .ok (.newarray .int, 2)) (k : ∀ q : Nat, gw_W l κ cy Z (w ++ [(q, .inl (cy 0, N, .inl (fun _ => 0)))]) (n1 + 1) (n2 + N) (pc + 2) lv (.ref q :: st)) : gw_W l κ cy Z w n1 n2 pc lv (.int n :: st) := by
  subst hn
  intro p e s m args below meth c D A Q H locs ls C z hP hD hS hl
  have e1 : (nI N).toNatClampNeg = N := nI_clamp (by omega)
  refine va_newa (atype := .int) (ty := .int) (N' := N) (a0 := (N, .inl (fun _ => 0))) C.1 C.2.1 (C.2.2.2.2.2.1 _ hw) rfl C.2.2.2.2.2.2.2.2.1 hP hD hS C.2.2.2.2.2.2.2.2.2.2 (fun cA => by rfl) (nI_pos (by omega)) e1 (by simp [componentBytes]; omega) h1 h2 hd (fun q cA H1 hK1 hP1 hD1 hS1 => ?_)
  have hc : cA = cy 0 := gw_cls C.2.2.2.2.2.2.2.2.1 (t0 := 0) rfl (gw_lastK hK1)
  subst hc
  exact k q p e s m args below meth c D A Q H1 locs ls C z hP1 hD1 hS1 hl
theorem gw_newJ {n : Int32} {N : Nat} (hw : Cond.arrayClass .long ∈ gw_All) (hn : n = nI N) (hN : N < 100000) (h1 : n1 + 1 ≤ κ.2.2.2.1.cells) (h2 : n2 + N ≤ κ.2.2.2.1.slots) (hd : decode κ.2.1 pc = .ok (.newarray .long, 2)) (k : ∀ q : Nat, gw_W l κ cy Z (w ++ [(q, .inl (cy 1, N, .inr (.inl (fun _ => 0))))]) (n1 + 1) (n2 + N) (pc + 2) lv (.ref q :: st)) : gw_W l κ cy Z w n1 n2 pc lv (.int n :: st) := by
  subst hn
  intro p e s m args below meth c D A Q H locs ls C z hP hD hS hl
  have e1 : (nI N).toNatClampNeg = N := nI_clamp (by omega)
  refine va_newa (atype := .long) (ty := .long) (N' := N) (a0 := (N, .inr (.inl (fun _ => 0)))) C.1 C.2.1 (C.2.2.2.2.2.1 _ hw) rfl C.2.2.2.2.2.2.2.2.1 hP hD hS C.2.2.2.2.2.2.2.2.2.2 (fun cA => by rfl) (nI_pos (by omega)) e1 (by simp [componentBytes]; omega) h1 h2 hd (fun q cA H1 hK1 hP1 hD1 hS1 => ?_)
  have hc : cA = cy 1 := gw_cls C.2.2.2.2.2.2.2.2.1 (t0 := 1) rfl (gw_lastK hK1)
  subst hc
  exact k q p e s m args below meth c D A Q H1 locs ls C z hP1 hD1 hS1 hl
theorem gw_newA2 {n : Int32} {N index : Nat} (hw : Cond.classLink κ.1.cls index RX5 ∈ gw_All) (hn : n = nI N) (hN : N < 100000) (h1 : n1 + 1 ≤ κ.2.2.2.1.cells) (h2 : n2 + N ≤ κ.2.2.2.1.slots) (hd : decode κ.2.1 pc = .ok (.anewarray index, 3)) (k : ∀ q : Nat, gw_W l κ cy Z (w ++ [(q, .inl (cy 2, N, .inr (.inr (.inr (.inr (fun _ => none))))))]) (n1 + 1) (n2 + N) (pc + 3) lv (.ref q :: st)) : gw_W l κ cy Z w n1 n2 pc lv (.int n :: st) := by
  subst hn
  intro p e s m args below meth c D A Q H locs ls C z hP hD hS hl
  have e1 : (nI N).toNatClampNeg = N := nI_clamp (by omega)
  refine va_newq (N' := N) C.1 C.2.1 C.2.2.2.2.1 (C.2.2.2.2.2.1 _ hw) (C.2.2.2.2.2.2.2.2.2.1.2.1.1) C.2.2.2.2.2.2.2.2.1 hP hD hS C.2.2.2.2.2.2.2.2.2.2 (nI_pos (by omega)) e1 (by omega) h1 h2 hd (fun q cA H1 hK1 hP1 hD1 hS1 => ?_)
  have hc : cA = cy 2 := gw_cls C.2.2.2.2.2.2.2.2.1 (t0 := 2) rfl (gw_lastK hK1)
  subst hc
  exact k q p e s m args below meth c D A Q H1 locs ls C z hP1 hD1 hS1 hl
theorem gw_newA3 {n : Int32} {N index : Nat} (hw : Cond.classLink κ.1.cls index RX9 ∈ gw_All) (hn : n = nI N) (hN : N < 100000) (h1 : n1 + 1 ≤ κ.2.2.2.1.cells) (h2 : n2 + N ≤ κ.2.2.2.1.slots) (hd : decode κ.2.1 pc = .ok (.anewarray index, 3)) (k : ∀ q : Nat, gw_W l κ cy Z (w ++ [(q, .inl (cy 3, N, .inr (.inr (.inr (.inr (fun _ => none))))))]) (n1 + 1) (n2 + N) (pc + 3) lv (.ref q :: st)) : gw_W l κ cy Z w n1 n2 pc lv (.int n :: st) := by
  subst hn
  intro p e s m args below meth c D A Q H locs ls C z hP hD hS hl
  have e1 : (nI N).toNatClampNeg = N := nI_clamp (by omega)
  refine va_newq (N' := N) C.1 C.2.1 C.2.2.2.2.1 (C.2.2.2.2.2.1 _ hw) (C.2.2.2.2.2.2.2.2.2.1.2.1.2.1) C.2.2.2.2.2.2.2.2.1 hP hD hS C.2.2.2.2.2.2.2.2.2.2 (nI_pos (by omega)) e1 (by omega) h1 h2 hd (fun q cA H1 hK1 hP1 hD1 hS1 => ?_)
  have hc : cA = cy 3 := gw_cls C.2.2.2.2.2.2.2.2.1 (t0 := 3) rfl (gw_lastK hK1)
  subst hc
  exact k q p e s m args below meth c D A Q H1 locs ls C z hP1 hD1 hS1 hl
theorem gw_newA4 {n : Int32} {N index : Nat} (hw : Cond.classLink κ.1.cls index RX10 ∈ gw_All) (hn : n = nI N) (hN : N < 100000) (h1 : n1 + 1 ≤ κ.2.2.2.1.cells) (h2 : n2 + N ≤ κ.2.2.2.1.slots) (hd : decode κ.2.1 pc = .ok (.anewarray index, 3)) (k : ∀ q : Nat, gw_W l κ cy Z (w ++ [(q, .inl (cy 4, N, .inr (.inr (.inr (.inr (fun _ => none))))))]) (n1 + 1) (n2 + N) (pc + 3) lv (.ref q :: st)) : gw_W l κ cy Z w n1 n2 pc lv (.int n :: st) := by
  subst hn
  intro p e s m args below meth c D A Q H locs ls C z hP hD hS hl
  have e1 : (nI N).toNatClampNeg = N := nI_clamp (by omega)
  refine va_newq (N' := N) C.1 C.2.1 C.2.2.2.2.1 (C.2.2.2.2.2.1 _ hw) (C.2.2.2.2.2.2.2.2.2.1.2.1.2.2) C.2.2.2.2.2.2.2.2.1 hP hD hS C.2.2.2.2.2.2.2.2.2.2 (nI_pos (by omega)) e1 (by omega) h1 h2 hd (fun q cA H1 hK1 hP1 hD1 hS1 => ?_)
  have hc : cA = cy 4 := gw_cls C.2.2.2.2.2.2.2.2.1 (t0 := 4) rfl (gw_lastK hK1)
  subst hc
  exact k q p e s m args below meth c D A Q H1 locs ls C z hP1 hD1 hS1 hl
theorem gw_new {ci index N : Nat} {C0 : String} {T : u_T} {fs : List Value} (ty : Nat → FieldType) (hty : ∀ k, k < N → parseFieldDescriptor (T k).2.2.1 = some (ty k)) (hc : vwCl[ci]? = some (C0, T, N)) (hin : ∀ x ∈ u_ws C0 T N, x ∈ gw_All) (hcl : Cond.classLink κ.1.cls index C0 ∈ gw_All) (hinst : Cond.instantiable C0 N ∈ gw_All) (hini : Cond.initialized C0 ∈ gw_All) (hfs : ∀ j, j < N → defaultValue (ty j) = vp_V fs j) (h1 : n1 + 1 ≤ κ.2.2.2.1.cells) (h2 : n2 + N ≤ κ.2.2.2.1.slots) (hd : decode κ.2.1 pc = .ok (.new index, 3)) (k : ∀ q : Nat, gw_W l κ cy Z (w ++ [(q, .inr (ci, fs))]) (n1 + 1) (n2 + N) (pc + 3) lv (.ref q :: st)) : gw_W l κ cy Z w n1 n2 pc lv st := fun p e s m args below meth c D A Q H locs ls C z hP hD hS hl => va_new C.1 C.2.1 C.2.2.2.2.2.1 hin ty hty C.2.2.2.2.1 (C.2.2.2.2.2.1 _ hcl) (C.2.2.2.2.2.1 _ hinst) (C.2.2.2.2.2.1 _ hini) C.2.2.2.2.2.2.2.2.1 hP hD hS C.2.2.2.2.2.2.2.2.2.2 hc hfs h1 h2 hd (fun q H1 hP1 hD1 hS1 => k q p e s m args below meth c D A Q H1 locs ls C z hP1 hD1 hS1 hl)
theorem gw_objInit {a index : Nat} (hk : Cond.methodLink κ.1.cls index objectInit ∈ gw_All) (hi : Cond.instanceMethod objectInit ∈ gw_All) (hc : Cond.code objectInit ⟨#[0xb1]⟩ 1 none ∈ gw_All) (hr : 1 ≤ κ.2.2.2.1.frames ∧ (st.map fun v => v.category).sum + 12 ≤ κ.2.2.2.1.locals) (hd : decode κ.2.1 pc = .ok (.invokespecial index, 3)) (k : gw_W l κ cy Z w n1 n2 (pc + 3) lv st) : gw_W l κ cy Z w n1 n2 pc lv (.ref a :: st) := fun p e s m args below meth c D A Q H locs ls C z hP hD hS hl => W.objInit C.1 C.2.1 C.2.2.2.2.1 (C.2.2.2.2.2.1 _ hk) (C.2.2.2.2.2.1 _ hi) (C.2.2.2.2.2.1 _ hc) rfl (hl.1.trans C.2.2.2.1.symm) rfl hd hr.1 (by have := hr.2; simpa [JFrame.monitorRoom] using this) (k p e s m args below meth c D A Q H locs ls C z hP hD hS hl)
theorem gw_mmin {index : Nat} {x y : Int32} (hk : Cond.methodLink κ.1.cls index Lib.Math.min.name ∈ gw_All) (hs : Cond.static Lib.Math.min.name ∈ gw_All) (hi : Cond.initialized "java/lang/Math" ∈ gw_All) (hc : Cond.code Lib.Math.min.name Lib.Math.min.code 2 (some .int) ∈ gw_All) (hr : 1 ≤ κ.2.2.2.1.frames ∧ (st.map fun v => v.category).sum + 13 ≤ κ.2.2.2.1.locals ∧ n1 ≤ κ.2.2.2.1.cells ∧ n2 ≤ κ.2.2.2.1.slots) (hd : decode κ.2.1 pc = .ok (.invokestatic index, 3)) (k : gw_W l κ cy Z w n1 n2 (pc + 3) lv (.int (if y < x then y else x) :: st)) : gw_W l κ cy Z w n1 n2 pc lv (.int y :: .int x :: st) := fun p e s m args below meth c D A Q H locs ls C z hP hD hS hl => va_mmin C.1 C.2.1 (C.2.2.2.1.trans hl.1.symm) C.2.2.2.2.1 (C.2.2.2.2.2.1 _ hk) (C.2.2.2.2.2.1 _ hs) (C.2.2.2.2.2.1 _ hi) (C.2.2.2.2.2.1 _ hc) hr.1 hr.2.1 hr.2.2.1 hr.2.2.2 hd (k p e s m args below meth c D A Q H locs ls C z hP hD hS hl)
theorem gw_mmax {index : Nat} {x y : Int32} (hk : Cond.methodLink κ.1.cls index Lib.Math.max.name ∈ gw_All) (hs : Cond.static Lib.Math.max.name ∈ gw_All) (hi : Cond.initialized "java/lang/Math" ∈ gw_All) (hc : Cond.code Lib.Math.max.name Lib.Math.max.code 2 (some .int) ∈ gw_All) (hr : 1 ≤ κ.2.2.2.1.frames ∧ (st.map fun v => v.category).sum + 13 ≤ κ.2.2.2.1.locals ∧ n1 ≤ κ.2.2.2.1.cells ∧ n2 ≤ κ.2.2.2.1.slots) (hd : decode κ.2.1 pc = .ok (.invokestatic index, 3)) (k : gw_W l κ cy Z w n1 n2 (pc + 3) lv (.int (if x < y then y else x) :: st)) : gw_W l κ cy Z w n1 n2 pc lv (.int y :: .int x :: st) := fun p e s m args below meth c D A Q H locs ls C z hP hD hS hl => va_mmax C.1 C.2.1 (C.2.2.2.1.trans hl.1.symm) C.2.2.2.2.1 (C.2.2.2.2.2.1 _ hk) (C.2.2.2.2.2.1 _ hs) (C.2.2.2.2.2.1 _ hi) (C.2.2.2.2.2.1 _ hc) hr.1 hr.2.1 hr.2.2.1 hr.2.2.2 hd (k p e s m args below meth c D A Q H locs ls C z hP hD hS hl)
theorem gw_mabsL {index : Nat} {x : Int64} (hk : Cond.methodLink κ.1.cls index Lib.MathLoose.abs_long.x ∈ gw_All) (hs : Cond.static Lib.MathLoose.abs_long.x ∈ gw_All) (hi : Cond.initialized "java/lang/Math" ∈ gw_All) (hc : Cond.code Lib.MathLoose.abs_long.x Lib.MathLoose.abs_long.code 2 (some .long) ∈ gw_All) (hr : 1 ≤ κ.2.2.2.1.frames ∧ (st.map fun v => v.category).sum + 13 ≤ κ.2.2.2.1.locals ∧ n1 ≤ κ.2.2.2.1.cells ∧ n2 ≤ κ.2.2.2.1.slots) (hd : decode κ.2.1 pc = .ok (.invokestatic index, 3)) (k : gw_W l κ cy Z w n1 n2 (pc + 3) lv (.long (if 0 < x then x else -x) :: st)) : gw_W l κ cy Z w n1 n2 pc lv (.long x :: st) := fun p e s m args below meth c D A Q H locs ls C z hP hD hS hl => va_mabs_long C.1 C.2.1 (C.2.2.2.1.trans hl.1.symm) C.2.2.2.2.1 (C.2.2.2.2.2.1 _ hk) (C.2.2.2.2.2.1 _ hs) (C.2.2.2.2.2.1 _ hi) (C.2.2.2.2.2.1 _ hc) hr.1 hr.2.1 hr.2.2.1 hr.2.2.2 hd (k p e s m args below meth c D A Q H locs ls C z hP hD hS hl)
theorem gw_copyI {index a0 a1 N0 N1 sp dp n : Nat} {isp idp inn : Int32} {f g : Nat → Int32} (hk : Cond.methodLink κ.1.cls index arraycopyName ∈ gw_All) (hna : Cond.native arraycopyName ∈ gw_All) (hs : Cond.static arraycopyName ∈ gw_All) (hi : Cond.initialized "java/lang/System" ∈ gw_All) (q0 q1 : Nat) (ha0 : w[q0]? = some (a0, .inl (cy 0, N0, .inl f))) (ha1 : w[q1]? = some (a1, .inl (cy 0, N1, .inl g))) (e1 : isp = nI sp) (e2 : idp = nI dp) (e3 : inn = nI n) (h4 : sp + n ≤ N0) (h5 : dp + n ≤ N1) (hN : N0 < 2 ^ 31 ∧ N1 < 2 ^ 31) (hr : 1 ≤ κ.2.2.2.1.frames ∧ (st.map fun v => v.category).sum + (nativeFrameWords "java/lang/System" "arraycopy" 5 + 11) ≤ κ.2.2.2.1.locals) (hd : decode κ.2.1 pc = .ok (.invokestatic index, 3)) (k : gw_W l κ cy Z (w.set q1 (a1, .inl (cy 0, N1, .inl (va_cpy f g sp dp n)))) n1 n2 (pc + 3) lv st) : gw_W l κ cy Z w n1 n2 pc lv (.int inn :: .int idp :: .ref a1 :: .int isp :: .ref a0 :: st) := by
  subst e1 e2 e3
  intro p e s m args below meth c D A Q H locs ls C z hP hD hS hl
  have c1 : (nI sp).toNatClampNeg = sp := nI_clamp (by omega)
  have c2 : (nI dp).toNatClampNeg = dp := nI_clamp (by omega)
  have c3 : (nI n).toNatClampNeg = n := nI_clamp (by omega)
  refine va_copyi C.1 C.2.1 (C.2.2.2.1.trans hl.1.symm) C.2.2.2.2.1 (C.2.2.2.2.2.1 _ hk) (C.2.2.2.2.2.1 _ hna) (C.2.2.2.2.2.1 _ hs) (C.2.2.2.2.2.1 _ hi) C.2.2.2.2.2.2.2.2.1 hP hD hS q0 q1 0 0 ha0 ha1 rfl rfl rfl (nI_pos (by omega)) (nI_pos (by omega)) (nI_pos (by omega)) (by rw [c1, c3]; exact h4) (by rw [c2, c3]; exact h5) (fun i _ => rfl) hr.1 hr.2 hd ?_
  rw [c1, c2, c3]
  exact (fun H1 locs1 hP' hD' hS' => k p e s m args below meth c D A Q H1 locs1 ls C z hP' hD' hS' hl)
theorem gw_copyJ {index a0 a1 N0 N1 sp dp n : Nat} {isp idp inn : Int32} {f g : Nat → Int64} (hk : Cond.methodLink κ.1.cls index arraycopyName ∈ gw_All) (hna : Cond.native arraycopyName ∈ gw_All) (hs : Cond.static arraycopyName ∈ gw_All) (hi : Cond.initialized "java/lang/System" ∈ gw_All) (q0 q1 : Nat) (ha0 : w[q0]? = some (a0, .inl (cy 1, N0, .inr (.inl f)))) (ha1 : w[q1]? = some (a1, .inl (cy 1, N1, .inr (.inl g)))) (e1 : isp = nI sp) (e2 : idp = nI dp) (e3 : inn = nI n) (h4 : sp + n ≤ N0) (h5 : dp + n ≤ N1) (hN : N0 < 2 ^ 31 ∧ N1 < 2 ^ 31) (hr : 1 ≤ κ.2.2.2.1.frames ∧ (st.map fun v => v.category).sum + (nativeFrameWords "java/lang/System" "arraycopy" 5 + 11) ≤ κ.2.2.2.1.locals) (hd : decode κ.2.1 pc = .ok (.invokestatic index, 3)) (k : gw_W l κ cy Z (w.set q1 (a1, .inl (cy 1, N1, .inr (.inl (va_cpy f g sp dp n))))) n1 n2 (pc + 3) lv st) : gw_W l κ cy Z w n1 n2 pc lv (.int inn :: .int idp :: .ref a1 :: .int isp :: .ref a0 :: st) := by
  subst e1 e2 e3
  intro p e s m args below meth c D A Q H locs ls C z hP hD hS hl
  have c1 : (nI sp).toNatClampNeg = sp := nI_clamp (by omega)
  have c2 : (nI dp).toNatClampNeg = dp := nI_clamp (by omega)
  have c3 : (nI n).toNatClampNeg = n := nI_clamp (by omega)
  refine va_copyl C.1 C.2.1 (C.2.2.2.1.trans hl.1.symm) C.2.2.2.2.1 (C.2.2.2.2.2.1 _ hk) (C.2.2.2.2.2.1 _ hna) (C.2.2.2.2.2.1 _ hs) (C.2.2.2.2.2.1 _ hi) C.2.2.2.2.2.2.2.2.1 hP hD hS q0 q1 1 1 ha0 ha1 rfl rfl rfl (nI_pos (by omega)) (nI_pos (by omega)) (nI_pos (by omega)) (by rw [c1, c3]; exact h4) (by rw [c2, c3]; exact h5) (fun i _ => rfl) hr.1 hr.2 hd ?_
  rw [c1, c2, c3]
  exact (fun H1 locs1 hP' hD' hS' => k p e s m args below meth c D A Q H1 locs1 ls C z hP' hD' hS' hl)
theorem gw_iret {v : Int32} {post : gw_Q} (hq : post (some (.int v)) w) (h1 : n1 ≤ κ.2.2.2.1.cells) (h2 : n2 ≤ κ.2.2.2.1.slots) (hr : κ.2.2.2.2 = some .int) (hd : decode κ.2.1 pc = .ok (.ireturn, 1)) : gw_W l κ cy (gw_R κ post) w n1 n2 pc lv [.int v] := fun p e s m args below meth c D A Q H locs ls C z hP hD hS hl => by
  subst z
  exact W.widen h1 h2 (W.iret C.1 C.2.1 (C.2.2.1.trans hr) (fun t ht hW => ⟨⟨_, w, rfl, hq, by rw [ht]; exact hP, hD⟩, hS.F ht⟩) hS.2.2 hd C.2.2.2.2.2.2.1)
theorem gw_zret {v : Int32} {post : gw_Q} (hq : post (some (.int v)) w) (h1 : n1 ≤ κ.2.2.2.1.cells) (h2 : n2 ≤ κ.2.2.2.1.slots) (hr : κ.2.2.2.2 = some .boolean) (hn : narrow .boolean (.int v) = .int v) (hd : decode κ.2.1 pc = .ok (.ireturn, 1)) : gw_W l κ cy (gw_R κ post) w n1 n2 pc lv [.int v] := fun p e s m args below meth c D A Q H locs ls C z hP hD hS hl => by
  subst z
  exact W.widen h1 h2 (W.zret C.1 C.2.1 (C.2.2.1.trans hr) hn (fun t ht hW => ⟨⟨_, w, rfl, hq, by rw [ht]; exact hP, hD⟩, hS.F ht⟩) hS.2.2 hd C.2.2.2.2.2.2.1)
theorem gw_lret {v : Int64} {post : gw_Q} (hq : post (some (.long v)) w) (h1 : n1 ≤ κ.2.2.2.1.cells) (h2 : n2 ≤ κ.2.2.2.1.slots) (hr : κ.2.2.2.2 = some .long) (hd : decode κ.2.1 pc = .ok (.lreturn, 1)) : gw_W l κ cy (gw_R κ post) w n1 n2 pc lv [.long v] := fun p e s m args below meth c D A Q H locs ls C z hP hD hS hl => by
  subst z
  exact W.widen h1 h2 (W.lret C.1 C.2.1 (C.2.2.1.trans hr) (fun t ht hW => ⟨⟨_, w, rfl, hq, by rw [ht]; exact hP, hD⟩, hS.F ht⟩) hS.2.2 hd C.2.2.2.2.2.2.1)
theorem gw_aret {o : Option Nat} {Cn : String} {post : gw_Q} (hq : post (some (va_rf o)) w) (h1 : n1 ≤ κ.2.2.2.1.cells) (h2 : n2 ≤ κ.2.2.2.1.slots) (hr : κ.2.2.2.2 = some (.object Cn)) (hd : decode κ.2.1 pc = .ok (.areturn, 1)) : gw_W l κ cy (gw_R κ post) w n1 n2 pc lv [va_rf o] := fun p e s m args below meth c D A Q H locs ls C z hP hD hS hl => by
  subst z
  exact W.widen h1 h2 (W.aret C.1 C.2.1 (C.2.2.1.trans hr) (Or.inl ⟨_, rfl⟩) (va_rf_or o) (fun t ht hW => ⟨⟨_, w, rfl, hq, by rw [ht]; exact hP, hD⟩, hS.F ht⟩) hS.2.2 hd C.2.2.2.2.2.2.1)
theorem gw_vret {post : gw_Q} (hq : post none w) (h1 : n1 ≤ κ.2.2.2.1.cells) (h2 : n2 ≤ κ.2.2.2.1.slots) (hr : κ.2.2.2.2 = none) (hd : decode κ.2.1 pc = .ok (.return_, 1)) : gw_W l κ cy (gw_R κ post) w n1 n2 pc lv [] := fun p e s m args below meth c D A Q H locs ls C z hP hD hS hl => by
  subst z
  exact W.widen h1 h2 (W.vret C.1 C.2.1 (C.2.2.1.trans hr) (fun t ht hW => ⟨⟨_, w, rfl, hq, by rw [ht]; exact hP, hD⟩, hS.F ht⟩) hS.2.2 hd C.2.2.2.2.2.2.1)
end GWH
end
section
/-! calls by contract, the frame rule, worlds in another order -/
theorem gw_P_iff {D : va_G} {cl : List vw_C} {w : va_W} {H : Heap} : va_P D cl w H ↔ ∀ q ∈ w, va_at D cl q H := by
  constructor
  · intro h q hq
    obtain ⟨k, hk⟩ := List.getElem?_of_mem hq
    exact h k q hk
  · intro h k q hk
    exact h q (List.mem_of_getElem? hk)
theorem gw_D_iff {A : Nat → Prop} {w : va_W} : va_D A w ↔ (w.map (·.1)).Nodup ∧ ∀ q ∈ w, A q.1 := by
  constructor
  · intro h
    refine ⟨?_, fun q hq => ?_⟩
    · rw [List.nodup_iff_pairwise_ne, List.pairwise_iff_getElem]
      intro i j hi hj hij e
      simp only [List.length_map] at hi hj
      simp only [List.getElem_map] at e
      have := h.1 i j w[i] w[j] (List.getElem?_eq_getElem hi) (List.getElem?_eq_getElem hj) e
      omega
    · obtain ⟨k, hk⟩ := List.getElem?_of_mem hq
      exact h.2 k q hk
  · rintro ⟨h1, h2⟩
    refine ⟨fun i j p q hp hq e => ?_, fun k q hk => h2 q (List.mem_of_getElem? hk)⟩
    rw [List.nodup_iff_pairwise_ne, List.pairwise_iff_getElem] at h1
    obtain ⟨hi, ei⟩ := List.getElem?_eq_some_iff.mp hp
    obtain ⟨hj, ej⟩ := List.getElem?_eq_some_iff.mp hq
    by_cases hij : i = j
    · exact hij
    · exfalso
      rcases Nat.lt_or_gt_of_ne hij with g | g
      · exact h1 i j (by simpa using hi) (by simpa using hj) g (by simp only [List.getElem_map, ei, ej]; exact e)
      · exact h1 j i (by simpa using hj) (by simpa using hi) g (by simp only [List.getElem_map, ei, ej]; exact e.symm)
theorem gw_P_perm {D : va_G} {cl : List vw_C} {w w' : va_W} {H : Heap} (h : w.Perm w') (hP : va_P D cl w H) : va_P D cl w' H := gw_P_iff.mpr fun q hq => gw_P_iff.mp hP q (h.mem_iff.mpr hq)
theorem gw_D_perm {A : Nat → Prop} {w w' : va_W} (h : w.Perm w') (hD : va_D A w) : va_D A w' := by
  rw [gw_D_iff] at hD ⊢
  exact ⟨(h.map (·.1)).nodup_iff.mp hD.1, fun q hq => hD.2 q (h.mem_iff.mpr hq)⟩
section GWC
variable {l : Launch} {κ : gw_K} {cy : Nat → ClassId} {Z : gw_Z} {w : va_W} {n1 n2 pc : Nat} {lv : List (Option Value)} {st : List Value}
theorem gw_W.perm {w' : va_W} (h : w.Perm w') (k : gw_W l κ cy Z w' n1 n2 pc lv st) : gw_W l κ cy Z w n1 n2 pc lv st := fun p e s m args below meth c D A Q H locs ls C z hP hD hS hl => k p e s m args below meth c D A Q H locs ls C z (gw_P_perm h hP) (gw_D_perm h hD) hS hl
theorem gw_A_perm {w w' : va_W} (h : w.Perm w') {sz q : Nat} (ha : va_A w sz q) : va_A w' sz q := by
  rcases ha with ⟨k, e, hk⟩ | ha
  · obtain ⟨j, hj⟩ := List.getElem?_of_mem (h.mem_iff.mp (List.mem_of_getElem? hk))
    exact Or.inl ⟨j, e, hj⟩
  · exact Or.inr ha
theorem gw_at_kept {D : va_G} {cl : List vw_C} {q : Nat × va_E} {H H1 : Heap} (h : va_at D cl q H) (hk : H1[q.1]? = H[q.1]?) : va_at D cl q H1 := va_at.kept h hk
/-- THE FRAME: a contract in a larger world: what is beside it stays -/
theorem gw_M.frame {av : List Value} {post : gw_Q} {f w2 : va_W} (h : gw_M l κ cy av w post) (hw : w2.Perm (w ++ f)) : gw_M l κ cy av w2 (fun r w' => ∃ w1, post r w1 ∧ w' = w1 ++ f) := by
  intro D sz p e ha hc hk s m args below hf hap hP hK
  obtain ⟨e1, e2, hP2, hK2, hE2, hD2⟩ := hP
  have hP3 := gw_P_iff.mp (gw_P_perm hw hP2)
  have hD3 := gw_D_iff.mp (gw_D_perm hw hD2)
  obtain ⟨n, o, g1, g2, g3, g4, L, g5, g6⟩ := h D sz p e ha hc hk s m args below hf hap ⟨e1, e2, gw_P_iff.mpr fun q hq => hP3 q (List.mem_append_left _ hq), hK2, hE2, gw_D_iff.mpr ⟨by
    have := hD3.1
    rw [List.map_append] at this
    exact (List.nodup_append.mp this).1, fun _ _ => trivial⟩⟩ hK
  have hA : ∀ q, va_A w sz q → va_A w2 sz q := fun q hq => gw_A_perm hw.symm (by
    rcases hq with ⟨k, e, hk⟩ | hq
    · exact Or.inl ⟨k, e, by rw [List.getElem?_append_left (List.getElem?_eq_some_iff.mp hk).1]; exact hk⟩
    · exact Or.inr hq)
  have hfr : ∀ q ∈ f, q.1 < s.heap.size ∧ ¬ va_A w sz q.1 := by
    intro q hq
    have hat := hP3 q (List.mem_append_right _ hq)
    have hlt := va_at.lt hat
    refine ⟨hlt, fun hn => ?_⟩
    rcases hn with ⟨k, e, hk⟩ | hn
    · have hnd := hD3.1
      rw [List.map_append] at hnd
      exact (List.nodup_append.mp hnd).2.2 q.1 (List.mem_map.mpr ⟨(q.1, e), List.mem_of_getElem? hk, rfl⟩) q.1 (List.mem_map.mpr ⟨q, hq, rfl⟩) rfl
    · omega
  refine ⟨n, o, g1, g2, g3, ?_, L, g5, fun q hq => hA _ (g6 q hq)⟩
  obtain ⟨⟨r, w1, h1, h2, h3, h4⟩, h5, h6⟩ := g4
  refine ⟨⟨r, w1 ++ f, h1, ⟨w1, h2, rfl⟩, gw_P_iff.mpr fun q hq => ?_, gw_D_iff.mpr ⟨?_, fun q hq => ?_⟩⟩, h5, fun q hq hn => h6 q hq (fun z => hn (hA q z))⟩
  · rcases List.mem_append.mp hq with hq | hq
    · exact gw_P_iff.mp h3 q hq
    · exact gw_at_kept (hP3 q (List.mem_append_right _ hq)) (h6 q.1 (hfr q hq).1 (hfr q hq).2)
  · rw [List.map_append, List.nodup_append]
    have hnd := hD3.1
    rw [List.map_append] at hnd
    refine ⟨(gw_D_iff.mp h4).1, (List.nodup_append.mp hnd).2.1, fun a ha b hb e => ?_⟩
    obtain ⟨x, hx, rfl⟩ := List.mem_map.mp ha
    obtain ⟨y, hy, rfl⟩ := List.mem_map.mp hb
    exact (hfr y hy).2 (e ▸ (gw_D_iff.mp h4).2 x hx)
  · rcases List.mem_append.mp hq with hq | hq
    · exact hA _ ((gw_D_iff.mp h4).2 q hq)
    · exact gw_A_perm hw.symm (Or.inl (by
        obtain ⟨k, hk⟩ := List.getElem?_of_mem (List.mem_append_right w hq)
        exact ⟨k, q.2, hk⟩))
/-- a contract says less -/
theorem gw_M.less {av : List Value} {post post' : gw_Q} (h : gw_M l κ cy av w post) (hp : ∀ r w', post r w' → post' r w') : gw_M l κ cy av w post' := by
  intro D sz p e ha hc hk s m args below hf hap hP hK
  obtain ⟨n, o, g1, g2, g3, ⟨⟨r, w1, h1, h2, h3⟩, h5⟩, g6⟩ := h D sz p e ha hc hk s m args below hf hap hP hK
  exact ⟨n, o, g1, g2, g3, ⟨⟨r, w1, h1, hp _ _ h2, h3⟩, h5⟩, g6⟩
theorem gw_go {p : Program} {e : Env} {R : Room} {s : State} {m : MethodId} {args : Array Value} {below : List Frame} {meth : Method} {c : Code} {D : va_G} {A : Nat → Prop} {Q : State → Prop} {H : Heap} {locs : List Loc} {ls : Array Slot} {post : gw_Q} {mc ms : Nat} {a : Array Value} {stk : List Value}
    (hr : va_Run p l e R s m args below meth c H locs n1 n2 mc ms (F0 m pc ls stk) st (gw_Qc D (va_A w H.size) post a) (va_A w H.size)) (hS : va_S A s.heap H locs) (hD : va_D A w) (hA : ∀ q, s.heap.size ≤ q → A q)
    (kk : ∀ (r : Option Value) (w' : va_W) (H1 : Heap) (locs1 : List Loc), post r w' → va_P D vwCl w' H1 → va_D A w' → va_S A s.heap H1 locs1 → W p l e R s m args below meth c H1 locs1 (n1 + mc) (n2 + ms) Q (F0 m (pc + 3) ls (r.toList ++ st))) : W p l e R s m args below meth c H locs n1 n2 Q (F0 m pc ls stk) := by
  intro T hT X
  obtain ⟨v, st₀, t, T', L, h0, X', hL, e1, e2, ⟨⟨r, w', hv, hp, hP', hD'⟩, hz, hk⟩, stp⟩ := hr T hT X
  cases hv
  rw [h0] at hz hk
  have hAA : ∀ q, va_A w H.size q → A q := fun q h => by
    rcases h with ⟨k, e, h⟩ | h
    · exact hD.2 k (q, e) h
    · exact hA q (Nat.le_trans hS.1 h)
  obtain ⟨t2, a1, b1⟩ := kk _ w' T'.heap (locs ++ L) hp (by rw [e1]; exact hP') (hD'.weaken (fun _ q _ h => hAA _ h))
    ⟨Nat.le_trans hS.1 (by rw [e1]; exact hz), fun q h1 h2 => by rw [e1, hk q (Nat.lt_of_lt_of_le h1 hS.1) (fun z => h2 (hAA q z))]; exact hS.2.1 q h1 h2, fun q hq => by
      rcases List.mem_append.mp hq with h | h
      · exact hS.2.2 q h
      · exact hAA _ (hL q h)⟩ T' rfl X'
  exact ⟨t2, stp t2 a1, b1⟩
/-- what a caller knows of a callee: its words, its arguments' number -/
abbrev gw_desc (κ' : gw_K) (n : Nat) : Prop := κ'.1.cls ≠ "java/lang/invoke/MethodHandle" ∧ κ'.1.cls ≠ "java/lang/invoke/VarHandle" ∧ (parseMethodDescriptor κ'.1.desc).map (fun d => d.parameters.length) = some n
def gw_calB (κ' : gw_K) (n : Nat) : Prop := Cond.code κ'.1 κ'.2.1 κ'.2.2.1 κ'.2.2.2.2 ∈ gw_All ∧ Cond.initialized κ'.1.cls ∈ gw_All ∧ gw_desc κ' n
def gw_calV (κ' : gw_K) (n : Nat) : Prop := gw_calB κ' n ∧ Cond.instanceMethod κ'.1 ∈ gw_All ∧ Cond.selects κ'.1.cls κ'.1 κ'.1 ∈ gw_All
def gw_calS (κ' : gw_K) (n : Nat) : Prop := gw_calB κ' n ∧ Cond.static κ'.1 ∈ gw_All
def gw_calI (κ' : gw_K) (n : Nat) : Prop := gw_calB κ' n ∧ Cond.instanceMethod κ'.1 ∈ gw_All ∧ κ'.1.name = "<init>" ∧ κ'.2.2.2.2 = none
theorem gw_goodws {κ' : gw_K} (h : Cond.code κ'.1 κ'.2.1 κ'.2.2.1 κ'.2.2.2.2 ∈ gw_All) : GoodIn gw_All (gw_ws κ') := fun w hw => by
  rcases List.mem_cons.mp hw with e | hw
  · rw [e]; exact ⟨h, good_of_word (List.mem_filter.mp h).2⟩
  · exact ⟨hw, good_of_word (List.mem_filter.mp hw).2⟩
theorem gw_blind {av : List Value} {D : va_G} {sz : Nat} : FrameBlind (va_Pc av (fun U => U.heap.size = sz ∧ va_P D vwCl w U.heap ∧ va_K D vwCl (gw_T cy) U ∧ gw_E U ∧ va_D (fun _ => True) w)) := fun a U g mk q => by
  obtain ⟨q0, q1, qP, qK, qE, qD⟩ := q
  exact ⟨q0, q1, qP, va_K.moved (u := U) (U := U.calling g mk a) (Vm.Alike.refl U.vm) qK, gw_E.same (s := U) rfl qE, qD⟩
theorem gw_preS {s : State} {H : Heap} {av : List Value} {D : va_G} {A : Nat → Prop} (hP : va_P D vwCl w H) (hK : va_K D vwCl (gw_T cy) s) (hE : gw_E s) (hD : va_D A w) : PreS s H (va_Pc av (fun U => U.heap.size = H.size ∧ va_P D vwCl w U.heap ∧ va_K D vwCl (gw_T cy) U ∧ gw_E U ∧ va_D (fun _ => True) w)) av :=
  ⟨gw_blind, fun U hU hW => ⟨rfl, by rw [hU], by rw [hU]; exact hP, va_K.moved hW.alike hK, gw_E.warm hW hE, hD.weaken (fun _ _ _ _ => trivial)⟩⟩
theorem gw_callV {κ' : gw_K} {index n : Nat} {As stk : List Value} {post : gw_Q} {b ci : Nat} {q : vw_C} {fs : List Value} (q0 : Nat) (hM : gw_M l κ' cy (.ref b :: As) w post) (hc : gw_calV κ' n) (he : w[q0]? = some (b, .inr (ci, fs))) (hq : vwCl[ci]? = some q) (hC : q.1 = κ'.1.cls) (hk : Cond.methodLink κ.1.cls index κ'.1 ∈ gw_All) (hn : As.length = n) (hs : stk = As.reverse ++ .ref b :: st) (hd : decode κ.2.1 pc = .ok (.invokevirtual index, 3)) (hR : κ'.2.2.2.1.frames + 1 ≤ κ.2.2.2.1.frames ∧ 8 + (κ'.2.2.1 + 11) + κ'.2.2.2.1.locals ≤ κ.2.2.2.1.locals) (hf : n1 + κ'.2.2.2.1.cells ≤ κ.2.2.2.1.cells ∧ n2 + κ'.2.2.2.1.slots ≤ κ.2.2.2.1.slots) (hr : (st.map fun v => v.category).sum ≤ 8) (k : ∀ (r : Option Value) (w' : va_W), post r w' → gw_W l κ cy Z w' (n1 + κ'.2.2.2.1.cells) (n2 + κ'.2.2.2.1.slots) (pc + 3) lv (r.toList ++ st)) : gw_W l κ cy Z w n1 n2 pc lv stk := by
  intro p e s m args below meth c D A Q H locs ls C z hP hD hS hl
  have hrc := va_recv C.2.2.2.2.2.2.2.2.1 hP hq he
  rw [hC] at hrc
  have hpre := gw_preS (av := .ref b :: As) hP C.2.2.2.2.2.2.2.2.1 C.2.2.2.2.2.2.2.2.2.1 hD
  exact gw_go (va_runV (As := As) (rest := st) ⟨C.1, C.2.1, C.2.2.2.1, C.2.2.2.2.1, C.2.2.2.2.2.1⟩ (hM D H.size) ⟨(callB_of n C.2.2.2.2.2.1 (gw_goodws hc.1.1) rfl rfl rfl (C.2.2.2.2.2.1 _ hc.1.2.1) (C.2.2.2.2.2.1 _ hk) hc.1.2.2 hR), C.2.2.2.2.2.1 _ hc.2.1, C.2.2.2.2.2.1 _ hc.2.2⟩ ⟨hpre.1, hrc, hpre.2⟩ rfl hn hl.1 hs (lv_room hr) hd hf) hS hD C.2.2.2.2.2.2.2.2.2.2 (fun r w' H1 locs1 hp hP1 hD1 hS1 => k r w' hp p e s m args below meth c D A Q H1 locs1 ls C z hP1 hD1 hS1 hl)
theorem gw_callVN {κ' : gw_K} {index n : Nat} {As stk : List Value} {post : gw_Q} {b ci : Nat} {q : vw_C} {fs : List Value} (q0 : Nat) (hM : gw_M l κ' cy (.ref b :: As) w post) (hc : gw_calV κ' n) (he : w[q0]? = some (b, .inr (ci, fs))) (hq : vwCl[ci]? = some q) (hC : q.1 = κ'.1.cls) {host : String} (hk : Cond.methodLinkNest κ.1.cls index κ'.1 host ∈ gw_N) (hn : As.length = n) (hs : stk = As.reverse ++ .ref b :: st) (hd : decode κ.2.1 pc = .ok (.invokevirtual index, 3)) (hR : κ'.2.2.2.1.frames + 1 ≤ κ.2.2.2.1.frames ∧ 8 + (κ'.2.2.1 + 11) + κ'.2.2.2.1.locals ≤ κ.2.2.2.1.locals) (hf : n1 + κ'.2.2.2.1.cells ≤ κ.2.2.2.1.cells ∧ n2 + κ'.2.2.2.1.slots ≤ κ.2.2.2.1.slots) (hr : (st.map fun v => v.category).sum ≤ 8) (k : ∀ (r : Option Value) (w' : va_W), post r w' → gw_W l κ cy Z w' (n1 + κ'.2.2.2.1.cells) (n2 + κ'.2.2.2.1.slots) (pc + 3) lv (r.toList ++ st)) : gw_W l κ cy Z w n1 n2 pc lv stk := by
  intro p e s m args below meth c D A Q H locs ls C z hP hD hS hl
  have hrc := va_recv C.2.2.2.2.2.2.2.2.1 hP hq he
  rw [hC] at hrc
  have hpre := gw_preS (av := .ref b :: As) hP C.2.2.2.2.2.2.2.2.1 C.2.2.2.2.2.2.2.2.2.1 hD
  exact gw_go (va_runVN (As := As) (rest := st) ⟨C.1, C.2.1, C.2.2.2.1, C.2.2.2.2.1, C.2.2.2.2.2.1⟩ (hM D H.size) ⟨(va_cnB n C.2.2.2.2.2.1 (gw_goodws hc.1.1) rfl rfl rfl (C.2.2.2.2.2.2.2.2.2.1.1 _ hk) (C.2.2.2.2.2.1 _ hc.1.2.1) hc.1.2.2 hR), C.2.2.2.2.2.1 _ hc.2.1, C.2.2.2.2.2.1 _ hc.2.2⟩ ⟨hpre.1, hrc, hpre.2⟩ rfl hn hl.1 hs (lv_room hr) hd hf) hS hD C.2.2.2.2.2.2.2.2.2.2 (fun r w' H1 locs1 hp hP1 hD1 hS1 => k r w' hp p e s m args below meth c D A Q H1 locs1 ls C z hP1 hD1 hS1 hl)
theorem gw_callS {κ' : gw_K} {index n : Nat} {As stk : List Value} {post : gw_Q} (hM : gw_M l κ' cy As w post) (hc : gw_calS κ' n) (hk : Cond.methodLink κ.1.cls index κ'.1 ∈ gw_All) (hn : As.length = n) (hs : stk = As.reverse ++ st) (hd : decode κ.2.1 pc = .ok (.invokestatic index, 3)) (hR : κ'.2.2.2.1.frames + 1 ≤ κ.2.2.2.1.frames ∧ 8 + (κ'.2.2.1 + 11) + κ'.2.2.2.1.locals ≤ κ.2.2.2.1.locals) (hf : n1 + κ'.2.2.2.1.cells ≤ κ.2.2.2.1.cells ∧ n2 + κ'.2.2.2.1.slots ≤ κ.2.2.2.1.slots) (hr : (st.map fun v => v.category).sum ≤ 8) (k : ∀ (r : Option Value) (w' : va_W), post r w' → gw_W l κ cy Z w' (n1 + κ'.2.2.2.1.cells) (n2 + κ'.2.2.2.1.slots) (pc + 3) lv (r.toList ++ st)) : gw_W l κ cy Z w n1 n2 pc lv stk := by
  intro p e s m args below meth c D A Q H locs ls C z hP hD hS hl
  have hpre := gw_preS (av := As) hP C.2.2.2.2.2.2.2.2.1 C.2.2.2.2.2.2.2.2.2.1 hD
  exact gw_go (va_runS (As := As) (rest := st) ⟨C.1, C.2.1, C.2.2.2.1, C.2.2.2.2.1, C.2.2.2.2.2.1⟩ (hM D H.size) ⟨(callB_of n C.2.2.2.2.2.1 (gw_goodws hc.1.1) rfl rfl rfl (C.2.2.2.2.2.1 _ hc.1.2.1) (C.2.2.2.2.2.1 _ hk) hc.1.2.2 hR), C.2.2.2.2.2.1 _ hc.2⟩ hpre rfl hn hl.1 hs (lv_room hr) hd hf) hS hD C.2.2.2.2.2.2.2.2.2.2 (fun r w' H1 locs1 hp hP1 hD1 hS1 => k r w' hp p e s m args below meth c D A Q H1 locs1 ls C z hP1 hD1 hS1 hl)
theorem gw_callSN {κ' : gw_K} {index n : Nat} {As stk : List Value} {post : gw_Q} (hM : gw_M l κ' cy As w post) (hc : gw_calS κ' n) {host : String} (hk : Cond.methodLinkNest κ.1.cls index κ'.1 host ∈ gw_N) (hn : As.length = n) (hs : stk = As.reverse ++ st) (hd : decode κ.2.1 pc = .ok (.invokestatic index, 3)) (hR : κ'.2.2.2.1.frames + 1 ≤ κ.2.2.2.1.frames ∧ 8 + (κ'.2.2.1 + 11) + κ'.2.2.2.1.locals ≤ κ.2.2.2.1.locals) (hf : n1 + κ'.2.2.2.1.cells ≤ κ.2.2.2.1.cells ∧ n2 + κ'.2.2.2.1.slots ≤ κ.2.2.2.1.slots) (hr : (st.map fun v => v.category).sum ≤ 8) (k : ∀ (r : Option Value) (w' : va_W), post r w' → gw_W l κ cy Z w' (n1 + κ'.2.2.2.1.cells) (n2 + κ'.2.2.2.1.slots) (pc + 3) lv (r.toList ++ st)) : gw_W l κ cy Z w n1 n2 pc lv stk := by
  intro p e s m args below meth c D A Q H locs ls C z hP hD hS hl
  have hpre := gw_preS (av := As) hP C.2.2.2.2.2.2.2.2.1 C.2.2.2.2.2.2.2.2.2.1 hD
  exact gw_go (va_runSN (As := As) (rest := st) ⟨C.1, C.2.1, C.2.2.2.1, C.2.2.2.2.1, C.2.2.2.2.2.1⟩ (hM D H.size) ⟨(va_cnB n C.2.2.2.2.2.1 (gw_goodws hc.1.1) rfl rfl rfl (C.2.2.2.2.2.2.2.2.2.1.1 _ hk) (C.2.2.2.2.2.1 _ hc.1.2.1) hc.1.2.2 hR), C.2.2.2.2.2.1 _ hc.2, trivial⟩ hpre rfl hn hl.1 hs (lv_room hr) hd hf) hS hD C.2.2.2.2.2.2.2.2.2.2 (fun r w' H1 locs1 hp hP1 hD1 hS1 => k r w' hp p e s m args below meth c D A Q H1 locs1 ls C z hP1 hD1 hS1 hl)
theorem gw_callI {κ' : gw_K} {index n : Nat} {As stk : List Value} {post : gw_Q} {b : Nat} (hM : gw_M l κ' cy (.ref b :: As) w post) (hc : gw_calI κ' n) (hk : Cond.methodLink κ.1.cls index κ'.1 ∈ gw_All) (hn : As.length = n) (hs : stk = As.reverse ++ .ref b :: st) (hd : decode κ.2.1 pc = .ok (.invokespecial index, 3)) (hR : κ'.2.2.2.1.frames + 1 ≤ κ.2.2.2.1.frames ∧ 8 + (κ'.2.2.1 + 11) + κ'.2.2.2.1.locals ≤ κ.2.2.2.1.locals) (hf : n1 + κ'.2.2.2.1.cells ≤ κ.2.2.2.1.cells ∧ n2 + κ'.2.2.2.1.slots ≤ κ.2.2.2.1.slots) (hr : (st.map fun v => v.category).sum ≤ 8) (k : ∀ (r : Option Value) (w' : va_W), post r w' → gw_W l κ cy Z w' (n1 + κ'.2.2.2.1.cells) (n2 + κ'.2.2.2.1.slots) (pc + 3) lv (r.toList ++ st)) : gw_W l κ cy Z w n1 n2 pc lv stk := by
  intro p e s m args below meth c D A Q H locs ls C z hP hD hS hl
  have hpre := gw_preS (av := (.ref b :: As)) hP C.2.2.2.2.2.2.2.2.1 C.2.2.2.2.2.2.2.2.2.1 hD
  exact gw_go (va_runI (As := As) (rest := st) ⟨C.1, C.2.1, C.2.2.2.1, C.2.2.2.2.1, C.2.2.2.2.2.1⟩ (hM D H.size) ⟨(callB_of n C.2.2.2.2.2.1 (gw_goodws hc.1.1) (show gw_ws κ' = Cond.code κ'.1 κ'.2.1 κ'.2.2.1 none :: gw_All by rw [gw_ws, hc.2.2.2]) rfl rfl (C.2.2.2.2.2.1 _ hc.1.2.1) (C.2.2.2.2.2.1 _ hk) hc.1.2.2 hR), hc.2.2.1, C.2.2.2.2.2.1 _ hc.2.1⟩ hpre rfl hn hl.1 hs (lv_room hr) hd hf) hS hD C.2.2.2.2.2.2.2.2.2.2 (fun r w' H1 locs1 hp hP1 hD1 hS1 => k r w' hp p e s m args below meth c D A Q H1 locs1 ls C z hP1 hD1 hS1 hl)
theorem gw_callIN {κ' : gw_K} {index n : Nat} {As stk : List Value} {post : gw_Q} {b : Nat} (hM : gw_M l κ' cy (.ref b :: As) w post) (hc : gw_calI κ' n) {host : String} (hk : Cond.methodLinkNest κ.1.cls index κ'.1 host ∈ gw_N) (hn : As.length = n) (hs : stk = As.reverse ++ .ref b :: st) (hd : decode κ.2.1 pc = .ok (.invokespecial index, 3)) (hR : κ'.2.2.2.1.frames + 1 ≤ κ.2.2.2.1.frames ∧ 8 + (κ'.2.2.1 + 11) + κ'.2.2.2.1.locals ≤ κ.2.2.2.1.locals) (hf : n1 + κ'.2.2.2.1.cells ≤ κ.2.2.2.1.cells ∧ n2 + κ'.2.2.2.1.slots ≤ κ.2.2.2.1.slots) (hr : (st.map fun v => v.category).sum ≤ 8) (k : ∀ (r : Option Value) (w' : va_W), post r w' → gw_W l κ cy Z w' (n1 + κ'.2.2.2.1.cells) (n2 + κ'.2.2.2.1.slots) (pc + 3) lv (r.toList ++ st)) : gw_W l κ cy Z w n1 n2 pc lv stk := by
  intro p e s m args below meth c D A Q H locs ls C z hP hD hS hl
  have hpre := gw_preS (av := (.ref b :: As)) hP C.2.2.2.2.2.2.2.2.1 C.2.2.2.2.2.2.2.2.2.1 hD
  exact gw_go (va_runIN (As := As) (rest := st) ⟨C.1, C.2.1, C.2.2.2.1, C.2.2.2.2.1, C.2.2.2.2.2.1⟩ (hM D H.size) ⟨(va_cnB n C.2.2.2.2.2.1 (gw_goodws hc.1.1) (show gw_ws κ' = Cond.code κ'.1 κ'.2.1 κ'.2.2.1 none :: gw_All by rw [gw_ws, hc.2.2.2]) rfl rfl (C.2.2.2.2.2.2.2.2.2.1.1 _ hk) (C.2.2.2.2.2.1 _ hc.1.2.1) hc.1.2.2 hR), hc.2.2.1, C.2.2.2.2.2.1 _ hc.2.1⟩ hpre rfl hn hl.1 hs (lv_room hr) hd hf) hS hD C.2.2.2.2.2.2.2.2.2.2 (fun r w' H1 locs1 hp hP1 hD1 hS1 => k r w' hp p e s m args below meth c D A Q H1 locs1 ls C z hP1 hD1 hS1 hl)
end GWC
end
section
section GWN
variable {l : Launch} {κ : gw_K} {cy : Nat → ClassId} {Z : gw_Z} {w : va_W} {n1 n2 pc : Nat} {lv : List (Option Value)} {st : List Value}
theorem gw_icmpN_eq {a b : Nat} {off : Int} {tgt : Nat} (hd : decode κ.2.1 pc = .ok (.if_icmp .eq off, 3)) (ht : (pc : Int) + off = (tgt : Int)) (ha : a < 2 ^ 31) (hb : b < 2 ^ 31) (kt : a = b → gw_W l κ cy Z w n1 n2 tgt lv st) (kf : ¬ (a = b) → gw_W l κ cy Z w n1 n2 (pc + 3) lv st) : gw_W l κ cy Z w n1 n2 pc lv (.int (nI b) :: .int (nI a) :: st) := gw_icmp_eq hd ht (fun h => kt ((nI_eq ha hb).mp h)) (fun h => kf (fun e => h ((nI_eq ha hb).mpr e)))
theorem gw_icmpN_ne {a b : Nat} {off : Int} {tgt : Nat} (hd : decode κ.2.1 pc = .ok (.if_icmp .ne off, 3)) (ht : (pc : Int) + off = (tgt : Int)) (ha : a < 2 ^ 31) (hb : b < 2 ^ 31) (kt : ¬ a = b → gw_W l κ cy Z w n1 n2 tgt lv st) (kf : a = b → gw_W l κ cy Z w n1 n2 (pc + 3) lv st) : gw_W l κ cy Z w n1 n2 pc lv (.int (nI b) :: .int (nI a) :: st) := gw_icmp_ne hd ht (fun h => kt (fun e => h (congrArg nI e))) (fun h => kf ((nI_eq ha hb).mp h))
theorem gw_icmpN_lt {a b : Nat} {off : Int} {tgt : Nat} (hd : decode κ.2.1 pc = .ok (.if_icmp .lt off, 3)) (ht : (pc : Int) + off = (tgt : Int)) (ha : a < 2 ^ 31) (hb : b < 2 ^ 31) (kt : a < b → gw_W l κ cy Z w n1 n2 tgt lv st) (kf : ¬ (a < b) → gw_W l κ cy Z w n1 n2 (pc + 3) lv st) : gw_W l κ cy Z w n1 n2 pc lv (.int (nI b) :: .int (nI a) :: st) := gw_icmp_lt hd ht (fun h => kt ((nI_ltI ha hb).mp h)) (fun h => kf (fun e => h ((nI_ltI ha hb).mpr e)))
theorem gw_icmpN_ge {a b : Nat} {off : Int} {tgt : Nat} (hd : decode κ.2.1 pc = .ok (.if_icmp .ge off, 3)) (ht : (pc : Int) + off = (tgt : Int)) (ha : a < 2 ^ 31) (hb : b < 2 ^ 31) (kt : b ≤ a → gw_W l κ cy Z w n1 n2 tgt lv st) (kf : ¬ (b ≤ a) → gw_W l κ cy Z w n1 n2 (pc + 3) lv st) : gw_W l κ cy Z w n1 n2 pc lv (.int (nI b) :: .int (nI a) :: st) := gw_icmp_ge hd ht (fun h => kt ((nI_leI hb ha).mp h)) (fun h => kf (fun e => h ((nI_leI hb ha).mpr e)))
theorem gw_icmpN_gt {a b : Nat} {off : Int} {tgt : Nat} (hd : decode κ.2.1 pc = .ok (.if_icmp .gt off, 3)) (ht : (pc : Int) + off = (tgt : Int)) (ha : a < 2 ^ 31) (hb : b < 2 ^ 31) (kt : b < a → gw_W l κ cy Z w n1 n2 tgt lv st) (kf : ¬ (b < a) → gw_W l κ cy Z w n1 n2 (pc + 3) lv st) : gw_W l κ cy Z w n1 n2 pc lv (.int (nI b) :: .int (nI a) :: st) := gw_icmp_gt hd ht (fun h => kt ((nI_ltI hb ha).mp h)) (fun h => kf (fun e => h ((nI_ltI hb ha).mpr e)))
theorem gw_icmpN_le {a b : Nat} {off : Int} {tgt : Nat} (hd : decode κ.2.1 pc = .ok (.if_icmp .le off, 3)) (ht : (pc : Int) + off = (tgt : Int)) (ha : a < 2 ^ 31) (hb : b < 2 ^ 31) (kt : a ≤ b → gw_W l κ cy Z w n1 n2 tgt lv st) (kf : ¬ (a ≤ b) → gw_W l κ cy Z w n1 n2 (pc + 3) lv st) : gw_W l κ cy Z w n1 n2 pc lv (.int (nI b) :: .int (nI a) :: st) := gw_icmp_le hd ht (fun h => kt ((nI_leI ha hb).mp h)) (fun h => kf (fun e => h ((nI_leI ha hb).mpr e)))
theorem gw_ifN_eq {a : Nat} {off : Int} {tgt : Nat} (hd : decode κ.2.1 pc = .ok (.ifCond .eq off, 3)) (ht : (pc : Int) + off = (tgt : Int)) (ha : a < 2 ^ 31) (kt : a = 0 → gw_W l κ cy Z w n1 n2 tgt lv st) (kf : ¬ a = 0 → gw_W l κ cy Z w n1 n2 (pc + 3) lv st) : gw_W l κ cy Z w n1 n2 pc lv (.int (nI a) :: st) := gw_if_eq hd ht (fun h => kt ((nI_eq ha (by decide)).mp (h.trans nI_0.symm))) (fun h => kf (fun e => h (by rw [e]; exact nI_0)))
theorem gw_ifN_ne {a : Nat} {off : Int} {tgt : Nat} (hd : decode κ.2.1 pc = .ok (.ifCond .ne off, 3)) (ht : (pc : Int) + off = (tgt : Int)) (ha : a < 2 ^ 31) (kt : ¬ a = 0 → gw_W l κ cy Z w n1 n2 tgt lv st) (kf : a = 0 → gw_W l κ cy Z w n1 n2 (pc + 3) lv st) : gw_W l κ cy Z w n1 n2 pc lv (.int (nI a) :: st) := gw_if_ne hd ht (fun h => kt (fun e => h (by rw [e]; exact nI_0))) (fun h => kf ((nI_eq ha (by decide)).mp (h.trans nI_0.symm)))
theorem gw_ifN_lt {a : Nat} {off : Int} {tgt : Nat} (hd : decode κ.2.1 pc = .ok (.ifCond .lt off, 3)) (ht : (pc : Int) + off = (tgt : Int)) (ha : a < 2 ^ 31) (kf : gw_W l κ cy Z w n1 n2 (pc + 3) lv st) : gw_W l κ cy Z w n1 n2 pc lv (.int (nI a) :: st) := gw_if_lt hd ht (fun h => absurd h (nI_pos ha)) (fun _ => kf)
theorem gw_ifN_ge {a : Nat} {off : Int} {tgt : Nat} (hd : decode κ.2.1 pc = .ok (.ifCond .ge off, 3)) (ht : (pc : Int) + off = (tgt : Int)) (ha : a < 2 ^ 31) (kt : gw_W l κ cy Z w n1 n2 tgt lv st) : gw_W l κ cy Z w n1 n2 pc lv (.int (nI a) :: st) := gw_if_ge hd ht (fun _ => kt) (fun h => absurd (nI_pos' ha) h)
theorem gw_ifN_gt {a : Nat} {off : Int} {tgt : Nat} (hd : decode κ.2.1 pc = .ok (.ifCond .gt off, 3)) (ht : (pc : Int) + off = (tgt : Int)) (ha : a < 2 ^ 31) (kt : 0 < a → gw_W l κ cy Z w n1 n2 tgt lv st) (kf : a = 0 → gw_W l κ cy Z w n1 n2 (pc + 3) lv st) : gw_W l κ cy Z w n1 n2 pc lv (.int (nI a) :: st) := gw_if_gt hd ht (fun h => kt (Nat.pos_of_ne_zero fun e => by rw [e] at h; exact absurd h (by decide))) (fun h => kf (Classical.byContradiction fun e => h ((nI_ltI (by decide) ha).mpr (Nat.pos_of_ne_zero e))))
theorem gw_ifN_le {a : Nat} {off : Int} {tgt : Nat} (hd : decode κ.2.1 pc = .ok (.ifCond .le off, 3)) (ht : (pc : Int) + off = (tgt : Int)) (ha : a < 2 ^ 31) (kt : a = 0 → gw_W l κ cy Z w n1 n2 tgt lv st) (kf : 0 < a → gw_W l κ cy Z w n1 n2 (pc + 3) lv st) : gw_W l κ cy Z w n1 n2 pc lv (.int (nI a) :: st) := gw_if_le hd ht (fun h => kt (Classical.byContradiction fun e => absurd h (nI_nle (Nat.pos_of_ne_zero e) ha))) (fun h => kf (Nat.pos_of_ne_zero fun e => h (by rw [e]; decide)))
theorem gw_iaddN {a b : Nat} (hd : decode κ.2.1 pc = .ok (.iadd, 1)) (k : gw_W l κ cy Z w n1 n2 (pc + 1) lv (.int (nI (a + b)) :: st)) : gw_W l κ cy Z w n1 n2 pc lv (.int (nI b) :: .int (nI a) :: st) := gw_iadd hd (gw_topi (nI_add a b) k)
theorem gw_imulN {a b : Nat} (hd : decode κ.2.1 pc = .ok (.imul, 1)) (k : gw_W l κ cy Z w n1 n2 (pc + 1) lv (.int (nI (a * b)) :: st)) : gw_W l κ cy Z w n1 n2 pc lv (.int (nI b) :: .int (nI a) :: st) := gw_imul hd (gw_topi (pk_mul a b) k)
theorem gw_isubN {a b : Nat} (hd : decode κ.2.1 pc = .ok (.isub, 1)) (h : b ≤ a) (k : gw_W l κ cy Z w n1 n2 (pc + 1) lv (.int (nI (a - b)) :: st)) : gw_W l κ cy Z w n1 n2 pc lv (.int (nI b) :: .int (nI a) :: st) := gw_isub hd (gw_topi (pk_sub h) k)
theorem gw_idivN {a b : Nat} (hd : decode κ.2.1 pc = .ok (.idiv, 1)) (ha : a < 2 ^ 31) (h0 : 0 < b) (hb : b < 2 ^ 31) (k : gw_W l κ cy Z w n1 n2 (pc + 1) lv (.int (nI (a / b)) :: st)) : gw_W l κ cy Z w n1 n2 pc lv (.int (nI b) :: .int (nI a) :: st) := gw_idiv hd (nI_ne0 h0 hb) (gw_topi (pk_div ha h0 hb) k)
theorem gw_iremN {a b : Nat} (hd : decode κ.2.1 pc = .ok (.irem, 1)) (ha : a < 2 ^ 31) (h0 : 0 < b) (hb : b < 2 ^ 31) (k : gw_W l κ cy Z w n1 n2 (pc + 1) lv (.int (nI (a % b)) :: st)) : gw_W l κ cy Z w n1 n2 pc lv (.int (nI b) :: .int (nI a) :: st) := gw_irem hd (nI_ne0 h0 hb) (gw_topi (pk_rem ha h0 hb) k)
end GWN
end
section
/-! the reference's world: its object at ad 0, the row of field k at ad k; iv: its numbers, ia, la: its rows, by the fields' places -/
def mW (cy : Nat → ClassId) (ad : Nat → Nat) (iv : Nat → Int32) (ia : Nat → Nat → Int32) (la : Nat → Nat → Int64) : va_W := [(ad 0, .inr (10, [.int (iv 0), .int (iv 1), .ref (ad 2), .ref (ad 3), .ref (ad 4), .ref (ad 5), .ref (ad 6), .ref (ad 7), .ref (ad 8), .int (iv 9), .ref (ad 10), .ref (ad 11), .int (iv 12), .ref (ad 13), .ref (ad 14), .ref (ad 15), .ref (ad 16), .ref (ad 17), .int (iv 18), .int (iv 19), .ref (ad 20), .int (iv 21), .int (iv 22), .int (iv 23), .int (iv 24), .int (iv 25), .ref (ad 26), .ref (ad 27)])), (ad 2, .inl (cy 0, 8, .inl (ia 2))), (ad 3, .inl (cy 0, 8, .inl (ia 3))), (ad 4, .inl (cy 0, 480, .inl (ia 4))), (ad 5, .inl (cy 0, 60, .inl (ia 5))), (ad 6, .inl (cy 0, 18, .inl (ia 6))), (ad 7, .inl (cy 0, 5400, .inl (ia 7))), (ad 8, .inl (cy 1, 5400, .inr (.inl (la 8)))), (ad 10, .inl (cy 0, 1000, .inl (ia 10))), (ad 11, .inl (cy 1, 1000, .inr (.inl (la 11)))), (ad 13, .inl (cy 0, 40, .inl (ia 13))), (ad 14, .inl (cy 0, 40, .inl (ia 14))), (ad 15, .inl (cy 0, 40, .inl (ia 15))), (ad 16, .inl (cy 0, 40, .inl (ia 16))), (ad 17, .inl (cy 0, 40, .inl (ia 17))), (ad 20, .inl (cy 0, 16, .inl (ia 20))), (ad 26, .inl (cy 0, 3, .inl (ia 26))), (ad 27, .inl (cy 0, 3, .inl (ia 27)))]
section MW
variable {l : Launch} {κ : gw_K} {cy : Nat → ClassId} {Z : gw_Z} {ad : Nat → Nat} {iv : Nat → Int32} {ia : Nat → Nat → Int32} {la : Nat → Nat → Int64} {n1 n2 pc : Nat} {lv : List (Option Value)} {st : List Value}
theorem gm_get_spins (hc : κ.1.cls = RX12) (hd : decode κ.2.1 pc = .ok (.getfield 67, 3)) (k : gw_W l κ cy Z (mW cy ad iv ia la) n1 n2 (pc + 3) lv (.int (iv 0) :: st)) : gw_W l κ cy Z (mW cy ad iv ia la) n1 n2 pc lv (.ref (ad 0) :: st) := gw_get (C0 := RX12) (T := TX12) (N := 28) (ref := RX12) 0 rfl rfl inX12 0 (by decide) (by rw [hc]; exact wd_806) (Or.inl rfl) rfl hd k
theorem gm_get_products (hc : κ.1.cls = RX12) (hd : decode κ.2.1 pc = .ok (.getfield 70, 3)) (k : gw_W l κ cy Z (mW cy ad iv ia la) n1 n2 (pc + 3) lv (.int (iv 1) :: st)) : gw_W l κ cy Z (mW cy ad iv ia la) n1 n2 pc lv (.ref (ad 0) :: st) := gw_get (C0 := RX12) (T := TX12) (N := 28) (ref := RX12) 0 rfl rfl inX12 1 (by decide) (by rw [hc]; exact wd_807) (Or.inl rfl) rfl hd k
theorem gm_get_lane (hc : κ.1.cls = RX12) (hd : decode κ.2.1 pc = .ok (.getfield 7, 3)) (k : gw_W l κ cy Z (mW cy ad iv ia la) n1 n2 (pc + 3) lv (.ref (ad 2) :: st)) : gw_W l κ cy Z (mW cy ad iv ia la) n1 n2 pc lv (.ref (ad 0) :: st) := gw_get (C0 := RX12) (T := TX12) (N := 28) (ref := RX12) 0 rfl rfl inX12 2 (by decide) (by rw [hc]; exact wd_808) (Or.inl rfl) rfl hd k
theorem gm_ld_lane {j : Nat} {i : Int32} (hi : i = nI j) (hj : j < 8) (hd : decode κ.2.1 pc = .ok (.iaload, 1)) (k : gw_W l κ cy Z (mW cy ad iv ia la) n1 n2 (pc + 1) lv (.int (ia 2 j) :: st)) : gw_W l κ cy Z (mW cy ad iv ia la) n1 n2 pc lv (.int i :: .ref (ad 2) :: st) := gw_iald 1 rfl hi hj (by decide) hd k
theorem gm_st_lane {j : Nat} {i : Int32} {x : Int32} (hi : i = nI j) (hj : j < 8) (hd : decode κ.2.1 pc = .ok (.iastore, 1)) (k : gw_W l κ cy Z (mW cy ad iv (va_up ia 2 (upd (ia 2) j x)) la) n1 n2 (pc + 1) lv st) : gw_W l κ cy Z (mW cy ad iv ia la) n1 n2 pc lv (.int x :: .int i :: .ref (ad 2) :: st) := gw_iast 1 rfl hi hj (by decide) hd k
theorem gm_get_size (hc : κ.1.cls = RX12) (hd : decode κ.2.1 pc = .ok (.getfield 13, 3)) (k : gw_W l κ cy Z (mW cy ad iv ia la) n1 n2 (pc + 3) lv (.ref (ad 3) :: st)) : gw_W l κ cy Z (mW cy ad iv ia la) n1 n2 pc lv (.ref (ad 0) :: st) := gw_get (C0 := RX12) (T := TX12) (N := 28) (ref := RX12) 0 rfl rfl inX12 3 (by decide) (by rw [hc]; exact wd_809) (Or.inl rfl) rfl hd k
theorem gm_ld_size {j : Nat} {i : Int32} (hi : i = nI j) (hj : j < 8) (hd : decode κ.2.1 pc = .ok (.iaload, 1)) (k : gw_W l κ cy Z (mW cy ad iv ia la) n1 n2 (pc + 1) lv (.int (ia 3 j) :: st)) : gw_W l κ cy Z (mW cy ad iv ia la) n1 n2 pc lv (.int i :: .ref (ad 3) :: st) := gw_iald 2 rfl hi hj (by decide) hd k
theorem gm_st_size {j : Nat} {i : Int32} {x : Int32} (hi : i = nI j) (hj : j < 8) (hd : decode κ.2.1 pc = .ok (.iastore, 1)) (k : gw_W l κ cy Z (mW cy ad iv (va_up ia 3 (upd (ia 3) j x)) la) n1 n2 (pc + 1) lv st) : gw_W l κ cy Z (mW cy ad iv ia la) n1 n2 pc lv (.int x :: .int i :: .ref (ad 3) :: st) := gw_iast 2 rfl hi hj (by decide) hd k
theorem gm_get_item (hc : κ.1.cls = RX12) (hd : decode κ.2.1 pc = .ok (.getfield 16, 3)) (k : gw_W l κ cy Z (mW cy ad iv ia la) n1 n2 (pc + 3) lv (.ref (ad 4) :: st)) : gw_W l κ cy Z (mW cy ad iv ia la) n1 n2 pc lv (.ref (ad 0) :: st) := gw_get (C0 := RX12) (T := TX12) (N := 28) (ref := RX12) 0 rfl rfl inX12 4 (by decide) (by rw [hc]; exact wd_810) (Or.inl rfl) rfl hd k
theorem gm_ld_item {j : Nat} {i : Int32} (hi : i = nI j) (hj : j < 480) (hd : decode κ.2.1 pc = .ok (.iaload, 1)) (k : gw_W l κ cy Z (mW cy ad iv ia la) n1 n2 (pc + 1) lv (.int (ia 4 j) :: st)) : gw_W l κ cy Z (mW cy ad iv ia la) n1 n2 pc lv (.int i :: .ref (ad 4) :: st) := gw_iald 3 rfl hi hj (by decide) hd k
theorem gm_st_item {j : Nat} {i : Int32} {x : Int32} (hi : i = nI j) (hj : j < 480) (hd : decode κ.2.1 pc = .ok (.iastore, 1)) (k : gw_W l κ cy Z (mW cy ad iv (va_up ia 4 (upd (ia 4) j x)) la) n1 n2 (pc + 1) lv st) : gw_W l κ cy Z (mW cy ad iv ia la) n1 n2 pc lv (.int x :: .int i :: .ref (ad 4) :: st) := gw_iast 3 rfl hi hj (by decide) hd k
theorem gm_get_moving (hc : κ.1.cls = RX12) (hd : decode κ.2.1 pc = .ok (.getfield 19, 3)) (k : gw_W l κ cy Z (mW cy ad iv ia la) n1 n2 (pc + 3) lv (.ref (ad 5) :: st)) : gw_W l κ cy Z (mW cy ad iv ia la) n1 n2 pc lv (.ref (ad 0) :: st) := gw_get (C0 := RX12) (T := TX12) (N := 28) (ref := RX12) 0 rfl rfl inX12 5 (by decide) (by rw [hc]; exact wd_811) (Or.inl rfl) rfl hd k
theorem gm_ld_moving {j : Nat} {i : Int32} (hi : i = nI j) (hj : j < 60) (hd : decode κ.2.1 pc = .ok (.iaload, 1)) (k : gw_W l κ cy Z (mW cy ad iv ia la) n1 n2 (pc + 1) lv (.int (ia 5 j) :: st)) : gw_W l κ cy Z (mW cy ad iv ia la) n1 n2 pc lv (.int i :: .ref (ad 5) :: st) := gw_iald 4 rfl hi hj (by decide) hd k
theorem gm_st_moving {j : Nat} {i : Int32} {x : Int32} (hi : i = nI j) (hj : j < 60) (hd : decode κ.2.1 pc = .ok (.iastore, 1)) (k : gw_W l κ cy Z (mW cy ad iv (va_up ia 5 (upd (ia 5) j x)) la) n1 n2 (pc + 1) lv st) : gw_W l κ cy Z (mW cy ad iv ia la) n1 n2 pc lv (.int x :: .int i :: .ref (ad 5) :: st) := gw_iast 4 rfl hi hj (by decide) hd k
theorem gm_get_many (hc : κ.1.cls = RX12) (hd : decode κ.2.1 pc = .ok (.getfield 22, 3)) (k : gw_W l κ cy Z (mW cy ad iv ia la) n1 n2 (pc + 3) lv (.ref (ad 6) :: st)) : gw_W l κ cy Z (mW cy ad iv ia la) n1 n2 pc lv (.ref (ad 0) :: st) := gw_get (C0 := RX12) (T := TX12) (N := 28) (ref := RX12) 0 rfl rfl inX12 6 (by decide) (by rw [hc]; exact wd_812) (Or.inl rfl) rfl hd k
theorem gm_ld_many {j : Nat} {i : Int32} (hi : i = nI j) (hj : j < 18) (hd : decode κ.2.1 pc = .ok (.iaload, 1)) (k : gw_W l κ cy Z (mW cy ad iv ia la) n1 n2 (pc + 1) lv (.int (ia 6 j) :: st)) : gw_W l κ cy Z (mW cy ad iv ia la) n1 n2 pc lv (.int i :: .ref (ad 6) :: st) := gw_iald 5 rfl hi hj (by decide) hd k
theorem gm_st_many {j : Nat} {i : Int32} {x : Int32} (hi : i = nI j) (hj : j < 18) (hd : decode κ.2.1 pc = .ok (.iastore, 1)) (k : gw_W l κ cy Z (mW cy ad iv (va_up ia 6 (upd (ia 6) j x)) la) n1 n2 (pc + 1) lv st) : gw_W l κ cy Z (mW cy ad iv ia la) n1 n2 pc lv (.int x :: .int i :: .ref (ad 6) :: st) := gw_iast 5 rfl hi hj (by decide) hd k
theorem gm_get_key (hc : κ.1.cls = RX12) (hd : decode κ.2.1 pc = .ok (.getfield 25, 3)) (k : gw_W l κ cy Z (mW cy ad iv ia la) n1 n2 (pc + 3) lv (.ref (ad 7) :: st)) : gw_W l κ cy Z (mW cy ad iv ia la) n1 n2 pc lv (.ref (ad 0) :: st) := gw_get (C0 := RX12) (T := TX12) (N := 28) (ref := RX12) 0 rfl rfl inX12 7 (by decide) (by rw [hc]; exact wd_813) (Or.inl rfl) rfl hd k
theorem gm_ld_key {j : Nat} {i : Int32} (hi : i = nI j) (hj : j < 5400) (hd : decode κ.2.1 pc = .ok (.iaload, 1)) (k : gw_W l κ cy Z (mW cy ad iv ia la) n1 n2 (pc + 1) lv (.int (ia 7 j) :: st)) : gw_W l κ cy Z (mW cy ad iv ia la) n1 n2 pc lv (.int i :: .ref (ad 7) :: st) := gw_iald 6 rfl hi hj (by decide) hd k
theorem gm_st_key {j : Nat} {i : Int32} {x : Int32} (hi : i = nI j) (hj : j < 5400) (hd : decode κ.2.1 pc = .ok (.iastore, 1)) (k : gw_W l κ cy Z (mW cy ad iv (va_up ia 7 (upd (ia 7) j x)) la) n1 n2 (pc + 1) lv st) : gw_W l κ cy Z (mW cy ad iv ia la) n1 n2 pc lv (.int x :: .int i :: .ref (ad 7) :: st) := gw_iast 6 rfl hi hj (by decide) hd k
theorem gm_get_number (hc : κ.1.cls = RX12) (hd : decode κ.2.1 pc = .ok (.getfield 28, 3)) (k : gw_W l κ cy Z (mW cy ad iv ia la) n1 n2 (pc + 3) lv (.ref (ad 8) :: st)) : gw_W l κ cy Z (mW cy ad iv ia la) n1 n2 pc lv (.ref (ad 0) :: st) := gw_get (C0 := RX12) (T := TX12) (N := 28) (ref := RX12) 0 rfl rfl inX12 8 (by decide) (by rw [hc]; exact wd_814) (Or.inl rfl) rfl hd k
theorem gm_ld_number {j : Nat} {i : Int32} (hi : i = nI j) (hj : j < 5400) (hd : decode κ.2.1 pc = .ok (.laload, 1)) (k : gw_W l κ cy Z (mW cy ad iv ia la) n1 n2 (pc + 1) lv (.long (la 8 j) :: st)) : gw_W l κ cy Z (mW cy ad iv ia la) n1 n2 pc lv (.int i :: .ref (ad 8) :: st) := gw_lald 7 rfl hi hj (by decide) hd k
theorem gm_st_number {j : Nat} {i : Int32} {x : Int64} (hi : i = nI j) (hj : j < 5400) (hd : decode κ.2.1 pc = .ok (.lastore, 1)) (k : gw_W l κ cy Z (mW cy ad iv ia (va_up la 8 (vp_updL (la 8) j x))) n1 n2 (pc + 1) lv st) : gw_W l κ cy Z (mW cy ad iv ia la) n1 n2 pc lv (.long x :: .int i :: .ref (ad 8) :: st) := gw_last 7 rfl hi hj (by decide) hd k
theorem gm_get_made (hc : κ.1.cls = RX12) (hd : decode κ.2.1 pc = .ok (.getfield 97, 3)) (k : gw_W l κ cy Z (mW cy ad iv ia la) n1 n2 (pc + 3) lv (.int (iv 9) :: st)) : gw_W l κ cy Z (mW cy ad iv ia la) n1 n2 pc lv (.ref (ad 0) :: st) := gw_get (C0 := RX12) (T := TX12) (N := 28) (ref := RX12) 0 rfl rfl inX12 9 (by decide) (by rw [hc]; exact wd_815) (Or.inl rfl) rfl hd k
theorem gm_put_made {x : Int32} (hc : κ.1.cls = RX12) (hd : decode κ.2.1 pc = .ok (.putfield 97, 3)) (k : gw_W l κ cy Z (mW cy ad (va_up iv 9 x) ia la) n1 n2 (pc + 3) lv st) : gw_W l κ cy Z (mW cy ad iv ia la) n1 n2 pc lv (.int x :: .ref (ad 0) :: st) := by
  refine gw_put (C0 := RX12) (T := TX12) (N := 28) (ref := RX12) (ty := .int) 0 rfl rfl inX12 9 (by decide) tyX12 tyX12_ok nmX12 (by rw [hc]; exact wd_815) (Or.inl rfl) rfl (by decide +kernel) rfl rfl (Nat.le_of_ble_eq_true rfl) hd ?_
  exact k
theorem gm_get_madeKey (hc : κ.1.cls = RX12) (hd : decode κ.2.1 pc = .ok (.getfield 32, 3)) (k : gw_W l κ cy Z (mW cy ad iv ia la) n1 n2 (pc + 3) lv (.ref (ad 10) :: st)) : gw_W l κ cy Z (mW cy ad iv ia la) n1 n2 pc lv (.ref (ad 0) :: st) := gw_get (C0 := RX12) (T := TX12) (N := 28) (ref := RX12) 0 rfl rfl inX12 10 (by decide) (by rw [hc]; exact wd_816) (Or.inl rfl) rfl hd k
theorem gm_ld_madeKey {j : Nat} {i : Int32} (hi : i = nI j) (hj : j < 1000) (hd : decode κ.2.1 pc = .ok (.iaload, 1)) (k : gw_W l κ cy Z (mW cy ad iv ia la) n1 n2 (pc + 1) lv (.int (ia 10 j) :: st)) : gw_W l κ cy Z (mW cy ad iv ia la) n1 n2 pc lv (.int i :: .ref (ad 10) :: st) := gw_iald 8 rfl hi hj (by decide) hd k
theorem gm_st_madeKey {j : Nat} {i : Int32} {x : Int32} (hi : i = nI j) (hj : j < 1000) (hd : decode κ.2.1 pc = .ok (.iastore, 1)) (k : gw_W l κ cy Z (mW cy ad iv (va_up ia 10 (upd (ia 10) j x)) la) n1 n2 (pc + 1) lv st) : gw_W l κ cy Z (mW cy ad iv ia la) n1 n2 pc lv (.int x :: .int i :: .ref (ad 10) :: st) := gw_iast 8 rfl hi hj (by decide) hd k
theorem gm_get_madeNumber (hc : κ.1.cls = RX12) (hd : decode κ.2.1 pc = .ok (.getfield 35, 3)) (k : gw_W l κ cy Z (mW cy ad iv ia la) n1 n2 (pc + 3) lv (.ref (ad 11) :: st)) : gw_W l κ cy Z (mW cy ad iv ia la) n1 n2 pc lv (.ref (ad 0) :: st) := gw_get (C0 := RX12) (T := TX12) (N := 28) (ref := RX12) 0 rfl rfl inX12 11 (by decide) (by rw [hc]; exact wd_817) (Or.inl rfl) rfl hd k
theorem gm_ld_madeNumber {j : Nat} {i : Int32} (hi : i = nI j) (hj : j < 1000) (hd : decode κ.2.1 pc = .ok (.laload, 1)) (k : gw_W l κ cy Z (mW cy ad iv ia la) n1 n2 (pc + 1) lv (.long (la 11 j) :: st)) : gw_W l κ cy Z (mW cy ad iv ia la) n1 n2 pc lv (.int i :: .ref (ad 11) :: st) := gw_lald 9 rfl hi hj (by decide) hd k
theorem gm_st_madeNumber {j : Nat} {i : Int32} {x : Int64} (hi : i = nI j) (hj : j < 1000) (hd : decode κ.2.1 pc = .ok (.lastore, 1)) (k : gw_W l κ cy Z (mW cy ad iv ia (va_up la 11 (vp_updL (la 11) j x))) n1 n2 (pc + 1) lv st) : gw_W l κ cy Z (mW cy ad iv ia la) n1 n2 pc lv (.long x :: .int i :: .ref (ad 11) :: st) := gw_last 9 rfl hi hj (by decide) hd k
theorem gm_get_ops (hc : κ.1.cls = RX12) (hd : decode κ.2.1 pc = .ok (.getfield 193, 3)) (k : gw_W l κ cy Z (mW cy ad iv ia la) n1 n2 (pc + 3) lv (.int (iv 12) :: st)) : gw_W l κ cy Z (mW cy ad iv ia la) n1 n2 pc lv (.ref (ad 0) :: st) := gw_get (C0 := RX12) (T := TX12) (N := 28) (ref := RX12) 0 rfl rfl inX12 12 (by decide) (by rw [hc]; exact wd_818) (Or.inl rfl) rfl hd k
theorem gm_put_ops {x : Int32} (hc : κ.1.cls = RX12) (hd : decode κ.2.1 pc = .ok (.putfield 193, 3)) (k : gw_W l κ cy Z (mW cy ad (va_up iv 12 x) ia la) n1 n2 (pc + 3) lv st) : gw_W l κ cy Z (mW cy ad iv ia la) n1 n2 pc lv (.int x :: .ref (ad 0) :: st) := by
  refine gw_put (C0 := RX12) (T := TX12) (N := 28) (ref := RX12) (ty := .int) 0 rfl rfl inX12 12 (by decide) tyX12 tyX12_ok nmX12 (by rw [hc]; exact wd_818) (Or.inl rfl) rfl (by decide +kernel) rfl rfl (Nat.le_of_ble_eq_true rfl) hd ?_
  exact k
theorem gm_get_kind (hc : κ.1.cls = RX12) (hd : decode κ.2.1 pc = .ok (.getfield 38, 3)) (k : gw_W l κ cy Z (mW cy ad iv ia la) n1 n2 (pc + 3) lv (.ref (ad 13) :: st)) : gw_W l κ cy Z (mW cy ad iv ia la) n1 n2 pc lv (.ref (ad 0) :: st) := gw_get (C0 := RX12) (T := TX12) (N := 28) (ref := RX12) 0 rfl rfl inX12 13 (by decide) (by rw [hc]; exact wd_819) (Or.inl rfl) rfl hd k
theorem gm_ld_kind {j : Nat} {i : Int32} (hi : i = nI j) (hj : j < 40) (hd : decode κ.2.1 pc = .ok (.iaload, 1)) (k : gw_W l κ cy Z (mW cy ad iv ia la) n1 n2 (pc + 1) lv (.int (ia 13 j) :: st)) : gw_W l κ cy Z (mW cy ad iv ia la) n1 n2 pc lv (.int i :: .ref (ad 13) :: st) := gw_iald 10 rfl hi hj (by decide) hd k
theorem gm_st_kind {j : Nat} {i : Int32} {x : Int32} (hi : i = nI j) (hj : j < 40) (hd : decode κ.2.1 pc = .ok (.iastore, 1)) (k : gw_W l κ cy Z (mW cy ad iv (va_up ia 13 (upd (ia 13) j x)) la) n1 n2 (pc + 1) lv st) : gw_W l κ cy Z (mW cy ad iv ia la) n1 n2 pc lv (.int x :: .int i :: .ref (ad 13) :: st) := gw_iast 10 rfl hi hj (by decide) hd k
theorem gm_get_set (hc : κ.1.cls = RX12) (hd : decode κ.2.1 pc = .ok (.getfield 41, 3)) (k : gw_W l κ cy Z (mW cy ad iv ia la) n1 n2 (pc + 3) lv (.ref (ad 14) :: st)) : gw_W l κ cy Z (mW cy ad iv ia la) n1 n2 pc lv (.ref (ad 0) :: st) := gw_get (C0 := RX12) (T := TX12) (N := 28) (ref := RX12) 0 rfl rfl inX12 14 (by decide) (by rw [hc]; exact wd_820) (Or.inl rfl) rfl hd k
theorem gm_ld_set {j : Nat} {i : Int32} (hi : i = nI j) (hj : j < 40) (hd : decode κ.2.1 pc = .ok (.iaload, 1)) (k : gw_W l κ cy Z (mW cy ad iv ia la) n1 n2 (pc + 1) lv (.int (ia 14 j) :: st)) : gw_W l κ cy Z (mW cy ad iv ia la) n1 n2 pc lv (.int i :: .ref (ad 14) :: st) := gw_iald 11 rfl hi hj (by decide) hd k
theorem gm_st_set {j : Nat} {i : Int32} {x : Int32} (hi : i = nI j) (hj : j < 40) (hd : decode κ.2.1 pc = .ok (.iastore, 1)) (k : gw_W l κ cy Z (mW cy ad iv (va_up ia 14 (upd (ia 14) j x)) la) n1 n2 (pc + 1) lv st) : gw_W l κ cy Z (mW cy ad iv ia la) n1 n2 pc lv (.int x :: .int i :: .ref (ad 14) :: st) := gw_iast 11 rfl hi hj (by decide) hd k
theorem gm_get_phase (hc : κ.1.cls = RX12) (hd : decode κ.2.1 pc = .ok (.getfield 44, 3)) (k : gw_W l κ cy Z (mW cy ad iv ia la) n1 n2 (pc + 3) lv (.ref (ad 15) :: st)) : gw_W l κ cy Z (mW cy ad iv ia la) n1 n2 pc lv (.ref (ad 0) :: st) := gw_get (C0 := RX12) (T := TX12) (N := 28) (ref := RX12) 0 rfl rfl inX12 15 (by decide) (by rw [hc]; exact wd_821) (Or.inl rfl) rfl hd k
theorem gm_ld_phase {j : Nat} {i : Int32} (hi : i = nI j) (hj : j < 40) (hd : decode κ.2.1 pc = .ok (.iaload, 1)) (k : gw_W l κ cy Z (mW cy ad iv ia la) n1 n2 (pc + 1) lv (.int (ia 15 j) :: st)) : gw_W l κ cy Z (mW cy ad iv ia la) n1 n2 pc lv (.int i :: .ref (ad 15) :: st) := gw_iald 12 rfl hi hj (by decide) hd k
theorem gm_st_phase {j : Nat} {i : Int32} {x : Int32} (hi : i = nI j) (hj : j < 40) (hd : decode κ.2.1 pc = .ok (.iastore, 1)) (k : gw_W l κ cy Z (mW cy ad iv (va_up ia 15 (upd (ia 15) j x)) la) n1 n2 (pc + 1) lv st) : gw_W l κ cy Z (mW cy ad iv ia la) n1 n2 pc lv (.int x :: .int i :: .ref (ad 15) :: st) := gw_iast 12 rfl hi hj (by decide) hd k
theorem gm_get_turns (hc : κ.1.cls = RX12) (hd : decode κ.2.1 pc = .ok (.getfield 47, 3)) (k : gw_W l κ cy Z (mW cy ad iv ia la) n1 n2 (pc + 3) lv (.ref (ad 16) :: st)) : gw_W l κ cy Z (mW cy ad iv ia la) n1 n2 pc lv (.ref (ad 0) :: st) := gw_get (C0 := RX12) (T := TX12) (N := 28) (ref := RX12) 0 rfl rfl inX12 16 (by decide) (by rw [hc]; exact wd_822) (Or.inl rfl) rfl hd k
theorem gm_ld_turns {j : Nat} {i : Int32} (hi : i = nI j) (hj : j < 40) (hd : decode κ.2.1 pc = .ok (.iaload, 1)) (k : gw_W l κ cy Z (mW cy ad iv ia la) n1 n2 (pc + 1) lv (.int (ia 16 j) :: st)) : gw_W l κ cy Z (mW cy ad iv ia la) n1 n2 pc lv (.int i :: .ref (ad 16) :: st) := gw_iald 13 rfl hi hj (by decide) hd k
theorem gm_st_turns {j : Nat} {i : Int32} {x : Int32} (hi : i = nI j) (hj : j < 40) (hd : decode κ.2.1 pc = .ok (.iastore, 1)) (k : gw_W l κ cy Z (mW cy ad iv (va_up ia 16 (upd (ia 16) j x)) la) n1 n2 (pc + 1) lv st) : gw_W l κ cy Z (mW cy ad iv ia la) n1 n2 pc lv (.int x :: .int i :: .ref (ad 16) :: st) := gw_iast 13 rfl hi hj (by decide) hd k
theorem gm_get_table (hc : κ.1.cls = RX12) (hd : decode κ.2.1 pc = .ok (.getfield 50, 3)) (k : gw_W l κ cy Z (mW cy ad iv ia la) n1 n2 (pc + 3) lv (.ref (ad 17) :: st)) : gw_W l κ cy Z (mW cy ad iv ia la) n1 n2 pc lv (.ref (ad 0) :: st) := gw_get (C0 := RX12) (T := TX12) (N := 28) (ref := RX12) 0 rfl rfl inX12 17 (by decide) (by rw [hc]; exact wd_823) (Or.inl rfl) rfl hd k
theorem gm_ld_table {j : Nat} {i : Int32} (hi : i = nI j) (hj : j < 40) (hd : decode κ.2.1 pc = .ok (.iaload, 1)) (k : gw_W l κ cy Z (mW cy ad iv ia la) n1 n2 (pc + 1) lv (.int (ia 17 j) :: st)) : gw_W l κ cy Z (mW cy ad iv ia la) n1 n2 pc lv (.int i :: .ref (ad 17) :: st) := gw_iald 14 rfl hi hj (by decide) hd k
theorem gm_st_table {j : Nat} {i : Int32} {x : Int32} (hi : i = nI j) (hj : j < 40) (hd : decode κ.2.1 pc = .ok (.iastore, 1)) (k : gw_W l κ cy Z (mW cy ad iv (va_up ia 17 (upd (ia 17) j x)) la) n1 n2 (pc + 1) lv st) : gw_W l κ cy Z (mW cy ad iv ia la) n1 n2 pc lv (.int x :: .int i :: .ref (ad 17) :: st) := gw_iast 14 rfl hi hj (by decide) hd k
theorem gm_get_notEnded (hc : κ.1.cls = RX12) (hd : decode κ.2.1 pc = .ok (.getfield 205, 3)) (k : gw_W l κ cy Z (mW cy ad iv ia la) n1 n2 (pc + 3) lv (.int (iv 18) :: st)) : gw_W l κ cy Z (mW cy ad iv ia la) n1 n2 pc lv (.ref (ad 0) :: st) := gw_get (C0 := RX12) (T := TX12) (N := 28) (ref := RX12) 0 rfl rfl inX12 18 (by decide) (by rw [hc]; exact wd_824) (Or.inl rfl) rfl hd k
theorem gm_put_notEnded {x : Int32} (hc : κ.1.cls = RX12) (hd : decode κ.2.1 pc = .ok (.putfield 205, 3)) (k : gw_W l κ cy Z (mW cy ad (va_up iv 18 x) ia la) n1 n2 (pc + 3) lv st) : gw_W l κ cy Z (mW cy ad iv ia la) n1 n2 pc lv (.int x :: .ref (ad 0) :: st) := by
  refine gw_put (C0 := RX12) (T := TX12) (N := 28) (ref := RX12) (ty := .int) 0 rfl rfl inX12 18 (by decide) tyX12 tyX12_ok nmX12 (by rw [hc]; exact wd_824) (Or.inl rfl) rfl (by decide +kernel) rfl rfl (Nat.le_of_ble_eq_true rfl) hd ?_
  exact k
theorem gm_get_status (hc : κ.1.cls = RX12) (hd : decode κ.2.1 pc = .ok (.getfield 73, 3)) (k : gw_W l κ cy Z (mW cy ad iv ia la) n1 n2 (pc + 3) lv (.int (iv 19) :: st)) : gw_W l κ cy Z (mW cy ad iv ia la) n1 n2 pc lv (.ref (ad 0) :: st) := gw_get (C0 := RX12) (T := TX12) (N := 28) (ref := RX12) 0 rfl rfl inX12 19 (by decide) (by rw [hc]; exact wd_825) (Or.inl rfl) rfl hd k
theorem gm_put_status {x : Int32} (hc : κ.1.cls = RX12) (hd : decode κ.2.1 pc = .ok (.putfield 73, 3)) (k : gw_W l κ cy Z (mW cy ad (va_up iv 19 x) ia la) n1 n2 (pc + 3) lv st) : gw_W l κ cy Z (mW cy ad iv ia la) n1 n2 pc lv (.int x :: .ref (ad 0) :: st) := by
  refine gw_put (C0 := RX12) (T := TX12) (N := 28) (ref := RX12) (ty := .int) 0 rfl rfl inX12 19 (by decide) tyX12 tyX12_ok nmX12 (by rw [hc]; exact wd_825) (Or.inl rfl) rfl (by decide +kernel) rfl rfl (Nat.le_of_ble_eq_true rfl) hd ?_
  exact k
theorem gm_get_trace (hc : κ.1.cls = RX12) (hd : decode κ.2.1 pc = .ok (.getfield 53, 3)) (k : gw_W l κ cy Z (mW cy ad iv ia la) n1 n2 (pc + 3) lv (.ref (ad 20) :: st)) : gw_W l κ cy Z (mW cy ad iv ia la) n1 n2 pc lv (.ref (ad 0) :: st) := gw_get (C0 := RX12) (T := TX12) (N := 28) (ref := RX12) 0 rfl rfl inX12 20 (by decide) (by rw [hc]; exact wd_826) (Or.inl rfl) rfl hd k
theorem gm_ld_trace {j : Nat} {i : Int32} (hi : i = nI j) (hj : j < 16) (hd : decode κ.2.1 pc = .ok (.iaload, 1)) (k : gw_W l κ cy Z (mW cy ad iv ia la) n1 n2 (pc + 1) lv (.int (ia 20 j) :: st)) : gw_W l κ cy Z (mW cy ad iv ia la) n1 n2 pc lv (.int i :: .ref (ad 20) :: st) := gw_iald 15 rfl hi hj (by decide) hd k
theorem gm_st_trace {j : Nat} {i : Int32} {x : Int32} (hi : i = nI j) (hj : j < 16) (hd : decode κ.2.1 pc = .ok (.iastore, 1)) (k : gw_W l κ cy Z (mW cy ad iv (va_up ia 20 (upd (ia 20) j x)) la) n1 n2 (pc + 1) lv st) : gw_W l κ cy Z (mW cy ad iv ia la) n1 n2 pc lv (.int x :: .int i :: .ref (ad 20) :: st) := gw_iast 15 rfl hi hj (by decide) hd k
theorem gm_get_traced (hc : κ.1.cls = RX12) (hd : decode κ.2.1 pc = .ok (.getfield 212, 3)) (k : gw_W l κ cy Z (mW cy ad iv ia la) n1 n2 (pc + 3) lv (.int (iv 21) :: st)) : gw_W l κ cy Z (mW cy ad iv ia la) n1 n2 pc lv (.ref (ad 0) :: st) := gw_get (C0 := RX12) (T := TX12) (N := 28) (ref := RX12) 0 rfl rfl inX12 21 (by decide) (by rw [hc]; exact wd_827) (Or.inl rfl) rfl hd k
theorem gm_put_traced {x : Int32} (hc : κ.1.cls = RX12) (hd : decode κ.2.1 pc = .ok (.putfield 212, 3)) (k : gw_W l κ cy Z (mW cy ad (va_up iv 21 x) ia la) n1 n2 (pc + 3) lv st) : gw_W l κ cy Z (mW cy ad iv ia la) n1 n2 pc lv (.int x :: .ref (ad 0) :: st) := by
  refine gw_put (C0 := RX12) (T := TX12) (N := 28) (ref := RX12) (ty := .int) 0 rfl rfl inX12 21 (by decide) tyX12 tyX12_ok nmX12 (by rw [hc]; exact wd_827) (Or.inl rfl) rfl (by decide +kernel) rfl rfl (Nat.le_of_ble_eq_true rfl) hd ?_
  exact k
theorem gm_get_steps (hc : κ.1.cls = RX12) (hd : decode κ.2.1 pc = .ok (.getfield 234, 3)) (k : gw_W l κ cy Z (mW cy ad iv ia la) n1 n2 (pc + 3) lv (.int (iv 22) :: st)) : gw_W l κ cy Z (mW cy ad iv ia la) n1 n2 pc lv (.ref (ad 0) :: st) := gw_get (C0 := RX12) (T := TX12) (N := 28) (ref := RX12) 0 rfl rfl inX12 22 (by decide) (by rw [hc]; exact wd_828) (Or.inl rfl) rfl hd k
theorem gm_put_steps {x : Int32} (hc : κ.1.cls = RX12) (hd : decode κ.2.1 pc = .ok (.putfield 234, 3)) (k : gw_W l κ cy Z (mW cy ad (va_up iv 22 x) ia la) n1 n2 (pc + 3) lv st) : gw_W l κ cy Z (mW cy ad iv ia la) n1 n2 pc lv (.int x :: .ref (ad 0) :: st) := by
  refine gw_put (C0 := RX12) (T := TX12) (N := 28) (ref := RX12) (ty := .int) 0 rfl rfl inX12 22 (by decide) tyX12 tyX12_ok nmX12 (by rw [hc]; exact wd_828) (Or.inl rfl) rfl (by decide +kernel) rfl rfl (Nat.le_of_ble_eq_true rfl) hd ?_
  exact k
theorem gm_get_latest (hc : κ.1.cls = RX12) (hd : decode κ.2.1 pc = .ok (.getfield 57, 3)) (k : gw_W l κ cy Z (mW cy ad iv ia la) n1 n2 (pc + 3) lv (.int (iv 23) :: st)) : gw_W l κ cy Z (mW cy ad iv ia la) n1 n2 pc lv (.ref (ad 0) :: st) := gw_get (C0 := RX12) (T := TX12) (N := 28) (ref := RX12) 0 rfl rfl inX12 23 (by decide) (by rw [hc]; exact wd_829) (Or.inl rfl) rfl hd k
theorem gm_put_latest {x : Int32} (hc : κ.1.cls = RX12) (hd : decode κ.2.1 pc = .ok (.putfield 57, 3)) (k : gw_W l κ cy Z (mW cy ad (va_up iv 23 x) ia la) n1 n2 (pc + 3) lv st) : gw_W l κ cy Z (mW cy ad iv ia la) n1 n2 pc lv (.int x :: .ref (ad 0) :: st) := by
  refine gw_put (C0 := RX12) (T := TX12) (N := 28) (ref := RX12) (ty := .int) 0 rfl rfl inX12 23 (by decide) tyX12 tyX12_ok nmX12 (by rw [hc]; exact wd_829) (Or.inl rfl) rfl (by decide +kernel) rfl rfl (Nat.le_of_ble_eq_true rfl) hd ?_
  exact k
theorem gm_get_sign (hc : κ.1.cls = RX12) (hd : decode κ.2.1 pc = .ok (.getfield 145, 3)) (k : gw_W l κ cy Z (mW cy ad iv ia la) n1 n2 (pc + 3) lv (.int (iv 24) :: st)) : gw_W l κ cy Z (mW cy ad iv ia la) n1 n2 pc lv (.ref (ad 0) :: st) := gw_get (C0 := RX12) (T := TX12) (N := 28) (ref := RX12) 0 rfl rfl inX12 24 (by decide) (by rw [hc]; exact wd_830) (Or.inl rfl) rfl hd k
theorem gm_put_sign {x : Int32} (hc : κ.1.cls = RX12) (hd : decode κ.2.1 pc = .ok (.putfield 145, 3)) (k : gw_W l κ cy Z (mW cy ad (va_up iv 24 x) ia la) n1 n2 (pc + 3) lv st) : gw_W l κ cy Z (mW cy ad iv ia la) n1 n2 pc lv (.int x :: .ref (ad 0) :: st) := by
  refine gw_put (C0 := RX12) (T := TX12) (N := 28) (ref := RX12) (ty := .int) 0 rfl rfl inX12 24 (by decide) tyX12 tyX12_ok nmX12 (by rw [hc]; exact wd_830) (Or.inl rfl) rfl (by decide +kernel) rfl rfl (Nat.le_of_ble_eq_true rfl) hd ?_
  exact k
theorem gm_get_rounds (hc : κ.1.cls = RX12) (hd : decode κ.2.1 pc = .ok (.getfield 231, 3)) (k : gw_W l κ cy Z (mW cy ad iv ia la) n1 n2 (pc + 3) lv (.int (iv 25) :: st)) : gw_W l κ cy Z (mW cy ad iv ia la) n1 n2 pc lv (.ref (ad 0) :: st) := gw_get (C0 := RX12) (T := TX12) (N := 28) (ref := RX12) 0 rfl rfl inX12 25 (by decide) (by rw [hc]; exact wd_831) (Or.inl rfl) rfl hd k
theorem gm_put_rounds {x : Int32} (hc : κ.1.cls = RX12) (hd : decode κ.2.1 pc = .ok (.putfield 231, 3)) (k : gw_W l κ cy Z (mW cy ad (va_up iv 25 x) ia la) n1 n2 (pc + 3) lv st) : gw_W l κ cy Z (mW cy ad iv ia la) n1 n2 pc lv (.int x :: .ref (ad 0) :: st) := by
  refine gw_put (C0 := RX12) (T := TX12) (N := 28) (ref := RX12) (ty := .int) 0 rfl rfl inX12 25 (by decide) tyX12 tyX12_ok nmX12 (by rw [hc]; exact wd_831) (Or.inl rfl) rfl (by decide +kernel) rfl rfl (Nat.le_of_ble_eq_true rfl) hd ?_
  exact k
theorem gm_get_roundAt (hc : κ.1.cls = RX12) (hd : decode κ.2.1 pc = .ok (.getfield 61, 3)) (k : gw_W l κ cy Z (mW cy ad iv ia la) n1 n2 (pc + 3) lv (.ref (ad 26) :: st)) : gw_W l κ cy Z (mW cy ad iv ia la) n1 n2 pc lv (.ref (ad 0) :: st) := gw_get (C0 := RX12) (T := TX12) (N := 28) (ref := RX12) 0 rfl rfl inX12 26 (by decide) (by rw [hc]; exact wd_832) (Or.inl rfl) rfl hd k
theorem gm_ld_roundAt {j : Nat} {i : Int32} (hi : i = nI j) (hj : j < 3) (hd : decode κ.2.1 pc = .ok (.iaload, 1)) (k : gw_W l κ cy Z (mW cy ad iv ia la) n1 n2 (pc + 1) lv (.int (ia 26 j) :: st)) : gw_W l κ cy Z (mW cy ad iv ia la) n1 n2 pc lv (.int i :: .ref (ad 26) :: st) := gw_iald 16 rfl hi hj (by decide) hd k
theorem gm_st_roundAt {j : Nat} {i : Int32} {x : Int32} (hi : i = nI j) (hj : j < 3) (hd : decode κ.2.1 pc = .ok (.iastore, 1)) (k : gw_W l κ cy Z (mW cy ad iv (va_up ia 26 (upd (ia 26) j x)) la) n1 n2 (pc + 1) lv st) : gw_W l κ cy Z (mW cy ad iv ia la) n1 n2 pc lv (.int x :: .int i :: .ref (ad 26) :: st) := gw_iast 16 rfl hi hj (by decide) hd k
theorem gm_get_roundDone (hc : κ.1.cls = RX12) (hd : decode κ.2.1 pc = .ok (.getfield 64, 3)) (k : gw_W l κ cy Z (mW cy ad iv ia la) n1 n2 (pc + 3) lv (.ref (ad 27) :: st)) : gw_W l κ cy Z (mW cy ad iv ia la) n1 n2 pc lv (.ref (ad 0) :: st) := gw_get (C0 := RX12) (T := TX12) (N := 28) (ref := RX12) 0 rfl rfl inX12 27 (by decide) (by rw [hc]; exact wd_833) (Or.inl rfl) rfl hd k
theorem gm_ld_roundDone {j : Nat} {i : Int32} (hi : i = nI j) (hj : j < 3) (hd : decode κ.2.1 pc = .ok (.iaload, 1)) (k : gw_W l κ cy Z (mW cy ad iv ia la) n1 n2 (pc + 1) lv (.int (ia 27 j) :: st)) : gw_W l κ cy Z (mW cy ad iv ia la) n1 n2 pc lv (.int i :: .ref (ad 27) :: st) := gw_iald 17 rfl hi hj (by decide) hd k
theorem gm_st_roundDone {j : Nat} {i : Int32} {x : Int32} (hi : i = nI j) (hj : j < 3) (hd : decode κ.2.1 pc = .ok (.iastore, 1)) (k : gw_W l κ cy Z (mW cy ad iv (va_up ia 27 (upd (ia 27) j x)) la) n1 n2 (pc + 1) lv st) : gw_W l κ cy Z (mW cy ad iv ia la) n1 n2 pc lv (.int x :: .int i :: .ref (ad 27) :: st) := gw_iast 17 rfl hi hj (by decide) hd k
end MW
end
section
/-! sums as lists: TERMS are pairs of a key and a number; a row of a heap read as such a list; the reference's putting: into a list that is in order -/
abbrev sT : Type := Int32 × Int64
def takeS (ks : Nat → Int32) (ns : Nat → Int64) (off n : Nat) : List sT := (List.range n).map (fun j => (ks (off + j), ns (off + j)))
def sOrd (C : List sT) : Prop := C.Pairwise (fun a b => a.1 < b.1)
def sIns (k : Int32) (v : Int64) : List sT → List sT
  | [] => [(k, v)]
  | (a, x) :: t => if a < k then (a, x) :: sIns k v t else if a = k then (a, x + v) :: t else (k, v) :: (a, x) :: t
theorem i32_lt {a b : Int32} : a < b ↔ a.toInt < b.toInt := Int32.lt_iff_toInt_lt
theorem i32_le {a b : Int32} : a ≤ b ↔ a.toInt ≤ b.toInt := Int32.le_iff_toInt_le
theorem i32_eq {a b : Int32} : a = b ↔ a.toInt = b.toInt := ⟨fun h => by rw [h], fun h => Int32.toInt_inj.mp h⟩
theorem takeS_len (ks : Nat → Int32) (ns : Nat → Int64) (off n : Nat) : (takeS ks ns off n).length = n := by simp [takeS]
theorem takeS_get {ks : Nat → Int32} {ns : Nat → Int64} {off n j : Nat} (h : j < n) : (takeS ks ns off n)[j]? = some (ks (off + j), ns (off + j)) := by
  simp [takeS, h]
theorem takeS_congr {ks ks' : Nat → Int32} {ns ns' : Nat → Int64} {off off' n : Nat} (h : ∀ j, j < n → ks (off + j) = ks' (off' + j) ∧ ns (off + j) = ns' (off' + j)) : takeS ks ns off n = takeS ks' ns' off' n := by
  unfold takeS
  refine List.map_congr_left fun j hj => ?_
  obtain ⟨h1, h2⟩ := h j (List.mem_range.mp hj)
  rw [h1, h2]
theorem takeS_split (ks : Nat → Int32) (ns : Nat → Int64) (off a b : Nat) : takeS ks ns off (a + b) = takeS ks ns off a ++ takeS ks ns (off + a) b := by
  unfold takeS
  rw [List.range_add, List.map_append, List.map_map]
  congr 1
  refine List.map_congr_left fun j _ => ?_
  simp only [Function.comp]
  rw [Nat.add_assoc]
theorem takeS_cons (ks : Nat → Int32) (ns : Nat → Int64) (off n : Nat) : takeS ks ns off (n + 1) = (ks off, ns off) :: takeS ks ns (off + 1) n := by
  rw [Nat.add_comm n 1, takeS_split]
  rfl
theorem takeS_zero (ks : Nat → Int32) (ns : Nat → Int64) (off : Nat) : takeS ks ns off 0 = [] := rfl
theorem sOrd_iff {ks : Nat → Int32} {ns : Nat → Int64} {off n : Nat} : sOrd (takeS ks ns off n) ↔ ∀ i j, i < j → j < n → ks (off + i) < ks (off + j) := by
  unfold sOrd
  rw [List.pairwise_iff_getElem]
  constructor
  · intro h i j hij hj
    have := h i j (by rw [takeS_len]; omega) (by rw [takeS_len]; exact hj) hij
    simpa [takeS] using this
  · intro h i j hi hj hij
    rw [takeS_len] at hi hj
    have := h i j hij hj
    simpa [takeS] using this
theorem sIns_app {k : Int32} {v : Int64} {A B : List sT} (h : ∀ q ∈ A, q.1 < k) : sIns k v (A ++ B) = A ++ sIns k v B := by
  induction A with
  | nil => rfl
  | cons a t ih =>
    obtain ⟨x, y⟩ := a
    have h1 : x < k := h (x, y) List.mem_cons_self
    rw [List.cons_append, sIns, if_pos h1, ih (fun q hq => h q (List.mem_cons_of_mem _ hq)), List.cons_append]
theorem takeS_mem {ks : Nat → Int32} {ns : Nat → Int64} {off n : Nat} {q : sT} : q ∈ takeS ks ns off n ↔ ∃ j, j < n ∧ q = (ks (off + j), ns (off + j)) := by
  unfold takeS
  rw [List.mem_map]
  constructor
  · rintro ⟨j, hj, e⟩; exact ⟨j, List.mem_range.mp hj, e.symm⟩
  · rintro ⟨j, hj, e⟩; exact ⟨j, List.mem_range.mpr hj, e.symm⟩
/-- the reference's row behind a new key -/
theorem sIns_new {ks kk : Nat → Int32} {ns nn : Nat → Int64} {n low : Nat} {k : Int32} {v : Int64} (hl : low ≤ n) (h1 : ∀ j, j < low → ks j < k) (h2 : low = n ∨ k < ks low)
    (hA : ∀ j, j < low → kk j = ks j ∧ nn j = ns j) (hk : kk low = k ∧ nn low = v) (hB : ∀ j, low < j → j ≤ n → kk j = ks (j - 1) ∧ nn j = ns (j - 1)) : takeS kk nn 0 (n + 1) = sIns k v (takeS ks ns 0 n) := by
  obtain ⟨b, rfl⟩ : ∃ b, n = low + b := ⟨n - low, by omega⟩
  rw [takeS_split ks ns, Nat.add_assoc, takeS_split kk nn, takeS_cons, sIns_app (fun q hq => by
    obtain ⟨j, hj, rfl⟩ := takeS_mem.mp hq
    simpa using h1 j hj)]
  simp only [Nat.zero_add]
  rw [hk.1, hk.2, takeS_congr (ks' := ks) (ns' := ns) (off' := 0) (n := low) (fun j hj => by simpa using hA j hj)]
  congr 1
  have e2 : takeS kk nn (low + 1) b = takeS ks ns low b := takeS_congr (fun j hj => by
    have := hB (low + 1 + j) (by omega) (by omega)
    rw [show low + 1 + j - 1 = low + j by omega] at this
    exact this)
  rw [e2]
  cases b with
  | zero => rfl
  | succ b =>
    have h3 : k < ks low := by rcases h2 with h2 | h2; omega; exact h2
    rw [takeS_cons, sIns, if_neg, if_neg]
    · intro e; rw [i32_lt, e] at h3; omega
    · intro e; rw [i32_lt] at h3 e; omega
/-- the reference's row where the key was there -/
theorem sIns_old {ks : Nat → Int32} {ns nn : Nat → Int64} {n low : Nat} {k : Int32} {v : Int64} (hl : low < n) (h1 : ∀ j, j < low → ks j < k) (h2 : ks low = k)
    (hA : ∀ j, j ≠ low → nn j = ns j) (hk : nn low = ns low + v) : takeS ks nn 0 n = sIns k v (takeS ks ns 0 n) := by
  obtain ⟨b, rfl⟩ : ∃ b, n = low + (b + 1) := ⟨n - low - 1, by omega⟩
  rw [takeS_split ks ns, takeS_split ks nn, takeS_cons, takeS_cons, sIns_app (fun q hq => by
    obtain ⟨j, hj, rfl⟩ := takeS_mem.mp hq
    simpa using h1 j hj)]
  simp only [Nat.zero_add]
  rw [takeS_congr (ks := ks) (ns := nn) (ks' := ks) (ns' := ns) (off' := 0) (n := low) (fun j hj => ⟨rfl, by simpa using hA j (by omega)⟩)]
  congr 1
  have e2 : takeS ks nn (low + 1) b = takeS ks ns (low + 1) b := takeS_congr (fun j hj => ⟨rfl, hA _ (by omega)⟩)
  have h3 : ¬ ks low < k := by rw [h2, i32_lt]; omega
  rw [e2, sIns, if_neg h3, if_pos h2, hk]
end
section
abbrev kX12_put : gw_K := (yX12_put, cX12_put, 7, { frames := 0, cells := 0, slots := 0, locals := 0 }, none)
theorem ok_X12_put : gw_calV kX12_put 2 := ⟨⟨wd_951, wd_62, by decide, by decide, by decide +kernel⟩, wd_950, wd_36⟩
def qm_put (cy : Nat → ClassId) (ad : Nat → Nat) (iv : Nat → Int32) (ia : Nat → Nat → Int32) (la : Nat → Nat → Int64) (n : Nat) (k : Int32) (v : Int64) : gw_Q := fun r w' => r = none ∧ ∃ (n' : Nat) (kk : Nat → Int32) (nn : Nat → Int64), w' = mW cy ad (va_up iv 9 (nI n')) (va_up ia 10 kk) (va_up la 11 nn) ∧ takeS kk nn 0 n' = sIns k v (takeS (ia 10) (la 11) 0 n)
theorem va_up_id {α : Type} (f : Nat → α) (k : Nat) : va_up f k (f k) = f := by
  funext j
  unfold va_up
  split
  · rename_i h; rw [h]
  · rfl
set_option maxHeartbeats 4000000 in
set_option maxRecDepth 100000 in
theorem c_mput (l : Launch) (cy : Nat → ClassId) (ad : Nat → Nat) (iv : Nat → Int32) (ia : Nat → Nat → Int32) (la : Nat → Nat → Int64) (n : Nat) (k : Int32) (v : Int64) (hn : iv 9 = nI n) (hlt : n < 1000) (hso : sOrd (takeS (ia 10) (la 11) 0 n)) : gw_M l kX12_put cy [.ref (ad 0), .int (k), .long (v)] (mW cy ad iv ia la) (qm_put cy ad iv ia la n k v) := by
  refine gw_M.mk (lv := [some (.ref (ad 0)), some (.int (k)), some (.long (v)), none, none, none, none]) (by decide) (Nat.le_of_ble_eq_true rfl) rfl ?_
  generalize hpost : (qm_put cy ad iv ia la n k v : gw_Q) = post
  have ord := sOrd_iff.mp hso
  simp only [Nat.zero_add] at ord
  refine gw_iconst (v := nI (0)) dX12_put_0 (by decide) ?_
  refine gw_istore dX12_put_1 (by decide) rfl ?_
  refine gw_aload_n dX12_put_3 rfl ?_
  refine gm_get_made rfl dX12_put_4 ?_
  refine gw_topi (y := nI (n)) (hn) ?_
  refine gw_istore dX12_put_7 (by decide) rfl ?_
  have cut9 : ∀ (fu : Nat) (low : Nat) (high : Nat), (low ≤ high) → (high ≤ n) → (∀ j, j < low → ia 10 j < k) → (∀ j, high ≤ j → j < n → ¬ ia 10 j < k) → (high - low) < fu → gw_W l kX12_put cy (gw_R kX12_put post) (mW cy ad iv ia la) 0 0 9 [some (.ref (ad 0)), some (.int (k)), some (.long (v)), none, some (.int (nI (low))), some (.int (nI (high))), none] [] := by
    intro fu
    induction fu with
    | zero => intro low high h1 h2 h3 h4 hfu; exact absurd hfu (Nat.not_lt_zero _)
    | succ fu ih9 =>
      intro low high h1 h2 h3 h4 hfu
      refine gw_iload dX12_put_9 rfl ?_
      refine gw_iload dX12_put_11 rfl ?_
      refine gw_icmpN_ge (tgt := 52) dX12_put_13 (by decide) (by omega) (by omega) (fun c13 => ?_) (fun c13 => ?_)
      · have e1 : low = high := by omega
        have h4 : ∀ j, low ≤ j → j < n → ¬ ia 10 j < k := by rw [e1]; exact h4
        have cut72 : (low = n ∨ ¬ ia 10 low = k) → gw_W l kX12_put cy (gw_R kX12_put post) (mW cy ad iv ia la) 0 0 72 [some (.ref (ad 0)), some (.int (k)), some (.long (v)), none, some (.int (nI (low))), none, none] [] := by
          intro h5
          refine gw_aload_n dX12_put_72 rfl ?_
          refine gm_get_made rfl dX12_put_73 ?_
          refine gw_topi (y := nI (n)) (hn) ?_
          refine gw_istore dX12_put_76 (by decide) rfl ?_
          have cut78 : ∀ (fu : Nat) (i : Nat) (kk : Nat → Int32) (nn : Nat → Int64), (low ≤ i) → (i ≤ n) → (∀ j, j ≤ i → kk j = ia 10 j ∧ nn j = la 11 j) → (∀ j, i < j → j ≤ n → kk j = ia 10 (j - 1) ∧ nn j = la 11 (j - 1)) → (i) < fu → gw_W l kX12_put cy (gw_R kX12_put post) (mW cy ad iv (va_up ia 10 (kk)) (va_up la 11 (nn))) 0 0 78 [some (.ref (ad 0)), some (.int (k)), some (.long (v)), none, some (.int (nI (low))), none, some (.int (nI (i)))] [] := by
            intro fu
            induction fu with
            | zero => intro i kk nn g1 g2 g3 g4 hfu; exact absurd hfu (Nat.not_lt_zero _)
            | succ fu ih78 =>
              intro i kk nn g1 g2 g3 g4 hfu
              refine gw_iload dX12_put_78 rfl ?_
              refine gw_iload dX12_put_80 rfl ?_
              refine gw_icmpN_le (tgt := 123) dX12_put_82 (by decide) (by omega) (by omega) (fun c82 => ?_) (fun c82 => ?_)
              · have e2 : low = i := by omega
                subst e2
                refine gw_aload_n dX12_put_123 rfl ?_
                refine gm_get_madeKey rfl dX12_put_124 ?_
                refine gw_iload dX12_put_127 rfl ?_
                refine gw_iload_n dX12_put_129 rfl ?_
                refine gm_st_madeKey (j := low) (rfl) (by omega) dX12_put_130 ?_
                refine gw_W.wd (w' := (mW cy ad iv (va_up ia 10 (upd (kk) (low) (k))) (va_up la 11 (nn)))) rfl ?_
                refine gw_aload_n dX12_put_131 rfl ?_
                refine gm_get_madeNumber rfl dX12_put_132 ?_
                refine gw_iload dX12_put_135 rfl ?_
                refine gw_lconst (v := (0 : Int64)) dX12_put_137 (by decide) ?_
                refine gm_st_madeNumber (j := low) (rfl) (by omega) dX12_put_138 ?_
                refine gw_W.wd (w' := (mW cy ad iv (va_up ia 10 (upd (kk) (low) (k))) (va_up la 11 (vp_updL (nn) (low) ((0 : Int64)))))) rfl ?_
                refine gw_aload_n dX12_put_139 rfl ?_
                refine gw_dup dX12_put_140 rfl ?_
                refine gm_get_made rfl dX12_put_141 ?_
                refine gw_topi (y := nI (n)) (hn) ?_
                refine gw_iconst (v := nI (1)) dX12_put_144 (by decide) ?_
                refine gw_iaddN dX12_put_145 ?_
                refine gm_put_made rfl dX12_put_146 ?_
                refine gw_W.wd (w' := (mW cy ad (va_up iv 9 (nI (n + 1))) (va_up ia 10 (upd (kk) (low) (k))) (va_up la 11 (vp_updL (nn) (low) ((0 : Int64)))))) rfl ?_
                refine gw_aload_n dX12_put_149 rfl ?_
                refine gm_get_madeNumber rfl dX12_put_150 ?_
                refine gw_iload dX12_put_153 rfl ?_
                refine gw_dup2 dX12_put_155 rfl rfl ?_
                refine gm_ld_madeNumber (j := low) (rfl) (by omega) dX12_put_156 ?_
                refine gw_topl (y := (vp_updL (nn) (low) ((0 : Int64))) (low)) rfl ?_
                refine gw_lload_n dX12_put_157 rfl ?_
                refine gw_ladd dX12_put_158 ?_
                refine gm_st_madeNumber (j := low) (rfl) (by omega) dX12_put_159 ?_
                refine gw_W.wd (w' := (mW cy ad (va_up iv 9 (nI (n + 1))) (va_up ia 10 (upd (kk) (low) (k))) (va_up la 11 (vp_updL (vp_updL (nn) (low) ((0 : Int64))) (low) (((vp_updL (nn) (low) ((0 : Int64))) (low)) + (v)))))) rfl ?_
                refine gw_vret (?_) (by decide) (by decide) rfl dX12_put_160
                subst hpost
                first
                  | exact ⟨rfl, n, ia 10, _, by rw [← hn, va_up_id, va_up_id], sIns_old (low := low) (by omega) h3 c69 (fun j hj => pk_uLn hj) pk_uLs⟩
                  | exact ⟨rfl, n + 1, _, _, rfl, sIns_new (low := low) g2 h3 (by
                      rcases h5 with h5 | h5
                      · exact Or.inl h5
                      · rcases Nat.lt_or_ge low n with g | g
                        · have g9 := h4 low (Nat.le_refl _) g
                          refine Or.inr ?_
                          rw [i32_eq] at h5; rw [i32_lt] at g9 ⊢; omega
                        · exact Or.inl (by omega)) (fun j hj => ⟨by rw [pk_un (by omega)]; exact (g3 j (by omega)).1, by rw [pk_uLn (by omega), pk_uLn (by omega)]; exact (g3 j (by omega)).2⟩) ⟨pk_us, by rw [pk_uLs, pk_uLs]; exact Int64.zero_add v⟩ (fun j hj hn0 => ⟨by rw [pk_un (by omega)]; exact (g4 j hj hn0).1, by rw [pk_uLn (by omega), pk_uLn (by omega)]; exact (g4 j hj hn0).2⟩)⟩
              · refine gw_aload_n dX12_put_85 rfl ?_
                refine gm_get_madeKey rfl dX12_put_86 ?_
                refine gw_iload dX12_put_89 rfl ?_
                refine gw_aload_n dX12_put_91 rfl ?_
                refine gm_get_madeKey rfl dX12_put_92 ?_
                refine gw_iload dX12_put_95 rfl ?_
                refine gw_iconst (v := nI (1)) dX12_put_97 (by decide) ?_
                refine gw_isubN dX12_put_98 (by omega) ?_
                refine gm_ld_madeKey (j := (i) - (1)) (rfl) (by omega) dX12_put_99 ?_
                refine gw_topi (y := (kk) ((i) - (1))) rfl ?_
                refine gm_st_madeKey (j := i) (rfl) (by omega) dX12_put_100 ?_
                refine gw_W.wd (w' := (mW cy ad iv (va_up ia 10 (upd (kk) (i) ((kk) ((i) - (1))))) (va_up la 11 (nn)))) rfl ?_
                refine gw_aload_n dX12_put_101 rfl ?_
                refine gm_get_madeNumber rfl dX12_put_102 ?_
                refine gw_iload dX12_put_105 rfl ?_
                refine gw_aload_n dX12_put_107 rfl ?_
                refine gm_get_madeNumber rfl dX12_put_108 ?_
                refine gw_iload dX12_put_111 rfl ?_
                refine gw_iconst (v := nI (1)) dX12_put_113 (by decide) ?_
                refine gw_isubN dX12_put_114 (by omega) ?_
                refine gm_ld_madeNumber (j := (i) - (1)) (rfl) (by omega) dX12_put_115 ?_
                refine gw_topl (y := (nn) ((i) - (1))) rfl ?_
                refine gm_st_madeNumber (j := i) (rfl) (by omega) dX12_put_116 ?_
                refine gw_W.wd (w' := (mW cy ad iv (va_up ia 10 (upd (kk) (i) ((kk) ((i) - (1))))) (va_up la 11 (vp_updL (nn) (i) ((nn) ((i) - (1))))))) rfl ?_
                refine gw_iinc (v := nI (i - 1)) dX12_put_117 rfl ((show nI (i) + Int32.ofInt (-1) = nI (i - 1) from by rw [show Int32.ofInt (-1) = -(nI 1) from by decide, ← Int32.sub_eq_add_neg]; exact pk_sub (by omega))) (by decide) rfl ?_
                refine gw_goto (tgt := 78) dX12_put_120 (by decide) ?_
                refine gw_W.wd (w' := (mW cy ad iv (va_up ia 10 ((upd (kk) (i) ((kk) ((i) - (1)))))) (va_up la 11 ((vp_updL (nn) (i) ((nn) ((i) - (1)))))))) rfl ?_
                refine ih78 (i - 1) ((upd (kk) (i) ((kk) ((i) - (1))))) ((vp_updL (nn) (i) ((nn) ((i) - (1))))) ?_ ?_ ?_ ?_ ?_
                · omega
                · omega
                · intro j hj; rw [pk_un (by omega), pk_uLn (by omega)]; exact g3 j (by omega)
                · intro j hj hn0
                  rcases Nat.lt_or_ge i j with g | g
                  · rw [pk_un (by omega), pk_uLn (by omega)]; exact g4 j g hn0
                  · have e3 : j = i := by omega
                    subst e3; rw [pk_us, pk_uLs]; exact g3 (j - 1) (by omega)
                · omega
          refine gw_W.wd (w' := (mW cy ad iv (va_up ia 10 ((ia 10))) (va_up la 11 ((la 11))))) rfl ?_
          refine cut78 _ (n) ((ia 10)) ((la 11)) (by omega) (Nat.le_refl _) (fun j _ => ⟨rfl, rfl⟩) (fun j h h0 => absurd h0 (by omega)) (Nat.lt_succ_self _)
        refine gw_iload dX12_put_52 rfl ?_
        refine gw_aload_n dX12_put_54 rfl ?_
        refine gm_get_made rfl dX12_put_55 ?_
        refine gw_topi (y := nI (n)) (hn) ?_
        refine gw_icmpN_eq (tgt := 72) dX12_put_58 (by decide) (by omega) (by omega) (fun c58 => ?_) (fun c58 => ?_)
        · refine gw_W.forget 5 ?_
          refine cut72  (Or.inl c58)
        · refine gw_aload_n dX12_put_61 rfl ?_
          refine gm_get_madeKey rfl dX12_put_62 ?_
          refine gw_iload dX12_put_65 rfl ?_
          refine gm_ld_madeKey (j := low) (rfl) (by omega) dX12_put_67 ?_
          refine gw_iload_n dX12_put_68 rfl ?_
          refine gw_icmp_eq (tgt := 149) dX12_put_69 (by decide) (fun c69 => ?_) (fun c69 => ?_)
          · refine gw_aload_n dX12_put_149 rfl ?_
            refine gm_get_madeNumber rfl dX12_put_150 ?_
            refine gw_iload dX12_put_153 rfl ?_
            refine gw_dup2 dX12_put_155 rfl rfl ?_
            refine gm_ld_madeNumber (j := low) (rfl) (by omega) dX12_put_156 ?_
            refine gw_lload_n dX12_put_157 rfl ?_
            refine gw_ladd dX12_put_158 ?_
            refine gm_st_madeNumber (j := low) (rfl) (by omega) dX12_put_159 ?_
            refine gw_W.wd (w' := (mW cy ad iv ia (va_up la 11 (vp_updL (la 11) (low) (((la 11) (low)) + (v)))))) rfl ?_
            refine gw_vret (?_) (by decide) (by decide) rfl dX12_put_160
            subst hpost
            first
              | exact ⟨rfl, n, ia 10, _, by rw [← hn, va_up_id, va_up_id], sIns_old (low := low) (by omega) h3 c69 (fun j hj => pk_uLn hj) pk_uLs⟩
              | exact ⟨rfl, n + 1, _, _, rfl, sIns_new (low := low) g2 h3 (by
                  rcases h5 with h5 | h5
                  · exact Or.inl h5
                  · rcases Nat.lt_or_ge low n with g | g
                    · have g9 := h4 low (Nat.le_refl _) g
                      refine Or.inr ?_
                      rw [i32_eq] at h5; rw [i32_lt] at g9 ⊢; omega
                    · exact Or.inl (by omega)) (fun j hj => ⟨by rw [pk_un (by omega)]; exact (g3 j (by omega)).1, by rw [pk_uLn (by omega), pk_uLn (by omega)]; exact (g3 j (by omega)).2⟩) ⟨pk_us, by rw [pk_uLs, pk_uLs]; exact Int64.zero_add v⟩ (fun j hj hn0 => ⟨by rw [pk_un (by omega)]; exact (g4 j hj hn0).1, by rw [pk_uLn (by omega), pk_uLn (by omega)]; exact (g4 j hj hn0).2⟩)⟩
          · refine gw_W.forget 5 ?_
            refine cut72  (Or.inr c69)
      · refine gw_iload dX12_put_16 rfl ?_
        refine gw_iload dX12_put_18 rfl ?_
        refine gw_iaddN dX12_put_20 ?_
        refine gw_iconst (v := nI (2)) dX12_put_21 (by decide) ?_
        refine gw_idivN dX12_put_22 (by omega) (by omega) (by omega) ?_
        refine gw_istore dX12_put_23 (by decide) rfl ?_
        refine gw_aload_n dX12_put_25 rfl ?_
        refine gm_get_madeKey rfl dX12_put_26 ?_
        refine gw_iload dX12_put_29 rfl ?_
        refine gm_ld_madeKey (j := (low + high) / (2)) (rfl) (by omega) dX12_put_31 ?_
        refine gw_iload_n dX12_put_32 rfl ?_
        refine gw_icmp_ge (tgt := 45) dX12_put_33 (by decide) (fun c33 => ?_) (fun c33 => ?_)
        · have q3 := h3
          have q4 : ∀ j, (low + high) / 2 ≤ j → j < n → ¬ ia 10 j < k := fun j hj hn0 => by
            rcases Nat.lt_or_ge ((low + high) / 2) j with g | g
            · have o1 := ord _ _ g hn0; rw [i32_lt] at o1 ⊢; rw [i32_le] at c33; omega
            · have e0 : j = (low + high) / 2 := by omega
              rw [e0, i32_lt]; rw [i32_le] at c33; omega
          refine gw_iload dX12_put_45 rfl ?_
          refine gw_istore dX12_put_47 (by decide) rfl ?_
          refine gw_goto (tgt := 9) dX12_put_49 (by decide) ?_
          refine gw_W.forget 6 ?_
          refine ih9 (low) ((low + high) / (2)) ?_ ?_ ?_ ?_ ?_
          · omega
          · omega
          · exact q3
          · exact q4
          · omega
        · have q4 := h4
          have q3 : ∀ j, j < (low + high) / 2 + 1 → ia 10 j < k := fun j hj => by
            rcases Nat.lt_or_ge j ((low + high) / 2) with g | g
            · have o1 := ord _ _ g (by omega); rw [i32_lt] at o1 ⊢; rw [i32_le] at c33; omega
            · have e0 : j = (low + high) / 2 := by omega
              rw [e0, i32_lt]; rw [i32_le] at c33; omega
          refine gw_iload dX12_put_36 rfl ?_
          refine gw_iconst (v := nI (1)) dX12_put_38 (by decide) ?_
          refine gw_iaddN dX12_put_39 ?_
          refine gw_istore dX12_put_40 (by decide) rfl ?_
          refine gw_goto (tgt := 49) dX12_put_42 (by decide) ?_
          refine gw_goto (tgt := 9) dX12_put_49 (by decide) ?_
          refine gw_W.forget 6 ?_
          refine ih9 (((low + high) / (2)) + 1) (high) ?_ ?_ ?_ ?_ ?_
          · omega
          · omega
          · exact q3
          · exact q4
          · omega
  refine cut9 _ (0) (n) (Nat.zero_le _) (Nat.le_refl _) (fun j h => absurd h (Nat.not_lt_zero _)) (fun j h h0 => absurd h0 (by omega)) (Nat.lt_succ_self _)
end
section
/-! the reference's small methods -/
theorem gw_W.norm {l : Launch} {κ : gw_K} {cy : Nat → ClassId} {Z : gw_Z} {w : va_W} {n1 n2 pc : Nat} {lv : List (Option Value)} {st st' : List Value} {k1 k2 : Nat} (hs : st = st') (h1 : n1 = k1) (h2 : n2 = k2) (k : gw_W l κ cy Z w k1 k2 pc lv st') : gw_W l κ cy Z w n1 n2 pc lv st := by
  subst hs h1 h2; exact k
def bI (b : Bool) : Int32 := cond b 1 0
def inZ (v a b : Int) : Bool := decide (a ≤ v ∧ v ≤ b)
theorem bI_0 {b : Bool} : bI b = 0 ↔ b = false := by cases b <;> decide
theorem bI_n0 {b : Bool} : ¬ bI b = 0 ↔ b = true := by cases b <;> decide
theorem bI_nar (b : Bool) : narrow .boolean (.int (bI b)) = .int (bI b) := by cases b <;> decide
theorem inZ_t {v a b : Int} : inZ v a b = true ↔ a ≤ v ∧ v ≤ b := by simp [inZ]
theorem inZ_f {v a b : Int} : inZ v a b = false ↔ ¬ (a ≤ v ∧ v ≤ b) := by simp [inZ]
theorem i64_lt {a b : Int64} : a < b ↔ a.toInt < b.toInt := Int64.lt_iff_toInt_lt
theorem i64_le {a b : Int64} : a ≤ b ↔ a.toInt ≤ b.toInt := Int64.le_iff_toInt_le
theorem i64_of (x : Int32) : x.toInt64.toInt = x.toInt := Int32.toInt_toInt64 x
def mCos (k x : Int32) : Int32 := (k >>> ((nI 16 - nI 5 * x) &&& 31)) &&& nI 15
def mSin (k x : Int32) : Int32 := (k >>> ((nI 15 - nI 5 * x) &&& 31)) &&& nI 1
def mOneC (x : Int32) : Int32 := nI 1 <<< ((nI 16 - nI 5 * x) &&& 31)
def mOneS (x : Int32) : Int32 := nI 1 <<< ((nI 15 - nI 5 * x) &&& 31)
def mProd (k : Int32) : Int32 := k >>> (nI 20 &&& 31)
def mPl (s : Int32) : Nat := if s.toInt < 0 then 8 else s.toInt.toNat
theorem i32_sub1 (n : Nat) (h : n < 2 ^ 31) : (nI n - nI 1).toInt = (n : Int) - 1 := by
  rw [Int32.toInt_sub, nI_toInt h, nI_toInt (by decide)]
  rw [Int.bmod_eq_of_le]
  · rfl
  · omega
  · omega
abbrev kX12_in : gw_K := (yX12_in, cX12_in, 6, { frames := 0, cells := 0, slots := 0, locals := 0 }, (some .boolean))
theorem ok_X12_in : gw_calS kX12_in 3 := ⟨⟨wd_901, wd_62, by decide, by decide, by decide +kernel⟩, wd_900⟩
set_option maxHeartbeats 4000000 in
set_option maxRecDepth 100000 in
theorem c_min (l : Launch) (cy : Nat → ClassId) (v : Int64) (a : Int64) (b : Int64) (w : va_W) : gw_M l kX12_in cy [.long (v), .long (a), .long (b)] w (fun r w' => r = some (.int (bI (inZ v.toInt a.toInt b.toInt))) ∧ w' = w) := by
  refine gw_M.mk (lv := [some (.long (v)), none, some (.long (a)), none, some (.long (b)), none]) (by decide) (Nat.le_of_ble_eq_true rfl) rfl ?_
  generalize hpost : (fun r w' => r = some (.int (bI (inZ v.toInt a.toInt b.toInt))) ∧ w' = w : gw_Q) = post
  refine gw_lload_n dX12_in_0 rfl ?_
  refine gw_lload_n dX12_in_1 rfl ?_
  refine gw_lcmp dX12_in_2 ?_
  refine gw_if_lt (tgt := 17) dX12_in_3 (by decide) (fun c3 => ?_) (fun c3 => ?_)
  · rw [lg_cmp_lt, i64_lt] at c3
    refine gw_iconst (v := nI (0)) dX12_in_17 (by decide) ?_
    refine gw_zret (?_) (by decide) (by decide) rfl (by decide) dX12_in_18
    subst hpost
    exact ⟨by first | (rw [show inZ v.toInt a.toInt b.toInt = true from inZ_t.mpr (by omega)]; rfl) | (rw [show inZ v.toInt a.toInt b.toInt = false from inZ_f.mpr (by omega)]; rfl), rfl⟩
  · rw [lg_cmp_lt, i64_lt] at c3
    refine gw_lload_n dX12_in_6 rfl ?_
    refine gw_lload dX12_in_7 rfl ?_
    refine gw_lcmp dX12_in_9 ?_
    refine gw_if_gt (tgt := 17) dX12_in_10 (by decide) (fun c10 => ?_) (fun c10 => ?_)
    · rw [lg_cmp_gt, i64_lt] at c10
      refine gw_iconst (v := nI (0)) dX12_in_17 (by decide) ?_
      refine gw_zret (?_) (by decide) (by decide) rfl (by decide) dX12_in_18
      subst hpost
      exact ⟨by first | (rw [show inZ v.toInt a.toInt b.toInt = true from inZ_t.mpr (by omega)]; rfl) | (rw [show inZ v.toInt a.toInt b.toInt = false from inZ_f.mpr (by omega)]; rfl), rfl⟩
    · rw [lg_cmp_gt, i64_lt] at c10
      refine gw_iconst (v := nI (1)) dX12_in_13 (by decide) ?_
      refine gw_goto (tgt := 18) dX12_in_14 (by decide) ?_
      refine gw_zret (?_) (by decide) (by decide) rfl (by decide) dX12_in_18
      subst hpost
      exact ⟨by first | (rw [show inZ v.toInt a.toInt b.toInt = true from inZ_t.mpr (by omega)]; rfl) | (rw [show inZ v.toInt a.toInt b.toInt = false from inZ_f.mpr (by omega)]; rfl), rfl⟩
abbrev kX12_cosine : gw_K := (yX12_cosine, cX12_cosine, 2, { frames := 0, cells := 0, slots := 0, locals := 0 }, (some .int))
theorem ok_X12_cosine : gw_calS kX12_cosine 2 := ⟨⟨wd_964, wd_62, by decide, by decide, by decide +kernel⟩, wd_963⟩
set_option maxHeartbeats 4000000 in
set_option maxRecDepth 100000 in
theorem c_mcosine (l : Launch) (cy : Nat → ClassId) (k : Int32) (x : Int32) (w : va_W) : gw_M l kX12_cosine cy [.int (k), .int (x)] w (fun r w' => r = some (.int (mCos k x)) ∧ w' = w) := by
  refine gw_M.mk (lv := [some (.int (k)), some (.int (x))]) (by decide) (Nat.le_of_ble_eq_true rfl) rfl ?_
  generalize hpost : (fun r w' => r = some (.int (mCos k x)) ∧ w' = w : gw_Q) = post
  refine gw_iload_n dX12_cosine_0 rfl ?_
  refine gw_bipush (v := nI (16)) dX12_cosine_1 (by decide) ?_
  refine gw_iconst (v := nI (5)) dX12_cosine_3 (by decide) ?_
  refine gw_iload_n dX12_cosine_4 rfl ?_
  refine gw_imul dX12_cosine_5 ?_
  refine gw_isub dX12_cosine_6 ?_
  refine gw_ishr dX12_cosine_7 ?_
  refine gw_bipush (v := nI (15)) dX12_cosine_8 (by decide) ?_
  refine gw_iand dX12_cosine_10 ?_
  refine gw_iret (?_) (by decide) (by decide) rfl dX12_cosine_11
  subst hpost
  exact ⟨rfl, rfl⟩
abbrev kX12_sine : gw_K := (yX12_sine, cX12_sine, 2, { frames := 0, cells := 0, slots := 0, locals := 0 }, (some .int))
theorem ok_X12_sine : gw_calS kX12_sine 2 := ⟨⟨wd_1020, wd_62, by decide, by decide, by decide +kernel⟩, wd_1019⟩
set_option maxHeartbeats 4000000 in
set_option maxRecDepth 100000 in
theorem c_msine (l : Launch) (cy : Nat → ClassId) (k : Int32) (x : Int32) (w : va_W) : gw_M l kX12_sine cy [.int (k), .int (x)] w (fun r w' => r = some (.int (mSin k x)) ∧ w' = w) := by
  refine gw_M.mk (lv := [some (.int (k)), some (.int (x))]) (by decide) (Nat.le_of_ble_eq_true rfl) rfl ?_
  generalize hpost : (fun r w' => r = some (.int (mSin k x)) ∧ w' = w : gw_Q) = post
  refine gw_iload_n dX12_sine_0 rfl ?_
  refine gw_bipush (v := nI (15)) dX12_sine_1 (by decide) ?_
  refine gw_iconst (v := nI (5)) dX12_sine_3 (by decide) ?_
  refine gw_iload_n dX12_sine_4 rfl ?_
  refine gw_imul dX12_sine_5 ?_
  refine gw_isub dX12_sine_6 ?_
  refine gw_ishr dX12_sine_7 ?_
  refine gw_iconst (v := nI (1)) dX12_sine_8 (by decide) ?_
  refine gw_iand dX12_sine_9 ?_
  refine gw_iret (?_) (by decide) (by decide) rfl dX12_sine_10
  subst hpost
  exact ⟨rfl, rfl⟩
abbrev kX12_oneCosine : gw_K := (yX12_oneCosine, cX12_oneCosine, 1, { frames := 0, cells := 0, slots := 0, locals := 0 }, (some .int))
theorem ok_X12_oneCosine : gw_calS kX12_oneCosine 1 := ⟨⟨wd_1017, wd_62, by decide, by decide, by decide +kernel⟩, wd_1016⟩
set_option maxHeartbeats 4000000 in
set_option maxRecDepth 100000 in
theorem c_moneCosine (l : Launch) (cy : Nat → ClassId) (x : Int32) (w : va_W) : gw_M l kX12_oneCosine cy [.int (x)] w (fun r w' => r = some (.int (mOneC x)) ∧ w' = w) := by
  refine gw_M.mk (lv := [some (.int (x))]) (by decide) (Nat.le_of_ble_eq_true rfl) rfl ?_
  generalize hpost : (fun r w' => r = some (.int (mOneC x)) ∧ w' = w : gw_Q) = post
  refine gw_iconst (v := nI (1)) dX12_oneCosine_0 (by decide) ?_
  refine gw_bipush (v := nI (16)) dX12_oneCosine_1 (by decide) ?_
  refine gw_iconst (v := nI (5)) dX12_oneCosine_3 (by decide) ?_
  refine gw_iload_n dX12_oneCosine_4 rfl ?_
  refine gw_imul dX12_oneCosine_5 ?_
  refine gw_isub dX12_oneCosine_6 ?_
  refine gw_ishl dX12_oneCosine_7 ?_
  refine gw_iret (?_) (by decide) (by decide) rfl dX12_oneCosine_8
  subst hpost
  exact ⟨rfl, rfl⟩
abbrev kX12_oneSine : gw_K := (yX12_oneSine, cX12_oneSine, 1, { frames := 0, cells := 0, slots := 0, locals := 0 }, (some .int))
theorem ok_X12_oneSine : gw_calS kX12_oneSine 1 := ⟨⟨wd_1023, wd_62, by decide, by decide, by decide +kernel⟩, wd_1022⟩
set_option maxHeartbeats 4000000 in
set_option maxRecDepth 100000 in
theorem c_moneSine (l : Launch) (cy : Nat → ClassId) (x : Int32) (w : va_W) : gw_M l kX12_oneSine cy [.int (x)] w (fun r w' => r = some (.int (mOneS x)) ∧ w' = w) := by
  refine gw_M.mk (lv := [some (.int (x))]) (by decide) (Nat.le_of_ble_eq_true rfl) rfl ?_
  generalize hpost : (fun r w' => r = some (.int (mOneS x)) ∧ w' = w : gw_Q) = post
  refine gw_iconst (v := nI (1)) dX12_oneSine_0 (by decide) ?_
  refine gw_bipush (v := nI (15)) dX12_oneSine_1 (by decide) ?_
  refine gw_iconst (v := nI (5)) dX12_oneSine_3 (by decide) ?_
  refine gw_iload_n dX12_oneSine_4 rfl ?_
  refine gw_imul dX12_oneSine_5 ?_
  refine gw_isub dX12_oneSine_6 ?_
  refine gw_ishl dX12_oneSine_7 ?_
  refine gw_iret (?_) (by decide) (by decide) rfl dX12_oneSine_8
  subst hpost
  exact ⟨rfl, rfl⟩
abbrev kX12_productOf : gw_K := (yX12_productOf, cX12_productOf, 1, { frames := 0, cells := 0, slots := 0, locals := 0 }, (some .int))
theorem ok_X12_productOf : gw_calS kX12_productOf 1 := ⟨⟨wd_994, wd_62, by decide, by decide, by decide +kernel⟩, wd_993⟩
set_option maxHeartbeats 4000000 in
set_option maxRecDepth 100000 in
theorem c_mproductOf (l : Launch) (cy : Nat → ClassId) (k : Int32) (w : va_W) : gw_M l kX12_productOf cy [.int (k)] w (fun r w' => r = some (.int (mProd k)) ∧ w' = w) := by
  refine gw_M.mk (lv := [some (.int (k))]) (by decide) (Nat.le_of_ble_eq_true rfl) rfl ?_
  generalize hpost : (fun r w' => r = some (.int (mProd k)) ∧ w' = w : gw_Q) = post
  refine gw_iload_n dX12_productOf_0 rfl ?_
  refine gw_bipush (v := nI (20)) dX12_productOf_1 (by decide) ?_
  refine gw_ishr dX12_productOf_3 ?_
  refine gw_iret (?_) (by decide) (by decide) rfl dX12_productOf_4
  subst hpost
  exact ⟨rfl, rfl⟩
abbrev kX12_isTable : gw_K := (yX12_isTable, cX12_isTable, 1, { frames := 1, cells := 0, slots := 0, locals := 25 }, (some .boolean))
theorem ok_X12_isTable : gw_calS kX12_isTable 1 := ⟨⟨wd_897, wd_62, by decide, by decide, by decide +kernel⟩, wd_896⟩
set_option maxHeartbeats 4000000 in
set_option maxRecDepth 100000 in
theorem c_misTable (l : Launch) (cy : Nat → ClassId) (k : Int32) (w : va_W) : gw_M l kX12_isTable cy [.int (k)] w (fun r w' => r = some (.int (bI (inZ k.toInt 0 7))) ∧ w' = w) := by
  refine gw_M.mk (lv := [some (.int (k))]) (by decide) (Nat.le_of_ble_eq_true rfl) rfl ?_
  generalize hpost : (fun r w' => r = some (.int (bI (inZ k.toInt 0 7))) ∧ w' = w : gw_Q) = post
  refine gw_iload_n dX12_isTable_0 rfl ?_
  refine gw_i2l dX12_isTable_1 rfl ?_
  refine gw_lconst (v := (0 : Int64)) dX12_isTable_2 (by decide) ?_
  refine gw_ldc2 dX12_isTable_3 wd_898 ?_
  refine gw_callS (As := [.long ((k).toInt64), .long ((0 : Int64)), .long ((7 : Int64))]) (st := []) (c_min l cy ((k).toInt64) ((0 : Int64)) ((7 : Int64)) w) ok_X12_in wd_899 rfl rfl dX12_isTable_6 (by decide) (by decide) (Nat.le_of_ble_eq_true rfl) (fun r6 w6 hp6 => ?_)
  obtain ⟨rfl, rfl⟩ := hp6
  refine gw_W.norm (st' := [.int (bI (inZ ((k).toInt64).toInt ((0 : Int64)).toInt ((7 : Int64)).toInt))]) (k1 := 0) (k2 := 0) rfl rfl rfl ?_
  refine gw_zret (?_) (by decide) (by decide) rfl (bI_nar _) dX12_isTable_9
  subst hpost
  exact ⟨by rw [i64_of]; rfl, rfl⟩
abbrev kX12_isShelf : gw_K := (yX12_isShelf, cX12_isShelf, 1, { frames := 1, cells := 0, slots := 0, locals := 25 }, (some .boolean))
theorem ok_X12_isShelf : gw_calS kX12_isShelf 1 := ⟨⟨wd_931, wd_62, by decide, by decide, by decide +kernel⟩, wd_930⟩
set_option maxHeartbeats 4000000 in
set_option maxRecDepth 100000 in
theorem c_misShelf (l : Launch) (cy : Nat → ClassId) (k : Int32) (w : va_W) : gw_M l kX12_isShelf cy [.int (k)] w (fun r w' => r = some (.int (bI (inZ k.toInt (-1) 7))) ∧ w' = w) := by
  refine gw_M.mk (lv := [some (.int (k))]) (by decide) (Nat.le_of_ble_eq_true rfl) rfl ?_
  generalize hpost : (fun r w' => r = some (.int (bI (inZ k.toInt (-1) 7))) ∧ w' = w : gw_Q) = post
  refine gw_iload_n dX12_isShelf_0 rfl ?_
  refine gw_i2l dX12_isShelf_1 rfl ?_
  refine gw_ldc2 dX12_isShelf_2 wd_932 ?_
  refine gw_ldc2 dX12_isShelf_5 wd_898 ?_
  refine gw_callS (As := [.long ((k).toInt64), .long (((-1) : Int64)), .long ((7 : Int64))]) (st := []) (c_min l cy ((k).toInt64) (((-1) : Int64)) ((7 : Int64)) w) ok_X12_in wd_899 rfl rfl dX12_isShelf_8 (by decide) (by decide) (Nat.le_of_ble_eq_true rfl) (fun r8 w8 hp8 => ?_)
  obtain ⟨rfl, rfl⟩ := hp8
  refine gw_W.norm (st' := [.int (bI (inZ ((k).toInt64).toInt (((-1) : Int64)).toInt ((7 : Int64)).toInt))]) (k1 := 0) (k2 := 0) rfl rfl rfl ?_
  refine gw_zret (?_) (by decide) (by decide) rfl (bI_nar _) dX12_isShelf_11
  subst hpost
  exact ⟨by rw [i64_of]; rfl, rfl⟩
abbrev kX12_finds : gw_K := (yX12_finds, cX12_finds, 2, { frames := 0, cells := 0, slots := 0, locals := 0 }, (some .int))
theorem ok_X12_finds : gw_calV kX12_finds 1 := ⟨⟨wd_907, wd_62, by decide, by decide, by decide +kernel⟩, wd_906, wd_32⟩
set_option maxHeartbeats 4000000 in
set_option maxRecDepth 100000 in
theorem c_mfinds (l : Launch) (cy : Nat → ClassId) (ad : Nat → Nat) (iv : Nat → Int32) (ia : Nat → Nat → Int32) (la : Nat → Nat → Int64) (f : Int32) : gw_M l kX12_finds cy [.ref (ad 0), .int (f)] (mW cy ad iv ia la) (fun r w' => r = some (.int ((-1000010) - f)) ∧ w' = mW cy ad (va_up iv 19 f) ia la) := by
  refine gw_M.mk (lv := [some (.ref (ad 0)), some (.int (f))]) (by decide) (Nat.le_of_ble_eq_true rfl) rfl ?_
  generalize hpost : (fun r w' => r = some (.int ((-1000010) - f)) ∧ w' = mW cy ad (va_up iv 19 f) ia la : gw_Q) = post
  refine gw_aload_n dX12_finds_0 rfl ?_
  refine gw_iload_n dX12_finds_1 rfl ?_
  refine gm_put_status rfl dX12_finds_2 ?_
  refine gw_W.wd (w' := (mW cy ad (va_up iv 19 (f)) ia la)) rfl ?_
  refine gw_ldc dX12_finds_5 wd_908 ?_
  refine gw_iload_n dX12_finds_7 rfl ?_
  refine gw_isub dX12_finds_8 ?_
  refine gw_iret (?_) (by decide) (by decide) rfl dX12_finds_9
  subst hpost
  exact ⟨rfl, rfl⟩
abbrev kX12_well : gw_K := (yX12_well, cX12_well, 2, { frames := 0, cells := 0, slots := 0, locals := 0 }, (some .int))
theorem ok_X12_well : gw_calV kX12_well 1 := ⟨⟨wd_912, wd_62, by decide, by decide, by decide +kernel⟩, wd_911, wd_33⟩
set_option maxHeartbeats 4000000 in
set_option maxRecDepth 100000 in
theorem c_mwell (l : Launch) (cy : Nat → ClassId) (ad : Nat → Nat) (iv : Nat → Int32) (ia : Nat → Nat → Int32) (la : Nat → Nat → Int64) (v : Int32) : gw_M l kX12_well cy [.ref (ad 0), .int (v)] (mW cy ad iv ia la) (fun r w' => r = some (.int v) ∧ w' = mW cy ad (va_up iv 19 0) ia la) := by
  refine gw_M.mk (lv := [some (.ref (ad 0)), some (.int (v))]) (by decide) (Nat.le_of_ble_eq_true rfl) rfl ?_
  generalize hpost : (fun r w' => r = some (.int v) ∧ w' = mW cy ad (va_up iv 19 0) ia la : gw_Q) = post
  refine gw_aload_n dX12_well_0 rfl ?_
  refine gw_iconst (v := nI (0)) dX12_well_1 (by decide) ?_
  refine gm_put_status rfl dX12_well_2 ?_
  refine gw_W.wd (w' := (mW cy ad (va_up iv 19 (nI (0))) ia la)) rfl ?_
  refine gw_iload_n dX12_well_5 rfl ?_
  refine gw_iret (?_) (by decide) (by decide) rfl dX12_well_6
  subst hpost
  exact ⟨rfl, rfl⟩
abbrev kX12_isProduct : gw_K := (yX12_isProduct, cX12_isProduct, 2, { frames := 1, cells := 0, slots := 0, locals := 25 }, (some .boolean))
theorem ok_X12_isProduct : gw_calV kX12_isProduct 1 := ⟨⟨wd_943, wd_62, by decide, by decide, by decide +kernel⟩, wd_942, wd_34⟩
set_option maxHeartbeats 4000000 in
set_option maxRecDepth 100000 in
theorem c_misProduct (l : Launch) (cy : Nat → ClassId) (ad : Nat → Nat) (iv : Nat → Int32) (ia : Nat → Nat → Int32) (la : Nat → Nat → Int64) (p : Int32) (np : Nat) (hnp : iv 1 = nI np) (h0 : 0 < np) (h1 : np < 2 ^ 31) : gw_M l kX12_isProduct cy [.ref (ad 0), .int (p)] (mW cy ad iv ia la) (fun r w' => r = some (.int (bI (inZ p.toInt 0 (np - 1)))) ∧ w' = mW cy ad iv ia la) := by
  refine gw_M.mk (lv := [some (.ref (ad 0)), some (.int (p))]) (by decide) (Nat.le_of_ble_eq_true rfl) rfl ?_
  generalize hpost : (fun r w' => r = some (.int (bI (inZ p.toInt 0 (np - 1)))) ∧ w' = mW cy ad iv ia la : gw_Q) = post
  refine gw_iload_n dX12_isProduct_0 rfl ?_
  refine gw_i2l dX12_isProduct_1 rfl ?_
  refine gw_lconst (v := (0 : Int64)) dX12_isProduct_2 (by decide) ?_
  refine gw_aload_n dX12_isProduct_3 rfl ?_
  refine gm_get_products rfl dX12_isProduct_4 ?_
  refine gw_topi (y := nI (np)) (hnp) ?_
  refine gw_iconst (v := nI (1)) dX12_isProduct_7 (by decide) ?_
  refine gw_isubN dX12_isProduct_8 (by omega) ?_
  refine gw_i2l dX12_isProduct_9 rfl ?_
  refine gw_callS (As := [.long ((p).toInt64), .long ((0 : Int64)), .long ((nI ((np) - (1))).toInt64)]) (st := []) (c_min l cy ((p).toInt64) ((0 : Int64)) ((nI ((np) - (1))).toInt64) (mW cy ad iv ia la)) ok_X12_in wd_899 rfl rfl dX12_isProduct_10 (by decide) (by decide) (Nat.le_of_ble_eq_true rfl) (fun r10 w10 hp10 => ?_)
  obtain ⟨rfl, rfl⟩ := hp10
  refine gw_W.norm (st' := [.int (bI (inZ ((p).toInt64).toInt ((0 : Int64)).toInt ((nI ((np) - (1))).toInt64).toInt))]) (k1 := 0) (k2 := 0) rfl rfl rfl ?_
  refine gw_zret (?_) (by decide) (by decide) rfl (bI_nar _) dX12_isProduct_13
  subst hpost
  refine ⟨?_, rfl⟩
  rw [i64_of, i64_of, nI_toInt (by omega), show ((np - 1 : Nat) : Int) = (np : Int) - 1 by omega]; rfl
abbrev kX12_isWay : gw_K := (yX12_isWay, cX12_isWay, 1, { frames := 0, cells := 0, slots := 0, locals := 0 }, (some .boolean))
theorem ok_X12_isWay : gw_calS kX12_isWay 1 := ⟨⟨wd_1010, wd_62, by decide, by decide, by decide +kernel⟩, wd_1009⟩
set_option maxHeartbeats 4000000 in
set_option maxRecDepth 100000 in
theorem c_misWay (l : Launch) (cy : Nat → ClassId) (x : Int32) (w : va_W) : gw_M l kX12_isWay cy [.int (x)] w (fun r w' => r = some (.int (bI (decide (x = 1 ∨ x = -1)))) ∧ w' = w) := by
  refine gw_M.mk (lv := [some (.int (x))]) (by decide) (Nat.le_of_ble_eq_true rfl) rfl ?_
  generalize hpost : (fun r w' => r = some (.int (bI (decide (x = 1 ∨ x = -1)))) ∧ w' = w : gw_Q) = post
  refine gw_iload_n dX12_isWay_0 rfl ?_
  refine gw_iconst (v := nI (1)) dX12_isWay_1 (by decide) ?_
  refine gw_icmp_eq (tgt := 10) dX12_isWay_2 (by decide) (fun c2 => ?_) (fun c2 => ?_)
  · refine gw_iconst (v := nI (1)) dX12_isWay_10 (by decide) ?_
    refine gw_goto (tgt := 15) dX12_isWay_11 (by decide) ?_
    refine gw_zret (?_) (by decide) (by decide) rfl (by decide) dX12_isWay_15
    subst hpost
    refine ⟨?_, rfl⟩
    first
      | (rw [show decide (x = 1 ∨ x = -1) = true from decide_eq_true (by first | exact Or.inl c2 | exact Or.inr c7)]; rfl)
      | (rw [show decide (x = 1 ∨ x = -1) = false from decide_eq_false (fun h => by rcases h with h | h; exact c2 h; exact c7 h)]; rfl)
  · refine gw_iload_n dX12_isWay_5 rfl ?_
    refine gw_iconst (v := (-1 : Int32)) dX12_isWay_6 (by decide) ?_
    refine gw_icmp_ne (tgt := 14) dX12_isWay_7 (by decide) (fun c7 => ?_) (fun c7 => ?_)
    · refine gw_iconst (v := nI (0)) dX12_isWay_14 (by decide) ?_
      refine gw_zret (?_) (by decide) (by decide) rfl (by decide) dX12_isWay_15
      subst hpost
      refine ⟨?_, rfl⟩
      first
        | (rw [show decide (x = 1 ∨ x = -1) = true from decide_eq_true (by first | exact Or.inl c2 | exact Or.inr c7)]; rfl)
        | (rw [show decide (x = 1 ∨ x = -1) = false from decide_eq_false (fun h => by rcases h with h | h; exact c2 h; exact c7 h)]; rfl)
    · refine gw_iconst (v := nI (1)) dX12_isWay_10 (by decide) ?_
      refine gw_goto (tgt := 15) dX12_isWay_11 (by decide) ?_
      refine gw_zret (?_) (by decide) (by decide) rfl (by decide) dX12_isWay_15
      subst hpost
      refine ⟨?_, rfl⟩
      first
        | (rw [show decide (x = 1 ∨ x = -1) = true from decide_eq_true (by first | exact Or.inl c2 | exact Or.inr c7)]; rfl)
        | (rw [show decide (x = 1 ∨ x = -1) = false from decide_eq_false (fun h => by rcases h with h | h; exact c2 h; exact c7 h)]; rfl)
abbrev kX12_placeOf : gw_K := (yX12_placeOf, cX12_placeOf, 1, { frames := 0, cells := 0, slots := 0, locals := 0 }, (some .int))
theorem ok_X12_placeOf : gw_calS kX12_placeOf 1 := ⟨⟨wd_935, wd_62, by decide, by decide, by decide +kernel⟩, wd_934⟩
set_option maxHeartbeats 4000000 in
set_option maxRecDepth 100000 in
theorem c_mplaceOf (l : Launch) (cy : Nat → ClassId) (s : Int32) (hs : inZ s.toInt (-1) 7 = true) (w : va_W) : gw_M l kX12_placeOf cy [.int (s)] w (fun r w' => r = some (.int (nI (mPl s))) ∧ w' = w) := by
  refine gw_M.mk (lv := [some (.int (s))]) (by decide) (Nat.le_of_ble_eq_true rfl) rfl ?_
  generalize hpost : (fun r w' => r = some (.int (nI (mPl s))) ∧ w' = w : gw_Q) = post
  rw [inZ_t] at hs
  refine gw_iload_n dX12_placeOf_0 rfl ?_
  refine gw_if_ge (tgt := 9) dX12_placeOf_1 (by decide) (fun c1 => ?_) (fun c1 => ?_)
  · refine gw_iload_n dX12_placeOf_9 rfl ?_
    refine gw_iret (?_) (by decide) (by decide) rfl dX12_placeOf_10
    subst hpost
    refine ⟨?_, rfl⟩
    rw [i32_le] at c1
    first
      | (have : mPl s = 8 := if_pos (by have : (0 : Int32).toInt = 0 := by decide
                                        omega)
         rw [this])
      | (have h0 : (0 : Int32).toInt = 0 := by decide
         have e0 : mPl s = s.toInt.toNat := if_neg (by omega)
         rw [e0]
         congr 2
         rw [i32_eq, nI_toInt (by omega)]; omega)
  · refine gw_bipush (v := nI (8)) dX12_placeOf_4 (by decide) ?_
    refine gw_goto (tgt := 10) dX12_placeOf_6 (by decide) ?_
    refine gw_iret (?_) (by decide) (by decide) rfl dX12_placeOf_10
    subst hpost
    refine ⟨?_, rfl⟩
    rw [i32_le] at c1
    first
      | (have : mPl s = 8 := if_pos (by have : (0 : Int32).toInt = 0 := by decide
                                        omega)
         rw [this])
      | (have h0 : (0 : Int32).toInt = 0 := by decide
         have e0 : mPl s = s.toInt.toNat := if_neg (by omega)
         rw [e0]
         congr 2
         rw [i32_eq, nI_toInt (by omega)]; omega)
abbrev kX12_status : gw_K := (yX12_status, cX12_status, 1, { frames := 0, cells := 0, slots := 0, locals := 0 }, (some .int))
theorem ok_X12_status : gw_calV kX12_status 0 := ⟨⟨wd_1163, wd_62, by decide, by decide, by decide +kernel⟩, wd_1161, wd_1162⟩
set_option maxHeartbeats 4000000 in
set_option maxRecDepth 100000 in
theorem c_mstatus (l : Launch) (cy : Nat → ClassId) (ad : Nat → Nat) (iv : Nat → Int32) (ia : Nat → Nat → Int32) (la : Nat → Nat → Int64)  : gw_M l kX12_status cy [.ref (ad 0)] (mW cy ad iv ia la) (fun r w' => r = some (.int (iv 19)) ∧ w' = mW cy ad iv ia la) := by
  refine gw_M.mk (lv := [some (.ref (ad 0))]) (by decide) (Nat.le_of_ble_eq_true rfl) rfl ?_
  generalize hpost : (fun r w' => r = some (.int (iv 19)) ∧ w' = mW cy ad iv ia la : gw_Q) = post
  refine gw_aload_n dX12_status_0 rfl ?_
  refine gm_get_status rfl dX12_status_1 ?_
  refine gw_iret (?_) (by decide) (by decide) rfl dX12_status_4
  subst hpost
  exact ⟨rfl, rfl⟩
abbrev kX12_told : gw_K := (yX12_told, cX12_told, 2, { frames := 0, cells := 0, slots := 0, locals := 0 }, (some .int))
theorem ok_X12_told : gw_calV kX12_told 1 := ⟨⟨wd_1155, wd_62, by decide, by decide, by decide +kernel⟩, wd_1153, wd_1154⟩
set_option maxHeartbeats 4000000 in
set_option maxRecDepth 100000 in
theorem c_mtold (l : Launch) (cy : Nat → ClassId) (ad : Nat → Nat) (iv : Nat → Int32) (ia : Nat → Nat → Int32) (la : Nat → Nat → Int64) (x : Int32) : gw_M l kX12_told cy [.ref (ad 0), .int (x)] (mW cy ad iv ia la) (fun r w' => r = some (.int (if x = 0 then iv 22 else if x = 1 then iv 23 else -1000001)) ∧ w' = mW cy ad iv ia la) := by
  refine gw_M.mk (lv := [some (.ref (ad 0)), some (.int (x))]) (by decide) (Nat.le_of_ble_eq_true rfl) rfl ?_
  generalize hpost : (fun r w' => r = some (.int (if x = 0 then iv 22 else if x = 1 then iv 23 else -1000001)) ∧ w' = mW cy ad iv ia la : gw_Q) = post
  refine gw_iload_n dX12_told_0 rfl ?_
  refine gw_if_ne (tgt := 11) dX12_told_1 (by decide) (fun c1 => ?_) (fun c1 => ?_)
  · refine gw_iload_n dX12_told_11 rfl ?_
    refine gw_iconst (v := nI (1)) dX12_told_12 (by decide) ?_
    refine gw_icmp_ne (tgt := 23) dX12_told_13 (by decide) (fun c13 => ?_) (fun c13 => ?_)
    · refine gw_ldc dX12_told_23 wd_903 ?_
      refine gw_iret (?_) (by decide) (by decide) rfl dX12_told_25
      subst hpost
      refine ⟨?_, rfl⟩
      simp_all [show nI 1 = (1 : Int32) from rfl]
    · refine gw_aload_n dX12_told_16 rfl ?_
      refine gm_get_latest rfl dX12_told_17 ?_
      refine gw_goto (tgt := 25) dX12_told_20 (by decide) ?_
      refine gw_iret (?_) (by decide) (by decide) rfl dX12_told_25
      subst hpost
      refine ⟨?_, rfl⟩
      simp_all [show nI 1 = (1 : Int32) from rfl]
  · refine gw_aload_n dX12_told_4 rfl ?_
    refine gm_get_steps rfl dX12_told_5 ?_
    refine gw_goto (tgt := 25) dX12_told_8 (by decide) ?_
    refine gw_iret (?_) (by decide) (by decide) rfl dX12_told_25
    subst hpost
    refine ⟨?_, rfl⟩
    simp_all [show nI 1 = (1 : Int32) from rfl]
abbrev kX12_isOp : gw_K := (yX12_isOp, cX12_isOp, 2, { frames := 1, cells := 0, slots := 0, locals := 25 }, (some .boolean))
theorem ok_X12_isOp : gw_calV kX12_isOp 1 := ⟨⟨wd_1107, wd_62, by decide, by decide, by decide +kernel⟩, wd_1106, wd_49⟩
set_option maxHeartbeats 4000000 in
set_option maxRecDepth 100000 in
theorem c_misOp (l : Launch) (cy : Nat → ClassId) (ad : Nat → Nat) (iv : Nat → Int32) (ia : Nat → Nat → Int32) (la : Nat → Nat → Int64) (k : Int32) (n : Nat) (hn : iv 12 = nI n) (h1 : n < 2 ^ 31) : gw_M l kX12_isOp cy [.ref (ad 0), .int (k)] (mW cy ad iv ia la) (fun r w' => r = some (.int (bI (inZ k.toInt 0 ((n : Int) - 1)))) ∧ w' = mW cy ad iv ia la) := by
  refine gw_M.mk (lv := [some (.ref (ad 0)), some (.int (k))]) (by decide) (Nat.le_of_ble_eq_true rfl) rfl ?_
  generalize hpost : (fun r w' => r = some (.int (bI (inZ k.toInt 0 ((n : Int) - 1)))) ∧ w' = mW cy ad iv ia la : gw_Q) = post
  refine gw_iload_n dX12_isOp_0 rfl ?_
  refine gw_i2l dX12_isOp_1 rfl ?_
  refine gw_lconst (v := (0 : Int64)) dX12_isOp_2 (by decide) ?_
  refine gw_aload_n dX12_isOp_3 rfl ?_
  refine gm_get_ops rfl dX12_isOp_4 ?_
  refine gw_topi (y := nI (n)) (hn) ?_
  refine gw_iconst (v := nI (1)) dX12_isOp_7 (by decide) ?_
  refine gw_isub dX12_isOp_8 ?_
  refine gw_i2l dX12_isOp_9 rfl ?_
  refine gw_callS (As := [.long ((k).toInt64), .long ((0 : Int64)), .long (((nI (n)) - (nI (1))).toInt64)]) (st := []) (c_min l cy ((k).toInt64) ((0 : Int64)) (((nI (n)) - (nI (1))).toInt64) (mW cy ad iv ia la)) ok_X12_in wd_899 rfl rfl dX12_isOp_10 (by decide) (by decide) (Nat.le_of_ble_eq_true rfl) (fun r10 w10 hp10 => ?_)
  obtain ⟨rfl, rfl⟩ := hp10
  refine gw_W.norm (st' := [.int (bI (inZ ((k).toInt64).toInt ((0 : Int64)).toInt (((nI (n)) - (nI (1))).toInt64).toInt))]) (k1 := 0) (k2 := 0) rfl rfl rfl ?_
  refine gw_zret (?_) (by decide) (by decide) rfl (bI_nar _) dX12_isOp_13
  subst hpost
  refine ⟨?_, rfl⟩
  rw [i64_of, i64_of, show (nI n - nI 1).toInt = (n : Int) - 1 from by rw [i32_sub1 n h1]]; rfl
theorem mPl_lt {s : Int32} (h : inZ s.toInt (-1) 7 = true) : mPl s < 9 := by
  rw [inZ_t] at h; unfold mPl; split <;> omega
abbrev kX12_terms : gw_K := (yX12_terms, cX12_terms, 2, { frames := 2, cells := 0, slots := 0, locals := 45 }, (some .int))
theorem ok_X12_terms : gw_calV kX12_terms 1 := ⟨⟨wd_1027, wd_62, by decide, by decide, by decide +kernel⟩, wd_1025, wd_1026⟩
set_option maxHeartbeats 4000000 in
set_option maxRecDepth 100000 in
theorem c_mterms (l : Launch) (cy : Nat → ClassId) (ad : Nat → Nat) (iv : Nat → Int32) (ia : Nat → Nat → Int32) (la : Nat → Nat → Int64) (s : Int32) : gw_M l kX12_terms cy [.ref (ad 0), .int (s)] (mW cy ad iv ia la) (fun r w' => r = some (.int (if inZ s.toInt (-1) 7 = true then ia 6 (mPl s) else -1000001)) ∧ w' = mW cy ad iv ia la) := by
  refine gw_M.mk (lv := [some (.ref (ad 0)), some (.int (s))]) (by decide) (Nat.le_of_ble_eq_true rfl) rfl ?_
  generalize hpost : (fun r w' => r = some (.int (if inZ s.toInt (-1) 7 = true then ia 6 (mPl s) else -1000001)) ∧ w' = mW cy ad iv ia la : gw_Q) = post
  refine gw_iload_n dX12_terms_0 rfl ?_
  refine gw_callS (As := [.int (s)]) (st := []) (c_misShelf l cy (s) (mW cy ad iv ia la)) ok_X12_isShelf wd_929 rfl rfl dX12_terms_1 (by decide) (by decide) (Nat.le_of_ble_eq_true rfl) (fun r1 w1 hp1 => ?_)
  obtain ⟨rfl, rfl⟩ := hp1
  refine gw_W.norm (st' := [.int (bI (inZ (s).toInt (-1) 7))]) (k1 := 0) (k2 := 0) rfl rfl rfl ?_
  refine gw_if_eq (tgt := 19) dX12_terms_4 (by decide) (fun c4 => ?_) (fun c4 => ?_)
  · rw [bI_0] at c4
    refine gw_ldc dX12_terms_19 wd_903 ?_
    refine gw_iret (?_) (by decide) (by decide) rfl dX12_terms_21
    subst hpost
    exact ⟨by first | rw [if_pos c4] | rw [if_neg (by rw [c4]; decide)], rfl⟩
  · rw [bI_n0] at c4
    refine gw_aload_n dX12_terms_7 rfl ?_
    refine gm_get_many rfl dX12_terms_8 ?_
    refine gw_iload_n dX12_terms_11 rfl ?_
    refine gw_callS (As := [.int (s)]) (st := [.ref (ad 6)]) (c_mplaceOf l cy (s) (c4) (mW cy ad iv ia la)) ok_X12_placeOf wd_933 rfl rfl dX12_terms_12 (by decide) (by decide) (Nat.le_of_ble_eq_true rfl) (fun r12 w12 hp12 => ?_)
    obtain ⟨rfl, rfl⟩ := hp12
    refine gw_W.norm (st' := [.int (nI (mPl (s))), .ref (ad 6)]) (k1 := 0) (k2 := 0) rfl rfl rfl ?_
    refine gm_ld_many (j := mPl (s)) (rfl) (by have := mPl_lt c4; omega) dX12_terms_15 ?_
    refine gw_goto (tgt := 21) dX12_terms_16 (by decide) ?_
    refine gw_iret (?_) (by decide) (by decide) rfl dX12_terms_21
    subst hpost
    exact ⟨by first | rw [if_pos c4] | rw [if_neg (by rw [c4]; decide)], rfl⟩
abbrev kX12_clear : gw_K := (yX12_clear, cX12_clear, 3, { frames := 2, cells := 0, slots := 0, locals := 45 }, (some .int))
theorem ok_X12_clear : gw_calV kX12_clear 1 := ⟨⟨wd_928, wd_62, by decide, by decide, by decide +kernel⟩, wd_926, wd_927⟩
set_option maxHeartbeats 4000000 in
set_option maxRecDepth 100000 in
theorem c_mclear (l : Launch) (cy : Nat → ClassId) (ad : Nat → Nat) (iv : Nat → Int32) (ia : Nat → Nat → Int32) (la : Nat → Nat → Int64) (s : Int32) : gw_M l kX12_clear cy [.ref (ad 0), .int (s)] (mW cy ad iv ia la) (fun r w' => r = some (.int (if inZ s.toInt (-1) 7 = true then ia 6 (mPl s) else -1000001)) ∧ w' = (if inZ s.toInt (-1) 7 = true then mW cy ad iv (va_up ia 6 (upd (ia 6) (mPl s) 0)) la else mW cy ad iv ia la)) := by
  refine gw_M.mk (lv := [some (.ref (ad 0)), some (.int (s)), none]) (by decide) (Nat.le_of_ble_eq_true rfl) rfl ?_
  generalize hpost : (fun r w' => r = some (.int (if inZ s.toInt (-1) 7 = true then ia 6 (mPl s) else -1000001)) ∧ w' = (if inZ s.toInt (-1) 7 = true then mW cy ad iv (va_up ia 6 (upd (ia 6) (mPl s) 0)) la else mW cy ad iv ia la) : gw_Q) = post
  refine gw_iload_n dX12_clear_0 rfl ?_
  refine gw_callS (As := [.int (s)]) (st := []) (c_misShelf l cy (s) (mW cy ad iv ia la)) ok_X12_isShelf wd_929 rfl rfl dX12_clear_1 (by decide) (by decide) (Nat.le_of_ble_eq_true rfl) (fun r1 w1 hp1 => ?_)
  obtain ⟨rfl, rfl⟩ := hp1
  refine gw_W.norm (st' := [.int (bI (inZ (s).toInt (-1) 7))]) (k1 := 0) (k2 := 0) rfl rfl rfl ?_
  refine gw_if_ne (tgt := 10) dX12_clear_4 (by decide) (fun c4 => ?_) (fun c4 => ?_)
  · rw [bI_n0] at c4
    refine gw_aload_n dX12_clear_10 rfl ?_
    refine gm_get_many rfl dX12_clear_11 ?_
    refine gw_iload_n dX12_clear_14 rfl ?_
    refine gw_callS (As := [.int (s)]) (st := [.ref (ad 6)]) (c_mplaceOf l cy (s) (c4) (mW cy ad iv ia la)) ok_X12_placeOf wd_933 rfl rfl dX12_clear_15 (by decide) (by decide) (Nat.le_of_ble_eq_true rfl) (fun r15 w15 hp15 => ?_)
    obtain ⟨rfl, rfl⟩ := hp15
    refine gw_W.norm (st' := [.int (nI (mPl (s))), .ref (ad 6)]) (k1 := 0) (k2 := 0) rfl rfl rfl ?_
    refine gm_ld_many (j := mPl (s)) (rfl) (by have := mPl_lt c4; omega) dX12_clear_18 ?_
    refine gw_istore_n dX12_clear_19 (by decide) rfl ?_
    refine gw_aload_n dX12_clear_20 rfl ?_
    refine gm_get_many rfl dX12_clear_21 ?_
    refine gw_iload_n dX12_clear_24 rfl ?_
    refine gw_callS (As := [.int (s)]) (st := [.ref (ad 6)]) (c_mplaceOf l cy (s) (c4) (mW cy ad iv ia la)) ok_X12_placeOf wd_933 rfl rfl dX12_clear_25 (by decide) (by decide) (Nat.le_of_ble_eq_true rfl) (fun r25 w25 hp25 => ?_)
    obtain ⟨rfl, rfl⟩ := hp25
    refine gw_W.norm (st' := [.int (nI (mPl (s))), .ref (ad 6)]) (k1 := 0) (k2 := 0) rfl rfl rfl ?_
    refine gw_iconst (v := nI (0)) dX12_clear_28 (by decide) ?_
    refine gm_st_many (j := mPl (s)) (rfl) (by have := mPl_lt c4; omega) dX12_clear_29 ?_
    refine gw_W.wd (w' := (mW cy ad iv (va_up ia 6 (upd (ia 6) (mPl (s)) (nI (0)))) la)) rfl ?_
    refine gw_iload_n dX12_clear_30 rfl ?_
    refine gw_iret (?_) (by decide) (by decide) rfl dX12_clear_31
    subst hpost
    exact ⟨by first | rw [if_pos c4] | rw [if_neg (by rw [c4]; decide)], by first | (rw [if_pos c4]; rfl) | rw [if_neg (by rw [c4]; decide)]⟩
  · rw [bI_0] at c4
    refine gw_ldc dX12_clear_7 wd_903 ?_
    refine gw_iret (?_) (by decide) (by decide) rfl dX12_clear_9
    subst hpost
    exact ⟨by first | rw [if_pos c4] | rw [if_neg (by rw [c4]; decide)], by first | (rw [if_pos c4]; rfl) | rw [if_neg (by rw [c4]; decide)]⟩
end
section
/-! what is kept of what was put: TERMS that aren't 0, if each is good and they aren't too many -/
def nz (q : sT) : Bool := decide (q.2 ≠ 0)
def sG (q : sT) (x : Nat) : Bool := inZ q.2.toInt (-1000000000000) 1000000000000 && (List.range x).all (fun y => decide (mCos q.1 (nI y) < 13))
def keepS (C : List sT) : Option (List sT) := if (C.filter nz).all (fun q => sG q 4) && decide ((C.filter nz).length ≤ 300) then some (C.filter nz) else none
def sPuts (C P : List sT) : List sT := P.foldl (fun C q => sIns q.1 q.2 C) C
theorem sG_succ (q : sT) (x : Nat) : sG q (x + 1) = (sG q x && decide (mCos q.1 (nI x) < 13)) := by
  simp [sG, List.range_succ, Bool.and_assoc]
theorem takeS_snoc (ks : Nat → Int32) (ns : Nat → Int64) (off i : Nat) : takeS ks ns off (i + 1) = takeS ks ns off i ++ [(ks (off + i), ns (off + i))] := by
  rw [takeS_split]; rfl
theorem nz_t {ks : Nat → Int32} {ns : Nat → Int64} {i : Nat} (h : ¬ ns i = 0) : (takeS ks ns 0 (i + 1)).filter nz = (takeS ks ns 0 i).filter nz ++ [(ks i, ns i)] := by
  rw [takeS_snoc, List.filter_append]; simp [nz, h]
theorem nz_f {ks : Nat → Int32} {ns : Nat → Int64} {i : Nat} (h : ns i = 0) : (takeS ks ns 0 (i + 1)).filter nz = (takeS ks ns 0 i).filter nz := by
  rw [takeS_snoc, List.filter_append]; simp [nz, h]
theorem nz_mono {ks : Nat → Int32} {ns : Nat → Int64} {i n : Nat} (h : i ≤ n) : ((takeS ks ns 0 i).filter nz).length ≤ ((takeS ks ns 0 n).filter nz).length := by
  obtain ⟨b, rfl⟩ : ∃ b, n = i + b := ⟨n - i, by omega⟩
  rw [takeS_split, List.filter_append, List.length_append]; omega
theorem nz_len {ks : Nat → Int32} {ns : Nat → Int64} {i : Nat} : ((takeS ks ns 0 i).filter nz).length ≤ i := by
  refine Nat.le_trans (List.length_filter_le _ _) ?_
  rw [takeS_len]; exact Nat.le_refl _
theorem keepS_bad {ks : Nat → Int32} {ns : Nat → Int64} {i n : Nat} (h : i < n) (hz : ¬ ns i = 0) (hb : sG (ks i, ns i) 4 = false) : keepS (takeS ks ns 0 n) = none := by
  unfold keepS
  rw [if_neg]
  rw [Bool.and_eq_true, List.all_eq_true]
  rintro ⟨h1, -⟩
  have := h1 (ks i, ns i) (List.mem_filter.mpr ⟨takeS_mem.mpr ⟨i, h, by simp⟩, by simp [nz, hz]⟩)
  rw [hb] at this; cases this
theorem keepS_many {C : List sT} (h : ¬ (C.filter nz).length ≤ 300) : keepS C = none := by
  unfold keepS; rw [if_neg]; simp; intro _; omega
theorem keepS_good {C : List sT} (h : (C.filter nz).length ≤ 300) (hg : ∀ q ∈ C.filter nz, sG q 4 = true) : keepS C = some (C.filter nz) := by
  unfold keepS; rw [if_pos]; rw [Bool.and_eq_true, List.all_eq_true]; exact ⟨hg, decide_eq_true h⟩
theorem sIns_len (k : Int32) (v : Int64) (C : List sT) : (sIns k v C).length ≤ C.length + 1 := by
  induction C with
  | nil => simp [sIns]
  | cons a t ih =>
    obtain ⟨x, y⟩ := a
    rw [sIns]; split
    · simp; exact ih
    · split <;> simp
theorem sIns_mem {k : Int32} {v : Int64} {C : List sT} {q : sT} (h : q ∈ sIns k v C) : q.1 = k ∨ ∃ p ∈ C, p.1 = q.1 := by
  induction C with
  | nil => simp [sIns] at h; left; rw [h]
  | cons a t ih =>
    obtain ⟨x, y⟩ := a
    rw [sIns] at h
    split at h
    · rcases List.mem_cons.mp h with h | h
      · right; exact ⟨(x, y), List.mem_cons_self, by rw [h]⟩
      · rcases ih h with h | ⟨p, hp, e⟩
        · left; exact h
        · right; exact ⟨p, List.mem_cons_of_mem _ hp, e⟩
    · split at h
      · rcases List.mem_cons.mp h with h | h
        · right; exact ⟨(x, y), List.mem_cons_self, by rw [h]⟩
        · right; exact ⟨q, List.mem_cons_of_mem _ h, rfl⟩
      · rcases List.mem_cons.mp h with h | h
        · left; rw [h]
        · right; exact ⟨q, h, rfl⟩
theorem sIns_ord {k : Int32} {v : Int64} {C : List sT} (h : sOrd C) : sOrd (sIns k v C) := by
  induction C with
  | nil => simp [sIns, sOrd]
  | cons a t ih =>
    obtain ⟨x, y⟩ := a
    have h1 := List.pairwise_cons.mp h
    rw [sIns]; split
    · rename_i hx
      refine List.pairwise_cons.mpr ⟨fun q hq => ?_, ih h1.2⟩
      rcases sIns_mem hq with e | ⟨p, hp, e⟩
      · rw [e]; exact hx
      · rw [← e]; exact h1.1 p hp
    · split
      · exact List.pairwise_cons.mpr ⟨fun q hq => h1.1 q hq, h1.2⟩
      · rename_i hx he
        refine List.pairwise_cons.mpr ⟨fun q hq => ?_, h⟩
        have hk : k < x := by rw [i32_lt] at hx ⊢; rw [i32_eq] at he; omega
        rcases List.mem_cons.mp hq with e | hq
        · rw [e]; exact hk
        · have := h1.1 q hq
          rw [i32_lt] at hk this ⊢; simp only at this ⊢; omega
theorem sPuts_ord {C P : List sT} (h : sOrd C) : sOrd (sPuts C P) := by
  induction P generalizing C with
  | nil => exact h
  | cons a t ih => exact ih (sIns_ord h)
theorem sPuts_len (C P : List sT) : (sPuts C P).length ≤ C.length + P.length := by
  induction P generalizing C with
  | nil => simp [sPuts]
  | cons a t ih =>
    have := ih (sIns a.1 a.2 C)
    have h2 := sIns_len a.1 a.2 C
    simp only [sPuts, List.foldl_cons, List.length_cons] at this ⊢
    omega
theorem sPuts_snoc (C P : List sT) (q : sT) : sPuts C (P ++ [q]) = sIns q.1 q.2 (sPuts C P) := by simp [sPuts, List.foldl_append]
theorem sPuts_app (C P P' : List sT) : sPuts C (P ++ P') = sPuts (sPuts C P) P' := by simp [sPuts, List.foldl_append]
def sScale (v : Int64) (S : List sT) : List sT := S.map (fun q => (q.1, v * q.2))
end
section
abbrev kX12_keep : gw_K := (yX12_keep, cX12_keep, 6, { frames := 1, cells := 0, slots := 0, locals := 25 }, (some .boolean))
theorem ok_X12_keep : gw_calV kX12_keep 1 := ⟨⟨wd_959, wd_62, by decide, by decide, by decide +kernel⟩, wd_958, wd_38⟩
set_option maxHeartbeats 4000000 in
set_option maxRecDepth 100000 in
theorem c_mkeep (l : Launch) (cy : Nat → ClassId) (ad : Nat → Nat) (iv : Nat → Int32) (ia : Nat → Nat → Int32) (la : Nat → Nat → Int64) (n t : Nat) (hn : iv 9 = nI n) (hlt : n ≤ 1000) (ht : t < 18) : gw_M l kX12_keep cy [.ref (ad 0), .int (nI (t))] (mW cy ad iv ia la) (fun r w' => ∃ F : Option (List sT), F = keepS (takeS (ia 10) (la 11) 0 n) ∧ r = some (.int (bI F.isSome)) ∧ (F = none → w' = mW cy ad iv ia la) ∧ ∀ S, F = some S → ∃ (kk : Nat → Int32) (nn : Nat → Int64), w' = mW cy ad iv (va_up (va_up ia 6 (upd (ia 6) t (nI S.length))) 7 kk) (va_up la 8 nn) ∧ takeS kk nn (300 * t) S.length = S ∧ ∀ j, (j < 300 * t ∨ 300 * t + 300 ≤ j) → kk j = ia 7 j ∧ nn j = la 8 j) := by
  refine gw_M.mk (lv := [some (.ref (ad 0)), some (.int (nI (t))), none, none, none, none]) (by decide) (Nat.le_of_ble_eq_true rfl) rfl ?_
  generalize hpost : (fun r w' => ∃ F : Option (List sT), F = keepS (takeS (ia 10) (la 11) 0 n) ∧ r = some (.int (bI F.isSome)) ∧ (F = none → w' = mW cy ad iv ia la) ∧ ∀ S, F = some S → ∃ (kk : Nat → Int32) (nn : Nat → Int64), w' = mW cy ad iv (va_up (va_up ia 6 (upd (ia 6) t (nI S.length))) 7 kk) (va_up la 8 nn) ∧ takeS kk nn (300 * t) S.length = S ∧ ∀ j, (j < 300 * t ∨ 300 * t + 300 ≤ j) → kk j = ia 7 j ∧ nn j = la 8 j : gw_Q) = post
  refine gw_iconst (v := nI (0)) dX12_keep_0 (by decide) ?_
  refine gw_istore_n dX12_keep_1 (by decide) rfl ?_
  refine gw_iconst (v := nI (0)) dX12_keep_2 (by decide) ?_
  refine gw_istore_n dX12_keep_3 (by decide) rfl ?_
  have cut4 : ∀ (fu : Nat) (c : Nat) (i : Nat), (i ≤ n) → (c = ((takeS (ia 10) (la 11) 0 i).filter nz).length) → (∀ q ∈ ((takeS (ia 10) (la 11) 0 i).filter nz), sG q 4 = true) → (n - i) < fu → gw_W l kX12_keep cy (gw_R kX12_keep post) (mW cy ad iv ia la) 0 0 4 [some (.ref (ad 0)), some (.int (nI (t))), some (.int (nI (c))), some (.int (nI (i))), none, none] [] := by
    intro fu
    induction fu with
    | zero => intro c i h1 h2 h3 hfu; exact absurd hfu (Nat.not_lt_zero _)
    | succ fu ih4 =>
      intro c i h1 h2 h3 hfu
      refine gw_iload_n dX12_keep_4 rfl ?_
      refine gw_aload_n dX12_keep_5 rfl ?_
      refine gm_get_made rfl dX12_keep_6 ?_
      refine gw_topi (y := nI (n)) (hn) ?_
      refine gw_icmpN_ge (tgt := 99) dX12_keep_9 (by decide) (by omega) (by omega) (fun c9 => ?_) (fun c9 => ?_)
      · have e1 : i = n := by omega
        rw [e1] at h2 h3
        refine gw_iload_n dX12_keep_99 rfl ?_
        refine gw_sipush (v := nI (300)) dX12_keep_100 (by decide) ?_
        refine gw_icmpN_le (tgt := 108) dX12_keep_103 (by decide) (by have := nz_len (ks := ia 10) (ns := la 11) (i := n); omega) (by omega) (fun c103 => ?_) (fun c103 => ?_)
        · have hle : ((takeS (ia 10) (la 11) 0 n).filter nz).length ≤ 300 := by omega
          have hgd := h3
          refine gw_iconst (v := nI (0)) dX12_keep_108 (by decide) ?_
          refine gw_istore_n dX12_keep_109 (by decide) rfl ?_
          refine gw_iconst (v := nI (0)) dX12_keep_110 (by decide) ?_
          refine gw_istore_n dX12_keep_111 (by decide) rfl ?_
          have cut112 : ∀ (fu : Nat) (c : Nat) (i : Nat) (kk : Nat → Int32) (nn : Nat → Int64), (i ≤ n) → (c = ((takeS (ia 10) (la 11) 0 i).filter nz).length) → (takeS kk nn (300 * t) c = ((takeS (ia 10) (la 11) 0 i).filter nz)) → (∀ j, (j < 300 * t ∨ 300 * t + 300 ≤ j) → kk j = ia 7 j ∧ nn j = la 8 j) → (n - i) < fu → gw_W l kX12_keep cy (gw_R kX12_keep post) (mW cy ad iv (va_up ia 7 (kk)) (va_up la 8 (nn))) 0 0 112 [some (.ref (ad 0)), some (.int (nI (t))), some (.int (nI (c))), some (.int (nI (i))), none, none] [] := by
            intro fu
            induction fu with
            | zero => intro c i kk nn h1 h2 h3 h4 hfu; exact absurd hfu (Nat.not_lt_zero _)
            | succ fu ih112 =>
              intro c i kk nn h1 h2 h3 h4 hfu
              refine gw_iload_n dX12_keep_112 rfl ?_
              refine gw_aload_n dX12_keep_113 rfl ?_
              refine gm_get_made rfl dX12_keep_114 ?_
              refine gw_topi (y := nI (n)) (hn) ?_
              refine gw_icmpN_ge (tgt := 176) dX12_keep_117 (by decide) (by omega) (by omega) (fun c117 => ?_) (fun c117 => ?_)
              · have e2 : i = n := by omega
                rw [e2] at h2 h3
                refine gw_aload_n dX12_keep_176 rfl ?_
                refine gm_get_many rfl dX12_keep_177 ?_
                refine gw_iload_n dX12_keep_180 rfl ?_
                refine gw_iload_n dX12_keep_181 rfl ?_
                refine gm_st_many (j := t) (rfl) (by omega) dX12_keep_182 ?_
                refine gw_W.wd (w' := (mW cy ad iv (va_up (va_up ia 6 (upd (ia 6) (t) (nI (c)))) 7 (kk)) (va_up la 8 (nn)))) rfl ?_
                refine gw_iconst (v := nI (1)) dX12_keep_183 (by decide) ?_
                refine gw_zret (?_) (by decide) (by decide) rfl (by decide) dX12_keep_184
                subst hpost
                exact ⟨_, rfl, by rw [keepS_good hle hgd]; rfl, fun h => (by rw [keepS_good hle hgd] at h; cases h), fun S hS => (by
                  rw [keepS_good hle hgd] at hS
                  cases hS
                  refine ⟨kk, nn, ?_, ?_, h4⟩
                  · rw [h2]
                  · rw [← h2]; exact h3)⟩
              · refine gw_aload_n dX12_keep_120 rfl ?_
                refine gm_get_madeNumber rfl dX12_keep_121 ?_
                refine gw_iload_n dX12_keep_124 rfl ?_
                refine gm_ld_madeNumber (j := i) (rfl) (by omega) dX12_keep_125 ?_
                refine gw_topl (y := (la 11) (i)) rfl ?_
                refine gw_lconst (v := (0 : Int64)) dX12_keep_126 (by decide) ?_
                refine gw_lcmp dX12_keep_127 ?_
                refine gw_if_eq (tgt := 170) dX12_keep_128 (by decide) (fun c128 => ?_) (fun c128 => ?_)
                · rw [lg_cmp_eq] at c128
                  refine gw_iinc (v := nI (i + 1)) dX12_keep_170 rfl (nI_add _ 1) (by decide) rfl ?_
                  refine gw_goto (tgt := 112) dX12_keep_173 (by decide) ?_
                  refine gw_W.wd (w' := (mW cy ad iv (va_up ia 7 ((kk))) (va_up la 8 ((nn))))) rfl ?_
                  refine ih112 (c) (i + 1) ((kk)) ((nn)) ?_ ?_ ?_ ?_ ?_
                  · omega
                  · first | (rw [nz_f c128]; exact h2) | (rw [nz_t c128, List.length_append, h2]; rfl)
                  · first
                    | (rw [nz_f c128]; exact h3)
                    | (rw [nz_t c128, takeS_snoc, pk_us, pk_uLs, ← h3]
                       congr 1
                       exact takeS_congr (fun j hj => ⟨pk_un (by omega), pk_uLn (by omega)⟩))
                  · intro j hj
                    first
                    | exact h4 j hj
                    | (rw [pk_un (by omega), pk_uLn (by omega)]; exact h4 j hj)
                  · omega
                · rw [lg_cmp_eq] at c128
                  have hc9 : c + 1 ≤ 300 := by
                    have q1 := nz_mono (ks := ia 10) (ns := la 11) (i := i + 1) (n := n) (by omega)
                    rw [nz_t c128, List.length_append] at q1
                    simp only [List.length_singleton] at q1; omega
                  refine gw_aload_n dX12_keep_131 rfl ?_
                  refine gm_get_key rfl dX12_keep_132 ?_
                  refine gw_sipush (v := nI (300)) dX12_keep_135 (by decide) ?_
                  refine gw_iload_n dX12_keep_138 rfl ?_
                  refine gw_imulN dX12_keep_139 ?_
                  refine gw_iload_n dX12_keep_140 rfl ?_
                  refine gw_iaddN dX12_keep_141 ?_
                  refine gw_aload_n dX12_keep_142 rfl ?_
                  refine gm_get_madeKey rfl dX12_keep_143 ?_
                  refine gw_iload_n dX12_keep_146 rfl ?_
                  refine gm_ld_madeKey (j := i) (rfl) (by omega) dX12_keep_147 ?_
                  refine gw_topi (y := (ia 10) (i)) rfl ?_
                  refine gm_st_key (j := (300 * t) + c) (rfl) (by omega) dX12_keep_148 ?_
                  refine gw_W.wd (w' := (mW cy ad iv (va_up ia 7 (upd (kk) ((300 * t) + c) ((ia 10) (i)))) (va_up la 8 (nn)))) rfl ?_
                  refine gw_aload_n dX12_keep_149 rfl ?_
                  refine gm_get_number rfl dX12_keep_150 ?_
                  refine gw_sipush (v := nI (300)) dX12_keep_153 (by decide) ?_
                  refine gw_iload_n dX12_keep_156 rfl ?_
                  refine gw_imulN dX12_keep_157 ?_
                  refine gw_iload_n dX12_keep_158 rfl ?_
                  refine gw_iaddN dX12_keep_159 ?_
                  refine gw_aload_n dX12_keep_160 rfl ?_
                  refine gm_get_madeNumber rfl dX12_keep_161 ?_
                  refine gw_iload_n dX12_keep_164 rfl ?_
                  refine gm_ld_madeNumber (j := i) (rfl) (by omega) dX12_keep_165 ?_
                  refine gw_topl (y := (la 11) (i)) rfl ?_
                  refine gm_st_number (j := (300 * t) + c) (rfl) (by omega) dX12_keep_166 ?_
                  refine gw_W.wd (w' := (mW cy ad iv (va_up ia 7 (upd (kk) ((300 * t) + c) ((ia 10) (i)))) (va_up la 8 (vp_updL (nn) ((300 * t) + c) ((la 11) (i)))))) rfl ?_
                  refine gw_iinc (v := nI (c + 1)) dX12_keep_167 rfl (nI_add _ 1) (by decide) rfl ?_
                  refine gw_iinc (v := nI (i + 1)) dX12_keep_170 rfl (nI_add _ 1) (by decide) rfl ?_
                  refine gw_goto (tgt := 112) dX12_keep_173 (by decide) ?_
                  refine gw_W.wd (w' := (mW cy ad iv (va_up ia 7 ((upd (kk) ((300 * t) + c) ((ia 10) (i))))) (va_up la 8 ((vp_updL (nn) ((300 * t) + c) ((la 11) (i))))))) rfl ?_
                  refine ih112 (c + 1) (i + 1) ((upd (kk) ((300 * t) + c) ((ia 10) (i)))) ((vp_updL (nn) ((300 * t) + c) ((la 11) (i)))) ?_ ?_ ?_ ?_ ?_
                  · omega
                  · first | (rw [nz_f c128]; exact h2) | (rw [nz_t c128, List.length_append, h2]; rfl)
                  · first
                    | (rw [nz_f c128]; exact h3)
                    | (rw [nz_t c128, takeS_snoc, pk_us, pk_uLs, ← h3]
                       congr 1
                       exact takeS_congr (fun j hj => ⟨pk_un (by omega), pk_uLn (by omega)⟩))
                  · intro j hj
                    first
                    | exact h4 j hj
                    | (rw [pk_un (by omega), pk_uLn (by omega)]; exact h4 j hj)
                  · omega
          refine gw_W.wd (w' := (mW cy ad iv (va_up ia 7 ((ia 7))) (va_up la 8 ((la 8))))) rfl ?_
          refine cut112 _ (0) (0) ((ia 7)) ((la 8)) (Nat.zero_le _) rfl rfl (fun _ _ => ⟨rfl, rfl⟩) (Nat.lt_succ_self _)
        · refine gw_iconst (v := nI (0)) dX12_keep_106 (by decide) ?_
          refine gw_zret (?_) (by decide) (by decide) rfl (by decide) dX12_keep_107
          subst hpost
          exact ⟨none, (keepS_many (by omega)).symm, rfl, fun _ => rfl, fun _ h => by cases h⟩
      · refine gw_aload_n dX12_keep_12 rfl ?_
        refine gm_get_madeNumber rfl dX12_keep_13 ?_
        refine gw_iload_n dX12_keep_16 rfl ?_
        refine gm_ld_madeNumber (j := i) (rfl) (by omega) dX12_keep_17 ?_
        refine gw_lconst (v := (0 : Int64)) dX12_keep_18 (by decide) ?_
        refine gw_lcmp dX12_keep_19 ?_
        refine gw_if_eq (tgt := 93) dX12_keep_20 (by decide) (fun c20 => ?_) (fun c20 => ?_)
        · rw [lg_cmp_eq] at c20
          refine gw_iinc (v := nI (i + 1)) dX12_keep_93 rfl (nI_add _ 1) (by decide) rfl ?_
          refine gw_goto (tgt := 4) dX12_keep_96 (by decide) ?_
          refine ih4 (c) (i + 1) ?_ ?_ ?_ ?_
          · omega
          · first | (rw [nz_f c20]; exact h2) | (rw [nz_t c20, List.length_append, h2]; rfl)
          · first
            | (rw [nz_f c20]; exact h3)
            | (intro q hq
               rw [nz_t c20] at hq
               rcases List.mem_append.mp hq with hq | hq
               · exact h3 q hq
               · rw [List.mem_singleton] at hq; rw [hq]; exact c85)
          · omega
        · rw [lg_cmp_eq] at c20
          refine gw_aload_n dX12_keep_23 rfl ?_
          refine gm_get_madeNumber rfl dX12_keep_24 ?_
          refine gw_iload_n dX12_keep_27 rfl ?_
          refine gm_ld_madeNumber (j := i) (rfl) (by omega) dX12_keep_28 ?_
          refine gw_ldc2 dX12_keep_29 wd_960 ?_
          refine gw_ldc2 dX12_keep_32 wd_961 ?_
          refine gw_callS (As := [.long ((la 11) (i)), .long (((-1000000000000) : Int64)), .long ((1000000000000 : Int64))]) (st := []) (c_min l cy ((la 11) (i)) (((-1000000000000) : Int64)) ((1000000000000 : Int64)) (mW cy ad iv ia la)) ok_X12_in wd_899 rfl rfl dX12_keep_35 (by decide) (by decide) (Nat.le_of_ble_eq_true rfl) (fun r35 w35 hp35 => ?_)
          obtain ⟨rfl, rfl⟩ := hp35
          refine gw_W.norm (st' := [.int (bI (inZ ((la 11) (i)).toInt (((-1000000000000) : Int64)).toInt ((1000000000000 : Int64)).toInt))]) (k1 := 0) (k2 := 0) rfl rfl rfl ?_
          refine gw_istore dX12_keep_38 (by decide) rfl ?_
          refine gw_iconst (v := nI (0)) dX12_keep_40 (by decide) ?_
          refine gw_istore dX12_keep_41 (by decide) rfl ?_
          have cut43 : ∀ (fu : Nat) (gv : Int32) (x : Nat), (x ≤ 4) → (gv = bI (sG (ia 10 i, la 11 i) x)) → (4 - x) < fu → gw_W l kX12_keep cy (gw_R kX12_keep post) (mW cy ad iv ia la) 0 0 43 [some (.ref (ad 0)), some (.int (nI (t))), some (.int (nI (c))), some (.int (nI (i))), some (.int (gv)), some (.int (nI (x)))] [] := by
            intro fu
            induction fu with
            | zero => intro gv x g1 g2 hfu; exact absurd hfu (Nat.not_lt_zero _)
            | succ fu ih43 =>
              intro gv x g1 g2 hfu
              refine gw_iload dX12_keep_43 rfl ?_
              refine gw_iconst (v := nI (4)) dX12_keep_45 (by decide) ?_
              refine gw_icmpN_ge (tgt := 83) dX12_keep_46 (by decide) (by omega) (by omega) (fun c46 => ?_) (fun c46 => ?_)
              · have e1 : x = 4 := by omega
                rw [e1] at g2
                refine gw_iload dX12_keep_83 rfl ?_
                refine gw_if_ne (tgt := 90) dX12_keep_85 (by decide) (fun c85 => ?_) (fun c85 => ?_)
                · rw [g2, bI_n0] at c85
                  refine gw_iinc (v := nI (c + 1)) dX12_keep_90 rfl (nI_add _ 1) (by decide) rfl ?_
                  refine gw_iinc (v := nI (i + 1)) dX12_keep_93 rfl (nI_add _ 1) (by decide) rfl ?_
                  refine gw_goto (tgt := 4) dX12_keep_96 (by decide) ?_
                  refine gw_W.forget 4 ?_
                  refine gw_W.forget 5 ?_
                  refine ih4 (c + 1) (i + 1) ?_ ?_ ?_ ?_
                  · omega
                  · first | (rw [nz_f c20]; exact h2) | (rw [nz_t c20, List.length_append, h2]; rfl)
                  · first
                    | (rw [nz_f c20]; exact h3)
                    | (intro q hq
                       rw [nz_t c20] at hq
                       rcases List.mem_append.mp hq with hq | hq
                       · exact h3 q hq
                       · rw [List.mem_singleton] at hq; rw [hq]; exact c85)
                  · omega
                · rw [g2, bI_0] at c85
                  refine gw_iconst (v := nI (0)) dX12_keep_88 (by decide) ?_
                  refine gw_zret (?_) (by decide) (by decide) rfl (by decide) dX12_keep_89
                  subst hpost
                  exact ⟨none, (keepS_bad (i := i) (by omega) c20 c85).symm, rfl, fun _ => rfl, fun _ h => by cases h⟩
              · refine gw_iload dX12_keep_49 rfl ?_
                refine gw_if_eq (tgt := 74) dX12_keep_51 (by decide) (fun c51 => ?_) (fun c51 => ?_)
                · rw [g2, bI_0] at c51
                  refine gw_iconst (v := nI (0)) dX12_keep_74 (by decide) ?_
                  refine gw_istore dX12_keep_75 (by decide) rfl ?_
                  refine gw_iinc (v := nI (x + 1)) dX12_keep_77 rfl (nI_add _ 1) (by decide) rfl ?_
                  refine gw_goto (tgt := 43) dX12_keep_80 (by decide) ?_
                  refine ih43 (nI (0)) (x + 1) ?_ ?_ ?_
                  · omega
                  · have e13 : (nI 13).toInt = (13 : Int32).toInt := by decide
                    rw [sG_succ]
                    first
                    | (rw [c51]; rfl)
                    | (rw [c51, show decide (mCos (ia 10 i, la 11 i).1 (nI x) < 13) = true from decide_eq_true (by rw [i32_lt]; simp only; omega)]; rfl)
                    | (rw [c51, show decide (mCos (ia 10 i, la 11 i).1 (nI x) < 13) = false from decide_eq_false (by rw [i32_lt]; simp only; omega)]; rfl)
                  · omega
                · rw [g2, bI_n0] at c51
                  refine gw_aload_n dX12_keep_54 rfl ?_
                  refine gm_get_madeKey rfl dX12_keep_55 ?_
                  refine gw_iload_n dX12_keep_58 rfl ?_
                  refine gm_ld_madeKey (j := i) (rfl) (by omega) dX12_keep_59 ?_
                  refine gw_iload dX12_keep_60 rfl ?_
                  refine gw_callS (As := [.int ((ia 10) (i)), .int (nI (x))]) (st := []) (c_mcosine l cy ((ia 10) (i)) (nI (x)) (mW cy ad iv ia la)) ok_X12_cosine wd_962 rfl rfl dX12_keep_62 (by decide) (by decide) (Nat.le_of_ble_eq_true rfl) (fun r62 w62 hp62 => ?_)
                  obtain ⟨rfl, rfl⟩ := hp62
                  refine gw_W.norm (st' := [.int (mCos ((ia 10) (i)) (nI (x)))]) (k1 := 0) (k2 := 0) rfl rfl rfl ?_
                  refine gw_bipush (v := nI (13)) dX12_keep_65 (by decide) ?_
                  refine gw_icmp_ge (tgt := 74) dX12_keep_67 (by decide) (fun c67 => ?_) (fun c67 => ?_)
                  · rw [i32_le] at c67
                    refine gw_iconst (v := nI (0)) dX12_keep_74 (by decide) ?_
                    refine gw_istore dX12_keep_75 (by decide) rfl ?_
                    refine gw_iinc (v := nI (x + 1)) dX12_keep_77 rfl (nI_add _ 1) (by decide) rfl ?_
                    refine gw_goto (tgt := 43) dX12_keep_80 (by decide) ?_
                    refine ih43 (nI (0)) (x + 1) ?_ ?_ ?_
                    · omega
                    · have e13 : (nI 13).toInt = (13 : Int32).toInt := by decide
                      rw [sG_succ]
                      first
                      | (rw [c51]; rfl)
                      | (rw [c51, show decide (mCos (ia 10 i, la 11 i).1 (nI x) < 13) = true from decide_eq_true (by rw [i32_lt]; simp only; omega)]; rfl)
                      | (rw [c51, show decide (mCos (ia 10 i, la 11 i).1 (nI x) < 13) = false from decide_eq_false (by rw [i32_lt]; simp only; omega)]; rfl)
                    · omega
                  · rw [i32_le] at c67
                    refine gw_iconst (v := nI (1)) dX12_keep_70 (by decide) ?_
                    refine gw_goto (tgt := 75) dX12_keep_71 (by decide) ?_
                    refine gw_istore dX12_keep_75 (by decide) rfl ?_
                    refine gw_iinc (v := nI (x + 1)) dX12_keep_77 rfl (nI_add _ 1) (by decide) rfl ?_
                    refine gw_goto (tgt := 43) dX12_keep_80 (by decide) ?_
                    refine ih43 (nI (1)) (x + 1) ?_ ?_ ?_
                    · omega
                    · have e13 : (nI 13).toInt = (13 : Int32).toInt := by decide
                      rw [sG_succ]
                      first
                      | (rw [c51]; rfl)
                      | (rw [c51, show decide (mCos (ia 10 i, la 11 i).1 (nI x) < 13) = true from decide_eq_true (by rw [i32_lt]; simp only; omega)]; rfl)
                      | (rw [c51, show decide (mCos (ia 10 i, la 11 i).1 (nI x) < 13) = false from decide_eq_false (by rw [i32_lt]; simp only; omega)]; rfl)
                    · omega
          refine cut43 _ (bI (inZ ((la 11) (i)).toInt (((-1000000000000) : Int64)).toInt ((1000000000000 : Int64)).toInt)) (0) (Nat.zero_le _) (by rw [show sG (ia 10 i, la 11 i) 0 = inZ (la 11 i).toInt (-1000000000000) 1000000000000 from by simp [sG]]; rfl) (Nat.lt_succ_self _)
  refine cut4 _ (0) (0) (Nat.zero_le _) rfl (fun q hq => by simp [takeS_zero] at hq) (Nat.lt_succ_self _)
end
section
theorem sScale_snoc (v : Int64) (S : List sT) (q : sT) : sScale v (S ++ [q]) = sScale v S ++ [(q.1, v * q.2)] := by simp [sScale]
def qm_putAll (cy : Nat → ClassId) (ad : Nat → Nat) (iv : Nat → Int32) (ia : Nat → Nat → Int32) (la : Nat → Nat → Int64) (P : List sT) : gw_Q := fun r w' => r = none ∧ ∃ (m : Nat) (kk : Nat → Int32) (nn : Nat → Int64), w' = mW cy ad (va_up iv 9 (nI m)) (va_up ia 10 kk) (va_up la 11 nn) ∧ takeS kk nn 0 m = P
abbrev kX12_putAll : gw_K := (yX12_putAll, cX12_putAll, 5, { frames := 1, cells := 0, slots := 0, locals := 26 }, none)
theorem ok_X12_putAll : gw_calV kX12_putAll 2 := ⟨⟨wd_947, wd_62, by decide, by decide, by decide +kernel⟩, wd_946, wd_35⟩
set_option maxHeartbeats 4000000 in
set_option maxRecDepth 100000 in
theorem c_mputAll (l : Launch) (cy : Nat → ClassId) (ad : Nat → Nat) (iv : Nat → Int32) (ia : Nat → Nat → Int32) (la : Nat → Nat → Int64) (n f c : Nat) (v : Int64) (hn : iv 9 = nI n) (hc : ia 6 f = nI c) (hf : f < 18) (hc3 : c ≤ 300) (hnc : n + c ≤ 1000) (hso : sOrd (takeS (ia 10) (la 11) 0 n)) : gw_M l kX12_putAll cy [.ref (ad 0), .int (nI (f)), .long (v)] (mW cy ad iv ia la) (qm_putAll cy ad iv ia la (sPuts (takeS (ia 10) (la 11) 0 n) (sScale v (takeS (ia 7) (la 8) (300 * f) c)))) := by
  refine gw_M.mk (lv := [some (.ref (ad 0)), some (.int (nI (f))), some (.long (v)), none, none]) (by decide) (Nat.le_of_ble_eq_true rfl) rfl ?_
  generalize hpost : (qm_putAll cy ad iv ia la (sPuts (takeS (ia 10) (la 11) 0 n) (sScale v (takeS (ia 7) (la 8) (300 * f) c))) : gw_Q) = post
  refine gw_iconst (v := nI (0)) dX12_putAll_0 (by decide) ?_
  refine gw_istore dX12_putAll_1 (by decide) rfl ?_
  have cut3 : ∀ (fu : Nat) (i : Nat) (m : Nat) (kk : Nat → Int32) (nn : Nat → Int64), (i ≤ c) → (takeS kk nn 0 m = sPuts (takeS (ia 10) (la 11) 0 n) (sScale v (takeS (ia 7) (la 8) (300 * f) i))) → (m ≤ n + i) → (sOrd (takeS kk nn 0 m)) → (c - i) < fu → gw_W l kX12_putAll cy (gw_R kX12_putAll post) (mW cy ad (va_up iv 9 (nI (m))) (va_up ia 10 (kk)) (va_up la 11 (nn))) 0 0 3 [some (.ref (ad 0)), some (.int (nI (f))), some (.long (v)), none, some (.int (nI (i)))] [] := by
    intro fu
    induction fu with
    | zero => intro i m kk nn h1 h2 h3 h4 hfu; exact absurd hfu (Nat.not_lt_zero _)
    | succ fu ih3 =>
      intro i m kk nn h1 h2 h3 h4 hfu
      refine gw_iload dX12_putAll_3 rfl ?_
      refine gw_aload_n dX12_putAll_5 rfl ?_
      refine gm_get_many rfl dX12_putAll_6 ?_
      refine gw_iload_n dX12_putAll_9 rfl ?_
      refine gm_ld_many (j := f) (rfl) (by omega) dX12_putAll_10 ?_
      refine gw_topi (y := (ia 6) (f)) rfl ?_
      refine gw_topi (y := nI (c)) (hc) ?_
      refine gw_icmpN_ge (tgt := 52) dX12_putAll_11 (by decide) (by omega) (by omega) (fun c11 => ?_) (fun c11 => ?_)
      · have e1 : i = c := by omega
        subst e1
        refine gw_vret (?_) (by decide) (by decide) rfl dX12_putAll_52
        subst hpost
        exact ⟨rfl, m, kk, nn, rfl, h2⟩
      · refine gw_aload_n dX12_putAll_14 rfl ?_
        refine gw_aload_n dX12_putAll_15 rfl ?_
        refine gm_get_key rfl dX12_putAll_16 ?_
        refine gw_sipush (v := nI (300)) dX12_putAll_19 (by decide) ?_
        refine gw_iload_n dX12_putAll_22 rfl ?_
        refine gw_imulN dX12_putAll_23 ?_
        refine gw_iload dX12_putAll_24 rfl ?_
        refine gw_iaddN dX12_putAll_26 ?_
        refine gm_ld_key (j := (300 * f) + i) (rfl) (by omega) dX12_putAll_27 ?_
        refine gw_topi (y := (ia 7) ((300 * f) + i)) rfl ?_
        refine gw_lload_n dX12_putAll_28 rfl ?_
        refine gw_aload_n dX12_putAll_29 rfl ?_
        refine gm_get_number rfl dX12_putAll_30 ?_
        refine gw_sipush (v := nI (300)) dX12_putAll_33 (by decide) ?_
        refine gw_iload_n dX12_putAll_36 rfl ?_
        refine gw_imulN dX12_putAll_37 ?_
        refine gw_iload dX12_putAll_38 rfl ?_
        refine gw_iaddN dX12_putAll_40 ?_
        refine gm_ld_number (j := (300 * f) + i) (rfl) (by omega) dX12_putAll_41 ?_
        refine gw_topl (y := (la 8) ((300 * f) + i)) rfl ?_
        refine gw_lmul dX12_putAll_42 ?_
        refine gw_callV 0 (As := [.int ((ia 7) ((300 * f) + i)), .long ((v) * ((la 8) ((300 * f) + i)))]) (st := []) (c_mput l cy ad (va_up iv 9 (nI (m))) (va_up ia 10 (kk)) (va_up la 11 (nn)) (m) ((ia 7) ((300 * f) + i)) ((v) * ((la 8) ((300 * f) + i))) rfl (by omega) (h4)) ok_X12_put rfl rfl rfl wd_948 rfl rfl dX12_putAll_43 (by decide) (by decide) (Nat.le_of_ble_eq_true rfl) (fun r43 w43 hp43 => ?_)
        obtain ⟨rfl, n43, kk43, nn43, rfl, hT43⟩ := hp43
        have hT43 : takeS kk43 nn43 0 n43 = sIns ((ia 7) ((300 * f) + i)) ((v) * ((la 8) ((300 * f) + i))) (takeS (kk) (nn) 0 m) := hT43
        refine gw_W.wd (w' := (mW cy ad (va_up iv 9 (nI (n43))) (va_up ia 10 (kk43)) (va_up la 11 (nn43)))) rfl ?_
        refine gw_W.norm (st' := []) (k1 := 0) (k2 := 0) rfl rfl rfl ?_
        refine gw_iinc (v := nI (i + 1)) dX12_putAll_46 rfl (nI_add _ 1) (by decide) rfl ?_
        refine gw_goto (tgt := 3) dX12_putAll_49 (by decide) ?_
        refine gw_W.wd (w' := (mW cy ad (va_up iv 9 (nI ((n43)))) (va_up ia 10 (((kk43)))) (va_up la 11 (((nn43)))))) rfl ?_
        refine ih3 (i + 1) (n43) ((kk43)) ((nn43)) ?_ ?_ ?_ ?_ ?_
        · omega
        · rw [hT43, h2, takeS_snoc, sScale_snoc, sPuts_snoc]
        · have q1 := congrArg List.length hT43
          have q2 := sIns_len (ia 7 (300 * f + i)) (v * la 8 (300 * f + i)) (takeS kk nn 0 m)
          rw [takeS_len] at q1 q2; omega
        · rw [hT43]; exact sIns_ord h4
        · omega
  refine gw_W.wd (w' := mW cy ad (va_up iv 9 (nI (n))) ia la) (by rw [← hn, va_up_id]) ?_
  refine gw_W.wd (w' := (mW cy ad (va_up iv 9 (nI ((n)))) (va_up ia 10 (((ia 10)))) (va_up la 11 (((la 11)))))) rfl ?_
  refine cut3 _ (0) (n) ((ia 10)) ((la 11)) (Nat.zero_le _) rfl (Nat.le_refl _) hso (Nat.lt_succ_self _)
def qm_copy (cy : Nat → ClassId) (ad : Nat → Nat) (iv : Nat → Int32) (ia : Nat → Nat → Int32) (la : Nat → Nat → Int64) (t f c : Nat) : gw_Q := fun r w' => r = none ∧ ∃ (kk : Nat → Int32) (nn : Nat → Int64), w' = mW cy ad iv (va_up (va_up ia 6 (upd (ia 6) t (nI c))) 7 kk) (va_up la 8 nn) ∧ takeS kk nn (300 * t) c = takeS (ia 7) (la 8) (300 * f) c ∧ ∀ j, (j < 300 * t ∨ 300 * t + 300 ≤ j) → kk j = ia 7 j ∧ nn j = la 8 j
abbrev kX12_copySum : gw_K := (yX12_copySum, cX12_copySum, 4, { frames := 0, cells := 0, slots := 0, locals := 0 }, none)
theorem ok_X12_copySum : gw_calV kX12_copySum 2 := ⟨⟨wd_973, wd_62, by decide, by decide, by decide +kernel⟩, wd_972, wd_39⟩
set_option maxHeartbeats 4000000 in
set_option maxRecDepth 100000 in
theorem c_mcopySum (l : Launch) (cy : Nat → ClassId) (ad : Nat → Nat) (iv : Nat → Int32) (ia : Nat → Nat → Int32) (la : Nat → Nat → Int64) (t f c : Nat) (hc : ia 6 f = nI c) (ht : t < 18) (hf : f < 18) (hc3 : c ≤ 300) : gw_M l kX12_copySum cy [.ref (ad 0), .int (nI (t)), .int (nI (f))] (mW cy ad iv ia la) (qm_copy cy ad iv ia la t f c) := by
  refine gw_M.mk (lv := [some (.ref (ad 0)), some (.int (nI (t))), some (.int (nI (f))), none]) (by decide) (Nat.le_of_ble_eq_true rfl) rfl ?_
  generalize hpost : (qm_copy cy ad iv ia la t f c : gw_Q) = post
  have hcf : upd (ia 6) t (nI c) f = nI c := by
    by_cases e : f = t
    · subst e; exact pk_us
    · rw [pk_un e]; exact hc
  refine gw_aload_n dX12_copySum_0 rfl ?_
  refine gm_get_many rfl dX12_copySum_1 ?_
  refine gw_iload_n dX12_copySum_4 rfl ?_
  refine gw_aload_n dX12_copySum_5 rfl ?_
  refine gm_get_many rfl dX12_copySum_6 ?_
  refine gw_iload_n dX12_copySum_9 rfl ?_
  refine gm_ld_many (j := f) (rfl) (by omega) dX12_copySum_10 ?_
  refine gw_topi (y := nI (c)) (hc) ?_
  refine gm_st_many (j := t) (rfl) (by omega) dX12_copySum_11 ?_
  refine gw_W.wd (w' := (mW cy ad iv (va_up ia 6 (upd (ia 6) (t) (nI (c)))) la)) rfl ?_
  refine gw_iconst (v := nI (0)) dX12_copySum_12 (by decide) ?_
  refine gw_istore_n dX12_copySum_13 (by decide) rfl ?_
  have cut14 : ∀ (fu : Nat) (i : Nat) (kk : Nat → Int32) (nn : Nat → Int64), (i ≤ c) → (∀ j, j < i → kk (300 * t + j) = ia 7 (300 * f + j) ∧ nn (300 * t + j) = la 8 (300 * f + j)) → (∀ j, (j < 300 * t ∨ 300 * t + i ≤ j) → kk j = ia 7 j ∧ nn j = la 8 j) → (c - i) < fu → gw_W l kX12_copySum cy (gw_R kX12_copySum post) (mW cy ad iv (va_up (va_up ia 6 (upd (ia 6) (t) (nI (c)))) 7 (kk)) (va_up la 8 (nn))) 0 0 14 [some (.ref (ad 0)), some (.int (nI (t))), some (.int (nI (f))), some (.int (nI (i)))] [] := by
    intro fu
    induction fu with
    | zero => intro i kk nn h1 h2 h3 hfu; exact absurd hfu (Nat.not_lt_zero _)
    | succ fu ih14 =>
      intro i kk nn h1 h2 h3 hfu
      refine gw_iload_n dX12_copySum_14 rfl ?_
      refine gw_aload_n dX12_copySum_15 rfl ?_
      refine gm_get_many rfl dX12_copySum_16 ?_
      refine gw_iload_n dX12_copySum_19 rfl ?_
      refine gm_ld_many (j := f) (rfl) (by omega) dX12_copySum_20 ?_
      refine gw_topi (y := (upd (ia 6) (t) (nI (c))) (f)) rfl ?_
      refine gw_topi (y := nI (c)) (hcf) ?_
      refine gw_icmpN_ge (tgt := 78) dX12_copySum_21 (by decide) (by omega) (by omega) (fun c21 => ?_) (fun c21 => ?_)
      · have e1 : i = c := by omega
        subst e1
        refine gw_vret (?_) (by decide) (by decide) rfl dX12_copySum_78
        subst hpost
        exact ⟨rfl, kk, nn, rfl, takeS_congr h2, fun j hj => h3 j (by omega)⟩
      · have q7 : kk (300 * f + i) = ia 7 (300 * f + i) ∧ nn (300 * f + i) = la 8 (300 * f + i) := h3 _ (by omega)
        refine gw_aload_n dX12_copySum_24 rfl ?_
        refine gm_get_key rfl dX12_copySum_25 ?_
        refine gw_sipush (v := nI (300)) dX12_copySum_28 (by decide) ?_
        refine gw_iload_n dX12_copySum_31 rfl ?_
        refine gw_imulN dX12_copySum_32 ?_
        refine gw_iload_n dX12_copySum_33 rfl ?_
        refine gw_iaddN dX12_copySum_34 ?_
        refine gw_aload_n dX12_copySum_35 rfl ?_
        refine gm_get_key rfl dX12_copySum_36 ?_
        refine gw_sipush (v := nI (300)) dX12_copySum_39 (by decide) ?_
        refine gw_iload_n dX12_copySum_42 rfl ?_
        refine gw_imulN dX12_copySum_43 ?_
        refine gw_iload_n dX12_copySum_44 rfl ?_
        refine gw_iaddN dX12_copySum_45 ?_
        refine gm_ld_key (j := (300 * f) + i) (rfl) (by omega) dX12_copySum_46 ?_
        refine gw_topi (y := (kk) ((300 * f) + i)) rfl ?_
        refine gw_topi (y := ia 7 (300 * f + i)) (q7.1) ?_
        refine gm_st_key (j := (300 * t) + i) (rfl) (by omega) dX12_copySum_47 ?_
        refine gw_W.wd (w' := (mW cy ad iv (va_up (va_up ia 6 (upd (ia 6) (t) (nI (c)))) 7 (upd (kk) ((300 * t) + i) (ia 7 (300 * f + i)))) (va_up la 8 (nn)))) rfl ?_
        refine gw_aload_n dX12_copySum_48 rfl ?_
        refine gm_get_number rfl dX12_copySum_49 ?_
        refine gw_sipush (v := nI (300)) dX12_copySum_52 (by decide) ?_
        refine gw_iload_n dX12_copySum_55 rfl ?_
        refine gw_imulN dX12_copySum_56 ?_
        refine gw_iload_n dX12_copySum_57 rfl ?_
        refine gw_iaddN dX12_copySum_58 ?_
        refine gw_aload_n dX12_copySum_59 rfl ?_
        refine gm_get_number rfl dX12_copySum_60 ?_
        refine gw_sipush (v := nI (300)) dX12_copySum_63 (by decide) ?_
        refine gw_iload_n dX12_copySum_66 rfl ?_
        refine gw_imulN dX12_copySum_67 ?_
        refine gw_iload_n dX12_copySum_68 rfl ?_
        refine gw_iaddN dX12_copySum_69 ?_
        refine gm_ld_number (j := (300 * f) + i) (rfl) (by omega) dX12_copySum_70 ?_
        refine gw_topl (y := (nn) ((300 * f) + i)) rfl ?_
        refine gw_topl (y := la 8 (300 * f + i)) (q7.2) ?_
        refine gm_st_number (j := (300 * t) + i) (rfl) (by omega) dX12_copySum_71 ?_
        refine gw_W.wd (w' := (mW cy ad iv (va_up (va_up ia 6 (upd (ia 6) (t) (nI (c)))) 7 (upd (kk) ((300 * t) + i) (ia 7 (300 * f + i)))) (va_up la 8 (vp_updL (nn) ((300 * t) + i) (la 8 (300 * f + i)))))) rfl ?_
        refine gw_iinc (v := nI (i + 1)) dX12_copySum_72 rfl (nI_add _ 1) (by decide) rfl ?_
        refine gw_goto (tgt := 14) dX12_copySum_75 (by decide) ?_
        refine gw_W.wd (w' := (mW cy ad iv (va_up (va_up ia 6 (upd (ia 6) (t) (nI (c)))) 7 (((upd (kk) ((300 * t) + i) (ia 7 (300 * f + i)))))) (va_up la 8 (((vp_updL (nn) ((300 * t) + i) (la 8 (300 * f + i)))))))) rfl ?_
        refine ih14 (i + 1) ((upd (kk) ((300 * t) + i) (ia 7 (300 * f + i)))) ((vp_updL (nn) ((300 * t) + i) (la 8 (300 * f + i)))) ?_ ?_ ?_ ?_
        · omega
        · intro j hj
          rcases Nat.lt_or_ge j i with g | g
          · rw [pk_un (by omega), pk_uLn (by omega)]; exact h2 j g
          · have e3 : j = i := by omega
            subst e3; exact ⟨pk_us, pk_uLs⟩
        · intro j hj; rw [pk_un (by omega), pk_uLn (by omega)]; exact h3 j (by omega)
        · omega
  refine gw_W.wd (w' := (mW cy ad iv (va_up (va_up ia 6 (upd (ia 6) (t) (nI (c)))) 7 (((ia 7)))) (va_up la 8 (((la 8)))))) rfl ?_
  refine cut14 _ (0) ((ia 7)) ((la 8)) (Nat.zero_le _) (fun j h => absurd h (Nat.not_lt_zero _)) (fun _ _ => ⟨rfl, rfl⟩) (Nat.lt_succ_self _)
end
section
/-! axes of products: place s of a product is its digit s to the base 4; which clash, and how -/
def axN (g s : Nat) : Nat := g / 4 ^ s % 4
def clash (a b : Nat) : Bool := decide (¬ a = 0 ∧ ¬ b = 0 ∧ ¬ a = b)
def upw (a b : Nat) : Bool := decide ((b + 3 - a) % 3 = 1)
def cntN (g p : Nat) : Nat → Nat
  | 0 => 0
  | s + 1 => cntN g p s + cond (clash (axN g s) (axN p s)) 1 0
def uN4 (g p : Nat) : Nat → Nat
  | 0 => 0
  | s + 1 => uN4 g p s + cond (clash (axN g s) (axN p s) && upw (axN g s) (axN p s)) 1 0
def dN4 (g p : Nat) : Nat → Nat
  | 0 => 0
  | s + 1 => dN4 g p s + cond (clash (axN g s) (axN p s) && !upw (axN g s) (axN p s)) 1 0
def fitN (n g p : Nat) : Bool := decide (cntN g p n % 2 = 0)
def sgN (n g p : Nat) : Int32 := if (uN4 g p n + 7 - dN4 g p n) % 4 = 0 then 1 else -1
theorem ax_lt (g s : Nat) : axN g s < 4 := Nat.mod_lt _ (by decide)
theorem ax_eq {g s : Nat} (hg : g < 2 ^ 31) (hs : s < 4) : (nI g >>> (nI (2 * s) &&& 31)) &&& nI 3 = nI (axN g s) := by
  have h : ∀ k, ((nI (2 * s) &&& 31).toBitVec.smod 32).toNat = k → (nI g >>> (nI (2 * s) &&& 31)) &&& nI 3 = nI (g / 2 ^ k % 4) := by
    intro k hk
    rw [pk_shrN hg _ k hk, pk_andN (k := 2) (Nat.lt_of_le_of_lt (Nat.div_le_self _ _) (by omega)) (by decide)]
  unfold axN
  rcases (show s = 0 ∨ s = 1 ∨ s = 2 ∨ s = 3 by omega) with rfl | rfl | rfl | rfl
  · exact h 0 (by decide)
  · exact h 2 (by decide)
  · exact h 4 (by decide)
  · exact h 6 (by decide)
theorem cnt_le (g p s : Nat) : cntN g p s ≤ s := by
  induction s with
  | zero => exact Nat.le_refl _
  | succ s ih => rw [cntN]; cases clash (axN g s) (axN p s) <;> simp <;> omega
theorem ud_le (g p s : Nat) : uN4 g p s + dN4 g p s = cntN g p s := by
  induction s with
  | zero => rfl
  | succ s ih =>
    rw [cntN, uN4, dN4]
    cases clash (axN g s) (axN p s) <;> cases upw (axN g s) (axN p s) <;> simp <;> omega
theorem clash_f1 {a b : Nat} (h : a = 0) : clash a b = false := by simp [clash, h]
theorem clash_f2 {a b : Nat} (h : b = 0) : clash a b = false := by simp [clash, h]
theorem clash_f3 {a b : Nat} (h : a = b) : clash a b = false := by simp [clash, h]
theorem clash_t {a b : Nat} (h1 : ¬ a = 0) (h2 : ¬ b = 0) (h3 : ¬ a = b) : clash a b = true := by simp [clash, h1, h2, h3]
theorem ax_xor (g p s : Nat) : axN (g ^^^ p) s = axN g s ^^^ axN p s := by
  unfold axN
  rw [show (4 : Nat) = 2 ^ 2 from rfl, ← Nat.pow_mul, Nat.xor_div_two_pow, Nat.xor_mod_two_pow]
theorem xor4 : ∀ a, a < 4 → ∀ b, b < 4 → a ^^^ b = (if a = 0 then b else if b = 0 then a else if a = b then 0 else 6 - a - b) := by decide
theorem or_ax {x s : Nat} (hs : s < 4) : nI (x % 4 ^ s) ||| (nI (axN x s) <<< (nI (2 * s) &&& 31)) = nI (x % 4 ^ (s + 1)) := by
  have hx := ax_lt x s
  have h : ∀ k, 4 ^ s = 2 ^ k → k ≤ 6 → ((nI (2 * s) &&& 31).toBitVec.smod 32).toNat = k → nI (x % 4 ^ s) ||| (nI (axN x s) <<< (nI (2 * s) &&& 31)) = nI (x % 4 ^ (s + 1)) := by
    intro k e hk6 hk
    have hp : 2 ^ k ≤ 2 ^ 6 := Nat.pow_le_pow_right (by decide) hk6
    have hlt : x % 2 ^ k < 2 ^ k := Nat.mod_lt _ (Nat.two_pow_pos k)
    have hm : axN x s * 2 ^ k ≤ 3 * 2 ^ k := Nat.mul_le_mul_right _ (by omega)
    rw [pk_shlN _ k hk (by omega), e]
    have e2 : x % 4 ^ (s + 1) = 2 ^ k * axN x s + x % 2 ^ k := by
      rw [Nat.pow_succ, e, Nat.mod_mul]
      unfold axN; rw [e]; omega
    have e3 : ∀ a b : Nat, nI a ||| nI b = nI (a ||| b) := fun a b => by
      apply Int32.toBitVec_inj.mp
      show BitVec.ofNat 32 a ||| BitVec.ofNat 32 b = BitVec.ofNat 32 (a ||| b)
      apply BitVec.eq_of_getLsbD_eq
      intro i hi
      simp [BitVec.getLsbD_ofNat, Nat.testBit_or, hi]
    rw [e3, e2, Nat.mul_comm, Nat.two_pow_add_eq_or_of_lt hlt, Nat.or_comm]
  rcases (show s = 0 ∨ s = 1 ∨ s = 2 ∨ s = 3 by omega) with rfl | rfl | rfl | rfl
  · exact h 0 rfl (by decide) (by decide)
  · exact h 2 rfl (by decide) (by decide)
  · exact h 4 rfl (by decide) (by decide)
  · exact h 6 rfl (by decide) (by decide)
theorem up_eq : ∀ a, a < 4 → ∀ b, b < 4 → (¬ a = 0 ∧ ¬ b = 0) → (((nI b - nI a) + nI 3) - ((nI b - nI a) + nI 3) / nI 3 * nI 3 = nI 1 ↔ upw a b = true) := by decide
theorem sg_eq : ∀ u, u < 5 → ∀ d, d < 5 → u + d < 5 → ((((nI u - nI (d + 1)) - (nI u - nI (d + 1)) / nI 4 * nI 4 + nI 4) - ((nI u - nI (d + 1)) - (nI u - nI (d + 1)) / nI 4 * nI 4 + nI 4) / nI 4 * nI 4 = 0) ↔ (u + 7 - d) % 4 = 0) := by decide
end
section
abbrev kX12_fits : gw_K := (yX12_fits, cX12_fits, 7, { frames := 0, cells := 0, slots := 0, locals := 0 }, (some .boolean))
theorem ok_X12_fits : gw_calV kX12_fits 2 := ⟨⟨wd_998, wd_62, by decide, by decide, by decide +kernel⟩, wd_997, wd_42⟩
set_option maxHeartbeats 4000000 in
set_option maxRecDepth 100000 in
theorem c_mfits (l : Launch) (cy : Nat → ClassId) (ad : Nat → Nat) (iv : Nat → Int32) (ia : Nat → Nat → Int32) (la : Nat → Nat → Int64) (n g p : Nat) (hn : iv 0 = nI n) (hn4 : n ≤ 4) (hg : g < 256) (hp : p < 256) : gw_M l kX12_fits cy [.ref (ad 0), .int (nI (g)), .int (nI (p))] (mW cy ad iv ia la) (fun r w' => r = some (.int (bI (fitN n g p))) ∧ w' = mW cy ad iv ia la) := by
  refine gw_M.mk (lv := [some (.ref (ad 0)), some (.int (nI (g))), some (.int (nI (p))), none, none, none, none]) (by decide) (Nat.le_of_ble_eq_true rfl) rfl ?_
  generalize hpost : (fun r w' => r = some (.int (bI (fitN n g p))) ∧ w' = mW cy ad iv ia la : gw_Q) = post
  refine gw_iconst (v := nI (0)) dX12_fits_0 (by decide) ?_
  refine gw_istore_n dX12_fits_1 (by decide) rfl ?_
  refine gw_iconst (v := nI (0)) dX12_fits_2 (by decide) ?_
  refine gw_istore dX12_fits_3 (by decide) rfl ?_
  have cut5 : ∀ (fu : Nat) (c : Nat) (s : Nat), (s ≤ n) → (c = cntN g p s) → (n - s) < fu → gw_W l kX12_fits cy (gw_R kX12_fits post) (mW cy ad iv ia la) 0 0 5 [some (.ref (ad 0)), some (.int (nI (g))), some (.int (nI (p))), some (.int (nI (c))), some (.int (nI (s))), none, none] [] := by
    intro fu
    induction fu with
    | zero => intro c s h1 h2 hfu; exact absurd hfu (Nat.not_lt_zero _)
    | succ fu ih5 =>
      intro c s h1 h2 hfu
      have hcs := cnt_le g p s
      rw [← h2] at hcs
      refine gw_iload dX12_fits_5 rfl ?_
      refine gw_aload_n dX12_fits_7 rfl ?_
      refine gm_get_spins rfl dX12_fits_8 ?_
      refine gw_topi (y := nI (n)) (hn) ?_
      refine gw_icmpN_ge (tgt := 65) dX12_fits_11 (by decide) (by omega) (by omega) (fun c11 => ?_) (fun c11 => ?_)
      · have e1 : s = n := by omega
        rw [e1] at h2
        refine gw_iload_n dX12_fits_65 rfl ?_
        refine gw_iconst (v := nI (2)) dX12_fits_66 (by decide) ?_
        refine gw_iremN dX12_fits_67 (by omega) (by omega) (by omega) ?_
        refine gw_ifN_ne (tgt := 75) dX12_fits_68 (by decide) (by omega) (fun c68 => ?_) (fun c68 => ?_)
        · refine gw_iconst (v := nI (0)) dX12_fits_75 (by decide) ?_
          refine gw_zret (?_) (by decide) (by decide) rfl (by decide) dX12_fits_76
          subst hpost
          exact ⟨by first | (rw [show fitN n g p = true from decide_eq_true (by rw [← h2]; exact c68)]; rfl) | (rw [show fitN n g p = false from decide_eq_false (by rw [← h2]; exact c68)]; rfl), rfl⟩
        · refine gw_iconst (v := nI (1)) dX12_fits_71 (by decide) ?_
          refine gw_goto (tgt := 76) dX12_fits_72 (by decide) ?_
          refine gw_zret (?_) (by decide) (by decide) rfl (by decide) dX12_fits_76
          subst hpost
          exact ⟨by first | (rw [show fitN n g p = true from decide_eq_true (by rw [← h2]; exact c68)]; rfl) | (rw [show fitN n g p = false from decide_eq_false (by rw [← h2]; exact c68)]; rfl), rfl⟩
      · refine gw_iload_n dX12_fits_14 rfl ?_
        refine gw_iconst (v := nI (2)) dX12_fits_15 (by decide) ?_
        refine gw_iload dX12_fits_16 rfl ?_
        refine gw_imulN dX12_fits_18 ?_
        refine gw_ishr dX12_fits_19 ?_
        refine gw_iconst (v := nI (3)) dX12_fits_20 (by decide) ?_
        refine gw_iand dX12_fits_21 ?_
        refine gw_topi (y := nI (axN g s)) (ax_eq (by omega) (by omega)) ?_
        refine gw_istore dX12_fits_22 (by decide) rfl ?_
        refine gw_iload_n dX12_fits_24 rfl ?_
        refine gw_iconst (v := nI (2)) dX12_fits_25 (by decide) ?_
        refine gw_iload dX12_fits_26 rfl ?_
        refine gw_imulN dX12_fits_28 ?_
        refine gw_ishr dX12_fits_29 ?_
        refine gw_iconst (v := nI (3)) dX12_fits_30 (by decide) ?_
        refine gw_iand dX12_fits_31 ?_
        refine gw_topi (y := nI (axN p s)) (ax_eq (by omega) (by omega)) ?_
        refine gw_istore dX12_fits_32 (by decide) rfl ?_
        refine gw_iload_n dX12_fits_34 rfl ?_
        refine gw_iload dX12_fits_35 rfl ?_
        refine gw_ifN_eq (tgt := 56) dX12_fits_37 (by decide) (by have := ax_lt g s; omega) (fun c37 => ?_) (fun c37 => ?_)
        · refine gw_iconst (v := nI (0)) dX12_fits_56 (by decide) ?_
          refine gw_iaddN dX12_fits_57 ?_
          refine gw_istore_n dX12_fits_58 (by decide) rfl ?_
          refine gw_iinc (v := nI (s + 1)) dX12_fits_59 rfl (nI_add _ 1) (by decide) rfl ?_
          refine gw_goto (tgt := 5) dX12_fits_62 (by decide) ?_
          refine gw_W.forget 5 ?_
          refine gw_W.forget 6 ?_
          refine ih5 (c + 0) (s + 1) ?_ ?_ ?_
          · omega
          · rw [cntN, h2]
            first
            | (rw [clash_f1 c37]; rfl)
            | (rw [clash_f2 c42]; rfl)
            | (rw [clash_f3 c49]; rfl)
            | (rw [clash_t c37 c42 c49]; rfl)
          · omega
        · refine gw_iload dX12_fits_40 rfl ?_
          refine gw_ifN_eq (tgt := 56) dX12_fits_42 (by decide) (by have := ax_lt p s; omega) (fun c42 => ?_) (fun c42 => ?_)
          · refine gw_iconst (v := nI (0)) dX12_fits_56 (by decide) ?_
            refine gw_iaddN dX12_fits_57 ?_
            refine gw_istore_n dX12_fits_58 (by decide) rfl ?_
            refine gw_iinc (v := nI (s + 1)) dX12_fits_59 rfl (nI_add _ 1) (by decide) rfl ?_
            refine gw_goto (tgt := 5) dX12_fits_62 (by decide) ?_
            refine gw_W.forget 5 ?_
            refine gw_W.forget 6 ?_
            refine ih5 (c + 0) (s + 1) ?_ ?_ ?_
            · omega
            · rw [cntN, h2]
              first
              | (rw [clash_f1 c37]; rfl)
              | (rw [clash_f2 c42]; rfl)
              | (rw [clash_f3 c49]; rfl)
              | (rw [clash_t c37 c42 c49]; rfl)
            · omega
          · refine gw_iload dX12_fits_45 rfl ?_
            refine gw_iload dX12_fits_47 rfl ?_
            refine gw_icmpN_eq (tgt := 56) dX12_fits_49 (by decide) (by have := ax_lt g s; omega) (by have := ax_lt p s; omega) (fun c49 => ?_) (fun c49 => ?_)
            · refine gw_iconst (v := nI (0)) dX12_fits_56 (by decide) ?_
              refine gw_iaddN dX12_fits_57 ?_
              refine gw_istore_n dX12_fits_58 (by decide) rfl ?_
              refine gw_iinc (v := nI (s + 1)) dX12_fits_59 rfl (nI_add _ 1) (by decide) rfl ?_
              refine gw_goto (tgt := 5) dX12_fits_62 (by decide) ?_
              refine gw_W.forget 5 ?_
              refine gw_W.forget 6 ?_
              refine ih5 (c + 0) (s + 1) ?_ ?_ ?_
              · omega
              · rw [cntN, h2]
                first
                | (rw [clash_f1 c37]; rfl)
                | (rw [clash_f2 c42]; rfl)
                | (rw [clash_f3 c49]; rfl)
                | (rw [clash_t c37 c42 c49]; rfl)
              · omega
            · refine gw_iconst (v := nI (1)) dX12_fits_52 (by decide) ?_
              refine gw_goto (tgt := 57) dX12_fits_53 (by decide) ?_
              refine gw_iaddN dX12_fits_57 ?_
              refine gw_istore_n dX12_fits_58 (by decide) rfl ?_
              refine gw_iinc (v := nI (s + 1)) dX12_fits_59 rfl (nI_add _ 1) (by decide) rfl ?_
              refine gw_goto (tgt := 5) dX12_fits_62 (by decide) ?_
              refine gw_W.forget 5 ?_
              refine gw_W.forget 6 ?_
              refine ih5 (c + 1) (s + 1) ?_ ?_ ?_
              · omega
              · rw [cntN, h2]
                first
                | (rw [clash_f1 c37]; rfl)
                | (rw [clash_f2 c42]; rfl)
                | (rw [clash_f3 c49]; rfl)
                | (rw [clash_t c37 c42 c49]; rfl)
              · omega
  refine cut5 _ (0) (0) (Nat.zero_le _) rfl (Nat.lt_succ_self _)
theorem qv_up (u d : Nat) : (nI u - nI (d + 1)) + nI 1 = nI (u + cond (true && true) 1 0) - nI (d + cond (true && !true) 1 0 + 1) := by
  simp only [Bool.and_self, Bool.not_true, Bool.and_false, cond_true, cond_false, Nat.add_zero, nI_succ]
  rw [nI_0, Int32.zero_add, Int32.sub_eq_add_neg, Int32.sub_eq_add_neg, Int32.add_assoc, Int32.add_assoc, Int32.add_comm 1]
theorem qv_dn (u d : Nat) : (nI u - nI (d + 1)) + (-1) = nI (u + cond (true && false) 1 0) - nI (d + cond (true && !false) 1 0 + 1) := by
  simp only [Bool.and_self, Bool.not_false, Bool.and_false, cond_true, cond_false, Nat.add_zero, nI_succ]
  rw [Int32.sub_eq_add_neg, Int32.sub_eq_add_neg, Int32.add_assoc, Int32.neg_add (a := nI d + 1) (b := 1), Int32.sub_eq_add_neg]
theorem xor_lt4 {n g p : Nat} (hg : g < 4 ^ n) (hp : p < 4 ^ n) : g ^^^ p < 4 ^ n := by
  rw [show (4 : Nat) = 2 ^ 2 from rfl, ← Nat.pow_mul] at hg hp ⊢
  exact Nat.xor_lt_two_pow hg hp
abbrev kX12_with : gw_K := (yX12_with, cX12_with, 9, { frames := 0, cells := 0, slots := 0, locals := 0 }, (some .int))
theorem ok_X12_with : gw_calV kX12_with 2 := ⟨⟨wd_1002, wd_62, by decide, by decide, by decide +kernel⟩, wd_1001, wd_43⟩
set_option maxHeartbeats 4000000 in
set_option maxRecDepth 100000 in
theorem c_mwith (l : Launch) (cy : Nat → ClassId) (ad : Nat → Nat) (iv : Nat → Int32) (ia : Nat → Nat → Int32) (la : Nat → Nat → Int64) (n g p : Nat) (hn : iv 0 = nI n) (hn4 : n ≤ 4) (hg : g < 4 ^ n) (hp : p < 4 ^ n) (hg2 : g < 256) (hp2 : p < 256) : gw_M l kX12_with cy [.ref (ad 0), .int (nI (g)), .int (nI (p))] (mW cy ad iv ia la) (fun r w' => r = some (.int (nI (g ^^^ p))) ∧ w' = mW cy ad (va_up iv 24 (sgN n g p)) ia la) := by
  refine gw_M.mk (lv := [some (.ref (ad 0)), some (.int (nI (g))), some (.int (nI (p))), none, none, none, none, none, none]) (by decide) (Nat.le_of_ble_eq_true rfl) rfl ?_
  generalize hpost : (fun r w' => r = some (.int (nI (g ^^^ p))) ∧ w' = mW cy ad (va_up iv 24 (sgN n g p)) ia la : gw_Q) = post
  refine gw_iconst (v := nI (0)) dX12_with_0 (by decide) ?_
  refine gw_istore_n dX12_with_1 (by decide) rfl ?_
  refine gw_iconst (v := (-1 : Int32)) dX12_with_2 (by decide) ?_
  refine gw_istore dX12_with_3 (by decide) rfl ?_
  refine gw_iconst (v := nI (0)) dX12_with_5 (by decide) ?_
  refine gw_istore dX12_with_6 (by decide) rfl ?_
  have cut8 : ∀ (fu : Nat) (qv : Int32) (s : Nat), (s ≤ n) → (qv = nI (uN4 g p s) - nI (dN4 g p s + 1)) → (n - s) < fu → gw_W l kX12_with cy (gw_R kX12_with post) (mW cy ad iv ia la) 0 0 8 [some (.ref (ad 0)), some (.int (nI (g))), some (.int (nI (p))), some (.int (nI ((g ^^^ p) % 4 ^ s))), some (.int (qv)), some (.int (nI (s))), none, none, none] [] := by
    intro fu
    induction fu with
    | zero => intro qv s h1 h2 hfu; exact absurd hfu (Nat.not_lt_zero _)
    | succ fu ih8 =>
      intro qv s h1 h2 hfu
      refine gw_iload dX12_with_8 rfl ?_
      refine gw_aload_n dX12_with_10 rfl ?_
      refine gm_get_spins rfl dX12_with_11 ?_
      refine gw_topi (y := nI (n)) (hn) ?_
      refine gw_icmpN_ge (tgt := 134) dX12_with_14 (by decide) (by omega) (by omega) (fun c14 => ?_) (fun c14 => ?_)
      · have e1 : s = n := by omega
        rw [e1] at h2
        have q4 := ud_le g p n
        have q5 := cnt_le g p n
        refine gw_aload_n dX12_with_134 rfl ?_
        refine gw_iload dX12_with_135 rfl ?_
        refine gw_iconst (v := nI (4)) dX12_with_137 (by decide) ?_
        refine gw_irem dX12_with_138 (by decide) ?_
        refine gw_iconst (v := nI (4)) dX12_with_139 (by decide) ?_
        refine gw_iadd dX12_with_140 ?_
        refine gw_iconst (v := nI (4)) dX12_with_141 (by decide) ?_
        refine gw_irem dX12_with_142 (by decide) ?_
        refine gw_if_ne (tgt := 150) dX12_with_143 (by decide) (fun c143 => ?_) (fun c143 => ?_)
        · have c144 : ¬ (uN4 g p n + 7 - dN4 g p n) % 4 = 0 := fun e => c143 (by rw [h2]; exact (sg_eq _ (by omega) _ (by omega) (by omega)).mpr e)
          refine gw_iconst (v := (-1 : Int32)) dX12_with_150 (by decide) ?_
          refine gm_put_sign rfl dX12_with_151 ?_
          refine gw_W.wd (w' := (mW cy ad (va_up iv 24 ((-1 : Int32))) ia la)) rfl ?_
          refine gw_iload_n dX12_with_154 rfl ?_
          refine gw_iret (?_) (by decide) (by decide) rfl dX12_with_155
          subst hpost
          refine ⟨?_, ?_⟩
          · rw [e1, Nat.mod_eq_of_lt (xor_lt4 hg hp)]
          · first
            | exact congrArg (fun z => mW cy ad (va_up iv 24 z) ia la) (show nI 1 = sgN n g p from (if_pos c144).symm)
            | exact congrArg (fun z => mW cy ad (va_up iv 24 z) ia la) (show (-1 : Int32) = sgN n g p from (if_neg c144).symm)
        · have c144 : (uN4 g p n + 7 - dN4 g p n) % 4 = 0 := (sg_eq _ (by omega) _ (by omega) (by omega)).mp (by rw [← h2]; exact c143)
          refine gw_iconst (v := nI (1)) dX12_with_146 (by decide) ?_
          refine gw_goto (tgt := 151) dX12_with_147 (by decide) ?_
          refine gm_put_sign rfl dX12_with_151 ?_
          refine gw_W.wd (w' := (mW cy ad (va_up iv 24 (nI (1))) ia la)) rfl ?_
          refine gw_iload_n dX12_with_154 rfl ?_
          refine gw_iret (?_) (by decide) (by decide) rfl dX12_with_155
          subst hpost
          refine ⟨?_, ?_⟩
          · rw [e1, Nat.mod_eq_of_lt (xor_lt4 hg hp)]
          · first
            | exact congrArg (fun z => mW cy ad (va_up iv 24 z) ia la) (show nI 1 = sgN n g p from (if_pos c144).symm)
            | exact congrArg (fun z => mW cy ad (va_up iv 24 z) ia la) (show (-1 : Int32) = sgN n g p from (if_neg c144).symm)
      · refine gw_iload_n dX12_with_17 rfl ?_
        refine gw_iconst (v := nI (2)) dX12_with_18 (by decide) ?_
        refine gw_iload dX12_with_19 rfl ?_
        refine gw_imulN dX12_with_21 ?_
        refine gw_ishr dX12_with_22 ?_
        refine gw_iconst (v := nI (3)) dX12_with_23 (by decide) ?_
        refine gw_iand dX12_with_24 ?_
        refine gw_topi (y := nI (axN g s)) (ax_eq (by omega) (by omega)) ?_
        refine gw_istore dX12_with_25 (by decide) rfl ?_
        refine gw_iload_n dX12_with_27 rfl ?_
        refine gw_iconst (v := nI (2)) dX12_with_28 (by decide) ?_
        refine gw_iload dX12_with_29 rfl ?_
        refine gw_imulN dX12_with_31 ?_
        refine gw_ishr dX12_with_32 ?_
        refine gw_iconst (v := nI (3)) dX12_with_33 (by decide) ?_
        refine gw_iand dX12_with_34 ?_
        refine gw_topi (y := nI (axN p s)) (ax_eq (by omega) (by omega)) ?_
        refine gw_istore dX12_with_35 (by decide) rfl ?_
        have q1 := ax_lt g s
        have q2 := ax_lt p s
        have q3 := ax_lt (g ^^^ p) s
        have cut78 : ∀ (cc : Nat), (cc = axN (g ^^^ p) s) → gw_W l kX12_with cy (gw_R kX12_with post) (mW cy ad iv ia la) 0 0 78 [some (.ref (ad 0)), some (.int (nI (g))), some (.int (nI (p))), some (.int (nI ((g ^^^ p) % 4 ^ s))), some (.int (qv)), some (.int (nI (s))), some (.int (nI (axN g s))), some (.int (nI (axN p s))), some (.int (nI (cc)))] [] := by
          intro cc h3
          refine gw_iload_n dX12_with_78 rfl ?_
          refine gw_iload dX12_with_79 rfl ?_
          refine gw_iconst (v := nI (2)) dX12_with_81 (by decide) ?_
          refine gw_iload dX12_with_82 rfl ?_
          refine gw_imulN dX12_with_84 ?_
          refine gw_ishl dX12_with_85 ?_
          refine gw_ior dX12_with_86 ?_
          refine gw_topi (y := nI ((g ^^^ p) % 4 ^ (s + 1))) (by rw [h3]; exact or_ax (by omega)) ?_
          refine gw_istore_n dX12_with_87 (by decide) rfl ?_
          refine gw_iload dX12_with_88 rfl ?_
          refine gw_ifN_eq (tgt := 128) dX12_with_90 (by decide) (by omega) (fun c90 => ?_) (fun c90 => ?_)
          · refine gw_iinc (v := nI (s + 1)) dX12_with_128 rfl (nI_add _ 1) (by decide) rfl ?_
            refine gw_goto (tgt := 8) dX12_with_131 (by decide) ?_
            refine gw_W.forget 6 ?_
            refine gw_W.forget 7 ?_
            refine gw_W.forget 8 ?_
            refine ih8 (qv) (s + 1) ?_ ?_ ?_
            · omega
            · rw [uN4, dN4]
              first
              | (rw [clash_f1 c90]; exact h2)
              | (rw [clash_f2 c95]; exact h2)
              | (rw [clash_f3 c102]; exact h2)
              | (rw [clash_t c90 c95 c102, c118, h2]; exact qv_up _ _)
              | (rw [clash_t c90 c95 c102, show upw (axN g s) (axN p s) = false from by simpa using c118, h2]; exact qv_dn _ _)
            · omega
          · refine gw_iload dX12_with_93 rfl ?_
            refine gw_ifN_eq (tgt := 128) dX12_with_95 (by decide) (by omega) (fun c95 => ?_) (fun c95 => ?_)
            · refine gw_iinc (v := nI (s + 1)) dX12_with_128 rfl (nI_add _ 1) (by decide) rfl ?_
              refine gw_goto (tgt := 8) dX12_with_131 (by decide) ?_
              refine gw_W.forget 6 ?_
              refine gw_W.forget 7 ?_
              refine gw_W.forget 8 ?_
              refine ih8 (qv) (s + 1) ?_ ?_ ?_
              · omega
              · rw [uN4, dN4]
                first
                | (rw [clash_f1 c90]; exact h2)
                | (rw [clash_f2 c95]; exact h2)
                | (rw [clash_f3 c102]; exact h2)
                | (rw [clash_t c90 c95 c102, c118, h2]; exact qv_up _ _)
                | (rw [clash_t c90 c95 c102, show upw (axN g s) (axN p s) = false from by simpa using c118, h2]; exact qv_dn _ _)
              · omega
            · refine gw_iload dX12_with_98 rfl ?_
              refine gw_iload dX12_with_100 rfl ?_
              refine gw_icmpN_eq (tgt := 128) dX12_with_102 (by decide) (by omega) (by omega) (fun c102 => ?_) (fun c102 => ?_)
              · refine gw_iinc (v := nI (s + 1)) dX12_with_128 rfl (nI_add _ 1) (by decide) rfl ?_
                refine gw_goto (tgt := 8) dX12_with_131 (by decide) ?_
                refine gw_W.forget 6 ?_
                refine gw_W.forget 7 ?_
                refine gw_W.forget 8 ?_
                refine ih8 (qv) (s + 1) ?_ ?_ ?_
                · omega
                · rw [uN4, dN4]
                  first
                  | (rw [clash_f1 c90]; exact h2)
                  | (rw [clash_f2 c95]; exact h2)
                  | (rw [clash_f3 c102]; exact h2)
                  | (rw [clash_t c90 c95 c102, c118, h2]; exact qv_up _ _)
                  | (rw [clash_t c90 c95 c102, show upw (axN g s) (axN p s) = false from by simpa using c118, h2]; exact qv_dn _ _)
                · omega
              · refine gw_iload dX12_with_105 rfl ?_
                refine gw_iload dX12_with_107 rfl ?_
                refine gw_iload dX12_with_109 rfl ?_
                refine gw_isub dX12_with_111 ?_
                refine gw_iconst (v := nI (3)) dX12_with_112 (by decide) ?_
                refine gw_iadd dX12_with_113 ?_
                refine gw_iconst (v := nI (3)) dX12_with_114 (by decide) ?_
                refine gw_irem dX12_with_115 (by decide) ?_
                refine gw_iconst (v := nI (1)) dX12_with_116 (by decide) ?_
                refine gw_icmp_ne (tgt := 124) dX12_with_117 (by decide) (fun c117 => ?_) (fun c117 => ?_)
                · have c118 : ¬ upw (axN g s) (axN p s) = true := fun e => c117 ((up_eq _ (ax_lt g s) _ (ax_lt p s) ⟨c90, c95⟩).mpr e)
                  refine gw_iconst (v := (-1 : Int32)) dX12_with_124 (by decide) ?_
                  refine gw_iadd dX12_with_125 ?_
                  refine gw_istore dX12_with_126 (by decide) rfl ?_
                  refine gw_iinc (v := nI (s + 1)) dX12_with_128 rfl (nI_add _ 1) (by decide) rfl ?_
                  refine gw_goto (tgt := 8) dX12_with_131 (by decide) ?_
                  refine gw_W.forget 6 ?_
                  refine gw_W.forget 7 ?_
                  refine gw_W.forget 8 ?_
                  refine ih8 ((qv) + ((-1 : Int32))) (s + 1) ?_ ?_ ?_
                  · omega
                  · rw [uN4, dN4]
                    first
                    | (rw [clash_f1 c90]; exact h2)
                    | (rw [clash_f2 c95]; exact h2)
                    | (rw [clash_f3 c102]; exact h2)
                    | (rw [clash_t c90 c95 c102, c118, h2]; exact qv_up _ _)
                    | (rw [clash_t c90 c95 c102, show upw (axN g s) (axN p s) = false from by simpa using c118, h2]; exact qv_dn _ _)
                  · omega
                · have c118 : upw (axN g s) (axN p s) = true := (up_eq _ (ax_lt g s) _ (ax_lt p s) ⟨c90, c95⟩).mp c117
                  refine gw_iconst (v := nI (1)) dX12_with_120 (by decide) ?_
                  refine gw_goto (tgt := 125) dX12_with_121 (by decide) ?_
                  refine gw_iadd dX12_with_125 ?_
                  refine gw_istore dX12_with_126 (by decide) rfl ?_
                  refine gw_iinc (v := nI (s + 1)) dX12_with_128 rfl (nI_add _ 1) (by decide) rfl ?_
                  refine gw_goto (tgt := 8) dX12_with_131 (by decide) ?_
                  refine gw_W.forget 6 ?_
                  refine gw_W.forget 7 ?_
                  refine gw_W.forget 8 ?_
                  refine ih8 ((qv) + (nI (1))) (s + 1) ?_ ?_ ?_
                  · omega
                  · rw [uN4, dN4]
                    first
                    | (rw [clash_f1 c90]; exact h2)
                    | (rw [clash_f2 c95]; exact h2)
                    | (rw [clash_f3 c102]; exact h2)
                    | (rw [clash_t c90 c95 c102, c118, h2]; exact qv_up _ _)
                    | (rw [clash_t c90 c95 c102, show upw (axN g s) (axN p s) = false from by simpa using c118, h2]; exact qv_dn _ _)
                  · omega
        refine gw_iload dX12_with_37 rfl ?_
        refine gw_ifN_ne (tgt := 47) dX12_with_39 (by decide) (by omega) (fun c39 => ?_) (fun c39 => ?_)
        · refine gw_iload dX12_with_47 rfl ?_
          refine gw_ifN_ne (tgt := 57) dX12_with_49 (by decide) (by omega) (fun c49 => ?_) (fun c49 => ?_)
          · refine gw_iload dX12_with_57 rfl ?_
            refine gw_iload dX12_with_59 rfl ?_
            refine gw_icmpN_ne (tgt := 68) dX12_with_61 (by decide) (by omega) (by omega) (fun c61 => ?_) (fun c61 => ?_)
            · refine gw_bipush (v := nI (6)) dX12_with_68 (by decide) ?_
              refine gw_iload dX12_with_70 rfl ?_
              refine gw_isubN dX12_with_72 (by omega) ?_
              refine gw_iload dX12_with_73 rfl ?_
              refine gw_isubN dX12_with_75 (by omega) ?_
              refine gw_istore dX12_with_76 (by decide) rfl ?_
              refine cut78 (((6) - (axN g s)) - (axN p s)) ?_
              rw [ax_xor, xor4 _ (ax_lt g s) _ (ax_lt p s)]
              first
                | rw [if_pos c39]
                | rw [if_neg c39, if_pos c49]
                | rw [if_neg c39, if_neg c49, if_pos c61]
                | rw [if_neg c39, if_neg c49, if_neg c61]
            · refine gw_iconst (v := nI (0)) dX12_with_64 (by decide) ?_
              refine gw_goto (tgt := 76) dX12_with_65 (by decide) ?_
              refine gw_istore dX12_with_76 (by decide) rfl ?_
              refine cut78 (0) ?_
              rw [ax_xor, xor4 _ (ax_lt g s) _ (ax_lt p s)]
              first
                | rw [if_pos c39]
                | rw [if_neg c39, if_pos c49]
                | rw [if_neg c39, if_neg c49, if_pos c61]
                | rw [if_neg c39, if_neg c49, if_neg c61]
          · refine gw_iload dX12_with_52 rfl ?_
            refine gw_goto (tgt := 76) dX12_with_54 (by decide) ?_
            refine gw_istore dX12_with_76 (by decide) rfl ?_
            refine cut78 (axN g s) ?_
            rw [ax_xor, xor4 _ (ax_lt g s) _ (ax_lt p s)]
            first
              | rw [if_pos c39]
              | rw [if_neg c39, if_pos c49]
              | rw [if_neg c39, if_neg c49, if_pos c61]
              | rw [if_neg c39, if_neg c49, if_neg c61]
        · refine gw_iload dX12_with_42 rfl ?_
          refine gw_goto (tgt := 76) dX12_with_44 (by decide) ?_
          refine gw_istore dX12_with_76 (by decide) rfl ?_
          refine cut78 (axN p s) ?_
          rw [ax_xor, xor4 _ (ax_lt g s) _ (ax_lt p s)]
          first
            | rw [if_pos c39]
            | rw [if_neg c39, if_pos c49]
            | rw [if_neg c39, if_neg c49, if_pos c61]
            | rw [if_neg c39, if_neg c49, if_neg c61]
  refine gw_W.rlv (lv' := [some (.ref (ad 0)), some (.int (nI (g))), some (.int (nI (p))), some (.int (nI ((g ^^^ p) % 4 ^ 0))), some (.int ((-1 : Int32))), some (.int (nI (0))), none, none, none]) (by rw [Nat.pow_zero, Nat.mod_one]; rfl) ?_
  refine cut8 _ ((-1 : Int32)) (0) (Nat.zero_le _) (show (-1 : Int32) = nI 0 - nI (0 + 1) by decide) (Nat.lt_succ_self _)
end
section
/-- behind keep(t): the sum at t is what is kept of C, or nothing has changed but the made row -/
def qm_kept (cy : Nat → ClassId) (ad : Nat → Nat) (iv : Nat → Int32) (ia : Nat → Nat → Int32) (la : Nat → Nat → Int64) (C : List sT) (t : Nat) (ans : Option (List sT) → Option Value) : gw_Q := fun r w' => r = ans (keepS C) ∧ ∃ (m : Nat) (k1 : Nat → Int32) (n1 : Nat → Int64), (keepS C = none → w' = mW cy ad (va_up iv 9 (nI m)) (va_up ia 10 k1) (va_up la 11 n1)) ∧ ∀ S, keepS C = some S → ∃ (kk : Nat → Int32) (nn : Nat → Int64), w' = mW cy ad (va_up iv 9 (nI m)) (va_up (va_up (va_up ia 6 (upd (ia 6) t (nI S.length))) 7 kk) 10 k1) (va_up (va_up la 8 nn) 11 n1) ∧ takeS kk nn (300 * t) S.length = S ∧ ∀ j, (j < 300 * t ∨ 300 * t + 300 ≤ j) → kk j = ia 7 j ∧ nn j = la 8 j
def ansN (F : Option (List sT)) : Option Value := some (.int (match F with | some S => nI S.length | none => -1000003))
def ansB (F : Option (List sT)) : Option Value := some (.int (bI F.isSome))
def ansV (_ : Option (List sT)) : Option Value := none
abbrev kX12_joined : gw_K := (yX12_joined, cX12_joined, 4, { frames := 2, cells := 0, slots := 0, locals := 50 }, (some .boolean))
theorem ok_X12_joined : gw_calV kX12_joined 3 := ⟨⟨wd_983, wd_62, by decide, by decide, by decide +kernel⟩, wd_982, wd_40⟩
set_option maxHeartbeats 4000000 in
set_option maxRecDepth 100000 in
theorem c_mjoined (l : Launch) (cy : Nat → ClassId) (ad : Nat → Nat) (iv : Nat → Int32) (ia : Nat → Nat → Int32) (la : Nat → Nat → Int64) (t f c e : Nat) (v : Int32) (hc : ia 6 t = nI c) (he : ia 6 f = nI e) (ht : t < 18) (hf : f < 18) (hc3 : c ≤ 300) (he3 : e ≤ 300) : gw_M l kX12_joined cy [.ref (ad 0), .int (nI (t)), .int (nI (f)), .int (v)] (mW cy ad iv ia la) (qm_kept cy ad iv ia la (sPuts (sPuts [] (sScale 1 (takeS (ia 7) (la 8) (300 * t) c))) (sScale v.toInt64 (takeS (ia 7) (la 8) (300 * f) e))) t ansB) := by
  refine gw_M.mk (lv := [some (.ref (ad 0)), some (.int (nI (t))), some (.int (nI (f))), some (.int (v))]) (by decide) (Nat.le_of_ble_eq_true rfl) rfl ?_
  generalize hpost : (qm_kept cy ad iv ia la (sPuts (sPuts [] (sScale 1 (takeS (ia 7) (la 8) (300 * t) c))) (sScale v.toInt64 (takeS (ia 7) (la 8) (300 * f) e))) t ansB : gw_Q) = post
  refine gw_aload_n dX12_joined_0 rfl ?_
  refine gw_iconst (v := nI (0)) dX12_joined_1 (by decide) ?_
  refine gm_put_made rfl dX12_joined_2 ?_
  refine gw_W.wd (w' := (mW cy ad (va_up iv 9 (nI (0))) ia la)) rfl ?_
  refine gw_aload_n dX12_joined_5 rfl ?_
  refine gw_iload_n dX12_joined_6 rfl ?_
  refine gw_lconst (v := (1 : Int64)) dX12_joined_7 (by decide) ?_
  refine gw_callV 0 (As := [.int (nI (t)), .long ((1 : Int64))]) (st := []) (c_mputAll l cy ad (va_up iv 9 (nI (0))) ia la (0) (t) (c) ((1 : Int64)) (rfl) (hc) (ht) (hc3) (by omega) (by exact List.Pairwise.nil)) ok_X12_putAll rfl rfl rfl wd_944 rfl rfl dX12_joined_8 (by decide) (by decide) (Nat.le_of_ble_eq_true rfl) (fun r8 w8 hp8 => ?_)
  obtain ⟨rfl, m8, kk8, nn8, rfl, hT8⟩ := hp8
  have hT8 : takeS kk8 nn8 0 m8 = sPuts (takeS (ia 10) (la 11) 0 (0)) (sScale ((1 : Int64)) (takeS (ia 7) (la 8) (300 * (t)) (c))) := hT8
  refine gw_W.wd (w' := (mW cy ad (va_up iv 9 (nI (m8))) (va_up ia 10 (kk8)) (va_up la 11 (nn8)))) rfl ?_
  refine gw_W.norm (st' := []) (k1 := 0) (k2 := 0) rfl rfl rfl ?_
  have hT8 : takeS kk8 nn8 0 m8 = sPuts [] (sScale 1 (takeS (ia 7) (la 8) (300 * t) c)) := hT8
  have hs8 : sOrd (takeS kk8 nn8 0 m8) := by rw [hT8]; exact sPuts_ord List.Pairwise.nil
  have hm8 : m8 + e ≤ 1000 := by
    have q1 := congrArg List.length hT8
    have q2 := sPuts_len [] (sScale 1 (takeS (ia 7) (la 8) (300 * t) c))
    rw [takeS_len] at q1
    simp only [sScale, List.length_map, takeS_len, List.length_nil] at q2; simp only [sScale] at q1; omega
  refine gw_aload_n dX12_joined_11 rfl ?_
  refine gw_iload_n dX12_joined_12 rfl ?_
  refine gw_iload_n dX12_joined_13 rfl ?_
  refine gw_i2l dX12_joined_14 rfl ?_
  refine gw_callV 0 (As := [.int (nI (f)), .long ((v).toInt64)]) (st := []) (c_mputAll l cy ad (va_up iv 9 (nI (m8))) (va_up ia 10 (kk8)) (va_up la 11 (nn8)) (m8) (f) (e) ((v).toInt64) (rfl) (he) (hf) (he3) (hm8) (hs8)) ok_X12_putAll rfl rfl rfl wd_944 rfl rfl dX12_joined_15 (by decide) (by decide) (Nat.le_of_ble_eq_true rfl) (fun r15 w15 hp15 => ?_)
  obtain ⟨rfl, m15, kk15, nn15, rfl, hT15⟩ := hp15
  have hT15 : takeS kk15 nn15 0 m15 = sPuts (takeS (kk8) (nn8) 0 (m8)) (sScale ((v).toInt64) (takeS (ia 7) (la 8) (300 * (f)) (e))) := hT15
  refine gw_W.wd (w' := (mW cy ad (va_up iv 9 (nI (m15))) (va_up ia 10 (kk15)) (va_up la 11 (nn15)))) rfl ?_
  refine gw_W.norm (st' := []) (k1 := 0) (k2 := 0) rfl rfl rfl ?_
  have hT15 : takeS kk15 nn15 0 m15 = (sPuts (sPuts [] (sScale 1 (takeS (ia 7) (la 8) (300 * t) c))) (sScale v.toInt64 (takeS (ia 7) (la 8) (300 * f) e))) := by rw [hT15, hT8]
  have hm15 : m15 ≤ 1000 := by
    have q1 := congrArg List.length hT15
    have q2 := sPuts_len (sPuts [] (sScale 1 (takeS (ia 7) (la 8) (300 * t) c))) (sScale v.toInt64 (takeS (ia 7) (la 8) (300 * f) e))
    have q3 := sPuts_len [] (sScale 1 (takeS (ia 7) (la 8) (300 * t) c))
    rw [takeS_len] at q1
    simp only [sScale, List.length_map, takeS_len, List.length_nil] at q2 q3; simp only [sScale] at q1; omega
  refine gw_aload_n dX12_joined_18 rfl ?_
  refine gw_iload_n dX12_joined_19 rfl ?_
  refine gw_callV 0 (As := [.int (nI (t))]) (st := []) (c_mkeep l cy ad (va_up iv 9 (nI (m15))) (va_up ia 10 (kk15)) (va_up la 11 (nn15)) (m15) (t) (rfl) (hm15) (ht)) ok_X12_keep rfl rfl rfl wd_956 rfl rfl dX12_joined_20 (by decide) (by decide) (Nat.le_of_ble_eq_true rfl) (fun r20 w20 hp20 => ?_)
  obtain ⟨F20, hF20, rfl, hN20, hS20⟩ := hp20
  cases F20 with
  | none =>
    obtain rfl := hN20 rfl
    refine gw_W.norm (st' := [.int (nI (0))]) (k1 := 0) (k2 := 0) rfl rfl rfl ?_
    refine gw_zret (?_) (by decide) (by decide) rfl (by decide) dX12_joined_23
    subst hpost
    have eC := hF20.trans (congrArg keepS hT15)
    first
      | exact ⟨by rw [← eC]; rfl, m15, kk15, nn15, fun _ => rfl, fun S h => by rw [← eC] at h; cases h⟩
      | exact ⟨by rw [← eC]; rfl, m15, kk15, nn15, fun h => (by rw [← eC] at h; cases h), fun S h => (by
          rw [← eC] at h; cases h
          exact ⟨kk20, nn20, rfl, hT20, hO20⟩)⟩
  | some S20 =>
    obtain ⟨kk20, nn20, rfl, hT20, hO20⟩ := hS20 S20 rfl
    refine gw_W.norm (st' := [.int (nI (1))]) (k1 := 0) (k2 := 0) rfl rfl rfl ?_
    refine gw_W.wd (w' := (mW cy ad (va_up iv 9 (nI (m15))) (va_up (va_up (va_up ia 6 (upd (ia 6) (t) (nI (S20.length)))) 7 (kk20)) 10 (kk15)) (va_up (va_up la 8 (nn20)) 11 (nn15)))) rfl ?_
    refine gw_zret (?_) (by decide) (by decide) rfl (by decide) dX12_joined_23
    subst hpost
    have eC := hF20.trans (congrArg keepS hT15)
    first
      | exact ⟨by rw [← eC]; rfl, m15, kk15, nn15, fun _ => rfl, fun S h => by rw [← eC] at h; cases h⟩
      | exact ⟨by rw [← eC]; rfl, m15, kk15, nn15, fun h => (by rw [← eC] at h; cases h), fun S h => (by
          rw [← eC] at h; cases h
          exact ⟨kk20, nn20, rfl, hT20, hO20⟩)⟩
end
section
/-! keys as numbers, and what a turn puts -/
def kn (k : Int32) : Nat := k.toInt.toNat
def keyOK (n : Nat) (k : Int32) : Prop := 0 ≤ k.toInt ∧ kn k < 4 ^ n * 2 ^ 20
theorem pow4_le {n : Nat} (h : n ≤ 4) : 4 ^ n ≤ 256 := by
  rcases (show n = 0 ∨ n = 1 ∨ n = 2 ∨ n = 3 ∨ n = 4 by omega) with rfl | rfl | rfl | rfl | rfl <;> decide
theorem kn_lt {n : Nat} {k : Int32} (h : keyOK n k) : kn k < 4 ^ n * 2 ^ 20 := h.2
theorem kn_eq {n : Nat} {k : Int32} (h : keyOK n k) (hn : n ≤ 4) : k = nI (kn k) := by
  have h1 := h.1
  have h3 := kn_lt h
  have h4 := pow4_le hn
  rw [i32_eq, nI_toInt (by omega)]
  unfold kn; omega
theorem kn_prod {n : Nat} {k : Int32} (h : keyOK n k) (hn : n ≤ 4) : mProd k = nI (kn k / 2 ^ 20) := by
  have h3 := kn_lt h
  have h4 := pow4_le hn
  unfold mProd
  conv => lhs; rw [kn_eq h hn]
  exact pk_shrN (by omega) _ 20 (by decide)
theorem kn_prod_lt {n : Nat} {k : Int32} (h : keyOK n k) : kn k / 2 ^ 20 < 4 ^ n := by
  rw [Nat.div_lt_iff_lt_mul (by decide)]; exact kn_lt h
def tqK (g : Nat) (k : Int32) : Int32 := nI ((g ^^^ (kn k / 2 ^ 20)) * 2 ^ 20 + kn k % 2 ^ 20)
theorem tqK_eq {n g : Nat} {k : Int32} (h : keyOK n k) (hn : n ≤ 4) (hx : g ^^^ (kn k / 2 ^ 20) < 256) : (nI (g ^^^ (kn k / 2 ^ 20)) <<< (nI 20 &&& 31)) ||| (k &&& 1048575) = tqK g k := by
  have h3 := kn_lt h
  have h4 := pow4_le hn
  have e3 : ∀ a b : Nat, nI a ||| nI b = nI (a ||| b) := fun a b => by
    apply Int32.toBitVec_inj.mp
    show BitVec.ofNat 32 a ||| BitVec.ofNat 32 b = BitVec.ofNat 32 (a ||| b)
    apply BitVec.eq_of_getLsbD_eq
    intro i hi
    simp [BitVec.getLsbD_ofNat, Nat.testBit_or, hi]
  rw [pk_shlN _ 20 (by decide) (by omega)]
  conv => lhs; rw [kn_eq h hn]
  rw [pk_andN (k := 20) (by omega) (by decide), ← kn_eq h hn, e3]
  unfold tqK
  rw [Nat.mul_comm, Nat.two_pow_add_eq_or_of_lt (Nat.mod_lt _ (by decide))]
def tq (n g q : Nat) (x : sT) : sT := if fitN n g (kn x.1 / 2 ^ 20) = true ∨ q = 0 then x else if q = 2 then (x.1, -x.2) else (tqK g x.1, if q = 1 then (sgN n g (kn x.1 / 2 ^ 20)).toInt64 * x.2 else (-sgN n g (kn x.1 / 2 ^ 20)).toInt64 * x.2)
theorem tq_a {n g q : Nat} {x : sT} (h : fitN n g (kn x.1 / 2 ^ 20) = true ∨ q = 0) : tq n g q x = x := if_pos h
theorem tq_b {n g q : Nat} {x : sT} (h : ¬ fitN n g (kn x.1 / 2 ^ 20) = true) (h0 : ¬ q = 0) (h2 : q = 2) : tq n g q x = (x.1, -x.2) := by
  rw [tq, if_neg (fun e => e.elim h h0), if_pos h2]
theorem tq_c {n g q : Nat} {x : sT} (h : ¬ fitN n g (kn x.1 / 2 ^ 20) = true) (h0 : ¬ q = 0) (h2 : ¬ q = 2) (h1 : q = 1) : tq n g q x = (tqK g x.1, (sgN n g (kn x.1 / 2 ^ 20)).toInt64 * x.2) := by
  rw [tq, if_neg (fun e => e.elim h h0), if_neg h2, if_pos h1]
theorem tq_d {n g q : Nat} {x : sT} (h : ¬ fitN n g (kn x.1 / 2 ^ 20) = true) (h0 : ¬ q = 0) (h2 : ¬ q = 2) (h1 : ¬ q = 1) : tq n g q x = (tqK g x.1, (-sgN n g (kn x.1 / 2 ^ 20)).toInt64 * x.2) := by
  rw [tq, if_neg (fun e => e.elim h h0), if_neg h2, if_neg h1]
end
section
abbrev kX12_turnQuarter : gw_K := (yX12_turnQuarter, cX12_turnQuarter, 8, { frames := 2, cells := 0, slots := 0, locals := 50 }, none)
theorem ok_X12_turnQuarter : gw_calV kX12_turnQuarter 2 := ⟨⟨wd_991, wd_62, by decide, by decide, by decide +kernel⟩, wd_990, wd_41⟩
set_option maxHeartbeats 4000000 in
set_option maxRecDepth 100000 in
theorem c_mturnQuarter (l : Launch) (cy : Nat → ClassId) (ad : Nat → Nat) (iv : Nat → Int32) (ia : Nat → Nat → Int32) (la : Nat → Nat → Int64) (n g c : Nat) (hn : iv 0 = nI n) (hn4 : n ≤ 4) (hg : g < 4 ^ n) (hc : ia 6 8 = nI c) (hc3 : c ≤ 300) (hks : ∀ j, j < c → keyOK n (ia 7 (2400 + j))) (q : Nat) (hq : q < 4) : gw_M l kX12_turnQuarter cy [.ref (ad 0), .int (nI (g)), .int (nI (q))] (mW cy ad iv ia la) (fun r w' => ∃ sg, qm_kept cy ad (va_up iv 24 sg) ia la (sPuts [] ((takeS (ia 7) (la 8) 2400 c).map (tq n g q))) 8 ansV r w') := by
  refine gw_M.mk (lv := [some (.ref (ad 0)), some (.int (nI (g))), some (.int (nI (q))), none, none, none, none, none]) (by decide) (Nat.le_of_ble_eq_true rfl) rfl ?_
  generalize hpost : (fun r w' => ∃ sg, qm_kept cy ad (va_up iv 24 sg) ia la (sPuts [] ((takeS (ia 7) (la 8) 2400 c).map (tq n g q))) 8 ansV r w' : gw_Q) = post
  have hg2 : g < 256 := Nat.lt_of_lt_of_le hg (pow4_le hn4)
  refine gw_aload_n dX12_turnQuarter_0 rfl ?_
  refine gw_iconst (v := nI (0)) dX12_turnQuarter_1 (by decide) ?_
  refine gm_put_made rfl dX12_turnQuarter_2 ?_
  refine gw_W.wd (w' := (mW cy ad (va_up iv 9 (nI (0))) ia la)) rfl ?_
  refine gw_iconst (v := nI (0)) dX12_turnQuarter_5 (by decide) ?_
  refine gw_istore_n dX12_turnQuarter_6 (by decide) rfl ?_
  have cut7 : ∀ (fu : Nat) (i : Nat) (m : Nat) (sg : Int32) (kk : Nat → Int32) (nn : Nat → Int64), (i ≤ c) → (takeS kk nn 0 m = sPuts [] ((takeS (ia 7) (la 8) 2400 i).map (tq n g q))) → (m ≤ i) → (sOrd (takeS kk nn 0 m)) → (c - i) < fu → gw_W l kX12_turnQuarter cy (gw_R kX12_turnQuarter post) (mW cy ad (va_up (va_up iv 9 (nI (m))) 24 (sg)) (va_up ia 10 (kk)) (va_up la 11 (nn))) 0 0 7 [some (.ref (ad 0)), some (.int (nI (g))), some (.int (nI (q))), some (.int (nI (i))), none, none, none, none] [] := by
    intro fu
    induction fu with
    | zero => intro i m sg kk nn h1 h2 h3 h4 hfu; exact absurd hfu (Nat.not_lt_zero _)
    | succ fu ih7 =>
      intro i m sg kk nn h1 h2 h3 h4 hfu
      refine gw_iload_n dX12_turnQuarter_7 rfl ?_
      refine gw_aload_n dX12_turnQuarter_8 rfl ?_
      refine gm_get_many rfl dX12_turnQuarter_9 ?_
      refine gw_bipush (v := nI (8)) dX12_turnQuarter_12 (by decide) ?_
      refine gm_ld_many (j := 8) (rfl) (by omega) dX12_turnQuarter_14 ?_
      refine gw_topi (y := (ia 6) (8)) rfl ?_
      refine gw_topi (y := nI (c)) (hc) ?_
      refine gw_icmpN_ge (tgt := 145) dX12_turnQuarter_15 (by decide) (by omega) (by omega) (fun c15 => ?_) (fun c15 => ?_)
      · have e1 : i = c := by omega
        rw [e1] at h2 h3
        refine gw_aload_n dX12_turnQuarter_145 rfl ?_
        refine gw_bipush (v := nI (8)) dX12_turnQuarter_146 (by decide) ?_
        refine gw_callV 0 (As := [.int (nI (8))]) (st := []) (c_mkeep l cy ad (va_up (va_up iv 9 (nI (m))) 24 (sg)) (va_up ia 10 (kk)) (va_up la 11 (nn)) (m) (8) (rfl) (by omega) (by decide)) ok_X12_keep rfl rfl rfl wd_956 rfl rfl dX12_turnQuarter_148 (by decide) (by decide) (Nat.le_of_ble_eq_true rfl) (fun r148 w148 hp148 => ?_)
        obtain ⟨F148, hF148, rfl, hN148, hS148⟩ := hp148
        cases F148 with
        | none =>
          obtain rfl := hN148 rfl
          refine gw_W.norm (st' := [.int (nI (0))]) (k1 := 0) (k2 := 0) rfl rfl rfl ?_
          refine gw_istore_n dX12_turnQuarter_151 (by decide) rfl ?_
          refine gw_vret (?_) (by decide) (by decide) rfl dX12_turnQuarter_152
          subst hpost
          have eC := hF148.trans (congrArg keepS h2)
          first
            | exact ⟨sg, rfl, m, kk, nn, fun _ => rfl, fun S h => by rw [← eC] at h; cases h⟩
            | exact ⟨sg, rfl, m, kk, nn, fun h => (by rw [← eC] at h; cases h), fun S h => (by
                rw [← eC] at h; cases h
                exact ⟨kk148, nn148, rfl, hT148, hO148⟩)⟩
        | some S148 =>
          obtain ⟨kk148, nn148, rfl, hT148, hO148⟩ := hS148 S148 rfl
          refine gw_W.norm (st' := [.int (nI (1))]) (k1 := 0) (k2 := 0) rfl rfl rfl ?_
          refine gw_W.wd (w' := (mW cy ad (va_up (va_up iv 9 (nI (m))) 24 (sg)) (va_up (va_up (va_up ia 6 (upd (ia 6) (8) (nI (S148.length)))) 7 (kk148)) 10 (kk)) (va_up (va_up la 8 (nn148)) 11 (nn)))) rfl ?_
          refine gw_istore_n dX12_turnQuarter_151 (by decide) rfl ?_
          refine gw_vret (?_) (by decide) (by decide) rfl dX12_turnQuarter_152
          subst hpost
          have eC := hF148.trans (congrArg keepS h2)
          first
            | exact ⟨sg, rfl, m, kk, nn, fun _ => rfl, fun S h => by rw [← eC] at h; cases h⟩
            | exact ⟨sg, rfl, m, kk, nn, fun h => (by rw [← eC] at h; cases h), fun S h => (by
                rw [← eC] at h; cases h
                exact ⟨kk148, nn148, rfl, hT148, hO148⟩)⟩
      · have hk := hks i (by omega)
        have hp4 := kn_prod_lt hk
        have hpl : kn (ia 7 (2400 + i)) / 2 ^ 20 < 256 := Nat.lt_of_lt_of_le hp4 (pow4_le hn4)
        have hx4 : g ^^^ (kn (ia 7 (2400 + i)) / 2 ^ 20) < 256 := Nat.lt_of_lt_of_le (xor_lt4 hg hp4) (pow4_le hn4)
        refine gw_aload_n dX12_turnQuarter_18 rfl ?_
        refine gm_get_key rfl dX12_turnQuarter_19 ?_
        refine gw_sipush (v := nI (2400)) dX12_turnQuarter_22 (by decide) ?_
        refine gw_iload_n dX12_turnQuarter_25 rfl ?_
        refine gw_iaddN dX12_turnQuarter_26 ?_
        refine gm_ld_key (j := 2400 + i) (rfl) (by omega) dX12_turnQuarter_27 ?_
        refine gw_topi (y := (ia 7) (2400 + i)) rfl ?_
        refine gw_istore dX12_turnQuarter_28 (by decide) rfl ?_
        refine gw_aload_n dX12_turnQuarter_30 rfl ?_
        refine gm_get_number rfl dX12_turnQuarter_31 ?_
        refine gw_sipush (v := nI (2400)) dX12_turnQuarter_34 (by decide) ?_
        refine gw_iload_n dX12_turnQuarter_37 rfl ?_
        refine gw_iaddN dX12_turnQuarter_38 ?_
        refine gm_ld_number (j := 2400 + i) (rfl) (by omega) dX12_turnQuarter_39 ?_
        refine gw_topl (y := (la 8) (2400 + i)) rfl ?_
        refine gw_lstore dX12_turnQuarter_40 (by decide) rfl ?_
        refine gw_aload_n dX12_turnQuarter_42 rfl ?_
        refine gw_iload_n dX12_turnQuarter_43 rfl ?_
        refine gw_iload dX12_turnQuarter_44 rfl ?_
        refine gw_callS (As := [.int ((ia 7) (2400 + i))]) (st := [.int (nI (g)), .ref (ad 0)]) (c_mproductOf l cy ((ia 7) (2400 + i)) (mW cy ad (va_up (va_up iv 9 (nI (m))) 24 (sg)) (va_up ia 10 (kk)) (va_up la 11 (nn)))) ok_X12_productOf wd_992 rfl rfl dX12_turnQuarter_46 (by decide) (by decide) (Nat.le_of_ble_eq_true rfl) (fun r46 w46 hp46 => ?_)
        obtain ⟨rfl, rfl⟩ := hp46
        refine gw_W.norm (st' := [.int (mProd ((ia 7) (2400 + i))), .int (nI (g)), .ref (ad 0)]) (k1 := 0) (k2 := 0) rfl rfl rfl ?_
        refine gw_topi (y := nI (kn (ia 7 (2400 + i)) / 2 ^ 20)) (kn_prod hk hn4) ?_
        refine gw_callV 0 (As := [.int (nI (g)), .int (nI (kn (ia 7 (2400 + i)) / 2 ^ 20))]) (st := []) (c_mfits l cy ad (va_up (va_up iv 9 (nI (m))) 24 (sg)) (va_up ia 10 (kk)) (va_up la 11 (nn)) n g (kn (ia 7 (2400 + i)) / 2 ^ 20) hn hn4 hg2 hpl) ok_X12_fits rfl rfl rfl wd_995 rfl rfl dX12_turnQuarter_49 (by decide) (by decide) (Nat.le_of_ble_eq_true rfl) (fun r49 w49 hp49 => ?_)
        obtain ⟨rfl, rfl⟩ := hp49
        refine gw_W.norm (st' := [.int (bI (fitN n g (kn (ia 7 (2400 + i)) / 2 ^ 20)))]) (k1 := 0) (k2 := 0) rfl rfl rfl ?_
        refine gw_if_ne (tgt := 59) dX12_turnQuarter_52 (by decide) (fun c52 => ?_) (fun c52 => ?_)
        · rw [bI_n0] at c52
          refine gw_aload_n dX12_turnQuarter_59 rfl ?_
          refine gw_iload dX12_turnQuarter_60 rfl ?_
          refine gw_lload dX12_turnQuarter_62 rfl ?_
          refine gw_callV 0 (As := [.int ((ia 7) (2400 + i)), .long ((la 8) (2400 + i))]) (st := []) (c_mput l cy ad (va_up (va_up iv 9 (nI (m))) 24 (sg)) (va_up ia 10 (kk)) (va_up la 11 (nn)) (m) ((ia 7) (2400 + i)) ((la 8) (2400 + i)) rfl (by omega) (h4)) ok_X12_put rfl rfl rfl wd_948 rfl rfl dX12_turnQuarter_64 (by decide) (by decide) (Nat.le_of_ble_eq_true rfl) (fun r64 w64 hp64 => ?_)
          obtain ⟨rfl, n64, kk64, nn64, rfl, hT64⟩ := hp64
          have hT64 : takeS kk64 nn64 0 n64 = sIns ((ia 7) (2400 + i)) ((la 8) (2400 + i)) (takeS (kk) (nn) 0 m) := hT64
          refine gw_W.wd (w' := (mW cy ad (va_up (va_up iv 9 (nI (n64))) 24 (sg)) (va_up ia 10 (kk64)) (va_up la 11 (nn64)))) rfl ?_
          refine gw_W.norm (st' := []) (k1 := 0) (k2 := 0) rfl rfl rfl ?_
          refine gw_goto (tgt := 139) dX12_turnQuarter_67 (by decide) ?_
          refine gw_iinc (v := nI (i + 1)) dX12_turnQuarter_139 rfl (nI_add _ 1) (by decide) rfl ?_
          refine gw_goto (tgt := 7) dX12_turnQuarter_142 (by decide) ?_
          refine gw_W.wd (w' := (mW cy ad (va_up (va_up iv 9 (nI ((n64)))) 24 (((sg)))) (va_up ia 10 (((kk64)))) (va_up la 11 (((nn64)))))) rfl ?_
          refine gw_W.forget 4 ?_
          refine gw_W.forget 5 ?_
          refine ih7 (i + 1) (n64) ((sg)) ((kk64)) ((nn64)) ?_ ?_ ?_ ?_ ?_
          · omega
          · first
            | (rw [hT64, h2, takeS_snoc, List.map_append, List.map_singleton, sPuts_snoc, tq_a (x := (ia 7 (2400 + i), la 8 (2400 + i))) (by first | exact Or.inl c52 | exact Or.inr c56)])
            | (rw [hT81, h2, takeS_snoc, List.map_append, List.map_singleton, sPuts_snoc, tq_b (x := (ia 7 (2400 + i), la 8 (2400 + i))) (by rw [c52]; decide) c56 c72])
            | (rw [hT136, h2, takeS_snoc, List.map_append, List.map_singleton, sPuts_snoc, tq_c (x := (ia 7 (2400 + i), la 8 (2400 + i))) (by rw [c52]; decide) c56 c72 c113])
            | (rw [hT136, h2, takeS_snoc, List.map_append, List.map_singleton, sPuts_snoc, tq_d (x := (ia 7 (2400 + i), la 8 (2400 + i))) (by rw [c52]; decide) c56 c72 c113])
          · first
            | (have q1 := congrArg List.length hT64
               have q2 := sIns_len _ _ _ |> Nat.le_trans (Nat.le_of_eq q1)
               rw [takeS_len, takeS_len] at q2; omega)
            | (have q1 := congrArg List.length hT81
               have q2 := sIns_len _ _ _ |> Nat.le_trans (Nat.le_of_eq q1)
               rw [takeS_len, takeS_len] at q2; omega)
            | (have q1 := congrArg List.length hT136
               have q2 := sIns_len _ _ _ |> Nat.le_trans (Nat.le_of_eq q1)
               rw [takeS_len, takeS_len] at q2; omega)
          · first
            | (rw [hT64]; exact sIns_ord h4)
            | (rw [hT81]; exact sIns_ord h4)
            | (rw [hT136]; exact sIns_ord h4)
          · omega
        · rw [bI_0] at c52
          refine gw_iload_n dX12_turnQuarter_55 rfl ?_
          refine gw_ifN_ne (tgt := 70) dX12_turnQuarter_56 (by decide) (by omega) (fun c56 => ?_) (fun c56 => ?_)
          · refine gw_iload_n dX12_turnQuarter_70 rfl ?_
            refine gw_iconst (v := nI (2)) dX12_turnQuarter_71 (by decide) ?_
            refine gw_icmpN_ne (tgt := 87) dX12_turnQuarter_72 (by decide) (by omega) (by omega) (fun c72 => ?_) (fun c72 => ?_)
            · refine gw_aload_n dX12_turnQuarter_87 rfl ?_
              refine gw_iload_n dX12_turnQuarter_88 rfl ?_
              refine gw_iload dX12_turnQuarter_89 rfl ?_
              refine gw_callS (As := [.int ((ia 7) (2400 + i))]) (st := [.int (nI (g)), .ref (ad 0)]) (c_mproductOf l cy ((ia 7) (2400 + i)) (mW cy ad (va_up (va_up iv 9 (nI (m))) 24 (sg)) (va_up ia 10 (kk)) (va_up la 11 (nn)))) ok_X12_productOf wd_992 rfl rfl dX12_turnQuarter_91 (by decide) (by decide) (Nat.le_of_ble_eq_true rfl) (fun r91 w91 hp91 => ?_)
              obtain ⟨rfl, rfl⟩ := hp91
              refine gw_W.norm (st' := [.int (mProd ((ia 7) (2400 + i))), .int (nI (g)), .ref (ad 0)]) (k1 := 0) (k2 := 0) rfl rfl rfl ?_
              refine gw_topi (y := nI (kn (ia 7 (2400 + i)) / 2 ^ 20)) (kn_prod hk hn4) ?_
              refine gw_callV 0 (As := [.int (nI (g)), .int (nI (kn (ia 7 (2400 + i)) / 2 ^ 20))]) (st := []) (c_mwith l cy ad (va_up (va_up iv 9 (nI (m))) 24 (sg)) (va_up ia 10 (kk)) (va_up la 11 (nn)) n g (kn (ia 7 (2400 + i)) / 2 ^ 20) hn hn4 hg hp4 hg2 hpl) ok_X12_with rfl rfl rfl wd_999 rfl rfl dX12_turnQuarter_94 (by decide) (by decide) (Nat.le_of_ble_eq_true rfl) (fun r94 w94 hp94 => ?_)
              obtain ⟨rfl, rfl⟩ := hp94
              refine gw_W.wd (w' := (mW cy ad (va_up (va_up iv 9 (nI (m))) 24 (sgN n g (kn (ia 7 (2400 + i)) / 2 ^ 20))) (va_up ia 10 (kk)) (va_up la 11 (nn)))) rfl ?_
              refine gw_W.norm (st' := [.int (nI (g ^^^ (kn (ia 7 (2400 + i)) / 2 ^ 20)))]) (k1 := 0) (k2 := 0) rfl rfl rfl ?_
              refine gw_bipush (v := nI (20)) dX12_turnQuarter_97 (by decide) ?_
              refine gw_ishl dX12_turnQuarter_99 ?_
              refine gw_iload dX12_turnQuarter_100 rfl ?_
              refine gw_ldc dX12_turnQuarter_102 wd_1003 ?_
              refine gw_iand dX12_turnQuarter_104 ?_
              refine gw_ior dX12_turnQuarter_105 ?_
              refine gw_topi (y := tqK g (ia 7 (2400 + i))) (tqK_eq hk hn4 hx4) ?_
              refine gw_istore dX12_turnQuarter_106 (by decide) rfl ?_
              refine gw_aload_n dX12_turnQuarter_108 rfl ?_
              refine gw_iload dX12_turnQuarter_109 rfl ?_
              refine gw_iload_n dX12_turnQuarter_111 rfl ?_
              refine gw_iconst (v := nI (1)) dX12_turnQuarter_112 (by decide) ?_
              refine gw_icmpN_ne (tgt := 127) dX12_turnQuarter_113 (by decide) (by omega) (by omega) (fun c113 => ?_) (fun c113 => ?_)
              · refine gw_aload_n dX12_turnQuarter_127 rfl ?_
                refine gm_get_sign rfl dX12_turnQuarter_128 ?_
                refine gw_topi (y := (sgN n g (kn (ia 7 (2400 + i)) / 2 ^ 20))) rfl ?_
                refine gw_ineg dX12_turnQuarter_131 ?_
                refine gw_i2l dX12_turnQuarter_132 rfl ?_
                refine gw_lload dX12_turnQuarter_133 rfl ?_
                refine gw_lmul dX12_turnQuarter_135 ?_
                refine gw_callV 0 (As := [.int (tqK g (ia 7 (2400 + i))), .long (((-((sgN n g (kn (ia 7 (2400 + i)) / 2 ^ 20)))).toInt64) * ((la 8) (2400 + i)))]) (st := []) (c_mput l cy ad (va_up (va_up iv 9 (nI (m))) 24 (sgN n g (kn (ia 7 (2400 + i)) / 2 ^ 20))) (va_up ia 10 (kk)) (va_up la 11 (nn)) (m) (tqK g (ia 7 (2400 + i))) (((-((sgN n g (kn (ia 7 (2400 + i)) / 2 ^ 20)))).toInt64) * ((la 8) (2400 + i))) rfl (by omega) (h4)) ok_X12_put rfl rfl rfl wd_948 rfl rfl dX12_turnQuarter_136 (by decide) (by decide) (Nat.le_of_ble_eq_true rfl) (fun r136 w136 hp136 => ?_)
                obtain ⟨rfl, n136, kk136, nn136, rfl, hT136⟩ := hp136
                have hT136 : takeS kk136 nn136 0 n136 = sIns (tqK g (ia 7 (2400 + i))) (((-((sgN n g (kn (ia 7 (2400 + i)) / 2 ^ 20)))).toInt64) * ((la 8) (2400 + i))) (takeS (kk) (nn) 0 m) := hT136
                refine gw_W.wd (w' := (mW cy ad (va_up (va_up iv 9 (nI (n136))) 24 (sgN n g (kn (ia 7 (2400 + i)) / 2 ^ 20))) (va_up ia 10 (kk136)) (va_up la 11 (nn136)))) rfl ?_
                refine gw_W.norm (st' := []) (k1 := 0) (k2 := 0) rfl rfl rfl ?_
                refine gw_iinc (v := nI (i + 1)) dX12_turnQuarter_139 rfl (nI_add _ 1) (by decide) rfl ?_
                refine gw_goto (tgt := 7) dX12_turnQuarter_142 (by decide) ?_
                refine gw_W.wd (w' := (mW cy ad (va_up (va_up iv 9 (nI ((n136)))) 24 (((sgN n g (kn (ia 7 (2400 + i)) / 2 ^ 20))))) (va_up ia 10 (((kk136)))) (va_up la 11 (((nn136)))))) rfl ?_
                refine gw_W.forget 4 ?_
                refine gw_W.forget 5 ?_
                refine gw_W.forget 7 ?_
                refine ih7 (i + 1) (n136) ((sgN n g (kn (ia 7 (2400 + i)) / 2 ^ 20))) ((kk136)) ((nn136)) ?_ ?_ ?_ ?_ ?_
                · omega
                · first
                  | (rw [hT64, h2, takeS_snoc, List.map_append, List.map_singleton, sPuts_snoc, tq_a (x := (ia 7 (2400 + i), la 8 (2400 + i))) (by first | exact Or.inl c52 | exact Or.inr c56)])
                  | (rw [hT81, h2, takeS_snoc, List.map_append, List.map_singleton, sPuts_snoc, tq_b (x := (ia 7 (2400 + i), la 8 (2400 + i))) (by rw [c52]; decide) c56 c72])
                  | (rw [hT136, h2, takeS_snoc, List.map_append, List.map_singleton, sPuts_snoc, tq_c (x := (ia 7 (2400 + i), la 8 (2400 + i))) (by rw [c52]; decide) c56 c72 c113])
                  | (rw [hT136, h2, takeS_snoc, List.map_append, List.map_singleton, sPuts_snoc, tq_d (x := (ia 7 (2400 + i), la 8 (2400 + i))) (by rw [c52]; decide) c56 c72 c113])
                · first
                  | (have q1 := congrArg List.length hT64
                     have q2 := sIns_len _ _ _ |> Nat.le_trans (Nat.le_of_eq q1)
                     rw [takeS_len, takeS_len] at q2; omega)
                  | (have q1 := congrArg List.length hT81
                     have q2 := sIns_len _ _ _ |> Nat.le_trans (Nat.le_of_eq q1)
                     rw [takeS_len, takeS_len] at q2; omega)
                  | (have q1 := congrArg List.length hT136
                     have q2 := sIns_len _ _ _ |> Nat.le_trans (Nat.le_of_eq q1)
                     rw [takeS_len, takeS_len] at q2; omega)
                · first
                  | (rw [hT64]; exact sIns_ord h4)
                  | (rw [hT81]; exact sIns_ord h4)
                  | (rw [hT136]; exact sIns_ord h4)
                · omega
              · refine gw_aload_n dX12_turnQuarter_116 rfl ?_
                refine gm_get_sign rfl dX12_turnQuarter_117 ?_
                refine gw_topi (y := (sgN n g (kn (ia 7 (2400 + i)) / 2 ^ 20))) rfl ?_
                refine gw_i2l dX12_turnQuarter_120 rfl ?_
                refine gw_lload dX12_turnQuarter_121 rfl ?_
                refine gw_lmul dX12_turnQuarter_123 ?_
                refine gw_goto (tgt := 136) dX12_turnQuarter_124 (by decide) ?_
                refine gw_callV 0 (As := [.int (tqK g (ia 7 (2400 + i))), .long ((((sgN n g (kn (ia 7 (2400 + i)) / 2 ^ 20))).toInt64) * ((la 8) (2400 + i)))]) (st := []) (c_mput l cy ad (va_up (va_up iv 9 (nI (m))) 24 (sgN n g (kn (ia 7 (2400 + i)) / 2 ^ 20))) (va_up ia 10 (kk)) (va_up la 11 (nn)) (m) (tqK g (ia 7 (2400 + i))) ((((sgN n g (kn (ia 7 (2400 + i)) / 2 ^ 20))).toInt64) * ((la 8) (2400 + i))) rfl (by omega) (h4)) ok_X12_put rfl rfl rfl wd_948 rfl rfl dX12_turnQuarter_136 (by decide) (by decide) (Nat.le_of_ble_eq_true rfl) (fun r136 w136 hp136 => ?_)
                obtain ⟨rfl, n136, kk136, nn136, rfl, hT136⟩ := hp136
                have hT136 : takeS kk136 nn136 0 n136 = sIns (tqK g (ia 7 (2400 + i))) ((((sgN n g (kn (ia 7 (2400 + i)) / 2 ^ 20))).toInt64) * ((la 8) (2400 + i))) (takeS (kk) (nn) 0 m) := hT136
                refine gw_W.wd (w' := (mW cy ad (va_up (va_up iv 9 (nI (n136))) 24 (sgN n g (kn (ia 7 (2400 + i)) / 2 ^ 20))) (va_up ia 10 (kk136)) (va_up la 11 (nn136)))) rfl ?_
                refine gw_W.norm (st' := []) (k1 := 0) (k2 := 0) rfl rfl rfl ?_
                refine gw_iinc (v := nI (i + 1)) dX12_turnQuarter_139 rfl (nI_add _ 1) (by decide) rfl ?_
                refine gw_goto (tgt := 7) dX12_turnQuarter_142 (by decide) ?_
                refine gw_W.wd (w' := (mW cy ad (va_up (va_up iv 9 (nI ((n136)))) 24 (((sgN n g (kn (ia 7 (2400 + i)) / 2 ^ 20))))) (va_up ia 10 (((kk136)))) (va_up la 11 (((nn136)))))) rfl ?_
                refine gw_W.forget 4 ?_
                refine gw_W.forget 5 ?_
                refine gw_W.forget 7 ?_
                refine ih7 (i + 1) (n136) ((sgN n g (kn (ia 7 (2400 + i)) / 2 ^ 20))) ((kk136)) ((nn136)) ?_ ?_ ?_ ?_ ?_
                · omega
                · first
                  | (rw [hT64, h2, takeS_snoc, List.map_append, List.map_singleton, sPuts_snoc, tq_a (x := (ia 7 (2400 + i), la 8 (2400 + i))) (by first | exact Or.inl c52 | exact Or.inr c56)])
                  | (rw [hT81, h2, takeS_snoc, List.map_append, List.map_singleton, sPuts_snoc, tq_b (x := (ia 7 (2400 + i), la 8 (2400 + i))) (by rw [c52]; decide) c56 c72])
                  | (rw [hT136, h2, takeS_snoc, List.map_append, List.map_singleton, sPuts_snoc, tq_c (x := (ia 7 (2400 + i), la 8 (2400 + i))) (by rw [c52]; decide) c56 c72 c113])
                  | (rw [hT136, h2, takeS_snoc, List.map_append, List.map_singleton, sPuts_snoc, tq_d (x := (ia 7 (2400 + i), la 8 (2400 + i))) (by rw [c52]; decide) c56 c72 c113])
                · first
                  | (have q1 := congrArg List.length hT64
                     have q2 := sIns_len _ _ _ |> Nat.le_trans (Nat.le_of_eq q1)
                     rw [takeS_len, takeS_len] at q2; omega)
                  | (have q1 := congrArg List.length hT81
                     have q2 := sIns_len _ _ _ |> Nat.le_trans (Nat.le_of_eq q1)
                     rw [takeS_len, takeS_len] at q2; omega)
                  | (have q1 := congrArg List.length hT136
                     have q2 := sIns_len _ _ _ |> Nat.le_trans (Nat.le_of_eq q1)
                     rw [takeS_len, takeS_len] at q2; omega)
                · first
                  | (rw [hT64]; exact sIns_ord h4)
                  | (rw [hT81]; exact sIns_ord h4)
                  | (rw [hT136]; exact sIns_ord h4)
                · omega
            · refine gw_aload_n dX12_turnQuarter_75 rfl ?_
              refine gw_iload dX12_turnQuarter_76 rfl ?_
              refine gw_lload dX12_turnQuarter_78 rfl ?_
              refine gw_lneg dX12_turnQuarter_80 ?_
              refine gw_callV 0 (As := [.int ((ia 7) (2400 + i)), .long (-((la 8) (2400 + i)))]) (st := []) (c_mput l cy ad (va_up (va_up iv 9 (nI (m))) 24 (sg)) (va_up ia 10 (kk)) (va_up la 11 (nn)) (m) ((ia 7) (2400 + i)) (-((la 8) (2400 + i))) rfl (by omega) (h4)) ok_X12_put rfl rfl rfl wd_948 rfl rfl dX12_turnQuarter_81 (by decide) (by decide) (Nat.le_of_ble_eq_true rfl) (fun r81 w81 hp81 => ?_)
              obtain ⟨rfl, n81, kk81, nn81, rfl, hT81⟩ := hp81
              have hT81 : takeS kk81 nn81 0 n81 = sIns ((ia 7) (2400 + i)) (-((la 8) (2400 + i))) (takeS (kk) (nn) 0 m) := hT81
              refine gw_W.wd (w' := (mW cy ad (va_up (va_up iv 9 (nI (n81))) 24 (sg)) (va_up ia 10 (kk81)) (va_up la 11 (nn81)))) rfl ?_
              refine gw_W.norm (st' := []) (k1 := 0) (k2 := 0) rfl rfl rfl ?_
              refine gw_goto (tgt := 139) dX12_turnQuarter_84 (by decide) ?_
              refine gw_iinc (v := nI (i + 1)) dX12_turnQuarter_139 rfl (nI_add _ 1) (by decide) rfl ?_
              refine gw_goto (tgt := 7) dX12_turnQuarter_142 (by decide) ?_
              refine gw_W.wd (w' := (mW cy ad (va_up (va_up iv 9 (nI ((n81)))) 24 (((sg)))) (va_up ia 10 (((kk81)))) (va_up la 11 (((nn81)))))) rfl ?_
              refine gw_W.forget 4 ?_
              refine gw_W.forget 5 ?_
              refine ih7 (i + 1) (n81) ((sg)) ((kk81)) ((nn81)) ?_ ?_ ?_ ?_ ?_
              · omega
              · first
                | (rw [hT64, h2, takeS_snoc, List.map_append, List.map_singleton, sPuts_snoc, tq_a (x := (ia 7 (2400 + i), la 8 (2400 + i))) (by first | exact Or.inl c52 | exact Or.inr c56)])
                | (rw [hT81, h2, takeS_snoc, List.map_append, List.map_singleton, sPuts_snoc, tq_b (x := (ia 7 (2400 + i), la 8 (2400 + i))) (by rw [c52]; decide) c56 c72])
                | (rw [hT136, h2, takeS_snoc, List.map_append, List.map_singleton, sPuts_snoc, tq_c (x := (ia 7 (2400 + i), la 8 (2400 + i))) (by rw [c52]; decide) c56 c72 c113])
                | (rw [hT136, h2, takeS_snoc, List.map_append, List.map_singleton, sPuts_snoc, tq_d (x := (ia 7 (2400 + i), la 8 (2400 + i))) (by rw [c52]; decide) c56 c72 c113])
              · first
                | (have q1 := congrArg List.length hT64
                   have q2 := sIns_len _ _ _ |> Nat.le_trans (Nat.le_of_eq q1)
                   rw [takeS_len, takeS_len] at q2; omega)
                | (have q1 := congrArg List.length hT81
                   have q2 := sIns_len _ _ _ |> Nat.le_trans (Nat.le_of_eq q1)
                   rw [takeS_len, takeS_len] at q2; omega)
                | (have q1 := congrArg List.length hT136
                   have q2 := sIns_len _ _ _ |> Nat.le_trans (Nat.le_of_eq q1)
                   rw [takeS_len, takeS_len] at q2; omega)
              · first
                | (rw [hT64]; exact sIns_ord h4)
                | (rw [hT81]; exact sIns_ord h4)
                | (rw [hT136]; exact sIns_ord h4)
              · omega
          · refine gw_aload_n dX12_turnQuarter_59 rfl ?_
            refine gw_iload dX12_turnQuarter_60 rfl ?_
            refine gw_lload dX12_turnQuarter_62 rfl ?_
            refine gw_callV 0 (As := [.int ((ia 7) (2400 + i)), .long ((la 8) (2400 + i))]) (st := []) (c_mput l cy ad (va_up (va_up iv 9 (nI (m))) 24 (sg)) (va_up ia 10 (kk)) (va_up la 11 (nn)) (m) ((ia 7) (2400 + i)) ((la 8) (2400 + i)) rfl (by omega) (h4)) ok_X12_put rfl rfl rfl wd_948 rfl rfl dX12_turnQuarter_64 (by decide) (by decide) (Nat.le_of_ble_eq_true rfl) (fun r64 w64 hp64 => ?_)
            obtain ⟨rfl, n64, kk64, nn64, rfl, hT64⟩ := hp64
            have hT64 : takeS kk64 nn64 0 n64 = sIns ((ia 7) (2400 + i)) ((la 8) (2400 + i)) (takeS (kk) (nn) 0 m) := hT64
            refine gw_W.wd (w' := (mW cy ad (va_up (va_up iv 9 (nI (n64))) 24 (sg)) (va_up ia 10 (kk64)) (va_up la 11 (nn64)))) rfl ?_
            refine gw_W.norm (st' := []) (k1 := 0) (k2 := 0) rfl rfl rfl ?_
            refine gw_goto (tgt := 139) dX12_turnQuarter_67 (by decide) ?_
            refine gw_iinc (v := nI (i + 1)) dX12_turnQuarter_139 rfl (nI_add _ 1) (by decide) rfl ?_
            refine gw_goto (tgt := 7) dX12_turnQuarter_142 (by decide) ?_
            refine gw_W.wd (w' := (mW cy ad (va_up (va_up iv 9 (nI ((n64)))) 24 (((sg)))) (va_up ia 10 (((kk64)))) (va_up la 11 (((nn64)))))) rfl ?_
            refine gw_W.forget 4 ?_
            refine gw_W.forget 5 ?_
            refine ih7 (i + 1) (n64) ((sg)) ((kk64)) ((nn64)) ?_ ?_ ?_ ?_ ?_
            · omega
            · first
              | (rw [hT64, h2, takeS_snoc, List.map_append, List.map_singleton, sPuts_snoc, tq_a (x := (ia 7 (2400 + i), la 8 (2400 + i))) (by first | exact Or.inl c52 | exact Or.inr c56)])
              | (rw [hT81, h2, takeS_snoc, List.map_append, List.map_singleton, sPuts_snoc, tq_b (x := (ia 7 (2400 + i), la 8 (2400 + i))) (by rw [c52]; decide) c56 c72])
              | (rw [hT136, h2, takeS_snoc, List.map_append, List.map_singleton, sPuts_snoc, tq_c (x := (ia 7 (2400 + i), la 8 (2400 + i))) (by rw [c52]; decide) c56 c72 c113])
              | (rw [hT136, h2, takeS_snoc, List.map_append, List.map_singleton, sPuts_snoc, tq_d (x := (ia 7 (2400 + i), la 8 (2400 + i))) (by rw [c52]; decide) c56 c72 c113])
            · first
              | (have q1 := congrArg List.length hT64
                 have q2 := sIns_len _ _ _ |> Nat.le_trans (Nat.le_of_eq q1)
                 rw [takeS_len, takeS_len] at q2; omega)
              | (have q1 := congrArg List.length hT81
                 have q2 := sIns_len _ _ _ |> Nat.le_trans (Nat.le_of_eq q1)
                 rw [takeS_len, takeS_len] at q2; omega)
              | (have q1 := congrArg List.length hT136
                 have q2 := sIns_len _ _ _ |> Nat.le_trans (Nat.le_of_eq q1)
                 rw [takeS_len, takeS_len] at q2; omega)
            · first
              | (rw [hT64]; exact sIns_ord h4)
              | (rw [hT81]; exact sIns_ord h4)
              | (rw [hT136]; exact sIns_ord h4)
            · omega
  refine gw_W.wd (w' := (mW cy ad (va_up (va_up iv 9 (nI ((0)))) 24 ((iv 24))) (va_up ia 10 (((ia 10)))) (va_up la 11 (((la 11)))))) rfl ?_
  refine cut7 _ (0) (0) (iv 24) ((ia 10)) ((la 11)) (Nat.zero_le _) rfl (Nat.le_refl _) List.Pairwise.nil (Nat.lt_succ_self _)
end
section
def tlP (n g : Nat) (x way : Int32) (q : sT) : List sT := if fitN n g (kn q.1 / 2 ^ 20) = true then [q] else (q.1 + mOneC x, q.2) :: (if mSin q.1 x = 0 then [(tqK g q.1 + mOneS x, (way * sgN n g (kn q.1 / 2 ^ 20)).toInt64 * q.2)] else [(tqK g q.1 - mOneS x, (way * sgN n g (kn q.1 / 2 ^ 20)).toInt64 * q.2), (tqK g q.1 - mOneS x + nI 2 * mOneC x, -((way * sgN n g (kn q.1 / 2 ^ 20)).toInt64 * q.2))])
theorem tlP_a {n g : Nat} {x way : Int32} {q : sT} (h : fitN n g (kn q.1 / 2 ^ 20) = true) : tlP n g x way q = [q] := if_pos h
theorem tlP_b {n g : Nat} {x way : Int32} {q : sT} (h : ¬ fitN n g (kn q.1 / 2 ^ 20) = true) (h2 : mSin q.1 x = 0) : tlP n g x way q = [(q.1 + mOneC x, q.2), (tqK g q.1 + mOneS x, (way * sgN n g (kn q.1 / 2 ^ 20)).toInt64 * q.2)] := by
  rw [tlP, if_neg h, if_pos h2]
theorem tlP_c {n g : Nat} {x way : Int32} {q : sT} (h : ¬ fitN n g (kn q.1 / 2 ^ 20) = true) (h2 : ¬ mSin q.1 x = 0) : tlP n g x way q = [(q.1 + mOneC x, q.2), (tqK g q.1 - mOneS x, (way * sgN n g (kn q.1 / 2 ^ 20)).toInt64 * q.2), (tqK g q.1 - mOneS x + nI 2 * mOneC x, -((way * sgN n g (kn q.1 / 2 ^ 20)).toInt64 * q.2))] := by
  rw [tlP, if_neg h, if_neg h2]
theorem put_len {kk k2 : Nat → Int32} {nn n2 : Nat → Int64} {n m : Nat} {k : Int32} {v : Int64} (h : takeS kk nn 0 n = sIns k v (takeS k2 n2 0 m)) : n ≤ m + 1 := by
  have q1 := congrArg List.length h
  have q2 := sIns_len k v (takeS k2 n2 0 m)
  rw [takeS_len] at q1 q2; omega
theorem put_ord {kk k2 : Nat → Int32} {nn n2 : Nat → Int64} {n m : Nat} {k : Int32} {v : Int64} (h : takeS kk nn 0 n = sIns k v (takeS k2 n2 0 m)) (ho : sOrd (takeS k2 n2 0 m)) : sOrd (takeS kk nn 0 n) := by
  rw [h]; exact sIns_ord ho
theorem flat_snoc (C : List sT) (f : sT → List sT) (ks : Nat → Int32) (ns : Nat → Int64) (off i : Nat) : sPuts C ((takeS ks ns off (i + 1)).flatMap f) = sPuts (sPuts C ((takeS ks ns off i).flatMap f)) (f (ks (off + i), ns (off + i))) := by
  rw [takeS_snoc, List.flatMap_append, sPuts_app]; simp
abbrev kX12_turnLetter : gw_K := (yX12_turnLetter, cX12_turnLetter, 11, { frames := 2, cells := 0, slots := 0, locals := 50 }, (some .boolean))
theorem ok_X12_turnLetter : gw_calV kX12_turnLetter 3 := ⟨⟨wd_1014, wd_62, by decide, by decide, by decide +kernel⟩, wd_1013, wd_44⟩
set_option maxHeartbeats 4000000 in
set_option maxRecDepth 100000 in
theorem c_mturnLetter (l : Launch) (cy : Nat → ClassId) (ad : Nat → Nat) (iv : Nat → Int32) (ia : Nat → Nat → Int32) (la : Nat → Nat → Int64) (n g c : Nat) (hn : iv 0 = nI n) (hn4 : n ≤ 4) (hg : g < 4 ^ n) (hc : ia 6 8 = nI c) (hc3 : c ≤ 300) (hks : ∀ j, j < c → keyOK n (ia 7 (2400 + j))) (x way : Int32) : gw_M l kX12_turnLetter cy [.ref (ad 0), .int (nI (g)), .int (x), .int (way)] (mW cy ad iv ia la) (fun r w' => ∃ sg, qm_kept cy ad (va_up iv 24 sg) ia la (sPuts [] ((takeS (ia 7) (la 8) 2400 c).flatMap (tlP n g x way))) 8 ansB r w') := by
  refine gw_M.mk (lv := [some (.ref (ad 0)), some (.int (nI (g))), some (.int (x)), some (.int (way)), none, none, none, none, none, none, none]) (by decide) (Nat.le_of_ble_eq_true rfl) rfl ?_
  generalize hpost : (fun r w' => ∃ sg, qm_kept cy ad (va_up iv 24 sg) ia la (sPuts [] ((takeS (ia 7) (la 8) 2400 c).flatMap (tlP n g x way))) 8 ansB r w' : gw_Q) = post
  have hg2 : g < 256 := Nat.lt_of_lt_of_le hg (pow4_le hn4)
  refine gw_aload_n dX12_turnLetter_0 rfl ?_
  refine gw_iconst (v := nI (0)) dX12_turnLetter_1 (by decide) ?_
  refine gm_put_made rfl dX12_turnLetter_2 ?_
  refine gw_W.wd (w' := (mW cy ad (va_up iv 9 (nI (0))) ia la)) rfl ?_
  refine gw_iconst (v := nI (0)) dX12_turnLetter_5 (by decide) ?_
  refine gw_istore dX12_turnLetter_6 (by decide) rfl ?_
  have cut8 : ∀ (fu : Nat) (i : Nat) (m : Nat) (sg : Int32) (kk : Nat → Int32) (nn : Nat → Int64), (i ≤ c) → (takeS kk nn 0 m = sPuts [] ((takeS (ia 7) (la 8) 2400 i).flatMap (tlP n g x way))) → (m ≤ 3 * i) → (sOrd (takeS kk nn 0 m)) → (c - i) < fu → gw_W l kX12_turnLetter cy (gw_R kX12_turnLetter post) (mW cy ad (va_up (va_up iv 9 (nI (m))) 24 (sg)) (va_up ia 10 (kk)) (va_up la 11 (nn))) 0 0 8 [some (.ref (ad 0)), some (.int (nI (g))), some (.int (x)), some (.int (way)), some (.int (nI (i))), none, none, none, none, none, none] [] := by
    intro fu
    induction fu with
    | zero => intro i m sg kk nn h1 h2 h3 h4 hfu; exact absurd hfu (Nat.not_lt_zero _)
    | succ fu ih8 =>
      intro i m sg kk nn h1 h2 h3 h4 hfu
      refine gw_iload dX12_turnLetter_8 rfl ?_
      refine gw_aload_n dX12_turnLetter_10 rfl ?_
      refine gm_get_many rfl dX12_turnLetter_11 ?_
      refine gw_bipush (v := nI (8)) dX12_turnLetter_14 (by decide) ?_
      refine gm_ld_many (j := 8) (rfl) (by omega) dX12_turnLetter_16 ?_
      refine gw_topi (y := (ia 6) (8)) rfl ?_
      refine gw_topi (y := nI (c)) (hc) ?_
      refine gw_icmpN_ge (tgt := 181) dX12_turnLetter_17 (by decide) (by omega) (by omega) (fun c17 => ?_) (fun c17 => ?_)
      · have e1 : i = c := by omega
        rw [e1] at h2 h3
        refine gw_aload_n dX12_turnLetter_181 rfl ?_
        refine gw_bipush (v := nI (8)) dX12_turnLetter_182 (by decide) ?_
        refine gw_callV 0 (As := [.int (nI (8))]) (st := []) (c_mkeep l cy ad (va_up (va_up iv 9 (nI (m))) 24 (sg)) (va_up ia 10 (kk)) (va_up la 11 (nn)) (m) (8) (rfl) (by omega) (by decide)) ok_X12_keep rfl rfl rfl wd_956 rfl rfl dX12_turnLetter_184 (by decide) (by decide) (Nat.le_of_ble_eq_true rfl) (fun r184 w184 hp184 => ?_)
        obtain ⟨F184, hF184, rfl, hN184, hS184⟩ := hp184
        cases F184 with
        | none =>
          obtain rfl := hN184 rfl
          refine gw_W.norm (st' := [.int (nI (0))]) (k1 := 0) (k2 := 0) rfl rfl rfl ?_
          refine gw_zret (?_) (by decide) (by decide) rfl (by decide) dX12_turnLetter_187
          subst hpost
          have eC := hF184.trans (congrArg keepS h2)
          first
            | exact ⟨sg, by rw [← eC]; rfl, m, kk, nn, fun _ => rfl, fun S h => by rw [← eC] at h; cases h⟩
            | exact ⟨sg, by rw [← eC]; rfl, m, kk, nn, fun h => (by rw [← eC] at h; cases h), fun S h => (by
                rw [← eC] at h; cases h
                exact ⟨kk184, nn184, rfl, hT184, hO184⟩)⟩
        | some S184 =>
          obtain ⟨kk184, nn184, rfl, hT184, hO184⟩ := hS184 S184 rfl
          refine gw_W.norm (st' := [.int (nI (1))]) (k1 := 0) (k2 := 0) rfl rfl rfl ?_
          refine gw_W.wd (w' := (mW cy ad (va_up (va_up iv 9 (nI (m))) 24 (sg)) (va_up (va_up (va_up ia 6 (upd (ia 6) (8) (nI (S184.length)))) 7 (kk184)) 10 (kk)) (va_up (va_up la 8 (nn184)) 11 (nn)))) rfl ?_
          refine gw_zret (?_) (by decide) (by decide) rfl (by decide) dX12_turnLetter_187
          subst hpost
          have eC := hF184.trans (congrArg keepS h2)
          first
            | exact ⟨sg, by rw [← eC]; rfl, m, kk, nn, fun _ => rfl, fun S h => by rw [← eC] at h; cases h⟩
            | exact ⟨sg, by rw [← eC]; rfl, m, kk, nn, fun h => (by rw [← eC] at h; cases h), fun S h => (by
                rw [← eC] at h; cases h
                exact ⟨kk184, nn184, rfl, hT184, hO184⟩)⟩
      · have hk := hks i (by omega)
        have hp4 := kn_prod_lt hk
        have hpl : kn (ia 7 (2400 + i)) / 2 ^ 20 < 256 := Nat.lt_of_lt_of_le hp4 (pow4_le hn4)
        have hx4 : g ^^^ (kn (ia 7 (2400 + i)) / 2 ^ 20) < 256 := Nat.lt_of_lt_of_le (xor_lt4 hg hp4) (pow4_le hn4)
        refine gw_aload_n dX12_turnLetter_20 rfl ?_
        refine gm_get_key rfl dX12_turnLetter_21 ?_
        refine gw_sipush (v := nI (2400)) dX12_turnLetter_24 (by decide) ?_
        refine gw_iload dX12_turnLetter_27 rfl ?_
        refine gw_iaddN dX12_turnLetter_29 ?_
        refine gm_ld_key (j := 2400 + i) (rfl) (by omega) dX12_turnLetter_30 ?_
        refine gw_topi (y := (ia 7) (2400 + i)) rfl ?_
        refine gw_istore dX12_turnLetter_31 (by decide) rfl ?_
        refine gw_aload_n dX12_turnLetter_33 rfl ?_
        refine gm_get_number rfl dX12_turnLetter_34 ?_
        refine gw_sipush (v := nI (2400)) dX12_turnLetter_37 (by decide) ?_
        refine gw_iload dX12_turnLetter_40 rfl ?_
        refine gw_iaddN dX12_turnLetter_42 ?_
        refine gm_ld_number (j := 2400 + i) (rfl) (by omega) dX12_turnLetter_43 ?_
        refine gw_topl (y := (la 8) (2400 + i)) rfl ?_
        refine gw_lstore dX12_turnLetter_44 (by decide) rfl ?_
        refine gw_aload_n dX12_turnLetter_46 rfl ?_
        refine gw_iload_n dX12_turnLetter_47 rfl ?_
        refine gw_iload dX12_turnLetter_48 rfl ?_
        refine gw_callS (As := [.int ((ia 7) (2400 + i))]) (st := [.int (nI (g)), .ref (ad 0)]) (c_mproductOf l cy ((ia 7) (2400 + i)) (mW cy ad (va_up (va_up iv 9 (nI (m))) 24 (sg)) (va_up ia 10 (kk)) (va_up la 11 (nn)))) ok_X12_productOf wd_992 rfl rfl dX12_turnLetter_50 (by decide) (by decide) (Nat.le_of_ble_eq_true rfl) (fun r50 w50 hp50 => ?_)
        obtain ⟨rfl, rfl⟩ := hp50
        refine gw_W.norm (st' := [.int (mProd ((ia 7) (2400 + i))), .int (nI (g)), .ref (ad 0)]) (k1 := 0) (k2 := 0) rfl rfl rfl ?_
        refine gw_topi (y := nI (kn (ia 7 (2400 + i)) / 2 ^ 20)) (kn_prod hk hn4) ?_
        refine gw_callV 0 (As := [.int (nI (g)), .int (nI (kn (ia 7 (2400 + i)) / 2 ^ 20))]) (st := []) (c_mfits l cy ad (va_up (va_up iv 9 (nI (m))) 24 (sg)) (va_up ia 10 (kk)) (va_up la 11 (nn)) n g (kn (ia 7 (2400 + i)) / 2 ^ 20) hn hn4 hg2 hpl) ok_X12_fits rfl rfl rfl wd_995 rfl rfl dX12_turnLetter_53 (by decide) (by decide) (Nat.le_of_ble_eq_true rfl) (fun r53 w53 hp53 => ?_)
        obtain ⟨rfl, rfl⟩ := hp53
        refine gw_W.norm (st' := [.int (bI (fitN n g (kn (ia 7 (2400 + i)) / 2 ^ 20)))]) (k1 := 0) (k2 := 0) rfl rfl rfl ?_
        refine gw_if_eq (tgt := 70) dX12_turnLetter_56 (by decide) (fun c56 => ?_) (fun c56 => ?_)
        · rw [bI_0] at c56
          refine gw_aload_n dX12_turnLetter_70 rfl ?_
          refine gw_iload dX12_turnLetter_71 rfl ?_
          refine gw_iload_n dX12_turnLetter_73 rfl ?_
          refine gw_callS (As := [.int (x)]) (st := [.int ((ia 7) (2400 + i)), .ref (ad 0)]) (c_moneCosine l cy (x) (mW cy ad (va_up (va_up iv 9 (nI (m))) 24 (sg)) (va_up ia 10 (kk)) (va_up la 11 (nn)))) ok_X12_oneCosine wd_1015 rfl rfl dX12_turnLetter_74 (by decide) (by decide) (Nat.le_of_ble_eq_true rfl) (fun r74 w74 hp74 => ?_)
          obtain ⟨rfl, rfl⟩ := hp74
          refine gw_W.norm (st' := [.int (mOneC (x)), .int ((ia 7) (2400 + i)), .ref (ad 0)]) (k1 := 0) (k2 := 0) rfl rfl rfl ?_
          refine gw_iadd dX12_turnLetter_77 ?_
          refine gw_lload dX12_turnLetter_78 rfl ?_
          refine gw_callV 0 (As := [.int (((ia 7) (2400 + i)) + (mOneC (x))), .long ((la 8) (2400 + i))]) (st := []) (c_mput l cy ad (va_up (va_up iv 9 (nI (m))) 24 (sg)) (va_up ia 10 (kk)) (va_up la 11 (nn)) (m) (((ia 7) (2400 + i)) + (mOneC (x))) ((la 8) (2400 + i)) rfl (by omega) (h4)) ok_X12_put rfl rfl rfl wd_948 rfl rfl dX12_turnLetter_80 (by decide) (by decide) (Nat.le_of_ble_eq_true rfl) (fun r80 w80 hp80 => ?_)
          obtain ⟨rfl, n80, kk80, nn80, rfl, hT80⟩ := hp80
          have hT80 : takeS kk80 nn80 0 n80 = sIns (((ia 7) (2400 + i)) + (mOneC (x))) ((la 8) (2400 + i)) (takeS (kk) (nn) 0 m) := hT80
          refine gw_W.wd (w' := (mW cy ad (va_up (va_up iv 9 (nI (n80))) 24 (sg)) (va_up ia 10 (kk80)) (va_up la 11 (nn80)))) rfl ?_
          have hl80 := put_len hT80
          have hs80 := put_ord hT80 h4
          refine gw_W.norm (st' := []) (k1 := 0) (k2 := 0) rfl rfl rfl ?_
          refine gw_aload_n dX12_turnLetter_83 rfl ?_
          refine gw_iload_n dX12_turnLetter_84 rfl ?_
          refine gw_iload dX12_turnLetter_85 rfl ?_
          refine gw_callS (As := [.int ((ia 7) (2400 + i))]) (st := [.int (nI (g)), .ref (ad 0)]) (c_mproductOf l cy ((ia 7) (2400 + i)) (mW cy ad (va_up (va_up iv 9 (nI (n80))) 24 (sg)) (va_up ia 10 (kk80)) (va_up la 11 (nn80)))) ok_X12_productOf wd_992 rfl rfl dX12_turnLetter_87 (by decide) (by decide) (Nat.le_of_ble_eq_true rfl) (fun r87 w87 hp87 => ?_)
          obtain ⟨rfl, rfl⟩ := hp87
          refine gw_W.norm (st' := [.int (mProd ((ia 7) (2400 + i))), .int (nI (g)), .ref (ad 0)]) (k1 := 0) (k2 := 0) rfl rfl rfl ?_
          refine gw_topi (y := nI (kn (ia 7 (2400 + i)) / 2 ^ 20)) (kn_prod hk hn4) ?_
          refine gw_callV 0 (As := [.int (nI (g)), .int (nI (kn (ia 7 (2400 + i)) / 2 ^ 20))]) (st := []) (c_mwith l cy ad (va_up (va_up iv 9 (nI (n80))) 24 (sg)) (va_up ia 10 (kk80)) (va_up la 11 (nn80)) n g (kn (ia 7 (2400 + i)) / 2 ^ 20) hn hn4 hg hp4 hg2 hpl) ok_X12_with rfl rfl rfl wd_999 rfl rfl dX12_turnLetter_90 (by decide) (by decide) (Nat.le_of_ble_eq_true rfl) (fun r90 w90 hp90 => ?_)
          obtain ⟨rfl, rfl⟩ := hp90
          refine gw_W.wd (w' := (mW cy ad (va_up (va_up iv 9 (nI (n80))) 24 (sgN n g (kn (ia 7 (2400 + i)) / 2 ^ 20))) (va_up ia 10 (kk80)) (va_up la 11 (nn80)))) rfl ?_
          refine gw_W.norm (st' := [.int (nI (g ^^^ (kn (ia 7 (2400 + i)) / 2 ^ 20)))]) (k1 := 0) (k2 := 0) rfl rfl rfl ?_
          refine gw_bipush (v := nI (20)) dX12_turnLetter_93 (by decide) ?_
          refine gw_ishl dX12_turnLetter_95 ?_
          refine gw_iload dX12_turnLetter_96 rfl ?_
          refine gw_ldc dX12_turnLetter_98 wd_1003 ?_
          refine gw_iand dX12_turnLetter_100 ?_
          refine gw_ior dX12_turnLetter_101 ?_
          refine gw_topi (y := tqK g (ia 7 (2400 + i))) (tqK_eq hk hn4 hx4) ?_
          refine gw_istore dX12_turnLetter_102 (by decide) rfl ?_
          refine gw_iload_n dX12_turnLetter_104 rfl ?_
          refine gw_aload_n dX12_turnLetter_105 rfl ?_
          refine gm_get_sign rfl dX12_turnLetter_106 ?_
          refine gw_topi (y := (sgN n g (kn (ia 7 (2400 + i)) / 2 ^ 20))) rfl ?_
          refine gw_imul dX12_turnLetter_109 ?_
          refine gw_i2l dX12_turnLetter_110 rfl ?_
          refine gw_lload dX12_turnLetter_111 rfl ?_
          refine gw_lmul dX12_turnLetter_113 ?_
          refine gw_lstore dX12_turnLetter_114 (by decide) rfl ?_
          refine gw_iload dX12_turnLetter_116 rfl ?_
          refine gw_iload_n dX12_turnLetter_118 rfl ?_
          refine gw_callS (As := [.int ((ia 7) (2400 + i)), .int (x)]) (st := []) (c_msine l cy ((ia 7) (2400 + i)) (x) (mW cy ad (va_up (va_up iv 9 (nI (n80))) 24 (sgN n g (kn (ia 7 (2400 + i)) / 2 ^ 20))) (va_up ia 10 (kk80)) (va_up la 11 (nn80)))) ok_X12_sine wd_1018 rfl rfl dX12_turnLetter_119 (by decide) (by decide) (Nat.le_of_ble_eq_true rfl) (fun r119 w119 hp119 => ?_)
          obtain ⟨rfl, rfl⟩ := hp119
          refine gw_W.norm (st' := [.int (mSin ((ia 7) (2400 + i)) (x))]) (k1 := 0) (k2 := 0) rfl rfl rfl ?_
          refine gw_if_ne (tgt := 141) dX12_turnLetter_122 (by decide) (fun c122 => ?_) (fun c122 => ?_)
          · refine gw_aload_n dX12_turnLetter_141 rfl ?_
            refine gw_iload dX12_turnLetter_142 rfl ?_
            refine gw_iload_n dX12_turnLetter_144 rfl ?_
            refine gw_callS (As := [.int (x)]) (st := [.int (tqK g (ia 7 (2400 + i))), .ref (ad 0)]) (c_moneSine l cy (x) (mW cy ad (va_up (va_up iv 9 (nI (n80))) 24 (sgN n g (kn (ia 7 (2400 + i)) / 2 ^ 20))) (va_up ia 10 (kk80)) (va_up la 11 (nn80)))) ok_X12_oneSine wd_1021 rfl rfl dX12_turnLetter_145 (by decide) (by decide) (Nat.le_of_ble_eq_true rfl) (fun r145 w145 hp145 => ?_)
            obtain ⟨rfl, rfl⟩ := hp145
            refine gw_W.norm (st' := [.int (mOneS (x)), .int (tqK g (ia 7 (2400 + i))), .ref (ad 0)]) (k1 := 0) (k2 := 0) rfl rfl rfl ?_
            refine gw_isub dX12_turnLetter_148 ?_
            refine gw_lload dX12_turnLetter_149 rfl ?_
            refine gw_callV 0 (As := [.int ((tqK g (ia 7 (2400 + i))) - (mOneS (x))), .long ((((way) * ((sgN n g (kn (ia 7 (2400 + i)) / 2 ^ 20)))).toInt64) * ((la 8) (2400 + i)))]) (st := []) (c_mput l cy ad (va_up (va_up iv 9 (nI (n80))) 24 (sgN n g (kn (ia 7 (2400 + i)) / 2 ^ 20))) (va_up ia 10 (kk80)) (va_up la 11 (nn80)) (n80) ((tqK g (ia 7 (2400 + i))) - (mOneS (x))) ((((way) * ((sgN n g (kn (ia 7 (2400 + i)) / 2 ^ 20)))).toInt64) * ((la 8) (2400 + i))) rfl (by omega) (hs80)) ok_X12_put rfl rfl rfl wd_948 rfl rfl dX12_turnLetter_151 (by decide) (by decide) (Nat.le_of_ble_eq_true rfl) (fun r151 w151 hp151 => ?_)
            obtain ⟨rfl, n151, kk151, nn151, rfl, hT151⟩ := hp151
            have hT151 : takeS kk151 nn151 0 n151 = sIns ((tqK g (ia 7 (2400 + i))) - (mOneS (x))) ((((way) * ((sgN n g (kn (ia 7 (2400 + i)) / 2 ^ 20)))).toInt64) * ((la 8) (2400 + i))) (takeS (kk80) (nn80) 0 n80) := hT151
            refine gw_W.wd (w' := (mW cy ad (va_up (va_up iv 9 (nI (n151))) 24 (sgN n g (kn (ia 7 (2400 + i)) / 2 ^ 20))) (va_up ia 10 (kk151)) (va_up la 11 (nn151)))) rfl ?_
            have hl151 := put_len hT151
            have hs151 := put_ord hT151 hs80
            refine gw_W.norm (st' := []) (k1 := 0) (k2 := 0) rfl rfl rfl ?_
            refine gw_aload_n dX12_turnLetter_154 rfl ?_
            refine gw_iload dX12_turnLetter_155 rfl ?_
            refine gw_iload_n dX12_turnLetter_157 rfl ?_
            refine gw_callS (As := [.int (x)]) (st := [.int (tqK g (ia 7 (2400 + i))), .ref (ad 0)]) (c_moneSine l cy (x) (mW cy ad (va_up (va_up iv 9 (nI (n151))) 24 (sgN n g (kn (ia 7 (2400 + i)) / 2 ^ 20))) (va_up ia 10 (kk151)) (va_up la 11 (nn151)))) ok_X12_oneSine wd_1021 rfl rfl dX12_turnLetter_158 (by decide) (by decide) (Nat.le_of_ble_eq_true rfl) (fun r158 w158 hp158 => ?_)
            obtain ⟨rfl, rfl⟩ := hp158
            refine gw_W.norm (st' := [.int (mOneS (x)), .int (tqK g (ia 7 (2400 + i))), .ref (ad 0)]) (k1 := 0) (k2 := 0) rfl rfl rfl ?_
            refine gw_isub dX12_turnLetter_161 ?_
            refine gw_iconst (v := nI (2)) dX12_turnLetter_162 (by decide) ?_
            refine gw_iload_n dX12_turnLetter_163 rfl ?_
            refine gw_callS (As := [.int (x)]) (st := [.int (nI (2)), .int ((tqK g (ia 7 (2400 + i))) - (mOneS (x))), .ref (ad 0)]) (c_moneCosine l cy (x) (mW cy ad (va_up (va_up iv 9 (nI (n151))) 24 (sgN n g (kn (ia 7 (2400 + i)) / 2 ^ 20))) (va_up ia 10 (kk151)) (va_up la 11 (nn151)))) ok_X12_oneCosine wd_1015 rfl rfl dX12_turnLetter_164 (by decide) (by decide) (Nat.le_of_ble_eq_true rfl) (fun r164 w164 hp164 => ?_)
            obtain ⟨rfl, rfl⟩ := hp164
            refine gw_W.norm (st' := [.int (mOneC (x)), .int (nI (2)), .int ((tqK g (ia 7 (2400 + i))) - (mOneS (x))), .ref (ad 0)]) (k1 := 0) (k2 := 0) rfl rfl rfl ?_
            refine gw_imul dX12_turnLetter_167 ?_
            refine gw_iadd dX12_turnLetter_168 ?_
            refine gw_lload dX12_turnLetter_169 rfl ?_
            refine gw_lneg dX12_turnLetter_171 ?_
            refine gw_callV 0 (As := [.int (((tqK g (ia 7 (2400 + i))) - (mOneS (x))) + ((nI (2)) * (mOneC (x)))), .long (-((((way) * ((sgN n g (kn (ia 7 (2400 + i)) / 2 ^ 20)))).toInt64) * ((la 8) (2400 + i))))]) (st := []) (c_mput l cy ad (va_up (va_up iv 9 (nI (n151))) 24 (sgN n g (kn (ia 7 (2400 + i)) / 2 ^ 20))) (va_up ia 10 (kk151)) (va_up la 11 (nn151)) (n151) (((tqK g (ia 7 (2400 + i))) - (mOneS (x))) + ((nI (2)) * (mOneC (x)))) (-((((way) * ((sgN n g (kn (ia 7 (2400 + i)) / 2 ^ 20)))).toInt64) * ((la 8) (2400 + i)))) rfl (by omega) (hs151)) ok_X12_put rfl rfl rfl wd_948 rfl rfl dX12_turnLetter_172 (by decide) (by decide) (Nat.le_of_ble_eq_true rfl) (fun r172 w172 hp172 => ?_)
            obtain ⟨rfl, n172, kk172, nn172, rfl, hT172⟩ := hp172
            have hT172 : takeS kk172 nn172 0 n172 = sIns (((tqK g (ia 7 (2400 + i))) - (mOneS (x))) + ((nI (2)) * (mOneC (x)))) (-((((way) * ((sgN n g (kn (ia 7 (2400 + i)) / 2 ^ 20)))).toInt64) * ((la 8) (2400 + i)))) (takeS (kk151) (nn151) 0 n151) := hT172
            refine gw_W.wd (w' := (mW cy ad (va_up (va_up iv 9 (nI (n172))) 24 (sgN n g (kn (ia 7 (2400 + i)) / 2 ^ 20))) (va_up ia 10 (kk172)) (va_up la 11 (nn172)))) rfl ?_
            have hl172 := put_len hT172
            have hs172 := put_ord hT172 hs151
            refine gw_W.norm (st' := []) (k1 := 0) (k2 := 0) rfl rfl rfl ?_
            refine gw_iinc (v := nI (i + 1)) dX12_turnLetter_175 rfl (nI_add _ 1) (by decide) rfl ?_
            refine gw_goto (tgt := 8) dX12_turnLetter_178 (by decide) ?_
            refine gw_W.wd (w' := (mW cy ad (va_up (va_up iv 9 (nI ((n172)))) 24 (((sgN n g (kn (ia 7 (2400 + i)) / 2 ^ 20))))) (va_up ia 10 (((kk172)))) (va_up la 11 (((nn172)))))) rfl ?_
            refine gw_W.forget 5 ?_
            refine gw_W.forget 6 ?_
            refine gw_W.forget 8 ?_
            refine gw_W.forget 9 ?_
            refine ih8 (i + 1) (n172) ((sgN n g (kn (ia 7 (2400 + i)) / 2 ^ 20))) ((kk172)) ((nn172)) ?_ ?_ ?_ ?_ ?_
            · omega
            · first
              | (rw [flat_snoc, tlP_a (q := (ia 7 (2400 + i), la 8 (2400 + i))) c56, hT64, h2]; rfl)
              | (rw [flat_snoc, tlP_b (q := (ia 7 (2400 + i), la 8 (2400 + i))) (by rw [c56]; decide) c122, hT135, hT80, h2]; rfl)
              | (rw [flat_snoc, tlP_c (q := (ia 7 (2400 + i), la 8 (2400 + i))) (by rw [c56]; decide) c122, hT172, hT151, hT80, h2]; rfl)
            · omega
            · first | exact hs64 | exact hs135 | exact hs172
            · omega
          · refine gw_aload_n dX12_turnLetter_125 rfl ?_
            refine gw_iload dX12_turnLetter_126 rfl ?_
            refine gw_iload_n dX12_turnLetter_128 rfl ?_
            refine gw_callS (As := [.int (x)]) (st := [.int (tqK g (ia 7 (2400 + i))), .ref (ad 0)]) (c_moneSine l cy (x) (mW cy ad (va_up (va_up iv 9 (nI (n80))) 24 (sgN n g (kn (ia 7 (2400 + i)) / 2 ^ 20))) (va_up ia 10 (kk80)) (va_up la 11 (nn80)))) ok_X12_oneSine wd_1021 rfl rfl dX12_turnLetter_129 (by decide) (by decide) (Nat.le_of_ble_eq_true rfl) (fun r129 w129 hp129 => ?_)
            obtain ⟨rfl, rfl⟩ := hp129
            refine gw_W.norm (st' := [.int (mOneS (x)), .int (tqK g (ia 7 (2400 + i))), .ref (ad 0)]) (k1 := 0) (k2 := 0) rfl rfl rfl ?_
            refine gw_iadd dX12_turnLetter_132 ?_
            refine gw_lload dX12_turnLetter_133 rfl ?_
            refine gw_callV 0 (As := [.int ((tqK g (ia 7 (2400 + i))) + (mOneS (x))), .long ((((way) * ((sgN n g (kn (ia 7 (2400 + i)) / 2 ^ 20)))).toInt64) * ((la 8) (2400 + i)))]) (st := []) (c_mput l cy ad (va_up (va_up iv 9 (nI (n80))) 24 (sgN n g (kn (ia 7 (2400 + i)) / 2 ^ 20))) (va_up ia 10 (kk80)) (va_up la 11 (nn80)) (n80) ((tqK g (ia 7 (2400 + i))) + (mOneS (x))) ((((way) * ((sgN n g (kn (ia 7 (2400 + i)) / 2 ^ 20)))).toInt64) * ((la 8) (2400 + i))) rfl (by omega) (hs80)) ok_X12_put rfl rfl rfl wd_948 rfl rfl dX12_turnLetter_135 (by decide) (by decide) (Nat.le_of_ble_eq_true rfl) (fun r135 w135 hp135 => ?_)
            obtain ⟨rfl, n135, kk135, nn135, rfl, hT135⟩ := hp135
            have hT135 : takeS kk135 nn135 0 n135 = sIns ((tqK g (ia 7 (2400 + i))) + (mOneS (x))) ((((way) * ((sgN n g (kn (ia 7 (2400 + i)) / 2 ^ 20)))).toInt64) * ((la 8) (2400 + i))) (takeS (kk80) (nn80) 0 n80) := hT135
            refine gw_W.wd (w' := (mW cy ad (va_up (va_up iv 9 (nI (n135))) 24 (sgN n g (kn (ia 7 (2400 + i)) / 2 ^ 20))) (va_up ia 10 (kk135)) (va_up la 11 (nn135)))) rfl ?_
            have hl135 := put_len hT135
            have hs135 := put_ord hT135 hs80
            refine gw_W.norm (st' := []) (k1 := 0) (k2 := 0) rfl rfl rfl ?_
            refine gw_goto (tgt := 175) dX12_turnLetter_138 (by decide) ?_
            refine gw_iinc (v := nI (i + 1)) dX12_turnLetter_175 rfl (nI_add _ 1) (by decide) rfl ?_
            refine gw_goto (tgt := 8) dX12_turnLetter_178 (by decide) ?_
            refine gw_W.wd (w' := (mW cy ad (va_up (va_up iv 9 (nI ((n135)))) 24 (((sgN n g (kn (ia 7 (2400 + i)) / 2 ^ 20))))) (va_up ia 10 (((kk135)))) (va_up la 11 (((nn135)))))) rfl ?_
            refine gw_W.forget 5 ?_
            refine gw_W.forget 6 ?_
            refine gw_W.forget 8 ?_
            refine gw_W.forget 9 ?_
            refine ih8 (i + 1) (n135) ((sgN n g (kn (ia 7 (2400 + i)) / 2 ^ 20))) ((kk135)) ((nn135)) ?_ ?_ ?_ ?_ ?_
            · omega
            · first
              | (rw [flat_snoc, tlP_a (q := (ia 7 (2400 + i), la 8 (2400 + i))) c56, hT64, h2]; rfl)
              | (rw [flat_snoc, tlP_b (q := (ia 7 (2400 + i), la 8 (2400 + i))) (by rw [c56]; decide) c122, hT135, hT80, h2]; rfl)
              | (rw [flat_snoc, tlP_c (q := (ia 7 (2400 + i), la 8 (2400 + i))) (by rw [c56]; decide) c122, hT172, hT151, hT80, h2]; rfl)
            · omega
            · first | exact hs64 | exact hs135 | exact hs172
            · omega
        · rw [bI_n0] at c56
          refine gw_aload_n dX12_turnLetter_59 rfl ?_
          refine gw_iload dX12_turnLetter_60 rfl ?_
          refine gw_lload dX12_turnLetter_62 rfl ?_
          refine gw_callV 0 (As := [.int ((ia 7) (2400 + i)), .long ((la 8) (2400 + i))]) (st := []) (c_mput l cy ad (va_up (va_up iv 9 (nI (m))) 24 (sg)) (va_up ia 10 (kk)) (va_up la 11 (nn)) (m) ((ia 7) (2400 + i)) ((la 8) (2400 + i)) rfl (by omega) (h4)) ok_X12_put rfl rfl rfl wd_948 rfl rfl dX12_turnLetter_64 (by decide) (by decide) (Nat.le_of_ble_eq_true rfl) (fun r64 w64 hp64 => ?_)
          obtain ⟨rfl, n64, kk64, nn64, rfl, hT64⟩ := hp64
          have hT64 : takeS kk64 nn64 0 n64 = sIns ((ia 7) (2400 + i)) ((la 8) (2400 + i)) (takeS (kk) (nn) 0 m) := hT64
          refine gw_W.wd (w' := (mW cy ad (va_up (va_up iv 9 (nI (n64))) 24 (sg)) (va_up ia 10 (kk64)) (va_up la 11 (nn64)))) rfl ?_
          have hl64 := put_len hT64
          have hs64 := put_ord hT64 h4
          refine gw_W.norm (st' := []) (k1 := 0) (k2 := 0) rfl rfl rfl ?_
          refine gw_goto (tgt := 175) dX12_turnLetter_67 (by decide) ?_
          refine gw_iinc (v := nI (i + 1)) dX12_turnLetter_175 rfl (nI_add _ 1) (by decide) rfl ?_
          refine gw_goto (tgt := 8) dX12_turnLetter_178 (by decide) ?_
          refine gw_W.wd (w' := (mW cy ad (va_up (va_up iv 9 (nI ((n64)))) 24 (((sg)))) (va_up ia 10 (((kk64)))) (va_up la 11 (((nn64)))))) rfl ?_
          refine gw_W.forget 5 ?_
          refine gw_W.forget 6 ?_
          refine ih8 (i + 1) (n64) ((sg)) ((kk64)) ((nn64)) ?_ ?_ ?_ ?_ ?_
          · omega
          · first
            | (rw [flat_snoc, tlP_a (q := (ia 7 (2400 + i), la 8 (2400 + i))) c56, hT64, h2]; rfl)
            | (rw [flat_snoc, tlP_b (q := (ia 7 (2400 + i), la 8 (2400 + i))) (by rw [c56]; decide) c122, hT135, hT80, h2]; rfl)
            | (rw [flat_snoc, tlP_c (q := (ia 7 (2400 + i), la 8 (2400 + i))) (by rw [c56]; decide) c122, hT172, hT151, hT80, h2]; rfl)
          · omega
          · first | exact hs64 | exact hs135 | exact hs172
          · omega
  refine gw_W.wd (w' := (mW cy ad (va_up (va_up iv 9 (nI ((0)))) 24 ((iv 24))) (va_up ia 10 (((ia 10)))) (va_up la 11 (((la 11)))))) rfl ?_
  refine cut8 _ (0) (0) (iv 24) ((ia 10)) ((la 11)) (Nat.zero_le _) rfl (Nat.le_refl _) List.Pairwise.nil (Nat.lt_succ_self _)
end
