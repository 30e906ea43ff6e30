theorem dX12_set_48 : decode cX12_set 48 = .ok (.ireturn, 1) := by decide +kernel
theorem dX12_set_49 : decode cX12_set 49 = .ok (.aload_n 0, 1) := by decide +kernel
theorem dX12_set_50 : decode cX12_set 50 = .ok (.getfield 7, 3) := by decide +kernel
theorem dX12_set_53 : decode cX12_set 53 = .ok (.iload_n 1, 1) := by decide +kernel
theorem dX12_set_54 : decode cX12_set 54 = .ok (.iaload, 1) := by decide +kernel
theorem dX12_set_55 : decode cX12_set 55 = .ok (.iconst 1, 1) := by decide +kernel
theorem dX12_set_56 : decode cX12_set 56 = .ok (.if_icmp .ne 8, 3) := by decide +kernel
theorem dX12_set_59 : decode cX12_set 59 = .ok (.iload_n 3, 1) := by decide +kernel
theorem dX12_set_60 : decode cX12_set 60 = .ok (.i2b, 1) := by decide +kernel
theorem dX12_set_61 : decode cX12_set 61 = .ok (.goto 19, 3) := by decide +kernel
theorem dX12_set_64 : decode cX12_set 64 = .ok (.aload_n 0, 1) := by decide +kernel
theorem dX12_set_65 : decode cX12_set 65 = .ok (.getfield 7, 3) := by decide +kernel
theorem dX12_set_68 : decode cX12_set 68 = .ok (.iload_n 1, 1) := by decide +kernel
theorem dX12_set_69 : decode cX12_set 69 = .ok (.iaload, 1) := by decide +kernel
theorem dX12_set_70 : decode cX12_set 70 = .ok (.iconst 2, 1) := by decide +kernel
theorem dX12_set_71 : decode cX12_set 71 = .ok (.if_icmp .ne 8, 3) := by decide +kernel
theorem dX12_set_74 : decode cX12_set 74 = .ok (.iload_n 3, 1) := by decide +kernel
theorem dX12_set_75 : decode cX12_set 75 = .ok (.i2s, 1) := by decide +kernel
theorem dX12_set_76 : decode cX12_set 76 = .ok (.goto 4, 3) := by decide +kernel
theorem dX12_set_79 : decode cX12_set 79 = .ok (.iload_n 3, 1) := by decide +kernel
theorem dX12_set_80 : decode cX12_set 80 = .ok (.istore 4, 2) := by decide +kernel
theorem dX12_set_82 : decode cX12_set 82 = .ok (.aload_n 0, 1) := by decide +kernel
theorem dX12_set_83 : decode cX12_set 83 = .ok (.getfield 16, 3) := by decide +kernel
theorem dX12_set_86 : decode cX12_set 86 = .ok (.bipush 60, 2) := by decide +kernel
theorem dX12_set_88 : decode cX12_set 88 = .ok (.iload_n 1, 1) := by decide +kernel
theorem dX12_set_89 : decode cX12_set 89 = .ok (.imul, 1) := by decide +kernel
theorem dX12_set_90 : decode cX12_set 90 = .ok (.iload_n 2, 1) := by decide +kernel
theorem dX12_set_91 : decode cX12_set 91 = .ok (.iadd, 1) := by decide +kernel
theorem dX12_set_92 : decode cX12_set 92 = .ok (.iload 4, 2) := by decide +kernel
theorem dX12_set_94 : decode cX12_set 94 = .ok (.iastore, 1) := by decide +kernel
theorem dX12_set_95 : decode cX12_set 95 = .ok (.aload_n 0, 1) := by decide +kernel
theorem dX12_set_96 : decode cX12_set 96 = .ok (.iload 4, 2) := by decide +kernel
theorem dX12_set_98 : decode cX12_set 98 = .ok (.invokevirtual 94, 3) := by decide +kernel
theorem dX12_set_101 : decode cX12_set 101 = .ok (.ireturn, 1) := by decide +kernel
theorem dX12_copy_0 : decode cX12_copy 0 = .ok (.iload_n 1, 1) := by decide +kernel
theorem dX12_copy_1 : decode cX12_copy 1 = .ok (.invokestatic 83, 3) := by decide +kernel
theorem dX12_copy_4 : decode cX12_copy 4 = .ok (.ifCond .eq 10, 3) := by decide +kernel
theorem dX12_copy_7 : decode cX12_copy 7 = .ok (.iload_n 3, 1) := by decide +kernel
theorem dX12_copy_8 : decode cX12_copy 8 = .ok (.invokestatic 83, 3) := by decide +kernel
theorem dX12_copy_11 : decode cX12_copy 11 = .ok (.ifCond .ne 6, 3) := by decide +kernel
theorem dX12_copy_14 : decode cX12_copy 14 = .ok (.ldc 89, 2) := by decide +kernel
theorem dX12_copy_16 : decode cX12_copy 16 = .ok (.ireturn, 1) := by decide +kernel
theorem dX12_copy_17 : decode cX12_copy 17 = .ok (.aload_n 0, 1) := by decide +kernel
theorem dX12_copy_18 : decode cX12_copy 18 = .ok (.getfield 7, 3) := by decide +kernel
theorem dX12_copy_21 : decode cX12_copy 21 = .ok (.iload_n 1, 1) := by decide +kernel
theorem dX12_copy_22 : decode cX12_copy 22 = .ok (.iaload, 1) := by decide +kernel
theorem dX12_copy_23 : decode cX12_copy 23 = .ok (.ifCond .eq 12, 3) := by decide +kernel
theorem dX12_copy_26 : decode cX12_copy 26 = .ok (.aload_n 0, 1) := by decide +kernel
theorem dX12_copy_27 : decode cX12_copy 27 = .ok (.getfield 7, 3) := by decide +kernel
theorem dX12_copy_30 : decode cX12_copy 30 = .ok (.iload_n 3, 1) := by decide +kernel
theorem dX12_copy_31 : decode cX12_copy 31 = .ok (.iaload, 1) := by decide +kernel
theorem dX12_copy_32 : decode cX12_copy 32 = .ok (.ifCond .ne 9, 3) := by decide +kernel
theorem dX12_copy_35 : decode cX12_copy 35 = .ok (.aload_n 0, 1) := by decide +kernel
theorem dX12_copy_36 : decode cX12_copy 36 = .ok (.iconst 1, 1) := by decide +kernel
theorem dX12_copy_37 : decode cX12_copy 37 = .ok (.invokevirtual 90, 3) := by decide +kernel
theorem dX12_copy_40 : decode cX12_copy 40 = .ok (.ireturn, 1) := by decide +kernel
theorem dX12_copy_41 : decode cX12_copy 41 = .ok (.aload_n 0, 1) := by decide +kernel
theorem dX12_copy_42 : decode cX12_copy 42 = .ok (.getfield 7, 3) := by decide +kernel
theorem dX12_copy_45 : decode cX12_copy 45 = .ok (.iload_n 1, 1) := by decide +kernel
theorem dX12_copy_46 : decode cX12_copy 46 = .ok (.iaload, 1) := by decide +kernel
theorem dX12_copy_47 : decode cX12_copy 47 = .ok (.aload_n 0, 1) := by decide +kernel
theorem dX12_copy_48 : decode cX12_copy 48 = .ok (.getfield 7, 3) := by decide +kernel
theorem dX12_copy_51 : decode cX12_copy 51 = .ok (.iload_n 3, 1) := by decide +kernel
theorem dX12_copy_52 : decode cX12_copy 52 = .ok (.iaload, 1) := by decide +kernel
theorem dX12_copy_53 : decode cX12_copy 53 = .ok (.if_icmp .eq 9, 3) := by decide +kernel
theorem dX12_copy_56 : decode cX12_copy 56 = .ok (.aload_n 0, 1) := by decide +kernel
theorem dX12_copy_57 : decode cX12_copy 57 = .ok (.iconst 5, 1) := by decide +kernel
theorem dX12_copy_58 : decode cX12_copy 58 = .ok (.invokevirtual 90, 3) := by decide +kernel
theorem dX12_copy_61 : decode cX12_copy 61 = .ok (.ireturn, 1) := by decide +kernel
theorem dX12_copy_62 : decode cX12_copy 62 = .ok (.iload_n 2, 1) := by decide +kernel
theorem dX12_copy_63 : decode cX12_copy 63 = .ok (.ifCond .lt 48, 3) := by decide +kernel
theorem dX12_copy_66 : decode cX12_copy 66 = .ok (.iload 4, 2) := by decide +kernel
theorem dX12_copy_68 : decode cX12_copy 68 = .ok (.ifCond .lt 43, 3) := by decide +kernel
theorem dX12_copy_71 : decode cX12_copy 71 = .ok (.iload 5, 2) := by decide +kernel
theorem dX12_copy_73 : decode cX12_copy 73 = .ok (.ifCond .lt 38, 3) := by decide +kernel
theorem dX12_copy_76 : decode cX12_copy 76 = .ok (.iload_n 2, 1) := by decide +kernel
theorem dX12_copy_77 : decode cX12_copy 77 = .ok (.i2l, 1) := by decide +kernel
theorem dX12_copy_78 : decode cX12_copy 78 = .ok (.iload 5, 2) := by decide +kernel
theorem dX12_copy_80 : decode cX12_copy 80 = .ok (.i2l, 1) := by decide +kernel
theorem dX12_copy_81 : decode cX12_copy 81 = .ok (.ladd, 1) := by decide +kernel
theorem dX12_copy_82 : decode cX12_copy 82 = .ok (.aload_n 0, 1) := by decide +kernel
theorem dX12_copy_83 : decode cX12_copy 83 = .ok (.getfield 13, 3) := by decide +kernel
theorem dX12_copy_86 : decode cX12_copy 86 = .ok (.iload_n 1, 1) := by decide +kernel
theorem dX12_copy_87 : decode cX12_copy 87 = .ok (.iaload, 1) := by decide +kernel
theorem dX12_copy_88 : decode cX12_copy 88 = .ok (.i2l, 1) := by decide +kernel
theorem dX12_copy_89 : decode cX12_copy 89 = .ok (.lcmp, 1) := by decide +kernel
theorem dX12_copy_90 : decode cX12_copy 90 = .ok (.ifCond .gt 21, 3) := by decide +kernel
theorem dX12_copy_93 : decode cX12_copy 93 = .ok (.iload 4, 2) := by decide +kernel
theorem dX12_copy_95 : decode cX12_copy 95 = .ok (.i2l, 1) := by decide +kernel
theorem dX12_copy_96 : decode cX12_copy 96 = .ok (.iload 5, 2) := by decide +kernel
theorem dX12_copy_98 : decode cX12_copy 98 = .ok (.i2l, 1) := by decide +kernel
theorem dX12_copy_99 : decode cX12_copy 99 = .ok (.ladd, 1) := by decide +kernel
theorem dX12_copy_100 : decode cX12_copy 100 = .ok (.aload_n 0, 1) := by decide +kernel
theorem dX12_copy_101 : decode cX12_copy 101 = .ok (.getfield 13, 3) := by decide +kernel
theorem dX12_copy_104 : decode cX12_copy 104 = .ok (.iload_n 3, 1) := by decide +kernel
theorem dX12_copy_105 : decode cX12_copy 105 = .ok (.iaload, 1) := by decide +kernel
theorem dX12_copy_106 : decode cX12_copy 106 = .ok (.i2l, 1) := by decide +kernel
theorem dX12_copy_107 : decode cX12_copy 107 = .ok (.lcmp, 1) := by decide +kernel
theorem dX12_copy_108 : decode cX12_copy 108 = .ok (.ifCond .le 9, 3) := by decide +kernel
theorem dX12_copy_111 : decode cX12_copy 111 = .ok (.aload_n 0, 1) := by decide +kernel
theorem dX12_copy_112 : decode cX12_copy 112 = .ok (.iconst 2, 1) := by decide +kernel
theorem dX12_copy_113 : decode cX12_copy 113 = .ok (.invokevirtual 90, 3) := by decide +kernel
theorem dX12_copy_116 : decode cX12_copy 116 = .ok (.ireturn, 1) := by decide +kernel
theorem dX12_copy_117 : decode cX12_copy 117 = .ok (.iconst 0, 1) := by decide +kernel
theorem dX12_copy_118 : decode cX12_copy 118 = .ok (.istore 6, 2) := by decide +kernel
theorem dX12_copy_120 : decode cX12_copy 120 = .ok (.iload 6, 2) := by decide +kernel
theorem dX12_copy_122 : decode cX12_copy 122 = .ok (.iload 5, 2) := by decide +kernel
theorem dX12_copy_124 : decode cX12_copy 124 = .ok (.if_icmp .ge 30, 3) := by decide +kernel
theorem dX12_copy_127 : decode cX12_copy 127 = .ok (.aload_n 0, 1) := by decide +kernel
theorem dX12_copy_128 : decode cX12_copy 128 = .ok (.getfield 19, 3) := by decide +kernel
theorem dX12_copy_131 : decode cX12_copy 131 = .ok (.iload 6, 2) := by decide +kernel
theorem dX12_copy_133 : decode cX12_copy 133 = .ok (.aload_n 0, 1) := by decide +kernel
theorem dX12_copy_134 : decode cX12_copy 134 = .ok (.getfield 16, 3) := by decide +kernel
theorem dX12_copy_137 : decode cX12_copy 137 = .ok (.bipush 60, 2) := by decide +kernel
theorem dX12_copy_139 : decode cX12_copy 139 = .ok (.iload_n 1, 1) := by decide +kernel
theorem dX12_copy_140 : decode cX12_copy 140 = .ok (.imul, 1) := by decide +kernel
theorem dX12_copy_141 : decode cX12_copy 141 = .ok (.iload_n 2, 1) := by decide +kernel
theorem dX12_copy_142 : decode cX12_copy 142 = .ok (.iadd, 1) := by decide +kernel
theorem dX12_copy_143 : decode cX12_copy 143 = .ok (.iload 6, 2) := by decide +kernel
theorem dX12_copy_145 : decode cX12_copy 145 = .ok (.iadd, 1) := by decide +kernel
theorem dX12_copy_146 : decode cX12_copy 146 = .ok (.iaload, 1) := by decide +kernel
theorem dX12_copy_147 : decode cX12_copy 147 = .ok (.iastore, 1) := by decide +kernel
theorem dX12_copy_148 : decode cX12_copy 148 = .ok (.iinc 6 1, 3) := by decide +kernel
theorem dX12_copy_151 : decode cX12_copy 151 = .ok (.goto (-31), 3) := by decide +kernel
theorem dX12_copy_154 : decode cX12_copy 154 = .ok (.iconst 0, 1) := by decide +kernel
theorem dX12_copy_155 : decode cX12_copy 155 = .ok (.istore 6, 2) := by decide +kernel
theorem dX12_copy_157 : decode cX12_copy 157 = .ok (.iload 6, 2) := by decide +kernel
theorem dX12_copy_159 : decode cX12_copy 159 = .ok (.iload 5, 2) := by decide +kernel
theorem dX12_copy_161 : decode cX12_copy 161 = .ok (.if_icmp .ge 31, 3) := by decide +kernel
theorem dX12_copy_164 : decode cX12_copy 164 = .ok (.aload_n 0, 1) := by decide +kernel
theorem dX12_copy_165 : decode cX12_copy 165 = .ok (.getfield 16, 3) := by decide +kernel
theorem dX12_copy_168 : decode cX12_copy 168 = .ok (.bipush 60, 2) := by decide +kernel
theorem dX12_copy_170 : decode cX12_copy 170 = .ok (.iload_n 3, 1) := by decide +kernel
theorem dX12_copy_171 : decode cX12_copy 171 = .ok (.imul, 1) := by decide +kernel
theorem dX12_copy_172 : decode cX12_copy 172 = .ok (.iload 4, 2) := by decide +kernel
theorem dX12_copy_174 : decode cX12_copy 174 = .ok (.iadd, 1) := by decide +kernel
theorem dX12_copy_175 : decode cX12_copy 175 = .ok (.iload 6, 2) := by decide +kernel
theorem dX12_copy_177 : decode cX12_copy 177 = .ok (.iadd, 1) := by decide +kernel
theorem dX12_copy_178 : decode cX12_copy 178 = .ok (.aload_n 0, 1) := by decide +kernel
theorem dX12_copy_179 : decode cX12_copy 179 = .ok (.getfield 19, 3) := by decide +kernel
theorem dX12_copy_182 : decode cX12_copy 182 = .ok (.iload 6, 2) := by decide +kernel
theorem dX12_copy_184 : decode cX12_copy 184 = .ok (.iaload, 1) := by decide +kernel
theorem dX12_copy_185 : decode cX12_copy 185 = .ok (.iastore, 1) := by decide +kernel
theorem dX12_copy_186 : decode cX12_copy 186 = .ok (.iinc 6 1, 3) := by decide +kernel
theorem dX12_copy_189 : decode cX12_copy 189 = .ok (.goto (-32), 3) := by decide +kernel
theorem dX12_copy_192 : decode cX12_copy 192 = .ok (.aload_n 0, 1) := by decide +kernel
theorem dX12_copy_193 : decode cX12_copy 193 = .ok (.iload 5, 2) := by decide +kernel
theorem dX12_copy_195 : decode cX12_copy 195 = .ok (.invokevirtual 94, 3) := by decide +kernel
theorem dX12_copy_198 : decode cX12_copy 198 = .ok (.ireturn, 1) := by decide +kernel
theorem dX12_drop_0 : decode cX12_drop 0 = .ok (.iload_n 1, 1) := by decide +kernel
theorem dX12_drop_1 : decode cX12_drop 1 = .ok (.invokestatic 83, 3) := by decide +kernel
theorem dX12_drop_4 : decode cX12_drop 4 = .ok (.ifCond .ne 6, 3) := by decide +kernel
theorem dX12_drop_7 : decode cX12_drop 7 = .ok (.ldc 89, 2) := by decide +kernel
theorem dX12_drop_9 : decode cX12_drop 9 = .ok (.ireturn, 1) := by decide +kernel
theorem dX12_drop_10 : decode cX12_drop 10 = .ok (.aload_n 0, 1) := by decide +kernel
theorem dX12_drop_11 : decode cX12_drop 11 = .ok (.getfield 7, 3) := by decide +kernel
theorem dX12_drop_14 : decode cX12_drop 14 = .ok (.iload_n 1, 1) := by decide +kernel
theorem dX12_drop_15 : decode cX12_drop 15 = .ok (.iaload, 1) := by decide +kernel
theorem dX12_drop_16 : decode cX12_drop 16 = .ok (.ifCond .ne 9, 3) := by decide +kernel
theorem dX12_drop_19 : decode cX12_drop 19 = .ok (.aload_n 0, 1) := by decide +kernel
theorem dX12_drop_20 : decode cX12_drop 20 = .ok (.iconst 1, 1) := by decide +kernel
theorem dX12_drop_21 : decode cX12_drop 21 = .ok (.invokevirtual 90, 3) := by decide +kernel
theorem dX12_drop_24 : decode cX12_drop 24 = .ok (.ireturn, 1) := by decide +kernel
theorem dX12_drop_25 : decode cX12_drop 25 = .ok (.aload_n 0, 1) := by decide +kernel
theorem dX12_drop_26 : decode cX12_drop 26 = .ok (.getfield 7, 3) := by decide +kernel
theorem dX12_drop_29 : decode cX12_drop 29 = .ok (.iload_n 1, 1) := by decide +kernel
theorem dX12_drop_30 : decode cX12_drop 30 = .ok (.iconst 0, 1) := by decide +kernel
theorem dX12_drop_31 : decode cX12_drop 31 = .ok (.iastore, 1) := by decide +kernel
theorem dX12_drop_32 : decode cX12_drop 32 = .ok (.aload_n 0, 1) := by decide +kernel
theorem dX12_drop_33 : decode cX12_drop 33 = .ok (.aload_n 0, 1) := by decide +kernel
theorem dX12_drop_34 : decode cX12_drop 34 = .ok (.getfield 13, 3) := by decide +kernel
theorem dX12_drop_37 : decode cX12_drop 37 = .ok (.iload_n 1, 1) := by decide +kernel
theorem dX12_drop_38 : decode cX12_drop 38 = .ok (.iaload, 1) := by decide +kernel
theorem dX12_drop_39 : decode cX12_drop 39 = .ok (.invokevirtual 94, 3) := by decide +kernel
theorem dX12_drop_42 : decode cX12_drop 42 = .ok (.ireturn, 1) := by decide +kernel
theorem dX12_cosine_0 : decode cX12_cosine 0 = .ok (.iload_n 0, 1) := by decide +kernel
theorem dX12_cosine_1 : decode cX12_cosine 1 = .ok (.bipush 16, 2) := by decide +kernel
theorem dX12_cosine_3 : decode cX12_cosine 3 = .ok (.iconst 5, 1) := by decide +kernel
theorem dX12_cosine_4 : decode cX12_cosine 4 = .ok (.iload_n 1, 1) := by decide +kernel
theorem dX12_cosine_5 : decode cX12_cosine 5 = .ok (.imul, 1) := by decide +kernel
theorem dX12_cosine_6 : decode cX12_cosine 6 = .ok (.isub, 1) := by decide +kernel
theorem dX12_cosine_7 : decode cX12_cosine 7 = .ok (.ishr, 1) := by decide +kernel
theorem dX12_cosine_8 : decode cX12_cosine 8 = .ok (.bipush 15, 2) := by decide +kernel
theorem dX12_cosine_10 : decode cX12_cosine 10 = .ok (.iand, 1) := by decide +kernel
theorem dX12_cosine_11 : decode cX12_cosine 11 = .ok (.ireturn, 1) := by decide +kernel
theorem dX12_sine_0 : decode cX12_sine 0 = .ok (.iload_n 0, 1) := by decide +kernel
theorem dX12_sine_1 : decode cX12_sine 1 = .ok (.bipush 15, 2) := by decide +kernel
theorem dX12_sine_3 : decode cX12_sine 3 = .ok (.iconst 5, 1) := by decide +kernel
theorem dX12_sine_4 : decode cX12_sine 4 = .ok (.iload_n 1, 1) := by decide +kernel
theorem dX12_sine_5 : decode cX12_sine 5 = .ok (.imul, 1) := by decide +kernel
theorem dX12_sine_6 : decode cX12_sine 6 = .ok (.isub, 1) := by decide +kernel
theorem dX12_sine_7 : decode cX12_sine 7 = .ok (.ishr, 1) := by decide +kernel
theorem dX12_sine_8 : decode cX12_sine 8 = .ok (.iconst 1, 1) := by decide +kernel
theorem dX12_sine_9 : decode cX12_sine 9 = .ok (.iand, 1) := by decide +kernel
theorem dX12_sine_10 : decode cX12_sine 10 = .ok (.ireturn, 1) := by decide +kernel
theorem dX12_oneCosine_0 : decode cX12_oneCosine 0 = .ok (.iconst 1, 1) := by decide +kernel
theorem dX12_oneCosine_1 : decode cX12_oneCosine 1 = .ok (.bipush 16, 2) := by decide +kernel
theorem dX12_oneCosine_3 : decode cX12_oneCosine 3 = .ok (.iconst 5, 1) := by decide +kernel
theorem dX12_oneCosine_4 : decode cX12_oneCosine 4 = .ok (.iload_n 0, 1) := by decide +kernel
theorem dX12_oneCosine_5 : decode cX12_oneCosine 5 = .ok (.imul, 1) := by decide +kernel
theorem dX12_oneCosine_6 : decode cX12_oneCosine 6 = .ok (.isub, 1) := by decide +kernel
theorem dX12_oneCosine_7 : decode cX12_oneCosine 7 = .ok (.ishl, 1) := by decide +kernel
theorem dX12_oneCosine_8 : decode cX12_oneCosine 8 = .ok (.ireturn, 1) := by decide +kernel
theorem dX12_oneSine_0 : decode cX12_oneSine 0 = .ok (.iconst 1, 1) := by decide +kernel
theorem dX12_oneSine_1 : decode cX12_oneSine 1 = .ok (.bipush 15, 2) := by decide +kernel
theorem dX12_oneSine_3 : decode cX12_oneSine 3 = .ok (.iconst 5, 1) := by decide +kernel
theorem dX12_oneSine_4 : decode cX12_oneSine 4 = .ok (.iload_n 0, 1) := by decide +kernel
theorem dX12_oneSine_5 : decode cX12_oneSine 5 = .ok (.imul, 1) := by decide +kernel
theorem dX12_oneSine_6 : decode cX12_oneSine 6 = .ok (.isub, 1) := by decide +kernel
theorem dX12_oneSine_7 : decode cX12_oneSine 7 = .ok (.ishl, 1) := by decide +kernel
theorem dX12_oneSine_8 : decode cX12_oneSine 8 = .ok (.ireturn, 1) := by decide +kernel
theorem dX12_productOf_0 : decode cX12_productOf 0 = .ok (.iload_n 0, 1) := by decide +kernel
theorem dX12_productOf_1 : decode cX12_productOf 1 = .ok (.bipush 20, 2) := by decide +kernel
theorem dX12_productOf_3 : decode cX12_productOf 3 = .ok (.ishr, 1) := by decide +kernel
theorem dX12_productOf_4 : decode cX12_productOf 4 = .ok (.ireturn, 1) := by decide +kernel
theorem dX12_put_0 : decode cX12_put 0 = .ok (.iconst 0, 1) := by decide +kernel
theorem dX12_put_1 : decode cX12_put 1 = .ok (.istore 4, 2) := by decide +kernel
theorem dX12_put_3 : decode cX12_put 3 = .ok (.aload_n 0, 1) := by decide +kernel
theorem dX12_put_4 : decode cX12_put 4 = .ok (.getfield 97, 3) := by decide +kernel
theorem dX12_put_7 : decode cX12_put 7 = .ok (.istore 5, 2) := by decide +kernel
theorem dX12_put_9 : decode cX12_put 9 = .ok (.iload 4, 2) := by decide +kernel
theorem dX12_put_11 : decode cX12_put 11 = .ok (.iload 5, 2) := by decide +kernel
theorem dX12_put_13 : decode cX12_put 13 = .ok (.if_icmp .ge 39, 3) := by decide +kernel
theorem dX12_put_16 : decode cX12_put 16 = .ok (.iload 4, 2) := by decide +kernel
theorem dX12_put_18 : decode cX12_put 18 = .ok (.iload 5, 2) := by decide +kernel
theorem dX12_put_20 : decode cX12_put 20 = .ok (.iadd, 1) := by decide +kernel
theorem dX12_put_21 : decode cX12_put 21 = .ok (.iconst 2, 1) := by decide +kernel
theorem dX12_put_22 : decode cX12_put 22 = .ok (.idiv, 1) := by decide +kernel
theorem dX12_put_23 : decode cX12_put 23 = .ok (.istore 6, 2) := by decide +kernel
theorem dX12_put_25 : decode cX12_put 25 = .ok (.aload_n 0, 1) := by decide +kernel
theorem dX12_put_26 : decode cX12_put 26 = .ok (.getfield 32, 3) := by decide +kernel
theorem dX12_put_29 : decode cX12_put 29 = .ok (.iload 6, 2) := by decide +kernel
theorem dX12_put_31 : decode cX12_put 31 = .ok (.iaload, 1) := by decide +kernel
theorem dX12_put_32 : decode cX12_put 32 = .ok (.iload_n 1, 1) := by decide +kernel
theorem dX12_put_33 : decode cX12_put 33 = .ok (.if_icmp .ge 12, 3) := by decide +kernel
theorem dX12_put_36 : decode cX12_put 36 = .ok (.iload 6, 2) := by decide +kernel
theorem dX12_put_38 : decode cX12_put 38 = .ok (.iconst 1, 1) := by decide +kernel
theorem dX12_put_39 : decode cX12_put 39 = .ok (.iadd, 1) := by decide +kernel
theorem dX12_put_40 : decode cX12_put 40 = .ok (.istore 4, 2) := by decide +kernel
theorem dX12_put_42 : decode cX12_put 42 = .ok (.goto 7, 3) := by decide +kernel
theorem dX12_put_45 : decode cX12_put 45 = .ok (.iload 6, 2) := by decide +kernel
theorem dX12_put_47 : decode cX12_put 47 = .ok (.istore 5, 2) := by decide +kernel
theorem dX12_put_49 : decode cX12_put 49 = .ok (.goto (-40), 3) := by decide +kernel
theorem dX12_put_52 : decode cX12_put 52 = .ok (.iload 4, 2) := by decide +kernel
theorem dX12_put_54 : decode cX12_put 54 = .ok (.aload_n 0, 1) := by decide +kernel
theorem dX12_put_55 : decode cX12_put 55 = .ok (.getfield 97, 3) := by decide +kernel
theorem dX12_put_58 : decode cX12_put 58 = .ok (.if_icmp .eq 14, 3) := by decide +kernel
theorem dX12_put_61 : decode cX12_put 61 = .ok (.aload_n 0, 1) := by decide +kernel
theorem dX12_put_62 : decode cX12_put 62 = .ok (.getfield 32, 3) := by decide +kernel
theorem dX12_put_65 : decode cX12_put 65 = .ok (.iload 4, 2) := by decide +kernel
theorem dX12_put_67 : decode cX12_put 67 = .ok (.iaload, 1) := by decide +kernel
theorem dX12_put_68 : decode cX12_put 68 = .ok (.iload_n 1, 1) := by decide +kernel
theorem dX12_put_69 : decode cX12_put 69 = .ok (.if_icmp .eq 80, 3) := by decide +kernel
theorem dX12_put_72 : decode cX12_put 72 = .ok (.aload_n 0, 1) := by decide +kernel
theorem dX12_put_73 : decode cX12_put 73 = .ok (.getfield 97, 3) := by decide +kernel
theorem dX12_put_76 : decode cX12_put 76 = .ok (.istore 6, 2) := by decide +kernel
theorem dX12_put_78 : decode cX12_put 78 = .ok (.iload 6, 2) := by decide +kernel
theorem dX12_put_80 : decode cX12_put 80 = .ok (.iload 4, 2) := by decide +kernel
theorem dX12_put_82 : decode cX12_put 82 = .ok (.if_icmp .le 41, 3) := by decide +kernel
theorem dX12_put_85 : decode cX12_put 85 = .ok (.aload_n 0, 1) := by decide +kernel
theorem dX12_put_86 : decode cX12_put 86 = .ok (.getfield 32, 3) := by decide +kernel
theorem dX12_put_89 : decode cX12_put 89 = .ok (.iload 6, 2) := by decide +kernel
theorem dX12_put_91 : decode cX12_put 91 = .ok (.aload_n 0, 1) := by decide +kernel
theorem dX12_put_92 : decode cX12_put 92 = .ok (.getfield 32, 3) := by decide +kernel
theorem dX12_put_95 : decode cX12_put 95 = .ok (.iload 6, 2) := by decide +kernel
theorem dX12_put_97 : decode cX12_put 97 = .ok (.iconst 1, 1) := by decide +kernel
theorem dX12_put_98 : decode cX12_put 98 = .ok (.isub, 1) := by decide +kernel
theorem dX12_put_99 : decode cX12_put 99 = .ok (.iaload, 1) := by decide +kernel
theorem dX12_put_100 : decode cX12_put 100 = .ok (.iastore, 1) := by decide +kernel
theorem dX12_put_101 : decode cX12_put 101 = .ok (.aload_n 0, 1) := by decide +kernel
theorem dX12_put_102 : decode cX12_put 102 = .ok (.getfield 35, 3) := by decide +kernel
theorem dX12_put_105 : decode cX12_put 105 = .ok (.iload 6, 2) := by decide +kernel
theorem dX12_put_107 : decode cX12_put 107 = .ok (.aload_n 0, 1) := by decide +kernel
theorem dX12_put_108 : decode cX12_put 108 = .ok (.getfield 35, 3) := by decide +kernel
theorem dX12_put_111 : decode cX12_put 111 = .ok (.iload 6, 2) := by decide +kernel
theorem dX12_put_113 : decode cX12_put 113 = .ok (.iconst 1, 1) := by decide +kernel
theorem dX12_put_114 : decode cX12_put 114 = .ok (.isub, 1) := by decide +kernel
theorem dX12_put_115 : decode cX12_put 115 = .ok (.laload, 1) := by decide +kernel
theorem dX12_put_116 : decode cX12_put 116 = .ok (.lastore, 1) := by decide +kernel
theorem dX12_put_117 : decode cX12_put 117 = .ok (.iinc 6 (-1), 3) := by decide +kernel
theorem dX12_put_120 : decode cX12_put 120 = .ok (.goto (-42), 3) := by decide +kernel
theorem dX12_put_123 : decode cX12_put 123 = .ok (.aload_n 0, 1) := by decide +kernel
theorem dX12_put_124 : decode cX12_put 124 = .ok (.getfield 32, 3) := by decide +kernel
theorem dX12_put_127 : decode cX12_put 127 = .ok (.iload 4, 2) := by decide +kernel
theorem dX12_put_129 : decode cX12_put 129 = .ok (.iload_n 1, 1) := by decide +kernel
theorem dX12_put_130 : decode cX12_put 130 = .ok (.iastore, 1) := by decide +kernel
theorem dX12_put_131 : decode cX12_put 131 = .ok (.aload_n 0, 1) := by decide +kernel
theorem dX12_put_132 : decode cX12_put 132 = .ok (.getfield 35, 3) := by decide +kernel
theorem dX12_put_135 : decode cX12_put 135 = .ok (.iload 4, 2) := by decide +kernel
theorem dX12_put_137 : decode cX12_put 137 = .ok (.lconst 0, 1) := by decide +kernel
theorem dX12_put_138 : decode cX12_put 138 = .ok (.lastore, 1) := by decide +kernel
theorem dX12_put_139 : decode cX12_put 139 = .ok (.aload_n 0, 1) := by decide +kernel
theorem dX12_put_140 : decode cX12_put 140 = .ok (.dup, 1) := by decide +kernel
theorem dX12_put_141 : decode cX12_put 141 = .ok (.getfield 97, 3) := by decide +kernel
theorem dX12_put_144 : decode cX12_put 144 = .ok (.iconst 1, 1) := by decide +kernel
theorem dX12_put_145 : decode cX12_put 145 = .ok (.iadd, 1) := by decide +kernel
theorem dX12_put_146 : decode cX12_put 146 = .ok (.putfield 97, 3) := by decide +kernel
theorem dX12_put_149 : decode cX12_put 149 = .ok (.aload_n 0, 1) := by decide +kernel
theorem dX12_put_150 : decode cX12_put 150 = .ok (.getfield 35, 3) := by decide +kernel
theorem dX12_put_153 : decode cX12_put 153 = .ok (.iload 4, 2) := by decide +kernel
theorem dX12_put_155 : decode cX12_put 155 = .ok (.dup2, 1) := by decide +kernel
theorem dX12_put_156 : decode cX12_put 156 = .ok (.laload, 1) := by decide +kernel
theorem dX12_put_157 : decode cX12_put 157 = .ok (.lload_n 2, 1) := by decide +kernel
theorem dX12_put_158 : decode cX12_put 158 = .ok (.ladd, 1) := by decide +kernel
theorem dX12_put_159 : decode cX12_put 159 = .ok (.lastore, 1) := by decide +kernel
theorem dX12_put_160 : decode cX12_put 160 = .ok (.return_, 1) := by decide +kernel
theorem dX12_placeOf_0 : decode cX12_placeOf 0 = .ok (.iload_n 0, 1) := by decide +kernel
theorem dX12_placeOf_1 : decode cX12_placeOf 1 = .ok (.ifCond .ge 8, 3) := by decide +kernel
theorem dX12_placeOf_4 : decode cX12_placeOf 4 = .ok (.bipush 8, 2) := by decide +kernel
theorem dX12_placeOf_6 : decode cX12_placeOf 6 = .ok (.goto 4, 3) := by decide +kernel
theorem dX12_placeOf_9 : decode cX12_placeOf 9 = .ok (.iload_n 0, 1) := by decide +kernel
theorem dX12_placeOf_10 : decode cX12_placeOf 10 = .ok (.ireturn, 1) := by decide +kernel
theorem dX12_isShelf_0 : decode cX12_isShelf 0 = .ok (.iload_n 0, 1) := by decide +kernel
theorem dX12_isShelf_1 : decode cX12_isShelf 1 = .ok (.i2l, 1) := by decide +kernel
theorem dX12_isShelf_2 : decode cX12_isShelf 2 = .ok (.ldc2_w 100, 3) := by decide +kernel
theorem dX12_isShelf_5 : decode cX12_isShelf 5 = .ok (.ldc2_w 77, 3) := by decide +kernel
theorem dX12_isShelf_8 : decode cX12_isShelf 8 = .ok (.invokestatic 79, 3) := by decide +kernel
theorem dX12_isShelf_11 : decode cX12_isShelf 11 = .ok (.ireturn, 1) := by decide +kernel
theorem dX12_isProduct_0 : decode cX12_isProduct 0 = .ok (.iload_n 1, 1) := by decide +kernel
theorem dX12_isProduct_1 : decode cX12_isProduct 1 = .ok (.i2l, 1) := by decide +kernel
theorem dX12_isProduct_2 : decode cX12_isProduct 2 = .ok (.lconst 0, 1) := by decide +kernel
theorem dX12_isProduct_3 : decode cX12_isProduct 3 = .ok (.aload_n 0, 1) := by decide +kernel
theorem dX12_isProduct_4 : decode cX12_isProduct 4 = .ok (.getfield 70, 3) := by decide +kernel
theorem dX12_isProduct_7 : decode cX12_isProduct 7 = .ok (.iconst 1, 1) := by decide +kernel
theorem dX12_isProduct_8 : decode cX12_isProduct 8 = .ok (.isub, 1) := by decide +kernel
theorem dX12_isProduct_9 : decode cX12_isProduct 9 = .ok (.i2l, 1) := by decide +kernel
theorem dX12_isProduct_10 : decode cX12_isProduct 10 = .ok (.invokestatic 79, 3) := by decide +kernel
theorem dX12_isProduct_13 : decode cX12_isProduct 13 = .ok (.ireturn, 1) := by decide +kernel
theorem dX12_keep_0 : decode cX12_keep 0 = .ok (.iconst 0, 1) := by decide +kernel
theorem dX12_keep_1 : decode cX12_keep 1 = .ok (.istore_n 2, 1) := by decide +kernel
theorem dX12_keep_2 : decode cX12_keep 2 = .ok (.iconst 0, 1) := by decide +kernel
theorem dX12_keep_3 : decode cX12_keep 3 = .ok (.istore_n 3, 1) := by decide +kernel
theorem dX12_keep_4 : decode cX12_keep 4 = .ok (.iload_n 3, 1) := by decide +kernel
theorem dX12_keep_5 : decode cX12_keep 5 = .ok (.aload_n 0, 1) := by decide +kernel
theorem dX12_keep_6 : decode cX12_keep 6 = .ok (.getfield 97, 3) := by decide +kernel
theorem dX12_keep_9 : decode cX12_keep 9 = .ok (.if_icmp .ge 90, 3) := by decide +kernel
theorem dX12_keep_12 : decode cX12_keep 12 = .ok (.aload_n 0, 1) := by decide +kernel
theorem dX12_keep_13 : decode cX12_keep 13 = .ok (.getfield 35, 3) := by decide +kernel
theorem dX12_keep_16 : decode cX12_keep 16 = .ok (.iload_n 3, 1) := by decide +kernel
theorem dX12_keep_17 : decode cX12_keep 17 = .ok (.laload, 1) := by decide +kernel
theorem dX12_keep_18 : decode cX12_keep 18 = .ok (.lconst 0, 1) := by decide +kernel
theorem dX12_keep_19 : decode cX12_keep 19 = .ok (.lcmp, 1) := by decide +kernel
theorem dX12_keep_20 : decode cX12_keep 20 = .ok (.ifCond .eq 73, 3) := by decide +kernel
theorem dX12_keep_23 : decode cX12_keep 23 = .ok (.aload_n 0, 1) := by decide +kernel
theorem dX12_keep_24 : decode cX12_keep 24 = .ok (.getfield 35, 3) := by decide +kernel
theorem dX12_keep_27 : decode cX12_keep 27 = .ok (.iload_n 3, 1) := by decide +kernel
theorem dX12_keep_28 : decode cX12_keep 28 = .ok (.laload, 1) := by decide +kernel
theorem dX12_keep_29 : decode cX12_keep 29 = .ok (.ldc2_w 102, 3) := by decide +kernel
theorem dX12_keep_32 : decode cX12_keep 32 = .ok (.ldc2_w 104, 3) := by decide +kernel
theorem dX12_keep_35 : decode cX12_keep 35 = .ok (.invokestatic 79, 3) := by decide +kernel
theorem dX12_keep_38 : decode cX12_keep 38 = .ok (.istore 4, 2) := by decide +kernel
theorem dX12_keep_40 : decode cX12_keep 40 = .ok (.iconst 0, 1) := by decide +kernel
theorem dX12_keep_41 : decode cX12_keep 41 = .ok (.istore 5, 2) := by decide +kernel
theorem dX12_keep_43 : decode cX12_keep 43 = .ok (.iload 5, 2) := by decide +kernel
theorem dX12_keep_45 : decode cX12_keep 45 = .ok (.iconst 4, 1) := by decide +kernel
theorem dX12_keep_46 : decode cX12_keep 46 = .ok (.if_icmp .ge 37, 3) := by decide +kernel
theorem dX12_keep_49 : decode cX12_keep 49 = .ok (.iload 4, 2) := by decide +kernel
theorem dX12_keep_51 : decode cX12_keep 51 = .ok (.ifCond .eq 23, 3) := by decide +kernel
theorem dX12_keep_54 : decode cX12_keep 54 = .ok (.aload_n 0, 1) := by decide +kernel
theorem dX12_keep_55 : decode cX12_keep 55 = .ok (.getfield 32, 3) := by decide +kernel
theorem dX12_keep_58 : decode cX12_keep 58 = .ok (.iload_n 3, 1) := by decide +kernel
theorem dX12_keep_59 : decode cX12_keep 59 = .ok (.iaload, 1) := by decide +kernel
theorem dX12_keep_60 : decode cX12_keep 60 = .ok (.iload 5, 2) := by decide +kernel
theorem dX12_keep_62 : decode cX12_keep 62 = .ok (.invokestatic 106, 3) := by decide +kernel
theorem dX12_keep_65 : decode cX12_keep 65 = .ok (.bipush 13, 2) := by decide +kernel
theorem dX12_keep_67 : decode cX12_keep 67 = .ok (.if_icmp .ge 7, 3) := by decide +kernel
theorem dX12_keep_70 : decode cX12_keep 70 = .ok (.iconst 1, 1) := by decide +kernel
theorem dX12_keep_71 : decode cX12_keep 71 = .ok (.goto 4, 3) := by decide +kernel
theorem dX12_keep_74 : decode cX12_keep 74 = .ok (.iconst 0, 1) := by decide +kernel
theorem dX12_keep_75 : decode cX12_keep 75 = .ok (.istore 4, 2) := by decide +kernel
theorem dX12_keep_77 : decode cX12_keep 77 = .ok (.iinc 5 1, 3) := by decide +kernel
theorem dX12_keep_80 : decode cX12_keep 80 = .ok (.goto (-37), 3) := by decide +kernel
theorem dX12_keep_83 : decode cX12_keep 83 = .ok (.iload 4, 2) := by decide +kernel
theorem dX12_keep_85 : decode cX12_keep 85 = .ok (.ifCond .ne 5, 3) := by decide +kernel
theorem dX12_keep_88 : decode cX12_keep 88 = .ok (.iconst 0, 1) := by decide +kernel
theorem dX12_keep_89 : decode cX12_keep 89 = .ok (.ireturn, 1) := by decide +kernel
theorem dX12_keep_90 : decode cX12_keep 90 = .ok (.iinc 2 1, 3) := by decide +kernel
theorem dX12_keep_93 : decode cX12_keep 93 = .ok (.iinc 3 1, 3) := by decide +kernel
theorem dX12_keep_96 : decode cX12_keep 96 = .ok (.goto (-92), 3) := by decide +kernel
theorem dX12_keep_99 : decode cX12_keep 99 = .ok (.iload_n 2, 1) := by decide +kernel
theorem dX12_keep_100 : decode cX12_keep 100 = .ok (.sipush 300, 3) := by decide +kernel
theorem dX12_keep_103 : decode cX12_keep 103 = .ok (.if_icmp .le 5, 3) := by decide +kernel
theorem dX12_keep_106 : decode cX12_keep 106 = .ok (.iconst 0, 1) := by decide +kernel
theorem dX12_keep_107 : decode cX12_keep 107 = .ok (.ireturn, 1) := by decide +kernel
theorem dX12_keep_108 : decode cX12_keep 108 = .ok (.iconst 0, 1) := by decide +kernel
theorem dX12_keep_109 : decode cX12_keep 109 = .ok (.istore_n 2, 1) := by decide +kernel
theorem dX12_keep_110 : decode cX12_keep 110 = .ok (.iconst 0, 1) := by decide +kernel
theorem dX12_keep_111 : decode cX12_keep 111 = .ok (.istore_n 3, 1) := by decide +kernel
theorem dX12_keep_112 : decode cX12_keep 112 = .ok (.iload_n 3, 1) := by decide +kernel
theorem dX12_keep_113 : decode cX12_keep 113 = .ok (.aload_n 0, 1) := by decide +kernel
theorem dX12_keep_114 : decode cX12_keep 114 = .ok (.getfield 97, 3) := by decide +kernel
theorem dX12_keep_117 : decode cX12_keep 117 = .ok (.if_icmp .ge 59, 3) := by decide +kernel
theorem dX12_keep_120 : decode cX12_keep 120 = .ok (.aload_n 0, 1) := by decide +kernel
theorem dX12_keep_121 : decode cX12_keep 121 = .ok (.getfield 35, 3) := by decide +kernel
theorem dX12_keep_124 : decode cX12_keep 124 = .ok (.iload_n 3, 1) := by decide +kernel
theorem dX12_keep_125 : decode cX12_keep 125 = .ok (.laload, 1) := by decide +kernel
theorem dX12_keep_126 : decode cX12_keep 126 = .ok (.lconst 0, 1) := by decide +kernel
theorem dX12_keep_127 : decode cX12_keep 127 = .ok (.lcmp, 1) := by decide +kernel
theorem dX12_keep_128 : decode cX12_keep 128 = .ok (.ifCond .eq 42, 3) := by decide +kernel
theorem dX12_keep_131 : decode cX12_keep 131 = .ok (.aload_n 0, 1) := by decide +kernel
theorem dX12_keep_132 : decode cX12_keep 132 = .ok (.getfield 25, 3) := by decide +kernel
theorem dX12_keep_135 : decode cX12_keep 135 = .ok (.sipush 300, 3) := by decide +kernel
theorem dX12_keep_138 : decode cX12_keep 138 = .ok (.iload_n 1, 1) := by decide +kernel
theorem dX12_keep_139 : decode cX12_keep 139 = .ok (.imul, 1) := by decide +kernel
theorem dX12_keep_140 : decode cX12_keep 140 = .ok (.iload_n 2, 1) := by decide +kernel
theorem dX12_keep_141 : decode cX12_keep 141 = .ok (.iadd, 1) := by decide +kernel
theorem dX12_keep_142 : decode cX12_keep 142 = .ok (.aload_n 0, 1) := by decide +kernel
theorem dX12_keep_143 : decode cX12_keep 143 = .ok (.getfield 32, 3) := by decide +kernel
theorem dX12_keep_146 : decode cX12_keep 146 = .ok (.iload_n 3, 1) := by decide +kernel
theorem dX12_keep_147 : decode cX12_keep 147 = .ok (.iaload, 1) := by decide +kernel
theorem dX12_keep_148 : decode cX12_keep 148 = .ok (.iastore, 1) := by decide +kernel
theorem dX12_keep_149 : decode cX12_keep 149 = .ok (.aload_n 0, 1) := by decide +kernel
theorem dX12_keep_150 : decode cX12_keep 150 = .ok (.getfield 28, 3) := by decide +kernel
theorem dX12_keep_153 : decode cX12_keep 153 = .ok (.sipush 300, 3) := by decide +kernel
theorem dX12_keep_156 : decode cX12_keep 156 = .ok (.iload_n 1, 1) := by decide +kernel
theorem dX12_keep_157 : decode cX12_keep 157 = .ok (.imul, 1) := by decide +kernel
theorem dX12_keep_158 : decode cX12_keep 158 = .ok (.iload_n 2, 1) := by decide +kernel
theorem dX12_keep_159 : decode cX12_keep 159 = .ok (.iadd, 1) := by decide +kernel
theorem dX12_keep_160 : decode cX12_keep 160 = .ok (.aload_n 0, 1) := by decide +kernel
theorem dX12_keep_161 : decode cX12_keep 161 = .ok (.getfield 35, 3) := by decide +kernel
theorem dX12_keep_164 : decode cX12_keep 164 = .ok (.iload_n 3, 1) := by decide +kernel
theorem dX12_keep_165 : decode cX12_keep 165 = .ok (.laload, 1) := by decide +kernel
theorem dX12_keep_166 : decode cX12_keep 166 = .ok (.lastore, 1) := by decide +kernel
theorem dX12_keep_167 : decode cX12_keep 167 = .ok (.iinc 2 1, 3) := by decide +kernel
theorem dX12_keep_170 : decode cX12_keep 170 = .ok (.iinc 3 1, 3) := by decide +kernel
theorem dX12_keep_173 : decode cX12_keep 173 = .ok (.goto (-61), 3) := by decide +kernel
theorem dX12_keep_176 : decode cX12_keep 176 = .ok (.aload_n 0, 1) := by decide +kernel
theorem dX12_keep_177 : decode cX12_keep 177 = .ok (.getfield 22, 3) := by decide +kernel
theorem dX12_keep_180 : decode cX12_keep 180 = .ok (.iload_n 1, 1) := by decide +kernel
theorem dX12_keep_181 : decode cX12_keep 181 = .ok (.iload_n 2, 1) := by decide +kernel
theorem dX12_keep_182 : decode cX12_keep 182 = .ok (.iastore, 1) := by decide +kernel
theorem dX12_keep_183 : decode cX12_keep 183 = .ok (.iconst 1, 1) := by decide +kernel
theorem dX12_keep_184 : decode cX12_keep 184 = .ok (.ireturn, 1) := by decide +kernel
theorem dX12_putAll_0 : decode cX12_putAll 0 = .ok (.iconst 0, 1) := by decide +kernel
theorem dX12_putAll_1 : decode cX12_putAll 1 = .ok (.istore 4, 2) := by decide +kernel
theorem dX12_putAll_3 : decode cX12_putAll 3 = .ok (.iload 4, 2) := by decide +kernel
theorem dX12_putAll_5 : decode cX12_putAll 5 = .ok (.aload_n 0, 1) := by decide +kernel
theorem dX12_putAll_6 : decode cX12_putAll 6 = .ok (.getfield 22, 3) := by decide +kernel
theorem dX12_putAll_9 : decode cX12_putAll 9 = .ok (.iload_n 1, 1) := by decide +kernel
theorem dX12_putAll_10 : decode cX12_putAll 10 = .ok (.iaload, 1) := by decide +kernel
theorem dX12_putAll_11 : decode cX12_putAll 11 = .ok (.if_icmp .ge 41, 3) := by decide +kernel
theorem dX12_putAll_14 : decode cX12_putAll 14 = .ok (.aload_n 0, 1) := by decide +kernel
theorem dX12_putAll_15 : decode cX12_putAll 15 = .ok (.aload_n 0, 1) := by decide +kernel
theorem dX12_putAll_16 : decode cX12_putAll 16 = .ok (.getfield 25, 3) := by decide +kernel
theorem dX12_putAll_19 : decode cX12_putAll 19 = .ok (.sipush 300, 3) := by decide +kernel
theorem dX12_putAll_22 : decode cX12_putAll 22 = .ok (.iload_n 1, 1) := by decide +kernel
theorem dX12_putAll_23 : decode cX12_putAll 23 = .ok (.imul, 1) := by decide +kernel
theorem dX12_putAll_24 : decode cX12_putAll 24 = .ok (.iload 4, 2) := by decide +kernel
theorem dX12_putAll_26 : decode cX12_putAll 26 = .ok (.iadd, 1) := by decide +kernel
theorem dX12_putAll_27 : decode cX12_putAll 27 = .ok (.iaload, 1) := by decide +kernel
theorem dX12_putAll_28 : decode cX12_putAll 28 = .ok (.lload_n 2, 1) := by decide +kernel
theorem dX12_putAll_29 : decode cX12_putAll 29 = .ok (.aload_n 0, 1) := by decide +kernel
theorem dX12_putAll_30 : decode cX12_putAll 30 = .ok (.getfield 28, 3) := by decide +kernel
theorem dX12_putAll_33 : decode cX12_putAll 33 = .ok (.sipush 300, 3) := by decide +kernel
theorem dX12_putAll_36 : decode cX12_putAll 36 = .ok (.iload_n 1, 1) := by decide +kernel
theorem dX12_putAll_37 : decode cX12_putAll 37 = .ok (.imul, 1) := by decide +kernel
theorem dX12_putAll_38 : decode cX12_putAll 38 = .ok (.iload 4, 2) := by decide +kernel
theorem dX12_putAll_40 : decode cX12_putAll 40 = .ok (.iadd, 1) := by decide +kernel
theorem dX12_putAll_41 : decode cX12_putAll 41 = .ok (.laload, 1) := by decide +kernel
theorem dX12_putAll_42 : decode cX12_putAll 42 = .ok (.lmul, 1) := by decide +kernel
theorem dX12_putAll_43 : decode cX12_putAll 43 = .ok (.invokevirtual 110, 3) := by decide +kernel
theorem dX12_putAll_46 : decode cX12_putAll 46 = .ok (.iinc 4 1, 3) := by decide +kernel
theorem dX12_putAll_49 : decode cX12_putAll 49 = .ok (.goto (-46), 3) := by decide +kernel
theorem dX12_putAll_52 : decode cX12_putAll 52 = .ok (.return_, 1) := by decide +kernel
theorem dX12_copySum_0 : decode cX12_copySum 0 = .ok (.aload_n 0, 1) := by decide +kernel
theorem dX12_copySum_1 : decode cX12_copySum 1 = .ok (.getfield 22, 3) := by decide +kernel
theorem dX12_copySum_4 : decode cX12_copySum 4 = .ok (.iload_n 1, 1) := by decide +kernel
theorem dX12_copySum_5 : decode cX12_copySum 5 = .ok (.aload_n 0, 1) := by decide +kernel
theorem dX12_copySum_6 : decode cX12_copySum 6 = .ok (.getfield 22, 3) := by decide +kernel
theorem dX12_copySum_9 : decode cX12_copySum 9 = .ok (.iload_n 2, 1) := by decide +kernel
theorem dX12_copySum_10 : decode cX12_copySum 10 = .ok (.iaload, 1) := by decide +kernel
theorem dX12_copySum_11 : decode cX12_copySum 11 = .ok (.iastore, 1) := by decide +kernel
theorem dX12_copySum_12 : decode cX12_copySum 12 = .ok (.iconst 0, 1) := by decide +kernel
theorem dX12_copySum_13 : decode cX12_copySum 13 = .ok (.istore_n 3, 1) := by decide +kernel
theorem dX12_copySum_14 : decode cX12_copySum 14 = .ok (.iload_n 3, 1) := by decide +kernel
theorem dX12_copySum_15 : decode cX12_copySum 15 = .ok (.aload_n 0, 1) := by decide +kernel
theorem dX12_copySum_16 : decode cX12_copySum 16 = .ok (.getfield 22, 3) := by decide +kernel
theorem dX12_copySum_19 : decode cX12_copySum 19 = .ok (.iload_n 2, 1) := by decide +kernel
theorem dX12_copySum_20 : decode cX12_copySum 20 = .ok (.iaload, 1) := by decide +kernel
theorem dX12_copySum_21 : decode cX12_copySum 21 = .ok (.if_icmp .ge 57, 3) := by decide +kernel
theorem dX12_copySum_24 : decode cX12_copySum 24 = .ok (.aload_n 0, 1) := by decide +kernel
theorem dX12_copySum_25 : decode cX12_copySum 25 = .ok (.getfield 25, 3) := by decide +kernel
theorem dX12_copySum_28 : decode cX12_copySum 28 = .ok (.sipush 300, 3) := by decide +kernel
theorem dX12_copySum_31 : decode cX12_copySum 31 = .ok (.iload_n 1, 1) := by decide +kernel
theorem dX12_copySum_32 : decode cX12_copySum 32 = .ok (.imul, 1) := by decide +kernel
theorem dX12_copySum_33 : decode cX12_copySum 33 = .ok (.iload_n 3, 1) := by decide +kernel
theorem dX12_copySum_34 : decode cX12_copySum 34 = .ok (.iadd, 1) := by decide +kernel
theorem dX12_copySum_35 : decode cX12_copySum 35 = .ok (.aload_n 0, 1) := by decide +kernel
theorem dX12_copySum_36 : decode cX12_copySum 36 = .ok (.getfield 25, 3) := by decide +kernel
theorem dX12_copySum_39 : decode cX12_copySum 39 = .ok (.sipush 300, 3) := by decide +kernel
theorem dX12_copySum_42 : decode cX12_copySum 42 = .ok (.iload_n 2, 1) := by decide +kernel
theorem dX12_copySum_43 : decode cX12_copySum 43 = .ok (.imul, 1) := by decide +kernel
theorem dX12_copySum_44 : decode cX12_copySum 44 = .ok (.iload_n 3, 1) := by decide +kernel
theorem dX12_copySum_45 : decode cX12_copySum 45 = .ok (.iadd, 1) := by decide +kernel
theorem dX12_copySum_46 : decode cX12_copySum 46 = .ok (.iaload, 1) := by decide +kernel
theorem dX12_copySum_47 : decode cX12_copySum 47 = .ok (.iastore, 1) := by decide +kernel
theorem dX12_copySum_48 : decode cX12_copySum 48 = .ok (.aload_n 0, 1) := by decide +kernel
theorem dX12_copySum_49 : decode cX12_copySum 49 = .ok (.getfield 28, 3) := by decide +kernel
theorem dX12_copySum_52 : decode cX12_copySum 52 = .ok (.sipush 300, 3) := by decide +kernel
theorem dX12_copySum_55 : decode cX12_copySum 55 = .ok (.iload_n 1, 1) := by decide +kernel
theorem dX12_copySum_56 : decode cX12_copySum 56 = .ok (.imul, 1) := by decide +kernel
theorem dX12_copySum_57 : decode cX12_copySum 57 = .ok (.iload_n 3, 1) := by decide +kernel
theorem dX12_copySum_58 : decode cX12_copySum 58 = .ok (.iadd, 1) := by decide +kernel
theorem dX12_copySum_59 : decode cX12_copySum 59 = .ok (.aload_n 0, 1) := by decide +kernel
theorem dX12_copySum_60 : decode cX12_copySum 60 = .ok (.getfield 28, 3) := by decide +kernel
theorem dX12_copySum_63 : decode cX12_copySum 63 = .ok (.sipush 300, 3) := by decide +kernel
theorem dX12_copySum_66 : decode cX12_copySum 66 = .ok (.iload_n 2, 1) := by decide +kernel
theorem dX12_copySum_67 : decode cX12_copySum 67 = .ok (.imul, 1) := by decide +kernel
theorem dX12_copySum_68 : decode cX12_copySum 68 = .ok (.iload_n 3, 1) := by decide +kernel
theorem dX12_copySum_69 : decode cX12_copySum 69 = .ok (.iadd, 1) := by decide +kernel
theorem dX12_copySum_70 : decode cX12_copySum 70 = .ok (.laload, 1) := by decide +kernel
theorem dX12_copySum_71 : decode cX12_copySum 71 = .ok (.lastore, 1) := by decide +kernel
theorem dX12_copySum_72 : decode cX12_copySum 72 = .ok (.iinc 3 1, 3) := by decide +kernel
theorem dX12_copySum_75 : decode cX12_copySum 75 = .ok (.goto (-61), 3) := by decide +kernel
theorem dX12_copySum_78 : decode cX12_copySum 78 = .ok (.return_, 1) := by decide +kernel
theorem dX12_kept_0 : decode cX12_kept 0 = .ok (.aload_n 0, 1) := by decide +kernel
theorem dX12_kept_1 : decode cX12_kept 1 = .ok (.iload_n 1, 1) := by decide +kernel
theorem dX12_kept_2 : decode cX12_kept 2 = .ok (.invokevirtual 114, 3) := by decide +kernel
theorem dX12_kept_5 : decode cX12_kept 5 = .ok (.ifCond .eq 12, 3) := by decide +kernel
theorem dX12_kept_8 : decode cX12_kept 8 = .ok (.aload_n 0, 1) := by decide +kernel
theorem dX12_kept_9 : decode cX12_kept 9 = .ok (.getfield 22, 3) := by decide +kernel
theorem dX12_kept_12 : decode cX12_kept 12 = .ok (.iload_n 1, 1) := by decide +kernel
theorem dX12_kept_13 : decode cX12_kept 13 = .ok (.iaload, 1) := by decide +kernel
theorem dX12_kept_14 : decode cX12_kept 14 = .ok (.goto 5, 3) := by decide +kernel
theorem dX12_kept_17 : decode cX12_kept 17 = .ok (.ldc 117, 2) := by decide +kernel
theorem dX12_kept_19 : decode cX12_kept 19 = .ok (.ireturn, 1) := by decide +kernel
theorem dX12_clear_0 : decode cX12_clear 0 = .ok (.iload_n 1, 1) := by decide +kernel
theorem dX12_clear_1 : decode cX12_clear 1 = .ok (.invokestatic 118, 3) := by decide +kernel
theorem dX12_clear_4 : decode cX12_clear 4 = .ok (.ifCond .ne 6, 3) := by decide +kernel
theorem dX12_clear_7 : decode cX12_clear 7 = .ok (.ldc 89, 2) := by decide +kernel
theorem dX12_clear_9 : decode cX12_clear 9 = .ok (.ireturn, 1) := by decide +kernel
theorem dX12_clear_10 : decode cX12_clear 10 = .ok (.aload_n 0, 1) := by decide +kernel
theorem dX12_clear_11 : decode cX12_clear 11 = .ok (.getfield 22, 3) := by decide +kernel
theorem dX12_clear_14 : decode cX12_clear 14 = .ok (.iload_n 1, 1) := by decide +kernel
theorem dX12_clear_15 : decode cX12_clear 15 = .ok (.invokestatic 121, 3) := by decide +kernel
theorem dX12_clear_18 : decode cX12_clear 18 = .ok (.iaload, 1) := by decide +kernel
theorem dX12_clear_19 : decode cX12_clear 19 = .ok (.istore_n 2, 1) := by decide +kernel
theorem dX12_clear_20 : decode cX12_clear 20 = .ok (.aload_n 0, 1) := by decide +kernel
theorem dX12_clear_21 : decode cX12_clear 21 = .ok (.getfield 22, 3) := by decide +kernel
theorem dX12_clear_24 : decode cX12_clear 24 = .ok (.iload_n 1, 1) := by decide +kernel
theorem dX12_clear_25 : decode cX12_clear 25 = .ok (.invokestatic 121, 3) := by decide +kernel
theorem dX12_clear_28 : decode cX12_clear 28 = .ok (.iconst 0, 1) := by decide +kernel
theorem dX12_clear_29 : decode cX12_clear 29 = .ok (.iastore, 1) := by decide +kernel
theorem dX12_clear_30 : decode cX12_clear 30 = .ok (.iload_n 2, 1) := by decide +kernel
theorem dX12_clear_31 : decode cX12_clear 31 = .ok (.ireturn, 1) := by decide +kernel
theorem dX12_add_0 : decode cX12_add 0 = .ok (.iload_n 1, 1) := by decide +kernel
theorem dX12_add_1 : decode cX12_add 1 = .ok (.invokestatic 118, 3) := by decide +kernel
theorem dX12_add_4 : decode cX12_add 4 = .ok (.ifCond .eq 11, 3) := by decide +kernel
theorem dX12_add_7 : decode cX12_add 7 = .ok (.aload_n 0, 1) := by decide +kernel
theorem dX12_add_8 : decode cX12_add 8 = .ok (.iload_n 2, 1) := by decide +kernel
theorem dX12_add_9 : decode cX12_add 9 = .ok (.invokevirtual 124, 3) := by decide +kernel
theorem dX12_add_12 : decode cX12_add 12 = .ok (.ifCond .ne 6, 3) := by decide +kernel
theorem dX12_add_15 : decode cX12_add 15 = .ok (.ldc 89, 2) := by decide +kernel
theorem dX12_add_17 : decode cX12_add 17 = .ok (.ireturn, 1) := by decide +kernel
theorem dX12_add_18 : decode cX12_add 18 = .ok (.aload_n 0, 1) := by decide +kernel
theorem dX12_add_19 : decode cX12_add 19 = .ok (.iconst 0, 1) := by decide +kernel
theorem dX12_add_20 : decode cX12_add 20 = .ok (.putfield 97, 3) := by decide +kernel
theorem dX12_add_23 : decode cX12_add 23 = .ok (.aload_n 0, 1) := by decide +kernel
theorem dX12_add_24 : decode cX12_add 24 = .ok (.iload_n 1, 1) := by decide +kernel
theorem dX12_add_25 : decode cX12_add 25 = .ok (.invokestatic 121, 3) := by decide +kernel
theorem dX12_add_28 : decode cX12_add 28 = .ok (.lconst 1, 1) := by decide +kernel
theorem dX12_add_29 : decode cX12_add 29 = .ok (.invokevirtual 127, 3) := by decide +kernel
theorem dX12_add_32 : decode cX12_add 32 = .ok (.aload_n 0, 1) := by decide +kernel
theorem dX12_add_33 : decode cX12_add 33 = .ok (.iload_n 2, 1) := by decide +kernel
theorem dX12_add_34 : decode cX12_add 34 = .ok (.bipush 20, 2) := by decide +kernel
theorem dX12_add_36 : decode cX12_add 36 = .ok (.ishl, 1) := by decide +kernel
theorem dX12_add_37 : decode cX12_add 37 = .ok (.iload_n 3, 1) := by decide +kernel
theorem dX12_add_38 : decode cX12_add 38 = .ok (.i2l, 1) := by decide +kernel
theorem dX12_add_39 : decode cX12_add 39 = .ok (.invokevirtual 110, 3) := by decide +kernel
theorem dX12_add_42 : decode cX12_add 42 = .ok (.aload_n 0, 1) := by decide +kernel
theorem dX12_add_43 : decode cX12_add 43 = .ok (.iload_n 1, 1) := by decide +kernel
theorem dX12_add_44 : decode cX12_add 44 = .ok (.invokestatic 121, 3) := by decide +kernel
theorem dX12_add_47 : decode cX12_add 47 = .ok (.invokevirtual 130, 3) := by decide +kernel
theorem dX12_add_50 : decode cX12_add 50 = .ok (.ireturn, 1) := by decide +kernel
theorem dX12_take_0 : decode cX12_take 0 = .ok (.iload_n 1, 1) := by decide +kernel
theorem dX12_take_1 : decode cX12_take 1 = .ok (.invokestatic 118, 3) := by decide +kernel
theorem dX12_take_4 : decode cX12_take 4 = .ok (.ifCond .eq 10, 3) := by decide +kernel
theorem dX12_take_7 : decode cX12_take 7 = .ok (.iload_n 2, 1) := by decide +kernel
theorem dX12_take_8 : decode cX12_take 8 = .ok (.invokestatic 118, 3) := by decide +kernel
theorem dX12_take_11 : decode cX12_take 11 = .ok (.ifCond .ne 6, 3) := by decide +kernel
theorem dX12_take_14 : decode cX12_take 14 = .ok (.ldc 89, 2) := by decide +kernel
theorem dX12_take_16 : decode cX12_take 16 = .ok (.ireturn, 1) := by decide +kernel
theorem dX12_take_17 : decode cX12_take 17 = .ok (.aload_n 0, 1) := by decide +kernel
theorem dX12_take_18 : decode cX12_take 18 = .ok (.iload_n 1, 1) := by decide +kernel
theorem dX12_take_19 : decode cX12_take 19 = .ok (.invokestatic 121, 3) := by decide +kernel
theorem dX12_take_22 : decode cX12_take 22 = .ok (.iload_n 2, 1) := by decide +kernel
theorem dX12_take_23 : decode cX12_take 23 = .ok (.invokestatic 121, 3) := by decide +kernel
theorem dX12_take_26 : decode cX12_take 26 = .ok (.invokevirtual 133, 3) := by decide +kernel
theorem dX12_take_29 : decode cX12_take 29 = .ok (.aload_n 0, 1) := by decide +kernel
theorem dX12_take_30 : decode cX12_take 30 = .ok (.getfield 22, 3) := by decide +kernel
theorem dX12_take_33 : decode cX12_take 33 = .ok (.iload_n 1, 1) := by decide +kernel
theorem dX12_take_34 : decode cX12_take 34 = .ok (.invokestatic 121, 3) := by decide +kernel
theorem dX12_take_37 : decode cX12_take 37 = .ok (.iaload, 1) := by decide +kernel
theorem dX12_take_38 : decode cX12_take 38 = .ok (.ireturn, 1) := by decide +kernel
theorem dX12_join_0 : decode cX12_join 0 = .ok (.iload_n 1, 1) := by decide +kernel
theorem dX12_join_1 : decode cX12_join 1 = .ok (.invokestatic 118, 3) := by decide +kernel
theorem dX12_join_4 : decode cX12_join 4 = .ok (.ifCond .eq 24, 3) := by decide +kernel
theorem dX12_join_7 : decode cX12_join 7 = .ok (.iload_n 2, 1) := by decide +kernel
theorem dX12_join_8 : decode cX12_join 8 = .ok (.invokestatic 118, 3) := by decide +kernel
theorem dX12_join_11 : decode cX12_join 11 = .ok (.ifCond .eq 17, 3) := by decide +kernel
theorem dX12_join_14 : decode cX12_join 14 = .ok (.iload_n 3, 1) := by decide +kernel
theorem dX12_join_15 : decode cX12_join 15 = .ok (.i2l, 1) := by decide +kernel
theorem dX12_join_16 : decode cX12_join 16 = .ok (.ldc2_w 137, 3) := by decide +kernel
theorem dX12_join_19 : decode cX12_join 19 = .ok (.ldc2_w 139, 3) := by decide +kernel
theorem dX12_join_22 : decode cX12_join 22 = .ok (.invokestatic 79, 3) := by decide +kernel
theorem dX12_join_25 : decode cX12_join 25 = .ok (.ifCond .ne 6, 3) := by decide +kernel
theorem dX12_join_28 : decode cX12_join 28 = .ok (.ldc 89, 2) := by decide +kernel
theorem dX12_join_30 : decode cX12_join 30 = .ok (.ireturn, 1) := by decide +kernel
theorem dX12_join_31 : decode cX12_join 31 = .ok (.aload_n 0, 1) := by decide +kernel
theorem dX12_join_32 : decode cX12_join 32 = .ok (.iload_n 1, 1) := by decide +kernel
theorem dX12_join_33 : decode cX12_join 33 = .ok (.invokestatic 121, 3) := by decide +kernel
theorem dX12_join_36 : decode cX12_join 36 = .ok (.iload_n 2, 1) := by decide +kernel
theorem dX12_join_37 : decode cX12_join 37 = .ok (.invokestatic 121, 3) := by decide +kernel
theorem dX12_join_40 : decode cX12_join 40 = .ok (.iload_n 3, 1) := by decide +kernel
theorem dX12_join_41 : decode cX12_join 41 = .ok (.invokevirtual 141, 3) := by decide +kernel
theorem dX12_join_44 : decode cX12_join 44 = .ok (.ifCond .eq 15, 3) := by decide +kernel
theorem dX12_join_47 : decode cX12_join 47 = .ok (.aload_n 0, 1) := by decide +kernel
theorem dX12_join_48 : decode cX12_join 48 = .ok (.getfield 22, 3) := by decide +kernel
theorem dX12_join_51 : decode cX12_join 51 = .ok (.iload_n 1, 1) := by decide +kernel
theorem dX12_join_52 : decode cX12_join 52 = .ok (.invokestatic 121, 3) := by decide +kernel
theorem dX12_join_55 : decode cX12_join 55 = .ok (.iaload, 1) := by decide +kernel
theorem dX12_join_56 : decode cX12_join 56 = .ok (.goto 5, 3) := by decide +kernel
theorem dX12_join_59 : decode cX12_join 59 = .ok (.ldc 117, 2) := by decide +kernel
theorem dX12_join_61 : decode cX12_join 61 = .ok (.ireturn, 1) := by decide +kernel
theorem dX12_joined_0 : decode cX12_joined 0 = .ok (.aload_n 0, 1) := by decide +kernel
theorem dX12_joined_1 : decode cX12_joined 1 = .ok (.iconst 0, 1) := by decide +kernel
theorem dX12_joined_2 : decode cX12_joined 2 = .ok (.putfield 97, 3) := by decide +kernel
theorem dX12_joined_5 : decode cX12_joined 5 = .ok (.aload_n 0, 1) := by decide +kernel
theorem dX12_joined_6 : decode cX12_joined 6 = .ok (.iload_n 1, 1) := by decide +kernel
theorem dX12_joined_7 : decode cX12_joined 7 = .ok (.lconst 1, 1) := by decide +kernel
theorem dX12_joined_8 : decode cX12_joined 8 = .ok (.invokevirtual 127, 3) := by decide +kernel
theorem dX12_joined_11 : decode cX12_joined 11 = .ok (.aload_n 0, 1) := by decide +kernel
theorem dX12_joined_12 : decode cX12_joined 12 = .ok (.iload_n 2, 1) := by decide +kernel
theorem dX12_joined_13 : decode cX12_joined 13 = .ok (.iload_n 3, 1) := by decide +kernel
theorem dX12_joined_14 : decode cX12_joined 14 = .ok (.i2l, 1) := by decide +kernel
theorem dX12_joined_15 : decode cX12_joined 15 = .ok (.invokevirtual 127, 3) := by decide +kernel
theorem dX12_joined_18 : decode cX12_joined 18 = .ok (.aload_n 0, 1) := by decide +kernel
theorem dX12_joined_19 : decode cX12_joined 19 = .ok (.iload_n 1, 1) := by decide +kernel
theorem dX12_joined_20 : decode cX12_joined 20 = .ok (.invokevirtual 114, 3) := by decide +kernel
theorem dX12_joined_23 : decode cX12_joined 23 = .ok (.ireturn, 1) := by decide +kernel
theorem dX12_fits_0 : decode cX12_fits 0 = .ok (.iconst 0, 1) := by decide +kernel
theorem dX12_fits_1 : decode cX12_fits 1 = .ok (.istore_n 3, 1) := by decide +kernel
theorem dX12_fits_2 : decode cX12_fits 2 = .ok (.iconst 0, 1) := by decide +kernel
theorem dX12_fits_3 : decode cX12_fits 3 = .ok (.istore 4, 2) := by decide +kernel
theorem dX12_fits_5 : decode cX12_fits 5 = .ok (.iload 4, 2) := by decide +kernel
theorem dX12_fits_7 : decode cX12_fits 7 = .ok (.aload_n 0, 1) := by decide +kernel
theorem dX12_fits_8 : decode cX12_fits 8 = .ok (.getfield 67, 3) := by decide +kernel
theorem dX12_fits_11 : decode cX12_fits 11 = .ok (.if_icmp .ge 54, 3) := by decide +kernel
theorem dX12_fits_14 : decode cX12_fits 14 = .ok (.iload_n 1, 1) := by decide +kernel
theorem dX12_fits_15 : decode cX12_fits 15 = .ok (.iconst 2, 1) := by decide +kernel
theorem dX12_fits_16 : decode cX12_fits 16 = .ok (.iload 4, 2) := by decide +kernel
theorem dX12_fits_18 : decode cX12_fits 18 = .ok (.imul, 1) := by decide +kernel
theorem dX12_fits_19 : decode cX12_fits 19 = .ok (.ishr, 1) := by decide +kernel
theorem dX12_fits_20 : decode cX12_fits 20 = .ok (.iconst 3, 1) := by decide +kernel
theorem dX12_fits_21 : decode cX12_fits 21 = .ok (.iand, 1) := by decide +kernel
theorem dX12_fits_22 : decode cX12_fits 22 = .ok (.istore 5, 2) := by decide +kernel
theorem dX12_fits_24 : decode cX12_fits 24 = .ok (.iload_n 2, 1) := by decide +kernel
theorem dX12_fits_25 : decode cX12_fits 25 = .ok (.iconst 2, 1) := by decide +kernel
theorem dX12_fits_26 : decode cX12_fits 26 = .ok (.iload 4, 2) := by decide +kernel
theorem dX12_fits_28 : decode cX12_fits 28 = .ok (.imul, 1) := by decide +kernel
theorem dX12_fits_29 : decode cX12_fits 29 = .ok (.ishr, 1) := by decide +kernel
theorem dX12_fits_30 : decode cX12_fits 30 = .ok (.iconst 3, 1) := by decide +kernel
theorem dX12_fits_31 : decode cX12_fits 31 = .ok (.iand, 1) := by decide +kernel
theorem dX12_fits_32 : decode cX12_fits 32 = .ok (.istore 6, 2) := by decide +kernel
theorem dX12_fits_34 : decode cX12_fits 34 = .ok (.iload_n 3, 1) := by decide +kernel
theorem dX12_fits_35 : decode cX12_fits 35 = .ok (.iload 5, 2) := by decide +kernel
theorem dX12_fits_37 : decode cX12_fits 37 = .ok (.ifCond .eq 19, 3) := by decide +kernel
theorem dX12_fits_40 : decode cX12_fits 40 = .ok (.iload 6, 2) := by decide +kernel
theorem dX12_fits_42 : decode cX12_fits 42 = .ok (.ifCond .eq 14, 3) := by decide +kernel
theorem dX12_fits_45 : decode cX12_fits 45 = .ok (.iload 5, 2) := by decide +kernel
theorem dX12_fits_47 : decode cX12_fits 47 = .ok (.iload 6, 2) := by decide +kernel
theorem dX12_fits_49 : decode cX12_fits 49 = .ok (.if_icmp .eq 7, 3) := by decide +kernel
theorem dX12_fits_52 : decode cX12_fits 52 = .ok (.iconst 1, 1) := by decide +kernel
theorem dX12_fits_53 : decode cX12_fits 53 = .ok (.goto 4, 3) := by decide +kernel
theorem dX12_fits_56 : decode cX12_fits 56 = .ok (.iconst 0, 1) := by decide +kernel
theorem dX12_fits_57 : decode cX12_fits 57 = .ok (.iadd, 1) := by decide +kernel
theorem dX12_fits_58 : decode cX12_fits 58 = .ok (.istore_n 3, 1) := by decide +kernel
theorem dX12_fits_59 : decode cX12_fits 59 = .ok (.iinc 4 1, 3) := by decide +kernel
theorem dX12_fits_62 : decode cX12_fits 62 = .ok (.goto (-57), 3) := by decide +kernel
theorem dX12_fits_65 : decode cX12_fits 65 = .ok (.iload_n 3, 1) := by decide +kernel
theorem dX12_fits_66 : decode cX12_fits 66 = .ok (.iconst 2, 1) := by decide +kernel
theorem dX12_fits_67 : decode cX12_fits 67 = .ok (.irem, 1) := by decide +kernel
theorem dX12_fits_68 : decode cX12_fits 68 = .ok (.ifCond .ne 7, 3) := by decide +kernel
theorem dX12_fits_71 : decode cX12_fits 71 = .ok (.iconst 1, 1) := by decide +kernel
theorem dX12_fits_72 : decode cX12_fits 72 = .ok (.goto 4, 3) := by decide +kernel
theorem dX12_fits_75 : decode cX12_fits 75 = .ok (.iconst 0, 1) := by decide +kernel
theorem dX12_fits_76 : decode cX12_fits 76 = .ok (.ireturn, 1) := by decide +kernel
theorem dX12_with_0 : decode cX12_with 0 = .ok (.iconst 0, 1) := by decide +kernel
theorem dX12_with_1 : decode cX12_with 1 = .ok (.istore_n 3, 1) := by decide +kernel
theorem dX12_with_2 : decode cX12_with 2 = .ok (.iconst (-1), 1) := by decide +kernel
theorem dX12_with_3 : decode cX12_with 3 = .ok (.istore 4, 2) := by decide +kernel
theorem dX12_with_5 : decode cX12_with 5 = .ok (.iconst 0, 1) := by decide +kernel
theorem dX12_with_6 : decode cX12_with 6 = .ok (.istore 5, 2) := by decide +kernel
theorem dX12_with_8 : decode cX12_with 8 = .ok (.iload 5, 2) := by decide +kernel
theorem dX12_with_10 : decode cX12_with 10 = .ok (.aload_n 0, 1) := by decide +kernel
theorem dX12_with_11 : decode cX12_with 11 = .ok (.getfield 67, 3) := by decide +kernel
theorem dX12_with_14 : decode cX12_with 14 = .ok (.if_icmp .ge 120, 3) := by decide +kernel
theorem dX12_with_17 : decode cX12_with 17 = .ok (.iload_n 1, 1) := by decide +kernel
theorem dX12_with_18 : decode cX12_with 18 = .ok (.iconst 2, 1) := by decide +kernel
theorem dX12_with_19 : decode cX12_with 19 = .ok (.iload 5, 2) := by decide +kernel
theorem dX12_with_21 : decode cX12_with 21 = .ok (.imul, 1) := by decide +kernel
theorem dX12_with_22 : decode cX12_with 22 = .ok (.ishr, 1) := by decide +kernel
theorem dX12_with_23 : decode cX12_with 23 = .ok (.iconst 3, 1) := by decide +kernel
theorem dX12_with_24 : decode cX12_with 24 = .ok (.iand, 1) := by decide +kernel
theorem dX12_with_25 : decode cX12_with 25 = .ok (.istore 6, 2) := by decide +kernel
theorem dX12_with_27 : decode cX12_with 27 = .ok (.iload_n 2, 1) := by decide +kernel
theorem dX12_with_28 : decode cX12_with 28 = .ok (.iconst 2, 1) := by decide +kernel
theorem dX12_with_29 : decode cX12_with 29 = .ok (.iload 5, 2) := by decide +kernel
theorem dX12_with_31 : decode cX12_with 31 = .ok (.imul, 1) := by decide +kernel
theorem dX12_with_32 : decode cX12_with 32 = .ok (.ishr, 1) := by decide +kernel
theorem dX12_with_33 : decode cX12_with 33 = .ok (.iconst 3, 1) := by decide +kernel
theorem dX12_with_34 : decode cX12_with 34 = .ok (.iand, 1) := by decide +kernel
theorem dX12_with_35 : decode cX12_with 35 = .ok (.istore 7, 2) := by decide +kernel
theorem dX12_with_37 : decode cX12_with 37 = .ok (.iload 6, 2) := by decide +kernel
theorem dX12_with_39 : decode cX12_with 39 = .ok (.ifCond .ne 8, 3) := by decide +kernel
theorem dX12_with_42 : decode cX12_with 42 = .ok (.iload 7, 2) := by decide +kernel
theorem dX12_with_44 : decode cX12_with 44 = .ok (.goto 32, 3) := by decide +kernel
theorem dX12_with_47 : decode cX12_with 47 = .ok (.iload 7, 2) := by decide +kernel
theorem dX12_with_49 : decode cX12_with 49 = .ok (.ifCond .ne 8, 3) := by decide +kernel
theorem dX12_with_52 : decode cX12_with 52 = .ok (.iload 6, 2) := by decide +kernel
theorem dX12_with_54 : decode cX12_with 54 = .ok (.goto 22, 3) := by decide +kernel
theorem dX12_with_57 : decode cX12_with 57 = .ok (.iload 6, 2) := by decide +kernel
theorem dX12_with_59 : decode cX12_with 59 = .ok (.iload 7, 2) := by decide +kernel
theorem dX12_with_61 : decode cX12_with 61 = .ok (.if_icmp .ne 7, 3) := by decide +kernel
theorem dX12_with_64 : decode cX12_with 64 = .ok (.iconst 0, 1) := by decide +kernel
theorem dX12_with_65 : decode cX12_with 65 = .ok (.goto 11, 3) := by decide +kernel
theorem dX12_with_68 : decode cX12_with 68 = .ok (.bipush 6, 2) := by decide +kernel
theorem dX12_with_70 : decode cX12_with 70 = .ok (.iload 6, 2) := by decide +kernel
theorem dX12_with_72 : decode cX12_with 72 = .ok (.isub, 1) := by decide +kernel
theorem dX12_with_73 : decode cX12_with 73 = .ok (.iload 7, 2) := by decide +kernel
theorem dX12_with_75 : decode cX12_with 75 = .ok (.isub, 1) := by decide +kernel
theorem dX12_with_76 : decode cX12_with 76 = .ok (.istore 8, 2) := by decide +kernel
theorem dX12_with_78 : decode cX12_with 78 = .ok (.iload_n 3, 1) := by decide +kernel
theorem dX12_with_79 : decode cX12_with 79 = .ok (.iload 8, 2) := by decide +kernel
theorem dX12_with_81 : decode cX12_with 81 = .ok (.iconst 2, 1) := by decide +kernel
theorem dX12_with_82 : decode cX12_with 82 = .ok (.iload 5, 2) := by decide +kernel
theorem dX12_with_84 : decode cX12_with 84 = .ok (.imul, 1) := by decide +kernel
theorem dX12_with_85 : decode cX12_with 85 = .ok (.ishl, 1) := by decide +kernel
theorem dX12_with_86 : decode cX12_with 86 = .ok (.ior, 1) := by decide +kernel
theorem dX12_with_87 : decode cX12_with 87 = .ok (.istore_n 3, 1) := by decide +kernel
theorem dX12_with_88 : decode cX12_with 88 = .ok (.iload 6, 2) := by decide +kernel
theorem dX12_with_90 : decode cX12_with 90 = .ok (.ifCond .eq 38, 3) := by decide +kernel
theorem dX12_with_93 : decode cX12_with 93 = .ok (.iload 7, 2) := by decide +kernel
theorem dX12_with_95 : decode cX12_with 95 = .ok (.ifCond .eq 33, 3) := by decide +kernel
theorem dX12_with_98 : decode cX12_with 98 = .ok (.iload 6, 2) := by decide +kernel
theorem dX12_with_100 : decode cX12_with 100 = .ok (.iload 7, 2) := by decide +kernel
theorem dX12_with_102 : decode cX12_with 102 = .ok (.if_icmp .eq 26, 3) := by decide +kernel
theorem dX12_with_105 : decode cX12_with 105 = .ok (.iload 4, 2) := by decide +kernel
theorem dX12_with_107 : decode cX12_with 107 = .ok (.iload 7, 2) := by decide +kernel
theorem dX12_with_109 : decode cX12_with 109 = .ok (.iload 6, 2) := by decide +kernel
theorem dX12_with_111 : decode cX12_with 111 = .ok (.isub, 1) := by decide +kernel
theorem dX12_with_112 : decode cX12_with 112 = .ok (.iconst 3, 1) := by decide +kernel
theorem dX12_with_113 : decode cX12_with 113 = .ok (.iadd, 1) := by decide +kernel
theorem dX12_with_114 : decode cX12_with 114 = .ok (.iconst 3, 1) := by decide +kernel
theorem dX12_with_115 : decode cX12_with 115 = .ok (.irem, 1) := by decide +kernel
theorem dX12_with_116 : decode cX12_with 116 = .ok (.iconst 1, 1) := by decide +kernel
theorem dX12_with_117 : decode cX12_with 117 = .ok (.if_icmp .ne 7, 3) := by decide +kernel
theorem dX12_with_120 : decode cX12_with 120 = .ok (.iconst 1, 1) := by decide +kernel
theorem dX12_with_121 : decode cX12_with 121 = .ok (.goto 4, 3) := by decide +kernel
theorem dX12_with_124 : decode cX12_with 124 = .ok (.iconst (-1), 1) := by decide +kernel
theorem dX12_with_125 : decode cX12_with 125 = .ok (.iadd, 1) := by decide +kernel
theorem dX12_with_126 : decode cX12_with 126 = .ok (.istore 4, 2) := by decide +kernel
theorem dX12_with_128 : decode cX12_with 128 = .ok (.iinc 5 1, 3) := by decide +kernel
theorem dX12_with_131 : decode cX12_with 131 = .ok (.goto (-123), 3) := by decide +kernel
theorem dX12_with_134 : decode cX12_with 134 = .ok (.aload_n 0, 1) := by decide +kernel
theorem dX12_with_135 : decode cX12_with 135 = .ok (.iload 4, 2) := by decide +kernel
theorem dX12_with_137 : decode cX12_with 137 = .ok (.iconst 4, 1) := by decide +kernel
theorem dX12_with_138 : decode cX12_with 138 = .ok (.irem, 1) := by decide +kernel
theorem dX12_with_139 : decode cX12_with 139 = .ok (.iconst 4, 1) := by decide +kernel
theorem dX12_with_140 : decode cX12_with 140 = .ok (.iadd, 1) := by decide +kernel
theorem dX12_with_141 : decode cX12_with 141 = .ok (.iconst 4, 1) := by decide +kernel
theorem dX12_with_142 : decode cX12_with 142 = .ok (.irem, 1) := by decide +kernel
theorem dX12_with_143 : decode cX12_with 143 = .ok (.ifCond .ne 7, 3) := by decide +kernel
theorem dX12_with_146 : decode cX12_with 146 = .ok (.iconst 1, 1) := by decide +kernel
theorem dX12_with_147 : decode cX12_with 147 = .ok (.goto 4, 3) := by decide +kernel
theorem dX12_with_150 : decode cX12_with 150 = .ok (.iconst (-1), 1) := by decide +kernel
theorem dX12_with_151 : decode cX12_with 151 = .ok (.putfield 145, 3) := by decide +kernel
theorem dX12_with_154 : decode cX12_with 154 = .ok (.iload_n 3, 1) := by decide +kernel
theorem dX12_with_155 : decode cX12_with 155 = .ok (.ireturn, 1) := by decide +kernel
theorem dX12_turnQuarter_0 : decode cX12_turnQuarter 0 = .ok (.aload_n 0, 1) := by decide +kernel
theorem dX12_turnQuarter_1 : decode cX12_turnQuarter 1 = .ok (.iconst 0, 1) := by decide +kernel
theorem dX12_turnQuarter_2 : decode cX12_turnQuarter 2 = .ok (.putfield 97, 3) := by decide +kernel
theorem dX12_turnQuarter_5 : decode cX12_turnQuarter 5 = .ok (.iconst 0, 1) := by decide +kernel
theorem dX12_turnQuarter_6 : decode cX12_turnQuarter 6 = .ok (.istore_n 3, 1) := by decide +kernel
theorem dX12_turnQuarter_7 : decode cX12_turnQuarter 7 = .ok (.iload_n 3, 1) := by decide +kernel
theorem dX12_turnQuarter_8 : decode cX12_turnQuarter 8 = .ok (.aload_n 0, 1) := by decide +kernel
theorem dX12_turnQuarter_9 : decode cX12_turnQuarter 9 = .ok (.getfield 22, 3) := by decide +kernel
theorem dX12_turnQuarter_12 : decode cX12_turnQuarter 12 = .ok (.bipush 8, 2) := by decide +kernel
theorem dX12_turnQuarter_14 : decode cX12_turnQuarter 14 = .ok (.iaload, 1) := by decide +kernel
theorem dX12_turnQuarter_15 : decode cX12_turnQuarter 15 = .ok (.if_icmp .ge 130, 3) := by decide +kernel
theorem dX12_turnQuarter_18 : decode cX12_turnQuarter 18 = .ok (.aload_n 0, 1) := by decide +kernel
theorem dX12_turnQuarter_19 : decode cX12_turnQuarter 19 = .ok (.getfield 25, 3) := by decide +kernel
theorem dX12_turnQuarter_22 : decode cX12_turnQuarter 22 = .ok (.sipush 2400, 3) := by decide +kernel
theorem dX12_turnQuarter_25 : decode cX12_turnQuarter 25 = .ok (.iload_n 3, 1) := by decide +kernel
theorem dX12_turnQuarter_26 : decode cX12_turnQuarter 26 = .ok (.iadd, 1) := by decide +kernel
theorem dX12_turnQuarter_27 : decode cX12_turnQuarter 27 = .ok (.iaload, 1) := by decide +kernel
theorem dX12_turnQuarter_28 : decode cX12_turnQuarter 28 = .ok (.istore 4, 2) := by decide +kernel
theorem dX12_turnQuarter_30 : decode cX12_turnQuarter 30 = .ok (.aload_n 0, 1) := by decide +kernel
theorem dX12_turnQuarter_31 : decode cX12_turnQuarter 31 = .ok (.getfield 28, 3) := by decide +kernel
theorem dX12_turnQuarter_34 : decode cX12_turnQuarter 34 = .ok (.sipush 2400, 3) := by decide +kernel
theorem dX12_turnQuarter_37 : decode cX12_turnQuarter 37 = .ok (.iload_n 3, 1) := by decide +kernel
theorem dX12_turnQuarter_38 : decode cX12_turnQuarter 38 = .ok (.iadd, 1) := by decide +kernel
theorem dX12_turnQuarter_39 : decode cX12_turnQuarter 39 = .ok (.laload, 1) := by decide +kernel
theorem dX12_turnQuarter_40 : decode cX12_turnQuarter 40 = .ok (.lstore 5, 2) := by decide +kernel
theorem dX12_turnQuarter_42 : decode cX12_turnQuarter 42 = .ok (.aload_n 0, 1) := by decide +kernel
theorem dX12_turnQuarter_43 : decode cX12_turnQuarter 43 = .ok (.iload_n 1, 1) := by decide +kernel
theorem dX12_turnQuarter_44 : decode cX12_turnQuarter 44 = .ok (.iload 4, 2) := by decide +kernel
theorem dX12_turnQuarter_46 : decode cX12_turnQuarter 46 = .ok (.invokestatic 148, 3) := by decide +kernel
theorem dX12_turnQuarter_49 : decode cX12_turnQuarter 49 = .ok (.invokevirtual 151, 3) := by decide +kernel
theorem dX12_turnQuarter_52 : decode cX12_turnQuarter 52 = .ok (.ifCond .ne 7, 3) := by decide +kernel
theorem dX12_turnQuarter_55 : decode cX12_turnQuarter 55 = .ok (.iload_n 2, 1) := by decide +kernel
theorem dX12_turnQuarter_56 : decode cX12_turnQuarter 56 = .ok (.ifCond .ne 14, 3) := by decide +kernel
theorem dX12_turnQuarter_59 : decode cX12_turnQuarter 59 = .ok (.aload_n 0, 1) := by decide +kernel
theorem dX12_turnQuarter_60 : decode cX12_turnQuarter 60 = .ok (.iload 4, 2) := by decide +kernel
theorem dX12_turnQuarter_62 : decode cX12_turnQuarter 62 = .ok (.lload 5, 2) := by decide +kernel
theorem dX12_turnQuarter_64 : decode cX12_turnQuarter 64 = .ok (.invokevirtual 110, 3) := by decide +kernel
theorem dX12_turnQuarter_67 : decode cX12_turnQuarter 67 = .ok (.goto 72, 3) := by decide +kernel
theorem dX12_turnQuarter_70 : decode cX12_turnQuarter 70 = .ok (.iload_n 2, 1) := by decide +kernel
theorem dX12_turnQuarter_71 : decode cX12_turnQuarter 71 = .ok (.iconst 2, 1) := by decide +kernel
theorem dX12_turnQuarter_72 : decode cX12_turnQuarter 72 = .ok (.if_icmp .ne 15, 3) := by decide +kernel
theorem dX12_turnQuarter_75 : decode cX12_turnQuarter 75 = .ok (.aload_n 0, 1) := by decide +kernel
theorem dX12_turnQuarter_76 : decode cX12_turnQuarter 76 = .ok (.iload 4, 2) := by decide +kernel
theorem dX12_turnQuarter_78 : decode cX12_turnQuarter 78 = .ok (.lload 5, 2) := by decide +kernel
theorem dX12_turnQuarter_80 : decode cX12_turnQuarter 80 = .ok (.lneg, 1) := by decide +kernel
theorem dX12_turnQuarter_81 : decode cX12_turnQuarter 81 = .ok (.invokevirtual 110, 3) := by decide +kernel
theorem dX12_turnQuarter_84 : decode cX12_turnQuarter 84 = .ok (.goto 55, 3) := by decide +kernel
theorem dX12_turnQuarter_87 : decode cX12_turnQuarter 87 = .ok (.aload_n 0, 1) := by decide +kernel
theorem dX12_turnQuarter_88 : decode cX12_turnQuarter 88 = .ok (.iload_n 1, 1) := by decide +kernel
theorem dX12_turnQuarter_89 : decode cX12_turnQuarter 89 = .ok (.iload 4, 2) := by decide +kernel
theorem dX12_turnQuarter_91 : decode cX12_turnQuarter 91 = .ok (.invokestatic 148, 3) := by decide +kernel
theorem dX12_turnQuarter_94 : decode cX12_turnQuarter 94 = .ok (.invokevirtual 155, 3) := by decide +kernel
theorem dX12_turnQuarter_97 : decode cX12_turnQuarter 97 = .ok (.bipush 20, 2) := by decide +kernel
theorem dX12_turnQuarter_99 : decode cX12_turnQuarter 99 = .ok (.ishl, 1) := by decide +kernel
theorem dX12_turnQuarter_100 : decode cX12_turnQuarter 100 = .ok (.iload 4, 2) := by decide +kernel
theorem dX12_turnQuarter_102 : decode cX12_turnQuarter 102 = .ok (.ldc 158, 2) := by decide +kernel
theorem dX12_turnQuarter_104 : decode cX12_turnQuarter 104 = .ok (.iand, 1) := by decide +kernel
theorem dX12_turnQuarter_105 : decode cX12_turnQuarter 105 = .ok (.ior, 1) := by decide +kernel
theorem dX12_turnQuarter_106 : decode cX12_turnQuarter 106 = .ok (.istore 7, 2) := by decide +kernel
theorem dX12_turnQuarter_108 : decode cX12_turnQuarter 108 = .ok (.aload_n 0, 1) := by decide +kernel
theorem dX12_turnQuarter_109 : decode cX12_turnQuarter 109 = .ok (.iload 7, 2) := by decide +kernel
theorem dX12_turnQuarter_111 : decode cX12_turnQuarter 111 = .ok (.iload_n 2, 1) := by decide +kernel
theorem dX12_turnQuarter_112 : decode cX12_turnQuarter 112 = .ok (.iconst 1, 1) := by decide +kernel
theorem dX12_turnQuarter_113 : decode cX12_turnQuarter 113 = .ok (.if_icmp .ne 14, 3) := by decide +kernel
theorem dX12_turnQuarter_116 : decode cX12_turnQuarter 116 = .ok (.aload_n 0, 1) := by decide +kernel
theorem dX12_turnQuarter_117 : decode cX12_turnQuarter 117 = .ok (.getfield 145, 3) := by decide +kernel
theorem dX12_turnQuarter_120 : decode cX12_turnQuarter 120 = .ok (.i2l, 1) := by decide +kernel
theorem dX12_turnQuarter_121 : decode cX12_turnQuarter 121 = .ok (.lload 5, 2) := by decide +kernel
theorem dX12_turnQuarter_123 : decode cX12_turnQuarter 123 = .ok (.lmul, 1) := by decide +kernel
theorem dX12_turnQuarter_124 : decode cX12_turnQuarter 124 = .ok (.goto 12, 3) := by decide +kernel
theorem dX12_turnQuarter_127 : decode cX12_turnQuarter 127 = .ok (.aload_n 0, 1) := by decide +kernel
theorem dX12_turnQuarter_128 : decode cX12_turnQuarter 128 = .ok (.getfield 145, 3) := by decide +kernel
theorem dX12_turnQuarter_131 : decode cX12_turnQuarter 131 = .ok (.ineg, 1) := by decide +kernel
theorem dX12_turnQuarter_132 : decode cX12_turnQuarter 132 = .ok (.i2l, 1) := by decide +kernel
theorem dX12_turnQuarter_133 : decode cX12_turnQuarter 133 = .ok (.lload 5, 2) := by decide +kernel
theorem dX12_turnQuarter_135 : decode cX12_turnQuarter 135 = .ok (.lmul, 1) := by decide +kernel
theorem dX12_turnQuarter_136 : decode cX12_turnQuarter 136 = .ok (.invokevirtual 110, 3) := by decide +kernel
theorem dX12_turnQuarter_139 : decode cX12_turnQuarter 139 = .ok (.iinc 3 1, 3) := by decide +kernel
theorem dX12_turnQuarter_142 : decode cX12_turnQuarter 142 = .ok (.goto (-135), 3) := by decide +kernel
theorem dX12_turnQuarter_145 : decode cX12_turnQuarter 145 = .ok (.aload_n 0, 1) := by decide +kernel
theorem dX12_turnQuarter_146 : decode cX12_turnQuarter 146 = .ok (.bipush 8, 2) := by decide +kernel
theorem dX12_turnQuarter_148 : decode cX12_turnQuarter 148 = .ok (.invokevirtual 114, 3) := by decide +kernel
theorem dX12_turnQuarter_151 : decode cX12_turnQuarter 151 = .ok (.istore_n 3, 1) := by decide +kernel
theorem dX12_turnQuarter_152 : decode cX12_turnQuarter 152 = .ok (.return_, 1) := by decide +kernel
theorem dX12_turnLetter_0 : decode cX12_turnLetter 0 = .ok (.aload_n 0, 1) := by decide +kernel
theorem dX12_turnLetter_1 : decode cX12_turnLetter 1 = .ok (.iconst 0, 1) := by decide +kernel
theorem dX12_turnLetter_2 : decode cX12_turnLetter 2 = .ok (.putfield 97, 3) := by decide +kernel
theorem dX12_turnLetter_5 : decode cX12_turnLetter 5 = .ok (.iconst 0, 1) := by decide +kernel
theorem dX12_turnLetter_6 : decode cX12_turnLetter 6 = .ok (.istore 4, 2) := by decide +kernel
theorem dX12_turnLetter_8 : decode cX12_turnLetter 8 = .ok (.iload 4, 2) := by decide +kernel
theorem dX12_turnLetter_10 : decode cX12_turnLetter 10 = .ok (.aload_n 0, 1) := by decide +kernel
theorem dX12_turnLetter_11 : decode cX12_turnLetter 11 = .ok (.getfield 22, 3) := by decide +kernel
theorem dX12_turnLetter_14 : decode cX12_turnLetter 14 = .ok (.bipush 8, 2) := by decide +kernel
theorem dX12_turnLetter_16 : decode cX12_turnLetter 16 = .ok (.iaload, 1) := by decide +kernel
theorem dX12_turnLetter_17 : decode cX12_turnLetter 17 = .ok (.if_icmp .ge 164, 3) := by decide +kernel
theorem dX12_turnLetter_20 : decode cX12_turnLetter 20 = .ok (.aload_n 0, 1) := by decide +kernel
theorem dX12_turnLetter_21 : decode cX12_turnLetter 21 = .ok (.getfield 25, 3) := by decide +kernel
theorem dX12_turnLetter_24 : decode cX12_turnLetter 24 = .ok (.sipush 2400, 3) := by decide +kernel
theorem dX12_turnLetter_27 : decode cX12_turnLetter 27 = .ok (.iload 4, 2) := by decide +kernel
theorem dX12_turnLetter_29 : decode cX12_turnLetter 29 = .ok (.iadd, 1) := by decide +kernel
theorem dX12_turnLetter_30 : decode cX12_turnLetter 30 = .ok (.iaload, 1) := by decide +kernel
theorem dX12_turnLetter_31 : decode cX12_turnLetter 31 = .ok (.istore 5, 2) := by decide +kernel
theorem dX12_turnLetter_33 : decode cX12_turnLetter 33 = .ok (.aload_n 0, 1) := by decide +kernel
theorem dX12_turnLetter_34 : decode cX12_turnLetter 34 = .ok (.getfield 28, 3) := by decide +kernel
theorem dX12_turnLetter_37 : decode cX12_turnLetter 37 = .ok (.sipush 2400, 3) := by decide +kernel
theorem dX12_turnLetter_40 : decode cX12_turnLetter 40 = .ok (.iload 4, 2) := by decide +kernel
theorem dX12_turnLetter_42 : decode cX12_turnLetter 42 = .ok (.iadd, 1) := by decide +kernel
theorem dX12_turnLetter_43 : decode cX12_turnLetter 43 = .ok (.laload, 1) := by decide +kernel
theorem dX12_turnLetter_44 : decode cX12_turnLetter 44 = .ok (.lstore 6, 2) := by decide +kernel
theorem dX12_turnLetter_46 : decode cX12_turnLetter 46 = .ok (.aload_n 0, 1) := by decide +kernel
theorem dX12_turnLetter_47 : decode cX12_turnLetter 47 = .ok (.iload_n 1, 1) := by decide +kernel
theorem dX12_turnLetter_48 : decode cX12_turnLetter 48 = .ok (.iload 5, 2) := by decide +kernel
theorem dX12_turnLetter_50 : decode cX12_turnLetter 50 = .ok (.invokestatic 148, 3) := by decide +kernel
theorem dX12_turnLetter_53 : decode cX12_turnLetter 53 = .ok (.invokevirtual 151, 3) := by decide +kernel
theorem dX12_turnLetter_56 : decode cX12_turnLetter 56 = .ok (.ifCond .eq 14, 3) := by decide +kernel
theorem dX12_turnLetter_59 : decode cX12_turnLetter 59 = .ok (.aload_n 0, 1) := by decide +kernel
theorem dX12_turnLetter_60 : decode cX12_turnLetter 60 = .ok (.iload 5, 2) := by decide +kernel
theorem dX12_turnLetter_62 : decode cX12_turnLetter 62 = .ok (.lload 6, 2) := by decide +kernel
theorem dX12_turnLetter_64 : decode cX12_turnLetter 64 = .ok (.invokevirtual 110, 3) := by decide +kernel
theorem dX12_turnLetter_67 : decode cX12_turnLetter 67 = .ok (.goto 108, 3) := by decide +kernel
theorem dX12_turnLetter_70 : decode cX12_turnLetter 70 = .ok (.aload_n 0, 1) := by decide +kernel
theorem dX12_turnLetter_71 : decode cX12_turnLetter 71 = .ok (.iload 5, 2) := by decide +kernel
theorem dX12_turnLetter_73 : decode cX12_turnLetter 73 = .ok (.iload_n 2, 1) := by decide +kernel
theorem dX12_turnLetter_74 : decode cX12_turnLetter 74 = .ok (.invokestatic 159, 3) := by decide +kernel
theorem dX12_turnLetter_77 : decode cX12_turnLetter 77 = .ok (.iadd, 1) := by decide +kernel
theorem dX12_turnLetter_78 : decode cX12_turnLetter 78 = .ok (.lload 6, 2) := by decide +kernel
theorem dX12_turnLetter_80 : decode cX12_turnLetter 80 = .ok (.invokevirtual 110, 3) := by decide +kernel
theorem dX12_turnLetter_83 : decode cX12_turnLetter 83 = .ok (.aload_n 0, 1) := by decide +kernel
theorem dX12_turnLetter_84 : decode cX12_turnLetter 84 = .ok (.iload_n 1, 1) := by decide +kernel
theorem dX12_turnLetter_85 : decode cX12_turnLetter 85 = .ok (.iload 5, 2) := by decide +kernel
theorem dX12_turnLetter_87 : decode cX12_turnLetter 87 = .ok (.invokestatic 148, 3) := by decide +kernel
theorem dX12_turnLetter_90 : decode cX12_turnLetter 90 = .ok (.invokevirtual 155, 3) := by decide +kernel
theorem dX12_turnLetter_93 : decode cX12_turnLetter 93 = .ok (.bipush 20, 2) := by decide +kernel
theorem dX12_turnLetter_95 : decode cX12_turnLetter 95 = .ok (.ishl, 1) := by decide +kernel
theorem dX12_turnLetter_96 : decode cX12_turnLetter 96 = .ok (.iload 5, 2) := by decide +kernel
theorem dX12_turnLetter_98 : decode cX12_turnLetter 98 = .ok (.ldc 158, 2) := by decide +kernel
theorem dX12_turnLetter_100 : decode cX12_turnLetter 100 = .ok (.iand, 1) := by decide +kernel
theorem dX12_turnLetter_101 : decode cX12_turnLetter 101 = .ok (.ior, 1) := by decide +kernel
theorem dX12_turnLetter_102 : decode cX12_turnLetter 102 = .ok (.istore 8, 2) := by decide +kernel
theorem dX12_turnLetter_104 : decode cX12_turnLetter 104 = .ok (.iload_n 3, 1) := by decide +kernel
theorem dX12_turnLetter_105 : decode cX12_turnLetter 105 = .ok (.aload_n 0, 1) := by decide +kernel
theorem dX12_turnLetter_106 : decode cX12_turnLetter 106 = .ok (.getfield 145, 3) := by decide +kernel
theorem dX12_turnLetter_109 : decode cX12_turnLetter 109 = .ok (.imul, 1) := by decide +kernel
theorem dX12_turnLetter_110 : decode cX12_turnLetter 110 = .ok (.i2l, 1) := by decide +kernel
theorem dX12_turnLetter_111 : decode cX12_turnLetter 111 = .ok (.lload 6, 2) := by decide +kernel
theorem dX12_turnLetter_113 : decode cX12_turnLetter 113 = .ok (.lmul, 1) := by decide +kernel
theorem dX12_turnLetter_114 : decode cX12_turnLetter 114 = .ok (.lstore 9, 2) := by decide +kernel
theorem dX12_turnLetter_116 : decode cX12_turnLetter 116 = .ok (.iload 5, 2) := by decide +kernel
theorem dX12_turnLetter_118 : decode cX12_turnLetter 118 = .ok (.iload_n 2, 1) := by decide +kernel
theorem dX12_turnLetter_119 : decode cX12_turnLetter 119 = .ok (.invokestatic 162, 3) := by decide +kernel
theorem dX12_turnLetter_122 : decode cX12_turnLetter 122 = .ok (.ifCond .ne 19, 3) := by decide +kernel
theorem dX12_turnLetter_125 : decode cX12_turnLetter 125 = .ok (.aload_n 0, 1) := by decide +kernel
theorem dX12_turnLetter_126 : decode cX12_turnLetter 126 = .ok (.iload 8, 2) := by decide +kernel
theorem dX12_turnLetter_128 : decode cX12_turnLetter 128 = .ok (.iload_n 2, 1) := by decide +kernel
theorem dX12_turnLetter_129 : decode cX12_turnLetter 129 = .ok (.invokestatic 165, 3) := by decide +kernel
theorem dX12_turnLetter_132 : decode cX12_turnLetter 132 = .ok (.iadd, 1) := by decide +kernel
theorem dX12_turnLetter_133 : decode cX12_turnLetter 133 = .ok (.lload 9, 2) := by decide +kernel
theorem dX12_turnLetter_135 : decode cX12_turnLetter 135 = .ok (.invokevirtual 110, 3) := by decide +kernel
theorem dX12_turnLetter_138 : decode cX12_turnLetter 138 = .ok (.goto 37, 3) := by decide +kernel
theorem dX12_turnLetter_141 : decode cX12_turnLetter 141 = .ok (.aload_n 0, 1) := by decide +kernel
theorem dX12_turnLetter_142 : decode cX12_turnLetter 142 = .ok (.iload 8, 2) := by decide +kernel
theorem dX12_turnLetter_144 : decode cX12_turnLetter 144 = .ok (.iload_n 2, 1) := by decide +kernel
theorem dX12_turnLetter_145 : decode cX12_turnLetter 145 = .ok (.invokestatic 165, 3) := by decide +kernel
theorem dX12_turnLetter_148 : decode cX12_turnLetter 148 = .ok (.isub, 1) := by decide +kernel
theorem dX12_turnLetter_149 : decode cX12_turnLetter 149 = .ok (.lload 9, 2) := by decide +kernel
theorem dX12_turnLetter_151 : decode cX12_turnLetter 151 = .ok (.invokevirtual 110, 3) := by decide +kernel
theorem dX12_turnLetter_154 : decode cX12_turnLetter 154 = .ok (.aload_n 0, 1) := by decide +kernel
theorem dX12_turnLetter_155 : decode cX12_turnLetter 155 = .ok (.iload 8, 2) := by decide +kernel
theorem dX12_turnLetter_157 : decode cX12_turnLetter 157 = .ok (.iload_n 2, 1) := by decide +kernel
theorem dX12_turnLetter_158 : decode cX12_turnLetter 158 = .ok (.invokestatic 165, 3) := by decide +kernel
theorem dX12_turnLetter_161 : decode cX12_turnLetter 161 = .ok (.isub, 1) := by decide +kernel
theorem dX12_turnLetter_162 : decode cX12_turnLetter 162 = .ok (.iconst 2, 1) := by decide +kernel
theorem dX12_turnLetter_163 : decode cX12_turnLetter 163 = .ok (.iload_n 2, 1) := by decide +kernel
theorem dX12_turnLetter_164 : decode cX12_turnLetter 164 = .ok (.invokestatic 159, 3) := by decide +kernel
theorem dX12_turnLetter_167 : decode cX12_turnLetter 167 = .ok (.imul, 1) := by decide +kernel
theorem dX12_turnLetter_168 : decode cX12_turnLetter 168 = .ok (.iadd, 1) := by decide +kernel
theorem dX12_turnLetter_169 : decode cX12_turnLetter 169 = .ok (.lload 9, 2) := by decide +kernel
theorem dX12_turnLetter_171 : decode cX12_turnLetter 171 = .ok (.lneg, 1) := by decide +kernel
theorem dX12_turnLetter_172 : decode cX12_turnLetter 172 = .ok (.invokevirtual 110, 3) := by decide +kernel
theorem dX12_turnLetter_175 : decode cX12_turnLetter 175 = .ok (.iinc 4 1, 3) := by decide +kernel
theorem dX12_turnLetter_178 : decode cX12_turnLetter 178 = .ok (.goto (-170), 3) := by decide +kernel
theorem dX12_turnLetter_181 : decode cX12_turnLetter 181 = .ok (.aload_n 0, 1) := by decide +kernel
theorem dX12_turnLetter_182 : decode cX12_turnLetter 182 = .ok (.bipush 8, 2) := by decide +kernel
theorem dX12_turnLetter_184 : decode cX12_turnLetter 184 = .ok (.invokevirtual 114, 3) := by decide +kernel
theorem dX12_turnLetter_187 : decode cX12_turnLetter 187 = .ok (.ireturn, 1) := by decide +kernel
theorem dX12_quarter_0 : decode cX12_quarter 0 = .ok (.aload_n 0, 1) := by decide +kernel
theorem dX12_quarter_1 : decode cX12_quarter 1 = .ok (.iload_n 1, 1) := by decide +kernel
theorem dX12_quarter_2 : decode cX12_quarter 2 = .ok (.invokevirtual 124, 3) := by decide +kernel
theorem dX12_quarter_5 : decode cX12_quarter 5 = .ok (.ifCond .eq 15, 3) := by decide +kernel
theorem dX12_quarter_8 : decode cX12_quarter 8 = .ok (.iload_n 2, 1) := by decide +kernel
theorem dX12_quarter_9 : decode cX12_quarter 9 = .ok (.i2l, 1) := by decide +kernel
theorem dX12_quarter_10 : decode cX12_quarter 10 = .ok (.lconst 0, 1) := by decide +kernel
theorem dX12_quarter_11 : decode cX12_quarter 11 = .ok (.ldc2_w 139, 3) := by decide +kernel
theorem dX12_quarter_14 : decode cX12_quarter 14 = .ok (.invokestatic 79, 3) := by decide +kernel
theorem dX12_quarter_17 : decode cX12_quarter 17 = .ok (.ifCond .ne 6, 3) := by decide +kernel
theorem dX12_quarter_20 : decode cX12_quarter 20 = .ok (.ldc 89, 2) := by decide +kernel
theorem dX12_quarter_22 : decode cX12_quarter 22 = .ok (.ireturn, 1) := by decide +kernel
theorem dX12_quarter_23 : decode cX12_quarter 23 = .ok (.aload_n 0, 1) := by decide +kernel
theorem dX12_quarter_24 : decode cX12_quarter 24 = .ok (.iload_n 1, 1) := by decide +kernel
theorem dX12_quarter_25 : decode cX12_quarter 25 = .ok (.iload_n 2, 1) := by decide +kernel
theorem dX12_quarter_26 : decode cX12_quarter 26 = .ok (.invokevirtual 168, 3) := by decide +kernel
theorem dX12_quarter_29 : decode cX12_quarter 29 = .ok (.aload_n 0, 1) := by decide +kernel
theorem dX12_quarter_30 : decode cX12_quarter 30 = .ok (.getfield 22, 3) := by decide +kernel
theorem dX12_quarter_33 : decode cX12_quarter 33 = .ok (.bipush 8, 2) := by decide +kernel
theorem dX12_quarter_35 : decode cX12_quarter 35 = .ok (.iaload, 1) := by decide +kernel
theorem dX12_quarter_36 : decode cX12_quarter 36 = .ok (.ireturn, 1) := by decide +kernel
theorem dX12_isWay_0 : decode cX12_isWay 0 = .ok (.iload_n 0, 1) := by decide +kernel
theorem dX12_isWay_1 : decode cX12_isWay 1 = .ok (.iconst 1, 1) := by decide +kernel
theorem dX12_isWay_2 : decode cX12_isWay 2 = .ok (.if_icmp .eq 8, 3) := by decide +kernel
theorem dX12_isWay_5 : decode cX12_isWay 5 = .ok (.iload_n 0, 1) := by decide +kernel
theorem dX12_isWay_6 : decode cX12_isWay 6 = .ok (.iconst (-1), 1) := by decide +kernel
theorem dX12_isWay_7 : decode cX12_isWay 7 = .ok (.if_icmp .ne 7, 3) := by decide +kernel
theorem dX12_isWay_10 : decode cX12_isWay 10 = .ok (.iconst 1, 1) := by decide +kernel
theorem dX12_isWay_11 : decode cX12_isWay 11 = .ok (.goto 4, 3) := by decide +kernel
theorem dX12_isWay_14 : decode cX12_isWay 14 = .ok (.iconst 0, 1) := by decide +kernel
theorem dX12_isWay_15 : decode cX12_isWay 15 = .ok (.ireturn, 1) := by decide +kernel
theorem dX12_letter_0 : decode cX12_letter 0 = .ok (.aload_n 0, 1) := by decide +kernel
theorem dX12_letter_1 : decode cX12_letter 1 = .ok (.iload_n 1, 1) := by decide +kernel
theorem dX12_letter_2 : decode cX12_letter 2 = .ok (.invokevirtual 124, 3) := by decide +kernel
theorem dX12_letter_5 : decode cX12_letter 5 = .ok (.ifCond .eq 22, 3) := by decide +kernel
theorem dX12_letter_8 : decode cX12_letter 8 = .ok (.iload_n 2, 1) := by decide +kernel
theorem dX12_letter_9 : decode cX12_letter 9 = .ok (.i2l, 1) := by decide +kernel
theorem dX12_letter_10 : decode cX12_letter 10 = .ok (.lconst 0, 1) := by decide +kernel
theorem dX12_letter_11 : decode cX12_letter 11 = .ok (.ldc2_w 139, 3) := by decide +kernel
theorem dX12_letter_14 : decode cX12_letter 14 = .ok (.invokestatic 79, 3) := by decide +kernel
theorem dX12_letter_17 : decode cX12_letter 17 = .ok (.ifCond .eq 10, 3) := by decide +kernel
theorem dX12_letter_20 : decode cX12_letter 20 = .ok (.iload_n 3, 1) := by decide +kernel
theorem dX12_letter_21 : decode cX12_letter 21 = .ok (.invokestatic 171, 3) := by decide +kernel
theorem dX12_letter_24 : decode cX12_letter 24 = .ok (.ifCond .ne 6, 3) := by decide +kernel
theorem dX12_letter_27 : decode cX12_letter 27 = .ok (.ldc 89, 2) := by decide +kernel
theorem dX12_letter_29 : decode cX12_letter 29 = .ok (.ireturn, 1) := by decide +kernel
theorem dX12_letter_30 : decode cX12_letter 30 = .ok (.aload_n 0, 1) := by decide +kernel
theorem dX12_letter_31 : decode cX12_letter 31 = .ok (.iload_n 1, 1) := by decide +kernel
theorem dX12_letter_32 : decode cX12_letter 32 = .ok (.iload_n 2, 1) := by decide +kernel
theorem dX12_letter_33 : decode cX12_letter 33 = .ok (.iload_n 3, 1) := by decide +kernel
theorem dX12_letter_34 : decode cX12_letter 34 = .ok (.invokevirtual 174, 3) := by decide +kernel
theorem dX12_letter_37 : decode cX12_letter 37 = .ok (.ifCond .eq 13, 3) := by decide +kernel
theorem dX12_letter_40 : decode cX12_letter 40 = .ok (.aload_n 0, 1) := by decide +kernel
theorem dX12_letter_41 : decode cX12_letter 41 = .ok (.getfield 22, 3) := by decide +kernel
theorem dX12_letter_44 : decode cX12_letter 44 = .ok (.bipush 8, 2) := by decide +kernel
theorem dX12_letter_46 : decode cX12_letter 46 = .ok (.iaload, 1) := by decide +kernel
theorem dX12_letter_47 : decode cX12_letter 47 = .ok (.goto 5, 3) := by decide +kernel
theorem dX12_letter_50 : decode cX12_letter 50 = .ok (.ldc 117, 2) := by decide +kernel
theorem dX12_letter_52 : decode cX12_letter 52 = .ok (.ireturn, 1) := by decide +kernel
theorem dX12_terms_0 : decode cX12_terms 0 = .ok (.iload_n 1, 1) := by decide +kernel
theorem dX12_terms_1 : decode cX12_terms 1 = .ok (.invokestatic 118, 3) := by decide +kernel
theorem dX12_terms_4 : decode cX12_terms 4 = .ok (.ifCond .eq 15, 3) := by decide +kernel
theorem dX12_terms_7 : decode cX12_terms 7 = .ok (.aload_n 0, 1) := by decide +kernel
theorem dX12_terms_8 : decode cX12_terms 8 = .ok (.getfield 22, 3) := by decide +kernel
theorem dX12_terms_11 : decode cX12_terms 11 = .ok (.iload_n 1, 1) := by decide +kernel
theorem dX12_terms_12 : decode cX12_terms 12 = .ok (.invokestatic 121, 3) := by decide +kernel
theorem dX12_terms_15 : decode cX12_terms 15 = .ok (.iaload, 1) := by decide +kernel
theorem dX12_terms_16 : decode cX12_terms 16 = .ok (.goto 5, 3) := by decide +kernel
theorem dX12_terms_19 : decode cX12_terms 19 = .ok (.ldc 89, 2) := by decide +kernel
theorem dX12_terms_21 : decode cX12_terms 21 = .ok (.ireturn, 1) := by decide +kernel
theorem dX12_isTerm_0 : decode cX12_isTerm 0 = .ok (.iload_n 1, 1) := by decide +kernel
theorem dX12_isTerm_1 : decode cX12_isTerm 1 = .ok (.invokestatic 118, 3) := by decide +kernel
theorem dX12_isTerm_4 : decode cX12_isTerm 4 = .ok (.ifCond .eq 28, 3) := by decide +kernel
theorem dX12_isTerm_7 : decode cX12_isTerm 7 = .ok (.iload_n 2, 1) := by decide +kernel
theorem dX12_isTerm_8 : decode cX12_isTerm 8 = .ok (.i2l, 1) := by decide +kernel
theorem dX12_isTerm_9 : decode cX12_isTerm 9 = .ok (.lconst 0, 1) := by decide +kernel
theorem dX12_isTerm_10 : decode cX12_isTerm 10 = .ok (.aload_n 0, 1) := by decide +kernel
theorem dX12_isTerm_11 : decode cX12_isTerm 11 = .ok (.getfield 22, 3) := by decide +kernel
theorem dX12_isTerm_14 : decode cX12_isTerm 14 = .ok (.iload_n 1, 1) := by decide +kernel
theorem dX12_isTerm_15 : decode cX12_isTerm 15 = .ok (.invokestatic 121, 3) := by decide +kernel
theorem dX12_isTerm_18 : decode cX12_isTerm 18 = .ok (.iaload, 1) := by decide +kernel
theorem dX12_isTerm_19 : decode cX12_isTerm 19 = .ok (.iconst 1, 1) := by decide +kernel
theorem dX12_isTerm_20 : decode cX12_isTerm 20 = .ok (.isub, 1) := by decide +kernel
theorem dX12_isTerm_21 : decode cX12_isTerm 21 = .ok (.i2l, 1) := by decide +kernel
theorem dX12_isTerm_22 : decode cX12_isTerm 22 = .ok (.invokestatic 79, 3) := by decide +kernel
theorem dX12_isTerm_25 : decode cX12_isTerm 25 = .ok (.ifCond .eq 7, 3) := by decide +kernel
theorem dX12_isTerm_28 : decode cX12_isTerm 28 = .ok (.iconst 1, 1) := by decide +kernel
theorem dX12_isTerm_29 : decode cX12_isTerm 29 = .ok (.goto 4, 3) := by decide +kernel
theorem dX12_isTerm_32 : decode cX12_isTerm 32 = .ok (.iconst 0, 1) := by decide +kernel
theorem dX12_isTerm_33 : decode cX12_isTerm 33 = .ok (.ireturn, 1) := by decide +kernel
theorem dX12_number_0 : decode cX12_number 0 = .ok (.aload_n 0, 1) := by decide +kernel
theorem dX12_number_1 : decode cX12_number 1 = .ok (.iload_n 1, 1) := by decide +kernel
theorem dX12_number_2 : decode cX12_number 2 = .ok (.iload_n 2, 1) := by decide +kernel
theorem dX12_number_3 : decode cX12_number 3 = .ok (.invokevirtual 177, 3) := by decide +kernel
theorem dX12_number_6 : decode cX12_number 6 = .ok (.ifCond .eq 21, 3) := by decide +kernel
theorem dX12_number_9 : decode cX12_number 9 = .ok (.aload_n 0, 1) := by decide +kernel
theorem dX12_number_10 : decode cX12_number 10 = .ok (.getfield 28, 3) := by decide +kernel
theorem dX12_number_13 : decode cX12_number 13 = .ok (.sipush 300, 3) := by decide +kernel
theorem dX12_number_16 : decode cX12_number 16 = .ok (.iload_n 1, 1) := by decide +kernel
theorem dX12_number_17 : decode cX12_number 17 = .ok (.invokestatic 121, 3) := by decide +kernel
theorem dX12_number_20 : decode cX12_number 20 = .ok (.imul, 1) := by decide +kernel
theorem dX12_number_21 : decode cX12_number 21 = .ok (.iload_n 2, 1) := by decide +kernel
theorem dX12_number_22 : decode cX12_number 22 = .ok (.iadd, 1) := by decide +kernel
theorem dX12_number_23 : decode cX12_number 23 = .ok (.laload, 1) := by decide +kernel
theorem dX12_number_24 : decode cX12_number 24 = .ok (.goto 6, 3) := by decide +kernel
theorem dX12_number_27 : decode cX12_number 27 = .ok (.ldc2_w 180, 3) := by decide +kernel
theorem dX12_number_30 : decode cX12_number 30 = .ok (.lreturn, 1) := by decide +kernel
theorem dX12_powerOf_0 : decode cX12_powerOf 0 = .ok (.iload_n 1, 1) := by decide +kernel
theorem dX12_powerOf_1 : decode cX12_powerOf 1 = .ok (.ifCond .ge 10, 3) := by decide +kernel
theorem dX12_powerOf_4 : decode cX12_powerOf 4 = .ok (.iload_n 0, 1) := by decide +kernel
theorem dX12_powerOf_5 : decode cX12_powerOf 5 = .ok (.invokestatic 148, 3) := by decide +kernel
theorem dX12_powerOf_8 : decode cX12_powerOf 8 = .ok (.goto 26, 3) := by decide +kernel
theorem dX12_powerOf_11 : decode cX12_powerOf 11 = .ok (.iload_n 1, 1) := by decide +kernel
theorem dX12_powerOf_12 : decode cX12_powerOf 12 = .ok (.iconst 2, 1) := by decide +kernel
theorem dX12_powerOf_13 : decode cX12_powerOf 13 = .ok (.irem, 1) := by decide +kernel
theorem dX12_powerOf_14 : decode cX12_powerOf 14 = .ok (.ifCond .ne 13, 3) := by decide +kernel
theorem dX12_powerOf_17 : decode cX12_powerOf 17 = .ok (.iload_n 0, 1) := by decide +kernel
theorem dX12_powerOf_18 : decode cX12_powerOf 18 = .ok (.iload_n 1, 1) := by decide +kernel
theorem dX12_powerOf_19 : decode cX12_powerOf 19 = .ok (.iconst 2, 1) := by decide +kernel
theorem dX12_powerOf_20 : decode cX12_powerOf 20 = .ok (.idiv, 1) := by decide +kernel
theorem dX12_powerOf_21 : decode cX12_powerOf 21 = .ok (.invokestatic 106, 3) := by decide +kernel
theorem dX12_powerOf_24 : decode cX12_powerOf 24 = .ok (.goto 10, 3) := by decide +kernel
theorem dX12_powerOf_27 : decode cX12_powerOf 27 = .ok (.iload_n 0, 1) := by decide +kernel
theorem dX12_powerOf_28 : decode cX12_powerOf 28 = .ok (.iload_n 1, 1) := by decide +kernel
theorem dX12_powerOf_29 : decode cX12_powerOf 29 = .ok (.iconst 2, 1) := by decide +kernel
theorem dX12_powerOf_30 : decode cX12_powerOf 30 = .ok (.idiv, 1) := by decide +kernel
theorem dX12_powerOf_31 : decode cX12_powerOf 31 = .ok (.invokestatic 162, 3) := by decide +kernel
theorem dX12_powerOf_34 : decode cX12_powerOf 34 = .ok (.ireturn, 1) := by decide +kernel
theorem dX12_power_0 : decode cX12_power 0 = .ok (.aload_n 0, 1) := by decide +kernel
theorem dX12_power_1 : decode cX12_power 1 = .ok (.iload_n 1, 1) := by decide +kernel
theorem dX12_power_2 : decode cX12_power 2 = .ok (.iload_n 2, 1) := by decide +kernel
theorem dX12_power_3 : decode cX12_power 3 = .ok (.invokevirtual 177, 3) := by decide +kernel
theorem dX12_power_6 : decode cX12_power 6 = .ok (.ifCond .eq 39, 3) := by decide +kernel
theorem dX12_power_9 : decode cX12_power 9 = .ok (.iload_n 3, 1) := by decide +kernel
theorem dX12_power_10 : decode cX12_power 10 = .ok (.i2l, 1) := by decide +kernel
theorem dX12_power_11 : decode cX12_power 11 = .ok (.ldc2_w 100, 3) := by decide +kernel
theorem dX12_power_14 : decode cX12_power 14 = .ok (.ldc2_w 77, 3) := by decide +kernel
theorem dX12_power_17 : decode cX12_power 17 = .ok (.invokestatic 79, 3) := by decide +kernel
theorem dX12_power_20 : decode cX12_power 20 = .ok (.ifCond .eq 25, 3) := by decide +kernel
theorem dX12_power_23 : decode cX12_power 23 = .ok (.aload_n 0, 1) := by decide +kernel
theorem dX12_power_24 : decode cX12_power 24 = .ok (.getfield 25, 3) := by decide +kernel
theorem dX12_power_27 : decode cX12_power 27 = .ok (.sipush 300, 3) := by decide +kernel
theorem dX12_power_30 : decode cX12_power 30 = .ok (.iload_n 1, 1) := by decide +kernel
theorem dX12_power_31 : decode cX12_power 31 = .ok (.invokestatic 121, 3) := by decide +kernel
theorem dX12_power_34 : decode cX12_power 34 = .ok (.imul, 1) := by decide +kernel
theorem dX12_power_35 : decode cX12_power 35 = .ok (.iload_n 2, 1) := by decide +kernel
theorem dX12_power_36 : decode cX12_power 36 = .ok (.iadd, 1) := by decide +kernel
theorem dX12_power_37 : decode cX12_power 37 = .ok (.iaload, 1) := by decide +kernel
theorem dX12_power_38 : decode cX12_power 38 = .ok (.iload_n 3, 1) := by decide +kernel
theorem dX12_power_39 : decode cX12_power 39 = .ok (.invokestatic 182, 3) := by decide +kernel
theorem dX12_power_42 : decode cX12_power 42 = .ok (.goto 5, 3) := by decide +kernel
theorem dX12_power_45 : decode cX12_power 45 = .ok (.ldc 89, 2) := by decide +kernel
theorem dX12_power_47 : decode cX12_power 47 = .ok (.ireturn, 1) := by decide +kernel
theorem dX12_same_0 : decode cX12_same 0 = .ok (.iload_n 1, 1) := by decide +kernel
theorem dX12_same_1 : decode cX12_same 1 = .ok (.invokestatic 118, 3) := by decide +kernel
theorem dX12_same_4 : decode cX12_same 4 = .ok (.ifCond .eq 10, 3) := by decide +kernel
theorem dX12_same_7 : decode cX12_same 7 = .ok (.iload_n 2, 1) := by decide +kernel
theorem dX12_same_8 : decode cX12_same 8 = .ok (.invokestatic 118, 3) := by decide +kernel
theorem dX12_same_11 : decode cX12_same 11 = .ok (.ifCond .ne 6, 3) := by decide +kernel
theorem dX12_same_14 : decode cX12_same 14 = .ok (.ldc 89, 2) := by decide +kernel
theorem dX12_same_16 : decode cX12_same 16 = .ok (.ireturn, 1) := by decide +kernel
theorem dX12_same_17 : decode cX12_same 17 = .ok (.iload_n 1, 1) := by decide +kernel
theorem dX12_same_18 : decode cX12_same 18 = .ok (.invokestatic 121, 3) := by decide +kernel
theorem dX12_same_21 : decode cX12_same 21 = .ok (.istore_n 3, 1) := by decide +kernel
theorem dX12_same_22 : decode cX12_same 22 = .ok (.iload_n 2, 1) := by decide +kernel
theorem dX12_same_23 : decode cX12_same 23 = .ok (.invokestatic 121, 3) := by decide +kernel
theorem dX12_same_26 : decode cX12_same 26 = .ok (.istore 4, 2) := by decide +kernel
theorem dX12_same_28 : decode cX12_same 28 = .ok (.aload_n 0, 1) := by decide +kernel
theorem dX12_same_29 : decode cX12_same 29 = .ok (.getfield 22, 3) := by decide +kernel
theorem dX12_same_32 : decode cX12_same 32 = .ok (.iload_n 3, 1) := by decide +kernel
theorem dX12_same_33 : decode cX12_same 33 = .ok (.iaload, 1) := by decide +kernel
theorem dX12_same_34 : decode cX12_same 34 = .ok (.aload_n 0, 1) := by decide +kernel
theorem dX12_same_35 : decode cX12_same 35 = .ok (.getfield 22, 3) := by decide +kernel
theorem dX12_same_38 : decode cX12_same 38 = .ok (.iload 4, 2) := by decide +kernel
theorem dX12_same_40 : decode cX12_same 40 = .ok (.iaload, 1) := by decide +kernel
theorem dX12_same_41 : decode cX12_same 41 = .ok (.if_icmp .ne 7, 3) := by decide +kernel
theorem dX12_same_44 : decode cX12_same 44 = .ok (.iconst 1, 1) := by decide +kernel
theorem dX12_same_45 : decode cX12_same 45 = .ok (.goto 4, 3) := by decide +kernel
theorem dX12_same_48 : decode cX12_same 48 = .ok (.iconst 0, 1) := by decide +kernel
theorem dX12_same_49 : decode cX12_same 49 = .ok (.istore 5, 2) := by decide +kernel
theorem dX12_same_51 : decode cX12_same 51 = .ok (.iconst 0, 1) := by decide +kernel
theorem dX12_same_52 : decode cX12_same 52 = .ok (.istore 6, 2) := by decide +kernel
theorem dX12_same_54 : decode cX12_same 54 = .ok (.iload 6, 2) := by decide +kernel
theorem dX12_same_56 : decode cX12_same 56 = .ok (.aload_n 0, 1) := by decide +kernel
theorem dX12_same_57 : decode cX12_same 57 = .ok (.getfield 22, 3) := by decide +kernel
theorem dX12_same_60 : decode cX12_same 60 = .ok (.iload_n 3, 1) := by decide +kernel
theorem dX12_same_61 : decode cX12_same 61 = .ok (.iaload, 1) := by decide +kernel
theorem dX12_same_62 : decode cX12_same 62 = .ok (.if_icmp .ge 82, 3) := by decide +kernel
theorem dX12_same_65 : decode cX12_same 65 = .ok (.iload 5, 2) := by decide +kernel
theorem dX12_same_67 : decode cX12_same 67 = .ok (.ifCond .eq 77, 3) := by decide +kernel
theorem dX12_same_70 : decode cX12_same 70 = .ok (.aload_n 0, 1) := by decide +kernel
theorem dX12_same_71 : decode cX12_same 71 = .ok (.getfield 25, 3) := by decide +kernel
theorem dX12_same_74 : decode cX12_same 74 = .ok (.sipush 300, 3) := by decide +kernel
theorem dX12_same_77 : decode cX12_same 77 = .ok (.iload_n 3, 1) := by decide +kernel
theorem dX12_same_78 : decode cX12_same 78 = .ok (.imul, 1) := by decide +kernel
theorem dX12_same_79 : decode cX12_same 79 = .ok (.iload 6, 2) := by decide +kernel
theorem dX12_same_81 : decode cX12_same 81 = .ok (.iadd, 1) := by decide +kernel
theorem dX12_same_82 : decode cX12_same 82 = .ok (.iaload, 1) := by decide +kernel
theorem dX12_same_83 : decode cX12_same 83 = .ok (.aload_n 0, 1) := by decide +kernel
theorem dX12_same_84 : decode cX12_same 84 = .ok (.getfield 25, 3) := by decide +kernel
theorem dX12_same_87 : decode cX12_same 87 = .ok (.sipush 300, 3) := by decide +kernel
theorem dX12_same_90 : decode cX12_same 90 = .ok (.iload 4, 2) := by decide +kernel
theorem dX12_same_92 : decode cX12_same 92 = .ok (.imul, 1) := by decide +kernel
theorem dX12_same_93 : decode cX12_same 93 = .ok (.iload 6, 2) := by decide +kernel
theorem dX12_same_95 : decode cX12_same 95 = .ok (.iadd, 1) := by decide +kernel
theorem dX12_same_96 : decode cX12_same 96 = .ok (.iaload, 1) := by decide +kernel
theorem dX12_same_97 : decode cX12_same 97 = .ok (.if_icmp .ne 38, 3) := by decide +kernel
theorem dX12_same_100 : decode cX12_same 100 = .ok (.aload_n 0, 1) := by decide +kernel
theorem dX12_same_101 : decode cX12_same 101 = .ok (.getfield 28, 3) := by decide +kernel
theorem dX12_same_104 : decode cX12_same 104 = .ok (.sipush 300, 3) := by decide +kernel
theorem dX12_same_107 : decode cX12_same 107 = .ok (.iload_n 3, 1) := by decide +kernel
theorem dX12_same_108 : decode cX12_same 108 = .ok (.imul, 1) := by decide +kernel
theorem dX12_same_109 : decode cX12_same 109 = .ok (.iload 6, 2) := by decide +kernel
theorem dX12_same_111 : decode cX12_same 111 = .ok (.iadd, 1) := by decide +kernel
theorem dX12_same_112 : decode cX12_same 112 = .ok (.laload, 1) := by decide +kernel
theorem dX12_same_113 : decode cX12_same 113 = .ok (.aload_n 0, 1) := by decide +kernel
theorem dX12_same_114 : decode cX12_same 114 = .ok (.getfield 28, 3) := by decide +kernel
theorem dX12_same_117 : decode cX12_same 117 = .ok (.sipush 300, 3) := by decide +kernel
theorem dX12_same_120 : decode cX12_same 120 = .ok (.iload 4, 2) := by decide +kernel
theorem dX12_same_122 : decode cX12_same 122 = .ok (.imul, 1) := by decide +kernel
theorem dX12_same_123 : decode cX12_same 123 = .ok (.iload 6, 2) := by decide +kernel
theorem dX12_same_125 : decode cX12_same 125 = .ok (.iadd, 1) := by decide +kernel
theorem dX12_same_126 : decode cX12_same 126 = .ok (.laload, 1) := by decide +kernel
theorem dX12_same_127 : decode cX12_same 127 = .ok (.lcmp, 1) := by decide +kernel
theorem dX12_same_128 : decode cX12_same 128 = .ok (.ifCond .ne 7, 3) := by decide +kernel
theorem dX12_same_131 : decode cX12_same 131 = .ok (.iconst 1, 1) := by decide +kernel
theorem dX12_same_132 : decode cX12_same 132 = .ok (.goto 4, 3) := by decide +kernel
theorem dX12_same_135 : decode cX12_same 135 = .ok (.iconst 0, 1) := by decide +kernel
theorem dX12_same_136 : decode cX12_same 136 = .ok (.istore 5, 2) := by decide +kernel
theorem dX12_same_138 : decode cX12_same 138 = .ok (.iinc 6 1, 3) := by decide +kernel
theorem dX12_same_141 : decode cX12_same 141 = .ok (.goto (-87), 3) := by decide +kernel
theorem dX12_same_144 : decode cX12_same 144 = .ok (.iload 5, 2) := by decide +kernel
theorem dX12_same_146 : decode cX12_same 146 = .ok (.ifCond .eq 7, 3) := by decide +kernel
theorem dX12_same_149 : decode cX12_same 149 = .ok (.iconst 1, 1) := by decide +kernel
theorem dX12_same_150 : decode cX12_same 150 = .ok (.goto 4, 3) := by decide +kernel
theorem dX12_same_153 : decode cX12_same 153 = .ok (.iconst 0, 1) := by decide +kernel
theorem dX12_same_154 : decode cX12_same 154 = .ok (.ireturn, 1) := by decide +kernel
theorem dX12_multiply_0 : decode cX12_multiply 0 = .ok (.iconst 0, 1) := by decide +kernel
theorem dX12_multiply_1 : decode cX12_multiply 1 = .ok (.istore 5, 2) := by decide +kernel
theorem dX12_multiply_3 : decode cX12_multiply 3 = .ok (.iconst 0, 1) := by decide +kernel
theorem dX12_multiply_4 : decode cX12_multiply 4 = .ok (.istore 6, 2) := by decide +kernel
theorem dX12_multiply_6 : decode cX12_multiply 6 = .ok (.iconst 0, 1) := by decide +kernel
theorem dX12_multiply_7 : decode cX12_multiply 7 = .ok (.istore 7, 2) := by decide +kernel
theorem dX12_multiply_9 : decode cX12_multiply 9 = .ok (.iload 7, 2) := by decide +kernel
theorem dX12_multiply_11 : decode cX12_multiply 11 = .ok (.iconst 4, 1) := by decide +kernel
theorem dX12_multiply_12 : decode cX12_multiply 12 = .ok (.if_icmp .ge 126, 3) := by decide +kernel
theorem dX12_multiply_15 : decode cX12_multiply 15 = .ok (.iload_n 1, 1) := by decide +kernel
theorem dX12_multiply_16 : decode cX12_multiply 16 = .ok (.iload 7, 2) := by decide +kernel
theorem dX12_multiply_18 : decode cX12_multiply 18 = .ok (.invokestatic 106, 3) := by decide +kernel
theorem dX12_multiply_21 : decode cX12_multiply 21 = .ok (.iload_n 2, 1) := by decide +kernel
theorem dX12_multiply_22 : decode cX12_multiply 22 = .ok (.iload 7, 2) := by decide +kernel
theorem dX12_multiply_24 : decode cX12_multiply 24 = .ok (.invokestatic 106, 3) := by decide +kernel
theorem dX12_multiply_27 : decode cX12_multiply 27 = .ok (.iadd, 1) := by decide +kernel
theorem dX12_multiply_28 : decode cX12_multiply 28 = .ok (.istore 8, 2) := by decide +kernel
theorem dX12_multiply_30 : decode cX12_multiply 30 = .ok (.iload_n 1, 1) := by decide +kernel
theorem dX12_multiply_31 : decode cX12_multiply 31 = .ok (.iload 7, 2) := by decide +kernel
theorem dX12_multiply_33 : decode cX12_multiply 33 = .ok (.invokestatic 162, 3) := by decide +kernel
theorem dX12_multiply_36 : decode cX12_multiply 36 = .ok (.iload_n 2, 1) := by decide +kernel
theorem dX12_multiply_37 : decode cX12_multiply 37 = .ok (.iload 7, 2) := by decide +kernel
theorem dX12_multiply_39 : decode cX12_multiply 39 = .ok (.invokestatic 162, 3) := by decide +kernel
theorem dX12_multiply_42 : decode cX12_multiply 42 = .ok (.iadd, 1) := by decide +kernel
theorem dX12_multiply_43 : decode cX12_multiply 43 = .ok (.iconst 2, 1) := by decide +kernel
theorem dX12_multiply_44 : decode cX12_multiply 44 = .ok (.if_icmp .ne 7, 3) := by decide +kernel
theorem dX12_multiply_47 : decode cX12_multiply 47 = .ok (.iconst 1, 1) := by decide +kernel
theorem dX12_multiply_48 : decode cX12_multiply 48 = .ok (.goto 4, 3) := by decide +kernel
theorem dX12_multiply_51 : decode cX12_multiply 51 = .ok (.iconst 0, 1) := by decide +kernel
theorem dX12_multiply_52 : decode cX12_multiply 52 = .ok (.istore 9, 2) := by decide +kernel
theorem dX12_multiply_54 : decode cX12_multiply 54 = .ok (.iload 8, 2) := by decide +kernel
theorem dX12_multiply_56 : decode cX12_multiply 56 = .ok (.iload 9, 2) := by decide +kernel
theorem dX12_multiply_58 : decode cX12_multiply 58 = .ok (.ifCond .eq 7, 3) := by decide +kernel
theorem dX12_multiply_61 : decode cX12_multiply 61 = .ok (.iconst 2, 1) := by decide +kernel
theorem dX12_multiply_62 : decode cX12_multiply 62 = .ok (.goto 4, 3) := by decide +kernel
theorem dX12_multiply_65 : decode cX12_multiply 65 = .ok (.iconst 0, 1) := by decide +kernel
theorem dX12_multiply_66 : decode cX12_multiply 66 = .ok (.iadd, 1) := by decide +kernel
theorem dX12_multiply_67 : decode cX12_multiply 67 = .ok (.bipush 12, 2) := by decide +kernel
theorem dX12_multiply_69 : decode cX12_multiply 69 = .ok (.if_icmp .le 5, 3) := by decide +kernel
theorem dX12_multiply_72 : decode cX12_multiply 72 = .ok (.iconst 0, 1) := by decide +kernel
theorem dX12_multiply_73 : decode cX12_multiply 73 = .ok (.ireturn, 1) := by decide +kernel
theorem dX12_multiply_74 : decode cX12_multiply 74 = .ok (.iload 5, 2) := by decide +kernel
theorem dX12_multiply_76 : decode cX12_multiply 76 = .ok (.iload 8, 2) := by decide +kernel
theorem dX12_multiply_78 : decode cX12_multiply 78 = .ok (.iload 7, 2) := by decide +kernel
theorem dX12_multiply_80 : decode cX12_multiply 80 = .ok (.invokestatic 159, 3) := by decide +kernel
theorem dX12_multiply_83 : decode cX12_multiply 83 = .ok (.imul, 1) := by decide +kernel
theorem dX12_multiply_84 : decode cX12_multiply 84 = .ok (.iload_n 1, 1) := by decide +kernel
theorem dX12_multiply_85 : decode cX12_multiply 85 = .ok (.iload 7, 2) := by decide +kernel
theorem dX12_multiply_87 : decode cX12_multiply 87 = .ok (.invokestatic 162, 3) := by decide +kernel
theorem dX12_multiply_90 : decode cX12_multiply 90 = .ok (.iload_n 2, 1) := by decide +kernel
theorem dX12_multiply_91 : decode cX12_multiply 91 = .ok (.iload 7, 2) := by decide +kernel
theorem dX12_multiply_93 : decode cX12_multiply 93 = .ok (.invokestatic 162, 3) := by decide +kernel
theorem dX12_multiply_96 : decode cX12_multiply 96 = .ok (.iadd, 1) := by decide +kernel
theorem dX12_multiply_97 : decode cX12_multiply 97 = .ok (.iconst 1, 1) := by decide +kernel
theorem dX12_multiply_98 : decode cX12_multiply 98 = .ok (.if_icmp .ne 11, 3) := by decide +kernel
theorem dX12_multiply_101 : decode cX12_multiply 101 = .ok (.iload 7, 2) := by decide +kernel
theorem dX12_multiply_103 : decode cX12_multiply 103 = .ok (.invokestatic 165, 3) := by decide +kernel
theorem dX12_multiply_106 : decode cX12_multiply 106 = .ok (.goto 4, 3) := by decide +kernel
theorem dX12_multiply_109 : decode cX12_multiply 109 = .ok (.iconst 0, 1) := by decide +kernel
theorem dX12_multiply_110 : decode cX12_multiply 110 = .ok (.iadd, 1) := by decide +kernel
theorem dX12_multiply_111 : decode cX12_multiply 111 = .ok (.iadd, 1) := by decide +kernel
theorem dX12_multiply_112 : decode cX12_multiply 112 = .ok (.istore 5, 2) := by decide +kernel
theorem dX12_multiply_114 : decode cX12_multiply 114 = .ok (.iload 6, 2) := by decide +kernel
theorem dX12_multiply_116 : decode cX12_multiply 116 = .ok (.iload 9, 2) := by decide +kernel
theorem dX12_multiply_118 : decode cX12_multiply 118 = .ok (.ifCond .eq 10, 3) := by decide +kernel
theorem dX12_multiply_121 : decode cX12_multiply 121 = .ok (.iconst 1, 1) := by decide +kernel
theorem dX12_multiply_122 : decode cX12_multiply 122 = .ok (.iload 7, 2) := by decide +kernel
theorem dX12_multiply_124 : decode cX12_multiply 124 = .ok (.ishl, 1) := by decide +kernel
theorem dX12_multiply_125 : decode cX12_multiply 125 = .ok (.goto 4, 3) := by decide +kernel
theorem dX12_multiply_128 : decode cX12_multiply 128 = .ok (.iconst 0, 1) := by decide +kernel
theorem dX12_multiply_129 : decode cX12_multiply 129 = .ok (.ior, 1) := by decide +kernel
theorem dX12_multiply_130 : decode cX12_multiply 130 = .ok (.istore 6, 2) := by decide +kernel
theorem dX12_multiply_132 : decode cX12_multiply 132 = .ok (.iinc 7 1, 3) := by decide +kernel
theorem dX12_multiply_135 : decode cX12_multiply 135 = .ok (.goto (-126), 3) := by decide +kernel
theorem dX12_multiply_138 : decode cX12_multiply 138 = .ok (.iconst 0, 1) := by decide +kernel
theorem dX12_multiply_139 : decode cX12_multiply 139 = .ok (.istore 7, 2) := by decide +kernel
theorem dX12_multiply_141 : decode cX12_multiply 141 = .ok (.iload 7, 2) := by decide +kernel
theorem dX12_multiply_143 : decode cX12_multiply 143 = .ok (.bipush 16, 2) := by decide +kernel
theorem dX12_multiply_145 : decode cX12_multiply 145 = .ok (.if_icmp .ge 89, 3) := by decide +kernel
theorem dX12_multiply_148 : decode cX12_multiply 148 = .ok (.iload 7, 2) := by decide +kernel
theorem dX12_multiply_150 : decode cX12_multiply 150 = .ok (.iload 6, 2) := by decide +kernel
theorem dX12_multiply_152 : decode cX12_multiply 152 = .ok (.iconst (-1), 1) := by decide +kernel
theorem dX12_multiply_153 : decode cX12_multiply 153 = .ok (.ixor, 1) := by decide +kernel
theorem dX12_multiply_154 : decode cX12_multiply 154 = .ok (.iand, 1) := by decide +kernel
theorem dX12_multiply_155 : decode cX12_multiply 155 = .ok (.ifCond .ne 73, 3) := by decide +kernel
theorem dX12_multiply_158 : decode cX12_multiply 158 = .ok (.iload 5, 2) := by decide +kernel
theorem dX12_multiply_160 : decode cX12_multiply 160 = .ok (.istore 8, 2) := by decide +kernel
theorem dX12_multiply_162 : decode cX12_multiply 162 = .ok (.lload_n 3, 1) := by decide +kernel
theorem dX12_multiply_163 : decode cX12_multiply 163 = .ok (.lstore 9, 2) := by decide +kernel
theorem dX12_multiply_165 : decode cX12_multiply 165 = .ok (.iconst 0, 1) := by decide +kernel
theorem dX12_multiply_166 : decode cX12_multiply 166 = .ok (.istore 11, 2) := by decide +kernel
theorem dX12_multiply_168 : decode cX12_multiply 168 = .ok (.iload 11, 2) := by decide +kernel
theorem dX12_multiply_170 : decode cX12_multiply 170 = .ok (.iconst 4, 1) := by decide +kernel
theorem dX12_multiply_171 : decode cX12_multiply 171 = .ok (.if_icmp .ge 37, 3) := by decide +kernel
theorem dX12_multiply_174 : decode cX12_multiply 174 = .ok (.iload 7, 2) := by decide +kernel
theorem dX12_multiply_176 : decode cX12_multiply 176 = .ok (.iload 11, 2) := by decide +kernel
theorem dX12_multiply_178 : decode cX12_multiply 178 = .ok (.ishr, 1) := by decide +kernel
theorem dX12_multiply_179 : decode cX12_multiply 179 = .ok (.iconst 1, 1) := by decide +kernel
theorem dX12_multiply_180 : decode cX12_multiply 180 = .ok (.iand, 1) := by decide +kernel
theorem dX12_multiply_181 : decode cX12_multiply 181 = .ok (.iconst 1, 1) := by decide +kernel
theorem dX12_multiply_182 : decode cX12_multiply 182 = .ok (.if_icmp .ne 20, 3) := by decide +kernel
theorem dX12_multiply_185 : decode cX12_multiply 185 = .ok (.iload 8, 2) := by decide +kernel
theorem dX12_multiply_187 : decode cX12_multiply 187 = .ok (.iconst 2, 1) := by decide +kernel
theorem dX12_multiply_188 : decode cX12_multiply 188 = .ok (.iload 11, 2) := by decide +kernel
theorem dX12_multiply_190 : decode cX12_multiply 190 = .ok (.invokestatic 159, 3) := by decide +kernel
theorem dX12_multiply_193 : decode cX12_multiply 193 = .ok (.imul, 1) := by decide +kernel
theorem dX12_multiply_194 : decode cX12_multiply 194 = .ok (.iadd, 1) := by decide +kernel
theorem dX12_multiply_195 : decode cX12_multiply 195 = .ok (.istore 8, 2) := by decide +kernel
theorem dX12_multiply_197 : decode cX12_multiply 197 = .ok (.lload 9, 2) := by decide +kernel
theorem dX12_multiply_199 : decode cX12_multiply 199 = .ok (.lneg, 1) := by decide +kernel
theorem dX12_multiply_200 : decode cX12_multiply 200 = .ok (.lstore 9, 2) := by decide +kernel
theorem dX12_multiply_202 : decode cX12_multiply 202 = .ok (.iinc 11 1, 3) := by decide +kernel
theorem dX12_multiply_205 : decode cX12_multiply 205 = .ok (.goto (-37), 3) := by decide +kernel
theorem dX12_multiply_208 : decode cX12_multiply 208 = .ok (.aload_n 0, 1) := by decide +kernel
theorem dX12_multiply_209 : decode cX12_multiply 209 = .ok (.iload 8, 2) := by decide +kernel
theorem dX12_multiply_211 : decode cX12_multiply 211 = .ok (.lload 9, 2) := by decide +kernel
theorem dX12_multiply_213 : decode cX12_multiply 213 = .ok (.invokevirtual 110, 3) := by decide +kernel
theorem dX12_multiply_216 : decode cX12_multiply 216 = .ok (.aload_n 0, 1) := by decide +kernel
theorem dX12_multiply_217 : decode cX12_multiply 217 = .ok (.getfield 97, 3) := by decide +kernel
theorem dX12_multiply_220 : decode cX12_multiply 220 = .ok (.sipush 300, 3) := by decide +kernel
theorem dX12_multiply_223 : decode cX12_multiply 223 = .ok (.if_icmp .le 5, 3) := by decide +kernel
theorem dX12_multiply_226 : decode cX12_multiply 226 = .ok (.iconst 0, 1) := by decide +kernel
theorem dX12_multiply_227 : decode cX12_multiply 227 = .ok (.ireturn, 1) := by decide +kernel
theorem dX12_multiply_228 : decode cX12_multiply 228 = .ok (.iinc 7 1, 3) := by decide +kernel
theorem dX12_multiply_231 : decode cX12_multiply 231 = .ok (.goto (-90), 3) := by decide +kernel
theorem dX12_multiply_234 : decode cX12_multiply 234 = .ok (.iconst 1, 1) := by decide +kernel
theorem dX12_multiply_235 : decode cX12_multiply 235 = .ok (.ireturn, 1) := by decide +kernel
theorem dX12_product_0 : decode cX12_product 0 = .ok (.iload_n 1, 1) := by decide +kernel
theorem dX12_product_1 : decode cX12_product 1 = .ok (.invokestatic 118, 3) := by decide +kernel
theorem dX12_product_4 : decode cX12_product 4 = .ok (.ifCond .eq 17, 3) := by decide +kernel
theorem dX12_product_7 : decode cX12_product 7 = .ok (.iload_n 2, 1) := by decide +kernel
theorem dX12_product_8 : decode cX12_product 8 = .ok (.invokestatic 118, 3) := by decide +kernel
theorem dX12_product_11 : decode cX12_product 11 = .ok (.ifCond .eq 10, 3) := by decide +kernel
theorem dX12_product_14 : decode cX12_product 14 = .ok (.iload_n 3, 1) := by decide +kernel
theorem dX12_product_15 : decode cX12_product 15 = .ok (.invokestatic 118, 3) := by decide +kernel
theorem dX12_product_18 : decode cX12_product 18 = .ok (.ifCond .ne 6, 3) := by decide +kernel
theorem dX12_product_21 : decode cX12_product 21 = .ok (.ldc 89, 2) := by decide +kernel
theorem dX12_product_23 : decode cX12_product 23 = .ok (.ireturn, 1) := by decide +kernel
theorem dX12_product_24 : decode cX12_product 24 = .ok (.iload_n 2, 1) := by decide +kernel
theorem dX12_product_25 : decode cX12_product 25 = .ok (.invokestatic 121, 3) := by decide +kernel
theorem dX12_product_28 : decode cX12_product 28 = .ok (.istore 4, 2) := by decide +kernel
theorem dX12_product_30 : decode cX12_product 30 = .ok (.iload_n 3, 1) := by decide +kernel
theorem dX12_product_31 : decode cX12_product 31 = .ok (.invokestatic 121, 3) := by decide +kernel
theorem dX12_product_34 : decode cX12_product 34 = .ok (.istore 5, 2) := by decide +kernel
theorem dX12_product_36 : decode cX12_product 36 = .ok (.aload_n 0, 1) := by decide +kernel
theorem dX12_product_37 : decode cX12_product 37 = .ok (.iconst 0, 1) := by decide +kernel
theorem dX12_product_38 : decode cX12_product 38 = .ok (.putfield 97, 3) := by decide +kernel
theorem dX12_product_41 : decode cX12_product 41 = .ok (.iconst 0, 1) := by decide +kernel
theorem dX12_product_42 : decode cX12_product 42 = .ok (.istore 6, 2) := by decide +kernel
theorem dX12_product_44 : decode cX12_product 44 = .ok (.iload 6, 2) := by decide +kernel
theorem dX12_product_46 : decode cX12_product 46 = .ok (.aload_n 0, 1) := by decide +kernel
theorem dX12_product_47 : decode cX12_product 47 = .ok (.getfield 22, 3) := by decide +kernel
theorem dX12_product_50 : decode cX12_product 50 = .ok (.iload 4, 2) := by decide +kernel
theorem dX12_product_52 : decode cX12_product 52 = .ok (.iaload, 1) := by decide +kernel
theorem dX12_product_53 : decode cX12_product 53 = .ok (.if_icmp .ge 166, 3) := by decide +kernel
theorem dX12_product_56 : decode cX12_product 56 = .ok (.iconst 0, 1) := by decide +kernel
theorem dX12_product_57 : decode cX12_product 57 = .ok (.istore 7, 2) := by decide +kernel
theorem dX12_product_59 : decode cX12_product 59 = .ok (.iload 7, 2) := by decide +kernel
theorem dX12_product_61 : decode cX12_product 61 = .ok (.aload_n 0, 1) := by decide +kernel
theorem dX12_product_62 : decode cX12_product 62 = .ok (.getfield 22, 3) := by decide +kernel
theorem dX12_product_65 : decode cX12_product 65 = .ok (.iload 5, 2) := by decide +kernel
theorem dX12_product_67 : decode cX12_product 67 = .ok (.iaload, 1) := by decide +kernel
theorem dX12_product_68 : decode cX12_product 68 = .ok (.if_icmp .ge 145, 3) := by decide +kernel
theorem dX12_product_71 : decode cX12_product 71 = .ok (.aload_n 0, 1) := by decide +kernel
theorem dX12_product_72 : decode cX12_product 72 = .ok (.getfield 25, 3) := by decide +kernel
theorem dX12_product_75 : decode cX12_product 75 = .ok (.sipush 300, 3) := by decide +kernel
theorem dX12_product_78 : decode cX12_product 78 = .ok (.iload 4, 2) := by decide +kernel
theorem dX12_product_80 : decode cX12_product 80 = .ok (.imul, 1) := by decide +kernel
theorem dX12_product_81 : decode cX12_product 81 = .ok (.iload 6, 2) := by decide +kernel
theorem dX12_product_83 : decode cX12_product 83 = .ok (.iadd, 1) := by decide +kernel
theorem dX12_product_84 : decode cX12_product 84 = .ok (.iaload, 1) := by decide +kernel
theorem dX12_product_85 : decode cX12_product 85 = .ok (.istore 8, 2) := by decide +kernel
theorem dX12_product_87 : decode cX12_product 87 = .ok (.aload_n 0, 1) := by decide +kernel
theorem dX12_product_88 : decode cX12_product 88 = .ok (.getfield 25, 3) := by decide +kernel
theorem dX12_product_91 : decode cX12_product 91 = .ok (.sipush 300, 3) := by decide +kernel
theorem dX12_product_94 : decode cX12_product 94 = .ok (.iload 5, 2) := by decide +kernel
theorem dX12_product_96 : decode cX12_product 96 = .ok (.imul, 1) := by decide +kernel
theorem dX12_product_97 : decode cX12_product 97 = .ok (.iload 7, 2) := by decide +kernel
theorem dX12_product_99 : decode cX12_product 99 = .ok (.iadd, 1) := by decide +kernel
theorem dX12_product_100 : decode cX12_product 100 = .ok (.iaload, 1) := by decide +kernel
theorem dX12_product_101 : decode cX12_product 101 = .ok (.istore 9, 2) := by decide +kernel
theorem dX12_product_103 : decode cX12_product 103 = .ok (.iload 8, 2) := by decide +kernel
theorem dX12_product_105 : decode cX12_product 105 = .ok (.invokestatic 148, 3) := by decide +kernel
theorem dX12_product_108 : decode cX12_product 108 = .ok (.iload 9, 2) := by decide +kernel
theorem dX12_product_110 : decode cX12_product 110 = .ok (.invokestatic 148, 3) := by decide +kernel
theorem dX12_product_113 : decode cX12_product 113 = .ok (.if_icmp .ne 94, 3) := by decide +kernel
theorem dX12_product_116 : decode cX12_product 116 = .ok (.aload_n 0, 1) := by decide +kernel
theorem dX12_product_117 : decode cX12_product 117 = .ok (.getfield 28, 3) := by decide +kernel
theorem dX12_product_120 : decode cX12_product 120 = .ok (.sipush 300, 3) := by decide +kernel
theorem dX12_product_123 : decode cX12_product 123 = .ok (.iload 4, 2) := by decide +kernel
theorem dX12_product_125 : decode cX12_product 125 = .ok (.imul, 1) := by decide +kernel
theorem dX12_product_126 : decode cX12_product 126 = .ok (.iload 6, 2) := by decide +kernel
theorem dX12_product_128 : decode cX12_product 128 = .ok (.iadd, 1) := by decide +kernel
theorem dX12_product_129 : decode cX12_product 129 = .ok (.laload, 1) := by decide +kernel
theorem dX12_product_130 : decode cX12_product 130 = .ok (.lstore 10, 2) := by decide +kernel
theorem dX12_product_132 : decode cX12_product 132 = .ok (.aload_n 0, 1) := by decide +kernel
theorem dX12_product_133 : decode cX12_product 133 = .ok (.getfield 28, 3) := by decide +kernel
theorem dX12_product_136 : decode cX12_product 136 = .ok (.sipush 300, 3) := by decide +kernel
theorem dX12_product_139 : decode cX12_product 139 = .ok (.iload 5, 2) := by decide +kernel
theorem dX12_product_141 : decode cX12_product 141 = .ok (.imul, 1) := by decide +kernel
theorem dX12_product_142 : decode cX12_product 142 = .ok (.iload 7, 2) := by decide +kernel
theorem dX12_product_144 : decode cX12_product 144 = .ok (.iadd, 1) := by decide +kernel
theorem dX12_product_145 : decode cX12_product 145 = .ok (.laload, 1) := by decide +kernel
theorem dX12_product_146 : decode cX12_product 146 = .ok (.lstore 12, 2) := by decide +kernel
theorem dX12_product_148 : decode cX12_product 148 = .ok (.ldc2_w 104, 3) := by decide +kernel
theorem dX12_product_151 : decode cX12_product 151 = .ok (.lload 12, 2) := by decide +kernel
theorem dX12_product_153 : decode cX12_product 153 = .ok (.lconst 0, 1) := by decide +kernel
theorem dX12_product_154 : decode cX12_product 154 = .ok (.lcmp, 1) := by decide +kernel
theorem dX12_product_155 : decode cX12_product 155 = .ok (.ifCond .ge 9, 3) := by decide +kernel
theorem dX12_product_158 : decode cX12_product 158 = .ok (.lload 12, 2) := by decide +kernel
theorem dX12_product_160 : decode cX12_product 160 = .ok (.lneg, 1) := by decide +kernel
theorem dX12_product_161 : decode cX12_product 161 = .ok (.goto 5, 3) := by decide +kernel
theorem dX12_product_164 : decode cX12_product 164 = .ok (.lload 12, 2) := by decide +kernel
theorem dX12_product_166 : decode cX12_product 166 = .ok (.ldiv, 1) := by decide +kernel
theorem dX12_product_167 : decode cX12_product 167 = .ok (.lstore 14, 2) := by decide +kernel
theorem dX12_product_169 : decode cX12_product 169 = .ok (.lload 10, 2) := by decide +kernel
theorem dX12_product_171 : decode cX12_product 171 = .ok (.lload 14, 2) := by decide +kernel
theorem dX12_product_173 : decode cX12_product 173 = .ok (.lneg, 1) := by decide +kernel
theorem dX12_product_174 : decode cX12_product 174 = .ok (.lload 14, 2) := by decide +kernel
theorem dX12_product_176 : decode cX12_product 176 = .ok (.invokestatic 79, 3) := by decide +kernel
theorem dX12_product_179 : decode cX12_product 179 = .ok (.ifCond .eq 25, 3) := by decide +kernel
theorem dX12_product_182 : decode cX12_product 182 = .ok (.aload_n 0, 1) := by decide +kernel
theorem dX12_product_183 : decode cX12_product 183 = .ok (.iload 8, 2) := by decide +kernel
theorem dX12_product_185 : decode cX12_product 185 = .ok (.ldc 158, 2) := by decide +kernel
theorem dX12_product_187 : decode cX12_product 187 = .ok (.iand, 1) := by decide +kernel
theorem dX12_product_188 : decode cX12_product 188 = .ok (.iload 9, 2) := by decide +kernel
theorem dX12_product_190 : decode cX12_product 190 = .ok (.ldc 158, 2) := by decide +kernel
theorem dX12_product_192 : decode cX12_product 192 = .ok (.iand, 1) := by decide +kernel
theorem dX12_product_193 : decode cX12_product 193 = .ok (.lload 10, 2) := by decide +kernel
theorem dX12_product_195 : decode cX12_product 195 = .ok (.lload 12, 2) := by decide +kernel
theorem dX12_product_197 : decode cX12_product 197 = .ok (.lmul, 1) := by decide +kernel
theorem dX12_product_198 : decode cX12_product 198 = .ok (.invokevirtual 185, 3) := by decide +kernel
theorem dX12_product_201 : decode cX12_product 201 = .ok (.ifCond .ne 6, 3) := by decide +kernel
theorem dX12_product_204 : decode cX12_product 204 = .ok (.ldc 117, 2) := by decide +kernel
theorem dX12_product_206 : decode cX12_product 206 = .ok (.ireturn, 1) := by decide +kernel
theorem dX12_product_207 : decode cX12_product 207 = .ok (.iinc 7 1, 3) := by decide +kernel
theorem dX12_product_210 : decode cX12_product 210 = .ok (.goto (-151), 3) := by decide +kernel
theorem dX12_product_213 : decode cX12_product 213 = .ok (.iinc 6 1, 3) := by decide +kernel
theorem dX12_product_216 : decode cX12_product 216 = .ok (.goto (-172), 3) := by decide +kernel
theorem dX12_product_219 : decode cX12_product 219 = .ok (.aload_n 0, 1) := by decide +kernel
theorem dX12_product_220 : decode cX12_product 220 = .ok (.iload_n 1, 1) := by decide +kernel
theorem dX12_product_221 : decode cX12_product 221 = .ok (.invokestatic 121, 3) := by decide +kernel
theorem dX12_product_224 : decode cX12_product 224 = .ok (.invokevirtual 130, 3) := by decide +kernel
theorem dX12_product_227 : decode cX12_product 227 = .ok (.ireturn, 1) := by decide +kernel
theorem dX12_digest_0 : decode cX12_digest 0 = .ok (.iload_n 1, 1) := by decide +kernel
theorem dX12_digest_1 : decode cX12_digest 1 = .ok (.invokestatic 118, 3) := by decide +kernel
theorem dX12_digest_4 : decode cX12_digest 4 = .ok (.ifCond .ne 7, 3) := by decide +kernel
theorem dX12_digest_7 : decode cX12_digest 7 = .ok (.ldc2_w 180, 3) := by decide +kernel
theorem dX12_digest_10 : decode cX12_digest 10 = .ok (.lreturn, 1) := by decide +kernel
theorem dX12_digest_11 : decode cX12_digest 11 = .ok (.ldc2_w 189, 3) := by decide +kernel
theorem dX12_digest_14 : decode cX12_digest 14 = .ok (.lstore_n 2, 1) := by decide +kernel
theorem dX12_digest_15 : decode cX12_digest 15 = .ok (.iload_n 1, 1) := by decide +kernel
theorem dX12_digest_16 : decode cX12_digest 16 = .ok (.invokestatic 121, 3) := by decide +kernel
theorem dX12_digest_19 : decode cX12_digest 19 = .ok (.istore 4, 2) := by decide +kernel
theorem dX12_digest_21 : decode cX12_digest 21 = .ok (.iconst 0, 1) := by decide +kernel
theorem dX12_digest_22 : decode cX12_digest 22 = .ok (.istore 5, 2) := by decide +kernel
theorem dX12_digest_24 : decode cX12_digest 24 = .ok (.iload 5, 2) := by decide +kernel
theorem dX12_digest_26 : decode cX12_digest 26 = .ok (.aload_n 0, 1) := by decide +kernel
theorem dX12_digest_27 : decode cX12_digest 27 = .ok (.getfield 22, 3) := by decide +kernel
theorem dX12_digest_30 : decode cX12_digest 30 = .ok (.iload 4, 2) := by decide +kernel
theorem dX12_digest_32 : decode cX12_digest 32 = .ok (.iaload, 1) := by decide +kernel
theorem dX12_digest_33 : decode cX12_digest 33 = .ok (.if_icmp .ge 73, 3) := by decide +kernel
theorem dX12_digest_36 : decode cX12_digest 36 = .ok (.iconst (-1), 1) := by decide +kernel
theorem dX12_digest_37 : decode cX12_digest 37 = .ok (.istore 6, 2) := by decide +kernel
theorem dX12_digest_39 : decode cX12_digest 39 = .ok (.iload 6, 2) := by decide +kernel
theorem dX12_digest_41 : decode cX12_digest 41 = .ok (.bipush 8, 2) := by decide +kernel
theorem dX12_digest_43 : decode cX12_digest 43 = .ok (.if_icmp .ge 36, 3) := by decide +kernel
theorem dX12_digest_46 : decode cX12_digest 46 = .ok (.ldc2_w 191, 3) := by decide +kernel
theorem dX12_digest_49 : decode cX12_digest 49 = .ok (.lload_n 2, 1) := by decide +kernel
theorem dX12_digest_50 : decode cX12_digest 50 = .ok (.lmul, 1) := by decide +kernel
theorem dX12_digest_51 : decode cX12_digest 51 = .ok (.aload_n 0, 1) := by decide +kernel
theorem dX12_digest_52 : decode cX12_digest 52 = .ok (.getfield 25, 3) := by decide +kernel
theorem dX12_digest_55 : decode cX12_digest 55 = .ok (.sipush 300, 3) := by decide +kernel
theorem dX12_digest_58 : decode cX12_digest 58 = .ok (.iload 4, 2) := by decide +kernel
theorem dX12_digest_60 : decode cX12_digest 60 = .ok (.imul, 1) := by decide +kernel
theorem dX12_digest_61 : decode cX12_digest 61 = .ok (.iload 5, 2) := by decide +kernel
theorem dX12_digest_63 : decode cX12_digest 63 = .ok (.iadd, 1) := by decide +kernel
theorem dX12_digest_64 : decode cX12_digest 64 = .ok (.iaload, 1) := by decide +kernel
theorem dX12_digest_65 : decode cX12_digest 65 = .ok (.iload 6, 2) := by decide +kernel
theorem dX12_digest_67 : decode cX12_digest 67 = .ok (.invokestatic 182, 3) := by decide +kernel
theorem dX12_digest_70 : decode cX12_digest 70 = .ok (.i2l, 1) := by decide +kernel
theorem dX12_digest_71 : decode cX12_digest 71 = .ok (.ladd, 1) := by decide +kernel
theorem dX12_digest_72 : decode cX12_digest 72 = .ok (.lstore_n 2, 1) := by decide +kernel
theorem dX12_digest_73 : decode cX12_digest 73 = .ok (.iinc 6 1, 3) := by decide +kernel
theorem dX12_digest_76 : decode cX12_digest 76 = .ok (.goto (-37), 3) := by decide +kernel
theorem dX12_digest_79 : decode cX12_digest 79 = .ok (.ldc2_w 191, 3) := by decide +kernel
theorem dX12_digest_82 : decode cX12_digest 82 = .ok (.lload_n 2, 1) := by decide +kernel
theorem dX12_digest_83 : decode cX12_digest 83 = .ok (.lmul, 1) := by decide +kernel
theorem dX12_digest_84 : decode cX12_digest 84 = .ok (.aload_n 0, 1) := by decide +kernel
theorem dX12_digest_85 : decode cX12_digest 85 = .ok (.getfield 28, 3) := by decide +kernel
theorem dX12_digest_88 : decode cX12_digest 88 = .ok (.sipush 300, 3) := by decide +kernel
theorem dX12_digest_91 : decode cX12_digest 91 = .ok (.iload 4, 2) := by decide +kernel
theorem dX12_digest_93 : decode cX12_digest 93 = .ok (.imul, 1) := by decide +kernel
theorem dX12_digest_94 : decode cX12_digest 94 = .ok (.iload 5, 2) := by decide +kernel
theorem dX12_digest_96 : decode cX12_digest 96 = .ok (.iadd, 1) := by decide +kernel
theorem dX12_digest_97 : decode cX12_digest 97 = .ok (.laload, 1) := by decide +kernel
theorem dX12_digest_98 : decode cX12_digest 98 = .ok (.ladd, 1) := by decide +kernel
theorem dX12_digest_99 : decode cX12_digest 99 = .ok (.lstore_n 2, 1) := by decide +kernel
theorem dX12_digest_100 : decode cX12_digest 100 = .ok (.iinc 5 1, 3) := by decide +kernel
theorem dX12_digest_103 : decode cX12_digest 103 = .ok (.goto (-79), 3) := by decide +kernel
theorem dX12_digest_106 : decode cX12_digest 106 = .ok (.lload_n 2, 1) := by decide +kernel
theorem dX12_digest_107 : decode cX12_digest 107 = .ok (.lreturn, 1) := by decide +kernel
theorem dX12_come_0 : decode cX12_come 0 = .ok (.aload_n 0, 1) := by decide +kernel
theorem dX12_come_1 : decode cX12_come 1 = .ok (.getfield 193, 3) := by decide +kernel
theorem dX12_come_4 : decode cX12_come 4 = .ok (.bipush 40, 2) := by decide +kernel
theorem dX12_come_6 : decode cX12_come 6 = .ok (.if_icmp .ne 6, 3) := by decide +kernel
theorem dX12_come_9 : decode cX12_come 9 = .ok (.ldc 117, 2) := by decide +kernel
theorem dX12_come_11 : decode cX12_come 11 = .ok (.ireturn, 1) := by decide +kernel
theorem dX12_come_12 : decode cX12_come 12 = .ok (.aload_n 0, 1) := by decide +kernel
theorem dX12_come_13 : decode cX12_come 13 = .ok (.getfield 38, 3) := by decide +kernel
theorem dX12_come_16 : decode cX12_come 16 = .ok (.aload_n 0, 1) := by decide +kernel
theorem dX12_come_17 : decode cX12_come 17 = .ok (.getfield 193, 3) := by decide +kernel
theorem dX12_come_20 : decode cX12_come 20 = .ok (.iload_n 1, 1) := by decide +kernel
theorem dX12_come_21 : decode cX12_come 21 = .ok (.iastore, 1) := by decide +kernel
theorem dX12_come_22 : decode cX12_come 22 = .ok (.aload_n 0, 1) := by decide +kernel
theorem dX12_come_23 : decode cX12_come 23 = .ok (.getfield 41, 3) := by decide +kernel
theorem dX12_come_26 : decode cX12_come 26 = .ok (.aload_n 0, 1) := by decide +kernel
theorem dX12_come_27 : decode cX12_come 27 = .ok (.getfield 193, 3) := by decide +kernel
theorem dX12_come_30 : decode cX12_come 30 = .ok (.iload_n 2, 1) := by decide +kernel
theorem dX12_come_31 : decode cX12_come 31 = .ok (.iastore, 1) := by decide +kernel
theorem dX12_come_32 : decode cX12_come 32 = .ok (.aload_n 0, 1) := by decide +kernel
theorem dX12_come_33 : decode cX12_come 33 = .ok (.getfield 44, 3) := by decide +kernel
theorem dX12_come_36 : decode cX12_come 36 = .ok (.aload_n 0, 1) := by decide +kernel
theorem dX12_come_37 : decode cX12_come 37 = .ok (.getfield 193, 3) := by decide +kernel
theorem dX12_come_40 : decode cX12_come 40 = .ok (.iload_n 3, 1) := by decide +kernel
theorem dX12_come_41 : decode cX12_come 41 = .ok (.iastore, 1) := by decide +kernel
theorem dX12_come_42 : decode cX12_come 42 = .ok (.aload_n 0, 1) := by decide +kernel
theorem dX12_come_43 : decode cX12_come 43 = .ok (.getfield 47, 3) := by decide +kernel
theorem dX12_come_46 : decode cX12_come 46 = .ok (.aload_n 0, 1) := by decide +kernel
theorem dX12_come_47 : decode cX12_come 47 = .ok (.getfield 193, 3) := by decide +kernel
theorem dX12_come_50 : decode cX12_come 50 = .ok (.iload 4, 2) := by decide +kernel
theorem dX12_come_52 : decode cX12_come 52 = .ok (.iastore, 1) := by decide +kernel
theorem dX12_come_53 : decode cX12_come 53 = .ok (.aload_n 0, 1) := by decide +kernel
theorem dX12_come_54 : decode cX12_come 54 = .ok (.getfield 50, 3) := by decide +kernel
theorem dX12_come_57 : decode cX12_come 57 = .ok (.aload_n 0, 1) := by decide +kernel
theorem dX12_come_58 : decode cX12_come 58 = .ok (.getfield 193, 3) := by decide +kernel
theorem dX12_come_61 : decode cX12_come 61 = .ok (.iload 5, 2) := by decide +kernel
theorem dX12_come_63 : decode cX12_come 63 = .ok (.iastore, 1) := by decide +kernel
theorem dX12_come_64 : decode cX12_come 64 = .ok (.aload_n 0, 1) := by decide +kernel
theorem dX12_come_65 : decode cX12_come 65 = .ok (.dup, 1) := by decide +kernel
theorem dX12_come_66 : decode cX12_come 66 = .ok (.getfield 193, 3) := by decide +kernel
theorem dX12_come_69 : decode cX12_come 69 = .ok (.iconst 1, 1) := by decide +kernel
theorem dX12_come_70 : decode cX12_come 70 = .ok (.iadd, 1) := by decide +kernel
theorem dX12_come_71 : decode cX12_come 71 = .ok (.putfield 193, 3) := by decide +kernel
theorem dX12_come_74 : decode cX12_come 74 = .ok (.aload_n 0, 1) := by decide +kernel
theorem dX12_come_75 : decode cX12_come 75 = .ok (.getfield 193, 3) := by decide +kernel
theorem dX12_come_78 : decode cX12_come 78 = .ok (.iconst 1, 1) := by decide +kernel
theorem dX12_come_79 : decode cX12_come 79 = .ok (.isub, 1) := by decide +kernel
theorem dX12_come_80 : decode cX12_come 80 = .ok (.ireturn, 1) := by decide +kernel
theorem dX12_isPulse_0 : decode cX12_isPulse 0 = .ok (.iload_n 1, 1) := by decide +kernel
theorem dX12_isPulse_1 : decode cX12_isPulse 1 = .ok (.i2l, 1) := by decide +kernel
theorem dX12_isPulse_2 : decode cX12_isPulse 2 = .ok (.lconst 1, 1) := by decide +kernel
theorem dX12_isPulse_3 : decode cX12_isPulse 3 = .ok (.iconst 1, 1) := by decide +kernel
theorem dX12_isPulse_4 : decode cX12_isPulse 4 = .ok (.aload_n 0, 1) := by decide +kernel
theorem dX12_isPulse_5 : decode cX12_isPulse 5 = .ok (.getfield 67, 3) := by decide +kernel
theorem dX12_isPulse_8 : decode cX12_isPulse 8 = .ok (.ishl, 1) := by decide +kernel
theorem dX12_isPulse_9 : decode cX12_isPulse 9 = .ok (.iconst 1, 1) := by decide +kernel
theorem dX12_isPulse_10 : decode cX12_isPulse 10 = .ok (.isub, 1) := by decide +kernel
theorem dX12_isPulse_11 : decode cX12_isPulse 11 = .ok (.i2l, 1) := by decide +kernel
theorem dX12_isPulse_12 : decode cX12_isPulse 12 = .ok (.invokestatic 79, 3) := by decide +kernel
theorem dX12_isPulse_15 : decode cX12_isPulse 15 = .ok (.ifCond .eq 31, 3) := by decide +kernel
theorem dX12_isPulse_18 : decode cX12_isPulse 18 = .ok (.iload_n 2, 1) := by decide +kernel
theorem dX12_isPulse_19 : decode cX12_isPulse 19 = .ok (.i2l, 1) := by decide +kernel
theorem dX12_isPulse_20 : decode cX12_isPulse 20 = .ok (.lconst 0, 1) := by decide +kernel
theorem dX12_isPulse_21 : decode cX12_isPulse 21 = .ok (.ldc2_w 139, 3) := by decide +kernel
theorem dX12_isPulse_24 : decode cX12_isPulse 24 = .ok (.invokestatic 79, 3) := by decide +kernel
theorem dX12_isPulse_27 : decode cX12_isPulse 27 = .ok (.ifCond .eq 19, 3) := by decide +kernel
theorem dX12_isPulse_30 : decode cX12_isPulse 30 = .ok (.iload_n 3, 1) := by decide +kernel
theorem dX12_isPulse_31 : decode cX12_isPulse 31 = .ok (.i2l, 1) := by decide +kernel
theorem dX12_isPulse_32 : decode cX12_isPulse 32 = .ok (.lconst 0, 1) := by decide +kernel
theorem dX12_isPulse_33 : decode cX12_isPulse 33 = .ok (.ldc2_w 139, 3) := by decide +kernel
theorem dX12_isPulse_36 : decode cX12_isPulse 36 = .ok (.invokestatic 79, 3) := by decide +kernel
theorem dX12_isPulse_39 : decode cX12_isPulse 39 = .ok (.ifCond .eq 7, 3) := by decide +kernel
theorem dX12_isPulse_42 : decode cX12_isPulse 42 = .ok (.iconst 1, 1) := by decide +kernel
theorem dX12_isPulse_43 : decode cX12_isPulse 43 = .ok (.goto 4, 3) := by decide +kernel
theorem dX12_isPulse_46 : decode cX12_isPulse 46 = .ok (.iconst 0, 1) := by decide +kernel
theorem dX12_isPulse_47 : decode cX12_isPulse 47 = .ok (.ireturn, 1) := by decide +kernel
theorem dX12_pulse_0 : decode cX12_pulse 0 = .ok (.aload_n 0, 1) := by decide +kernel
theorem dX12_pulse_1 : decode cX12_pulse 1 = .ok (.iload_n 1, 1) := by decide +kernel
theorem dX12_pulse_2 : decode cX12_pulse 2 = .ok (.iload_n 2, 1) := by decide +kernel
theorem dX12_pulse_3 : decode cX12_pulse 3 = .ok (.iload_n 3, 1) := by decide +kernel
theorem dX12_pulse_4 : decode cX12_pulse 4 = .ok (.invokevirtual 196, 3) := by decide +kernel
theorem dX12_pulse_7 : decode cX12_pulse 7 = .ok (.ifCond .eq 15, 3) := by decide +kernel
theorem dX12_pulse_10 : decode cX12_pulse 10 = .ok (.aload_n 0, 1) := by decide +kernel
theorem dX12_pulse_11 : decode cX12_pulse 11 = .ok (.iconst 2, 1) := by decide +kernel
theorem dX12_pulse_12 : decode cX12_pulse 12 = .ok (.iload_n 1, 1) := by decide +kernel
theorem dX12_pulse_13 : decode cX12_pulse 13 = .ok (.iload_n 2, 1) := by decide +kernel
theorem dX12_pulse_14 : decode cX12_pulse 14 = .ok (.iload_n 3, 1) := by decide +kernel
theorem dX12_pulse_15 : decode cX12_pulse 15 = .ok (.iconst 0, 1) := by decide +kernel
theorem dX12_pulse_16 : decode cX12_pulse 16 = .ok (.invokevirtual 199, 3) := by decide +kernel
theorem dX12_pulse_19 : decode cX12_pulse 19 = .ok (.goto 5, 3) := by decide +kernel
theorem dX12_pulse_22 : decode cX12_pulse 22 = .ok (.ldc 89, 2) := by decide +kernel
theorem dX12_pulse_24 : decode cX12_pulse 24 = .ok (.ireturn, 1) := by decide +kernel
theorem dX12_cycled_0 : decode cX12_cycled 0 = .ok (.aload_n 0, 1) := by decide +kernel
theorem dX12_cycled_1 : decode cX12_cycled 1 = .ok (.iload_n 1, 1) := by decide +kernel
theorem dX12_cycled_2 : decode cX12_cycled 2 = .ok (.iload_n 2, 1) := by decide +kernel
theorem dX12_cycled_3 : decode cX12_cycled 3 = .ok (.iload_n 3, 1) := by decide +kernel
theorem dX12_cycled_4 : decode cX12_cycled 4 = .ok (.invokevirtual 196, 3) := by decide +kernel
theorem dX12_cycled_7 : decode cX12_cycled 7 = .ok (.ifCond .eq 24, 3) := by decide +kernel
theorem dX12_cycled_10 : decode cX12_cycled 10 = .ok (.iload 4, 2) := by decide +kernel
theorem dX12_cycled_12 : decode cX12_cycled 12 = .ok (.invokestatic 83, 3) := by decide +kernel
theorem dX12_cycled_15 : decode cX12_cycled 15 = .ok (.ifCond .eq 16, 3) := by decide +kernel
theorem dX12_cycled_18 : decode cX12_cycled 18 = .ok (.aload_n 0, 1) := by decide +kernel
theorem dX12_cycled_19 : decode cX12_cycled 19 = .ok (.iconst 3, 1) := by decide +kernel
theorem dX12_cycled_20 : decode cX12_cycled 20 = .ok (.iload_n 1, 1) := by decide +kernel
theorem dX12_cycled_21 : decode cX12_cycled 21 = .ok (.iload_n 2, 1) := by decide +kernel
theorem dX12_cycled_22 : decode cX12_cycled 22 = .ok (.iload_n 3, 1) := by decide +kernel
theorem dX12_cycled_23 : decode cX12_cycled 23 = .ok (.iload 4, 2) := by decide +kernel
theorem dX12_cycled_25 : decode cX12_cycled 25 = .ok (.invokevirtual 199, 3) := by decide +kernel
theorem dX12_cycled_28 : decode cX12_cycled 28 = .ok (.goto 5, 3) := by decide +kernel
theorem dX12_cycled_31 : decode cX12_cycled 31 = .ok (.ldc 89, 2) := by decide +kernel
theorem dX12_cycled_33 : decode cX12_cycled 33 = .ok (.ireturn, 1) := by decide +kernel
theorem dX12_delay_0 : decode cX12_delay 0 = .ok (.aload_n 0, 1) := by decide +kernel
theorem dX12_delay_1 : decode cX12_delay 1 = .ok (.iload_n 1, 1) := by decide +kernel
theorem dX12_delay_2 : decode cX12_delay 2 = .ok (.invokevirtual 124, 3) := by decide +kernel
theorem dX12_delay_5 : decode cX12_delay 5 = .ok (.ifCond .eq 34, 3) := by decide +kernel
theorem dX12_delay_8 : decode cX12_delay 8 = .ok (.iload_n 2, 1) := by decide +kernel
theorem dX12_delay_9 : decode cX12_delay 9 = .ok (.i2l, 1) := by decide +kernel
theorem dX12_delay_10 : decode cX12_delay 10 = .ok (.lconst 0, 1) := by decide +kernel
theorem dX12_delay_11 : decode cX12_delay 11 = .ok (.ldc2_w 139, 3) := by decide +kernel
theorem dX12_delay_14 : decode cX12_delay 14 = .ok (.invokestatic 79, 3) := by decide +kernel
theorem dX12_delay_17 : decode cX12_delay 17 = .ok (.ifCond .eq 22, 3) := by decide +kernel
theorem dX12_delay_20 : decode cX12_delay 20 = .ok (.iload_n 3, 1) := by decide +kernel
theorem dX12_delay_21 : decode cX12_delay 21 = .ok (.invokestatic 171, 3) := by decide +kernel
theorem dX12_delay_24 : decode cX12_delay 24 = .ok (.ifCond .eq 15, 3) := by decide +kernel
theorem dX12_delay_27 : decode cX12_delay 27 = .ok (.aload_n 0, 1) := by decide +kernel
theorem dX12_delay_28 : decode cX12_delay 28 = .ok (.iconst 4, 1) := by decide +kernel
theorem dX12_delay_29 : decode cX12_delay 29 = .ok (.iload_n 1, 1) := by decide +kernel
theorem dX12_delay_30 : decode cX12_delay 30 = .ok (.iload_n 2, 1) := by decide +kernel
theorem dX12_delay_31 : decode cX12_delay 31 = .ok (.iload_n 3, 1) := by decide +kernel
theorem dX12_delay_32 : decode cX12_delay 32 = .ok (.iconst 0, 1) := by decide +kernel
theorem dX12_delay_33 : decode cX12_delay 33 = .ok (.invokevirtual 199, 3) := by decide +kernel
theorem dX12_delay_36 : decode cX12_delay 36 = .ok (.goto 5, 3) := by decide +kernel
theorem dX12_delay_39 : decode cX12_delay 39 = .ok (.ldc 89, 2) := by decide +kernel
theorem dX12_delay_41 : decode cX12_delay 41 = .ok (.ireturn, 1) := by decide +kernel
theorem dX12_round_0 : decode cX12_round 0 = .ok (.iload_n 1, 1) := by decide +kernel
theorem dX12_round_1 : decode cX12_round 1 = .ok (.i2l, 1) := by decide +kernel
theorem dX12_round_2 : decode cX12_round 2 = .ok (.lconst 1, 1) := by decide +kernel
theorem dX12_round_3 : decode cX12_round 3 = .ok (.ldc2_w 203, 3) := by decide +kernel
theorem dX12_round_6 : decode cX12_round 6 = .ok (.invokestatic 79, 3) := by decide +kernel
theorem dX12_round_9 : decode cX12_round 9 = .ok (.ifCond .ne 6, 3) := by decide +kernel
theorem dX12_round_12 : decode cX12_round 12 = .ok (.ldc 89, 2) := by decide +kernel
theorem dX12_round_14 : decode cX12_round 14 = .ok (.ireturn, 1) := by decide +kernel
theorem dX12_round_15 : decode cX12_round 15 = .ok (.aload_n 0, 1) := by decide +kernel
theorem dX12_round_16 : decode cX12_round 16 = .ok (.getfield 205, 3) := by decide +kernel
theorem dX12_round_19 : decode cX12_round 19 = .ok (.iconst 3, 1) := by decide +kernel
theorem dX12_round_20 : decode cX12_round 20 = .ok (.if_icmp .ne 6, 3) := by decide +kernel
theorem dX12_round_23 : decode cX12_round 23 = .ok (.ldc 208, 2) := by decide +kernel
theorem dX12_round_25 : decode cX12_round 25 = .ok (.ireturn, 1) := by decide +kernel
theorem dX12_round_26 : decode cX12_round 26 = .ok (.aload_n 0, 1) := by decide +kernel
theorem dX12_round_27 : decode cX12_round 27 = .ok (.iconst 5, 1) := by decide +kernel
theorem dX12_round_28 : decode cX12_round 28 = .ok (.iload_n 1, 1) := by decide +kernel
theorem dX12_round_29 : decode cX12_round 29 = .ok (.iconst 0, 1) := by decide +kernel
theorem dX12_round_30 : decode cX12_round 30 = .ok (.iconst 0, 1) := by decide +kernel
theorem dX12_round_31 : decode cX12_round 31 = .ok (.iconst 0, 1) := by decide +kernel
theorem dX12_round_32 : decode cX12_round 32 = .ok (.invokevirtual 199, 3) := by decide +kernel
theorem dX12_round_35 : decode cX12_round 35 = .ok (.istore_n 2, 1) := by decide +kernel
theorem dX12_round_36 : decode cX12_round 36 = .ok (.aload_n 0, 1) := by decide +kernel
theorem dX12_round_37 : decode cX12_round 37 = .ok (.dup, 1) := by decide +kernel
theorem dX12_round_38 : decode cX12_round 38 = .ok (.getfield 205, 3) := by decide +kernel
theorem dX12_round_41 : decode cX12_round 41 = .ok (.iload_n 2, 1) := by decide +kernel
theorem dX12_round_42 : decode cX12_round 42 = .ok (.ifCond .lt 7, 3) := by decide +kernel
theorem dX12_round_45 : decode cX12_round 45 = .ok (.iconst 1, 1) := by decide +kernel
theorem dX12_round_46 : decode cX12_round 46 = .ok (.goto 4, 3) := by decide +kernel
theorem dX12_round_49 : decode cX12_round 49 = .ok (.iconst 0, 1) := by decide +kernel
theorem dX12_round_50 : decode cX12_round 50 = .ok (.iadd, 1) := by decide +kernel
theorem dX12_round_51 : decode cX12_round 51 = .ok (.putfield 205, 3) := by decide +kernel
theorem dX12_round_54 : decode cX12_round 54 = .ok (.iload_n 2, 1) := by decide +kernel
theorem dX12_round_55 : decode cX12_round 55 = .ok (.ireturn, 1) := by decide +kernel
theorem dX12_end_0 : decode cX12_end 0 = .ok (.aload_n 0, 1) := by decide +kernel
theorem dX12_end_1 : decode cX12_end 1 = .ok (.getfield 205, 3) := by decide +kernel
theorem dX12_end_4 : decode cX12_end 4 = .ok (.ifCond .ne 6, 3) := by decide +kernel
theorem dX12_end_7 : decode cX12_end 7 = .ok (.ldc 208, 2) := by decide +kernel
theorem dX12_end_9 : decode cX12_end 9 = .ok (.ireturn, 1) := by decide +kernel
theorem dX12_end_10 : decode cX12_end 10 = .ok (.aload_n 0, 1) := by decide +kernel
theorem dX12_end_11 : decode cX12_end 11 = .ok (.bipush 6, 2) := by decide +kernel
theorem dX12_end_13 : decode cX12_end 13 = .ok (.iconst 0, 1) := by decide +kernel
theorem dX12_end_14 : decode cX12_end 14 = .ok (.iconst 0, 1) := by decide +kernel
theorem dX12_end_15 : decode cX12_end 15 = .ok (.iconst 0, 1) := by decide +kernel
theorem dX12_end_16 : decode cX12_end 16 = .ok (.iconst 0, 1) := by decide +kernel
theorem dX12_end_17 : decode cX12_end 17 = .ok (.invokevirtual 199, 3) := by decide +kernel
theorem dX12_end_20 : decode cX12_end 20 = .ok (.istore_n 1, 1) := by decide +kernel
theorem dX12_end_21 : decode cX12_end 21 = .ok (.aload_n 0, 1) := by decide +kernel
theorem dX12_end_22 : decode cX12_end 22 = .ok (.dup, 1) := by decide +kernel
theorem dX12_end_23 : decode cX12_end 23 = .ok (.getfield 205, 3) := by decide +kernel
theorem dX12_end_26 : decode cX12_end 26 = .ok (.iload_n 1, 1) := by decide +kernel
theorem dX12_end_27 : decode cX12_end 27 = .ok (.ifCond .lt 7, 3) := by decide +kernel
theorem dX12_end_30 : decode cX12_end 30 = .ok (.iconst 1, 1) := by decide +kernel
theorem dX12_end_31 : decode cX12_end 31 = .ok (.goto 4, 3) := by decide +kernel
theorem dX12_end_34 : decode cX12_end 34 = .ok (.iconst 0, 1) := by decide +kernel
theorem dX12_end_35 : decode cX12_end 35 = .ok (.isub, 1) := by decide +kernel
theorem dX12_end_36 : decode cX12_end 36 = .ok (.putfield 205, 3) := by decide +kernel
theorem dX12_end_39 : decode cX12_end 39 = .ok (.iload_n 1, 1) := by decide +kernel
theorem dX12_end_40 : decode cX12_end 40 = .ok (.ireturn, 1) := by decide +kernel
theorem dX12_store_0 : decode cX12_store 0 = .ok (.iload_n 1, 1) := by decide +kernel
theorem dX12_store_1 : decode cX12_store 1 = .ok (.i2l, 1) := by decide +kernel
theorem dX12_store_2 : decode cX12_store 2 = .ok (.lconst 0, 1) := by decide +kernel
theorem dX12_store_3 : decode cX12_store 3 = .ok (.ldc2_w 77, 3) := by decide +kernel
theorem dX12_store_6 : decode cX12_store 6 = .ok (.invokestatic 79, 3) := by decide +kernel
theorem dX12_store_9 : decode cX12_store 9 = .ok (.ifCond .eq 30, 3) := by decide +kernel
theorem dX12_store_12 : decode cX12_store 12 = .ok (.iload_n 2, 1) := by decide +kernel
theorem dX12_store_13 : decode cX12_store 13 = .ok (.i2l, 1) := by decide +kernel
theorem dX12_store_14 : decode cX12_store 14 = .ok (.ldc2_w 137, 3) := by decide +kernel
theorem dX12_store_17 : decode cX12_store 17 = .ok (.ldc2_w 139, 3) := by decide +kernel
theorem dX12_store_20 : decode cX12_store 20 = .ok (.invokestatic 79, 3) := by decide +kernel
theorem dX12_store_23 : decode cX12_store 23 = .ok (.ifCond .eq 16, 3) := by decide +kernel
theorem dX12_store_26 : decode cX12_store 26 = .ok (.aload_n 0, 1) := by decide +kernel
theorem dX12_store_27 : decode cX12_store 27 = .ok (.bipush 7, 2) := by decide +kernel
theorem dX12_store_29 : decode cX12_store 29 = .ok (.iload_n 1, 1) := by decide +kernel
theorem dX12_store_30 : decode cX12_store 30 = .ok (.iload_n 2, 1) := by decide +kernel
theorem dX12_store_31 : decode cX12_store 31 = .ok (.iconst 0, 1) := by decide +kernel
theorem dX12_store_32 : decode cX12_store 32 = .ok (.iconst 0, 1) := by decide +kernel
theorem dX12_store_33 : decode cX12_store 33 = .ok (.invokevirtual 199, 3) := by decide +kernel
theorem dX12_store_36 : decode cX12_store 36 = .ok (.goto 5, 3) := by decide +kernel
theorem dX12_store_39 : decode cX12_store 39 = .ok (.ldc 89, 2) := by decide +kernel
theorem dX12_store_41 : decode cX12_store 41 = .ok (.ireturn, 1) := by decide +kernel
theorem dX12_back_0 : decode cX12_back 0 = .ok (.aload_n 0, 1) := by decide +kernel
theorem dX12_back_1 : decode cX12_back 1 = .ok (.getfield 193, 3) := by decide +kernel
theorem dX12_back_4 : decode cX12_back 4 = .ok (.ifCond .ne 6, 3) := by decide +kernel
theorem dX12_back_7 : decode cX12_back 7 = .ok (.ldc 208, 2) := by decide +kernel
theorem dX12_back_9 : decode cX12_back 9 = .ok (.ireturn, 1) := by decide +kernel
theorem dX12_back_10 : decode cX12_back 10 = .ok (.aload_n 0, 1) := by decide +kernel
theorem dX12_back_11 : decode cX12_back 11 = .ok (.dup, 1) := by decide +kernel
theorem dX12_back_12 : decode cX12_back 12 = .ok (.getfield 193, 3) := by decide +kernel
theorem dX12_back_15 : decode cX12_back 15 = .ok (.iconst 1, 1) := by decide +kernel
theorem dX12_back_16 : decode cX12_back 16 = .ok (.isub, 1) := by decide +kernel
theorem dX12_back_17 : decode cX12_back 17 = .ok (.putfield 193, 3) := by decide +kernel
theorem dX12_back_20 : decode cX12_back 20 = .ok (.aload_n 0, 1) := by decide +kernel
theorem dX12_back_21 : decode cX12_back 21 = .ok (.dup, 1) := by decide +kernel
theorem dX12_back_22 : decode cX12_back 22 = .ok (.getfield 205, 3) := by decide +kernel
theorem dX12_back_25 : decode cX12_back 25 = .ok (.aload_n 0, 1) := by decide +kernel
theorem dX12_back_26 : decode cX12_back 26 = .ok (.getfield 38, 3) := by decide +kernel
theorem dX12_back_29 : decode cX12_back 29 = .ok (.aload_n 0, 1) := by decide +kernel
theorem dX12_back_30 : decode cX12_back 30 = .ok (.getfield 193, 3) := by decide +kernel
theorem dX12_back_33 : decode cX12_back 33 = .ok (.iaload, 1) := by decide +kernel
theorem dX12_back_34 : decode cX12_back 34 = .ok (.bipush 6, 2) := by decide +kernel
theorem dX12_back_36 : decode cX12_back 36 = .ok (.if_icmp .ne 7, 3) := by decide +kernel
theorem dX12_back_39 : decode cX12_back 39 = .ok (.iconst 1, 1) := by decide +kernel
theorem dX12_back_40 : decode cX12_back 40 = .ok (.goto 21, 3) := by decide +kernel
theorem dX12_back_43 : decode cX12_back 43 = .ok (.aload_n 0, 1) := by decide +kernel
theorem dX12_back_44 : decode cX12_back 44 = .ok (.getfield 38, 3) := by decide +kernel
theorem dX12_back_47 : decode cX12_back 47 = .ok (.aload_n 0, 1) := by decide +kernel
theorem dX12_back_48 : decode cX12_back 48 = .ok (.getfield 193, 3) := by decide +kernel
theorem dX12_back_51 : decode cX12_back 51 = .ok (.iaload, 1) := by decide +kernel
theorem dX12_back_52 : decode cX12_back 52 = .ok (.iconst 5, 1) := by decide +kernel
theorem dX12_back_53 : decode cX12_back 53 = .ok (.if_icmp .ne 7, 3) := by decide +kernel
theorem dX12_back_56 : decode cX12_back 56 = .ok (.iconst (-1), 1) := by decide +kernel
theorem dX12_back_57 : decode cX12_back 57 = .ok (.goto 4, 3) := by decide +kernel
theorem dX12_back_60 : decode cX12_back 60 = .ok (.iconst 0, 1) := by decide +kernel
theorem dX12_back_61 : decode cX12_back 61 = .ok (.iadd, 1) := by decide +kernel
theorem dX12_back_62 : decode cX12_back 62 = .ok (.putfield 205, 3) := by decide +kernel
theorem dX12_back_65 : decode cX12_back 65 = .ok (.aload_n 0, 1) := by decide +kernel
theorem dX12_back_66 : decode cX12_back 66 = .ok (.getfield 193, 3) := by decide +kernel
theorem dX12_back_69 : decode cX12_back 69 = .ok (.ireturn, 1) := by decide +kernel
theorem dX12_isOp_0 : decode cX12_isOp 0 = .ok (.iload_n 1, 1) := by decide +kernel
theorem dX12_isOp_1 : decode cX12_isOp 1 = .ok (.i2l, 1) := by decide +kernel
theorem dX12_isOp_2 : decode cX12_isOp 2 = .ok (.lconst 0, 1) := by decide +kernel
theorem dX12_isOp_3 : decode cX12_isOp 3 = .ok (.aload_n 0, 1) := by decide +kernel
theorem dX12_isOp_4 : decode cX12_isOp 4 = .ok (.getfield 193, 3) := by decide +kernel
theorem dX12_isOp_7 : decode cX12_isOp 7 = .ok (.iconst 1, 1) := by decide +kernel
theorem dX12_isOp_8 : decode cX12_isOp 8 = .ok (.isub, 1) := by decide +kernel
theorem dX12_isOp_9 : decode cX12_isOp 9 = .ok (.i2l, 1) := by decide +kernel
theorem dX12_isOp_10 : decode cX12_isOp 10 = .ok (.invokestatic 79, 3) := by decide +kernel
theorem dX12_isOp_13 : decode cX12_isOp 13 = .ok (.ireturn, 1) := by decide +kernel
theorem dX12_kind_0 : decode cX12_kind 0 = .ok (.aload_n 0, 1) := by decide +kernel
theorem dX12_kind_1 : decode cX12_kind 1 = .ok (.iload_n 1, 1) := by decide +kernel
theorem dX12_kind_2 : decode cX12_kind 2 = .ok (.invokevirtual 209, 3) := by decide +kernel
theorem dX12_kind_5 : decode cX12_kind 5 = .ok (.ifCond .eq 12, 3) := by decide +kernel
theorem dX12_kind_8 : decode cX12_kind 8 = .ok (.aload_n 0, 1) := by decide +kernel
theorem dX12_kind_9 : decode cX12_kind 9 = .ok (.getfield 38, 3) := by decide +kernel
theorem dX12_kind_12 : decode cX12_kind 12 = .ok (.iload_n 1, 1) := by decide +kernel
theorem dX12_kind_13 : decode cX12_kind 13 = .ok (.iaload, 1) := by decide +kernel
theorem dX12_kind_14 : decode cX12_kind 14 = .ok (.goto 5, 3) := by decide +kernel
theorem dX12_kind_17 : decode cX12_kind 17 = .ok (.ldc 89, 2) := by decide +kernel
theorem dX12_kind_19 : decode cX12_kind 19 = .ok (.ireturn, 1) := by decide +kernel
theorem dX12_is_0 : decode cX12_is 0 = .ok (.aload_n 0, 1) := by decide +kernel
theorem dX12_is_1 : decode cX12_is 1 = .ok (.iload_n 1, 1) := by decide +kernel
theorem dX12_is_2 : decode cX12_is 2 = .ok (.invokevirtual 209, 3) := by decide +kernel
theorem dX12_is_5 : decode cX12_is 5 = .ok (.ifCond .eq 15, 3) := by decide +kernel
theorem dX12_is_8 : decode cX12_is 8 = .ok (.iload_n 2, 1) := by decide +kernel
theorem dX12_is_9 : decode cX12_is 9 = .ok (.i2l, 1) := by decide +kernel
theorem dX12_is_10 : decode cX12_is 10 = .ok (.lconst 0, 1) := by decide +kernel
theorem dX12_is_11 : decode cX12_is 11 = .ok (.ldc2_w 77, 3) := by decide +kernel
theorem dX12_is_14 : decode cX12_is 14 = .ok (.invokestatic 79, 3) := by decide +kernel
theorem dX12_is_17 : decode cX12_is 17 = .ok (.ifCond .ne 6, 3) := by decide +kernel
theorem dX12_is_20 : decode cX12_is 20 = .ok (.ldc 89, 2) := by decide +kernel
theorem dX12_is_22 : decode cX12_is 22 = .ok (.ireturn, 1) := by decide +kernel
theorem dX12_is_23 : decode cX12_is 23 = .ok (.aload_n 0, 1) := by decide +kernel
theorem dX12_is_24 : decode cX12_is 24 = .ok (.getfield 38, 3) := by decide +kernel
theorem dX12_is_27 : decode cX12_is 27 = .ok (.iload_n 1, 1) := by decide +kernel
theorem dX12_is_28 : decode cX12_is 28 = .ok (.iaload, 1) := by decide +kernel
theorem dX12_is_29 : decode cX12_is 29 = .ok (.istore_n 3, 1) := by decide +kernel
theorem dX12_is_30 : decode cX12_is 30 = .ok (.iload_n 3, 1) := by decide +kernel
theorem dX12_is_31 : decode cX12_is 31 = .ok (.iload_n 2, 1) := by decide +kernel
theorem dX12_is_32 : decode cX12_is 32 = .ok (.if_icmp .eq 27, 3) := by decide +kernel
theorem dX12_is_35 : decode cX12_is 35 = .ok (.iload_n 2, 1) := by decide +kernel
theorem dX12_is_36 : decode cX12_is 36 = .ok (.ifCond .eq 23, 3) := by decide +kernel
theorem dX12_is_39 : decode cX12_is 39 = .ok (.iload_n 2, 1) := by decide +kernel
theorem dX12_is_40 : decode cX12_is 40 = .ok (.iconst 1, 1) := by decide +kernel
theorem dX12_is_41 : decode cX12_is 41 = .ok (.if_icmp .ne 8, 3) := by decide +kernel
theorem dX12_is_44 : decode cX12_is 44 = .ok (.iload_n 3, 1) := by decide +kernel
theorem dX12_is_45 : decode cX12_is 45 = .ok (.iconst 5, 1) := by decide +kernel
theorem dX12_is_46 : decode cX12_is 46 = .ok (.if_icmp .lt 13, 3) := by decide +kernel
theorem dX12_is_49 : decode cX12_is 49 = .ok (.iload_n 2, 1) := by decide +kernel
theorem dX12_is_50 : decode cX12_is 50 = .ok (.iconst 2, 1) := by decide +kernel
theorem dX12_is_51 : decode cX12_is 51 = .ok (.if_icmp .ne 12, 3) := by decide +kernel
theorem dX12_is_54 : decode cX12_is 54 = .ok (.iload_n 3, 1) := by decide +kernel
theorem dX12_is_55 : decode cX12_is 55 = .ok (.iconst 3, 1) := by decide +kernel
theorem dX12_is_56 : decode cX12_is 56 = .ok (.if_icmp .ne 7, 3) := by decide +kernel
theorem dX12_is_59 : decode cX12_is 59 = .ok (.iconst 1, 1) := by decide +kernel
theorem dX12_is_60 : decode cX12_is 60 = .ok (.goto 4, 3) := by decide +kernel
theorem dX12_is_63 : decode cX12_is 63 = .ok (.iconst 0, 1) := by decide +kernel
theorem dX12_is_64 : decode cX12_is 64 = .ok (.ireturn, 1) := by decide +kernel
theorem dX12_spins_0 : decode cX12_spins 0 = .ok (.aload_n 0, 1) := by decide +kernel
theorem dX12_spins_1 : decode cX12_spins 1 = .ok (.iload_n 1, 1) := by decide +kernel
theorem dX12_spins_2 : decode cX12_spins 2 = .ok (.invokevirtual 209, 3) := by decide +kernel
theorem dX12_spins_5 : decode cX12_spins 5 = .ok (.ifCond .ne 6, 3) := by decide +kernel
theorem dX12_spins_8 : decode cX12_spins 8 = .ok (.ldc 89, 2) := by decide +kernel
theorem dX12_spins_10 : decode cX12_spins 10 = .ok (.ireturn, 1) := by decide +kernel
theorem dX12_spins_11 : decode cX12_spins 11 = .ok (.aload_n 0, 1) := by decide +kernel
theorem dX12_spins_12 : decode cX12_spins 12 = .ok (.getfield 38, 3) := by decide +kernel
theorem dX12_spins_15 : decode cX12_spins 15 = .ok (.iload_n 1, 1) := by decide +kernel
theorem dX12_spins_16 : decode cX12_spins 16 = .ok (.iaload, 1) := by decide +kernel
theorem dX12_spins_17 : decode cX12_spins 17 = .ok (.iconst 2, 1) := by decide +kernel
theorem dX12_spins_18 : decode cX12_spins 18 = .ok (.if_icmp .eq 13, 3) := by decide +kernel
theorem dX12_spins_21 : decode cX12_spins 21 = .ok (.aload_n 0, 1) := by decide +kernel
theorem dX12_spins_22 : decode cX12_spins 22 = .ok (.getfield 38, 3) := by decide +kernel
theorem dX12_spins_25 : decode cX12_spins 25 = .ok (.iload_n 1, 1) := by decide +kernel
theorem dX12_spins_26 : decode cX12_spins 26 = .ok (.iaload, 1) := by decide +kernel
theorem dX12_spins_27 : decode cX12_spins 27 = .ok (.iconst 3, 1) := by decide +kernel
theorem dX12_spins_28 : decode cX12_spins 28 = .ok (.if_icmp .ne 16, 3) := by decide +kernel
theorem dX12_spins_31 : decode cX12_spins 31 = .ok (.aload_n 0, 1) := by decide +kernel
theorem dX12_spins_32 : decode cX12_spins 32 = .ok (.aload_n 0, 1) := by decide +kernel
theorem dX12_spins_33 : decode cX12_spins 33 = .ok (.getfield 41, 3) := by decide +kernel
theorem dX12_spins_36 : decode cX12_spins 36 = .ok (.iload_n 1, 1) := by decide +kernel
theorem dX12_spins_37 : decode cX12_spins 37 = .ok (.iaload, 1) := by decide +kernel
theorem dX12_spins_38 : decode cX12_spins 38 = .ok (.invokevirtual 94, 3) := by decide +kernel
theorem dX12_spins_41 : decode cX12_spins 41 = .ok (.goto 8, 3) := by decide +kernel
theorem dX12_spins_44 : decode cX12_spins 44 = .ok (.aload_n 0, 1) := by decide +kernel
theorem dX12_spins_45 : decode cX12_spins 45 = .ok (.iconst 3, 1) := by decide +kernel
theorem dX12_spins_46 : decode cX12_spins 46 = .ok (.invokevirtual 90, 3) := by decide +kernel
theorem dX12_spins_49 : decode cX12_spins 49 = .ok (.ireturn, 1) := by decide +kernel
theorem dX12_begins_0 : decode cX12_begins 0 = .ok (.aload_n 0, 1) := by decide +kernel
theorem dX12_begins_1 : decode cX12_begins 1 = .ok (.getfield 212, 3) := by decide +kernel
theorem dX12_begins_4 : decode cX12_begins 4 = .ok (.bipush 16, 2) := by decide +kernel
theorem dX12_begins_6 : decode cX12_begins 6 = .ok (.if_icmp .ge 23, 3) := by decide +kernel
theorem dX12_begins_9 : decode cX12_begins 9 = .ok (.aload_n 0, 1) := by decide +kernel
theorem dX12_begins_10 : decode cX12_begins 10 = .ok (.getfield 53, 3) := by decide +kernel
theorem dX12_begins_13 : decode cX12_begins 13 = .ok (.aload_n 0, 1) := by decide +kernel
theorem dX12_begins_14 : decode cX12_begins 14 = .ok (.getfield 212, 3) := by decide +kernel
theorem dX12_begins_17 : decode cX12_begins 17 = .ok (.iload_n 1, 1) := by decide +kernel
theorem dX12_begins_18 : decode cX12_begins 18 = .ok (.iastore, 1) := by decide +kernel
theorem dX12_begins_19 : decode cX12_begins 19 = .ok (.aload_n 0, 1) := by decide +kernel
theorem dX12_begins_20 : decode cX12_begins 20 = .ok (.dup, 1) := by decide +kernel
theorem dX12_begins_21 : decode cX12_begins 21 = .ok (.getfield 212, 3) := by decide +kernel
theorem dX12_begins_24 : decode cX12_begins 24 = .ok (.iconst 1, 1) := by decide +kernel
theorem dX12_begins_25 : decode cX12_begins 25 = .ok (.iadd, 1) := by decide +kernel
theorem dX12_begins_26 : decode cX12_begins 26 = .ok (.putfield 212, 3) := by decide +kernel
theorem dX12_begins_29 : decode cX12_begins 29 = .ok (.return_, 1) := by decide +kernel
theorem dX12_cost_0 : decode cX12_cost 0 = .ok (.aload_n 0, 1) := by decide +kernel
theorem dX12_cost_1 : decode cX12_cost 1 = .ok (.getfield 38, 3) := by decide +kernel
theorem dX12_cost_4 : decode cX12_cost 4 = .ok (.iload_n 1, 1) := by decide +kernel
theorem dX12_cost_5 : decode cX12_cost 5 = .ok (.iaload, 1) := by decide +kernel
theorem dX12_cost_6 : decode cX12_cost 6 = .ok (.istore_n 2, 1) := by decide +kernel
theorem dX12_cost_7 : decode cX12_cost 7 = .ok (.iload_n 2, 1) := by decide +kernel
theorem dX12_cost_8 : decode cX12_cost 8 = .ok (.iconst 5, 1) := by decide +kernel
theorem dX12_cost_9 : decode cX12_cost 9 = .ok (.if_icmp .ne 16, 3) := by decide +kernel
theorem dX12_cost_12 : decode cX12_cost 12 = .ok (.aload_n 0, 1) := by decide +kernel
theorem dX12_cost_13 : decode cX12_cost 13 = .ok (.bipush 14, 2) := by decide +kernel
theorem dX12_cost_15 : decode cX12_cost 15 = .ok (.invokevirtual 215, 3) := by decide +kernel
theorem dX12_cost_18 : decode cX12_cost 18 = .ok (.aload_n 0, 1) := by decide +kernel
theorem dX12_cost_19 : decode cX12_cost 19 = .ok (.getfield 41, 3) := by decide +kernel
theorem dX12_cost_22 : decode cX12_cost 22 = .ok (.iload_n 1, 1) := by decide +kernel
theorem dX12_cost_23 : decode cX12_cost 23 = .ok (.iaload, 1) := by decide +kernel
theorem dX12_cost_24 : decode cX12_cost 24 = .ok (.ireturn, 1) := by decide +kernel
theorem dX12_cost_25 : decode cX12_cost 25 = .ok (.iload_n 2, 1) := by decide +kernel
theorem dX12_cost_26 : decode cX12_cost 26 = .ok (.iconst 3, 1) := by decide +kernel
theorem dX12_cost_27 : decode cX12_cost 27 = .ok (.if_icmp .ne 9, 3) := by decide +kernel
theorem dX12_cost_30 : decode cX12_cost 30 = .ok (.aload_n 0, 1) := by decide +kernel
theorem dX12_cost_31 : decode cX12_cost 31 = .ok (.bipush 13, 2) := by decide +kernel
theorem dX12_cost_33 : decode cX12_cost 33 = .ok (.invokevirtual 215, 3) := by decide +kernel
theorem dX12_cost_36 : decode cX12_cost 36 = .ok (.iload_n 2, 1) := by decide +kernel
theorem dX12_cost_37 : decode cX12_cost 37 = .ok (.iconst 3, 1) := by decide +kernel
theorem dX12_cost_38 : decode cX12_cost 38 = .ok (.if_icmp .eq 8, 3) := by decide +kernel
theorem dX12_cost_41 : decode cX12_cost 41 = .ok (.iload_n 2, 1) := by decide +kernel
theorem dX12_cost_42 : decode cX12_cost 42 = .ok (.iconst 2, 1) := by decide +kernel
theorem dX12_cost_43 : decode cX12_cost 43 = .ok (.if_icmp .ne 9, 3) := by decide +kernel
theorem dX12_cost_46 : decode cX12_cost 46 = .ok (.aload_n 0, 1) := by decide +kernel
theorem dX12_cost_47 : decode cX12_cost 47 = .ok (.bipush 12, 2) := by decide +kernel
theorem dX12_cost_49 : decode cX12_cost 49 = .ok (.invokevirtual 215, 3) := by decide +kernel
theorem dX12_cost_52 : decode cX12_cost 52 = .ok (.iload_n 2, 1) := by decide +kernel
theorem dX12_cost_53 : decode cX12_cost 53 = .ok (.iconst 5, 1) := by decide +kernel
theorem dX12_cost_54 : decode cX12_cost 54 = .ok (.if_icmp .ge 9, 3) := by decide +kernel
theorem dX12_cost_57 : decode cX12_cost 57 = .ok (.aload_n 0, 1) := by decide +kernel
theorem dX12_cost_58 : decode cX12_cost 58 = .ok (.bipush 11, 2) := by decide +kernel
theorem dX12_cost_60 : decode cX12_cost 60 = .ok (.invokevirtual 215, 3) := by decide +kernel
theorem dX12_cost_63 : decode cX12_cost 63 = .ok (.aload_n 0, 1) := by decide +kernel
theorem dX12_cost_64 : decode cX12_cost 64 = .ok (.bipush 10, 2) := by decide +kernel
theorem dX12_cost_66 : decode cX12_cost 66 = .ok (.invokevirtual 215, 3) := by decide +kernel
theorem dX12_cost_69 : decode cX12_cost 69 = .ok (.iload_n 2, 1) := by decide +kernel
theorem dX12_cost_70 : decode cX12_cost 70 = .ok (.iconst 5, 1) := by decide +kernel
theorem dX12_cost_71 : decode cX12_cost 71 = .ok (.if_icmp .ge 7, 3) := by decide +kernel
theorem dX12_cost_74 : decode cX12_cost 74 = .ok (.iconst 2, 1) := by decide +kernel
theorem dX12_cost_75 : decode cX12_cost 75 = .ok (.goto 4, 3) := by decide +kernel
theorem dX12_cost_78 : decode cX12_cost 78 = .ok (.iconst 1, 1) := by decide +kernel
theorem dX12_cost_79 : decode cX12_cost 79 = .ok (.istore_n 3, 1) := by decide +kernel
theorem dX12_cost_80 : decode cX12_cost 80 = .ok (.iload_n 2, 1) := by decide +kernel
theorem dX12_cost_81 : decode cX12_cost 81 = .ok (.iconst 4, 1) := by decide +kernel
theorem dX12_cost_82 : decode cX12_cost 82 = .ok (.if_icmp .ge 45, 3) := by decide +kernel
theorem dX12_cost_85 : decode cX12_cost 85 = .ok (.iconst 0, 1) := by decide +kernel
theorem dX12_cost_86 : decode cX12_cost 86 = .ok (.istore 4, 2) := by decide +kernel
theorem dX12_cost_88 : decode cX12_cost 88 = .ok (.iconst 0, 1) := by decide +kernel
theorem dX12_cost_89 : decode cX12_cost 89 = .ok (.istore 5, 2) := by decide +kernel
theorem dX12_cost_91 : decode cX12_cost 91 = .ok (.iload 5, 2) := by decide +kernel
theorem dX12_cost_93 : decode cX12_cost 93 = .ok (.aload_n 0, 1) := by decide +kernel
theorem dX12_cost_94 : decode cX12_cost 94 = .ok (.getfield 67, 3) := by decide +kernel
theorem dX12_cost_97 : decode cX12_cost 97 = .ok (.if_icmp .ge 25, 3) := by decide +kernel
theorem dX12_cost_100 : decode cX12_cost 100 = .ok (.iload 4, 2) := by decide +kernel
theorem dX12_cost_102 : decode cX12_cost 102 = .ok (.aload_n 0, 1) := by decide +kernel
theorem dX12_cost_103 : decode cX12_cost 103 = .ok (.getfield 41, 3) := by decide +kernel
theorem dX12_cost_106 : decode cX12_cost 106 = .ok (.iload_n 1, 1) := by decide +kernel
theorem dX12_cost_107 : decode cX12_cost 107 = .ok (.iaload, 1) := by decide +kernel
theorem dX12_cost_108 : decode cX12_cost 108 = .ok (.iload 5, 2) := by decide +kernel
theorem dX12_cost_110 : decode cX12_cost 110 = .ok (.ishr, 1) := by decide +kernel
theorem dX12_cost_111 : decode cX12_cost 111 = .ok (.iconst 1, 1) := by decide +kernel
theorem dX12_cost_112 : decode cX12_cost 112 = .ok (.iand, 1) := by decide +kernel
theorem dX12_cost_113 : decode cX12_cost 113 = .ok (.iadd, 1) := by decide +kernel
theorem dX12_cost_114 : decode cX12_cost 114 = .ok (.istore 4, 2) := by decide +kernel
theorem dX12_cost_116 : decode cX12_cost 116 = .ok (.iinc 5 1, 3) := by decide +kernel
theorem dX12_cost_119 : decode cX12_cost 119 = .ok (.goto (-28), 3) := by decide +kernel
theorem dX12_cost_122 : decode cX12_cost 122 = .ok (.iload_n 3, 1) := by decide +kernel
theorem dX12_cost_123 : decode cX12_cost 123 = .ok (.iload 4, 2) := by decide +kernel
theorem dX12_cost_125 : decode cX12_cost 125 = .ok (.imul, 1) := by decide +kernel
theorem dX12_cost_126 : decode cX12_cost 126 = .ok (.istore_n 3, 1) := by decide +kernel
theorem dX12_cost_127 : decode cX12_cost 127 = .ok (.iload_n 2, 1) := by decide +kernel
theorem dX12_cost_128 : decode cX12_cost 128 = .ok (.iconst 3, 1) := by decide +kernel
theorem dX12_cost_129 : decode cX12_cost 129 = .ok (.if_icmp .ne 13, 3) := by decide +kernel
theorem dX12_cost_132 : decode cX12_cost 132 = .ok (.iload_n 3, 1) := by decide +kernel
theorem dX12_cost_133 : decode cX12_cost 133 = .ok (.aload_n 0, 1) := by decide +kernel
theorem dX12_cost_134 : decode cX12_cost 134 = .ok (.iload_n 1, 1) := by decide +kernel
theorem dX12_cost_135 : decode cX12_cost 135 = .ok (.invokevirtual 219, 3) := by decide +kernel
theorem dX12_cost_138 : decode cX12_cost 138 = .ok (.iadd, 1) := by decide +kernel
theorem dX12_cost_139 : decode cX12_cost 139 = .ok (.goto 4, 3) := by decide +kernel
theorem dX12_cost_142 : decode cX12_cost 142 = .ok (.iload_n 3, 1) := by decide +kernel
theorem dX12_cost_143 : decode cX12_cost 143 = .ok (.ireturn, 1) := by decide +kernel
theorem dX12_mark2_0 : decode cX12_mark2 0 = .ok (.aload_n 0, 1) := by decide +kernel
theorem dX12_mark2_1 : decode cX12_mark2 1 = .ok (.bipush 23, 2) := by decide +kernel
theorem dX12_mark2_3 : decode cX12_mark2 3 = .ok (.invokevirtual 215, 3) := by decide +kernel
theorem dX12_mark2_6 : decode cX12_mark2 6 = .ok (.aload_n 0, 1) := by decide +kernel
theorem dX12_mark2_7 : decode cX12_mark2 7 = .ok (.getfield 50, 3) := by decide +kernel
theorem dX12_mark2_10 : decode cX12_mark2 10 = .ok (.iload_n 1, 1) := by decide +kernel
theorem dX12_mark2_11 : decode cX12_mark2 11 = .ok (.iaload, 1) := by decide +kernel
theorem dX12_mark2_12 : decode cX12_mark2 12 = .ok (.ireturn, 1) := by decide +kernel
theorem dX12_mark_0 : decode cX12_mark 0 = .ok (.aload_n 0, 1) := by decide +kernel
theorem dX12_mark_1 : decode cX12_mark 1 = .ok (.getfield 38, 3) := by decide +kernel
theorem dX12_mark_4 : decode cX12_mark 4 = .ok (.iload_n 1, 1) := by decide +kernel
theorem dX12_mark_5 : decode cX12_mark 5 = .ok (.iaload, 1) := by decide +kernel
theorem dX12_mark_6 : decode cX12_mark 6 = .ok (.istore_n 2, 1) := by decide +kernel
theorem dX12_mark_7 : decode cX12_mark 7 = .ok (.iload_n 2, 1) := by decide +kernel
theorem dX12_mark_8 : decode cX12_mark 8 = .ok (.iconst 3, 1) := by decide +kernel
theorem dX12_mark_9 : decode cX12_mark 9 = .ok (.if_icmp .ne 9, 3) := by decide +kernel
theorem dX12_mark_12 : decode cX12_mark 12 = .ok (.aload_n 0, 1) := by decide +kernel
theorem dX12_mark_13 : decode cX12_mark 13 = .ok (.iload_n 1, 1) := by decide +kernel
theorem dX12_mark_14 : decode cX12_mark 14 = .ok (.invokevirtual 219, 3) := by decide +kernel
theorem dX12_mark_17 : decode cX12_mark 17 = .ok (.ireturn, 1) := by decide +kernel
theorem dX12_mark_18 : decode cX12_mark 18 = .ok (.iload_n 2, 1) := by decide +kernel
theorem dX12_mark_19 : decode cX12_mark 19 = .ok (.iconst 4, 1) := by decide +kernel
theorem dX12_mark_20 : decode cX12_mark 20 = .ok (.if_icmp .ne 9, 3) := by decide +kernel
theorem dX12_mark_23 : decode cX12_mark 23 = .ok (.aload_n 0, 1) := by decide +kernel
theorem dX12_mark_24 : decode cX12_mark 24 = .ok (.bipush 22, 2) := by decide +kernel
theorem dX12_mark_26 : decode cX12_mark 26 = .ok (.invokevirtual 215, 3) := by decide +kernel
theorem dX12_mark_29 : decode cX12_mark 29 = .ok (.iload_n 2, 1) := by decide +kernel
theorem dX12_mark_30 : decode cX12_mark 30 = .ok (.iconst 5, 1) := by decide +kernel
theorem dX12_mark_31 : decode cX12_mark 31 = .ok (.if_icmp .ge 9, 3) := by decide +kernel
theorem dX12_mark_34 : decode cX12_mark 34 = .ok (.aload_n 0, 1) := by decide +kernel
theorem dX12_mark_35 : decode cX12_mark 35 = .ok (.bipush 21, 2) := by decide +kernel
theorem dX12_mark_37 : decode cX12_mark 37 = .ok (.invokevirtual 215, 3) := by decide +kernel
theorem dX12_mark_40 : decode cX12_mark 40 = .ok (.iload_n 2, 1) := by decide +kernel
theorem dX12_mark_41 : decode cX12_mark 41 = .ok (.bipush 7, 2) := by decide +kernel
theorem dX12_mark_43 : decode cX12_mark 43 = .ok (.if_icmp .ne 9, 3) := by decide +kernel
theorem dX12_mark_46 : decode cX12_mark 46 = .ok (.aload_n 0, 1) := by decide +kernel
theorem dX12_mark_47 : decode cX12_mark 47 = .ok (.bipush 24, 2) := by decide +kernel
theorem dX12_mark_49 : decode cX12_mark 49 = .ok (.invokevirtual 215, 3) := by decide +kernel
theorem dX12_mark_52 : decode cX12_mark 52 = .ok (.aload_n 0, 1) := by decide +kernel
theorem dX12_mark_53 : decode cX12_mark 53 = .ok (.bipush 20, 2) := by decide +kernel
theorem dX12_mark_55 : decode cX12_mark 55 = .ok (.invokevirtual 215, 3) := by decide +kernel
theorem dX12_mark_58 : decode cX12_mark 58 = .ok (.iload_n 1, 1) := by decide +kernel
theorem dX12_mark_59 : decode cX12_mark 59 = .ok (.istore_n 3, 1) := by decide +kernel
theorem dX12_mark_60 : decode cX12_mark 60 = .ok (.iload_n 3, 1) := by decide +kernel
theorem dX12_mark_61 : decode cX12_mark 61 = .ok (.iload_n 2, 1) := by decide +kernel
theorem dX12_mark_62 : decode cX12_mark 62 = .ok (.iconst 5, 1) := by decide +kernel
theorem dX12_mark_63 : decode cX12_mark 63 = .ok (.if_icmp .ge 11, 3) := by decide +kernel
theorem dX12_mark_66 : decode cX12_mark 66 = .ok (.aload_n 0, 1) := by decide +kernel
theorem dX12_mark_67 : decode cX12_mark 67 = .ok (.iload_n 1, 1) := by decide +kernel
theorem dX12_mark_68 : decode cX12_mark 68 = .ok (.invokevirtual 222, 3) := by decide +kernel
theorem dX12_mark_71 : decode cX12_mark 71 = .ok (.goto 4, 3) := by decide +kernel
theorem dX12_mark_74 : decode cX12_mark 74 = .ok (.iconst 0, 1) := by decide +kernel
theorem dX12_mark_75 : decode cX12_mark 75 = .ok (.iadd, 1) := by decide +kernel
theorem dX12_mark_76 : decode cX12_mark 76 = .ok (.istore_n 3, 1) := by decide +kernel
theorem dX12_mark_77 : decode cX12_mark 77 = .ok (.iload_n 2, 1) := by decide +kernel
theorem dX12_mark_78 : decode cX12_mark 78 = .ok (.iconst 4, 1) := by decide +kernel
theorem dX12_mark_79 : decode cX12_mark 79 = .ok (.if_icmp .ne 14, 3) := by decide +kernel
theorem dX12_mark_82 : decode cX12_mark 82 = .ok (.iload_n 3, 1) := by decide +kernel
theorem dX12_mark_83 : decode cX12_mark 83 = .ok (.aload_n 0, 1) := by decide +kernel
theorem dX12_mark_84 : decode cX12_mark 84 = .ok (.getfield 44, 3) := by decide +kernel
theorem dX12_mark_87 : decode cX12_mark 87 = .ok (.iload_n 1, 1) := by decide +kernel
theorem dX12_mark_88 : decode cX12_mark 88 = .ok (.iaload, 1) := by decide +kernel
theorem dX12_mark_89 : decode cX12_mark 89 = .ok (.iadd, 1) := by decide +kernel
theorem dX12_mark_90 : decode cX12_mark 90 = .ok (.goto 21, 3) := by decide +kernel
theorem dX12_mark_93 : decode cX12_mark 93 = .ok (.iload_n 2, 1) := by decide +kernel
theorem dX12_mark_94 : decode cX12_mark 94 = .ok (.bipush 7, 2) := by decide +kernel
theorem dX12_mark_96 : decode cX12_mark 96 = .ok (.if_icmp .ne 14, 3) := by decide +kernel
theorem dX12_mark_99 : decode cX12_mark 99 = .ok (.iload_n 3, 1) := by decide +kernel
theorem dX12_mark_100 : decode cX12_mark 100 = .ok (.aload_n 0, 1) := by decide +kernel
theorem dX12_mark_101 : decode cX12_mark 101 = .ok (.getfield 41, 3) := by decide +kernel
theorem dX12_mark_104 : decode cX12_mark 104 = .ok (.iload_n 1, 1) := by decide +kernel
theorem dX12_mark_105 : decode cX12_mark 105 = .ok (.iaload, 1) := by decide +kernel
theorem dX12_mark_106 : decode cX12_mark 106 = .ok (.iadd, 1) := by decide +kernel
theorem dX12_mark_107 : decode cX12_mark 107 = .ok (.goto 4, 3) := by decide +kernel
theorem dX12_mark_110 : decode cX12_mark 110 = .ok (.iload_n 3, 1) := by decide +kernel
theorem dX12_mark_111 : decode cX12_mark 111 = .ok (.ireturn, 1) := by decide +kernel
theorem dX12_ask_0 : decode cX12_ask 0 = .ok (.aload_n 0, 1) := by decide +kernel
theorem dX12_ask_1 : decode cX12_ask 1 = .ok (.iload_n 1, 1) := by decide +kernel
theorem dX12_ask_2 : decode cX12_ask 2 = .ok (.invokevirtual 209, 3) := by decide +kernel
theorem dX12_ask_5 : decode cX12_ask 5 = .ok (.ifCond .eq 13, 3) := by decide +kernel
theorem dX12_ask_8 : decode cX12_ask 8 = .ok (.iload_n 2, 1) := by decide +kernel
theorem dX12_ask_9 : decode cX12_ask 9 = .ok (.i2l, 1) := by decide +kernel
theorem dX12_ask_10 : decode cX12_ask 10 = .ok (.lconst 0, 1) := by decide +kernel
theorem dX12_ask_11 : decode cX12_ask 11 = .ok (.lconst 1, 1) := by decide +kernel
theorem dX12_ask_12 : decode cX12_ask 12 = .ok (.invokestatic 79, 3) := by decide +kernel
theorem dX12_ask_15 : decode cX12_ask 15 = .ok (.ifCond .ne 6, 3) := by decide +kernel
theorem dX12_ask_18 : decode cX12_ask 18 = .ok (.ldc 89, 2) := by decide +kernel
theorem dX12_ask_20 : decode cX12_ask 20 = .ok (.ireturn, 1) := by decide +kernel
theorem dX12_ask_21 : decode cX12_ask 21 = .ok (.aload_n 0, 1) := by decide +kernel
theorem dX12_ask_22 : decode cX12_ask 22 = .ok (.iconst 0, 1) := by decide +kernel
theorem dX12_ask_23 : decode cX12_ask 23 = .ok (.putfield 212, 3) := by decide +kernel
theorem dX12_ask_26 : decode cX12_ask 26 = .ok (.iload_n 2, 1) := by decide +kernel
theorem dX12_ask_27 : decode cX12_ask 27 = .ok (.ifCond .ne 11, 3) := by decide +kernel
theorem dX12_ask_30 : decode cX12_ask 30 = .ok (.aload_n 0, 1) := by decide +kernel
theorem dX12_ask_31 : decode cX12_ask 31 = .ok (.iload_n 1, 1) := by decide +kernel
theorem dX12_ask_32 : decode cX12_ask 32 = .ok (.invokevirtual 222, 3) := by decide +kernel
theorem dX12_ask_35 : decode cX12_ask 35 = .ok (.goto 8, 3) := by decide +kernel
theorem dX12_ask_38 : decode cX12_ask 38 = .ok (.aload_n 0, 1) := by decide +kernel
theorem dX12_ask_39 : decode cX12_ask 39 = .ok (.iload_n 1, 1) := by decide +kernel
theorem dX12_ask_40 : decode cX12_ask 40 = .ok (.invokevirtual 225, 3) := by decide +kernel
theorem dX12_ask_43 : decode cX12_ask 43 = .ok (.ireturn, 1) := by decide +kernel
theorem dX12_trace_0 : decode cX12_trace 0 = .ok (.iload_n 1, 1) := by decide +kernel
theorem dX12_trace_1 : decode cX12_trace 1 = .ok (.i2l, 1) := by decide +kernel
theorem dX12_trace_2 : decode cX12_trace 2 = .ok (.lconst 0, 1) := by decide +kernel
theorem dX12_trace_3 : decode cX12_trace 3 = .ok (.aload_n 0, 1) := by decide +kernel
theorem dX12_trace_4 : decode cX12_trace 4 = .ok (.getfield 212, 3) := by decide +kernel
theorem dX12_trace_7 : decode cX12_trace 7 = .ok (.iconst 1, 1) := by decide +kernel
theorem dX12_trace_8 : decode cX12_trace 8 = .ok (.isub, 1) := by decide +kernel
theorem dX12_trace_9 : decode cX12_trace 9 = .ok (.i2l, 1) := by decide +kernel
theorem dX12_trace_10 : decode cX12_trace 10 = .ok (.invokestatic 79, 3) := by decide +kernel
theorem dX12_trace_13 : decode cX12_trace 13 = .ok (.ifCond .eq 12, 3) := by decide +kernel
theorem dX12_trace_16 : decode cX12_trace 16 = .ok (.aload_n 0, 1) := by decide +kernel
theorem dX12_trace_17 : decode cX12_trace 17 = .ok (.getfield 53, 3) := by decide +kernel
theorem dX12_trace_20 : decode cX12_trace 20 = .ok (.iload_n 1, 1) := by decide +kernel
theorem dX12_trace_21 : decode cX12_trace 21 = .ok (.iaload, 1) := by decide +kernel
theorem dX12_trace_22 : decode cX12_trace 22 = .ok (.goto 5, 3) := by decide +kernel
theorem dX12_trace_25 : decode cX12_trace 25 = .ok (.ldc 56, 2) := by decide +kernel
theorem dX12_trace_27 : decode cX12_trace 27 = .ok (.ireturn, 1) := by decide +kernel
theorem dX12_doPulse_0 : decode cX12_doPulse 0 = .ok (.iconst 0, 1) := by decide +kernel
theorem dX12_doPulse_1 : decode cX12_doPulse 1 = .ok (.istore_n 3, 1) := by decide +kernel
theorem dX12_doPulse_2 : decode cX12_doPulse 2 = .ok (.iload_n 3, 1) := by decide +kernel
theorem dX12_doPulse_3 : decode cX12_doPulse 3 = .ok (.aload_n 0, 1) := by decide +kernel
theorem dX12_doPulse_4 : decode cX12_doPulse 4 = .ok (.getfield 67, 3) := by decide +kernel
theorem dX12_doPulse_7 : decode cX12_doPulse 7 = .ok (.if_icmp .ge 70, 3) := by decide +kernel
theorem dX12_doPulse_10 : decode cX12_doPulse 10 = .ok (.aload_n 0, 1) := by decide +kernel
theorem dX12_doPulse_11 : decode cX12_doPulse 11 = .ok (.getfield 41, 3) := by decide +kernel
theorem dX12_doPulse_14 : decode cX12_doPulse 14 = .ok (.iload_n 1, 1) := by decide +kernel
theorem dX12_doPulse_15 : decode cX12_doPulse 15 = .ok (.iaload, 1) := by decide +kernel
theorem dX12_doPulse_16 : decode cX12_doPulse 16 = .ok (.iload_n 3, 1) := by decide +kernel
theorem dX12_doPulse_17 : decode cX12_doPulse 17 = .ok (.ishr, 1) := by decide +kernel
theorem dX12_doPulse_18 : decode cX12_doPulse 18 = .ok (.iconst 1, 1) := by decide +kernel
theorem dX12_doPulse_19 : decode cX12_doPulse 19 = .ok (.iand, 1) := by decide +kernel
theorem dX12_doPulse_20 : decode cX12_doPulse 20 = .ok (.iconst 1, 1) := by decide +kernel
theorem dX12_doPulse_21 : decode cX12_doPulse 21 = .ok (.if_icmp .ne 50, 3) := by decide +kernel
theorem dX12_doPulse_24 : decode cX12_doPulse 24 = .ok (.iload_n 2, 1) := by decide +kernel
theorem dX12_doPulse_25 : decode cX12_doPulse 25 = .ok (.iconst 2, 1) := by decide +kernel
theorem dX12_doPulse_26 : decode cX12_doPulse 26 = .ok (.irem, 1) := by decide +kernel
theorem dX12_doPulse_27 : decode cX12_doPulse 27 = .ok (.ifCond .ne 7, 3) := by decide +kernel
theorem dX12_doPulse_30 : decode cX12_doPulse 30 = .ok (.iconst 1, 1) := by decide +kernel
theorem dX12_doPulse_31 : decode cX12_doPulse 31 = .ok (.goto 4, 3) := by decide +kernel
theorem dX12_doPulse_34 : decode cX12_doPulse 34 = .ok (.iconst 2, 1) := by decide +kernel
theorem dX12_doPulse_35 : decode cX12_doPulse 35 = .ok (.istore 4, 2) := by decide +kernel
theorem dX12_doPulse_37 : decode cX12_doPulse 37 = .ok (.aload_n 0, 1) := by decide +kernel
theorem dX12_doPulse_38 : decode cX12_doPulse 38 = .ok (.iload 4, 2) := by decide +kernel
theorem dX12_doPulse_40 : decode cX12_doPulse 40 = .ok (.iconst 2, 1) := by decide +kernel
theorem dX12_doPulse_41 : decode cX12_doPulse 41 = .ok (.iload_n 3, 1) := by decide +kernel
theorem dX12_doPulse_42 : decode cX12_doPulse 42 = .ok (.imul, 1) := by decide +kernel
theorem dX12_doPulse_43 : decode cX12_doPulse 43 = .ok (.ishl, 1) := by decide +kernel
theorem dX12_doPulse_44 : decode cX12_doPulse 44 = .ok (.iload_n 2, 1) := by decide +kernel
theorem dX12_doPulse_45 : decode cX12_doPulse 45 = .ok (.iconst 2, 1) := by decide +kernel
theorem dX12_doPulse_46 : decode cX12_doPulse 46 = .ok (.if_icmp .ge 12, 3) := by decide +kernel
theorem dX12_doPulse_49 : decode cX12_doPulse 49 = .ok (.aload_n 0, 1) := by decide +kernel
theorem dX12_doPulse_50 : decode cX12_doPulse 50 = .ok (.getfield 47, 3) := by decide +kernel
theorem dX12_doPulse_53 : decode cX12_doPulse 53 = .ok (.iload_n 1, 1) := by decide +kernel
theorem dX12_doPulse_54 : decode cX12_doPulse 54 = .ok (.iaload, 1) := by decide +kernel
theorem dX12_doPulse_55 : decode cX12_doPulse 55 = .ok (.goto 13, 3) := by decide +kernel
theorem dX12_doPulse_58 : decode cX12_doPulse 58 = .ok (.iconst 4, 1) := by decide +kernel
theorem dX12_doPulse_59 : decode cX12_doPulse 59 = .ok (.aload_n 0, 1) := by decide +kernel
theorem dX12_doPulse_60 : decode cX12_doPulse 60 = .ok (.getfield 47, 3) := by decide +kernel
theorem dX12_doPulse_63 : decode cX12_doPulse 63 = .ok (.iload_n 1, 1) := by decide +kernel
theorem dX12_doPulse_64 : decode cX12_doPulse 64 = .ok (.iaload, 1) := by decide +kernel
theorem dX12_doPulse_65 : decode cX12_doPulse 65 = .ok (.isub, 1) := by decide +kernel
theorem dX12_doPulse_66 : decode cX12_doPulse 66 = .ok (.iconst 4, 1) := by decide +kernel
theorem dX12_doPulse_67 : decode cX12_doPulse 67 = .ok (.irem, 1) := by decide +kernel
theorem dX12_doPulse_68 : decode cX12_doPulse 68 = .ok (.invokevirtual 168, 3) := by decide +kernel
theorem dX12_doPulse_71 : decode cX12_doPulse 71 = .ok (.iinc 3 1, 3) := by decide +kernel
theorem dX12_doPulse_74 : decode cX12_doPulse 74 = .ok (.goto (-72), 3) := by decide +kernel
theorem dX12_doPulse_77 : decode cX12_doPulse 77 = .ok (.return_, 1) := by decide +kernel
theorem dX12_does_0 : decode cX12_does 0 = .ok (.aload_n 0, 1) := by decide +kernel
theorem dX12_does_1 : decode cX12_does 1 = .ok (.getfield 38, 3) := by decide +kernel
theorem dX12_does_4 : decode cX12_does 4 = .ok (.iload_n 1, 1) := by decide +kernel
theorem dX12_does_5 : decode cX12_does 5 = .ok (.iaload, 1) := by decide +kernel
theorem dX12_does_6 : decode cX12_does 6 = .ok (.tableswitch 205 2 7 #[38, 51, 145, 205, 205, 177], 38) := by decide +kernel
theorem dX12_does_44 : decode cX12_does 44 = .ok (.aload_n 0, 1) := by decide +kernel
theorem dX12_does_45 : decode cX12_does 45 = .ok (.iload_n 1, 1) := by decide +kernel
theorem dX12_does_46 : decode cX12_does 46 = .ok (.aload_n 0, 1) := by decide +kernel
theorem dX12_does_47 : decode cX12_does 47 = .ok (.getfield 44, 3) := by decide +kernel
theorem dX12_does_50 : decode cX12_does 50 = .ok (.iload_n 1, 1) := by decide +kernel
theorem dX12_does_51 : decode cX12_does 51 = .ok (.iaload, 1) := by decide +kernel
theorem dX12_does_52 : decode cX12_does 52 = .ok (.invokevirtual 228, 3) := by decide +kernel
theorem dX12_does_55 : decode cX12_does 55 = .ok (.iconst 0, 1) := by decide +kernel
theorem dX12_does_56 : decode cX12_does 56 = .ok (.ireturn, 1) := by decide +kernel
theorem dX12_does_57 : decode cX12_does 57 = .ok (.aload_n 0, 1) := by decide +kernel
theorem dX12_does_58 : decode cX12_does 58 = .ok (.getfield 231, 3) := by decide +kernel
theorem dX12_does_61 : decode cX12_does 61 = .ok (.ifCond .ne 7, 3) := by decide +kernel
theorem dX12_does_64 : decode cX12_does 64 = .ok (.iconst 0, 1) := by decide +kernel
theorem dX12_does_65 : decode cX12_does 65 = .ok (.goto 14, 3) := by decide +kernel
theorem dX12_does_68 : decode cX12_does 68 = .ok (.aload_n 0, 1) := by decide +kernel
theorem dX12_does_69 : decode cX12_does 69 = .ok (.getfield 64, 3) := by decide +kernel
theorem dX12_does_72 : decode cX12_does 72 = .ok (.aload_n 0, 1) := by decide +kernel
theorem dX12_does_73 : decode cX12_does 73 = .ok (.getfield 231, 3) := by decide +kernel
theorem dX12_does_76 : decode cX12_does 76 = .ok (.iconst 1, 1) := by decide +kernel
theorem dX12_does_77 : decode cX12_does 77 = .ok (.isub, 1) := by decide +kernel
theorem dX12_does_78 : decode cX12_does 78 = .ok (.iaload, 1) := by decide +kernel
theorem dX12_does_79 : decode cX12_does 79 = .ok (.istore_n 2, 1) := by decide +kernel
theorem dX12_does_80 : decode cX12_does 80 = .ok (.aload_n 0, 1) := by decide +kernel
theorem dX12_does_81 : decode cX12_does 81 = .ok (.getfield 7, 3) := by decide +kernel
theorem dX12_does_84 : decode cX12_does 84 = .ok (.aload_n 0, 1) := by decide +kernel
theorem dX12_does_85 : decode cX12_does 85 = .ok (.getfield 50, 3) := by decide +kernel
theorem dX12_does_88 : decode cX12_does 88 = .ok (.iload_n 1, 1) := by decide +kernel
theorem dX12_does_89 : decode cX12_does 89 = .ok (.iaload, 1) := by decide +kernel
theorem dX12_does_90 : decode cX12_does 90 = .ok (.iaload, 1) := by decide +kernel
theorem dX12_does_91 : decode cX12_does 91 = .ok (.ifCond .ne 5, 3) := by decide +kernel
theorem dX12_does_94 : decode cX12_does 94 = .ok (.iconst 1, 1) := by decide +kernel
theorem dX12_does_95 : decode cX12_does 95 = .ok (.ireturn, 1) := by decide +kernel
theorem dX12_does_96 : decode cX12_does 96 = .ok (.iload_n 2, 1) := by decide +kernel
theorem dX12_does_97 : decode cX12_does 97 = .ok (.aload_n 0, 1) := by decide +kernel
theorem dX12_does_98 : decode cX12_does 98 = .ok (.getfield 13, 3) := by decide +kernel
theorem dX12_does_101 : decode cX12_does 101 = .ok (.aload_n 0, 1) := by decide +kernel
theorem dX12_does_102 : decode cX12_does 102 = .ok (.getfield 50, 3) := by decide +kernel
theorem dX12_does_105 : decode cX12_does 105 = .ok (.iload_n 1, 1) := by decide +kernel
theorem dX12_does_106 : decode cX12_does 106 = .ok (.iaload, 1) := by decide +kernel
theorem dX12_does_107 : decode cX12_does 107 = .ok (.iaload, 1) := by decide +kernel
theorem dX12_does_108 : decode cX12_does 108 = .ok (.if_icmp .lt 5, 3) := by decide +kernel
theorem dX12_does_111 : decode cX12_does 111 = .ok (.iconst 2, 1) := by decide +kernel
theorem dX12_does_112 : decode cX12_does 112 = .ok (.ireturn, 1) := by decide +kernel
theorem dX12_does_113 : decode cX12_does 113 = .ok (.aload_n 0, 1) := by decide +kernel
theorem dX12_does_114 : decode cX12_does 114 = .ok (.getfield 44, 3) := by decide +kernel
theorem dX12_does_117 : decode cX12_does 117 = .ok (.iload_n 1, 1) := by decide +kernel
theorem dX12_does_118 : decode cX12_does 118 = .ok (.iaload, 1) := by decide +kernel
theorem dX12_does_119 : decode cX12_does 119 = .ok (.aload_n 0, 1) := by decide +kernel
theorem dX12_does_120 : decode cX12_does 120 = .ok (.getfield 16, 3) := by decide +kernel
theorem dX12_does_123 : decode cX12_does 123 = .ok (.bipush 60, 2) := by decide +kernel
theorem dX12_does_125 : decode cX12_does 125 = .ok (.aload_n 0, 1) := by decide +kernel
theorem dX12_does_126 : decode cX12_does 126 = .ok (.getfield 50, 3) := by decide +kernel
theorem dX12_does_129 : decode cX12_does 129 = .ok (.iload_n 1, 1) := by decide +kernel
theorem dX12_does_130 : decode cX12_does 130 = .ok (.iaload, 1) := by decide +kernel
theorem dX12_does_131 : decode cX12_does 131 = .ok (.imul, 1) := by decide +kernel
theorem dX12_does_132 : decode cX12_does 132 = .ok (.iload_n 2, 1) := by decide +kernel
theorem dX12_does_133 : decode cX12_does 133 = .ok (.iadd, 1) := by decide +kernel
theorem dX12_does_134 : decode cX12_does 134 = .ok (.iaload, 1) := by decide +kernel
theorem dX12_does_135 : decode cX12_does 135 = .ok (.iconst 4, 1) := by decide +kernel
theorem dX12_does_136 : decode cX12_does 136 = .ok (.irem, 1) := by decide +kernel
theorem dX12_does_137 : decode cX12_does 137 = .ok (.iadd, 1) := by decide +kernel
theorem dX12_does_138 : decode cX12_does 138 = .ok (.iconst 4, 1) := by decide +kernel
theorem dX12_does_139 : decode cX12_does 139 = .ok (.iadd, 1) := by decide +kernel
theorem dX12_does_140 : decode cX12_does 140 = .ok (.iconst 4, 1) := by decide +kernel
theorem dX12_does_141 : decode cX12_does 141 = .ok (.irem, 1) := by decide +kernel
theorem dX12_does_142 : decode cX12_does 142 = .ok (.istore_n 3, 1) := by decide +kernel
theorem dX12_does_143 : decode cX12_does 143 = .ok (.aload_n 0, 1) := by decide +kernel
theorem dX12_does_144 : decode cX12_does 144 = .ok (.iload_n 1, 1) := by decide +kernel
theorem dX12_does_145 : decode cX12_does 145 = .ok (.iload_n 3, 1) := by decide +kernel
theorem dX12_does_146 : decode cX12_does 146 = .ok (.invokevirtual 228, 3) := by decide +kernel
theorem dX12_does_149 : decode cX12_does 149 = .ok (.iconst 0, 1) := by decide +kernel
theorem dX12_does_150 : decode cX12_does 150 = .ok (.ireturn, 1) := by decide +kernel
theorem dX12_does_151 : decode cX12_does 151 = .ok (.aload_n 0, 1) := by decide +kernel
theorem dX12_does_152 : decode cX12_does 152 = .ok (.aload_n 0, 1) := by decide +kernel
theorem dX12_does_153 : decode cX12_does 153 = .ok (.getfield 41, 3) := by decide +kernel
theorem dX12_does_156 : decode cX12_does 156 = .ok (.iload_n 1, 1) := by decide +kernel
theorem dX12_does_157 : decode cX12_does 157 = .ok (.iaload, 1) := by decide +kernel
theorem dX12_does_158 : decode cX12_does 158 = .ok (.aload_n 0, 1) := by decide +kernel
theorem dX12_does_159 : decode cX12_does 159 = .ok (.getfield 44, 3) := by decide +kernel
theorem dX12_does_162 : decode cX12_does 162 = .ok (.iload_n 1, 1) := by decide +kernel
theorem dX12_does_163 : decode cX12_does 163 = .ok (.iaload, 1) := by decide +kernel
theorem dX12_does_164 : decode cX12_does 164 = .ok (.aload_n 0, 1) := by decide +kernel
theorem dX12_does_165 : decode cX12_does 165 = .ok (.getfield 47, 3) := by decide +kernel
theorem dX12_does_168 : decode cX12_does 168 = .ok (.iload_n 1, 1) := by decide +kernel
theorem dX12_does_169 : decode cX12_does 169 = .ok (.iaload, 1) := by decide +kernel
theorem dX12_does_170 : decode cX12_does 170 = .ok (.invokevirtual 174, 3) := by decide +kernel
theorem dX12_does_173 : decode cX12_does 173 = .ok (.ifCond .eq 7, 3) := by decide +kernel
theorem dX12_does_176 : decode cX12_does 176 = .ok (.iconst 0, 1) := by decide +kernel
theorem dX12_does_177 : decode cX12_does 177 = .ok (.goto 5, 3) := by decide +kernel
theorem dX12_does_180 : decode cX12_does 180 = .ok (.ldc 117, 2) := by decide +kernel
theorem dX12_does_182 : decode cX12_does 182 = .ok (.ireturn, 1) := by decide +kernel
theorem dX12_does_183 : decode cX12_does 183 = .ok (.aload_n 0, 1) := by decide +kernel
theorem dX12_does_184 : decode cX12_does 184 = .ok (.aload_n 0, 1) := by decide +kernel
theorem dX12_does_185 : decode cX12_does 185 = .ok (.getfield 41, 3) := by decide +kernel
theorem dX12_does_188 : decode cX12_does 188 = .ok (.iload_n 1, 1) := by decide +kernel
theorem dX12_does_189 : decode cX12_does 189 = .ok (.iaload, 1) := by decide +kernel
theorem dX12_does_190 : decode cX12_does 190 = .ok (.bipush 8, 2) := by decide +kernel
theorem dX12_does_192 : decode cX12_does 192 = .ok (.aload_n 0, 1) := by decide +kernel
theorem dX12_does_193 : decode cX12_does 193 = .ok (.getfield 44, 3) := by decide +kernel
theorem dX12_does_196 : decode cX12_does 196 = .ok (.iload_n 1, 1) := by decide +kernel
theorem dX12_does_197 : decode cX12_does 197 = .ok (.iaload, 1) := by decide +kernel
theorem dX12_does_198 : decode cX12_does 198 = .ok (.invokevirtual 141, 3) := by decide +kernel
theorem dX12_does_201 : decode cX12_does 201 = .ok (.ifCond .eq 7, 3) := by decide +kernel
theorem dX12_does_204 : decode cX12_does 204 = .ok (.iconst 0, 1) := by decide +kernel
theorem dX12_does_205 : decode cX12_does 205 = .ok (.goto 5, 3) := by decide +kernel
theorem dX12_does_208 : decode cX12_does 208 = .ok (.ldc 117, 2) := by decide +kernel
theorem dX12_does_210 : decode cX12_does 210 = .ok (.ireturn, 1) := by decide +kernel
theorem dX12_does_211 : decode cX12_does 211 = .ok (.iconst 0, 1) := by decide +kernel
theorem dX12_does_212 : decode cX12_does 212 = .ok (.ireturn, 1) := by decide +kernel
theorem dX12_run_0 : decode cX12_run 0 = .ok (.aload_n 0, 1) := by decide +kernel
theorem dX12_run_1 : decode cX12_run 1 = .ok (.getfield 205, 3) := by decide +kernel
theorem dX12_run_4 : decode cX12_run 4 = .ok (.ifCond .le 6, 3) := by decide +kernel
theorem dX12_run_7 : decode cX12_run 7 = .ok (.ldc 208, 2) := by decide +kernel
theorem dX12_run_9 : decode cX12_run 9 = .ok (.ireturn, 1) := by decide +kernel
theorem dX12_run_10 : decode cX12_run 10 = .ok (.iconst 0, 1) := by decide +kernel
theorem dX12_run_11 : decode cX12_run 11 = .ok (.istore_n 1, 1) := by decide +kernel
theorem dX12_run_12 : decode cX12_run 12 = .ok (.iload_n 1, 1) := by decide +kernel
theorem dX12_run_13 : decode cX12_run 13 = .ok (.bipush 9, 2) := by decide +kernel
theorem dX12_run_15 : decode cX12_run 15 = .ok (.if_icmp .ge 18, 3) := by decide +kernel
theorem dX12_run_18 : decode cX12_run 18 = .ok (.aload_n 0, 1) := by decide +kernel
theorem dX12_run_19 : decode cX12_run 19 = .ok (.bipush 9, 2) := by decide +kernel
theorem dX12_run_21 : decode cX12_run 21 = .ok (.iload_n 1, 1) := by decide +kernel
theorem dX12_run_22 : decode cX12_run 22 = .ok (.iadd, 1) := by decide +kernel
theorem dX12_run_23 : decode cX12_run 23 = .ok (.iload_n 1, 1) := by decide +kernel
theorem dX12_run_24 : decode cX12_run 24 = .ok (.invokevirtual 133, 3) := by decide +kernel
theorem dX12_run_27 : decode cX12_run 27 = .ok (.iinc 1 1, 3) := by decide +kernel
theorem dX12_run_30 : decode cX12_run 30 = .ok (.goto (-18), 3) := by decide +kernel
theorem dX12_run_33 : decode cX12_run 33 = .ok (.aload_n 0, 1) := by decide +kernel
theorem dX12_run_34 : decode cX12_run 34 = .ok (.iconst 0, 1) := by decide +kernel
theorem dX12_run_35 : decode cX12_run 35 = .ok (.putfield 234, 3) := by decide +kernel
theorem dX12_run_38 : decode cX12_run 38 = .ok (.aload_n 0, 1) := by decide +kernel
theorem dX12_run_39 : decode cX12_run 39 = .ok (.ldc 56, 2) := by decide +kernel
theorem dX12_run_41 : decode cX12_run 41 = .ok (.putfield 57, 3) := by decide +kernel
theorem dX12_run_44 : decode cX12_run 44 = .ok (.aload_n 0, 1) := by decide +kernel
theorem dX12_run_45 : decode cX12_run 45 = .ok (.iconst 0, 1) := by decide +kernel
theorem dX12_run_46 : decode cX12_run 46 = .ok (.putfield 231, 3) := by decide +kernel
theorem dX12_run_49 : decode cX12_run 49 = .ok (.iconst 0, 1) := by decide +kernel
theorem dX12_run_50 : decode cX12_run 50 = .ok (.istore_n 1, 1) := by decide +kernel
theorem dX12_run_51 : decode cX12_run 51 = .ok (.iconst 0, 1) := by decide +kernel
theorem dX12_run_52 : decode cX12_run 52 = .ok (.istore_n 2, 1) := by decide +kernel
theorem dX12_run_53 : decode cX12_run 53 = .ok (.iload_n 1, 1) := by decide +kernel
theorem dX12_run_54 : decode cX12_run 54 = .ok (.aload_n 0, 1) := by decide +kernel
theorem dX12_run_55 : decode cX12_run 55 = .ok (.getfield 193, 3) := by decide +kernel
theorem dX12_run_58 : decode cX12_run 58 = .ok (.if_icmp .ge 183, 3) := by decide +kernel
theorem dX12_run_61 : decode cX12_run 61 = .ok (.iload_n 2, 1) := by decide +kernel
theorem dX12_run_62 : decode cX12_run 62 = .ok (.ifCond .ne 179, 3) := by decide +kernel
theorem dX12_run_65 : decode cX12_run 65 = .ok (.aload_n 0, 1) := by decide +kernel
theorem dX12_run_66 : decode cX12_run 66 = .ok (.getfield 234, 3) := by decide +kernel
theorem dX12_run_69 : decode cX12_run 69 = .ok (.sipush 500, 3) := by decide +kernel
theorem dX12_run_72 : decode cX12_run 72 = .ok (.if_icmp .ne 9, 3) := by decide +kernel
theorem dX12_run_75 : decode cX12_run 75 = .ok (.ldc 117, 2) := by decide +kernel
theorem dX12_run_77 : decode cX12_run 77 = .ok (.istore_n 2, 1) := by decide +kernel
theorem dX12_run_78 : decode cX12_run 78 = .ok (.goto (-25), 3) := by decide +kernel
theorem dX12_run_81 : decode cX12_run 81 = .ok (.aload_n 0, 1) := by decide +kernel
theorem dX12_run_82 : decode cX12_run 82 = .ok (.iload_n 1, 1) := by decide +kernel
theorem dX12_run_83 : decode cX12_run 83 = .ok (.putfield 57, 3) := by decide +kernel
theorem dX12_run_86 : decode cX12_run 86 = .ok (.aload_n 0, 1) := by decide +kernel
theorem dX12_run_87 : decode cX12_run 87 = .ok (.iload_n 1, 1) := by decide +kernel
theorem dX12_run_88 : decode cX12_run 88 = .ok (.invokevirtual 237, 3) := by decide +kernel
theorem dX12_run_91 : decode cX12_run 91 = .ok (.istore_n 2, 1) := by decide +kernel
theorem dX12_run_92 : decode cX12_run 92 = .ok (.iload_n 2, 1) := by decide +kernel
theorem dX12_run_93 : decode cX12_run 93 = .ok (.ifCond .ne (-40), 3) := by decide +kernel
theorem dX12_run_96 : decode cX12_run 96 = .ok (.aload_n 0, 1) := by decide +kernel
theorem dX12_run_97 : decode cX12_run 97 = .ok (.dup, 1) := by decide +kernel
theorem dX12_run_98 : decode cX12_run 98 = .ok (.getfield 234, 3) := by decide +kernel
theorem dX12_run_101 : decode cX12_run 101 = .ok (.iconst 1, 1) := by decide +kernel
theorem dX12_run_102 : decode cX12_run 102 = .ok (.iadd, 1) := by decide +kernel
theorem dX12_run_103 : decode cX12_run 103 = .ok (.putfield 234, 3) := by decide +kernel
theorem dX12_run_106 : decode cX12_run 106 = .ok (.iload_n 1, 1) := by decide +kernel
theorem dX12_run_107 : decode cX12_run 107 = .ok (.iconst 1, 1) := by decide +kernel
theorem dX12_run_108 : decode cX12_run 108 = .ok (.iadd, 1) := by decide +kernel
theorem dX12_run_109 : decode cX12_run 109 = .ok (.istore_n 3, 1) := by decide +kernel
theorem dX12_run_110 : decode cX12_run 110 = .ok (.aload_n 0, 1) := by decide +kernel
theorem dX12_run_111 : decode cX12_run 111 = .ok (.getfield 38, 3) := by decide +kernel
theorem dX12_run_114 : decode cX12_run 114 = .ok (.iload_n 1, 1) := by decide +kernel
theorem dX12_run_115 : decode cX12_run 115 = .ok (.iaload, 1) := by decide +kernel
theorem dX12_run_116 : decode cX12_run 116 = .ok (.iconst 5, 1) := by decide +kernel
theorem dX12_run_117 : decode cX12_run 117 = .ok (.if_icmp .ne 36, 3) := by decide +kernel
theorem dX12_run_120 : decode cX12_run 120 = .ok (.aload_n 0, 1) := by decide +kernel
theorem dX12_run_121 : decode cX12_run 121 = .ok (.getfield 61, 3) := by decide +kernel
theorem dX12_run_124 : decode cX12_run 124 = .ok (.aload_n 0, 1) := by decide +kernel
theorem dX12_run_125 : decode cX12_run 125 = .ok (.getfield 231, 3) := by decide +kernel
theorem dX12_run_128 : decode cX12_run 128 = .ok (.iload_n 1, 1) := by decide +kernel
theorem dX12_run_129 : decode cX12_run 129 = .ok (.iastore, 1) := by decide +kernel
theorem dX12_run_130 : decode cX12_run 130 = .ok (.aload_n 0, 1) := by decide +kernel
theorem dX12_run_131 : decode cX12_run 131 = .ok (.getfield 64, 3) := by decide +kernel
theorem dX12_run_134 : decode cX12_run 134 = .ok (.aload_n 0, 1) := by decide +kernel
theorem dX12_run_135 : decode cX12_run 135 = .ok (.getfield 231, 3) := by decide +kernel
theorem dX12_run_138 : decode cX12_run 138 = .ok (.iconst 0, 1) := by decide +kernel
theorem dX12_run_139 : decode cX12_run 139 = .ok (.iastore, 1) := by decide +kernel
theorem dX12_run_140 : decode cX12_run 140 = .ok (.aload_n 0, 1) := by decide +kernel
theorem dX12_run_141 : decode cX12_run 141 = .ok (.dup, 1) := by decide +kernel
theorem dX12_run_142 : decode cX12_run 142 = .ok (.getfield 231, 3) := by decide +kernel
theorem dX12_run_145 : decode cX12_run 145 = .ok (.iconst 1, 1) := by decide +kernel
theorem dX12_run_146 : decode cX12_run 146 = .ok (.iadd, 1) := by decide +kernel
theorem dX12_run_147 : decode cX12_run 147 = .ok (.putfield 231, 3) := by decide +kernel
theorem dX12_run_150 : decode cX12_run 150 = .ok (.goto 86, 3) := by decide +kernel
theorem dX12_run_153 : decode cX12_run 153 = .ok (.aload_n 0, 1) := by decide +kernel
theorem dX12_run_154 : decode cX12_run 154 = .ok (.getfield 38, 3) := by decide +kernel
theorem dX12_run_157 : decode cX12_run 157 = .ok (.iload_n 1, 1) := by decide +kernel
theorem dX12_run_158 : decode cX12_run 158 = .ok (.iaload, 1) := by decide +kernel
theorem dX12_run_159 : decode cX12_run 159 = .ok (.bipush 6, 2) := by decide +kernel
theorem dX12_run_161 : decode cX12_run 161 = .ok (.if_icmp .ne 75, 3) := by decide +kernel
theorem dX12_run_164 : decode cX12_run 164 = .ok (.aload_n 0, 1) := by decide +kernel
theorem dX12_run_165 : decode cX12_run 165 = .ok (.getfield 64, 3) := by decide +kernel
theorem dX12_run_168 : decode cX12_run 168 = .ok (.aload_n 0, 1) := by decide +kernel
theorem dX12_run_169 : decode cX12_run 169 = .ok (.getfield 231, 3) := by decide +kernel
theorem dX12_run_172 : decode cX12_run 172 = .ok (.iconst 1, 1) := by decide +kernel
theorem dX12_run_173 : decode cX12_run 173 = .ok (.isub, 1) := by decide +kernel
theorem dX12_run_174 : decode cX12_run 174 = .ok (.dup2, 1) := by decide +kernel
theorem dX12_run_175 : decode cX12_run 175 = .ok (.iaload, 1) := by decide +kernel
theorem dX12_run_176 : decode cX12_run 176 = .ok (.iconst 1, 1) := by decide +kernel
theorem dX12_run_177 : decode cX12_run 177 = .ok (.iadd, 1) := by decide +kernel
theorem dX12_run_178 : decode cX12_run 178 = .ok (.iastore, 1) := by decide +kernel
theorem dX12_run_179 : decode cX12_run 179 = .ok (.aload_n 0, 1) := by decide +kernel
theorem dX12_run_180 : decode cX12_run 180 = .ok (.getfield 64, 3) := by decide +kernel
theorem dX12_run_183 : decode cX12_run 183 = .ok (.aload_n 0, 1) := by decide +kernel
theorem dX12_run_184 : decode cX12_run 184 = .ok (.getfield 231, 3) := by decide +kernel
theorem dX12_run_187 : decode cX12_run 187 = .ok (.iconst 1, 1) := by decide +kernel
theorem dX12_run_188 : decode cX12_run 188 = .ok (.isub, 1) := by decide +kernel
theorem dX12_run_189 : decode cX12_run 189 = .ok (.iaload, 1) := by decide +kernel
theorem dX12_run_190 : decode cX12_run 190 = .ok (.aload_n 0, 1) := by decide +kernel
theorem dX12_run_191 : decode cX12_run 191 = .ok (.getfield 41, 3) := by decide +kernel
theorem dX12_run_194 : decode cX12_run 194 = .ok (.aload_n 0, 1) := by decide +kernel
theorem dX12_run_195 : decode cX12_run 195 = .ok (.getfield 61, 3) := by decide +kernel
theorem dX12_run_198 : decode cX12_run 198 = .ok (.aload_n 0, 1) := by decide +kernel
theorem dX12_run_199 : decode cX12_run 199 = .ok (.getfield 231, 3) := by decide +kernel
theorem dX12_run_202 : decode cX12_run 202 = .ok (.iconst 1, 1) := by decide +kernel
theorem dX12_run_203 : decode cX12_run 203 = .ok (.isub, 1) := by decide +kernel
theorem dX12_run_204 : decode cX12_run 204 = .ok (.iaload, 1) := by decide +kernel
theorem dX12_run_205 : decode cX12_run 205 = .ok (.iaload, 1) := by decide +kernel
theorem dX12_run_206 : decode cX12_run 206 = .ok (.if_icmp .ge 20, 3) := by decide +kernel
theorem dX12_run_209 : decode cX12_run 209 = .ok (.aload_n 0, 1) := by decide +kernel
theorem dX12_run_210 : decode cX12_run 210 = .ok (.getfield 61, 3) := by decide +kernel
theorem dX12_run_213 : decode cX12_run 213 = .ok (.aload_n 0, 1) := by decide +kernel
theorem dX12_run_214 : decode cX12_run 214 = .ok (.getfield 231, 3) := by decide +kernel
theorem dX12_run_217 : decode cX12_run 217 = .ok (.iconst 1, 1) := by decide +kernel
theorem dX12_run_218 : decode cX12_run 218 = .ok (.isub, 1) := by decide +kernel
theorem dX12_run_219 : decode cX12_run 219 = .ok (.iaload, 1) := by decide +kernel
theorem dX12_run_220 : decode cX12_run 220 = .ok (.iconst 1, 1) := by decide +kernel
theorem dX12_run_221 : decode cX12_run 221 = .ok (.iadd, 1) := by decide +kernel
theorem dX12_run_222 : decode cX12_run 222 = .ok (.istore_n 3, 1) := by decide +kernel
theorem dX12_run_223 : decode cX12_run 223 = .ok (.goto 13, 3) := by decide +kernel
theorem dX12_run_226 : decode cX12_run 226 = .ok (.aload_n 0, 1) := by decide +kernel
theorem dX12_run_227 : decode cX12_run 227 = .ok (.dup, 1) := by decide +kernel
theorem dX12_run_228 : decode cX12_run 228 = .ok (.getfield 231, 3) := by decide +kernel
theorem dX12_run_231 : decode cX12_run 231 = .ok (.iconst 1, 1) := by decide +kernel
theorem dX12_run_232 : decode cX12_run 232 = .ok (.isub, 1) := by decide +kernel
theorem dX12_run_233 : decode cX12_run 233 = .ok (.putfield 231, 3) := by decide +kernel
theorem dX12_run_236 : decode cX12_run 236 = .ok (.iload_n 3, 1) := by decide +kernel
theorem dX12_run_237 : decode cX12_run 237 = .ok (.istore_n 1, 1) := by decide +kernel
theorem dX12_run_238 : decode cX12_run 238 = .ok (.goto (-185), 3) := by decide +kernel
theorem dX12_run_241 : decode cX12_run 241 = .ok (.iload_n 2, 1) := by decide +kernel
theorem dX12_run_242 : decode cX12_run 242 = .ok (.ifCond .ne 12, 3) := by decide +kernel
theorem dX12_run_245 : decode cX12_run 245 = .ok (.aload_n 0, 1) := by decide +kernel
theorem dX12_run_246 : decode cX12_run 246 = .ok (.aload_n 0, 1) := by decide +kernel
theorem dX12_run_247 : decode cX12_run 247 = .ok (.getfield 234, 3) := by decide +kernel
theorem dX12_run_250 : decode cX12_run 250 = .ok (.invokevirtual 94, 3) := by decide +kernel
theorem dX12_run_253 : decode cX12_run 253 = .ok (.ireturn, 1) := by decide +kernel
theorem dX12_run_254 : decode cX12_run 254 = .ok (.iconst 0, 1) := by decide +kernel
theorem dX12_run_255 : decode cX12_run 255 = .ok (.istore_n 3, 1) := by decide +kernel
theorem dX12_run_256 : decode cX12_run 256 = .ok (.iload_n 3, 1) := by decide +kernel
theorem dX12_run_257 : decode cX12_run 257 = .ok (.bipush 9, 2) := by decide +kernel
theorem dX12_run_259 : decode cX12_run 259 = .ok (.if_icmp .ge 18, 3) := by decide +kernel
theorem dX12_run_262 : decode cX12_run 262 = .ok (.aload_n 0, 1) := by decide +kernel
theorem dX12_run_263 : decode cX12_run 263 = .ok (.iload_n 3, 1) := by decide +kernel
theorem dX12_run_264 : decode cX12_run 264 = .ok (.bipush 9, 2) := by decide +kernel
theorem dX12_run_266 : decode cX12_run 266 = .ok (.iload_n 3, 1) := by decide +kernel
theorem dX12_run_267 : decode cX12_run 267 = .ok (.iadd, 1) := by decide +kernel
theorem dX12_run_268 : decode cX12_run 268 = .ok (.invokevirtual 133, 3) := by decide +kernel
theorem dX12_run_271 : decode cX12_run 271 = .ok (.iinc 3 1, 3) := by decide +kernel
theorem dX12_run_274 : decode cX12_run 274 = .ok (.goto (-18), 3) := by decide +kernel
theorem dX12_run_277 : decode cX12_run 277 = .ok (.iload_n 2, 1) := by decide +kernel
theorem dX12_run_278 : decode cX12_run 278 = .ok (.ldc 117, 2) := by decide +kernel
theorem dX12_run_280 : decode cX12_run 280 = .ok (.if_icmp .ne 8, 3) := by decide +kernel
theorem dX12_run_283 : decode cX12_run 283 = .ok (.ldc 117, 2) := by decide +kernel
theorem dX12_run_285 : decode cX12_run 285 = .ok (.goto 8, 3) := by decide +kernel
theorem dX12_run_288 : decode cX12_run 288 = .ok (.aload_n 0, 1) := by decide +kernel
theorem dX12_run_289 : decode cX12_run 289 = .ok (.iload_n 2, 1) := by decide +kernel
theorem dX12_run_290 : decode cX12_run 290 = .ok (.invokevirtual 90, 3) := by decide +kernel
theorem dX12_run_293 : decode cX12_run 293 = .ok (.ireturn, 1) := by decide +kernel
theorem dX12_told_0 : decode cX12_told 0 = .ok (.iload_n 1, 1) := by decide +kernel
theorem dX12_told_1 : decode cX12_told 1 = .ok (.ifCond .ne 10, 3) := by decide +kernel
theorem dX12_told_4 : decode cX12_told 4 = .ok (.aload_n 0, 1) := by decide +kernel
theorem dX12_told_5 : decode cX12_told 5 = .ok (.getfield 234, 3) := by decide +kernel
theorem dX12_told_8 : decode cX12_told 8 = .ok (.goto 17, 3) := by decide +kernel
theorem dX12_told_11 : decode cX12_told 11 = .ok (.iload_n 1, 1) := by decide +kernel
theorem dX12_told_12 : decode cX12_told 12 = .ok (.iconst 1, 1) := by decide +kernel
theorem dX12_told_13 : decode cX12_told 13 = .ok (.if_icmp .ne 10, 3) := by decide +kernel
theorem dX12_told_16 : decode cX12_told 16 = .ok (.aload_n 0, 1) := by decide +kernel
theorem dX12_told_17 : decode cX12_told 17 = .ok (.getfield 57, 3) := by decide +kernel
theorem dX12_told_20 : decode cX12_told 20 = .ok (.goto 5, 3) := by decide +kernel
theorem dX12_told_23 : decode cX12_told 23 = .ok (.ldc 89, 2) := by decide +kernel
theorem dX12_told_25 : decode cX12_told 25 = .ok (.ireturn, 1) := by decide +kernel
theorem dX12_count_0 : decode cX12_count 0 = .ok (.iconst 0, 1) := by decide +kernel
theorem dX12_count_1 : decode cX12_count 1 = .ok (.istore_n 2, 1) := by decide +kernel
theorem dX12_count_2 : decode cX12_count 2 = .ok (.iload_n 1, 1) := by decide +kernel
theorem dX12_count_3 : decode cX12_count 3 = .ok (.tableswitch 106 0 4 #[33, 38, 43, 76, 81], 33) := by decide +kernel
theorem dX12_count_36 : decode cX12_count 36 = .ok (.aload_n 0, 1) := by decide +kernel
theorem dX12_count_37 : decode cX12_count 37 = .ok (.getfield 67, 3) := by decide +kernel
theorem dX12_count_40 : decode cX12_count 40 = .ok (.ireturn, 1) := by decide +kernel
theorem dX12_count_41 : decode cX12_count 41 = .ok (.aload_n 0, 1) := by decide +kernel
theorem dX12_count_42 : decode cX12_count 42 = .ok (.getfield 193, 3) := by decide +kernel
theorem dX12_count_45 : decode cX12_count 45 = .ok (.ireturn, 1) := by decide +kernel
theorem dX12_count_46 : decode cX12_count 46 = .ok (.iconst 0, 1) := by decide +kernel
theorem dX12_count_47 : decode cX12_count 47 = .ok (.istore_n 3, 1) := by decide +kernel
theorem dX12_count_48 : decode cX12_count 48 = .ok (.iload_n 3, 1) := by decide +kernel
theorem dX12_count_49 : decode cX12_count 49 = .ok (.bipush 8, 2) := by decide +kernel
theorem dX12_count_51 : decode cX12_count 51 = .ok (.if_icmp .ge 26, 3) := by decide +kernel
theorem dX12_count_54 : decode cX12_count 54 = .ok (.iload_n 2, 1) := by decide +kernel
theorem dX12_count_55 : decode cX12_count 55 = .ok (.aload_n 0, 1) := by decide +kernel
theorem dX12_count_56 : decode cX12_count 56 = .ok (.getfield 7, 3) := by decide +kernel
theorem dX12_count_59 : decode cX12_count 59 = .ok (.iload_n 3, 1) := by decide +kernel
theorem dX12_count_60 : decode cX12_count 60 = .ok (.iaload, 1) := by decide +kernel
theorem dX12_count_61 : decode cX12_count 61 = .ok (.ifCond .le 7, 3) := by decide +kernel
theorem dX12_count_64 : decode cX12_count 64 = .ok (.iconst 1, 1) := by decide +kernel
theorem dX12_count_65 : decode cX12_count 65 = .ok (.goto 4, 3) := by decide +kernel
theorem dX12_count_68 : decode cX12_count 68 = .ok (.iconst 0, 1) := by decide +kernel
theorem dX12_count_69 : decode cX12_count 69 = .ok (.iadd, 1) := by decide +kernel
theorem dX12_count_70 : decode cX12_count 70 = .ok (.istore_n 2, 1) := by decide +kernel
theorem dX12_count_71 : decode cX12_count 71 = .ok (.iinc 3 1, 3) := by decide +kernel
theorem dX12_count_74 : decode cX12_count 74 = .ok (.goto (-26), 3) := by decide +kernel
theorem dX12_count_77 : decode cX12_count 77 = .ok (.iload_n 2, 1) := by decide +kernel
theorem dX12_count_78 : decode cX12_count 78 = .ok (.ireturn, 1) := by decide +kernel
theorem dX12_count_79 : decode cX12_count 79 = .ok (.aload_n 0, 1) := by decide +kernel
theorem dX12_count_80 : decode cX12_count 80 = .ok (.getfield 205, 3) := by decide +kernel
theorem dX12_count_83 : decode cX12_count 83 = .ok (.ireturn, 1) := by decide +kernel
theorem dX12_count_84 : decode cX12_count 84 = .ok (.iconst 0, 1) := by decide +kernel
theorem dX12_count_85 : decode cX12_count 85 = .ok (.istore_n 3, 1) := by decide +kernel
theorem dX12_count_86 : decode cX12_count 86 = .ok (.iload_n 3, 1) := by decide +kernel
theorem dX12_count_87 : decode cX12_count 87 = .ok (.bipush 9, 2) := by decide +kernel
theorem dX12_count_89 : decode cX12_count 89 = .ok (.if_icmp .ge 18, 3) := by decide +kernel
theorem dX12_count_92 : decode cX12_count 92 = .ok (.iload_n 2, 1) := by decide +kernel
theorem dX12_count_93 : decode cX12_count 93 = .ok (.aload_n 0, 1) := by decide +kernel
theorem dX12_count_94 : decode cX12_count 94 = .ok (.getfield 22, 3) := by decide +kernel
theorem dX12_count_97 : decode cX12_count 97 = .ok (.iload_n 3, 1) := by decide +kernel
theorem dX12_count_98 : decode cX12_count 98 = .ok (.iaload, 1) := by decide +kernel
theorem dX12_count_99 : decode cX12_count 99 = .ok (.iadd, 1) := by decide +kernel
theorem dX12_count_100 : decode cX12_count 100 = .ok (.istore_n 2, 1) := by decide +kernel
theorem dX12_count_101 : decode cX12_count 101 = .ok (.iinc 3 1, 3) := by decide +kernel
theorem dX12_count_104 : decode cX12_count 104 = .ok (.goto (-18), 3) := by decide +kernel
theorem dX12_count_107 : decode cX12_count 107 = .ok (.iload_n 2, 1) := by decide +kernel
theorem dX12_count_108 : decode cX12_count 108 = .ok (.ireturn, 1) := by decide +kernel
theorem dX12_count_109 : decode cX12_count 109 = .ok (.ldc 89, 2) := by decide +kernel
theorem dX12_count_111 : decode cX12_count 111 = .ok (.ireturn, 1) := by decide +kernel
theorem dX12_status_0 : decode cX12_status 0 = .ok (.aload_n 0, 1) := by decide +kernel
theorem dX12_status_1 : decode cX12_status 1 = .ok (.getfield 73, 3) := by decide +kernel
theorem dX12_status_4 : decode cX12_status 4 = .ok (.ireturn, 1) := by decide +kernel
theorem dJ6_bitCount_0f7a4_0 : decode cJ6_bitCount_0f7a4 0 = .ok (.iload_n 0, 1) := by decide +kernel
theorem dJ6_bitCount_0f7a4_1 : decode cJ6_bitCount_0f7a4 1 = .ok (.iload_n 0, 1) := by decide +kernel
theorem dJ6_bitCount_0f7a4_2 : decode cJ6_bitCount_0f7a4 2 = .ok (.iconst 1, 1) := by decide +kernel
theorem dJ6_bitCount_0f7a4_3 : decode cJ6_bitCount_0f7a4 3 = .ok (.iushr, 1) := by decide +kernel
theorem dJ6_bitCount_0f7a4_4 : decode cJ6_bitCount_0f7a4 4 = .ok (.ldc_w 265, 3) := by decide +kernel
theorem dJ6_bitCount_0f7a4_7 : decode cJ6_bitCount_0f7a4 7 = .ok (.iand, 1) := by decide +kernel
theorem dJ6_bitCount_0f7a4_8 : decode cJ6_bitCount_0f7a4 8 = .ok (.isub, 1) := by decide +kernel
theorem dJ6_bitCount_0f7a4_9 : decode cJ6_bitCount_0f7a4 9 = .ok (.istore_n 0, 1) := by decide +kernel
theorem dJ6_bitCount_0f7a4_10 : decode cJ6_bitCount_0f7a4 10 = .ok (.iload_n 0, 1) := by decide +kernel
theorem dJ6_bitCount_0f7a4_11 : decode cJ6_bitCount_0f7a4 11 = .ok (.ldc_w 266, 3) := by decide +kernel
theorem dJ6_bitCount_0f7a4_14 : decode cJ6_bitCount_0f7a4 14 = .ok (.iand, 1) := by decide +kernel
theorem dJ6_bitCount_0f7a4_15 : decode cJ6_bitCount_0f7a4 15 = .ok (.iload_n 0, 1) := by decide +kernel
theorem dJ6_bitCount_0f7a4_16 : decode cJ6_bitCount_0f7a4 16 = .ok (.iconst 2, 1) := by decide +kernel
theorem dJ6_bitCount_0f7a4_17 : decode cJ6_bitCount_0f7a4 17 = .ok (.iushr, 1) := by decide +kernel
theorem dJ6_bitCount_0f7a4_18 : decode cJ6_bitCount_0f7a4 18 = .ok (.ldc_w 266, 3) := by decide +kernel
theorem dJ6_bitCount_0f7a4_21 : decode cJ6_bitCount_0f7a4 21 = .ok (.iand, 1) := by decide +kernel
theorem dJ6_bitCount_0f7a4_22 : decode cJ6_bitCount_0f7a4 22 = .ok (.iadd, 1) := by decide +kernel
theorem dJ6_bitCount_0f7a4_23 : decode cJ6_bitCount_0f7a4 23 = .ok (.istore_n 0, 1) := by decide +kernel
theorem dJ6_bitCount_0f7a4_24 : decode cJ6_bitCount_0f7a4 24 = .ok (.iload_n 0, 1) := by decide +kernel
theorem dJ6_bitCount_0f7a4_25 : decode cJ6_bitCount_0f7a4 25 = .ok (.iload_n 0, 1) := by decide +kernel
theorem dJ6_bitCount_0f7a4_26 : decode cJ6_bitCount_0f7a4 26 = .ok (.iconst 4, 1) := by decide +kernel
theorem dJ6_bitCount_0f7a4_27 : decode cJ6_bitCount_0f7a4 27 = .ok (.iushr, 1) := by decide +kernel
theorem dJ6_bitCount_0f7a4_28 : decode cJ6_bitCount_0f7a4 28 = .ok (.iadd, 1) := by decide +kernel
theorem dJ6_bitCount_0f7a4_29 : decode cJ6_bitCount_0f7a4 29 = .ok (.ldc_w 267, 3) := by decide +kernel
theorem dJ6_bitCount_0f7a4_32 : decode cJ6_bitCount_0f7a4 32 = .ok (.iand, 1) := by decide +kernel
theorem dJ6_bitCount_0f7a4_33 : decode cJ6_bitCount_0f7a4 33 = .ok (.istore_n 0, 1) := by decide +kernel
theorem dJ6_bitCount_0f7a4_34 : decode cJ6_bitCount_0f7a4 34 = .ok (.iload_n 0, 1) := by decide +kernel
theorem dJ6_bitCount_0f7a4_35 : decode cJ6_bitCount_0f7a4 35 = .ok (.iload_n 0, 1) := by decide +kernel
theorem dJ6_bitCount_0f7a4_36 : decode cJ6_bitCount_0f7a4 36 = .ok (.bipush 8, 2) := by decide +kernel
theorem dJ6_bitCount_0f7a4_38 : decode cJ6_bitCount_0f7a4 38 = .ok (.iushr, 1) := by decide +kernel
theorem dJ6_bitCount_0f7a4_39 : decode cJ6_bitCount_0f7a4 39 = .ok (.iadd, 1) := by decide +kernel
theorem dJ6_bitCount_0f7a4_40 : decode cJ6_bitCount_0f7a4 40 = .ok (.istore_n 0, 1) := by decide +kernel
theorem dJ6_bitCount_0f7a4_41 : decode cJ6_bitCount_0f7a4 41 = .ok (.iload_n 0, 1) := by decide +kernel
theorem dJ6_bitCount_0f7a4_42 : decode cJ6_bitCount_0f7a4 42 = .ok (.iload_n 0, 1) := by decide +kernel
theorem dJ6_bitCount_0f7a4_43 : decode cJ6_bitCount_0f7a4 43 = .ok (.bipush 16, 2) := by decide +kernel
theorem dJ6_bitCount_0f7a4_45 : decode cJ6_bitCount_0f7a4 45 = .ok (.iushr, 1) := by decide +kernel
theorem dJ6_bitCount_0f7a4_46 : decode cJ6_bitCount_0f7a4 46 = .ok (.iadd, 1) := by decide +kernel
theorem dJ6_bitCount_0f7a4_47 : decode cJ6_bitCount_0f7a4 47 = .ok (.istore_n 0, 1) := by decide +kernel
theorem dJ6_bitCount_0f7a4_48 : decode cJ6_bitCount_0f7a4 48 = .ok (.iload_n 0, 1) := by decide +kernel
theorem dJ6_bitCount_0f7a4_49 : decode cJ6_bitCount_0f7a4 49 = .ok (.bipush 63, 2) := by decide +kernel
theorem dJ6_bitCount_0f7a4_51 : decode cJ6_bitCount_0f7a4 51 = .ok (.iand, 1) := by decide +kernel
theorem dJ6_bitCount_0f7a4_52 : decode cJ6_bitCount_0f7a4 52 = .ok (.ireturn, 1) := by decide +kernel
theorem dJ9_abs_067f4_0 : decode cJ9_abs_067f4 0 = .ok (.lload_n 0, 1) := by decide +kernel
theorem dJ9_abs_067f4_1 : decode cJ9_abs_067f4 1 = .ok (.lconst 0, 1) := by decide +kernel
theorem dJ9_abs_067f4_2 : decode cJ9_abs_067f4 2 = .ok (.lcmp, 1) := by decide +kernel
theorem dJ9_abs_067f4_3 : decode cJ9_abs_067f4 3 = .ok (.ifCond .ge 8, 3) := by decide +kernel
theorem dJ9_abs_067f4_6 : decode cJ9_abs_067f4 6 = .ok (.lload_n 0, 1) := by decide +kernel
theorem dJ9_abs_067f4_7 : decode cJ9_abs_067f4 7 = .ok (.lneg, 1) := by decide +kernel
theorem dJ9_abs_067f4_8 : decode cJ9_abs_067f4 8 = .ok (.goto 4, 3) := by decide +kernel
theorem dJ9_abs_067f4_11 : decode cJ9_abs_067f4 11 = .ok (.lload_n 0, 1) := by decide +kernel
theorem dJ9_abs_067f4_12 : decode cJ9_abs_067f4 12 = .ok (.lreturn, 1) := by decide +kernel
theorem dJ9_max_7cf53_0 : decode cJ9_max_7cf53 0 = .ok (.iload_n 0, 1) := by decide +kernel
theorem dJ9_max_7cf53_1 : decode cJ9_max_7cf53 1 = .ok (.iload_n 1, 1) := by decide +kernel
theorem dJ9_max_7cf53_2 : decode cJ9_max_7cf53 2 = .ok (.if_icmp .lt 7, 3) := by decide +kernel
theorem dJ9_max_7cf53_5 : decode cJ9_max_7cf53 5 = .ok (.iload_n 0, 1) := by decide +kernel
theorem dJ9_max_7cf53_6 : decode cJ9_max_7cf53 6 = .ok (.goto 4, 3) := by decide +kernel
theorem dJ9_max_7cf53_9 : decode cJ9_max_7cf53 9 = .ok (.iload_n 1, 1) := by decide +kernel
theorem dJ9_max_7cf53_10 : decode cJ9_max_7cf53 10 = .ok (.ireturn, 1) := by decide +kernel
theorem dJ9_min_7cf53_0 : decode cJ9_min_7cf53 0 = .ok (.iload_n 0, 1) := by decide +kernel
theorem dJ9_min_7cf53_1 : decode cJ9_min_7cf53 1 = .ok (.iload_n 1, 1) := by decide +kernel
theorem dJ9_min_7cf53_2 : decode cJ9_min_7cf53 2 = .ok (.if_icmp .gt 7, 3) := by decide +kernel
theorem dJ9_min_7cf53_5 : decode cJ9_min_7cf53 5 = .ok (.iload_n 0, 1) := by decide +kernel
theorem dJ9_min_7cf53_6 : decode cJ9_min_7cf53 6 = .ok (.goto 4, 3) := by decide +kernel
theorem dJ9_min_7cf53_9 : decode cJ9_min_7cf53 9 = .ok (.iload_n 1, 1) := by decide +kernel
theorem dJ9_min_7cf53_10 : decode cJ9_min_7cf53 10 = .ok (.ireturn, 1) := by decide +kernel
theorem dJ7_fill_53178_0 : decode cJ7_fill_53178 0 = .ok (.iconst 0, 1) := by decide +kernel
theorem dJ7_fill_53178_1 : decode cJ7_fill_53178 1 = .ok (.istore_n 2, 1) := by decide +kernel
theorem dJ7_fill_53178_2 : decode cJ7_fill_53178 2 = .ok (.aload_n 0, 1) := by decide +kernel
theorem dJ7_fill_53178_3 : decode cJ7_fill_53178 3 = .ok (.arraylength, 1) := by decide +kernel
theorem dJ7_fill_53178_4 : decode cJ7_fill_53178 4 = .ok (.istore_n 3, 1) := by decide +kernel
theorem dJ7_fill_53178_5 : decode cJ7_fill_53178 5 = .ok (.iload_n 2, 1) := by decide +kernel
theorem dJ7_fill_53178_6 : decode cJ7_fill_53178 6 = .ok (.iload_n 3, 1) := by decide +kernel
theorem dJ7_fill_53178_7 : decode cJ7_fill_53178 7 = .ok (.if_icmp .ge 13, 3) := by decide +kernel
theorem dJ7_fill_53178_10 : decode cJ7_fill_53178 10 = .ok (.aload_n 0, 1) := by decide +kernel
theorem dJ7_fill_53178_11 : decode cJ7_fill_53178 11 = .ok (.iload_n 2, 1) := by decide +kernel
theorem dJ7_fill_53178_12 : decode cJ7_fill_53178 12 = .ok (.iload_n 1, 1) := by decide +kernel
theorem dJ7_fill_53178_13 : decode cJ7_fill_53178 13 = .ok (.iastore, 1) := by decide +kernel
theorem dJ7_fill_53178_14 : decode cJ7_fill_53178 14 = .ok (.iinc 2 1, 3) := by decide +kernel
theorem dJ7_fill_53178_17 : decode cJ7_fill_53178 17 = .ok (.goto (-12), 3) := by decide +kernel
theorem dJ7_fill_53178_20 : decode cJ7_fill_53178 20 = .ok (.return_, 1) := by decide +kernel
theorem dL_cell_0 : decode cL_cell 0 = .ok (.iload_n 1, 1) := by decide +kernel
theorem dL_cell_1 : decode cL_cell 1 = .ok (.aload_n 0, 1) := by decide +kernel
theorem dL_cell_2 : decode cL_cell 2 = .ok (.arraylength, 1) := by decide +kernel
theorem dL_cell_3 : decode cL_cell 3 = .ok (.if_icmp .ge 9, 3) := by decide +kernel
theorem dL_cell_6 : decode cL_cell 6 = .ok (.aload_n 0, 1) := by decide +kernel
theorem dL_cell_7 : decode cL_cell 7 = .ok (.iload_n 1, 1) := by decide +kernel
theorem dL_cell_8 : decode cL_cell 8 = .ok (.iaload, 1) := by decide +kernel
theorem dL_cell_9 : decode cL_cell 9 = .ok (.goto 4, 3) := by decide +kernel
theorem dL_cell_12 : decode cL_cell 12 = .ok (.iconst 0, 1) := by decide +kernel
theorem dL_cell_13 : decode cL_cell 13 = .ok (.ireturn, 1) := by decide +kernel
