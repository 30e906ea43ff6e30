theorem dX11_run_53 : decode cX11_run 53 = .ok (.iload_n 1, 1) := by decide +kernel
theorem dX11_run_54 : decode cX11_run 54 = .ok (.ifCond .ne 56, 3) := by decide +kernel
theorem dX11_run_57 : decode cX11_run 57 = .ok (.aload_n 0, 1) := by decide +kernel
theorem dX11_run_58 : decode cX11_run 58 = .ok (.aload_n 2, 1) := by decide +kernel
theorem dX11_run_59 : decode cX11_run 59 = .ok (.getfield 259, 3) := by decide +kernel
theorem dX11_run_62 : decode cX11_run 62 = .ok (.putfield 38, 3) := by decide +kernel
theorem dX11_run_65 : decode cX11_run 65 = .ok (.aload_n 0, 1) := by decide +kernel
theorem dX11_run_66 : decode cX11_run 66 = .ok (.aload_n 2, 1) := by decide +kernel
theorem dX11_run_67 : decode cX11_run 67 = .ok (.getfield 259, 3) := by decide +kernel
theorem dX11_run_70 : decode cX11_run 70 = .ok (.iconst 1, 1) := by decide +kernel
theorem dX11_run_71 : decode cX11_run 71 = .ok (.iadd, 1) := by decide +kernel
theorem dX11_run_72 : decode cX11_run 72 = .ok (.putfield 262, 3) := by decide +kernel
theorem dX11_run_75 : decode cX11_run 75 = .ok (.aload_n 2, 1) := by decide +kernel
theorem dX11_run_76 : decode cX11_run 76 = .ok (.aload_n 0, 1) := by decide +kernel
theorem dX11_run_77 : decode cX11_run 77 = .ok (.invokevirtual 265, 3) := by decide +kernel
theorem dX11_run_80 : decode cX11_run 80 = .ok (.istore_n 1, 1) := by decide +kernel
theorem dX11_run_81 : decode cX11_run 81 = .ok (.iload_n 1, 1) := by decide +kernel
theorem dX11_run_82 : decode cX11_run 82 = .ok (.ifCond .ne 22, 3) := by decide +kernel
theorem dX11_run_85 : decode cX11_run 85 = .ok (.aload_n 0, 1) := by decide +kernel
theorem dX11_run_86 : decode cX11_run 86 = .ok (.dup, 1) := by decide +kernel
theorem dX11_run_87 : decode cX11_run 87 = .ok (.getfield 256, 3) := by decide +kernel
theorem dX11_run_90 : decode cX11_run 90 = .ok (.iconst 1, 1) := by decide +kernel
theorem dX11_run_91 : decode cX11_run 91 = .ok (.iadd, 1) := by decide +kernel
theorem dX11_run_92 : decode cX11_run 92 = .ok (.putfield 256, 3) := by decide +kernel
theorem dX11_run_95 : decode cX11_run 95 = .ok (.aload_n 0, 1) := by decide +kernel
theorem dX11_run_96 : decode cX11_run 96 = .ok (.aload_n 0, 1) := by decide +kernel
theorem dX11_run_97 : decode cX11_run 97 = .ok (.getfield 262, 3) := by decide +kernel
theorem dX11_run_100 : decode cX11_run 100 = .ok (.invokevirtual 228, 3) := by decide +kernel
theorem dX11_run_103 : decode cX11_run 103 = .ok (.astore_n 2, 1) := by decide +kernel
theorem dX11_run_104 : decode cX11_run 104 = .ok (.iinc 3 1, 3) := by decide +kernel
theorem dX11_run_107 : decode cX11_run 107 = .ok (.goto (-65), 3) := by decide +kernel
theorem dX11_run_110 : decode cX11_run 110 = .ok (.aload_n 2, 1) := by decide +kernel
theorem dX11_run_111 : decode cX11_run 111 = .ok (.ifnonnull 12, 3) := by decide +kernel
theorem dX11_run_114 : decode cX11_run 114 = .ok (.aload_n 0, 1) := by decide +kernel
theorem dX11_run_115 : decode cX11_run 115 = .ok (.aload_n 0, 1) := by decide +kernel
theorem dX11_run_116 : decode cX11_run 116 = .ok (.getfield 256, 3) := by decide +kernel
theorem dX11_run_119 : decode cX11_run 119 = .ok (.invokevirtual 81, 3) := by decide +kernel
theorem dX11_run_122 : decode cX11_run 122 = .ok (.ireturn, 1) := by decide +kernel
theorem dX11_run_123 : decode cX11_run 123 = .ok (.aload_n 0, 1) := by decide +kernel
theorem dX11_run_124 : decode cX11_run 124 = .ok (.getfield 11, 3) := by decide +kernel
theorem dX11_run_127 : decode cX11_run 127 = .ok (.aload_n 0, 1) := by decide +kernel
theorem dX11_run_128 : decode cX11_run 128 = .ok (.getfield 15, 3) := by decide +kernel
theorem dX11_run_131 : decode cX11_run 131 = .ok (.invokestatic 252, 3) := by decide +kernel
theorem dX11_run_134 : decode cX11_run 134 = .ok (.iload_n 1, 1) := by decide +kernel
theorem dX11_run_135 : decode cX11_run 135 = .ok (.ifCond .eq 9, 3) := by decide +kernel
theorem dX11_run_138 : decode cX11_run 138 = .ok (.iload_n 1, 1) := by decide +kernel
theorem dX11_run_139 : decode cX11_run 139 = .ok (.ldc 134, 2) := by decide +kernel
theorem dX11_run_141 : decode cX11_run 141 = .ok (.if_icmp .ne 8, 3) := by decide +kernel
theorem dX11_run_144 : decode cX11_run 144 = .ok (.ldc 134, 2) := by decide +kernel
theorem dX11_run_146 : decode cX11_run 146 = .ok (.goto 8, 3) := by decide +kernel
theorem dX11_run_149 : decode cX11_run 149 = .ok (.aload_n 0, 1) := by decide +kernel
theorem dX11_run_150 : decode cX11_run 150 = .ok (.iload_n 1, 1) := by decide +kernel
theorem dX11_run_151 : decode cX11_run 151 = .ok (.invokevirtual 73, 3) := by decide +kernel
theorem dX11_run_154 : decode cX11_run 154 = .ok (.ireturn, 1) := by decide +kernel
theorem dX11_told_0 : decode cX11_told 0 = .ok (.iload_n 1, 1) := by decide +kernel
theorem dX11_told_1 : decode cX11_told 1 = .ok (.lookupswitch 37 #[(0, 27), (1, 32)], 27) := by decide +kernel
theorem dX11_told_28 : decode cX11_told 28 = .ok (.aload_n 0, 1) := by decide +kernel
theorem dX11_told_29 : decode cX11_told 29 = .ok (.getfield 256, 3) := by decide +kernel
theorem dX11_told_32 : decode cX11_told 32 = .ok (.ireturn, 1) := by decide +kernel
theorem dX11_told_33 : decode cX11_told 33 = .ok (.aload_n 0, 1) := by decide +kernel
theorem dX11_told_34 : decode cX11_told 34 = .ok (.getfield 38, 3) := by decide +kernel
theorem dX11_told_37 : decode cX11_told 37 = .ok (.ireturn, 1) := by decide +kernel
theorem dX11_told_38 : decode cX11_told 38 = .ok (.ldc 72, 2) := by decide +kernel
theorem dX11_told_40 : decode cX11_told 40 = .ok (.ireturn, 1) := by decide +kernel
set_option maxRecDepth 20000 in
theorem ggX11_count_X11_presentTables : GoodIn wsX11_count wsX11_presentTables := goodIn_r _ [8, 9, 22, 23, 24, 25, 26, 27, 28, 29, 30, 31, 32, 33, 34, 35, 36, 37, 38, 39, 40] (by decide +kernel) (by decide +kernel)
set_option maxRecDepth 20000 in
theorem gX11_count_X11_presentTables : GoodIn wsX11_count (wsV RX11 268 RX11 yX11_presentTables wsX11_presentTables) := goodIn_app (goodIn_of _ (by decide +kernel)) ggX11_count_X11_presentTables
set_option maxRecDepth 20000 in
theorem ggX11_count_X11_openRounds : GoodIn wsX11_count wsX11_openRounds := goodIn_r _ [13, 14, 15, 16, 22, 23, 24, 25, 26, 27, 28, 29, 30, 31, 32, 33, 34, 35, 36, 41, 42, 43, 44, 45, 46, 47, 48, 49, 50, 51, 52, 53, 54, 55, 56, 57, 58, 59, 60, 61, 62, 63, 64, 65, 66] (by decide +kernel) (by decide +kernel)
set_option maxRecDepth 20000 in
theorem gX11_count_X11_openRounds : GoodIn wsX11_count (wsV RX11 205 RX11 yX11_openRounds wsX11_openRounds) := goodIn_app (goodIn_of _ (by decide +kernel)) ggX11_count_X11_openRounds
set_option maxRecDepth 20000 in
theorem ggX11_count_X11_allTerms : GoodIn wsX11_count wsX11_allTerms := goodIn_r _ [20, 21, 22, 23, 24, 25, 26, 27, 28, 29, 30, 31, 32, 33, 34, 35, 36, 67, 68, 69] (by decide +kernel) (by decide +kernel)
set_option maxRecDepth 20000 in
theorem gX11_count_X11_allTerms : GoodIn wsX11_count (wsV RX11 271 RX11 yX11_allTerms wsX11_allTerms) := goodIn_app (goodIn_of _ (by decide +kernel)) ggX11_count_X11_allTerms
theorem dX11_count_0 : decode cX11_count 0 = .ok (.iload_n 1, 1) := by decide +kernel
theorem dX11_count_1 : decode cX11_count 1 = .ok (.tableswitch 60 0 4 #[35, 40, 45, 50, 55], 35) := by decide +kernel
theorem dX11_count_36 : decode cX11_count 36 = .ok (.aload_n 0, 1) := by decide +kernel
theorem dX11_count_37 : decode cX11_count 37 = .ok (.getfield 55, 3) := by decide +kernel
theorem dX11_count_40 : decode cX11_count 40 = .ok (.ireturn, 1) := by decide +kernel
theorem dX11_count_41 : decode cX11_count 41 = .ok (.aload_n 0, 1) := by decide +kernel
theorem dX11_count_42 : decode cX11_count 42 = .ok (.getfield 183, 3) := by decide +kernel
theorem dX11_count_45 : decode cX11_count 45 = .ok (.ireturn, 1) := by decide +kernel
theorem dX11_count_46 : decode cX11_count 46 = .ok (.aload_n 0, 1) := by decide +kernel
theorem dX11_count_47 : decode cX11_count 47 = .ok (.invokevirtual 268, 3) := by decide +kernel
theorem dX11_count_50 : decode cX11_count 50 = .ok (.ireturn, 1) := by decide +kernel
theorem dX11_count_51 : decode cX11_count 51 = .ok (.aload_n 0, 1) := by decide +kernel
theorem dX11_count_52 : decode cX11_count 52 = .ok (.invokevirtual 205, 3) := by decide +kernel
theorem dX11_count_55 : decode cX11_count 55 = .ok (.ireturn, 1) := by decide +kernel
theorem dX11_count_56 : decode cX11_count 56 = .ok (.aload_n 0, 1) := by decide +kernel
theorem dX11_count_57 : decode cX11_count 57 = .ok (.invokevirtual 271, 3) := by decide +kernel
theorem dX11_count_60 : decode cX11_count 60 = .ok (.ireturn, 1) := by decide +kernel
theorem dX11_count_61 : decode cX11_count 61 = .ok (.ldc 72, 2) := by decide +kernel
theorem dX11_count_63 : decode cX11_count 63 = .ok (.ireturn, 1) := by decide +kernel
theorem dX11_status_0 : decode cX11_status 0 = .ok (.aload_n 0, 1) := by decide +kernel
theorem dX11_status_1 : decode cX11_status 1 = .ok (.getfield 274, 3) := by decide +kernel
theorem dX11_status_4 : decode cX11_status 4 = .ok (.ireturn, 1) := by decide +kernel
theorem dX11_within_0 : decode cX11_within 0 = .ok (.iload_n 0, 1) := by decide +kernel
theorem dX11_within_1 : decode cX11_within 1 = .ok (.iload_n 1, 1) := by decide +kernel
theorem dX11_within_2 : decode cX11_within 2 = .ok (.if_icmp .lt 12, 3) := by decide +kernel
theorem dX11_within_5 : decode cX11_within 5 = .ok (.iload_n 0, 1) := by decide +kernel
theorem dX11_within_6 : decode cX11_within 6 = .ok (.iload_n 2, 1) := by decide +kernel
theorem dX11_within_7 : decode cX11_within 7 = .ok (.if_icmp .gt 7, 3) := by decide +kernel
theorem dX11_within_10 : decode cX11_within 10 = .ok (.iconst 1, 1) := by decide +kernel
theorem dX11_within_11 : decode cX11_within 11 = .ok (.goto 4, 3) := by decide +kernel
theorem dX11_within_14 : decode cX11_within 14 = .ok (.iconst 0, 1) := by decide +kernel
theorem dX11_within_15 : decode cX11_within 15 = .ok (.ireturn, 1) := by decide +kernel
theorem dX11_isWay_0 : decode cX11_isWay 0 = .ok (.iload_n 0, 1) := by decide +kernel
theorem dX11_isWay_1 : decode cX11_isWay 1 = .ok (.iconst 1, 1) := by decide +kernel
theorem dX11_isWay_2 : decode cX11_isWay 2 = .ok (.if_icmp .eq 8, 3) := by decide +kernel
theorem dX11_isWay_5 : decode cX11_isWay 5 = .ok (.iload_n 0, 1) := by decide +kernel
theorem dX11_isWay_6 : decode cX11_isWay 6 = .ok (.iconst (-1), 1) := by decide +kernel
theorem dX11_isWay_7 : decode cX11_isWay 7 = .ok (.if_icmp .ne 7, 3) := by decide +kernel
theorem dX11_isWay_10 : decode cX11_isWay 10 = .ok (.iconst 1, 1) := by decide +kernel
theorem dX11_isWay_11 : decode cX11_isWay 11 = .ok (.goto 4, 3) := by decide +kernel
theorem dX11_isWay_14 : decode cX11_isWay 14 = .ok (.iconst 0, 1) := by decide +kernel
theorem dX11_isWay_15 : decode cX11_isWay 15 = .ok (.ireturn, 1) := by decide +kernel
set_option maxRecDepth 20000 in
theorem ggX11_isProduct_X11_within : GoodIn wsX11_isProduct wsX11_within := goodIn_r _ [5] (by decide +kernel) (by decide +kernel)
set_option maxRecDepth 20000 in
theorem gX11_isProduct_X11_within : GoodIn wsX11_isProduct (va_wsS RX11 68 yX11_within wsX11_within) := goodIn_app (goodIn_of _ (by decide +kernel)) ggX11_isProduct_X11_within
theorem dX11_isProduct_0 : decode cX11_isProduct 0 = .ok (.iload_n 1, 1) := by decide +kernel
theorem dX11_isProduct_1 : decode cX11_isProduct 1 = .ok (.iconst 0, 1) := by decide +kernel
theorem dX11_isProduct_2 : decode cX11_isProduct 2 = .ok (.iconst 1, 1) := by decide +kernel
theorem dX11_isProduct_3 : decode cX11_isProduct 3 = .ok (.iconst 2, 1) := by decide +kernel
theorem dX11_isProduct_4 : decode cX11_isProduct 4 = .ok (.aload_n 0, 1) := by decide +kernel
theorem dX11_isProduct_5 : decode cX11_isProduct 5 = .ok (.getfield 55, 3) := by decide +kernel
theorem dX11_isProduct_8 : decode cX11_isProduct 8 = .ok (.imul, 1) := by decide +kernel
theorem dX11_isProduct_9 : decode cX11_isProduct 9 = .ok (.ishl, 1) := by decide +kernel
theorem dX11_isProduct_10 : decode cX11_isProduct 10 = .ok (.iconst 1, 1) := by decide +kernel
theorem dX11_isProduct_11 : decode cX11_isProduct 11 = .ok (.isub, 1) := by decide +kernel
theorem dX11_isProduct_12 : decode cX11_isProduct 12 = .ok (.invokestatic 68, 3) := by decide +kernel
theorem dX11_isProduct_15 : decode cX11_isProduct 15 = .ok (.ireturn, 1) := by decide +kernel
set_option maxRecDepth 20000 in
theorem ggX11_isPulse_X11_within : GoodIn wsX11_isPulse wsX11_within := goodIn_r _ [5] (by decide +kernel) (by decide +kernel)
set_option maxRecDepth 20000 in
theorem gX11_isPulse_X11_within : GoodIn wsX11_isPulse (va_wsS RX11 68 yX11_within wsX11_within) := goodIn_app (goodIn_of _ (by decide +kernel)) ggX11_isPulse_X11_within
theorem dX11_isPulse_0 : decode cX11_isPulse 0 = .ok (.iload_n 1, 1) := by decide +kernel
theorem dX11_isPulse_1 : decode cX11_isPulse 1 = .ok (.iconst 1, 1) := by decide +kernel
theorem dX11_isPulse_2 : decode cX11_isPulse 2 = .ok (.iconst 1, 1) := by decide +kernel
theorem dX11_isPulse_3 : decode cX11_isPulse 3 = .ok (.aload_n 0, 1) := by decide +kernel
theorem dX11_isPulse_4 : decode cX11_isPulse 4 = .ok (.getfield 55, 3) := by decide +kernel
theorem dX11_isPulse_7 : decode cX11_isPulse 7 = .ok (.ishl, 1) := by decide +kernel
theorem dX11_isPulse_8 : decode cX11_isPulse 8 = .ok (.iconst 1, 1) := by decide +kernel
theorem dX11_isPulse_9 : decode cX11_isPulse 9 = .ok (.isub, 1) := by decide +kernel
theorem dX11_isPulse_10 : decode cX11_isPulse 10 = .ok (.invokestatic 68, 3) := by decide +kernel
theorem dX11_isPulse_13 : decode cX11_isPulse 13 = .ok (.ifCond .eq 25, 3) := by decide +kernel
theorem dX11_isPulse_16 : decode cX11_isPulse 16 = .ok (.iload_n 2, 1) := by decide +kernel
theorem dX11_isPulse_17 : decode cX11_isPulse 17 = .ok (.iconst 0, 1) := by decide +kernel
theorem dX11_isPulse_18 : decode cX11_isPulse 18 = .ok (.iconst 3, 1) := by decide +kernel
theorem dX11_isPulse_19 : decode cX11_isPulse 19 = .ok (.invokestatic 68, 3) := by decide +kernel
theorem dX11_isPulse_22 : decode cX11_isPulse 22 = .ok (.ifCond .eq 16, 3) := by decide +kernel
theorem dX11_isPulse_25 : decode cX11_isPulse 25 = .ok (.iload_n 3, 1) := by decide +kernel
theorem dX11_isPulse_26 : decode cX11_isPulse 26 = .ok (.iconst 0, 1) := by decide +kernel
theorem dX11_isPulse_27 : decode cX11_isPulse 27 = .ok (.iconst 3, 1) := by decide +kernel
theorem dX11_isPulse_28 : decode cX11_isPulse 28 = .ok (.invokestatic 68, 3) := by decide +kernel
theorem dX11_isPulse_31 : decode cX11_isPulse 31 = .ok (.ifCond .eq 7, 3) := by decide +kernel
theorem dX11_isPulse_34 : decode cX11_isPulse 34 = .ok (.iconst 1, 1) := by decide +kernel
theorem dX11_isPulse_35 : decode cX11_isPulse 35 = .ok (.goto 4, 3) := by decide +kernel
theorem dX11_isPulse_38 : decode cX11_isPulse 38 = .ok (.iconst 0, 1) := by decide +kernel
theorem dX11_isPulse_39 : decode cX11_isPulse 39 = .ok (.ireturn, 1) := by decide +kernel
set_option maxRecDepth 20000 in
theorem ggX11_tableAt_X11_within : GoodIn wsX11_tableAt wsX11_within := goodIn_r _ [5] (by decide +kernel) (by decide +kernel)
set_option maxRecDepth 20000 in
theorem gX11_tableAt_X11_within : GoodIn wsX11_tableAt (va_wsS RX11 68 yX11_within wsX11_within) := goodIn_app (goodIn_of _ (by decide +kernel)) ggX11_tableAt_X11_within
theorem dX11_tableAt_0 : decode cX11_tableAt 0 = .ok (.iload_n 1, 1) := by decide +kernel
theorem dX11_tableAt_1 : decode cX11_tableAt 1 = .ok (.iconst 0, 1) := by decide +kernel
theorem dX11_tableAt_2 : decode cX11_tableAt 2 = .ok (.bipush 7, 2) := by decide +kernel
theorem dX11_tableAt_4 : decode cX11_tableAt 4 = .ok (.invokestatic 68, 3) := by decide +kernel
theorem dX11_tableAt_7 : decode cX11_tableAt 7 = .ok (.ifCond .eq 12, 3) := by decide +kernel
theorem dX11_tableAt_10 : decode cX11_tableAt 10 = .ok (.aload_n 0, 1) := by decide +kernel
theorem dX11_tableAt_11 : decode cX11_tableAt 11 = .ok (.getfield 27, 3) := by decide +kernel
theorem dX11_tableAt_14 : decode cX11_tableAt 14 = .ok (.iload_n 1, 1) := by decide +kernel
theorem dX11_tableAt_15 : decode cX11_tableAt 15 = .ok (.aaload, 1) := by decide +kernel
theorem dX11_tableAt_16 : decode cX11_tableAt 16 = .ok (.goto 4, 3) := by decide +kernel
theorem dX11_tableAt_19 : decode cX11_tableAt 19 = .ok (.aconst_null, 1) := by decide +kernel
theorem dX11_tableAt_20 : decode cX11_tableAt 20 = .ok (.areturn, 1) := by decide +kernel
set_option maxRecDepth 20000 in
theorem ggX11_sumAt_X11_within : GoodIn wsX11_sumAt wsX11_within := goodIn_r _ [5] (by decide +kernel) (by decide +kernel)
set_option maxRecDepth 20000 in
theorem gX11_sumAt_X11_within : GoodIn wsX11_sumAt (va_wsS RX11 68 yX11_within wsX11_within) := goodIn_app (goodIn_of _ (by decide +kernel)) ggX11_sumAt_X11_within
theorem dX11_sumAt_0 : decode cX11_sumAt 0 = .ok (.iload_n 1, 1) := by decide +kernel
theorem dX11_sumAt_1 : decode cX11_sumAt 1 = .ok (.iconst (-1), 1) := by decide +kernel
theorem dX11_sumAt_2 : decode cX11_sumAt 2 = .ok (.bipush 7, 2) := by decide +kernel
theorem dX11_sumAt_4 : decode cX11_sumAt 4 = .ok (.invokestatic 68, 3) := by decide +kernel
theorem dX11_sumAt_7 : decode cX11_sumAt 7 = .ok (.ifCond .eq 14, 3) := by decide +kernel
theorem dX11_sumAt_10 : decode cX11_sumAt 10 = .ok (.aload_n 0, 1) := by decide +kernel
theorem dX11_sumAt_11 : decode cX11_sumAt 11 = .ok (.getfield 11, 3) := by decide +kernel
theorem dX11_sumAt_14 : decode cX11_sumAt 14 = .ok (.iload_n 1, 1) := by decide +kernel
theorem dX11_sumAt_15 : decode cX11_sumAt 15 = .ok (.iconst 1, 1) := by decide +kernel
theorem dX11_sumAt_16 : decode cX11_sumAt 16 = .ok (.iadd, 1) := by decide +kernel
theorem dX11_sumAt_17 : decode cX11_sumAt 17 = .ok (.aaload, 1) := by decide +kernel
theorem dX11_sumAt_18 : decode cX11_sumAt 18 = .ok (.goto 4, 3) := by decide +kernel
theorem dX11_sumAt_21 : decode cX11_sumAt 21 = .ok (.aconst_null, 1) := by decide +kernel
theorem dX11_sumAt_22 : decode cX11_sumAt 22 = .ok (.areturn, 1) := by decide +kernel
set_option maxRecDepth 20000 in
theorem ggX11_opAt_X11_within : GoodIn wsX11_opAt wsX11_within := goodIn_r _ [6] (by decide +kernel) (by decide +kernel)
set_option maxRecDepth 20000 in
theorem gX11_opAt_X11_within : GoodIn wsX11_opAt (va_wsS RX11 68 yX11_within wsX11_within) := goodIn_app (goodIn_of _ (by decide +kernel)) ggX11_opAt_X11_within
theorem dX11_opAt_0 : decode cX11_opAt 0 = .ok (.iload_n 1, 1) := by decide +kernel
theorem dX11_opAt_1 : decode cX11_opAt 1 = .ok (.iconst 0, 1) := by decide +kernel
theorem dX11_opAt_2 : decode cX11_opAt 2 = .ok (.aload_n 0, 1) := by decide +kernel
theorem dX11_opAt_3 : decode cX11_opAt 3 = .ok (.getfield 183, 3) := by decide +kernel
theorem dX11_opAt_6 : decode cX11_opAt 6 = .ok (.iconst 1, 1) := by decide +kernel
theorem dX11_opAt_7 : decode cX11_opAt 7 = .ok (.isub, 1) := by decide +kernel
theorem dX11_opAt_8 : decode cX11_opAt 8 = .ok (.invokestatic 68, 3) := by decide +kernel
theorem dX11_opAt_11 : decode cX11_opAt 11 = .ok (.ifCond .eq 12, 3) := by decide +kernel
theorem dX11_opAt_14 : decode cX11_opAt 14 = .ok (.aload_n 0, 1) := by decide +kernel
theorem dX11_opAt_15 : decode cX11_opAt 15 = .ok (.getfield 33, 3) := by decide +kernel
theorem dX11_opAt_18 : decode cX11_opAt 18 = .ok (.iload_n 1, 1) := by decide +kernel
theorem dX11_opAt_19 : decode cX11_opAt 19 = .ok (.aaload, 1) := by decide +kernel
theorem dX11_opAt_20 : decode cX11_opAt 20 = .ok (.goto 4, 3) := by decide +kernel
theorem dX11_opAt_23 : decode cX11_opAt 23 = .ok (.aconst_null, 1) := by decide +kernel
theorem dX11_opAt_24 : decode cX11_opAt 24 = .ok (.areturn, 1) := by decide +kernel
theorem dX11_found_0 : decode cX11_found 0 = .ok (.aload_n 0, 1) := by decide +kernel
theorem dX11_found_1 : decode cX11_found 1 = .ok (.iload_n 1, 1) := by decide +kernel
theorem dX11_found_2 : decode cX11_found 2 = .ok (.putfield 274, 3) := by decide +kernel
theorem dX11_found_5 : decode cX11_found 5 = .ok (.ldc_w 277, 3) := by decide +kernel
theorem dX11_found_8 : decode cX11_found 8 = .ok (.iload_n 1, 1) := by decide +kernel
theorem dX11_found_9 : decode cX11_found 9 = .ok (.isub, 1) := by decide +kernel
theorem dX11_found_10 : decode cX11_found 10 = .ok (.ireturn, 1) := by decide +kernel
theorem dX11_notFound_0 : decode cX11_notFound 0 = .ok (.aload_n 0, 1) := by decide +kernel
theorem dX11_notFound_1 : decode cX11_notFound 1 = .ok (.iconst 0, 1) := by decide +kernel
theorem dX11_notFound_2 : decode cX11_notFound 2 = .ok (.putfield 274, 3) := by decide +kernel
theorem dX11_notFound_5 : decode cX11_notFound 5 = .ok (.iload_n 1, 1) := by decide +kernel
theorem dX11_notFound_6 : decode cX11_notFound 6 = .ok (.ireturn, 1) := by decide +kernel
theorem dX11_append_0 : decode cX11_append 0 = .ok (.aload_n 0, 1) := by decide +kernel
theorem dX11_append_1 : decode cX11_append 1 = .ok (.getfield 183, 3) := by decide +kernel
theorem dX11_append_4 : decode cX11_append 4 = .ok (.istore_n 2, 1) := by decide +kernel
theorem dX11_append_5 : decode cX11_append 5 = .ok (.iload_n 2, 1) := by decide +kernel
theorem dX11_append_6 : decode cX11_append 6 = .ok (.bipush 40, 2) := by decide +kernel
theorem dX11_append_8 : decode cX11_append 8 = .ok (.if_icmp .lt 6, 3) := by decide +kernel
theorem dX11_append_11 : decode cX11_append 11 = .ok (.ldc 134, 2) := by decide +kernel
theorem dX11_append_13 : decode cX11_append 13 = .ok (.ireturn, 1) := by decide +kernel
theorem dX11_append_14 : decode cX11_append 14 = .ok (.aload_n 0, 1) := by decide +kernel
theorem dX11_append_15 : decode cX11_append 15 = .ok (.getfield 33, 3) := by decide +kernel
theorem dX11_append_18 : decode cX11_append 18 = .ok (.iload_n 2, 1) := by decide +kernel
theorem dX11_append_19 : decode cX11_append 19 = .ok (.aload_n 1, 1) := by decide +kernel
theorem dX11_append_20 : decode cX11_append 20 = .ok (.aastore, 1) := by decide +kernel
theorem dX11_append_21 : decode cX11_append 21 = .ok (.aload_n 0, 1) := by decide +kernel
theorem dX11_append_22 : decode cX11_append 22 = .ok (.dup, 1) := by decide +kernel
theorem dX11_append_23 : decode cX11_append 23 = .ok (.getfield 183, 3) := by decide +kernel
theorem dX11_append_26 : decode cX11_append 26 = .ok (.iconst 1, 1) := by decide +kernel
theorem dX11_append_27 : decode cX11_append 27 = .ok (.iadd, 1) := by decide +kernel
theorem dX11_append_28 : decode cX11_append 28 = .ok (.putfield 183, 3) := by decide +kernel
theorem dX11_append_31 : decode cX11_append 31 = .ok (.iload_n 2, 1) := by decide +kernel
theorem dX11_append_32 : decode cX11_append 32 = .ok (.ireturn, 1) := by decide +kernel
theorem dX11_presentTables_0 : decode cX11_presentTables 0 = .ok (.iconst 0, 1) := by decide +kernel
theorem dX11_presentTables_1 : decode cX11_presentTables 1 = .ok (.istore_n 1, 1) := by decide +kernel
theorem dX11_presentTables_2 : decode cX11_presentTables 2 = .ok (.iconst 0, 1) := by decide +kernel
theorem dX11_presentTables_3 : decode cX11_presentTables 3 = .ok (.istore_n 2, 1) := by decide +kernel
theorem dX11_presentTables_4 : decode cX11_presentTables 4 = .ok (.iload_n 2, 1) := by decide +kernel
theorem dX11_presentTables_5 : decode cX11_presentTables 5 = .ok (.bipush 8, 2) := by decide +kernel
theorem dX11_presentTables_7 : decode cX11_presentTables 7 = .ok (.if_icmp .ge 24, 3) := by decide +kernel
theorem dX11_presentTables_10 : decode cX11_presentTables 10 = .ok (.aload_n 0, 1) := by decide +kernel
theorem dX11_presentTables_11 : decode cX11_presentTables 11 = .ok (.getfield 27, 3) := by decide +kernel
theorem dX11_presentTables_14 : decode cX11_presentTables 14 = .ok (.iload_n 2, 1) := by decide +kernel
theorem dX11_presentTables_15 : decode cX11_presentTables 15 = .ok (.aaload, 1) := by decide +kernel
theorem dX11_presentTables_16 : decode cX11_presentTables 16 = .ok (.getfield 84, 3) := by decide +kernel
theorem dX11_presentTables_19 : decode cX11_presentTables 19 = .ok (.ifCond .ne 6, 3) := by decide +kernel
theorem dX11_presentTables_22 : decode cX11_presentTables 22 = .ok (.iinc 1 1, 3) := by decide +kernel
theorem dX11_presentTables_25 : decode cX11_presentTables 25 = .ok (.iinc 2 1, 3) := by decide +kernel
theorem dX11_presentTables_28 : decode cX11_presentTables 28 = .ok (.goto (-24), 3) := by decide +kernel
theorem dX11_presentTables_31 : decode cX11_presentTables 31 = .ok (.iload_n 1, 1) := by decide +kernel
theorem dX11_presentTables_32 : decode cX11_presentTables 32 = .ok (.ireturn, 1) := by decide +kernel
theorem dX11_openRounds_0 : decode cX11_openRounds 0 = .ok (.iconst 0, 1) := by decide +kernel
theorem dX11_openRounds_1 : decode cX11_openRounds 1 = .ok (.istore_n 1, 1) := by decide +kernel
theorem dX11_openRounds_2 : decode cX11_openRounds 2 = .ok (.aload_n 0, 1) := by decide +kernel
theorem dX11_openRounds_3 : decode cX11_openRounds 3 = .ok (.getfield 186, 3) := by decide +kernel
theorem dX11_openRounds_6 : decode cX11_openRounds 6 = .ok (.astore_n 2, 1) := by decide +kernel
theorem dX11_openRounds_7 : decode cX11_openRounds 7 = .ok (.aload_n 2, 1) := by decide +kernel
theorem dX11_openRounds_8 : decode cX11_openRounds 8 = .ok (.ifnull 14, 3) := by decide +kernel
theorem dX11_openRounds_11 : decode cX11_openRounds 11 = .ok (.iinc 1 1, 3) := by decide +kernel
theorem dX11_openRounds_14 : decode cX11_openRounds 14 = .ok (.aload_n 2, 1) := by decide +kernel
theorem dX11_openRounds_15 : decode cX11_openRounds 15 = .ok (.getfield 220, 3) := by decide +kernel
theorem dX11_openRounds_18 : decode cX11_openRounds 18 = .ok (.astore_n 2, 1) := by decide +kernel
theorem dX11_openRounds_19 : decode cX11_openRounds 19 = .ok (.goto (-12), 3) := by decide +kernel
theorem dX11_openRounds_22 : decode cX11_openRounds 22 = .ok (.iload_n 1, 1) := by decide +kernel
theorem dX11_openRounds_23 : decode cX11_openRounds 23 = .ok (.ireturn, 1) := by decide +kernel
theorem dX11_allTerms_0 : decode cX11_allTerms 0 = .ok (.iconst 0, 1) := by decide +kernel
theorem dX11_allTerms_1 : decode cX11_allTerms 1 = .ok (.istore_n 1, 1) := by decide +kernel
theorem dX11_allTerms_2 : decode cX11_allTerms 2 = .ok (.iconst 0, 1) := by decide +kernel
theorem dX11_allTerms_3 : decode cX11_allTerms 3 = .ok (.istore_n 2, 1) := by decide +kernel
theorem dX11_allTerms_4 : decode cX11_allTerms 4 = .ok (.iload_n 2, 1) := by decide +kernel
theorem dX11_allTerms_5 : decode cX11_allTerms 5 = .ok (.aload_n 0, 1) := by decide +kernel
theorem dX11_allTerms_6 : decode cX11_allTerms 6 = .ok (.getfield 11, 3) := by decide +kernel
theorem dX11_allTerms_9 : decode cX11_allTerms 9 = .ok (.arraylength, 1) := by decide +kernel
theorem dX11_allTerms_10 : decode cX11_allTerms 10 = .ok (.if_icmp .ge 21, 3) := by decide +kernel
theorem dX11_allTerms_13 : decode cX11_allTerms 13 = .ok (.iload_n 1, 1) := by decide +kernel
theorem dX11_allTerms_14 : decode cX11_allTerms 14 = .ok (.aload_n 0, 1) := by decide +kernel
theorem dX11_allTerms_15 : decode cX11_allTerms 15 = .ok (.getfield 11, 3) := by decide +kernel
theorem dX11_allTerms_18 : decode cX11_allTerms 18 = .ok (.iload_n 2, 1) := by decide +kernel
theorem dX11_allTerms_19 : decode cX11_allTerms 19 = .ok (.aaload, 1) := by decide +kernel
theorem dX11_allTerms_20 : decode cX11_allTerms 20 = .ok (.getfield 114, 3) := by decide +kernel
theorem dX11_allTerms_23 : decode cX11_allTerms 23 = .ok (.iadd, 1) := by decide +kernel
theorem dX11_allTerms_24 : decode cX11_allTerms 24 = .ok (.istore_n 1, 1) := by decide +kernel
theorem dX11_allTerms_25 : decode cX11_allTerms 25 = .ok (.iinc 2 1, 3) := by decide +kernel
theorem dX11_allTerms_28 : decode cX11_allTerms 28 = .ok (.goto (-24), 3) := by decide +kernel
theorem dX11_allTerms_31 : decode cX11_allTerms 31 = .ok (.iload_n 1, 1) := by decide +kernel
theorem dX11_allTerms_32 : decode cX11_allTerms 32 = .ok (.ireturn, 1) := by decide +kernel
set_option maxRecDepth 20000 in
theorem ggX11_takeAll_X9_become : GoodIn wsX11_takeAll wsX9_become := goodIn_r _ [4, 5, 6, 7, 8, 9, 10, 11, 12, 13, 14] (by decide +kernel) (by decide +kernel)
set_option maxRecDepth 20000 in
theorem gX11_takeAll_X9_become_n135 : GoodIn wsX11_takeAll (wsX9_become) := ggX11_takeAll_X9_become
theorem dX11_takeAll_0 : decode cX11_takeAll 0 = .ok (.iconst 0, 1) := by decide +kernel
theorem dX11_takeAll_1 : decode cX11_takeAll 1 = .ok (.istore_n 2, 1) := by decide +kernel
theorem dX11_takeAll_2 : decode cX11_takeAll 2 = .ok (.iload_n 2, 1) := by decide +kernel
theorem dX11_takeAll_3 : decode cX11_takeAll 3 = .ok (.aload_n 0, 1) := by decide +kernel
theorem dX11_takeAll_4 : decode cX11_takeAll 4 = .ok (.arraylength, 1) := by decide +kernel
theorem dX11_takeAll_5 : decode cX11_takeAll 5 = .ok (.if_icmp .ge 24, 3) := by decide +kernel
theorem dX11_takeAll_8 : decode cX11_takeAll 8 = .ok (.iload_n 2, 1) := by decide +kernel
theorem dX11_takeAll_9 : decode cX11_takeAll 9 = .ok (.aload_n 1, 1) := by decide +kernel
theorem dX11_takeAll_10 : decode cX11_takeAll 10 = .ok (.arraylength, 1) := by decide +kernel
theorem dX11_takeAll_11 : decode cX11_takeAll 11 = .ok (.if_icmp .ge 18, 3) := by decide +kernel
theorem dX11_takeAll_14 : decode cX11_takeAll 14 = .ok (.aload_n 0, 1) := by decide +kernel
theorem dX11_takeAll_15 : decode cX11_takeAll 15 = .ok (.iload_n 2, 1) := by decide +kernel
theorem dX11_takeAll_16 : decode cX11_takeAll 16 = .ok (.aaload, 1) := by decide +kernel
theorem dX11_takeAll_17 : decode cX11_takeAll 17 = .ok (.aload_n 1, 1) := by decide +kernel
theorem dX11_takeAll_18 : decode cX11_takeAll 18 = .ok (.iload_n 2, 1) := by decide +kernel
theorem dX11_takeAll_19 : decode cX11_takeAll 19 = .ok (.aaload, 1) := by decide +kernel
theorem dX11_takeAll_20 : decode cX11_takeAll 20 = .ok (.invokevirtual 135, 3) := by decide +kernel
theorem dX11_takeAll_23 : decode cX11_takeAll 23 = .ok (.iinc 2 1, 3) := by decide +kernel
theorem dX11_takeAll_26 : decode cX11_takeAll 26 = .ok (.goto (-24), 3) := by decide +kernel
theorem dX11_takeAll_29 : decode cX11_takeAll 29 = .ok (.return_, 1) := by decide +kernel
theorem dX11_leaveBody_0 : decode cX11_leaveBody 0 = .ok (.aload_n 0, 1) := by decide +kernel
theorem dX11_leaveBody_1 : decode cX11_leaveBody 1 = .ok (.getfield 242, 3) := by decide +kernel
theorem dX11_leaveBody_4 : decode cX11_leaveBody 4 = .ok (.bipush 16, 2) := by decide +kernel
theorem dX11_leaveBody_6 : decode cX11_leaveBody 6 = .ok (.if_icmp .ge 23, 3) := by decide +kernel
theorem dX11_leaveBody_9 : decode cX11_leaveBody 9 = .ok (.aload_n 0, 1) := by decide +kernel
theorem dX11_leaveBody_10 : decode cX11_leaveBody 10 = .ok (.getfield 42, 3) := by decide +kernel
theorem dX11_leaveBody_13 : decode cX11_leaveBody 13 = .ok (.aload_n 0, 1) := by decide +kernel
theorem dX11_leaveBody_14 : decode cX11_leaveBody 14 = .ok (.getfield 242, 3) := by decide +kernel
theorem dX11_leaveBody_17 : decode cX11_leaveBody 17 = .ok (.iload_n 1, 1) := by decide +kernel
theorem dX11_leaveBody_18 : decode cX11_leaveBody 18 = .ok (.iastore, 1) := by decide +kernel
theorem dX11_leaveBody_19 : decode cX11_leaveBody 19 = .ok (.aload_n 0, 1) := by decide +kernel
theorem dX11_leaveBody_20 : decode cX11_leaveBody 20 = .ok (.dup, 1) := by decide +kernel
theorem dX11_leaveBody_21 : decode cX11_leaveBody 21 = .ok (.getfield 242, 3) := by decide +kernel
theorem dX11_leaveBody_24 : decode cX11_leaveBody 24 = .ok (.iconst 1, 1) := by decide +kernel
theorem dX11_leaveBody_25 : decode cX11_leaveBody 25 = .ok (.iadd, 1) := by decide +kernel
theorem dX11_leaveBody_26 : decode cX11_leaveBody 26 = .ok (.putfield 242, 3) := by decide +kernel
theorem dX11_leaveBody_29 : decode cX11_leaveBody 29 = .ok (.return_, 1) := by decide +kernel
theorem dX11_signOf_0 : decode cX11_signOf 0 = .ok (.iconst 0, 1) := by decide +kernel
theorem dX11_signOf_1 : decode cX11_signOf 1 = .ok (.istore_n 2, 1) := by decide +kernel
theorem dX11_signOf_2 : decode cX11_signOf 2 = .ok (.iconst 0, 1) := by decide +kernel
theorem dX11_signOf_3 : decode cX11_signOf 3 = .ok (.istore_n 3, 1) := by decide +kernel
theorem dX11_signOf_4 : decode cX11_signOf 4 = .ok (.iload_n 3, 1) := by decide +kernel
theorem dX11_signOf_5 : decode cX11_signOf 5 = .ok (.iconst 4, 1) := by decide +kernel
theorem dX11_signOf_6 : decode cX11_signOf 6 = .ok (.if_icmp .ge 71, 3) := by decide +kernel
theorem dX11_signOf_9 : decode cX11_signOf 9 = .ok (.iload_n 0, 1) := by decide +kernel
theorem dX11_signOf_10 : decode cX11_signOf 10 = .ok (.iconst 2, 1) := by decide +kernel
theorem dX11_signOf_11 : decode cX11_signOf 11 = .ok (.iload_n 3, 1) := by decide +kernel
theorem dX11_signOf_12 : decode cX11_signOf 12 = .ok (.imul, 1) := by decide +kernel
theorem dX11_signOf_13 : decode cX11_signOf 13 = .ok (.ishr, 1) := by decide +kernel
theorem dX11_signOf_14 : decode cX11_signOf 14 = .ok (.iconst 3, 1) := by decide +kernel
theorem dX11_signOf_15 : decode cX11_signOf 15 = .ok (.iand, 1) := by decide +kernel
theorem dX11_signOf_16 : decode cX11_signOf 16 = .ok (.istore 4, 2) := by decide +kernel
theorem dX11_signOf_18 : decode cX11_signOf 18 = .ok (.iload_n 1, 1) := by decide +kernel
theorem dX11_signOf_19 : decode cX11_signOf 19 = .ok (.iconst 2, 1) := by decide +kernel
theorem dX11_signOf_20 : decode cX11_signOf 20 = .ok (.iload_n 3, 1) := by decide +kernel
theorem dX11_signOf_21 : decode cX11_signOf 21 = .ok (.imul, 1) := by decide +kernel
theorem dX11_signOf_22 : decode cX11_signOf 22 = .ok (.ishr, 1) := by decide +kernel
theorem dX11_signOf_23 : decode cX11_signOf 23 = .ok (.iconst 3, 1) := by decide +kernel
theorem dX11_signOf_24 : decode cX11_signOf 24 = .ok (.iand, 1) := by decide +kernel
theorem dX11_signOf_25 : decode cX11_signOf 25 = .ok (.istore 5, 2) := by decide +kernel
theorem dX11_signOf_27 : decode cX11_signOf 27 = .ok (.iload 4, 2) := by decide +kernel
theorem dX11_signOf_29 : decode cX11_signOf 29 = .ok (.ifCond .eq 42, 3) := by decide +kernel
theorem dX11_signOf_32 : decode cX11_signOf 32 = .ok (.iload 5, 2) := by decide +kernel
theorem dX11_signOf_34 : decode cX11_signOf 34 = .ok (.ifCond .eq 37, 3) := by decide +kernel
theorem dX11_signOf_37 : decode cX11_signOf 37 = .ok (.iload 4, 2) := by decide +kernel
theorem dX11_signOf_39 : decode cX11_signOf 39 = .ok (.iload 5, 2) := by decide +kernel
theorem dX11_signOf_41 : decode cX11_signOf 41 = .ok (.if_icmp .eq 30, 3) := by decide +kernel
theorem dX11_signOf_44 : decode cX11_signOf 44 = .ok (.iload_n 2, 1) := by decide +kernel
theorem dX11_signOf_45 : decode cX11_signOf 45 = .ok (.iload 5, 2) := by decide +kernel
theorem dX11_signOf_47 : decode cX11_signOf 47 = .ok (.iload 4, 2) := by decide +kernel
theorem dX11_signOf_49 : decode cX11_signOf 49 = .ok (.isub, 1) := by decide +kernel
theorem dX11_signOf_50 : decode cX11_signOf 50 = .ok (.iconst 1, 1) := by decide +kernel
theorem dX11_signOf_51 : decode cX11_signOf 51 = .ok (.if_icmp .eq 13, 3) := by decide +kernel
theorem dX11_signOf_54 : decode cX11_signOf 54 = .ok (.iload 5, 2) := by decide +kernel
theorem dX11_signOf_56 : decode cX11_signOf 56 = .ok (.iload 4, 2) := by decide +kernel
theorem dX11_signOf_58 : decode cX11_signOf 58 = .ok (.isub, 1) := by decide +kernel
theorem dX11_signOf_59 : decode cX11_signOf 59 = .ok (.bipush (-2), 2) := by decide +kernel
theorem dX11_signOf_61 : decode cX11_signOf 61 = .ok (.if_icmp .ne 7, 3) := by decide +kernel
theorem dX11_signOf_64 : decode cX11_signOf 64 = .ok (.iconst 1, 1) := by decide +kernel
theorem dX11_signOf_65 : decode cX11_signOf 65 = .ok (.goto 4, 3) := by decide +kernel
theorem dX11_signOf_68 : decode cX11_signOf 68 = .ok (.iconst (-1), 1) := by decide +kernel
theorem dX11_signOf_69 : decode cX11_signOf 69 = .ok (.iadd, 1) := by decide +kernel
theorem dX11_signOf_70 : decode cX11_signOf 70 = .ok (.istore_n 2, 1) := by decide +kernel
theorem dX11_signOf_71 : decode cX11_signOf 71 = .ok (.iinc 3 1, 3) := by decide +kernel
theorem dX11_signOf_74 : decode cX11_signOf 74 = .ok (.goto (-70), 3) := by decide +kernel
theorem dX11_signOf_77 : decode cX11_signOf 77 = .ok (.iload_n 2, 1) := by decide +kernel
theorem dX11_signOf_78 : decode cX11_signOf 78 = .ok (.iconst 1, 1) := by decide +kernel
theorem dX11_signOf_79 : decode cX11_signOf 79 = .ok (.iand, 1) := by decide +kernel
theorem dX11_signOf_80 : decode cX11_signOf 80 = .ok (.ifCond .ne 5, 3) := by decide +kernel
theorem dX11_signOf_83 : decode cX11_signOf 83 = .ok (.iconst 0, 1) := by decide +kernel
theorem dX11_signOf_84 : decode cX11_signOf 84 = .ok (.ireturn, 1) := by decide +kernel
theorem dX11_signOf_85 : decode cX11_signOf 85 = .ok (.iload_n 2, 1) := by decide +kernel
theorem dX11_signOf_86 : decode cX11_signOf 86 = .ok (.iconst 1, 1) := by decide +kernel
theorem dX11_signOf_87 : decode cX11_signOf 87 = .ok (.isub, 1) := by decide +kernel
theorem dX11_signOf_88 : decode cX11_signOf 88 = .ok (.iconst 3, 1) := by decide +kernel
theorem dX11_signOf_89 : decode cX11_signOf 89 = .ok (.iand, 1) := by decide +kernel
theorem dX11_signOf_90 : decode cX11_signOf 90 = .ok (.ifCond .ne 7, 3) := by decide +kernel
theorem dX11_signOf_93 : decode cX11_signOf 93 = .ok (.iconst 1, 1) := by decide +kernel
theorem dX11_signOf_94 : decode cX11_signOf 94 = .ok (.goto 4, 3) := by decide +kernel
theorem dX11_signOf_97 : decode cX11_signOf 97 = .ok (.iconst (-1), 1) := by decide +kernel
theorem dX11_signOf_98 : decode cX11_signOf 98 = .ok (.ireturn, 1) := by decide +kernel
theorem dX11_withProduct_0 : decode cX11_withProduct 0 = .ok (.iload_n 0, 1) := by decide +kernel
theorem dX11_withProduct_1 : decode cX11_withProduct 1 = .ok (.iload_n 1, 1) := by decide +kernel
theorem dX11_withProduct_2 : decode cX11_withProduct 2 = .ok (.bipush 20, 2) := by decide +kernel
theorem dX11_withProduct_4 : decode cX11_withProduct 4 = .ok (.ishl, 1) := by decide +kernel
theorem dX11_withProduct_5 : decode cX11_withProduct 5 = .ok (.ixor, 1) := by decide +kernel
theorem dX11_withProduct_6 : decode cX11_withProduct 6 = .ok (.ireturn, 1) := by decide +kernel
set_option maxRecDepth 20000 in
theorem ggX11_turnByQuarters_X4_begin : GoodIn wsX11_turnByQuarters wsX4_begin := goodIn_r _ [6, 7, 8, 9, 10, 84, 85, 86, 87, 88, 89, 90, 91] (by decide +kernel) (by decide +kernel)
set_option maxRecDepth 20000 in
theorem gX11_turnByQuarters_X4_begin_n119 : GoodIn wsX11_turnByQuarters (wsX4_begin) := ggX11_turnByQuarters_X4_begin
set_option maxRecDepth 20000 in
theorem ggX11_turnByQuarters_X11_productOf : GoodIn wsX11_turnByQuarters wsX11_productOf := goodIn_r _ [14] (by decide +kernel) (by decide +kernel)
set_option maxRecDepth 20000 in
theorem gX11_turnByQuarters_X11_productOf : GoodIn wsX11_turnByQuarters (va_wsS RX11 161 yX11_productOf wsX11_productOf) := goodIn_app (goodIn_of _ (by decide +kernel)) ggX11_turnByQuarters_X11_productOf
set_option maxRecDepth 20000 in
theorem ggX11_turnByQuarters_X11_signOf : GoodIn wsX11_turnByQuarters wsX11_signOf := goodIn_r _ [17] (by decide +kernel) (by decide +kernel)
set_option maxRecDepth 20000 in
theorem gX11_turnByQuarters_X11_signOf : GoodIn wsX11_turnByQuarters (va_wsS RX11 278 yX11_signOf wsX11_signOf) := goodIn_app (goodIn_of _ (by decide +kernel)) ggX11_turnByQuarters_X11_signOf
set_option maxRecDepth 20000 in
theorem ggX11_turnByQuarters_X4_put : GoodIn wsX11_turnByQuarters wsX4_put := goodIn_r _ [20, 21, 8, 22, 23, 24, 25, 26, 4, 27, 10, 7, 9, 84, 85, 86, 87, 88, 89, 90, 91] (by decide +kernel) (by decide +kernel)
set_option maxRecDepth 20000 in
theorem gX11_turnByQuarters_X4_put_n126 : GoodIn wsX11_turnByQuarters (wsX4_put) := ggX11_turnByQuarters_X4_put
set_option maxRecDepth 20000 in
theorem ggX11_turnByQuarters_X11_withProduct : GoodIn wsX11_turnByQuarters wsX11_withProduct := goodIn_r _ [30] (by decide +kernel) (by decide +kernel)
set_option maxRecDepth 20000 in
theorem gX11_turnByQuarters_X11_withProduct : GoodIn wsX11_turnByQuarters (va_wsS RX11 281 yX11_withProduct wsX11_withProduct) := goodIn_app (goodIn_of _ (by decide +kernel)) ggX11_turnByQuarters_X11_withProduct
set_option maxRecDepth 20000 in
theorem ggX11_turnByQuarters_X4_settle : GoodIn wsX11_turnByQuarters wsX4_settle := goodIn_r _ [33, 22, 10, 34, 35, 36, 37, 23, 38, 39, 40, 4, 41, 42, 43, 44, 45, 46, 47, 48, 49, 50, 51, 13, 52, 53, 54, 55, 56, 57, 58, 59, 60, 61, 62, 63, 64, 65, 84, 85, 86, 87, 88, 89, 90, 91, 81, 82, 83] (by decide +kernel) (by decide +kernel)
set_option maxRecDepth 20000 in
theorem gX11_turnByQuarters_X4_settle_n130 : GoodIn wsX11_turnByQuarters (wsX4_settle) := ggX11_turnByQuarters_X4_settle
theorem dX11_turnByQuarters_0 : decode cX11_turnByQuarters 0 = .ok (.iload_n 2, 1) := by decide +kernel
theorem dX11_turnByQuarters_1 : decode cX11_turnByQuarters 1 = .ok (.ifCond .ne 5, 3) := by decide +kernel
theorem dX11_turnByQuarters_4 : decode cX11_turnByQuarters 4 = .ok (.iconst 1, 1) := by decide +kernel
theorem dX11_turnByQuarters_5 : decode cX11_turnByQuarters 5 = .ok (.ireturn, 1) := by decide +kernel
theorem dX11_turnByQuarters_6 : decode cX11_turnByQuarters 6 = .ok (.aload_n 0, 1) := by decide +kernel
theorem dX11_turnByQuarters_7 : decode cX11_turnByQuarters 7 = .ok (.getfield 21, 3) := by decide +kernel
theorem dX11_turnByQuarters_10 : decode cX11_turnByQuarters 10 = .ok (.invokevirtual 119, 3) := by decide +kernel
theorem dX11_turnByQuarters_13 : decode cX11_turnByQuarters 13 = .ok (.iconst 0, 1) := by decide +kernel
theorem dX11_turnByQuarters_14 : decode cX11_turnByQuarters 14 = .ok (.istore_n 3, 1) := by decide +kernel
theorem dX11_turnByQuarters_15 : decode cX11_turnByQuarters 15 = .ok (.iload_n 3, 1) := by decide +kernel
theorem dX11_turnByQuarters_16 : decode cX11_turnByQuarters 16 = .ok (.aload_n 0, 1) := by decide +kernel
theorem dX11_turnByQuarters_17 : decode cX11_turnByQuarters 17 = .ok (.getfield 59, 3) := by decide +kernel
theorem dX11_turnByQuarters_20 : decode cX11_turnByQuarters 20 = .ok (.getfield 114, 3) := by decide +kernel
theorem dX11_turnByQuarters_23 : decode cX11_turnByQuarters 23 = .ok (.if_icmp .ge 115, 3) := by decide +kernel
theorem dX11_turnByQuarters_26 : decode cX11_turnByQuarters 26 = .ok (.aload_n 0, 1) := by decide +kernel
theorem dX11_turnByQuarters_27 : decode cX11_turnByQuarters 27 = .ok (.getfield 59, 3) := by decide +kernel
theorem dX11_turnByQuarters_30 : decode cX11_turnByQuarters 30 = .ok (.getfield 158, 3) := by decide +kernel
theorem dX11_turnByQuarters_33 : decode cX11_turnByQuarters 33 = .ok (.iload_n 3, 1) := by decide +kernel
theorem dX11_turnByQuarters_34 : decode cX11_turnByQuarters 34 = .ok (.iaload, 1) := by decide +kernel
theorem dX11_turnByQuarters_35 : decode cX11_turnByQuarters 35 = .ok (.istore 4, 2) := by decide +kernel
theorem dX11_turnByQuarters_37 : decode cX11_turnByQuarters 37 = .ok (.aload_n 0, 1) := by decide +kernel
theorem dX11_turnByQuarters_38 : decode cX11_turnByQuarters 38 = .ok (.getfield 59, 3) := by decide +kernel
theorem dX11_turnByQuarters_41 : decode cX11_turnByQuarters 41 = .ok (.getfield 154, 3) := by decide +kernel
theorem dX11_turnByQuarters_44 : decode cX11_turnByQuarters 44 = .ok (.iload_n 3, 1) := by decide +kernel
theorem dX11_turnByQuarters_45 : decode cX11_turnByQuarters 45 = .ok (.laload, 1) := by decide +kernel
theorem dX11_turnByQuarters_46 : decode cX11_turnByQuarters 46 = .ok (.lstore 5, 2) := by decide +kernel
theorem dX11_turnByQuarters_48 : decode cX11_turnByQuarters 48 = .ok (.iload_n 1, 1) := by decide +kernel
theorem dX11_turnByQuarters_49 : decode cX11_turnByQuarters 49 = .ok (.iload 4, 2) := by decide +kernel
theorem dX11_turnByQuarters_51 : decode cX11_turnByQuarters 51 = .ok (.invokestatic 161, 3) := by decide +kernel
theorem dX11_turnByQuarters_54 : decode cX11_turnByQuarters 54 = .ok (.invokestatic 278, 3) := by decide +kernel
theorem dX11_turnByQuarters_57 : decode cX11_turnByQuarters 57 = .ok (.istore 7, 2) := by decide +kernel
theorem dX11_turnByQuarters_59 : decode cX11_turnByQuarters 59 = .ok (.iload 7, 2) := by decide +kernel
theorem dX11_turnByQuarters_61 : decode cX11_turnByQuarters 61 = .ok (.ifCond .ne 17, 3) := by decide +kernel
theorem dX11_turnByQuarters_64 : decode cX11_turnByQuarters 64 = .ok (.aload_n 0, 1) := by decide +kernel
theorem dX11_turnByQuarters_65 : decode cX11_turnByQuarters 65 = .ok (.getfield 21, 3) := by decide +kernel
theorem dX11_turnByQuarters_68 : decode cX11_turnByQuarters 68 = .ok (.iload 4, 2) := by decide +kernel
theorem dX11_turnByQuarters_70 : decode cX11_turnByQuarters 70 = .ok (.lload 5, 2) := by decide +kernel
theorem dX11_turnByQuarters_72 : decode cX11_turnByQuarters 72 = .ok (.invokevirtual 126, 3) := by decide +kernel
theorem dX11_turnByQuarters_75 : decode cX11_turnByQuarters 75 = .ok (.goto 57, 3) := by decide +kernel
theorem dX11_turnByQuarters_78 : decode cX11_turnByQuarters 78 = .ok (.iload_n 2, 1) := by decide +kernel
theorem dX11_turnByQuarters_79 : decode cX11_turnByQuarters 79 = .ok (.iconst 2, 1) := by decide +kernel
theorem dX11_turnByQuarters_80 : decode cX11_turnByQuarters 80 = .ok (.if_icmp .ne 18, 3) := by decide +kernel
theorem dX11_turnByQuarters_83 : decode cX11_turnByQuarters 83 = .ok (.aload_n 0, 1) := by decide +kernel
theorem dX11_turnByQuarters_84 : decode cX11_turnByQuarters 84 = .ok (.getfield 21, 3) := by decide +kernel
theorem dX11_turnByQuarters_87 : decode cX11_turnByQuarters 87 = .ok (.iload 4, 2) := by decide +kernel
theorem dX11_turnByQuarters_89 : decode cX11_turnByQuarters 89 = .ok (.lload 5, 2) := by decide +kernel
theorem dX11_turnByQuarters_91 : decode cX11_turnByQuarters 91 = .ok (.lneg, 1) := by decide +kernel
theorem dX11_turnByQuarters_92 : decode cX11_turnByQuarters 92 = .ok (.invokevirtual 126, 3) := by decide +kernel
theorem dX11_turnByQuarters_95 : decode cX11_turnByQuarters 95 = .ok (.goto 37, 3) := by decide +kernel
theorem dX11_turnByQuarters_98 : decode cX11_turnByQuarters 98 = .ok (.aload_n 0, 1) := by decide +kernel
theorem dX11_turnByQuarters_99 : decode cX11_turnByQuarters 99 = .ok (.getfield 21, 3) := by decide +kernel
theorem dX11_turnByQuarters_102 : decode cX11_turnByQuarters 102 = .ok (.iload 4, 2) := by decide +kernel
theorem dX11_turnByQuarters_104 : decode cX11_turnByQuarters 104 = .ok (.iload_n 1, 1) := by decide +kernel
theorem dX11_turnByQuarters_105 : decode cX11_turnByQuarters 105 = .ok (.invokestatic 281, 3) := by decide +kernel
theorem dX11_turnByQuarters_108 : decode cX11_turnByQuarters 108 = .ok (.iload_n 2, 1) := by decide +kernel
theorem dX11_turnByQuarters_109 : decode cX11_turnByQuarters 109 = .ok (.iconst 1, 1) := by decide +kernel
theorem dX11_turnByQuarters_110 : decode cX11_turnByQuarters 110 = .ok (.if_icmp .ne 12, 3) := by decide +kernel
theorem dX11_turnByQuarters_113 : decode cX11_turnByQuarters 113 = .ok (.lload 5, 2) := by decide +kernel
theorem dX11_turnByQuarters_115 : decode cX11_turnByQuarters 115 = .ok (.iload 7, 2) := by decide +kernel
theorem dX11_turnByQuarters_117 : decode cX11_turnByQuarters 117 = .ok (.i2l, 1) := by decide +kernel
theorem dX11_turnByQuarters_118 : decode cX11_turnByQuarters 118 = .ok (.lmul, 1) := by decide +kernel
theorem dX11_turnByQuarters_119 : decode cX11_turnByQuarters 119 = .ok (.goto 10, 3) := by decide +kernel
theorem dX11_turnByQuarters_122 : decode cX11_turnByQuarters 122 = .ok (.lload 5, 2) := by decide +kernel
theorem dX11_turnByQuarters_124 : decode cX11_turnByQuarters 124 = .ok (.lneg, 1) := by decide +kernel
theorem dX11_turnByQuarters_125 : decode cX11_turnByQuarters 125 = .ok (.iload 7, 2) := by decide +kernel
theorem dX11_turnByQuarters_127 : decode cX11_turnByQuarters 127 = .ok (.i2l, 1) := by decide +kernel
theorem dX11_turnByQuarters_128 : decode cX11_turnByQuarters 128 = .ok (.lmul, 1) := by decide +kernel
theorem dX11_turnByQuarters_129 : decode cX11_turnByQuarters 129 = .ok (.invokevirtual 126, 3) := by decide +kernel
theorem dX11_turnByQuarters_132 : decode cX11_turnByQuarters 132 = .ok (.iinc 3 1, 3) := by decide +kernel
theorem dX11_turnByQuarters_135 : decode cX11_turnByQuarters 135 = .ok (.goto (-120), 3) := by decide +kernel
theorem dX11_turnByQuarters_138 : decode cX11_turnByQuarters 138 = .ok (.aload_n 0, 1) := by decide +kernel
theorem dX11_turnByQuarters_139 : decode cX11_turnByQuarters 139 = .ok (.getfield 21, 3) := by decide +kernel
theorem dX11_turnByQuarters_142 : decode cX11_turnByQuarters 142 = .ok (.aload_n 0, 1) := by decide +kernel
theorem dX11_turnByQuarters_143 : decode cX11_turnByQuarters 143 = .ok (.getfield 59, 3) := by decide +kernel
theorem dX11_turnByQuarters_146 : decode cX11_turnByQuarters 146 = .ok (.invokevirtual 130, 3) := by decide +kernel
theorem dX11_turnByQuarters_149 : decode cX11_turnByQuarters 149 = .ok (.ireturn, 1) := by decide +kernel
set_option maxRecDepth 20000 in
theorem ggX11_turnByLetter_X4_begin : GoodIn wsX11_turnByLetter wsX4_begin := goodIn_r _ [6, 7, 8, 9, 10, 94, 95, 96, 97, 98, 99, 100, 101] (by decide +kernel) (by decide +kernel)
set_option maxRecDepth 20000 in
theorem gX11_turnByLetter_X4_begin_n119 : GoodIn wsX11_turnByLetter (wsX4_begin) := ggX11_turnByLetter_X4_begin
set_option maxRecDepth 20000 in
theorem ggX11_turnByLetter_X11_productOf : GoodIn wsX11_turnByLetter wsX11_productOf := goodIn_r _ [14] (by decide +kernel) (by decide +kernel)
set_option maxRecDepth 20000 in
theorem gX11_turnByLetter_X11_productOf : GoodIn wsX11_turnByLetter (va_wsS RX11 161 yX11_productOf wsX11_productOf) := goodIn_app (goodIn_of _ (by decide +kernel)) ggX11_turnByLetter_X11_productOf
set_option maxRecDepth 20000 in
theorem ggX11_turnByLetter_X11_signOf : GoodIn wsX11_turnByLetter wsX11_signOf := goodIn_r _ [17] (by decide +kernel) (by decide +kernel)
set_option maxRecDepth 20000 in
theorem gX11_turnByLetter_X11_signOf : GoodIn wsX11_turnByLetter (va_wsS RX11 278 yX11_signOf wsX11_signOf) := goodIn_app (goodIn_of _ (by decide +kernel)) ggX11_turnByLetter_X11_signOf
set_option maxRecDepth 20000 in
theorem ggX11_turnByLetter_X4_put : GoodIn wsX11_turnByLetter wsX4_put := goodIn_r _ [20, 21, 8, 22, 23, 24, 25, 26, 4, 27, 10, 7, 9, 94, 95, 96, 97, 98, 99, 100, 101] (by decide +kernel) (by decide +kernel)
set_option maxRecDepth 20000 in
theorem gX11_turnByLetter_X4_put_n126 : GoodIn wsX11_turnByLetter (wsX4_put) := ggX11_turnByLetter_X4_put
set_option maxRecDepth 20000 in
theorem ggX11_turnByLetter_X11_oneCosine : GoodIn wsX11_turnByLetter wsX11_oneCosine := goodIn_r _ [30, 31, 32, 13, 33] (by decide +kernel) (by decide +kernel)
set_option maxRecDepth 20000 in
theorem gX11_turnByLetter_X11_oneCosine : GoodIn wsX11_turnByLetter (va_wsS RX11 284 yX11_oneCosine wsX11_oneCosine) := goodIn_app (goodIn_of _ (by decide +kernel)) ggX11_turnByLetter_X11_oneCosine
set_option maxRecDepth 20000 in
theorem ggX11_turnByLetter_X11_withProduct : GoodIn wsX11_turnByLetter wsX11_withProduct := goodIn_r _ [36] (by decide +kernel) (by decide +kernel)
set_option maxRecDepth 20000 in
theorem gX11_turnByLetter_X11_withProduct : GoodIn wsX11_turnByLetter (va_wsS RX11 281 yX11_withProduct wsX11_withProduct) := goodIn_app (goodIn_of _ (by decide +kernel)) ggX11_turnByLetter_X11_withProduct
set_option maxRecDepth 20000 in
theorem ggX11_turnByLetter_X4_putTimesSine : GoodIn wsX11_turnByLetter wsX4_putTimesSine := goodIn_r _ [39, 32, 13, 33, 40, 18, 19, 4, 20, 21, 8, 22, 23, 24, 25, 26, 27, 10, 7, 9, 29, 30, 31, 94, 95, 96, 97, 98, 99, 100, 101] (by decide +kernel) (by decide +kernel)
set_option maxRecDepth 20000 in
theorem gX11_turnByLetter_X4_putTimesSine_n287 : GoodIn wsX11_turnByLetter (wsX4_putTimesSine) := ggX11_turnByLetter_X4_putTimesSine
set_option maxRecDepth 20000 in
theorem ggX11_turnByLetter_X4_settle : GoodIn wsX11_turnByLetter wsX4_settle := goodIn_r _ [43, 22, 10, 44, 45, 46, 47, 23, 48, 49, 50, 4, 51, 52, 53, 54, 55, 56, 57, 58, 59, 60, 61, 13, 62, 63, 64, 65, 66, 67, 68, 69, 70, 71, 72, 73, 74, 75, 94, 95, 96, 97, 98, 99, 100, 101, 91, 92, 93] (by decide +kernel) (by decide +kernel)
set_option maxRecDepth 20000 in
theorem gX11_turnByLetter_X4_settle_n130 : GoodIn wsX11_turnByLetter (wsX4_settle) := ggX11_turnByLetter_X4_settle
theorem dX11_turnByLetter_0 : decode cX11_turnByLetter 0 = .ok (.aload_n 0, 1) := by decide +kernel
theorem dX11_turnByLetter_1 : decode cX11_turnByLetter 1 = .ok (.getfield 21, 3) := by decide +kernel
theorem dX11_turnByLetter_4 : decode cX11_turnByLetter 4 = .ok (.invokevirtual 119, 3) := by decide +kernel
theorem dX11_turnByLetter_7 : decode cX11_turnByLetter 7 = .ok (.iconst 0, 1) := by decide +kernel
theorem dX11_turnByLetter_8 : decode cX11_turnByLetter 8 = .ok (.istore 4, 2) := by decide +kernel
theorem dX11_turnByLetter_10 : decode cX11_turnByLetter 10 = .ok (.iload 4, 2) := by decide +kernel
theorem dX11_turnByLetter_12 : decode cX11_turnByLetter 12 = .ok (.aload_n 0, 1) := by decide +kernel
theorem dX11_turnByLetter_13 : decode cX11_turnByLetter 13 = .ok (.getfield 59, 3) := by decide +kernel
theorem dX11_turnByLetter_16 : decode cX11_turnByLetter 16 = .ok (.getfield 114, 3) := by decide +kernel
theorem dX11_turnByLetter_19 : decode cX11_turnByLetter 19 = .ok (.if_icmp .ge 102, 3) := by decide +kernel
theorem dX11_turnByLetter_22 : decode cX11_turnByLetter 22 = .ok (.aload_n 0, 1) := by decide +kernel
theorem dX11_turnByLetter_23 : decode cX11_turnByLetter 23 = .ok (.getfield 59, 3) := by decide +kernel
theorem dX11_turnByLetter_26 : decode cX11_turnByLetter 26 = .ok (.getfield 158, 3) := by decide +kernel
theorem dX11_turnByLetter_29 : decode cX11_turnByLetter 29 = .ok (.iload 4, 2) := by decide +kernel
theorem dX11_turnByLetter_31 : decode cX11_turnByLetter 31 = .ok (.iaload, 1) := by decide +kernel
theorem dX11_turnByLetter_32 : decode cX11_turnByLetter 32 = .ok (.istore 5, 2) := by decide +kernel
theorem dX11_turnByLetter_34 : decode cX11_turnByLetter 34 = .ok (.aload_n 0, 1) := by decide +kernel
theorem dX11_turnByLetter_35 : decode cX11_turnByLetter 35 = .ok (.getfield 59, 3) := by decide +kernel
theorem dX11_turnByLetter_38 : decode cX11_turnByLetter 38 = .ok (.getfield 154, 3) := by decide +kernel
theorem dX11_turnByLetter_41 : decode cX11_turnByLetter 41 = .ok (.iload 4, 2) := by decide +kernel
theorem dX11_turnByLetter_43 : decode cX11_turnByLetter 43 = .ok (.laload, 1) := by decide +kernel
theorem dX11_turnByLetter_44 : decode cX11_turnByLetter 44 = .ok (.lstore 6, 2) := by decide +kernel
theorem dX11_turnByLetter_46 : decode cX11_turnByLetter 46 = .ok (.iload_n 1, 1) := by decide +kernel
theorem dX11_turnByLetter_47 : decode cX11_turnByLetter 47 = .ok (.iload 5, 2) := by decide +kernel
theorem dX11_turnByLetter_49 : decode cX11_turnByLetter 49 = .ok (.invokestatic 161, 3) := by decide +kernel
theorem dX11_turnByLetter_52 : decode cX11_turnByLetter 52 = .ok (.invokestatic 278, 3) := by decide +kernel
theorem dX11_turnByLetter_55 : decode cX11_turnByLetter 55 = .ok (.istore 8, 2) := by decide +kernel
theorem dX11_turnByLetter_57 : decode cX11_turnByLetter 57 = .ok (.iload 8, 2) := by decide +kernel
theorem dX11_turnByLetter_59 : decode cX11_turnByLetter 59 = .ok (.ifCond .ne 17, 3) := by decide +kernel
theorem dX11_turnByLetter_62 : decode cX11_turnByLetter 62 = .ok (.aload_n 0, 1) := by decide +kernel
theorem dX11_turnByLetter_63 : decode cX11_turnByLetter 63 = .ok (.getfield 21, 3) := by decide +kernel
theorem dX11_turnByLetter_66 : decode cX11_turnByLetter 66 = .ok (.iload 5, 2) := by decide +kernel
theorem dX11_turnByLetter_68 : decode cX11_turnByLetter 68 = .ok (.lload 6, 2) := by decide +kernel
theorem dX11_turnByLetter_70 : decode cX11_turnByLetter 70 = .ok (.invokevirtual 126, 3) := by decide +kernel
theorem dX11_turnByLetter_73 : decode cX11_turnByLetter 73 = .ok (.goto 42, 3) := by decide +kernel
theorem dX11_turnByLetter_76 : decode cX11_turnByLetter 76 = .ok (.aload_n 0, 1) := by decide +kernel
theorem dX11_turnByLetter_77 : decode cX11_turnByLetter 77 = .ok (.getfield 21, 3) := by decide +kernel
theorem dX11_turnByLetter_80 : decode cX11_turnByLetter 80 = .ok (.iload 5, 2) := by decide +kernel
theorem dX11_turnByLetter_82 : decode cX11_turnByLetter 82 = .ok (.iload_n 2, 1) := by decide +kernel
theorem dX11_turnByLetter_83 : decode cX11_turnByLetter 83 = .ok (.invokestatic 284, 3) := by decide +kernel
theorem dX11_turnByLetter_86 : decode cX11_turnByLetter 86 = .ok (.iadd, 1) := by decide +kernel
theorem dX11_turnByLetter_87 : decode cX11_turnByLetter 87 = .ok (.lload 6, 2) := by decide +kernel
theorem dX11_turnByLetter_89 : decode cX11_turnByLetter 89 = .ok (.invokevirtual 126, 3) := by decide +kernel
theorem dX11_turnByLetter_92 : decode cX11_turnByLetter 92 = .ok (.aload_n 0, 1) := by decide +kernel
theorem dX11_turnByLetter_93 : decode cX11_turnByLetter 93 = .ok (.getfield 21, 3) := by decide +kernel
theorem dX11_turnByLetter_96 : decode cX11_turnByLetter 96 = .ok (.iload 5, 2) := by decide +kernel
theorem dX11_turnByLetter_98 : decode cX11_turnByLetter 98 = .ok (.iload_n 1, 1) := by decide +kernel
theorem dX11_turnByLetter_99 : decode cX11_turnByLetter 99 = .ok (.invokestatic 281, 3) := by decide +kernel
theorem dX11_turnByLetter_102 : decode cX11_turnByLetter 102 = .ok (.iload_n 2, 1) := by decide +kernel
theorem dX11_turnByLetter_103 : decode cX11_turnByLetter 103 = .ok (.lload 6, 2) := by decide +kernel
theorem dX11_turnByLetter_105 : decode cX11_turnByLetter 105 = .ok (.iload 8, 2) := by decide +kernel
theorem dX11_turnByLetter_107 : decode cX11_turnByLetter 107 = .ok (.i2l, 1) := by decide +kernel
theorem dX11_turnByLetter_108 : decode cX11_turnByLetter 108 = .ok (.lmul, 1) := by decide +kernel
theorem dX11_turnByLetter_109 : decode cX11_turnByLetter 109 = .ok (.iload_n 3, 1) := by decide +kernel
theorem dX11_turnByLetter_110 : decode cX11_turnByLetter 110 = .ok (.i2l, 1) := by decide +kernel
theorem dX11_turnByLetter_111 : decode cX11_turnByLetter 111 = .ok (.lmul, 1) := by decide +kernel
theorem dX11_turnByLetter_112 : decode cX11_turnByLetter 112 = .ok (.invokevirtual 287, 3) := by decide +kernel
theorem dX11_turnByLetter_115 : decode cX11_turnByLetter 115 = .ok (.iinc 4 1, 3) := by decide +kernel
theorem dX11_turnByLetter_118 : decode cX11_turnByLetter 118 = .ok (.goto (-108), 3) := by decide +kernel
theorem dX11_turnByLetter_121 : decode cX11_turnByLetter 121 = .ok (.aload_n 0, 1) := by decide +kernel
theorem dX11_turnByLetter_122 : decode cX11_turnByLetter 122 = .ok (.getfield 21, 3) := by decide +kernel
theorem dX11_turnByLetter_125 : decode cX11_turnByLetter 125 = .ok (.aload_n 0, 1) := by decide +kernel
theorem dX11_turnByLetter_126 : decode cX11_turnByLetter 126 = .ok (.getfield 59, 3) := by decide +kernel
theorem dX11_turnByLetter_129 : decode cX11_turnByLetter 129 = .ok (.invokevirtual 130, 3) := by decide +kernel
theorem dX11_turnByLetter_132 : decode cX11_turnByLetter 132 = .ok (.ireturn, 1) := by decide +kernel
theorem dX11_productOf_0 : decode cX11_productOf 0 = .ok (.iload_n 0, 1) := by decide +kernel
theorem dX11_productOf_1 : decode cX11_productOf 1 = .ok (.bipush 20, 2) := by decide +kernel
theorem dX11_productOf_3 : decode cX11_productOf 3 = .ok (.iushr, 1) := by decide +kernel
theorem dX11_productOf_4 : decode cX11_productOf 4 = .ok (.ireturn, 1) := by decide +kernel
theorem dX11_oneSine_0 : decode cX11_oneSine 0 = .ok (.iconst 1, 1) := by decide +kernel
theorem dX11_oneSine_1 : decode cX11_oneSine 1 = .ok (.iconst 5, 1) := by decide +kernel
theorem dX11_oneSine_2 : decode cX11_oneSine 2 = .ok (.iconst 3, 1) := by decide +kernel
theorem dX11_oneSine_3 : decode cX11_oneSine 3 = .ok (.iload_n 0, 1) := by decide +kernel
theorem dX11_oneSine_4 : decode cX11_oneSine 4 = .ok (.isub, 1) := by decide +kernel
theorem dX11_oneSine_5 : decode cX11_oneSine 5 = .ok (.imul, 1) := by decide +kernel
theorem dX11_oneSine_6 : decode cX11_oneSine 6 = .ok (.ishl, 1) := by decide +kernel
theorem dX11_oneSine_7 : decode cX11_oneSine 7 = .ok (.ireturn, 1) := by decide +kernel
set_option maxRecDepth 20000 in
theorem ggX11_oneCosine_X11_oneSine : GoodIn wsX11_oneCosine wsX11_oneSine := goodIn_r _ [4] (by decide +kernel) (by decide +kernel)
set_option maxRecDepth 20000 in
theorem gX11_oneCosine_X11_oneSine : GoodIn wsX11_oneCosine (va_wsS RX11 291 yX11_oneSine wsX11_oneSine) := goodIn_app (goodIn_of _ (by decide +kernel)) ggX11_oneCosine_X11_oneSine
theorem dX11_oneCosine_0 : decode cX11_oneCosine 0 = .ok (.iload_n 0, 1) := by decide +kernel
theorem dX11_oneCosine_1 : decode cX11_oneCosine 1 = .ok (.invokestatic 291, 3) := by decide +kernel
theorem dX11_oneCosine_4 : decode cX11_oneCosine 4 = .ok (.iconst 1, 1) := by decide +kernel
theorem dX11_oneCosine_5 : decode cX11_oneCosine 5 = .ok (.ishl, 1) := by decide +kernel
theorem dX11_oneCosine_6 : decode cX11_oneCosine 6 = .ok (.ireturn, 1) := by decide +kernel
theorem dX11_cosinesOf_0 : decode cX11_cosinesOf 0 = .ok (.iload_n 0, 1) := by decide +kernel
theorem dX11_cosinesOf_1 : decode cX11_cosinesOf 1 = .ok (.iconst 5, 1) := by decide +kernel
theorem dX11_cosinesOf_2 : decode cX11_cosinesOf 2 = .ok (.iconst 3, 1) := by decide +kernel
theorem dX11_cosinesOf_3 : decode cX11_cosinesOf 3 = .ok (.iload_n 1, 1) := by decide +kernel
theorem dX11_cosinesOf_4 : decode cX11_cosinesOf 4 = .ok (.isub, 1) := by decide +kernel
theorem dX11_cosinesOf_5 : decode cX11_cosinesOf 5 = .ok (.imul, 1) := by decide +kernel
theorem dX11_cosinesOf_6 : decode cX11_cosinesOf 6 = .ok (.iconst 1, 1) := by decide +kernel
theorem dX11_cosinesOf_7 : decode cX11_cosinesOf 7 = .ok (.iadd, 1) := by decide +kernel
theorem dX11_cosinesOf_8 : decode cX11_cosinesOf 8 = .ok (.ishr, 1) := by decide +kernel
theorem dX11_cosinesOf_9 : decode cX11_cosinesOf 9 = .ok (.bipush 15, 2) := by decide +kernel
theorem dX11_cosinesOf_11 : decode cX11_cosinesOf 11 = .ok (.iand, 1) := by decide +kernel
theorem dX11_cosinesOf_12 : decode cX11_cosinesOf 12 = .ok (.ireturn, 1) := by decide +kernel
theorem dX11_sinesOf_0 : decode cX11_sinesOf 0 = .ok (.iload_n 0, 1) := by decide +kernel
theorem dX11_sinesOf_1 : decode cX11_sinesOf 1 = .ok (.iconst 5, 1) := by decide +kernel
theorem dX11_sinesOf_2 : decode cX11_sinesOf 2 = .ok (.iconst 3, 1) := by decide +kernel
theorem dX11_sinesOf_3 : decode cX11_sinesOf 3 = .ok (.iload_n 1, 1) := by decide +kernel
theorem dX11_sinesOf_4 : decode cX11_sinesOf 4 = .ok (.isub, 1) := by decide +kernel
theorem dX11_sinesOf_5 : decode cX11_sinesOf 5 = .ok (.imul, 1) := by decide +kernel
theorem dX11_sinesOf_6 : decode cX11_sinesOf 6 = .ok (.ishr, 1) := by decide +kernel
theorem dX11_sinesOf_7 : decode cX11_sinesOf 7 = .ok (.iconst 1, 1) := by decide +kernel
theorem dX11_sinesOf_8 : decode cX11_sinesOf 8 = .ok (.iand, 1) := by decide +kernel
theorem dX11_sinesOf_9 : decode cX11_sinesOf 9 = .ok (.ireturn, 1) := by decide +kernel
set_option maxRecDepth 20000 in
theorem ggX11_powerOf_X11_cosinesOf : GoodIn wsX11_powerOf wsX11_cosinesOf := goodIn_r _ [4] (by decide +kernel) (by decide +kernel)
set_option maxRecDepth 20000 in
theorem gX11_powerOf_X11_cosinesOf : GoodIn wsX11_powerOf (va_wsS RX11 294 yX11_cosinesOf wsX11_cosinesOf) := goodIn_app (goodIn_of _ (by decide +kernel)) ggX11_powerOf_X11_cosinesOf
set_option maxRecDepth 20000 in
theorem ggX11_powerOf_X11_sinesOf : GoodIn wsX11_powerOf wsX11_sinesOf := goodIn_r _ [7] (by decide +kernel) (by decide +kernel)
set_option maxRecDepth 20000 in
theorem gX11_powerOf_X11_sinesOf : GoodIn wsX11_powerOf (va_wsS RX11 297 yX11_sinesOf wsX11_sinesOf) := goodIn_app (goodIn_of _ (by decide +kernel)) ggX11_powerOf_X11_sinesOf
theorem dX11_powerOf_0 : decode cX11_powerOf 0 = .ok (.iload_n 1, 1) := by decide +kernel
theorem dX11_powerOf_1 : decode cX11_powerOf 1 = .ok (.iconst 1, 1) := by decide +kernel
theorem dX11_powerOf_2 : decode cX11_powerOf 2 = .ok (.iand, 1) := by decide +kernel
theorem dX11_powerOf_3 : decode cX11_powerOf 3 = .ok (.ifCond .ne 13, 3) := by decide +kernel
theorem dX11_powerOf_6 : decode cX11_powerOf 6 = .ok (.iload_n 0, 1) := by decide +kernel
theorem dX11_powerOf_7 : decode cX11_powerOf 7 = .ok (.iload_n 1, 1) := by decide +kernel
theorem dX11_powerOf_8 : decode cX11_powerOf 8 = .ok (.iconst 1, 1) := by decide +kernel
theorem dX11_powerOf_9 : decode cX11_powerOf 9 = .ok (.ishr, 1) := by decide +kernel
theorem dX11_powerOf_10 : decode cX11_powerOf 10 = .ok (.invokestatic 294, 3) := by decide +kernel
theorem dX11_powerOf_13 : decode cX11_powerOf 13 = .ok (.goto 10, 3) := by decide +kernel
theorem dX11_powerOf_16 : decode cX11_powerOf 16 = .ok (.iload_n 0, 1) := by decide +kernel
theorem dX11_powerOf_17 : decode cX11_powerOf 17 = .ok (.iload_n 1, 1) := by decide +kernel
theorem dX11_powerOf_18 : decode cX11_powerOf 18 = .ok (.iconst 1, 1) := by decide +kernel
theorem dX11_powerOf_19 : decode cX11_powerOf 19 = .ok (.ishr, 1) := by decide +kernel
theorem dX11_powerOf_20 : decode cX11_powerOf 20 = .ok (.invokestatic 297, 3) := by decide +kernel
theorem dX11_powerOf_23 : decode cX11_powerOf 23 = .ok (.ireturn, 1) := by decide +kernel
theorem dX12_init_0 : decode cX12_init 0 = .ok (.aload_n 0, 1) := by decide +kernel
theorem dX12_init_1 : decode cX12_init 1 = .ok (.invokespecial 1, 3) := by decide +kernel
theorem dX12_init_4 : decode cX12_init 4 = .ok (.aload_n 0, 1) := by decide +kernel
theorem dX12_init_5 : decode cX12_init 5 = .ok (.bipush 8, 2) := by decide +kernel
theorem dX12_init_7 : decode cX12_init 7 = .ok (.newarray .int, 2) := by decide +kernel
theorem dX12_init_9 : decode cX12_init 9 = .ok (.putfield 7, 3) := by decide +kernel
theorem dX12_init_12 : decode cX12_init 12 = .ok (.aload_n 0, 1) := by decide +kernel
theorem dX12_init_13 : decode cX12_init 13 = .ok (.bipush 8, 2) := by decide +kernel
theorem dX12_init_15 : decode cX12_init 15 = .ok (.newarray .int, 2) := by decide +kernel
theorem dX12_init_17 : decode cX12_init 17 = .ok (.putfield 13, 3) := by decide +kernel
theorem dX12_init_20 : decode cX12_init 20 = .ok (.aload_n 0, 1) := by decide +kernel
theorem dX12_init_21 : decode cX12_init 21 = .ok (.sipush 480, 3) := by decide +kernel
theorem dX12_init_24 : decode cX12_init 24 = .ok (.newarray .int, 2) := by decide +kernel
theorem dX12_init_26 : decode cX12_init 26 = .ok (.putfield 16, 3) := by decide +kernel
theorem dX12_init_29 : decode cX12_init 29 = .ok (.aload_n 0, 1) := by decide +kernel
theorem dX12_init_30 : decode cX12_init 30 = .ok (.bipush 60, 2) := by decide +kernel
theorem dX12_init_32 : decode cX12_init 32 = .ok (.newarray .int, 2) := by decide +kernel
theorem dX12_init_34 : decode cX12_init 34 = .ok (.putfield 19, 3) := by decide +kernel
theorem dX12_init_37 : decode cX12_init 37 = .ok (.aload_n 0, 1) := by decide +kernel
theorem dX12_init_38 : decode cX12_init 38 = .ok (.bipush 18, 2) := by decide +kernel
theorem dX12_init_40 : decode cX12_init 40 = .ok (.newarray .int, 2) := by decide +kernel
theorem dX12_init_42 : decode cX12_init 42 = .ok (.putfield 22, 3) := by decide +kernel
theorem dX12_init_45 : decode cX12_init 45 = .ok (.aload_n 0, 1) := by decide +kernel
theorem dX12_init_46 : decode cX12_init 46 = .ok (.sipush 5400, 3) := by decide +kernel
theorem dX12_init_49 : decode cX12_init 49 = .ok (.newarray .int, 2) := by decide +kernel
theorem dX12_init_51 : decode cX12_init 51 = .ok (.putfield 25, 3) := by decide +kernel
theorem dX12_init_54 : decode cX12_init 54 = .ok (.aload_n 0, 1) := by decide +kernel
theorem dX12_init_55 : decode cX12_init 55 = .ok (.sipush 5400, 3) := by decide +kernel
theorem dX12_init_58 : decode cX12_init 58 = .ok (.newarray .long, 2) := by decide +kernel
theorem dX12_init_60 : decode cX12_init 60 = .ok (.putfield 28, 3) := by decide +kernel
theorem dX12_init_63 : decode cX12_init 63 = .ok (.aload_n 0, 1) := by decide +kernel
theorem dX12_init_64 : decode cX12_init 64 = .ok (.sipush 1000, 3) := by decide +kernel
theorem dX12_init_67 : decode cX12_init 67 = .ok (.newarray .int, 2) := by decide +kernel
theorem dX12_init_69 : decode cX12_init 69 = .ok (.putfield 32, 3) := by decide +kernel
theorem dX12_init_72 : decode cX12_init 72 = .ok (.aload_n 0, 1) := by decide +kernel
theorem dX12_init_73 : decode cX12_init 73 = .ok (.sipush 1000, 3) := by decide +kernel
theorem dX12_init_76 : decode cX12_init 76 = .ok (.newarray .long, 2) := by decide +kernel
theorem dX12_init_78 : decode cX12_init 78 = .ok (.putfield 35, 3) := by decide +kernel
theorem dX12_init_81 : decode cX12_init 81 = .ok (.aload_n 0, 1) := by decide +kernel
theorem dX12_init_82 : decode cX12_init 82 = .ok (.bipush 40, 2) := by decide +kernel
theorem dX12_init_84 : decode cX12_init 84 = .ok (.newarray .int, 2) := by decide +kernel
theorem dX12_init_86 : decode cX12_init 86 = .ok (.putfield 38, 3) := by decide +kernel
theorem dX12_init_89 : decode cX12_init 89 = .ok (.aload_n 0, 1) := by decide +kernel
theorem dX12_init_90 : decode cX12_init 90 = .ok (.bipush 40, 2) := by decide +kernel
theorem dX12_init_92 : decode cX12_init 92 = .ok (.newarray .int, 2) := by decide +kernel
theorem dX12_init_94 : decode cX12_init 94 = .ok (.putfield 41, 3) := by decide +kernel
theorem dX12_init_97 : decode cX12_init 97 = .ok (.aload_n 0, 1) := by decide +kernel
theorem dX12_init_98 : decode cX12_init 98 = .ok (.bipush 40, 2) := by decide +kernel
theorem dX12_init_100 : decode cX12_init 100 = .ok (.newarray .int, 2) := by decide +kernel
theorem dX12_init_102 : decode cX12_init 102 = .ok (.putfield 44, 3) := by decide +kernel
theorem dX12_init_105 : decode cX12_init 105 = .ok (.aload_n 0, 1) := by decide +kernel
theorem dX12_init_106 : decode cX12_init 106 = .ok (.bipush 40, 2) := by decide +kernel
theorem dX12_init_108 : decode cX12_init 108 = .ok (.newarray .int, 2) := by decide +kernel
theorem dX12_init_110 : decode cX12_init 110 = .ok (.putfield 47, 3) := by decide +kernel
theorem dX12_init_113 : decode cX12_init 113 = .ok (.aload_n 0, 1) := by decide +kernel
theorem dX12_init_114 : decode cX12_init 114 = .ok (.bipush 40, 2) := by decide +kernel
theorem dX12_init_116 : decode cX12_init 116 = .ok (.newarray .int, 2) := by decide +kernel
theorem dX12_init_118 : decode cX12_init 118 = .ok (.putfield 50, 3) := by decide +kernel
theorem dX12_init_121 : decode cX12_init 121 = .ok (.aload_n 0, 1) := by decide +kernel
theorem dX12_init_122 : decode cX12_init 122 = .ok (.bipush 16, 2) := by decide +kernel
theorem dX12_init_124 : decode cX12_init 124 = .ok (.newarray .int, 2) := by decide +kernel
theorem dX12_init_126 : decode cX12_init 126 = .ok (.putfield 53, 3) := by decide +kernel
theorem dX12_init_129 : decode cX12_init 129 = .ok (.aload_n 0, 1) := by decide +kernel
theorem dX12_init_130 : decode cX12_init 130 = .ok (.ldc 56, 2) := by decide +kernel
theorem dX12_init_132 : decode cX12_init 132 = .ok (.putfield 57, 3) := by decide +kernel
theorem dX12_init_135 : decode cX12_init 135 = .ok (.aload_n 0, 1) := by decide +kernel
theorem dX12_init_136 : decode cX12_init 136 = .ok (.iconst 3, 1) := by decide +kernel
theorem dX12_init_137 : decode cX12_init 137 = .ok (.newarray .int, 2) := by decide +kernel
theorem dX12_init_139 : decode cX12_init 139 = .ok (.putfield 61, 3) := by decide +kernel
theorem dX12_init_142 : decode cX12_init 142 = .ok (.aload_n 0, 1) := by decide +kernel
theorem dX12_init_143 : decode cX12_init 143 = .ok (.iconst 3, 1) := by decide +kernel
theorem dX12_init_144 : decode cX12_init 144 = .ok (.newarray .int, 2) := by decide +kernel
theorem dX12_init_146 : decode cX12_init 146 = .ok (.putfield 64, 3) := by decide +kernel
theorem dX12_init_149 : decode cX12_init 149 = .ok (.aload_n 0, 1) := by decide +kernel
theorem dX12_init_150 : decode cX12_init 150 = .ok (.iload_n 1, 1) := by decide +kernel
theorem dX12_init_151 : decode cX12_init 151 = .ok (.iconst 1, 1) := by decide +kernel
theorem dX12_init_152 : decode cX12_init 152 = .ok (.if_icmp .ge 7, 3) := by decide +kernel
theorem dX12_init_155 : decode cX12_init 155 = .ok (.iconst 1, 1) := by decide +kernel
theorem dX12_init_156 : decode cX12_init 156 = .ok (.goto 13, 3) := by decide +kernel
theorem dX12_init_159 : decode cX12_init 159 = .ok (.iload_n 1, 1) := by decide +kernel
theorem dX12_init_160 : decode cX12_init 160 = .ok (.iconst 4, 1) := by decide +kernel
theorem dX12_init_161 : decode cX12_init 161 = .ok (.if_icmp .le 7, 3) := by decide +kernel
theorem dX12_init_164 : decode cX12_init 164 = .ok (.iconst 4, 1) := by decide +kernel
theorem dX12_init_165 : decode cX12_init 165 = .ok (.goto 4, 3) := by decide +kernel
theorem dX12_init_168 : decode cX12_init 168 = .ok (.iload_n 1, 1) := by decide +kernel
theorem dX12_init_169 : decode cX12_init 169 = .ok (.putfield 67, 3) := by decide +kernel
theorem dX12_init_172 : decode cX12_init 172 = .ok (.aload_n 0, 1) := by decide +kernel
theorem dX12_init_173 : decode cX12_init 173 = .ok (.iconst 1, 1) := by decide +kernel
theorem dX12_init_174 : decode cX12_init 174 = .ok (.iconst 2, 1) := by decide +kernel
theorem dX12_init_175 : decode cX12_init 175 = .ok (.aload_n 0, 1) := by decide +kernel
theorem dX12_init_176 : decode cX12_init 176 = .ok (.getfield 67, 3) := by decide +kernel
theorem dX12_init_179 : decode cX12_init 179 = .ok (.imul, 1) := by decide +kernel
theorem dX12_init_180 : decode cX12_init 180 = .ok (.ishl, 1) := by decide +kernel
theorem dX12_init_181 : decode cX12_init 181 = .ok (.putfield 70, 3) := by decide +kernel
theorem dX12_init_184 : decode cX12_init 184 = .ok (.return_, 1) := by decide +kernel
theorem dX12_in_0 : decode cX12_in 0 = .ok (.lload_n 0, 1) := by decide +kernel
theorem dX12_in_1 : decode cX12_in 1 = .ok (.lload_n 2, 1) := by decide +kernel
theorem dX12_in_2 : decode cX12_in 2 = .ok (.lcmp, 1) := by decide +kernel
theorem dX12_in_3 : decode cX12_in 3 = .ok (.ifCond .lt 14, 3) := by decide +kernel
theorem dX12_in_6 : decode cX12_in 6 = .ok (.lload_n 0, 1) := by decide +kernel
theorem dX12_in_7 : decode cX12_in 7 = .ok (.lload 4, 2) := by decide +kernel
theorem dX12_in_9 : decode cX12_in 9 = .ok (.lcmp, 1) := by decide +kernel
theorem dX12_in_10 : decode cX12_in 10 = .ok (.ifCond .gt 7, 3) := by decide +kernel
theorem dX12_in_13 : decode cX12_in 13 = .ok (.iconst 1, 1) := by decide +kernel
theorem dX12_in_14 : decode cX12_in 14 = .ok (.goto 4, 3) := by decide +kernel
theorem dX12_in_17 : decode cX12_in 17 = .ok (.iconst 0, 1) := by decide +kernel
theorem dX12_in_18 : decode cX12_in 18 = .ok (.ireturn, 1) := by decide +kernel
theorem dX12_finds_0 : decode cX12_finds 0 = .ok (.aload_n 0, 1) := by decide +kernel
theorem dX12_finds_1 : decode cX12_finds 1 = .ok (.iload_n 1, 1) := by decide +kernel
theorem dX12_finds_2 : decode cX12_finds 2 = .ok (.putfield 73, 3) := by decide +kernel
theorem dX12_finds_5 : decode cX12_finds 5 = .ok (.ldc 76, 2) := by decide +kernel
theorem dX12_finds_7 : decode cX12_finds 7 = .ok (.iload_n 1, 1) := by decide +kernel
theorem dX12_finds_8 : decode cX12_finds 8 = .ok (.isub, 1) := by decide +kernel
theorem dX12_finds_9 : decode cX12_finds 9 = .ok (.ireturn, 1) := by decide +kernel
theorem dX12_well_0 : decode cX12_well 0 = .ok (.aload_n 0, 1) := by decide +kernel
theorem dX12_well_1 : decode cX12_well 1 = .ok (.iconst 0, 1) := by decide +kernel
theorem dX12_well_2 : decode cX12_well 2 = .ok (.putfield 73, 3) := by decide +kernel
theorem dX12_well_5 : decode cX12_well 5 = .ok (.iload_n 1, 1) := by decide +kernel
theorem dX12_well_6 : decode cX12_well 6 = .ok (.ireturn, 1) := by decide +kernel
set_option maxRecDepth 20000 in
theorem ggX12_isTable_X12_in : GoodIn wsX12_isTable wsX12_in := goodIn_r _ [5] (by decide +kernel) (by decide +kernel)
set_option maxRecDepth 20000 in
theorem gX12_isTable_X12_in : GoodIn wsX12_isTable (va_wsS RX12 79 yX12_in wsX12_in) := goodIn_app (goodIn_of _ (by decide +kernel)) ggX12_isTable_X12_in
theorem dX12_isTable_0 : decode cX12_isTable 0 = .ok (.iload_n 0, 1) := by decide +kernel
theorem dX12_isTable_1 : decode cX12_isTable 1 = .ok (.i2l, 1) := by decide +kernel
theorem dX12_isTable_2 : decode cX12_isTable 2 = .ok (.lconst 0, 1) := by decide +kernel
theorem dX12_isTable_3 : decode cX12_isTable 3 = .ok (.ldc2_w 77, 3) := by decide +kernel
theorem dX12_isTable_6 : decode cX12_isTable 6 = .ok (.invokestatic 79, 3) := by decide +kernel
theorem dX12_isTable_9 : decode cX12_isTable 9 = .ok (.ireturn, 1) := by decide +kernel
set_option maxRecDepth 20000 in
theorem ggX12_table_X12_isTable : GoodIn wsX12_table wsX12_isTable := goodIn_r _ [9, 10, 11, 12, 8, 13] (by decide +kernel) (by decide +kernel)
set_option maxRecDepth 20000 in
theorem gX12_table_X12_isTable : GoodIn wsX12_table (va_wsS RX12 83 yX12_isTable wsX12_isTable) := goodIn_app (goodIn_of _ (by decide +kernel)) ggX12_table_X12_isTable
set_option maxRecDepth 20000 in
theorem ggX12_table_X12_in : GoodIn wsX12_table wsX12_in := goodIn_r _ [13] (by decide +kernel) (by decide +kernel)
set_option maxRecDepth 20000 in
theorem gX12_table_X12_in : GoodIn wsX12_table (va_wsS RX12 79 yX12_in wsX12_in) := goodIn_app (goodIn_of _ (by decide +kernel)) ggX12_table_X12_in
set_option maxRecDepth 20000 in
theorem ggX12_table_X12_finds : GoodIn wsX12_table wsX12_finds := goodIn_r _ [17, 18, 19, 24, 25, 26, 27, 28, 29, 30, 31, 32, 33, 34, 35, 36, 37, 38, 39, 40, 41, 42, 43, 44, 45, 46, 47, 48, 49, 50, 51] (by decide +kernel) (by decide +kernel)
set_option maxRecDepth 20000 in
theorem gX12_table_X12_finds : GoodIn wsX12_table (wsV RX12 90 RX12 yX12_finds wsX12_finds) := goodIn_app (goodIn_of _ (by decide +kernel)) ggX12_table_X12_finds
set_option maxRecDepth 20000 in
theorem ggX12_table_X12_well : GoodIn wsX12_table wsX12_well := goodIn_r _ [23, 18, 24, 25, 26, 27, 28, 29, 30, 31, 32, 33, 34, 35, 36, 37, 38, 39, 40, 41, 42, 43, 44, 45, 46, 47, 48, 49, 50, 51] (by decide +kernel) (by decide +kernel)
set_option maxRecDepth 20000 in
theorem gX12_table_X12_well : GoodIn wsX12_table (wsV RX12 94 RX12 yX12_well wsX12_well) := goodIn_app (goodIn_of _ (by decide +kernel)) ggX12_table_X12_well
theorem dX12_table_0 : decode cX12_table 0 = .ok (.iload_n 1, 1) := by decide +kernel
theorem dX12_table_1 : decode cX12_table 1 = .ok (.invokestatic 83, 3) := by decide +kernel
theorem dX12_table_4 : decode cX12_table 4 = .ok (.ifCond .eq 21, 3) := by decide +kernel
theorem dX12_table_7 : decode cX12_table 7 = .ok (.iload_n 2, 1) := by decide +kernel
theorem dX12_table_8 : decode cX12_table 8 = .ok (.i2l, 1) := by decide +kernel
theorem dX12_table_9 : decode cX12_table 9 = .ok (.lconst 0, 1) := by decide +kernel
theorem dX12_table_10 : decode cX12_table 10 = .ok (.ldc2_w 87, 3) := by decide +kernel
theorem dX12_table_13 : decode cX12_table 13 = .ok (.invokestatic 79, 3) := by decide +kernel
theorem dX12_table_16 : decode cX12_table 16 = .ok (.ifCond .eq 9, 3) := by decide +kernel
theorem dX12_table_19 : decode cX12_table 19 = .ok (.iload_n 3, 1) := by decide +kernel
theorem dX12_table_20 : decode cX12_table 20 = .ok (.bipush 60, 2) := by decide +kernel
theorem dX12_table_22 : decode cX12_table 22 = .ok (.if_icmp .le 6, 3) := by decide +kernel
theorem dX12_table_25 : decode cX12_table 25 = .ok (.ldc 89, 2) := by decide +kernel
theorem dX12_table_27 : decode cX12_table 27 = .ok (.ireturn, 1) := by decide +kernel
theorem dX12_table_28 : decode cX12_table 28 = .ok (.iload_n 3, 1) := by decide +kernel
theorem dX12_table_29 : decode cX12_table 29 = .ok (.ifCond .ge 9, 3) := by decide +kernel
theorem dX12_table_32 : decode cX12_table 32 = .ok (.aload_n 0, 1) := by decide +kernel
theorem dX12_table_33 : decode cX12_table 33 = .ok (.iconst 4, 1) := by decide +kernel
theorem dX12_table_34 : decode cX12_table 34 = .ok (.invokevirtual 90, 3) := by decide +kernel
theorem dX12_table_37 : decode cX12_table 37 = .ok (.ireturn, 1) := by decide +kernel
theorem dX12_table_38 : decode cX12_table 38 = .ok (.aload_n 0, 1) := by decide +kernel
theorem dX12_table_39 : decode cX12_table 39 = .ok (.getfield 7, 3) := by decide +kernel
theorem dX12_table_42 : decode cX12_table 42 = .ok (.iload_n 1, 1) := by decide +kernel
theorem dX12_table_43 : decode cX12_table 43 = .ok (.iload_n 2, 1) := by decide +kernel
theorem dX12_table_44 : decode cX12_table 44 = .ok (.iconst 1, 1) := by decide +kernel
theorem dX12_table_45 : decode cX12_table 45 = .ok (.iadd, 1) := by decide +kernel
theorem dX12_table_46 : decode cX12_table 46 = .ok (.iastore, 1) := by decide +kernel
theorem dX12_table_47 : decode cX12_table 47 = .ok (.aload_n 0, 1) := by decide +kernel
theorem dX12_table_48 : decode cX12_table 48 = .ok (.getfield 13, 3) := by decide +kernel
theorem dX12_table_51 : decode cX12_table 51 = .ok (.iload_n 1, 1) := by decide +kernel
theorem dX12_table_52 : decode cX12_table 52 = .ok (.iload_n 3, 1) := by decide +kernel
theorem dX12_table_53 : decode cX12_table 53 = .ok (.iastore, 1) := by decide +kernel
theorem dX12_table_54 : decode cX12_table 54 = .ok (.iconst 0, 1) := by decide +kernel
theorem dX12_table_55 : decode cX12_table 55 = .ok (.istore 4, 2) := by decide +kernel
theorem dX12_table_57 : decode cX12_table 57 = .ok (.iload 4, 2) := by decide +kernel
theorem dX12_table_59 : decode cX12_table 59 = .ok (.iload_n 3, 1) := by decide +kernel
theorem dX12_table_60 : decode cX12_table 60 = .ok (.if_icmp .ge 22, 3) := by decide +kernel
theorem dX12_table_63 : decode cX12_table 63 = .ok (.aload_n 0, 1) := by decide +kernel
theorem dX12_table_64 : decode cX12_table 64 = .ok (.getfield 16, 3) := by decide +kernel
theorem dX12_table_67 : decode cX12_table 67 = .ok (.bipush 60, 2) := by decide +kernel
theorem dX12_table_69 : decode cX12_table 69 = .ok (.iload_n 1, 1) := by decide +kernel
theorem dX12_table_70 : decode cX12_table 70 = .ok (.imul, 1) := by decide +kernel
theorem dX12_table_71 : decode cX12_table 71 = .ok (.iload 4, 2) := by decide +kernel
theorem dX12_table_73 : decode cX12_table 73 = .ok (.iadd, 1) := by decide +kernel
theorem dX12_table_74 : decode cX12_table 74 = .ok (.iconst 0, 1) := by decide +kernel
theorem dX12_table_75 : decode cX12_table 75 = .ok (.iastore, 1) := by decide +kernel
theorem dX12_table_76 : decode cX12_table 76 = .ok (.iinc 4 1, 3) := by decide +kernel
theorem dX12_table_79 : decode cX12_table 79 = .ok (.goto (-22), 3) := by decide +kernel
theorem dX12_table_82 : decode cX12_table 82 = .ok (.aload_n 0, 1) := by decide +kernel
theorem dX12_table_83 : decode cX12_table 83 = .ok (.iload_n 3, 1) := by decide +kernel
theorem dX12_table_84 : decode cX12_table 84 = .ok (.invokevirtual 94, 3) := by decide +kernel
theorem dX12_table_87 : decode cX12_table 87 = .ok (.ireturn, 1) := by decide +kernel
set_option maxRecDepth 20000 in
theorem ggX12_set_X12_isTable : GoodIn wsX12_set wsX12_isTable := goodIn_r _ [8, 9, 10, 11, 7, 12] (by decide +kernel) (by decide +kernel)
set_option maxRecDepth 20000 in
theorem gX12_set_X12_isTable : GoodIn wsX12_set (va_wsS RX12 83 yX12_isTable wsX12_isTable) := goodIn_app (goodIn_of _ (by decide +kernel)) ggX12_set_X12_isTable
set_option maxRecDepth 20000 in
theorem ggX12_set_X12_finds : GoodIn wsX12_set wsX12_finds := goodIn_r _ [16, 17, 18, 23, 24, 25, 26, 27, 28, 29, 30, 31, 32, 33, 34, 35, 36, 37, 38, 39, 40, 41, 42, 43, 44, 45, 46, 47, 48, 49, 50] (by decide +kernel) (by decide +kernel)
set_option maxRecDepth 20000 in
theorem gX12_set_X12_finds : GoodIn wsX12_set (wsV RX12 90 RX12 yX12_finds wsX12_finds) := goodIn_app (goodIn_of _ (by decide +kernel)) ggX12_set_X12_finds
set_option maxRecDepth 20000 in
theorem ggX12_set_X12_in : GoodIn wsX12_set wsX12_in := goodIn_r _ [12] (by decide +kernel) (by decide +kernel)
set_option maxRecDepth 20000 in
theorem gX12_set_X12_in : GoodIn wsX12_set (va_wsS RX12 79 yX12_in wsX12_in) := goodIn_app (goodIn_of _ (by decide +kernel)) ggX12_set_X12_in
set_option maxRecDepth 20000 in
theorem ggX12_set_X12_well : GoodIn wsX12_set wsX12_well := goodIn_r _ [22, 17, 23, 24, 25, 26, 27, 28, 29, 30, 31, 32, 33, 34, 35, 36, 37, 38, 39, 40, 41, 42, 43, 44, 45, 46, 47, 48, 49, 50] (by decide +kernel) (by decide +kernel)
set_option maxRecDepth 20000 in
theorem gX12_set_X12_well : GoodIn wsX12_set (wsV RX12 94 RX12 yX12_well wsX12_well) := goodIn_app (goodIn_of _ (by decide +kernel)) ggX12_set_X12_well
theorem dX12_set_0 : decode cX12_set 0 = .ok (.iload_n 1, 1) := by decide +kernel
theorem dX12_set_1 : decode cX12_set 1 = .ok (.invokestatic 83, 3) := by decide +kernel
theorem dX12_set_4 : decode cX12_set 4 = .ok (.ifCond .ne 6, 3) := by decide +kernel
theorem dX12_set_7 : decode cX12_set 7 = .ok (.ldc 89, 2) := by decide +kernel
theorem dX12_set_9 : decode cX12_set 9 = .ok (.ireturn, 1) := by decide +kernel
theorem dX12_set_10 : decode cX12_set 10 = .ok (.aload_n 0, 1) := by decide +kernel
theorem dX12_set_11 : decode cX12_set 11 = .ok (.getfield 7, 3) := by decide +kernel
theorem dX12_set_14 : decode cX12_set 14 = .ok (.iload_n 1, 1) := by decide +kernel
theorem dX12_set_15 : decode cX12_set 15 = .ok (.iaload, 1) := by decide +kernel
theorem dX12_set_16 : decode cX12_set 16 = .ok (.ifCond .ne 9, 3) := by decide +kernel
theorem dX12_set_19 : decode cX12_set 19 = .ok (.aload_n 0, 1) := by decide +kernel
theorem dX12_set_20 : decode cX12_set 20 = .ok (.iconst 1, 1) := by decide +kernel
theorem dX12_set_21 : decode cX12_set 21 = .ok (.invokevirtual 90, 3) := by decide +kernel
theorem dX12_set_24 : decode cX12_set 24 = .ok (.ireturn, 1) := by decide +kernel
theorem dX12_set_25 : decode cX12_set 25 = .ok (.iload_n 2, 1) := by decide +kernel
theorem dX12_set_26 : decode cX12_set 26 = .ok (.i2l, 1) := by decide +kernel
theorem dX12_set_27 : decode cX12_set 27 = .ok (.lconst 0, 1) := by decide +kernel
theorem dX12_set_28 : decode cX12_set 28 = .ok (.aload_n 0, 1) := by decide +kernel
theorem dX12_set_29 : decode cX12_set 29 = .ok (.getfield 13, 3) := by decide +kernel
theorem dX12_set_32 : decode cX12_set 32 = .ok (.iload_n 1, 1) := by decide +kernel
theorem dX12_set_33 : decode cX12_set 33 = .ok (.iaload, 1) := by decide +kernel
theorem dX12_set_34 : decode cX12_set 34 = .ok (.iconst 1, 1) := by decide +kernel
theorem dX12_set_35 : decode cX12_set 35 = .ok (.isub, 1) := by decide +kernel
theorem dX12_set_36 : decode cX12_set 36 = .ok (.i2l, 1) := by decide +kernel
theorem dX12_set_37 : decode cX12_set 37 = .ok (.invokestatic 79, 3) := by decide +kernel
theorem dX12_set_40 : decode cX12_set 40 = .ok (.ifCond .ne 9, 3) := by decide +kernel
theorem dX12_set_43 : decode cX12_set 43 = .ok (.aload_n 0, 1) := by decide +kernel
theorem dX12_set_44 : decode cX12_set 44 = .ok (.iconst 2, 1) := by decide +kernel
theorem dX12_set_45 : decode cX12_set 45 = .ok (.invokevirtual 90, 3) := by decide +kernel
theorem dX12_set_48 : decode cX12_set 48 = .ok (.ireturn, 1) := by decide +kernel
theorem dX12_set_49 : decode cX12_set 49 = .ok (.aload_n 0, 1) := by decide +kernel
theorem dX12_set_50 : decode cX12_set 50 = .ok (.getfield 7, 3) := by decide +kernel
theorem dX12_set_53 : decode cX12_set 53 = .ok (.iload_n 1, 1) := by decide +kernel
theorem dX12_set_54 : decode cX12_set 54 = .ok (.iaload, 1) := by decide +kernel
theorem dX12_set_55 : decode cX12_set 55 = .ok (.iconst 1, 1) := by decide +kernel
theorem dX12_set_56 : decode cX12_set 56 = .ok (.if_icmp .ne 8, 3) := by decide +kernel
theorem dX12_set_59 : decode cX12_set 59 = .ok (.iload_n 3, 1) := by decide +kernel
theorem dX12_set_60 : decode cX12_set 60 = .ok (.i2b, 1) := by decide +kernel
theorem dX12_set_61 : decode cX12_set 61 = .ok (.goto 19, 3) := by decide +kernel
theorem dX12_set_64 : decode cX12_set 64 = .ok (.aload_n 0, 1) := by decide +kernel
theorem dX12_set_65 : decode cX12_set 65 = .ok (.getfield 7, 3) := by decide +kernel
theorem dX12_set_68 : decode cX12_set 68 = .ok (.iload_n 1, 1) := by decide +kernel
theorem dX12_set_69 : decode cX12_set 69 = .ok (.iaload, 1) := by decide +kernel
theorem dX12_set_70 : decode cX12_set 70 = .ok (.iconst 2, 1) := by decide +kernel
theorem dX12_set_71 : decode cX12_set 71 = .ok (.if_icmp .ne 8, 3) := by decide +kernel
theorem dX12_set_74 : decode cX12_set 74 = .ok (.iload_n 3, 1) := by decide +kernel
theorem dX12_set_75 : decode cX12_set 75 = .ok (.i2s, 1) := by decide +kernel
theorem dX12_set_76 : decode cX12_set 76 = .ok (.goto 4, 3) := by decide +kernel
theorem dX12_set_79 : decode cX12_set 79 = .ok (.iload_n 3, 1) := by decide +kernel
theorem dX12_set_80 : decode cX12_set 80 = .ok (.istore 4, 2) := by decide +kernel
theorem dX12_set_82 : decode cX12_set 82 = .ok (.aload_n 0, 1) := by decide +kernel
theorem dX12_set_83 : decode cX12_set 83 = .ok (.getfield 16, 3) := by decide +kernel
theorem dX12_set_86 : decode cX12_set 86 = .ok (.bipush 60, 2) := by decide +kernel
theorem dX12_set_88 : decode cX12_set 88 = .ok (.iload_n 1, 1) := by decide +kernel
theorem dX12_set_89 : decode cX12_set 89 = .ok (.imul, 1) := by decide +kernel
theorem dX12_set_90 : decode cX12_set 90 = .ok (.iload_n 2, 1) := by decide +kernel
theorem dX12_set_91 : decode cX12_set 91 = .ok (.iadd, 1) := by decide +kernel
theorem dX12_set_92 : decode cX12_set 92 = .ok (.iload 4, 2) := by decide +kernel
theorem dX12_set_94 : decode cX12_set 94 = .ok (.iastore, 1) := by decide +kernel
theorem dX12_set_95 : decode cX12_set 95 = .ok (.aload_n 0, 1) := by decide +kernel
theorem dX12_set_96 : decode cX12_set 96 = .ok (.iload 4, 2) := by decide +kernel
theorem dX12_set_98 : decode cX12_set 98 = .ok (.invokevirtual 94, 3) := by decide +kernel
theorem dX12_set_101 : decode cX12_set 101 = .ok (.ireturn, 1) := by decide +kernel
set_option maxRecDepth 20000 in
theorem ggX12_copy_X12_isTable : GoodIn wsX12_copy wsX12_isTable := goodIn_r _ [9, 10, 11, 12, 8, 13] (by decide +kernel) (by decide +kernel)
set_option maxRecDepth 20000 in
theorem gX12_copy_X12_isTable : GoodIn wsX12_copy (va_wsS RX12 83 yX12_isTable wsX12_isTable) := goodIn_app (goodIn_of _ (by decide +kernel)) ggX12_copy_X12_isTable
set_option maxRecDepth 20000 in
theorem ggX12_copy_X12_finds : GoodIn wsX12_copy wsX12_finds := goodIn_r _ [17, 18, 19, 24, 25, 26, 27, 28, 29, 30, 31, 32, 33, 34, 35, 36, 37, 38, 39, 40, 41, 42, 43, 44, 45, 46, 47, 48, 49, 50, 51] (by decide +kernel) (by decide +kernel)
set_option maxRecDepth 20000 in
theorem gX12_copy_X12_finds : GoodIn wsX12_copy (wsV RX12 90 RX12 yX12_finds wsX12_finds) := goodIn_app (goodIn_of _ (by decide +kernel)) ggX12_copy_X12_finds
set_option maxRecDepth 20000 in
theorem ggX12_copy_X12_well : GoodIn wsX12_copy wsX12_well := goodIn_r _ [23, 18, 24, 25, 26, 27, 28, 29, 30, 31, 32, 33, 34, 35, 36, 37, 38, 39, 40, 41, 42, 43, 44, 45, 46, 47, 48, 49, 50, 51] (by decide +kernel) (by decide +kernel)
set_option maxRecDepth 20000 in
theorem gX12_copy_X12_well : GoodIn wsX12_copy (wsV RX12 94 RX12 yX12_well wsX12_well) := goodIn_app (goodIn_of _ (by decide +kernel)) ggX12_copy_X12_well
theorem dX12_copy_0 : decode cX12_copy 0 = .ok (.iload_n 1, 1) := by decide +kernel
theorem dX12_copy_1 : decode cX12_copy 1 = .ok (.invokestatic 83, 3) := by decide +kernel
theorem dX12_copy_4 : decode cX12_copy 4 = .ok (.ifCond .eq 10, 3) := by decide +kernel
theorem dX12_copy_7 : decode cX12_copy 7 = .ok (.iload_n 3, 1) := by decide +kernel
theorem dX12_copy_8 : decode cX12_copy 8 = .ok (.invokestatic 83, 3) := by decide +kernel
theorem dX12_copy_11 : decode cX12_copy 11 = .ok (.ifCond .ne 6, 3) := by decide +kernel
theorem dX12_copy_14 : decode cX12_copy 14 = .ok (.ldc 89, 2) := by decide +kernel
theorem dX12_copy_16 : decode cX12_copy 16 = .ok (.ireturn, 1) := by decide +kernel
theorem dX12_copy_17 : decode cX12_copy 17 = .ok (.aload_n 0, 1) := by decide +kernel
theorem dX12_copy_18 : decode cX12_copy 18 = .ok (.getfield 7, 3) := by decide +kernel
theorem dX12_copy_21 : decode cX12_copy 21 = .ok (.iload_n 1, 1) := by decide +kernel
theorem dX12_copy_22 : decode cX12_copy 22 = .ok (.iaload, 1) := by decide +kernel
theorem dX12_copy_23 : decode cX12_copy 23 = .ok (.ifCond .eq 12, 3) := by decide +kernel
theorem dX12_copy_26 : decode cX12_copy 26 = .ok (.aload_n 0, 1) := by decide +kernel
theorem dX12_copy_27 : decode cX12_copy 27 = .ok (.getfield 7, 3) := by decide +kernel
theorem dX12_copy_30 : decode cX12_copy 30 = .ok (.iload_n 3, 1) := by decide +kernel
theorem dX12_copy_31 : decode cX12_copy 31 = .ok (.iaload, 1) := by decide +kernel
theorem dX12_copy_32 : decode cX12_copy 32 = .ok (.ifCond .ne 9, 3) := by decide +kernel
theorem dX12_copy_35 : decode cX12_copy 35 = .ok (.aload_n 0, 1) := by decide +kernel
theorem dX12_copy_36 : decode cX12_copy 36 = .ok (.iconst 1, 1) := by decide +kernel
theorem dX12_copy_37 : decode cX12_copy 37 = .ok (.invokevirtual 90, 3) := by decide +kernel
theorem dX12_copy_40 : decode cX12_copy 40 = .ok (.ireturn, 1) := by decide +kernel
theorem dX12_copy_41 : decode cX12_copy 41 = .ok (.aload_n 0, 1) := by decide +kernel
theorem dX12_copy_42 : decode cX12_copy 42 = .ok (.getfield 7, 3) := by decide +kernel
theorem dX12_copy_45 : decode cX12_copy 45 = .ok (.iload_n 1, 1) := by decide +kernel
theorem dX12_copy_46 : decode cX12_copy 46 = .ok (.iaload, 1) := by decide +kernel
theorem dX12_copy_47 : decode cX12_copy 47 = .ok (.aload_n 0, 1) := by decide +kernel
theorem dX12_copy_48 : decode cX12_copy 48 = .ok (.getfield 7, 3) := by decide +kernel
theorem dX12_copy_51 : decode cX12_copy 51 = .ok (.iload_n 3, 1) := by decide +kernel
theorem dX12_copy_52 : decode cX12_copy 52 = .ok (.iaload, 1) := by decide +kernel
theorem dX12_copy_53 : decode cX12_copy 53 = .ok (.if_icmp .eq 9, 3) := by decide +kernel
theorem dX12_copy_56 : decode cX12_copy 56 = .ok (.aload_n 0, 1) := by decide +kernel
theorem dX12_copy_57 : decode cX12_copy 57 = .ok (.iconst 5, 1) := by decide +kernel
theorem dX12_copy_58 : decode cX12_copy 58 = .ok (.invokevirtual 90, 3) := by decide +kernel
theorem dX12_copy_61 : decode cX12_copy 61 = .ok (.ireturn, 1) := by decide +kernel
theorem dX12_copy_62 : decode cX12_copy 62 = .ok (.iload_n 2, 1) := by decide +kernel
theorem dX12_copy_63 : decode cX12_copy 63 = .ok (.ifCond .lt 48, 3) := by decide +kernel
theorem dX12_copy_66 : decode cX12_copy 66 = .ok (.iload 4, 2) := by decide +kernel
theorem dX12_copy_68 : decode cX12_copy 68 = .ok (.ifCond .lt 43, 3) := by decide +kernel
theorem dX12_copy_71 : decode cX12_copy 71 = .ok (.iload 5, 2) := by decide +kernel
theorem dX12_copy_73 : decode cX12_copy 73 = .ok (.ifCond .lt 38, 3) := by decide +kernel
theorem dX12_copy_76 : decode cX12_copy 76 = .ok (.iload_n 2, 1) := by decide +kernel
theorem dX12_copy_77 : decode cX12_copy 77 = .ok (.i2l, 1) := by decide +kernel
theorem dX12_copy_78 : decode cX12_copy 78 = .ok (.iload 5, 2) := by decide +kernel
theorem dX12_copy_80 : decode cX12_copy 80 = .ok (.i2l, 1) := by decide +kernel
theorem dX12_copy_81 : decode cX12_copy 81 = .ok (.ladd, 1) := by decide +kernel
theorem dX12_copy_82 : decode cX12_copy 82 = .ok (.aload_n 0, 1) := by decide +kernel
theorem dX12_copy_83 : decode cX12_copy 83 = .ok (.getfield 13, 3) := by decide +kernel
theorem dX12_copy_86 : decode cX12_copy 86 = .ok (.iload_n 1, 1) := by decide +kernel
theorem dX12_copy_87 : decode cX12_copy 87 = .ok (.iaload, 1) := by decide +kernel
theorem dX12_copy_88 : decode cX12_copy 88 = .ok (.i2l, 1) := by decide +kernel
theorem dX12_copy_89 : decode cX12_copy 89 = .ok (.lcmp, 1) := by decide +kernel
theorem dX12_copy_90 : decode cX12_copy 90 = .ok (.ifCond .gt 21, 3) := by decide +kernel
theorem dX12_copy_93 : decode cX12_copy 93 = .ok (.iload 4, 2) := by decide +kernel
theorem dX12_copy_95 : decode cX12_copy 95 = .ok (.i2l, 1) := by decide +kernel
theorem dX12_copy_96 : decode cX12_copy 96 = .ok (.iload 5, 2) := by decide +kernel
theorem dX12_copy_98 : decode cX12_copy 98 = .ok (.i2l, 1) := by decide +kernel
theorem dX12_copy_99 : decode cX12_copy 99 = .ok (.ladd, 1) := by decide +kernel
theorem dX12_copy_100 : decode cX12_copy 100 = .ok (.aload_n 0, 1) := by decide +kernel
theorem dX12_copy_101 : decode cX12_copy 101 = .ok (.getfield 13, 3) := by decide +kernel
theorem dX12_copy_104 : decode cX12_copy 104 = .ok (.iload_n 3, 1) := by decide +kernel
theorem dX12_copy_105 : decode cX12_copy 105 = .ok (.iaload, 1) := by decide +kernel
theorem dX12_copy_106 : decode cX12_copy 106 = .ok (.i2l, 1) := by decide +kernel
theorem dX12_copy_107 : decode cX12_copy 107 = .ok (.lcmp, 1) := by decide +kernel
theorem dX12_copy_108 : decode cX12_copy 108 = .ok (.ifCond .le 9, 3) := by decide +kernel
theorem dX12_copy_111 : decode cX12_copy 111 = .ok (.aload_n 0, 1) := by decide +kernel
theorem dX12_copy_112 : decode cX12_copy 112 = .ok (.iconst 2, 1) := by decide +kernel
theorem dX12_copy_113 : decode cX12_copy 113 = .ok (.invokevirtual 90, 3) := by decide +kernel
theorem dX12_copy_116 : decode cX12_copy 116 = .ok (.ireturn, 1) := by decide +kernel
theorem dX12_copy_117 : decode cX12_copy 117 = .ok (.iconst 0, 1) := by decide +kernel
theorem dX12_copy_118 : decode cX12_copy 118 = .ok (.istore 6, 2) := by decide +kernel
theorem dX12_copy_120 : decode cX12_copy 120 = .ok (.iload 6, 2) := by decide +kernel
theorem dX12_copy_122 : decode cX12_copy 122 = .ok (.iload 5, 2) := by decide +kernel
theorem dX12_copy_124 : decode cX12_copy 124 = .ok (.if_icmp .ge 30, 3) := by decide +kernel
theorem dX12_copy_127 : decode cX12_copy 127 = .ok (.aload_n 0, 1) := by decide +kernel
theorem dX12_copy_128 : decode cX12_copy 128 = .ok (.getfield 19, 3) := by decide +kernel
theorem dX12_copy_131 : decode cX12_copy 131 = .ok (.iload 6, 2) := by decide +kernel
theorem dX12_copy_133 : decode cX12_copy 133 = .ok (.aload_n 0, 1) := by decide +kernel
theorem dX12_copy_134 : decode cX12_copy 134 = .ok (.getfield 16, 3) := by decide +kernel
theorem dX12_copy_137 : decode cX12_copy 137 = .ok (.bipush 60, 2) := by decide +kernel
theorem dX12_copy_139 : decode cX12_copy 139 = .ok (.iload_n 1, 1) := by decide +kernel
theorem dX12_copy_140 : decode cX12_copy 140 = .ok (.imul, 1) := by decide +kernel
theorem dX12_copy_141 : decode cX12_copy 141 = .ok (.iload_n 2, 1) := by decide +kernel
theorem dX12_copy_142 : decode cX12_copy 142 = .ok (.iadd, 1) := by decide +kernel
theorem dX12_copy_143 : decode cX12_copy 143 = .ok (.iload 6, 2) := by decide +kernel
theorem dX12_copy_145 : decode cX12_copy 145 = .ok (.iadd, 1) := by decide +kernel
theorem dX12_copy_146 : decode cX12_copy 146 = .ok (.iaload, 1) := by decide +kernel
theorem dX12_copy_147 : decode cX12_copy 147 = .ok (.iastore, 1) := by decide +kernel
theorem dX12_copy_148 : decode cX12_copy 148 = .ok (.iinc 6 1, 3) := by decide +kernel
theorem dX12_copy_151 : decode cX12_copy 151 = .ok (.goto (-31), 3) := by decide +kernel
theorem dX12_copy_154 : decode cX12_copy 154 = .ok (.iconst 0, 1) := by decide +kernel
theorem dX12_copy_155 : decode cX12_copy 155 = .ok (.istore 6, 2) := by decide +kernel
theorem dX12_copy_157 : decode cX12_copy 157 = .ok (.iload 6, 2) := by decide +kernel
theorem dX12_copy_159 : decode cX12_copy 159 = .ok (.iload 5, 2) := by decide +kernel
theorem dX12_copy_161 : decode cX12_copy 161 = .ok (.if_icmp .ge 31, 3) := by decide +kernel
theorem dX12_copy_164 : decode cX12_copy 164 = .ok (.aload_n 0, 1) := by decide +kernel
theorem dX12_copy_165 : decode cX12_copy 165 = .ok (.getfield 16, 3) := by decide +kernel
theorem dX12_copy_168 : decode cX12_copy 168 = .ok (.bipush 60, 2) := by decide +kernel
theorem dX12_copy_170 : decode cX12_copy 170 = .ok (.iload_n 3, 1) := by decide +kernel
theorem dX12_copy_171 : decode cX12_copy 171 = .ok (.imul, 1) := by decide +kernel
theorem dX12_copy_172 : decode cX12_copy 172 = .ok (.iload 4, 2) := by decide +kernel
theorem dX12_copy_174 : decode cX12_copy 174 = .ok (.iadd, 1) := by decide +kernel
theorem dX12_copy_175 : decode cX12_copy 175 = .ok (.iload 6, 2) := by decide +kernel
theorem dX12_copy_177 : decode cX12_copy 177 = .ok (.iadd, 1) := by decide +kernel
theorem dX12_copy_178 : decode cX12_copy 178 = .ok (.aload_n 0, 1) := by decide +kernel
theorem dX12_copy_179 : decode cX12_copy 179 = .ok (.getfield 19, 3) := by decide +kernel
theorem dX12_copy_182 : decode cX12_copy 182 = .ok (.iload 6, 2) := by decide +kernel
theorem dX12_copy_184 : decode cX12_copy 184 = .ok (.iaload, 1) := by decide +kernel
theorem dX12_copy_185 : decode cX12_copy 185 = .ok (.iastore, 1) := by decide +kernel
theorem dX12_copy_186 : decode cX12_copy 186 = .ok (.iinc 6 1, 3) := by decide +kernel
theorem dX12_copy_189 : decode cX12_copy 189 = .ok (.goto (-32), 3) := by decide +kernel
theorem dX12_copy_192 : decode cX12_copy 192 = .ok (.aload_n 0, 1) := by decide +kernel
theorem dX12_copy_193 : decode cX12_copy 193 = .ok (.iload 5, 2) := by decide +kernel
theorem dX12_copy_195 : decode cX12_copy 195 = .ok (.invokevirtual 94, 3) := by decide +kernel
theorem dX12_copy_198 : decode cX12_copy 198 = .ok (.ireturn, 1) := by decide +kernel
set_option maxRecDepth 20000 in
theorem ggX12_drop_X12_isTable : GoodIn wsX12_drop wsX12_isTable := goodIn_r _ [7, 8, 9, 10, 6, 11] (by decide +kernel) (by decide +kernel)
set_option maxRecDepth 20000 in
theorem gX12_drop_X12_isTable : GoodIn wsX12_drop (va_wsS RX12 83 yX12_isTable wsX12_isTable) := goodIn_app (goodIn_of _ (by decide +kernel)) ggX12_drop_X12_isTable
set_option maxRecDepth 20000 in
theorem ggX12_drop_X12_finds : GoodIn wsX12_drop wsX12_finds := goodIn_r _ [15, 16, 17, 22, 23, 24, 25, 26, 27, 28, 29, 30, 31, 32, 33, 34, 35, 36, 37, 38, 39, 40, 41, 42, 43, 44, 45, 46, 47, 48, 49] (by decide +kernel) (by decide +kernel)
set_option maxRecDepth 20000 in
theorem gX12_drop_X12_finds : GoodIn wsX12_drop (wsV RX12 90 RX12 yX12_finds wsX12_finds) := goodIn_app (goodIn_of _ (by decide +kernel)) ggX12_drop_X12_finds
set_option maxRecDepth 20000 in
theorem ggX12_drop_X12_well : GoodIn wsX12_drop wsX12_well := goodIn_r _ [21, 16, 22, 23, 24, 25, 26, 27, 28, 29, 30, 31, 32, 33, 34, 35, 36, 37, 38, 39, 40, 41, 42, 43, 44, 45, 46, 47, 48, 49] (by decide +kernel) (by decide +kernel)
set_option maxRecDepth 20000 in
theorem gX12_drop_X12_well : GoodIn wsX12_drop (wsV RX12 94 RX12 yX12_well wsX12_well) := goodIn_app (goodIn_of _ (by decide +kernel)) ggX12_drop_X12_well
theorem dX12_drop_0 : decode cX12_drop 0 = .ok (.iload_n 1, 1) := by decide +kernel
theorem dX12_drop_1 : decode cX12_drop 1 = .ok (.invokestatic 83, 3) := by decide +kernel
theorem dX12_drop_4 : decode cX12_drop 4 = .ok (.ifCond .ne 6, 3) := by decide +kernel
theorem dX12_drop_7 : decode cX12_drop 7 = .ok (.ldc 89, 2) := by decide +kernel
theorem dX12_drop_9 : decode cX12_drop 9 = .ok (.ireturn, 1) := by decide +kernel
theorem dX12_drop_10 : decode cX12_drop 10 = .ok (.aload_n 0, 1) := by decide +kernel
theorem dX12_drop_11 : decode cX12_drop 11 = .ok (.getfield 7, 3) := by decide +kernel
theorem dX12_drop_14 : decode cX12_drop 14 = .ok (.iload_n 1, 1) := by decide +kernel
theorem dX12_drop_15 : decode cX12_drop 15 = .ok (.iaload, 1) := by decide +kernel
theorem dX12_drop_16 : decode cX12_drop 16 = .ok (.ifCond .ne 9, 3) := by decide +kernel
theorem dX12_drop_19 : decode cX12_drop 19 = .ok (.aload_n 0, 1) := by decide +kernel
theorem dX12_drop_20 : decode cX12_drop 20 = .ok (.iconst 1, 1) := by decide +kernel
theorem dX12_drop_21 : decode cX12_drop 21 = .ok (.invokevirtual 90, 3) := by decide +kernel
theorem dX12_drop_24 : decode cX12_drop 24 = .ok (.ireturn, 1) := by decide +kernel
theorem dX12_drop_25 : decode cX12_drop 25 = .ok (.aload_n 0, 1) := by decide +kernel
theorem dX12_drop_26 : decode cX12_drop 26 = .ok (.getfield 7, 3) := by decide +kernel
theorem dX12_drop_29 : decode cX12_drop 29 = .ok (.iload_n 1, 1) := by decide +kernel
theorem dX12_drop_30 : decode cX12_drop 30 = .ok (.iconst 0, 1) := by decide +kernel
theorem dX12_drop_31 : decode cX12_drop 31 = .ok (.iastore, 1) := by decide +kernel
theorem dX12_drop_32 : decode cX12_drop 32 = .ok (.aload_n 0, 1) := by decide +kernel
theorem dX12_drop_33 : decode cX12_drop 33 = .ok (.aload_n 0, 1) := by decide +kernel
theorem dX12_drop_34 : decode cX12_drop 34 = .ok (.getfield 13, 3) := by decide +kernel
theorem dX12_drop_37 : decode cX12_drop 37 = .ok (.iload_n 1, 1) := by decide +kernel
theorem dX12_drop_38 : decode cX12_drop 38 = .ok (.iaload, 1) := by decide +kernel
theorem dX12_drop_39 : decode cX12_drop 39 = .ok (.invokevirtual 94, 3) := by decide +kernel
theorem dX12_drop_42 : decode cX12_drop 42 = .ok (.ireturn, 1) := by decide +kernel
theorem dX12_cosine_0 : decode cX12_cosine 0 = .ok (.iload_n 0, 1) := by decide +kernel
theorem dX12_cosine_1 : decode cX12_cosine 1 = .ok (.bipush 16, 2) := by decide +kernel
theorem dX12_cosine_3 : decode cX12_cosine 3 = .ok (.iconst 5, 1) := by decide +kernel
theorem dX12_cosine_4 : decode cX12_cosine 4 = .ok (.iload_n 1, 1) := by decide +kernel
theorem dX12_cosine_5 : decode cX12_cosine 5 = .ok (.imul, 1) := by decide +kernel
theorem dX12_cosine_6 : decode cX12_cosine 6 = .ok (.isub, 1) := by decide +kernel
theorem dX12_cosine_7 : decode cX12_cosine 7 = .ok (.ishr, 1) := by decide +kernel
theorem dX12_cosine_8 : decode cX12_cosine 8 = .ok (.bipush 15, 2) := by decide +kernel
theorem dX12_cosine_10 : decode cX12_cosine 10 = .ok (.iand, 1) := by decide +kernel
theorem dX12_cosine_11 : decode cX12_cosine 11 = .ok (.ireturn, 1) := by decide +kernel
theorem dX12_sine_0 : decode cX12_sine 0 = .ok (.iload_n 0, 1) := by decide +kernel
theorem dX12_sine_1 : decode cX12_sine 1 = .ok (.bipush 15, 2) := by decide +kernel
theorem dX12_sine_3 : decode cX12_sine 3 = .ok (.iconst 5, 1) := by decide +kernel
theorem dX12_sine_4 : decode cX12_sine 4 = .ok (.iload_n 1, 1) := by decide +kernel
theorem dX12_sine_5 : decode cX12_sine 5 = .ok (.imul, 1) := by decide +kernel
theorem dX12_sine_6 : decode cX12_sine 6 = .ok (.isub, 1) := by decide +kernel
theorem dX12_sine_7 : decode cX12_sine 7 = .ok (.ishr, 1) := by decide +kernel
theorem dX12_sine_8 : decode cX12_sine 8 = .ok (.iconst 1, 1) := by decide +kernel
theorem dX12_sine_9 : decode cX12_sine 9 = .ok (.iand, 1) := by decide +kernel
theorem dX12_sine_10 : decode cX12_sine 10 = .ok (.ireturn, 1) := by decide +kernel
theorem dX12_oneCosine_0 : decode cX12_oneCosine 0 = .ok (.iconst 1, 1) := by decide +kernel
theorem dX12_oneCosine_1 : decode cX12_oneCosine 1 = .ok (.bipush 16, 2) := by decide +kernel
theorem dX12_oneCosine_3 : decode cX12_oneCosine 3 = .ok (.iconst 5, 1) := by decide +kernel
theorem dX12_oneCosine_4 : decode cX12_oneCosine 4 = .ok (.iload_n 0, 1) := by decide +kernel
theorem dX12_oneCosine_5 : decode cX12_oneCosine 5 = .ok (.imul, 1) := by decide +kernel
theorem dX12_oneCosine_6 : decode cX12_oneCosine 6 = .ok (.isub, 1) := by decide +kernel
theorem dX12_oneCosine_7 : decode cX12_oneCosine 7 = .ok (.ishl, 1) := by decide +kernel
theorem dX12_oneCosine_8 : decode cX12_oneCosine 8 = .ok (.ireturn, 1) := by decide +kernel
theorem dX12_oneSine_0 : decode cX12_oneSine 0 = .ok (.iconst 1, 1) := by decide +kernel
theorem dX12_oneSine_1 : decode cX12_oneSine 1 = .ok (.bipush 15, 2) := by decide +kernel
theorem dX12_oneSine_3 : decode cX12_oneSine 3 = .ok (.iconst 5, 1) := by decide +kernel
theorem dX12_oneSine_4 : decode cX12_oneSine 4 = .ok (.iload_n 0, 1) := by decide +kernel
theorem dX12_oneSine_5 : decode cX12_oneSine 5 = .ok (.imul, 1) := by decide +kernel
theorem dX12_oneSine_6 : decode cX12_oneSine 6 = .ok (.isub, 1) := by decide +kernel
theorem dX12_oneSine_7 : decode cX12_oneSine 7 = .ok (.ishl, 1) := by decide +kernel
theorem dX12_oneSine_8 : decode cX12_oneSine 8 = .ok (.ireturn, 1) := by decide +kernel
theorem dX12_productOf_0 : decode cX12_productOf 0 = .ok (.iload_n 0, 1) := by decide +kernel
theorem dX12_productOf_1 : decode cX12_productOf 1 = .ok (.bipush 20, 2) := by decide +kernel
theorem dX12_productOf_3 : decode cX12_productOf 3 = .ok (.ishr, 1) := by decide +kernel
theorem dX12_productOf_4 : decode cX12_productOf 4 = .ok (.ireturn, 1) := by decide +kernel
theorem dX12_put_0 : decode cX12_put 0 = .ok (.iconst 0, 1) := by decide +kernel
theorem dX12_put_1 : decode cX12_put 1 = .ok (.istore 4, 2) := by decide +kernel
theorem dX12_put_3 : decode cX12_put 3 = .ok (.aload_n 0, 1) := by decide +kernel
theorem dX12_put_4 : decode cX12_put 4 = .ok (.getfield 97, 3) := by decide +kernel
theorem dX12_put_7 : decode cX12_put 7 = .ok (.istore 5, 2) := by decide +kernel
theorem dX12_put_9 : decode cX12_put 9 = .ok (.iload 4, 2) := by decide +kernel
theorem dX12_put_11 : decode cX12_put 11 = .ok (.iload 5, 2) := by decide +kernel
theorem dX12_put_13 : decode cX12_put 13 = .ok (.if_icmp .ge 39, 3) := by decide +kernel
theorem dX12_put_16 : decode cX12_put 16 = .ok (.iload 4, 2) := by decide +kernel
theorem dX12_put_18 : decode cX12_put 18 = .ok (.iload 5, 2) := by decide +kernel
theorem dX12_put_20 : decode cX12_put 20 = .ok (.iadd, 1) := by decide +kernel
theorem dX12_put_21 : decode cX12_put 21 = .ok (.iconst 2, 1) := by decide +kernel
theorem dX12_put_22 : decode cX12_put 22 = .ok (.idiv, 1) := by decide +kernel
theorem dX12_put_23 : decode cX12_put 23 = .ok (.istore 6, 2) := by decide +kernel
theorem dX12_put_25 : decode cX12_put 25 = .ok (.aload_n 0, 1) := by decide +kernel
theorem dX12_put_26 : decode cX12_put 26 = .ok (.getfield 32, 3) := by decide +kernel
theorem dX12_put_29 : decode cX12_put 29 = .ok (.iload 6, 2) := by decide +kernel
theorem dX12_put_31 : decode cX12_put 31 = .ok (.iaload, 1) := by decide +kernel
theorem dX12_put_32 : decode cX12_put 32 = .ok (.iload_n 1, 1) := by decide +kernel
theorem dX12_put_33 : decode cX12_put 33 = .ok (.if_icmp .ge 12, 3) := by decide +kernel
theorem dX12_put_36 : decode cX12_put 36 = .ok (.iload 6, 2) := by decide +kernel
theorem dX12_put_38 : decode cX12_put 38 = .ok (.iconst 1, 1) := by decide +kernel
theorem dX12_put_39 : decode cX12_put 39 = .ok (.iadd, 1) := by decide +kernel
theorem dX12_put_40 : decode cX12_put 40 = .ok (.istore 4, 2) := by decide +kernel
theorem dX12_put_42 : decode cX12_put 42 = .ok (.goto 7, 3) := by decide +kernel
theorem dX12_put_45 : decode cX12_put 45 = .ok (.iload 6, 2) := by decide +kernel
theorem dX12_put_47 : decode cX12_put 47 = .ok (.istore 5, 2) := by decide +kernel
theorem dX12_put_49 : decode cX12_put 49 = .ok (.goto (-40), 3) := by decide +kernel
theorem dX12_put_52 : decode cX12_put 52 = .ok (.iload 4, 2) := by decide +kernel
theorem dX12_put_54 : decode cX12_put 54 = .ok (.aload_n 0, 1) := by decide +kernel
theorem dX12_put_55 : decode cX12_put 55 = .ok (.getfield 97, 3) := by decide +kernel
theorem dX12_put_58 : decode cX12_put 58 = .ok (.if_icmp .eq 14, 3) := by decide +kernel
theorem dX12_put_61 : decode cX12_put 61 = .ok (.aload_n 0, 1) := by decide +kernel
theorem dX12_put_62 : decode cX12_put 62 = .ok (.getfield 32, 3) := by decide +kernel
theorem dX12_put_65 : decode cX12_put 65 = .ok (.iload 4, 2) := by decide +kernel
theorem dX12_put_67 : decode cX12_put 67 = .ok (.iaload, 1) := by decide +kernel
theorem dX12_put_68 : decode cX12_put 68 = .ok (.iload_n 1, 1) := by decide +kernel
theorem dX12_put_69 : decode cX12_put 69 = .ok (.if_icmp .eq 80, 3) := by decide +kernel
theorem dX12_put_72 : decode cX12_put 72 = .ok (.aload_n 0, 1) := by decide +kernel
theorem dX12_put_73 : decode cX12_put 73 = .ok (.getfield 97, 3) := by decide +kernel
theorem dX12_put_76 : decode cX12_put 76 = .ok (.istore 6, 2) := by decide +kernel
theorem dX12_put_78 : decode cX12_put 78 = .ok (.iload 6, 2) := by decide +kernel
theorem dX12_put_80 : decode cX12_put 80 = .ok (.iload 4, 2) := by decide +kernel
theorem dX12_put_82 : decode cX12_put 82 = .ok (.if_icmp .le 41, 3) := by decide +kernel
theorem dX12_put_85 : decode cX12_put 85 = .ok (.aload_n 0, 1) := by decide +kernel
theorem dX12_put_86 : decode cX12_put 86 = .ok (.getfield 32, 3) := by decide +kernel
theorem dX12_put_89 : decode cX12_put 89 = .ok (.iload 6, 2) := by decide +kernel
theorem dX12_put_91 : decode cX12_put 91 = .ok (.aload_n 0, 1) := by decide +kernel
theorem dX12_put_92 : decode cX12_put 92 = .ok (.getfield 32, 3) := by decide +kernel
theorem dX12_put_95 : decode cX12_put 95 = .ok (.iload 6, 2) := by decide +kernel
theorem dX12_put_97 : decode cX12_put 97 = .ok (.iconst 1, 1) := by decide +kernel
theorem dX12_put_98 : decode cX12_put 98 = .ok (.isub, 1) := by decide +kernel
theorem dX12_put_99 : decode cX12_put 99 = .ok (.iaload, 1) := by decide +kernel
theorem dX12_put_100 : decode cX12_put 100 = .ok (.iastore, 1) := by decide +kernel
theorem dX12_put_101 : decode cX12_put 101 = .ok (.aload_n 0, 1) := by decide +kernel
theorem dX12_put_102 : decode cX12_put 102 = .ok (.getfield 35, 3) := by decide +kernel
theorem dX12_put_105 : decode cX12_put 105 = .ok (.iload 6, 2) := by decide +kernel
theorem dX12_put_107 : decode cX12_put 107 = .ok (.aload_n 0, 1) := by decide +kernel
theorem dX12_put_108 : decode cX12_put 108 = .ok (.getfield 35, 3) := by decide +kernel
theorem dX12_put_111 : decode cX12_put 111 = .ok (.iload 6, 2) := by decide +kernel
theorem dX12_put_113 : decode cX12_put 113 = .ok (.iconst 1, 1) := by decide +kernel
theorem dX12_put_114 : decode cX12_put 114 = .ok (.isub, 1) := by decide +kernel
theorem dX12_put_115 : decode cX12_put 115 = .ok (.laload, 1) := by decide +kernel
theorem dX12_put_116 : decode cX12_put 116 = .ok (.lastore, 1) := by decide +kernel
theorem dX12_put_117 : decode cX12_put 117 = .ok (.iinc 6 (-1), 3) := by decide +kernel
theorem dX12_put_120 : decode cX12_put 120 = .ok (.goto (-42), 3) := by decide +kernel
theorem dX12_put_123 : decode cX12_put 123 = .ok (.aload_n 0, 1) := by decide +kernel
theorem dX12_put_124 : decode cX12_put 124 = .ok (.getfield 32, 3) := by decide +kernel
theorem dX12_put_127 : decode cX12_put 127 = .ok (.iload 4, 2) := by decide +kernel
theorem dX12_put_129 : decode cX12_put 129 = .ok (.iload_n 1, 1) := by decide +kernel
theorem dX12_put_130 : decode cX12_put 130 = .ok (.iastore, 1) := by decide +kernel
theorem dX12_put_131 : decode cX12_put 131 = .ok (.aload_n 0, 1) := by decide +kernel
theorem dX12_put_132 : decode cX12_put 132 = .ok (.getfield 35, 3) := by decide +kernel
theorem dX12_put_135 : decode cX12_put 135 = .ok (.iload 4, 2) := by decide +kernel
theorem dX12_put_137 : decode cX12_put 137 = .ok (.lconst 0, 1) := by decide +kernel
theorem dX12_put_138 : decode cX12_put 138 = .ok (.lastore, 1) := by decide +kernel
theorem dX12_put_139 : decode cX12_put 139 = .ok (.aload_n 0, 1) := by decide +kernel
theorem dX12_put_140 : decode cX12_put 140 = .ok (.dup, 1) := by decide +kernel
theorem dX12_put_141 : decode cX12_put 141 = .ok (.getfield 97, 3) := by decide +kernel
theorem dX12_put_144 : decode cX12_put 144 = .ok (.iconst 1, 1) := by decide +kernel
theorem dX12_put_145 : decode cX12_put 145 = .ok (.iadd, 1) := by decide +kernel
theorem dX12_put_146 : decode cX12_put 146 = .ok (.putfield 97, 3) := by decide +kernel
theorem dX12_put_149 : decode cX12_put 149 = .ok (.aload_n 0, 1) := by decide +kernel
theorem dX12_put_150 : decode cX12_put 150 = .ok (.getfield 35, 3) := by decide +kernel
theorem dX12_put_153 : decode cX12_put 153 = .ok (.iload 4, 2) := by decide +kernel
theorem dX12_put_155 : decode cX12_put 155 = .ok (.dup2, 1) := by decide +kernel
theorem dX12_put_156 : decode cX12_put 156 = .ok (.laload, 1) := by decide +kernel
theorem dX12_put_157 : decode cX12_put 157 = .ok (.lload_n 2, 1) := by decide +kernel
theorem dX12_put_158 : decode cX12_put 158 = .ok (.ladd, 1) := by decide +kernel
theorem dX12_put_159 : decode cX12_put 159 = .ok (.lastore, 1) := by decide +kernel
theorem dX12_put_160 : decode cX12_put 160 = .ok (.return_, 1) := by decide +kernel
theorem dX12_placeOf_0 : decode cX12_placeOf 0 = .ok (.iload_n 0, 1) := by decide +kernel
theorem dX12_placeOf_1 : decode cX12_placeOf 1 = .ok (.ifCond .ge 8, 3) := by decide +kernel
theorem dX12_placeOf_4 : decode cX12_placeOf 4 = .ok (.bipush 8, 2) := by decide +kernel
theorem dX12_placeOf_6 : decode cX12_placeOf 6 = .ok (.goto 4, 3) := by decide +kernel
theorem dX12_placeOf_9 : decode cX12_placeOf 9 = .ok (.iload_n 0, 1) := by decide +kernel
theorem dX12_placeOf_10 : decode cX12_placeOf 10 = .ok (.ireturn, 1) := by decide +kernel
set_option maxRecDepth 20000 in
theorem ggX12_isShelf_X12_in : GoodIn wsX12_isShelf wsX12_in := goodIn_r _ [6] (by decide +kernel) (by decide +kernel)
set_option maxRecDepth 20000 in
theorem gX12_isShelf_X12_in : GoodIn wsX12_isShelf (va_wsS RX12 79 yX12_in wsX12_in) := goodIn_app (goodIn_of _ (by decide +kernel)) ggX12_isShelf_X12_in
theorem dX12_isShelf_0 : decode cX12_isShelf 0 = .ok (.iload_n 0, 1) := by decide +kernel
theorem dX12_isShelf_1 : decode cX12_isShelf 1 = .ok (.i2l, 1) := by decide +kernel
theorem dX12_isShelf_2 : decode cX12_isShelf 2 = .ok (.ldc2_w 100, 3) := by decide +kernel
theorem dX12_isShelf_5 : decode cX12_isShelf 5 = .ok (.ldc2_w 77, 3) := by decide +kernel
theorem dX12_isShelf_8 : decode cX12_isShelf 8 = .ok (.invokestatic 79, 3) := by decide +kernel
theorem dX12_isShelf_11 : decode cX12_isShelf 11 = .ok (.ireturn, 1) := by decide +kernel
set_option maxRecDepth 20000 in
theorem ggX12_isProduct_X12_in : GoodIn wsX12_isProduct wsX12_in := goodIn_r _ [5] (by decide +kernel) (by decide +kernel)
set_option maxRecDepth 20000 in
theorem gX12_isProduct_X12_in : GoodIn wsX12_isProduct (va_wsS RX12 79 yX12_in wsX12_in) := goodIn_app (goodIn_of _ (by decide +kernel)) ggX12_isProduct_X12_in
theorem dX12_isProduct_0 : decode cX12_isProduct 0 = .ok (.iload_n 1, 1) := by decide +kernel
theorem dX12_isProduct_1 : decode cX12_isProduct 1 = .ok (.i2l, 1) := by decide +kernel
theorem dX12_isProduct_2 : decode cX12_isProduct 2 = .ok (.lconst 0, 1) := by decide +kernel
theorem dX12_isProduct_3 : decode cX12_isProduct 3 = .ok (.aload_n 0, 1) := by decide +kernel
theorem dX12_isProduct_4 : decode cX12_isProduct 4 = .ok (.getfield 70, 3) := by decide +kernel
theorem dX12_isProduct_7 : decode cX12_isProduct 7 = .ok (.iconst 1, 1) := by decide +kernel
theorem dX12_isProduct_8 : decode cX12_isProduct 8 = .ok (.isub, 1) := by decide +kernel
theorem dX12_isProduct_9 : decode cX12_isProduct 9 = .ok (.i2l, 1) := by decide +kernel
theorem dX12_isProduct_10 : decode cX12_isProduct 10 = .ok (.invokestatic 79, 3) := by decide +kernel
theorem dX12_isProduct_13 : decode cX12_isProduct 13 = .ok (.ireturn, 1) := by decide +kernel
set_option maxRecDepth 20000 in
theorem ggX12_keep_X12_in : GoodIn wsX12_keep wsX12_in := goodIn_r _ [12] (by decide +kernel) (by decide +kernel)
set_option maxRecDepth 20000 in
theorem gX12_keep_X12_in : GoodIn wsX12_keep (va_wsS RX12 79 yX12_in wsX12_in) := goodIn_app (goodIn_of _ (by decide +kernel)) ggX12_keep_X12_in
set_option maxRecDepth 20000 in
theorem ggX12_keep_X12_cosine : GoodIn wsX12_keep wsX12_cosine := goodIn_r _ [15] (by decide +kernel) (by decide +kernel)
set_option maxRecDepth 20000 in
theorem gX12_keep_X12_cosine : GoodIn wsX12_keep (va_wsS RX12 106 yX12_cosine wsX12_cosine) := goodIn_app (goodIn_of _ (by decide +kernel)) ggX12_keep_X12_cosine
theorem dX12_keep_0 : decode cX12_keep 0 = .ok (.iconst 0, 1) := by decide +kernel
theorem dX12_keep_1 : decode cX12_keep 1 = .ok (.istore_n 2, 1) := by decide +kernel
theorem dX12_keep_2 : decode cX12_keep 2 = .ok (.iconst 0, 1) := by decide +kernel
theorem dX12_keep_3 : decode cX12_keep 3 = .ok (.istore_n 3, 1) := by decide +kernel
theorem dX12_keep_4 : decode cX12_keep 4 = .ok (.iload_n 3, 1) := by decide +kernel
theorem dX12_keep_5 : decode cX12_keep 5 = .ok (.aload_n 0, 1) := by decide +kernel
theorem dX12_keep_6 : decode cX12_keep 6 = .ok (.getfield 97, 3) := by decide +kernel
theorem dX12_keep_9 : decode cX12_keep 9 = .ok (.if_icmp .ge 90, 3) := by decide +kernel
theorem dX12_keep_12 : decode cX12_keep 12 = .ok (.aload_n 0, 1) := by decide +kernel
theorem dX12_keep_13 : decode cX12_keep 13 = .ok (.getfield 35, 3) := by decide +kernel
theorem dX12_keep_16 : decode cX12_keep 16 = .ok (.iload_n 3, 1) := by decide +kernel
theorem dX12_keep_17 : decode cX12_keep 17 = .ok (.laload, 1) := by decide +kernel
theorem dX12_keep_18 : decode cX12_keep 18 = .ok (.lconst 0, 1) := by decide +kernel
theorem dX12_keep_19 : decode cX12_keep 19 = .ok (.lcmp, 1) := by decide +kernel
theorem dX12_keep_20 : decode cX12_keep 20 = .ok (.ifCond .eq 73, 3) := by decide +kernel
theorem dX12_keep_23 : decode cX12_keep 23 = .ok (.aload_n 0, 1) := by decide +kernel
theorem dX12_keep_24 : decode cX12_keep 24 = .ok (.getfield 35, 3) := by decide +kernel
theorem dX12_keep_27 : decode cX12_keep 27 = .ok (.iload_n 3, 1) := by decide +kernel
theorem dX12_keep_28 : decode cX12_keep 28 = .ok (.laload, 1) := by decide +kernel
theorem dX12_keep_29 : decode cX12_keep 29 = .ok (.ldc2_w 102, 3) := by decide +kernel
theorem dX12_keep_32 : decode cX12_keep 32 = .ok (.ldc2_w 104, 3) := by decide +kernel
theorem dX12_keep_35 : decode cX12_keep 35 = .ok (.invokestatic 79, 3) := by decide +kernel
theorem dX12_keep_38 : decode cX12_keep 38 = .ok (.istore 4, 2) := by decide +kernel
theorem dX12_keep_40 : decode cX12_keep 40 = .ok (.iconst 0, 1) := by decide +kernel
theorem dX12_keep_41 : decode cX12_keep 41 = .ok (.istore 5, 2) := by decide +kernel
theorem dX12_keep_43 : decode cX12_keep 43 = .ok (.iload 5, 2) := by decide +kernel
theorem dX12_keep_45 : decode cX12_keep 45 = .ok (.iconst 4, 1) := by decide +kernel
theorem dX12_keep_46 : decode cX12_keep 46 = .ok (.if_icmp .ge 37, 3) := by decide +kernel
theorem dX12_keep_49 : decode cX12_keep 49 = .ok (.iload 4, 2) := by decide +kernel
theorem dX12_keep_51 : decode cX12_keep 51 = .ok (.ifCond .eq 23, 3) := by decide +kernel
theorem dX12_keep_54 : decode cX12_keep 54 = .ok (.aload_n 0, 1) := by decide +kernel
theorem dX12_keep_55 : decode cX12_keep 55 = .ok (.getfield 32, 3) := by decide +kernel
theorem dX12_keep_58 : decode cX12_keep 58 = .ok (.iload_n 3, 1) := by decide +kernel
theorem dX12_keep_59 : decode cX12_keep 59 = .ok (.iaload, 1) := by decide +kernel
theorem dX12_keep_60 : decode cX12_keep 60 = .ok (.iload 5, 2) := by decide +kernel
theorem dX12_keep_62 : decode cX12_keep 62 = .ok (.invokestatic 106, 3) := by decide +kernel
theorem dX12_keep_65 : decode cX12_keep 65 = .ok (.bipush 13, 2) := by decide +kernel
theorem dX12_keep_67 : decode cX12_keep 67 = .ok (.if_icmp .ge 7, 3) := by decide +kernel
theorem dX12_keep_70 : decode cX12_keep 70 = .ok (.iconst 1, 1) := by decide +kernel
theorem dX12_keep_71 : decode cX12_keep 71 = .ok (.goto 4, 3) := by decide +kernel
theorem dX12_keep_74 : decode cX12_keep 74 = .ok (.iconst 0, 1) := by decide +kernel
theorem dX12_keep_75 : decode cX12_keep 75 = .ok (.istore 4, 2) := by decide +kernel
theorem dX12_keep_77 : decode cX12_keep 77 = .ok (.iinc 5 1, 3) := by decide +kernel
theorem dX12_keep_80 : decode cX12_keep 80 = .ok (.goto (-37), 3) := by decide +kernel
theorem dX12_keep_83 : decode cX12_keep 83 = .ok (.iload 4, 2) := by decide +kernel
theorem dX12_keep_85 : decode cX12_keep 85 = .ok (.ifCond .ne 5, 3) := by decide +kernel
theorem dX12_keep_88 : decode cX12_keep 88 = .ok (.iconst 0, 1) := by decide +kernel
theorem dX12_keep_89 : decode cX12_keep 89 = .ok (.ireturn, 1) := by decide +kernel
theorem dX12_keep_90 : decode cX12_keep 90 = .ok (.iinc 2 1, 3) := by decide +kernel
theorem dX12_keep_93 : decode cX12_keep 93 = .ok (.iinc 3 1, 3) := by decide +kernel
theorem dX12_keep_96 : decode cX12_keep 96 = .ok (.goto (-92), 3) := by decide +kernel
theorem dX12_keep_99 : decode cX12_keep 99 = .ok (.iload_n 2, 1) := by decide +kernel
theorem dX12_keep_100 : decode cX12_keep 100 = .ok (.sipush 300, 3) := by decide +kernel
theorem dX12_keep_103 : decode cX12_keep 103 = .ok (.if_icmp .le 5, 3) := by decide +kernel
theorem dX12_keep_106 : decode cX12_keep 106 = .ok (.iconst 0, 1) := by decide +kernel
theorem dX12_keep_107 : decode cX12_keep 107 = .ok (.ireturn, 1) := by decide +kernel
theorem dX12_keep_108 : decode cX12_keep 108 = .ok (.iconst 0, 1) := by decide +kernel
theorem dX12_keep_109 : decode cX12_keep 109 = .ok (.istore_n 2, 1) := by decide +kernel
theorem dX12_keep_110 : decode cX12_keep 110 = .ok (.iconst 0, 1) := by decide +kernel
theorem dX12_keep_111 : decode cX12_keep 111 = .ok (.istore_n 3, 1) := by decide +kernel
theorem dX12_keep_112 : decode cX12_keep 112 = .ok (.iload_n 3, 1) := by decide +kernel
theorem dX12_keep_113 : decode cX12_keep 113 = .ok (.aload_n 0, 1) := by decide +kernel
theorem dX12_keep_114 : decode cX12_keep 114 = .ok (.getfield 97, 3) := by decide +kernel
theorem dX12_keep_117 : decode cX12_keep 117 = .ok (.if_icmp .ge 59, 3) := by decide +kernel
theorem dX12_keep_120 : decode cX12_keep 120 = .ok (.aload_n 0, 1) := by decide +kernel
theorem dX12_keep_121 : decode cX12_keep 121 = .ok (.getfield 35, 3) := by decide +kernel
theorem dX12_keep_124 : decode cX12_keep 124 = .ok (.iload_n 3, 1) := by decide +kernel
theorem dX12_keep_125 : decode cX12_keep 125 = .ok (.laload, 1) := by decide +kernel
theorem dX12_keep_126 : decode cX12_keep 126 = .ok (.lconst 0, 1) := by decide +kernel
theorem dX12_keep_127 : decode cX12_keep 127 = .ok (.lcmp, 1) := by decide +kernel
theorem dX12_keep_128 : decode cX12_keep 128 = .ok (.ifCond .eq 42, 3) := by decide +kernel
theorem dX12_keep_131 : decode cX12_keep 131 = .ok (.aload_n 0, 1) := by decide +kernel
theorem dX12_keep_132 : decode cX12_keep 132 = .ok (.getfield 25, 3) := by decide +kernel
theorem dX12_keep_135 : decode cX12_keep 135 = .ok (.sipush 300, 3) := by decide +kernel
theorem dX12_keep_138 : decode cX12_keep 138 = .ok (.iload_n 1, 1) := by decide +kernel
theorem dX12_keep_139 : decode cX12_keep 139 = .ok (.imul, 1) := by decide +kernel
theorem dX12_keep_140 : decode cX12_keep 140 = .ok (.iload_n 2, 1) := by decide +kernel
theorem dX12_keep_141 : decode cX12_keep 141 = .ok (.iadd, 1) := by decide +kernel
theorem dX12_keep_142 : decode cX12_keep 142 = .ok (.aload_n 0, 1) := by decide +kernel
theorem dX12_keep_143 : decode cX12_keep 143 = .ok (.getfield 32, 3) := by decide +kernel
theorem dX12_keep_146 : decode cX12_keep 146 = .ok (.iload_n 3, 1) := by decide +kernel
theorem dX12_keep_147 : decode cX12_keep 147 = .ok (.iaload, 1) := by decide +kernel
theorem dX12_keep_148 : decode cX12_keep 148 = .ok (.iastore, 1) := by decide +kernel
theorem dX12_keep_149 : decode cX12_keep 149 = .ok (.aload_n 0, 1) := by decide +kernel
theorem dX12_keep_150 : decode cX12_keep 150 = .ok (.getfield 28, 3) := by decide +kernel
theorem dX12_keep_153 : decode cX12_keep 153 = .ok (.sipush 300, 3) := by decide +kernel
theorem dX12_keep_156 : decode cX12_keep 156 = .ok (.iload_n 1, 1) := by decide +kernel
theorem dX12_keep_157 : decode cX12_keep 157 = .ok (.imul, 1) := by decide +kernel
theorem dX12_keep_158 : decode cX12_keep 158 = .ok (.iload_n 2, 1) := by decide +kernel
theorem dX12_keep_159 : decode cX12_keep 159 = .ok (.iadd, 1) := by decide +kernel
theorem dX12_keep_160 : decode cX12_keep 160 = .ok (.aload_n 0, 1) := by decide +kernel
theorem dX12_keep_161 : decode cX12_keep 161 = .ok (.getfield 35, 3) := by decide +kernel
theorem dX12_keep_164 : decode cX12_keep 164 = .ok (.iload_n 3, 1) := by decide +kernel
theorem dX12_keep_165 : decode cX12_keep 165 = .ok (.laload, 1) := by decide +kernel
theorem dX12_keep_166 : decode cX12_keep 166 = .ok (.lastore, 1) := by decide +kernel
theorem dX12_keep_167 : decode cX12_keep 167 = .ok (.iinc 2 1, 3) := by decide +kernel
theorem dX12_keep_170 : decode cX12_keep 170 = .ok (.iinc 3 1, 3) := by decide +kernel
theorem dX12_keep_173 : decode cX12_keep 173 = .ok (.goto (-61), 3) := by decide +kernel
theorem dX12_keep_176 : decode cX12_keep 176 = .ok (.aload_n 0, 1) := by decide +kernel
theorem dX12_keep_177 : decode cX12_keep 177 = .ok (.getfield 22, 3) := by decide +kernel
theorem dX12_keep_180 : decode cX12_keep 180 = .ok (.iload_n 1, 1) := by decide +kernel
theorem dX12_keep_181 : decode cX12_keep 181 = .ok (.iload_n 2, 1) := by decide +kernel
theorem dX12_keep_182 : decode cX12_keep 182 = .ok (.iastore, 1) := by decide +kernel
theorem dX12_keep_183 : decode cX12_keep 183 = .ok (.iconst 1, 1) := by decide +kernel
theorem dX12_keep_184 : decode cX12_keep 184 = .ok (.ireturn, 1) := by decide +kernel
set_option maxRecDepth 20000 in
theorem ggX12_putAll_X12_put : GoodIn wsX12_putAll wsX12_put := goodIn_r _ [8, 9, 10, 11, 12, 13, 14, 15, 16, 17, 18, 19, 20, 21, 22, 23, 24, 25, 26, 27, 28, 29, 30, 31, 32, 33, 34, 35, 36, 37, 38, 39] (by decide +kernel) (by decide +kernel)
set_option maxRecDepth 20000 in
theorem gX12_putAll_X12_put : GoodIn wsX12_putAll (wsV RX12 110 RX12 yX12_put wsX12_put) := goodIn_app (goodIn_of _ (by decide +kernel)) ggX12_putAll_X12_put
theorem dX12_putAll_0 : decode cX12_putAll 0 = .ok (.iconst 0, 1) := by decide +kernel
theorem dX12_putAll_1 : decode cX12_putAll 1 = .ok (.istore 4, 2) := by decide +kernel
theorem dX12_putAll_3 : decode cX12_putAll 3 = .ok (.iload 4, 2) := by decide +kernel
theorem dX12_putAll_5 : decode cX12_putAll 5 = .ok (.aload_n 0, 1) := by decide +kernel
theorem dX12_putAll_6 : decode cX12_putAll 6 = .ok (.getfield 22, 3) := by decide +kernel
