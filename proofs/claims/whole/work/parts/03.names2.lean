theorem dX10_init_13 : decode cX10_init 13 = .ok (.iconst 1, 1) := by decide +kernel
theorem dX10_init_14 : decode cX10_init 14 = .ok (.putfield 15, 3) := by decide +kernel
theorem dX10_init_17 : decode cX10_init 17 = .ok (.return_, 1) := by decide +kernel
set_option maxRecDepth 20000 in
theorem ggX10_make_J7_fill_53178 : GoodIn wsX10_make wsJ7_fill_53178 := goodIn_r _ [8] (by decide +kernel) (by decide +kernel)
set_option maxRecDepth 20000 in
theorem gX10_make_J7_fill_53178 : GoodIn wsX10_make (va_wsS RX10 26 yJ7_fill_53178 wsJ7_fill_53178) := goodIn_app (goodIn_of _ (by decide +kernel)) ggX10_make_J7_fill_53178
theorem dX10_make_0 : decode cX10_make 0 = .ok (.aload_n 0, 1) := by decide +kernel
theorem dX10_make_1 : decode cX10_make 1 = .ok (.iconst 0, 1) := by decide +kernel
theorem dX10_make_2 : decode cX10_make 2 = .ok (.putfield 15, 3) := by decide +kernel
theorem dX10_make_5 : decode cX10_make 5 = .ok (.aload_n 0, 1) := by decide +kernel
theorem dX10_make_6 : decode cX10_make 6 = .ok (.iload_n 1, 1) := by decide +kernel
theorem dX10_make_7 : decode cX10_make 7 = .ok (.putfield 19, 3) := by decide +kernel
theorem dX10_make_10 : decode cX10_make 10 = .ok (.aload_n 0, 1) := by decide +kernel
theorem dX10_make_11 : decode cX10_make 11 = .ok (.iload_n 2, 1) := by decide +kernel
theorem dX10_make_12 : decode cX10_make 12 = .ok (.putfield 23, 3) := by decide +kernel
theorem dX10_make_15 : decode cX10_make 15 = .ok (.aload_n 0, 1) := by decide +kernel
theorem dX10_make_16 : decode cX10_make 16 = .ok (.getfield 9, 3) := by decide +kernel
theorem dX10_make_19 : decode cX10_make 19 = .ok (.iconst 0, 1) := by decide +kernel
theorem dX10_make_20 : decode cX10_make 20 = .ok (.invokestatic 26, 3) := by decide +kernel
theorem dX10_make_23 : decode cX10_make 23 = .ok (.return_, 1) := by decide +kernel
theorem dX10_hasPlaces_0 : decode cX10_hasPlaces 0 = .ok (.iload_n 1, 1) := by decide +kernel
theorem dX10_hasPlaces_1 : decode cX10_hasPlaces 1 = .ok (.ifCond .lt 21, 3) := by decide +kernel
theorem dX10_hasPlaces_4 : decode cX10_hasPlaces 4 = .ok (.iload_n 2, 1) := by decide +kernel
theorem dX10_hasPlaces_5 : decode cX10_hasPlaces 5 = .ok (.ifCond .lt 17, 3) := by decide +kernel
theorem dX10_hasPlaces_8 : decode cX10_hasPlaces 8 = .ok (.iload_n 1, 1) := by decide +kernel
theorem dX10_hasPlaces_9 : decode cX10_hasPlaces 9 = .ok (.aload_n 0, 1) := by decide +kernel
theorem dX10_hasPlaces_10 : decode cX10_hasPlaces 10 = .ok (.getfield 23, 3) := by decide +kernel
theorem dX10_hasPlaces_13 : decode cX10_hasPlaces 13 = .ok (.iload_n 2, 1) := by decide +kernel
theorem dX10_hasPlaces_14 : decode cX10_hasPlaces 14 = .ok (.isub, 1) := by decide +kernel
theorem dX10_hasPlaces_15 : decode cX10_hasPlaces 15 = .ok (.if_icmp .gt 7, 3) := by decide +kernel
theorem dX10_hasPlaces_18 : decode cX10_hasPlaces 18 = .ok (.iconst 1, 1) := by decide +kernel
theorem dX10_hasPlaces_19 : decode cX10_hasPlaces 19 = .ok (.goto 4, 3) := by decide +kernel
theorem dX10_hasPlaces_22 : decode cX10_hasPlaces 22 = .ok (.iconst 0, 1) := by decide +kernel
theorem dX10_hasPlaces_23 : decode cX10_hasPlaces 23 = .ok (.ireturn, 1) := by decide +kernel
theorem dX10_fitted_0 : decode cX10_fitted 0 = .ok (.aload_n 0, 1) := by decide +kernel
theorem dX10_fitted_1 : decode cX10_fitted 1 = .ok (.getfield 19, 3) := by decide +kernel
theorem dX10_fitted_4 : decode cX10_fitted 4 = .ok (.lookupswitch 34 #[(0, 28), (1, 31)], 28) := by decide +kernel
theorem dX10_fitted_32 : decode cX10_fitted 32 = .ok (.iload_n 1, 1) := by decide +kernel
theorem dX10_fitted_33 : decode cX10_fitted 33 = .ok (.i2b, 1) := by decide +kernel
theorem dX10_fitted_34 : decode cX10_fitted 34 = .ok (.ireturn, 1) := by decide +kernel
theorem dX10_fitted_35 : decode cX10_fitted 35 = .ok (.iload_n 1, 1) := by decide +kernel
theorem dX10_fitted_36 : decode cX10_fitted 36 = .ok (.i2s, 1) := by decide +kernel
theorem dX10_fitted_37 : decode cX10_fitted 37 = .ok (.ireturn, 1) := by decide +kernel
theorem dX10_fitted_38 : decode cX10_fitted 38 = .ok (.iload_n 1, 1) := by decide +kernel
theorem dX10_fitted_39 : decode cX10_fitted 39 = .ok (.ireturn, 1) := by decide +kernel
set_option maxRecDepth 20000 in
theorem ggX11_init_X4_init : GoodIn wsX11_init wsX4_init := goodIn_r _ [33, 34, 2, 3, 17, 35, 36, 37, 38, 39, 40, 41, 67, 68, 69, 70, 71, 72, 73, 74] (by decide +kernel) (by decide +kernel)
set_option maxRecDepth 20000 in
theorem gX11_init_X4_init_n20 : GoodIn wsX11_init (wsX4_init) := ggX11_init_X4_init
set_option maxRecDepth 20000 in
theorem ggX11_init_X9_init : GoodIn wsX11_init wsX9_init := goodIn_r _ [43, 44, 2, 3, 17, 45, 36, 46, 75, 76, 77] (by decide +kernel) (by decide +kernel)
set_option maxRecDepth 20000 in
theorem gX11_init_X9_init_n58 : GoodIn wsX11_init (wsX9_init) := ggX11_init_X9_init
set_option maxRecDepth 20000 in
theorem ggX11_init_X10_init : GoodIn wsX11_init wsX10_init := goodIn_r _ [48, 49, 2, 3, 17, 50, 51, 78, 79, 80, 81] (by decide +kernel) (by decide +kernel)
set_option maxRecDepth 20000 in
theorem gX11_init_X10_init_n63 : GoodIn wsX11_init (wsX10_init) := ggX11_init_X10_init
theorem dX11_init_0 : decode cX11_init 0 = .ok (.aload_n 0, 1) := by decide +kernel
theorem dX11_init_1 : decode cX11_init 1 = .ok (.invokespecial 1, 3) := by decide +kernel
theorem dX11_init_4 : decode cX11_init 4 = .ok (.aload_n 0, 1) := by decide +kernel
theorem dX11_init_5 : decode cX11_init 5 = .ok (.bipush 9, 2) := by decide +kernel
theorem dX11_init_7 : decode cX11_init 7 = .ok (.anewarray 9, 3) := by decide +kernel
theorem dX11_init_10 : decode cX11_init 10 = .ok (.putfield 11, 3) := by decide +kernel
theorem dX11_init_13 : decode cX11_init 13 = .ok (.aload_n 0, 1) := by decide +kernel
theorem dX11_init_14 : decode cX11_init 14 = .ok (.bipush 9, 2) := by decide +kernel
theorem dX11_init_16 : decode cX11_init 16 = .ok (.anewarray 9, 3) := by decide +kernel
theorem dX11_init_19 : decode cX11_init 19 = .ok (.putfield 15, 3) := by decide +kernel
theorem dX11_init_22 : decode cX11_init 22 = .ok (.aload_n 0, 1) := by decide +kernel
theorem dX11_init_23 : decode cX11_init 23 = .ok (.new 18, 3) := by decide +kernel
theorem dX11_init_26 : decode cX11_init 26 = .ok (.dup, 1) := by decide +kernel
theorem dX11_init_27 : decode cX11_init 27 = .ok (.invokespecial 20, 3) := by decide +kernel
theorem dX11_init_30 : decode cX11_init 30 = .ok (.putfield 21, 3) := by decide +kernel
theorem dX11_init_33 : decode cX11_init 33 = .ok (.aload_n 0, 1) := by decide +kernel
theorem dX11_init_34 : decode cX11_init 34 = .ok (.bipush 8, 2) := by decide +kernel
theorem dX11_init_36 : decode cX11_init 36 = .ok (.anewarray 25, 3) := by decide +kernel
theorem dX11_init_39 : decode cX11_init 39 = .ok (.putfield 27, 3) := by decide +kernel
theorem dX11_init_42 : decode cX11_init 42 = .ok (.aload_n 0, 1) := by decide +kernel
theorem dX11_init_43 : decode cX11_init 43 = .ok (.bipush 40, 2) := by decide +kernel
theorem dX11_init_45 : decode cX11_init 45 = .ok (.anewarray 31, 3) := by decide +kernel
theorem dX11_init_48 : decode cX11_init 48 = .ok (.putfield 33, 3) := by decide +kernel
theorem dX11_init_51 : decode cX11_init 51 = .ok (.aload_n 0, 1) := by decide +kernel
theorem dX11_init_52 : decode cX11_init 52 = .ok (.ldc 37, 2) := by decide +kernel
theorem dX11_init_54 : decode cX11_init 54 = .ok (.putfield 38, 3) := by decide +kernel
theorem dX11_init_57 : decode cX11_init 57 = .ok (.aload_n 0, 1) := by decide +kernel
theorem dX11_init_58 : decode cX11_init 58 = .ok (.bipush 16, 2) := by decide +kernel
theorem dX11_init_60 : decode cX11_init 60 = .ok (.newarray .int, 2) := by decide +kernel
theorem dX11_init_62 : decode cX11_init 62 = .ok (.putfield 42, 3) := by decide +kernel
theorem dX11_init_65 : decode cX11_init 65 = .ok (.aload_n 0, 1) := by decide +kernel
theorem dX11_init_66 : decode cX11_init 66 = .ok (.iconst 1, 1) := by decide +kernel
theorem dX11_init_67 : decode cX11_init 67 = .ok (.iconst 4, 1) := by decide +kernel
theorem dX11_init_68 : decode cX11_init 68 = .ok (.iload_n 1, 1) := by decide +kernel
theorem dX11_init_69 : decode cX11_init 69 = .ok (.invokestatic 46, 3) := by decide +kernel
theorem dX11_init_72 : decode cX11_init 72 = .ok (.invokestatic 52, 3) := by decide +kernel
theorem dX11_init_75 : decode cX11_init 75 = .ok (.putfield 55, 3) := by decide +kernel
theorem dX11_init_78 : decode cX11_init 78 = .ok (.aload_n 0, 1) := by decide +kernel
theorem dX11_init_79 : decode cX11_init 79 = .ok (.new 9, 3) := by decide +kernel
theorem dX11_init_82 : decode cX11_init 82 = .ok (.dup, 1) := by decide +kernel
theorem dX11_init_83 : decode cX11_init 83 = .ok (.invokespecial 58, 3) := by decide +kernel
theorem dX11_init_86 : decode cX11_init 86 = .ok (.putfield 59, 3) := by decide +kernel
theorem dX11_init_89 : decode cX11_init 89 = .ok (.aload_n 0, 1) := by decide +kernel
theorem dX11_init_90 : decode cX11_init 90 = .ok (.getfield 11, 3) := by decide +kernel
theorem dX11_init_93 : decode cX11_init 93 = .ok (.iconst 0, 1) := by decide +kernel
theorem dX11_init_94 : decode cX11_init 94 = .ok (.aload_n 0, 1) := by decide +kernel
theorem dX11_init_95 : decode cX11_init 95 = .ok (.getfield 59, 3) := by decide +kernel
theorem dX11_init_98 : decode cX11_init 98 = .ok (.aastore, 1) := by decide +kernel
theorem dX11_init_99 : decode cX11_init 99 = .ok (.iconst 1, 1) := by decide +kernel
theorem dX11_init_100 : decode cX11_init 100 = .ok (.istore_n 2, 1) := by decide +kernel
theorem dX11_init_101 : decode cX11_init 101 = .ok (.iload_n 2, 1) := by decide +kernel
theorem dX11_init_102 : decode cX11_init 102 = .ok (.aload_n 0, 1) := by decide +kernel
theorem dX11_init_103 : decode cX11_init 103 = .ok (.getfield 11, 3) := by decide +kernel
theorem dX11_init_106 : decode cX11_init 106 = .ok (.arraylength, 1) := by decide +kernel
theorem dX11_init_107 : decode cX11_init 107 = .ok (.if_icmp .ge 22, 3) := by decide +kernel
theorem dX11_init_110 : decode cX11_init 110 = .ok (.aload_n 0, 1) := by decide +kernel
theorem dX11_init_111 : decode cX11_init 111 = .ok (.getfield 11, 3) := by decide +kernel
theorem dX11_init_114 : decode cX11_init 114 = .ok (.iload_n 2, 1) := by decide +kernel
theorem dX11_init_115 : decode cX11_init 115 = .ok (.new 9, 3) := by decide +kernel
theorem dX11_init_118 : decode cX11_init 118 = .ok (.dup, 1) := by decide +kernel
theorem dX11_init_119 : decode cX11_init 119 = .ok (.invokespecial 58, 3) := by decide +kernel
theorem dX11_init_122 : decode cX11_init 122 = .ok (.aastore, 1) := by decide +kernel
theorem dX11_init_123 : decode cX11_init 123 = .ok (.iinc 2 1, 3) := by decide +kernel
theorem dX11_init_126 : decode cX11_init 126 = .ok (.goto (-25), 3) := by decide +kernel
theorem dX11_init_129 : decode cX11_init 129 = .ok (.iconst 0, 1) := by decide +kernel
theorem dX11_init_130 : decode cX11_init 130 = .ok (.istore_n 2, 1) := by decide +kernel
theorem dX11_init_131 : decode cX11_init 131 = .ok (.iload_n 2, 1) := by decide +kernel
theorem dX11_init_132 : decode cX11_init 132 = .ok (.aload_n 0, 1) := by decide +kernel
theorem dX11_init_133 : decode cX11_init 133 = .ok (.getfield 15, 3) := by decide +kernel
theorem dX11_init_136 : decode cX11_init 136 = .ok (.arraylength, 1) := by decide +kernel
theorem dX11_init_137 : decode cX11_init 137 = .ok (.if_icmp .ge 22, 3) := by decide +kernel
theorem dX11_init_140 : decode cX11_init 140 = .ok (.aload_n 0, 1) := by decide +kernel
theorem dX11_init_141 : decode cX11_init 141 = .ok (.getfield 15, 3) := by decide +kernel
theorem dX11_init_144 : decode cX11_init 144 = .ok (.iload_n 2, 1) := by decide +kernel
theorem dX11_init_145 : decode cX11_init 145 = .ok (.new 9, 3) := by decide +kernel
theorem dX11_init_148 : decode cX11_init 148 = .ok (.dup, 1) := by decide +kernel
theorem dX11_init_149 : decode cX11_init 149 = .ok (.invokespecial 58, 3) := by decide +kernel
theorem dX11_init_152 : decode cX11_init 152 = .ok (.aastore, 1) := by decide +kernel
theorem dX11_init_153 : decode cX11_init 153 = .ok (.iinc 2 1, 3) := by decide +kernel
theorem dX11_init_156 : decode cX11_init 156 = .ok (.goto (-25), 3) := by decide +kernel
theorem dX11_init_159 : decode cX11_init 159 = .ok (.iconst 0, 1) := by decide +kernel
theorem dX11_init_160 : decode cX11_init 160 = .ok (.istore_n 2, 1) := by decide +kernel
theorem dX11_init_161 : decode cX11_init 161 = .ok (.iload_n 2, 1) := by decide +kernel
theorem dX11_init_162 : decode cX11_init 162 = .ok (.bipush 8, 2) := by decide +kernel
theorem dX11_init_164 : decode cX11_init 164 = .ok (.if_icmp .ge 22, 3) := by decide +kernel
theorem dX11_init_167 : decode cX11_init 167 = .ok (.aload_n 0, 1) := by decide +kernel
theorem dX11_init_168 : decode cX11_init 168 = .ok (.getfield 27, 3) := by decide +kernel
theorem dX11_init_171 : decode cX11_init 171 = .ok (.iload_n 2, 1) := by decide +kernel
theorem dX11_init_172 : decode cX11_init 172 = .ok (.new 25, 3) := by decide +kernel
theorem dX11_init_175 : decode cX11_init 175 = .ok (.dup, 1) := by decide +kernel
theorem dX11_init_176 : decode cX11_init 176 = .ok (.invokespecial 63, 3) := by decide +kernel
theorem dX11_init_179 : decode cX11_init 179 = .ok (.aastore, 1) := by decide +kernel
theorem dX11_init_180 : decode cX11_init 180 = .ok (.iinc 2 1, 3) := by decide +kernel
theorem dX11_init_183 : decode cX11_init 183 = .ok (.goto (-22), 3) := by decide +kernel
theorem dX11_init_186 : decode cX11_init 186 = .ok (.return_, 1) := by decide +kernel
set_option maxRecDepth 20000 in
theorem ggX11_table_X11_tableAt : GoodIn wsX11_table wsX11_tableAt := goodIn_r _ [6, 7, 8, 9, 5, 10, 33, 34, 35, 36, 37, 38, 39, 40, 41, 42, 43, 44, 45, 46, 47] (by decide +kernel) (by decide +kernel)
set_option maxRecDepth 20000 in
theorem gX11_table_X11_tableAt : GoodIn wsX11_table (wsV RX11 64 RX11 yX11_tableAt wsX11_tableAt) := goodIn_app (goodIn_of _ (by decide +kernel)) ggX11_table_X11_tableAt
set_option maxRecDepth 20000 in
theorem ggX11_table_X11_within : GoodIn wsX11_table wsX11_within := goodIn_r _ [10] (by decide +kernel) (by decide +kernel)
set_option maxRecDepth 20000 in
theorem gX11_table_X11_within : GoodIn wsX11_table (va_wsS RX11 68 yX11_within wsX11_within) := goodIn_app (goodIn_of _ (by decide +kernel)) ggX11_table_X11_within
set_option maxRecDepth 20000 in
theorem ggX11_table_X11_found : GoodIn wsX11_table wsX11_found := goodIn_r _ [14, 15, 16, 33, 34, 35, 36, 37, 38, 39, 40, 41, 42, 43, 44, 45, 46, 47] (by decide +kernel) (by decide +kernel)
set_option maxRecDepth 20000 in
theorem gX11_table_X11_found : GoodIn wsX11_table (wsV RX11 73 RX11 yX11_found wsX11_found) := goodIn_app (goodIn_of _ (by decide +kernel)) ggX11_table_X11_found
set_option maxRecDepth 20000 in
theorem ggX11_table_X10_make : GoodIn wsX11_table wsX10_make := goodIn_r _ [20, 21, 22, 23, 24, 25, 26, 27, 28, 48, 49, 50, 51] (by decide +kernel) (by decide +kernel)
set_option maxRecDepth 20000 in
theorem gX11_table_X10_make_n77 : GoodIn wsX11_table (wsX10_make) := ggX11_table_X10_make
set_option maxRecDepth 20000 in
theorem ggX11_table_X11_notFound : GoodIn wsX11_table wsX11_notFound := goodIn_r _ [32, 15, 33, 34, 35, 36, 37, 38, 39, 40, 41, 42, 43, 44, 45, 46, 47] (by decide +kernel) (by decide +kernel)
set_option maxRecDepth 20000 in
theorem gX11_table_X11_notFound : GoodIn wsX11_table (wsV RX11 81 RX11 yX11_notFound wsX11_notFound) := goodIn_app (goodIn_of _ (by decide +kernel)) ggX11_table_X11_notFound
theorem dX11_table_0 : decode cX11_table 0 = .ok (.aload_n 0, 1) := by decide +kernel
theorem dX11_table_1 : decode cX11_table 1 = .ok (.iload_n 1, 1) := by decide +kernel
theorem dX11_table_2 : decode cX11_table 2 = .ok (.invokevirtual 64, 3) := by decide +kernel
theorem dX11_table_5 : decode cX11_table 5 = .ok (.astore 4, 2) := by decide +kernel
theorem dX11_table_7 : decode cX11_table 7 = .ok (.aload 4, 2) := by decide +kernel
theorem dX11_table_9 : decode cX11_table 9 = .ok (.ifnull 18, 3) := by decide +kernel
theorem dX11_table_12 : decode cX11_table 12 = .ok (.iload_n 2, 1) := by decide +kernel
theorem dX11_table_13 : decode cX11_table 13 = .ok (.iconst 0, 1) := by decide +kernel
theorem dX11_table_14 : decode cX11_table 14 = .ok (.iconst 2, 1) := by decide +kernel
theorem dX11_table_15 : decode cX11_table 15 = .ok (.invokestatic 68, 3) := by decide +kernel
theorem dX11_table_18 : decode cX11_table 18 = .ok (.ifCond .eq 9, 3) := by decide +kernel
theorem dX11_table_21 : decode cX11_table 21 = .ok (.iload_n 3, 1) := by decide +kernel
theorem dX11_table_22 : decode cX11_table 22 = .ok (.bipush 60, 2) := by decide +kernel
theorem dX11_table_24 : decode cX11_table 24 = .ok (.if_icmp .le 6, 3) := by decide +kernel
theorem dX11_table_27 : decode cX11_table 27 = .ok (.ldc 72, 2) := by decide +kernel
theorem dX11_table_29 : decode cX11_table 29 = .ok (.ireturn, 1) := by decide +kernel
theorem dX11_table_30 : decode cX11_table 30 = .ok (.iload_n 3, 1) := by decide +kernel
theorem dX11_table_31 : decode cX11_table 31 = .ok (.ifCond .ge 9, 3) := by decide +kernel
theorem dX11_table_34 : decode cX11_table 34 = .ok (.aload_n 0, 1) := by decide +kernel
theorem dX11_table_35 : decode cX11_table 35 = .ok (.iconst 4, 1) := by decide +kernel
theorem dX11_table_36 : decode cX11_table 36 = .ok (.invokevirtual 73, 3) := by decide +kernel
theorem dX11_table_39 : decode cX11_table 39 = .ok (.ireturn, 1) := by decide +kernel
theorem dX11_table_40 : decode cX11_table 40 = .ok (.aload 4, 2) := by decide +kernel
theorem dX11_table_42 : decode cX11_table 42 = .ok (.iload_n 2, 1) := by decide +kernel
theorem dX11_table_43 : decode cX11_table 43 = .ok (.iload_n 3, 1) := by decide +kernel
theorem dX11_table_44 : decode cX11_table 44 = .ok (.invokevirtual 77, 3) := by decide +kernel
theorem dX11_table_47 : decode cX11_table 47 = .ok (.aload_n 0, 1) := by decide +kernel
theorem dX11_table_48 : decode cX11_table 48 = .ok (.iload_n 3, 1) := by decide +kernel
theorem dX11_table_49 : decode cX11_table 49 = .ok (.invokevirtual 81, 3) := by decide +kernel
theorem dX11_table_52 : decode cX11_table 52 = .ok (.ireturn, 1) := by decide +kernel
set_option maxRecDepth 20000 in
theorem ggX11_set_X11_tableAt : GoodIn wsX11_set wsX11_tableAt := goodIn_r _ [6, 7, 8, 9, 5, 10, 34, 35, 36, 37, 38, 39, 40, 41, 42, 43, 44, 45, 46, 47, 48] (by decide +kernel) (by decide +kernel)
set_option maxRecDepth 20000 in
theorem gX11_set_X11_tableAt : GoodIn wsX11_set (wsV RX11 64 RX11 yX11_tableAt wsX11_tableAt) := goodIn_app (goodIn_of _ (by decide +kernel)) ggX11_set_X11_tableAt
set_option maxRecDepth 20000 in
theorem ggX11_set_X11_found : GoodIn wsX11_set wsX11_found := goodIn_r _ [14, 15, 16, 34, 35, 36, 37, 38, 39, 40, 41, 42, 43, 44, 45, 46, 47, 48] (by decide +kernel) (by decide +kernel)
set_option maxRecDepth 20000 in
theorem gX11_set_X11_found : GoodIn wsX11_set (wsV RX11 73 RX11 yX11_found wsX11_found) := goodIn_app (goodIn_of _ (by decide +kernel)) ggX11_set_X11_found
set_option maxRecDepth 20000 in
theorem ggX11_set_X10_hasPlaces : GoodIn wsX11_set wsX10_hasPlaces := goodIn_r _ [20, 21, 30, 31, 32, 33] (by decide +kernel) (by decide +kernel)
set_option maxRecDepth 20000 in
theorem gX11_set_X10_hasPlaces_n88 : GoodIn wsX11_set (wsX10_hasPlaces) := ggX11_set_X10_hasPlaces
set_option maxRecDepth 20000 in
theorem ggX11_set_X10_fitted : GoodIn wsX11_set wsX10_fitted := goodIn_r _ [24, 25, 30, 31, 32, 33] (by decide +kernel) (by decide +kernel)
set_option maxRecDepth 20000 in
theorem gX11_set_X10_fitted_n95 : GoodIn wsX11_set (wsX10_fitted) := ggX11_set_X10_fitted
set_option maxRecDepth 20000 in
theorem ggX11_set_X11_notFound : GoodIn wsX11_set wsX11_notFound := goodIn_r _ [29, 15, 34, 35, 36, 37, 38, 39, 40, 41, 42, 43, 44, 45, 46, 47, 48] (by decide +kernel) (by decide +kernel)
set_option maxRecDepth 20000 in
theorem gX11_set_X11_notFound : GoodIn wsX11_set (wsV RX11 81 RX11 yX11_notFound wsX11_notFound) := goodIn_app (goodIn_of _ (by decide +kernel)) ggX11_set_X11_notFound
theorem dX11_set_0 : decode cX11_set 0 = .ok (.aload_n 0, 1) := by decide +kernel
theorem dX11_set_1 : decode cX11_set 1 = .ok (.iload_n 1, 1) := by decide +kernel
theorem dX11_set_2 : decode cX11_set 2 = .ok (.invokevirtual 64, 3) := by decide +kernel
theorem dX11_set_5 : decode cX11_set 5 = .ok (.astore 4, 2) := by decide +kernel
theorem dX11_set_7 : decode cX11_set 7 = .ok (.aload 4, 2) := by decide +kernel
theorem dX11_set_9 : decode cX11_set 9 = .ok (.ifnonnull 6, 3) := by decide +kernel
theorem dX11_set_12 : decode cX11_set 12 = .ok (.ldc 72, 2) := by decide +kernel
theorem dX11_set_14 : decode cX11_set 14 = .ok (.ireturn, 1) := by decide +kernel
theorem dX11_set_15 : decode cX11_set 15 = .ok (.aload 4, 2) := by decide +kernel
theorem dX11_set_17 : decode cX11_set 17 = .ok (.getfield 84, 3) := by decide +kernel
theorem dX11_set_20 : decode cX11_set 20 = .ok (.ifCond .eq 9, 3) := by decide +kernel
theorem dX11_set_23 : decode cX11_set 23 = .ok (.aload_n 0, 1) := by decide +kernel
theorem dX11_set_24 : decode cX11_set 24 = .ok (.iconst 1, 1) := by decide +kernel
theorem dX11_set_25 : decode cX11_set 25 = .ok (.invokevirtual 73, 3) := by decide +kernel
theorem dX11_set_28 : decode cX11_set 28 = .ok (.ireturn, 1) := by decide +kernel
theorem dX11_set_29 : decode cX11_set 29 = .ok (.aload 4, 2) := by decide +kernel
theorem dX11_set_31 : decode cX11_set 31 = .ok (.iload_n 2, 1) := by decide +kernel
theorem dX11_set_32 : decode cX11_set 32 = .ok (.iconst 1, 1) := by decide +kernel
theorem dX11_set_33 : decode cX11_set 33 = .ok (.invokevirtual 88, 3) := by decide +kernel
theorem dX11_set_36 : decode cX11_set 36 = .ok (.ifCond .ne 9, 3) := by decide +kernel
theorem dX11_set_39 : decode cX11_set 39 = .ok (.aload_n 0, 1) := by decide +kernel
theorem dX11_set_40 : decode cX11_set 40 = .ok (.iconst 2, 1) := by decide +kernel
theorem dX11_set_41 : decode cX11_set 41 = .ok (.invokevirtual 73, 3) := by decide +kernel
theorem dX11_set_44 : decode cX11_set 44 = .ok (.ireturn, 1) := by decide +kernel
theorem dX11_set_45 : decode cX11_set 45 = .ok (.aload 4, 2) := by decide +kernel
theorem dX11_set_47 : decode cX11_set 47 = .ok (.getfield 92, 3) := by decide +kernel
theorem dX11_set_50 : decode cX11_set 50 = .ok (.iload_n 2, 1) := by decide +kernel
theorem dX11_set_51 : decode cX11_set 51 = .ok (.aload 4, 2) := by decide +kernel
theorem dX11_set_53 : decode cX11_set 53 = .ok (.iload_n 3, 1) := by decide +kernel
theorem dX11_set_54 : decode cX11_set 54 = .ok (.invokevirtual 95, 3) := by decide +kernel
theorem dX11_set_57 : decode cX11_set 57 = .ok (.iastore, 1) := by decide +kernel
theorem dX11_set_58 : decode cX11_set 58 = .ok (.aload_n 0, 1) := by decide +kernel
theorem dX11_set_59 : decode cX11_set 59 = .ok (.aload 4, 2) := by decide +kernel
theorem dX11_set_61 : decode cX11_set 61 = .ok (.getfield 92, 3) := by decide +kernel
theorem dX11_set_64 : decode cX11_set 64 = .ok (.iload_n 2, 1) := by decide +kernel
theorem dX11_set_65 : decode cX11_set 65 = .ok (.iaload, 1) := by decide +kernel
theorem dX11_set_66 : decode cX11_set 66 = .ok (.invokevirtual 81, 3) := by decide +kernel
theorem dX11_set_69 : decode cX11_set 69 = .ok (.ireturn, 1) := by decide +kernel
set_option maxRecDepth 20000 in
theorem ggX11_copy_X11_tableAt : GoodIn wsX11_copy wsX11_tableAt := goodIn_r _ [10, 11, 12, 13, 9, 14, 34, 35, 36, 37, 38, 39, 40, 41, 42, 43, 44, 45, 46, 47, 48] (by decide +kernel) (by decide +kernel)
set_option maxRecDepth 20000 in
theorem gX11_copy_X11_tableAt : GoodIn wsX11_copy (wsV RX11 64 RX11 yX11_tableAt wsX11_tableAt) := goodIn_app (goodIn_of _ (by decide +kernel)) ggX11_copy_X11_tableAt
set_option maxRecDepth 20000 in
theorem ggX11_copy_X11_found : GoodIn wsX11_copy wsX11_found := goodIn_r _ [18, 19, 20, 34, 35, 36, 37, 38, 39, 40, 41, 42, 43, 44, 45, 46, 47, 48] (by decide +kernel) (by decide +kernel)
set_option maxRecDepth 20000 in
theorem gX11_copy_X11_found : GoodIn wsX11_copy (wsV RX11 73 RX11 yX11_found wsX11_found) := goodIn_app (goodIn_of _ (by decide +kernel)) ggX11_copy_X11_found
set_option maxRecDepth 20000 in
theorem ggX11_copy_X10_hasPlaces : GoodIn wsX11_copy wsX10_hasPlaces := goodIn_r _ [24, 25, 30, 31, 32, 33] (by decide +kernel) (by decide +kernel)
set_option maxRecDepth 20000 in
theorem gX11_copy_X10_hasPlaces_n88 : GoodIn wsX11_copy (wsX10_hasPlaces) := ggX11_copy_X10_hasPlaces
set_option maxRecDepth 20000 in
theorem ggX11_copy_X11_notFound : GoodIn wsX11_copy wsX11_notFound := goodIn_r _ [29, 19, 34, 35, 36, 37, 38, 39, 40, 41, 42, 43, 44, 45, 46, 47, 48] (by decide +kernel) (by decide +kernel)
set_option maxRecDepth 20000 in
theorem gX11_copy_X11_notFound : GoodIn wsX11_copy (wsV RX11 81 RX11 yX11_notFound wsX11_notFound) := goodIn_app (goodIn_of _ (by decide +kernel)) ggX11_copy_X11_notFound
theorem dX11_copy_0 : decode cX11_copy 0 = .ok (.aload_n 0, 1) := by decide +kernel
theorem dX11_copy_1 : decode cX11_copy 1 = .ok (.iload_n 1, 1) := by decide +kernel
theorem dX11_copy_2 : decode cX11_copy 2 = .ok (.invokevirtual 64, 3) := by decide +kernel
theorem dX11_copy_5 : decode cX11_copy 5 = .ok (.astore 6, 2) := by decide +kernel
theorem dX11_copy_7 : decode cX11_copy 7 = .ok (.aload_n 0, 1) := by decide +kernel
theorem dX11_copy_8 : decode cX11_copy 8 = .ok (.iload_n 3, 1) := by decide +kernel
theorem dX11_copy_9 : decode cX11_copy 9 = .ok (.invokevirtual 64, 3) := by decide +kernel
theorem dX11_copy_12 : decode cX11_copy 12 = .ok (.astore 7, 2) := by decide +kernel
theorem dX11_copy_14 : decode cX11_copy 14 = .ok (.aload 6, 2) := by decide +kernel
theorem dX11_copy_16 : decode cX11_copy 16 = .ok (.ifnull 8, 3) := by decide +kernel
theorem dX11_copy_19 : decode cX11_copy 19 = .ok (.aload 7, 2) := by decide +kernel
theorem dX11_copy_21 : decode cX11_copy 21 = .ok (.ifnonnull 6, 3) := by decide +kernel
theorem dX11_copy_24 : decode cX11_copy 24 = .ok (.ldc 72, 2) := by decide +kernel
theorem dX11_copy_26 : decode cX11_copy 26 = .ok (.ireturn, 1) := by decide +kernel
theorem dX11_copy_27 : decode cX11_copy 27 = .ok (.aload 6, 2) := by decide +kernel
theorem dX11_copy_29 : decode cX11_copy 29 = .ok (.getfield 84, 3) := by decide +kernel
theorem dX11_copy_32 : decode cX11_copy 32 = .ok (.ifCond .ne 11, 3) := by decide +kernel
theorem dX11_copy_35 : decode cX11_copy 35 = .ok (.aload 7, 2) := by decide +kernel
theorem dX11_copy_37 : decode cX11_copy 37 = .ok (.getfield 84, 3) := by decide +kernel
theorem dX11_copy_40 : decode cX11_copy 40 = .ok (.ifCond .eq 9, 3) := by decide +kernel
theorem dX11_copy_43 : decode cX11_copy 43 = .ok (.aload_n 0, 1) := by decide +kernel
theorem dX11_copy_44 : decode cX11_copy 44 = .ok (.iconst 1, 1) := by decide +kernel
theorem dX11_copy_45 : decode cX11_copy 45 = .ok (.invokevirtual 73, 3) := by decide +kernel
theorem dX11_copy_48 : decode cX11_copy 48 = .ok (.ireturn, 1) := by decide +kernel
theorem dX11_copy_49 : decode cX11_copy 49 = .ok (.aload 6, 2) := by decide +kernel
theorem dX11_copy_51 : decode cX11_copy 51 = .ok (.getfield 98, 3) := by decide +kernel
theorem dX11_copy_54 : decode cX11_copy 54 = .ok (.aload 7, 2) := by decide +kernel
theorem dX11_copy_56 : decode cX11_copy 56 = .ok (.getfield 98, 3) := by decide +kernel
theorem dX11_copy_59 : decode cX11_copy 59 = .ok (.if_icmp .eq 9, 3) := by decide +kernel
theorem dX11_copy_62 : decode cX11_copy 62 = .ok (.aload_n 0, 1) := by decide +kernel
theorem dX11_copy_63 : decode cX11_copy 63 = .ok (.iconst 5, 1) := by decide +kernel
theorem dX11_copy_64 : decode cX11_copy 64 = .ok (.invokevirtual 73, 3) := by decide +kernel
theorem dX11_copy_67 : decode cX11_copy 67 = .ok (.ireturn, 1) := by decide +kernel
theorem dX11_copy_68 : decode cX11_copy 68 = .ok (.aload 6, 2) := by decide +kernel
theorem dX11_copy_70 : decode cX11_copy 70 = .ok (.iload_n 2, 1) := by decide +kernel
theorem dX11_copy_71 : decode cX11_copy 71 = .ok (.iload 5, 2) := by decide +kernel
theorem dX11_copy_73 : decode cX11_copy 73 = .ok (.invokevirtual 88, 3) := by decide +kernel
theorem dX11_copy_76 : decode cX11_copy 76 = .ok (.ifCond .eq 15, 3) := by decide +kernel
theorem dX11_copy_79 : decode cX11_copy 79 = .ok (.aload 7, 2) := by decide +kernel
theorem dX11_copy_81 : decode cX11_copy 81 = .ok (.iload 4, 2) := by decide +kernel
theorem dX11_copy_83 : decode cX11_copy 83 = .ok (.iload 5, 2) := by decide +kernel
theorem dX11_copy_85 : decode cX11_copy 85 = .ok (.invokevirtual 88, 3) := by decide +kernel
theorem dX11_copy_88 : decode cX11_copy 88 = .ok (.ifCond .ne 9, 3) := by decide +kernel
theorem dX11_copy_91 : decode cX11_copy 91 = .ok (.aload_n 0, 1) := by decide +kernel
theorem dX11_copy_92 : decode cX11_copy 92 = .ok (.iconst 2, 1) := by decide +kernel
theorem dX11_copy_93 : decode cX11_copy 93 = .ok (.invokevirtual 73, 3) := by decide +kernel
theorem dX11_copy_96 : decode cX11_copy 96 = .ok (.ireturn, 1) := by decide +kernel
theorem dX11_copy_97 : decode cX11_copy 97 = .ok (.aload 6, 2) := by decide +kernel
theorem dX11_copy_99 : decode cX11_copy 99 = .ok (.getfield 92, 3) := by decide +kernel
theorem dX11_copy_102 : decode cX11_copy 102 = .ok (.iload_n 2, 1) := by decide +kernel
theorem dX11_copy_103 : decode cX11_copy 103 = .ok (.aload 7, 2) := by decide +kernel
theorem dX11_copy_105 : decode cX11_copy 105 = .ok (.getfield 92, 3) := by decide +kernel
theorem dX11_copy_108 : decode cX11_copy 108 = .ok (.iload 4, 2) := by decide +kernel
theorem dX11_copy_110 : decode cX11_copy 110 = .ok (.iload 5, 2) := by decide +kernel
theorem dX11_copy_112 : decode cX11_copy 112 = .ok (.invokestatic 101, 3) := by decide +kernel
theorem dX11_copy_115 : decode cX11_copy 115 = .ok (.aload_n 0, 1) := by decide +kernel
theorem dX11_copy_116 : decode cX11_copy 116 = .ok (.iload 5, 2) := by decide +kernel
theorem dX11_copy_118 : decode cX11_copy 118 = .ok (.invokevirtual 81, 3) := by decide +kernel
theorem dX11_copy_121 : decode cX11_copy 121 = .ok (.ireturn, 1) := by decide +kernel
set_option maxRecDepth 20000 in
theorem ggX11_drop_X11_tableAt : GoodIn wsX11_drop wsX11_tableAt := goodIn_r _ [6, 7, 8, 9, 5, 10, 25, 26, 27, 28, 29, 30, 31, 32, 33, 34, 35, 36, 37, 38, 39] (by decide +kernel) (by decide +kernel)
set_option maxRecDepth 20000 in
theorem gX11_drop_X11_tableAt : GoodIn wsX11_drop (wsV RX11 64 RX11 yX11_tableAt wsX11_tableAt) := goodIn_app (goodIn_of _ (by decide +kernel)) ggX11_drop_X11_tableAt
set_option maxRecDepth 20000 in
theorem ggX11_drop_X11_found : GoodIn wsX11_drop wsX11_found := goodIn_r _ [14, 15, 16, 25, 26, 27, 28, 29, 30, 31, 32, 33, 34, 35, 36, 37, 38, 39] (by decide +kernel) (by decide +kernel)
set_option maxRecDepth 20000 in
theorem gX11_drop_X11_found : GoodIn wsX11_drop (wsV RX11 73 RX11 yX11_found wsX11_found) := goodIn_app (goodIn_of _ (by decide +kernel)) ggX11_drop_X11_found
set_option maxRecDepth 20000 in
theorem ggX11_drop_X11_notFound : GoodIn wsX11_drop wsX11_notFound := goodIn_r _ [20, 15, 25, 26, 27, 28, 29, 30, 31, 32, 33, 34, 35, 36, 37, 38, 39] (by decide +kernel) (by decide +kernel)
set_option maxRecDepth 20000 in
theorem gX11_drop_X11_notFound : GoodIn wsX11_drop (wsV RX11 81 RX11 yX11_notFound wsX11_notFound) := goodIn_app (goodIn_of _ (by decide +kernel)) ggX11_drop_X11_notFound
theorem dX11_drop_0 : decode cX11_drop 0 = .ok (.aload_n 0, 1) := by decide +kernel
theorem dX11_drop_1 : decode cX11_drop 1 = .ok (.iload_n 1, 1) := by decide +kernel
theorem dX11_drop_2 : decode cX11_drop 2 = .ok (.invokevirtual 64, 3) := by decide +kernel
theorem dX11_drop_5 : decode cX11_drop 5 = .ok (.astore_n 2, 1) := by decide +kernel
theorem dX11_drop_6 : decode cX11_drop 6 = .ok (.aload_n 2, 1) := by decide +kernel
theorem dX11_drop_7 : decode cX11_drop 7 = .ok (.ifnonnull 6, 3) := by decide +kernel
theorem dX11_drop_10 : decode cX11_drop 10 = .ok (.ldc 72, 2) := by decide +kernel
theorem dX11_drop_12 : decode cX11_drop 12 = .ok (.ireturn, 1) := by decide +kernel
theorem dX11_drop_13 : decode cX11_drop 13 = .ok (.aload_n 2, 1) := by decide +kernel
theorem dX11_drop_14 : decode cX11_drop 14 = .ok (.getfield 84, 3) := by decide +kernel
theorem dX11_drop_17 : decode cX11_drop 17 = .ok (.ifCond .eq 9, 3) := by decide +kernel
theorem dX11_drop_20 : decode cX11_drop 20 = .ok (.aload_n 0, 1) := by decide +kernel
theorem dX11_drop_21 : decode cX11_drop 21 = .ok (.iconst 1, 1) := by decide +kernel
theorem dX11_drop_22 : decode cX11_drop 22 = .ok (.invokevirtual 73, 3) := by decide +kernel
theorem dX11_drop_25 : decode cX11_drop 25 = .ok (.ireturn, 1) := by decide +kernel
theorem dX11_drop_26 : decode cX11_drop 26 = .ok (.aload_n 2, 1) := by decide +kernel
theorem dX11_drop_27 : decode cX11_drop 27 = .ok (.iconst 1, 1) := by decide +kernel
theorem dX11_drop_28 : decode cX11_drop 28 = .ok (.putfield 84, 3) := by decide +kernel
theorem dX11_drop_31 : decode cX11_drop 31 = .ok (.aload_n 0, 1) := by decide +kernel
theorem dX11_drop_32 : decode cX11_drop 32 = .ok (.aload_n 2, 1) := by decide +kernel
theorem dX11_drop_33 : decode cX11_drop 33 = .ok (.getfield 107, 3) := by decide +kernel
theorem dX11_drop_36 : decode cX11_drop 36 = .ok (.invokevirtual 81, 3) := by decide +kernel
theorem dX11_drop_39 : decode cX11_drop 39 = .ok (.ireturn, 1) := by decide +kernel
set_option maxRecDepth 20000 in
theorem ggX11_clear_X11_sumAt : GoodIn wsX11_clear wsX11_sumAt := goodIn_r _ [6, 7, 8, 9, 5, 10, 14, 15, 16, 17, 18, 19, 20, 21, 22, 23, 24, 25, 26, 27, 28] (by decide +kernel) (by decide +kernel)
set_option maxRecDepth 20000 in
theorem gX11_clear_X11_sumAt : GoodIn wsX11_clear (wsV RX11 110 RX11 yX11_sumAt wsX11_sumAt) := goodIn_app (goodIn_of _ (by decide +kernel)) ggX11_clear_X11_sumAt
theorem dX11_clear_0 : decode cX11_clear 0 = .ok (.aload_n 0, 1) := by decide +kernel
theorem dX11_clear_1 : decode cX11_clear 1 = .ok (.iload_n 1, 1) := by decide +kernel
theorem dX11_clear_2 : decode cX11_clear 2 = .ok (.invokevirtual 110, 3) := by decide +kernel
theorem dX11_clear_5 : decode cX11_clear 5 = .ok (.astore_n 2, 1) := by decide +kernel
theorem dX11_clear_6 : decode cX11_clear 6 = .ok (.aload_n 2, 1) := by decide +kernel
theorem dX11_clear_7 : decode cX11_clear 7 = .ok (.ifnonnull 6, 3) := by decide +kernel
theorem dX11_clear_10 : decode cX11_clear 10 = .ok (.ldc 72, 2) := by decide +kernel
theorem dX11_clear_12 : decode cX11_clear 12 = .ok (.ireturn, 1) := by decide +kernel
theorem dX11_clear_13 : decode cX11_clear 13 = .ok (.aload_n 2, 1) := by decide +kernel
theorem dX11_clear_14 : decode cX11_clear 14 = .ok (.getfield 114, 3) := by decide +kernel
theorem dX11_clear_17 : decode cX11_clear 17 = .ok (.istore_n 3, 1) := by decide +kernel
theorem dX11_clear_18 : decode cX11_clear 18 = .ok (.aload_n 2, 1) := by decide +kernel
theorem dX11_clear_19 : decode cX11_clear 19 = .ok (.iconst 0, 1) := by decide +kernel
theorem dX11_clear_20 : decode cX11_clear 20 = .ok (.putfield 114, 3) := by decide +kernel
theorem dX11_clear_23 : decode cX11_clear 23 = .ok (.iload_n 3, 1) := by decide +kernel
theorem dX11_clear_24 : decode cX11_clear 24 = .ok (.ireturn, 1) := by decide +kernel
set_option maxRecDepth 20000 in
theorem ggX11_add_X11_sumAt : GoodIn wsX11_add wsX11_sumAt := goodIn_r _ [8, 9, 10, 11, 7, 12, 75, 76, 77, 78, 79, 80, 81, 82, 83, 84, 85, 86, 87, 88, 89] (by decide +kernel) (by decide +kernel)
set_option maxRecDepth 20000 in
theorem gX11_add_X11_sumAt : GoodIn wsX11_add (wsV RX11 110 RX11 yX11_sumAt wsX11_sumAt) := goodIn_app (goodIn_of _ (by decide +kernel)) ggX11_add_X11_sumAt
set_option maxRecDepth 20000 in
theorem ggX11_add_X11_isProduct : GoodIn wsX11_add wsX11_isProduct := goodIn_r _ [16, 17, 10, 11, 7, 12, 75, 76, 77, 78, 79, 80, 81, 82, 83, 84, 85, 86, 87, 88, 89] (by decide +kernel) (by decide +kernel)
set_option maxRecDepth 20000 in
theorem gX11_add_X11_isProduct : GoodIn wsX11_add (wsV RX11 115 RX11 yX11_isProduct wsX11_isProduct) := goodIn_app (goodIn_of _ (by decide +kernel)) ggX11_add_X11_isProduct
set_option maxRecDepth 20000 in
theorem ggX11_add_X4_begin : GoodIn wsX11_add wsX4_begin := goodIn_r _ [21, 22, 23, 24, 25, 93, 94, 95, 96, 97, 98, 99, 100] (by decide +kernel) (by decide +kernel)
set_option maxRecDepth 20000 in
theorem gX11_add_X4_begin_n119 : GoodIn wsX11_add (wsX4_begin) := ggX11_add_X4_begin
set_option maxRecDepth 20000 in
theorem ggX11_add_X4_putSum : GoodIn wsX11_add wsX4_putSum := goodIn_r _ [28, 29, 30, 31, 19, 32, 33, 23, 34, 35, 36, 37, 38, 39, 25, 22, 24, 90, 91, 92, 93, 94, 95, 96, 97, 98, 99, 100] (by decide +kernel) (by decide +kernel)
set_option maxRecDepth 20000 in
theorem gX11_add_X4_putSum_n122 : GoodIn wsX11_add (wsX4_putSum) := ggX11_add_X4_putSum
set_option maxRecDepth 20000 in
theorem ggX11_add_X4_put : GoodIn wsX11_add wsX4_put := goodIn_r _ [32, 33, 23, 34, 35, 36, 37, 38, 19, 39, 25, 22, 24, 93, 94, 95, 96, 97, 98, 99, 100] (by decide +kernel) (by decide +kernel)
set_option maxRecDepth 20000 in
theorem gX11_add_X4_put_n126 : GoodIn wsX11_add (wsX4_put) := ggX11_add_X4_put
set_option maxRecDepth 20000 in
theorem ggX11_add_X4_settle : GoodIn wsX11_add wsX4_settle := goodIn_r _ [42, 34, 25, 43, 44, 45, 46, 35, 47, 48, 49, 19, 50, 51, 52, 53, 54, 55, 56, 57, 58, 59, 60, 7, 61, 62, 63, 64, 65, 66, 67, 68, 69, 70, 71, 72, 73, 74, 93, 94, 95, 96, 97, 98, 99, 100, 90, 91, 92] (by decide +kernel) (by decide +kernel)
set_option maxRecDepth 20000 in
theorem gX11_add_X4_settle_n130 : GoodIn wsX11_add (wsX4_settle) := ggX11_add_X4_settle
theorem dX11_add_0 : decode cX11_add 0 = .ok (.aload_n 0, 1) := by decide +kernel
theorem dX11_add_1 : decode cX11_add 1 = .ok (.iload_n 1, 1) := by decide +kernel
theorem dX11_add_2 : decode cX11_add 2 = .ok (.invokevirtual 110, 3) := by decide +kernel
theorem dX11_add_5 : decode cX11_add 5 = .ok (.astore 4, 2) := by decide +kernel
theorem dX11_add_7 : decode cX11_add 7 = .ok (.aload 4, 2) := by decide +kernel
theorem dX11_add_9 : decode cX11_add 9 = .ok (.ifnull 11, 3) := by decide +kernel
theorem dX11_add_12 : decode cX11_add 12 = .ok (.aload_n 0, 1) := by decide +kernel
theorem dX11_add_13 : decode cX11_add 13 = .ok (.iload_n 2, 1) := by decide +kernel
theorem dX11_add_14 : decode cX11_add 14 = .ok (.invokevirtual 115, 3) := by decide +kernel
theorem dX11_add_17 : decode cX11_add 17 = .ok (.ifCond .ne 6, 3) := by decide +kernel
theorem dX11_add_20 : decode cX11_add 20 = .ok (.ldc 72, 2) := by decide +kernel
theorem dX11_add_22 : decode cX11_add 22 = .ok (.ireturn, 1) := by decide +kernel
theorem dX11_add_23 : decode cX11_add 23 = .ok (.aload_n 0, 1) := by decide +kernel
theorem dX11_add_24 : decode cX11_add 24 = .ok (.getfield 21, 3) := by decide +kernel
theorem dX11_add_27 : decode cX11_add 27 = .ok (.invokevirtual 119, 3) := by decide +kernel
theorem dX11_add_30 : decode cX11_add 30 = .ok (.aload_n 0, 1) := by decide +kernel
theorem dX11_add_31 : decode cX11_add 31 = .ok (.getfield 21, 3) := by decide +kernel
theorem dX11_add_34 : decode cX11_add 34 = .ok (.aload 4, 2) := by decide +kernel
theorem dX11_add_36 : decode cX11_add 36 = .ok (.iconst 1, 1) := by decide +kernel
theorem dX11_add_37 : decode cX11_add 37 = .ok (.invokevirtual 122, 3) := by decide +kernel
theorem dX11_add_40 : decode cX11_add 40 = .ok (.aload_n 0, 1) := by decide +kernel
theorem dX11_add_41 : decode cX11_add 41 = .ok (.getfield 21, 3) := by decide +kernel
theorem dX11_add_44 : decode cX11_add 44 = .ok (.iload_n 2, 1) := by decide +kernel
theorem dX11_add_45 : decode cX11_add 45 = .ok (.bipush 20, 2) := by decide +kernel
theorem dX11_add_47 : decode cX11_add 47 = .ok (.ishl, 1) := by decide +kernel
theorem dX11_add_48 : decode cX11_add 48 = .ok (.iload_n 3, 1) := by decide +kernel
theorem dX11_add_49 : decode cX11_add 49 = .ok (.i2l, 1) := by decide +kernel
theorem dX11_add_50 : decode cX11_add 50 = .ok (.invokevirtual 126, 3) := by decide +kernel
theorem dX11_add_53 : decode cX11_add 53 = .ok (.aload_n 0, 1) := by decide +kernel
theorem dX11_add_54 : decode cX11_add 54 = .ok (.getfield 21, 3) := by decide +kernel
theorem dX11_add_57 : decode cX11_add 57 = .ok (.aload 4, 2) := by decide +kernel
theorem dX11_add_59 : decode cX11_add 59 = .ok (.invokevirtual 130, 3) := by decide +kernel
theorem dX11_add_62 : decode cX11_add 62 = .ok (.ifCond .eq 11, 3) := by decide +kernel
theorem dX11_add_65 : decode cX11_add 65 = .ok (.aload 4, 2) := by decide +kernel
theorem dX11_add_67 : decode cX11_add 67 = .ok (.getfield 114, 3) := by decide +kernel
theorem dX11_add_70 : decode cX11_add 70 = .ok (.goto 5, 3) := by decide +kernel
theorem dX11_add_73 : decode cX11_add 73 = .ok (.ldc 134, 2) := by decide +kernel
theorem dX11_add_75 : decode cX11_add 75 = .ok (.ireturn, 1) := by decide +kernel
set_option maxRecDepth 20000 in
theorem ggX11_take_X11_sumAt : GoodIn wsX11_take wsX11_sumAt := goodIn_r _ [6, 7, 8, 9, 5, 10, 25, 26, 27, 28, 29, 30, 31, 32, 33, 34, 35, 36, 37, 38, 39] (by decide +kernel) (by decide +kernel)
set_option maxRecDepth 20000 in
theorem gX11_take_X11_sumAt : GoodIn wsX11_take (wsV RX11 110 RX11 yX11_sumAt wsX11_sumAt) := goodIn_app (goodIn_of _ (by decide +kernel)) ggX11_take_X11_sumAt
set_option maxRecDepth 20000 in
theorem ggX11_take_X9_become : GoodIn wsX11_take wsX9_become := goodIn_r _ [14, 15, 16, 17, 18, 19, 20, 21, 22, 23, 24] (by decide +kernel) (by decide +kernel)
set_option maxRecDepth 20000 in
theorem gX11_take_X9_become_n135 : GoodIn wsX11_take (wsX9_become) := ggX11_take_X9_become
theorem dX11_take_0 : decode cX11_take 0 = .ok (.aload_n 0, 1) := by decide +kernel
theorem dX11_take_1 : decode cX11_take 1 = .ok (.iload_n 1, 1) := by decide +kernel
theorem dX11_take_2 : decode cX11_take 2 = .ok (.invokevirtual 110, 3) := by decide +kernel
theorem dX11_take_5 : decode cX11_take 5 = .ok (.astore_n 3, 1) := by decide +kernel
theorem dX11_take_6 : decode cX11_take 6 = .ok (.aload_n 0, 1) := by decide +kernel
theorem dX11_take_7 : decode cX11_take 7 = .ok (.iload_n 2, 1) := by decide +kernel
theorem dX11_take_8 : decode cX11_take 8 = .ok (.invokevirtual 110, 3) := by decide +kernel
theorem dX11_take_11 : decode cX11_take 11 = .ok (.astore 4, 2) := by decide +kernel
theorem dX11_take_13 : decode cX11_take 13 = .ok (.aload_n 3, 1) := by decide +kernel
theorem dX11_take_14 : decode cX11_take 14 = .ok (.ifnull 8, 3) := by decide +kernel
theorem dX11_take_17 : decode cX11_take 17 = .ok (.aload 4, 2) := by decide +kernel
theorem dX11_take_19 : decode cX11_take 19 = .ok (.ifnonnull 6, 3) := by decide +kernel
theorem dX11_take_22 : decode cX11_take 22 = .ok (.ldc 72, 2) := by decide +kernel
theorem dX11_take_24 : decode cX11_take 24 = .ok (.ireturn, 1) := by decide +kernel
theorem dX11_take_25 : decode cX11_take 25 = .ok (.aload_n 3, 1) := by decide +kernel
theorem dX11_take_26 : decode cX11_take 26 = .ok (.aload 4, 2) := by decide +kernel
theorem dX11_take_28 : decode cX11_take 28 = .ok (.invokevirtual 135, 3) := by decide +kernel
theorem dX11_take_31 : decode cX11_take 31 = .ok (.aload_n 3, 1) := by decide +kernel
theorem dX11_take_32 : decode cX11_take 32 = .ok (.getfield 114, 3) := by decide +kernel
theorem dX11_take_35 : decode cX11_take 35 = .ok (.ireturn, 1) := by decide +kernel
set_option maxRecDepth 20000 in
theorem ggX11_join_X11_sumAt : GoodIn wsX11_join wsX11_sumAt := goodIn_r _ [8, 9, 10, 11, 7, 12, 76, 77, 78, 79, 80, 81, 82, 83, 84, 85, 86, 87, 88, 89, 90] (by decide +kernel) (by decide +kernel)
set_option maxRecDepth 20000 in
theorem gX11_join_X11_sumAt : GoodIn wsX11_join (wsV RX11 110 RX11 yX11_sumAt wsX11_sumAt) := goodIn_app (goodIn_of _ (by decide +kernel)) ggX11_join_X11_sumAt
set_option maxRecDepth 20000 in
theorem ggX11_join_X11_within : GoodIn wsX11_join wsX11_within := goodIn_r _ [12] (by decide +kernel) (by decide +kernel)
set_option maxRecDepth 20000 in
theorem gX11_join_X11_within : GoodIn wsX11_join (va_wsS RX11 68 yX11_within wsX11_within) := goodIn_app (goodIn_of _ (by decide +kernel)) ggX11_join_X11_within
set_option maxRecDepth 20000 in
theorem ggX11_join_X4_joinSums : GoodIn wsX11_join wsX4_joinSums := goodIn_r _ [16, 17, 18, 19, 14, 20, 21, 22, 23, 24, 25, 26, 27, 28, 29, 30, 31, 32, 33, 34, 35, 36, 37, 38, 39, 40, 41, 42, 43, 44, 45, 46, 47, 48, 49, 50, 51, 52, 53, 54, 55, 56, 57, 58, 59, 60, 61, 7, 62, 63, 64, 65, 66, 67, 68, 69, 70, 71, 72, 73, 74, 75, 94, 95, 96, 97, 98, 99, 100, 101, 91, 92, 93] (by decide +kernel) (by decide +kernel)
set_option maxRecDepth 20000 in
theorem gX11_join_X4_joinSums_n139 : GoodIn wsX11_join (wsX4_joinSums) := ggX11_join_X4_joinSums
theorem dX11_join_0 : decode cX11_join 0 = .ok (.aload_n 0, 1) := by decide +kernel
theorem dX11_join_1 : decode cX11_join 1 = .ok (.iload_n 1, 1) := by decide +kernel
theorem dX11_join_2 : decode cX11_join 2 = .ok (.invokevirtual 110, 3) := by decide +kernel
theorem dX11_join_5 : decode cX11_join 5 = .ok (.astore 4, 2) := by decide +kernel
theorem dX11_join_7 : decode cX11_join 7 = .ok (.aload_n 0, 1) := by decide +kernel
theorem dX11_join_8 : decode cX11_join 8 = .ok (.iload_n 2, 1) := by decide +kernel
theorem dX11_join_9 : decode cX11_join 9 = .ok (.invokevirtual 110, 3) := by decide +kernel
theorem dX11_join_12 : decode cX11_join 12 = .ok (.astore 5, 2) := by decide +kernel
theorem dX11_join_14 : decode cX11_join 14 = .ok (.aload 4, 2) := by decide +kernel
theorem dX11_join_16 : decode cX11_join 16 = .ok (.ifnull 18, 3) := by decide +kernel
theorem dX11_join_19 : decode cX11_join 19 = .ok (.aload 5, 2) := by decide +kernel
theorem dX11_join_21 : decode cX11_join 21 = .ok (.ifnull 13, 3) := by decide +kernel
theorem dX11_join_24 : decode cX11_join 24 = .ok (.iload_n 3, 1) := by decide +kernel
theorem dX11_join_25 : decode cX11_join 25 = .ok (.bipush (-3), 2) := by decide +kernel
theorem dX11_join_27 : decode cX11_join 27 = .ok (.iconst 3, 1) := by decide +kernel
theorem dX11_join_28 : decode cX11_join 28 = .ok (.invokestatic 68, 3) := by decide +kernel
theorem dX11_join_31 : decode cX11_join 31 = .ok (.ifCond .ne 6, 3) := by decide +kernel
theorem dX11_join_34 : decode cX11_join 34 = .ok (.ldc 72, 2) := by decide +kernel
theorem dX11_join_36 : decode cX11_join 36 = .ok (.ireturn, 1) := by decide +kernel
theorem dX11_join_37 : decode cX11_join 37 = .ok (.aload_n 0, 1) := by decide +kernel
theorem dX11_join_38 : decode cX11_join 38 = .ok (.getfield 21, 3) := by decide +kernel
theorem dX11_join_41 : decode cX11_join 41 = .ok (.aload 4, 2) := by decide +kernel
theorem dX11_join_43 : decode cX11_join 43 = .ok (.aload 5, 2) := by decide +kernel
theorem dX11_join_45 : decode cX11_join 45 = .ok (.iload_n 3, 1) := by decide +kernel
theorem dX11_join_46 : decode cX11_join 46 = .ok (.invokevirtual 139, 3) := by decide +kernel
theorem dX11_join_49 : decode cX11_join 49 = .ok (.ifCond .eq 11, 3) := by decide +kernel
theorem dX11_join_52 : decode cX11_join 52 = .ok (.aload 4, 2) := by decide +kernel
theorem dX11_join_54 : decode cX11_join 54 = .ok (.getfield 114, 3) := by decide +kernel
theorem dX11_join_57 : decode cX11_join 57 = .ok (.goto 5, 3) := by decide +kernel
theorem dX11_join_60 : decode cX11_join 60 = .ok (.ldc 134, 2) := by decide +kernel
theorem dX11_join_62 : decode cX11_join 62 = .ok (.ireturn, 1) := by decide +kernel
set_option maxRecDepth 20000 in
theorem ggX11_quarter_X11_isProduct : GoodIn wsX11_quarter wsX11_isProduct := goodIn_r _ [8, 9, 10, 11, 7, 12, 80, 81, 82, 83, 84, 85, 86, 87, 88, 89, 90, 91, 92, 93, 94] (by decide +kernel) (by decide +kernel)
set_option maxRecDepth 20000 in
theorem gX11_quarter_X11_isProduct : GoodIn wsX11_quarter (wsV RX11 115 RX11 yX11_isProduct wsX11_isProduct) := goodIn_app (goodIn_of _ (by decide +kernel)) ggX11_quarter_X11_isProduct
set_option maxRecDepth 20000 in
theorem ggX11_quarter_X11_within : GoodIn wsX11_quarter wsX11_within := goodIn_r _ [12] (by decide +kernel) (by decide +kernel)
set_option maxRecDepth 20000 in
theorem gX11_quarter_X11_within : GoodIn wsX11_quarter (va_wsS RX11 68 yX11_within wsX11_within) := goodIn_app (goodIn_of _ (by decide +kernel)) ggX11_quarter_X11_within
set_option maxRecDepth 20000 in
theorem ggX11_quarter_X11_turnByQuarters : GoodIn wsX11_quarter wsX11_turnByQuarters := goodIn_r _ [16, 17, 2, 18, 19, 20, 21, 22, 23, 24, 25, 26, 27, 7, 28, 29, 30, 31, 32, 33, 34, 35, 36, 37, 38, 39, 40, 41, 42, 43, 44, 45, 46, 47, 48, 49, 50, 51, 52, 53, 54, 55, 56, 57, 58, 59, 60, 61, 62, 63, 64, 65, 66, 67, 68, 69, 70, 71, 72, 73, 74, 75, 76, 77, 78, 79, 80, 81, 82, 83, 84, 85, 86, 87, 88, 89, 90, 91, 92, 93, 94, 95, 96, 97, 98, 99, 100, 101, 102, 103, 104, 105] (by decide +kernel) (by decide +kernel)
set_option maxRecDepth 20000 in
theorem gX11_quarter_X11_turnByQuarters : GoodIn wsX11_quarter (wsV RX11 143 RX11 yX11_turnByQuarters wsX11_turnByQuarters) := goodIn_app (goodIn_of _ (by decide +kernel)) ggX11_quarter_X11_turnByQuarters
theorem dX11_quarter_0 : decode cX11_quarter 0 = .ok (.aload_n 0, 1) := by decide +kernel
theorem dX11_quarter_1 : decode cX11_quarter 1 = .ok (.iload_n 1, 1) := by decide +kernel
theorem dX11_quarter_2 : decode cX11_quarter 2 = .ok (.invokevirtual 115, 3) := by decide +kernel
theorem dX11_quarter_5 : decode cX11_quarter 5 = .ok (.ifCond .eq 12, 3) := by decide +kernel
theorem dX11_quarter_8 : decode cX11_quarter 8 = .ok (.iload_n 2, 1) := by decide +kernel
theorem dX11_quarter_9 : decode cX11_quarter 9 = .ok (.iconst 0, 1) := by decide +kernel
theorem dX11_quarter_10 : decode cX11_quarter 10 = .ok (.iconst 3, 1) := by decide +kernel
theorem dX11_quarter_11 : decode cX11_quarter 11 = .ok (.invokestatic 68, 3) := by decide +kernel
theorem dX11_quarter_14 : decode cX11_quarter 14 = .ok (.ifCond .ne 6, 3) := by decide +kernel
theorem dX11_quarter_17 : decode cX11_quarter 17 = .ok (.ldc 72, 2) := by decide +kernel
theorem dX11_quarter_19 : decode cX11_quarter 19 = .ok (.ireturn, 1) := by decide +kernel
theorem dX11_quarter_20 : decode cX11_quarter 20 = .ok (.aload_n 0, 1) := by decide +kernel
theorem dX11_quarter_21 : decode cX11_quarter 21 = .ok (.iload_n 1, 1) := by decide +kernel
theorem dX11_quarter_22 : decode cX11_quarter 22 = .ok (.iload_n 2, 1) := by decide +kernel
theorem dX11_quarter_23 : decode cX11_quarter 23 = .ok (.invokevirtual 143, 3) := by decide +kernel
theorem dX11_quarter_26 : decode cX11_quarter 26 = .ok (.ifCond .eq 13, 3) := by decide +kernel
theorem dX11_quarter_29 : decode cX11_quarter 29 = .ok (.aload_n 0, 1) := by decide +kernel
theorem dX11_quarter_30 : decode cX11_quarter 30 = .ok (.getfield 59, 3) := by decide +kernel
theorem dX11_quarter_33 : decode cX11_quarter 33 = .ok (.getfield 114, 3) := by decide +kernel
theorem dX11_quarter_36 : decode cX11_quarter 36 = .ok (.goto 5, 3) := by decide +kernel
theorem dX11_quarter_39 : decode cX11_quarter 39 = .ok (.ldc 134, 2) := by decide +kernel
theorem dX11_quarter_41 : decode cX11_quarter 41 = .ok (.ireturn, 1) := by decide +kernel
set_option maxRecDepth 20000 in
theorem ggX11_letter_X11_isProduct : GoodIn wsX11_letter wsX11_isProduct := goodIn_r _ [8, 9, 10, 11, 7, 12, 93, 94, 95, 96, 97, 98, 99, 100, 101, 102, 103, 104, 105, 106, 107] (by decide +kernel) (by decide +kernel)
set_option maxRecDepth 20000 in
theorem gX11_letter_X11_isProduct : GoodIn wsX11_letter (wsV RX11 115 RX11 yX11_isProduct wsX11_isProduct) := goodIn_app (goodIn_of _ (by decide +kernel)) ggX11_letter_X11_isProduct
set_option maxRecDepth 20000 in
theorem ggX11_letter_X11_within : GoodIn wsX11_letter wsX11_within := goodIn_r _ [12] (by decide +kernel) (by decide +kernel)
set_option maxRecDepth 20000 in
theorem gX11_letter_X11_within : GoodIn wsX11_letter (va_wsS RX11 68 yX11_within wsX11_within) := goodIn_app (goodIn_of _ (by decide +kernel)) ggX11_letter_X11_within
set_option maxRecDepth 20000 in
theorem ggX11_letter_X11_isWay : GoodIn wsX11_letter wsX11_isWay := goodIn_r _ [15] (by decide +kernel) (by decide +kernel)
set_option maxRecDepth 20000 in
theorem gX11_letter_X11_isWay : GoodIn wsX11_letter (va_wsS RX11 146 yX11_isWay wsX11_isWay) := goodIn_app (goodIn_of _ (by decide +kernel)) ggX11_letter_X11_isWay
set_option maxRecDepth 20000 in
theorem ggX11_letter_X11_turnByLetter : GoodIn wsX11_letter wsX11_turnByLetter := goodIn_r _ [19, 20, 2, 21, 22, 23, 24, 25, 26, 27, 28, 29, 30, 7, 31, 32, 33, 34, 35, 36, 37, 38, 39, 40, 41, 42, 43, 44, 45, 46, 47, 48, 49, 50, 51, 52, 53, 54, 55, 56, 57, 58, 59, 60, 61, 62, 63, 64, 65, 66, 67, 68, 69, 70, 71, 72, 73, 74, 75, 76, 77, 78, 79, 80, 81, 82, 83, 84, 85, 86, 87, 88, 89, 90, 91, 92, 93, 94, 95, 96, 97, 98, 99, 100, 101, 102, 103, 104, 105, 106, 107, 108, 109, 110, 111, 112, 113, 114, 115, 116, 117, 118] (by decide +kernel) (by decide +kernel)
set_option maxRecDepth 20000 in
theorem gX11_letter_X11_turnByLetter : GoodIn wsX11_letter (wsV RX11 149 RX11 yX11_turnByLetter wsX11_turnByLetter) := goodIn_app (goodIn_of _ (by decide +kernel)) ggX11_letter_X11_turnByLetter
theorem dX11_letter_0 : decode cX11_letter 0 = .ok (.aload_n 0, 1) := by decide +kernel
theorem dX11_letter_1 : decode cX11_letter 1 = .ok (.iload_n 1, 1) := by decide +kernel
theorem dX11_letter_2 : decode cX11_letter 2 = .ok (.invokevirtual 115, 3) := by decide +kernel
theorem dX11_letter_5 : decode cX11_letter 5 = .ok (.ifCond .eq 19, 3) := by decide +kernel
theorem dX11_letter_8 : decode cX11_letter 8 = .ok (.iload_n 2, 1) := by decide +kernel
theorem dX11_letter_9 : decode cX11_letter 9 = .ok (.iconst 0, 1) := by decide +kernel
theorem dX11_letter_10 : decode cX11_letter 10 = .ok (.iconst 3, 1) := by decide +kernel
theorem dX11_letter_11 : decode cX11_letter 11 = .ok (.invokestatic 68, 3) := by decide +kernel
theorem dX11_letter_14 : decode cX11_letter 14 = .ok (.ifCond .eq 10, 3) := by decide +kernel
theorem dX11_letter_17 : decode cX11_letter 17 = .ok (.iload_n 3, 1) := by decide +kernel
theorem dX11_letter_18 : decode cX11_letter 18 = .ok (.invokestatic 146, 3) := by decide +kernel
theorem dX11_letter_21 : decode cX11_letter 21 = .ok (.ifCond .ne 6, 3) := by decide +kernel
theorem dX11_letter_24 : decode cX11_letter 24 = .ok (.ldc 72, 2) := by decide +kernel
theorem dX11_letter_26 : decode cX11_letter 26 = .ok (.ireturn, 1) := by decide +kernel
theorem dX11_letter_27 : decode cX11_letter 27 = .ok (.aload_n 0, 1) := by decide +kernel
theorem dX11_letter_28 : decode cX11_letter 28 = .ok (.iload_n 1, 1) := by decide +kernel
theorem dX11_letter_29 : decode cX11_letter 29 = .ok (.iload_n 2, 1) := by decide +kernel
theorem dX11_letter_30 : decode cX11_letter 30 = .ok (.iload_n 3, 1) := by decide +kernel
theorem dX11_letter_31 : decode cX11_letter 31 = .ok (.invokevirtual 149, 3) := by decide +kernel
theorem dX11_letter_34 : decode cX11_letter 34 = .ok (.ifCond .eq 13, 3) := by decide +kernel
theorem dX11_letter_37 : decode cX11_letter 37 = .ok (.aload_n 0, 1) := by decide +kernel
theorem dX11_letter_38 : decode cX11_letter 38 = .ok (.getfield 59, 3) := by decide +kernel
theorem dX11_letter_41 : decode cX11_letter 41 = .ok (.getfield 114, 3) := by decide +kernel
theorem dX11_letter_44 : decode cX11_letter 44 = .ok (.goto 5, 3) := by decide +kernel
theorem dX11_letter_47 : decode cX11_letter 47 = .ok (.ldc 134, 2) := by decide +kernel
theorem dX11_letter_49 : decode cX11_letter 49 = .ok (.ireturn, 1) := by decide +kernel
set_option maxRecDepth 20000 in
theorem ggX11_terms_X11_sumAt : GoodIn wsX11_terms wsX11_sumAt := goodIn_r _ [6, 7, 8, 9, 5, 10, 14, 15, 16, 17, 18, 19, 20, 21, 22, 23, 24, 25, 26, 27, 28] (by decide +kernel) (by decide +kernel)
set_option maxRecDepth 20000 in
theorem gX11_terms_X11_sumAt : GoodIn wsX11_terms (wsV RX11 110 RX11 yX11_sumAt wsX11_sumAt) := goodIn_app (goodIn_of _ (by decide +kernel)) ggX11_terms_X11_sumAt
theorem dX11_terms_0 : decode cX11_terms 0 = .ok (.aload_n 0, 1) := by decide +kernel
theorem dX11_terms_1 : decode cX11_terms 1 = .ok (.iload_n 1, 1) := by decide +kernel
theorem dX11_terms_2 : decode cX11_terms 2 = .ok (.invokevirtual 110, 3) := by decide +kernel
theorem dX11_terms_5 : decode cX11_terms 5 = .ok (.astore_n 2, 1) := by decide +kernel
theorem dX11_terms_6 : decode cX11_terms 6 = .ok (.aload_n 2, 1) := by decide +kernel
theorem dX11_terms_7 : decode cX11_terms 7 = .ok (.ifnonnull 8, 3) := by decide +kernel
theorem dX11_terms_10 : decode cX11_terms 10 = .ok (.ldc 72, 2) := by decide +kernel
theorem dX11_terms_12 : decode cX11_terms 12 = .ok (.goto 7, 3) := by decide +kernel
theorem dX11_terms_15 : decode cX11_terms 15 = .ok (.aload_n 2, 1) := by decide +kernel
theorem dX11_terms_16 : decode cX11_terms 16 = .ok (.getfield 114, 3) := by decide +kernel
theorem dX11_terms_19 : decode cX11_terms 19 = .ok (.ireturn, 1) := by decide +kernel
set_option maxRecDepth 20000 in
theorem ggX11_number_X11_sumAt : GoodIn wsX11_number wsX11_sumAt := goodIn_r _ [6, 7, 8, 9, 5, 10, 14, 15, 16, 17, 18, 19, 20, 21, 22, 23, 24, 25, 26, 27, 28] (by decide +kernel) (by decide +kernel)
set_option maxRecDepth 20000 in
theorem gX11_number_X11_sumAt : GoodIn wsX11_number (wsV RX11 110 RX11 yX11_sumAt wsX11_sumAt) := goodIn_app (goodIn_of _ (by decide +kernel)) ggX11_number_X11_sumAt
set_option maxRecDepth 20000 in
theorem ggX11_number_X11_within : GoodIn wsX11_number wsX11_within := goodIn_r _ [10] (by decide +kernel) (by decide +kernel)
set_option maxRecDepth 20000 in
theorem gX11_number_X11_within : GoodIn wsX11_number (va_wsS RX11 68 yX11_within wsX11_within) := goodIn_app (goodIn_of _ (by decide +kernel)) ggX11_number_X11_within
theorem dX11_number_0 : decode cX11_number 0 = .ok (.aload_n 0, 1) := by decide +kernel
theorem dX11_number_1 : decode cX11_number 1 = .ok (.iload_n 1, 1) := by decide +kernel
theorem dX11_number_2 : decode cX11_number 2 = .ok (.invokevirtual 110, 3) := by decide +kernel
theorem dX11_number_5 : decode cX11_number 5 = .ok (.astore_n 3, 1) := by decide +kernel
theorem dX11_number_6 : decode cX11_number 6 = .ok (.aload_n 3, 1) := by decide +kernel
theorem dX11_number_7 : decode cX11_number 7 = .ok (.ifnull 17, 3) := by decide +kernel
theorem dX11_number_10 : decode cX11_number 10 = .ok (.iload_n 2, 1) := by decide +kernel
theorem dX11_number_11 : decode cX11_number 11 = .ok (.iconst 0, 1) := by decide +kernel
theorem dX11_number_12 : decode cX11_number 12 = .ok (.aload_n 3, 1) := by decide +kernel
theorem dX11_number_13 : decode cX11_number 13 = .ok (.getfield 114, 3) := by decide +kernel
theorem dX11_number_16 : decode cX11_number 16 = .ok (.iconst 1, 1) := by decide +kernel
theorem dX11_number_17 : decode cX11_number 17 = .ok (.isub, 1) := by decide +kernel
theorem dX11_number_18 : decode cX11_number 18 = .ok (.invokestatic 68, 3) := by decide +kernel
theorem dX11_number_21 : decode cX11_number 21 = .ok (.ifCond .ne 7, 3) := by decide +kernel
theorem dX11_number_24 : decode cX11_number 24 = .ok (.ldc2_w 152, 3) := by decide +kernel
theorem dX11_number_27 : decode cX11_number 27 = .ok (.lreturn, 1) := by decide +kernel
theorem dX11_number_28 : decode cX11_number 28 = .ok (.aload_n 3, 1) := by decide +kernel
theorem dX11_number_29 : decode cX11_number 29 = .ok (.getfield 154, 3) := by decide +kernel
theorem dX11_number_32 : decode cX11_number 32 = .ok (.iload_n 2, 1) := by decide +kernel
theorem dX11_number_33 : decode cX11_number 33 = .ok (.laload, 1) := by decide +kernel
theorem dX11_number_34 : decode cX11_number 34 = .ok (.lreturn, 1) := by decide +kernel
set_option maxRecDepth 20000 in
theorem ggX11_power_X11_sumAt : GoodIn wsX11_power wsX11_sumAt := goodIn_r _ [6, 7, 8, 9, 5, 10, 26, 27, 28, 29, 30, 31, 32, 33, 34, 35, 36, 37, 38, 39, 40] (by decide +kernel) (by decide +kernel)
set_option maxRecDepth 20000 in
theorem gX11_power_X11_sumAt : GoodIn wsX11_power (wsV RX11 110 RX11 yX11_sumAt wsX11_sumAt) := goodIn_app (goodIn_of _ (by decide +kernel)) ggX11_power_X11_sumAt
set_option maxRecDepth 20000 in
theorem ggX11_power_X11_within : GoodIn wsX11_power wsX11_within := goodIn_r _ [10] (by decide +kernel) (by decide +kernel)
set_option maxRecDepth 20000 in
theorem gX11_power_X11_within : GoodIn wsX11_power (va_wsS RX11 68 yX11_within wsX11_within) := goodIn_app (goodIn_of _ (by decide +kernel)) ggX11_power_X11_within
set_option maxRecDepth 20000 in
theorem ggX11_power_X11_productOf : GoodIn wsX11_power wsX11_productOf := goodIn_r _ [13] (by decide +kernel) (by decide +kernel)
set_option maxRecDepth 20000 in
theorem gX11_power_X11_productOf : GoodIn wsX11_power (va_wsS RX11 161 yX11_productOf wsX11_productOf) := goodIn_app (goodIn_of _ (by decide +kernel)) ggX11_power_X11_productOf
set_option maxRecDepth 20000 in
theorem ggX11_power_X11_powerOf : GoodIn wsX11_power wsX11_powerOf := goodIn_r _ [16, 17, 18, 5, 19, 20, 21, 22] (by decide +kernel) (by decide +kernel)
set_option maxRecDepth 20000 in
theorem gX11_power_X11_powerOf : GoodIn wsX11_power (va_wsS RX11 164 yX11_powerOf wsX11_powerOf) := goodIn_app (goodIn_of _ (by decide +kernel)) ggX11_power_X11_powerOf
theorem dX11_power_0 : decode cX11_power 0 = .ok (.aload_n 0, 1) := by decide +kernel
theorem dX11_power_1 : decode cX11_power 1 = .ok (.iload_n 1, 1) := by decide +kernel
theorem dX11_power_2 : decode cX11_power 2 = .ok (.invokevirtual 110, 3) := by decide +kernel
theorem dX11_power_5 : decode cX11_power 5 = .ok (.astore 4, 2) := by decide +kernel
theorem dX11_power_7 : decode cX11_power 7 = .ok (.aload 4, 2) := by decide +kernel
theorem dX11_power_9 : decode cX11_power 9 = .ok (.ifnull 28, 3) := by decide +kernel
theorem dX11_power_12 : decode cX11_power 12 = .ok (.iload_n 2, 1) := by decide +kernel
theorem dX11_power_13 : decode cX11_power 13 = .ok (.iconst 0, 1) := by decide +kernel
theorem dX11_power_14 : decode cX11_power 14 = .ok (.aload 4, 2) := by decide +kernel
theorem dX11_power_16 : decode cX11_power 16 = .ok (.getfield 114, 3) := by decide +kernel
theorem dX11_power_19 : decode cX11_power 19 = .ok (.iconst 1, 1) := by decide +kernel
theorem dX11_power_20 : decode cX11_power 20 = .ok (.isub, 1) := by decide +kernel
theorem dX11_power_21 : decode cX11_power 21 = .ok (.invokestatic 68, 3) := by decide +kernel
theorem dX11_power_24 : decode cX11_power 24 = .ok (.ifCond .eq 13, 3) := by decide +kernel
theorem dX11_power_27 : decode cX11_power 27 = .ok (.iload_n 3, 1) := by decide +kernel
theorem dX11_power_28 : decode cX11_power 28 = .ok (.iconst (-1), 1) := by decide +kernel
theorem dX11_power_29 : decode cX11_power 29 = .ok (.bipush 7, 2) := by decide +kernel
theorem dX11_power_31 : decode cX11_power 31 = .ok (.invokestatic 68, 3) := by decide +kernel
theorem dX11_power_34 : decode cX11_power 34 = .ok (.ifCond .ne 6, 3) := by decide +kernel
theorem dX11_power_37 : decode cX11_power 37 = .ok (.ldc 72, 2) := by decide +kernel
theorem dX11_power_39 : decode cX11_power 39 = .ok (.ireturn, 1) := by decide +kernel
theorem dX11_power_40 : decode cX11_power 40 = .ok (.iload_n 3, 1) := by decide +kernel
theorem dX11_power_41 : decode cX11_power 41 = .ok (.ifCond .ge 16, 3) := by decide +kernel
theorem dX11_power_44 : decode cX11_power 44 = .ok (.aload 4, 2) := by decide +kernel
theorem dX11_power_46 : decode cX11_power 46 = .ok (.getfield 158, 3) := by decide +kernel
theorem dX11_power_49 : decode cX11_power 49 = .ok (.iload_n 2, 1) := by decide +kernel
theorem dX11_power_50 : decode cX11_power 50 = .ok (.iaload, 1) := by decide +kernel
theorem dX11_power_51 : decode cX11_power 51 = .ok (.invokestatic 161, 3) := by decide +kernel
theorem dX11_power_54 : decode cX11_power 54 = .ok (.goto 14, 3) := by decide +kernel
theorem dX11_power_57 : decode cX11_power 57 = .ok (.aload 4, 2) := by decide +kernel
theorem dX11_power_59 : decode cX11_power 59 = .ok (.getfield 158, 3) := by decide +kernel
theorem dX11_power_62 : decode cX11_power 62 = .ok (.iload_n 2, 1) := by decide +kernel
theorem dX11_power_63 : decode cX11_power 63 = .ok (.iaload, 1) := by decide +kernel
theorem dX11_power_64 : decode cX11_power 64 = .ok (.iload_n 3, 1) := by decide +kernel
theorem dX11_power_65 : decode cX11_power 65 = .ok (.invokestatic 164, 3) := by decide +kernel
theorem dX11_power_68 : decode cX11_power 68 = .ok (.ireturn, 1) := by decide +kernel
set_option maxRecDepth 20000 in
theorem ggX11_same_X11_sumAt : GoodIn wsX11_same wsX11_sumAt := goodIn_r _ [6, 7, 8, 9, 5, 10, 18, 19, 20, 21, 22, 23, 24, 25, 26, 27, 28, 29, 30, 31, 32] (by decide +kernel) (by decide +kernel)
set_option maxRecDepth 20000 in
theorem gX11_same_X11_sumAt : GoodIn wsX11_same (wsV RX11 110 RX11 yX11_sumAt wsX11_sumAt) := goodIn_app (goodIn_of _ (by decide +kernel)) ggX11_same_X11_sumAt
set_option maxRecDepth 20000 in
theorem ggX11_same_X9_isLike : GoodIn wsX11_same wsX9_isLike := goodIn_r _ [14, 15, 16, 17, 33, 34, 35] (by decide +kernel) (by decide +kernel)
set_option maxRecDepth 20000 in
theorem gX11_same_X9_isLike_n167 : GoodIn wsX11_same (wsX9_isLike) := ggX11_same_X9_isLike
theorem dX11_same_0 : decode cX11_same 0 = .ok (.aload_n 0, 1) := by decide +kernel
theorem dX11_same_1 : decode cX11_same 1 = .ok (.iload_n 1, 1) := by decide +kernel
theorem dX11_same_2 : decode cX11_same 2 = .ok (.invokevirtual 110, 3) := by decide +kernel
theorem dX11_same_5 : decode cX11_same 5 = .ok (.astore_n 3, 1) := by decide +kernel
theorem dX11_same_6 : decode cX11_same 6 = .ok (.aload_n 0, 1) := by decide +kernel
theorem dX11_same_7 : decode cX11_same 7 = .ok (.iload_n 2, 1) := by decide +kernel
theorem dX11_same_8 : decode cX11_same 8 = .ok (.invokevirtual 110, 3) := by decide +kernel
theorem dX11_same_11 : decode cX11_same 11 = .ok (.astore 4, 2) := by decide +kernel
theorem dX11_same_13 : decode cX11_same 13 = .ok (.aload_n 3, 1) := by decide +kernel
theorem dX11_same_14 : decode cX11_same 14 = .ok (.ifnull 8, 3) := by decide +kernel
theorem dX11_same_17 : decode cX11_same 17 = .ok (.aload 4, 2) := by decide +kernel
theorem dX11_same_19 : decode cX11_same 19 = .ok (.ifnonnull 6, 3) := by decide +kernel
theorem dX11_same_22 : decode cX11_same 22 = .ok (.ldc 72, 2) := by decide +kernel
theorem dX11_same_24 : decode cX11_same 24 = .ok (.ireturn, 1) := by decide +kernel
theorem dX11_same_25 : decode cX11_same 25 = .ok (.aload_n 3, 1) := by decide +kernel
theorem dX11_same_26 : decode cX11_same 26 = .ok (.aload 4, 2) := by decide +kernel
theorem dX11_same_28 : decode cX11_same 28 = .ok (.invokevirtual 167, 3) := by decide +kernel
theorem dX11_same_31 : decode cX11_same 31 = .ok (.ifCond .eq 7, 3) := by decide +kernel
theorem dX11_same_34 : decode cX11_same 34 = .ok (.iconst 1, 1) := by decide +kernel
theorem dX11_same_35 : decode cX11_same 35 = .ok (.goto 4, 3) := by decide +kernel
theorem dX11_same_38 : decode cX11_same 38 = .ok (.iconst 0, 1) := by decide +kernel
theorem dX11_same_39 : decode cX11_same 39 = .ok (.ireturn, 1) := by decide +kernel
set_option maxRecDepth 20000 in
theorem ggX11_product_X11_sumAt : GoodIn wsX11_product wsX11_sumAt := goodIn_r _ [8, 9, 10, 11, 7, 12, 98, 99, 100, 101, 102, 103, 104, 105, 106, 107, 108, 109, 110, 111, 112] (by decide +kernel) (by decide +kernel)
set_option maxRecDepth 20000 in
theorem gX11_product_X11_sumAt : GoodIn wsX11_product (wsV RX11 110 RX11 yX11_sumAt wsX11_sumAt) := goodIn_app (goodIn_of _ (by decide +kernel)) ggX11_product_X11_sumAt
set_option maxRecDepth 20000 in
theorem ggX11_product_X4_multiply : GoodIn wsX11_product wsX4_multiply := goodIn_r _ [16, 17, 18, 19, 14, 20, 21, 22, 23, 24, 25, 7, 26, 27, 28, 29, 30, 31, 32, 33, 34, 35, 36, 37, 38, 39, 40, 41, 42, 43, 44, 45, 46, 47, 48, 49, 50, 51, 52, 53, 54, 55, 56, 57, 58, 59, 60, 61, 62, 63, 64, 65, 66, 67, 68, 69, 70, 71, 72, 73, 74, 75, 76, 77, 78, 79, 80, 81, 82, 83, 84, 85, 86, 87, 88, 89, 90, 91, 92, 93, 94, 95, 96, 97, 113, 114, 115, 116, 117, 118, 119, 120, 121, 122, 123] (by decide +kernel) (by decide +kernel)
set_option maxRecDepth 20000 in
theorem gX11_product_X4_multiply_n170 : GoodIn wsX11_product (wsX4_multiply) := ggX11_product_X4_multiply
theorem dX11_product_0 : decode cX11_product 0 = .ok (.aload_n 0, 1) := by decide +kernel
theorem dX11_product_1 : decode cX11_product 1 = .ok (.iload_n 1, 1) := by decide +kernel
theorem dX11_product_2 : decode cX11_product 2 = .ok (.invokevirtual 110, 3) := by decide +kernel
theorem dX11_product_5 : decode cX11_product 5 = .ok (.astore 4, 2) := by decide +kernel
theorem dX11_product_7 : decode cX11_product 7 = .ok (.aload_n 0, 1) := by decide +kernel
theorem dX11_product_8 : decode cX11_product 8 = .ok (.iload_n 2, 1) := by decide +kernel
theorem dX11_product_9 : decode cX11_product 9 = .ok (.invokevirtual 110, 3) := by decide +kernel
theorem dX11_product_12 : decode cX11_product 12 = .ok (.astore 5, 2) := by decide +kernel
theorem dX11_product_14 : decode cX11_product 14 = .ok (.aload_n 0, 1) := by decide +kernel
theorem dX11_product_15 : decode cX11_product 15 = .ok (.iload_n 3, 1) := by decide +kernel
theorem dX11_product_16 : decode cX11_product 16 = .ok (.invokevirtual 110, 3) := by decide +kernel
theorem dX11_product_19 : decode cX11_product 19 = .ok (.astore 6, 2) := by decide +kernel
theorem dX11_product_21 : decode cX11_product 21 = .ok (.aload 4, 2) := by decide +kernel
theorem dX11_product_23 : decode cX11_product 23 = .ok (.ifnull 13, 3) := by decide +kernel
theorem dX11_product_26 : decode cX11_product 26 = .ok (.aload 5, 2) := by decide +kernel
theorem dX11_product_28 : decode cX11_product 28 = .ok (.ifnull 8, 3) := by decide +kernel
theorem dX11_product_31 : decode cX11_product 31 = .ok (.aload 6, 2) := by decide +kernel
theorem dX11_product_33 : decode cX11_product 33 = .ok (.ifnonnull 6, 3) := by decide +kernel
theorem dX11_product_36 : decode cX11_product 36 = .ok (.ldc 72, 2) := by decide +kernel
theorem dX11_product_38 : decode cX11_product 38 = .ok (.ireturn, 1) := by decide +kernel
theorem dX11_product_39 : decode cX11_product 39 = .ok (.aload_n 0, 1) := by decide +kernel
theorem dX11_product_40 : decode cX11_product 40 = .ok (.getfield 21, 3) := by decide +kernel
theorem dX11_product_43 : decode cX11_product 43 = .ok (.aload 4, 2) := by decide +kernel
theorem dX11_product_45 : decode cX11_product 45 = .ok (.aload 5, 2) := by decide +kernel
theorem dX11_product_47 : decode cX11_product 47 = .ok (.aload 6, 2) := by decide +kernel
theorem dX11_product_49 : decode cX11_product 49 = .ok (.invokevirtual 170, 3) := by decide +kernel
theorem dX11_product_52 : decode cX11_product 52 = .ok (.ifCond .eq 11, 3) := by decide +kernel
theorem dX11_product_55 : decode cX11_product 55 = .ok (.aload 4, 2) := by decide +kernel
theorem dX11_product_57 : decode cX11_product 57 = .ok (.getfield 114, 3) := by decide +kernel
theorem dX11_product_60 : decode cX11_product 60 = .ok (.goto 5, 3) := by decide +kernel
theorem dX11_product_63 : decode cX11_product 63 = .ok (.ldc 134, 2) := by decide +kernel
theorem dX11_product_65 : decode cX11_product 65 = .ok (.ireturn, 1) := by decide +kernel
set_option maxRecDepth 20000 in
theorem ggX11_digest_X11_sumAt : GoodIn wsX11_digest wsX11_sumAt := goodIn_r _ [8, 9, 10, 11, 7, 12, 28, 29, 30, 31, 32, 33, 34, 35, 36, 37, 38, 39, 40, 41, 42] (by decide +kernel) (by decide +kernel)
set_option maxRecDepth 20000 in
theorem gX11_digest_X11_sumAt : GoodIn wsX11_digest (wsV RX11 110 RX11 yX11_sumAt wsX11_sumAt) := goodIn_app (goodIn_of _ (by decide +kernel)) ggX11_digest_X11_sumAt
set_option maxRecDepth 20000 in
theorem ggX11_digest_X11_productOf : GoodIn wsX11_digest wsX11_productOf := goodIn_r _ [15] (by decide +kernel) (by decide +kernel)
set_option maxRecDepth 20000 in
theorem gX11_digest_X11_productOf : GoodIn wsX11_digest (va_wsS RX11 161 yX11_productOf wsX11_productOf) := goodIn_app (goodIn_of _ (by decide +kernel)) ggX11_digest_X11_productOf
set_option maxRecDepth 20000 in
theorem ggX11_digest_X11_powerOf : GoodIn wsX11_digest wsX11_powerOf := goodIn_r _ [18, 19, 20, 7, 21, 22, 23, 24] (by decide +kernel) (by decide +kernel)
set_option maxRecDepth 20000 in
theorem gX11_digest_X11_powerOf : GoodIn wsX11_digest (va_wsS RX11 164 yX11_powerOf wsX11_powerOf) := goodIn_app (goodIn_of _ (by decide +kernel)) ggX11_digest_X11_powerOf
theorem dX11_digest_0 : decode cX11_digest 0 = .ok (.aload_n 0, 1) := by decide +kernel
theorem dX11_digest_1 : decode cX11_digest 1 = .ok (.iload_n 1, 1) := by decide +kernel
theorem dX11_digest_2 : decode cX11_digest 2 = .ok (.invokevirtual 110, 3) := by decide +kernel
theorem dX11_digest_5 : decode cX11_digest 5 = .ok (.astore_n 2, 1) := by decide +kernel
theorem dX11_digest_6 : decode cX11_digest 6 = .ok (.aload_n 2, 1) := by decide +kernel
theorem dX11_digest_7 : decode cX11_digest 7 = .ok (.ifnonnull 7, 3) := by decide +kernel
theorem dX11_digest_10 : decode cX11_digest 10 = .ok (.ldc2_w 152, 3) := by decide +kernel
theorem dX11_digest_13 : decode cX11_digest 13 = .ok (.lreturn, 1) := by decide +kernel
theorem dX11_digest_14 : decode cX11_digest 14 = .ok (.ldc2_w 174, 3) := by decide +kernel
theorem dX11_digest_17 : decode cX11_digest 17 = .ok (.lstore_n 3, 1) := by decide +kernel
theorem dX11_digest_18 : decode cX11_digest 18 = .ok (.iconst 0, 1) := by decide +kernel
theorem dX11_digest_19 : decode cX11_digest 19 = .ok (.istore 5, 2) := by decide +kernel
theorem dX11_digest_21 : decode cX11_digest 21 = .ok (.iload 5, 2) := by decide +kernel
theorem dX11_digest_23 : decode cX11_digest 23 = .ok (.aload_n 2, 1) := by decide +kernel
theorem dX11_digest_24 : decode cX11_digest 24 = .ok (.getfield 114, 3) := by decide +kernel
theorem dX11_digest_27 : decode cX11_digest 27 = .ok (.if_icmp .ge 77, 3) := by decide +kernel
theorem dX11_digest_30 : decode cX11_digest 30 = .ok (.ldc2_w 176, 3) := by decide +kernel
theorem dX11_digest_33 : decode cX11_digest 33 = .ok (.lload_n 3, 1) := by decide +kernel
theorem dX11_digest_34 : decode cX11_digest 34 = .ok (.lmul, 1) := by decide +kernel
theorem dX11_digest_35 : decode cX11_digest 35 = .ok (.aload_n 2, 1) := by decide +kernel
theorem dX11_digest_36 : decode cX11_digest 36 = .ok (.getfield 158, 3) := by decide +kernel
theorem dX11_digest_39 : decode cX11_digest 39 = .ok (.iload 5, 2) := by decide +kernel
theorem dX11_digest_41 : decode cX11_digest 41 = .ok (.iaload, 1) := by decide +kernel
theorem dX11_digest_42 : decode cX11_digest 42 = .ok (.invokestatic 161, 3) := by decide +kernel
theorem dX11_digest_45 : decode cX11_digest 45 = .ok (.i2l, 1) := by decide +kernel
theorem dX11_digest_46 : decode cX11_digest 46 = .ok (.ladd, 1) := by decide +kernel
theorem dX11_digest_47 : decode cX11_digest 47 = .ok (.lstore_n 3, 1) := by decide +kernel
theorem dX11_digest_48 : decode cX11_digest 48 = .ok (.iconst 0, 1) := by decide +kernel
theorem dX11_digest_49 : decode cX11_digest 49 = .ok (.istore 6, 2) := by decide +kernel
theorem dX11_digest_51 : decode cX11_digest 51 = .ok (.iload 6, 2) := by decide +kernel
theorem dX11_digest_53 : decode cX11_digest 53 = .ok (.bipush 8, 2) := by decide +kernel
theorem dX11_digest_55 : decode cX11_digest 55 = .ok (.if_icmp .ge 29, 3) := by decide +kernel
theorem dX11_digest_58 : decode cX11_digest 58 = .ok (.ldc2_w 176, 3) := by decide +kernel
theorem dX11_digest_61 : decode cX11_digest 61 = .ok (.lload_n 3, 1) := by decide +kernel
theorem dX11_digest_62 : decode cX11_digest 62 = .ok (.lmul, 1) := by decide +kernel
theorem dX11_digest_63 : decode cX11_digest 63 = .ok (.aload_n 2, 1) := by decide +kernel
theorem dX11_digest_64 : decode cX11_digest 64 = .ok (.getfield 158, 3) := by decide +kernel
theorem dX11_digest_67 : decode cX11_digest 67 = .ok (.iload 5, 2) := by decide +kernel
theorem dX11_digest_69 : decode cX11_digest 69 = .ok (.iaload, 1) := by decide +kernel
theorem dX11_digest_70 : decode cX11_digest 70 = .ok (.iload 6, 2) := by decide +kernel
theorem dX11_digest_72 : decode cX11_digest 72 = .ok (.invokestatic 164, 3) := by decide +kernel
theorem dX11_digest_75 : decode cX11_digest 75 = .ok (.i2l, 1) := by decide +kernel
theorem dX11_digest_76 : decode cX11_digest 76 = .ok (.ladd, 1) := by decide +kernel
theorem dX11_digest_77 : decode cX11_digest 77 = .ok (.lstore_n 3, 1) := by decide +kernel
theorem dX11_digest_78 : decode cX11_digest 78 = .ok (.iinc 6 1, 3) := by decide +kernel
theorem dX11_digest_81 : decode cX11_digest 81 = .ok (.goto (-30), 3) := by decide +kernel
theorem dX11_digest_84 : decode cX11_digest 84 = .ok (.ldc2_w 176, 3) := by decide +kernel
theorem dX11_digest_87 : decode cX11_digest 87 = .ok (.lload_n 3, 1) := by decide +kernel
theorem dX11_digest_88 : decode cX11_digest 88 = .ok (.lmul, 1) := by decide +kernel
theorem dX11_digest_89 : decode cX11_digest 89 = .ok (.aload_n 2, 1) := by decide +kernel
theorem dX11_digest_90 : decode cX11_digest 90 = .ok (.getfield 154, 3) := by decide +kernel
theorem dX11_digest_93 : decode cX11_digest 93 = .ok (.iload 5, 2) := by decide +kernel
theorem dX11_digest_95 : decode cX11_digest 95 = .ok (.laload, 1) := by decide +kernel
theorem dX11_digest_96 : decode cX11_digest 96 = .ok (.ladd, 1) := by decide +kernel
theorem dX11_digest_97 : decode cX11_digest 97 = .ok (.lstore_n 3, 1) := by decide +kernel
theorem dX11_digest_98 : decode cX11_digest 98 = .ok (.iinc 5 1, 3) := by decide +kernel
theorem dX11_digest_101 : decode cX11_digest 101 = .ok (.goto (-80), 3) := by decide +kernel
theorem dX11_digest_104 : decode cX11_digest 104 = .ok (.lload_n 3, 1) := by decide +kernel
theorem dX11_digest_105 : decode cX11_digest 105 = .ok (.lreturn, 1) := by decide +kernel
set_option maxRecDepth 20000 in
theorem ggX11_pulse_X11_isPulse : GoodIn wsX11_pulse wsX11_isPulse := goodIn_r _ [11, 12, 13, 14, 10, 15, 46, 47, 48, 49, 50, 51, 52, 53, 54, 55, 56, 57, 58, 59, 60] (by decide +kernel) (by decide +kernel)
set_option maxRecDepth 20000 in
theorem gX11_pulse_X11_isPulse : GoodIn wsX11_pulse (wsV RX11 178 RX11 yX11_isPulse wsX11_isPulse) := goodIn_app (goodIn_of _ (by decide +kernel)) ggX11_pulse_X11_isPulse
set_option maxRecDepth 20000 in
theorem ggX11_pulse_X6_init : GoodIn wsX11_pulse wsX6_init := goodIn_r _ [18, 19, 20, 21, 22, 23, 24, 25, 26, 27, 28, 29, 30, 31, 32, 33, 34, 61, 62, 63, 64, 65, 66, 41, 42, 43, 44, 45, 67, 68, 69, 70, 71, 72, 73, 74, 75, 76, 77, 78, 79, 80, 81] (by decide +kernel) (by decide +kernel)
set_option maxRecDepth 20000 in
theorem gX11_pulse_X6_init : GoodIn wsX11_pulse (wsX6_init) := ggX11_pulse_X6_init
set_option maxRecDepth 20000 in
theorem ggX11_pulse_X11_append : GoodIn wsX11_pulse wsX11_append := goodIn_r _ [38, 5, 39, 40, 46, 47, 48, 49, 50, 51, 52, 53, 54, 55, 56, 57, 58, 59, 60] (by decide +kernel) (by decide +kernel)
set_option maxRecDepth 20000 in
theorem gX11_pulse_X11_append : GoodIn wsX11_pulse (wsV RX11 193 RX11 yX11_append wsX11_append) := goodIn_app (goodIn_of _ (by decide +kernel)) ggX11_pulse_X11_append
theorem dX11_pulse_0 : decode cX11_pulse 0 = .ok (.aload_n 0, 1) := by decide +kernel
theorem dX11_pulse_1 : decode cX11_pulse 1 = .ok (.iload_n 1, 1) := by decide +kernel
theorem dX11_pulse_2 : decode cX11_pulse 2 = .ok (.iload_n 2, 1) := by decide +kernel
theorem dX11_pulse_3 : decode cX11_pulse 3 = .ok (.iload_n 3, 1) := by decide +kernel
theorem dX11_pulse_4 : decode cX11_pulse 4 = .ok (.invokevirtual 178, 3) := by decide +kernel
theorem dX11_pulse_7 : decode cX11_pulse 7 = .ok (.ifCond .ne 6, 3) := by decide +kernel
theorem dX11_pulse_10 : decode cX11_pulse 10 = .ok (.ldc 72, 2) := by decide +kernel
theorem dX11_pulse_12 : decode cX11_pulse 12 = .ok (.ireturn, 1) := by decide +kernel
theorem dX11_pulse_13 : decode cX11_pulse 13 = .ok (.aload_n 0, 1) := by decide +kernel
theorem dX11_pulse_14 : decode cX11_pulse 14 = .ok (.new 181, 3) := by decide +kernel
theorem dX11_pulse_17 : decode cX11_pulse 17 = .ok (.dup, 1) := by decide +kernel
theorem dX11_pulse_18 : decode cX11_pulse 18 = .ok (.aload_n 0, 1) := by decide +kernel
theorem dX11_pulse_19 : decode cX11_pulse 19 = .ok (.getfield 183, 3) := by decide +kernel
theorem dX11_pulse_22 : decode cX11_pulse 22 = .ok (.aload_n 0, 1) := by decide +kernel
theorem dX11_pulse_23 : decode cX11_pulse 23 = .ok (.getfield 186, 3) := by decide +kernel
theorem dX11_pulse_26 : decode cX11_pulse 26 = .ok (.iload_n 1, 1) := by decide +kernel
theorem dX11_pulse_27 : decode cX11_pulse 27 = .ok (.iload_n 2, 1) := by decide +kernel
theorem dX11_pulse_28 : decode cX11_pulse 28 = .ok (.iload_n 3, 1) := by decide +kernel
theorem dX11_pulse_29 : decode cX11_pulse 29 = .ok (.invokespecial 190, 3) := by decide +kernel
theorem dX11_pulse_32 : decode cX11_pulse 32 = .ok (.invokevirtual 193, 3) := by decide +kernel
theorem dX11_pulse_35 : decode cX11_pulse 35 = .ok (.ireturn, 1) := by decide +kernel
set_option maxRecDepth 20000 in
theorem ggX11_cycled_X11_isPulse : GoodIn wsX11_cycled wsX11_isPulse := goodIn_r _ [11, 12, 13, 14, 10, 15, 52, 53, 54, 55, 56, 57, 58, 59, 60, 61, 62, 63, 64, 65, 66] (by decide +kernel) (by decide +kernel)
set_option maxRecDepth 20000 in
theorem gX11_cycled_X11_isPulse : GoodIn wsX11_cycled (wsV RX11 178 RX11 yX11_isPulse wsX11_isPulse) := goodIn_app (goodIn_of _ (by decide +kernel)) ggX11_cycled_X11_isPulse
set_option maxRecDepth 20000 in
theorem ggX11_cycled_X11_within : GoodIn wsX11_cycled wsX11_within := goodIn_r _ [15] (by decide +kernel) (by decide +kernel)
set_option maxRecDepth 20000 in
theorem gX11_cycled_X11_within : GoodIn wsX11_cycled (va_wsS RX11 68 yX11_within wsX11_within) := goodIn_app (goodIn_of _ (by decide +kernel)) ggX11_cycled_X11_within
set_option maxRecDepth 20000 in
theorem ggX11_cycled_X0_init : GoodIn wsX11_cycled wsX0_init := goodIn_r _ [18, 19, 20, 21, 22, 23, 24, 25, 26, 27, 28, 29, 30, 31, 32, 33, 34, 35, 36, 37, 38, 39, 46, 47, 48, 49, 50, 51, 67, 68, 69, 70, 71, 72, 73, 74, 75, 76, 77, 78, 79, 80, 81, 82, 83, 84, 85, 86] (by decide +kernel) (by decide +kernel)
set_option maxRecDepth 20000 in
theorem gX11_cycled_X0_init : GoodIn wsX11_cycled (wsX0_init) := ggX11_cycled_X0_init
set_option maxRecDepth 20000 in
theorem ggX11_cycled_X11_append : GoodIn wsX11_cycled wsX11_append := goodIn_r _ [43, 5, 44, 45, 52, 53, 54, 55, 56, 57, 58, 59, 60, 61, 62, 63, 64, 65, 66] (by decide +kernel) (by decide +kernel)
set_option maxRecDepth 20000 in
theorem gX11_cycled_X11_append : GoodIn wsX11_cycled (wsV RX11 193 RX11 yX11_append wsX11_append) := goodIn_app (goodIn_of _ (by decide +kernel)) ggX11_cycled_X11_append
theorem dX11_cycled_0 : decode cX11_cycled 0 = .ok (.aload_n 0, 1) := by decide +kernel
theorem dX11_cycled_1 : decode cX11_cycled 1 = .ok (.iload_n 1, 1) := by decide +kernel
theorem dX11_cycled_2 : decode cX11_cycled 2 = .ok (.iload_n 2, 1) := by decide +kernel
theorem dX11_cycled_3 : decode cX11_cycled 3 = .ok (.iload_n 3, 1) := by decide +kernel
theorem dX11_cycled_4 : decode cX11_cycled 4 = .ok (.invokevirtual 178, 3) := by decide +kernel
theorem dX11_cycled_7 : decode cX11_cycled 7 = .ok (.ifCond .eq 14, 3) := by decide +kernel
theorem dX11_cycled_10 : decode cX11_cycled 10 = .ok (.iload 4, 2) := by decide +kernel
theorem dX11_cycled_12 : decode cX11_cycled 12 = .ok (.iconst 0, 1) := by decide +kernel
theorem dX11_cycled_13 : decode cX11_cycled 13 = .ok (.bipush 7, 2) := by decide +kernel
theorem dX11_cycled_15 : decode cX11_cycled 15 = .ok (.invokestatic 68, 3) := by decide +kernel
theorem dX11_cycled_18 : decode cX11_cycled 18 = .ok (.ifCond .ne 6, 3) := by decide +kernel
theorem dX11_cycled_21 : decode cX11_cycled 21 = .ok (.ldc 72, 2) := by decide +kernel
theorem dX11_cycled_23 : decode cX11_cycled 23 = .ok (.ireturn, 1) := by decide +kernel
theorem dX11_cycled_24 : decode cX11_cycled 24 = .ok (.aload_n 0, 1) := by decide +kernel
theorem dX11_cycled_25 : decode cX11_cycled 25 = .ok (.new 197, 3) := by decide +kernel
theorem dX11_cycled_28 : decode cX11_cycled 28 = .ok (.dup, 1) := by decide +kernel
theorem dX11_cycled_29 : decode cX11_cycled 29 = .ok (.aload_n 0, 1) := by decide +kernel
theorem dX11_cycled_30 : decode cX11_cycled 30 = .ok (.getfield 183, 3) := by decide +kernel
theorem dX11_cycled_33 : decode cX11_cycled 33 = .ok (.aload_n 0, 1) := by decide +kernel
theorem dX11_cycled_34 : decode cX11_cycled 34 = .ok (.getfield 186, 3) := by decide +kernel
theorem dX11_cycled_37 : decode cX11_cycled 37 = .ok (.iload_n 1, 1) := by decide +kernel
theorem dX11_cycled_38 : decode cX11_cycled 38 = .ok (.iload_n 2, 1) := by decide +kernel
theorem dX11_cycled_39 : decode cX11_cycled 39 = .ok (.iload_n 3, 1) := by decide +kernel
theorem dX11_cycled_40 : decode cX11_cycled 40 = .ok (.iload 4, 2) := by decide +kernel
theorem dX11_cycled_42 : decode cX11_cycled 42 = .ok (.invokespecial 199, 3) := by decide +kernel
theorem dX11_cycled_45 : decode cX11_cycled 45 = .ok (.invokevirtual 193, 3) := by decide +kernel
theorem dX11_cycled_48 : decode cX11_cycled 48 = .ok (.ireturn, 1) := by decide +kernel
set_option maxRecDepth 20000 in
theorem ggX11_delay_X11_isProduct : GoodIn wsX11_delay wsX11_isProduct := goodIn_r _ [11, 12, 13, 14, 10, 15, 49, 50, 51, 52, 53, 54, 55, 56, 57, 58, 59, 60, 61, 62, 63] (by decide +kernel) (by decide +kernel)
set_option maxRecDepth 20000 in
theorem gX11_delay_X11_isProduct : GoodIn wsX11_delay (wsV RX11 115 RX11 yX11_isProduct wsX11_isProduct) := goodIn_app (goodIn_of _ (by decide +kernel)) ggX11_delay_X11_isProduct
set_option maxRecDepth 20000 in
theorem ggX11_delay_X11_within : GoodIn wsX11_delay wsX11_within := goodIn_r _ [15] (by decide +kernel) (by decide +kernel)
set_option maxRecDepth 20000 in
theorem gX11_delay_X11_within : GoodIn wsX11_delay (va_wsS RX11 68 yX11_within wsX11_within) := goodIn_app (goodIn_of _ (by decide +kernel)) ggX11_delay_X11_within
set_option maxRecDepth 20000 in
theorem ggX11_delay_X11_isWay : GoodIn wsX11_delay wsX11_isWay := goodIn_r _ [18] (by decide +kernel) (by decide +kernel)
set_option maxRecDepth 20000 in
theorem gX11_delay_X11_isWay : GoodIn wsX11_delay (va_wsS RX11 146 yX11_isWay wsX11_isWay) := goodIn_app (goodIn_of _ (by decide +kernel)) ggX11_delay_X11_isWay
set_option maxRecDepth 20000 in
theorem ggX11_delay_X1_init : GoodIn wsX11_delay wsX1_init := goodIn_r _ [21, 22, 23, 24, 25, 26, 27, 28, 29, 30, 31, 32, 33, 34, 35, 36, 37, 44, 45, 46, 47, 48, 64, 65, 66, 67, 68, 69, 70, 71, 72, 73, 74, 75, 76, 77, 78, 79, 80, 81, 82, 83, 84] (by decide +kernel) (by decide +kernel)
set_option maxRecDepth 20000 in
theorem gX11_delay_X1_init : GoodIn wsX11_delay (wsX1_init) := ggX11_delay_X1_init
set_option maxRecDepth 20000 in
theorem ggX11_delay_X11_append : GoodIn wsX11_delay wsX11_append := goodIn_r _ [41, 5, 42, 43, 49, 50, 51, 52, 53, 54, 55, 56, 57, 58, 59, 60, 61, 62, 63] (by decide +kernel) (by decide +kernel)
set_option maxRecDepth 20000 in
theorem gX11_delay_X11_append : GoodIn wsX11_delay (wsV RX11 193 RX11 yX11_append wsX11_append) := goodIn_app (goodIn_of _ (by decide +kernel)) ggX11_delay_X11_append
theorem dX11_delay_0 : decode cX11_delay 0 = .ok (.aload_n 0, 1) := by decide +kernel
theorem dX11_delay_1 : decode cX11_delay 1 = .ok (.iload_n 1, 1) := by decide +kernel
theorem dX11_delay_2 : decode cX11_delay 2 = .ok (.invokevirtual 115, 3) := by decide +kernel
theorem dX11_delay_5 : decode cX11_delay 5 = .ok (.ifCond .eq 19, 3) := by decide +kernel
theorem dX11_delay_8 : decode cX11_delay 8 = .ok (.iload_n 2, 1) := by decide +kernel
theorem dX11_delay_9 : decode cX11_delay 9 = .ok (.iconst 0, 1) := by decide +kernel
theorem dX11_delay_10 : decode cX11_delay 10 = .ok (.iconst 3, 1) := by decide +kernel
theorem dX11_delay_11 : decode cX11_delay 11 = .ok (.invokestatic 68, 3) := by decide +kernel
theorem dX11_delay_14 : decode cX11_delay 14 = .ok (.ifCond .eq 10, 3) := by decide +kernel
theorem dX11_delay_17 : decode cX11_delay 17 = .ok (.iload_n 3, 1) := by decide +kernel
theorem dX11_delay_18 : decode cX11_delay 18 = .ok (.invokestatic 146, 3) := by decide +kernel
theorem dX11_delay_21 : decode cX11_delay 21 = .ok (.ifCond .ne 6, 3) := by decide +kernel
theorem dX11_delay_24 : decode cX11_delay 24 = .ok (.ldc 72, 2) := by decide +kernel
theorem dX11_delay_26 : decode cX11_delay 26 = .ok (.ireturn, 1) := by decide +kernel
theorem dX11_delay_27 : decode cX11_delay 27 = .ok (.aload_n 0, 1) := by decide +kernel
theorem dX11_delay_28 : decode cX11_delay 28 = .ok (.new 202, 3) := by decide +kernel
theorem dX11_delay_31 : decode cX11_delay 31 = .ok (.dup, 1) := by decide +kernel
theorem dX11_delay_32 : decode cX11_delay 32 = .ok (.aload_n 0, 1) := by decide +kernel
theorem dX11_delay_33 : decode cX11_delay 33 = .ok (.getfield 183, 3) := by decide +kernel
theorem dX11_delay_36 : decode cX11_delay 36 = .ok (.aload_n 0, 1) := by decide +kernel
theorem dX11_delay_37 : decode cX11_delay 37 = .ok (.getfield 186, 3) := by decide +kernel
theorem dX11_delay_40 : decode cX11_delay 40 = .ok (.iload_n 1, 1) := by decide +kernel
theorem dX11_delay_41 : decode cX11_delay 41 = .ok (.iload_n 2, 1) := by decide +kernel
theorem dX11_delay_42 : decode cX11_delay 42 = .ok (.iload_n 3, 1) := by decide +kernel
theorem dX11_delay_43 : decode cX11_delay 43 = .ok (.invokespecial 204, 3) := by decide +kernel
theorem dX11_delay_46 : decode cX11_delay 46 = .ok (.invokevirtual 193, 3) := by decide +kernel
theorem dX11_delay_49 : decode cX11_delay 49 = .ok (.ireturn, 1) := by decide +kernel
set_option maxRecDepth 20000 in
theorem ggX11_round_X11_within : GoodIn wsX11_round wsX11_within := goodIn_r _ [12] (by decide +kernel) (by decide +kernel)
set_option maxRecDepth 20000 in
theorem gX11_round_X11_within : GoodIn wsX11_round (va_wsS RX11 68 yX11_within wsX11_within) := goodIn_app (goodIn_of _ (by decide +kernel)) ggX11_round_X11_within
set_option maxRecDepth 20000 in
theorem ggX11_round_X11_openRounds : GoodIn wsX11_round wsX11_openRounds := goodIn_r _ [16, 7, 17, 18, 41, 42, 43, 44, 45, 46, 47, 48, 49, 50, 51, 52, 53, 54, 55, 56, 57, 58, 59, 60, 61, 62, 63, 64, 65, 66, 67, 68, 69, 70, 71, 72, 73, 37, 38, 39, 40, 74, 75, 76, 77] (by decide +kernel) (by decide +kernel)
set_option maxRecDepth 20000 in
theorem gX11_round_X11_openRounds : GoodIn wsX11_round (wsV RX11 205 RX11 yX11_openRounds wsX11_openRounds) := goodIn_app (goodIn_of _ (by decide +kernel)) ggX11_round_X11_openRounds
set_option maxRecDepth 20000 in
theorem ggX11_round_X7_init : GoodIn wsX11_round wsX7_init := goodIn_r _ [21, 22, 23, 24, 25, 26, 27, 28, 29, 30, 31, 37, 38, 39, 40, 56, 57, 58, 59, 60, 61, 62, 63, 64, 65, 66, 67, 68, 69, 70, 71, 72, 73, 74, 75, 76, 77] (by decide +kernel) (by decide +kernel)
set_option maxRecDepth 20000 in
theorem gX11_round_X7_init : GoodIn wsX11_round (wsX7_init) := ggX11_round_X7_init
set_option maxRecDepth 20000 in
theorem ggX11_round_X11_append : GoodIn wsX11_round wsX11_append := goodIn_r _ [35, 6, 8, 36, 41, 42, 43, 44, 45, 46, 47, 48, 49, 50, 51, 52, 53, 54, 55] (by decide +kernel) (by decide +kernel)
set_option maxRecDepth 20000 in
theorem gX11_round_X11_append : GoodIn wsX11_round (wsV RX11 193 RX11 yX11_append wsX11_append) := goodIn_app (goodIn_of _ (by decide +kernel)) ggX11_round_X11_append
theorem dX11_round_0 : decode cX11_round 0 = .ok (.iload_n 1, 1) := by decide +kernel
theorem dX11_round_1 : decode cX11_round 1 = .ok (.iconst 1, 1) := by decide +kernel
theorem dX11_round_2 : decode cX11_round 2 = .ok (.bipush 8, 2) := by decide +kernel
theorem dX11_round_4 : decode cX11_round 4 = .ok (.invokestatic 68, 3) := by decide +kernel
theorem dX11_round_7 : decode cX11_round 7 = .ok (.ifCond .ne 6, 3) := by decide +kernel
theorem dX11_round_10 : decode cX11_round 10 = .ok (.ldc 72, 2) := by decide +kernel
theorem dX11_round_12 : decode cX11_round 12 = .ok (.ireturn, 1) := by decide +kernel
theorem dX11_round_13 : decode cX11_round 13 = .ok (.aload_n 0, 1) := by decide +kernel
theorem dX11_round_14 : decode cX11_round 14 = .ok (.invokevirtual 205, 3) := by decide +kernel
theorem dX11_round_17 : decode cX11_round 17 = .ok (.iconst 3, 1) := by decide +kernel
theorem dX11_round_18 : decode cX11_round 18 = .ok (.if_icmp .lt 6, 3) := by decide +kernel
theorem dX11_round_21 : decode cX11_round 21 = .ok (.ldc 209, 2) := by decide +kernel
theorem dX11_round_23 : decode cX11_round 23 = .ok (.ireturn, 1) := by decide +kernel
theorem dX11_round_24 : decode cX11_round 24 = .ok (.new 210, 3) := by decide +kernel
theorem dX11_round_27 : decode cX11_round 27 = .ok (.dup, 1) := by decide +kernel
theorem dX11_round_28 : decode cX11_round 28 = .ok (.aload_n 0, 1) := by decide +kernel
theorem dX11_round_29 : decode cX11_round 29 = .ok (.getfield 183, 3) := by decide +kernel
theorem dX11_round_32 : decode cX11_round 32 = .ok (.aload_n 0, 1) := by decide +kernel
theorem dX11_round_33 : decode cX11_round 33 = .ok (.getfield 186, 3) := by decide +kernel
theorem dX11_round_36 : decode cX11_round 36 = .ok (.iload_n 1, 1) := by decide +kernel
theorem dX11_round_37 : decode cX11_round 37 = .ok (.invokespecial 212, 3) := by decide +kernel
theorem dX11_round_40 : decode cX11_round 40 = .ok (.astore_n 2, 1) := by decide +kernel
theorem dX11_round_41 : decode cX11_round 41 = .ok (.aload_n 0, 1) := by decide +kernel
theorem dX11_round_42 : decode cX11_round 42 = .ok (.aload_n 2, 1) := by decide +kernel
theorem dX11_round_43 : decode cX11_round 43 = .ok (.invokevirtual 193, 3) := by decide +kernel
theorem dX11_round_46 : decode cX11_round 46 = .ok (.istore_n 3, 1) := by decide +kernel
theorem dX11_round_47 : decode cX11_round 47 = .ok (.iload_n 3, 1) := by decide +kernel
theorem dX11_round_48 : decode cX11_round 48 = .ok (.ldc 134, 2) := by decide +kernel
theorem dX11_round_50 : decode cX11_round 50 = .ok (.if_icmp .eq 8, 3) := by decide +kernel
theorem dX11_round_53 : decode cX11_round 53 = .ok (.aload_n 0, 1) := by decide +kernel
theorem dX11_round_54 : decode cX11_round 54 = .ok (.aload_n 2, 1) := by decide +kernel
theorem dX11_round_55 : decode cX11_round 55 = .ok (.putfield 186, 3) := by decide +kernel
theorem dX11_round_58 : decode cX11_round 58 = .ok (.iload_n 3, 1) := by decide +kernel
theorem dX11_round_59 : decode cX11_round 59 = .ok (.ireturn, 1) := by decide +kernel
set_option maxRecDepth 20000 in
theorem ggX11_end_X2_init : GoodIn wsX11_end wsX2_init := goodIn_r _ [12, 13, 14, 15, 16, 17, 18, 19, 20, 21, 45, 46, 47, 48, 49, 50, 51, 52, 53, 54, 55, 43, 44, 56, 57, 58, 59, 60, 61, 62, 63, 64, 65, 66, 67, 68] (by decide +kernel) (by decide +kernel)
set_option maxRecDepth 20000 in
theorem gX11_end_X2_init : GoodIn wsX11_end (wsX2_init) := ggX11_end_X2_init
set_option maxRecDepth 20000 in
theorem ggX11_end_X11_append : GoodIn wsX11_end wsX11_append := goodIn_r _ [26, 6, 7, 27, 28, 29, 30, 31, 32, 33, 34, 35, 36, 37, 38, 39, 40, 41, 42] (by decide +kernel) (by decide +kernel)
set_option maxRecDepth 20000 in
theorem gX11_end_X11_append : GoodIn wsX11_end (wsV RX11 193 RX11 yX11_append wsX11_append) := goodIn_app (goodIn_of _ (by decide +kernel)) ggX11_end_X11_append
theorem dX11_end_0 : decode cX11_end 0 = .ok (.aload_n 0, 1) := by decide +kernel
theorem dX11_end_1 : decode cX11_end 1 = .ok (.getfield 186, 3) := by decide +kernel
theorem dX11_end_4 : decode cX11_end 4 = .ok (.astore_n 1, 1) := by decide +kernel
theorem dX11_end_5 : decode cX11_end 5 = .ok (.aload_n 1, 1) := by decide +kernel
theorem dX11_end_6 : decode cX11_end 6 = .ok (.ifnonnull 6, 3) := by decide +kernel
theorem dX11_end_9 : decode cX11_end 9 = .ok (.ldc 209, 2) := by decide +kernel
theorem dX11_end_11 : decode cX11_end 11 = .ok (.ireturn, 1) := by decide +kernel
theorem dX11_end_12 : decode cX11_end 12 = .ok (.aload_n 0, 1) := by decide +kernel
theorem dX11_end_13 : decode cX11_end 13 = .ok (.new 215, 3) := by decide +kernel
theorem dX11_end_16 : decode cX11_end 16 = .ok (.dup, 1) := by decide +kernel
theorem dX11_end_17 : decode cX11_end 17 = .ok (.aload_n 0, 1) := by decide +kernel
theorem dX11_end_18 : decode cX11_end 18 = .ok (.getfield 183, 3) := by decide +kernel
theorem dX11_end_21 : decode cX11_end 21 = .ok (.aload_n 1, 1) := by decide +kernel
theorem dX11_end_22 : decode cX11_end 22 = .ok (.invokespecial 217, 3) := by decide +kernel
theorem dX11_end_25 : decode cX11_end 25 = .ok (.invokevirtual 193, 3) := by decide +kernel
theorem dX11_end_28 : decode cX11_end 28 = .ok (.istore_n 2, 1) := by decide +kernel
theorem dX11_end_29 : decode cX11_end 29 = .ok (.iload_n 2, 1) := by decide +kernel
theorem dX11_end_30 : decode cX11_end 30 = .ok (.ldc 134, 2) := by decide +kernel
theorem dX11_end_32 : decode cX11_end 32 = .ok (.if_icmp .eq 11, 3) := by decide +kernel
theorem dX11_end_35 : decode cX11_end 35 = .ok (.aload_n 0, 1) := by decide +kernel
theorem dX11_end_36 : decode cX11_end 36 = .ok (.aload_n 1, 1) := by decide +kernel
theorem dX11_end_37 : decode cX11_end 37 = .ok (.getfield 220, 3) := by decide +kernel
theorem dX11_end_40 : decode cX11_end 40 = .ok (.putfield 186, 3) := by decide +kernel
theorem dX11_end_43 : decode cX11_end 43 = .ok (.iload_n 2, 1) := by decide +kernel
theorem dX11_end_44 : decode cX11_end 44 = .ok (.ireturn, 1) := by decide +kernel
set_option maxRecDepth 20000 in
theorem ggX11_store_X11_within : GoodIn wsX11_store wsX11_within := goodIn_r _ [10] (by decide +kernel) (by decide +kernel)
set_option maxRecDepth 20000 in
theorem gX11_store_X11_within : GoodIn wsX11_store (va_wsS RX11 68 yX11_within wsX11_within) := goodIn_app (goodIn_of _ (by decide +kernel)) ggX11_store_X11_within
set_option maxRecDepth 20000 in
theorem ggX11_store_X8_init : GoodIn wsX11_store wsX8_init := goodIn_r _ [13, 14, 15, 16, 17, 18, 19, 20, 21, 22, 23, 24, 31, 32, 33, 34, 50, 51, 52, 53, 54, 55, 56, 57, 58, 59, 60, 61, 62, 63, 64, 65, 66, 67, 68, 69, 70, 71] (by decide +kernel) (by decide +kernel)
set_option maxRecDepth 20000 in
theorem gX11_store_X8_init : GoodIn wsX11_store (wsX8_init) := ggX11_store_X8_init
set_option maxRecDepth 20000 in
theorem ggX11_store_X11_append : GoodIn wsX11_store wsX11_append := goodIn_r _ [28, 5, 29, 30, 35, 36, 37, 38, 39, 40, 41, 42, 43, 44, 45, 46, 47, 48, 49] (by decide +kernel) (by decide +kernel)
set_option maxRecDepth 20000 in
theorem gX11_store_X11_append : GoodIn wsX11_store (wsV RX11 193 RX11 yX11_append wsX11_append) := goodIn_app (goodIn_of _ (by decide +kernel)) ggX11_store_X11_append
theorem dX11_store_0 : decode cX11_store 0 = .ok (.iload_n 1, 1) := by decide +kernel
theorem dX11_store_1 : decode cX11_store 1 = .ok (.iconst 0, 1) := by decide +kernel
theorem dX11_store_2 : decode cX11_store 2 = .ok (.bipush 7, 2) := by decide +kernel
theorem dX11_store_4 : decode cX11_store 4 = .ok (.invokestatic 68, 3) := by decide +kernel
theorem dX11_store_7 : decode cX11_store 7 = .ok (.ifCond .eq 13, 3) := by decide +kernel
theorem dX11_store_10 : decode cX11_store 10 = .ok (.iload_n 2, 1) := by decide +kernel
theorem dX11_store_11 : decode cX11_store 11 = .ok (.bipush (-3), 2) := by decide +kernel
theorem dX11_store_13 : decode cX11_store 13 = .ok (.iconst 3, 1) := by decide +kernel
theorem dX11_store_14 : decode cX11_store 14 = .ok (.invokestatic 68, 3) := by decide +kernel
theorem dX11_store_17 : decode cX11_store 17 = .ok (.ifCond .ne 6, 3) := by decide +kernel
theorem dX11_store_20 : decode cX11_store 20 = .ok (.ldc 72, 2) := by decide +kernel
theorem dX11_store_22 : decode cX11_store 22 = .ok (.ireturn, 1) := by decide +kernel
theorem dX11_store_23 : decode cX11_store 23 = .ok (.aload_n 0, 1) := by decide +kernel
theorem dX11_store_24 : decode cX11_store 24 = .ok (.new 223, 3) := by decide +kernel
theorem dX11_store_27 : decode cX11_store 27 = .ok (.dup, 1) := by decide +kernel
theorem dX11_store_28 : decode cX11_store 28 = .ok (.aload_n 0, 1) := by decide +kernel
theorem dX11_store_29 : decode cX11_store 29 = .ok (.getfield 183, 3) := by decide +kernel
theorem dX11_store_32 : decode cX11_store 32 = .ok (.aload_n 0, 1) := by decide +kernel
theorem dX11_store_33 : decode cX11_store 33 = .ok (.getfield 186, 3) := by decide +kernel
theorem dX11_store_36 : decode cX11_store 36 = .ok (.iload_n 1, 1) := by decide +kernel
theorem dX11_store_37 : decode cX11_store 37 = .ok (.iload_n 2, 1) := by decide +kernel
theorem dX11_store_38 : decode cX11_store 38 = .ok (.invokespecial 225, 3) := by decide +kernel
theorem dX11_store_41 : decode cX11_store 41 = .ok (.invokevirtual 193, 3) := by decide +kernel
theorem dX11_store_44 : decode cX11_store 44 = .ok (.ireturn, 1) := by decide +kernel
set_option maxRecDepth 20000 in
theorem ggX11_back_X11_opAt : GoodIn wsX11_back wsX11_opAt := goodIn_r _ [10, 1, 3, 11, 12, 9, 13, 14, 15, 16, 17, 18, 19, 20, 21, 22, 23, 24, 25, 26, 27, 28] (by decide +kernel) (by decide +kernel)
set_option maxRecDepth 20000 in
theorem gX11_back_X11_opAt : GoodIn wsX11_back (wsV RX11 228 RX11 yX11_opAt wsX11_opAt) := goodIn_app (goodIn_of _ (by decide +kernel)) ggX11_back_X11_opAt
theorem dX11_back_0 : decode cX11_back 0 = .ok (.aload_n 0, 1) := by decide +kernel
theorem dX11_back_1 : decode cX11_back 1 = .ok (.aload_n 0, 1) := by decide +kernel
theorem dX11_back_2 : decode cX11_back 2 = .ok (.getfield 183, 3) := by decide +kernel
theorem dX11_back_5 : decode cX11_back 5 = .ok (.iconst 1, 1) := by decide +kernel
theorem dX11_back_6 : decode cX11_back 6 = .ok (.isub, 1) := by decide +kernel
theorem dX11_back_7 : decode cX11_back 7 = .ok (.invokevirtual 228, 3) := by decide +kernel
theorem dX11_back_10 : decode cX11_back 10 = .ok (.astore_n 1, 1) := by decide +kernel
theorem dX11_back_11 : decode cX11_back 11 = .ok (.aload_n 1, 1) := by decide +kernel
theorem dX11_back_12 : decode cX11_back 12 = .ok (.ifnonnull 6, 3) := by decide +kernel
theorem dX11_back_15 : decode cX11_back 15 = .ok (.ldc 209, 2) := by decide +kernel
theorem dX11_back_17 : decode cX11_back 17 = .ok (.ireturn, 1) := by decide +kernel
theorem dX11_back_18 : decode cX11_back 18 = .ok (.aload_n 0, 1) := by decide +kernel
theorem dX11_back_19 : decode cX11_back 19 = .ok (.dup, 1) := by decide +kernel
theorem dX11_back_20 : decode cX11_back 20 = .ok (.getfield 183, 3) := by decide +kernel
theorem dX11_back_23 : decode cX11_back 23 = .ok (.iconst 1, 1) := by decide +kernel
theorem dX11_back_24 : decode cX11_back 24 = .ok (.isub, 1) := by decide +kernel
theorem dX11_back_25 : decode cX11_back 25 = .ok (.putfield 183, 3) := by decide +kernel
theorem dX11_back_28 : decode cX11_back 28 = .ok (.aload_n 0, 1) := by decide +kernel
theorem dX11_back_29 : decode cX11_back 29 = .ok (.getfield 33, 3) := by decide +kernel
theorem dX11_back_32 : decode cX11_back 32 = .ok (.aload_n 0, 1) := by decide +kernel
theorem dX11_back_33 : decode cX11_back 33 = .ok (.getfield 183, 3) := by decide +kernel
theorem dX11_back_36 : decode cX11_back 36 = .ok (.aconst_null, 1) := by decide +kernel
theorem dX11_back_37 : decode cX11_back 37 = .ok (.aastore, 1) := by decide +kernel
theorem dX11_back_38 : decode cX11_back 38 = .ok (.aload_n 0, 1) := by decide +kernel
theorem dX11_back_39 : decode cX11_back 39 = .ok (.aload_n 1, 1) := by decide +kernel
theorem dX11_back_40 : decode cX11_back 40 = .ok (.getfield 232, 3) := by decide +kernel
theorem dX11_back_43 : decode cX11_back 43 = .ok (.putfield 186, 3) := by decide +kernel
theorem dX11_back_46 : decode cX11_back 46 = .ok (.aload_n 0, 1) := by decide +kernel
theorem dX11_back_47 : decode cX11_back 47 = .ok (.getfield 183, 3) := by decide +kernel
theorem dX11_back_50 : decode cX11_back 50 = .ok (.ireturn, 1) := by decide +kernel
set_option maxRecDepth 20000 in
theorem ggX11_kind_X11_opAt : GoodIn wsX11_kind wsX11_opAt := goodIn_r _ [6, 7, 8, 9, 10, 5, 11, 38, 39, 40, 41, 42, 43, 44, 45, 46, 47, 48, 49, 50, 51, 52] (by decide +kernel) (by decide +kernel)
set_option maxRecDepth 20000 in
theorem gX11_kind_X11_opAt : GoodIn wsX11_kind (wsV RX11 228 RX11 yX11_opAt wsX11_opAt) := goodIn_app (goodIn_of _ (by decide +kernel)) ggX11_kind_X11_opAt
set_option maxRecDepth 20000 in
theorem ggX11_kind_X0_ownKind : GoodIn wsX11_kind wsX0_ownKind := goodIn_r _ [17] (by decide +kernel) (by decide +kernel)
set_option maxRecDepth 20000 in
theorem gX11_kind_X0_ownKind_u233X0 : GoodIn wsX11_kind (va_wsU RX11 233 RX0 "SpinBench$Op" ⟨"SpinBench$Op", "ownKind", "()I"⟩ yX0_ownKind wsX0_ownKind) := goodIn_app (goodIn_of _ (by decide +kernel)) ggX11_kind_X0_ownKind
set_option maxRecDepth 20000 in
theorem ggX11_kind_X1_ownKind : GoodIn wsX11_kind wsX1_ownKind := goodIn_r _ [21] (by decide +kernel) (by decide +kernel)
set_option maxRecDepth 20000 in
theorem gX11_kind_X1_ownKind_u233X1 : GoodIn wsX11_kind (va_wsU RX11 233 RX1 "SpinBench$Op" ⟨"SpinBench$Op", "ownKind", "()I"⟩ yX1_ownKind wsX1_ownKind) := goodIn_app (goodIn_of _ (by decide +kernel)) ggX11_kind_X1_ownKind
set_option maxRecDepth 20000 in
theorem ggX11_kind_X2_ownKind : GoodIn wsX11_kind wsX2_ownKind := goodIn_r _ [25] (by decide +kernel) (by decide +kernel)
set_option maxRecDepth 20000 in
theorem gX11_kind_X2_ownKind_u233X2 : GoodIn wsX11_kind (va_wsU RX11 233 RX2 "SpinBench$Op" ⟨"SpinBench$Op", "ownKind", "()I"⟩ yX2_ownKind wsX2_ownKind) := goodIn_app (goodIn_of _ (by decide +kernel)) ggX11_kind_X2_ownKind
set_option maxRecDepth 20000 in
theorem ggX11_kind_X6_ownKind : GoodIn wsX11_kind wsX6_ownKind := goodIn_r _ [29] (by decide +kernel) (by decide +kernel)
set_option maxRecDepth 20000 in
theorem gX11_kind_X6_ownKind_u233X6 : GoodIn wsX11_kind (va_wsU RX11 233 RX6 "SpinBench$Op" ⟨"SpinBench$Op", "ownKind", "()I"⟩ yX6_ownKind wsX6_ownKind) := goodIn_app (goodIn_of _ (by decide +kernel)) ggX11_kind_X6_ownKind
set_option maxRecDepth 20000 in
theorem ggX11_kind_X7_ownKind : GoodIn wsX11_kind wsX7_ownKind := goodIn_r _ [33] (by decide +kernel) (by decide +kernel)
set_option maxRecDepth 20000 in
theorem gX11_kind_X7_ownKind_u233X7 : GoodIn wsX11_kind (va_wsU RX11 233 RX7 "SpinBench$Op" ⟨"SpinBench$Op", "ownKind", "()I"⟩ yX7_ownKind wsX7_ownKind) := goodIn_app (goodIn_of _ (by decide +kernel)) ggX11_kind_X7_ownKind
set_option maxRecDepth 20000 in
theorem ggX11_kind_X8_ownKind : GoodIn wsX11_kind wsX8_ownKind := goodIn_r _ [37] (by decide +kernel) (by decide +kernel)
set_option maxRecDepth 20000 in
theorem gX11_kind_X8_ownKind_u233X8 : GoodIn wsX11_kind (va_wsU RX11 233 RX8 "SpinBench$Op" ⟨"SpinBench$Op", "ownKind", "()I"⟩ yX8_ownKind wsX8_ownKind) := goodIn_app (goodIn_of _ (by decide +kernel)) ggX11_kind_X8_ownKind
theorem dX11_kind_0 : decode cX11_kind 0 = .ok (.aload_n 0, 1) := by decide +kernel
theorem dX11_kind_1 : decode cX11_kind 1 = .ok (.iload_n 1, 1) := by decide +kernel
theorem dX11_kind_2 : decode cX11_kind 2 = .ok (.invokevirtual 228, 3) := by decide +kernel
theorem dX11_kind_5 : decode cX11_kind 5 = .ok (.astore_n 2, 1) := by decide +kernel
theorem dX11_kind_6 : decode cX11_kind 6 = .ok (.aload_n 2, 1) := by decide +kernel
theorem dX11_kind_7 : decode cX11_kind 7 = .ok (.ifnonnull 8, 3) := by decide +kernel
theorem dX11_kind_10 : decode cX11_kind 10 = .ok (.ldc 72, 2) := by decide +kernel
theorem dX11_kind_12 : decode cX11_kind 12 = .ok (.goto 7, 3) := by decide +kernel
theorem dX11_kind_15 : decode cX11_kind 15 = .ok (.aload_n 2, 1) := by decide +kernel
theorem dX11_kind_16 : decode cX11_kind 16 = .ok (.invokevirtual 233, 3) := by decide +kernel
theorem dX11_kind_19 : decode cX11_kind 19 = .ok (.ireturn, 1) := by decide +kernel
set_option maxRecDepth 20000 in
theorem ggX11_is_X11_opAt : GoodIn wsX11_is wsX11_opAt := goodIn_r _ [6, 7, 8, 9, 10, 5, 11, 60, 61, 62, 63, 64, 65, 66, 67, 68, 69, 70, 71, 72, 73, 74] (by decide +kernel) (by decide +kernel)
set_option maxRecDepth 20000 in
theorem gX11_is_X11_opAt : GoodIn wsX11_is (wsV RX11 228 RX11 yX11_opAt wsX11_opAt) := goodIn_app (goodIn_of _ (by decide +kernel)) ggX11_is_X11_opAt
set_option maxRecDepth 20000 in
theorem ggX11_is_X11_within : GoodIn wsX11_is wsX11_within := goodIn_r _ [11] (by decide +kernel) (by decide +kernel)
set_option maxRecDepth 20000 in
theorem gX11_is_X11_within : GoodIn wsX11_is (va_wsS RX11 68 yX11_within wsX11_within) := goodIn_app (goodIn_of _ (by decide +kernel)) ggX11_is_X11_within
set_option maxRecDepth 20000 in
theorem ggX11_is_X6_isOfKind : GoodIn wsX11_is wsX6_isOfKind := goodIn_r _ [18, 19, 20, 21, 22, 23, 24, 25, 13, 26, 27, 28, 29, 30, 31, 32, 33, 34, 35, 36, 37, 38, 39, 40, 41, 42, 43, 44, 45, 17, 46, 47, 48, 49, 50, 51, 52, 53, 54] (by decide +kernel) (by decide +kernel)
set_option maxRecDepth 20000 in
theorem gX11_is_X6_isOfKind_u236X0 : GoodIn wsX11_is (va_wsO RX11 236 RX0 "SpinBench$Op" ⟨"SpinBench$Op", "isOfKind", "(I)Z"⟩ yX6_isOfKind wsX6_isOfKind) := goodIn_app (goodIn_of _ (by decide +kernel)) ggX11_is_X6_isOfKind
set_option maxRecDepth 20000 in
theorem ggX11_is_X3_isOfKind : GoodIn wsX11_is wsX3_isOfKind := goodIn_r _ [24, 25, 13, 26, 27, 28, 29, 30, 31, 32, 33, 34, 35, 36, 37, 38, 39, 40, 41, 42, 43, 44, 45, 17, 46, 47, 48, 49, 50, 51, 52, 53, 54] (by decide +kernel) (by decide +kernel)
set_option maxRecDepth 20000 in
theorem gX11_is_X3_isOfKind_u236X1 : GoodIn wsX11_is (va_wsO RX11 236 RX1 "SpinBench$Op" ⟨"SpinBench$Op", "isOfKind", "(I)Z"⟩ yX3_isOfKind wsX3_isOfKind) := goodIn_app (goodIn_of _ (by decide +kernel)) ggX11_is_X3_isOfKind
set_option maxRecDepth 20000 in
theorem ggX11_is_X5_isOfKind : GoodIn wsX11_is wsX5_isOfKind := goodIn_r _ [29, 30, 31, 32, 33, 34, 35, 36, 37, 38, 39, 40, 41, 42, 43, 44, 45, 17, 46, 47, 48, 49, 50, 51, 52, 53, 54] (by decide +kernel) (by decide +kernel)
set_option maxRecDepth 20000 in
theorem gX11_is_X5_isOfKind_u236X2 : GoodIn wsX11_is (va_wsU RX11 236 RX2 "SpinBench$Op" ⟨"SpinBench$Op", "isOfKind", "(I)Z"⟩ yX5_isOfKind wsX5_isOfKind) := goodIn_app (goodIn_of _ (by decide +kernel)) ggX11_is_X5_isOfKind
set_option maxRecDepth 20000 in
theorem gX11_is_X6_isOfKind_u236X6 : GoodIn wsX11_is (va_wsO RX11 236 RX6 "SpinBench$Op" ⟨"SpinBench$Op", "isOfKind", "(I)Z"⟩ yX6_isOfKind wsX6_isOfKind) := goodIn_app (goodIn_of _ (by decide +kernel)) ggX11_is_X6_isOfKind
set_option maxRecDepth 20000 in
theorem gX11_is_X5_isOfKind_u236X7 : GoodIn wsX11_is (va_wsU RX11 236 RX7 "SpinBench$Op" ⟨"SpinBench$Op", "isOfKind", "(I)Z"⟩ yX5_isOfKind wsX5_isOfKind) := goodIn_app (goodIn_of _ (by decide +kernel)) ggX11_is_X5_isOfKind
set_option maxRecDepth 20000 in
theorem gX11_is_X5_isOfKind_u236X8 : GoodIn wsX11_is (va_wsU RX11 236 RX8 "SpinBench$Op" ⟨"SpinBench$Op", "isOfKind", "(I)Z"⟩ yX5_isOfKind wsX5_isOfKind) := goodIn_app (goodIn_of _ (by decide +kernel)) ggX11_is_X5_isOfKind
theorem dX11_is_0 : decode cX11_is 0 = .ok (.aload_n 0, 1) := by decide +kernel
theorem dX11_is_1 : decode cX11_is 1 = .ok (.iload_n 1, 1) := by decide +kernel
theorem dX11_is_2 : decode cX11_is 2 = .ok (.invokevirtual 228, 3) := by decide +kernel
theorem dX11_is_5 : decode cX11_is 5 = .ok (.astore_n 3, 1) := by decide +kernel
theorem dX11_is_6 : decode cX11_is 6 = .ok (.aload_n 3, 1) := by decide +kernel
theorem dX11_is_7 : decode cX11_is 7 = .ok (.ifnull 13, 3) := by decide +kernel
theorem dX11_is_10 : decode cX11_is 10 = .ok (.iload_n 2, 1) := by decide +kernel
theorem dX11_is_11 : decode cX11_is 11 = .ok (.iconst 0, 1) := by decide +kernel
theorem dX11_is_12 : decode cX11_is 12 = .ok (.bipush 7, 2) := by decide +kernel
theorem dX11_is_14 : decode cX11_is 14 = .ok (.invokestatic 68, 3) := by decide +kernel
theorem dX11_is_17 : decode cX11_is 17 = .ok (.ifCond .ne 6, 3) := by decide +kernel
theorem dX11_is_20 : decode cX11_is 20 = .ok (.ldc 72, 2) := by decide +kernel
theorem dX11_is_22 : decode cX11_is 22 = .ok (.ireturn, 1) := by decide +kernel
theorem dX11_is_23 : decode cX11_is 23 = .ok (.aload_n 3, 1) := by decide +kernel
theorem dX11_is_24 : decode cX11_is 24 = .ok (.iload_n 2, 1) := by decide +kernel
theorem dX11_is_25 : decode cX11_is 25 = .ok (.invokevirtual 236, 3) := by decide +kernel
theorem dX11_is_28 : decode cX11_is 28 = .ok (.ifCond .eq 7, 3) := by decide +kernel
theorem dX11_is_31 : decode cX11_is 31 = .ok (.iconst 1, 1) := by decide +kernel
theorem dX11_is_32 : decode cX11_is 32 = .ok (.goto 4, 3) := by decide +kernel
theorem dX11_is_35 : decode cX11_is 35 = .ok (.iconst 0, 1) := by decide +kernel
theorem dX11_is_36 : decode cX11_is 36 = .ok (.ireturn, 1) := by decide +kernel
set_option maxRecDepth 20000 in
theorem ggX11_spins_X11_opAt : GoodIn wsX11_spins wsX11_opAt := goodIn_r _ [8, 9, 10, 11, 12, 7, 13, 35, 36, 37, 38, 39, 40, 41, 42, 43, 44, 45, 46, 47, 48, 49] (by decide +kernel) (by decide +kernel)
set_option maxRecDepth 20000 in
theorem gX11_spins_X11_opAt : GoodIn wsX11_spins (wsV RX11 228 RX11 yX11_opAt wsX11_opAt) := goodIn_app (goodIn_of _ (by decide +kernel)) ggX11_spins_X11_opAt
set_option maxRecDepth 20000 in
theorem ggX11_spins_X11_notFound : GoodIn wsX11_spins wsX11_notFound := goodIn_r _ [17, 18, 35, 36, 37, 38, 39, 40, 41, 42, 43, 44, 45, 46, 47, 48, 49] (by decide +kernel) (by decide +kernel)
set_option maxRecDepth 20000 in
theorem gX11_spins_X11_notFound : GoodIn wsX11_spins (wsV RX11 81 RX11 yX11_notFound wsX11_notFound) := goodIn_app (goodIn_of _ (by decide +kernel)) ggX11_spins_X11_notFound
set_option maxRecDepth 20000 in
theorem ggX11_spins_X11_found : GoodIn wsX11_spins wsX11_found := goodIn_r _ [22, 18, 23, 35, 36, 37, 38, 39, 40, 41, 42, 43, 44, 45, 46, 47, 48, 49] (by decide +kernel) (by decide +kernel)
set_option maxRecDepth 20000 in
theorem gX11_spins_X11_found : GoodIn wsX11_spins (wsV RX11 73 RX11 yX11_found wsX11_found) := goodIn_app (goodIn_of _ (by decide +kernel)) ggX11_spins_X11_found
theorem dX11_spins_0 : decode cX11_spins 0 = .ok (.aload_n 0, 1) := by decide +kernel
theorem dX11_spins_1 : decode cX11_spins 1 = .ok (.iload_n 1, 1) := by decide +kernel
theorem dX11_spins_2 : decode cX11_spins 2 = .ok (.invokevirtual 228, 3) := by decide +kernel
theorem dX11_spins_5 : decode cX11_spins 5 = .ok (.astore_n 2, 1) := by decide +kernel
theorem dX11_spins_6 : decode cX11_spins 6 = .ok (.aload_n 2, 1) := by decide +kernel
theorem dX11_spins_7 : decode cX11_spins 7 = .ok (.ifnonnull 6, 3) := by decide +kernel
theorem dX11_spins_10 : decode cX11_spins 10 = .ok (.ldc 72, 2) := by decide +kernel
theorem dX11_spins_12 : decode cX11_spins 12 = .ok (.ireturn, 1) := by decide +kernel
theorem dX11_spins_13 : decode cX11_spins 13 = .ok (.aload_n 2, 1) := by decide +kernel
theorem dX11_spins_14 : decode cX11_spins 14 = .ok (.instanceof 181, 3) := by decide +kernel
theorem dX11_spins_17 : decode cX11_spins 17 = .ok (.ifCond .eq 17, 3) := by decide +kernel
theorem dX11_spins_20 : decode cX11_spins 20 = .ok (.aload_n 2, 1) := by decide +kernel
theorem dX11_spins_21 : decode cX11_spins 21 = .ok (.checkcast 181, 3) := by decide +kernel
theorem dX11_spins_24 : decode cX11_spins 24 = .ok (.astore_n 3, 1) := by decide +kernel
theorem dX11_spins_25 : decode cX11_spins 25 = .ok (.aload_n 0, 1) := by decide +kernel
theorem dX11_spins_26 : decode cX11_spins 26 = .ok (.aload_n 3, 1) := by decide +kernel
theorem dX11_spins_27 : decode cX11_spins 27 = .ok (.getfield 239, 3) := by decide +kernel
theorem dX11_spins_30 : decode cX11_spins 30 = .ok (.invokevirtual 81, 3) := by decide +kernel
theorem dX11_spins_33 : decode cX11_spins 33 = .ok (.ireturn, 1) := by decide +kernel
theorem dX11_spins_34 : decode cX11_spins 34 = .ok (.aload_n 0, 1) := by decide +kernel
theorem dX11_spins_35 : decode cX11_spins 35 = .ok (.iconst 3, 1) := by decide +kernel
theorem dX11_spins_36 : decode cX11_spins 36 = .ok (.invokevirtual 73, 3) := by decide +kernel
theorem dX11_spins_39 : decode cX11_spins 39 = .ok (.ireturn, 1) := by decide +kernel
set_option maxRecDepth 20000 in
theorem ggX11_ask_X11_opAt : GoodIn wsX11_ask wsX11_opAt := goodIn_r _ [7, 8, 9, 10, 11, 6, 12, 96, 97, 98, 99, 100, 101, 102, 103, 104, 105, 106, 107, 108, 109, 110] (by decide +kernel) (by decide +kernel)
set_option maxRecDepth 20000 in
theorem gX11_ask_X11_opAt : GoodIn wsX11_ask (wsV RX11 228 RX11 yX11_opAt wsX11_opAt) := goodIn_app (goodIn_of _ (by decide +kernel)) ggX11_ask_X11_opAt
set_option maxRecDepth 20000 in
theorem ggX11_ask_X11_within : GoodIn wsX11_ask wsX11_within := goodIn_r _ [12] (by decide +kernel) (by decide +kernel)
set_option maxRecDepth 20000 in
theorem gX11_ask_X11_within : GoodIn wsX11_ask (va_wsS RX11 68 yX11_within wsX11_within) := goodIn_app (goodIn_of _ (by decide +kernel)) ggX11_ask_X11_within
set_option maxRecDepth 20000 in
theorem ggX11_ask_X0_cost : GoodIn wsX11_ask wsX0_cost := goodIn_r _ [19, 20, 6, 21, 22, 2, 23, 24, 25, 26, 27, 28, 29, 30, 31, 32, 33, 34, 35, 36, 37, 14, 38, 39, 40, 41, 42, 43, 44, 45, 46, 47, 48, 49, 50, 51, 18, 52, 53, 96, 97, 98, 99, 100, 101, 102, 103, 104, 105, 106, 107, 108, 109, 110, 111, 112, 113, 114, 115, 116, 117, 118, 119, 120, 121] (by decide +kernel) (by decide +kernel)
set_option maxRecDepth 20000 in
theorem gX11_ask_X0_cost_u245X0 : GoodIn wsX11_ask (va_wsO RX11 245 RX0 "SpinBench$Op" ⟨"SpinBench$Op", "cost", "(LSpinBench;)I"⟩ yX0_cost wsX0_cost) := goodIn_app (goodIn_of _ (by decide +kernel)) ggX11_ask_X0_cost
set_option maxRecDepth 20000 in
theorem ggX11_ask_X3_cost : GoodIn wsX11_ask wsX3_cost := goodIn_r _ [36, 20, 6, 21, 22, 2, 23, 37, 14, 38, 39, 40, 41, 96, 97, 98, 99, 100, 101, 102, 103, 104, 105, 106, 107, 108, 109, 110] (by decide +kernel) (by decide +kernel)
set_option maxRecDepth 20000 in
theorem gX11_ask_X3_cost_u245X1 : GoodIn wsX11_ask (va_wsO RX11 245 RX1 "SpinBench$Op" ⟨"SpinBench$Op", "cost", "(LSpinBench;)I"⟩ yX3_cost wsX3_cost) := goodIn_app (goodIn_of _ (by decide +kernel)) ggX11_ask_X3_cost
set_option maxRecDepth 20000 in
theorem ggX11_ask_X5_cost : GoodIn wsX11_ask wsX5_cost := goodIn_r _ [41, 20, 6, 21, 22, 2, 23, 96, 97, 98, 99, 100, 101, 102, 103, 104, 105, 106, 107, 108, 109, 110] (by decide +kernel) (by decide +kernel)
set_option maxRecDepth 20000 in
theorem gX11_ask_X5_cost_u245X2 : GoodIn wsX11_ask (va_wsU RX11 245 RX2 "SpinBench$Op" ⟨"SpinBench$Op", "cost", "(LSpinBench;)I"⟩ yX5_cost wsX5_cost) := goodIn_app (goodIn_of _ (by decide +kernel)) ggX11_ask_X5_cost
set_option maxRecDepth 20000 in
theorem ggX11_ask_X6_cost : GoodIn wsX11_ask wsX6_cost := goodIn_r _ [29, 30, 20, 6, 21, 22, 2, 23, 31, 32, 33, 34, 35, 36, 37, 14, 38, 39, 40, 41, 42, 43, 44, 45, 46, 47, 48, 111, 112, 113, 114, 115, 116, 117, 118, 119, 120, 121, 96, 97, 98, 99, 100, 101, 102, 103, 104, 105, 106, 107, 108, 109, 110] (by decide +kernel) (by decide +kernel)
set_option maxRecDepth 20000 in
theorem gX11_ask_X6_cost_u245X6 : GoodIn wsX11_ask (va_wsO RX11 245 RX6 "SpinBench$Op" ⟨"SpinBench$Op", "cost", "(LSpinBench;)I"⟩ yX6_cost wsX6_cost) := goodIn_app (goodIn_of _ (by decide +kernel)) ggX11_ask_X6_cost
set_option maxRecDepth 20000 in
theorem ggX11_ask_X7_cost : GoodIn wsX11_ask wsX7_cost := goodIn_r _ [60, 61, 20, 6, 21, 22, 2, 23, 122, 123, 124, 125, 96, 97, 98, 99, 100, 101, 102, 103, 104, 105, 106, 107, 108, 109, 110] (by decide +kernel) (by decide +kernel)
set_option maxRecDepth 20000 in
theorem gX11_ask_X7_cost_u245X7 : GoodIn wsX11_ask (va_wsO RX11 245 RX7 "SpinBench$Op" ⟨"SpinBench$Op", "cost", "(LSpinBench;)I"⟩ yX7_cost wsX7_cost) := goodIn_app (goodIn_of _ (by decide +kernel)) ggX11_ask_X7_cost
set_option maxRecDepth 20000 in
theorem gX11_ask_X5_cost_u245X8 : GoodIn wsX11_ask (va_wsU RX11 245 RX8 "SpinBench$Op" ⟨"SpinBench$Op", "cost", "(LSpinBench;)I"⟩ yX5_cost wsX5_cost) := goodIn_app (goodIn_of _ (by decide +kernel)) ggX11_ask_X5_cost
set_option maxRecDepth 20000 in
theorem ggX11_ask_X0_mark : GoodIn wsX11_ask wsX0_mark := goodIn_r _ [52, 53, 20, 6, 21, 22, 2, 23, 111, 112, 113, 114, 115, 116, 96, 97, 98, 99, 100, 101, 102, 103, 104, 105, 106, 107, 108, 109, 110] (by decide +kernel) (by decide +kernel)
set_option maxRecDepth 20000 in
theorem gX11_ask_X0_mark_u249X0 : GoodIn wsX11_ask (va_wsO RX11 249 RX0 "SpinBench$Op" ⟨"SpinBench$Op", "mark", "(LSpinBench;)I"⟩ yX0_mark wsX0_mark) := goodIn_app (goodIn_of _ (by decide +kernel)) ggX11_ask_X0_mark
set_option maxRecDepth 20000 in
theorem ggX11_ask_X1_mark : GoodIn wsX11_ask wsX1_mark := goodIn_r _ [71, 72, 20, 6, 21, 22, 2, 23, 73, 74, 75, 76, 35, 77, 78, 64, 38, 79, 40, 67, 80, 81, 32, 82, 83, 17, 18, 19, 24, 25, 26, 27, 28, 29, 30, 31, 33, 34, 36, 37, 14, 39, 41, 42, 43, 44, 45, 46, 47, 48, 49, 50, 51, 52, 53, 84, 85, 126, 127, 128, 129, 130, 96, 97, 98, 99, 100, 101, 102, 103, 104, 105, 106, 107, 108, 109, 110, 111, 112, 113, 114, 115, 116, 131, 132, 117, 118, 119, 120, 121, 122, 123, 124, 125, 133, 134, 135, 136] (by decide +kernel) (by decide +kernel)
set_option maxRecDepth 20000 in
theorem gX11_ask_X1_mark_u249X1 : GoodIn wsX11_ask (va_wsO RX11 249 RX1 "SpinBench$Op" ⟨"SpinBench$Op", "mark", "(LSpinBench;)I"⟩ yX1_mark wsX1_mark) := goodIn_app (goodIn_of _ (by decide +kernel)) ggX11_ask_X1_mark
set_option maxRecDepth 20000 in
theorem ggX11_ask_X5_mark : GoodIn wsX11_ask wsX5_mark := goodIn_r _ [67, 80, 20, 6, 21, 22, 2, 23, 111, 112, 113, 114, 115, 116, 126, 127, 128, 129, 130, 131, 132, 117, 118, 119, 120, 121, 122, 123, 124, 125, 133, 134, 135, 136, 96, 97, 98, 99, 100, 101, 102, 103, 104, 105, 106, 107, 108, 109, 110] (by decide +kernel) (by decide +kernel)
set_option maxRecDepth 20000 in
theorem gX11_ask_X5_mark_u249X2 : GoodIn wsX11_ask (va_wsU RX11 249 RX2 "SpinBench$Op" ⟨"SpinBench$Op", "mark", "(LSpinBench;)I"⟩ yX5_mark wsX5_mark) := goodIn_app (goodIn_of _ (by decide +kernel)) ggX11_ask_X5_mark
set_option maxRecDepth 20000 in
theorem ggX11_ask_X3_mark : GoodIn wsX11_ask wsX3_mark := goodIn_r _ [77, 20, 6, 21, 22, 2, 23, 78, 64, 38, 79, 40, 67, 80, 81, 32, 82, 83, 17, 18, 19, 24, 25, 26, 27, 28, 29, 30, 31, 33, 34, 35, 36, 37, 14, 39, 41, 42, 43, 44, 45, 46, 47, 48, 49, 50, 51, 52, 53, 84, 85, 96, 97, 98, 99, 100, 101, 102, 103, 104, 105, 106, 107, 108, 109, 110, 111, 112, 113, 114, 115, 116, 126, 127, 128, 129, 130, 131, 132, 117, 118, 119, 120, 121, 122, 123, 124, 125, 133, 134, 135, 136] (by decide +kernel) (by decide +kernel)
set_option maxRecDepth 20000 in
theorem gX11_ask_X3_mark_u249X6 : GoodIn wsX11_ask (va_wsO RX11 249 RX6 "SpinBench$Op" ⟨"SpinBench$Op", "mark", "(LSpinBench;)I"⟩ yX3_mark wsX3_mark) := goodIn_app (goodIn_of _ (by decide +kernel)) ggX11_ask_X3_mark
set_option maxRecDepth 20000 in
theorem gX11_ask_X5_mark_u249X7 : GoodIn wsX11_ask (va_wsU RX11 249 RX7 "SpinBench$Op" ⟨"SpinBench$Op", "mark", "(LSpinBench;)I"⟩ yX5_mark wsX5_mark) := goodIn_app (goodIn_of _ (by decide +kernel)) ggX11_ask_X5_mark
set_option maxRecDepth 20000 in
theorem ggX11_ask_X8_mark : GoodIn wsX11_ask wsX8_mark := goodIn_r _ [92, 93, 20, 6, 21, 22, 2, 23, 94, 64, 95, 79, 40, 67, 80, 133, 134, 135, 136, 96, 97, 98, 99, 100, 101, 102, 103, 104, 105, 106, 107, 108, 109, 110, 111, 112, 113, 114, 115, 116, 126, 127, 128, 129, 130, 131, 132, 117, 118, 119, 120, 121, 122, 123, 124, 125] (by decide +kernel) (by decide +kernel)
set_option maxRecDepth 20000 in
theorem gX11_ask_X8_mark_u249X8 : GoodIn wsX11_ask (va_wsO RX11 249 RX8 "SpinBench$Op" ⟨"SpinBench$Op", "mark", "(LSpinBench;)I"⟩ yX8_mark wsX8_mark) := goodIn_app (goodIn_of _ (by decide +kernel)) ggX11_ask_X8_mark
theorem dX11_ask_0 : decode cX11_ask 0 = .ok (.aload_n 0, 1) := by decide +kernel
theorem dX11_ask_1 : decode cX11_ask 1 = .ok (.iload_n 1, 1) := by decide +kernel
theorem dX11_ask_2 : decode cX11_ask 2 = .ok (.invokevirtual 228, 3) := by decide +kernel
theorem dX11_ask_5 : decode cX11_ask 5 = .ok (.astore_n 3, 1) := by decide +kernel
theorem dX11_ask_6 : decode cX11_ask 6 = .ok (.aload_n 3, 1) := by decide +kernel
theorem dX11_ask_7 : decode cX11_ask 7 = .ok (.ifnull 12, 3) := by decide +kernel
theorem dX11_ask_10 : decode cX11_ask 10 = .ok (.iload_n 2, 1) := by decide +kernel
theorem dX11_ask_11 : decode cX11_ask 11 = .ok (.iconst 0, 1) := by decide +kernel
theorem dX11_ask_12 : decode cX11_ask 12 = .ok (.iconst 1, 1) := by decide +kernel
theorem dX11_ask_13 : decode cX11_ask 13 = .ok (.invokestatic 68, 3) := by decide +kernel
theorem dX11_ask_16 : decode cX11_ask 16 = .ok (.ifCond .ne 6, 3) := by decide +kernel
theorem dX11_ask_19 : decode cX11_ask 19 = .ok (.ldc 72, 2) := by decide +kernel
theorem dX11_ask_21 : decode cX11_ask 21 = .ok (.ireturn, 1) := by decide +kernel
theorem dX11_ask_22 : decode cX11_ask 22 = .ok (.aload_n 0, 1) := by decide +kernel
theorem dX11_ask_23 : decode cX11_ask 23 = .ok (.iconst 0, 1) := by decide +kernel
theorem dX11_ask_24 : decode cX11_ask 24 = .ok (.putfield 242, 3) := by decide +kernel
theorem dX11_ask_27 : decode cX11_ask 27 = .ok (.iload_n 2, 1) := by decide +kernel
theorem dX11_ask_28 : decode cX11_ask 28 = .ok (.ifCond .ne 11, 3) := by decide +kernel
theorem dX11_ask_31 : decode cX11_ask 31 = .ok (.aload_n 3, 1) := by decide +kernel
theorem dX11_ask_32 : decode cX11_ask 32 = .ok (.aload_n 0, 1) := by decide +kernel
theorem dX11_ask_33 : decode cX11_ask 33 = .ok (.invokevirtual 245, 3) := by decide +kernel
theorem dX11_ask_36 : decode cX11_ask 36 = .ok (.goto 8, 3) := by decide +kernel
theorem dX11_ask_39 : decode cX11_ask 39 = .ok (.aload_n 3, 1) := by decide +kernel
theorem dX11_ask_40 : decode cX11_ask 40 = .ok (.aload_n 0, 1) := by decide +kernel
theorem dX11_ask_41 : decode cX11_ask 41 = .ok (.invokevirtual 249, 3) := by decide +kernel
theorem dX11_ask_44 : decode cX11_ask 44 = .ok (.ireturn, 1) := by decide +kernel
set_option maxRecDepth 20000 in
theorem ggX11_trace_X11_within : GoodIn wsX11_trace wsX11_within := goodIn_r _ [7] (by decide +kernel) (by decide +kernel)
set_option maxRecDepth 20000 in
theorem gX11_trace_X11_within : GoodIn wsX11_trace (va_wsS RX11 68 yX11_within wsX11_within) := goodIn_app (goodIn_of _ (by decide +kernel)) ggX11_trace_X11_within
theorem dX11_trace_0 : decode cX11_trace 0 = .ok (.iload_n 1, 1) := by decide +kernel
theorem dX11_trace_1 : decode cX11_trace 1 = .ok (.iconst 0, 1) := by decide +kernel
theorem dX11_trace_2 : decode cX11_trace 2 = .ok (.aload_n 0, 1) := by decide +kernel
theorem dX11_trace_3 : decode cX11_trace 3 = .ok (.getfield 242, 3) := by decide +kernel
theorem dX11_trace_6 : decode cX11_trace 6 = .ok (.iconst 1, 1) := by decide +kernel
theorem dX11_trace_7 : decode cX11_trace 7 = .ok (.isub, 1) := by decide +kernel
theorem dX11_trace_8 : decode cX11_trace 8 = .ok (.invokestatic 68, 3) := by decide +kernel
theorem dX11_trace_11 : decode cX11_trace 11 = .ok (.ifCond .eq 12, 3) := by decide +kernel
theorem dX11_trace_14 : decode cX11_trace 14 = .ok (.aload_n 0, 1) := by decide +kernel
theorem dX11_trace_15 : decode cX11_trace 15 = .ok (.getfield 42, 3) := by decide +kernel
theorem dX11_trace_18 : decode cX11_trace 18 = .ok (.iload_n 1, 1) := by decide +kernel
theorem dX11_trace_19 : decode cX11_trace 19 = .ok (.iaload, 1) := by decide +kernel
theorem dX11_trace_20 : decode cX11_trace 20 = .ok (.goto 5, 3) := by decide +kernel
theorem dX11_trace_23 : decode cX11_trace 23 = .ok (.ldc 37, 2) := by decide +kernel
theorem dX11_trace_25 : decode cX11_trace 25 = .ok (.ireturn, 1) := by decide +kernel
set_option maxRecDepth 20000 in
theorem ggX11_run_X11_takeAll : GoodIn wsX11_run wsX11_takeAll := goodIn_r _ [14, 15, 16, 17, 18, 19, 20, 21, 22, 23, 24, 25, 241, 242, 243] (by decide +kernel) (by decide +kernel)
set_option maxRecDepth 20000 in
theorem gX11_run_X11_takeAll : GoodIn wsX11_run (va_wsS RX11 252 yX11_takeAll wsX11_takeAll) := goodIn_app (goodIn_of _ (by decide +kernel)) ggX11_run_X11_takeAll
set_option maxRecDepth 20000 in
theorem ggX11_run_X11_opAt : GoodIn wsX11_run wsX11_opAt := goodIn_r _ [29, 30, 31, 32, 33, 13, 34, 200, 201, 202, 203, 204, 205, 206, 207, 208, 209, 210, 211, 212, 213, 214] (by decide +kernel) (by decide +kernel)
set_option maxRecDepth 20000 in
theorem gX11_run_X11_opAt : GoodIn wsX11_run (wsV RX11 228 RX11 yX11_opAt wsX11_opAt) := goodIn_app (goodIn_of _ (by decide +kernel)) ggX11_run_X11_opAt
set_option maxRecDepth 20000 in
theorem ggX11_run_X0_perform : GoodIn wsX11_run wsX0_perform := goodIn_r _ [40, 41, 42, 43, 44, 45, 46, 13, 47, 48, 49, 32, 33, 34, 50, 51, 52, 53, 54, 55, 56, 57, 58, 59, 60, 61, 62, 63, 64, 65, 66, 67, 68, 69, 70, 71, 72, 73, 74, 75, 76, 77, 78, 79, 80, 81, 82, 83, 84, 85, 86, 87, 88, 89, 90, 91, 92, 93, 94, 95, 96, 97, 98, 99, 22, 23, 24, 100, 101, 102, 103, 104, 105, 106, 107, 108, 109, 110, 111, 112, 113, 114, 115, 116, 117, 118, 119, 120, 121, 122, 123, 124, 125, 126, 127, 215, 216, 217, 218, 219, 220, 244, 245, 246, 247, 221, 222, 223, 224, 225, 226, 227, 228, 229, 230, 231, 232, 233, 234, 235, 236, 237, 238, 239, 240, 200, 201, 202, 203, 204, 205, 206, 207, 208, 209, 210, 211, 212, 213, 214, 241, 242, 243, 248, 249, 250, 251, 252, 253, 254, 255] (by decide +kernel) (by decide +kernel)
set_option maxRecDepth 20000 in
theorem gX11_run_X0_perform_u265X0 : GoodIn wsX11_run (va_wsU RX11 265 RX0 "SpinBench$Op" ⟨"SpinBench$Op", "perform", "(LSpinBench;)I"⟩ yX0_perform wsX0_perform) := goodIn_app (goodIn_of _ (by decide +kernel)) ggX11_run_X0_perform
set_option maxRecDepth 20000 in
theorem ggX11_run_X1_perform : GoodIn wsX11_run wsX1_perform := goodIn_r _ [131, 132, 133, 134, 135, 136, 13, 137, 138, 67, 68, 69, 70, 71, 72, 73, 74, 75, 76, 77, 78, 79, 80, 81, 82, 83, 84, 85, 86, 87, 88, 89, 90, 91, 92, 139, 140, 141, 142, 143, 144, 93, 94, 95, 145, 146, 147, 148, 96, 97, 98, 99, 22, 23, 24, 100, 101, 102, 103, 104, 105, 106, 107, 108, 109, 110, 111, 112, 113, 114, 115, 116, 117, 118, 119, 120, 121, 122, 123, 124, 125, 126, 127, 221, 222, 223, 224, 225, 200, 201, 202, 203, 204, 205, 206, 207, 208, 209, 210, 211, 212, 213, 214, 241, 242, 243, 248, 249, 250, 251, 252, 253, 254, 255] (by decide +kernel) (by decide +kernel)
set_option maxRecDepth 20000 in
theorem gX11_run_X1_perform_u265X1 : GoodIn wsX11_run (va_wsU RX11 265 RX1 "SpinBench$Op" ⟨"SpinBench$Op", "perform", "(LSpinBench;)I"⟩ yX1_perform wsX1_perform) := goodIn_app (goodIn_of _ (by decide +kernel)) ggX11_run_X1_perform
set_option maxRecDepth 20000 in
theorem ggX11_run_X2_perform : GoodIn wsX11_run wsX2_perform := goodIn_r _ [152, 153, 154, 155, 156, 215, 216, 217, 218, 219, 220, 221, 222, 223, 224, 225, 226, 227, 228, 229, 230, 231, 232, 233, 234, 235, 236, 237, 238, 239, 240, 200, 201, 202, 203, 204, 205, 206, 207, 208, 209, 210, 211, 212, 213, 214] (by decide +kernel) (by decide +kernel)
set_option maxRecDepth 20000 in
theorem gX11_run_X2_perform_u265X2 : GoodIn wsX11_run (va_wsU RX11 265 RX2 "SpinBench$Op" ⟨"SpinBench$Op", "perform", "(LSpinBench;)I"⟩ yX2_perform wsX2_perform) := goodIn_app (goodIn_of _ (by decide +kernel)) ggX11_run_X2_perform
set_option maxRecDepth 20000 in
theorem ggX11_run_X6_perform : GoodIn wsX11_run wsX6_perform := goodIn_r _ [159, 160, 161, 162, 163, 58, 59, 60, 61, 62, 63, 64, 13, 65, 66, 67, 68, 69, 70, 71, 72, 73, 74, 75, 76, 77, 78, 79, 80, 81, 82, 83, 84, 85, 86, 87, 88, 89, 90, 91, 92, 93, 94, 95, 96, 97, 98, 99, 22, 23, 24, 100, 101, 102, 103, 104, 105, 106, 107, 108, 109, 110, 111, 112, 113, 114, 115, 116, 117, 118, 119, 120, 121, 122, 123, 124, 125, 126, 127, 164, 165, 215, 216, 217, 218, 219, 220, 228, 229, 230, 231, 232, 200, 201, 202, 203, 204, 205, 206, 207, 208, 209, 210, 211, 212, 213, 214, 241, 242, 243, 248, 249, 250, 251, 252, 253, 254, 255] (by decide +kernel) (by decide +kernel)
set_option maxRecDepth 20000 in
theorem gX11_run_X6_perform_u265X6 : GoodIn wsX11_run (va_wsU RX11 265 RX6 "SpinBench$Op" ⟨"SpinBench$Op", "perform", "(LSpinBench;)I"⟩ yX6_perform wsX6_perform) := goodIn_app (goodIn_of _ (by decide +kernel)) ggX11_run_X6_perform
set_option maxRecDepth 20000 in
theorem ggX11_run_X7_perform : GoodIn wsX11_run wsX7_perform := goodIn_r _ [169, 170, 233, 234, 235, 236] (by decide +kernel) (by decide +kernel)
set_option maxRecDepth 20000 in
theorem gX11_run_X7_perform_u265X7 : GoodIn wsX11_run (va_wsU RX11 265 RX7 "SpinBench$Op" ⟨"SpinBench$Op", "perform", "(LSpinBench;)I"⟩ yX7_perform wsX7_perform) := goodIn_app (goodIn_of _ (by decide +kernel)) ggX11_run_X7_perform
set_option maxRecDepth 20000 in
theorem ggX11_run_X8_perform : GoodIn wsX11_run wsX8_perform := goodIn_r _ [174, 175, 176, 177, 178, 13, 179, 180, 4, 32, 33, 34, 181, 70, 182, 183, 184, 69, 71, 72, 73, 74, 75, 76, 185, 186, 187, 188, 148, 83, 84, 85, 86, 87, 88, 89, 90, 91, 92, 189, 96, 97, 98, 99, 22, 23, 24, 100, 101, 102, 103, 104, 105, 106, 107, 108, 109, 110, 111, 112, 113, 114, 115, 116, 117, 118, 119, 120, 121, 122, 123, 124, 125, 126, 127, 237, 238, 239, 240, 200, 201, 202, 203, 204, 205, 206, 207, 208, 209, 210, 211, 212, 213, 214, 248, 249, 250, 251, 252, 253, 254, 255, 241, 242, 243] (by decide +kernel) (by decide +kernel)
set_option maxRecDepth 20000 in
theorem gX11_run_X8_perform_u265X8 : GoodIn wsX11_run (va_wsU RX11 265 RX8 "SpinBench$Op" ⟨"SpinBench$Op", "perform", "(LSpinBench;)I"⟩ yX8_perform wsX8_perform) := goodIn_app (goodIn_of _ (by decide +kernel)) ggX11_run_X8_perform
set_option maxRecDepth 20000 in
theorem ggX11_run_X11_notFound : GoodIn wsX11_run wsX11_notFound := goodIn_r _ [193, 194, 200, 201, 202, 203, 204, 205, 206, 207, 208, 209, 210, 211, 212, 213, 214] (by decide +kernel) (by decide +kernel)
set_option maxRecDepth 20000 in
theorem gX11_run_X11_notFound : GoodIn wsX11_run (wsV RX11 81 RX11 yX11_notFound wsX11_notFound) := goodIn_app (goodIn_of _ (by decide +kernel)) ggX11_run_X11_notFound
set_option maxRecDepth 20000 in
theorem ggX11_run_X11_found : GoodIn wsX11_run wsX11_found := goodIn_r _ [198, 194, 199, 200, 201, 202, 203, 204, 205, 206, 207, 208, 209, 210, 211, 212, 213, 214] (by decide +kernel) (by decide +kernel)
set_option maxRecDepth 20000 in
theorem gX11_run_X11_found : GoodIn wsX11_run (wsV RX11 73 RX11 yX11_found wsX11_found) := goodIn_app (goodIn_of _ (by decide +kernel)) ggX11_run_X11_found
theorem dX11_run_0 : decode cX11_run 0 = .ok (.aload_n 0, 1) := by decide +kernel
theorem dX11_run_1 : decode cX11_run 1 = .ok (.getfield 186, 3) := by decide +kernel
theorem dX11_run_4 : decode cX11_run 4 = .ok (.ifnull 6, 3) := by decide +kernel
theorem dX11_run_7 : decode cX11_run 7 = .ok (.ldc 209, 2) := by decide +kernel
theorem dX11_run_9 : decode cX11_run 9 = .ok (.ireturn, 1) := by decide +kernel
theorem dX11_run_10 : decode cX11_run 10 = .ok (.aload_n 0, 1) := by decide +kernel
theorem dX11_run_11 : decode cX11_run 11 = .ok (.getfield 15, 3) := by decide +kernel
theorem dX11_run_14 : decode cX11_run 14 = .ok (.aload_n 0, 1) := by decide +kernel
theorem dX11_run_15 : decode cX11_run 15 = .ok (.getfield 11, 3) := by decide +kernel
theorem dX11_run_18 : decode cX11_run 18 = .ok (.invokestatic 252, 3) := by decide +kernel
theorem dX11_run_21 : decode cX11_run 21 = .ok (.aload_n 0, 1) := by decide +kernel
theorem dX11_run_22 : decode cX11_run 22 = .ok (.iconst 0, 1) := by decide +kernel
theorem dX11_run_23 : decode cX11_run 23 = .ok (.putfield 256, 3) := by decide +kernel
theorem dX11_run_26 : decode cX11_run 26 = .ok (.aload_n 0, 1) := by decide +kernel
theorem dX11_run_27 : decode cX11_run 27 = .ok (.ldc 37, 2) := by decide +kernel
theorem dX11_run_29 : decode cX11_run 29 = .ok (.putfield 38, 3) := by decide +kernel
theorem dX11_run_32 : decode cX11_run 32 = .ok (.iconst 0, 1) := by decide +kernel
theorem dX11_run_33 : decode cX11_run 33 = .ok (.istore_n 1, 1) := by decide +kernel
theorem dX11_run_34 : decode cX11_run 34 = .ok (.aload_n 0, 1) := by decide +kernel
theorem dX11_run_35 : decode cX11_run 35 = .ok (.iconst 0, 1) := by decide +kernel
theorem dX11_run_36 : decode cX11_run 36 = .ok (.invokevirtual 228, 3) := by decide +kernel
theorem dX11_run_39 : decode cX11_run 39 = .ok (.astore_n 2, 1) := by decide +kernel
theorem dX11_run_40 : decode cX11_run 40 = .ok (.iconst 0, 1) := by decide +kernel
theorem dX11_run_41 : decode cX11_run 41 = .ok (.istore_n 3, 1) := by decide +kernel
theorem dX11_run_42 : decode cX11_run 42 = .ok (.iload_n 3, 1) := by decide +kernel
theorem dX11_run_43 : decode cX11_run 43 = .ok (.sipush 500, 3) := by decide +kernel
theorem dX11_run_46 : decode cX11_run 46 = .ok (.if_icmp .ge 64, 3) := by decide +kernel
theorem dX11_run_49 : decode cX11_run 49 = .ok (.aload_n 2, 1) := by decide +kernel
theorem dX11_run_50 : decode cX11_run 50 = .ok (.ifnull 60, 3) := by decide +kernel
