theorem dX12_putAll_9 : decode cX12_putAll 9 = .ok (.iload_n 1, 1) := by decide +kernel
theorem dX12_putAll_10 : decode cX12_putAll 10 = .ok (.iaload, 1) := by decide +kernel
theorem dX12_putAll_11 : decode cX12_putAll 11 = .ok (.if_icmp .ge 41, 3) := by decide +kernel
theorem dX12_putAll_14 : decode cX12_putAll 14 = .ok (.aload_n 0, 1) := by decide +kernel
theorem dX12_putAll_15 : decode cX12_putAll 15 = .ok (.aload_n 0, 1) := by decide +kernel
theorem dX12_putAll_16 : decode cX12_putAll 16 = .ok (.getfield 25, 3) := by decide +kernel
theorem dX12_putAll_19 : decode cX12_putAll 19 = .ok (.sipush 300, 3) := by decide +kernel
theorem dX12_putAll_22 : decode cX12_putAll 22 = .ok (.iload_n 1, 1) := by decide +kernel
theorem dX12_putAll_23 : decode cX12_putAll 23 = .ok (.imul, 1) := by decide +kernel
theorem dX12_putAll_24 : decode cX12_putAll 24 = .ok (.iload 4, 2) := by decide +kernel
theorem dX12_putAll_26 : decode cX12_putAll 26 = .ok (.iadd, 1) := by decide +kernel
theorem dX12_putAll_27 : decode cX12_putAll 27 = .ok (.iaload, 1) := by decide +kernel
theorem dX12_putAll_28 : decode cX12_putAll 28 = .ok (.lload_n 2, 1) := by decide +kernel
theorem dX12_putAll_29 : decode cX12_putAll 29 = .ok (.aload_n 0, 1) := by decide +kernel
theorem dX12_putAll_30 : decode cX12_putAll 30 = .ok (.getfield 28, 3) := by decide +kernel
theorem dX12_putAll_33 : decode cX12_putAll 33 = .ok (.sipush 300, 3) := by decide +kernel
theorem dX12_putAll_36 : decode cX12_putAll 36 = .ok (.iload_n 1, 1) := by decide +kernel
theorem dX12_putAll_37 : decode cX12_putAll 37 = .ok (.imul, 1) := by decide +kernel
theorem dX12_putAll_38 : decode cX12_putAll 38 = .ok (.iload 4, 2) := by decide +kernel
theorem dX12_putAll_40 : decode cX12_putAll 40 = .ok (.iadd, 1) := by decide +kernel
theorem dX12_putAll_41 : decode cX12_putAll 41 = .ok (.laload, 1) := by decide +kernel
theorem dX12_putAll_42 : decode cX12_putAll 42 = .ok (.lmul, 1) := by decide +kernel
theorem dX12_putAll_43 : decode cX12_putAll 43 = .ok (.invokevirtual 110, 3) := by decide +kernel
theorem dX12_putAll_46 : decode cX12_putAll 46 = .ok (.iinc 4 1, 3) := by decide +kernel
theorem dX12_putAll_49 : decode cX12_putAll 49 = .ok (.goto (-46), 3) := by decide +kernel
theorem dX12_putAll_52 : decode cX12_putAll 52 = .ok (.return_, 1) := by decide +kernel
theorem dX12_copySum_0 : decode cX12_copySum 0 = .ok (.aload_n 0, 1) := by decide +kernel
theorem dX12_copySum_1 : decode cX12_copySum 1 = .ok (.getfield 22, 3) := by decide +kernel
theorem dX12_copySum_4 : decode cX12_copySum 4 = .ok (.iload_n 1, 1) := by decide +kernel
theorem dX12_copySum_5 : decode cX12_copySum 5 = .ok (.aload_n 0, 1) := by decide +kernel
theorem dX12_copySum_6 : decode cX12_copySum 6 = .ok (.getfield 22, 3) := by decide +kernel
theorem dX12_copySum_9 : decode cX12_copySum 9 = .ok (.iload_n 2, 1) := by decide +kernel
theorem dX12_copySum_10 : decode cX12_copySum 10 = .ok (.iaload, 1) := by decide +kernel
theorem dX12_copySum_11 : decode cX12_copySum 11 = .ok (.iastore, 1) := by decide +kernel
theorem dX12_copySum_12 : decode cX12_copySum 12 = .ok (.iconst 0, 1) := by decide +kernel
theorem dX12_copySum_13 : decode cX12_copySum 13 = .ok (.istore_n 3, 1) := by decide +kernel
theorem dX12_copySum_14 : decode cX12_copySum 14 = .ok (.iload_n 3, 1) := by decide +kernel
theorem dX12_copySum_15 : decode cX12_copySum 15 = .ok (.aload_n 0, 1) := by decide +kernel
theorem dX12_copySum_16 : decode cX12_copySum 16 = .ok (.getfield 22, 3) := by decide +kernel
theorem dX12_copySum_19 : decode cX12_copySum 19 = .ok (.iload_n 2, 1) := by decide +kernel
theorem dX12_copySum_20 : decode cX12_copySum 20 = .ok (.iaload, 1) := by decide +kernel
theorem dX12_copySum_21 : decode cX12_copySum 21 = .ok (.if_icmp .ge 57, 3) := by decide +kernel
theorem dX12_copySum_24 : decode cX12_copySum 24 = .ok (.aload_n 0, 1) := by decide +kernel
theorem dX12_copySum_25 : decode cX12_copySum 25 = .ok (.getfield 25, 3) := by decide +kernel
theorem dX12_copySum_28 : decode cX12_copySum 28 = .ok (.sipush 300, 3) := by decide +kernel
theorem dX12_copySum_31 : decode cX12_copySum 31 = .ok (.iload_n 1, 1) := by decide +kernel
theorem dX12_copySum_32 : decode cX12_copySum 32 = .ok (.imul, 1) := by decide +kernel
theorem dX12_copySum_33 : decode cX12_copySum 33 = .ok (.iload_n 3, 1) := by decide +kernel
theorem dX12_copySum_34 : decode cX12_copySum 34 = .ok (.iadd, 1) := by decide +kernel
theorem dX12_copySum_35 : decode cX12_copySum 35 = .ok (.aload_n 0, 1) := by decide +kernel
theorem dX12_copySum_36 : decode cX12_copySum 36 = .ok (.getfield 25, 3) := by decide +kernel
theorem dX12_copySum_39 : decode cX12_copySum 39 = .ok (.sipush 300, 3) := by decide +kernel
theorem dX12_copySum_42 : decode cX12_copySum 42 = .ok (.iload_n 2, 1) := by decide +kernel
theorem dX12_copySum_43 : decode cX12_copySum 43 = .ok (.imul, 1) := by decide +kernel
theorem dX12_copySum_44 : decode cX12_copySum 44 = .ok (.iload_n 3, 1) := by decide +kernel
theorem dX12_copySum_45 : decode cX12_copySum 45 = .ok (.iadd, 1) := by decide +kernel
theorem dX12_copySum_46 : decode cX12_copySum 46 = .ok (.iaload, 1) := by decide +kernel
theorem dX12_copySum_47 : decode cX12_copySum 47 = .ok (.iastore, 1) := by decide +kernel
theorem dX12_copySum_48 : decode cX12_copySum 48 = .ok (.aload_n 0, 1) := by decide +kernel
theorem dX12_copySum_49 : decode cX12_copySum 49 = .ok (.getfield 28, 3) := by decide +kernel
theorem dX12_copySum_52 : decode cX12_copySum 52 = .ok (.sipush 300, 3) := by decide +kernel
theorem dX12_copySum_55 : decode cX12_copySum 55 = .ok (.iload_n 1, 1) := by decide +kernel
theorem dX12_copySum_56 : decode cX12_copySum 56 = .ok (.imul, 1) := by decide +kernel
theorem dX12_copySum_57 : decode cX12_copySum 57 = .ok (.iload_n 3, 1) := by decide +kernel
theorem dX12_copySum_58 : decode cX12_copySum 58 = .ok (.iadd, 1) := by decide +kernel
theorem dX12_copySum_59 : decode cX12_copySum 59 = .ok (.aload_n 0, 1) := by decide +kernel
theorem dX12_copySum_60 : decode cX12_copySum 60 = .ok (.getfield 28, 3) := by decide +kernel
theorem dX12_copySum_63 : decode cX12_copySum 63 = .ok (.sipush 300, 3) := by decide +kernel
theorem dX12_copySum_66 : decode cX12_copySum 66 = .ok (.iload_n 2, 1) := by decide +kernel
theorem dX12_copySum_67 : decode cX12_copySum 67 = .ok (.imul, 1) := by decide +kernel
theorem dX12_copySum_68 : decode cX12_copySum 68 = .ok (.iload_n 3, 1) := by decide +kernel
theorem dX12_copySum_69 : decode cX12_copySum 69 = .ok (.iadd, 1) := by decide +kernel
theorem dX12_copySum_70 : decode cX12_copySum 70 = .ok (.laload, 1) := by decide +kernel
theorem dX12_copySum_71 : decode cX12_copySum 71 = .ok (.lastore, 1) := by decide +kernel
theorem dX12_copySum_72 : decode cX12_copySum 72 = .ok (.iinc 3 1, 3) := by decide +kernel
theorem dX12_copySum_75 : decode cX12_copySum 75 = .ok (.goto (-61), 3) := by decide +kernel
theorem dX12_copySum_78 : decode cX12_copySum 78 = .ok (.return_, 1) := by decide +kernel
set_option maxRecDepth 20000 in
theorem ggX12_kept_X12_keep : GoodIn wsX12_kept wsX12_keep := goodIn_r _ [7, 8, 9, 10, 11, 12, 13, 14, 1, 15, 16, 6, 17, 18, 19, 20, 21, 22, 23, 24, 25, 26, 27, 28, 29, 30, 31, 32, 33, 34, 35, 36, 37, 38, 39, 40, 41, 42, 43, 44, 45, 46, 47, 48] (by decide +kernel) (by decide +kernel)
set_option maxRecDepth 20000 in
theorem gX12_kept_X12_keep : GoodIn wsX12_kept (wsV RX12 114 RX12 yX12_keep wsX12_keep) := goodIn_app (goodIn_of _ (by decide +kernel)) ggX12_kept_X12_keep
theorem dX12_kept_0 : decode cX12_kept 0 = .ok (.aload_n 0, 1) := by decide +kernel
theorem dX12_kept_1 : decode cX12_kept 1 = .ok (.iload_n 1, 1) := by decide +kernel
theorem dX12_kept_2 : decode cX12_kept 2 = .ok (.invokevirtual 114, 3) := by decide +kernel
theorem dX12_kept_5 : decode cX12_kept 5 = .ok (.ifCond .eq 12, 3) := by decide +kernel
theorem dX12_kept_8 : decode cX12_kept 8 = .ok (.aload_n 0, 1) := by decide +kernel
theorem dX12_kept_9 : decode cX12_kept 9 = .ok (.getfield 22, 3) := by decide +kernel
theorem dX12_kept_12 : decode cX12_kept 12 = .ok (.iload_n 1, 1) := by decide +kernel
theorem dX12_kept_13 : decode cX12_kept 13 = .ok (.iaload, 1) := by decide +kernel
theorem dX12_kept_14 : decode cX12_kept 14 = .ok (.goto 5, 3) := by decide +kernel
theorem dX12_kept_17 : decode cX12_kept 17 = .ok (.ldc 117, 2) := by decide +kernel
theorem dX12_kept_19 : decode cX12_kept 19 = .ok (.ireturn, 1) := by decide +kernel
set_option maxRecDepth 20000 in
theorem ggX12_clear_X12_isShelf : GoodIn wsX12_clear wsX12_isShelf := goodIn_r _ [6, 7, 8, 9, 10, 5, 11] (by decide +kernel) (by decide +kernel)
set_option maxRecDepth 20000 in
theorem gX12_clear_X12_isShelf : GoodIn wsX12_clear (va_wsS RX12 118 yX12_isShelf wsX12_isShelf) := goodIn_app (goodIn_of _ (by decide +kernel)) ggX12_clear_X12_isShelf
set_option maxRecDepth 20000 in
theorem ggX12_clear_X12_placeOf : GoodIn wsX12_clear wsX12_placeOf := goodIn_r _ [14] (by decide +kernel) (by decide +kernel)
set_option maxRecDepth 20000 in
theorem gX12_clear_X12_placeOf : GoodIn wsX12_clear (va_wsS RX12 121 yX12_placeOf wsX12_placeOf) := goodIn_app (goodIn_of _ (by decide +kernel)) ggX12_clear_X12_placeOf
theorem dX12_clear_0 : decode cX12_clear 0 = .ok (.iload_n 1, 1) := by decide +kernel
theorem dX12_clear_1 : decode cX12_clear 1 = .ok (.invokestatic 118, 3) := by decide +kernel
theorem dX12_clear_4 : decode cX12_clear 4 = .ok (.ifCond .ne 6, 3) := by decide +kernel
theorem dX12_clear_7 : decode cX12_clear 7 = .ok (.ldc 89, 2) := by decide +kernel
theorem dX12_clear_9 : decode cX12_clear 9 = .ok (.ireturn, 1) := by decide +kernel
theorem dX12_clear_10 : decode cX12_clear 10 = .ok (.aload_n 0, 1) := by decide +kernel
theorem dX12_clear_11 : decode cX12_clear 11 = .ok (.getfield 22, 3) := by decide +kernel
theorem dX12_clear_14 : decode cX12_clear 14 = .ok (.iload_n 1, 1) := by decide +kernel
theorem dX12_clear_15 : decode cX12_clear 15 = .ok (.invokestatic 121, 3) := by decide +kernel
theorem dX12_clear_18 : decode cX12_clear 18 = .ok (.iaload, 1) := by decide +kernel
theorem dX12_clear_19 : decode cX12_clear 19 = .ok (.istore_n 2, 1) := by decide +kernel
theorem dX12_clear_20 : decode cX12_clear 20 = .ok (.aload_n 0, 1) := by decide +kernel
theorem dX12_clear_21 : decode cX12_clear 21 = .ok (.getfield 22, 3) := by decide +kernel
theorem dX12_clear_24 : decode cX12_clear 24 = .ok (.iload_n 1, 1) := by decide +kernel
theorem dX12_clear_25 : decode cX12_clear 25 = .ok (.invokestatic 121, 3) := by decide +kernel
theorem dX12_clear_28 : decode cX12_clear 28 = .ok (.iconst 0, 1) := by decide +kernel
theorem dX12_clear_29 : decode cX12_clear 29 = .ok (.iastore, 1) := by decide +kernel
theorem dX12_clear_30 : decode cX12_clear 30 = .ok (.iload_n 2, 1) := by decide +kernel
theorem dX12_clear_31 : decode cX12_clear 31 = .ok (.ireturn, 1) := by decide +kernel
set_option maxRecDepth 20000 in
theorem ggX12_add_X12_isShelf : GoodIn wsX12_add wsX12_isShelf := goodIn_r _ [6, 7, 8, 9, 10, 5, 11] (by decide +kernel) (by decide +kernel)
set_option maxRecDepth 20000 in
theorem gX12_add_X12_isShelf : GoodIn wsX12_add (va_wsS RX12 118 yX12_isShelf wsX12_isShelf) := goodIn_app (goodIn_of _ (by decide +kernel)) ggX12_add_X12_isShelf
set_option maxRecDepth 20000 in
theorem ggX12_add_X12_isProduct : GoodIn wsX12_add wsX12_isProduct := goodIn_r _ [15, 16, 9, 10, 5, 11, 47, 48, 49, 50, 51, 52, 53, 54, 55, 56, 57, 58, 59, 60, 61, 62, 63, 64, 65, 66, 67, 68, 69, 70, 71, 72, 73, 74] (by decide +kernel) (by decide +kernel)
set_option maxRecDepth 20000 in
theorem gX12_add_X12_isProduct : GoodIn wsX12_add (wsV RX12 124 RX12 yX12_isProduct wsX12_isProduct) := goodIn_app (goodIn_of _ (by decide +kernel)) ggX12_add_X12_isProduct
set_option maxRecDepth 20000 in
theorem ggX12_add_X12_placeOf : GoodIn wsX12_add wsX12_placeOf := goodIn_r _ [19] (by decide +kernel) (by decide +kernel)
set_option maxRecDepth 20000 in
theorem gX12_add_X12_placeOf : GoodIn wsX12_add (va_wsS RX12 121 yX12_placeOf wsX12_placeOf) := goodIn_app (goodIn_of _ (by decide +kernel)) ggX12_add_X12_placeOf
set_option maxRecDepth 20000 in
theorem ggX12_add_X12_putAll : GoodIn wsX12_add wsX12_putAll := goodIn_r _ [23, 24, 25, 26, 27, 28, 29, 5, 30, 2, 31, 32, 47, 48, 49, 50, 51, 52, 53, 54, 55, 56, 57, 58, 59, 60, 61, 62, 63, 64, 65, 66, 67, 68, 69, 70, 71, 72, 73, 74] (by decide +kernel) (by decide +kernel)
set_option maxRecDepth 20000 in
theorem gX12_add_X12_putAll : GoodIn wsX12_add (wsV RX12 127 RX12 yX12_putAll wsX12_putAll) := goodIn_app (goodIn_of _ (by decide +kernel)) ggX12_add_X12_putAll
set_option maxRecDepth 20000 in
theorem ggX12_add_X12_put : GoodIn wsX12_add wsX12_put := goodIn_r _ [30, 2, 31, 32, 47, 48, 49, 50, 51, 52, 53, 54, 55, 56, 57, 58, 59, 60, 61, 62, 63, 64, 65, 66, 67, 68, 69, 70, 71, 72, 73, 74] (by decide +kernel) (by decide +kernel)
set_option maxRecDepth 20000 in
theorem gX12_add_X12_put : GoodIn wsX12_add (wsV RX12 110 RX12 yX12_put wsX12_put) := goodIn_app (goodIn_of _ (by decide +kernel)) ggX12_add_X12_put
set_option maxRecDepth 20000 in
theorem ggX12_add_X12_kept : GoodIn wsX12_add wsX12_kept := goodIn_r _ [36, 24, 37, 38, 39, 40, 5, 41, 2, 32, 42, 43, 31, 25, 26, 9, 10, 11, 44, 45, 46, 47, 48, 49, 50, 51, 52, 53, 54, 55, 56, 57, 58, 59, 60, 61, 62, 63, 64, 65, 66, 67, 68, 69, 70, 71, 72, 73, 74] (by decide +kernel) (by decide +kernel)
set_option maxRecDepth 20000 in
theorem gX12_add_X12_kept : GoodIn wsX12_add (wsV RX12 130 RX12 yX12_kept wsX12_kept) := goodIn_app (goodIn_of _ (by decide +kernel)) ggX12_add_X12_kept
theorem dX12_add_0 : decode cX12_add 0 = .ok (.iload_n 1, 1) := by decide +kernel
theorem dX12_add_1 : decode cX12_add 1 = .ok (.invokestatic 118, 3) := by decide +kernel
theorem dX12_add_4 : decode cX12_add 4 = .ok (.ifCond .eq 11, 3) := by decide +kernel
theorem dX12_add_7 : decode cX12_add 7 = .ok (.aload_n 0, 1) := by decide +kernel
theorem dX12_add_8 : decode cX12_add 8 = .ok (.iload_n 2, 1) := by decide +kernel
theorem dX12_add_9 : decode cX12_add 9 = .ok (.invokevirtual 124, 3) := by decide +kernel
theorem dX12_add_12 : decode cX12_add 12 = .ok (.ifCond .ne 6, 3) := by decide +kernel
theorem dX12_add_15 : decode cX12_add 15 = .ok (.ldc 89, 2) := by decide +kernel
theorem dX12_add_17 : decode cX12_add 17 = .ok (.ireturn, 1) := by decide +kernel
theorem dX12_add_18 : decode cX12_add 18 = .ok (.aload_n 0, 1) := by decide +kernel
theorem dX12_add_19 : decode cX12_add 19 = .ok (.iconst 0, 1) := by decide +kernel
theorem dX12_add_20 : decode cX12_add 20 = .ok (.putfield 97, 3) := by decide +kernel
theorem dX12_add_23 : decode cX12_add 23 = .ok (.aload_n 0, 1) := by decide +kernel
theorem dX12_add_24 : decode cX12_add 24 = .ok (.iload_n 1, 1) := by decide +kernel
theorem dX12_add_25 : decode cX12_add 25 = .ok (.invokestatic 121, 3) := by decide +kernel
theorem dX12_add_28 : decode cX12_add 28 = .ok (.lconst 1, 1) := by decide +kernel
theorem dX12_add_29 : decode cX12_add 29 = .ok (.invokevirtual 127, 3) := by decide +kernel
theorem dX12_add_32 : decode cX12_add 32 = .ok (.aload_n 0, 1) := by decide +kernel
theorem dX12_add_33 : decode cX12_add 33 = .ok (.iload_n 2, 1) := by decide +kernel
theorem dX12_add_34 : decode cX12_add 34 = .ok (.bipush 20, 2) := by decide +kernel
theorem dX12_add_36 : decode cX12_add 36 = .ok (.ishl, 1) := by decide +kernel
theorem dX12_add_37 : decode cX12_add 37 = .ok (.iload_n 3, 1) := by decide +kernel
theorem dX12_add_38 : decode cX12_add 38 = .ok (.i2l, 1) := by decide +kernel
theorem dX12_add_39 : decode cX12_add 39 = .ok (.invokevirtual 110, 3) := by decide +kernel
theorem dX12_add_42 : decode cX12_add 42 = .ok (.aload_n 0, 1) := by decide +kernel
theorem dX12_add_43 : decode cX12_add 43 = .ok (.iload_n 1, 1) := by decide +kernel
theorem dX12_add_44 : decode cX12_add 44 = .ok (.invokestatic 121, 3) := by decide +kernel
theorem dX12_add_47 : decode cX12_add 47 = .ok (.invokevirtual 130, 3) := by decide +kernel
theorem dX12_add_50 : decode cX12_add 50 = .ok (.ireturn, 1) := by decide +kernel
set_option maxRecDepth 20000 in
theorem ggX12_take_X12_isShelf : GoodIn wsX12_take wsX12_isShelf := goodIn_r _ [6, 7, 8, 9, 10, 5, 11] (by decide +kernel) (by decide +kernel)
set_option maxRecDepth 20000 in
theorem gX12_take_X12_isShelf : GoodIn wsX12_take (va_wsS RX12 118 yX12_isShelf wsX12_isShelf) := goodIn_app (goodIn_of _ (by decide +kernel)) ggX12_take_X12_isShelf
set_option maxRecDepth 20000 in
theorem ggX12_take_X12_placeOf : GoodIn wsX12_take wsX12_placeOf := goodIn_r _ [14] (by decide +kernel) (by decide +kernel)
set_option maxRecDepth 20000 in
theorem gX12_take_X12_placeOf : GoodIn wsX12_take (va_wsS RX12 121 yX12_placeOf wsX12_placeOf) := goodIn_app (goodIn_of _ (by decide +kernel)) ggX12_take_X12_placeOf
set_option maxRecDepth 20000 in
theorem ggX12_take_X12_copySum : GoodIn wsX12_take wsX12_copySum := goodIn_r _ [18, 2, 19, 20, 21, 22, 23, 24, 25, 26, 27, 28, 29, 30, 31, 32, 33, 34, 35, 36, 37, 38, 39, 40, 41, 42, 43, 44, 45, 46, 47, 48] (by decide +kernel) (by decide +kernel)
set_option maxRecDepth 20000 in
theorem gX12_take_X12_copySum : GoodIn wsX12_take (wsV RX12 133 RX12 yX12_copySum wsX12_copySum) := goodIn_app (goodIn_of _ (by decide +kernel)) ggX12_take_X12_copySum
theorem dX12_take_0 : decode cX12_take 0 = .ok (.iload_n 1, 1) := by decide +kernel
theorem dX12_take_1 : decode cX12_take 1 = .ok (.invokestatic 118, 3) := by decide +kernel
theorem dX12_take_4 : decode cX12_take 4 = .ok (.ifCond .eq 10, 3) := by decide +kernel
theorem dX12_take_7 : decode cX12_take 7 = .ok (.iload_n 2, 1) := by decide +kernel
theorem dX12_take_8 : decode cX12_take 8 = .ok (.invokestatic 118, 3) := by decide +kernel
theorem dX12_take_11 : decode cX12_take 11 = .ok (.ifCond .ne 6, 3) := by decide +kernel
theorem dX12_take_14 : decode cX12_take 14 = .ok (.ldc 89, 2) := by decide +kernel
theorem dX12_take_16 : decode cX12_take 16 = .ok (.ireturn, 1) := by decide +kernel
theorem dX12_take_17 : decode cX12_take 17 = .ok (.aload_n 0, 1) := by decide +kernel
theorem dX12_take_18 : decode cX12_take 18 = .ok (.iload_n 1, 1) := by decide +kernel
theorem dX12_take_19 : decode cX12_take 19 = .ok (.invokestatic 121, 3) := by decide +kernel
theorem dX12_take_22 : decode cX12_take 22 = .ok (.iload_n 2, 1) := by decide +kernel
theorem dX12_take_23 : decode cX12_take 23 = .ok (.invokestatic 121, 3) := by decide +kernel
theorem dX12_take_26 : decode cX12_take 26 = .ok (.invokevirtual 133, 3) := by decide +kernel
theorem dX12_take_29 : decode cX12_take 29 = .ok (.aload_n 0, 1) := by decide +kernel
theorem dX12_take_30 : decode cX12_take 30 = .ok (.getfield 22, 3) := by decide +kernel
theorem dX12_take_33 : decode cX12_take 33 = .ok (.iload_n 1, 1) := by decide +kernel
theorem dX12_take_34 : decode cX12_take 34 = .ok (.invokestatic 121, 3) := by decide +kernel
theorem dX12_take_37 : decode cX12_take 37 = .ok (.iaload, 1) := by decide +kernel
theorem dX12_take_38 : decode cX12_take 38 = .ok (.ireturn, 1) := by decide +kernel
set_option maxRecDepth 20000 in
theorem ggX12_join_X12_isShelf : GoodIn wsX12_join wsX12_isShelf := goodIn_r _ [9, 10, 11, 12, 13, 8, 14] (by decide +kernel) (by decide +kernel)
set_option maxRecDepth 20000 in
theorem gX12_join_X12_isShelf : GoodIn wsX12_join (va_wsS RX12 118 yX12_isShelf wsX12_isShelf) := goodIn_app (goodIn_of _ (by decide +kernel)) ggX12_join_X12_isShelf
set_option maxRecDepth 20000 in
theorem ggX12_join_X12_in : GoodIn wsX12_join wsX12_in := goodIn_r _ [14] (by decide +kernel) (by decide +kernel)
set_option maxRecDepth 20000 in
theorem gX12_join_X12_in : GoodIn wsX12_join (va_wsS RX12 79 yX12_in wsX12_in) := goodIn_app (goodIn_of _ (by decide +kernel)) ggX12_join_X12_in
set_option maxRecDepth 20000 in
theorem ggX12_join_X12_placeOf : GoodIn wsX12_join wsX12_placeOf := goodIn_r _ [17] (by decide +kernel) (by decide +kernel)
set_option maxRecDepth 20000 in
theorem gX12_join_X12_placeOf : GoodIn wsX12_join (va_wsS RX12 121 yX12_placeOf wsX12_placeOf) := goodIn_app (goodIn_of _ (by decide +kernel)) ggX12_join_X12_placeOf
set_option maxRecDepth 20000 in
theorem ggX12_join_X12_joined : GoodIn wsX12_join wsX12_joined := goodIn_r _ [21, 22, 23, 24, 25, 8, 26, 4, 27, 28, 29, 30, 31, 32, 33, 34, 35, 36, 37, 38, 39, 40, 12, 13, 14, 41, 42, 43, 44, 45, 46, 47, 48, 49, 50, 51, 52, 53, 54, 55, 56, 57, 58, 59, 60, 61, 62, 63, 64, 65, 66, 67, 68, 69, 70, 71] (by decide +kernel) (by decide +kernel)
set_option maxRecDepth 20000 in
theorem gX12_join_X12_joined : GoodIn wsX12_join (wsV RX12 141 RX12 yX12_joined wsX12_joined) := goodIn_app (goodIn_of _ (by decide +kernel)) ggX12_join_X12_joined
theorem dX12_join_0 : decode cX12_join 0 = .ok (.iload_n 1, 1) := by decide +kernel
theorem dX12_join_1 : decode cX12_join 1 = .ok (.invokestatic 118, 3) := by decide +kernel
theorem dX12_join_4 : decode cX12_join 4 = .ok (.ifCond .eq 24, 3) := by decide +kernel
theorem dX12_join_7 : decode cX12_join 7 = .ok (.iload_n 2, 1) := by decide +kernel
theorem dX12_join_8 : decode cX12_join 8 = .ok (.invokestatic 118, 3) := by decide +kernel
theorem dX12_join_11 : decode cX12_join 11 = .ok (.ifCond .eq 17, 3) := by decide +kernel
theorem dX12_join_14 : decode cX12_join 14 = .ok (.iload_n 3, 1) := by decide +kernel
theorem dX12_join_15 : decode cX12_join 15 = .ok (.i2l, 1) := by decide +kernel
theorem dX12_join_16 : decode cX12_join 16 = .ok (.ldc2_w 137, 3) := by decide +kernel
theorem dX12_join_19 : decode cX12_join 19 = .ok (.ldc2_w 139, 3) := by decide +kernel
theorem dX12_join_22 : decode cX12_join 22 = .ok (.invokestatic 79, 3) := by decide +kernel
theorem dX12_join_25 : decode cX12_join 25 = .ok (.ifCond .ne 6, 3) := by decide +kernel
theorem dX12_join_28 : decode cX12_join 28 = .ok (.ldc 89, 2) := by decide +kernel
theorem dX12_join_30 : decode cX12_join 30 = .ok (.ireturn, 1) := by decide +kernel
theorem dX12_join_31 : decode cX12_join 31 = .ok (.aload_n 0, 1) := by decide +kernel
theorem dX12_join_32 : decode cX12_join 32 = .ok (.iload_n 1, 1) := by decide +kernel
theorem dX12_join_33 : decode cX12_join 33 = .ok (.invokestatic 121, 3) := by decide +kernel
theorem dX12_join_36 : decode cX12_join 36 = .ok (.iload_n 2, 1) := by decide +kernel
theorem dX12_join_37 : decode cX12_join 37 = .ok (.invokestatic 121, 3) := by decide +kernel
theorem dX12_join_40 : decode cX12_join 40 = .ok (.iload_n 3, 1) := by decide +kernel
theorem dX12_join_41 : decode cX12_join 41 = .ok (.invokevirtual 141, 3) := by decide +kernel
theorem dX12_join_44 : decode cX12_join 44 = .ok (.ifCond .eq 15, 3) := by decide +kernel
theorem dX12_join_47 : decode cX12_join 47 = .ok (.aload_n 0, 1) := by decide +kernel
theorem dX12_join_48 : decode cX12_join 48 = .ok (.getfield 22, 3) := by decide +kernel
theorem dX12_join_51 : decode cX12_join 51 = .ok (.iload_n 1, 1) := by decide +kernel
theorem dX12_join_52 : decode cX12_join 52 = .ok (.invokestatic 121, 3) := by decide +kernel
theorem dX12_join_55 : decode cX12_join 55 = .ok (.iaload, 1) := by decide +kernel
theorem dX12_join_56 : decode cX12_join 56 = .ok (.goto 5, 3) := by decide +kernel
theorem dX12_join_59 : decode cX12_join 59 = .ok (.ldc 117, 2) := by decide +kernel
theorem dX12_join_61 : decode cX12_join 61 = .ok (.ireturn, 1) := by decide +kernel
set_option maxRecDepth 20000 in
theorem ggX12_joined_X12_putAll : GoodIn wsX12_joined wsX12_putAll := goodIn_r _ [6, 7, 8, 9, 10, 11, 12, 5, 13, 1, 14, 15, 28, 29, 30, 31, 32, 33, 34, 35, 36, 37, 38, 39, 40, 41, 42, 43, 44, 45, 46, 47, 48, 49, 50, 51, 52, 53, 54, 55] (by decide +kernel) (by decide +kernel)
set_option maxRecDepth 20000 in
theorem gX12_joined_X12_putAll : GoodIn wsX12_joined (wsV RX12 127 RX12 yX12_putAll wsX12_putAll) := goodIn_app (goodIn_of _ (by decide +kernel)) ggX12_joined_X12_putAll
set_option maxRecDepth 20000 in
theorem ggX12_joined_X12_keep : GoodIn wsX12_joined wsX12_keep := goodIn_r _ [19, 1, 15, 20, 21, 14, 8, 9, 7, 22, 23, 5, 24, 25, 26, 27, 28, 29, 30, 31, 32, 33, 34, 35, 36, 37, 38, 39, 40, 41, 42, 43, 44, 45, 46, 47, 48, 49, 50, 51, 52, 53, 54, 55] (by decide +kernel) (by decide +kernel)
set_option maxRecDepth 20000 in
theorem gX12_joined_X12_keep : GoodIn wsX12_joined (wsV RX12 114 RX12 yX12_keep wsX12_keep) := goodIn_app (goodIn_of _ (by decide +kernel)) ggX12_joined_X12_keep
theorem dX12_joined_0 : decode cX12_joined 0 = .ok (.aload_n 0, 1) := by decide +kernel
theorem dX12_joined_1 : decode cX12_joined 1 = .ok (.iconst 0, 1) := by decide +kernel
theorem dX12_joined_2 : decode cX12_joined 2 = .ok (.putfield 97, 3) := by decide +kernel
theorem dX12_joined_5 : decode cX12_joined 5 = .ok (.aload_n 0, 1) := by decide +kernel
theorem dX12_joined_6 : decode cX12_joined 6 = .ok (.iload_n 1, 1) := by decide +kernel
theorem dX12_joined_7 : decode cX12_joined 7 = .ok (.lconst 1, 1) := by decide +kernel
theorem dX12_joined_8 : decode cX12_joined 8 = .ok (.invokevirtual 127, 3) := by decide +kernel
theorem dX12_joined_11 : decode cX12_joined 11 = .ok (.aload_n 0, 1) := by decide +kernel
theorem dX12_joined_12 : decode cX12_joined 12 = .ok (.iload_n 2, 1) := by decide +kernel
theorem dX12_joined_13 : decode cX12_joined 13 = .ok (.iload_n 3, 1) := by decide +kernel
theorem dX12_joined_14 : decode cX12_joined 14 = .ok (.i2l, 1) := by decide +kernel
theorem dX12_joined_15 : decode cX12_joined 15 = .ok (.invokevirtual 127, 3) := by decide +kernel
theorem dX12_joined_18 : decode cX12_joined 18 = .ok (.aload_n 0, 1) := by decide +kernel
theorem dX12_joined_19 : decode cX12_joined 19 = .ok (.iload_n 1, 1) := by decide +kernel
theorem dX12_joined_20 : decode cX12_joined 20 = .ok (.invokevirtual 114, 3) := by decide +kernel
theorem dX12_joined_23 : decode cX12_joined 23 = .ok (.ireturn, 1) := by decide +kernel
theorem dX12_fits_0 : decode cX12_fits 0 = .ok (.iconst 0, 1) := by decide +kernel
theorem dX12_fits_1 : decode cX12_fits 1 = .ok (.istore_n 3, 1) := by decide +kernel
theorem dX12_fits_2 : decode cX12_fits 2 = .ok (.iconst 0, 1) := by decide +kernel
theorem dX12_fits_3 : decode cX12_fits 3 = .ok (.istore 4, 2) := by decide +kernel
theorem dX12_fits_5 : decode cX12_fits 5 = .ok (.iload 4, 2) := by decide +kernel
theorem dX12_fits_7 : decode cX12_fits 7 = .ok (.aload_n 0, 1) := by decide +kernel
theorem dX12_fits_8 : decode cX12_fits 8 = .ok (.getfield 67, 3) := by decide +kernel
theorem dX12_fits_11 : decode cX12_fits 11 = .ok (.if_icmp .ge 54, 3) := by decide +kernel
theorem dX12_fits_14 : decode cX12_fits 14 = .ok (.iload_n 1, 1) := by decide +kernel
theorem dX12_fits_15 : decode cX12_fits 15 = .ok (.iconst 2, 1) := by decide +kernel
theorem dX12_fits_16 : decode cX12_fits 16 = .ok (.iload 4, 2) := by decide +kernel
theorem dX12_fits_18 : decode cX12_fits 18 = .ok (.imul, 1) := by decide +kernel
theorem dX12_fits_19 : decode cX12_fits 19 = .ok (.ishr, 1) := by decide +kernel
theorem dX12_fits_20 : decode cX12_fits 20 = .ok (.iconst 3, 1) := by decide +kernel
theorem dX12_fits_21 : decode cX12_fits 21 = .ok (.iand, 1) := by decide +kernel
theorem dX12_fits_22 : decode cX12_fits 22 = .ok (.istore 5, 2) := by decide +kernel
theorem dX12_fits_24 : decode cX12_fits 24 = .ok (.iload_n 2, 1) := by decide +kernel
theorem dX12_fits_25 : decode cX12_fits 25 = .ok (.iconst 2, 1) := by decide +kernel
theorem dX12_fits_26 : decode cX12_fits 26 = .ok (.iload 4, 2) := by decide +kernel
theorem dX12_fits_28 : decode cX12_fits 28 = .ok (.imul, 1) := by decide +kernel
theorem dX12_fits_29 : decode cX12_fits 29 = .ok (.ishr, 1) := by decide +kernel
theorem dX12_fits_30 : decode cX12_fits 30 = .ok (.iconst 3, 1) := by decide +kernel
theorem dX12_fits_31 : decode cX12_fits 31 = .ok (.iand, 1) := by decide +kernel
theorem dX12_fits_32 : decode cX12_fits 32 = .ok (.istore 6, 2) := by decide +kernel
theorem dX12_fits_34 : decode cX12_fits 34 = .ok (.iload_n 3, 1) := by decide +kernel
theorem dX12_fits_35 : decode cX12_fits 35 = .ok (.iload 5, 2) := by decide +kernel
theorem dX12_fits_37 : decode cX12_fits 37 = .ok (.ifCond .eq 19, 3) := by decide +kernel
theorem dX12_fits_40 : decode cX12_fits 40 = .ok (.iload 6, 2) := by decide +kernel
theorem dX12_fits_42 : decode cX12_fits 42 = .ok (.ifCond .eq 14, 3) := by decide +kernel
theorem dX12_fits_45 : decode cX12_fits 45 = .ok (.iload 5, 2) := by decide +kernel
theorem dX12_fits_47 : decode cX12_fits 47 = .ok (.iload 6, 2) := by decide +kernel
theorem dX12_fits_49 : decode cX12_fits 49 = .ok (.if_icmp .eq 7, 3) := by decide +kernel
theorem dX12_fits_52 : decode cX12_fits 52 = .ok (.iconst 1, 1) := by decide +kernel
theorem dX12_fits_53 : decode cX12_fits 53 = .ok (.goto 4, 3) := by decide +kernel
theorem dX12_fits_56 : decode cX12_fits 56 = .ok (.iconst 0, 1) := by decide +kernel
theorem dX12_fits_57 : decode cX12_fits 57 = .ok (.iadd, 1) := by decide +kernel
theorem dX12_fits_58 : decode cX12_fits 58 = .ok (.istore_n 3, 1) := by decide +kernel
theorem dX12_fits_59 : decode cX12_fits 59 = .ok (.iinc 4 1, 3) := by decide +kernel
theorem dX12_fits_62 : decode cX12_fits 62 = .ok (.goto (-57), 3) := by decide +kernel
theorem dX12_fits_65 : decode cX12_fits 65 = .ok (.iload_n 3, 1) := by decide +kernel
theorem dX12_fits_66 : decode cX12_fits 66 = .ok (.iconst 2, 1) := by decide +kernel
theorem dX12_fits_67 : decode cX12_fits 67 = .ok (.irem, 1) := by decide +kernel
theorem dX12_fits_68 : decode cX12_fits 68 = .ok (.ifCond .ne 7, 3) := by decide +kernel
theorem dX12_fits_71 : decode cX12_fits 71 = .ok (.iconst 1, 1) := by decide +kernel
theorem dX12_fits_72 : decode cX12_fits 72 = .ok (.goto 4, 3) := by decide +kernel
theorem dX12_fits_75 : decode cX12_fits 75 = .ok (.iconst 0, 1) := by decide +kernel
theorem dX12_fits_76 : decode cX12_fits 76 = .ok (.ireturn, 1) := by decide +kernel
theorem dX12_with_0 : decode cX12_with 0 = .ok (.iconst 0, 1) := by decide +kernel
theorem dX12_with_1 : decode cX12_with 1 = .ok (.istore_n 3, 1) := by decide +kernel
theorem dX12_with_2 : decode cX12_with 2 = .ok (.iconst (-1), 1) := by decide +kernel
theorem dX12_with_3 : decode cX12_with 3 = .ok (.istore 4, 2) := by decide +kernel
theorem dX12_with_5 : decode cX12_with 5 = .ok (.iconst 0, 1) := by decide +kernel
theorem dX12_with_6 : decode cX12_with 6 = .ok (.istore 5, 2) := by decide +kernel
theorem dX12_with_8 : decode cX12_with 8 = .ok (.iload 5, 2) := by decide +kernel
theorem dX12_with_10 : decode cX12_with 10 = .ok (.aload_n 0, 1) := by decide +kernel
theorem dX12_with_11 : decode cX12_with 11 = .ok (.getfield 67, 3) := by decide +kernel
theorem dX12_with_14 : decode cX12_with 14 = .ok (.if_icmp .ge 120, 3) := by decide +kernel
theorem dX12_with_17 : decode cX12_with 17 = .ok (.iload_n 1, 1) := by decide +kernel
theorem dX12_with_18 : decode cX12_with 18 = .ok (.iconst 2, 1) := by decide +kernel
theorem dX12_with_19 : decode cX12_with 19 = .ok (.iload 5, 2) := by decide +kernel
theorem dX12_with_21 : decode cX12_with 21 = .ok (.imul, 1) := by decide +kernel
theorem dX12_with_22 : decode cX12_with 22 = .ok (.ishr, 1) := by decide +kernel
theorem dX12_with_23 : decode cX12_with 23 = .ok (.iconst 3, 1) := by decide +kernel
theorem dX12_with_24 : decode cX12_with 24 = .ok (.iand, 1) := by decide +kernel
theorem dX12_with_25 : decode cX12_with 25 = .ok (.istore 6, 2) := by decide +kernel
theorem dX12_with_27 : decode cX12_with 27 = .ok (.iload_n 2, 1) := by decide +kernel
theorem dX12_with_28 : decode cX12_with 28 = .ok (.iconst 2, 1) := by decide +kernel
theorem dX12_with_29 : decode cX12_with 29 = .ok (.iload 5, 2) := by decide +kernel
theorem dX12_with_31 : decode cX12_with 31 = .ok (.imul, 1) := by decide +kernel
theorem dX12_with_32 : decode cX12_with 32 = .ok (.ishr, 1) := by decide +kernel
theorem dX12_with_33 : decode cX12_with 33 = .ok (.iconst 3, 1) := by decide +kernel
theorem dX12_with_34 : decode cX12_with 34 = .ok (.iand, 1) := by decide +kernel
theorem dX12_with_35 : decode cX12_with 35 = .ok (.istore 7, 2) := by decide +kernel
theorem dX12_with_37 : decode cX12_with 37 = .ok (.iload 6, 2) := by decide +kernel
theorem dX12_with_39 : decode cX12_with 39 = .ok (.ifCond .ne 8, 3) := by decide +kernel
theorem dX12_with_42 : decode cX12_with 42 = .ok (.iload 7, 2) := by decide +kernel
theorem dX12_with_44 : decode cX12_with 44 = .ok (.goto 32, 3) := by decide +kernel
theorem dX12_with_47 : decode cX12_with 47 = .ok (.iload 7, 2) := by decide +kernel
theorem dX12_with_49 : decode cX12_with 49 = .ok (.ifCond .ne 8, 3) := by decide +kernel
theorem dX12_with_52 : decode cX12_with 52 = .ok (.iload 6, 2) := by decide +kernel
theorem dX12_with_54 : decode cX12_with 54 = .ok (.goto 22, 3) := by decide +kernel
theorem dX12_with_57 : decode cX12_with 57 = .ok (.iload 6, 2) := by decide +kernel
theorem dX12_with_59 : decode cX12_with 59 = .ok (.iload 7, 2) := by decide +kernel
theorem dX12_with_61 : decode cX12_with 61 = .ok (.if_icmp .ne 7, 3) := by decide +kernel
theorem dX12_with_64 : decode cX12_with 64 = .ok (.iconst 0, 1) := by decide +kernel
theorem dX12_with_65 : decode cX12_with 65 = .ok (.goto 11, 3) := by decide +kernel
theorem dX12_with_68 : decode cX12_with 68 = .ok (.bipush 6, 2) := by decide +kernel
theorem dX12_with_70 : decode cX12_with 70 = .ok (.iload 6, 2) := by decide +kernel
theorem dX12_with_72 : decode cX12_with 72 = .ok (.isub, 1) := by decide +kernel
theorem dX12_with_73 : decode cX12_with 73 = .ok (.iload 7, 2) := by decide +kernel
theorem dX12_with_75 : decode cX12_with 75 = .ok (.isub, 1) := by decide +kernel
theorem dX12_with_76 : decode cX12_with 76 = .ok (.istore 8, 2) := by decide +kernel
theorem dX12_with_78 : decode cX12_with 78 = .ok (.iload_n 3, 1) := by decide +kernel
theorem dX12_with_79 : decode cX12_with 79 = .ok (.iload 8, 2) := by decide +kernel
theorem dX12_with_81 : decode cX12_with 81 = .ok (.iconst 2, 1) := by decide +kernel
theorem dX12_with_82 : decode cX12_with 82 = .ok (.iload 5, 2) := by decide +kernel
theorem dX12_with_84 : decode cX12_with 84 = .ok (.imul, 1) := by decide +kernel
theorem dX12_with_85 : decode cX12_with 85 = .ok (.ishl, 1) := by decide +kernel
theorem dX12_with_86 : decode cX12_with 86 = .ok (.ior, 1) := by decide +kernel
theorem dX12_with_87 : decode cX12_with 87 = .ok (.istore_n 3, 1) := by decide +kernel
theorem dX12_with_88 : decode cX12_with 88 = .ok (.iload 6, 2) := by decide +kernel
theorem dX12_with_90 : decode cX12_with 90 = .ok (.ifCond .eq 38, 3) := by decide +kernel
theorem dX12_with_93 : decode cX12_with 93 = .ok (.iload 7, 2) := by decide +kernel
theorem dX12_with_95 : decode cX12_with 95 = .ok (.ifCond .eq 33, 3) := by decide +kernel
theorem dX12_with_98 : decode cX12_with 98 = .ok (.iload 6, 2) := by decide +kernel
theorem dX12_with_100 : decode cX12_with 100 = .ok (.iload 7, 2) := by decide +kernel
theorem dX12_with_102 : decode cX12_with 102 = .ok (.if_icmp .eq 26, 3) := by decide +kernel
theorem dX12_with_105 : decode cX12_with 105 = .ok (.iload 4, 2) := by decide +kernel
theorem dX12_with_107 : decode cX12_with 107 = .ok (.iload 7, 2) := by decide +kernel
theorem dX12_with_109 : decode cX12_with 109 = .ok (.iload 6, 2) := by decide +kernel
theorem dX12_with_111 : decode cX12_with 111 = .ok (.isub, 1) := by decide +kernel
theorem dX12_with_112 : decode cX12_with 112 = .ok (.iconst 3, 1) := by decide +kernel
theorem dX12_with_113 : decode cX12_with 113 = .ok (.iadd, 1) := by decide +kernel
theorem dX12_with_114 : decode cX12_with 114 = .ok (.iconst 3, 1) := by decide +kernel
theorem dX12_with_115 : decode cX12_with 115 = .ok (.irem, 1) := by decide +kernel
theorem dX12_with_116 : decode cX12_with 116 = .ok (.iconst 1, 1) := by decide +kernel
theorem dX12_with_117 : decode cX12_with 117 = .ok (.if_icmp .ne 7, 3) := by decide +kernel
theorem dX12_with_120 : decode cX12_with 120 = .ok (.iconst 1, 1) := by decide +kernel
theorem dX12_with_121 : decode cX12_with 121 = .ok (.goto 4, 3) := by decide +kernel
theorem dX12_with_124 : decode cX12_with 124 = .ok (.iconst (-1), 1) := by decide +kernel
theorem dX12_with_125 : decode cX12_with 125 = .ok (.iadd, 1) := by decide +kernel
theorem dX12_with_126 : decode cX12_with 126 = .ok (.istore 4, 2) := by decide +kernel
theorem dX12_with_128 : decode cX12_with 128 = .ok (.iinc 5 1, 3) := by decide +kernel
theorem dX12_with_131 : decode cX12_with 131 = .ok (.goto (-123), 3) := by decide +kernel
theorem dX12_with_134 : decode cX12_with 134 = .ok (.aload_n 0, 1) := by decide +kernel
theorem dX12_with_135 : decode cX12_with 135 = .ok (.iload 4, 2) := by decide +kernel
theorem dX12_with_137 : decode cX12_with 137 = .ok (.iconst 4, 1) := by decide +kernel
theorem dX12_with_138 : decode cX12_with 138 = .ok (.irem, 1) := by decide +kernel
theorem dX12_with_139 : decode cX12_with 139 = .ok (.iconst 4, 1) := by decide +kernel
theorem dX12_with_140 : decode cX12_with 140 = .ok (.iadd, 1) := by decide +kernel
theorem dX12_with_141 : decode cX12_with 141 = .ok (.iconst 4, 1) := by decide +kernel
theorem dX12_with_142 : decode cX12_with 142 = .ok (.irem, 1) := by decide +kernel
theorem dX12_with_143 : decode cX12_with 143 = .ok (.ifCond .ne 7, 3) := by decide +kernel
theorem dX12_with_146 : decode cX12_with 146 = .ok (.iconst 1, 1) := by decide +kernel
theorem dX12_with_147 : decode cX12_with 147 = .ok (.goto 4, 3) := by decide +kernel
theorem dX12_with_150 : decode cX12_with 150 = .ok (.iconst (-1), 1) := by decide +kernel
theorem dX12_with_151 : decode cX12_with 151 = .ok (.putfield 145, 3) := by decide +kernel
theorem dX12_with_154 : decode cX12_with 154 = .ok (.iload_n 3, 1) := by decide +kernel
theorem dX12_with_155 : decode cX12_with 155 = .ok (.ireturn, 1) := by decide +kernel
set_option maxRecDepth 20000 in
theorem ggX12_turnQuarter_X12_productOf : GoodIn wsX12_turnQuarter wsX12_productOf := goodIn_r _ [10] (by decide +kernel) (by decide +kernel)
set_option maxRecDepth 20000 in
theorem gX12_turnQuarter_X12_productOf : GoodIn wsX12_turnQuarter (va_wsS RX12 148 yX12_productOf wsX12_productOf) := goodIn_app (goodIn_of _ (by decide +kernel)) ggX12_turnQuarter_X12_productOf
set_option maxRecDepth 20000 in
theorem ggX12_turnQuarter_X12_fits : GoodIn wsX12_turnQuarter wsX12_fits := goodIn_r _ [14, 15, 38, 39, 40, 41, 42, 43, 44, 45, 46, 47, 48, 49, 50, 51, 52, 53, 54, 55, 56, 57, 58, 59, 60, 61, 62, 63, 64, 65] (by decide +kernel) (by decide +kernel)
set_option maxRecDepth 20000 in
theorem gX12_turnQuarter_X12_fits : GoodIn wsX12_turnQuarter (wsV RX12 151 RX12 yX12_fits wsX12_fits) := goodIn_app (goodIn_of _ (by decide +kernel)) ggX12_turnQuarter_X12_fits
set_option maxRecDepth 20000 in
theorem ggX12_turnQuarter_X12_put : GoodIn wsX12_turnQuarter wsX12_put := goodIn_r _ [19, 1, 20, 21, 38, 39, 40, 41, 42, 43, 44, 45, 46, 47, 48, 49, 50, 51, 52, 53, 54, 55, 56, 57, 58, 59, 60, 61, 62, 63, 64, 65] (by decide +kernel) (by decide +kernel)
set_option maxRecDepth 20000 in
theorem gX12_turnQuarter_X12_put : GoodIn wsX12_turnQuarter (wsV RX12 110 RX12 yX12_put wsX12_put) := goodIn_app (goodIn_of _ (by decide +kernel)) ggX12_turnQuarter_X12_put
set_option maxRecDepth 20000 in
theorem ggX12_turnQuarter_X12_with : GoodIn wsX12_turnQuarter wsX12_with := goodIn_r _ [25, 15, 6, 38, 39, 40, 41, 42, 43, 44, 45, 46, 47, 48, 49, 50, 51, 52, 53, 54, 55, 56, 57, 58, 59, 60, 61, 62, 63, 64, 65] (by decide +kernel) (by decide +kernel)
set_option maxRecDepth 20000 in
theorem gX12_turnQuarter_X12_with : GoodIn wsX12_turnQuarter (wsV RX12 155 RX12 yX12_with wsX12_with) := goodIn_app (goodIn_of _ (by decide +kernel)) ggX12_turnQuarter_X12_with
set_option maxRecDepth 20000 in
theorem ggX12_turnQuarter_X12_keep : GoodIn wsX12_turnQuarter wsX12_keep := goodIn_r _ [29, 1, 21, 30, 31, 20, 3, 4, 2, 32, 33, 9, 34, 35, 36, 37, 38, 39, 40, 41, 42, 43, 44, 45, 46, 47, 48, 49, 50, 51, 52, 53, 54, 55, 56, 57, 58, 59, 60, 61, 62, 63, 64, 65] (by decide +kernel) (by decide +kernel)
set_option maxRecDepth 20000 in
theorem gX12_turnQuarter_X12_keep : GoodIn wsX12_turnQuarter (wsV RX12 114 RX12 yX12_keep wsX12_keep) := goodIn_app (goodIn_of _ (by decide +kernel)) ggX12_turnQuarter_X12_keep
theorem dX12_turnQuarter_0 : decode cX12_turnQuarter 0 = .ok (.aload_n 0, 1) := by decide +kernel
theorem dX12_turnQuarter_1 : decode cX12_turnQuarter 1 = .ok (.iconst 0, 1) := by decide +kernel
theorem dX12_turnQuarter_2 : decode cX12_turnQuarter 2 = .ok (.putfield 97, 3) := by decide +kernel
theorem dX12_turnQuarter_5 : decode cX12_turnQuarter 5 = .ok (.iconst 0, 1) := by decide +kernel
theorem dX12_turnQuarter_6 : decode cX12_turnQuarter 6 = .ok (.istore_n 3, 1) := by decide +kernel
theorem dX12_turnQuarter_7 : decode cX12_turnQuarter 7 = .ok (.iload_n 3, 1) := by decide +kernel
theorem dX12_turnQuarter_8 : decode cX12_turnQuarter 8 = .ok (.aload_n 0, 1) := by decide +kernel
theorem dX12_turnQuarter_9 : decode cX12_turnQuarter 9 = .ok (.getfield 22, 3) := by decide +kernel
theorem dX12_turnQuarter_12 : decode cX12_turnQuarter 12 = .ok (.bipush 8, 2) := by decide +kernel
theorem dX12_turnQuarter_14 : decode cX12_turnQuarter 14 = .ok (.iaload, 1) := by decide +kernel
theorem dX12_turnQuarter_15 : decode cX12_turnQuarter 15 = .ok (.if_icmp .ge 130, 3) := by decide +kernel
theorem dX12_turnQuarter_18 : decode cX12_turnQuarter 18 = .ok (.aload_n 0, 1) := by decide +kernel
theorem dX12_turnQuarter_19 : decode cX12_turnQuarter 19 = .ok (.getfield 25, 3) := by decide +kernel
theorem dX12_turnQuarter_22 : decode cX12_turnQuarter 22 = .ok (.sipush 2400, 3) := by decide +kernel
theorem dX12_turnQuarter_25 : decode cX12_turnQuarter 25 = .ok (.iload_n 3, 1) := by decide +kernel
theorem dX12_turnQuarter_26 : decode cX12_turnQuarter 26 = .ok (.iadd, 1) := by decide +kernel
theorem dX12_turnQuarter_27 : decode cX12_turnQuarter 27 = .ok (.iaload, 1) := by decide +kernel
theorem dX12_turnQuarter_28 : decode cX12_turnQuarter 28 = .ok (.istore 4, 2) := by decide +kernel
theorem dX12_turnQuarter_30 : decode cX12_turnQuarter 30 = .ok (.aload_n 0, 1) := by decide +kernel
theorem dX12_turnQuarter_31 : decode cX12_turnQuarter 31 = .ok (.getfield 28, 3) := by decide +kernel
theorem dX12_turnQuarter_34 : decode cX12_turnQuarter 34 = .ok (.sipush 2400, 3) := by decide +kernel
theorem dX12_turnQuarter_37 : decode cX12_turnQuarter 37 = .ok (.iload_n 3, 1) := by decide +kernel
theorem dX12_turnQuarter_38 : decode cX12_turnQuarter 38 = .ok (.iadd, 1) := by decide +kernel
theorem dX12_turnQuarter_39 : decode cX12_turnQuarter 39 = .ok (.laload, 1) := by decide +kernel
theorem dX12_turnQuarter_40 : decode cX12_turnQuarter 40 = .ok (.lstore 5, 2) := by decide +kernel
theorem dX12_turnQuarter_42 : decode cX12_turnQuarter 42 = .ok (.aload_n 0, 1) := by decide +kernel
theorem dX12_turnQuarter_43 : decode cX12_turnQuarter 43 = .ok (.iload_n 1, 1) := by decide +kernel
theorem dX12_turnQuarter_44 : decode cX12_turnQuarter 44 = .ok (.iload 4, 2) := by decide +kernel
theorem dX12_turnQuarter_46 : decode cX12_turnQuarter 46 = .ok (.invokestatic 148, 3) := by decide +kernel
theorem dX12_turnQuarter_49 : decode cX12_turnQuarter 49 = .ok (.invokevirtual 151, 3) := by decide +kernel
theorem dX12_turnQuarter_52 : decode cX12_turnQuarter 52 = .ok (.ifCond .ne 7, 3) := by decide +kernel
theorem dX12_turnQuarter_55 : decode cX12_turnQuarter 55 = .ok (.iload_n 2, 1) := by decide +kernel
theorem dX12_turnQuarter_56 : decode cX12_turnQuarter 56 = .ok (.ifCond .ne 14, 3) := by decide +kernel
theorem dX12_turnQuarter_59 : decode cX12_turnQuarter 59 = .ok (.aload_n 0, 1) := by decide +kernel
theorem dX12_turnQuarter_60 : decode cX12_turnQuarter 60 = .ok (.iload 4, 2) := by decide +kernel
theorem dX12_turnQuarter_62 : decode cX12_turnQuarter 62 = .ok (.lload 5, 2) := by decide +kernel
theorem dX12_turnQuarter_64 : decode cX12_turnQuarter 64 = .ok (.invokevirtual 110, 3) := by decide +kernel
theorem dX12_turnQuarter_67 : decode cX12_turnQuarter 67 = .ok (.goto 72, 3) := by decide +kernel
theorem dX12_turnQuarter_70 : decode cX12_turnQuarter 70 = .ok (.iload_n 2, 1) := by decide +kernel
theorem dX12_turnQuarter_71 : decode cX12_turnQuarter 71 = .ok (.iconst 2, 1) := by decide +kernel
theorem dX12_turnQuarter_72 : decode cX12_turnQuarter 72 = .ok (.if_icmp .ne 15, 3) := by decide +kernel
theorem dX12_turnQuarter_75 : decode cX12_turnQuarter 75 = .ok (.aload_n 0, 1) := by decide +kernel
theorem dX12_turnQuarter_76 : decode cX12_turnQuarter 76 = .ok (.iload 4, 2) := by decide +kernel
theorem dX12_turnQuarter_78 : decode cX12_turnQuarter 78 = .ok (.lload 5, 2) := by decide +kernel
theorem dX12_turnQuarter_80 : decode cX12_turnQuarter 80 = .ok (.lneg, 1) := by decide +kernel
theorem dX12_turnQuarter_81 : decode cX12_turnQuarter 81 = .ok (.invokevirtual 110, 3) := by decide +kernel
theorem dX12_turnQuarter_84 : decode cX12_turnQuarter 84 = .ok (.goto 55, 3) := by decide +kernel
theorem dX12_turnQuarter_87 : decode cX12_turnQuarter 87 = .ok (.aload_n 0, 1) := by decide +kernel
theorem dX12_turnQuarter_88 : decode cX12_turnQuarter 88 = .ok (.iload_n 1, 1) := by decide +kernel
theorem dX12_turnQuarter_89 : decode cX12_turnQuarter 89 = .ok (.iload 4, 2) := by decide +kernel
theorem dX12_turnQuarter_91 : decode cX12_turnQuarter 91 = .ok (.invokestatic 148, 3) := by decide +kernel
theorem dX12_turnQuarter_94 : decode cX12_turnQuarter 94 = .ok (.invokevirtual 155, 3) := by decide +kernel
theorem dX12_turnQuarter_97 : decode cX12_turnQuarter 97 = .ok (.bipush 20, 2) := by decide +kernel
theorem dX12_turnQuarter_99 : decode cX12_turnQuarter 99 = .ok (.ishl, 1) := by decide +kernel
theorem dX12_turnQuarter_100 : decode cX12_turnQuarter 100 = .ok (.iload 4, 2) := by decide +kernel
theorem dX12_turnQuarter_102 : decode cX12_turnQuarter 102 = .ok (.ldc 158, 2) := by decide +kernel
theorem dX12_turnQuarter_104 : decode cX12_turnQuarter 104 = .ok (.iand, 1) := by decide +kernel
theorem dX12_turnQuarter_105 : decode cX12_turnQuarter 105 = .ok (.ior, 1) := by decide +kernel
theorem dX12_turnQuarter_106 : decode cX12_turnQuarter 106 = .ok (.istore 7, 2) := by decide +kernel
theorem dX12_turnQuarter_108 : decode cX12_turnQuarter 108 = .ok (.aload_n 0, 1) := by decide +kernel
theorem dX12_turnQuarter_109 : decode cX12_turnQuarter 109 = .ok (.iload 7, 2) := by decide +kernel
theorem dX12_turnQuarter_111 : decode cX12_turnQuarter 111 = .ok (.iload_n 2, 1) := by decide +kernel
theorem dX12_turnQuarter_112 : decode cX12_turnQuarter 112 = .ok (.iconst 1, 1) := by decide +kernel
theorem dX12_turnQuarter_113 : decode cX12_turnQuarter 113 = .ok (.if_icmp .ne 14, 3) := by decide +kernel
theorem dX12_turnQuarter_116 : decode cX12_turnQuarter 116 = .ok (.aload_n 0, 1) := by decide +kernel
theorem dX12_turnQuarter_117 : decode cX12_turnQuarter 117 = .ok (.getfield 145, 3) := by decide +kernel
theorem dX12_turnQuarter_120 : decode cX12_turnQuarter 120 = .ok (.i2l, 1) := by decide +kernel
theorem dX12_turnQuarter_121 : decode cX12_turnQuarter 121 = .ok (.lload 5, 2) := by decide +kernel
theorem dX12_turnQuarter_123 : decode cX12_turnQuarter 123 = .ok (.lmul, 1) := by decide +kernel
theorem dX12_turnQuarter_124 : decode cX12_turnQuarter 124 = .ok (.goto 12, 3) := by decide +kernel
theorem dX12_turnQuarter_127 : decode cX12_turnQuarter 127 = .ok (.aload_n 0, 1) := by decide +kernel
theorem dX12_turnQuarter_128 : decode cX12_turnQuarter 128 = .ok (.getfield 145, 3) := by decide +kernel
theorem dX12_turnQuarter_131 : decode cX12_turnQuarter 131 = .ok (.ineg, 1) := by decide +kernel
theorem dX12_turnQuarter_132 : decode cX12_turnQuarter 132 = .ok (.i2l, 1) := by decide +kernel
theorem dX12_turnQuarter_133 : decode cX12_turnQuarter 133 = .ok (.lload 5, 2) := by decide +kernel
theorem dX12_turnQuarter_135 : decode cX12_turnQuarter 135 = .ok (.lmul, 1) := by decide +kernel
theorem dX12_turnQuarter_136 : decode cX12_turnQuarter 136 = .ok (.invokevirtual 110, 3) := by decide +kernel
theorem dX12_turnQuarter_139 : decode cX12_turnQuarter 139 = .ok (.iinc 3 1, 3) := by decide +kernel
theorem dX12_turnQuarter_142 : decode cX12_turnQuarter 142 = .ok (.goto (-135), 3) := by decide +kernel
theorem dX12_turnQuarter_145 : decode cX12_turnQuarter 145 = .ok (.aload_n 0, 1) := by decide +kernel
theorem dX12_turnQuarter_146 : decode cX12_turnQuarter 146 = .ok (.bipush 8, 2) := by decide +kernel
theorem dX12_turnQuarter_148 : decode cX12_turnQuarter 148 = .ok (.invokevirtual 114, 3) := by decide +kernel
theorem dX12_turnQuarter_151 : decode cX12_turnQuarter 151 = .ok (.istore_n 3, 1) := by decide +kernel
theorem dX12_turnQuarter_152 : decode cX12_turnQuarter 152 = .ok (.return_, 1) := by decide +kernel
set_option maxRecDepth 20000 in
theorem ggX12_turnLetter_X12_productOf : GoodIn wsX12_turnLetter wsX12_productOf := goodIn_r _ [10] (by decide +kernel) (by decide +kernel)
set_option maxRecDepth 20000 in
theorem gX12_turnLetter_X12_productOf : GoodIn wsX12_turnLetter (va_wsS RX12 148 yX12_productOf wsX12_productOf) := goodIn_app (goodIn_of _ (by decide +kernel)) ggX12_turnLetter_X12_productOf
set_option maxRecDepth 20000 in
theorem ggX12_turnLetter_X12_fits : GoodIn wsX12_turnLetter wsX12_fits := goodIn_r _ [14, 15, 47, 48, 49, 50, 51, 52, 53, 54, 55, 56, 57, 58, 59, 60, 61, 62, 63, 64, 65, 66, 67, 68, 69, 70, 71, 72, 73, 74] (by decide +kernel) (by decide +kernel)
set_option maxRecDepth 20000 in
theorem gX12_turnLetter_X12_fits : GoodIn wsX12_turnLetter (wsV RX12 151 RX12 yX12_fits wsX12_fits) := goodIn_app (goodIn_of _ (by decide +kernel)) ggX12_turnLetter_X12_fits
set_option maxRecDepth 20000 in
theorem ggX12_turnLetter_X12_put : GoodIn wsX12_turnLetter wsX12_put := goodIn_r _ [19, 1, 20, 21, 47, 48, 49, 50, 51, 52, 53, 54, 55, 56, 57, 58, 59, 60, 61, 62, 63, 64, 65, 66, 67, 68, 69, 70, 71, 72, 73, 74] (by decide +kernel) (by decide +kernel)
set_option maxRecDepth 20000 in
theorem gX12_turnLetter_X12_put : GoodIn wsX12_turnLetter (wsV RX12 110 RX12 yX12_put wsX12_put) := goodIn_app (goodIn_of _ (by decide +kernel)) ggX12_turnLetter_X12_put
set_option maxRecDepth 20000 in
theorem ggX12_turnLetter_X12_oneCosine : GoodIn wsX12_turnLetter wsX12_oneCosine := goodIn_r _ [24] (by decide +kernel) (by decide +kernel)
set_option maxRecDepth 20000 in
theorem gX12_turnLetter_X12_oneCosine : GoodIn wsX12_turnLetter (va_wsS RX12 159 yX12_oneCosine wsX12_oneCosine) := goodIn_app (goodIn_of _ (by decide +kernel)) ggX12_turnLetter_X12_oneCosine
set_option maxRecDepth 20000 in
theorem ggX12_turnLetter_X12_with : GoodIn wsX12_turnLetter wsX12_with := goodIn_r _ [28, 15, 6, 47, 48, 49, 50, 51, 52, 53, 54, 55, 56, 57, 58, 59, 60, 61, 62, 63, 64, 65, 66, 67, 68, 69, 70, 71, 72, 73, 74] (by decide +kernel) (by decide +kernel)
set_option maxRecDepth 20000 in
theorem gX12_turnLetter_X12_with : GoodIn wsX12_turnLetter (wsV RX12 155 RX12 yX12_with wsX12_with) := goodIn_app (goodIn_of _ (by decide +kernel)) ggX12_turnLetter_X12_with
set_option maxRecDepth 20000 in
theorem ggX12_turnLetter_X12_sine : GoodIn wsX12_turnLetter wsX12_sine := goodIn_r _ [31] (by decide +kernel) (by decide +kernel)
set_option maxRecDepth 20000 in
theorem gX12_turnLetter_X12_sine : GoodIn wsX12_turnLetter (va_wsS RX12 162 yX12_sine wsX12_sine) := goodIn_app (goodIn_of _ (by decide +kernel)) ggX12_turnLetter_X12_sine
set_option maxRecDepth 20000 in
theorem ggX12_turnLetter_X12_oneSine : GoodIn wsX12_turnLetter wsX12_oneSine := goodIn_r _ [34] (by decide +kernel) (by decide +kernel)
set_option maxRecDepth 20000 in
theorem gX12_turnLetter_X12_oneSine : GoodIn wsX12_turnLetter (va_wsS RX12 165 yX12_oneSine wsX12_oneSine) := goodIn_app (goodIn_of _ (by decide +kernel)) ggX12_turnLetter_X12_oneSine
set_option maxRecDepth 20000 in
theorem ggX12_turnLetter_X12_keep : GoodIn wsX12_turnLetter wsX12_keep := goodIn_r _ [38, 1, 21, 39, 40, 20, 3, 4, 2, 41, 42, 9, 43, 44, 45, 46, 47, 48, 49, 50, 51, 52, 53, 54, 55, 56, 57, 58, 59, 60, 61, 62, 63, 64, 65, 66, 67, 68, 69, 70, 71, 72, 73, 74] (by decide +kernel) (by decide +kernel)
set_option maxRecDepth 20000 in
theorem gX12_turnLetter_X12_keep : GoodIn wsX12_turnLetter (wsV RX12 114 RX12 yX12_keep wsX12_keep) := goodIn_app (goodIn_of _ (by decide +kernel)) ggX12_turnLetter_X12_keep
theorem dX12_turnLetter_0 : decode cX12_turnLetter 0 = .ok (.aload_n 0, 1) := by decide +kernel
theorem dX12_turnLetter_1 : decode cX12_turnLetter 1 = .ok (.iconst 0, 1) := by decide +kernel
theorem dX12_turnLetter_2 : decode cX12_turnLetter 2 = .ok (.putfield 97, 3) := by decide +kernel
theorem dX12_turnLetter_5 : decode cX12_turnLetter 5 = .ok (.iconst 0, 1) := by decide +kernel
theorem dX12_turnLetter_6 : decode cX12_turnLetter 6 = .ok (.istore 4, 2) := by decide +kernel
theorem dX12_turnLetter_8 : decode cX12_turnLetter 8 = .ok (.iload 4, 2) := by decide +kernel
theorem dX12_turnLetter_10 : decode cX12_turnLetter 10 = .ok (.aload_n 0, 1) := by decide +kernel
theorem dX12_turnLetter_11 : decode cX12_turnLetter 11 = .ok (.getfield 22, 3) := by decide +kernel
theorem dX12_turnLetter_14 : decode cX12_turnLetter 14 = .ok (.bipush 8, 2) := by decide +kernel
theorem dX12_turnLetter_16 : decode cX12_turnLetter 16 = .ok (.iaload, 1) := by decide +kernel
theorem dX12_turnLetter_17 : decode cX12_turnLetter 17 = .ok (.if_icmp .ge 164, 3) := by decide +kernel
theorem dX12_turnLetter_20 : decode cX12_turnLetter 20 = .ok (.aload_n 0, 1) := by decide +kernel
theorem dX12_turnLetter_21 : decode cX12_turnLetter 21 = .ok (.getfield 25, 3) := by decide +kernel
theorem dX12_turnLetter_24 : decode cX12_turnLetter 24 = .ok (.sipush 2400, 3) := by decide +kernel
theorem dX12_turnLetter_27 : decode cX12_turnLetter 27 = .ok (.iload 4, 2) := by decide +kernel
theorem dX12_turnLetter_29 : decode cX12_turnLetter 29 = .ok (.iadd, 1) := by decide +kernel
theorem dX12_turnLetter_30 : decode cX12_turnLetter 30 = .ok (.iaload, 1) := by decide +kernel
theorem dX12_turnLetter_31 : decode cX12_turnLetter 31 = .ok (.istore 5, 2) := by decide +kernel
theorem dX12_turnLetter_33 : decode cX12_turnLetter 33 = .ok (.aload_n 0, 1) := by decide +kernel
theorem dX12_turnLetter_34 : decode cX12_turnLetter 34 = .ok (.getfield 28, 3) := by decide +kernel
theorem dX12_turnLetter_37 : decode cX12_turnLetter 37 = .ok (.sipush 2400, 3) := by decide +kernel
theorem dX12_turnLetter_40 : decode cX12_turnLetter 40 = .ok (.iload 4, 2) := by decide +kernel
theorem dX12_turnLetter_42 : decode cX12_turnLetter 42 = .ok (.iadd, 1) := by decide +kernel
theorem dX12_turnLetter_43 : decode cX12_turnLetter 43 = .ok (.laload, 1) := by decide +kernel
theorem dX12_turnLetter_44 : decode cX12_turnLetter 44 = .ok (.lstore 6, 2) := by decide +kernel
theorem dX12_turnLetter_46 : decode cX12_turnLetter 46 = .ok (.aload_n 0, 1) := by decide +kernel
theorem dX12_turnLetter_47 : decode cX12_turnLetter 47 = .ok (.iload_n 1, 1) := by decide +kernel
theorem dX12_turnLetter_48 : decode cX12_turnLetter 48 = .ok (.iload 5, 2) := by decide +kernel
theorem dX12_turnLetter_50 : decode cX12_turnLetter 50 = .ok (.invokestatic 148, 3) := by decide +kernel
theorem dX12_turnLetter_53 : decode cX12_turnLetter 53 = .ok (.invokevirtual 151, 3) := by decide +kernel
theorem dX12_turnLetter_56 : decode cX12_turnLetter 56 = .ok (.ifCond .eq 14, 3) := by decide +kernel
theorem dX12_turnLetter_59 : decode cX12_turnLetter 59 = .ok (.aload_n 0, 1) := by decide +kernel
theorem dX12_turnLetter_60 : decode cX12_turnLetter 60 = .ok (.iload 5, 2) := by decide +kernel
theorem dX12_turnLetter_62 : decode cX12_turnLetter 62 = .ok (.lload 6, 2) := by decide +kernel
theorem dX12_turnLetter_64 : decode cX12_turnLetter 64 = .ok (.invokevirtual 110, 3) := by decide +kernel
theorem dX12_turnLetter_67 : decode cX12_turnLetter 67 = .ok (.goto 108, 3) := by decide +kernel
theorem dX12_turnLetter_70 : decode cX12_turnLetter 70 = .ok (.aload_n 0, 1) := by decide +kernel
theorem dX12_turnLetter_71 : decode cX12_turnLetter 71 = .ok (.iload 5, 2) := by decide +kernel
theorem dX12_turnLetter_73 : decode cX12_turnLetter 73 = .ok (.iload_n 2, 1) := by decide +kernel
theorem dX12_turnLetter_74 : decode cX12_turnLetter 74 = .ok (.invokestatic 159, 3) := by decide +kernel
theorem dX12_turnLetter_77 : decode cX12_turnLetter 77 = .ok (.iadd, 1) := by decide +kernel
theorem dX12_turnLetter_78 : decode cX12_turnLetter 78 = .ok (.lload 6, 2) := by decide +kernel
theorem dX12_turnLetter_80 : decode cX12_turnLetter 80 = .ok (.invokevirtual 110, 3) := by decide +kernel
theorem dX12_turnLetter_83 : decode cX12_turnLetter 83 = .ok (.aload_n 0, 1) := by decide +kernel
theorem dX12_turnLetter_84 : decode cX12_turnLetter 84 = .ok (.iload_n 1, 1) := by decide +kernel
theorem dX12_turnLetter_85 : decode cX12_turnLetter 85 = .ok (.iload 5, 2) := by decide +kernel
theorem dX12_turnLetter_87 : decode cX12_turnLetter 87 = .ok (.invokestatic 148, 3) := by decide +kernel
theorem dX12_turnLetter_90 : decode cX12_turnLetter 90 = .ok (.invokevirtual 155, 3) := by decide +kernel
theorem dX12_turnLetter_93 : decode cX12_turnLetter 93 = .ok (.bipush 20, 2) := by decide +kernel
theorem dX12_turnLetter_95 : decode cX12_turnLetter 95 = .ok (.ishl, 1) := by decide +kernel
theorem dX12_turnLetter_96 : decode cX12_turnLetter 96 = .ok (.iload 5, 2) := by decide +kernel
theorem dX12_turnLetter_98 : decode cX12_turnLetter 98 = .ok (.ldc 158, 2) := by decide +kernel
theorem dX12_turnLetter_100 : decode cX12_turnLetter 100 = .ok (.iand, 1) := by decide +kernel
theorem dX12_turnLetter_101 : decode cX12_turnLetter 101 = .ok (.ior, 1) := by decide +kernel
theorem dX12_turnLetter_102 : decode cX12_turnLetter 102 = .ok (.istore 8, 2) := by decide +kernel
theorem dX12_turnLetter_104 : decode cX12_turnLetter 104 = .ok (.iload_n 3, 1) := by decide +kernel
theorem dX12_turnLetter_105 : decode cX12_turnLetter 105 = .ok (.aload_n 0, 1) := by decide +kernel
theorem dX12_turnLetter_106 : decode cX12_turnLetter 106 = .ok (.getfield 145, 3) := by decide +kernel
theorem dX12_turnLetter_109 : decode cX12_turnLetter 109 = .ok (.imul, 1) := by decide +kernel
theorem dX12_turnLetter_110 : decode cX12_turnLetter 110 = .ok (.i2l, 1) := by decide +kernel
theorem dX12_turnLetter_111 : decode cX12_turnLetter 111 = .ok (.lload 6, 2) := by decide +kernel
theorem dX12_turnLetter_113 : decode cX12_turnLetter 113 = .ok (.lmul, 1) := by decide +kernel
theorem dX12_turnLetter_114 : decode cX12_turnLetter 114 = .ok (.lstore 9, 2) := by decide +kernel
theorem dX12_turnLetter_116 : decode cX12_turnLetter 116 = .ok (.iload 5, 2) := by decide +kernel
theorem dX12_turnLetter_118 : decode cX12_turnLetter 118 = .ok (.iload_n 2, 1) := by decide +kernel
theorem dX12_turnLetter_119 : decode cX12_turnLetter 119 = .ok (.invokestatic 162, 3) := by decide +kernel
theorem dX12_turnLetter_122 : decode cX12_turnLetter 122 = .ok (.ifCond .ne 19, 3) := by decide +kernel
theorem dX12_turnLetter_125 : decode cX12_turnLetter 125 = .ok (.aload_n 0, 1) := by decide +kernel
theorem dX12_turnLetter_126 : decode cX12_turnLetter 126 = .ok (.iload 8, 2) := by decide +kernel
theorem dX12_turnLetter_128 : decode cX12_turnLetter 128 = .ok (.iload_n 2, 1) := by decide +kernel
theorem dX12_turnLetter_129 : decode cX12_turnLetter 129 = .ok (.invokestatic 165, 3) := by decide +kernel
theorem dX12_turnLetter_132 : decode cX12_turnLetter 132 = .ok (.iadd, 1) := by decide +kernel
theorem dX12_turnLetter_133 : decode cX12_turnLetter 133 = .ok (.lload 9, 2) := by decide +kernel
theorem dX12_turnLetter_135 : decode cX12_turnLetter 135 = .ok (.invokevirtual 110, 3) := by decide +kernel
theorem dX12_turnLetter_138 : decode cX12_turnLetter 138 = .ok (.goto 37, 3) := by decide +kernel
theorem dX12_turnLetter_141 : decode cX12_turnLetter 141 = .ok (.aload_n 0, 1) := by decide +kernel
theorem dX12_turnLetter_142 : decode cX12_turnLetter 142 = .ok (.iload 8, 2) := by decide +kernel
theorem dX12_turnLetter_144 : decode cX12_turnLetter 144 = .ok (.iload_n 2, 1) := by decide +kernel
theorem dX12_turnLetter_145 : decode cX12_turnLetter 145 = .ok (.invokestatic 165, 3) := by decide +kernel
theorem dX12_turnLetter_148 : decode cX12_turnLetter 148 = .ok (.isub, 1) := by decide +kernel
theorem dX12_turnLetter_149 : decode cX12_turnLetter 149 = .ok (.lload 9, 2) := by decide +kernel
theorem dX12_turnLetter_151 : decode cX12_turnLetter 151 = .ok (.invokevirtual 110, 3) := by decide +kernel
theorem dX12_turnLetter_154 : decode cX12_turnLetter 154 = .ok (.aload_n 0, 1) := by decide +kernel
theorem dX12_turnLetter_155 : decode cX12_turnLetter 155 = .ok (.iload 8, 2) := by decide +kernel
theorem dX12_turnLetter_157 : decode cX12_turnLetter 157 = .ok (.iload_n 2, 1) := by decide +kernel
theorem dX12_turnLetter_158 : decode cX12_turnLetter 158 = .ok (.invokestatic 165, 3) := by decide +kernel
theorem dX12_turnLetter_161 : decode cX12_turnLetter 161 = .ok (.isub, 1) := by decide +kernel
theorem dX12_turnLetter_162 : decode cX12_turnLetter 162 = .ok (.iconst 2, 1) := by decide +kernel
theorem dX12_turnLetter_163 : decode cX12_turnLetter 163 = .ok (.iload_n 2, 1) := by decide +kernel
theorem dX12_turnLetter_164 : decode cX12_turnLetter 164 = .ok (.invokestatic 159, 3) := by decide +kernel
theorem dX12_turnLetter_167 : decode cX12_turnLetter 167 = .ok (.imul, 1) := by decide +kernel
theorem dX12_turnLetter_168 : decode cX12_turnLetter 168 = .ok (.iadd, 1) := by decide +kernel
theorem dX12_turnLetter_169 : decode cX12_turnLetter 169 = .ok (.lload 9, 2) := by decide +kernel
theorem dX12_turnLetter_171 : decode cX12_turnLetter 171 = .ok (.lneg, 1) := by decide +kernel
theorem dX12_turnLetter_172 : decode cX12_turnLetter 172 = .ok (.invokevirtual 110, 3) := by decide +kernel
theorem dX12_turnLetter_175 : decode cX12_turnLetter 175 = .ok (.iinc 4 1, 3) := by decide +kernel
theorem dX12_turnLetter_178 : decode cX12_turnLetter 178 = .ok (.goto (-170), 3) := by decide +kernel
theorem dX12_turnLetter_181 : decode cX12_turnLetter 181 = .ok (.aload_n 0, 1) := by decide +kernel
theorem dX12_turnLetter_182 : decode cX12_turnLetter 182 = .ok (.bipush 8, 2) := by decide +kernel
theorem dX12_turnLetter_184 : decode cX12_turnLetter 184 = .ok (.invokevirtual 114, 3) := by decide +kernel
theorem dX12_turnLetter_187 : decode cX12_turnLetter 187 = .ok (.ireturn, 1) := by decide +kernel
set_option maxRecDepth 20000 in
theorem ggX12_quarter_X12_isProduct : GoodIn wsX12_quarter wsX12_isProduct := goodIn_r _ [8, 9, 10, 11, 7, 12, 49, 50, 51, 52, 53, 54, 55, 56, 57, 58, 59, 60, 61, 62, 63, 64, 65, 66, 67, 68, 69, 70, 71, 72, 73, 74, 75, 76] (by decide +kernel) (by decide +kernel)
set_option maxRecDepth 20000 in
theorem gX12_quarter_X12_isProduct : GoodIn wsX12_quarter (wsV RX12 124 RX12 yX12_isProduct wsX12_isProduct) := goodIn_app (goodIn_of _ (by decide +kernel)) ggX12_quarter_X12_isProduct
set_option maxRecDepth 20000 in
theorem ggX12_quarter_X12_in : GoodIn wsX12_quarter wsX12_in := goodIn_r _ [12] (by decide +kernel) (by decide +kernel)
set_option maxRecDepth 20000 in
theorem gX12_quarter_X12_in : GoodIn wsX12_quarter (va_wsS RX12 79 yX12_in wsX12_in) := goodIn_app (goodIn_of _ (by decide +kernel)) ggX12_quarter_X12_in
set_option maxRecDepth 20000 in
theorem ggX12_quarter_X12_turnQuarter : GoodIn wsX12_quarter wsX12_turnQuarter := goodIn_r _ [16, 17, 3, 18, 19, 20, 21, 22, 23, 7, 24, 25, 26, 27, 28, 29, 30, 31, 32, 33, 34, 35, 36, 37, 38, 39, 40, 41, 42, 43, 44, 45, 10, 11, 12, 46, 47, 48, 49, 50, 51, 52, 53, 54, 55, 56, 57, 58, 59, 60, 61, 62, 63, 64, 65, 66, 67, 68, 69, 70, 71, 72, 73, 74, 75, 76] (by decide +kernel) (by decide +kernel)
set_option maxRecDepth 20000 in
theorem gX12_quarter_X12_turnQuarter : GoodIn wsX12_quarter (wsV RX12 168 RX12 yX12_turnQuarter wsX12_turnQuarter) := goodIn_app (goodIn_of _ (by decide +kernel)) ggX12_quarter_X12_turnQuarter
theorem dX12_quarter_0 : decode cX12_quarter 0 = .ok (.aload_n 0, 1) := by decide +kernel
theorem dX12_quarter_1 : decode cX12_quarter 1 = .ok (.iload_n 1, 1) := by decide +kernel
theorem dX12_quarter_2 : decode cX12_quarter 2 = .ok (.invokevirtual 124, 3) := by decide +kernel
theorem dX12_quarter_5 : decode cX12_quarter 5 = .ok (.ifCond .eq 15, 3) := by decide +kernel
theorem dX12_quarter_8 : decode cX12_quarter 8 = .ok (.iload_n 2, 1) := by decide +kernel
theorem dX12_quarter_9 : decode cX12_quarter 9 = .ok (.i2l, 1) := by decide +kernel
theorem dX12_quarter_10 : decode cX12_quarter 10 = .ok (.lconst 0, 1) := by decide +kernel
theorem dX12_quarter_11 : decode cX12_quarter 11 = .ok (.ldc2_w 139, 3) := by decide +kernel
theorem dX12_quarter_14 : decode cX12_quarter 14 = .ok (.invokestatic 79, 3) := by decide +kernel
theorem dX12_quarter_17 : decode cX12_quarter 17 = .ok (.ifCond .ne 6, 3) := by decide +kernel
theorem dX12_quarter_20 : decode cX12_quarter 20 = .ok (.ldc 89, 2) := by decide +kernel
theorem dX12_quarter_22 : decode cX12_quarter 22 = .ok (.ireturn, 1) := by decide +kernel
theorem dX12_quarter_23 : decode cX12_quarter 23 = .ok (.aload_n 0, 1) := by decide +kernel
theorem dX12_quarter_24 : decode cX12_quarter 24 = .ok (.iload_n 1, 1) := by decide +kernel
theorem dX12_quarter_25 : decode cX12_quarter 25 = .ok (.iload_n 2, 1) := by decide +kernel
theorem dX12_quarter_26 : decode cX12_quarter 26 = .ok (.invokevirtual 168, 3) := by decide +kernel
theorem dX12_quarter_29 : decode cX12_quarter 29 = .ok (.aload_n 0, 1) := by decide +kernel
theorem dX12_quarter_30 : decode cX12_quarter 30 = .ok (.getfield 22, 3) := by decide +kernel
theorem dX12_quarter_33 : decode cX12_quarter 33 = .ok (.bipush 8, 2) := by decide +kernel
theorem dX12_quarter_35 : decode cX12_quarter 35 = .ok (.iaload, 1) := by decide +kernel
theorem dX12_quarter_36 : decode cX12_quarter 36 = .ok (.ireturn, 1) := by decide +kernel
theorem dX12_isWay_0 : decode cX12_isWay 0 = .ok (.iload_n 0, 1) := by decide +kernel
theorem dX12_isWay_1 : decode cX12_isWay 1 = .ok (.iconst 1, 1) := by decide +kernel
theorem dX12_isWay_2 : decode cX12_isWay 2 = .ok (.if_icmp .eq 8, 3) := by decide +kernel
theorem dX12_isWay_5 : decode cX12_isWay 5 = .ok (.iload_n 0, 1) := by decide +kernel
theorem dX12_isWay_6 : decode cX12_isWay 6 = .ok (.iconst (-1), 1) := by decide +kernel
theorem dX12_isWay_7 : decode cX12_isWay 7 = .ok (.if_icmp .ne 7, 3) := by decide +kernel
theorem dX12_isWay_10 : decode cX12_isWay 10 = .ok (.iconst 1, 1) := by decide +kernel
theorem dX12_isWay_11 : decode cX12_isWay 11 = .ok (.goto 4, 3) := by decide +kernel
theorem dX12_isWay_14 : decode cX12_isWay 14 = .ok (.iconst 0, 1) := by decide +kernel
theorem dX12_isWay_15 : decode cX12_isWay 15 = .ok (.ireturn, 1) := by decide +kernel
set_option maxRecDepth 20000 in
theorem ggX12_letter_X12_isProduct : GoodIn wsX12_letter wsX12_isProduct := goodIn_r _ [9, 10, 11, 12, 8, 13, 62, 63, 64, 65, 66, 67, 68, 69, 70, 71, 72, 73, 74, 75, 76, 77, 78, 79, 80, 81, 82, 83, 84, 85, 86, 87, 88, 89] (by decide +kernel) (by decide +kernel)
set_option maxRecDepth 20000 in
theorem gX12_letter_X12_isProduct : GoodIn wsX12_letter (wsV RX12 124 RX12 yX12_isProduct wsX12_isProduct) := goodIn_app (goodIn_of _ (by decide +kernel)) ggX12_letter_X12_isProduct
set_option maxRecDepth 20000 in
theorem ggX12_letter_X12_in : GoodIn wsX12_letter wsX12_in := goodIn_r _ [13] (by decide +kernel) (by decide +kernel)
set_option maxRecDepth 20000 in
theorem gX12_letter_X12_in : GoodIn wsX12_letter (va_wsS RX12 79 yX12_in wsX12_in) := goodIn_app (goodIn_of _ (by decide +kernel)) ggX12_letter_X12_in
set_option maxRecDepth 20000 in
theorem ggX12_letter_X12_isWay : GoodIn wsX12_letter wsX12_isWay := goodIn_r _ [16] (by decide +kernel) (by decide +kernel)
set_option maxRecDepth 20000 in
theorem gX12_letter_X12_isWay : GoodIn wsX12_letter (va_wsS RX12 171 yX12_isWay wsX12_isWay) := goodIn_app (goodIn_of _ (by decide +kernel)) ggX12_letter_X12_isWay
set_option maxRecDepth 20000 in
theorem ggX12_letter_X12_turnLetter : GoodIn wsX12_letter wsX12_turnLetter := goodIn_r _ [20, 21, 3, 22, 23, 24, 25, 26, 27, 8, 28, 29, 30, 31, 32, 33, 34, 35, 36, 37, 38, 39, 40, 41, 42, 43, 44, 45, 46, 47, 48, 49, 50, 51, 52, 53, 54, 55, 56, 57, 58, 11, 12, 13, 59, 60, 61, 62, 63, 64, 65, 66, 67, 68, 69, 70, 71, 72, 73, 74, 75, 76, 77, 78, 79, 80, 81, 82, 83, 84, 85, 86, 87, 88, 89] (by decide +kernel) (by decide +kernel)
set_option maxRecDepth 20000 in
theorem gX12_letter_X12_turnLetter : GoodIn wsX12_letter (wsV RX12 174 RX12 yX12_turnLetter wsX12_turnLetter) := goodIn_app (goodIn_of _ (by decide +kernel)) ggX12_letter_X12_turnLetter
theorem dX12_letter_0 : decode cX12_letter 0 = .ok (.aload_n 0, 1) := by decide +kernel
theorem dX12_letter_1 : decode cX12_letter 1 = .ok (.iload_n 1, 1) := by decide +kernel
theorem dX12_letter_2 : decode cX12_letter 2 = .ok (.invokevirtual 124, 3) := by decide +kernel
theorem dX12_letter_5 : decode cX12_letter 5 = .ok (.ifCond .eq 22, 3) := by decide +kernel
theorem dX12_letter_8 : decode cX12_letter 8 = .ok (.iload_n 2, 1) := by decide +kernel
theorem dX12_letter_9 : decode cX12_letter 9 = .ok (.i2l, 1) := by decide +kernel
theorem dX12_letter_10 : decode cX12_letter 10 = .ok (.lconst 0, 1) := by decide +kernel
theorem dX12_letter_11 : decode cX12_letter 11 = .ok (.ldc2_w 139, 3) := by decide +kernel
theorem dX12_letter_14 : decode cX12_letter 14 = .ok (.invokestatic 79, 3) := by decide +kernel
theorem dX12_letter_17 : decode cX12_letter 17 = .ok (.ifCond .eq 10, 3) := by decide +kernel
theorem dX12_letter_20 : decode cX12_letter 20 = .ok (.iload_n 3, 1) := by decide +kernel
theorem dX12_letter_21 : decode cX12_letter 21 = .ok (.invokestatic 171, 3) := by decide +kernel
theorem dX12_letter_24 : decode cX12_letter 24 = .ok (.ifCond .ne 6, 3) := by decide +kernel
theorem dX12_letter_27 : decode cX12_letter 27 = .ok (.ldc 89, 2) := by decide +kernel
theorem dX12_letter_29 : decode cX12_letter 29 = .ok (.ireturn, 1) := by decide +kernel
theorem dX12_letter_30 : decode cX12_letter 30 = .ok (.aload_n 0, 1) := by decide +kernel
theorem dX12_letter_31 : decode cX12_letter 31 = .ok (.iload_n 1, 1) := by decide +kernel
theorem dX12_letter_32 : decode cX12_letter 32 = .ok (.iload_n 2, 1) := by decide +kernel
theorem dX12_letter_33 : decode cX12_letter 33 = .ok (.iload_n 3, 1) := by decide +kernel
theorem dX12_letter_34 : decode cX12_letter 34 = .ok (.invokevirtual 174, 3) := by decide +kernel
theorem dX12_letter_37 : decode cX12_letter 37 = .ok (.ifCond .eq 13, 3) := by decide +kernel
theorem dX12_letter_40 : decode cX12_letter 40 = .ok (.aload_n 0, 1) := by decide +kernel
theorem dX12_letter_41 : decode cX12_letter 41 = .ok (.getfield 22, 3) := by decide +kernel
theorem dX12_letter_44 : decode cX12_letter 44 = .ok (.bipush 8, 2) := by decide +kernel
theorem dX12_letter_46 : decode cX12_letter 46 = .ok (.iaload, 1) := by decide +kernel
theorem dX12_letter_47 : decode cX12_letter 47 = .ok (.goto 5, 3) := by decide +kernel
theorem dX12_letter_50 : decode cX12_letter 50 = .ok (.ldc 117, 2) := by decide +kernel
theorem dX12_letter_52 : decode cX12_letter 52 = .ok (.ireturn, 1) := by decide +kernel
set_option maxRecDepth 20000 in
theorem ggX12_terms_X12_isShelf : GoodIn wsX12_terms wsX12_isShelf := goodIn_r _ [6, 7, 8, 9, 10, 5, 11] (by decide +kernel) (by decide +kernel)
set_option maxRecDepth 20000 in
theorem gX12_terms_X12_isShelf : GoodIn wsX12_terms (va_wsS RX12 118 yX12_isShelf wsX12_isShelf) := goodIn_app (goodIn_of _ (by decide +kernel)) ggX12_terms_X12_isShelf
set_option maxRecDepth 20000 in
theorem ggX12_terms_X12_placeOf : GoodIn wsX12_terms wsX12_placeOf := goodIn_r _ [14] (by decide +kernel) (by decide +kernel)
set_option maxRecDepth 20000 in
theorem gX12_terms_X12_placeOf : GoodIn wsX12_terms (va_wsS RX12 121 yX12_placeOf wsX12_placeOf) := goodIn_app (goodIn_of _ (by decide +kernel)) ggX12_terms_X12_placeOf
theorem dX12_terms_0 : decode cX12_terms 0 = .ok (.iload_n 1, 1) := by decide +kernel
theorem dX12_terms_1 : decode cX12_terms 1 = .ok (.invokestatic 118, 3) := by decide +kernel
theorem dX12_terms_4 : decode cX12_terms 4 = .ok (.ifCond .eq 15, 3) := by decide +kernel
theorem dX12_terms_7 : decode cX12_terms 7 = .ok (.aload_n 0, 1) := by decide +kernel
theorem dX12_terms_8 : decode cX12_terms 8 = .ok (.getfield 22, 3) := by decide +kernel
theorem dX12_terms_11 : decode cX12_terms 11 = .ok (.iload_n 1, 1) := by decide +kernel
theorem dX12_terms_12 : decode cX12_terms 12 = .ok (.invokestatic 121, 3) := by decide +kernel
theorem dX12_terms_15 : decode cX12_terms 15 = .ok (.iaload, 1) := by decide +kernel
theorem dX12_terms_16 : decode cX12_terms 16 = .ok (.goto 5, 3) := by decide +kernel
theorem dX12_terms_19 : decode cX12_terms 19 = .ok (.ldc 89, 2) := by decide +kernel
theorem dX12_terms_21 : decode cX12_terms 21 = .ok (.ireturn, 1) := by decide +kernel
set_option maxRecDepth 20000 in
theorem ggX12_isTerm_X12_isShelf : GoodIn wsX12_isTerm wsX12_isShelf := goodIn_r _ [5, 6, 7, 8, 9, 4, 10] (by decide +kernel) (by decide +kernel)
set_option maxRecDepth 20000 in
theorem gX12_isTerm_X12_isShelf : GoodIn wsX12_isTerm (va_wsS RX12 118 yX12_isShelf wsX12_isShelf) := goodIn_app (goodIn_of _ (by decide +kernel)) ggX12_isTerm_X12_isShelf
set_option maxRecDepth 20000 in
theorem ggX12_isTerm_X12_placeOf : GoodIn wsX12_isTerm wsX12_placeOf := goodIn_r _ [13] (by decide +kernel) (by decide +kernel)
set_option maxRecDepth 20000 in
theorem gX12_isTerm_X12_placeOf : GoodIn wsX12_isTerm (va_wsS RX12 121 yX12_placeOf wsX12_placeOf) := goodIn_app (goodIn_of _ (by decide +kernel)) ggX12_isTerm_X12_placeOf
set_option maxRecDepth 20000 in
theorem ggX12_isTerm_X12_in : GoodIn wsX12_isTerm wsX12_in := goodIn_r _ [10] (by decide +kernel) (by decide +kernel)
set_option maxRecDepth 20000 in
theorem gX12_isTerm_X12_in : GoodIn wsX12_isTerm (va_wsS RX12 79 yX12_in wsX12_in) := goodIn_app (goodIn_of _ (by decide +kernel)) ggX12_isTerm_X12_in
theorem dX12_isTerm_0 : decode cX12_isTerm 0 = .ok (.iload_n 1, 1) := by decide +kernel
theorem dX12_isTerm_1 : decode cX12_isTerm 1 = .ok (.invokestatic 118, 3) := by decide +kernel
theorem dX12_isTerm_4 : decode cX12_isTerm 4 = .ok (.ifCond .eq 28, 3) := by decide +kernel
theorem dX12_isTerm_7 : decode cX12_isTerm 7 = .ok (.iload_n 2, 1) := by decide +kernel
theorem dX12_isTerm_8 : decode cX12_isTerm 8 = .ok (.i2l, 1) := by decide +kernel
theorem dX12_isTerm_9 : decode cX12_isTerm 9 = .ok (.lconst 0, 1) := by decide +kernel
theorem dX12_isTerm_10 : decode cX12_isTerm 10 = .ok (.aload_n 0, 1) := by decide +kernel
theorem dX12_isTerm_11 : decode cX12_isTerm 11 = .ok (.getfield 22, 3) := by decide +kernel
theorem dX12_isTerm_14 : decode cX12_isTerm 14 = .ok (.iload_n 1, 1) := by decide +kernel
theorem dX12_isTerm_15 : decode cX12_isTerm 15 = .ok (.invokestatic 121, 3) := by decide +kernel
theorem dX12_isTerm_18 : decode cX12_isTerm 18 = .ok (.iaload, 1) := by decide +kernel
theorem dX12_isTerm_19 : decode cX12_isTerm 19 = .ok (.iconst 1, 1) := by decide +kernel
theorem dX12_isTerm_20 : decode cX12_isTerm 20 = .ok (.isub, 1) := by decide +kernel
theorem dX12_isTerm_21 : decode cX12_isTerm 21 = .ok (.i2l, 1) := by decide +kernel
theorem dX12_isTerm_22 : decode cX12_isTerm 22 = .ok (.invokestatic 79, 3) := by decide +kernel
theorem dX12_isTerm_25 : decode cX12_isTerm 25 = .ok (.ifCond .eq 7, 3) := by decide +kernel
theorem dX12_isTerm_28 : decode cX12_isTerm 28 = .ok (.iconst 1, 1) := by decide +kernel
theorem dX12_isTerm_29 : decode cX12_isTerm 29 = .ok (.goto 4, 3) := by decide +kernel
theorem dX12_isTerm_32 : decode cX12_isTerm 32 = .ok (.iconst 0, 1) := by decide +kernel
theorem dX12_isTerm_33 : decode cX12_isTerm 33 = .ok (.ireturn, 1) := by decide +kernel
set_option maxRecDepth 20000 in
theorem ggX12_number_X12_isTerm : GoodIn wsX12_number wsX12_isTerm := goodIn_r _ [7, 8, 9, 10, 6, 11, 12, 13, 14, 15, 16, 17, 18, 19, 20, 21, 22, 23, 24, 25, 26, 27, 28, 29, 30, 31, 32, 33, 34, 35, 36, 37, 38, 39, 40, 41, 42, 43, 44, 45, 46, 47] (by decide +kernel) (by decide +kernel)
set_option maxRecDepth 20000 in
theorem gX12_number_X12_isTerm : GoodIn wsX12_number (wsV RX12 177 RX12 yX12_isTerm wsX12_isTerm) := goodIn_app (goodIn_of _ (by decide +kernel)) ggX12_number_X12_isTerm
set_option maxRecDepth 20000 in
theorem ggX12_number_X12_placeOf : GoodIn wsX12_number wsX12_placeOf := goodIn_r _ [19] (by decide +kernel) (by decide +kernel)
set_option maxRecDepth 20000 in
theorem gX12_number_X12_placeOf : GoodIn wsX12_number (va_wsS RX12 121 yX12_placeOf wsX12_placeOf) := goodIn_app (goodIn_of _ (by decide +kernel)) ggX12_number_X12_placeOf
theorem dX12_number_0 : decode cX12_number 0 = .ok (.aload_n 0, 1) := by decide +kernel
theorem dX12_number_1 : decode cX12_number 1 = .ok (.iload_n 1, 1) := by decide +kernel
theorem dX12_number_2 : decode cX12_number 2 = .ok (.iload_n 2, 1) := by decide +kernel
theorem dX12_number_3 : decode cX12_number 3 = .ok (.invokevirtual 177, 3) := by decide +kernel
theorem dX12_number_6 : decode cX12_number 6 = .ok (.ifCond .eq 21, 3) := by decide +kernel
theorem dX12_number_9 : decode cX12_number 9 = .ok (.aload_n 0, 1) := by decide +kernel
theorem dX12_number_10 : decode cX12_number 10 = .ok (.getfield 28, 3) := by decide +kernel
theorem dX12_number_13 : decode cX12_number 13 = .ok (.sipush 300, 3) := by decide +kernel
theorem dX12_number_16 : decode cX12_number 16 = .ok (.iload_n 1, 1) := by decide +kernel
theorem dX12_number_17 : decode cX12_number 17 = .ok (.invokestatic 121, 3) := by decide +kernel
theorem dX12_number_20 : decode cX12_number 20 = .ok (.imul, 1) := by decide +kernel
theorem dX12_number_21 : decode cX12_number 21 = .ok (.iload_n 2, 1) := by decide +kernel
theorem dX12_number_22 : decode cX12_number 22 = .ok (.iadd, 1) := by decide +kernel
theorem dX12_number_23 : decode cX12_number 23 = .ok (.laload, 1) := by decide +kernel
theorem dX12_number_24 : decode cX12_number 24 = .ok (.goto 6, 3) := by decide +kernel
theorem dX12_number_27 : decode cX12_number 27 = .ok (.ldc2_w 180, 3) := by decide +kernel
theorem dX12_number_30 : decode cX12_number 30 = .ok (.lreturn, 1) := by decide +kernel
set_option maxRecDepth 20000 in
theorem ggX12_powerOf_X12_productOf : GoodIn wsX12_powerOf wsX12_productOf := goodIn_r _ [4] (by decide +kernel) (by decide +kernel)
set_option maxRecDepth 20000 in
theorem gX12_powerOf_X12_productOf : GoodIn wsX12_powerOf (va_wsS RX12 148 yX12_productOf wsX12_productOf) := goodIn_app (goodIn_of _ (by decide +kernel)) ggX12_powerOf_X12_productOf
set_option maxRecDepth 20000 in
theorem ggX12_powerOf_X12_cosine : GoodIn wsX12_powerOf wsX12_cosine := goodIn_r _ [7] (by decide +kernel) (by decide +kernel)
set_option maxRecDepth 20000 in
theorem gX12_powerOf_X12_cosine : GoodIn wsX12_powerOf (va_wsS RX12 106 yX12_cosine wsX12_cosine) := goodIn_app (goodIn_of _ (by decide +kernel)) ggX12_powerOf_X12_cosine
set_option maxRecDepth 20000 in
theorem ggX12_powerOf_X12_sine : GoodIn wsX12_powerOf wsX12_sine := goodIn_r _ [10] (by decide +kernel) (by decide +kernel)
set_option maxRecDepth 20000 in
theorem gX12_powerOf_X12_sine : GoodIn wsX12_powerOf (va_wsS RX12 162 yX12_sine wsX12_sine) := goodIn_app (goodIn_of _ (by decide +kernel)) ggX12_powerOf_X12_sine
theorem dX12_powerOf_0 : decode cX12_powerOf 0 = .ok (.iload_n 1, 1) := by decide +kernel
theorem dX12_powerOf_1 : decode cX12_powerOf 1 = .ok (.ifCond .ge 10, 3) := by decide +kernel
theorem dX12_powerOf_4 : decode cX12_powerOf 4 = .ok (.iload_n 0, 1) := by decide +kernel
theorem dX12_powerOf_5 : decode cX12_powerOf 5 = .ok (.invokestatic 148, 3) := by decide +kernel
theorem dX12_powerOf_8 : decode cX12_powerOf 8 = .ok (.goto 26, 3) := by decide +kernel
theorem dX12_powerOf_11 : decode cX12_powerOf 11 = .ok (.iload_n 1, 1) := by decide +kernel
theorem dX12_powerOf_12 : decode cX12_powerOf 12 = .ok (.iconst 2, 1) := by decide +kernel
theorem dX12_powerOf_13 : decode cX12_powerOf 13 = .ok (.irem, 1) := by decide +kernel
theorem dX12_powerOf_14 : decode cX12_powerOf 14 = .ok (.ifCond .ne 13, 3) := by decide +kernel
theorem dX12_powerOf_17 : decode cX12_powerOf 17 = .ok (.iload_n 0, 1) := by decide +kernel
theorem dX12_powerOf_18 : decode cX12_powerOf 18 = .ok (.iload_n 1, 1) := by decide +kernel
theorem dX12_powerOf_19 : decode cX12_powerOf 19 = .ok (.iconst 2, 1) := by decide +kernel
theorem dX12_powerOf_20 : decode cX12_powerOf 20 = .ok (.idiv, 1) := by decide +kernel
theorem dX12_powerOf_21 : decode cX12_powerOf 21 = .ok (.invokestatic 106, 3) := by decide +kernel
theorem dX12_powerOf_24 : decode cX12_powerOf 24 = .ok (.goto 10, 3) := by decide +kernel
theorem dX12_powerOf_27 : decode cX12_powerOf 27 = .ok (.iload_n 0, 1) := by decide +kernel
theorem dX12_powerOf_28 : decode cX12_powerOf 28 = .ok (.iload_n 1, 1) := by decide +kernel
theorem dX12_powerOf_29 : decode cX12_powerOf 29 = .ok (.iconst 2, 1) := by decide +kernel
theorem dX12_powerOf_30 : decode cX12_powerOf 30 = .ok (.idiv, 1) := by decide +kernel
theorem dX12_powerOf_31 : decode cX12_powerOf 31 = .ok (.invokestatic 162, 3) := by decide +kernel
theorem dX12_powerOf_34 : decode cX12_powerOf 34 = .ok (.ireturn, 1) := by decide +kernel
set_option maxRecDepth 20000 in
theorem ggX12_power_X12_isTerm : GoodIn wsX12_power wsX12_isTerm := goodIn_r _ [9, 10, 11, 12, 8, 13, 1, 2, 14, 15, 16, 17, 18, 19, 32, 33, 34, 35, 36, 37, 38, 39, 40, 41, 42, 43, 44, 45, 46, 47, 48, 49, 50, 51, 52, 53, 54, 55, 56, 57, 58, 59] (by decide +kernel) (by decide +kernel)
set_option maxRecDepth 20000 in
theorem gX12_power_X12_isTerm : GoodIn wsX12_power (wsV RX12 177 RX12 yX12_isTerm wsX12_isTerm) := goodIn_app (goodIn_of _ (by decide +kernel)) ggX12_power_X12_isTerm
set_option maxRecDepth 20000 in
theorem ggX12_power_X12_in : GoodIn wsX12_power wsX12_in := goodIn_r _ [16] (by decide +kernel) (by decide +kernel)
set_option maxRecDepth 20000 in
theorem gX12_power_X12_in : GoodIn wsX12_power (va_wsS RX12 79 yX12_in wsX12_in) := goodIn_app (goodIn_of _ (by decide +kernel)) ggX12_power_X12_in
set_option maxRecDepth 20000 in
theorem ggX12_power_X12_placeOf : GoodIn wsX12_power wsX12_placeOf := goodIn_r _ [19] (by decide +kernel) (by decide +kernel)
set_option maxRecDepth 20000 in
theorem gX12_power_X12_placeOf : GoodIn wsX12_power (va_wsS RX12 121 yX12_placeOf wsX12_placeOf) := goodIn_app (goodIn_of _ (by decide +kernel)) ggX12_power_X12_placeOf
set_option maxRecDepth 20000 in
theorem ggX12_power_X12_powerOf : GoodIn wsX12_power wsX12_powerOf := goodIn_r _ [22, 23, 24, 8, 25, 26, 27, 28, 29, 30, 31] (by decide +kernel) (by decide +kernel)
set_option maxRecDepth 20000 in
theorem gX12_power_X12_powerOf : GoodIn wsX12_power (va_wsS RX12 182 yX12_powerOf wsX12_powerOf) := goodIn_app (goodIn_of _ (by decide +kernel)) ggX12_power_X12_powerOf
theorem dX12_power_0 : decode cX12_power 0 = .ok (.aload_n 0, 1) := by decide +kernel
theorem dX12_power_1 : decode cX12_power 1 = .ok (.iload_n 1, 1) := by decide +kernel
theorem dX12_power_2 : decode cX12_power 2 = .ok (.iload_n 2, 1) := by decide +kernel
theorem dX12_power_3 : decode cX12_power 3 = .ok (.invokevirtual 177, 3) := by decide +kernel
theorem dX12_power_6 : decode cX12_power 6 = .ok (.ifCond .eq 39, 3) := by decide +kernel
theorem dX12_power_9 : decode cX12_power 9 = .ok (.iload_n 3, 1) := by decide +kernel
theorem dX12_power_10 : decode cX12_power 10 = .ok (.i2l, 1) := by decide +kernel
theorem dX12_power_11 : decode cX12_power 11 = .ok (.ldc2_w 100, 3) := by decide +kernel
theorem dX12_power_14 : decode cX12_power 14 = .ok (.ldc2_w 77, 3) := by decide +kernel
theorem dX12_power_17 : decode cX12_power 17 = .ok (.invokestatic 79, 3) := by decide +kernel
theorem dX12_power_20 : decode cX12_power 20 = .ok (.ifCond .eq 25, 3) := by decide +kernel
theorem dX12_power_23 : decode cX12_power 23 = .ok (.aload_n 0, 1) := by decide +kernel
theorem dX12_power_24 : decode cX12_power 24 = .ok (.getfield 25, 3) := by decide +kernel
theorem dX12_power_27 : decode cX12_power 27 = .ok (.sipush 300, 3) := by decide +kernel
theorem dX12_power_30 : decode cX12_power 30 = .ok (.iload_n 1, 1) := by decide +kernel
theorem dX12_power_31 : decode cX12_power 31 = .ok (.invokestatic 121, 3) := by decide +kernel
theorem dX12_power_34 : decode cX12_power 34 = .ok (.imul, 1) := by decide +kernel
theorem dX12_power_35 : decode cX12_power 35 = .ok (.iload_n 2, 1) := by decide +kernel
theorem dX12_power_36 : decode cX12_power 36 = .ok (.iadd, 1) := by decide +kernel
theorem dX12_power_37 : decode cX12_power 37 = .ok (.iaload, 1) := by decide +kernel
theorem dX12_power_38 : decode cX12_power 38 = .ok (.iload_n 3, 1) := by decide +kernel
theorem dX12_power_39 : decode cX12_power 39 = .ok (.invokestatic 182, 3) := by decide +kernel
theorem dX12_power_42 : decode cX12_power 42 = .ok (.goto 5, 3) := by decide +kernel
theorem dX12_power_45 : decode cX12_power 45 = .ok (.ldc 89, 2) := by decide +kernel
theorem dX12_power_47 : decode cX12_power 47 = .ok (.ireturn, 1) := by decide +kernel
set_option maxRecDepth 20000 in
theorem ggX12_same_X12_isShelf : GoodIn wsX12_same wsX12_isShelf := goodIn_r _ [8, 9, 10, 11, 12, 7, 13] (by decide +kernel) (by decide +kernel)
set_option maxRecDepth 20000 in
theorem gX12_same_X12_isShelf : GoodIn wsX12_same (va_wsS RX12 118 yX12_isShelf wsX12_isShelf) := goodIn_app (goodIn_of _ (by decide +kernel)) ggX12_same_X12_isShelf
set_option maxRecDepth 20000 in
theorem ggX12_same_X12_placeOf : GoodIn wsX12_same wsX12_placeOf := goodIn_r _ [16] (by decide +kernel) (by decide +kernel)
set_option maxRecDepth 20000 in
theorem gX12_same_X12_placeOf : GoodIn wsX12_same (va_wsS RX12 121 yX12_placeOf wsX12_placeOf) := goodIn_app (goodIn_of _ (by decide +kernel)) ggX12_same_X12_placeOf
theorem dX12_same_0 : decode cX12_same 0 = .ok (.iload_n 1, 1) := by decide +kernel
theorem dX12_same_1 : decode cX12_same 1 = .ok (.invokestatic 118, 3) := by decide +kernel
theorem dX12_same_4 : decode cX12_same 4 = .ok (.ifCond .eq 10, 3) := by decide +kernel
theorem dX12_same_7 : decode cX12_same 7 = .ok (.iload_n 2, 1) := by decide +kernel
theorem dX12_same_8 : decode cX12_same 8 = .ok (.invokestatic 118, 3) := by decide +kernel
theorem dX12_same_11 : decode cX12_same 11 = .ok (.ifCond .ne 6, 3) := by decide +kernel
theorem dX12_same_14 : decode cX12_same 14 = .ok (.ldc 89, 2) := by decide +kernel
theorem dX12_same_16 : decode cX12_same 16 = .ok (.ireturn, 1) := by decide +kernel
theorem dX12_same_17 : decode cX12_same 17 = .ok (.iload_n 1, 1) := by decide +kernel
theorem dX12_same_18 : decode cX12_same 18 = .ok (.invokestatic 121, 3) := by decide +kernel
theorem dX12_same_21 : decode cX12_same 21 = .ok (.istore_n 3, 1) := by decide +kernel
theorem dX12_same_22 : decode cX12_same 22 = .ok (.iload_n 2, 1) := by decide +kernel
theorem dX12_same_23 : decode cX12_same 23 = .ok (.invokestatic 121, 3) := by decide +kernel
theorem dX12_same_26 : decode cX12_same 26 = .ok (.istore 4, 2) := by decide +kernel
theorem dX12_same_28 : decode cX12_same 28 = .ok (.aload_n 0, 1) := by decide +kernel
theorem dX12_same_29 : decode cX12_same 29 = .ok (.getfield 22, 3) := by decide +kernel
theorem dX12_same_32 : decode cX12_same 32 = .ok (.iload_n 3, 1) := by decide +kernel
theorem dX12_same_33 : decode cX12_same 33 = .ok (.iaload, 1) := by decide +kernel
theorem dX12_same_34 : decode cX12_same 34 = .ok (.aload_n 0, 1) := by decide +kernel
theorem dX12_same_35 : decode cX12_same 35 = .ok (.getfield 22, 3) := by decide +kernel
theorem dX12_same_38 : decode cX12_same 38 = .ok (.iload 4, 2) := by decide +kernel
theorem dX12_same_40 : decode cX12_same 40 = .ok (.iaload, 1) := by decide +kernel
theorem dX12_same_41 : decode cX12_same 41 = .ok (.if_icmp .ne 7, 3) := by decide +kernel
theorem dX12_same_44 : decode cX12_same 44 = .ok (.iconst 1, 1) := by decide +kernel
theorem dX12_same_45 : decode cX12_same 45 = .ok (.goto 4, 3) := by decide +kernel
theorem dX12_same_48 : decode cX12_same 48 = .ok (.iconst 0, 1) := by decide +kernel
theorem dX12_same_49 : decode cX12_same 49 = .ok (.istore 5, 2) := by decide +kernel
theorem dX12_same_51 : decode cX12_same 51 = .ok (.iconst 0, 1) := by decide +kernel
theorem dX12_same_52 : decode cX12_same 52 = .ok (.istore 6, 2) := by decide +kernel
theorem dX12_same_54 : decode cX12_same 54 = .ok (.iload 6, 2) := by decide +kernel
theorem dX12_same_56 : decode cX12_same 56 = .ok (.aload_n 0, 1) := by decide +kernel
theorem dX12_same_57 : decode cX12_same 57 = .ok (.getfield 22, 3) := by decide +kernel
theorem dX12_same_60 : decode cX12_same 60 = .ok (.iload_n 3, 1) := by decide +kernel
theorem dX12_same_61 : decode cX12_same 61 = .ok (.iaload, 1) := by decide +kernel
theorem dX12_same_62 : decode cX12_same 62 = .ok (.if_icmp .ge 82, 3) := by decide +kernel
theorem dX12_same_65 : decode cX12_same 65 = .ok (.iload 5, 2) := by decide +kernel
theorem dX12_same_67 : decode cX12_same 67 = .ok (.ifCond .eq 77, 3) := by decide +kernel
theorem dX12_same_70 : decode cX12_same 70 = .ok (.aload_n 0, 1) := by decide +kernel
theorem dX12_same_71 : decode cX12_same 71 = .ok (.getfield 25, 3) := by decide +kernel
theorem dX12_same_74 : decode cX12_same 74 = .ok (.sipush 300, 3) := by decide +kernel
theorem dX12_same_77 : decode cX12_same 77 = .ok (.iload_n 3, 1) := by decide +kernel
theorem dX12_same_78 : decode cX12_same 78 = .ok (.imul, 1) := by decide +kernel
theorem dX12_same_79 : decode cX12_same 79 = .ok (.iload 6, 2) := by decide +kernel
theorem dX12_same_81 : decode cX12_same 81 = .ok (.iadd, 1) := by decide +kernel
theorem dX12_same_82 : decode cX12_same 82 = .ok (.iaload, 1) := by decide +kernel
theorem dX12_same_83 : decode cX12_same 83 = .ok (.aload_n 0, 1) := by decide +kernel
theorem dX12_same_84 : decode cX12_same 84 = .ok (.getfield 25, 3) := by decide +kernel
theorem dX12_same_87 : decode cX12_same 87 = .ok (.sipush 300, 3) := by decide +kernel
theorem dX12_same_90 : decode cX12_same 90 = .ok (.iload 4, 2) := by decide +kernel
theorem dX12_same_92 : decode cX12_same 92 = .ok (.imul, 1) := by decide +kernel
theorem dX12_same_93 : decode cX12_same 93 = .ok (.iload 6, 2) := by decide +kernel
theorem dX12_same_95 : decode cX12_same 95 = .ok (.iadd, 1) := by decide +kernel
theorem dX12_same_96 : decode cX12_same 96 = .ok (.iaload, 1) := by decide +kernel
theorem dX12_same_97 : decode cX12_same 97 = .ok (.if_icmp .ne 38, 3) := by decide +kernel
theorem dX12_same_100 : decode cX12_same 100 = .ok (.aload_n 0, 1) := by decide +kernel
theorem dX12_same_101 : decode cX12_same 101 = .ok (.getfield 28, 3) := by decide +kernel
theorem dX12_same_104 : decode cX12_same 104 = .ok (.sipush 300, 3) := by decide +kernel
theorem dX12_same_107 : decode cX12_same 107 = .ok (.iload_n 3, 1) := by decide +kernel
theorem dX12_same_108 : decode cX12_same 108 = .ok (.imul, 1) := by decide +kernel
theorem dX12_same_109 : decode cX12_same 109 = .ok (.iload 6, 2) := by decide +kernel
theorem dX12_same_111 : decode cX12_same 111 = .ok (.iadd, 1) := by decide +kernel
theorem dX12_same_112 : decode cX12_same 112 = .ok (.laload, 1) := by decide +kernel
theorem dX12_same_113 : decode cX12_same 113 = .ok (.aload_n 0, 1) := by decide +kernel
theorem dX12_same_114 : decode cX12_same 114 = .ok (.getfield 28, 3) := by decide +kernel
theorem dX12_same_117 : decode cX12_same 117 = .ok (.sipush 300, 3) := by decide +kernel
theorem dX12_same_120 : decode cX12_same 120 = .ok (.iload 4, 2) := by decide +kernel
theorem dX12_same_122 : decode cX12_same 122 = .ok (.imul, 1) := by decide +kernel
theorem dX12_same_123 : decode cX12_same 123 = .ok (.iload 6, 2) := by decide +kernel
theorem dX12_same_125 : decode cX12_same 125 = .ok (.iadd, 1) := by decide +kernel
theorem dX12_same_126 : decode cX12_same 126 = .ok (.laload, 1) := by decide +kernel
theorem dX12_same_127 : decode cX12_same 127 = .ok (.lcmp, 1) := by decide +kernel
theorem dX12_same_128 : decode cX12_same 128 = .ok (.ifCond .ne 7, 3) := by decide +kernel
theorem dX12_same_131 : decode cX12_same 131 = .ok (.iconst 1, 1) := by decide +kernel
theorem dX12_same_132 : decode cX12_same 132 = .ok (.goto 4, 3) := by decide +kernel
theorem dX12_same_135 : decode cX12_same 135 = .ok (.iconst 0, 1) := by decide +kernel
theorem dX12_same_136 : decode cX12_same 136 = .ok (.istore 5, 2) := by decide +kernel
theorem dX12_same_138 : decode cX12_same 138 = .ok (.iinc 6 1, 3) := by decide +kernel
theorem dX12_same_141 : decode cX12_same 141 = .ok (.goto (-87), 3) := by decide +kernel
theorem dX12_same_144 : decode cX12_same 144 = .ok (.iload 5, 2) := by decide +kernel
theorem dX12_same_146 : decode cX12_same 146 = .ok (.ifCond .eq 7, 3) := by decide +kernel
theorem dX12_same_149 : decode cX12_same 149 = .ok (.iconst 1, 1) := by decide +kernel
theorem dX12_same_150 : decode cX12_same 150 = .ok (.goto 4, 3) := by decide +kernel
theorem dX12_same_153 : decode cX12_same 153 = .ok (.iconst 0, 1) := by decide +kernel
theorem dX12_same_154 : decode cX12_same 154 = .ok (.ireturn, 1) := by decide +kernel
set_option maxRecDepth 20000 in
theorem ggX12_multiply_X12_cosine : GoodIn wsX12_multiply wsX12_cosine := goodIn_r _ [5] (by decide +kernel) (by decide +kernel)
set_option maxRecDepth 20000 in
theorem gX12_multiply_X12_cosine : GoodIn wsX12_multiply (va_wsS RX12 106 yX12_cosine wsX12_cosine) := goodIn_app (goodIn_of _ (by decide +kernel)) ggX12_multiply_X12_cosine
set_option maxRecDepth 20000 in
theorem ggX12_multiply_X12_sine : GoodIn wsX12_multiply wsX12_sine := goodIn_r _ [8] (by decide +kernel) (by decide +kernel)
set_option maxRecDepth 20000 in
theorem gX12_multiply_X12_sine : GoodIn wsX12_multiply (va_wsS RX12 162 yX12_sine wsX12_sine) := goodIn_app (goodIn_of _ (by decide +kernel)) ggX12_multiply_X12_sine
set_option maxRecDepth 20000 in
theorem ggX12_multiply_X12_oneCosine : GoodIn wsX12_multiply wsX12_oneCosine := goodIn_r _ [11] (by decide +kernel) (by decide +kernel)
set_option maxRecDepth 20000 in
theorem gX12_multiply_X12_oneCosine : GoodIn wsX12_multiply (va_wsS RX12 159 yX12_oneCosine wsX12_oneCosine) := goodIn_app (goodIn_of _ (by decide +kernel)) ggX12_multiply_X12_oneCosine
set_option maxRecDepth 20000 in
theorem ggX12_multiply_X12_oneSine : GoodIn wsX12_multiply wsX12_oneSine := goodIn_r _ [14] (by decide +kernel) (by decide +kernel)
set_option maxRecDepth 20000 in
theorem gX12_multiply_X12_oneSine : GoodIn wsX12_multiply (va_wsS RX12 165 yX12_oneSine wsX12_oneSine) := goodIn_app (goodIn_of _ (by decide +kernel)) ggX12_multiply_X12_oneSine
set_option maxRecDepth 20000 in
theorem ggX12_multiply_X12_put : GoodIn wsX12_multiply wsX12_put := goodIn_r _ [18, 1, 19, 20, 21, 22, 23, 24, 25, 26, 27, 28, 29, 30, 31, 32, 33, 34, 35, 36, 37, 38, 39, 40, 41, 42, 43, 44, 45, 46, 47, 48] (by decide +kernel) (by decide +kernel)
set_option maxRecDepth 20000 in
theorem gX12_multiply_X12_put : GoodIn wsX12_multiply (wsV RX12 110 RX12 yX12_put wsX12_put) := goodIn_app (goodIn_of _ (by decide +kernel)) ggX12_multiply_X12_put
theorem dX12_multiply_0 : decode cX12_multiply 0 = .ok (.iconst 0, 1) := by decide +kernel
theorem dX12_multiply_1 : decode cX12_multiply 1 = .ok (.istore 5, 2) := by decide +kernel
theorem dX12_multiply_3 : decode cX12_multiply 3 = .ok (.iconst 0, 1) := by decide +kernel
theorem dX12_multiply_4 : decode cX12_multiply 4 = .ok (.istore 6, 2) := by decide +kernel
theorem dX12_multiply_6 : decode cX12_multiply 6 = .ok (.iconst 0, 1) := by decide +kernel
theorem dX12_multiply_7 : decode cX12_multiply 7 = .ok (.istore 7, 2) := by decide +kernel
theorem dX12_multiply_9 : decode cX12_multiply 9 = .ok (.iload 7, 2) := by decide +kernel
theorem dX12_multiply_11 : decode cX12_multiply 11 = .ok (.iconst 4, 1) := by decide +kernel
theorem dX12_multiply_12 : decode cX12_multiply 12 = .ok (.if_icmp .ge 126, 3) := by decide +kernel
theorem dX12_multiply_15 : decode cX12_multiply 15 = .ok (.iload_n 1, 1) := by decide +kernel
theorem dX12_multiply_16 : decode cX12_multiply 16 = .ok (.iload 7, 2) := by decide +kernel
theorem dX12_multiply_18 : decode cX12_multiply 18 = .ok (.invokestatic 106, 3) := by decide +kernel
theorem dX12_multiply_21 : decode cX12_multiply 21 = .ok (.iload_n 2, 1) := by decide +kernel
theorem dX12_multiply_22 : decode cX12_multiply 22 = .ok (.iload 7, 2) := by decide +kernel
theorem dX12_multiply_24 : decode cX12_multiply 24 = .ok (.invokestatic 106, 3) := by decide +kernel
theorem dX12_multiply_27 : decode cX12_multiply 27 = .ok (.iadd, 1) := by decide +kernel
theorem dX12_multiply_28 : decode cX12_multiply 28 = .ok (.istore 8, 2) := by decide +kernel
theorem dX12_multiply_30 : decode cX12_multiply 30 = .ok (.iload_n 1, 1) := by decide +kernel
theorem dX12_multiply_31 : decode cX12_multiply 31 = .ok (.iload 7, 2) := by decide +kernel
theorem dX12_multiply_33 : decode cX12_multiply 33 = .ok (.invokestatic 162, 3) := by decide +kernel
theorem dX12_multiply_36 : decode cX12_multiply 36 = .ok (.iload_n 2, 1) := by decide +kernel
theorem dX12_multiply_37 : decode cX12_multiply 37 = .ok (.iload 7, 2) := by decide +kernel
theorem dX12_multiply_39 : decode cX12_multiply 39 = .ok (.invokestatic 162, 3) := by decide +kernel
theorem dX12_multiply_42 : decode cX12_multiply 42 = .ok (.iadd, 1) := by decide +kernel
theorem dX12_multiply_43 : decode cX12_multiply 43 = .ok (.iconst 2, 1) := by decide +kernel
theorem dX12_multiply_44 : decode cX12_multiply 44 = .ok (.if_icmp .ne 7, 3) := by decide +kernel
theorem dX12_multiply_47 : decode cX12_multiply 47 = .ok (.iconst 1, 1) := by decide +kernel
theorem dX12_multiply_48 : decode cX12_multiply 48 = .ok (.goto 4, 3) := by decide +kernel
theorem dX12_multiply_51 : decode cX12_multiply 51 = .ok (.iconst 0, 1) := by decide +kernel
theorem dX12_multiply_52 : decode cX12_multiply 52 = .ok (.istore 9, 2) := by decide +kernel
theorem dX12_multiply_54 : decode cX12_multiply 54 = .ok (.iload 8, 2) := by decide +kernel
theorem dX12_multiply_56 : decode cX12_multiply 56 = .ok (.iload 9, 2) := by decide +kernel
theorem dX12_multiply_58 : decode cX12_multiply 58 = .ok (.ifCond .eq 7, 3) := by decide +kernel
theorem dX12_multiply_61 : decode cX12_multiply 61 = .ok (.iconst 2, 1) := by decide +kernel
theorem dX12_multiply_62 : decode cX12_multiply 62 = .ok (.goto 4, 3) := by decide +kernel
theorem dX12_multiply_65 : decode cX12_multiply 65 = .ok (.iconst 0, 1) := by decide +kernel
theorem dX12_multiply_66 : decode cX12_multiply 66 = .ok (.iadd, 1) := by decide +kernel
theorem dX12_multiply_67 : decode cX12_multiply 67 = .ok (.bipush 12, 2) := by decide +kernel
theorem dX12_multiply_69 : decode cX12_multiply 69 = .ok (.if_icmp .le 5, 3) := by decide +kernel
theorem dX12_multiply_72 : decode cX12_multiply 72 = .ok (.iconst 0, 1) := by decide +kernel
theorem dX12_multiply_73 : decode cX12_multiply 73 = .ok (.ireturn, 1) := by decide +kernel
theorem dX12_multiply_74 : decode cX12_multiply 74 = .ok (.iload 5, 2) := by decide +kernel
theorem dX12_multiply_76 : decode cX12_multiply 76 = .ok (.iload 8, 2) := by decide +kernel
theorem dX12_multiply_78 : decode cX12_multiply 78 = .ok (.iload 7, 2) := by decide +kernel
theorem dX12_multiply_80 : decode cX12_multiply 80 = .ok (.invokestatic 159, 3) := by decide +kernel
theorem dX12_multiply_83 : decode cX12_multiply 83 = .ok (.imul, 1) := by decide +kernel
theorem dX12_multiply_84 : decode cX12_multiply 84 = .ok (.iload_n 1, 1) := by decide +kernel
theorem dX12_multiply_85 : decode cX12_multiply 85 = .ok (.iload 7, 2) := by decide +kernel
theorem dX12_multiply_87 : decode cX12_multiply 87 = .ok (.invokestatic 162, 3) := by decide +kernel
theorem dX12_multiply_90 : decode cX12_multiply 90 = .ok (.iload_n 2, 1) := by decide +kernel
theorem dX12_multiply_91 : decode cX12_multiply 91 = .ok (.iload 7, 2) := by decide +kernel
theorem dX12_multiply_93 : decode cX12_multiply 93 = .ok (.invokestatic 162, 3) := by decide +kernel
theorem dX12_multiply_96 : decode cX12_multiply 96 = .ok (.iadd, 1) := by decide +kernel
theorem dX12_multiply_97 : decode cX12_multiply 97 = .ok (.iconst 1, 1) := by decide +kernel
theorem dX12_multiply_98 : decode cX12_multiply 98 = .ok (.if_icmp .ne 11, 3) := by decide +kernel
theorem dX12_multiply_101 : decode cX12_multiply 101 = .ok (.iload 7, 2) := by decide +kernel
theorem dX12_multiply_103 : decode cX12_multiply 103 = .ok (.invokestatic 165, 3) := by decide +kernel
theorem dX12_multiply_106 : decode cX12_multiply 106 = .ok (.goto 4, 3) := by decide +kernel
theorem dX12_multiply_109 : decode cX12_multiply 109 = .ok (.iconst 0, 1) := by decide +kernel
theorem dX12_multiply_110 : decode cX12_multiply 110 = .ok (.iadd, 1) := by decide +kernel
theorem dX12_multiply_111 : decode cX12_multiply 111 = .ok (.iadd, 1) := by decide +kernel
theorem dX12_multiply_112 : decode cX12_multiply 112 = .ok (.istore 5, 2) := by decide +kernel
theorem dX12_multiply_114 : decode cX12_multiply 114 = .ok (.iload 6, 2) := by decide +kernel
theorem dX12_multiply_116 : decode cX12_multiply 116 = .ok (.iload 9, 2) := by decide +kernel
theorem dX12_multiply_118 : decode cX12_multiply 118 = .ok (.ifCond .eq 10, 3) := by decide +kernel
theorem dX12_multiply_121 : decode cX12_multiply 121 = .ok (.iconst 1, 1) := by decide +kernel
theorem dX12_multiply_122 : decode cX12_multiply 122 = .ok (.iload 7, 2) := by decide +kernel
theorem dX12_multiply_124 : decode cX12_multiply 124 = .ok (.ishl, 1) := by decide +kernel
theorem dX12_multiply_125 : decode cX12_multiply 125 = .ok (.goto 4, 3) := by decide +kernel
theorem dX12_multiply_128 : decode cX12_multiply 128 = .ok (.iconst 0, 1) := by decide +kernel
theorem dX12_multiply_129 : decode cX12_multiply 129 = .ok (.ior, 1) := by decide +kernel
theorem dX12_multiply_130 : decode cX12_multiply 130 = .ok (.istore 6, 2) := by decide +kernel
theorem dX12_multiply_132 : decode cX12_multiply 132 = .ok (.iinc 7 1, 3) := by decide +kernel
theorem dX12_multiply_135 : decode cX12_multiply 135 = .ok (.goto (-126), 3) := by decide +kernel
theorem dX12_multiply_138 : decode cX12_multiply 138 = .ok (.iconst 0, 1) := by decide +kernel
theorem dX12_multiply_139 : decode cX12_multiply 139 = .ok (.istore 7, 2) := by decide +kernel
theorem dX12_multiply_141 : decode cX12_multiply 141 = .ok (.iload 7, 2) := by decide +kernel
theorem dX12_multiply_143 : decode cX12_multiply 143 = .ok (.bipush 16, 2) := by decide +kernel
theorem dX12_multiply_145 : decode cX12_multiply 145 = .ok (.if_icmp .ge 89, 3) := by decide +kernel
theorem dX12_multiply_148 : decode cX12_multiply 148 = .ok (.iload 7, 2) := by decide +kernel
theorem dX12_multiply_150 : decode cX12_multiply 150 = .ok (.iload 6, 2) := by decide +kernel
theorem dX12_multiply_152 : decode cX12_multiply 152 = .ok (.iconst (-1), 1) := by decide +kernel
theorem dX12_multiply_153 : decode cX12_multiply 153 = .ok (.ixor, 1) := by decide +kernel
theorem dX12_multiply_154 : decode cX12_multiply 154 = .ok (.iand, 1) := by decide +kernel
theorem dX12_multiply_155 : decode cX12_multiply 155 = .ok (.ifCond .ne 73, 3) := by decide +kernel
theorem dX12_multiply_158 : decode cX12_multiply 158 = .ok (.iload 5, 2) := by decide +kernel
theorem dX12_multiply_160 : decode cX12_multiply 160 = .ok (.istore 8, 2) := by decide +kernel
theorem dX12_multiply_162 : decode cX12_multiply 162 = .ok (.lload_n 3, 1) := by decide +kernel
theorem dX12_multiply_163 : decode cX12_multiply 163 = .ok (.lstore 9, 2) := by decide +kernel
theorem dX12_multiply_165 : decode cX12_multiply 165 = .ok (.iconst 0, 1) := by decide +kernel
theorem dX12_multiply_166 : decode cX12_multiply 166 = .ok (.istore 11, 2) := by decide +kernel
theorem dX12_multiply_168 : decode cX12_multiply 168 = .ok (.iload 11, 2) := by decide +kernel
theorem dX12_multiply_170 : decode cX12_multiply 170 = .ok (.iconst 4, 1) := by decide +kernel
theorem dX12_multiply_171 : decode cX12_multiply 171 = .ok (.if_icmp .ge 37, 3) := by decide +kernel
theorem dX12_multiply_174 : decode cX12_multiply 174 = .ok (.iload 7, 2) := by decide +kernel
theorem dX12_multiply_176 : decode cX12_multiply 176 = .ok (.iload 11, 2) := by decide +kernel
theorem dX12_multiply_178 : decode cX12_multiply 178 = .ok (.ishr, 1) := by decide +kernel
theorem dX12_multiply_179 : decode cX12_multiply 179 = .ok (.iconst 1, 1) := by decide +kernel
theorem dX12_multiply_180 : decode cX12_multiply 180 = .ok (.iand, 1) := by decide +kernel
theorem dX12_multiply_181 : decode cX12_multiply 181 = .ok (.iconst 1, 1) := by decide +kernel
theorem dX12_multiply_182 : decode cX12_multiply 182 = .ok (.if_icmp .ne 20, 3) := by decide +kernel
theorem dX12_multiply_185 : decode cX12_multiply 185 = .ok (.iload 8, 2) := by decide +kernel
theorem dX12_multiply_187 : decode cX12_multiply 187 = .ok (.iconst 2, 1) := by decide +kernel
theorem dX12_multiply_188 : decode cX12_multiply 188 = .ok (.iload 11, 2) := by decide +kernel
theorem dX12_multiply_190 : decode cX12_multiply 190 = .ok (.invokestatic 159, 3) := by decide +kernel
theorem dX12_multiply_193 : decode cX12_multiply 193 = .ok (.imul, 1) := by decide +kernel
theorem dX12_multiply_194 : decode cX12_multiply 194 = .ok (.iadd, 1) := by decide +kernel
theorem dX12_multiply_195 : decode cX12_multiply 195 = .ok (.istore 8, 2) := by decide +kernel
theorem dX12_multiply_197 : decode cX12_multiply 197 = .ok (.lload 9, 2) := by decide +kernel
theorem dX12_multiply_199 : decode cX12_multiply 199 = .ok (.lneg, 1) := by decide +kernel
theorem dX12_multiply_200 : decode cX12_multiply 200 = .ok (.lstore 9, 2) := by decide +kernel
theorem dX12_multiply_202 : decode cX12_multiply 202 = .ok (.iinc 11 1, 3) := by decide +kernel
theorem dX12_multiply_205 : decode cX12_multiply 205 = .ok (.goto (-37), 3) := by decide +kernel
theorem dX12_multiply_208 : decode cX12_multiply 208 = .ok (.aload_n 0, 1) := by decide +kernel
theorem dX12_multiply_209 : decode cX12_multiply 209 = .ok (.iload 8, 2) := by decide +kernel
theorem dX12_multiply_211 : decode cX12_multiply 211 = .ok (.lload 9, 2) := by decide +kernel
theorem dX12_multiply_213 : decode cX12_multiply 213 = .ok (.invokevirtual 110, 3) := by decide +kernel
theorem dX12_multiply_216 : decode cX12_multiply 216 = .ok (.aload_n 0, 1) := by decide +kernel
theorem dX12_multiply_217 : decode cX12_multiply 217 = .ok (.getfield 97, 3) := by decide +kernel
theorem dX12_multiply_220 : decode cX12_multiply 220 = .ok (.sipush 300, 3) := by decide +kernel
theorem dX12_multiply_223 : decode cX12_multiply 223 = .ok (.if_icmp .le 5, 3) := by decide +kernel
theorem dX12_multiply_226 : decode cX12_multiply 226 = .ok (.iconst 0, 1) := by decide +kernel
theorem dX12_multiply_227 : decode cX12_multiply 227 = .ok (.ireturn, 1) := by decide +kernel
theorem dX12_multiply_228 : decode cX12_multiply 228 = .ok (.iinc 7 1, 3) := by decide +kernel
theorem dX12_multiply_231 : decode cX12_multiply 231 = .ok (.goto (-90), 3) := by decide +kernel
theorem dX12_multiply_234 : decode cX12_multiply 234 = .ok (.iconst 1, 1) := by decide +kernel
theorem dX12_multiply_235 : decode cX12_multiply 235 = .ok (.ireturn, 1) := by decide +kernel
set_option maxRecDepth 20000 in
theorem ggX12_product_X12_isShelf : GoodIn wsX12_product wsX12_isShelf := goodIn_r _ [12, 13, 14, 15, 16, 11, 17] (by decide +kernel) (by decide +kernel)
set_option maxRecDepth 20000 in
theorem gX12_product_X12_isShelf : GoodIn wsX12_product (va_wsS RX12 118 yX12_isShelf wsX12_isShelf) := goodIn_app (goodIn_of _ (by decide +kernel)) ggX12_product_X12_isShelf
set_option maxRecDepth 20000 in
theorem ggX12_product_X12_placeOf : GoodIn wsX12_product wsX12_placeOf := goodIn_r _ [20] (by decide +kernel) (by decide +kernel)
set_option maxRecDepth 20000 in
theorem gX12_product_X12_placeOf : GoodIn wsX12_product (va_wsS RX12 121 yX12_placeOf wsX12_placeOf) := goodIn_app (goodIn_of _ (by decide +kernel)) ggX12_product_X12_placeOf
set_option maxRecDepth 20000 in
theorem ggX12_product_X12_productOf : GoodIn wsX12_product wsX12_productOf := goodIn_r _ [23] (by decide +kernel) (by decide +kernel)
set_option maxRecDepth 20000 in
theorem gX12_product_X12_productOf : GoodIn wsX12_product (va_wsS RX12 148 yX12_productOf wsX12_productOf) := goodIn_app (goodIn_of _ (by decide +kernel)) ggX12_product_X12_productOf
set_option maxRecDepth 20000 in
theorem ggX12_product_X12_in : GoodIn wsX12_product wsX12_in := goodIn_r _ [17] (by decide +kernel) (by decide +kernel)
set_option maxRecDepth 20000 in
theorem gX12_product_X12_in : GoodIn wsX12_product (va_wsS RX12 79 yX12_in wsX12_in) := goodIn_app (goodIn_of _ (by decide +kernel)) ggX12_product_X12_in
set_option maxRecDepth 20000 in
theorem ggX12_product_X12_multiply : GoodIn wsX12_product wsX12_multiply := goodIn_r _ [27, 2, 28, 29, 11, 30, 31, 32, 33, 34, 35, 36, 37, 38, 39, 40, 41, 42, 43, 44, 45, 55, 56, 57, 58, 59, 60, 61, 62, 63, 64, 65, 66, 67, 68, 69, 70, 71, 72, 73, 74, 75, 76, 77, 78, 79, 80, 81, 82] (by decide +kernel) (by decide +kernel)
set_option maxRecDepth 20000 in
theorem gX12_product_X12_multiply : GoodIn wsX12_product (wsV RX12 185 RX12 yX12_multiply wsX12_multiply) := goodIn_app (goodIn_of _ (by decide +kernel)) ggX12_product_X12_multiply
set_option maxRecDepth 20000 in
theorem ggX12_product_X12_kept : GoodIn wsX12_product wsX12_kept := goodIn_r _ [49, 3, 8, 50, 51, 52, 11, 53, 2, 45, 54, 6, 44, 4, 5, 15, 16, 17, 28, 29, 30, 55, 56, 57, 58, 59, 60, 61, 62, 63, 64, 65, 66, 67, 68, 69, 70, 71, 72, 73, 74, 75, 76, 77, 78, 79, 80, 81, 82] (by decide +kernel) (by decide +kernel)
set_option maxRecDepth 20000 in
theorem gX12_product_X12_kept : GoodIn wsX12_product (wsV RX12 130 RX12 yX12_kept wsX12_kept) := goodIn_app (goodIn_of _ (by decide +kernel)) ggX12_product_X12_kept
theorem dX12_product_0 : decode cX12_product 0 = .ok (.iload_n 1, 1) := by decide +kernel
theorem dX12_product_1 : decode cX12_product 1 = .ok (.invokestatic 118, 3) := by decide +kernel
theorem dX12_product_4 : decode cX12_product 4 = .ok (.ifCond .eq 17, 3) := by decide +kernel
theorem dX12_product_7 : decode cX12_product 7 = .ok (.iload_n 2, 1) := by decide +kernel
theorem dX12_product_8 : decode cX12_product 8 = .ok (.invokestatic 118, 3) := by decide +kernel
theorem dX12_product_11 : decode cX12_product 11 = .ok (.ifCond .eq 10, 3) := by decide +kernel
theorem dX12_product_14 : decode cX12_product 14 = .ok (.iload_n 3, 1) := by decide +kernel
theorem dX12_product_15 : decode cX12_product 15 = .ok (.invokestatic 118, 3) := by decide +kernel
theorem dX12_product_18 : decode cX12_product 18 = .ok (.ifCond .ne 6, 3) := by decide +kernel
theorem dX12_product_21 : decode cX12_product 21 = .ok (.ldc 89, 2) := by decide +kernel
theorem dX12_product_23 : decode cX12_product 23 = .ok (.ireturn, 1) := by decide +kernel
theorem dX12_product_24 : decode cX12_product 24 = .ok (.iload_n 2, 1) := by decide +kernel
theorem dX12_product_25 : decode cX12_product 25 = .ok (.invokestatic 121, 3) := by decide +kernel
theorem dX12_product_28 : decode cX12_product 28 = .ok (.istore 4, 2) := by decide +kernel
theorem dX12_product_30 : decode cX12_product 30 = .ok (.iload_n 3, 1) := by decide +kernel
theorem dX12_product_31 : decode cX12_product 31 = .ok (.invokestatic 121, 3) := by decide +kernel
theorem dX12_product_34 : decode cX12_product 34 = .ok (.istore 5, 2) := by decide +kernel
theorem dX12_product_36 : decode cX12_product 36 = .ok (.aload_n 0, 1) := by decide +kernel
theorem dX12_product_37 : decode cX12_product 37 = .ok (.iconst 0, 1) := by decide +kernel
theorem dX12_product_38 : decode cX12_product 38 = .ok (.putfield 97, 3) := by decide +kernel
theorem dX12_product_41 : decode cX12_product 41 = .ok (.iconst 0, 1) := by decide +kernel
theorem dX12_product_42 : decode cX12_product 42 = .ok (.istore 6, 2) := by decide +kernel
theorem dX12_product_44 : decode cX12_product 44 = .ok (.iload 6, 2) := by decide +kernel
theorem dX12_product_46 : decode cX12_product 46 = .ok (.aload_n 0, 1) := by decide +kernel
theorem dX12_product_47 : decode cX12_product 47 = .ok (.getfield 22, 3) := by decide +kernel
theorem dX12_product_50 : decode cX12_product 50 = .ok (.iload 4, 2) := by decide +kernel
theorem dX12_product_52 : decode cX12_product 52 = .ok (.iaload, 1) := by decide +kernel
theorem dX12_product_53 : decode cX12_product 53 = .ok (.if_icmp .ge 166, 3) := by decide +kernel
theorem dX12_product_56 : decode cX12_product 56 = .ok (.iconst 0, 1) := by decide +kernel
theorem dX12_product_57 : decode cX12_product 57 = .ok (.istore 7, 2) := by decide +kernel
theorem dX12_product_59 : decode cX12_product 59 = .ok (.iload 7, 2) := by decide +kernel
theorem dX12_product_61 : decode cX12_product 61 = .ok (.aload_n 0, 1) := by decide +kernel
theorem dX12_product_62 : decode cX12_product 62 = .ok (.getfield 22, 3) := by decide +kernel
theorem dX12_product_65 : decode cX12_product 65 = .ok (.iload 5, 2) := by decide +kernel
theorem dX12_product_67 : decode cX12_product 67 = .ok (.iaload, 1) := by decide +kernel
theorem dX12_product_68 : decode cX12_product 68 = .ok (.if_icmp .ge 145, 3) := by decide +kernel
theorem dX12_product_71 : decode cX12_product 71 = .ok (.aload_n 0, 1) := by decide +kernel
theorem dX12_product_72 : decode cX12_product 72 = .ok (.getfield 25, 3) := by decide +kernel
theorem dX12_product_75 : decode cX12_product 75 = .ok (.sipush 300, 3) := by decide +kernel
theorem dX12_product_78 : decode cX12_product 78 = .ok (.iload 4, 2) := by decide +kernel
theorem dX12_product_80 : decode cX12_product 80 = .ok (.imul, 1) := by decide +kernel
theorem dX12_product_81 : decode cX12_product 81 = .ok (.iload 6, 2) := by decide +kernel
theorem dX12_product_83 : decode cX12_product 83 = .ok (.iadd, 1) := by decide +kernel
theorem dX12_product_84 : decode cX12_product 84 = .ok (.iaload, 1) := by decide +kernel
theorem dX12_product_85 : decode cX12_product 85 = .ok (.istore 8, 2) := by decide +kernel
theorem dX12_product_87 : decode cX12_product 87 = .ok (.aload_n 0, 1) := by decide +kernel
theorem dX12_product_88 : decode cX12_product 88 = .ok (.getfield 25, 3) := by decide +kernel
theorem dX12_product_91 : decode cX12_product 91 = .ok (.sipush 300, 3) := by decide +kernel
theorem dX12_product_94 : decode cX12_product 94 = .ok (.iload 5, 2) := by decide +kernel
theorem dX12_product_96 : decode cX12_product 96 = .ok (.imul, 1) := by decide +kernel
theorem dX12_product_97 : decode cX12_product 97 = .ok (.iload 7, 2) := by decide +kernel
theorem dX12_product_99 : decode cX12_product 99 = .ok (.iadd, 1) := by decide +kernel
theorem dX12_product_100 : decode cX12_product 100 = .ok (.iaload, 1) := by decide +kernel
theorem dX12_product_101 : decode cX12_product 101 = .ok (.istore 9, 2) := by decide +kernel
theorem dX12_product_103 : decode cX12_product 103 = .ok (.iload 8, 2) := by decide +kernel
theorem dX12_product_105 : decode cX12_product 105 = .ok (.invokestatic 148, 3) := by decide +kernel
theorem dX12_product_108 : decode cX12_product 108 = .ok (.iload 9, 2) := by decide +kernel
theorem dX12_product_110 : decode cX12_product 110 = .ok (.invokestatic 148, 3) := by decide +kernel
theorem dX12_product_113 : decode cX12_product 113 = .ok (.if_icmp .ne 94, 3) := by decide +kernel
theorem dX12_product_116 : decode cX12_product 116 = .ok (.aload_n 0, 1) := by decide +kernel
theorem dX12_product_117 : decode cX12_product 117 = .ok (.getfield 28, 3) := by decide +kernel
theorem dX12_product_120 : decode cX12_product 120 = .ok (.sipush 300, 3) := by decide +kernel
theorem dX12_product_123 : decode cX12_product 123 = .ok (.iload 4, 2) := by decide +kernel
theorem dX12_product_125 : decode cX12_product 125 = .ok (.imul, 1) := by decide +kernel
theorem dX12_product_126 : decode cX12_product 126 = .ok (.iload 6, 2) := by decide +kernel
theorem dX12_product_128 : decode cX12_product 128 = .ok (.iadd, 1) := by decide +kernel
theorem dX12_product_129 : decode cX12_product 129 = .ok (.laload, 1) := by decide +kernel
theorem dX12_product_130 : decode cX12_product 130 = .ok (.lstore 10, 2) := by decide +kernel
theorem dX12_product_132 : decode cX12_product 132 = .ok (.aload_n 0, 1) := by decide +kernel
theorem dX12_product_133 : decode cX12_product 133 = .ok (.getfield 28, 3) := by decide +kernel
theorem dX12_product_136 : decode cX12_product 136 = .ok (.sipush 300, 3) := by decide +kernel
theorem dX12_product_139 : decode cX12_product 139 = .ok (.iload 5, 2) := by decide +kernel
theorem dX12_product_141 : decode cX12_product 141 = .ok (.imul, 1) := by decide +kernel
theorem dX12_product_142 : decode cX12_product 142 = .ok (.iload 7, 2) := by decide +kernel
theorem dX12_product_144 : decode cX12_product 144 = .ok (.iadd, 1) := by decide +kernel
theorem dX12_product_145 : decode cX12_product 145 = .ok (.laload, 1) := by decide +kernel
theorem dX12_product_146 : decode cX12_product 146 = .ok (.lstore 12, 2) := by decide +kernel
theorem dX12_product_148 : decode cX12_product 148 = .ok (.ldc2_w 104, 3) := by decide +kernel
theorem dX12_product_151 : decode cX12_product 151 = .ok (.lload 12, 2) := by decide +kernel
theorem dX12_product_153 : decode cX12_product 153 = .ok (.lconst 0, 1) := by decide +kernel
theorem dX12_product_154 : decode cX12_product 154 = .ok (.lcmp, 1) := by decide +kernel
theorem dX12_product_155 : decode cX12_product 155 = .ok (.ifCond .ge 9, 3) := by decide +kernel
theorem dX12_product_158 : decode cX12_product 158 = .ok (.lload 12, 2) := by decide +kernel
theorem dX12_product_160 : decode cX12_product 160 = .ok (.lneg, 1) := by decide +kernel
theorem dX12_product_161 : decode cX12_product 161 = .ok (.goto 5, 3) := by decide +kernel
theorem dX12_product_164 : decode cX12_product 164 = .ok (.lload 12, 2) := by decide +kernel
theorem dX12_product_166 : decode cX12_product 166 = .ok (.ldiv, 1) := by decide +kernel
theorem dX12_product_167 : decode cX12_product 167 = .ok (.lstore 14, 2) := by decide +kernel
theorem dX12_product_169 : decode cX12_product 169 = .ok (.lload 10, 2) := by decide +kernel
theorem dX12_product_171 : decode cX12_product 171 = .ok (.lload 14, 2) := by decide +kernel
theorem dX12_product_173 : decode cX12_product 173 = .ok (.lneg, 1) := by decide +kernel
theorem dX12_product_174 : decode cX12_product 174 = .ok (.lload 14, 2) := by decide +kernel
theorem dX12_product_176 : decode cX12_product 176 = .ok (.invokestatic 79, 3) := by decide +kernel
theorem dX12_product_179 : decode cX12_product 179 = .ok (.ifCond .eq 25, 3) := by decide +kernel
theorem dX12_product_182 : decode cX12_product 182 = .ok (.aload_n 0, 1) := by decide +kernel
theorem dX12_product_183 : decode cX12_product 183 = .ok (.iload 8, 2) := by decide +kernel
theorem dX12_product_185 : decode cX12_product 185 = .ok (.ldc 158, 2) := by decide +kernel
theorem dX12_product_187 : decode cX12_product 187 = .ok (.iand, 1) := by decide +kernel
theorem dX12_product_188 : decode cX12_product 188 = .ok (.iload 9, 2) := by decide +kernel
theorem dX12_product_190 : decode cX12_product 190 = .ok (.ldc 158, 2) := by decide +kernel
theorem dX12_product_192 : decode cX12_product 192 = .ok (.iand, 1) := by decide +kernel
theorem dX12_product_193 : decode cX12_product 193 = .ok (.lload 10, 2) := by decide +kernel
theorem dX12_product_195 : decode cX12_product 195 = .ok (.lload 12, 2) := by decide +kernel
theorem dX12_product_197 : decode cX12_product 197 = .ok (.lmul, 1) := by decide +kernel
theorem dX12_product_198 : decode cX12_product 198 = .ok (.invokevirtual 185, 3) := by decide +kernel
theorem dX12_product_201 : decode cX12_product 201 = .ok (.ifCond .ne 6, 3) := by decide +kernel
theorem dX12_product_204 : decode cX12_product 204 = .ok (.ldc 117, 2) := by decide +kernel
theorem dX12_product_206 : decode cX12_product 206 = .ok (.ireturn, 1) := by decide +kernel
theorem dX12_product_207 : decode cX12_product 207 = .ok (.iinc 7 1, 3) := by decide +kernel
theorem dX12_product_210 : decode cX12_product 210 = .ok (.goto (-151), 3) := by decide +kernel
theorem dX12_product_213 : decode cX12_product 213 = .ok (.iinc 6 1, 3) := by decide +kernel
theorem dX12_product_216 : decode cX12_product 216 = .ok (.goto (-172), 3) := by decide +kernel
theorem dX12_product_219 : decode cX12_product 219 = .ok (.aload_n 0, 1) := by decide +kernel
theorem dX12_product_220 : decode cX12_product 220 = .ok (.iload_n 1, 1) := by decide +kernel
theorem dX12_product_221 : decode cX12_product 221 = .ok (.invokestatic 121, 3) := by decide +kernel
theorem dX12_product_224 : decode cX12_product 224 = .ok (.invokevirtual 130, 3) := by decide +kernel
theorem dX12_product_227 : decode cX12_product 227 = .ok (.ireturn, 1) := by decide +kernel
set_option maxRecDepth 20000 in
theorem ggX12_digest_X12_isShelf : GoodIn wsX12_digest wsX12_isShelf := goodIn_r _ [10, 11, 12, 13, 14, 9, 15] (by decide +kernel) (by decide +kernel)
set_option maxRecDepth 20000 in
theorem gX12_digest_X12_isShelf : GoodIn wsX12_digest (va_wsS RX12 118 yX12_isShelf wsX12_isShelf) := goodIn_app (goodIn_of _ (by decide +kernel)) ggX12_digest_X12_isShelf
set_option maxRecDepth 20000 in
theorem ggX12_digest_X12_placeOf : GoodIn wsX12_digest wsX12_placeOf := goodIn_r _ [18] (by decide +kernel) (by decide +kernel)
set_option maxRecDepth 20000 in
theorem gX12_digest_X12_placeOf : GoodIn wsX12_digest (va_wsS RX12 121 yX12_placeOf wsX12_placeOf) := goodIn_app (goodIn_of _ (by decide +kernel)) ggX12_digest_X12_placeOf
set_option maxRecDepth 20000 in
theorem ggX12_digest_X12_powerOf : GoodIn wsX12_digest wsX12_powerOf := goodIn_r _ [21, 22, 23, 9, 24, 25, 26, 27, 28, 29, 30] (by decide +kernel) (by decide +kernel)
set_option maxRecDepth 20000 in
theorem gX12_digest_X12_powerOf : GoodIn wsX12_digest (va_wsS RX12 182 yX12_powerOf wsX12_powerOf) := goodIn_app (goodIn_of _ (by decide +kernel)) ggX12_digest_X12_powerOf
theorem dX12_digest_0 : decode cX12_digest 0 = .ok (.iload_n 1, 1) := by decide +kernel
theorem dX12_digest_1 : decode cX12_digest 1 = .ok (.invokestatic 118, 3) := by decide +kernel
theorem dX12_digest_4 : decode cX12_digest 4 = .ok (.ifCond .ne 7, 3) := by decide +kernel
theorem dX12_digest_7 : decode cX12_digest 7 = .ok (.ldc2_w 180, 3) := by decide +kernel
theorem dX12_digest_10 : decode cX12_digest 10 = .ok (.lreturn, 1) := by decide +kernel
theorem dX12_digest_11 : decode cX12_digest 11 = .ok (.ldc2_w 189, 3) := by decide +kernel
theorem dX12_digest_14 : decode cX12_digest 14 = .ok (.lstore_n 2, 1) := by decide +kernel
theorem dX12_digest_15 : decode cX12_digest 15 = .ok (.iload_n 1, 1) := by decide +kernel
theorem dX12_digest_16 : decode cX12_digest 16 = .ok (.invokestatic 121, 3) := by decide +kernel
theorem dX12_digest_19 : decode cX12_digest 19 = .ok (.istore 4, 2) := by decide +kernel
theorem dX12_digest_21 : decode cX12_digest 21 = .ok (.iconst 0, 1) := by decide +kernel
theorem dX12_digest_22 : decode cX12_digest 22 = .ok (.istore 5, 2) := by decide +kernel
theorem dX12_digest_24 : decode cX12_digest 24 = .ok (.iload 5, 2) := by decide +kernel
theorem dX12_digest_26 : decode cX12_digest 26 = .ok (.aload_n 0, 1) := by decide +kernel
theorem dX12_digest_27 : decode cX12_digest 27 = .ok (.getfield 22, 3) := by decide +kernel
theorem dX12_digest_30 : decode cX12_digest 30 = .ok (.iload 4, 2) := by decide +kernel
theorem dX12_digest_32 : decode cX12_digest 32 = .ok (.iaload, 1) := by decide +kernel
theorem dX12_digest_33 : decode cX12_digest 33 = .ok (.if_icmp .ge 73, 3) := by decide +kernel
theorem dX12_digest_36 : decode cX12_digest 36 = .ok (.iconst (-1), 1) := by decide +kernel
theorem dX12_digest_37 : decode cX12_digest 37 = .ok (.istore 6, 2) := by decide +kernel
theorem dX12_digest_39 : decode cX12_digest 39 = .ok (.iload 6, 2) := by decide +kernel
theorem dX12_digest_41 : decode cX12_digest 41 = .ok (.bipush 8, 2) := by decide +kernel
theorem dX12_digest_43 : decode cX12_digest 43 = .ok (.if_icmp .ge 36, 3) := by decide +kernel
theorem dX12_digest_46 : decode cX12_digest 46 = .ok (.ldc2_w 191, 3) := by decide +kernel
theorem dX12_digest_49 : decode cX12_digest 49 = .ok (.lload_n 2, 1) := by decide +kernel
theorem dX12_digest_50 : decode cX12_digest 50 = .ok (.lmul, 1) := by decide +kernel
theorem dX12_digest_51 : decode cX12_digest 51 = .ok (.aload_n 0, 1) := by decide +kernel
theorem dX12_digest_52 : decode cX12_digest 52 = .ok (.getfield 25, 3) := by decide +kernel
theorem dX12_digest_55 : decode cX12_digest 55 = .ok (.sipush 300, 3) := by decide +kernel
theorem dX12_digest_58 : decode cX12_digest 58 = .ok (.iload 4, 2) := by decide +kernel
theorem dX12_digest_60 : decode cX12_digest 60 = .ok (.imul, 1) := by decide +kernel
theorem dX12_digest_61 : decode cX12_digest 61 = .ok (.iload 5, 2) := by decide +kernel
theorem dX12_digest_63 : decode cX12_digest 63 = .ok (.iadd, 1) := by decide +kernel
theorem dX12_digest_64 : decode cX12_digest 64 = .ok (.iaload, 1) := by decide +kernel
theorem dX12_digest_65 : decode cX12_digest 65 = .ok (.iload 6, 2) := by decide +kernel
theorem dX12_digest_67 : decode cX12_digest 67 = .ok (.invokestatic 182, 3) := by decide +kernel
theorem dX12_digest_70 : decode cX12_digest 70 = .ok (.i2l, 1) := by decide +kernel
theorem dX12_digest_71 : decode cX12_digest 71 = .ok (.ladd, 1) := by decide +kernel
theorem dX12_digest_72 : decode cX12_digest 72 = .ok (.lstore_n 2, 1) := by decide +kernel
theorem dX12_digest_73 : decode cX12_digest 73 = .ok (.iinc 6 1, 3) := by decide +kernel
theorem dX12_digest_76 : decode cX12_digest 76 = .ok (.goto (-37), 3) := by decide +kernel
theorem dX12_digest_79 : decode cX12_digest 79 = .ok (.ldc2_w 191, 3) := by decide +kernel
theorem dX12_digest_82 : decode cX12_digest 82 = .ok (.lload_n 2, 1) := by decide +kernel
theorem dX12_digest_83 : decode cX12_digest 83 = .ok (.lmul, 1) := by decide +kernel
theorem dX12_digest_84 : decode cX12_digest 84 = .ok (.aload_n 0, 1) := by decide +kernel
theorem dX12_digest_85 : decode cX12_digest 85 = .ok (.getfield 28, 3) := by decide +kernel
theorem dX12_digest_88 : decode cX12_digest 88 = .ok (.sipush 300, 3) := by decide +kernel
theorem dX12_digest_91 : decode cX12_digest 91 = .ok (.iload 4, 2) := by decide +kernel
theorem dX12_digest_93 : decode cX12_digest 93 = .ok (.imul, 1) := by decide +kernel
theorem dX12_digest_94 : decode cX12_digest 94 = .ok (.iload 5, 2) := by decide +kernel
theorem dX12_digest_96 : decode cX12_digest 96 = .ok (.iadd, 1) := by decide +kernel
theorem dX12_digest_97 : decode cX12_digest 97 = .ok (.laload, 1) := by decide +kernel
theorem dX12_digest_98 : decode cX12_digest 98 = .ok (.ladd, 1) := by decide +kernel
theorem dX12_digest_99 : decode cX12_digest 99 = .ok (.lstore_n 2, 1) := by decide +kernel
theorem dX12_digest_100 : decode cX12_digest 100 = .ok (.iinc 5 1, 3) := by decide +kernel
theorem dX12_digest_103 : decode cX12_digest 103 = .ok (.goto (-79), 3) := by decide +kernel
theorem dX12_digest_106 : decode cX12_digest 106 = .ok (.lload_n 2, 1) := by decide +kernel
theorem dX12_digest_107 : decode cX12_digest 107 = .ok (.lreturn, 1) := by decide +kernel
theorem dX12_come_0 : decode cX12_come 0 = .ok (.aload_n 0, 1) := by decide +kernel
theorem dX12_come_1 : decode cX12_come 1 = .ok (.getfield 193, 3) := by decide +kernel
theorem dX12_come_4 : decode cX12_come 4 = .ok (.bipush 40, 2) := by decide +kernel
theorem dX12_come_6 : decode cX12_come 6 = .ok (.if_icmp .ne 6, 3) := by decide +kernel
theorem dX12_come_9 : decode cX12_come 9 = .ok (.ldc 117, 2) := by decide +kernel
theorem dX12_come_11 : decode cX12_come 11 = .ok (.ireturn, 1) := by decide +kernel
theorem dX12_come_12 : decode cX12_come 12 = .ok (.aload_n 0, 1) := by decide +kernel
theorem dX12_come_13 : decode cX12_come 13 = .ok (.getfield 38, 3) := by decide +kernel
theorem dX12_come_16 : decode cX12_come 16 = .ok (.aload_n 0, 1) := by decide +kernel
theorem dX12_come_17 : decode cX12_come 17 = .ok (.getfield 193, 3) := by decide +kernel
theorem dX12_come_20 : decode cX12_come 20 = .ok (.iload_n 1, 1) := by decide +kernel
theorem dX12_come_21 : decode cX12_come 21 = .ok (.iastore, 1) := by decide +kernel
theorem dX12_come_22 : decode cX12_come 22 = .ok (.aload_n 0, 1) := by decide +kernel
theorem dX12_come_23 : decode cX12_come 23 = .ok (.getfield 41, 3) := by decide +kernel
theorem dX12_come_26 : decode cX12_come 26 = .ok (.aload_n 0, 1) := by decide +kernel
theorem dX12_come_27 : decode cX12_come 27 = .ok (.getfield 193, 3) := by decide +kernel
theorem dX12_come_30 : decode cX12_come 30 = .ok (.iload_n 2, 1) := by decide +kernel
theorem dX12_come_31 : decode cX12_come 31 = .ok (.iastore, 1) := by decide +kernel
theorem dX12_come_32 : decode cX12_come 32 = .ok (.aload_n 0, 1) := by decide +kernel
theorem dX12_come_33 : decode cX12_come 33 = .ok (.getfield 44, 3) := by decide +kernel
theorem dX12_come_36 : decode cX12_come 36 = .ok (.aload_n 0, 1) := by decide +kernel
theorem dX12_come_37 : decode cX12_come 37 = .ok (.getfield 193, 3) := by decide +kernel
theorem dX12_come_40 : decode cX12_come 40 = .ok (.iload_n 3, 1) := by decide +kernel
theorem dX12_come_41 : decode cX12_come 41 = .ok (.iastore, 1) := by decide +kernel
theorem dX12_come_42 : decode cX12_come 42 = .ok (.aload_n 0, 1) := by decide +kernel
theorem dX12_come_43 : decode cX12_come 43 = .ok (.getfield 47, 3) := by decide +kernel
theorem dX12_come_46 : decode cX12_come 46 = .ok (.aload_n 0, 1) := by decide +kernel
theorem dX12_come_47 : decode cX12_come 47 = .ok (.getfield 193, 3) := by decide +kernel
theorem dX12_come_50 : decode cX12_come 50 = .ok (.iload 4, 2) := by decide +kernel
theorem dX12_come_52 : decode cX12_come 52 = .ok (.iastore, 1) := by decide +kernel
theorem dX12_come_53 : decode cX12_come 53 = .ok (.aload_n 0, 1) := by decide +kernel
theorem dX12_come_54 : decode cX12_come 54 = .ok (.getfield 50, 3) := by decide +kernel
theorem dX12_come_57 : decode cX12_come 57 = .ok (.aload_n 0, 1) := by decide +kernel
theorem dX12_come_58 : decode cX12_come 58 = .ok (.getfield 193, 3) := by decide +kernel
theorem dX12_come_61 : decode cX12_come 61 = .ok (.iload 5, 2) := by decide +kernel
theorem dX12_come_63 : decode cX12_come 63 = .ok (.iastore, 1) := by decide +kernel
theorem dX12_come_64 : decode cX12_come 64 = .ok (.aload_n 0, 1) := by decide +kernel
theorem dX12_come_65 : decode cX12_come 65 = .ok (.dup, 1) := by decide +kernel
theorem dX12_come_66 : decode cX12_come 66 = .ok (.getfield 193, 3) := by decide +kernel
theorem dX12_come_69 : decode cX12_come 69 = .ok (.iconst 1, 1) := by decide +kernel
theorem dX12_come_70 : decode cX12_come 70 = .ok (.iadd, 1) := by decide +kernel
theorem dX12_come_71 : decode cX12_come 71 = .ok (.putfield 193, 3) := by decide +kernel
theorem dX12_come_74 : decode cX12_come 74 = .ok (.aload_n 0, 1) := by decide +kernel
theorem dX12_come_75 : decode cX12_come 75 = .ok (.getfield 193, 3) := by decide +kernel
theorem dX12_come_78 : decode cX12_come 78 = .ok (.iconst 1, 1) := by decide +kernel
theorem dX12_come_79 : decode cX12_come 79 = .ok (.isub, 1) := by decide +kernel
theorem dX12_come_80 : decode cX12_come 80 = .ok (.ireturn, 1) := by decide +kernel
set_option maxRecDepth 20000 in
theorem ggX12_isPulse_X12_in : GoodIn wsX12_isPulse wsX12_in := goodIn_r _ [6] (by decide +kernel) (by decide +kernel)
set_option maxRecDepth 20000 in
theorem gX12_isPulse_X12_in : GoodIn wsX12_isPulse (va_wsS RX12 79 yX12_in wsX12_in) := goodIn_app (goodIn_of _ (by decide +kernel)) ggX12_isPulse_X12_in
theorem dX12_isPulse_0 : decode cX12_isPulse 0 = .ok (.iload_n 1, 1) := by decide +kernel
theorem dX12_isPulse_1 : decode cX12_isPulse 1 = .ok (.i2l, 1) := by decide +kernel
theorem dX12_isPulse_2 : decode cX12_isPulse 2 = .ok (.lconst 1, 1) := by decide +kernel
theorem dX12_isPulse_3 : decode cX12_isPulse 3 = .ok (.iconst 1, 1) := by decide +kernel
theorem dX12_isPulse_4 : decode cX12_isPulse 4 = .ok (.aload_n 0, 1) := by decide +kernel
theorem dX12_isPulse_5 : decode cX12_isPulse 5 = .ok (.getfield 67, 3) := by decide +kernel
theorem dX12_isPulse_8 : decode cX12_isPulse 8 = .ok (.ishl, 1) := by decide +kernel
theorem dX12_isPulse_9 : decode cX12_isPulse 9 = .ok (.iconst 1, 1) := by decide +kernel
theorem dX12_isPulse_10 : decode cX12_isPulse 10 = .ok (.isub, 1) := by decide +kernel
theorem dX12_isPulse_11 : decode cX12_isPulse 11 = .ok (.i2l, 1) := by decide +kernel
theorem dX12_isPulse_12 : decode cX12_isPulse 12 = .ok (.invokestatic 79, 3) := by decide +kernel
theorem dX12_isPulse_15 : decode cX12_isPulse 15 = .ok (.ifCond .eq 31, 3) := by decide +kernel
