theorem dX0_init_0 : decode cX0_init 0 = .ok (.aload_n 0, 1) := by decide +kernel
theorem dX0_init_1 : decode cX0_init 1 = .ok (.iload_n 1, 1) := by decide +kernel
theorem dX0_init_2 : decode cX0_init 2 = .ok (.aload_n 2, 1) := by decide +kernel
theorem dX0_init_3 : decode cX0_init 3 = .ok (.iload_n 3, 1) := by decide +kernel
theorem dX0_init_4 : decode cX0_init 4 = .ok (.iload 4, 2) := by decide +kernel
theorem dX0_init_6 : decode cX0_init 6 = .ok (.iload 5, 2) := by decide +kernel
theorem dX0_init_8 : decode cX0_init 8 = .ok (.invokespecial 3, 3) := by decide +kernel
theorem dX0_init_11 : decode cX0_init 11 = .ok (.aload_n 0, 1) := by decide +kernel
theorem dX0_init_12 : decode cX0_init 12 = .ok (.iload 6, 2) := by decide +kernel
theorem dX0_init_14 : decode cX0_init 14 = .ok (.putfield 9, 3) := by decide +kernel
theorem dX0_init_17 : decode cX0_init 17 = .ok (.return_, 1) := by decide +kernel
theorem dX0_ownKind_0 : decode cX0_ownKind 0 = .ok (.iconst 3, 1) := by decide +kernel
theorem dX0_ownKind_1 : decode cX0_ownKind 1 = .ok (.ireturn, 1) := by decide +kernel
theorem dX0_cost_0 : decode cX0_cost 0 = .ok (.aload_n 1, 1) := by decide +kernel
theorem dX0_cost_1 : decode cX0_cost 1 = .ok (.bipush 13, 2) := by decide +kernel
theorem dX0_cost_3 : decode cX0_cost 3 = .ok (.invokevirtual 15, 3) := by decide +kernel
theorem dX0_cost_6 : decode cX0_cost 6 = .ok (.aload_n 0, 1) := by decide +kernel
theorem dX0_cost_7 : decode cX0_cost 7 = .ok (.aload_n 1, 1) := by decide +kernel
theorem dX0_cost_8 : decode cX0_cost 8 = .ok (.invokespecial 19, 3) := by decide +kernel
theorem dX0_cost_11 : decode cX0_cost 11 = .ok (.istore_n 2, 1) := by decide +kernel
theorem dX0_cost_12 : decode cX0_cost 12 = .ok (.iload_n 2, 1) := by decide +kernel
theorem dX0_cost_13 : decode cX0_cost 13 = .ok (.aload_n 0, 1) := by decide +kernel
theorem dX0_cost_14 : decode cX0_cost 14 = .ok (.aload_n 1, 1) := by decide +kernel
theorem dX0_cost_15 : decode cX0_cost 15 = .ok (.invokevirtual 23, 3) := by decide +kernel
theorem dX0_cost_18 : decode cX0_cost 18 = .ok (.iadd, 1) := by decide +kernel
theorem dX0_cost_19 : decode cX0_cost 19 = .ok (.ireturn, 1) := by decide +kernel
theorem dX0_mark_0 : decode cX0_mark 0 = .ok (.aload_n 1, 1) := by decide +kernel
theorem dX0_mark_1 : decode cX0_mark 1 = .ok (.bipush 23, 2) := by decide +kernel
theorem dX0_mark_3 : decode cX0_mark 3 = .ok (.invokevirtual 15, 3) := by decide +kernel
theorem dX0_mark_6 : decode cX0_mark 6 = .ok (.aload_n 0, 1) := by decide +kernel
theorem dX0_mark_7 : decode cX0_mark 7 = .ok (.getfield 9, 3) := by decide +kernel
theorem dX0_mark_10 : decode cX0_mark 10 = .ok (.ireturn, 1) := by decide +kernel
theorem dX0_perform_0 : decode cX0_perform 0 = .ok (.aload_n 1, 1) := by decide +kernel
theorem dX0_perform_1 : decode cX0_perform 1 = .ok (.aload_n 0, 1) := by decide +kernel
theorem dX0_perform_2 : decode cX0_perform 2 = .ok (.getfield 9, 3) := by decide +kernel
theorem dX0_perform_5 : decode cX0_perform 5 = .ok (.invokevirtual 26, 3) := by decide +kernel
theorem dX0_perform_8 : decode cX0_perform 8 = .ok (.astore_n 2, 1) := by decide +kernel
theorem dX0_perform_9 : decode cX0_perform 9 = .ok (.aload_n 2, 1) := by decide +kernel
theorem dX0_perform_10 : decode cX0_perform 10 = .ok (.ifnull 10, 3) := by decide +kernel
theorem dX0_perform_13 : decode cX0_perform 13 = .ok (.aload_n 2, 1) := by decide +kernel
theorem dX0_perform_14 : decode cX0_perform 14 = .ok (.getfield 30, 3) := by decide +kernel
theorem dX0_perform_17 : decode cX0_perform 17 = .ok (.ifCond .eq 5, 3) := by decide +kernel
theorem dX0_perform_20 : decode cX0_perform 20 = .ok (.iconst 1, 1) := by decide +kernel
theorem dX0_perform_21 : decode cX0_perform 21 = .ok (.ireturn, 1) := by decide +kernel
theorem dX0_perform_22 : decode cX0_perform 22 = .ok (.aload_n 0, 1) := by decide +kernel
theorem dX0_perform_23 : decode cX0_perform 23 = .ok (.getfield 36, 3) := by decide +kernel
theorem dX0_perform_26 : decode cX0_perform 26 = .ok (.ifnonnull 7, 3) := by decide +kernel
theorem dX0_perform_29 : decode cX0_perform 29 = .ok (.iconst 0, 1) := by decide +kernel
theorem dX0_perform_30 : decode cX0_perform 30 = .ok (.goto 10, 3) := by decide +kernel
theorem dX0_perform_33 : decode cX0_perform 33 = .ok (.aload_n 0, 1) := by decide +kernel
theorem dX0_perform_34 : decode cX0_perform 34 = .ok (.getfield 36, 3) := by decide +kernel
theorem dX0_perform_37 : decode cX0_perform 37 = .ok (.getfield 40, 3) := by decide +kernel
theorem dX0_perform_40 : decode cX0_perform 40 = .ok (.istore_n 3, 1) := by decide +kernel
theorem dX0_perform_41 : decode cX0_perform 41 = .ok (.aload_n 2, 1) := by decide +kernel
theorem dX0_perform_42 : decode cX0_perform 42 = .ok (.iload_n 3, 1) := by decide +kernel
theorem dX0_perform_43 : decode cX0_perform 43 = .ok (.iconst 1, 1) := by decide +kernel
theorem dX0_perform_44 : decode cX0_perform 44 = .ok (.invokevirtual 45, 3) := by decide +kernel
theorem dX0_perform_47 : decode cX0_perform 47 = .ok (.ifCond .ne 5, 3) := by decide +kernel
theorem dX0_perform_50 : decode cX0_perform 50 = .ok (.iconst 2, 1) := by decide +kernel
theorem dX0_perform_51 : decode cX0_perform 51 = .ok (.ireturn, 1) := by decide +kernel
theorem dX0_perform_52 : decode cX0_perform 52 = .ok (.aload_n 0, 1) := by decide +kernel
theorem dX0_perform_53 : decode cX0_perform 53 = .ok (.aload_n 1, 1) := by decide +kernel
theorem dX0_perform_54 : decode cX0_perform 54 = .ok (.aload_n 0, 1) := by decide +kernel
theorem dX0_perform_55 : decode cX0_perform 55 = .ok (.getfield 49, 3) := by decide +kernel
theorem dX0_perform_58 : decode cX0_perform 58 = .ok (.aload_n 2, 1) := by decide +kernel
theorem dX0_perform_59 : decode cX0_perform 59 = .ok (.getfield 52, 3) := by decide +kernel
theorem dX0_perform_62 : decode cX0_perform 62 = .ok (.iload_n 3, 1) := by decide +kernel
theorem dX0_perform_63 : decode cX0_perform 63 = .ok (.iaload, 1) := by decide +kernel
theorem dX0_perform_64 : decode cX0_perform 64 = .ok (.iadd, 1) := by decide +kernel
theorem dX0_perform_65 : decode cX0_perform 65 = .ok (.iconst 3, 1) := by decide +kernel
theorem dX0_perform_66 : decode cX0_perform 66 = .ok (.iand, 1) := by decide +kernel
theorem dX0_perform_67 : decode cX0_perform 67 = .ok (.invokevirtual 56, 3) := by decide +kernel
theorem dX0_perform_70 : decode cX0_perform 70 = .ok (.ireturn, 1) := by decide +kernel
theorem dX1_init_0 : decode cX1_init 0 = .ok (.aload_n 0, 1) := by decide +kernel
theorem dX1_init_1 : decode cX1_init 1 = .ok (.iload_n 1, 1) := by decide +kernel
theorem dX1_init_2 : decode cX1_init 2 = .ok (.aload_n 2, 1) := by decide +kernel
theorem dX1_init_3 : decode cX1_init 3 = .ok (.invokespecial 3, 3) := by decide +kernel
theorem dX1_init_6 : decode cX1_init 6 = .ok (.aload_n 0, 1) := by decide +kernel
theorem dX1_init_7 : decode cX1_init 7 = .ok (.iload_n 3, 1) := by decide +kernel
theorem dX1_init_8 : decode cX1_init 8 = .ok (.putfield 9, 3) := by decide +kernel
theorem dX1_init_11 : decode cX1_init 11 = .ok (.aload_n 0, 1) := by decide +kernel
theorem dX1_init_12 : decode cX1_init 12 = .ok (.iload 4, 2) := by decide +kernel
theorem dX1_init_14 : decode cX1_init 14 = .ok (.putfield 15, 3) := by decide +kernel
theorem dX1_init_17 : decode cX1_init 17 = .ok (.aload_n 0, 1) := by decide +kernel
theorem dX1_init_18 : decode cX1_init 18 = .ok (.iload 5, 2) := by decide +kernel
theorem dX1_init_20 : decode cX1_init 20 = .ok (.putfield 18, 3) := by decide +kernel
theorem dX1_init_23 : decode cX1_init 23 = .ok (.return_, 1) := by decide +kernel
theorem dX1_ownKind_0 : decode cX1_ownKind 0 = .ok (.iconst 4, 1) := by decide +kernel
theorem dX1_ownKind_1 : decode cX1_ownKind 1 = .ok (.ireturn, 1) := by decide +kernel
theorem dX1_mark_0 : decode cX1_mark 0 = .ok (.aload_n 1, 1) := by decide +kernel
theorem dX1_mark_1 : decode cX1_mark 1 = .ok (.bipush 22, 2) := by decide +kernel
theorem dX1_mark_3 : decode cX1_mark 3 = .ok (.invokevirtual 21, 3) := by decide +kernel
theorem dX1_mark_6 : decode cX1_mark 6 = .ok (.aload_n 0, 1) := by decide +kernel
theorem dX1_mark_7 : decode cX1_mark 7 = .ok (.aload_n 1, 1) := by decide +kernel
theorem dX1_mark_8 : decode cX1_mark 8 = .ok (.invokespecial 25, 3) := by decide +kernel
theorem dX1_mark_11 : decode cX1_mark 11 = .ok (.aload_n 0, 1) := by decide +kernel
theorem dX1_mark_12 : decode cX1_mark 12 = .ok (.getfield 15, 3) := by decide +kernel
theorem dX1_mark_15 : decode cX1_mark 15 = .ok (.iadd, 1) := by decide +kernel
theorem dX1_mark_16 : decode cX1_mark 16 = .ok (.ireturn, 1) := by decide +kernel
theorem dX1_perform_0 : decode cX1_perform 0 = .ok (.aload_n 1, 1) := by decide +kernel
theorem dX1_perform_1 : decode cX1_perform 1 = .ok (.aload_n 0, 1) := by decide +kernel
theorem dX1_perform_2 : decode cX1_perform 2 = .ok (.getfield 9, 3) := by decide +kernel
theorem dX1_perform_5 : decode cX1_perform 5 = .ok (.aload_n 0, 1) := by decide +kernel
theorem dX1_perform_6 : decode cX1_perform 6 = .ok (.getfield 15, 3) := by decide +kernel
theorem dX1_perform_9 : decode cX1_perform 9 = .ok (.aload_n 0, 1) := by decide +kernel
theorem dX1_perform_10 : decode cX1_perform 10 = .ok (.getfield 18, 3) := by decide +kernel
theorem dX1_perform_13 : decode cX1_perform 13 = .ok (.invokevirtual 29, 3) := by decide +kernel
theorem dX1_perform_16 : decode cX1_perform 16 = .ok (.ifCond .eq 7, 3) := by decide +kernel
theorem dX1_perform_19 : decode cX1_perform 19 = .ok (.iconst 0, 1) := by decide +kernel
theorem dX1_perform_20 : decode cX1_perform 20 = .ok (.goto 5, 3) := by decide +kernel
theorem dX1_perform_23 : decode cX1_perform 23 = .ok (.ldc 33, 2) := by decide +kernel
theorem dX1_perform_25 : decode cX1_perform 25 = .ok (.ireturn, 1) := by decide +kernel
theorem dX2_init_0 : decode cX2_init 0 = .ok (.aload_n 0, 1) := by decide +kernel
theorem dX2_init_1 : decode cX2_init 1 = .ok (.iload_n 1, 1) := by decide +kernel
theorem dX2_init_2 : decode cX2_init 2 = .ok (.aload_n 2, 1) := by decide +kernel
theorem dX2_init_3 : decode cX2_init 3 = .ok (.invokespecial 3, 3) := by decide +kernel
theorem dX2_init_6 : decode cX2_init 6 = .ok (.return_, 1) := by decide +kernel
theorem dX2_ownKind_0 : decode cX2_ownKind 0 = .ok (.bipush 6, 2) := by decide +kernel
theorem dX2_ownKind_2 : decode cX2_ownKind 2 = .ok (.ireturn, 1) := by decide +kernel
theorem dX2_perform_0 : decode cX2_perform 0 = .ok (.aload_n 0, 1) := by decide +kernel
theorem dX2_perform_1 : decode cX2_perform 1 = .ok (.getfield 9, 3) := by decide +kernel
theorem dX2_perform_4 : decode cX2_perform 4 = .ok (.ifnull 46, 3) := by decide +kernel
theorem dX2_perform_7 : decode cX2_perform 7 = .ok (.aload_n 0, 1) := by decide +kernel
theorem dX2_perform_8 : decode cX2_perform 8 = .ok (.getfield 9, 3) := by decide +kernel
theorem dX2_perform_11 : decode cX2_perform 11 = .ok (.dup, 1) := by decide +kernel
theorem dX2_perform_12 : decode cX2_perform 12 = .ok (.getfield 15, 3) := by decide +kernel
theorem dX2_perform_15 : decode cX2_perform 15 = .ok (.iconst 1, 1) := by decide +kernel
theorem dX2_perform_16 : decode cX2_perform 16 = .ok (.iadd, 1) := by decide +kernel
theorem dX2_perform_17 : decode cX2_perform 17 = .ok (.putfield 15, 3) := by decide +kernel
theorem dX2_perform_20 : decode cX2_perform 20 = .ok (.aload_n 0, 1) := by decide +kernel
theorem dX2_perform_21 : decode cX2_perform 21 = .ok (.getfield 9, 3) := by decide +kernel
theorem dX2_perform_24 : decode cX2_perform 24 = .ok (.getfield 15, 3) := by decide +kernel
theorem dX2_perform_27 : decode cX2_perform 27 = .ok (.aload_n 0, 1) := by decide +kernel
theorem dX2_perform_28 : decode cX2_perform 28 = .ok (.getfield 9, 3) := by decide +kernel
theorem dX2_perform_31 : decode cX2_perform 31 = .ok (.getfield 21, 3) := by decide +kernel
theorem dX2_perform_34 : decode cX2_perform 34 = .ok (.if_icmp .ge 16, 3) := by decide +kernel
theorem dX2_perform_37 : decode cX2_perform 37 = .ok (.aload_n 1, 1) := by decide +kernel
theorem dX2_perform_38 : decode cX2_perform 38 = .ok (.aload_n 0, 1) := by decide +kernel
theorem dX2_perform_39 : decode cX2_perform 39 = .ok (.getfield 9, 3) := by decide +kernel
theorem dX2_perform_42 : decode cX2_perform 42 = .ok (.getfield 24, 3) := by decide +kernel
theorem dX2_perform_45 : decode cX2_perform 45 = .ok (.iconst 1, 1) := by decide +kernel
theorem dX2_perform_46 : decode cX2_perform 46 = .ok (.iadd, 1) := by decide +kernel
theorem dX2_perform_47 : decode cX2_perform 47 = .ok (.putfield 27, 3) := by decide +kernel
theorem dX2_perform_50 : decode cX2_perform 50 = .ok (.iconst 0, 1) := by decide +kernel
theorem dX2_perform_51 : decode cX2_perform 51 = .ok (.ireturn, 1) := by decide +kernel
theorem dX3_init_0 : decode cX3_init 0 = .ok (.aload_n 0, 1) := by decide +kernel
theorem dX3_init_1 : decode cX3_init 1 = .ok (.iload_n 1, 1) := by decide +kernel
theorem dX3_init_2 : decode cX3_init 2 = .ok (.aload_n 2, 1) := by decide +kernel
theorem dX3_init_3 : decode cX3_init 3 = .ok (.invokespecial 3, 3) := by decide +kernel
theorem dX3_init_6 : decode cX3_init 6 = .ok (.return_, 1) := by decide +kernel
theorem dX3_isOfKind_0 : decode cX3_isOfKind 0 = .ok (.iload_n 1, 1) := by decide +kernel
theorem dX3_isOfKind_1 : decode cX3_isOfKind 1 = .ok (.iconst 1, 1) := by decide +kernel
theorem dX3_isOfKind_2 : decode cX3_isOfKind 2 = .ok (.if_icmp .eq 11, 3) := by decide +kernel
theorem dX3_isOfKind_5 : decode cX3_isOfKind 5 = .ok (.aload_n 0, 1) := by decide +kernel
theorem dX3_isOfKind_6 : decode cX3_isOfKind 6 = .ok (.iload_n 1, 1) := by decide +kernel
theorem dX3_isOfKind_7 : decode cX3_isOfKind 7 = .ok (.invokespecial 9, 3) := by decide +kernel
theorem dX3_isOfKind_10 : decode cX3_isOfKind 10 = .ok (.ifCond .eq 7, 3) := by decide +kernel
theorem dX3_isOfKind_13 : decode cX3_isOfKind 13 = .ok (.iconst 1, 1) := by decide +kernel
theorem dX3_isOfKind_14 : decode cX3_isOfKind 14 = .ok (.goto 4, 3) := by decide +kernel
theorem dX3_isOfKind_17 : decode cX3_isOfKind 17 = .ok (.iconst 0, 1) := by decide +kernel
theorem dX3_isOfKind_18 : decode cX3_isOfKind 18 = .ok (.ireturn, 1) := by decide +kernel
theorem dX3_cost_0 : decode cX3_cost 0 = .ok (.aload_n 1, 1) := by decide +kernel
theorem dX3_cost_1 : decode cX3_cost 1 = .ok (.bipush 11, 2) := by decide +kernel
theorem dX3_cost_3 : decode cX3_cost 3 = .ok (.invokevirtual 13, 3) := by decide +kernel
theorem dX3_cost_6 : decode cX3_cost 6 = .ok (.aload_n 0, 1) := by decide +kernel
theorem dX3_cost_7 : decode cX3_cost 7 = .ok (.aload_n 1, 1) := by decide +kernel
theorem dX3_cost_8 : decode cX3_cost 8 = .ok (.invokespecial 17, 3) := by decide +kernel
theorem dX3_cost_11 : decode cX3_cost 11 = .ok (.iconst 1, 1) := by decide +kernel
theorem dX3_cost_12 : decode cX3_cost 12 = .ok (.iadd, 1) := by decide +kernel
theorem dX3_cost_13 : decode cX3_cost 13 = .ok (.ireturn, 1) := by decide +kernel
theorem dX3_mark_0 : decode cX3_mark 0 = .ok (.aload_n 1, 1) := by decide +kernel
theorem dX3_mark_1 : decode cX3_mark 1 = .ok (.bipush 21, 2) := by decide +kernel
theorem dX3_mark_3 : decode cX3_mark 3 = .ok (.invokevirtual 13, 3) := by decide +kernel
theorem dX3_mark_6 : decode cX3_mark 6 = .ok (.aload_n 0, 1) := by decide +kernel
theorem dX3_mark_7 : decode cX3_mark 7 = .ok (.aload_n 1, 1) := by decide +kernel
theorem dX3_mark_8 : decode cX3_mark 8 = .ok (.invokespecial 21, 3) := by decide +kernel
theorem dX3_mark_11 : decode cX3_mark 11 = .ok (.istore_n 2, 1) := by decide +kernel
theorem dX3_mark_12 : decode cX3_mark 12 = .ok (.iload_n 2, 1) := by decide +kernel
theorem dX3_mark_13 : decode cX3_mark 13 = .ok (.aload_n 0, 1) := by decide +kernel
theorem dX3_mark_14 : decode cX3_mark 14 = .ok (.aload_n 1, 1) := by decide +kernel
theorem dX3_mark_15 : decode cX3_mark 15 = .ok (.invokevirtual 24, 3) := by decide +kernel
theorem dX3_mark_18 : decode cX3_mark 18 = .ok (.iadd, 1) := by decide +kernel
theorem dX3_mark_19 : decode cX3_mark 19 = .ok (.ireturn, 1) := by decide +kernel
theorem dX4_init_0 : decode cX4_init 0 = .ok (.aload_n 0, 1) := by decide +kernel
theorem dX4_init_1 : decode cX4_init 1 = .ok (.invokespecial 5, 3) := by decide +kernel
theorem dX4_init_4 : decode cX4_init 4 = .ok (.aload_n 0, 1) := by decide +kernel
theorem dX4_init_5 : decode cX4_init 5 = .ok (.sipush 900, 3) := by decide +kernel
theorem dX4_init_8 : decode cX4_init 8 = .ok (.newarray .int, 2) := by decide +kernel
theorem dX4_init_10 : decode cX4_init 10 = .ok (.putfield 11, 3) := by decide +kernel
theorem dX4_init_13 : decode cX4_init 13 = .ok (.aload_n 0, 1) := by decide +kernel
theorem dX4_init_14 : decode cX4_init 14 = .ok (.sipush 900, 3) := by decide +kernel
theorem dX4_init_17 : decode cX4_init 17 = .ok (.newarray .long, 2) := by decide +kernel
theorem dX4_init_19 : decode cX4_init 19 = .ok (.putfield 15, 3) := by decide +kernel
theorem dX4_init_22 : decode cX4_init 22 = .ok (.aload_n 0, 1) := by decide +kernel
theorem dX4_init_23 : decode cX4_init 23 = .ok (.sipush 900, 3) := by decide +kernel
theorem dX4_init_26 : decode cX4_init 26 = .ok (.newarray .int, 2) := by decide +kernel
theorem dX4_init_28 : decode cX4_init 28 = .ok (.putfield 19, 3) := by decide +kernel
theorem dX4_init_31 : decode cX4_init 31 = .ok (.aload_n 0, 1) := by decide +kernel
theorem dX4_init_32 : decode cX4_init 32 = .ok (.sipush 900, 3) := by decide +kernel
theorem dX4_init_35 : decode cX4_init 35 = .ok (.newarray .long, 2) := by decide +kernel
theorem dX4_init_37 : decode cX4_init 37 = .ok (.putfield 22, 3) := by decide +kernel
theorem dX4_init_40 : decode cX4_init 40 = .ok (.aload_n 0, 1) := by decide +kernel
theorem dX4_init_41 : decode cX4_init 41 = .ok (.sipush 2048, 3) := by decide +kernel
theorem dX4_init_44 : decode cX4_init 44 = .ok (.newarray .int, 2) := by decide +kernel
theorem dX4_init_46 : decode cX4_init 46 = .ok (.putfield 25, 3) := by decide +kernel
theorem dX4_init_49 : decode cX4_init 49 = .ok (.aload_n 0, 1) := by decide +kernel
theorem dX4_init_50 : decode cX4_init 50 = .ok (.sipush 900, 3) := by decide +kernel
theorem dX4_init_53 : decode cX4_init 53 = .ok (.newarray .int, 2) := by decide +kernel
theorem dX4_init_55 : decode cX4_init 55 = .ok (.putfield 28, 3) := by decide +kernel
theorem dX4_init_58 : decode cX4_init 58 = .ok (.return_, 1) := by decide +kernel
theorem dX4_begin_0 : decode cX4_begin 0 = .ok (.iconst 0, 1) := by decide +kernel
theorem dX4_begin_1 : decode cX4_begin 1 = .ok (.istore_n 1, 1) := by decide +kernel
theorem dX4_begin_2 : decode cX4_begin 2 = .ok (.iload_n 1, 1) := by decide +kernel
theorem dX4_begin_3 : decode cX4_begin 3 = .ok (.aload_n 0, 1) := by decide +kernel
theorem dX4_begin_4 : decode cX4_begin 4 = .ok (.getfield 31, 3) := by decide +kernel
theorem dX4_begin_7 : decode cX4_begin 7 = .ok (.if_icmp .ge 21, 3) := by decide +kernel
theorem dX4_begin_10 : decode cX4_begin 10 = .ok (.aload_n 0, 1) := by decide +kernel
theorem dX4_begin_11 : decode cX4_begin 11 = .ok (.getfield 25, 3) := by decide +kernel
theorem dX4_begin_14 : decode cX4_begin 14 = .ok (.aload_n 0, 1) := by decide +kernel
theorem dX4_begin_15 : decode cX4_begin 15 = .ok (.getfield 28, 3) := by decide +kernel
theorem dX4_begin_18 : decode cX4_begin 18 = .ok (.iload_n 1, 1) := by decide +kernel
theorem dX4_begin_19 : decode cX4_begin 19 = .ok (.iaload, 1) := by decide +kernel
theorem dX4_begin_20 : decode cX4_begin 20 = .ok (.iconst 0, 1) := by decide +kernel
theorem dX4_begin_21 : decode cX4_begin 21 = .ok (.iastore, 1) := by decide +kernel
theorem dX4_begin_22 : decode cX4_begin 22 = .ok (.iinc 1 1, 3) := by decide +kernel
theorem dX4_begin_25 : decode cX4_begin 25 = .ok (.goto (-23), 3) := by decide +kernel
theorem dX4_begin_28 : decode cX4_begin 28 = .ok (.aload_n 0, 1) := by decide +kernel
theorem dX4_begin_29 : decode cX4_begin 29 = .ok (.iconst 0, 1) := by decide +kernel
theorem dX4_begin_30 : decode cX4_begin 30 = .ok (.putfield 31, 3) := by decide +kernel
theorem dX4_begin_33 : decode cX4_begin 33 = .ok (.aload_n 0, 1) := by decide +kernel
theorem dX4_begin_34 : decode cX4_begin 34 = .ok (.iconst 0, 1) := by decide +kernel
theorem dX4_begin_35 : decode cX4_begin 35 = .ok (.putfield 35, 3) := by decide +kernel
theorem dX4_begin_38 : decode cX4_begin 38 = .ok (.return_, 1) := by decide +kernel
theorem dX4_put_0 : decode cX4_put 0 = .ok (.iload_n 1, 1) := by decide +kernel
theorem dX4_put_1 : decode cX4_put 1 = .ok (.ldc 38, 2) := by decide +kernel
theorem dX4_put_3 : decode cX4_put 3 = .ok (.imul, 1) := by decide +kernel
theorem dX4_put_4 : decode cX4_put 4 = .ok (.bipush 21, 2) := by decide +kernel
theorem dX4_put_6 : decode cX4_put 6 = .ok (.iushr, 1) := by decide +kernel
theorem dX4_put_7 : decode cX4_put 7 = .ok (.istore 4, 2) := by decide +kernel
theorem dX4_put_9 : decode cX4_put 9 = .ok (.iconst 0, 1) := by decide +kernel
theorem dX4_put_10 : decode cX4_put 10 = .ok (.istore 5, 2) := by decide +kernel
theorem dX4_put_12 : decode cX4_put 12 = .ok (.iload 5, 2) := by decide +kernel
theorem dX4_put_14 : decode cX4_put 14 = .ok (.sipush 2048, 3) := by decide +kernel
theorem dX4_put_17 : decode cX4_put 17 = .ok (.if_icmp .ge 67, 3) := by decide +kernel
theorem dX4_put_20 : decode cX4_put 20 = .ok (.aload_n 0, 1) := by decide +kernel
theorem dX4_put_21 : decode cX4_put 21 = .ok (.getfield 25, 3) := by decide +kernel
theorem dX4_put_24 : decode cX4_put 24 = .ok (.iload 4, 2) := by decide +kernel
theorem dX4_put_26 : decode cX4_put 26 = .ok (.iaload, 1) := by decide +kernel
theorem dX4_put_27 : decode cX4_put 27 = .ok (.iconst 1, 1) := by decide +kernel
theorem dX4_put_28 : decode cX4_put 28 = .ok (.isub, 1) := by decide +kernel
theorem dX4_put_29 : decode cX4_put 29 = .ok (.istore 6, 2) := by decide +kernel
theorem dX4_put_31 : decode cX4_put 31 = .ok (.iload 6, 2) := by decide +kernel
theorem dX4_put_33 : decode cX4_put 33 = .ok (.ifCond .ge 12, 3) := by decide +kernel
theorem dX4_put_36 : decode cX4_put 36 = .ok (.aload_n 0, 1) := by decide +kernel
theorem dX4_put_37 : decode cX4_put 37 = .ok (.iload 4, 2) := by decide +kernel
theorem dX4_put_39 : decode cX4_put 39 = .ok (.iload_n 1, 1) := by decide +kernel
theorem dX4_put_40 : decode cX4_put 40 = .ok (.lload_n 2, 1) := by decide +kernel
theorem dX4_put_41 : decode cX4_put 41 = .ok (.invokevirtual 39, 3) := by decide +kernel
theorem dX4_put_44 : decode cX4_put 44 = .ok (.return_, 1) := by decide +kernel
theorem dX4_put_45 : decode cX4_put 45 = .ok (.aload_n 0, 1) := by decide +kernel
theorem dX4_put_46 : decode cX4_put 46 = .ok (.getfield 11, 3) := by decide +kernel
theorem dX4_put_49 : decode cX4_put 49 = .ok (.iload 6, 2) := by decide +kernel
theorem dX4_put_51 : decode cX4_put 51 = .ok (.iaload, 1) := by decide +kernel
theorem dX4_put_52 : decode cX4_put 52 = .ok (.iload_n 1, 1) := by decide +kernel
theorem dX4_put_53 : decode cX4_put 53 = .ok (.if_icmp .ne 15, 3) := by decide +kernel
theorem dX4_put_56 : decode cX4_put 56 = .ok (.aload_n 0, 1) := by decide +kernel
theorem dX4_put_57 : decode cX4_put 57 = .ok (.getfield 15, 3) := by decide +kernel
theorem dX4_put_60 : decode cX4_put 60 = .ok (.iload 6, 2) := by decide +kernel
theorem dX4_put_62 : decode cX4_put 62 = .ok (.dup2, 1) := by decide +kernel
theorem dX4_put_63 : decode cX4_put 63 = .ok (.laload, 1) := by decide +kernel
theorem dX4_put_64 : decode cX4_put 64 = .ok (.lload_n 2, 1) := by decide +kernel
theorem dX4_put_65 : decode cX4_put 65 = .ok (.ladd, 1) := by decide +kernel
theorem dX4_put_66 : decode cX4_put 66 = .ok (.lastore, 1) := by decide +kernel
theorem dX4_put_67 : decode cX4_put 67 = .ok (.return_, 1) := by decide +kernel
theorem dX4_put_68 : decode cX4_put 68 = .ok (.iload 4, 2) := by decide +kernel
theorem dX4_put_70 : decode cX4_put 70 = .ok (.iconst 1, 1) := by decide +kernel
theorem dX4_put_71 : decode cX4_put 71 = .ok (.iadd, 1) := by decide +kernel
theorem dX4_put_72 : decode cX4_put 72 = .ok (.sipush 2047, 3) := by decide +kernel
theorem dX4_put_75 : decode cX4_put 75 = .ok (.iand, 1) := by decide +kernel
theorem dX4_put_76 : decode cX4_put 76 = .ok (.istore 4, 2) := by decide +kernel
theorem dX4_put_78 : decode cX4_put 78 = .ok (.iinc 5 1, 3) := by decide +kernel
theorem dX4_put_81 : decode cX4_put 81 = .ok (.goto (-69), 3) := by decide +kernel
theorem dX4_put_84 : decode cX4_put 84 = .ok (.return_, 1) := by decide +kernel
theorem dX4_enter_0 : decode cX4_enter 0 = .ok (.aload_n 0, 1) := by decide +kernel
theorem dX4_enter_1 : decode cX4_enter 1 = .ok (.getfield 35, 3) := by decide +kernel
theorem dX4_enter_4 : decode cX4_enter 4 = .ok (.sipush 900, 3) := by decide +kernel
theorem dX4_enter_7 : decode cX4_enter 7 = .ok (.if_icmp .ge 13, 3) := by decide +kernel
theorem dX4_enter_10 : decode cX4_enter 10 = .ok (.aload_n 0, 1) := by decide +kernel
theorem dX4_enter_11 : decode cX4_enter 11 = .ok (.getfield 31, 3) := by decide +kernel
theorem dX4_enter_14 : decode cX4_enter 14 = .ok (.sipush 900, 3) := by decide +kernel
theorem dX4_enter_17 : decode cX4_enter 17 = .ok (.if_icmp .lt 4, 3) := by decide +kernel
theorem dX4_enter_20 : decode cX4_enter 20 = .ok (.return_, 1) := by decide +kernel
theorem dX4_enter_21 : decode cX4_enter 21 = .ok (.aload_n 0, 1) := by decide +kernel
theorem dX4_enter_22 : decode cX4_enter 22 = .ok (.getfield 28, 3) := by decide +kernel
theorem dX4_enter_25 : decode cX4_enter 25 = .ok (.aload_n 0, 1) := by decide +kernel
theorem dX4_enter_26 : decode cX4_enter 26 = .ok (.getfield 31, 3) := by decide +kernel
theorem dX4_enter_29 : decode cX4_enter 29 = .ok (.iload_n 1, 1) := by decide +kernel
theorem dX4_enter_30 : decode cX4_enter 30 = .ok (.iastore, 1) := by decide +kernel
theorem dX4_enter_31 : decode cX4_enter 31 = .ok (.aload_n 0, 1) := by decide +kernel
theorem dX4_enter_32 : decode cX4_enter 32 = .ok (.dup, 1) := by decide +kernel
theorem dX4_enter_33 : decode cX4_enter 33 = .ok (.getfield 31, 3) := by decide +kernel
theorem dX4_enter_36 : decode cX4_enter 36 = .ok (.iconst 1, 1) := by decide +kernel
theorem dX4_enter_37 : decode cX4_enter 37 = .ok (.iadd, 1) := by decide +kernel
theorem dX4_enter_38 : decode cX4_enter 38 = .ok (.putfield 31, 3) := by decide +kernel
theorem dX4_enter_41 : decode cX4_enter 41 = .ok (.aload_n 0, 1) := by decide +kernel
theorem dX4_enter_42 : decode cX4_enter 42 = .ok (.getfield 11, 3) := by decide +kernel
theorem dX4_enter_45 : decode cX4_enter 45 = .ok (.aload_n 0, 1) := by decide +kernel
theorem dX4_enter_46 : decode cX4_enter 46 = .ok (.getfield 35, 3) := by decide +kernel
theorem dX4_enter_49 : decode cX4_enter 49 = .ok (.iload_n 2, 1) := by decide +kernel
theorem dX4_enter_50 : decode cX4_enter 50 = .ok (.iastore, 1) := by decide +kernel
theorem dX4_enter_51 : decode cX4_enter 51 = .ok (.aload_n 0, 1) := by decide +kernel
theorem dX4_enter_52 : decode cX4_enter 52 = .ok (.getfield 15, 3) := by decide +kernel
theorem dX4_enter_55 : decode cX4_enter 55 = .ok (.aload_n 0, 1) := by decide +kernel
theorem dX4_enter_56 : decode cX4_enter 56 = .ok (.getfield 35, 3) := by decide +kernel
theorem dX4_enter_59 : decode cX4_enter 59 = .ok (.lload_n 3, 1) := by decide +kernel
theorem dX4_enter_60 : decode cX4_enter 60 = .ok (.lastore, 1) := by decide +kernel
theorem dX4_enter_61 : decode cX4_enter 61 = .ok (.aload_n 0, 1) := by decide +kernel
theorem dX4_enter_62 : decode cX4_enter 62 = .ok (.dup, 1) := by decide +kernel
theorem dX4_enter_63 : decode cX4_enter 63 = .ok (.getfield 35, 3) := by decide +kernel
theorem dX4_enter_66 : decode cX4_enter 66 = .ok (.iconst 1, 1) := by decide +kernel
theorem dX4_enter_67 : decode cX4_enter 67 = .ok (.iadd, 1) := by decide +kernel
theorem dX4_enter_68 : decode cX4_enter 68 = .ok (.putfield 35, 3) := by decide +kernel
theorem dX4_enter_71 : decode cX4_enter 71 = .ok (.aload_n 0, 1) := by decide +kernel
theorem dX4_enter_72 : decode cX4_enter 72 = .ok (.getfield 25, 3) := by decide +kernel
theorem dX4_enter_75 : decode cX4_enter 75 = .ok (.iload_n 1, 1) := by decide +kernel
theorem dX4_enter_76 : decode cX4_enter 76 = .ok (.aload_n 0, 1) := by decide +kernel
theorem dX4_enter_77 : decode cX4_enter 77 = .ok (.getfield 35, 3) := by decide +kernel
theorem dX4_enter_80 : decode cX4_enter 80 = .ok (.iastore, 1) := by decide +kernel
theorem dX4_enter_81 : decode cX4_enter 81 = .ok (.return_, 1) := by decide +kernel
theorem dX4_putSum_0 : decode cX4_putSum 0 = .ok (.iconst 0, 1) := by decide +kernel
theorem dX4_putSum_1 : decode cX4_putSum 1 = .ok (.istore_n 3, 1) := by decide +kernel
theorem dX4_putSum_2 : decode cX4_putSum 2 = .ok (.iload_n 3, 1) := by decide +kernel
theorem dX4_putSum_3 : decode cX4_putSum 3 = .ok (.aload_n 1, 1) := by decide +kernel
theorem dX4_putSum_4 : decode cX4_putSum 4 = .ok (.getfield 43, 3) := by decide +kernel
theorem dX4_putSum_7 : decode cX4_putSum 7 = .ok (.if_icmp .ge 28, 3) := by decide +kernel
theorem dX4_putSum_10 : decode cX4_putSum 10 = .ok (.aload_n 0, 1) := by decide +kernel
theorem dX4_putSum_11 : decode cX4_putSum 11 = .ok (.aload_n 1, 1) := by decide +kernel
theorem dX4_putSum_12 : decode cX4_putSum 12 = .ok (.getfield 46, 3) := by decide +kernel
theorem dX4_putSum_15 : decode cX4_putSum 15 = .ok (.iload_n 3, 1) := by decide +kernel
theorem dX4_putSum_16 : decode cX4_putSum 16 = .ok (.iaload, 1) := by decide +kernel
theorem dX4_putSum_17 : decode cX4_putSum 17 = .ok (.aload_n 1, 1) := by decide +kernel
theorem dX4_putSum_18 : decode cX4_putSum 18 = .ok (.getfield 47, 3) := by decide +kernel
theorem dX4_putSum_21 : decode cX4_putSum 21 = .ok (.iload_n 3, 1) := by decide +kernel
theorem dX4_putSum_22 : decode cX4_putSum 22 = .ok (.laload, 1) := by decide +kernel
theorem dX4_putSum_23 : decode cX4_putSum 23 = .ok (.iload_n 2, 1) := by decide +kernel
theorem dX4_putSum_24 : decode cX4_putSum 24 = .ok (.i2l, 1) := by decide +kernel
theorem dX4_putSum_25 : decode cX4_putSum 25 = .ok (.lmul, 1) := by decide +kernel
theorem dX4_putSum_26 : decode cX4_putSum 26 = .ok (.invokevirtual 48, 3) := by decide +kernel
theorem dX4_putSum_29 : decode cX4_putSum 29 = .ok (.iinc 3 1, 3) := by decide +kernel
theorem dX4_putSum_32 : decode cX4_putSum 32 = .ok (.goto (-30), 3) := by decide +kernel
theorem dX4_putSum_35 : decode cX4_putSum 35 = .ok (.return_, 1) := by decide +kernel
theorem dX4_putTimesSine_0 : decode cX4_putTimesSine 0 = .ok (.iload_n 2, 1) := by decide +kernel
theorem dX4_putTimesSine_1 : decode cX4_putTimesSine 1 = .ok (.invokestatic 52, 3) := by decide +kernel
theorem dX4_putTimesSine_4 : decode cX4_putTimesSine 4 = .ok (.istore 5, 2) := by decide +kernel
theorem dX4_putTimesSine_6 : decode cX4_putTimesSine 6 = .ok (.iload_n 1, 1) := by decide +kernel
theorem dX4_putTimesSine_7 : decode cX4_putTimesSine 7 = .ok (.iload 5, 2) := by decide +kernel
theorem dX4_putTimesSine_9 : decode cX4_putTimesSine 9 = .ok (.iand, 1) := by decide +kernel
theorem dX4_putTimesSine_10 : decode cX4_putTimesSine 10 = .ok (.ifCond .ne 15, 3) := by decide +kernel
theorem dX4_putTimesSine_13 : decode cX4_putTimesSine 13 = .ok (.aload_n 0, 1) := by decide +kernel
theorem dX4_putTimesSine_14 : decode cX4_putTimesSine 14 = .ok (.iload_n 1, 1) := by decide +kernel
theorem dX4_putTimesSine_15 : decode cX4_putTimesSine 15 = .ok (.iload 5, 2) := by decide +kernel
theorem dX4_putTimesSine_17 : decode cX4_putTimesSine 17 = .ok (.iadd, 1) := by decide +kernel
theorem dX4_putTimesSine_18 : decode cX4_putTimesSine 18 = .ok (.lload_n 3, 1) := by decide +kernel
theorem dX4_putTimesSine_19 : decode cX4_putTimesSine 19 = .ok (.invokevirtual 48, 3) := by decide +kernel
theorem dX4_putTimesSine_22 : decode cX4_putTimesSine 22 = .ok (.goto 29, 3) := by decide +kernel
theorem dX4_putTimesSine_25 : decode cX4_putTimesSine 25 = .ok (.aload_n 0, 1) := by decide +kernel
theorem dX4_putTimesSine_26 : decode cX4_putTimesSine 26 = .ok (.iload_n 1, 1) := by decide +kernel
theorem dX4_putTimesSine_27 : decode cX4_putTimesSine 27 = .ok (.iload 5, 2) := by decide +kernel
theorem dX4_putTimesSine_29 : decode cX4_putTimesSine 29 = .ok (.isub, 1) := by decide +kernel
theorem dX4_putTimesSine_30 : decode cX4_putTimesSine 30 = .ok (.lload_n 3, 1) := by decide +kernel
theorem dX4_putTimesSine_31 : decode cX4_putTimesSine 31 = .ok (.invokevirtual 48, 3) := by decide +kernel
theorem dX4_putTimesSine_34 : decode cX4_putTimesSine 34 = .ok (.aload_n 0, 1) := by decide +kernel
theorem dX4_putTimesSine_35 : decode cX4_putTimesSine 35 = .ok (.iload_n 1, 1) := by decide +kernel
theorem dX4_putTimesSine_36 : decode cX4_putTimesSine 36 = .ok (.iload 5, 2) := by decide +kernel
theorem dX4_putTimesSine_38 : decode cX4_putTimesSine 38 = .ok (.isub, 1) := by decide +kernel
theorem dX4_putTimesSine_39 : decode cX4_putTimesSine 39 = .ok (.iconst 2, 1) := by decide +kernel
theorem dX4_putTimesSine_40 : decode cX4_putTimesSine 40 = .ok (.iload_n 2, 1) := by decide +kernel
theorem dX4_putTimesSine_41 : decode cX4_putTimesSine 41 = .ok (.invokestatic 56, 3) := by decide +kernel
theorem dX4_putTimesSine_44 : decode cX4_putTimesSine 44 = .ok (.imul, 1) := by decide +kernel
theorem dX4_putTimesSine_45 : decode cX4_putTimesSine 45 = .ok (.iadd, 1) := by decide +kernel
theorem dX4_putTimesSine_46 : decode cX4_putTimesSine 46 = .ok (.lload_n 3, 1) := by decide +kernel
theorem dX4_putTimesSine_47 : decode cX4_putTimesSine 47 = .ok (.lneg, 1) := by decide +kernel
theorem dX4_putTimesSine_48 : decode cX4_putTimesSine 48 = .ok (.invokevirtual 48, 3) := by decide +kernel
theorem dX4_putTimesSine_51 : decode cX4_putTimesSine 51 = .ok (.return_, 1) := by decide +kernel
theorem dX4_joinSums_0 : decode cX4_joinSums 0 = .ok (.aload_n 0, 1) := by decide +kernel
theorem dX4_joinSums_1 : decode cX4_joinSums 1 = .ok (.invokevirtual 59, 3) := by decide +kernel
theorem dX4_joinSums_4 : decode cX4_joinSums 4 = .ok (.aload_n 0, 1) := by decide +kernel
theorem dX4_joinSums_5 : decode cX4_joinSums 5 = .ok (.aload_n 1, 1) := by decide +kernel
theorem dX4_joinSums_6 : decode cX4_joinSums 6 = .ok (.iconst 1, 1) := by decide +kernel
theorem dX4_joinSums_7 : decode cX4_joinSums 7 = .ok (.invokevirtual 62, 3) := by decide +kernel
theorem dX4_joinSums_10 : decode cX4_joinSums 10 = .ok (.aload_n 0, 1) := by decide +kernel
theorem dX4_joinSums_11 : decode cX4_joinSums 11 = .ok (.aload_n 2, 1) := by decide +kernel
theorem dX4_joinSums_12 : decode cX4_joinSums 12 = .ok (.iload_n 3, 1) := by decide +kernel
theorem dX4_joinSums_13 : decode cX4_joinSums 13 = .ok (.invokevirtual 62, 3) := by decide +kernel
theorem dX4_joinSums_16 : decode cX4_joinSums 16 = .ok (.aload_n 0, 1) := by decide +kernel
theorem dX4_joinSums_17 : decode cX4_joinSums 17 = .ok (.aload_n 1, 1) := by decide +kernel
theorem dX4_joinSums_18 : decode cX4_joinSums 18 = .ok (.invokevirtual 66, 3) := by decide +kernel
theorem dX4_joinSums_21 : decode cX4_joinSums 21 = .ok (.ireturn, 1) := by decide +kernel
theorem dX4_multiply_0 : decode cX4_multiply 0 = .ok (.aload_n 0, 1) := by decide +kernel
theorem dX4_multiply_1 : decode cX4_multiply 1 = .ok (.invokevirtual 59, 3) := by decide +kernel
theorem dX4_multiply_4 : decode cX4_multiply 4 = .ok (.iconst 0, 1) := by decide +kernel
theorem dX4_multiply_5 : decode cX4_multiply 5 = .ok (.istore 4, 2) := by decide +kernel
theorem dX4_multiply_7 : decode cX4_multiply 7 = .ok (.iload 4, 2) := by decide +kernel
theorem dX4_multiply_9 : decode cX4_multiply 9 = .ok (.aload_n 2, 1) := by decide +kernel
theorem dX4_multiply_10 : decode cX4_multiply 10 = .ok (.getfield 43, 3) := by decide +kernel
theorem dX4_multiply_13 : decode cX4_multiply 13 = .ok (.if_icmp .ge 111, 3) := by decide +kernel
theorem dX4_multiply_16 : decode cX4_multiply 16 = .ok (.iconst 0, 1) := by decide +kernel
theorem dX4_multiply_17 : decode cX4_multiply 17 = .ok (.istore 5, 2) := by decide +kernel
theorem dX4_multiply_19 : decode cX4_multiply 19 = .ok (.iload 5, 2) := by decide +kernel
theorem dX4_multiply_21 : decode cX4_multiply 21 = .ok (.aload_n 3, 1) := by decide +kernel
theorem dX4_multiply_22 : decode cX4_multiply 22 = .ok (.getfield 43, 3) := by decide +kernel
theorem dX4_multiply_25 : decode cX4_multiply 25 = .ok (.if_icmp .ge 93, 3) := by decide +kernel
theorem dX4_multiply_28 : decode cX4_multiply 28 = .ok (.aload_n 2, 1) := by decide +kernel
theorem dX4_multiply_29 : decode cX4_multiply 29 = .ok (.getfield 46, 3) := by decide +kernel
theorem dX4_multiply_32 : decode cX4_multiply 32 = .ok (.iload 4, 2) := by decide +kernel
theorem dX4_multiply_34 : decode cX4_multiply 34 = .ok (.iaload, 1) := by decide +kernel
theorem dX4_multiply_35 : decode cX4_multiply 35 = .ok (.invokestatic 70, 3) := by decide +kernel
theorem dX4_multiply_38 : decode cX4_multiply 38 = .ok (.aload_n 3, 1) := by decide +kernel
theorem dX4_multiply_39 : decode cX4_multiply 39 = .ok (.getfield 46, 3) := by decide +kernel
theorem dX4_multiply_42 : decode cX4_multiply 42 = .ok (.iload 5, 2) := by decide +kernel
theorem dX4_multiply_44 : decode cX4_multiply 44 = .ok (.iaload, 1) := by decide +kernel
theorem dX4_multiply_45 : decode cX4_multiply 45 = .ok (.invokestatic 70, 3) := by decide +kernel
theorem dX4_multiply_48 : decode cX4_multiply 48 = .ok (.if_icmp .eq 6, 3) := by decide +kernel
theorem dX4_multiply_51 : decode cX4_multiply 51 = .ok (.goto 61, 3) := by decide +kernel
theorem dX4_multiply_54 : decode cX4_multiply 54 = .ok (.aload_n 2, 1) := by decide +kernel
theorem dX4_multiply_55 : decode cX4_multiply 55 = .ok (.getfield 47, 3) := by decide +kernel
theorem dX4_multiply_58 : decode cX4_multiply 58 = .ok (.iload 4, 2) := by decide +kernel
theorem dX4_multiply_60 : decode cX4_multiply 60 = .ok (.laload, 1) := by decide +kernel
theorem dX4_multiply_61 : decode cX4_multiply 61 = .ok (.aload_n 3, 1) := by decide +kernel
theorem dX4_multiply_62 : decode cX4_multiply 62 = .ok (.getfield 47, 3) := by decide +kernel
theorem dX4_multiply_65 : decode cX4_multiply 65 = .ok (.iload 5, 2) := by decide +kernel
theorem dX4_multiply_67 : decode cX4_multiply 67 = .ok (.laload, 1) := by decide +kernel
theorem dX4_multiply_68 : decode cX4_multiply 68 = .ok (.invokestatic 73, 3) := by decide +kernel
theorem dX4_multiply_71 : decode cX4_multiply 71 = .ok (.ifCond .ne 39, 3) := by decide +kernel
theorem dX4_multiply_74 : decode cX4_multiply 74 = .ok (.aload_n 0, 1) := by decide +kernel
theorem dX4_multiply_75 : decode cX4_multiply 75 = .ok (.aload_n 2, 1) := by decide +kernel
theorem dX4_multiply_76 : decode cX4_multiply 76 = .ok (.getfield 46, 3) := by decide +kernel
theorem dX4_multiply_79 : decode cX4_multiply 79 = .ok (.iload 4, 2) := by decide +kernel
theorem dX4_multiply_81 : decode cX4_multiply 81 = .ok (.iaload, 1) := by decide +kernel
theorem dX4_multiply_82 : decode cX4_multiply 82 = .ok (.aload_n 3, 1) := by decide +kernel
theorem dX4_multiply_83 : decode cX4_multiply 83 = .ok (.getfield 46, 3) := by decide +kernel
theorem dX4_multiply_86 : decode cX4_multiply 86 = .ok (.iload 5, 2) := by decide +kernel
theorem dX4_multiply_88 : decode cX4_multiply 88 = .ok (.iaload, 1) := by decide +kernel
theorem dX4_multiply_89 : decode cX4_multiply 89 = .ok (.aload_n 2, 1) := by decide +kernel
theorem dX4_multiply_90 : decode cX4_multiply 90 = .ok (.getfield 47, 3) := by decide +kernel
theorem dX4_multiply_93 : decode cX4_multiply 93 = .ok (.iload 4, 2) := by decide +kernel
theorem dX4_multiply_95 : decode cX4_multiply 95 = .ok (.laload, 1) := by decide +kernel
theorem dX4_multiply_96 : decode cX4_multiply 96 = .ok (.aload_n 3, 1) := by decide +kernel
theorem dX4_multiply_97 : decode cX4_multiply 97 = .ok (.getfield 47, 3) := by decide +kernel
theorem dX4_multiply_100 : decode cX4_multiply 100 = .ok (.iload 5, 2) := by decide +kernel
theorem dX4_multiply_102 : decode cX4_multiply 102 = .ok (.laload, 1) := by decide +kernel
theorem dX4_multiply_103 : decode cX4_multiply 103 = .ok (.lmul, 1) := by decide +kernel
theorem dX4_multiply_104 : decode cX4_multiply 104 = .ok (.invokevirtual 77, 3) := by decide +kernel
theorem dX4_multiply_107 : decode cX4_multiply 107 = .ok (.ifCond .ne 5, 3) := by decide +kernel
theorem dX4_multiply_110 : decode cX4_multiply 110 = .ok (.iconst 0, 1) := by decide +kernel
theorem dX4_multiply_111 : decode cX4_multiply 111 = .ok (.ireturn, 1) := by decide +kernel
theorem dX4_multiply_112 : decode cX4_multiply 112 = .ok (.iinc 5 1, 3) := by decide +kernel
theorem dX4_multiply_115 : decode cX4_multiply 115 = .ok (.goto (-96), 3) := by decide +kernel
theorem dX4_multiply_118 : decode cX4_multiply 118 = .ok (.iinc 4 1, 3) := by decide +kernel
theorem dX4_multiply_121 : decode cX4_multiply 121 = .ok (.goto (-114), 3) := by decide +kernel
theorem dX4_multiply_124 : decode cX4_multiply 124 = .ok (.aload_n 0, 1) := by decide +kernel
theorem dX4_multiply_125 : decode cX4_multiply 125 = .ok (.aload_n 1, 1) := by decide +kernel
theorem dX4_multiply_126 : decode cX4_multiply 126 = .ok (.invokevirtual 66, 3) := by decide +kernel
theorem dX4_multiply_129 : decode cX4_multiply 129 = .ok (.ireturn, 1) := by decide +kernel
theorem dX4_isBeyond_0 : decode cX4_isBeyond 0 = .ok (.lload_n 2, 1) := by decide +kernel
theorem dX4_isBeyond_1 : decode cX4_isBeyond 1 = .ok (.lconst 0, 1) := by decide +kernel
theorem dX4_isBeyond_2 : decode cX4_isBeyond 2 = .ok (.lcmp, 1) := by decide +kernel
theorem dX4_isBeyond_3 : decode cX4_isBeyond 3 = .ok (.ifCond .eq 23, 3) := by decide +kernel
theorem dX4_isBeyond_6 : decode cX4_isBeyond 6 = .ok (.lload_n 0, 1) := by decide +kernel
theorem dX4_isBeyond_7 : decode cX4_isBeyond 7 = .ok (.invokestatic 81, 3) := by decide +kernel
theorem dX4_isBeyond_10 : decode cX4_isBeyond 10 = .ok (.ldc2_w 87, 3) := by decide +kernel
theorem dX4_isBeyond_13 : decode cX4_isBeyond 13 = .ok (.lload_n 2, 1) := by decide +kernel
theorem dX4_isBeyond_14 : decode cX4_isBeyond 14 = .ok (.invokestatic 81, 3) := by decide +kernel
theorem dX4_isBeyond_17 : decode cX4_isBeyond 17 = .ok (.ldiv, 1) := by decide +kernel
theorem dX4_isBeyond_18 : decode cX4_isBeyond 18 = .ok (.lcmp, 1) := by decide +kernel
theorem dX4_isBeyond_19 : decode cX4_isBeyond 19 = .ok (.ifCond .le 7, 3) := by decide +kernel
theorem dX4_isBeyond_22 : decode cX4_isBeyond 22 = .ok (.iconst 1, 1) := by decide +kernel
theorem dX4_isBeyond_23 : decode cX4_isBeyond 23 = .ok (.goto 4, 3) := by decide +kernel
theorem dX4_isBeyond_26 : decode cX4_isBeyond 26 = .ok (.iconst 0, 1) := by decide +kernel
theorem dX4_isBeyond_27 : decode cX4_isBeyond 27 = .ok (.ireturn, 1) := by decide +kernel
theorem dX4_putRows_0 : decode cX4_putRows 0 = .ok (.iconst 0, 1) := by decide +kernel
theorem dX4_putRows_1 : decode cX4_putRows 1 = .ok (.istore 5, 2) := by decide +kernel
theorem dX4_putRows_3 : decode cX4_putRows 3 = .ok (.iconst 0, 1) := by decide +kernel
theorem dX4_putRows_4 : decode cX4_putRows 4 = .ok (.istore 6, 2) := by decide +kernel
theorem dX4_putRows_6 : decode cX4_putRows 6 = .ok (.iconst 0, 1) := by decide +kernel
theorem dX4_putRows_7 : decode cX4_putRows 7 = .ok (.istore 7, 2) := by decide +kernel
theorem dX4_putRows_9 : decode cX4_putRows 9 = .ok (.iload 7, 2) := by decide +kernel
theorem dX4_putRows_11 : decode cX4_putRows 11 = .ok (.iconst 4, 1) := by decide +kernel
theorem dX4_putRows_12 : decode cX4_putRows 12 = .ok (.if_icmp .ge 89, 3) := by decide +kernel
theorem dX4_putRows_15 : decode cX4_putRows 15 = .ok (.iload_n 1, 1) := by decide +kernel
theorem dX4_putRows_16 : decode cX4_putRows 16 = .ok (.iload 7, 2) := by decide +kernel
theorem dX4_putRows_18 : decode cX4_putRows 18 = .ok (.invokestatic 89, 3) := by decide +kernel
theorem dX4_putRows_21 : decode cX4_putRows 21 = .ok (.iload_n 2, 1) := by decide +kernel
theorem dX4_putRows_22 : decode cX4_putRows 22 = .ok (.iload 7, 2) := by decide +kernel
theorem dX4_putRows_24 : decode cX4_putRows 24 = .ok (.invokestatic 89, 3) := by decide +kernel
theorem dX4_putRows_27 : decode cX4_putRows 27 = .ok (.iadd, 1) := by decide +kernel
theorem dX4_putRows_28 : decode cX4_putRows 28 = .ok (.istore 8, 2) := by decide +kernel
theorem dX4_putRows_30 : decode cX4_putRows 30 = .ok (.iload_n 1, 1) := by decide +kernel
theorem dX4_putRows_31 : decode cX4_putRows 31 = .ok (.iload 7, 2) := by decide +kernel
theorem dX4_putRows_33 : decode cX4_putRows 33 = .ok (.invokestatic 93, 3) := by decide +kernel
theorem dX4_putRows_36 : decode cX4_putRows 36 = .ok (.iload_n 2, 1) := by decide +kernel
theorem dX4_putRows_37 : decode cX4_putRows 37 = .ok (.iload 7, 2) := by decide +kernel
theorem dX4_putRows_39 : decode cX4_putRows 39 = .ok (.invokestatic 93, 3) := by decide +kernel
theorem dX4_putRows_42 : decode cX4_putRows 42 = .ok (.iadd, 1) := by decide +kernel
theorem dX4_putRows_43 : decode cX4_putRows 43 = .ok (.istore 9, 2) := by decide +kernel
theorem dX4_putRows_45 : decode cX4_putRows 45 = .ok (.iload 8, 2) := by decide +kernel
theorem dX4_putRows_47 : decode cX4_putRows 47 = .ok (.iload 9, 2) := by decide +kernel
theorem dX4_putRows_49 : decode cX4_putRows 49 = .ok (.iconst 2, 1) := by decide +kernel
theorem dX4_putRows_50 : decode cX4_putRows 50 = .ok (.iand, 1) := by decide +kernel
theorem dX4_putRows_51 : decode cX4_putRows 51 = .ok (.iadd, 1) := by decide +kernel
theorem dX4_putRows_52 : decode cX4_putRows 52 = .ok (.bipush 12, 2) := by decide +kernel
theorem dX4_putRows_54 : decode cX4_putRows 54 = .ok (.if_icmp .le 5, 3) := by decide +kernel
theorem dX4_putRows_57 : decode cX4_putRows 57 = .ok (.iconst 0, 1) := by decide +kernel
theorem dX4_putRows_58 : decode cX4_putRows 58 = .ok (.ireturn, 1) := by decide +kernel
theorem dX4_putRows_59 : decode cX4_putRows 59 = .ok (.iload 5, 2) := by decide +kernel
theorem dX4_putRows_61 : decode cX4_putRows 61 = .ok (.iload 8, 2) := by decide +kernel
theorem dX4_putRows_63 : decode cX4_putRows 63 = .ok (.iload 7, 2) := by decide +kernel
theorem dX4_putRows_65 : decode cX4_putRows 65 = .ok (.invokestatic 56, 3) := by decide +kernel
theorem dX4_putRows_68 : decode cX4_putRows 68 = .ok (.imul, 1) := by decide +kernel
theorem dX4_putRows_69 : decode cX4_putRows 69 = .ok (.iload 9, 2) := by decide +kernel
theorem dX4_putRows_71 : decode cX4_putRows 71 = .ok (.iconst 1, 1) := by decide +kernel
theorem dX4_putRows_72 : decode cX4_putRows 72 = .ok (.iand, 1) := by decide +kernel
theorem dX4_putRows_73 : decode cX4_putRows 73 = .ok (.iload 7, 2) := by decide +kernel
theorem dX4_putRows_75 : decode cX4_putRows 75 = .ok (.invokestatic 52, 3) := by decide +kernel
theorem dX4_putRows_78 : decode cX4_putRows 78 = .ok (.imul, 1) := by decide +kernel
theorem dX4_putRows_79 : decode cX4_putRows 79 = .ok (.iadd, 1) := by decide +kernel
theorem dX4_putRows_80 : decode cX4_putRows 80 = .ok (.iadd, 1) := by decide +kernel
theorem dX4_putRows_81 : decode cX4_putRows 81 = .ok (.istore 5, 2) := by decide +kernel
theorem dX4_putRows_83 : decode cX4_putRows 83 = .ok (.iload 6, 2) := by decide +kernel
theorem dX4_putRows_85 : decode cX4_putRows 85 = .ok (.iload 9, 2) := by decide +kernel
theorem dX4_putRows_87 : decode cX4_putRows 87 = .ok (.iconst 1, 1) := by decide +kernel
theorem dX4_putRows_88 : decode cX4_putRows 88 = .ok (.ishr, 1) := by decide +kernel
theorem dX4_putRows_89 : decode cX4_putRows 89 = .ok (.iload 7, 2) := by decide +kernel
theorem dX4_putRows_91 : decode cX4_putRows 91 = .ok (.ishl, 1) := by decide +kernel
theorem dX4_putRows_92 : decode cX4_putRows 92 = .ok (.ior, 1) := by decide +kernel
theorem dX4_putRows_93 : decode cX4_putRows 93 = .ok (.istore 6, 2) := by decide +kernel
theorem dX4_putRows_95 : decode cX4_putRows 95 = .ok (.iinc 7 1, 3) := by decide +kernel
theorem dX4_putRows_98 : decode cX4_putRows 98 = .ok (.goto (-89), 3) := by decide +kernel
theorem dX4_putRows_101 : decode cX4_putRows 101 = .ok (.iconst 0, 1) := by decide +kernel
theorem dX4_putRows_102 : decode cX4_putRows 102 = .ok (.istore 7, 2) := by decide +kernel
theorem dX4_putRows_104 : decode cX4_putRows 104 = .ok (.iload 7, 2) := by decide +kernel
theorem dX4_putRows_106 : decode cX4_putRows 106 = .ok (.bipush 16, 2) := by decide +kernel
theorem dX4_putRows_108 : decode cX4_putRows 108 = .ok (.if_icmp .ge 47, 3) := by decide +kernel
theorem dX4_putRows_111 : decode cX4_putRows 111 = .ok (.iload 7, 2) := by decide +kernel
theorem dX4_putRows_113 : decode cX4_putRows 113 = .ok (.iload 6, 2) := by decide +kernel
theorem dX4_putRows_115 : decode cX4_putRows 115 = .ok (.iand, 1) := by decide +kernel
theorem dX4_putRows_116 : decode cX4_putRows 116 = .ok (.iload 7, 2) := by decide +kernel
theorem dX4_putRows_118 : decode cX4_putRows 118 = .ok (.if_icmp .ne 31, 3) := by decide +kernel
theorem dX4_putRows_121 : decode cX4_putRows 121 = .ok (.aload_n 0, 1) := by decide +kernel
theorem dX4_putRows_122 : decode cX4_putRows 122 = .ok (.iload 5, 2) := by decide +kernel
theorem dX4_putRows_124 : decode cX4_putRows 124 = .ok (.iload 7, 2) := by decide +kernel
theorem dX4_putRows_126 : decode cX4_putRows 126 = .ok (.invokestatic 96, 3) := by decide +kernel
theorem dX4_putRows_129 : decode cX4_putRows 129 = .ok (.iadd, 1) := by decide +kernel
theorem dX4_putRows_130 : decode cX4_putRows 130 = .ok (.iload 7, 2) := by decide +kernel
theorem dX4_putRows_132 : decode cX4_putRows 132 = .ok (.invokestatic 99, 3) := by decide +kernel
theorem dX4_putRows_135 : decode cX4_putRows 135 = .ok (.iconst 1, 1) := by decide +kernel
theorem dX4_putRows_136 : decode cX4_putRows 136 = .ok (.iand, 1) := by decide +kernel
theorem dX4_putRows_137 : decode cX4_putRows 137 = .ok (.ifCond .ne 7, 3) := by decide +kernel
theorem dX4_putRows_140 : decode cX4_putRows 140 = .ok (.lload_n 3, 1) := by decide +kernel
theorem dX4_putRows_141 : decode cX4_putRows 141 = .ok (.goto 5, 3) := by decide +kernel
theorem dX4_putRows_144 : decode cX4_putRows 144 = .ok (.lload_n 3, 1) := by decide +kernel
theorem dX4_putRows_145 : decode cX4_putRows 145 = .ok (.lneg, 1) := by decide +kernel
theorem dX4_putRows_146 : decode cX4_putRows 146 = .ok (.invokevirtual 48, 3) := by decide +kernel
theorem dX4_putRows_149 : decode cX4_putRows 149 = .ok (.iinc 7 1, 3) := by decide +kernel
theorem dX4_putRows_152 : decode cX4_putRows 152 = .ok (.goto (-48), 3) := by decide +kernel
theorem dX4_putRows_155 : decode cX4_putRows 155 = .ok (.aload_n 0, 1) := by decide +kernel
theorem dX4_putRows_156 : decode cX4_putRows 156 = .ok (.getfield 35, 3) := by decide +kernel
theorem dX4_putRows_159 : decode cX4_putRows 159 = .ok (.sipush 300, 3) := by decide +kernel
theorem dX4_putRows_162 : decode cX4_putRows 162 = .ok (.if_icmp .gt 7, 3) := by decide +kernel
theorem dX4_putRows_165 : decode cX4_putRows 165 = .ok (.iconst 1, 1) := by decide +kernel
theorem dX4_putRows_166 : decode cX4_putRows 166 = .ok (.goto 4, 3) := by decide +kernel
theorem dX4_putRows_169 : decode cX4_putRows 169 = .ok (.iconst 0, 1) := by decide +kernel
theorem dX4_putRows_170 : decode cX4_putRows 170 = .ok (.ireturn, 1) := by decide +kernel
theorem dX4_squaredCosines_0 : decode cX4_squaredCosines 0 = .ok (.iconst 0, 1) := by decide +kernel
theorem dX4_squaredCosines_1 : decode cX4_squaredCosines 1 = .ok (.istore_n 1, 1) := by decide +kernel
theorem dX4_squaredCosines_2 : decode cX4_squaredCosines 2 = .ok (.iconst 0, 1) := by decide +kernel
theorem dX4_squaredCosines_3 : decode cX4_squaredCosines 3 = .ok (.istore_n 2, 1) := by decide +kernel
theorem dX4_squaredCosines_4 : decode cX4_squaredCosines 4 = .ok (.iload_n 2, 1) := by decide +kernel
theorem dX4_squaredCosines_5 : decode cX4_squaredCosines 5 = .ok (.iconst 4, 1) := by decide +kernel
theorem dX4_squaredCosines_6 : decode cX4_squaredCosines 6 = .ok (.if_icmp .ge 26, 3) := by decide +kernel
theorem dX4_squaredCosines_9 : decode cX4_squaredCosines 9 = .ok (.iload_n 0, 1) := by decide +kernel
theorem dX4_squaredCosines_10 : decode cX4_squaredCosines 10 = .ok (.iload_n 2, 1) := by decide +kernel
theorem dX4_squaredCosines_11 : decode cX4_squaredCosines 11 = .ok (.ishr, 1) := by decide +kernel
theorem dX4_squaredCosines_12 : decode cX4_squaredCosines 12 = .ok (.iconst 1, 1) := by decide +kernel
theorem dX4_squaredCosines_13 : decode cX4_squaredCosines 13 = .ok (.iand, 1) := by decide +kernel
theorem dX4_squaredCosines_14 : decode cX4_squaredCosines 14 = .ok (.ifCond .eq 12, 3) := by decide +kernel
theorem dX4_squaredCosines_17 : decode cX4_squaredCosines 17 = .ok (.iload_n 1, 1) := by decide +kernel
theorem dX4_squaredCosines_18 : decode cX4_squaredCosines 18 = .ok (.iconst 2, 1) := by decide +kernel
theorem dX4_squaredCosines_19 : decode cX4_squaredCosines 19 = .ok (.iload_n 2, 1) := by decide +kernel
theorem dX4_squaredCosines_20 : decode cX4_squaredCosines 20 = .ok (.invokestatic 56, 3) := by decide +kernel
theorem dX4_squaredCosines_23 : decode cX4_squaredCosines 23 = .ok (.imul, 1) := by decide +kernel
theorem dX4_squaredCosines_24 : decode cX4_squaredCosines 24 = .ok (.iadd, 1) := by decide +kernel
theorem dX4_squaredCosines_25 : decode cX4_squaredCosines 25 = .ok (.istore_n 1, 1) := by decide +kernel
theorem dX4_squaredCosines_26 : decode cX4_squaredCosines 26 = .ok (.iinc 2 1, 3) := by decide +kernel
theorem dX4_squaredCosines_29 : decode cX4_squaredCosines 29 = .ok (.goto (-25), 3) := by decide +kernel
theorem dX4_squaredCosines_32 : decode cX4_squaredCosines 32 = .ok (.iload_n 1, 1) := by decide +kernel
theorem dX4_squaredCosines_33 : decode cX4_squaredCosines 33 = .ok (.ireturn, 1) := by decide +kernel
theorem dX4_settle_0 : decode cX4_settle 0 = .ok (.aload_n 0, 1) := by decide +kernel
theorem dX4_settle_1 : decode cX4_settle 1 = .ok (.invokevirtual 104, 3) := by decide +kernel
theorem dX4_settle_4 : decode cX4_settle 4 = .ok (.aload_n 0, 1) := by decide +kernel
theorem dX4_settle_5 : decode cX4_settle 5 = .ok (.invokevirtual 107, 3) := by decide +kernel
theorem dX4_settle_8 : decode cX4_settle 8 = .ok (.ifCond .ne 5, 3) := by decide +kernel
theorem dX4_settle_11 : decode cX4_settle 11 = .ok (.iconst 0, 1) := by decide +kernel
theorem dX4_settle_12 : decode cX4_settle 12 = .ok (.ireturn, 1) := by decide +kernel
theorem dX4_settle_13 : decode cX4_settle 13 = .ok (.aload_n 0, 1) := by decide +kernel
theorem dX4_settle_14 : decode cX4_settle 14 = .ok (.invokevirtual 111, 3) := by decide +kernel
theorem dX4_settle_17 : decode cX4_settle 17 = .ok (.aload_n 0, 1) := by decide +kernel
theorem dX4_settle_18 : decode cX4_settle 18 = .ok (.getfield 11, 3) := by decide +kernel
theorem dX4_settle_21 : decode cX4_settle 21 = .ok (.iconst 0, 1) := by decide +kernel
theorem dX4_settle_22 : decode cX4_settle 22 = .ok (.aload_n 1, 1) := by decide +kernel
theorem dX4_settle_23 : decode cX4_settle 23 = .ok (.getfield 46, 3) := by decide +kernel
theorem dX4_settle_26 : decode cX4_settle 26 = .ok (.iconst 0, 1) := by decide +kernel
theorem dX4_settle_27 : decode cX4_settle 27 = .ok (.aload_n 0, 1) := by decide +kernel
theorem dX4_settle_28 : decode cX4_settle 28 = .ok (.getfield 35, 3) := by decide +kernel
theorem dX4_settle_31 : decode cX4_settle 31 = .ok (.invokestatic 114, 3) := by decide +kernel
theorem dX4_settle_34 : decode cX4_settle 34 = .ok (.aload_n 0, 1) := by decide +kernel
theorem dX4_settle_35 : decode cX4_settle 35 = .ok (.getfield 15, 3) := by decide +kernel
theorem dX4_settle_38 : decode cX4_settle 38 = .ok (.iconst 0, 1) := by decide +kernel
theorem dX4_settle_39 : decode cX4_settle 39 = .ok (.aload_n 1, 1) := by decide +kernel
theorem dX4_settle_40 : decode cX4_settle 40 = .ok (.getfield 47, 3) := by decide +kernel
theorem dX4_settle_43 : decode cX4_settle 43 = .ok (.iconst 0, 1) := by decide +kernel
theorem dX4_settle_44 : decode cX4_settle 44 = .ok (.aload_n 0, 1) := by decide +kernel
theorem dX4_settle_45 : decode cX4_settle 45 = .ok (.getfield 35, 3) := by decide +kernel
theorem dX4_settle_48 : decode cX4_settle 48 = .ok (.invokestatic 114, 3) := by decide +kernel
theorem dX4_settle_51 : decode cX4_settle 51 = .ok (.aload_n 1, 1) := by decide +kernel
theorem dX4_settle_52 : decode cX4_settle 52 = .ok (.aload_n 0, 1) := by decide +kernel
theorem dX4_settle_53 : decode cX4_settle 53 = .ok (.getfield 35, 3) := by decide +kernel
theorem dX4_settle_56 : decode cX4_settle 56 = .ok (.putfield 43, 3) := by decide +kernel
theorem dX4_settle_59 : decode cX4_settle 59 = .ok (.iconst 1, 1) := by decide +kernel
theorem dX4_settle_60 : decode cX4_settle 60 = .ok (.ireturn, 1) := by decide +kernel
theorem dX4_dropZeros_0 : decode cX4_dropZeros 0 = .ok (.iconst 0, 1) := by decide +kernel
theorem dX4_dropZeros_1 : decode cX4_dropZeros 1 = .ok (.istore_n 1, 1) := by decide +kernel
theorem dX4_dropZeros_2 : decode cX4_dropZeros 2 = .ok (.iconst 0, 1) := by decide +kernel
theorem dX4_dropZeros_3 : decode cX4_dropZeros 3 = .ok (.istore_n 2, 1) := by decide +kernel
theorem dX4_dropZeros_4 : decode cX4_dropZeros 4 = .ok (.iload_n 2, 1) := by decide +kernel
theorem dX4_dropZeros_5 : decode cX4_dropZeros 5 = .ok (.aload_n 0, 1) := by decide +kernel
theorem dX4_dropZeros_6 : decode cX4_dropZeros 6 = .ok (.getfield 35, 3) := by decide +kernel
theorem dX4_dropZeros_9 : decode cX4_dropZeros 9 = .ok (.if_icmp .ge 47, 3) := by decide +kernel
theorem dX4_dropZeros_12 : decode cX4_dropZeros 12 = .ok (.aload_n 0, 1) := by decide +kernel
theorem dX4_dropZeros_13 : decode cX4_dropZeros 13 = .ok (.getfield 15, 3) := by decide +kernel
theorem dX4_dropZeros_16 : decode cX4_dropZeros 16 = .ok (.iload_n 2, 1) := by decide +kernel
theorem dX4_dropZeros_17 : decode cX4_dropZeros 17 = .ok (.laload, 1) := by decide +kernel
theorem dX4_dropZeros_18 : decode cX4_dropZeros 18 = .ok (.lconst 0, 1) := by decide +kernel
theorem dX4_dropZeros_19 : decode cX4_dropZeros 19 = .ok (.lcmp, 1) := by decide +kernel
theorem dX4_dropZeros_20 : decode cX4_dropZeros 20 = .ok (.ifCond .eq 30, 3) := by decide +kernel
theorem dX4_dropZeros_23 : decode cX4_dropZeros 23 = .ok (.aload_n 0, 1) := by decide +kernel
theorem dX4_dropZeros_24 : decode cX4_dropZeros 24 = .ok (.getfield 11, 3) := by decide +kernel
theorem dX4_dropZeros_27 : decode cX4_dropZeros 27 = .ok (.iload_n 1, 1) := by decide +kernel
theorem dX4_dropZeros_28 : decode cX4_dropZeros 28 = .ok (.aload_n 0, 1) := by decide +kernel
theorem dX4_dropZeros_29 : decode cX4_dropZeros 29 = .ok (.getfield 11, 3) := by decide +kernel
theorem dX4_dropZeros_32 : decode cX4_dropZeros 32 = .ok (.iload_n 2, 1) := by decide +kernel
theorem dX4_dropZeros_33 : decode cX4_dropZeros 33 = .ok (.iaload, 1) := by decide +kernel
theorem dX4_dropZeros_34 : decode cX4_dropZeros 34 = .ok (.iastore, 1) := by decide +kernel
theorem dX4_dropZeros_35 : decode cX4_dropZeros 35 = .ok (.aload_n 0, 1) := by decide +kernel
theorem dX4_dropZeros_36 : decode cX4_dropZeros 36 = .ok (.getfield 15, 3) := by decide +kernel
theorem dX4_dropZeros_39 : decode cX4_dropZeros 39 = .ok (.iload_n 1, 1) := by decide +kernel
theorem dX4_dropZeros_40 : decode cX4_dropZeros 40 = .ok (.aload_n 0, 1) := by decide +kernel
theorem dX4_dropZeros_41 : decode cX4_dropZeros 41 = .ok (.getfield 15, 3) := by decide +kernel
theorem dX4_dropZeros_44 : decode cX4_dropZeros 44 = .ok (.iload_n 2, 1) := by decide +kernel
theorem dX4_dropZeros_45 : decode cX4_dropZeros 45 = .ok (.laload, 1) := by decide +kernel
theorem dX4_dropZeros_46 : decode cX4_dropZeros 46 = .ok (.lastore, 1) := by decide +kernel
theorem dX4_dropZeros_47 : decode cX4_dropZeros 47 = .ok (.iinc 1 1, 3) := by decide +kernel
theorem dX4_dropZeros_50 : decode cX4_dropZeros 50 = .ok (.iinc 2 1, 3) := by decide +kernel
theorem dX4_dropZeros_53 : decode cX4_dropZeros 53 = .ok (.goto (-49), 3) := by decide +kernel
theorem dX4_dropZeros_56 : decode cX4_dropZeros 56 = .ok (.aload_n 0, 1) := by decide +kernel
theorem dX4_dropZeros_57 : decode cX4_dropZeros 57 = .ok (.iload_n 1, 1) := by decide +kernel
theorem dX4_dropZeros_58 : decode cX4_dropZeros 58 = .ok (.putfield 35, 3) := by decide +kernel
theorem dX4_dropZeros_61 : decode cX4_dropZeros 61 = .ok (.return_, 1) := by decide +kernel
theorem dX4_isSum_0 : decode cX4_isSum 0 = .ok (.aload_n 0, 1) := by decide +kernel
theorem dX4_isSum_1 : decode cX4_isSum 1 = .ok (.getfield 35, 3) := by decide +kernel
theorem dX4_isSum_4 : decode cX4_isSum 4 = .ok (.sipush 300, 3) := by decide +kernel
theorem dX4_isSum_7 : decode cX4_isSum 7 = .ok (.if_icmp .le 5, 3) := by decide +kernel
theorem dX4_isSum_10 : decode cX4_isSum 10 = .ok (.iconst 0, 1) := by decide +kernel
theorem dX4_isSum_11 : decode cX4_isSum 11 = .ok (.ireturn, 1) := by decide +kernel
theorem dX4_isSum_12 : decode cX4_isSum 12 = .ok (.iconst 0, 1) := by decide +kernel
theorem dX4_isSum_13 : decode cX4_isSum 13 = .ok (.istore_n 1, 1) := by decide +kernel
theorem dX4_isSum_14 : decode cX4_isSum 14 = .ok (.iload_n 1, 1) := by decide +kernel
theorem dX4_isSum_15 : decode cX4_isSum 15 = .ok (.aload_n 0, 1) := by decide +kernel
theorem dX4_isSum_16 : decode cX4_isSum 16 = .ok (.getfield 35, 3) := by decide +kernel
theorem dX4_isSum_19 : decode cX4_isSum 19 = .ok (.if_icmp .ge 57, 3) := by decide +kernel
theorem dX4_isSum_22 : decode cX4_isSum 22 = .ok (.aload_n 0, 1) := by decide +kernel
theorem dX4_isSum_23 : decode cX4_isSum 23 = .ok (.getfield 15, 3) := by decide +kernel
theorem dX4_isSum_26 : decode cX4_isSum 26 = .ok (.iload_n 1, 1) := by decide +kernel
theorem dX4_isSum_27 : decode cX4_isSum 27 = .ok (.laload, 1) := by decide +kernel
theorem dX4_isSum_28 : decode cX4_isSum 28 = .ok (.invokestatic 81, 3) := by decide +kernel
theorem dX4_isSum_31 : decode cX4_isSum 31 = .ok (.ldc2_w 87, 3) := by decide +kernel
theorem dX4_isSum_34 : decode cX4_isSum 34 = .ok (.lcmp, 1) := by decide +kernel
theorem dX4_isSum_35 : decode cX4_isSum 35 = .ok (.ifCond .le 5, 3) := by decide +kernel
theorem dX4_isSum_38 : decode cX4_isSum 38 = .ok (.iconst 0, 1) := by decide +kernel
theorem dX4_isSum_39 : decode cX4_isSum 39 = .ok (.ireturn, 1) := by decide +kernel
theorem dX4_isSum_40 : decode cX4_isSum 40 = .ok (.iconst 0, 1) := by decide +kernel
theorem dX4_isSum_41 : decode cX4_isSum 41 = .ok (.istore_n 2, 1) := by decide +kernel
theorem dX4_isSum_42 : decode cX4_isSum 42 = .ok (.iload_n 2, 1) := by decide +kernel
theorem dX4_isSum_43 : decode cX4_isSum 43 = .ok (.iconst 4, 1) := by decide +kernel
theorem dX4_isSum_44 : decode cX4_isSum 44 = .ok (.if_icmp .ge 26, 3) := by decide +kernel
theorem dX4_isSum_47 : decode cX4_isSum 47 = .ok (.aload_n 0, 1) := by decide +kernel
theorem dX4_isSum_48 : decode cX4_isSum 48 = .ok (.getfield 11, 3) := by decide +kernel
theorem dX4_isSum_51 : decode cX4_isSum 51 = .ok (.iload_n 1, 1) := by decide +kernel
theorem dX4_isSum_52 : decode cX4_isSum 52 = .ok (.iaload, 1) := by decide +kernel
theorem dX4_isSum_53 : decode cX4_isSum 53 = .ok (.iload_n 2, 1) := by decide +kernel
theorem dX4_isSum_54 : decode cX4_isSum 54 = .ok (.invokestatic 89, 3) := by decide +kernel
theorem dX4_isSum_57 : decode cX4_isSum 57 = .ok (.bipush 12, 2) := by decide +kernel
theorem dX4_isSum_59 : decode cX4_isSum 59 = .ok (.if_icmp .le 5, 3) := by decide +kernel
theorem dX4_isSum_62 : decode cX4_isSum 62 = .ok (.iconst 0, 1) := by decide +kernel
theorem dX4_isSum_63 : decode cX4_isSum 63 = .ok (.ireturn, 1) := by decide +kernel
theorem dX4_isSum_64 : decode cX4_isSum 64 = .ok (.iinc 2 1, 3) := by decide +kernel
theorem dX4_isSum_67 : decode cX4_isSum 67 = .ok (.goto (-25), 3) := by decide +kernel
theorem dX4_isSum_70 : decode cX4_isSum 70 = .ok (.iinc 1 1, 3) := by decide +kernel
theorem dX4_isSum_73 : decode cX4_isSum 73 = .ok (.goto (-59), 3) := by decide +kernel
theorem dX4_isSum_76 : decode cX4_isSum 76 = .ok (.iconst 1, 1) := by decide +kernel
theorem dX4_isSum_77 : decode cX4_isSum 77 = .ok (.ireturn, 1) := by decide +kernel
theorem dX4_sort_0 : decode cX4_sort 0 = .ok (.iconst 1, 1) := by decide +kernel
theorem dX4_sort_1 : decode cX4_sort 1 = .ok (.istore_n 1, 1) := by decide +kernel
theorem dX4_sort_2 : decode cX4_sort 2 = .ok (.iload_n 1, 1) := by decide +kernel
theorem dX4_sort_3 : decode cX4_sort 3 = .ok (.aload_n 0, 1) := by decide +kernel
theorem dX4_sort_4 : decode cX4_sort 4 = .ok (.getfield 35, 3) := by decide +kernel
theorem dX4_sort_7 : decode cX4_sort 7 = .ok (.if_icmp .ge 92, 3) := by decide +kernel
theorem dX4_sort_10 : decode cX4_sort 10 = .ok (.iconst 0, 1) := by decide +kernel
theorem dX4_sort_11 : decode cX4_sort 11 = .ok (.istore_n 2, 1) := by decide +kernel
theorem dX4_sort_12 : decode cX4_sort 12 = .ok (.iload_n 2, 1) := by decide +kernel
theorem dX4_sort_13 : decode cX4_sort 13 = .ok (.aload_n 0, 1) := by decide +kernel
theorem dX4_sort_14 : decode cX4_sort 14 = .ok (.getfield 35, 3) := by decide +kernel
theorem dX4_sort_17 : decode cX4_sort 17 = .ok (.if_icmp .ge 39, 3) := by decide +kernel
theorem dX4_sort_20 : decode cX4_sort 20 = .ok (.aload_n 0, 1) := by decide +kernel
theorem dX4_sort_21 : decode cX4_sort 21 = .ok (.iload_n 2, 1) := by decide +kernel
theorem dX4_sort_22 : decode cX4_sort 22 = .ok (.iload_n 2, 1) := by decide +kernel
theorem dX4_sort_23 : decode cX4_sort 23 = .ok (.iload_n 1, 1) := by decide +kernel
theorem dX4_sort_24 : decode cX4_sort 24 = .ok (.iadd, 1) := by decide +kernel
theorem dX4_sort_25 : decode cX4_sort 25 = .ok (.aload_n 0, 1) := by decide +kernel
theorem dX4_sort_26 : decode cX4_sort 26 = .ok (.getfield 35, 3) := by decide +kernel
theorem dX4_sort_29 : decode cX4_sort 29 = .ok (.invokestatic 120, 3) := by decide +kernel
theorem dX4_sort_32 : decode cX4_sort 32 = .ok (.iload_n 2, 1) := by decide +kernel
theorem dX4_sort_33 : decode cX4_sort 33 = .ok (.iload_n 1, 1) := by decide +kernel
theorem dX4_sort_34 : decode cX4_sort 34 = .ok (.iadd, 1) := by decide +kernel
theorem dX4_sort_35 : decode cX4_sort 35 = .ok (.iload_n 1, 1) := by decide +kernel
theorem dX4_sort_36 : decode cX4_sort 36 = .ok (.iadd, 1) := by decide +kernel
theorem dX4_sort_37 : decode cX4_sort 37 = .ok (.aload_n 0, 1) := by decide +kernel
theorem dX4_sort_38 : decode cX4_sort 38 = .ok (.getfield 35, 3) := by decide +kernel
theorem dX4_sort_41 : decode cX4_sort 41 = .ok (.invokestatic 120, 3) := by decide +kernel
theorem dX4_sort_44 : decode cX4_sort 44 = .ok (.invokevirtual 123, 3) := by decide +kernel
theorem dX4_sort_47 : decode cX4_sort 47 = .ok (.iload_n 2, 1) := by decide +kernel
theorem dX4_sort_48 : decode cX4_sort 48 = .ok (.iload_n 1, 1) := by decide +kernel
theorem dX4_sort_49 : decode cX4_sort 49 = .ok (.iload_n 1, 1) := by decide +kernel
theorem dX4_sort_50 : decode cX4_sort 50 = .ok (.iadd, 1) := by decide +kernel
theorem dX4_sort_51 : decode cX4_sort 51 = .ok (.iadd, 1) := by decide +kernel
theorem dX4_sort_52 : decode cX4_sort 52 = .ok (.istore_n 2, 1) := by decide +kernel
theorem dX4_sort_53 : decode cX4_sort 53 = .ok (.goto (-41), 3) := by decide +kernel
theorem dX4_sort_56 : decode cX4_sort 56 = .ok (.aload_n 0, 1) := by decide +kernel
theorem dX4_sort_57 : decode cX4_sort 57 = .ok (.getfield 19, 3) := by decide +kernel
theorem dX4_sort_60 : decode cX4_sort 60 = .ok (.astore_n 2, 1) := by decide +kernel
theorem dX4_sort_61 : decode cX4_sort 61 = .ok (.aload_n 0, 1) := by decide +kernel
theorem dX4_sort_62 : decode cX4_sort 62 = .ok (.getfield 22, 3) := by decide +kernel
theorem dX4_sort_65 : decode cX4_sort 65 = .ok (.astore_n 3, 1) := by decide +kernel
theorem dX4_sort_66 : decode cX4_sort 66 = .ok (.aload_n 0, 1) := by decide +kernel
theorem dX4_sort_67 : decode cX4_sort 67 = .ok (.aload_n 0, 1) := by decide +kernel
theorem dX4_sort_68 : decode cX4_sort 68 = .ok (.getfield 11, 3) := by decide +kernel
theorem dX4_sort_71 : decode cX4_sort 71 = .ok (.putfield 19, 3) := by decide +kernel
theorem dX4_sort_74 : decode cX4_sort 74 = .ok (.aload_n 0, 1) := by decide +kernel
theorem dX4_sort_75 : decode cX4_sort 75 = .ok (.aload_n 0, 1) := by decide +kernel
theorem dX4_sort_76 : decode cX4_sort 76 = .ok (.getfield 15, 3) := by decide +kernel
theorem dX4_sort_79 : decode cX4_sort 79 = .ok (.putfield 22, 3) := by decide +kernel
theorem dX4_sort_82 : decode cX4_sort 82 = .ok (.aload_n 0, 1) := by decide +kernel
theorem dX4_sort_83 : decode cX4_sort 83 = .ok (.aload_n 2, 1) := by decide +kernel
theorem dX4_sort_84 : decode cX4_sort 84 = .ok (.putfield 11, 3) := by decide +kernel
theorem dX4_sort_87 : decode cX4_sort 87 = .ok (.aload_n 0, 1) := by decide +kernel
theorem dX4_sort_88 : decode cX4_sort 88 = .ok (.aload_n 3, 1) := by decide +kernel
theorem dX4_sort_89 : decode cX4_sort 89 = .ok (.putfield 15, 3) := by decide +kernel
theorem dX4_sort_92 : decode cX4_sort 92 = .ok (.iload_n 1, 1) := by decide +kernel
theorem dX4_sort_93 : decode cX4_sort 93 = .ok (.iload_n 1, 1) := by decide +kernel
theorem dX4_sort_94 : decode cX4_sort 94 = .ok (.iadd, 1) := by decide +kernel
theorem dX4_sort_95 : decode cX4_sort 95 = .ok (.istore_n 1, 1) := by decide +kernel
theorem dX4_sort_96 : decode cX4_sort 96 = .ok (.goto (-94), 3) := by decide +kernel
theorem dX4_sort_99 : decode cX4_sort 99 = .ok (.return_, 1) := by decide +kernel
theorem dX4_merge_0 : decode cX4_merge 0 = .ok (.iload_n 1, 1) := by decide +kernel
theorem dX4_merge_1 : decode cX4_merge 1 = .ok (.istore 4, 2) := by decide +kernel
theorem dX4_merge_3 : decode cX4_merge 3 = .ok (.iload_n 2, 1) := by decide +kernel
theorem dX4_merge_4 : decode cX4_merge 4 = .ok (.istore 5, 2) := by decide +kernel
theorem dX4_merge_6 : decode cX4_merge 6 = .ok (.iload_n 1, 1) := by decide +kernel
theorem dX4_merge_7 : decode cX4_merge 7 = .ok (.istore 6, 2) := by decide +kernel
theorem dX4_merge_9 : decode cX4_merge 9 = .ok (.iload 6, 2) := by decide +kernel
theorem dX4_merge_11 : decode cX4_merge 11 = .ok (.iload_n 3, 1) := by decide +kernel
theorem dX4_merge_12 : decode cX4_merge 12 = .ok (.if_icmp .ge 83, 3) := by decide +kernel
theorem dX4_merge_15 : decode cX4_merge 15 = .ok (.iload 4, 2) := by decide +kernel
theorem dX4_merge_17 : decode cX4_merge 17 = .ok (.iload_n 2, 1) := by decide +kernel
theorem dX4_merge_18 : decode cX4_merge 18 = .ok (.if_icmp .ge 36, 3) := by decide +kernel
theorem dX4_merge_21 : decode cX4_merge 21 = .ok (.iload 5, 2) := by decide +kernel
theorem dX4_merge_23 : decode cX4_merge 23 = .ok (.iload_n 3, 1) := by decide +kernel
theorem dX4_merge_24 : decode cX4_merge 24 = .ok (.if_icmp .ge 20, 3) := by decide +kernel
theorem dX4_merge_27 : decode cX4_merge 27 = .ok (.aload_n 0, 1) := by decide +kernel
theorem dX4_merge_28 : decode cX4_merge 28 = .ok (.getfield 11, 3) := by decide +kernel
theorem dX4_merge_31 : decode cX4_merge 31 = .ok (.iload 4, 2) := by decide +kernel
theorem dX4_merge_33 : decode cX4_merge 33 = .ok (.iaload, 1) := by decide +kernel
theorem dX4_merge_34 : decode cX4_merge 34 = .ok (.aload_n 0, 1) := by decide +kernel
theorem dX4_merge_35 : decode cX4_merge 35 = .ok (.getfield 11, 3) := by decide +kernel
theorem dX4_merge_38 : decode cX4_merge 38 = .ok (.iload 5, 2) := by decide +kernel
theorem dX4_merge_40 : decode cX4_merge 40 = .ok (.iaload, 1) := by decide +kernel
theorem dX4_merge_41 : decode cX4_merge 41 = .ok (.if_icmp .gt 13, 3) := by decide +kernel
theorem dX4_merge_44 : decode cX4_merge 44 = .ok (.iload 4, 2) := by decide +kernel
theorem dX4_merge_46 : decode cX4_merge 46 = .ok (.istore 7, 2) := by decide +kernel
theorem dX4_merge_48 : decode cX4_merge 48 = .ok (.iinc 4 1, 3) := by decide +kernel
theorem dX4_merge_51 : decode cX4_merge 51 = .ok (.goto 10, 3) := by decide +kernel
theorem dX4_merge_54 : decode cX4_merge 54 = .ok (.iload 5, 2) := by decide +kernel
theorem dX4_merge_56 : decode cX4_merge 56 = .ok (.istore 7, 2) := by decide +kernel
theorem dX4_merge_58 : decode cX4_merge 58 = .ok (.iinc 5 1, 3) := by decide +kernel
theorem dX4_merge_61 : decode cX4_merge 61 = .ok (.aload_n 0, 1) := by decide +kernel
theorem dX4_merge_62 : decode cX4_merge 62 = .ok (.getfield 19, 3) := by decide +kernel
theorem dX4_merge_65 : decode cX4_merge 65 = .ok (.iload 6, 2) := by decide +kernel
theorem dX4_merge_67 : decode cX4_merge 67 = .ok (.aload_n 0, 1) := by decide +kernel
theorem dX4_merge_68 : decode cX4_merge 68 = .ok (.getfield 11, 3) := by decide +kernel
theorem dX4_merge_71 : decode cX4_merge 71 = .ok (.iload 7, 2) := by decide +kernel
theorem dX4_merge_73 : decode cX4_merge 73 = .ok (.iaload, 1) := by decide +kernel
theorem dX4_merge_74 : decode cX4_merge 74 = .ok (.iastore, 1) := by decide +kernel
theorem dX4_merge_75 : decode cX4_merge 75 = .ok (.aload_n 0, 1) := by decide +kernel
theorem dX4_merge_76 : decode cX4_merge 76 = .ok (.getfield 22, 3) := by decide +kernel
theorem dX4_merge_79 : decode cX4_merge 79 = .ok (.iload 6, 2) := by decide +kernel
theorem dX4_merge_81 : decode cX4_merge 81 = .ok (.aload_n 0, 1) := by decide +kernel
theorem dX4_merge_82 : decode cX4_merge 82 = .ok (.getfield 15, 3) := by decide +kernel
theorem dX4_merge_85 : decode cX4_merge 85 = .ok (.iload 7, 2) := by decide +kernel
theorem dX4_merge_87 : decode cX4_merge 87 = .ok (.laload, 1) := by decide +kernel
theorem dX4_merge_88 : decode cX4_merge 88 = .ok (.lastore, 1) := by decide +kernel
theorem dX4_merge_89 : decode cX4_merge 89 = .ok (.iinc 6 1, 3) := by decide +kernel
theorem dX4_merge_92 : decode cX4_merge 92 = .ok (.goto (-83), 3) := by decide +kernel
theorem dX4_merge_95 : decode cX4_merge 95 = .ok (.return_, 1) := by decide +kernel
theorem dX5_init_0 : decode cX5_init 0 = .ok (.aload_n 0, 1) := by decide +kernel
theorem dX5_init_1 : decode cX5_init 1 = .ok (.invokespecial 3, 3) := by decide +kernel
theorem dX5_init_4 : decode cX5_init 4 = .ok (.aload_n 0, 1) := by decide +kernel
theorem dX5_init_5 : decode cX5_init 5 = .ok (.iload_n 1, 1) := by decide +kernel
theorem dX5_init_6 : decode cX5_init 6 = .ok (.putfield 9, 3) := by decide +kernel
theorem dX5_init_9 : decode cX5_init 9 = .ok (.aload_n 0, 1) := by decide +kernel
theorem dX5_init_10 : decode cX5_init 10 = .ok (.aload_n 2, 1) := by decide +kernel
theorem dX5_init_11 : decode cX5_init 11 = .ok (.putfield 15, 3) := by decide +kernel
theorem dX5_init_14 : decode cX5_init 14 = .ok (.return_, 1) := by decide +kernel
theorem dX5_isOfKind_0 : decode cX5_isOfKind 0 = .ok (.iload_n 1, 1) := by decide +kernel
theorem dX5_isOfKind_1 : decode cX5_isOfKind 1 = .ok (.ifCond .eq 11, 3) := by decide +kernel
theorem dX5_isOfKind_4 : decode cX5_isOfKind 4 = .ok (.iload_n 1, 1) := by decide +kernel
theorem dX5_isOfKind_5 : decode cX5_isOfKind 5 = .ok (.aload_n 0, 1) := by decide +kernel
theorem dX5_isOfKind_6 : decode cX5_isOfKind 6 = .ok (.invokevirtual 19, 3) := by decide +kernel
theorem dX5_isOfKind_9 : decode cX5_isOfKind 9 = .ok (.if_icmp .ne 7, 3) := by decide +kernel
theorem dX5_isOfKind_12 : decode cX5_isOfKind 12 = .ok (.iconst 1, 1) := by decide +kernel
theorem dX5_isOfKind_13 : decode cX5_isOfKind 13 = .ok (.goto 4, 3) := by decide +kernel
theorem dX5_isOfKind_16 : decode cX5_isOfKind 16 = .ok (.iconst 0, 1) := by decide +kernel
theorem dX5_isOfKind_17 : decode cX5_isOfKind 17 = .ok (.ireturn, 1) := by decide +kernel
theorem dX5_cost_0 : decode cX5_cost 0 = .ok (.aload_n 1, 1) := by decide +kernel
theorem dX5_cost_1 : decode cX5_cost 1 = .ok (.bipush 10, 2) := by decide +kernel
theorem dX5_cost_3 : decode cX5_cost 3 = .ok (.invokevirtual 23, 3) := by decide +kernel
theorem dX5_cost_6 : decode cX5_cost 6 = .ok (.iconst 1, 1) := by decide +kernel
theorem dX5_cost_7 : decode cX5_cost 7 = .ok (.ireturn, 1) := by decide +kernel
theorem dX5_mark_0 : decode cX5_mark 0 = .ok (.aload_n 1, 1) := by decide +kernel
theorem dX5_mark_1 : decode cX5_mark 1 = .ok (.bipush 20, 2) := by decide +kernel
theorem dX5_mark_3 : decode cX5_mark 3 = .ok (.invokevirtual 23, 3) := by decide +kernel
theorem dX5_mark_6 : decode cX5_mark 6 = .ok (.aload_n 0, 1) := by decide +kernel
theorem dX5_mark_7 : decode cX5_mark 7 = .ok (.getfield 9, 3) := by decide +kernel
theorem dX5_mark_10 : decode cX5_mark 10 = .ok (.ireturn, 1) := by decide +kernel
theorem dX6_init_0 : decode cX6_init 0 = .ok (.aload_n 0, 1) := by decide +kernel
theorem dX6_init_1 : decode cX6_init 1 = .ok (.iload_n 1, 1) := by decide +kernel
theorem dX6_init_2 : decode cX6_init 2 = .ok (.aload_n 2, 1) := by decide +kernel
theorem dX6_init_3 : decode cX6_init 3 = .ok (.invokespecial 3, 3) := by decide +kernel
theorem dX6_init_6 : decode cX6_init 6 = .ok (.aload_n 0, 1) := by decide +kernel
theorem dX6_init_7 : decode cX6_init 7 = .ok (.iload_n 3, 1) := by decide +kernel
theorem dX6_init_8 : decode cX6_init 8 = .ok (.putfield 9, 3) := by decide +kernel
theorem dX6_init_11 : decode cX6_init 11 = .ok (.aload_n 0, 1) := by decide +kernel
theorem dX6_init_12 : decode cX6_init 12 = .ok (.iload 4, 2) := by decide +kernel
theorem dX6_init_14 : decode cX6_init 14 = .ok (.putfield 15, 3) := by decide +kernel
theorem dX6_init_17 : decode cX6_init 17 = .ok (.aload_n 0, 1) := by decide +kernel
theorem dX6_init_18 : decode cX6_init 18 = .ok (.iload 5, 2) := by decide +kernel
theorem dX6_init_20 : decode cX6_init 20 = .ok (.putfield 18, 3) := by decide +kernel
theorem dX6_init_23 : decode cX6_init 23 = .ok (.return_, 1) := by decide +kernel
theorem dX6_ownKind_0 : decode cX6_ownKind 0 = .ok (.iconst 2, 1) := by decide +kernel
theorem dX6_ownKind_1 : decode cX6_ownKind 1 = .ok (.ireturn, 1) := by decide +kernel
theorem dX6_isOfKind_0 : decode cX6_isOfKind 0 = .ok (.iload_n 1, 1) := by decide +kernel
theorem dX6_isOfKind_1 : decode cX6_isOfKind 1 = .ok (.iconst 2, 1) := by decide +kernel
theorem dX6_isOfKind_2 : decode cX6_isOfKind 2 = .ok (.if_icmp .eq 11, 3) := by decide +kernel
theorem dX6_isOfKind_5 : decode cX6_isOfKind 5 = .ok (.aload_n 0, 1) := by decide +kernel
theorem dX6_isOfKind_6 : decode cX6_isOfKind 6 = .ok (.iload_n 1, 1) := by decide +kernel
theorem dX6_isOfKind_7 : decode cX6_isOfKind 7 = .ok (.invokespecial 21, 3) := by decide +kernel
theorem dX6_isOfKind_10 : decode cX6_isOfKind 10 = .ok (.ifCond .eq 7, 3) := by decide +kernel
theorem dX6_isOfKind_13 : decode cX6_isOfKind 13 = .ok (.iconst 1, 1) := by decide +kernel
theorem dX6_isOfKind_14 : decode cX6_isOfKind 14 = .ok (.goto 4, 3) := by decide +kernel
theorem dX6_isOfKind_17 : decode cX6_isOfKind 17 = .ok (.iconst 0, 1) := by decide +kernel
theorem dX6_isOfKind_18 : decode cX6_isOfKind 18 = .ok (.ireturn, 1) := by decide +kernel
theorem dX6_cost_0 : decode cX6_cost 0 = .ok (.aload_n 1, 1) := by decide +kernel
theorem dX6_cost_1 : decode cX6_cost 1 = .ok (.bipush 12, 2) := by decide +kernel
theorem dX6_cost_3 : decode cX6_cost 3 = .ok (.invokevirtual 25, 3) := by decide +kernel
theorem dX6_cost_6 : decode cX6_cost 6 = .ok (.aload_n 0, 1) := by decide +kernel
theorem dX6_cost_7 : decode cX6_cost 7 = .ok (.aload_n 1, 1) := by decide +kernel
theorem dX6_cost_8 : decode cX6_cost 8 = .ok (.invokespecial 29, 3) := by decide +kernel
theorem dX6_cost_11 : decode cX6_cost 11 = .ok (.aload_n 0, 1) := by decide +kernel
theorem dX6_cost_12 : decode cX6_cost 12 = .ok (.getfield 9, 3) := by decide +kernel
theorem dX6_cost_15 : decode cX6_cost 15 = .ok (.invokestatic 33, 3) := by decide +kernel
theorem dX6_cost_18 : decode cX6_cost 18 = .ok (.imul, 1) := by decide +kernel
theorem dX6_cost_19 : decode cX6_cost 19 = .ok (.ireturn, 1) := by decide +kernel
theorem dX6_perform_0 : decode cX6_perform 0 = .ok (.aload_n 0, 1) := by decide +kernel
theorem dX6_perform_1 : decode cX6_perform 1 = .ok (.aload_n 1, 1) := by decide +kernel
theorem dX6_perform_2 : decode cX6_perform 2 = .ok (.aload_n 0, 1) := by decide +kernel
theorem dX6_perform_3 : decode cX6_perform 3 = .ok (.getfield 15, 3) := by decide +kernel
theorem dX6_perform_6 : decode cX6_perform 6 = .ok (.invokevirtual 39, 3) := by decide +kernel
theorem dX6_perform_9 : decode cX6_perform 9 = .ok (.ireturn, 1) := by decide +kernel
theorem dX6_turnSpins_0 : decode cX6_turnSpins 0 = .ok (.iload_n 2, 1) := by decide +kernel
theorem dX6_turnSpins_1 : decode cX6_turnSpins 1 = .ok (.iconst 1, 1) := by decide +kernel
theorem dX6_turnSpins_2 : decode cX6_turnSpins 2 = .ok (.iand, 1) := by decide +kernel
theorem dX6_turnSpins_3 : decode cX6_turnSpins 3 = .ok (.ifCond .ne 7, 3) := by decide +kernel
theorem dX6_turnSpins_6 : decode cX6_turnSpins 6 = .ok (.iconst 1, 1) := by decide +kernel
theorem dX6_turnSpins_7 : decode cX6_turnSpins 7 = .ok (.goto 4, 3) := by decide +kernel
theorem dX6_turnSpins_10 : decode cX6_turnSpins 10 = .ok (.iconst 2, 1) := by decide +kernel
theorem dX6_turnSpins_11 : decode cX6_turnSpins 11 = .ok (.istore_n 3, 1) := by decide +kernel
theorem dX6_turnSpins_12 : decode cX6_turnSpins 12 = .ok (.iload_n 2, 1) := by decide +kernel
theorem dX6_turnSpins_13 : decode cX6_turnSpins 13 = .ok (.iconst 2, 1) := by decide +kernel
theorem dX6_turnSpins_14 : decode cX6_turnSpins 14 = .ok (.if_icmp .ge 10, 3) := by decide +kernel
theorem dX6_turnSpins_17 : decode cX6_turnSpins 17 = .ok (.aload_n 0, 1) := by decide +kernel
theorem dX6_turnSpins_18 : decode cX6_turnSpins 18 = .ok (.getfield 18, 3) := by decide +kernel
theorem dX6_turnSpins_21 : decode cX6_turnSpins 21 = .ok (.goto 11, 3) := by decide +kernel
theorem dX6_turnSpins_24 : decode cX6_turnSpins 24 = .ok (.iconst 4, 1) := by decide +kernel
theorem dX6_turnSpins_25 : decode cX6_turnSpins 25 = .ok (.aload_n 0, 1) := by decide +kernel
theorem dX6_turnSpins_26 : decode cX6_turnSpins 26 = .ok (.getfield 18, 3) := by decide +kernel
theorem dX6_turnSpins_29 : decode cX6_turnSpins 29 = .ok (.isub, 1) := by decide +kernel
theorem dX6_turnSpins_30 : decode cX6_turnSpins 30 = .ok (.iconst 3, 1) := by decide +kernel
theorem dX6_turnSpins_31 : decode cX6_turnSpins 31 = .ok (.iand, 1) := by decide +kernel
theorem dX6_turnSpins_32 : decode cX6_turnSpins 32 = .ok (.istore 4, 2) := by decide +kernel
theorem dX6_turnSpins_34 : decode cX6_turnSpins 34 = .ok (.iconst 0, 1) := by decide +kernel
theorem dX6_turnSpins_35 : decode cX6_turnSpins 35 = .ok (.istore 5, 2) := by decide +kernel
theorem dX6_turnSpins_37 : decode cX6_turnSpins 37 = .ok (.iload 5, 2) := by decide +kernel
theorem dX6_turnSpins_39 : decode cX6_turnSpins 39 = .ok (.iconst 4, 1) := by decide +kernel
theorem dX6_turnSpins_40 : decode cX6_turnSpins 40 = .ok (.if_icmp .ge 39, 3) := by decide +kernel
theorem dX6_turnSpins_43 : decode cX6_turnSpins 43 = .ok (.aload_n 0, 1) := by decide +kernel
theorem dX6_turnSpins_44 : decode cX6_turnSpins 44 = .ok (.getfield 9, 3) := by decide +kernel
theorem dX6_turnSpins_47 : decode cX6_turnSpins 47 = .ok (.iload 5, 2) := by decide +kernel
theorem dX6_turnSpins_49 : decode cX6_turnSpins 49 = .ok (.ishr, 1) := by decide +kernel
theorem dX6_turnSpins_50 : decode cX6_turnSpins 50 = .ok (.iconst 1, 1) := by decide +kernel
theorem dX6_turnSpins_51 : decode cX6_turnSpins 51 = .ok (.iand, 1) := by decide +kernel
theorem dX6_turnSpins_52 : decode cX6_turnSpins 52 = .ok (.ifCond .eq 21, 3) := by decide +kernel
theorem dX6_turnSpins_55 : decode cX6_turnSpins 55 = .ok (.aload_n 1, 1) := by decide +kernel
theorem dX6_turnSpins_56 : decode cX6_turnSpins 56 = .ok (.iload_n 3, 1) := by decide +kernel
theorem dX6_turnSpins_57 : decode cX6_turnSpins 57 = .ok (.iconst 2, 1) := by decide +kernel
theorem dX6_turnSpins_58 : decode cX6_turnSpins 58 = .ok (.iload 5, 2) := by decide +kernel
theorem dX6_turnSpins_60 : decode cX6_turnSpins 60 = .ok (.imul, 1) := by decide +kernel
theorem dX6_turnSpins_61 : decode cX6_turnSpins 61 = .ok (.ishl, 1) := by decide +kernel
theorem dX6_turnSpins_62 : decode cX6_turnSpins 62 = .ok (.iload 4, 2) := by decide +kernel
theorem dX6_turnSpins_64 : decode cX6_turnSpins 64 = .ok (.invokevirtual 43, 3) := by decide +kernel
theorem dX6_turnSpins_67 : decode cX6_turnSpins 67 = .ok (.ifCond .ne 6, 3) := by decide +kernel
theorem dX6_turnSpins_70 : decode cX6_turnSpins 70 = .ok (.ldc 47, 2) := by decide +kernel
theorem dX6_turnSpins_72 : decode cX6_turnSpins 72 = .ok (.ireturn, 1) := by decide +kernel
theorem dX6_turnSpins_73 : decode cX6_turnSpins 73 = .ok (.iinc 5 1, 3) := by decide +kernel
theorem dX6_turnSpins_76 : decode cX6_turnSpins 76 = .ok (.goto (-39), 3) := by decide +kernel
theorem dX6_turnSpins_79 : decode cX6_turnSpins 79 = .ok (.iconst 0, 1) := by decide +kernel
theorem dX6_turnSpins_80 : decode cX6_turnSpins 80 = .ok (.ireturn, 1) := by decide +kernel
theorem dX7_init_0 : decode cX7_init 0 = .ok (.aload_n 0, 1) := by decide +kernel
theorem dX7_init_1 : decode cX7_init 1 = .ok (.iload_n 1, 1) := by decide +kernel
theorem dX7_init_2 : decode cX7_init 2 = .ok (.aload_n 2, 1) := by decide +kernel
theorem dX7_init_3 : decode cX7_init 3 = .ok (.invokespecial 3, 3) := by decide +kernel
theorem dX7_init_6 : decode cX7_init 6 = .ok (.aload_n 0, 1) := by decide +kernel
theorem dX7_init_7 : decode cX7_init 7 = .ok (.iload_n 3, 1) := by decide +kernel
theorem dX7_init_8 : decode cX7_init 8 = .ok (.putfield 9, 3) := by decide +kernel
theorem dX7_init_11 : decode cX7_init 11 = .ok (.return_, 1) := by decide +kernel
theorem dX7_ownKind_0 : decode cX7_ownKind 0 = .ok (.iconst 5, 1) := by decide +kernel
theorem dX7_ownKind_1 : decode cX7_ownKind 1 = .ok (.ireturn, 1) := by decide +kernel
theorem dX7_cost_0 : decode cX7_cost 0 = .ok (.aload_n 1, 1) := by decide +kernel
theorem dX7_cost_1 : decode cX7_cost 1 = .ok (.bipush 14, 2) := by decide +kernel
theorem dX7_cost_3 : decode cX7_cost 3 = .ok (.invokevirtual 15, 3) := by decide +kernel
theorem dX7_cost_6 : decode cX7_cost 6 = .ok (.aload_n 0, 1) := by decide +kernel
theorem dX7_cost_7 : decode cX7_cost 7 = .ok (.getfield 9, 3) := by decide +kernel
theorem dX7_cost_10 : decode cX7_cost 10 = .ok (.ireturn, 1) := by decide +kernel
theorem dX7_perform_0 : decode cX7_perform 0 = .ok (.aload_n 0, 1) := by decide +kernel
theorem dX7_perform_1 : decode cX7_perform 1 = .ok (.iconst 0, 1) := by decide +kernel
theorem dX7_perform_2 : decode cX7_perform 2 = .ok (.putfield 19, 3) := by decide +kernel
theorem dX7_perform_5 : decode cX7_perform 5 = .ok (.iconst 0, 1) := by decide +kernel
theorem dX7_perform_6 : decode cX7_perform 6 = .ok (.ireturn, 1) := by decide +kernel
theorem dX8_init_0 : decode cX8_init 0 = .ok (.aload_n 0, 1) := by decide +kernel
theorem dX8_init_1 : decode cX8_init 1 = .ok (.iload_n 1, 1) := by decide +kernel
theorem dX8_init_2 : decode cX8_init 2 = .ok (.aload_n 2, 1) := by decide +kernel
theorem dX8_init_3 : decode cX8_init 3 = .ok (.invokespecial 3, 3) := by decide +kernel
theorem dX8_init_6 : decode cX8_init 6 = .ok (.aload_n 0, 1) := by decide +kernel
theorem dX8_init_7 : decode cX8_init 7 = .ok (.iload_n 3, 1) := by decide +kernel
theorem dX8_init_8 : decode cX8_init 8 = .ok (.putfield 9, 3) := by decide +kernel
theorem dX8_init_11 : decode cX8_init 11 = .ok (.aload_n 0, 1) := by decide +kernel
theorem dX8_init_12 : decode cX8_init 12 = .ok (.iload 4, 2) := by decide +kernel
theorem dX8_init_14 : decode cX8_init 14 = .ok (.putfield 15, 3) := by decide +kernel
theorem dX8_init_17 : decode cX8_init 17 = .ok (.return_, 1) := by decide +kernel
theorem dX8_ownKind_0 : decode cX8_ownKind 0 = .ok (.bipush 7, 2) := by decide +kernel
theorem dX8_ownKind_2 : decode cX8_ownKind 2 = .ok (.ireturn, 1) := by decide +kernel
theorem dX8_mark_0 : decode cX8_mark 0 = .ok (.aload_n 1, 1) := by decide +kernel
theorem dX8_mark_1 : decode cX8_mark 1 = .ok (.bipush 24, 2) := by decide +kernel
theorem dX8_mark_3 : decode cX8_mark 3 = .ok (.invokevirtual 18, 3) := by decide +kernel
theorem dX8_mark_6 : decode cX8_mark 6 = .ok (.aload_n 0, 1) := by decide +kernel
theorem dX8_mark_7 : decode cX8_mark 7 = .ok (.aload_n 1, 1) := by decide +kernel
theorem dX8_mark_8 : decode cX8_mark 8 = .ok (.invokespecial 22, 3) := by decide +kernel
theorem dX8_mark_11 : decode cX8_mark 11 = .ok (.aload_n 0, 1) := by decide +kernel
theorem dX8_mark_12 : decode cX8_mark 12 = .ok (.getfield 9, 3) := by decide +kernel
theorem dX8_mark_15 : decode cX8_mark 15 = .ok (.iadd, 1) := by decide +kernel
theorem dX8_mark_16 : decode cX8_mark 16 = .ok (.ireturn, 1) := by decide +kernel
theorem dX8_perform_0 : decode cX8_perform 0 = .ok (.aload_n 1, 1) := by decide +kernel
theorem dX8_perform_1 : decode cX8_perform 1 = .ok (.aload_n 0, 1) := by decide +kernel
theorem dX8_perform_2 : decode cX8_perform 2 = .ok (.getfield 9, 3) := by decide +kernel
theorem dX8_perform_5 : decode cX8_perform 5 = .ok (.invokevirtual 26, 3) := by decide +kernel
theorem dX8_perform_8 : decode cX8_perform 8 = .ok (.astore_n 2, 1) := by decide +kernel
theorem dX8_perform_9 : decode cX8_perform 9 = .ok (.aload_n 2, 1) := by decide +kernel
theorem dX8_perform_10 : decode cX8_perform 10 = .ok (.ifnull 26, 3) := by decide +kernel
theorem dX8_perform_13 : decode cX8_perform 13 = .ok (.aload_n 1, 1) := by decide +kernel
theorem dX8_perform_14 : decode cX8_perform 14 = .ok (.getfield 30, 3) := by decide +kernel
theorem dX8_perform_17 : decode cX8_perform 17 = .ok (.aload_n 2, 1) := by decide +kernel
theorem dX8_perform_18 : decode cX8_perform 18 = .ok (.aload_n 1, 1) := by decide +kernel
theorem dX8_perform_19 : decode cX8_perform 19 = .ok (.getfield 34, 3) := by decide +kernel
theorem dX8_perform_22 : decode cX8_perform 22 = .ok (.aload_n 0, 1) := by decide +kernel
theorem dX8_perform_23 : decode cX8_perform 23 = .ok (.getfield 15, 3) := by decide +kernel
theorem dX8_perform_26 : decode cX8_perform 26 = .ok (.invokevirtual 38, 3) := by decide +kernel
theorem dX8_perform_29 : decode cX8_perform 29 = .ok (.ifCond .eq 7, 3) := by decide +kernel
theorem dX8_perform_32 : decode cX8_perform 32 = .ok (.iconst 0, 1) := by decide +kernel
theorem dX8_perform_33 : decode cX8_perform 33 = .ok (.goto 5, 3) := by decide +kernel
theorem dX8_perform_36 : decode cX8_perform 36 = .ok (.ldc 44, 2) := by decide +kernel
theorem dX8_perform_38 : decode cX8_perform 38 = .ok (.ireturn, 1) := by decide +kernel
theorem dX9_init_0 : decode cX9_init 0 = .ok (.aload_n 0, 1) := by decide +kernel
theorem dX9_init_1 : decode cX9_init 1 = .ok (.invokespecial 3, 3) := by decide +kernel
theorem dX9_init_4 : decode cX9_init 4 = .ok (.aload_n 0, 1) := by decide +kernel
theorem dX9_init_5 : decode cX9_init 5 = .ok (.sipush 300, 3) := by decide +kernel
theorem dX9_init_8 : decode cX9_init 8 = .ok (.newarray .int, 2) := by decide +kernel
theorem dX9_init_10 : decode cX9_init 10 = .ok (.putfield 9, 3) := by decide +kernel
theorem dX9_init_13 : decode cX9_init 13 = .ok (.aload_n 0, 1) := by decide +kernel
theorem dX9_init_14 : decode cX9_init 14 = .ok (.sipush 300, 3) := by decide +kernel
theorem dX9_init_17 : decode cX9_init 17 = .ok (.newarray .long, 2) := by decide +kernel
theorem dX9_init_19 : decode cX9_init 19 = .ok (.putfield 15, 3) := by decide +kernel
theorem dX9_init_22 : decode cX9_init 22 = .ok (.return_, 1) := by decide +kernel
theorem dX9_become_0 : decode cX9_become 0 = .ok (.aload_n 1, 1) := by decide +kernel
theorem dX9_become_1 : decode cX9_become 1 = .ok (.getfield 9, 3) := by decide +kernel
theorem dX9_become_4 : decode cX9_become 4 = .ok (.iconst 0, 1) := by decide +kernel
theorem dX9_become_5 : decode cX9_become 5 = .ok (.aload_n 0, 1) := by decide +kernel
theorem dX9_become_6 : decode cX9_become 6 = .ok (.getfield 9, 3) := by decide +kernel
theorem dX9_become_9 : decode cX9_become 9 = .ok (.iconst 0, 1) := by decide +kernel
theorem dX9_become_10 : decode cX9_become 10 = .ok (.aload_n 1, 1) := by decide +kernel
theorem dX9_become_11 : decode cX9_become 11 = .ok (.getfield 19, 3) := by decide +kernel
theorem dX9_become_14 : decode cX9_become 14 = .ok (.invokestatic 23, 3) := by decide +kernel
theorem dX9_become_17 : decode cX9_become 17 = .ok (.aload_n 1, 1) := by decide +kernel
theorem dX9_become_18 : decode cX9_become 18 = .ok (.getfield 15, 3) := by decide +kernel
theorem dX9_become_21 : decode cX9_become 21 = .ok (.iconst 0, 1) := by decide +kernel
theorem dX9_become_22 : decode cX9_become 22 = .ok (.aload_n 0, 1) := by decide +kernel
theorem dX9_become_23 : decode cX9_become 23 = .ok (.getfield 15, 3) := by decide +kernel
theorem dX9_become_26 : decode cX9_become 26 = .ok (.iconst 0, 1) := by decide +kernel
theorem dX9_become_27 : decode cX9_become 27 = .ok (.aload_n 1, 1) := by decide +kernel
theorem dX9_become_28 : decode cX9_become 28 = .ok (.getfield 19, 3) := by decide +kernel
theorem dX9_become_31 : decode cX9_become 31 = .ok (.invokestatic 23, 3) := by decide +kernel
theorem dX9_become_34 : decode cX9_become 34 = .ok (.aload_n 0, 1) := by decide +kernel
theorem dX9_become_35 : decode cX9_become 35 = .ok (.aload_n 1, 1) := by decide +kernel
theorem dX9_become_36 : decode cX9_become 36 = .ok (.getfield 19, 3) := by decide +kernel
theorem dX9_become_39 : decode cX9_become 39 = .ok (.putfield 19, 3) := by decide +kernel
theorem dX9_become_42 : decode cX9_become 42 = .ok (.return_, 1) := by decide +kernel
theorem dX9_isLike_0 : decode cX9_isLike 0 = .ok (.aload_n 0, 1) := by decide +kernel
theorem dX9_isLike_1 : decode cX9_isLike 1 = .ok (.getfield 19, 3) := by decide +kernel
theorem dX9_isLike_4 : decode cX9_isLike 4 = .ok (.aload_n 1, 1) := by decide +kernel
theorem dX9_isLike_5 : decode cX9_isLike 5 = .ok (.getfield 19, 3) := by decide +kernel
theorem dX9_isLike_8 : decode cX9_isLike 8 = .ok (.if_icmp .eq 5, 3) := by decide +kernel
theorem dX9_isLike_11 : decode cX9_isLike 11 = .ok (.iconst 0, 1) := by decide +kernel
theorem dX9_isLike_12 : decode cX9_isLike 12 = .ok (.ireturn, 1) := by decide +kernel
theorem dX9_isLike_13 : decode cX9_isLike 13 = .ok (.iconst 0, 1) := by decide +kernel
theorem dX9_isLike_14 : decode cX9_isLike 14 = .ok (.istore_n 2, 1) := by decide +kernel
theorem dX9_isLike_15 : decode cX9_isLike 15 = .ok (.iload_n 2, 1) := by decide +kernel
theorem dX9_isLike_16 : decode cX9_isLike 16 = .ok (.aload_n 0, 1) := by decide +kernel
theorem dX9_isLike_17 : decode cX9_isLike 17 = .ok (.getfield 19, 3) := by decide +kernel
theorem dX9_isLike_20 : decode cX9_isLike 20 = .ok (.if_icmp .ge 42, 3) := by decide +kernel
theorem dX9_isLike_23 : decode cX9_isLike 23 = .ok (.aload_n 0, 1) := by decide +kernel
theorem dX9_isLike_24 : decode cX9_isLike 24 = .ok (.getfield 9, 3) := by decide +kernel
theorem dX9_isLike_27 : decode cX9_isLike 27 = .ok (.iload_n 2, 1) := by decide +kernel
theorem dX9_isLike_28 : decode cX9_isLike 28 = .ok (.iaload, 1) := by decide +kernel
theorem dX9_isLike_29 : decode cX9_isLike 29 = .ok (.aload_n 1, 1) := by decide +kernel
theorem dX9_isLike_30 : decode cX9_isLike 30 = .ok (.getfield 9, 3) := by decide +kernel
theorem dX9_isLike_33 : decode cX9_isLike 33 = .ok (.iload_n 2, 1) := by decide +kernel
theorem dX9_isLike_34 : decode cX9_isLike 34 = .ok (.iaload, 1) := by decide +kernel
theorem dX9_isLike_35 : decode cX9_isLike 35 = .ok (.if_icmp .ne 19, 3) := by decide +kernel
theorem dX9_isLike_38 : decode cX9_isLike 38 = .ok (.aload_n 0, 1) := by decide +kernel
theorem dX9_isLike_39 : decode cX9_isLike 39 = .ok (.getfield 15, 3) := by decide +kernel
theorem dX9_isLike_42 : decode cX9_isLike 42 = .ok (.iload_n 2, 1) := by decide +kernel
theorem dX9_isLike_43 : decode cX9_isLike 43 = .ok (.laload, 1) := by decide +kernel
theorem dX9_isLike_44 : decode cX9_isLike 44 = .ok (.aload_n 1, 1) := by decide +kernel
theorem dX9_isLike_45 : decode cX9_isLike 45 = .ok (.getfield 15, 3) := by decide +kernel
theorem dX9_isLike_48 : decode cX9_isLike 48 = .ok (.iload_n 2, 1) := by decide +kernel
theorem dX9_isLike_49 : decode cX9_isLike 49 = .ok (.laload, 1) := by decide +kernel
theorem dX9_isLike_50 : decode cX9_isLike 50 = .ok (.lcmp, 1) := by decide +kernel
theorem dX9_isLike_51 : decode cX9_isLike 51 = .ok (.ifCond .eq 5, 3) := by decide +kernel
theorem dX9_isLike_54 : decode cX9_isLike 54 = .ok (.iconst 0, 1) := by decide +kernel
theorem dX9_isLike_55 : decode cX9_isLike 55 = .ok (.ireturn, 1) := by decide +kernel
theorem dX9_isLike_56 : decode cX9_isLike 56 = .ok (.iinc 2 1, 3) := by decide +kernel
theorem dX9_isLike_59 : decode cX9_isLike 59 = .ok (.goto (-44), 3) := by decide +kernel
theorem dX9_isLike_62 : decode cX9_isLike 62 = .ok (.iconst 1, 1) := by decide +kernel
theorem dX9_isLike_63 : decode cX9_isLike 63 = .ok (.ireturn, 1) := by decide +kernel
theorem dX10_init_0 : decode cX10_init 0 = .ok (.aload_n 0, 1) := by decide +kernel
theorem dX10_init_1 : decode cX10_init 1 = .ok (.invokespecial 3, 3) := by decide +kernel
theorem dX10_init_4 : decode cX10_init 4 = .ok (.aload_n 0, 1) := by decide +kernel
theorem dX10_init_5 : decode cX10_init 5 = .ok (.bipush 60, 2) := by decide +kernel
theorem dX10_init_7 : decode cX10_init 7 = .ok (.newarray .int, 2) := by decide +kernel
theorem dX10_init_9 : decode cX10_init 9 = .ok (.putfield 9, 3) := by decide +kernel
theorem dX10_init_12 : decode cX10_init 12 = .ok (.aload_n 0, 1) := by decide +kernel
theorem dX10_init_13 : decode cX10_init 13 = .ok (.iconst 1, 1) := by decide +kernel
theorem dX10_init_14 : decode cX10_init 14 = .ok (.putfield 15, 3) := by decide +kernel
theorem dX10_init_17 : decode cX10_init 17 = .ok (.return_, 1) := by decide +kernel
theorem dX10_make_0 : decode cX10_make 0 = .ok (.aload_n 0, 1) := by decide +kernel
theorem dX10_make_1 : decode cX10_make 1 = .ok (.iconst 0, 1) := by decide +kernel
theorem dX10_make_2 : decode cX10_make 2 = .ok (.putfield 15, 3) := by decide +kernel
theorem dX10_make_5 : decode cX10_make 5 = .ok (.aload_n 0, 1) := by decide +kernel
theorem dX10_make_6 : decode cX10_make 6 = .ok (.iload_n 1, 1) := by decide +kernel
theorem dX10_make_7 : decode cX10_make 7 = .ok (.putfield 19, 3) := by decide +kernel
theorem dX10_make_10 : decode cX10_make 10 = .ok (.aload_n 0, 1) := by decide +kernel
theorem dX10_make_11 : decode cX10_make 11 = .ok (.iload_n 2, 1) := by decide +kernel
theorem dX10_make_12 : decode cX10_make 12 = .ok (.putfield 23, 3) := by decide +kernel
theorem dX10_make_15 : decode cX10_make 15 = .ok (.aload_n 0, 1) := by decide +kernel
theorem dX10_make_16 : decode cX10_make 16 = .ok (.getfield 9, 3) := by decide +kernel
theorem dX10_make_19 : decode cX10_make 19 = .ok (.iconst 0, 1) := by decide +kernel
theorem dX10_make_20 : decode cX10_make 20 = .ok (.invokestatic 26, 3) := by decide +kernel
theorem dX10_make_23 : decode cX10_make 23 = .ok (.return_, 1) := by decide +kernel
theorem dX10_hasPlaces_0 : decode cX10_hasPlaces 0 = .ok (.iload_n 1, 1) := by decide +kernel
theorem dX10_hasPlaces_1 : decode cX10_hasPlaces 1 = .ok (.ifCond .lt 21, 3) := by decide +kernel
theorem dX10_hasPlaces_4 : decode cX10_hasPlaces 4 = .ok (.iload_n 2, 1) := by decide +kernel
theorem dX10_hasPlaces_5 : decode cX10_hasPlaces 5 = .ok (.ifCond .lt 17, 3) := by decide +kernel
theorem dX10_hasPlaces_8 : decode cX10_hasPlaces 8 = .ok (.iload_n 1, 1) := by decide +kernel
theorem dX10_hasPlaces_9 : decode cX10_hasPlaces 9 = .ok (.aload_n 0, 1) := by decide +kernel
theorem dX10_hasPlaces_10 : decode cX10_hasPlaces 10 = .ok (.getfield 23, 3) := by decide +kernel
theorem dX10_hasPlaces_13 : decode cX10_hasPlaces 13 = .ok (.iload_n 2, 1) := by decide +kernel
theorem dX10_hasPlaces_14 : decode cX10_hasPlaces 14 = .ok (.isub, 1) := by decide +kernel
theorem dX10_hasPlaces_15 : decode cX10_hasPlaces 15 = .ok (.if_icmp .gt 7, 3) := by decide +kernel
theorem dX10_hasPlaces_18 : decode cX10_hasPlaces 18 = .ok (.iconst 1, 1) := by decide +kernel
theorem dX10_hasPlaces_19 : decode cX10_hasPlaces 19 = .ok (.goto 4, 3) := by decide +kernel
theorem dX10_hasPlaces_22 : decode cX10_hasPlaces 22 = .ok (.iconst 0, 1) := by decide +kernel
theorem dX10_hasPlaces_23 : decode cX10_hasPlaces 23 = .ok (.ireturn, 1) := by decide +kernel
theorem dX10_fitted_0 : decode cX10_fitted 0 = .ok (.aload_n 0, 1) := by decide +kernel
theorem dX10_fitted_1 : decode cX10_fitted 1 = .ok (.getfield 19, 3) := by decide +kernel
theorem dX10_fitted_4 : decode cX10_fitted 4 = .ok (.lookupswitch 34 #[(0, 28), (1, 31)], 28) := by decide +kernel
theorem dX10_fitted_32 : decode cX10_fitted 32 = .ok (.iload_n 1, 1) := by decide +kernel
theorem dX10_fitted_33 : decode cX10_fitted 33 = .ok (.i2b, 1) := by decide +kernel
theorem dX10_fitted_34 : decode cX10_fitted 34 = .ok (.ireturn, 1) := by decide +kernel
theorem dX10_fitted_35 : decode cX10_fitted 35 = .ok (.iload_n 1, 1) := by decide +kernel
theorem dX10_fitted_36 : decode cX10_fitted 36 = .ok (.i2s, 1) := by decide +kernel
theorem dX10_fitted_37 : decode cX10_fitted 37 = .ok (.ireturn, 1) := by decide +kernel
theorem dX10_fitted_38 : decode cX10_fitted 38 = .ok (.iload_n 1, 1) := by decide +kernel
theorem dX10_fitted_39 : decode cX10_fitted 39 = .ok (.ireturn, 1) := by decide +kernel
theorem dX11_init_0 : decode cX11_init 0 = .ok (.aload_n 0, 1) := by decide +kernel
theorem dX11_init_1 : decode cX11_init 1 = .ok (.invokespecial 1, 3) := by decide +kernel
theorem dX11_init_4 : decode cX11_init 4 = .ok (.aload_n 0, 1) := by decide +kernel
theorem dX11_init_5 : decode cX11_init 5 = .ok (.bipush 9, 2) := by decide +kernel
theorem dX11_init_7 : decode cX11_init 7 = .ok (.anewarray 9, 3) := by decide +kernel
theorem dX11_init_10 : decode cX11_init 10 = .ok (.putfield 11, 3) := by decide +kernel
theorem dX11_init_13 : decode cX11_init 13 = .ok (.aload_n 0, 1) := by decide +kernel
theorem dX11_init_14 : decode cX11_init 14 = .ok (.bipush 9, 2) := by decide +kernel
theorem dX11_init_16 : decode cX11_init 16 = .ok (.anewarray 9, 3) := by decide +kernel
theorem dX11_init_19 : decode cX11_init 19 = .ok (.putfield 15, 3) := by decide +kernel
theorem dX11_init_22 : decode cX11_init 22 = .ok (.aload_n 0, 1) := by decide +kernel
theorem dX11_init_23 : decode cX11_init 23 = .ok (.new 18, 3) := by decide +kernel
theorem dX11_init_26 : decode cX11_init 26 = .ok (.dup, 1) := by decide +kernel
theorem dX11_init_27 : decode cX11_init 27 = .ok (.invokespecial 20, 3) := by decide +kernel
theorem dX11_init_30 : decode cX11_init 30 = .ok (.putfield 21, 3) := by decide +kernel
theorem dX11_init_33 : decode cX11_init 33 = .ok (.aload_n 0, 1) := by decide +kernel
theorem dX11_init_34 : decode cX11_init 34 = .ok (.bipush 8, 2) := by decide +kernel
theorem dX11_init_36 : decode cX11_init 36 = .ok (.anewarray 25, 3) := by decide +kernel
theorem dX11_init_39 : decode cX11_init 39 = .ok (.putfield 27, 3) := by decide +kernel
theorem dX11_init_42 : decode cX11_init 42 = .ok (.aload_n 0, 1) := by decide +kernel
theorem dX11_init_43 : decode cX11_init 43 = .ok (.bipush 40, 2) := by decide +kernel
theorem dX11_init_45 : decode cX11_init 45 = .ok (.anewarray 31, 3) := by decide +kernel
theorem dX11_init_48 : decode cX11_init 48 = .ok (.putfield 33, 3) := by decide +kernel
theorem dX11_init_51 : decode cX11_init 51 = .ok (.aload_n 0, 1) := by decide +kernel
theorem dX11_init_52 : decode cX11_init 52 = .ok (.ldc 37, 2) := by decide +kernel
theorem dX11_init_54 : decode cX11_init 54 = .ok (.putfield 38, 3) := by decide +kernel
theorem dX11_init_57 : decode cX11_init 57 = .ok (.aload_n 0, 1) := by decide +kernel
theorem dX11_init_58 : decode cX11_init 58 = .ok (.bipush 16, 2) := by decide +kernel
theorem dX11_init_60 : decode cX11_init 60 = .ok (.newarray .int, 2) := by decide +kernel
theorem dX11_init_62 : decode cX11_init 62 = .ok (.putfield 42, 3) := by decide +kernel
theorem dX11_init_65 : decode cX11_init 65 = .ok (.aload_n 0, 1) := by decide +kernel
theorem dX11_init_66 : decode cX11_init 66 = .ok (.iconst 1, 1) := by decide +kernel
theorem dX11_init_67 : decode cX11_init 67 = .ok (.iconst 4, 1) := by decide +kernel
theorem dX11_init_68 : decode cX11_init 68 = .ok (.iload_n 1, 1) := by decide +kernel
theorem dX11_init_69 : decode cX11_init 69 = .ok (.invokestatic 46, 3) := by decide +kernel
theorem dX11_init_72 : decode cX11_init 72 = .ok (.invokestatic 52, 3) := by decide +kernel
theorem dX11_init_75 : decode cX11_init 75 = .ok (.putfield 55, 3) := by decide +kernel
theorem dX11_init_78 : decode cX11_init 78 = .ok (.aload_n 0, 1) := by decide +kernel
theorem dX11_init_79 : decode cX11_init 79 = .ok (.new 9, 3) := by decide +kernel
theorem dX11_init_82 : decode cX11_init 82 = .ok (.dup, 1) := by decide +kernel
theorem dX11_init_83 : decode cX11_init 83 = .ok (.invokespecial 58, 3) := by decide +kernel
theorem dX11_init_86 : decode cX11_init 86 = .ok (.putfield 59, 3) := by decide +kernel
theorem dX11_init_89 : decode cX11_init 89 = .ok (.aload_n 0, 1) := by decide +kernel
theorem dX11_init_90 : decode cX11_init 90 = .ok (.getfield 11, 3) := by decide +kernel
theorem dX11_init_93 : decode cX11_init 93 = .ok (.iconst 0, 1) := by decide +kernel
theorem dX11_init_94 : decode cX11_init 94 = .ok (.aload_n 0, 1) := by decide +kernel
theorem dX11_init_95 : decode cX11_init 95 = .ok (.getfield 59, 3) := by decide +kernel
theorem dX11_init_98 : decode cX11_init 98 = .ok (.aastore, 1) := by decide +kernel
theorem dX11_init_99 : decode cX11_init 99 = .ok (.iconst 1, 1) := by decide +kernel
theorem dX11_init_100 : decode cX11_init 100 = .ok (.istore_n 2, 1) := by decide +kernel
theorem dX11_init_101 : decode cX11_init 101 = .ok (.iload_n 2, 1) := by decide +kernel
theorem dX11_init_102 : decode cX11_init 102 = .ok (.aload_n 0, 1) := by decide +kernel
theorem dX11_init_103 : decode cX11_init 103 = .ok (.getfield 11, 3) := by decide +kernel
theorem dX11_init_106 : decode cX11_init 106 = .ok (.arraylength, 1) := by decide +kernel
theorem dX11_init_107 : decode cX11_init 107 = .ok (.if_icmp .ge 22, 3) := by decide +kernel
theorem dX11_init_110 : decode cX11_init 110 = .ok (.aload_n 0, 1) := by decide +kernel
theorem dX11_init_111 : decode cX11_init 111 = .ok (.getfield 11, 3) := by decide +kernel
theorem dX11_init_114 : decode cX11_init 114 = .ok (.iload_n 2, 1) := by decide +kernel
theorem dX11_init_115 : decode cX11_init 115 = .ok (.new 9, 3) := by decide +kernel
theorem dX11_init_118 : decode cX11_init 118 = .ok (.dup, 1) := by decide +kernel
theorem dX11_init_119 : decode cX11_init 119 = .ok (.invokespecial 58, 3) := by decide +kernel
theorem dX11_init_122 : decode cX11_init 122 = .ok (.aastore, 1) := by decide +kernel
theorem dX11_init_123 : decode cX11_init 123 = .ok (.iinc 2 1, 3) := by decide +kernel
theorem dX11_init_126 : decode cX11_init 126 = .ok (.goto (-25), 3) := by decide +kernel
theorem dX11_init_129 : decode cX11_init 129 = .ok (.iconst 0, 1) := by decide +kernel
theorem dX11_init_130 : decode cX11_init 130 = .ok (.istore_n 2, 1) := by decide +kernel
theorem dX11_init_131 : decode cX11_init 131 = .ok (.iload_n 2, 1) := by decide +kernel
theorem dX11_init_132 : decode cX11_init 132 = .ok (.aload_n 0, 1) := by decide +kernel
theorem dX11_init_133 : decode cX11_init 133 = .ok (.getfield 15, 3) := by decide +kernel
theorem dX11_init_136 : decode cX11_init 136 = .ok (.arraylength, 1) := by decide +kernel
theorem dX11_init_137 : decode cX11_init 137 = .ok (.if_icmp .ge 22, 3) := by decide +kernel
theorem dX11_init_140 : decode cX11_init 140 = .ok (.aload_n 0, 1) := by decide +kernel
theorem dX11_init_141 : decode cX11_init 141 = .ok (.getfield 15, 3) := by decide +kernel
theorem dX11_init_144 : decode cX11_init 144 = .ok (.iload_n 2, 1) := by decide +kernel
theorem dX11_init_145 : decode cX11_init 145 = .ok (.new 9, 3) := by decide +kernel
theorem dX11_init_148 : decode cX11_init 148 = .ok (.dup, 1) := by decide +kernel
theorem dX11_init_149 : decode cX11_init 149 = .ok (.invokespecial 58, 3) := by decide +kernel
theorem dX11_init_152 : decode cX11_init 152 = .ok (.aastore, 1) := by decide +kernel
theorem dX11_init_153 : decode cX11_init 153 = .ok (.iinc 2 1, 3) := by decide +kernel
theorem dX11_init_156 : decode cX11_init 156 = .ok (.goto (-25), 3) := by decide +kernel
theorem dX11_init_159 : decode cX11_init 159 = .ok (.iconst 0, 1) := by decide +kernel
theorem dX11_init_160 : decode cX11_init 160 = .ok (.istore_n 2, 1) := by decide +kernel
theorem dX11_init_161 : decode cX11_init 161 = .ok (.iload_n 2, 1) := by decide +kernel
theorem dX11_init_162 : decode cX11_init 162 = .ok (.bipush 8, 2) := by decide +kernel
theorem dX11_init_164 : decode cX11_init 164 = .ok (.if_icmp .ge 22, 3) := by decide +kernel
theorem dX11_init_167 : decode cX11_init 167 = .ok (.aload_n 0, 1) := by decide +kernel
theorem dX11_init_168 : decode cX11_init 168 = .ok (.getfield 27, 3) := by decide +kernel
theorem dX11_init_171 : decode cX11_init 171 = .ok (.iload_n 2, 1) := by decide +kernel
theorem dX11_init_172 : decode cX11_init 172 = .ok (.new 25, 3) := by decide +kernel
theorem dX11_init_175 : decode cX11_init 175 = .ok (.dup, 1) := by decide +kernel
theorem dX11_init_176 : decode cX11_init 176 = .ok (.invokespecial 63, 3) := by decide +kernel
theorem dX11_init_179 : decode cX11_init 179 = .ok (.aastore, 1) := by decide +kernel
theorem dX11_init_180 : decode cX11_init 180 = .ok (.iinc 2 1, 3) := by decide +kernel
theorem dX11_init_183 : decode cX11_init 183 = .ok (.goto (-22), 3) := by decide +kernel
theorem dX11_init_186 : decode cX11_init 186 = .ok (.return_, 1) := by decide +kernel
theorem dX11_table_0 : decode cX11_table 0 = .ok (.aload_n 0, 1) := by decide +kernel
theorem dX11_table_1 : decode cX11_table 1 = .ok (.iload_n 1, 1) := by decide +kernel
theorem dX11_table_2 : decode cX11_table 2 = .ok (.invokevirtual 64, 3) := by decide +kernel
theorem dX11_table_5 : decode cX11_table 5 = .ok (.astore 4, 2) := by decide +kernel
theorem dX11_table_7 : decode cX11_table 7 = .ok (.aload 4, 2) := by decide +kernel
theorem dX11_table_9 : decode cX11_table 9 = .ok (.ifnull 18, 3) := by decide +kernel
theorem dX11_table_12 : decode cX11_table 12 = .ok (.iload_n 2, 1) := by decide +kernel
theorem dX11_table_13 : decode cX11_table 13 = .ok (.iconst 0, 1) := by decide +kernel
theorem dX11_table_14 : decode cX11_table 14 = .ok (.iconst 2, 1) := by decide +kernel
theorem dX11_table_15 : decode cX11_table 15 = .ok (.invokestatic 68, 3) := by decide +kernel
theorem dX11_table_18 : decode cX11_table 18 = .ok (.ifCond .eq 9, 3) := by decide +kernel
theorem dX11_table_21 : decode cX11_table 21 = .ok (.iload_n 3, 1) := by decide +kernel
theorem dX11_table_22 : decode cX11_table 22 = .ok (.bipush 60, 2) := by decide +kernel
theorem dX11_table_24 : decode cX11_table 24 = .ok (.if_icmp .le 6, 3) := by decide +kernel
theorem dX11_table_27 : decode cX11_table 27 = .ok (.ldc 72, 2) := by decide +kernel
theorem dX11_table_29 : decode cX11_table 29 = .ok (.ireturn, 1) := by decide +kernel
theorem dX11_table_30 : decode cX11_table 30 = .ok (.iload_n 3, 1) := by decide +kernel
theorem dX11_table_31 : decode cX11_table 31 = .ok (.ifCond .ge 9, 3) := by decide +kernel
theorem dX11_table_34 : decode cX11_table 34 = .ok (.aload_n 0, 1) := by decide +kernel
theorem dX11_table_35 : decode cX11_table 35 = .ok (.iconst 4, 1) := by decide +kernel
theorem dX11_table_36 : decode cX11_table 36 = .ok (.invokevirtual 73, 3) := by decide +kernel
theorem dX11_table_39 : decode cX11_table 39 = .ok (.ireturn, 1) := by decide +kernel
theorem dX11_table_40 : decode cX11_table 40 = .ok (.aload 4, 2) := by decide +kernel
theorem dX11_table_42 : decode cX11_table 42 = .ok (.iload_n 2, 1) := by decide +kernel
theorem dX11_table_43 : decode cX11_table 43 = .ok (.iload_n 3, 1) := by decide +kernel
theorem dX11_table_44 : decode cX11_table 44 = .ok (.invokevirtual 77, 3) := by decide +kernel
theorem dX11_table_47 : decode cX11_table 47 = .ok (.aload_n 0, 1) := by decide +kernel
theorem dX11_table_48 : decode cX11_table 48 = .ok (.iload_n 3, 1) := by decide +kernel
theorem dX11_table_49 : decode cX11_table 49 = .ok (.invokevirtual 81, 3) := by decide +kernel
theorem dX11_table_52 : decode cX11_table 52 = .ok (.ireturn, 1) := by decide +kernel
theorem dX11_set_0 : decode cX11_set 0 = .ok (.aload_n 0, 1) := by decide +kernel
theorem dX11_set_1 : decode cX11_set 1 = .ok (.iload_n 1, 1) := by decide +kernel
theorem dX11_set_2 : decode cX11_set 2 = .ok (.invokevirtual 64, 3) := by decide +kernel
theorem dX11_set_5 : decode cX11_set 5 = .ok (.astore 4, 2) := by decide +kernel
theorem dX11_set_7 : decode cX11_set 7 = .ok (.aload 4, 2) := by decide +kernel
theorem dX11_set_9 : decode cX11_set 9 = .ok (.ifnonnull 6, 3) := by decide +kernel
theorem dX11_set_12 : decode cX11_set 12 = .ok (.ldc 72, 2) := by decide +kernel
theorem dX11_set_14 : decode cX11_set 14 = .ok (.ireturn, 1) := by decide +kernel
theorem dX11_set_15 : decode cX11_set 15 = .ok (.aload 4, 2) := by decide +kernel
theorem dX11_set_17 : decode cX11_set 17 = .ok (.getfield 84, 3) := by decide +kernel
theorem dX11_set_20 : decode cX11_set 20 = .ok (.ifCond .eq 9, 3) := by decide +kernel
theorem dX11_set_23 : decode cX11_set 23 = .ok (.aload_n 0, 1) := by decide +kernel
theorem dX11_set_24 : decode cX11_set 24 = .ok (.iconst 1, 1) := by decide +kernel
theorem dX11_set_25 : decode cX11_set 25 = .ok (.invokevirtual 73, 3) := by decide +kernel
theorem dX11_set_28 : decode cX11_set 28 = .ok (.ireturn, 1) := by decide +kernel
theorem dX11_set_29 : decode cX11_set 29 = .ok (.aload 4, 2) := by decide +kernel
theorem dX11_set_31 : decode cX11_set 31 = .ok (.iload_n 2, 1) := by decide +kernel
theorem dX11_set_32 : decode cX11_set 32 = .ok (.iconst 1, 1) := by decide +kernel
theorem dX11_set_33 : decode cX11_set 33 = .ok (.invokevirtual 88, 3) := by decide +kernel
theorem dX11_set_36 : decode cX11_set 36 = .ok (.ifCond .ne 9, 3) := by decide +kernel
theorem dX11_set_39 : decode cX11_set 39 = .ok (.aload_n 0, 1) := by decide +kernel
theorem dX11_set_40 : decode cX11_set 40 = .ok (.iconst 2, 1) := by decide +kernel
theorem dX11_set_41 : decode cX11_set 41 = .ok (.invokevirtual 73, 3) := by decide +kernel
theorem dX11_set_44 : decode cX11_set 44 = .ok (.ireturn, 1) := by decide +kernel
theorem dX11_set_45 : decode cX11_set 45 = .ok (.aload 4, 2) := by decide +kernel
theorem dX11_set_47 : decode cX11_set 47 = .ok (.getfield 92, 3) := by decide +kernel
theorem dX11_set_50 : decode cX11_set 50 = .ok (.iload_n 2, 1) := by decide +kernel
theorem dX11_set_51 : decode cX11_set 51 = .ok (.aload 4, 2) := by decide +kernel
theorem dX11_set_53 : decode cX11_set 53 = .ok (.iload_n 3, 1) := by decide +kernel
theorem dX11_set_54 : decode cX11_set 54 = .ok (.invokevirtual 95, 3) := by decide +kernel
theorem dX11_set_57 : decode cX11_set 57 = .ok (.iastore, 1) := by decide +kernel
theorem dX11_set_58 : decode cX11_set 58 = .ok (.aload_n 0, 1) := by decide +kernel
theorem dX11_set_59 : decode cX11_set 59 = .ok (.aload 4, 2) := by decide +kernel
theorem dX11_set_61 : decode cX11_set 61 = .ok (.getfield 92, 3) := by decide +kernel
theorem dX11_set_64 : decode cX11_set 64 = .ok (.iload_n 2, 1) := by decide +kernel
theorem dX11_set_65 : decode cX11_set 65 = .ok (.iaload, 1) := by decide +kernel
theorem dX11_set_66 : decode cX11_set 66 = .ok (.invokevirtual 81, 3) := by decide +kernel
theorem dX11_set_69 : decode cX11_set 69 = .ok (.ireturn, 1) := by decide +kernel
theorem dX11_copy_0 : decode cX11_copy 0 = .ok (.aload_n 0, 1) := by decide +kernel
theorem dX11_copy_1 : decode cX11_copy 1 = .ok (.iload_n 1, 1) := by decide +kernel
theorem dX11_copy_2 : decode cX11_copy 2 = .ok (.invokevirtual 64, 3) := by decide +kernel
theorem dX11_copy_5 : decode cX11_copy 5 = .ok (.astore 6, 2) := by decide +kernel
theorem dX11_copy_7 : decode cX11_copy 7 = .ok (.aload_n 0, 1) := by decide +kernel
theorem dX11_copy_8 : decode cX11_copy 8 = .ok (.iload_n 3, 1) := by decide +kernel
theorem dX11_copy_9 : decode cX11_copy 9 = .ok (.invokevirtual 64, 3) := by decide +kernel
theorem dX11_copy_12 : decode cX11_copy 12 = .ok (.astore 7, 2) := by decide +kernel
theorem dX11_copy_14 : decode cX11_copy 14 = .ok (.aload 6, 2) := by decide +kernel
theorem dX11_copy_16 : decode cX11_copy 16 = .ok (.ifnull 8, 3) := by decide +kernel
theorem dX11_copy_19 : decode cX11_copy 19 = .ok (.aload 7, 2) := by decide +kernel
theorem dX11_copy_21 : decode cX11_copy 21 = .ok (.ifnonnull 6, 3) := by decide +kernel
theorem dX11_copy_24 : decode cX11_copy 24 = .ok (.ldc 72, 2) := by decide +kernel
theorem dX11_copy_26 : decode cX11_copy 26 = .ok (.ireturn, 1) := by decide +kernel
theorem dX11_copy_27 : decode cX11_copy 27 = .ok (.aload 6, 2) := by decide +kernel
theorem dX11_copy_29 : decode cX11_copy 29 = .ok (.getfield 84, 3) := by decide +kernel
theorem dX11_copy_32 : decode cX11_copy 32 = .ok (.ifCond .ne 11, 3) := by decide +kernel
theorem dX11_copy_35 : decode cX11_copy 35 = .ok (.aload 7, 2) := by decide +kernel
theorem dX11_copy_37 : decode cX11_copy 37 = .ok (.getfield 84, 3) := by decide +kernel
theorem dX11_copy_40 : decode cX11_copy 40 = .ok (.ifCond .eq 9, 3) := by decide +kernel
theorem dX11_copy_43 : decode cX11_copy 43 = .ok (.aload_n 0, 1) := by decide +kernel
theorem dX11_copy_44 : decode cX11_copy 44 = .ok (.iconst 1, 1) := by decide +kernel
theorem dX11_copy_45 : decode cX11_copy 45 = .ok (.invokevirtual 73, 3) := by decide +kernel
theorem dX11_copy_48 : decode cX11_copy 48 = .ok (.ireturn, 1) := by decide +kernel
theorem dX11_copy_49 : decode cX11_copy 49 = .ok (.aload 6, 2) := by decide +kernel
theorem dX11_copy_51 : decode cX11_copy 51 = .ok (.getfield 98, 3) := by decide +kernel
theorem dX11_copy_54 : decode cX11_copy 54 = .ok (.aload 7, 2) := by decide +kernel
theorem dX11_copy_56 : decode cX11_copy 56 = .ok (.getfield 98, 3) := by decide +kernel
theorem dX11_copy_59 : decode cX11_copy 59 = .ok (.if_icmp .eq 9, 3) := by decide +kernel
theorem dX11_copy_62 : decode cX11_copy 62 = .ok (.aload_n 0, 1) := by decide +kernel
theorem dX11_copy_63 : decode cX11_copy 63 = .ok (.iconst 5, 1) := by decide +kernel
theorem dX11_copy_64 : decode cX11_copy 64 = .ok (.invokevirtual 73, 3) := by decide +kernel
theorem dX11_copy_67 : decode cX11_copy 67 = .ok (.ireturn, 1) := by decide +kernel
theorem dX11_copy_68 : decode cX11_copy 68 = .ok (.aload 6, 2) := by decide +kernel
theorem dX11_copy_70 : decode cX11_copy 70 = .ok (.iload_n 2, 1) := by decide +kernel
theorem dX11_copy_71 : decode cX11_copy 71 = .ok (.iload 5, 2) := by decide +kernel
theorem dX11_copy_73 : decode cX11_copy 73 = .ok (.invokevirtual 88, 3) := by decide +kernel
theorem dX11_copy_76 : decode cX11_copy 76 = .ok (.ifCond .eq 15, 3) := by decide +kernel
theorem dX11_copy_79 : decode cX11_copy 79 = .ok (.aload 7, 2) := by decide +kernel
theorem dX11_copy_81 : decode cX11_copy 81 = .ok (.iload 4, 2) := by decide +kernel
theorem dX11_copy_83 : decode cX11_copy 83 = .ok (.iload 5, 2) := by decide +kernel
theorem dX11_copy_85 : decode cX11_copy 85 = .ok (.invokevirtual 88, 3) := by decide +kernel
theorem dX11_copy_88 : decode cX11_copy 88 = .ok (.ifCond .ne 9, 3) := by decide +kernel
theorem dX11_copy_91 : decode cX11_copy 91 = .ok (.aload_n 0, 1) := by decide +kernel
theorem dX11_copy_92 : decode cX11_copy 92 = .ok (.iconst 2, 1) := by decide +kernel
theorem dX11_copy_93 : decode cX11_copy 93 = .ok (.invokevirtual 73, 3) := by decide +kernel
theorem dX11_copy_96 : decode cX11_copy 96 = .ok (.ireturn, 1) := by decide +kernel
theorem dX11_copy_97 : decode cX11_copy 97 = .ok (.aload 6, 2) := by decide +kernel
theorem dX11_copy_99 : decode cX11_copy 99 = .ok (.getfield 92, 3) := by decide +kernel
theorem dX11_copy_102 : decode cX11_copy 102 = .ok (.iload_n 2, 1) := by decide +kernel
theorem dX11_copy_103 : decode cX11_copy 103 = .ok (.aload 7, 2) := by decide +kernel
theorem dX11_copy_105 : decode cX11_copy 105 = .ok (.getfield 92, 3) := by decide +kernel
theorem dX11_copy_108 : decode cX11_copy 108 = .ok (.iload 4, 2) := by decide +kernel
theorem dX11_copy_110 : decode cX11_copy 110 = .ok (.iload 5, 2) := by decide +kernel
theorem dX11_copy_112 : decode cX11_copy 112 = .ok (.invokestatic 101, 3) := by decide +kernel
theorem dX11_copy_115 : decode cX11_copy 115 = .ok (.aload_n 0, 1) := by decide +kernel
theorem dX11_copy_116 : decode cX11_copy 116 = .ok (.iload 5, 2) := by decide +kernel
theorem dX11_copy_118 : decode cX11_copy 118 = .ok (.invokevirtual 81, 3) := by decide +kernel
theorem dX11_copy_121 : decode cX11_copy 121 = .ok (.ireturn, 1) := by decide +kernel
theorem dX11_drop_0 : decode cX11_drop 0 = .ok (.aload_n 0, 1) := by decide +kernel
theorem dX11_drop_1 : decode cX11_drop 1 = .ok (.iload_n 1, 1) := by decide +kernel
theorem dX11_drop_2 : decode cX11_drop 2 = .ok (.invokevirtual 64, 3) := by decide +kernel
theorem dX11_drop_5 : decode cX11_drop 5 = .ok (.astore_n 2, 1) := by decide +kernel
theorem dX11_drop_6 : decode cX11_drop 6 = .ok (.aload_n 2, 1) := by decide +kernel
theorem dX11_drop_7 : decode cX11_drop 7 = .ok (.ifnonnull 6, 3) := by decide +kernel
theorem dX11_drop_10 : decode cX11_drop 10 = .ok (.ldc 72, 2) := by decide +kernel
theorem dX11_drop_12 : decode cX11_drop 12 = .ok (.ireturn, 1) := by decide +kernel
theorem dX11_drop_13 : decode cX11_drop 13 = .ok (.aload_n 2, 1) := by decide +kernel
theorem dX11_drop_14 : decode cX11_drop 14 = .ok (.getfield 84, 3) := by decide +kernel
theorem dX11_drop_17 : decode cX11_drop 17 = .ok (.ifCond .eq 9, 3) := by decide +kernel
theorem dX11_drop_20 : decode cX11_drop 20 = .ok (.aload_n 0, 1) := by decide +kernel
theorem dX11_drop_21 : decode cX11_drop 21 = .ok (.iconst 1, 1) := by decide +kernel
theorem dX11_drop_22 : decode cX11_drop 22 = .ok (.invokevirtual 73, 3) := by decide +kernel
theorem dX11_drop_25 : decode cX11_drop 25 = .ok (.ireturn, 1) := by decide +kernel
theorem dX11_drop_26 : decode cX11_drop 26 = .ok (.aload_n 2, 1) := by decide +kernel
theorem dX11_drop_27 : decode cX11_drop 27 = .ok (.iconst 1, 1) := by decide +kernel
theorem dX11_drop_28 : decode cX11_drop 28 = .ok (.putfield 84, 3) := by decide +kernel
theorem dX11_drop_31 : decode cX11_drop 31 = .ok (.aload_n 0, 1) := by decide +kernel
theorem dX11_drop_32 : decode cX11_drop 32 = .ok (.aload_n 2, 1) := by decide +kernel
theorem dX11_drop_33 : decode cX11_drop 33 = .ok (.getfield 107, 3) := by decide +kernel
theorem dX11_drop_36 : decode cX11_drop 36 = .ok (.invokevirtual 81, 3) := by decide +kernel
theorem dX11_drop_39 : decode cX11_drop 39 = .ok (.ireturn, 1) := by decide +kernel
theorem dX11_clear_0 : decode cX11_clear 0 = .ok (.aload_n 0, 1) := by decide +kernel
theorem dX11_clear_1 : decode cX11_clear 1 = .ok (.iload_n 1, 1) := by decide +kernel
theorem dX11_clear_2 : decode cX11_clear 2 = .ok (.invokevirtual 110, 3) := by decide +kernel
theorem dX11_clear_5 : decode cX11_clear 5 = .ok (.astore_n 2, 1) := by decide +kernel
theorem dX11_clear_6 : decode cX11_clear 6 = .ok (.aload_n 2, 1) := by decide +kernel
theorem dX11_clear_7 : decode cX11_clear 7 = .ok (.ifnonnull 6, 3) := by decide +kernel
theorem dX11_clear_10 : decode cX11_clear 10 = .ok (.ldc 72, 2) := by decide +kernel
theorem dX11_clear_12 : decode cX11_clear 12 = .ok (.ireturn, 1) := by decide +kernel
theorem dX11_clear_13 : decode cX11_clear 13 = .ok (.aload_n 2, 1) := by decide +kernel
theorem dX11_clear_14 : decode cX11_clear 14 = .ok (.getfield 114, 3) := by decide +kernel
theorem dX11_clear_17 : decode cX11_clear 17 = .ok (.istore_n 3, 1) := by decide +kernel
theorem dX11_clear_18 : decode cX11_clear 18 = .ok (.aload_n 2, 1) := by decide +kernel
theorem dX11_clear_19 : decode cX11_clear 19 = .ok (.iconst 0, 1) := by decide +kernel
theorem dX11_clear_20 : decode cX11_clear 20 = .ok (.putfield 114, 3) := by decide +kernel
theorem dX11_clear_23 : decode cX11_clear 23 = .ok (.iload_n 3, 1) := by decide +kernel
theorem dX11_clear_24 : decode cX11_clear 24 = .ok (.ireturn, 1) := by decide +kernel
theorem dX11_add_0 : decode cX11_add 0 = .ok (.aload_n 0, 1) := by decide +kernel
theorem dX11_add_1 : decode cX11_add 1 = .ok (.iload_n 1, 1) := by decide +kernel
theorem dX11_add_2 : decode cX11_add 2 = .ok (.invokevirtual 110, 3) := by decide +kernel
theorem dX11_add_5 : decode cX11_add 5 = .ok (.astore 4, 2) := by decide +kernel
theorem dX11_add_7 : decode cX11_add 7 = .ok (.aload 4, 2) := by decide +kernel
theorem dX11_add_9 : decode cX11_add 9 = .ok (.ifnull 11, 3) := by decide +kernel
theorem dX11_add_12 : decode cX11_add 12 = .ok (.aload_n 0, 1) := by decide +kernel
theorem dX11_add_13 : decode cX11_add 13 = .ok (.iload_n 2, 1) := by decide +kernel
theorem dX11_add_14 : decode cX11_add 14 = .ok (.invokevirtual 115, 3) := by decide +kernel
theorem dX11_add_17 : decode cX11_add 17 = .ok (.ifCond .ne 6, 3) := by decide +kernel
theorem dX11_add_20 : decode cX11_add 20 = .ok (.ldc 72, 2) := by decide +kernel
theorem dX11_add_22 : decode cX11_add 22 = .ok (.ireturn, 1) := by decide +kernel
theorem dX11_add_23 : decode cX11_add 23 = .ok (.aload_n 0, 1) := by decide +kernel
theorem dX11_add_24 : decode cX11_add 24 = .ok (.getfield 21, 3) := by decide +kernel
theorem dX11_add_27 : decode cX11_add 27 = .ok (.invokevirtual 119, 3) := by decide +kernel
theorem dX11_add_30 : decode cX11_add 30 = .ok (.aload_n 0, 1) := by decide +kernel
theorem dX11_add_31 : decode cX11_add 31 = .ok (.getfield 21, 3) := by decide +kernel
theorem dX11_add_34 : decode cX11_add 34 = .ok (.aload 4, 2) := by decide +kernel
theorem dX11_add_36 : decode cX11_add 36 = .ok (.iconst 1, 1) := by decide +kernel
theorem dX11_add_37 : decode cX11_add 37 = .ok (.invokevirtual 122, 3) := by decide +kernel
theorem dX11_add_40 : decode cX11_add 40 = .ok (.aload_n 0, 1) := by decide +kernel
theorem dX11_add_41 : decode cX11_add 41 = .ok (.getfield 21, 3) := by decide +kernel
theorem dX11_add_44 : decode cX11_add 44 = .ok (.iload_n 2, 1) := by decide +kernel
theorem dX11_add_45 : decode cX11_add 45 = .ok (.bipush 20, 2) := by decide +kernel
theorem dX11_add_47 : decode cX11_add 47 = .ok (.ishl, 1) := by decide +kernel
theorem dX11_add_48 : decode cX11_add 48 = .ok (.iload_n 3, 1) := by decide +kernel
theorem dX11_add_49 : decode cX11_add 49 = .ok (.i2l, 1) := by decide +kernel
theorem dX11_add_50 : decode cX11_add 50 = .ok (.invokevirtual 126, 3) := by decide +kernel
theorem dX11_add_53 : decode cX11_add 53 = .ok (.aload_n 0, 1) := by decide +kernel
theorem dX11_add_54 : decode cX11_add 54 = .ok (.getfield 21, 3) := by decide +kernel
theorem dX11_add_57 : decode cX11_add 57 = .ok (.aload 4, 2) := by decide +kernel
theorem dX11_add_59 : decode cX11_add 59 = .ok (.invokevirtual 130, 3) := by decide +kernel
theorem dX11_add_62 : decode cX11_add 62 = .ok (.ifCond .eq 11, 3) := by decide +kernel
theorem dX11_add_65 : decode cX11_add 65 = .ok (.aload 4, 2) := by decide +kernel
theorem dX11_add_67 : decode cX11_add 67 = .ok (.getfield 114, 3) := by decide +kernel
theorem dX11_add_70 : decode cX11_add 70 = .ok (.goto 5, 3) := by decide +kernel
theorem dX11_add_73 : decode cX11_add 73 = .ok (.ldc 134, 2) := by decide +kernel
theorem dX11_add_75 : decode cX11_add 75 = .ok (.ireturn, 1) := by decide +kernel
theorem dX11_take_0 : decode cX11_take 0 = .ok (.aload_n 0, 1) := by decide +kernel
theorem dX11_take_1 : decode cX11_take 1 = .ok (.iload_n 1, 1) := by decide +kernel
theorem dX11_take_2 : decode cX11_take 2 = .ok (.invokevirtual 110, 3) := by decide +kernel
theorem dX11_take_5 : decode cX11_take 5 = .ok (.astore_n 3, 1) := by decide +kernel
theorem dX11_take_6 : decode cX11_take 6 = .ok (.aload_n 0, 1) := by decide +kernel
theorem dX11_take_7 : decode cX11_take 7 = .ok (.iload_n 2, 1) := by decide +kernel
theorem dX11_take_8 : decode cX11_take 8 = .ok (.invokevirtual 110, 3) := by decide +kernel
theorem dX11_take_11 : decode cX11_take 11 = .ok (.astore 4, 2) := by decide +kernel
theorem dX11_take_13 : decode cX11_take 13 = .ok (.aload_n 3, 1) := by decide +kernel
theorem dX11_take_14 : decode cX11_take 14 = .ok (.ifnull 8, 3) := by decide +kernel
theorem dX11_take_17 : decode cX11_take 17 = .ok (.aload 4, 2) := by decide +kernel
theorem dX11_take_19 : decode cX11_take 19 = .ok (.ifnonnull 6, 3) := by decide +kernel
theorem dX11_take_22 : decode cX11_take 22 = .ok (.ldc 72, 2) := by decide +kernel
theorem dX11_take_24 : decode cX11_take 24 = .ok (.ireturn, 1) := by decide +kernel
theorem dX11_take_25 : decode cX11_take 25 = .ok (.aload_n 3, 1) := by decide +kernel
theorem dX11_take_26 : decode cX11_take 26 = .ok (.aload 4, 2) := by decide +kernel
theorem dX11_take_28 : decode cX11_take 28 = .ok (.invokevirtual 135, 3) := by decide +kernel
theorem dX11_take_31 : decode cX11_take 31 = .ok (.aload_n 3, 1) := by decide +kernel
theorem dX11_take_32 : decode cX11_take 32 = .ok (.getfield 114, 3) := by decide +kernel
theorem dX11_take_35 : decode cX11_take 35 = .ok (.ireturn, 1) := by decide +kernel
theorem dX11_join_0 : decode cX11_join 0 = .ok (.aload_n 0, 1) := by decide +kernel
theorem dX11_join_1 : decode cX11_join 1 = .ok (.iload_n 1, 1) := by decide +kernel
theorem dX11_join_2 : decode cX11_join 2 = .ok (.invokevirtual 110, 3) := by decide +kernel
theorem dX11_join_5 : decode cX11_join 5 = .ok (.astore 4, 2) := by decide +kernel
theorem dX11_join_7 : decode cX11_join 7 = .ok (.aload_n 0, 1) := by decide +kernel
theorem dX11_join_8 : decode cX11_join 8 = .ok (.iload_n 2, 1) := by decide +kernel
theorem dX11_join_9 : decode cX11_join 9 = .ok (.invokevirtual 110, 3) := by decide +kernel
theorem dX11_join_12 : decode cX11_join 12 = .ok (.astore 5, 2) := by decide +kernel
theorem dX11_join_14 : decode cX11_join 14 = .ok (.aload 4, 2) := by decide +kernel
theorem dX11_join_16 : decode cX11_join 16 = .ok (.ifnull 18, 3) := by decide +kernel
theorem dX11_join_19 : decode cX11_join 19 = .ok (.aload 5, 2) := by decide +kernel
theorem dX11_join_21 : decode cX11_join 21 = .ok (.ifnull 13, 3) := by decide +kernel
theorem dX11_join_24 : decode cX11_join 24 = .ok (.iload_n 3, 1) := by decide +kernel
theorem dX11_join_25 : decode cX11_join 25 = .ok (.bipush (-3), 2) := by decide +kernel
theorem dX11_join_27 : decode cX11_join 27 = .ok (.iconst 3, 1) := by decide +kernel
theorem dX11_join_28 : decode cX11_join 28 = .ok (.invokestatic 68, 3) := by decide +kernel
theorem dX11_join_31 : decode cX11_join 31 = .ok (.ifCond .ne 6, 3) := by decide +kernel
theorem dX11_join_34 : decode cX11_join 34 = .ok (.ldc 72, 2) := by decide +kernel
theorem dX11_join_36 : decode cX11_join 36 = .ok (.ireturn, 1) := by decide +kernel
theorem dX11_join_37 : decode cX11_join 37 = .ok (.aload_n 0, 1) := by decide +kernel
theorem dX11_join_38 : decode cX11_join 38 = .ok (.getfield 21, 3) := by decide +kernel
theorem dX11_join_41 : decode cX11_join 41 = .ok (.aload 4, 2) := by decide +kernel
theorem dX11_join_43 : decode cX11_join 43 = .ok (.aload 5, 2) := by decide +kernel
theorem dX11_join_45 : decode cX11_join 45 = .ok (.iload_n 3, 1) := by decide +kernel
theorem dX11_join_46 : decode cX11_join 46 = .ok (.invokevirtual 139, 3) := by decide +kernel
theorem dX11_join_49 : decode cX11_join 49 = .ok (.ifCond .eq 11, 3) := by decide +kernel
theorem dX11_join_52 : decode cX11_join 52 = .ok (.aload 4, 2) := by decide +kernel
theorem dX11_join_54 : decode cX11_join 54 = .ok (.getfield 114, 3) := by decide +kernel
theorem dX11_join_57 : decode cX11_join 57 = .ok (.goto 5, 3) := by decide +kernel
theorem dX11_join_60 : decode cX11_join 60 = .ok (.ldc 134, 2) := by decide +kernel
theorem dX11_join_62 : decode cX11_join 62 = .ok (.ireturn, 1) := by decide +kernel
theorem dX11_quarter_0 : decode cX11_quarter 0 = .ok (.aload_n 0, 1) := by decide +kernel
theorem dX11_quarter_1 : decode cX11_quarter 1 = .ok (.iload_n 1, 1) := by decide +kernel
theorem dX11_quarter_2 : decode cX11_quarter 2 = .ok (.invokevirtual 115, 3) := by decide +kernel
theorem dX11_quarter_5 : decode cX11_quarter 5 = .ok (.ifCond .eq 12, 3) := by decide +kernel
theorem dX11_quarter_8 : decode cX11_quarter 8 = .ok (.iload_n 2, 1) := by decide +kernel
theorem dX11_quarter_9 : decode cX11_quarter 9 = .ok (.iconst 0, 1) := by decide +kernel
theorem dX11_quarter_10 : decode cX11_quarter 10 = .ok (.iconst 3, 1) := by decide +kernel
theorem dX11_quarter_11 : decode cX11_quarter 11 = .ok (.invokestatic 68, 3) := by decide +kernel
theorem dX11_quarter_14 : decode cX11_quarter 14 = .ok (.ifCond .ne 6, 3) := by decide +kernel
theorem dX11_quarter_17 : decode cX11_quarter 17 = .ok (.ldc 72, 2) := by decide +kernel
theorem dX11_quarter_19 : decode cX11_quarter 19 = .ok (.ireturn, 1) := by decide +kernel
theorem dX11_quarter_20 : decode cX11_quarter 20 = .ok (.aload_n 0, 1) := by decide +kernel
theorem dX11_quarter_21 : decode cX11_quarter 21 = .ok (.iload_n 1, 1) := by decide +kernel
theorem dX11_quarter_22 : decode cX11_quarter 22 = .ok (.iload_n 2, 1) := by decide +kernel
theorem dX11_quarter_23 : decode cX11_quarter 23 = .ok (.invokevirtual 143, 3) := by decide +kernel
theorem dX11_quarter_26 : decode cX11_quarter 26 = .ok (.ifCond .eq 13, 3) := by decide +kernel
theorem dX11_quarter_29 : decode cX11_quarter 29 = .ok (.aload_n 0, 1) := by decide +kernel
theorem dX11_quarter_30 : decode cX11_quarter 30 = .ok (.getfield 59, 3) := by decide +kernel
theorem dX11_quarter_33 : decode cX11_quarter 33 = .ok (.getfield 114, 3) := by decide +kernel
theorem dX11_quarter_36 : decode cX11_quarter 36 = .ok (.goto 5, 3) := by decide +kernel
theorem dX11_quarter_39 : decode cX11_quarter 39 = .ok (.ldc 134, 2) := by decide +kernel
theorem dX11_quarter_41 : decode cX11_quarter 41 = .ok (.ireturn, 1) := by decide +kernel
theorem dX11_letter_0 : decode cX11_letter 0 = .ok (.aload_n 0, 1) := by decide +kernel
theorem dX11_letter_1 : decode cX11_letter 1 = .ok (.iload_n 1, 1) := by decide +kernel
theorem dX11_letter_2 : decode cX11_letter 2 = .ok (.invokevirtual 115, 3) := by decide +kernel
theorem dX11_letter_5 : decode cX11_letter 5 = .ok (.ifCond .eq 19, 3) := by decide +kernel
theorem dX11_letter_8 : decode cX11_letter 8 = .ok (.iload_n 2, 1) := by decide +kernel
theorem dX11_letter_9 : decode cX11_letter 9 = .ok (.iconst 0, 1) := by decide +kernel
theorem dX11_letter_10 : decode cX11_letter 10 = .ok (.iconst 3, 1) := by decide +kernel
theorem dX11_letter_11 : decode cX11_letter 11 = .ok (.invokestatic 68, 3) := by decide +kernel
theorem dX11_letter_14 : decode cX11_letter 14 = .ok (.ifCond .eq 10, 3) := by decide +kernel
theorem dX11_letter_17 : decode cX11_letter 17 = .ok (.iload_n 3, 1) := by decide +kernel
theorem dX11_letter_18 : decode cX11_letter 18 = .ok (.invokestatic 146, 3) := by decide +kernel
theorem dX11_letter_21 : decode cX11_letter 21 = .ok (.ifCond .ne 6, 3) := by decide +kernel
theorem dX11_letter_24 : decode cX11_letter 24 = .ok (.ldc 72, 2) := by decide +kernel
theorem dX11_letter_26 : decode cX11_letter 26 = .ok (.ireturn, 1) := by decide +kernel
theorem dX11_letter_27 : decode cX11_letter 27 = .ok (.aload_n 0, 1) := by decide +kernel
theorem dX11_letter_28 : decode cX11_letter 28 = .ok (.iload_n 1, 1) := by decide +kernel
theorem dX11_letter_29 : decode cX11_letter 29 = .ok (.iload_n 2, 1) := by decide +kernel
theorem dX11_letter_30 : decode cX11_letter 30 = .ok (.iload_n 3, 1) := by decide +kernel
theorem dX11_letter_31 : decode cX11_letter 31 = .ok (.invokevirtual 149, 3) := by decide +kernel
theorem dX11_letter_34 : decode cX11_letter 34 = .ok (.ifCond .eq 13, 3) := by decide +kernel
theorem dX11_letter_37 : decode cX11_letter 37 = .ok (.aload_n 0, 1) := by decide +kernel
theorem dX11_letter_38 : decode cX11_letter 38 = .ok (.getfield 59, 3) := by decide +kernel
theorem dX11_letter_41 : decode cX11_letter 41 = .ok (.getfield 114, 3) := by decide +kernel
theorem dX11_letter_44 : decode cX11_letter 44 = .ok (.goto 5, 3) := by decide +kernel
theorem dX11_letter_47 : decode cX11_letter 47 = .ok (.ldc 134, 2) := by decide +kernel
theorem dX11_letter_49 : decode cX11_letter 49 = .ok (.ireturn, 1) := by decide +kernel
theorem dX11_terms_0 : decode cX11_terms 0 = .ok (.aload_n 0, 1) := by decide +kernel
theorem dX11_terms_1 : decode cX11_terms 1 = .ok (.iload_n 1, 1) := by decide +kernel
theorem dX11_terms_2 : decode cX11_terms 2 = .ok (.invokevirtual 110, 3) := by decide +kernel
theorem dX11_terms_5 : decode cX11_terms 5 = .ok (.astore_n 2, 1) := by decide +kernel
theorem dX11_terms_6 : decode cX11_terms 6 = .ok (.aload_n 2, 1) := by decide +kernel
theorem dX11_terms_7 : decode cX11_terms 7 = .ok (.ifnonnull 8, 3) := by decide +kernel
theorem dX11_terms_10 : decode cX11_terms 10 = .ok (.ldc 72, 2) := by decide +kernel
theorem dX11_terms_12 : decode cX11_terms 12 = .ok (.goto 7, 3) := by decide +kernel
theorem dX11_terms_15 : decode cX11_terms 15 = .ok (.aload_n 2, 1) := by decide +kernel
theorem dX11_terms_16 : decode cX11_terms 16 = .ok (.getfield 114, 3) := by decide +kernel
theorem dX11_terms_19 : decode cX11_terms 19 = .ok (.ireturn, 1) := by decide +kernel
theorem dX11_number_0 : decode cX11_number 0 = .ok (.aload_n 0, 1) := by decide +kernel
theorem dX11_number_1 : decode cX11_number 1 = .ok (.iload_n 1, 1) := by decide +kernel
theorem dX11_number_2 : decode cX11_number 2 = .ok (.invokevirtual 110, 3) := by decide +kernel
theorem dX11_number_5 : decode cX11_number 5 = .ok (.astore_n 3, 1) := by decide +kernel
theorem dX11_number_6 : decode cX11_number 6 = .ok (.aload_n 3, 1) := by decide +kernel
theorem dX11_number_7 : decode cX11_number 7 = .ok (.ifnull 17, 3) := by decide +kernel
theorem dX11_number_10 : decode cX11_number 10 = .ok (.iload_n 2, 1) := by decide +kernel
theorem dX11_number_11 : decode cX11_number 11 = .ok (.iconst 0, 1) := by decide +kernel
theorem dX11_number_12 : decode cX11_number 12 = .ok (.aload_n 3, 1) := by decide +kernel
theorem dX11_number_13 : decode cX11_number 13 = .ok (.getfield 114, 3) := by decide +kernel
theorem dX11_number_16 : decode cX11_number 16 = .ok (.iconst 1, 1) := by decide +kernel
theorem dX11_number_17 : decode cX11_number 17 = .ok (.isub, 1) := by decide +kernel
theorem dX11_number_18 : decode cX11_number 18 = .ok (.invokestatic 68, 3) := by decide +kernel
theorem dX11_number_21 : decode cX11_number 21 = .ok (.ifCond .ne 7, 3) := by decide +kernel
theorem dX11_number_24 : decode cX11_number 24 = .ok (.ldc2_w 152, 3) := by decide +kernel
theorem dX11_number_27 : decode cX11_number 27 = .ok (.lreturn, 1) := by decide +kernel
theorem dX11_number_28 : decode cX11_number 28 = .ok (.aload_n 3, 1) := by decide +kernel
theorem dX11_number_29 : decode cX11_number 29 = .ok (.getfield 154, 3) := by decide +kernel
theorem dX11_number_32 : decode cX11_number 32 = .ok (.iload_n 2, 1) := by decide +kernel
theorem dX11_number_33 : decode cX11_number 33 = .ok (.laload, 1) := by decide +kernel
theorem dX11_number_34 : decode cX11_number 34 = .ok (.lreturn, 1) := by decide +kernel
theorem dX11_power_0 : decode cX11_power 0 = .ok (.aload_n 0, 1) := by decide +kernel
theorem dX11_power_1 : decode cX11_power 1 = .ok (.iload_n 1, 1) := by decide +kernel
theorem dX11_power_2 : decode cX11_power 2 = .ok (.invokevirtual 110, 3) := by decide +kernel
theorem dX11_power_5 : decode cX11_power 5 = .ok (.astore 4, 2) := by decide +kernel
theorem dX11_power_7 : decode cX11_power 7 = .ok (.aload 4, 2) := by decide +kernel
theorem dX11_power_9 : decode cX11_power 9 = .ok (.ifnull 28, 3) := by decide +kernel
theorem dX11_power_12 : decode cX11_power 12 = .ok (.iload_n 2, 1) := by decide +kernel
theorem dX11_power_13 : decode cX11_power 13 = .ok (.iconst 0, 1) := by decide +kernel
theorem dX11_power_14 : decode cX11_power 14 = .ok (.aload 4, 2) := by decide +kernel
theorem dX11_power_16 : decode cX11_power 16 = .ok (.getfield 114, 3) := by decide +kernel
theorem dX11_power_19 : decode cX11_power 19 = .ok (.iconst 1, 1) := by decide +kernel
theorem dX11_power_20 : decode cX11_power 20 = .ok (.isub, 1) := by decide +kernel
theorem dX11_power_21 : decode cX11_power 21 = .ok (.invokestatic 68, 3) := by decide +kernel
theorem dX11_power_24 : decode cX11_power 24 = .ok (.ifCond .eq 13, 3) := by decide +kernel
theorem dX11_power_27 : decode cX11_power 27 = .ok (.iload_n 3, 1) := by decide +kernel
theorem dX11_power_28 : decode cX11_power 28 = .ok (.iconst (-1), 1) := by decide +kernel
theorem dX11_power_29 : decode cX11_power 29 = .ok (.bipush 7, 2) := by decide +kernel
theorem dX11_power_31 : decode cX11_power 31 = .ok (.invokestatic 68, 3) := by decide +kernel
theorem dX11_power_34 : decode cX11_power 34 = .ok (.ifCond .ne 6, 3) := by decide +kernel
theorem dX11_power_37 : decode cX11_power 37 = .ok (.ldc 72, 2) := by decide +kernel
theorem dX11_power_39 : decode cX11_power 39 = .ok (.ireturn, 1) := by decide +kernel
theorem dX11_power_40 : decode cX11_power 40 = .ok (.iload_n 3, 1) := by decide +kernel
theorem dX11_power_41 : decode cX11_power 41 = .ok (.ifCond .ge 16, 3) := by decide +kernel
theorem dX11_power_44 : decode cX11_power 44 = .ok (.aload 4, 2) := by decide +kernel
theorem dX11_power_46 : decode cX11_power 46 = .ok (.getfield 158, 3) := by decide +kernel
theorem dX11_power_49 : decode cX11_power 49 = .ok (.iload_n 2, 1) := by decide +kernel
theorem dX11_power_50 : decode cX11_power 50 = .ok (.iaload, 1) := by decide +kernel
theorem dX11_power_51 : decode cX11_power 51 = .ok (.invokestatic 161, 3) := by decide +kernel
theorem dX11_power_54 : decode cX11_power 54 = .ok (.goto 14, 3) := by decide +kernel
theorem dX11_power_57 : decode cX11_power 57 = .ok (.aload 4, 2) := by decide +kernel
theorem dX11_power_59 : decode cX11_power 59 = .ok (.getfield 158, 3) := by decide +kernel
theorem dX11_power_62 : decode cX11_power 62 = .ok (.iload_n 2, 1) := by decide +kernel
theorem dX11_power_63 : decode cX11_power 63 = .ok (.iaload, 1) := by decide +kernel
theorem dX11_power_64 : decode cX11_power 64 = .ok (.iload_n 3, 1) := by decide +kernel
theorem dX11_power_65 : decode cX11_power 65 = .ok (.invokestatic 164, 3) := by decide +kernel
theorem dX11_power_68 : decode cX11_power 68 = .ok (.ireturn, 1) := by decide +kernel
theorem dX11_same_0 : decode cX11_same 0 = .ok (.aload_n 0, 1) := by decide +kernel
theorem dX11_same_1 : decode cX11_same 1 = .ok (.iload_n 1, 1) := by decide +kernel
theorem dX11_same_2 : decode cX11_same 2 = .ok (.invokevirtual 110, 3) := by decide +kernel
theorem dX11_same_5 : decode cX11_same 5 = .ok (.astore_n 3, 1) := by decide +kernel
theorem dX11_same_6 : decode cX11_same 6 = .ok (.aload_n 0, 1) := by decide +kernel
theorem dX11_same_7 : decode cX11_same 7 = .ok (.iload_n 2, 1) := by decide +kernel
theorem dX11_same_8 : decode cX11_same 8 = .ok (.invokevirtual 110, 3) := by decide +kernel
theorem dX11_same_11 : decode cX11_same 11 = .ok (.astore 4, 2) := by decide +kernel
theorem dX11_same_13 : decode cX11_same 13 = .ok (.aload_n 3, 1) := by decide +kernel
theorem dX11_same_14 : decode cX11_same 14 = .ok (.ifnull 8, 3) := by decide +kernel
theorem dX11_same_17 : decode cX11_same 17 = .ok (.aload 4, 2) := by decide +kernel
theorem dX11_same_19 : decode cX11_same 19 = .ok (.ifnonnull 6, 3) := by decide +kernel
theorem dX11_same_22 : decode cX11_same 22 = .ok (.ldc 72, 2) := by decide +kernel
theorem dX11_same_24 : decode cX11_same 24 = .ok (.ireturn, 1) := by decide +kernel
theorem dX11_same_25 : decode cX11_same 25 = .ok (.aload_n 3, 1) := by decide +kernel
theorem dX11_same_26 : decode cX11_same 26 = .ok (.aload 4, 2) := by decide +kernel
theorem dX11_same_28 : decode cX11_same 28 = .ok (.invokevirtual 167, 3) := by decide +kernel
theorem dX11_same_31 : decode cX11_same 31 = .ok (.ifCond .eq 7, 3) := by decide +kernel
theorem dX11_same_34 : decode cX11_same 34 = .ok (.iconst 1, 1) := by decide +kernel
theorem dX11_same_35 : decode cX11_same 35 = .ok (.goto 4, 3) := by decide +kernel
theorem dX11_same_38 : decode cX11_same 38 = .ok (.iconst 0, 1) := by decide +kernel
theorem dX11_same_39 : decode cX11_same 39 = .ok (.ireturn, 1) := by decide +kernel
theorem dX11_product_0 : decode cX11_product 0 = .ok (.aload_n 0, 1) := by decide +kernel
theorem dX11_product_1 : decode cX11_product 1 = .ok (.iload_n 1, 1) := by decide +kernel
theorem dX11_product_2 : decode cX11_product 2 = .ok (.invokevirtual 110, 3) := by decide +kernel
theorem dX11_product_5 : decode cX11_product 5 = .ok (.astore 4, 2) := by decide +kernel
theorem dX11_product_7 : decode cX11_product 7 = .ok (.aload_n 0, 1) := by decide +kernel
theorem dX11_product_8 : decode cX11_product 8 = .ok (.iload_n 2, 1) := by decide +kernel
theorem dX11_product_9 : decode cX11_product 9 = .ok (.invokevirtual 110, 3) := by decide +kernel
theorem dX11_product_12 : decode cX11_product 12 = .ok (.astore 5, 2) := by decide +kernel
theorem dX11_product_14 : decode cX11_product 14 = .ok (.aload_n 0, 1) := by decide +kernel
theorem dX11_product_15 : decode cX11_product 15 = .ok (.iload_n 3, 1) := by decide +kernel
theorem dX11_product_16 : decode cX11_product 16 = .ok (.invokevirtual 110, 3) := by decide +kernel
theorem dX11_product_19 : decode cX11_product 19 = .ok (.astore 6, 2) := by decide +kernel
theorem dX11_product_21 : decode cX11_product 21 = .ok (.aload 4, 2) := by decide +kernel
theorem dX11_product_23 : decode cX11_product 23 = .ok (.ifnull 13, 3) := by decide +kernel
theorem dX11_product_26 : decode cX11_product 26 = .ok (.aload 5, 2) := by decide +kernel
theorem dX11_product_28 : decode cX11_product 28 = .ok (.ifnull 8, 3) := by decide +kernel
theorem dX11_product_31 : decode cX11_product 31 = .ok (.aload 6, 2) := by decide +kernel
theorem dX11_product_33 : decode cX11_product 33 = .ok (.ifnonnull 6, 3) := by decide +kernel
theorem dX11_product_36 : decode cX11_product 36 = .ok (.ldc 72, 2) := by decide +kernel
theorem dX11_product_38 : decode cX11_product 38 = .ok (.ireturn, 1) := by decide +kernel
theorem dX11_product_39 : decode cX11_product 39 = .ok (.aload_n 0, 1) := by decide +kernel
theorem dX11_product_40 : decode cX11_product 40 = .ok (.getfield 21, 3) := by decide +kernel
theorem dX11_product_43 : decode cX11_product 43 = .ok (.aload 4, 2) := by decide +kernel
theorem dX11_product_45 : decode cX11_product 45 = .ok (.aload 5, 2) := by decide +kernel
theorem dX11_product_47 : decode cX11_product 47 = .ok (.aload 6, 2) := by decide +kernel
theorem dX11_product_49 : decode cX11_product 49 = .ok (.invokevirtual 170, 3) := by decide +kernel
theorem dX11_product_52 : decode cX11_product 52 = .ok (.ifCond .eq 11, 3) := by decide +kernel
theorem dX11_product_55 : decode cX11_product 55 = .ok (.aload 4, 2) := by decide +kernel
theorem dX11_product_57 : decode cX11_product 57 = .ok (.getfield 114, 3) := by decide +kernel
theorem dX11_product_60 : decode cX11_product 60 = .ok (.goto 5, 3) := by decide +kernel
theorem dX11_product_63 : decode cX11_product 63 = .ok (.ldc 134, 2) := by decide +kernel
theorem dX11_product_65 : decode cX11_product 65 = .ok (.ireturn, 1) := by decide +kernel
theorem dX11_digest_0 : decode cX11_digest 0 = .ok (.aload_n 0, 1) := by decide +kernel
theorem dX11_digest_1 : decode cX11_digest 1 = .ok (.iload_n 1, 1) := by decide +kernel
theorem dX11_digest_2 : decode cX11_digest 2 = .ok (.invokevirtual 110, 3) := by decide +kernel
theorem dX11_digest_5 : decode cX11_digest 5 = .ok (.astore_n 2, 1) := by decide +kernel
theorem dX11_digest_6 : decode cX11_digest 6 = .ok (.aload_n 2, 1) := by decide +kernel
theorem dX11_digest_7 : decode cX11_digest 7 = .ok (.ifnonnull 7, 3) := by decide +kernel
theorem dX11_digest_10 : decode cX11_digest 10 = .ok (.ldc2_w 152, 3) := by decide +kernel
theorem dX11_digest_13 : decode cX11_digest 13 = .ok (.lreturn, 1) := by decide +kernel
theorem dX11_digest_14 : decode cX11_digest 14 = .ok (.ldc2_w 174, 3) := by decide +kernel
theorem dX11_digest_17 : decode cX11_digest 17 = .ok (.lstore_n 3, 1) := by decide +kernel
theorem dX11_digest_18 : decode cX11_digest 18 = .ok (.iconst 0, 1) := by decide +kernel
theorem dX11_digest_19 : decode cX11_digest 19 = .ok (.istore 5, 2) := by decide +kernel
theorem dX11_digest_21 : decode cX11_digest 21 = .ok (.iload 5, 2) := by decide +kernel
theorem dX11_digest_23 : decode cX11_digest 23 = .ok (.aload_n 2, 1) := by decide +kernel
theorem dX11_digest_24 : decode cX11_digest 24 = .ok (.getfield 114, 3) := by decide +kernel
theorem dX11_digest_27 : decode cX11_digest 27 = .ok (.if_icmp .ge 77, 3) := by decide +kernel
theorem dX11_digest_30 : decode cX11_digest 30 = .ok (.ldc2_w 176, 3) := by decide +kernel
theorem dX11_digest_33 : decode cX11_digest 33 = .ok (.lload_n 3, 1) := by decide +kernel
theorem dX11_digest_34 : decode cX11_digest 34 = .ok (.lmul, 1) := by decide +kernel
theorem dX11_digest_35 : decode cX11_digest 35 = .ok (.aload_n 2, 1) := by decide +kernel
theorem dX11_digest_36 : decode cX11_digest 36 = .ok (.getfield 158, 3) := by decide +kernel
theorem dX11_digest_39 : decode cX11_digest 39 = .ok (.iload 5, 2) := by decide +kernel
theorem dX11_digest_41 : decode cX11_digest 41 = .ok (.iaload, 1) := by decide +kernel
theorem dX11_digest_42 : decode cX11_digest 42 = .ok (.invokestatic 161, 3) := by decide +kernel
theorem dX11_digest_45 : decode cX11_digest 45 = .ok (.i2l, 1) := by decide +kernel
theorem dX11_digest_46 : decode cX11_digest 46 = .ok (.ladd, 1) := by decide +kernel
theorem dX11_digest_47 : decode cX11_digest 47 = .ok (.lstore_n 3, 1) := by decide +kernel
theorem dX11_digest_48 : decode cX11_digest 48 = .ok (.iconst 0, 1) := by decide +kernel
theorem dX11_digest_49 : decode cX11_digest 49 = .ok (.istore 6, 2) := by decide +kernel
theorem dX11_digest_51 : decode cX11_digest 51 = .ok (.iload 6, 2) := by decide +kernel
theorem dX11_digest_53 : decode cX11_digest 53 = .ok (.bipush 8, 2) := by decide +kernel
theorem dX11_digest_55 : decode cX11_digest 55 = .ok (.if_icmp .ge 29, 3) := by decide +kernel
theorem dX11_digest_58 : decode cX11_digest 58 = .ok (.ldc2_w 176, 3) := by decide +kernel
theorem dX11_digest_61 : decode cX11_digest 61 = .ok (.lload_n 3, 1) := by decide +kernel
theorem dX11_digest_62 : decode cX11_digest 62 = .ok (.lmul, 1) := by decide +kernel
theorem dX11_digest_63 : decode cX11_digest 63 = .ok (.aload_n 2, 1) := by decide +kernel
theorem dX11_digest_64 : decode cX11_digest 64 = .ok (.getfield 158, 3) := by decide +kernel
theorem dX11_digest_67 : decode cX11_digest 67 = .ok (.iload 5, 2) := by decide +kernel
theorem dX11_digest_69 : decode cX11_digest 69 = .ok (.iaload, 1) := by decide +kernel
theorem dX11_digest_70 : decode cX11_digest 70 = .ok (.iload 6, 2) := by decide +kernel
theorem dX11_digest_72 : decode cX11_digest 72 = .ok (.invokestatic 164, 3) := by decide +kernel
theorem dX11_digest_75 : decode cX11_digest 75 = .ok (.i2l, 1) := by decide +kernel
theorem dX11_digest_76 : decode cX11_digest 76 = .ok (.ladd, 1) := by decide +kernel
theorem dX11_digest_77 : decode cX11_digest 77 = .ok (.lstore_n 3, 1) := by decide +kernel
theorem dX11_digest_78 : decode cX11_digest 78 = .ok (.iinc 6 1, 3) := by decide +kernel
theorem dX11_digest_81 : decode cX11_digest 81 = .ok (.goto (-30), 3) := by decide +kernel
theorem dX11_digest_84 : decode cX11_digest 84 = .ok (.ldc2_w 176, 3) := by decide +kernel
theorem dX11_digest_87 : decode cX11_digest 87 = .ok (.lload_n 3, 1) := by decide +kernel
theorem dX11_digest_88 : decode cX11_digest 88 = .ok (.lmul, 1) := by decide +kernel
theorem dX11_digest_89 : decode cX11_digest 89 = .ok (.aload_n 2, 1) := by decide +kernel
theorem dX11_digest_90 : decode cX11_digest 90 = .ok (.getfield 154, 3) := by decide +kernel
theorem dX11_digest_93 : decode cX11_digest 93 = .ok (.iload 5, 2) := by decide +kernel
theorem dX11_digest_95 : decode cX11_digest 95 = .ok (.laload, 1) := by decide +kernel
theorem dX11_digest_96 : decode cX11_digest 96 = .ok (.ladd, 1) := by decide +kernel
theorem dX11_digest_97 : decode cX11_digest 97 = .ok (.lstore_n 3, 1) := by decide +kernel
theorem dX11_digest_98 : decode cX11_digest 98 = .ok (.iinc 5 1, 3) := by decide +kernel
theorem dX11_digest_101 : decode cX11_digest 101 = .ok (.goto (-80), 3) := by decide +kernel
theorem dX11_digest_104 : decode cX11_digest 104 = .ok (.lload_n 3, 1) := by decide +kernel
theorem dX11_digest_105 : decode cX11_digest 105 = .ok (.lreturn, 1) := by decide +kernel
theorem dX11_pulse_0 : decode cX11_pulse 0 = .ok (.aload_n 0, 1) := by decide +kernel
theorem dX11_pulse_1 : decode cX11_pulse 1 = .ok (.iload_n 1, 1) := by decide +kernel
theorem dX11_pulse_2 : decode cX11_pulse 2 = .ok (.iload_n 2, 1) := by decide +kernel
theorem dX11_pulse_3 : decode cX11_pulse 3 = .ok (.iload_n 3, 1) := by decide +kernel
theorem dX11_pulse_4 : decode cX11_pulse 4 = .ok (.invokevirtual 178, 3) := by decide +kernel
theorem dX11_pulse_7 : decode cX11_pulse 7 = .ok (.ifCond .ne 6, 3) := by decide +kernel
theorem dX11_pulse_10 : decode cX11_pulse 10 = .ok (.ldc 72, 2) := by decide +kernel
theorem dX11_pulse_12 : decode cX11_pulse 12 = .ok (.ireturn, 1) := by decide +kernel
theorem dX11_pulse_13 : decode cX11_pulse 13 = .ok (.aload_n 0, 1) := by decide +kernel
theorem dX11_pulse_14 : decode cX11_pulse 14 = .ok (.new 181, 3) := by decide +kernel
theorem dX11_pulse_17 : decode cX11_pulse 17 = .ok (.dup, 1) := by decide +kernel
theorem dX11_pulse_18 : decode cX11_pulse 18 = .ok (.aload_n 0, 1) := by decide +kernel
theorem dX11_pulse_19 : decode cX11_pulse 19 = .ok (.getfield 183, 3) := by decide +kernel
theorem dX11_pulse_22 : decode cX11_pulse 22 = .ok (.aload_n 0, 1) := by decide +kernel
theorem dX11_pulse_23 : decode cX11_pulse 23 = .ok (.getfield 186, 3) := by decide +kernel
theorem dX11_pulse_26 : decode cX11_pulse 26 = .ok (.iload_n 1, 1) := by decide +kernel
theorem dX11_pulse_27 : decode cX11_pulse 27 = .ok (.iload_n 2, 1) := by decide +kernel
theorem dX11_pulse_28 : decode cX11_pulse 28 = .ok (.iload_n 3, 1) := by decide +kernel
theorem dX11_pulse_29 : decode cX11_pulse 29 = .ok (.invokespecial 190, 3) := by decide +kernel
theorem dX11_pulse_32 : decode cX11_pulse 32 = .ok (.invokevirtual 193, 3) := by decide +kernel
theorem dX11_pulse_35 : decode cX11_pulse 35 = .ok (.ireturn, 1) := by decide +kernel
theorem dX11_cycled_0 : decode cX11_cycled 0 = .ok (.aload_n 0, 1) := by decide +kernel
theorem dX11_cycled_1 : decode cX11_cycled 1 = .ok (.iload_n 1, 1) := by decide +kernel
theorem dX11_cycled_2 : decode cX11_cycled 2 = .ok (.iload_n 2, 1) := by decide +kernel
theorem dX11_cycled_3 : decode cX11_cycled 3 = .ok (.iload_n 3, 1) := by decide +kernel
theorem dX11_cycled_4 : decode cX11_cycled 4 = .ok (.invokevirtual 178, 3) := by decide +kernel
theorem dX11_cycled_7 : decode cX11_cycled 7 = .ok (.ifCond .eq 14, 3) := by decide +kernel
theorem dX11_cycled_10 : decode cX11_cycled 10 = .ok (.iload 4, 2) := by decide +kernel
theorem dX11_cycled_12 : decode cX11_cycled 12 = .ok (.iconst 0, 1) := by decide +kernel
theorem dX11_cycled_13 : decode cX11_cycled 13 = .ok (.bipush 7, 2) := by decide +kernel
theorem dX11_cycled_15 : decode cX11_cycled 15 = .ok (.invokestatic 68, 3) := by decide +kernel
theorem dX11_cycled_18 : decode cX11_cycled 18 = .ok (.ifCond .ne 6, 3) := by decide +kernel
theorem dX11_cycled_21 : decode cX11_cycled 21 = .ok (.ldc 72, 2) := by decide +kernel
theorem dX11_cycled_23 : decode cX11_cycled 23 = .ok (.ireturn, 1) := by decide +kernel
theorem dX11_cycled_24 : decode cX11_cycled 24 = .ok (.aload_n 0, 1) := by decide +kernel
theorem dX11_cycled_25 : decode cX11_cycled 25 = .ok (.new 197, 3) := by decide +kernel
theorem dX11_cycled_28 : decode cX11_cycled 28 = .ok (.dup, 1) := by decide +kernel
theorem dX11_cycled_29 : decode cX11_cycled 29 = .ok (.aload_n 0, 1) := by decide +kernel
theorem dX11_cycled_30 : decode cX11_cycled 30 = .ok (.getfield 183, 3) := by decide +kernel
theorem dX11_cycled_33 : decode cX11_cycled 33 = .ok (.aload_n 0, 1) := by decide +kernel
theorem dX11_cycled_34 : decode cX11_cycled 34 = .ok (.getfield 186, 3) := by decide +kernel
theorem dX11_cycled_37 : decode cX11_cycled 37 = .ok (.iload_n 1, 1) := by decide +kernel
theorem dX11_cycled_38 : decode cX11_cycled 38 = .ok (.iload_n 2, 1) := by decide +kernel
theorem dX11_cycled_39 : decode cX11_cycled 39 = .ok (.iload_n 3, 1) := by decide +kernel
theorem dX11_cycled_40 : decode cX11_cycled 40 = .ok (.iload 4, 2) := by decide +kernel
theorem dX11_cycled_42 : decode cX11_cycled 42 = .ok (.invokespecial 199, 3) := by decide +kernel
theorem dX11_cycled_45 : decode cX11_cycled 45 = .ok (.invokevirtual 193, 3) := by decide +kernel
theorem dX11_cycled_48 : decode cX11_cycled 48 = .ok (.ireturn, 1) := by decide +kernel
theorem dX11_delay_0 : decode cX11_delay 0 = .ok (.aload_n 0, 1) := by decide +kernel
theorem dX11_delay_1 : decode cX11_delay 1 = .ok (.iload_n 1, 1) := by decide +kernel
theorem dX11_delay_2 : decode cX11_delay 2 = .ok (.invokevirtual 115, 3) := by decide +kernel
theorem dX11_delay_5 : decode cX11_delay 5 = .ok (.ifCond .eq 19, 3) := by decide +kernel
theorem dX11_delay_8 : decode cX11_delay 8 = .ok (.iload_n 2, 1) := by decide +kernel
theorem dX11_delay_9 : decode cX11_delay 9 = .ok (.iconst 0, 1) := by decide +kernel
theorem dX11_delay_10 : decode cX11_delay 10 = .ok (.iconst 3, 1) := by decide +kernel
theorem dX11_delay_11 : decode cX11_delay 11 = .ok (.invokestatic 68, 3) := by decide +kernel
theorem dX11_delay_14 : decode cX11_delay 14 = .ok (.ifCond .eq 10, 3) := by decide +kernel
theorem dX11_delay_17 : decode cX11_delay 17 = .ok (.iload_n 3, 1) := by decide +kernel
theorem dX11_delay_18 : decode cX11_delay 18 = .ok (.invokestatic 146, 3) := by decide +kernel
theorem dX11_delay_21 : decode cX11_delay 21 = .ok (.ifCond .ne 6, 3) := by decide +kernel
theorem dX11_delay_24 : decode cX11_delay 24 = .ok (.ldc 72, 2) := by decide +kernel
theorem dX11_delay_26 : decode cX11_delay 26 = .ok (.ireturn, 1) := by decide +kernel
theorem dX11_delay_27 : decode cX11_delay 27 = .ok (.aload_n 0, 1) := by decide +kernel
theorem dX11_delay_28 : decode cX11_delay 28 = .ok (.new 202, 3) := by decide +kernel
theorem dX11_delay_31 : decode cX11_delay 31 = .ok (.dup, 1) := by decide +kernel
theorem dX11_delay_32 : decode cX11_delay 32 = .ok (.aload_n 0, 1) := by decide +kernel
theorem dX11_delay_33 : decode cX11_delay 33 = .ok (.getfield 183, 3) := by decide +kernel
theorem dX11_delay_36 : decode cX11_delay 36 = .ok (.aload_n 0, 1) := by decide +kernel
theorem dX11_delay_37 : decode cX11_delay 37 = .ok (.getfield 186, 3) := by decide +kernel
theorem dX11_delay_40 : decode cX11_delay 40 = .ok (.iload_n 1, 1) := by decide +kernel
theorem dX11_delay_41 : decode cX11_delay 41 = .ok (.iload_n 2, 1) := by decide +kernel
theorem dX11_delay_42 : decode cX11_delay 42 = .ok (.iload_n 3, 1) := by decide +kernel
theorem dX11_delay_43 : decode cX11_delay 43 = .ok (.invokespecial 204, 3) := by decide +kernel
theorem dX11_delay_46 : decode cX11_delay 46 = .ok (.invokevirtual 193, 3) := by decide +kernel
theorem dX11_delay_49 : decode cX11_delay 49 = .ok (.ireturn, 1) := by decide +kernel
theorem dX11_round_0 : decode cX11_round 0 = .ok (.iload_n 1, 1) := by decide +kernel
theorem dX11_round_1 : decode cX11_round 1 = .ok (.iconst 1, 1) := by decide +kernel
theorem dX11_round_2 : decode cX11_round 2 = .ok (.bipush 8, 2) := by decide +kernel
theorem dX11_round_4 : decode cX11_round 4 = .ok (.invokestatic 68, 3) := by decide +kernel
theorem dX11_round_7 : decode cX11_round 7 = .ok (.ifCond .ne 6, 3) := by decide +kernel
theorem dX11_round_10 : decode cX11_round 10 = .ok (.ldc 72, 2) := by decide +kernel
theorem dX11_round_12 : decode cX11_round 12 = .ok (.ireturn, 1) := by decide +kernel
theorem dX11_round_13 : decode cX11_round 13 = .ok (.aload_n 0, 1) := by decide +kernel
theorem dX11_round_14 : decode cX11_round 14 = .ok (.invokevirtual 205, 3) := by decide +kernel
theorem dX11_round_17 : decode cX11_round 17 = .ok (.iconst 3, 1) := by decide +kernel
theorem dX11_round_18 : decode cX11_round 18 = .ok (.if_icmp .lt 6, 3) := by decide +kernel
theorem dX11_round_21 : decode cX11_round 21 = .ok (.ldc 209, 2) := by decide +kernel
theorem dX11_round_23 : decode cX11_round 23 = .ok (.ireturn, 1) := by decide +kernel
theorem dX11_round_24 : decode cX11_round 24 = .ok (.new 210, 3) := by decide +kernel
theorem dX11_round_27 : decode cX11_round 27 = .ok (.dup, 1) := by decide +kernel
theorem dX11_round_28 : decode cX11_round 28 = .ok (.aload_n 0, 1) := by decide +kernel
theorem dX11_round_29 : decode cX11_round 29 = .ok (.getfield 183, 3) := by decide +kernel
theorem dX11_round_32 : decode cX11_round 32 = .ok (.aload_n 0, 1) := by decide +kernel
theorem dX11_round_33 : decode cX11_round 33 = .ok (.getfield 186, 3) := by decide +kernel
theorem dX11_round_36 : decode cX11_round 36 = .ok (.iload_n 1, 1) := by decide +kernel
theorem dX11_round_37 : decode cX11_round 37 = .ok (.invokespecial 212, 3) := by decide +kernel
theorem dX11_round_40 : decode cX11_round 40 = .ok (.astore_n 2, 1) := by decide +kernel
theorem dX11_round_41 : decode cX11_round 41 = .ok (.aload_n 0, 1) := by decide +kernel
theorem dX11_round_42 : decode cX11_round 42 = .ok (.aload_n 2, 1) := by decide +kernel
theorem dX11_round_43 : decode cX11_round 43 = .ok (.invokevirtual 193, 3) := by decide +kernel
theorem dX11_round_46 : decode cX11_round 46 = .ok (.istore_n 3, 1) := by decide +kernel
theorem dX11_round_47 : decode cX11_round 47 = .ok (.iload_n 3, 1) := by decide +kernel
theorem dX11_round_48 : decode cX11_round 48 = .ok (.ldc 134, 2) := by decide +kernel
theorem dX11_round_50 : decode cX11_round 50 = .ok (.if_icmp .eq 8, 3) := by decide +kernel
theorem dX11_round_53 : decode cX11_round 53 = .ok (.aload_n 0, 1) := by decide +kernel
theorem dX11_round_54 : decode cX11_round 54 = .ok (.aload_n 2, 1) := by decide +kernel
theorem dX11_round_55 : decode cX11_round 55 = .ok (.putfield 186, 3) := by decide +kernel
theorem dX11_round_58 : decode cX11_round 58 = .ok (.iload_n 3, 1) := by decide +kernel
theorem dX11_round_59 : decode cX11_round 59 = .ok (.ireturn, 1) := by decide +kernel
theorem dX11_end_0 : decode cX11_end 0 = .ok (.aload_n 0, 1) := by decide +kernel
theorem dX11_end_1 : decode cX11_end 1 = .ok (.getfield 186, 3) := by decide +kernel
theorem dX11_end_4 : decode cX11_end 4 = .ok (.astore_n 1, 1) := by decide +kernel
theorem dX11_end_5 : decode cX11_end 5 = .ok (.aload_n 1, 1) := by decide +kernel
theorem dX11_end_6 : decode cX11_end 6 = .ok (.ifnonnull 6, 3) := by decide +kernel
theorem dX11_end_9 : decode cX11_end 9 = .ok (.ldc 209, 2) := by decide +kernel
theorem dX11_end_11 : decode cX11_end 11 = .ok (.ireturn, 1) := by decide +kernel
theorem dX11_end_12 : decode cX11_end 12 = .ok (.aload_n 0, 1) := by decide +kernel
theorem dX11_end_13 : decode cX11_end 13 = .ok (.new 215, 3) := by decide +kernel
theorem dX11_end_16 : decode cX11_end 16 = .ok (.dup, 1) := by decide +kernel
theorem dX11_end_17 : decode cX11_end 17 = .ok (.aload_n 0, 1) := by decide +kernel
theorem dX11_end_18 : decode cX11_end 18 = .ok (.getfield 183, 3) := by decide +kernel
theorem dX11_end_21 : decode cX11_end 21 = .ok (.aload_n 1, 1) := by decide +kernel
theorem dX11_end_22 : decode cX11_end 22 = .ok (.invokespecial 217, 3) := by decide +kernel
theorem dX11_end_25 : decode cX11_end 25 = .ok (.invokevirtual 193, 3) := by decide +kernel
theorem dX11_end_28 : decode cX11_end 28 = .ok (.istore_n 2, 1) := by decide +kernel
theorem dX11_end_29 : decode cX11_end 29 = .ok (.iload_n 2, 1) := by decide +kernel
theorem dX11_end_30 : decode cX11_end 30 = .ok (.ldc 134, 2) := by decide +kernel
theorem dX11_end_32 : decode cX11_end 32 = .ok (.if_icmp .eq 11, 3) := by decide +kernel
theorem dX11_end_35 : decode cX11_end 35 = .ok (.aload_n 0, 1) := by decide +kernel
theorem dX11_end_36 : decode cX11_end 36 = .ok (.aload_n 1, 1) := by decide +kernel
theorem dX11_end_37 : decode cX11_end 37 = .ok (.getfield 220, 3) := by decide +kernel
theorem dX11_end_40 : decode cX11_end 40 = .ok (.putfield 186, 3) := by decide +kernel
theorem dX11_end_43 : decode cX11_end 43 = .ok (.iload_n 2, 1) := by decide +kernel
theorem dX11_end_44 : decode cX11_end 44 = .ok (.ireturn, 1) := by decide +kernel
theorem dX11_store_0 : decode cX11_store 0 = .ok (.iload_n 1, 1) := by decide +kernel
theorem dX11_store_1 : decode cX11_store 1 = .ok (.iconst 0, 1) := by decide +kernel
theorem dX11_store_2 : decode cX11_store 2 = .ok (.bipush 7, 2) := by decide +kernel
theorem dX11_store_4 : decode cX11_store 4 = .ok (.invokestatic 68, 3) := by decide +kernel
theorem dX11_store_7 : decode cX11_store 7 = .ok (.ifCond .eq 13, 3) := by decide +kernel
theorem dX11_store_10 : decode cX11_store 10 = .ok (.iload_n 2, 1) := by decide +kernel
theorem dX11_store_11 : decode cX11_store 11 = .ok (.bipush (-3), 2) := by decide +kernel
theorem dX11_store_13 : decode cX11_store 13 = .ok (.iconst 3, 1) := by decide +kernel
theorem dX11_store_14 : decode cX11_store 14 = .ok (.invokestatic 68, 3) := by decide +kernel
theorem dX11_store_17 : decode cX11_store 17 = .ok (.ifCond .ne 6, 3) := by decide +kernel
theorem dX11_store_20 : decode cX11_store 20 = .ok (.ldc 72, 2) := by decide +kernel
theorem dX11_store_22 : decode cX11_store 22 = .ok (.ireturn, 1) := by decide +kernel
theorem dX11_store_23 : decode cX11_store 23 = .ok (.aload_n 0, 1) := by decide +kernel
theorem dX11_store_24 : decode cX11_store 24 = .ok (.new 223, 3) := by decide +kernel
theorem dX11_store_27 : decode cX11_store 27 = .ok (.dup, 1) := by decide +kernel
theorem dX11_store_28 : decode cX11_store 28 = .ok (.aload_n 0, 1) := by decide +kernel
theorem dX11_store_29 : decode cX11_store 29 = .ok (.getfield 183, 3) := by decide +kernel
theorem dX11_store_32 : decode cX11_store 32 = .ok (.aload_n 0, 1) := by decide +kernel
theorem dX11_store_33 : decode cX11_store 33 = .ok (.getfield 186, 3) := by decide +kernel
theorem dX11_store_36 : decode cX11_store 36 = .ok (.iload_n 1, 1) := by decide +kernel
theorem dX11_store_37 : decode cX11_store 37 = .ok (.iload_n 2, 1) := by decide +kernel
theorem dX11_store_38 : decode cX11_store 38 = .ok (.invokespecial 225, 3) := by decide +kernel
theorem dX11_store_41 : decode cX11_store 41 = .ok (.invokevirtual 193, 3) := by decide +kernel
theorem dX11_store_44 : decode cX11_store 44 = .ok (.ireturn, 1) := by decide +kernel
theorem dX11_back_0 : decode cX11_back 0 = .ok (.aload_n 0, 1) := by decide +kernel
theorem dX11_back_1 : decode cX11_back 1 = .ok (.aload_n 0, 1) := by decide +kernel
theorem dX11_back_2 : decode cX11_back 2 = .ok (.getfield 183, 3) := by decide +kernel
theorem dX11_back_5 : decode cX11_back 5 = .ok (.iconst 1, 1) := by decide +kernel
theorem dX11_back_6 : decode cX11_back 6 = .ok (.isub, 1) := by decide +kernel
theorem dX11_back_7 : decode cX11_back 7 = .ok (.invokevirtual 228, 3) := by decide +kernel
theorem dX11_back_10 : decode cX11_back 10 = .ok (.astore_n 1, 1) := by decide +kernel
theorem dX11_back_11 : decode cX11_back 11 = .ok (.aload_n 1, 1) := by decide +kernel
theorem dX11_back_12 : decode cX11_back 12 = .ok (.ifnonnull 6, 3) := by decide +kernel
theorem dX11_back_15 : decode cX11_back 15 = .ok (.ldc 209, 2) := by decide +kernel
theorem dX11_back_17 : decode cX11_back 17 = .ok (.ireturn, 1) := by decide +kernel
theorem dX11_back_18 : decode cX11_back 18 = .ok (.aload_n 0, 1) := by decide +kernel
theorem dX11_back_19 : decode cX11_back 19 = .ok (.dup, 1) := by decide +kernel
theorem dX11_back_20 : decode cX11_back 20 = .ok (.getfield 183, 3) := by decide +kernel
theorem dX11_back_23 : decode cX11_back 23 = .ok (.iconst 1, 1) := by decide +kernel
theorem dX11_back_24 : decode cX11_back 24 = .ok (.isub, 1) := by decide +kernel
theorem dX11_back_25 : decode cX11_back 25 = .ok (.putfield 183, 3) := by decide +kernel
theorem dX11_back_28 : decode cX11_back 28 = .ok (.aload_n 0, 1) := by decide +kernel
theorem dX11_back_29 : decode cX11_back 29 = .ok (.getfield 33, 3) := by decide +kernel
theorem dX11_back_32 : decode cX11_back 32 = .ok (.aload_n 0, 1) := by decide +kernel
theorem dX11_back_33 : decode cX11_back 33 = .ok (.getfield 183, 3) := by decide +kernel
theorem dX11_back_36 : decode cX11_back 36 = .ok (.aconst_null, 1) := by decide +kernel
theorem dX11_back_37 : decode cX11_back 37 = .ok (.aastore, 1) := by decide +kernel
theorem dX11_back_38 : decode cX11_back 38 = .ok (.aload_n 0, 1) := by decide +kernel
theorem dX11_back_39 : decode cX11_back 39 = .ok (.aload_n 1, 1) := by decide +kernel
theorem dX11_back_40 : decode cX11_back 40 = .ok (.getfield 232, 3) := by decide +kernel
theorem dX11_back_43 : decode cX11_back 43 = .ok (.putfield 186, 3) := by decide +kernel
theorem dX11_back_46 : decode cX11_back 46 = .ok (.aload_n 0, 1) := by decide +kernel
theorem dX11_back_47 : decode cX11_back 47 = .ok (.getfield 183, 3) := by decide +kernel
theorem dX11_back_50 : decode cX11_back 50 = .ok (.ireturn, 1) := by decide +kernel
theorem dX11_kind_0 : decode cX11_kind 0 = .ok (.aload_n 0, 1) := by decide +kernel
theorem dX11_kind_1 : decode cX11_kind 1 = .ok (.iload_n 1, 1) := by decide +kernel
theorem dX11_kind_2 : decode cX11_kind 2 = .ok (.invokevirtual 228, 3) := by decide +kernel
theorem dX11_kind_5 : decode cX11_kind 5 = .ok (.astore_n 2, 1) := by decide +kernel
theorem dX11_kind_6 : decode cX11_kind 6 = .ok (.aload_n 2, 1) := by decide +kernel
theorem dX11_kind_7 : decode cX11_kind 7 = .ok (.ifnonnull 8, 3) := by decide +kernel
theorem dX11_kind_10 : decode cX11_kind 10 = .ok (.ldc 72, 2) := by decide +kernel
theorem dX11_kind_12 : decode cX11_kind 12 = .ok (.goto 7, 3) := by decide +kernel
theorem dX11_kind_15 : decode cX11_kind 15 = .ok (.aload_n 2, 1) := by decide +kernel
theorem dX11_kind_16 : decode cX11_kind 16 = .ok (.invokevirtual 233, 3) := by decide +kernel
theorem dX11_kind_19 : decode cX11_kind 19 = .ok (.ireturn, 1) := by decide +kernel
theorem dX11_is_0 : decode cX11_is 0 = .ok (.aload_n 0, 1) := by decide +kernel
theorem dX11_is_1 : decode cX11_is 1 = .ok (.iload_n 1, 1) := by decide +kernel
theorem dX11_is_2 : decode cX11_is 2 = .ok (.invokevirtual 228, 3) := by decide +kernel
theorem dX11_is_5 : decode cX11_is 5 = .ok (.astore_n 3, 1) := by decide +kernel
theorem dX11_is_6 : decode cX11_is 6 = .ok (.aload_n 3, 1) := by decide +kernel
theorem dX11_is_7 : decode cX11_is 7 = .ok (.ifnull 13, 3) := by decide +kernel
theorem dX11_is_10 : decode cX11_is 10 = .ok (.iload_n 2, 1) := by decide +kernel
theorem dX11_is_11 : decode cX11_is 11 = .ok (.iconst 0, 1) := by decide +kernel
theorem dX11_is_12 : decode cX11_is 12 = .ok (.bipush 7, 2) := by decide +kernel
theorem dX11_is_14 : decode cX11_is 14 = .ok (.invokestatic 68, 3) := by decide +kernel
theorem dX11_is_17 : decode cX11_is 17 = .ok (.ifCond .ne 6, 3) := by decide +kernel
theorem dX11_is_20 : decode cX11_is 20 = .ok (.ldc 72, 2) := by decide +kernel
theorem dX11_is_22 : decode cX11_is 22 = .ok (.ireturn, 1) := by decide +kernel
theorem dX11_is_23 : decode cX11_is 23 = .ok (.aload_n 3, 1) := by decide +kernel
theorem dX11_is_24 : decode cX11_is 24 = .ok (.iload_n 2, 1) := by decide +kernel
theorem dX11_is_25 : decode cX11_is 25 = .ok (.invokevirtual 236, 3) := by decide +kernel
theorem dX11_is_28 : decode cX11_is 28 = .ok (.ifCond .eq 7, 3) := by decide +kernel
theorem dX11_is_31 : decode cX11_is 31 = .ok (.iconst 1, 1) := by decide +kernel
theorem dX11_is_32 : decode cX11_is 32 = .ok (.goto 4, 3) := by decide +kernel
theorem dX11_is_35 : decode cX11_is 35 = .ok (.iconst 0, 1) := by decide +kernel
theorem dX11_is_36 : decode cX11_is 36 = .ok (.ireturn, 1) := by decide +kernel
theorem dX11_spins_0 : decode cX11_spins 0 = .ok (.aload_n 0, 1) := by decide +kernel
theorem dX11_spins_1 : decode cX11_spins 1 = .ok (.iload_n 1, 1) := by decide +kernel
theorem dX11_spins_2 : decode cX11_spins 2 = .ok (.invokevirtual 228, 3) := by decide +kernel
theorem dX11_spins_5 : decode cX11_spins 5 = .ok (.astore_n 2, 1) := by decide +kernel
theorem dX11_spins_6 : decode cX11_spins 6 = .ok (.aload_n 2, 1) := by decide +kernel
theorem dX11_spins_7 : decode cX11_spins 7 = .ok (.ifnonnull 6, 3) := by decide +kernel
theorem dX11_spins_10 : decode cX11_spins 10 = .ok (.ldc 72, 2) := by decide +kernel
theorem dX11_spins_12 : decode cX11_spins 12 = .ok (.ireturn, 1) := by decide +kernel
theorem dX11_spins_13 : decode cX11_spins 13 = .ok (.aload_n 2, 1) := by decide +kernel
theorem dX11_spins_14 : decode cX11_spins 14 = .ok (.instanceof 181, 3) := by decide +kernel
theorem dX11_spins_17 : decode cX11_spins 17 = .ok (.ifCond .eq 17, 3) := by decide +kernel
theorem dX11_spins_20 : decode cX11_spins 20 = .ok (.aload_n 2, 1) := by decide +kernel
theorem dX11_spins_21 : decode cX11_spins 21 = .ok (.checkcast 181, 3) := by decide +kernel
theorem dX11_spins_24 : decode cX11_spins 24 = .ok (.astore_n 3, 1) := by decide +kernel
theorem dX11_spins_25 : decode cX11_spins 25 = .ok (.aload_n 0, 1) := by decide +kernel
theorem dX11_spins_26 : decode cX11_spins 26 = .ok (.aload_n 3, 1) := by decide +kernel
theorem dX11_spins_27 : decode cX11_spins 27 = .ok (.getfield 239, 3) := by decide +kernel
theorem dX11_spins_30 : decode cX11_spins 30 = .ok (.invokevirtual 81, 3) := by decide +kernel
theorem dX11_spins_33 : decode cX11_spins 33 = .ok (.ireturn, 1) := by decide +kernel
theorem dX11_spins_34 : decode cX11_spins 34 = .ok (.aload_n 0, 1) := by decide +kernel
theorem dX11_spins_35 : decode cX11_spins 35 = .ok (.iconst 3, 1) := by decide +kernel
theorem dX11_spins_36 : decode cX11_spins 36 = .ok (.invokevirtual 73, 3) := by decide +kernel
theorem dX11_spins_39 : decode cX11_spins 39 = .ok (.ireturn, 1) := by decide +kernel
theorem dX11_ask_0 : decode cX11_ask 0 = .ok (.aload_n 0, 1) := by decide +kernel
theorem dX11_ask_1 : decode cX11_ask 1 = .ok (.iload_n 1, 1) := by decide +kernel
theorem dX11_ask_2 : decode cX11_ask 2 = .ok (.invokevirtual 228, 3) := by decide +kernel
theorem dX11_ask_5 : decode cX11_ask 5 = .ok (.astore_n 3, 1) := by decide +kernel
theorem dX11_ask_6 : decode cX11_ask 6 = .ok (.aload_n 3, 1) := by decide +kernel
theorem dX11_ask_7 : decode cX11_ask 7 = .ok (.ifnull 12, 3) := by decide +kernel
theorem dX11_ask_10 : decode cX11_ask 10 = .ok (.iload_n 2, 1) := by decide +kernel
theorem dX11_ask_11 : decode cX11_ask 11 = .ok (.iconst 0, 1) := by decide +kernel
theorem dX11_ask_12 : decode cX11_ask 12 = .ok (.iconst 1, 1) := by decide +kernel
theorem dX11_ask_13 : decode cX11_ask 13 = .ok (.invokestatic 68, 3) := by decide +kernel
theorem dX11_ask_16 : decode cX11_ask 16 = .ok (.ifCond .ne 6, 3) := by decide +kernel
theorem dX11_ask_19 : decode cX11_ask 19 = .ok (.ldc 72, 2) := by decide +kernel
theorem dX11_ask_21 : decode cX11_ask 21 = .ok (.ireturn, 1) := by decide +kernel
theorem dX11_ask_22 : decode cX11_ask 22 = .ok (.aload_n 0, 1) := by decide +kernel
theorem dX11_ask_23 : decode cX11_ask 23 = .ok (.iconst 0, 1) := by decide +kernel
theorem dX11_ask_24 : decode cX11_ask 24 = .ok (.putfield 242, 3) := by decide +kernel
theorem dX11_ask_27 : decode cX11_ask 27 = .ok (.iload_n 2, 1) := by decide +kernel
theorem dX11_ask_28 : decode cX11_ask 28 = .ok (.ifCond .ne 11, 3) := by decide +kernel
theorem dX11_ask_31 : decode cX11_ask 31 = .ok (.aload_n 3, 1) := by decide +kernel
theorem dX11_ask_32 : decode cX11_ask 32 = .ok (.aload_n 0, 1) := by decide +kernel
theorem dX11_ask_33 : decode cX11_ask 33 = .ok (.invokevirtual 245, 3) := by decide +kernel
theorem dX11_ask_36 : decode cX11_ask 36 = .ok (.goto 8, 3) := by decide +kernel
theorem dX11_ask_39 : decode cX11_ask 39 = .ok (.aload_n 3, 1) := by decide +kernel
theorem dX11_ask_40 : decode cX11_ask 40 = .ok (.aload_n 0, 1) := by decide +kernel
theorem dX11_ask_41 : decode cX11_ask 41 = .ok (.invokevirtual 249, 3) := by decide +kernel
theorem dX11_ask_44 : decode cX11_ask 44 = .ok (.ireturn, 1) := by decide +kernel
theorem dX11_trace_0 : decode cX11_trace 0 = .ok (.iload_n 1, 1) := by decide +kernel
theorem dX11_trace_1 : decode cX11_trace 1 = .ok (.iconst 0, 1) := by decide +kernel
theorem dX11_trace_2 : decode cX11_trace 2 = .ok (.aload_n 0, 1) := by decide +kernel
theorem dX11_trace_3 : decode cX11_trace 3 = .ok (.getfield 242, 3) := by decide +kernel
theorem dX11_trace_6 : decode cX11_trace 6 = .ok (.iconst 1, 1) := by decide +kernel
theorem dX11_trace_7 : decode cX11_trace 7 = .ok (.isub, 1) := by decide +kernel
theorem dX11_trace_8 : decode cX11_trace 8 = .ok (.invokestatic 68, 3) := by decide +kernel
theorem dX11_trace_11 : decode cX11_trace 11 = .ok (.ifCond .eq 12, 3) := by decide +kernel
theorem dX11_trace_14 : decode cX11_trace 14 = .ok (.aload_n 0, 1) := by decide +kernel
theorem dX11_trace_15 : decode cX11_trace 15 = .ok (.getfield 42, 3) := by decide +kernel
theorem dX11_trace_18 : decode cX11_trace 18 = .ok (.iload_n 1, 1) := by decide +kernel
theorem dX11_trace_19 : decode cX11_trace 19 = .ok (.iaload, 1) := by decide +kernel
theorem dX11_trace_20 : decode cX11_trace 20 = .ok (.goto 5, 3) := by decide +kernel
theorem dX11_trace_23 : decode cX11_trace 23 = .ok (.ldc 37, 2) := by decide +kernel
theorem dX11_trace_25 : decode cX11_trace 25 = .ok (.ireturn, 1) := by decide +kernel
theorem dX11_run_0 : decode cX11_run 0 = .ok (.aload_n 0, 1) := by decide +kernel
theorem dX11_run_1 : decode cX11_run 1 = .ok (.getfield 186, 3) := by decide +kernel
theorem dX11_run_4 : decode cX11_run 4 = .ok (.ifnull 6, 3) := by decide +kernel
theorem dX11_run_7 : decode cX11_run 7 = .ok (.ldc 209, 2) := by decide +kernel
theorem dX11_run_9 : decode cX11_run 9 = .ok (.ireturn, 1) := by decide +kernel
theorem dX11_run_10 : decode cX11_run 10 = .ok (.aload_n 0, 1) := by decide +kernel
theorem dX11_run_11 : decode cX11_run 11 = .ok (.getfield 15, 3) := by decide +kernel
theorem dX11_run_14 : decode cX11_run 14 = .ok (.aload_n 0, 1) := by decide +kernel
theorem dX11_run_15 : decode cX11_run 15 = .ok (.getfield 11, 3) := by decide +kernel
theorem dX11_run_18 : decode cX11_run 18 = .ok (.invokestatic 252, 3) := by decide +kernel
theorem dX11_run_21 : decode cX11_run 21 = .ok (.aload_n 0, 1) := by decide +kernel
theorem dX11_run_22 : decode cX11_run 22 = .ok (.iconst 0, 1) := by decide +kernel
theorem dX11_run_23 : decode cX11_run 23 = .ok (.putfield 256, 3) := by decide +kernel
theorem dX11_run_26 : decode cX11_run 26 = .ok (.aload_n 0, 1) := by decide +kernel
theorem dX11_run_27 : decode cX11_run 27 = .ok (.ldc 37, 2) := by decide +kernel
theorem dX11_run_29 : decode cX11_run 29 = .ok (.putfield 38, 3) := by decide +kernel
theorem dX11_run_32 : decode cX11_run 32 = .ok (.iconst 0, 1) := by decide +kernel
theorem dX11_run_33 : decode cX11_run 33 = .ok (.istore_n 1, 1) := by decide +kernel
theorem dX11_run_34 : decode cX11_run 34 = .ok (.aload_n 0, 1) := by decide +kernel
theorem dX11_run_35 : decode cX11_run 35 = .ok (.iconst 0, 1) := by decide +kernel
theorem dX11_run_36 : decode cX11_run 36 = .ok (.invokevirtual 228, 3) := by decide +kernel
theorem dX11_run_39 : decode cX11_run 39 = .ok (.astore_n 2, 1) := by decide +kernel
theorem dX11_run_40 : decode cX11_run 40 = .ok (.iconst 0, 1) := by decide +kernel
theorem dX11_run_41 : decode cX11_run 41 = .ok (.istore_n 3, 1) := by decide +kernel
theorem dX11_run_42 : decode cX11_run 42 = .ok (.iload_n 3, 1) := by decide +kernel
theorem dX11_run_43 : decode cX11_run 43 = .ok (.sipush 500, 3) := by decide +kernel
theorem dX11_run_46 : decode cX11_run 46 = .ok (.if_icmp .ge 64, 3) := by decide +kernel
theorem dX11_run_49 : decode cX11_run 49 = .ok (.aload_n 2, 1) := by decide +kernel
theorem dX11_run_50 : decode cX11_run 50 = .ok (.ifnull 60, 3) := by decide +kernel
theorem dX11_run_53 : decode cX11_run 53 = .ok (.iload_n 1, 1) := by decide +kernel
theorem dX11_run_54 : decode cX11_run 54 = .ok (.ifCond .ne 56, 3) := by decide +kernel
theorem dX11_run_57 : decode cX11_run 57 = .ok (.aload_n 0, 1) := by decide +kernel
theorem dX11_run_58 : decode cX11_run 58 = .ok (.aload_n 2, 1) := by decide +kernel
theorem dX11_run_59 : decode cX11_run 59 = .ok (.getfield 259, 3) := by decide +kernel
theorem dX11_run_62 : decode cX11_run 62 = .ok (.putfield 38, 3) := by decide +kernel
theorem dX11_run_65 : decode cX11_run 65 = .ok (.aload_n 0, 1) := by decide +kernel
theorem dX11_run_66 : decode cX11_run 66 = .ok (.aload_n 2, 1) := by decide +kernel
theorem dX11_run_67 : decode cX11_run 67 = .ok (.getfield 259, 3) := by decide +kernel
theorem dX11_run_70 : decode cX11_run 70 = .ok (.iconst 1, 1) := by decide +kernel
theorem dX11_run_71 : decode cX11_run 71 = .ok (.iadd, 1) := by decide +kernel
theorem dX11_run_72 : decode cX11_run 72 = .ok (.putfield 262, 3) := by decide +kernel
theorem dX11_run_75 : decode cX11_run 75 = .ok (.aload_n 2, 1) := by decide +kernel
theorem dX11_run_76 : decode cX11_run 76 = .ok (.aload_n 0, 1) := by decide +kernel
theorem dX11_run_77 : decode cX11_run 77 = .ok (.invokevirtual 265, 3) := by decide +kernel
theorem dX11_run_80 : decode cX11_run 80 = .ok (.istore_n 1, 1) := by decide +kernel
theorem dX11_run_81 : decode cX11_run 81 = .ok (.iload_n 1, 1) := by decide +kernel
theorem dX11_run_82 : decode cX11_run 82 = .ok (.ifCond .ne 22, 3) := by decide +kernel
theorem dX11_run_85 : decode cX11_run 85 = .ok (.aload_n 0, 1) := by decide +kernel
theorem dX11_run_86 : decode cX11_run 86 = .ok (.dup, 1) := by decide +kernel
theorem dX11_run_87 : decode cX11_run 87 = .ok (.getfield 256, 3) := by decide +kernel
theorem dX11_run_90 : decode cX11_run 90 = .ok (.iconst 1, 1) := by decide +kernel
theorem dX11_run_91 : decode cX11_run 91 = .ok (.iadd, 1) := by decide +kernel
theorem dX11_run_92 : decode cX11_run 92 = .ok (.putfield 256, 3) := by decide +kernel
theorem dX11_run_95 : decode cX11_run 95 = .ok (.aload_n 0, 1) := by decide +kernel
theorem dX11_run_96 : decode cX11_run 96 = .ok (.aload_n 0, 1) := by decide +kernel
theorem dX11_run_97 : decode cX11_run 97 = .ok (.getfield 262, 3) := by decide +kernel
theorem dX11_run_100 : decode cX11_run 100 = .ok (.invokevirtual 228, 3) := by decide +kernel
theorem dX11_run_103 : decode cX11_run 103 = .ok (.astore_n 2, 1) := by decide +kernel
theorem dX11_run_104 : decode cX11_run 104 = .ok (.iinc 3 1, 3) := by decide +kernel
theorem dX11_run_107 : decode cX11_run 107 = .ok (.goto (-65), 3) := by decide +kernel
theorem dX11_run_110 : decode cX11_run 110 = .ok (.aload_n 2, 1) := by decide +kernel
theorem dX11_run_111 : decode cX11_run 111 = .ok (.ifnonnull 12, 3) := by decide +kernel
theorem dX11_run_114 : decode cX11_run 114 = .ok (.aload_n 0, 1) := by decide +kernel
theorem dX11_run_115 : decode cX11_run 115 = .ok (.aload_n 0, 1) := by decide +kernel
theorem dX11_run_116 : decode cX11_run 116 = .ok (.getfield 256, 3) := by decide +kernel
theorem dX11_run_119 : decode cX11_run 119 = .ok (.invokevirtual 81, 3) := by decide +kernel
theorem dX11_run_122 : decode cX11_run 122 = .ok (.ireturn, 1) := by decide +kernel
theorem dX11_run_123 : decode cX11_run 123 = .ok (.aload_n 0, 1) := by decide +kernel
theorem dX11_run_124 : decode cX11_run 124 = .ok (.getfield 11, 3) := by decide +kernel
theorem dX11_run_127 : decode cX11_run 127 = .ok (.aload_n 0, 1) := by decide +kernel
theorem dX11_run_128 : decode cX11_run 128 = .ok (.getfield 15, 3) := by decide +kernel
theorem dX11_run_131 : decode cX11_run 131 = .ok (.invokestatic 252, 3) := by decide +kernel
theorem dX11_run_134 : decode cX11_run 134 = .ok (.iload_n 1, 1) := by decide +kernel
theorem dX11_run_135 : decode cX11_run 135 = .ok (.ifCond .eq 9, 3) := by decide +kernel
theorem dX11_run_138 : decode cX11_run 138 = .ok (.iload_n 1, 1) := by decide +kernel
theorem dX11_run_139 : decode cX11_run 139 = .ok (.ldc 134, 2) := by decide +kernel
theorem dX11_run_141 : decode cX11_run 141 = .ok (.if_icmp .ne 8, 3) := by decide +kernel
theorem dX11_run_144 : decode cX11_run 144 = .ok (.ldc 134, 2) := by decide +kernel
theorem dX11_run_146 : decode cX11_run 146 = .ok (.goto 8, 3) := by decide +kernel
theorem dX11_run_149 : decode cX11_run 149 = .ok (.aload_n 0, 1) := by decide +kernel
theorem dX11_run_150 : decode cX11_run 150 = .ok (.iload_n 1, 1) := by decide +kernel
theorem dX11_run_151 : decode cX11_run 151 = .ok (.invokevirtual 73, 3) := by decide +kernel
theorem dX11_run_154 : decode cX11_run 154 = .ok (.ireturn, 1) := by decide +kernel
theorem dX11_told_0 : decode cX11_told 0 = .ok (.iload_n 1, 1) := by decide +kernel
theorem dX11_told_1 : decode cX11_told 1 = .ok (.lookupswitch 37 #[(0, 27), (1, 32)], 27) := by decide +kernel
theorem dX11_told_28 : decode cX11_told 28 = .ok (.aload_n 0, 1) := by decide +kernel
theorem dX11_told_29 : decode cX11_told 29 = .ok (.getfield 256, 3) := by decide +kernel
theorem dX11_told_32 : decode cX11_told 32 = .ok (.ireturn, 1) := by decide +kernel
theorem dX11_told_33 : decode cX11_told 33 = .ok (.aload_n 0, 1) := by decide +kernel
theorem dX11_told_34 : decode cX11_told 34 = .ok (.getfield 38, 3) := by decide +kernel
theorem dX11_told_37 : decode cX11_told 37 = .ok (.ireturn, 1) := by decide +kernel
theorem dX11_told_38 : decode cX11_told 38 = .ok (.ldc 72, 2) := by decide +kernel
theorem dX11_told_40 : decode cX11_told 40 = .ok (.ireturn, 1) := by decide +kernel
theorem dX11_count_0 : decode cX11_count 0 = .ok (.iload_n 1, 1) := by decide +kernel
theorem dX11_count_1 : decode cX11_count 1 = .ok (.tableswitch 60 0 4 #[35, 40, 45, 50, 55], 35) := by decide +kernel
theorem dX11_count_36 : decode cX11_count 36 = .ok (.aload_n 0, 1) := by decide +kernel
theorem dX11_count_37 : decode cX11_count 37 = .ok (.getfield 55, 3) := by decide +kernel
theorem dX11_count_40 : decode cX11_count 40 = .ok (.ireturn, 1) := by decide +kernel
theorem dX11_count_41 : decode cX11_count 41 = .ok (.aload_n 0, 1) := by decide +kernel
theorem dX11_count_42 : decode cX11_count 42 = .ok (.getfield 183, 3) := by decide +kernel
theorem dX11_count_45 : decode cX11_count 45 = .ok (.ireturn, 1) := by decide +kernel
theorem dX11_count_46 : decode cX11_count 46 = .ok (.aload_n 0, 1) := by decide +kernel
theorem dX11_count_47 : decode cX11_count 47 = .ok (.invokevirtual 268, 3) := by decide +kernel
theorem dX11_count_50 : decode cX11_count 50 = .ok (.ireturn, 1) := by decide +kernel
theorem dX11_count_51 : decode cX11_count 51 = .ok (.aload_n 0, 1) := by decide +kernel
theorem dX11_count_52 : decode cX11_count 52 = .ok (.invokevirtual 205, 3) := by decide +kernel
theorem dX11_count_55 : decode cX11_count 55 = .ok (.ireturn, 1) := by decide +kernel
theorem dX11_count_56 : decode cX11_count 56 = .ok (.aload_n 0, 1) := by decide +kernel
theorem dX11_count_57 : decode cX11_count 57 = .ok (.invokevirtual 271, 3) := by decide +kernel
theorem dX11_count_60 : decode cX11_count 60 = .ok (.ireturn, 1) := by decide +kernel
theorem dX11_count_61 : decode cX11_count 61 = .ok (.ldc 72, 2) := by decide +kernel
theorem dX11_count_63 : decode cX11_count 63 = .ok (.ireturn, 1) := by decide +kernel
theorem dX11_status_0 : decode cX11_status 0 = .ok (.aload_n 0, 1) := by decide +kernel
theorem dX11_status_1 : decode cX11_status 1 = .ok (.getfield 274, 3) := by decide +kernel
theorem dX11_status_4 : decode cX11_status 4 = .ok (.ireturn, 1) := by decide +kernel
theorem dX11_within_0 : decode cX11_within 0 = .ok (.iload_n 0, 1) := by decide +kernel
theorem dX11_within_1 : decode cX11_within 1 = .ok (.iload_n 1, 1) := by decide +kernel
theorem dX11_within_2 : decode cX11_within 2 = .ok (.if_icmp .lt 12, 3) := by decide +kernel
theorem dX11_within_5 : decode cX11_within 5 = .ok (.iload_n 0, 1) := by decide +kernel
theorem dX11_within_6 : decode cX11_within 6 = .ok (.iload_n 2, 1) := by decide +kernel
theorem dX11_within_7 : decode cX11_within 7 = .ok (.if_icmp .gt 7, 3) := by decide +kernel
theorem dX11_within_10 : decode cX11_within 10 = .ok (.iconst 1, 1) := by decide +kernel
theorem dX11_within_11 : decode cX11_within 11 = .ok (.goto 4, 3) := by decide +kernel
theorem dX11_within_14 : decode cX11_within 14 = .ok (.iconst 0, 1) := by decide +kernel
theorem dX11_within_15 : decode cX11_within 15 = .ok (.ireturn, 1) := by decide +kernel
theorem dX11_isWay_0 : decode cX11_isWay 0 = .ok (.iload_n 0, 1) := by decide +kernel
theorem dX11_isWay_1 : decode cX11_isWay 1 = .ok (.iconst 1, 1) := by decide +kernel
theorem dX11_isWay_2 : decode cX11_isWay 2 = .ok (.if_icmp .eq 8, 3) := by decide +kernel
theorem dX11_isWay_5 : decode cX11_isWay 5 = .ok (.iload_n 0, 1) := by decide +kernel
theorem dX11_isWay_6 : decode cX11_isWay 6 = .ok (.iconst (-1), 1) := by decide +kernel
theorem dX11_isWay_7 : decode cX11_isWay 7 = .ok (.if_icmp .ne 7, 3) := by decide +kernel
theorem dX11_isWay_10 : decode cX11_isWay 10 = .ok (.iconst 1, 1) := by decide +kernel
theorem dX11_isWay_11 : decode cX11_isWay 11 = .ok (.goto 4, 3) := by decide +kernel
theorem dX11_isWay_14 : decode cX11_isWay 14 = .ok (.iconst 0, 1) := by decide +kernel
theorem dX11_isWay_15 : decode cX11_isWay 15 = .ok (.ireturn, 1) := by decide +kernel
theorem dX11_isProduct_0 : decode cX11_isProduct 0 = .ok (.iload_n 1, 1) := by decide +kernel
theorem dX11_isProduct_1 : decode cX11_isProduct 1 = .ok (.iconst 0, 1) := by decide +kernel
theorem dX11_isProduct_2 : decode cX11_isProduct 2 = .ok (.iconst 1, 1) := by decide +kernel
theorem dX11_isProduct_3 : decode cX11_isProduct 3 = .ok (.iconst 2, 1) := by decide +kernel
theorem dX11_isProduct_4 : decode cX11_isProduct 4 = .ok (.aload_n 0, 1) := by decide +kernel
theorem dX11_isProduct_5 : decode cX11_isProduct 5 = .ok (.getfield 55, 3) := by decide +kernel
theorem dX11_isProduct_8 : decode cX11_isProduct 8 = .ok (.imul, 1) := by decide +kernel
theorem dX11_isProduct_9 : decode cX11_isProduct 9 = .ok (.ishl, 1) := by decide +kernel
theorem dX11_isProduct_10 : decode cX11_isProduct 10 = .ok (.iconst 1, 1) := by decide +kernel
theorem dX11_isProduct_11 : decode cX11_isProduct 11 = .ok (.isub, 1) := by decide +kernel
theorem dX11_isProduct_12 : decode cX11_isProduct 12 = .ok (.invokestatic 68, 3) := by decide +kernel
theorem dX11_isProduct_15 : decode cX11_isProduct 15 = .ok (.ireturn, 1) := by decide +kernel
theorem dX11_isPulse_0 : decode cX11_isPulse 0 = .ok (.iload_n 1, 1) := by decide +kernel
theorem dX11_isPulse_1 : decode cX11_isPulse 1 = .ok (.iconst 1, 1) := by decide +kernel
theorem dX11_isPulse_2 : decode cX11_isPulse 2 = .ok (.iconst 1, 1) := by decide +kernel
theorem dX11_isPulse_3 : decode cX11_isPulse 3 = .ok (.aload_n 0, 1) := by decide +kernel
theorem dX11_isPulse_4 : decode cX11_isPulse 4 = .ok (.getfield 55, 3) := by decide +kernel
theorem dX11_isPulse_7 : decode cX11_isPulse 7 = .ok (.ishl, 1) := by decide +kernel
theorem dX11_isPulse_8 : decode cX11_isPulse 8 = .ok (.iconst 1, 1) := by decide +kernel
theorem dX11_isPulse_9 : decode cX11_isPulse 9 = .ok (.isub, 1) := by decide +kernel
theorem dX11_isPulse_10 : decode cX11_isPulse 10 = .ok (.invokestatic 68, 3) := by decide +kernel
theorem dX11_isPulse_13 : decode cX11_isPulse 13 = .ok (.ifCond .eq 25, 3) := by decide +kernel
theorem dX11_isPulse_16 : decode cX11_isPulse 16 = .ok (.iload_n 2, 1) := by decide +kernel
theorem dX11_isPulse_17 : decode cX11_isPulse 17 = .ok (.iconst 0, 1) := by decide +kernel
theorem dX11_isPulse_18 : decode cX11_isPulse 18 = .ok (.iconst 3, 1) := by decide +kernel
theorem dX11_isPulse_19 : decode cX11_isPulse 19 = .ok (.invokestatic 68, 3) := by decide +kernel
theorem dX11_isPulse_22 : decode cX11_isPulse 22 = .ok (.ifCond .eq 16, 3) := by decide +kernel
theorem dX11_isPulse_25 : decode cX11_isPulse 25 = .ok (.iload_n 3, 1) := by decide +kernel
theorem dX11_isPulse_26 : decode cX11_isPulse 26 = .ok (.iconst 0, 1) := by decide +kernel
theorem dX11_isPulse_27 : decode cX11_isPulse 27 = .ok (.iconst 3, 1) := by decide +kernel
theorem dX11_isPulse_28 : decode cX11_isPulse 28 = .ok (.invokestatic 68, 3) := by decide +kernel
theorem dX11_isPulse_31 : decode cX11_isPulse 31 = .ok (.ifCond .eq 7, 3) := by decide +kernel
theorem dX11_isPulse_34 : decode cX11_isPulse 34 = .ok (.iconst 1, 1) := by decide +kernel
theorem dX11_isPulse_35 : decode cX11_isPulse 35 = .ok (.goto 4, 3) := by decide +kernel
theorem dX11_isPulse_38 : decode cX11_isPulse 38 = .ok (.iconst 0, 1) := by decide +kernel
theorem dX11_isPulse_39 : decode cX11_isPulse 39 = .ok (.ireturn, 1) := by decide +kernel
theorem dX11_tableAt_0 : decode cX11_tableAt 0 = .ok (.iload_n 1, 1) := by decide +kernel
theorem dX11_tableAt_1 : decode cX11_tableAt 1 = .ok (.iconst 0, 1) := by decide +kernel
theorem dX11_tableAt_2 : decode cX11_tableAt 2 = .ok (.bipush 7, 2) := by decide +kernel
theorem dX11_tableAt_4 : decode cX11_tableAt 4 = .ok (.invokestatic 68, 3) := by decide +kernel
theorem dX11_tableAt_7 : decode cX11_tableAt 7 = .ok (.ifCond .eq 12, 3) := by decide +kernel
theorem dX11_tableAt_10 : decode cX11_tableAt 10 = .ok (.aload_n 0, 1) := by decide +kernel
theorem dX11_tableAt_11 : decode cX11_tableAt 11 = .ok (.getfield 27, 3) := by decide +kernel
theorem dX11_tableAt_14 : decode cX11_tableAt 14 = .ok (.iload_n 1, 1) := by decide +kernel
theorem dX11_tableAt_15 : decode cX11_tableAt 15 = .ok (.aaload, 1) := by decide +kernel
theorem dX11_tableAt_16 : decode cX11_tableAt 16 = .ok (.goto 4, 3) := by decide +kernel
theorem dX11_tableAt_19 : decode cX11_tableAt 19 = .ok (.aconst_null, 1) := by decide +kernel
theorem dX11_tableAt_20 : decode cX11_tableAt 20 = .ok (.areturn, 1) := by decide +kernel
theorem dX11_sumAt_0 : decode cX11_sumAt 0 = .ok (.iload_n 1, 1) := by decide +kernel
theorem dX11_sumAt_1 : decode cX11_sumAt 1 = .ok (.iconst (-1), 1) := by decide +kernel
theorem dX11_sumAt_2 : decode cX11_sumAt 2 = .ok (.bipush 7, 2) := by decide +kernel
theorem dX11_sumAt_4 : decode cX11_sumAt 4 = .ok (.invokestatic 68, 3) := by decide +kernel
theorem dX11_sumAt_7 : decode cX11_sumAt 7 = .ok (.ifCond .eq 14, 3) := by decide +kernel
theorem dX11_sumAt_10 : decode cX11_sumAt 10 = .ok (.aload_n 0, 1) := by decide +kernel
theorem dX11_sumAt_11 : decode cX11_sumAt 11 = .ok (.getfield 11, 3) := by decide +kernel
theorem dX11_sumAt_14 : decode cX11_sumAt 14 = .ok (.iload_n 1, 1) := by decide +kernel
theorem dX11_sumAt_15 : decode cX11_sumAt 15 = .ok (.iconst 1, 1) := by decide +kernel
theorem dX11_sumAt_16 : decode cX11_sumAt 16 = .ok (.iadd, 1) := by decide +kernel
theorem dX11_sumAt_17 : decode cX11_sumAt 17 = .ok (.aaload, 1) := by decide +kernel
theorem dX11_sumAt_18 : decode cX11_sumAt 18 = .ok (.goto 4, 3) := by decide +kernel
theorem dX11_sumAt_21 : decode cX11_sumAt 21 = .ok (.aconst_null, 1) := by decide +kernel
theorem dX11_sumAt_22 : decode cX11_sumAt 22 = .ok (.areturn, 1) := by decide +kernel
theorem dX11_opAt_0 : decode cX11_opAt 0 = .ok (.iload_n 1, 1) := by decide +kernel
theorem dX11_opAt_1 : decode cX11_opAt 1 = .ok (.iconst 0, 1) := by decide +kernel
theorem dX11_opAt_2 : decode cX11_opAt 2 = .ok (.aload_n 0, 1) := by decide +kernel
theorem dX11_opAt_3 : decode cX11_opAt 3 = .ok (.getfield 183, 3) := by decide +kernel
theorem dX11_opAt_6 : decode cX11_opAt 6 = .ok (.iconst 1, 1) := by decide +kernel
theorem dX11_opAt_7 : decode cX11_opAt 7 = .ok (.isub, 1) := by decide +kernel
theorem dX11_opAt_8 : decode cX11_opAt 8 = .ok (.invokestatic 68, 3) := by decide +kernel
theorem dX11_opAt_11 : decode cX11_opAt 11 = .ok (.ifCond .eq 12, 3) := by decide +kernel
theorem dX11_opAt_14 : decode cX11_opAt 14 = .ok (.aload_n 0, 1) := by decide +kernel
theorem dX11_opAt_15 : decode cX11_opAt 15 = .ok (.getfield 33, 3) := by decide +kernel
theorem dX11_opAt_18 : decode cX11_opAt 18 = .ok (.iload_n 1, 1) := by decide +kernel
theorem dX11_opAt_19 : decode cX11_opAt 19 = .ok (.aaload, 1) := by decide +kernel
theorem dX11_opAt_20 : decode cX11_opAt 20 = .ok (.goto 4, 3) := by decide +kernel
theorem dX11_opAt_23 : decode cX11_opAt 23 = .ok (.aconst_null, 1) := by decide +kernel
theorem dX11_opAt_24 : decode cX11_opAt 24 = .ok (.areturn, 1) := by decide +kernel
theorem dX11_found_0 : decode cX11_found 0 = .ok (.aload_n 0, 1) := by decide +kernel
theorem dX11_found_1 : decode cX11_found 1 = .ok (.iload_n 1, 1) := by decide +kernel
theorem dX11_found_2 : decode cX11_found 2 = .ok (.putfield 274, 3) := by decide +kernel
theorem dX11_found_5 : decode cX11_found 5 = .ok (.ldc_w 277, 3) := by decide +kernel
theorem dX11_found_8 : decode cX11_found 8 = .ok (.iload_n 1, 1) := by decide +kernel
theorem dX11_found_9 : decode cX11_found 9 = .ok (.isub, 1) := by decide +kernel
theorem dX11_found_10 : decode cX11_found 10 = .ok (.ireturn, 1) := by decide +kernel
theorem dX11_notFound_0 : decode cX11_notFound 0 = .ok (.aload_n 0, 1) := by decide +kernel
theorem dX11_notFound_1 : decode cX11_notFound 1 = .ok (.iconst 0, 1) := by decide +kernel
theorem dX11_notFound_2 : decode cX11_notFound 2 = .ok (.putfield 274, 3) := by decide +kernel
theorem dX11_notFound_5 : decode cX11_notFound 5 = .ok (.iload_n 1, 1) := by decide +kernel
theorem dX11_notFound_6 : decode cX11_notFound 6 = .ok (.ireturn, 1) := by decide +kernel
theorem dX11_append_0 : decode cX11_append 0 = .ok (.aload_n 0, 1) := by decide +kernel
theorem dX11_append_1 : decode cX11_append 1 = .ok (.getfield 183, 3) := by decide +kernel
theorem dX11_append_4 : decode cX11_append 4 = .ok (.istore_n 2, 1) := by decide +kernel
theorem dX11_append_5 : decode cX11_append 5 = .ok (.iload_n 2, 1) := by decide +kernel
theorem dX11_append_6 : decode cX11_append 6 = .ok (.bipush 40, 2) := by decide +kernel
theorem dX11_append_8 : decode cX11_append 8 = .ok (.if_icmp .lt 6, 3) := by decide +kernel
theorem dX11_append_11 : decode cX11_append 11 = .ok (.ldc 134, 2) := by decide +kernel
theorem dX11_append_13 : decode cX11_append 13 = .ok (.ireturn, 1) := by decide +kernel
theorem dX11_append_14 : decode cX11_append 14 = .ok (.aload_n 0, 1) := by decide +kernel
theorem dX11_append_15 : decode cX11_append 15 = .ok (.getfield 33, 3) := by decide +kernel
theorem dX11_append_18 : decode cX11_append 18 = .ok (.iload_n 2, 1) := by decide +kernel
theorem dX11_append_19 : decode cX11_append 19 = .ok (.aload_n 1, 1) := by decide +kernel
theorem dX11_append_20 : decode cX11_append 20 = .ok (.aastore, 1) := by decide +kernel
theorem dX11_append_21 : decode cX11_append 21 = .ok (.aload_n 0, 1) := by decide +kernel
theorem dX11_append_22 : decode cX11_append 22 = .ok (.dup, 1) := by decide +kernel
theorem dX11_append_23 : decode cX11_append 23 = .ok (.getfield 183, 3) := by decide +kernel
theorem dX11_append_26 : decode cX11_append 26 = .ok (.iconst 1, 1) := by decide +kernel
theorem dX11_append_27 : decode cX11_append 27 = .ok (.iadd, 1) := by decide +kernel
theorem dX11_append_28 : decode cX11_append 28 = .ok (.putfield 183, 3) := by decide +kernel
theorem dX11_append_31 : decode cX11_append 31 = .ok (.iload_n 2, 1) := by decide +kernel
theorem dX11_append_32 : decode cX11_append 32 = .ok (.ireturn, 1) := by decide +kernel
theorem dX11_presentTables_0 : decode cX11_presentTables 0 = .ok (.iconst 0, 1) := by decide +kernel
theorem dX11_presentTables_1 : decode cX11_presentTables 1 = .ok (.istore_n 1, 1) := by decide +kernel
theorem dX11_presentTables_2 : decode cX11_presentTables 2 = .ok (.iconst 0, 1) := by decide +kernel
theorem dX11_presentTables_3 : decode cX11_presentTables 3 = .ok (.istore_n 2, 1) := by decide +kernel
theorem dX11_presentTables_4 : decode cX11_presentTables 4 = .ok (.iload_n 2, 1) := by decide +kernel
theorem dX11_presentTables_5 : decode cX11_presentTables 5 = .ok (.bipush 8, 2) := by decide +kernel
theorem dX11_presentTables_7 : decode cX11_presentTables 7 = .ok (.if_icmp .ge 24, 3) := by decide +kernel
theorem dX11_presentTables_10 : decode cX11_presentTables 10 = .ok (.aload_n 0, 1) := by decide +kernel
theorem dX11_presentTables_11 : decode cX11_presentTables 11 = .ok (.getfield 27, 3) := by decide +kernel
theorem dX11_presentTables_14 : decode cX11_presentTables 14 = .ok (.iload_n 2, 1) := by decide +kernel
theorem dX11_presentTables_15 : decode cX11_presentTables 15 = .ok (.aaload, 1) := by decide +kernel
theorem dX11_presentTables_16 : decode cX11_presentTables 16 = .ok (.getfield 84, 3) := by decide +kernel
theorem dX11_presentTables_19 : decode cX11_presentTables 19 = .ok (.ifCond .ne 6, 3) := by decide +kernel
theorem dX11_presentTables_22 : decode cX11_presentTables 22 = .ok (.iinc 1 1, 3) := by decide +kernel
theorem dX11_presentTables_25 : decode cX11_presentTables 25 = .ok (.iinc 2 1, 3) := by decide +kernel
theorem dX11_presentTables_28 : decode cX11_presentTables 28 = .ok (.goto (-24), 3) := by decide +kernel
theorem dX11_presentTables_31 : decode cX11_presentTables 31 = .ok (.iload_n 1, 1) := by decide +kernel
theorem dX11_presentTables_32 : decode cX11_presentTables 32 = .ok (.ireturn, 1) := by decide +kernel
theorem dX11_openRounds_0 : decode cX11_openRounds 0 = .ok (.iconst 0, 1) := by decide +kernel
theorem dX11_openRounds_1 : decode cX11_openRounds 1 = .ok (.istore_n 1, 1) := by decide +kernel
theorem dX11_openRounds_2 : decode cX11_openRounds 2 = .ok (.aload_n 0, 1) := by decide +kernel
theorem dX11_openRounds_3 : decode cX11_openRounds 3 = .ok (.getfield 186, 3) := by decide +kernel
theorem dX11_openRounds_6 : decode cX11_openRounds 6 = .ok (.astore_n 2, 1) := by decide +kernel
theorem dX11_openRounds_7 : decode cX11_openRounds 7 = .ok (.aload_n 2, 1) := by decide +kernel
theorem dX11_openRounds_8 : decode cX11_openRounds 8 = .ok (.ifnull 14, 3) := by decide +kernel
theorem dX11_openRounds_11 : decode cX11_openRounds 11 = .ok (.iinc 1 1, 3) := by decide +kernel
theorem dX11_openRounds_14 : decode cX11_openRounds 14 = .ok (.aload_n 2, 1) := by decide +kernel
theorem dX11_openRounds_15 : decode cX11_openRounds 15 = .ok (.getfield 220, 3) := by decide +kernel
theorem dX11_openRounds_18 : decode cX11_openRounds 18 = .ok (.astore_n 2, 1) := by decide +kernel
theorem dX11_openRounds_19 : decode cX11_openRounds 19 = .ok (.goto (-12), 3) := by decide +kernel
theorem dX11_openRounds_22 : decode cX11_openRounds 22 = .ok (.iload_n 1, 1) := by decide +kernel
theorem dX11_openRounds_23 : decode cX11_openRounds 23 = .ok (.ireturn, 1) := by decide +kernel
theorem dX11_allTerms_0 : decode cX11_allTerms 0 = .ok (.iconst 0, 1) := by decide +kernel
theorem dX11_allTerms_1 : decode cX11_allTerms 1 = .ok (.istore_n 1, 1) := by decide +kernel
theorem dX11_allTerms_2 : decode cX11_allTerms 2 = .ok (.iconst 0, 1) := by decide +kernel
theorem dX11_allTerms_3 : decode cX11_allTerms 3 = .ok (.istore_n 2, 1) := by decide +kernel
theorem dX11_allTerms_4 : decode cX11_allTerms 4 = .ok (.iload_n 2, 1) := by decide +kernel
theorem dX11_allTerms_5 : decode cX11_allTerms 5 = .ok (.aload_n 0, 1) := by decide +kernel
theorem dX11_allTerms_6 : decode cX11_allTerms 6 = .ok (.getfield 11, 3) := by decide +kernel
theorem dX11_allTerms_9 : decode cX11_allTerms 9 = .ok (.arraylength, 1) := by decide +kernel
theorem dX11_allTerms_10 : decode cX11_allTerms 10 = .ok (.if_icmp .ge 21, 3) := by decide +kernel
theorem dX11_allTerms_13 : decode cX11_allTerms 13 = .ok (.iload_n 1, 1) := by decide +kernel
theorem dX11_allTerms_14 : decode cX11_allTerms 14 = .ok (.aload_n 0, 1) := by decide +kernel
theorem dX11_allTerms_15 : decode cX11_allTerms 15 = .ok (.getfield 11, 3) := by decide +kernel
theorem dX11_allTerms_18 : decode cX11_allTerms 18 = .ok (.iload_n 2, 1) := by decide +kernel
theorem dX11_allTerms_19 : decode cX11_allTerms 19 = .ok (.aaload, 1) := by decide +kernel
theorem dX11_allTerms_20 : decode cX11_allTerms 20 = .ok (.getfield 114, 3) := by decide +kernel
theorem dX11_allTerms_23 : decode cX11_allTerms 23 = .ok (.iadd, 1) := by decide +kernel
theorem dX11_allTerms_24 : decode cX11_allTerms 24 = .ok (.istore_n 1, 1) := by decide +kernel
theorem dX11_allTerms_25 : decode cX11_allTerms 25 = .ok (.iinc 2 1, 3) := by decide +kernel
theorem dX11_allTerms_28 : decode cX11_allTerms 28 = .ok (.goto (-24), 3) := by decide +kernel
theorem dX11_allTerms_31 : decode cX11_allTerms 31 = .ok (.iload_n 1, 1) := by decide +kernel
theorem dX11_allTerms_32 : decode cX11_allTerms 32 = .ok (.ireturn, 1) := by decide +kernel
theorem dX11_takeAll_0 : decode cX11_takeAll 0 = .ok (.iconst 0, 1) := by decide +kernel
theorem dX11_takeAll_1 : decode cX11_takeAll 1 = .ok (.istore_n 2, 1) := by decide +kernel
theorem dX11_takeAll_2 : decode cX11_takeAll 2 = .ok (.iload_n 2, 1) := by decide +kernel
theorem dX11_takeAll_3 : decode cX11_takeAll 3 = .ok (.aload_n 0, 1) := by decide +kernel
theorem dX11_takeAll_4 : decode cX11_takeAll 4 = .ok (.arraylength, 1) := by decide +kernel
theorem dX11_takeAll_5 : decode cX11_takeAll 5 = .ok (.if_icmp .ge 24, 3) := by decide +kernel
theorem dX11_takeAll_8 : decode cX11_takeAll 8 = .ok (.iload_n 2, 1) := by decide +kernel
theorem dX11_takeAll_9 : decode cX11_takeAll 9 = .ok (.aload_n 1, 1) := by decide +kernel
theorem dX11_takeAll_10 : decode cX11_takeAll 10 = .ok (.arraylength, 1) := by decide +kernel
theorem dX11_takeAll_11 : decode cX11_takeAll 11 = .ok (.if_icmp .ge 18, 3) := by decide +kernel
theorem dX11_takeAll_14 : decode cX11_takeAll 14 = .ok (.aload_n 0, 1) := by decide +kernel
theorem dX11_takeAll_15 : decode cX11_takeAll 15 = .ok (.iload_n 2, 1) := by decide +kernel
theorem dX11_takeAll_16 : decode cX11_takeAll 16 = .ok (.aaload, 1) := by decide +kernel
theorem dX11_takeAll_17 : decode cX11_takeAll 17 = .ok (.aload_n 1, 1) := by decide +kernel
theorem dX11_takeAll_18 : decode cX11_takeAll 18 = .ok (.iload_n 2, 1) := by decide +kernel
theorem dX11_takeAll_19 : decode cX11_takeAll 19 = .ok (.aaload, 1) := by decide +kernel
theorem dX11_takeAll_20 : decode cX11_takeAll 20 = .ok (.invokevirtual 135, 3) := by decide +kernel
theorem dX11_takeAll_23 : decode cX11_takeAll 23 = .ok (.iinc 2 1, 3) := by decide +kernel
theorem dX11_takeAll_26 : decode cX11_takeAll 26 = .ok (.goto (-24), 3) := by decide +kernel
theorem dX11_takeAll_29 : decode cX11_takeAll 29 = .ok (.return_, 1) := by decide +kernel
theorem dX11_leaveBody_0 : decode cX11_leaveBody 0 = .ok (.aload_n 0, 1) := by decide +kernel
theorem dX11_leaveBody_1 : decode cX11_leaveBody 1 = .ok (.getfield 242, 3) := by decide +kernel
theorem dX11_leaveBody_4 : decode cX11_leaveBody 4 = .ok (.bipush 16, 2) := by decide +kernel
theorem dX11_leaveBody_6 : decode cX11_leaveBody 6 = .ok (.if_icmp .ge 23, 3) := by decide +kernel
theorem dX11_leaveBody_9 : decode cX11_leaveBody 9 = .ok (.aload_n 0, 1) := by decide +kernel
theorem dX11_leaveBody_10 : decode cX11_leaveBody 10 = .ok (.getfield 42, 3) := by decide +kernel
theorem dX11_leaveBody_13 : decode cX11_leaveBody 13 = .ok (.aload_n 0, 1) := by decide +kernel
theorem dX11_leaveBody_14 : decode cX11_leaveBody 14 = .ok (.getfield 242, 3) := by decide +kernel
theorem dX11_leaveBody_17 : decode cX11_leaveBody 17 = .ok (.iload_n 1, 1) := by decide +kernel
theorem dX11_leaveBody_18 : decode cX11_leaveBody 18 = .ok (.iastore, 1) := by decide +kernel
theorem dX11_leaveBody_19 : decode cX11_leaveBody 19 = .ok (.aload_n 0, 1) := by decide +kernel
theorem dX11_leaveBody_20 : decode cX11_leaveBody 20 = .ok (.dup, 1) := by decide +kernel
theorem dX11_leaveBody_21 : decode cX11_leaveBody 21 = .ok (.getfield 242, 3) := by decide +kernel
theorem dX11_leaveBody_24 : decode cX11_leaveBody 24 = .ok (.iconst 1, 1) := by decide +kernel
theorem dX11_leaveBody_25 : decode cX11_leaveBody 25 = .ok (.iadd, 1) := by decide +kernel
theorem dX11_leaveBody_26 : decode cX11_leaveBody 26 = .ok (.putfield 242, 3) := by decide +kernel
theorem dX11_leaveBody_29 : decode cX11_leaveBody 29 = .ok (.return_, 1) := by decide +kernel
theorem dX11_signOf_0 : decode cX11_signOf 0 = .ok (.iconst 0, 1) := by decide +kernel
theorem dX11_signOf_1 : decode cX11_signOf 1 = .ok (.istore_n 2, 1) := by decide +kernel
theorem dX11_signOf_2 : decode cX11_signOf 2 = .ok (.iconst 0, 1) := by decide +kernel
theorem dX11_signOf_3 : decode cX11_signOf 3 = .ok (.istore_n 3, 1) := by decide +kernel
theorem dX11_signOf_4 : decode cX11_signOf 4 = .ok (.iload_n 3, 1) := by decide +kernel
theorem dX11_signOf_5 : decode cX11_signOf 5 = .ok (.iconst 4, 1) := by decide +kernel
theorem dX11_signOf_6 : decode cX11_signOf 6 = .ok (.if_icmp .ge 71, 3) := by decide +kernel
theorem dX11_signOf_9 : decode cX11_signOf 9 = .ok (.iload_n 0, 1) := by decide +kernel
theorem dX11_signOf_10 : decode cX11_signOf 10 = .ok (.iconst 2, 1) := by decide +kernel
theorem dX11_signOf_11 : decode cX11_signOf 11 = .ok (.iload_n 3, 1) := by decide +kernel
theorem dX11_signOf_12 : decode cX11_signOf 12 = .ok (.imul, 1) := by decide +kernel
theorem dX11_signOf_13 : decode cX11_signOf 13 = .ok (.ishr, 1) := by decide +kernel
theorem dX11_signOf_14 : decode cX11_signOf 14 = .ok (.iconst 3, 1) := by decide +kernel
theorem dX11_signOf_15 : decode cX11_signOf 15 = .ok (.iand, 1) := by decide +kernel
theorem dX11_signOf_16 : decode cX11_signOf 16 = .ok (.istore 4, 2) := by decide +kernel
theorem dX11_signOf_18 : decode cX11_signOf 18 = .ok (.iload_n 1, 1) := by decide +kernel
theorem dX11_signOf_19 : decode cX11_signOf 19 = .ok (.iconst 2, 1) := by decide +kernel
theorem dX11_signOf_20 : decode cX11_signOf 20 = .ok (.iload_n 3, 1) := by decide +kernel
theorem dX11_signOf_21 : decode cX11_signOf 21 = .ok (.imul, 1) := by decide +kernel
theorem dX11_signOf_22 : decode cX11_signOf 22 = .ok (.ishr, 1) := by decide +kernel
theorem dX11_signOf_23 : decode cX11_signOf 23 = .ok (.iconst 3, 1) := by decide +kernel
theorem dX11_signOf_24 : decode cX11_signOf 24 = .ok (.iand, 1) := by decide +kernel
theorem dX11_signOf_25 : decode cX11_signOf 25 = .ok (.istore 5, 2) := by decide +kernel
theorem dX11_signOf_27 : decode cX11_signOf 27 = .ok (.iload 4, 2) := by decide +kernel
theorem dX11_signOf_29 : decode cX11_signOf 29 = .ok (.ifCond .eq 42, 3) := by decide +kernel
theorem dX11_signOf_32 : decode cX11_signOf 32 = .ok (.iload 5, 2) := by decide +kernel
theorem dX11_signOf_34 : decode cX11_signOf 34 = .ok (.ifCond .eq 37, 3) := by decide +kernel
theorem dX11_signOf_37 : decode cX11_signOf 37 = .ok (.iload 4, 2) := by decide +kernel
theorem dX11_signOf_39 : decode cX11_signOf 39 = .ok (.iload 5, 2) := by decide +kernel
theorem dX11_signOf_41 : decode cX11_signOf 41 = .ok (.if_icmp .eq 30, 3) := by decide +kernel
theorem dX11_signOf_44 : decode cX11_signOf 44 = .ok (.iload_n 2, 1) := by decide +kernel
theorem dX11_signOf_45 : decode cX11_signOf 45 = .ok (.iload 5, 2) := by decide +kernel
theorem dX11_signOf_47 : decode cX11_signOf 47 = .ok (.iload 4, 2) := by decide +kernel
theorem dX11_signOf_49 : decode cX11_signOf 49 = .ok (.isub, 1) := by decide +kernel
theorem dX11_signOf_50 : decode cX11_signOf 50 = .ok (.iconst 1, 1) := by decide +kernel
theorem dX11_signOf_51 : decode cX11_signOf 51 = .ok (.if_icmp .eq 13, 3) := by decide +kernel
theorem dX11_signOf_54 : decode cX11_signOf 54 = .ok (.iload 5, 2) := by decide +kernel
theorem dX11_signOf_56 : decode cX11_signOf 56 = .ok (.iload 4, 2) := by decide +kernel
theorem dX11_signOf_58 : decode cX11_signOf 58 = .ok (.isub, 1) := by decide +kernel
theorem dX11_signOf_59 : decode cX11_signOf 59 = .ok (.bipush (-2), 2) := by decide +kernel
theorem dX11_signOf_61 : decode cX11_signOf 61 = .ok (.if_icmp .ne 7, 3) := by decide +kernel
theorem dX11_signOf_64 : decode cX11_signOf 64 = .ok (.iconst 1, 1) := by decide +kernel
theorem dX11_signOf_65 : decode cX11_signOf 65 = .ok (.goto 4, 3) := by decide +kernel
theorem dX11_signOf_68 : decode cX11_signOf 68 = .ok (.iconst (-1), 1) := by decide +kernel
theorem dX11_signOf_69 : decode cX11_signOf 69 = .ok (.iadd, 1) := by decide +kernel
theorem dX11_signOf_70 : decode cX11_signOf 70 = .ok (.istore_n 2, 1) := by decide +kernel
theorem dX11_signOf_71 : decode cX11_signOf 71 = .ok (.iinc 3 1, 3) := by decide +kernel
theorem dX11_signOf_74 : decode cX11_signOf 74 = .ok (.goto (-70), 3) := by decide +kernel
theorem dX11_signOf_77 : decode cX11_signOf 77 = .ok (.iload_n 2, 1) := by decide +kernel
theorem dX11_signOf_78 : decode cX11_signOf 78 = .ok (.iconst 1, 1) := by decide +kernel
theorem dX11_signOf_79 : decode cX11_signOf 79 = .ok (.iand, 1) := by decide +kernel
theorem dX11_signOf_80 : decode cX11_signOf 80 = .ok (.ifCond .ne 5, 3) := by decide +kernel
theorem dX11_signOf_83 : decode cX11_signOf 83 = .ok (.iconst 0, 1) := by decide +kernel
theorem dX11_signOf_84 : decode cX11_signOf 84 = .ok (.ireturn, 1) := by decide +kernel
theorem dX11_signOf_85 : decode cX11_signOf 85 = .ok (.iload_n 2, 1) := by decide +kernel
theorem dX11_signOf_86 : decode cX11_signOf 86 = .ok (.iconst 1, 1) := by decide +kernel
theorem dX11_signOf_87 : decode cX11_signOf 87 = .ok (.isub, 1) := by decide +kernel
theorem dX11_signOf_88 : decode cX11_signOf 88 = .ok (.iconst 3, 1) := by decide +kernel
theorem dX11_signOf_89 : decode cX11_signOf 89 = .ok (.iand, 1) := by decide +kernel
theorem dX11_signOf_90 : decode cX11_signOf 90 = .ok (.ifCond .ne 7, 3) := by decide +kernel
theorem dX11_signOf_93 : decode cX11_signOf 93 = .ok (.iconst 1, 1) := by decide +kernel
theorem dX11_signOf_94 : decode cX11_signOf 94 = .ok (.goto 4, 3) := by decide +kernel
theorem dX11_signOf_97 : decode cX11_signOf 97 = .ok (.iconst (-1), 1) := by decide +kernel
theorem dX11_signOf_98 : decode cX11_signOf 98 = .ok (.ireturn, 1) := by decide +kernel
theorem dX11_withProduct_0 : decode cX11_withProduct 0 = .ok (.iload_n 0, 1) := by decide +kernel
theorem dX11_withProduct_1 : decode cX11_withProduct 1 = .ok (.iload_n 1, 1) := by decide +kernel
theorem dX11_withProduct_2 : decode cX11_withProduct 2 = .ok (.bipush 20, 2) := by decide +kernel
theorem dX11_withProduct_4 : decode cX11_withProduct 4 = .ok (.ishl, 1) := by decide +kernel
theorem dX11_withProduct_5 : decode cX11_withProduct 5 = .ok (.ixor, 1) := by decide +kernel
theorem dX11_withProduct_6 : decode cX11_withProduct 6 = .ok (.ireturn, 1) := by decide +kernel
theorem dX11_turnByQuarters_0 : decode cX11_turnByQuarters 0 = .ok (.iload_n 2, 1) := by decide +kernel
theorem dX11_turnByQuarters_1 : decode cX11_turnByQuarters 1 = .ok (.ifCond .ne 5, 3) := by decide +kernel
theorem dX11_turnByQuarters_4 : decode cX11_turnByQuarters 4 = .ok (.iconst 1, 1) := by decide +kernel
theorem dX11_turnByQuarters_5 : decode cX11_turnByQuarters 5 = .ok (.ireturn, 1) := by decide +kernel
theorem dX11_turnByQuarters_6 : decode cX11_turnByQuarters 6 = .ok (.aload_n 0, 1) := by decide +kernel
theorem dX11_turnByQuarters_7 : decode cX11_turnByQuarters 7 = .ok (.getfield 21, 3) := by decide +kernel
theorem dX11_turnByQuarters_10 : decode cX11_turnByQuarters 10 = .ok (.invokevirtual 119, 3) := by decide +kernel
theorem dX11_turnByQuarters_13 : decode cX11_turnByQuarters 13 = .ok (.iconst 0, 1) := by decide +kernel
theorem dX11_turnByQuarters_14 : decode cX11_turnByQuarters 14 = .ok (.istore_n 3, 1) := by decide +kernel
theorem dX11_turnByQuarters_15 : decode cX11_turnByQuarters 15 = .ok (.iload_n 3, 1) := by decide +kernel
theorem dX11_turnByQuarters_16 : decode cX11_turnByQuarters 16 = .ok (.aload_n 0, 1) := by decide +kernel
theorem dX11_turnByQuarters_17 : decode cX11_turnByQuarters 17 = .ok (.getfield 59, 3) := by decide +kernel
theorem dX11_turnByQuarters_20 : decode cX11_turnByQuarters 20 = .ok (.getfield 114, 3) := by decide +kernel
theorem dX11_turnByQuarters_23 : decode cX11_turnByQuarters 23 = .ok (.if_icmp .ge 115, 3) := by decide +kernel
theorem dX11_turnByQuarters_26 : decode cX11_turnByQuarters 26 = .ok (.aload_n 0, 1) := by decide +kernel
theorem dX11_turnByQuarters_27 : decode cX11_turnByQuarters 27 = .ok (.getfield 59, 3) := by decide +kernel
theorem dX11_turnByQuarters_30 : decode cX11_turnByQuarters 30 = .ok (.getfield 158, 3) := by decide +kernel
theorem dX11_turnByQuarters_33 : decode cX11_turnByQuarters 33 = .ok (.iload_n 3, 1) := by decide +kernel
theorem dX11_turnByQuarters_34 : decode cX11_turnByQuarters 34 = .ok (.iaload, 1) := by decide +kernel
theorem dX11_turnByQuarters_35 : decode cX11_turnByQuarters 35 = .ok (.istore 4, 2) := by decide +kernel
theorem dX11_turnByQuarters_37 : decode cX11_turnByQuarters 37 = .ok (.aload_n 0, 1) := by decide +kernel
theorem dX11_turnByQuarters_38 : decode cX11_turnByQuarters 38 = .ok (.getfield 59, 3) := by decide +kernel
theorem dX11_turnByQuarters_41 : decode cX11_turnByQuarters 41 = .ok (.getfield 154, 3) := by decide +kernel
theorem dX11_turnByQuarters_44 : decode cX11_turnByQuarters 44 = .ok (.iload_n 3, 1) := by decide +kernel
theorem dX11_turnByQuarters_45 : decode cX11_turnByQuarters 45 = .ok (.laload, 1) := by decide +kernel
theorem dX11_turnByQuarters_46 : decode cX11_turnByQuarters 46 = .ok (.lstore 5, 2) := by decide +kernel
theorem dX11_turnByQuarters_48 : decode cX11_turnByQuarters 48 = .ok (.iload_n 1, 1) := by decide +kernel
theorem dX11_turnByQuarters_49 : decode cX11_turnByQuarters 49 = .ok (.iload 4, 2) := by decide +kernel
theorem dX11_turnByQuarters_51 : decode cX11_turnByQuarters 51 = .ok (.invokestatic 161, 3) := by decide +kernel
theorem dX11_turnByQuarters_54 : decode cX11_turnByQuarters 54 = .ok (.invokestatic 278, 3) := by decide +kernel
theorem dX11_turnByQuarters_57 : decode cX11_turnByQuarters 57 = .ok (.istore 7, 2) := by decide +kernel
theorem dX11_turnByQuarters_59 : decode cX11_turnByQuarters 59 = .ok (.iload 7, 2) := by decide +kernel
theorem dX11_turnByQuarters_61 : decode cX11_turnByQuarters 61 = .ok (.ifCond .ne 17, 3) := by decide +kernel
theorem dX11_turnByQuarters_64 : decode cX11_turnByQuarters 64 = .ok (.aload_n 0, 1) := by decide +kernel
theorem dX11_turnByQuarters_65 : decode cX11_turnByQuarters 65 = .ok (.getfield 21, 3) := by decide +kernel
theorem dX11_turnByQuarters_68 : decode cX11_turnByQuarters 68 = .ok (.iload 4, 2) := by decide +kernel
theorem dX11_turnByQuarters_70 : decode cX11_turnByQuarters 70 = .ok (.lload 5, 2) := by decide +kernel
theorem dX11_turnByQuarters_72 : decode cX11_turnByQuarters 72 = .ok (.invokevirtual 126, 3) := by decide +kernel
theorem dX11_turnByQuarters_75 : decode cX11_turnByQuarters 75 = .ok (.goto 57, 3) := by decide +kernel
theorem dX11_turnByQuarters_78 : decode cX11_turnByQuarters 78 = .ok (.iload_n 2, 1) := by decide +kernel
theorem dX11_turnByQuarters_79 : decode cX11_turnByQuarters 79 = .ok (.iconst 2, 1) := by decide +kernel
theorem dX11_turnByQuarters_80 : decode cX11_turnByQuarters 80 = .ok (.if_icmp .ne 18, 3) := by decide +kernel
theorem dX11_turnByQuarters_83 : decode cX11_turnByQuarters 83 = .ok (.aload_n 0, 1) := by decide +kernel
theorem dX11_turnByQuarters_84 : decode cX11_turnByQuarters 84 = .ok (.getfield 21, 3) := by decide +kernel
theorem dX11_turnByQuarters_87 : decode cX11_turnByQuarters 87 = .ok (.iload 4, 2) := by decide +kernel
theorem dX11_turnByQuarters_89 : decode cX11_turnByQuarters 89 = .ok (.lload 5, 2) := by decide +kernel
theorem dX11_turnByQuarters_91 : decode cX11_turnByQuarters 91 = .ok (.lneg, 1) := by decide +kernel
theorem dX11_turnByQuarters_92 : decode cX11_turnByQuarters 92 = .ok (.invokevirtual 126, 3) := by decide +kernel
theorem dX11_turnByQuarters_95 : decode cX11_turnByQuarters 95 = .ok (.goto 37, 3) := by decide +kernel
theorem dX11_turnByQuarters_98 : decode cX11_turnByQuarters 98 = .ok (.aload_n 0, 1) := by decide +kernel
theorem dX11_turnByQuarters_99 : decode cX11_turnByQuarters 99 = .ok (.getfield 21, 3) := by decide +kernel
theorem dX11_turnByQuarters_102 : decode cX11_turnByQuarters 102 = .ok (.iload 4, 2) := by decide +kernel
theorem dX11_turnByQuarters_104 : decode cX11_turnByQuarters 104 = .ok (.iload_n 1, 1) := by decide +kernel
theorem dX11_turnByQuarters_105 : decode cX11_turnByQuarters 105 = .ok (.invokestatic 281, 3) := by decide +kernel
theorem dX11_turnByQuarters_108 : decode cX11_turnByQuarters 108 = .ok (.iload_n 2, 1) := by decide +kernel
theorem dX11_turnByQuarters_109 : decode cX11_turnByQuarters 109 = .ok (.iconst 1, 1) := by decide +kernel
theorem dX11_turnByQuarters_110 : decode cX11_turnByQuarters 110 = .ok (.if_icmp .ne 12, 3) := by decide +kernel
theorem dX11_turnByQuarters_113 : decode cX11_turnByQuarters 113 = .ok (.lload 5, 2) := by decide +kernel
theorem dX11_turnByQuarters_115 : decode cX11_turnByQuarters 115 = .ok (.iload 7, 2) := by decide +kernel
theorem dX11_turnByQuarters_117 : decode cX11_turnByQuarters 117 = .ok (.i2l, 1) := by decide +kernel
theorem dX11_turnByQuarters_118 : decode cX11_turnByQuarters 118 = .ok (.lmul, 1) := by decide +kernel
theorem dX11_turnByQuarters_119 : decode cX11_turnByQuarters 119 = .ok (.goto 10, 3) := by decide +kernel
theorem dX11_turnByQuarters_122 : decode cX11_turnByQuarters 122 = .ok (.lload 5, 2) := by decide +kernel
theorem dX11_turnByQuarters_124 : decode cX11_turnByQuarters 124 = .ok (.lneg, 1) := by decide +kernel
theorem dX11_turnByQuarters_125 : decode cX11_turnByQuarters 125 = .ok (.iload 7, 2) := by decide +kernel
theorem dX11_turnByQuarters_127 : decode cX11_turnByQuarters 127 = .ok (.i2l, 1) := by decide +kernel
theorem dX11_turnByQuarters_128 : decode cX11_turnByQuarters 128 = .ok (.lmul, 1) := by decide +kernel
theorem dX11_turnByQuarters_129 : decode cX11_turnByQuarters 129 = .ok (.invokevirtual 126, 3) := by decide +kernel
theorem dX11_turnByQuarters_132 : decode cX11_turnByQuarters 132 = .ok (.iinc 3 1, 3) := by decide +kernel
theorem dX11_turnByQuarters_135 : decode cX11_turnByQuarters 135 = .ok (.goto (-120), 3) := by decide +kernel
theorem dX11_turnByQuarters_138 : decode cX11_turnByQuarters 138 = .ok (.aload_n 0, 1) := by decide +kernel
theorem dX11_turnByQuarters_139 : decode cX11_turnByQuarters 139 = .ok (.getfield 21, 3) := by decide +kernel
theorem dX11_turnByQuarters_142 : decode cX11_turnByQuarters 142 = .ok (.aload_n 0, 1) := by decide +kernel
theorem dX11_turnByQuarters_143 : decode cX11_turnByQuarters 143 = .ok (.getfield 59, 3) := by decide +kernel
theorem dX11_turnByQuarters_146 : decode cX11_turnByQuarters 146 = .ok (.invokevirtual 130, 3) := by decide +kernel
theorem dX11_turnByQuarters_149 : decode cX11_turnByQuarters 149 = .ok (.ireturn, 1) := by decide +kernel
theorem dX11_turnByLetter_0 : decode cX11_turnByLetter 0 = .ok (.aload_n 0, 1) := by decide +kernel
theorem dX11_turnByLetter_1 : decode cX11_turnByLetter 1 = .ok (.getfield 21, 3) := by decide +kernel
theorem dX11_turnByLetter_4 : decode cX11_turnByLetter 4 = .ok (.invokevirtual 119, 3) := by decide +kernel
theorem dX11_turnByLetter_7 : decode cX11_turnByLetter 7 = .ok (.iconst 0, 1) := by decide +kernel
theorem dX11_turnByLetter_8 : decode cX11_turnByLetter 8 = .ok (.istore 4, 2) := by decide +kernel
theorem dX11_turnByLetter_10 : decode cX11_turnByLetter 10 = .ok (.iload 4, 2) := by decide +kernel
theorem dX11_turnByLetter_12 : decode cX11_turnByLetter 12 = .ok (.aload_n 0, 1) := by decide +kernel
theorem dX11_turnByLetter_13 : decode cX11_turnByLetter 13 = .ok (.getfield 59, 3) := by decide +kernel
theorem dX11_turnByLetter_16 : decode cX11_turnByLetter 16 = .ok (.getfield 114, 3) := by decide +kernel
theorem dX11_turnByLetter_19 : decode cX11_turnByLetter 19 = .ok (.if_icmp .ge 102, 3) := by decide +kernel
theorem dX11_turnByLetter_22 : decode cX11_turnByLetter 22 = .ok (.aload_n 0, 1) := by decide +kernel
theorem dX11_turnByLetter_23 : decode cX11_turnByLetter 23 = .ok (.getfield 59, 3) := by decide +kernel
theorem dX11_turnByLetter_26 : decode cX11_turnByLetter 26 = .ok (.getfield 158, 3) := by decide +kernel
theorem dX11_turnByLetter_29 : decode cX11_turnByLetter 29 = .ok (.iload 4, 2) := by decide +kernel
theorem dX11_turnByLetter_31 : decode cX11_turnByLetter 31 = .ok (.iaload, 1) := by decide +kernel
theorem dX11_turnByLetter_32 : decode cX11_turnByLetter 32 = .ok (.istore 5, 2) := by decide +kernel
theorem dX11_turnByLetter_34 : decode cX11_turnByLetter 34 = .ok (.aload_n 0, 1) := by decide +kernel
theorem dX11_turnByLetter_35 : decode cX11_turnByLetter 35 = .ok (.getfield 59, 3) := by decide +kernel
theorem dX11_turnByLetter_38 : decode cX11_turnByLetter 38 = .ok (.getfield 154, 3) := by decide +kernel
theorem dX11_turnByLetter_41 : decode cX11_turnByLetter 41 = .ok (.iload 4, 2) := by decide +kernel
theorem dX11_turnByLetter_43 : decode cX11_turnByLetter 43 = .ok (.laload, 1) := by decide +kernel
theorem dX11_turnByLetter_44 : decode cX11_turnByLetter 44 = .ok (.lstore 6, 2) := by decide +kernel
theorem dX11_turnByLetter_46 : decode cX11_turnByLetter 46 = .ok (.iload_n 1, 1) := by decide +kernel
theorem dX11_turnByLetter_47 : decode cX11_turnByLetter 47 = .ok (.iload 5, 2) := by decide +kernel
theorem dX11_turnByLetter_49 : decode cX11_turnByLetter 49 = .ok (.invokestatic 161, 3) := by decide +kernel
theorem dX11_turnByLetter_52 : decode cX11_turnByLetter 52 = .ok (.invokestatic 278, 3) := by decide +kernel
theorem dX11_turnByLetter_55 : decode cX11_turnByLetter 55 = .ok (.istore 8, 2) := by decide +kernel
theorem dX11_turnByLetter_57 : decode cX11_turnByLetter 57 = .ok (.iload 8, 2) := by decide +kernel
theorem dX11_turnByLetter_59 : decode cX11_turnByLetter 59 = .ok (.ifCond .ne 17, 3) := by decide +kernel
theorem dX11_turnByLetter_62 : decode cX11_turnByLetter 62 = .ok (.aload_n 0, 1) := by decide +kernel
theorem dX11_turnByLetter_63 : decode cX11_turnByLetter 63 = .ok (.getfield 21, 3) := by decide +kernel
theorem dX11_turnByLetter_66 : decode cX11_turnByLetter 66 = .ok (.iload 5, 2) := by decide +kernel
theorem dX11_turnByLetter_68 : decode cX11_turnByLetter 68 = .ok (.lload 6, 2) := by decide +kernel
theorem dX11_turnByLetter_70 : decode cX11_turnByLetter 70 = .ok (.invokevirtual 126, 3) := by decide +kernel
theorem dX11_turnByLetter_73 : decode cX11_turnByLetter 73 = .ok (.goto 42, 3) := by decide +kernel
theorem dX11_turnByLetter_76 : decode cX11_turnByLetter 76 = .ok (.aload_n 0, 1) := by decide +kernel
theorem dX11_turnByLetter_77 : decode cX11_turnByLetter 77 = .ok (.getfield 21, 3) := by decide +kernel
theorem dX11_turnByLetter_80 : decode cX11_turnByLetter 80 = .ok (.iload 5, 2) := by decide +kernel
theorem dX11_turnByLetter_82 : decode cX11_turnByLetter 82 = .ok (.iload_n 2, 1) := by decide +kernel
theorem dX11_turnByLetter_83 : decode cX11_turnByLetter 83 = .ok (.invokestatic 284, 3) := by decide +kernel
theorem dX11_turnByLetter_86 : decode cX11_turnByLetter 86 = .ok (.iadd, 1) := by decide +kernel
theorem dX11_turnByLetter_87 : decode cX11_turnByLetter 87 = .ok (.lload 6, 2) := by decide +kernel
theorem dX11_turnByLetter_89 : decode cX11_turnByLetter 89 = .ok (.invokevirtual 126, 3) := by decide +kernel
theorem dX11_turnByLetter_92 : decode cX11_turnByLetter 92 = .ok (.aload_n 0, 1) := by decide +kernel
theorem dX11_turnByLetter_93 : decode cX11_turnByLetter 93 = .ok (.getfield 21, 3) := by decide +kernel
theorem dX11_turnByLetter_96 : decode cX11_turnByLetter 96 = .ok (.iload 5, 2) := by decide +kernel
theorem dX11_turnByLetter_98 : decode cX11_turnByLetter 98 = .ok (.iload_n 1, 1) := by decide +kernel
theorem dX11_turnByLetter_99 : decode cX11_turnByLetter 99 = .ok (.invokestatic 281, 3) := by decide +kernel
theorem dX11_turnByLetter_102 : decode cX11_turnByLetter 102 = .ok (.iload_n 2, 1) := by decide +kernel
theorem dX11_turnByLetter_103 : decode cX11_turnByLetter 103 = .ok (.lload 6, 2) := by decide +kernel
theorem dX11_turnByLetter_105 : decode cX11_turnByLetter 105 = .ok (.iload 8, 2) := by decide +kernel
theorem dX11_turnByLetter_107 : decode cX11_turnByLetter 107 = .ok (.i2l, 1) := by decide +kernel
theorem dX11_turnByLetter_108 : decode cX11_turnByLetter 108 = .ok (.lmul, 1) := by decide +kernel
theorem dX11_turnByLetter_109 : decode cX11_turnByLetter 109 = .ok (.iload_n 3, 1) := by decide +kernel
theorem dX11_turnByLetter_110 : decode cX11_turnByLetter 110 = .ok (.i2l, 1) := by decide +kernel
theorem dX11_turnByLetter_111 : decode cX11_turnByLetter 111 = .ok (.lmul, 1) := by decide +kernel
theorem dX11_turnByLetter_112 : decode cX11_turnByLetter 112 = .ok (.invokevirtual 287, 3) := by decide +kernel
theorem dX11_turnByLetter_115 : decode cX11_turnByLetter 115 = .ok (.iinc 4 1, 3) := by decide +kernel
theorem dX11_turnByLetter_118 : decode cX11_turnByLetter 118 = .ok (.goto (-108), 3) := by decide +kernel
theorem dX11_turnByLetter_121 : decode cX11_turnByLetter 121 = .ok (.aload_n 0, 1) := by decide +kernel
theorem dX11_turnByLetter_122 : decode cX11_turnByLetter 122 = .ok (.getfield 21, 3) := by decide +kernel
theorem dX11_turnByLetter_125 : decode cX11_turnByLetter 125 = .ok (.aload_n 0, 1) := by decide +kernel
theorem dX11_turnByLetter_126 : decode cX11_turnByLetter 126 = .ok (.getfield 59, 3) := by decide +kernel
theorem dX11_turnByLetter_129 : decode cX11_turnByLetter 129 = .ok (.invokevirtual 130, 3) := by decide +kernel
theorem dX11_turnByLetter_132 : decode cX11_turnByLetter 132 = .ok (.ireturn, 1) := by decide +kernel
theorem dX11_productOf_0 : decode cX11_productOf 0 = .ok (.iload_n 0, 1) := by decide +kernel
theorem dX11_productOf_1 : decode cX11_productOf 1 = .ok (.bipush 20, 2) := by decide +kernel
theorem dX11_productOf_3 : decode cX11_productOf 3 = .ok (.iushr, 1) := by decide +kernel
theorem dX11_productOf_4 : decode cX11_productOf 4 = .ok (.ireturn, 1) := by decide +kernel
theorem dX11_oneSine_0 : decode cX11_oneSine 0 = .ok (.iconst 1, 1) := by decide +kernel
theorem dX11_oneSine_1 : decode cX11_oneSine 1 = .ok (.iconst 5, 1) := by decide +kernel
theorem dX11_oneSine_2 : decode cX11_oneSine 2 = .ok (.iconst 3, 1) := by decide +kernel
theorem dX11_oneSine_3 : decode cX11_oneSine 3 = .ok (.iload_n 0, 1) := by decide +kernel
theorem dX11_oneSine_4 : decode cX11_oneSine 4 = .ok (.isub, 1) := by decide +kernel
theorem dX11_oneSine_5 : decode cX11_oneSine 5 = .ok (.imul, 1) := by decide +kernel
theorem dX11_oneSine_6 : decode cX11_oneSine 6 = .ok (.ishl, 1) := by decide +kernel
theorem dX11_oneSine_7 : decode cX11_oneSine 7 = .ok (.ireturn, 1) := by decide +kernel
theorem dX11_oneCosine_0 : decode cX11_oneCosine 0 = .ok (.iload_n 0, 1) := by decide +kernel
theorem dX11_oneCosine_1 : decode cX11_oneCosine 1 = .ok (.invokestatic 291, 3) := by decide +kernel
theorem dX11_oneCosine_4 : decode cX11_oneCosine 4 = .ok (.iconst 1, 1) := by decide +kernel
theorem dX11_oneCosine_5 : decode cX11_oneCosine 5 = .ok (.ishl, 1) := by decide +kernel
theorem dX11_oneCosine_6 : decode cX11_oneCosine 6 = .ok (.ireturn, 1) := by decide +kernel
theorem dX11_cosinesOf_0 : decode cX11_cosinesOf 0 = .ok (.iload_n 0, 1) := by decide +kernel
theorem dX11_cosinesOf_1 : decode cX11_cosinesOf 1 = .ok (.iconst 5, 1) := by decide +kernel
theorem dX11_cosinesOf_2 : decode cX11_cosinesOf 2 = .ok (.iconst 3, 1) := by decide +kernel
theorem dX11_cosinesOf_3 : decode cX11_cosinesOf 3 = .ok (.iload_n 1, 1) := by decide +kernel
theorem dX11_cosinesOf_4 : decode cX11_cosinesOf 4 = .ok (.isub, 1) := by decide +kernel
theorem dX11_cosinesOf_5 : decode cX11_cosinesOf 5 = .ok (.imul, 1) := by decide +kernel
theorem dX11_cosinesOf_6 : decode cX11_cosinesOf 6 = .ok (.iconst 1, 1) := by decide +kernel
theorem dX11_cosinesOf_7 : decode cX11_cosinesOf 7 = .ok (.iadd, 1) := by decide +kernel
theorem dX11_cosinesOf_8 : decode cX11_cosinesOf 8 = .ok (.ishr, 1) := by decide +kernel
theorem dX11_cosinesOf_9 : decode cX11_cosinesOf 9 = .ok (.bipush 15, 2) := by decide +kernel
theorem dX11_cosinesOf_11 : decode cX11_cosinesOf 11 = .ok (.iand, 1) := by decide +kernel
theorem dX11_cosinesOf_12 : decode cX11_cosinesOf 12 = .ok (.ireturn, 1) := by decide +kernel
theorem dX11_sinesOf_0 : decode cX11_sinesOf 0 = .ok (.iload_n 0, 1) := by decide +kernel
theorem dX11_sinesOf_1 : decode cX11_sinesOf 1 = .ok (.iconst 5, 1) := by decide +kernel
theorem dX11_sinesOf_2 : decode cX11_sinesOf 2 = .ok (.iconst 3, 1) := by decide +kernel
theorem dX11_sinesOf_3 : decode cX11_sinesOf 3 = .ok (.iload_n 1, 1) := by decide +kernel
theorem dX11_sinesOf_4 : decode cX11_sinesOf 4 = .ok (.isub, 1) := by decide +kernel
theorem dX11_sinesOf_5 : decode cX11_sinesOf 5 = .ok (.imul, 1) := by decide +kernel
theorem dX11_sinesOf_6 : decode cX11_sinesOf 6 = .ok (.ishr, 1) := by decide +kernel
theorem dX11_sinesOf_7 : decode cX11_sinesOf 7 = .ok (.iconst 1, 1) := by decide +kernel
theorem dX11_sinesOf_8 : decode cX11_sinesOf 8 = .ok (.iand, 1) := by decide +kernel
theorem dX11_sinesOf_9 : decode cX11_sinesOf 9 = .ok (.ireturn, 1) := by decide +kernel
theorem dX11_powerOf_0 : decode cX11_powerOf 0 = .ok (.iload_n 1, 1) := by decide +kernel
theorem dX11_powerOf_1 : decode cX11_powerOf 1 = .ok (.iconst 1, 1) := by decide +kernel
theorem dX11_powerOf_2 : decode cX11_powerOf 2 = .ok (.iand, 1) := by decide +kernel
theorem dX11_powerOf_3 : decode cX11_powerOf 3 = .ok (.ifCond .ne 13, 3) := by decide +kernel
theorem dX11_powerOf_6 : decode cX11_powerOf 6 = .ok (.iload_n 0, 1) := by decide +kernel
theorem dX11_powerOf_7 : decode cX11_powerOf 7 = .ok (.iload_n 1, 1) := by decide +kernel
theorem dX11_powerOf_8 : decode cX11_powerOf 8 = .ok (.iconst 1, 1) := by decide +kernel
theorem dX11_powerOf_9 : decode cX11_powerOf 9 = .ok (.ishr, 1) := by decide +kernel
theorem dX11_powerOf_10 : decode cX11_powerOf 10 = .ok (.invokestatic 294, 3) := by decide +kernel
theorem dX11_powerOf_13 : decode cX11_powerOf 13 = .ok (.goto 10, 3) := by decide +kernel
theorem dX11_powerOf_16 : decode cX11_powerOf 16 = .ok (.iload_n 0, 1) := by decide +kernel
theorem dX11_powerOf_17 : decode cX11_powerOf 17 = .ok (.iload_n 1, 1) := by decide +kernel
theorem dX11_powerOf_18 : decode cX11_powerOf 18 = .ok (.iconst 1, 1) := by decide +kernel
theorem dX11_powerOf_19 : decode cX11_powerOf 19 = .ok (.ishr, 1) := by decide +kernel
theorem dX11_powerOf_20 : decode cX11_powerOf 20 = .ok (.invokestatic 297, 3) := by decide +kernel
theorem dX11_powerOf_23 : decode cX11_powerOf 23 = .ok (.ireturn, 1) := by decide +kernel
theorem dX12_init_0 : decode cX12_init 0 = .ok (.aload_n 0, 1) := by decide +kernel
theorem dX12_init_1 : decode cX12_init 1 = .ok (.invokespecial 1, 3) := by decide +kernel
theorem dX12_init_4 : decode cX12_init 4 = .ok (.aload_n 0, 1) := by decide +kernel
theorem dX12_init_5 : decode cX12_init 5 = .ok (.bipush 8, 2) := by decide +kernel
theorem dX12_init_7 : decode cX12_init 7 = .ok (.newarray .int, 2) := by decide +kernel
theorem dX12_init_9 : decode cX12_init 9 = .ok (.putfield 7, 3) := by decide +kernel
theorem dX12_init_12 : decode cX12_init 12 = .ok (.aload_n 0, 1) := by decide +kernel
theorem dX12_init_13 : decode cX12_init 13 = .ok (.bipush 8, 2) := by decide +kernel
theorem dX12_init_15 : decode cX12_init 15 = .ok (.newarray .int, 2) := by decide +kernel
theorem dX12_init_17 : decode cX12_init 17 = .ok (.putfield 13, 3) := by decide +kernel
theorem dX12_init_20 : decode cX12_init 20 = .ok (.aload_n 0, 1) := by decide +kernel
theorem dX12_init_21 : decode cX12_init 21 = .ok (.sipush 480, 3) := by decide +kernel
theorem dX12_init_24 : decode cX12_init 24 = .ok (.newarray .int, 2) := by decide +kernel
theorem dX12_init_26 : decode cX12_init 26 = .ok (.putfield 16, 3) := by decide +kernel
theorem dX12_init_29 : decode cX12_init 29 = .ok (.aload_n 0, 1) := by decide +kernel
theorem dX12_init_30 : decode cX12_init 30 = .ok (.bipush 60, 2) := by decide +kernel
theorem dX12_init_32 : decode cX12_init 32 = .ok (.newarray .int, 2) := by decide +kernel
theorem dX12_init_34 : decode cX12_init 34 = .ok (.putfield 19, 3) := by decide +kernel
theorem dX12_init_37 : decode cX12_init 37 = .ok (.aload_n 0, 1) := by decide +kernel
theorem dX12_init_38 : decode cX12_init 38 = .ok (.bipush 18, 2) := by decide +kernel
theorem dX12_init_40 : decode cX12_init 40 = .ok (.newarray .int, 2) := by decide +kernel
theorem dX12_init_42 : decode cX12_init 42 = .ok (.putfield 22, 3) := by decide +kernel
theorem dX12_init_45 : decode cX12_init 45 = .ok (.aload_n 0, 1) := by decide +kernel
theorem dX12_init_46 : decode cX12_init 46 = .ok (.sipush 5400, 3) := by decide +kernel
theorem dX12_init_49 : decode cX12_init 49 = .ok (.newarray .int, 2) := by decide +kernel
theorem dX12_init_51 : decode cX12_init 51 = .ok (.putfield 25, 3) := by decide +kernel
theorem dX12_init_54 : decode cX12_init 54 = .ok (.aload_n 0, 1) := by decide +kernel
theorem dX12_init_55 : decode cX12_init 55 = .ok (.sipush 5400, 3) := by decide +kernel
theorem dX12_init_58 : decode cX12_init 58 = .ok (.newarray .long, 2) := by decide +kernel
theorem dX12_init_60 : decode cX12_init 60 = .ok (.putfield 28, 3) := by decide +kernel
theorem dX12_init_63 : decode cX12_init 63 = .ok (.aload_n 0, 1) := by decide +kernel
theorem dX12_init_64 : decode cX12_init 64 = .ok (.sipush 1000, 3) := by decide +kernel
theorem dX12_init_67 : decode cX12_init 67 = .ok (.newarray .int, 2) := by decide +kernel
theorem dX12_init_69 : decode cX12_init 69 = .ok (.putfield 32, 3) := by decide +kernel
theorem dX12_init_72 : decode cX12_init 72 = .ok (.aload_n 0, 1) := by decide +kernel
theorem dX12_init_73 : decode cX12_init 73 = .ok (.sipush 1000, 3) := by decide +kernel
theorem dX12_init_76 : decode cX12_init 76 = .ok (.newarray .long, 2) := by decide +kernel
theorem dX12_init_78 : decode cX12_init 78 = .ok (.putfield 35, 3) := by decide +kernel
theorem dX12_init_81 : decode cX12_init 81 = .ok (.aload_n 0, 1) := by decide +kernel
theorem dX12_init_82 : decode cX12_init 82 = .ok (.bipush 40, 2) := by decide +kernel
theorem dX12_init_84 : decode cX12_init 84 = .ok (.newarray .int, 2) := by decide +kernel
theorem dX12_init_86 : decode cX12_init 86 = .ok (.putfield 38, 3) := by decide +kernel
theorem dX12_init_89 : decode cX12_init 89 = .ok (.aload_n 0, 1) := by decide +kernel
theorem dX12_init_90 : decode cX12_init 90 = .ok (.bipush 40, 2) := by decide +kernel
theorem dX12_init_92 : decode cX12_init 92 = .ok (.newarray .int, 2) := by decide +kernel
theorem dX12_init_94 : decode cX12_init 94 = .ok (.putfield 41, 3) := by decide +kernel
theorem dX12_init_97 : decode cX12_init 97 = .ok (.aload_n 0, 1) := by decide +kernel
theorem dX12_init_98 : decode cX12_init 98 = .ok (.bipush 40, 2) := by decide +kernel
theorem dX12_init_100 : decode cX12_init 100 = .ok (.newarray .int, 2) := by decide +kernel
theorem dX12_init_102 : decode cX12_init 102 = .ok (.putfield 44, 3) := by decide +kernel
theorem dX12_init_105 : decode cX12_init 105 = .ok (.aload_n 0, 1) := by decide +kernel
theorem dX12_init_106 : decode cX12_init 106 = .ok (.bipush 40, 2) := by decide +kernel
theorem dX12_init_108 : decode cX12_init 108 = .ok (.newarray .int, 2) := by decide +kernel
theorem dX12_init_110 : decode cX12_init 110 = .ok (.putfield 47, 3) := by decide +kernel
theorem dX12_init_113 : decode cX12_init 113 = .ok (.aload_n 0, 1) := by decide +kernel
theorem dX12_init_114 : decode cX12_init 114 = .ok (.bipush 40, 2) := by decide +kernel
theorem dX12_init_116 : decode cX12_init 116 = .ok (.newarray .int, 2) := by decide +kernel
theorem dX12_init_118 : decode cX12_init 118 = .ok (.putfield 50, 3) := by decide +kernel
theorem dX12_init_121 : decode cX12_init 121 = .ok (.aload_n 0, 1) := by decide +kernel
theorem dX12_init_122 : decode cX12_init 122 = .ok (.bipush 16, 2) := by decide +kernel
theorem dX12_init_124 : decode cX12_init 124 = .ok (.newarray .int, 2) := by decide +kernel
theorem dX12_init_126 : decode cX12_init 126 = .ok (.putfield 53, 3) := by decide +kernel
theorem dX12_init_129 : decode cX12_init 129 = .ok (.aload_n 0, 1) := by decide +kernel
theorem dX12_init_130 : decode cX12_init 130 = .ok (.ldc 56, 2) := by decide +kernel
theorem dX12_init_132 : decode cX12_init 132 = .ok (.putfield 57, 3) := by decide +kernel
theorem dX12_init_135 : decode cX12_init 135 = .ok (.aload_n 0, 1) := by decide +kernel
theorem dX12_init_136 : decode cX12_init 136 = .ok (.iconst 3, 1) := by decide +kernel
theorem dX12_init_137 : decode cX12_init 137 = .ok (.newarray .int, 2) := by decide +kernel
theorem dX12_init_139 : decode cX12_init 139 = .ok (.putfield 61, 3) := by decide +kernel
theorem dX12_init_142 : decode cX12_init 142 = .ok (.aload_n 0, 1) := by decide +kernel
theorem dX12_init_143 : decode cX12_init 143 = .ok (.iconst 3, 1) := by decide +kernel
theorem dX12_init_144 : decode cX12_init 144 = .ok (.newarray .int, 2) := by decide +kernel
theorem dX12_init_146 : decode cX12_init 146 = .ok (.putfield 64, 3) := by decide +kernel
theorem dX12_init_149 : decode cX12_init 149 = .ok (.aload_n 0, 1) := by decide +kernel
theorem dX12_init_150 : decode cX12_init 150 = .ok (.iload_n 1, 1) := by decide +kernel
theorem dX12_init_151 : decode cX12_init 151 = .ok (.iconst 1, 1) := by decide +kernel
theorem dX12_init_152 : decode cX12_init 152 = .ok (.if_icmp .ge 7, 3) := by decide +kernel
theorem dX12_init_155 : decode cX12_init 155 = .ok (.iconst 1, 1) := by decide +kernel
theorem dX12_init_156 : decode cX12_init 156 = .ok (.goto 13, 3) := by decide +kernel
theorem dX12_init_159 : decode cX12_init 159 = .ok (.iload_n 1, 1) := by decide +kernel
theorem dX12_init_160 : decode cX12_init 160 = .ok (.iconst 4, 1) := by decide +kernel
theorem dX12_init_161 : decode cX12_init 161 = .ok (.if_icmp .le 7, 3) := by decide +kernel
theorem dX12_init_164 : decode cX12_init 164 = .ok (.iconst 4, 1) := by decide +kernel
theorem dX12_init_165 : decode cX12_init 165 = .ok (.goto 4, 3) := by decide +kernel
theorem dX12_init_168 : decode cX12_init 168 = .ok (.iload_n 1, 1) := by decide +kernel
theorem dX12_init_169 : decode cX12_init 169 = .ok (.putfield 67, 3) := by decide +kernel
theorem dX12_init_172 : decode cX12_init 172 = .ok (.aload_n 0, 1) := by decide +kernel
theorem dX12_init_173 : decode cX12_init 173 = .ok (.iconst 1, 1) := by decide +kernel
theorem dX12_init_174 : decode cX12_init 174 = .ok (.iconst 2, 1) := by decide +kernel
theorem dX12_init_175 : decode cX12_init 175 = .ok (.aload_n 0, 1) := by decide +kernel
theorem dX12_init_176 : decode cX12_init 176 = .ok (.getfield 67, 3) := by decide +kernel
theorem dX12_init_179 : decode cX12_init 179 = .ok (.imul, 1) := by decide +kernel
theorem dX12_init_180 : decode cX12_init 180 = .ok (.ishl, 1) := by decide +kernel
theorem dX12_init_181 : decode cX12_init 181 = .ok (.putfield 70, 3) := by decide +kernel
theorem dX12_init_184 : decode cX12_init 184 = .ok (.return_, 1) := by decide +kernel
theorem dX12_in_0 : decode cX12_in 0 = .ok (.lload_n 0, 1) := by decide +kernel
theorem dX12_in_1 : decode cX12_in 1 = .ok (.lload_n 2, 1) := by decide +kernel
theorem dX12_in_2 : decode cX12_in 2 = .ok (.lcmp, 1) := by decide +kernel
theorem dX12_in_3 : decode cX12_in 3 = .ok (.ifCond .lt 14, 3) := by decide +kernel
theorem dX12_in_6 : decode cX12_in 6 = .ok (.lload_n 0, 1) := by decide +kernel
theorem dX12_in_7 : decode cX12_in 7 = .ok (.lload 4, 2) := by decide +kernel
theorem dX12_in_9 : decode cX12_in 9 = .ok (.lcmp, 1) := by decide +kernel
theorem dX12_in_10 : decode cX12_in 10 = .ok (.ifCond .gt 7, 3) := by decide +kernel
theorem dX12_in_13 : decode cX12_in 13 = .ok (.iconst 1, 1) := by decide +kernel
theorem dX12_in_14 : decode cX12_in 14 = .ok (.goto 4, 3) := by decide +kernel
theorem dX12_in_17 : decode cX12_in 17 = .ok (.iconst 0, 1) := by decide +kernel
theorem dX12_in_18 : decode cX12_in 18 = .ok (.ireturn, 1) := by decide +kernel
theorem dX12_finds_0 : decode cX12_finds 0 = .ok (.aload_n 0, 1) := by decide +kernel
theorem dX12_finds_1 : decode cX12_finds 1 = .ok (.iload_n 1, 1) := by decide +kernel
theorem dX12_finds_2 : decode cX12_finds 2 = .ok (.putfield 73, 3) := by decide +kernel
theorem dX12_finds_5 : decode cX12_finds 5 = .ok (.ldc 76, 2) := by decide +kernel
theorem dX12_finds_7 : decode cX12_finds 7 = .ok (.iload_n 1, 1) := by decide +kernel
theorem dX12_finds_8 : decode cX12_finds 8 = .ok (.isub, 1) := by decide +kernel
theorem dX12_finds_9 : decode cX12_finds 9 = .ok (.ireturn, 1) := by decide +kernel
theorem dX12_well_0 : decode cX12_well 0 = .ok (.aload_n 0, 1) := by decide +kernel
theorem dX12_well_1 : decode cX12_well 1 = .ok (.iconst 0, 1) := by decide +kernel
theorem dX12_well_2 : decode cX12_well 2 = .ok (.putfield 73, 3) := by decide +kernel
theorem dX12_well_5 : decode cX12_well 5 = .ok (.iload_n 1, 1) := by decide +kernel
theorem dX12_well_6 : decode cX12_well 6 = .ok (.ireturn, 1) := by decide +kernel
theorem dX12_isTable_0 : decode cX12_isTable 0 = .ok (.iload_n 0, 1) := by decide +kernel
theorem dX12_isTable_1 : decode cX12_isTable 1 = .ok (.i2l, 1) := by decide +kernel
theorem dX12_isTable_2 : decode cX12_isTable 2 = .ok (.lconst 0, 1) := by decide +kernel
theorem dX12_isTable_3 : decode cX12_isTable 3 = .ok (.ldc2_w 77, 3) := by decide +kernel
theorem dX12_isTable_6 : decode cX12_isTable 6 = .ok (.invokestatic 79, 3) := by decide +kernel
theorem dX12_isTable_9 : decode cX12_isTable 9 = .ok (.ireturn, 1) := by decide +kernel
theorem dX12_table_0 : decode cX12_table 0 = .ok (.iload_n 1, 1) := by decide +kernel
theorem dX12_table_1 : decode cX12_table 1 = .ok (.invokestatic 83, 3) := by decide +kernel
theorem dX12_table_4 : decode cX12_table 4 = .ok (.ifCond .eq 21, 3) := by decide +kernel
theorem dX12_table_7 : decode cX12_table 7 = .ok (.iload_n 2, 1) := by decide +kernel
theorem dX12_table_8 : decode cX12_table 8 = .ok (.i2l, 1) := by decide +kernel
theorem dX12_table_9 : decode cX12_table 9 = .ok (.lconst 0, 1) := by decide +kernel
theorem dX12_table_10 : decode cX12_table 10 = .ok (.ldc2_w 87, 3) := by decide +kernel
theorem dX12_table_13 : decode cX12_table 13 = .ok (.invokestatic 79, 3) := by decide +kernel
theorem dX12_table_16 : decode cX12_table 16 = .ok (.ifCond .eq 9, 3) := by decide +kernel
theorem dX12_table_19 : decode cX12_table 19 = .ok (.iload_n 3, 1) := by decide +kernel
theorem dX12_table_20 : decode cX12_table 20 = .ok (.bipush 60, 2) := by decide +kernel
theorem dX12_table_22 : decode cX12_table 22 = .ok (.if_icmp .le 6, 3) := by decide +kernel
theorem dX12_table_25 : decode cX12_table 25 = .ok (.ldc 89, 2) := by decide +kernel
theorem dX12_table_27 : decode cX12_table 27 = .ok (.ireturn, 1) := by decide +kernel
theorem dX12_table_28 : decode cX12_table 28 = .ok (.iload_n 3, 1) := by decide +kernel
theorem dX12_table_29 : decode cX12_table 29 = .ok (.ifCond .ge 9, 3) := by decide +kernel
theorem dX12_table_32 : decode cX12_table 32 = .ok (.aload_n 0, 1) := by decide +kernel
theorem dX12_table_33 : decode cX12_table 33 = .ok (.iconst 4, 1) := by decide +kernel
theorem dX12_table_34 : decode cX12_table 34 = .ok (.invokevirtual 90, 3) := by decide +kernel
theorem dX12_table_37 : decode cX12_table 37 = .ok (.ireturn, 1) := by decide +kernel
theorem dX12_table_38 : decode cX12_table 38 = .ok (.aload_n 0, 1) := by decide +kernel
theorem dX12_table_39 : decode cX12_table 39 = .ok (.getfield 7, 3) := by decide +kernel
theorem dX12_table_42 : decode cX12_table 42 = .ok (.iload_n 1, 1) := by decide +kernel
theorem dX12_table_43 : decode cX12_table 43 = .ok (.iload_n 2, 1) := by decide +kernel
theorem dX12_table_44 : decode cX12_table 44 = .ok (.iconst 1, 1) := by decide +kernel
theorem dX12_table_45 : decode cX12_table 45 = .ok (.iadd, 1) := by decide +kernel
theorem dX12_table_46 : decode cX12_table 46 = .ok (.iastore, 1) := by decide +kernel
theorem dX12_table_47 : decode cX12_table 47 = .ok (.aload_n 0, 1) := by decide +kernel
theorem dX12_table_48 : decode cX12_table 48 = .ok (.getfield 13, 3) := by decide +kernel
theorem dX12_table_51 : decode cX12_table 51 = .ok (.iload_n 1, 1) := by decide +kernel
theorem dX12_table_52 : decode cX12_table 52 = .ok (.iload_n 3, 1) := by decide +kernel
theorem dX12_table_53 : decode cX12_table 53 = .ok (.iastore, 1) := by decide +kernel
theorem dX12_table_54 : decode cX12_table 54 = .ok (.iconst 0, 1) := by decide +kernel
theorem dX12_table_55 : decode cX12_table 55 = .ok (.istore 4, 2) := by decide +kernel
theorem dX12_table_57 : decode cX12_table 57 = .ok (.iload 4, 2) := by decide +kernel
theorem dX12_table_59 : decode cX12_table 59 = .ok (.iload_n 3, 1) := by decide +kernel
theorem dX12_table_60 : decode cX12_table 60 = .ok (.if_icmp .ge 22, 3) := by decide +kernel
theorem dX12_table_63 : decode cX12_table 63 = .ok (.aload_n 0, 1) := by decide +kernel
theorem dX12_table_64 : decode cX12_table 64 = .ok (.getfield 16, 3) := by decide +kernel
theorem dX12_table_67 : decode cX12_table 67 = .ok (.bipush 60, 2) := by decide +kernel
theorem dX12_table_69 : decode cX12_table 69 = .ok (.iload_n 1, 1) := by decide +kernel
theorem dX12_table_70 : decode cX12_table 70 = .ok (.imul, 1) := by decide +kernel
theorem dX12_table_71 : decode cX12_table 71 = .ok (.iload 4, 2) := by decide +kernel
theorem dX12_table_73 : decode cX12_table 73 = .ok (.iadd, 1) := by decide +kernel
theorem dX12_table_74 : decode cX12_table 74 = .ok (.iconst 0, 1) := by decide +kernel
theorem dX12_table_75 : decode cX12_table 75 = .ok (.iastore, 1) := by decide +kernel
theorem dX12_table_76 : decode cX12_table 76 = .ok (.iinc 4 1, 3) := by decide +kernel
theorem dX12_table_79 : decode cX12_table 79 = .ok (.goto (-22), 3) := by decide +kernel
theorem dX12_table_82 : decode cX12_table 82 = .ok (.aload_n 0, 1) := by decide +kernel
theorem dX12_table_83 : decode cX12_table 83 = .ok (.iload_n 3, 1) := by decide +kernel
theorem dX12_table_84 : decode cX12_table 84 = .ok (.invokevirtual 94, 3) := by decide +kernel
theorem dX12_table_87 : decode cX12_table 87 = .ok (.ireturn, 1) := by decide +kernel
theorem dX12_set_0 : decode cX12_set 0 = .ok (.iload_n 1, 1) := by decide +kernel
theorem dX12_set_1 : decode cX12_set 1 = .ok (.invokestatic 83, 3) := by decide +kernel
theorem dX12_set_4 : decode cX12_set 4 = .ok (.ifCond .ne 6, 3) := by decide +kernel
theorem dX12_set_7 : decode cX12_set 7 = .ok (.ldc 89, 2) := by decide +kernel
theorem dX12_set_9 : decode cX12_set 9 = .ok (.ireturn, 1) := by decide +kernel
theorem dX12_set_10 : decode cX12_set 10 = .ok (.aload_n 0, 1) := by decide +kernel
theorem dX12_set_11 : decode cX12_set 11 = .ok (.getfield 7, 3) := by decide +kernel
theorem dX12_set_14 : decode cX12_set 14 = .ok (.iload_n 1, 1) := by decide +kernel
theorem dX12_set_15 : decode cX12_set 15 = .ok (.iaload, 1) := by decide +kernel
theorem dX12_set_16 : decode cX12_set 16 = .ok (.ifCond .ne 9, 3) := by decide +kernel
theorem dX12_set_19 : decode cX12_set 19 = .ok (.aload_n 0, 1) := by decide +kernel
theorem dX12_set_20 : decode cX12_set 20 = .ok (.iconst 1, 1) := by decide +kernel
theorem dX12_set_21 : decode cX12_set 21 = .ok (.invokevirtual 90, 3) := by decide +kernel
theorem dX12_set_24 : decode cX12_set 24 = .ok (.ireturn, 1) := by decide +kernel
theorem dX12_set_25 : decode cX12_set 25 = .ok (.iload_n 2, 1) := by decide +kernel
theorem dX12_set_26 : decode cX12_set 26 = .ok (.i2l, 1) := by decide +kernel
theorem dX12_set_27 : decode cX12_set 27 = .ok (.lconst 0, 1) := by decide +kernel
theorem dX12_set_28 : decode cX12_set 28 = .ok (.aload_n 0, 1) := by decide +kernel
theorem dX12_set_29 : decode cX12_set 29 = .ok (.getfield 13, 3) := by decide +kernel
theorem dX12_set_32 : decode cX12_set 32 = .ok (.iload_n 1, 1) := by decide +kernel
theorem dX12_set_33 : decode cX12_set 33 = .ok (.iaload, 1) := by decide +kernel
theorem dX12_set_34 : decode cX12_set 34 = .ok (.iconst 1, 1) := by decide +kernel
theorem dX12_set_35 : decode cX12_set 35 = .ok (.isub, 1) := by decide +kernel
theorem dX12_set_36 : decode cX12_set 36 = .ok (.i2l, 1) := by decide +kernel
theorem dX12_set_37 : decode cX12_set 37 = .ok (.invokestatic 79, 3) := by decide +kernel
theorem dX12_set_40 : decode cX12_set 40 = .ok (.ifCond .ne 9, 3) := by decide +kernel
theorem dX12_set_43 : decode cX12_set 43 = .ok (.aload_n 0, 1) := by decide +kernel
theorem dX12_set_44 : decode cX12_set 44 = .ok (.iconst 2, 1) := by decide +kernel
theorem dX12_set_45 : decode cX12_set 45 = .ok (.invokevirtual 90, 3) := by decide +kernel
