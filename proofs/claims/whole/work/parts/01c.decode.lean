theorem dX0_init_0 : decode cX0_init 0 = .ok (.aload_n 0, 1) := by decide +kernel
theorem dX0_init_1 : decode cX0_init 1 = .ok (.invokespecial 1, 3) := by decide +kernel
theorem dX0_init_4 : decode cX0_init 4 = .ok (.aload_n 0, 1) := by decide +kernel
theorem dX0_init_5 : decode cX0_init 5 = .ok (.bipush 24, 2) := by decide +kernel
theorem dX0_init_7 : decode cX0_init 7 = .ok (.anewarray 9, 3) := by decide +kernel
theorem dX0_init_10 : decode cX0_init 10 = .ok (.putfield 11, 3) := by decide +kernel
theorem dX0_init_13 : decode cX0_init 13 = .ok (.aload_n 0, 1) := by decide +kernel
theorem dX0_init_14 : decode cX0_init 14 = .ok (.iconst 0, 1) := by decide +kernel
theorem dX0_init_15 : decode cX0_init 15 = .ok (.putfield 15, 3) := by decide +kernel
theorem dX0_init_18 : decode cX0_init 18 = .ok (.aload_n 0, 1) := by decide +kernel
theorem dX0_init_19 : decode cX0_init 19 = .ok (.iconst 0, 1) := by decide +kernel
theorem dX0_init_20 : decode cX0_init 20 = .ok (.putfield 19, 3) := by decide +kernel
theorem dX0_init_23 : decode cX0_init 23 = .ok (.iconst 0, 1) := by decide +kernel
theorem dX0_init_24 : decode cX0_init 24 = .ok (.istore_n 1, 1) := by decide +kernel
theorem dX0_init_25 : decode cX0_init 25 = .ok (.iload_n 1, 1) := by decide +kernel
theorem dX0_init_26 : decode cX0_init 26 = .ok (.bipush 24, 2) := by decide +kernel
theorem dX0_init_28 : decode cX0_init 28 = .ok (.if_icmp .ge 22, 3) := by decide +kernel
theorem dX0_init_31 : decode cX0_init 31 = .ok (.aload_n 0, 1) := by decide +kernel
theorem dX0_init_32 : decode cX0_init 32 = .ok (.getfield 11, 3) := by decide +kernel
theorem dX0_init_35 : decode cX0_init 35 = .ok (.iload_n 1, 1) := by decide +kernel
theorem dX0_init_36 : decode cX0_init 36 = .ok (.new 9, 3) := by decide +kernel
theorem dX0_init_39 : decode cX0_init 39 = .ok (.dup, 1) := by decide +kernel
theorem dX0_init_40 : decode cX0_init 40 = .ok (.invokespecial 22, 3) := by decide +kernel
theorem dX0_init_43 : decode cX0_init 43 = .ok (.aastore, 1) := by decide +kernel
theorem dX0_init_44 : decode cX0_init 44 = .ok (.iinc 1 1, 3) := by decide +kernel
theorem dX0_init_47 : decode cX0_init 47 = .ok (.goto (-22), 3) := by decide +kernel
theorem dX0_init_50 : decode cX0_init 50 = .ok (.return_, 1) := by decide +kernel
theorem dX0_kept_0 : decode cX0_kept 0 = .ok (.aload_n 0, 1) := by decide +kernel
theorem dX0_kept_1 : decode cX0_kept 1 = .ok (.getfield 19, 3) := by decide +kernel
theorem dX0_kept_4 : decode cX0_kept 4 = .ok (.ireturn, 1) := by decide +kernel
theorem dX0_forget_0 : decode cX0_forget 0 = .ok (.aload_n 0, 1) := by decide +kernel
theorem dX0_forget_1 : decode cX0_forget 1 = .ok (.iconst 0, 1) := by decide +kernel
theorem dX0_forget_2 : decode cX0_forget 2 = .ok (.putfield 19, 3) := by decide +kernel
theorem dX0_forget_5 : decode cX0_forget 5 = .ok (.return_, 1) := by decide +kernel
theorem dX0_keep_0 : decode cX0_keep 0 = .ok (.aload_n 0, 1) := by decide +kernel
theorem dX0_keep_1 : decode cX0_keep 1 = .ok (.getfield 11, 3) := by decide +kernel
theorem dX0_keep_4 : decode cX0_keep 4 = .ok (.aload_n 0, 1) := by decide +kernel
theorem dX0_keep_5 : decode cX0_keep 5 = .ok (.getfield 15, 3) := by decide +kernel
theorem dX0_keep_8 : decode cX0_keep 8 = .ok (.aaload, 1) := by decide +kernel
theorem dX0_keep_9 : decode cX0_keep 9 = .ok (.aload_n 1, 1) := by decide +kernel
theorem dX0_keep_10 : decode cX0_keep 10 = .ok (.invokevirtual 23, 3) := by decide +kernel
theorem dX0_keep_13 : decode cX0_keep 13 = .ok (.aload_n 0, 1) := by decide +kernel
theorem dX0_keep_14 : decode cX0_keep 14 = .ok (.aload_n 0, 1) := by decide +kernel
theorem dX0_keep_15 : decode cX0_keep 15 = .ok (.getfield 15, 3) := by decide +kernel
theorem dX0_keep_18 : decode cX0_keep 18 = .ok (.iconst 1, 1) := by decide +kernel
theorem dX0_keep_19 : decode cX0_keep 19 = .ok (.iadd, 1) := by decide +kernel
theorem dX0_keep_20 : decode cX0_keep 20 = .ok (.bipush 24, 2) := by decide +kernel
theorem dX0_keep_22 : decode cX0_keep 22 = .ok (.irem, 1) := by decide +kernel
theorem dX0_keep_23 : decode cX0_keep 23 = .ok (.putfield 15, 3) := by decide +kernel
theorem dX0_keep_26 : decode cX0_keep 26 = .ok (.aload_n 0, 1) := by decide +kernel
theorem dX0_keep_27 : decode cX0_keep 27 = .ok (.bipush 24, 2) := by decide +kernel
theorem dX0_keep_29 : decode cX0_keep 29 = .ok (.aload_n 0, 1) := by decide +kernel
theorem dX0_keep_30 : decode cX0_keep 30 = .ok (.getfield 19, 3) := by decide +kernel
theorem dX0_keep_33 : decode cX0_keep 33 = .ok (.iconst 1, 1) := by decide +kernel
theorem dX0_keep_34 : decode cX0_keep 34 = .ok (.iadd, 1) := by decide +kernel
theorem dX0_keep_35 : decode cX0_keep 35 = .ok (.invokestatic 27, 3) := by decide +kernel
theorem dX0_keep_38 : decode cX0_keep 38 = .ok (.putfield 19, 3) := by decide +kernel
theorem dX0_keep_41 : decode cX0_keep 41 = .ok (.return_, 1) := by decide +kernel
theorem dX0_takeBack_0 : decode cX0_takeBack 0 = .ok (.aload_n 0, 1) := by decide +kernel
theorem dX0_takeBack_1 : decode cX0_takeBack 1 = .ok (.getfield 19, 3) := by decide +kernel
theorem dX0_takeBack_4 : decode cX0_takeBack 4 = .ok (.ifCond .ne 5, 3) := by decide +kernel
theorem dX0_takeBack_7 : decode cX0_takeBack 7 = .ok (.iconst 0, 1) := by decide +kernel
theorem dX0_takeBack_8 : decode cX0_takeBack 8 = .ok (.ireturn, 1) := by decide +kernel
theorem dX0_takeBack_9 : decode cX0_takeBack 9 = .ok (.aload_n 0, 1) := by decide +kernel
theorem dX0_takeBack_10 : decode cX0_takeBack 10 = .ok (.dup, 1) := by decide +kernel
theorem dX0_takeBack_11 : decode cX0_takeBack 11 = .ok (.getfield 19, 3) := by decide +kernel
theorem dX0_takeBack_14 : decode cX0_takeBack 14 = .ok (.iconst 1, 1) := by decide +kernel
theorem dX0_takeBack_15 : decode cX0_takeBack 15 = .ok (.isub, 1) := by decide +kernel
theorem dX0_takeBack_16 : decode cX0_takeBack 16 = .ok (.putfield 19, 3) := by decide +kernel
theorem dX0_takeBack_19 : decode cX0_takeBack 19 = .ok (.aload_n 0, 1) := by decide +kernel
theorem dX0_takeBack_20 : decode cX0_takeBack 20 = .ok (.aload_n 0, 1) := by decide +kernel
theorem dX0_takeBack_21 : decode cX0_takeBack 21 = .ok (.getfield 15, 3) := by decide +kernel
theorem dX0_takeBack_24 : decode cX0_takeBack 24 = .ok (.bipush 24, 2) := by decide +kernel
theorem dX0_takeBack_26 : decode cX0_takeBack 26 = .ok (.iadd, 1) := by decide +kernel
theorem dX0_takeBack_27 : decode cX0_takeBack 27 = .ok (.iconst 1, 1) := by decide +kernel
theorem dX0_takeBack_28 : decode cX0_takeBack 28 = .ok (.isub, 1) := by decide +kernel
theorem dX0_takeBack_29 : decode cX0_takeBack 29 = .ok (.bipush 24, 2) := by decide +kernel
theorem dX0_takeBack_31 : decode cX0_takeBack 31 = .ok (.irem, 1) := by decide +kernel
theorem dX0_takeBack_32 : decode cX0_takeBack 32 = .ok (.putfield 15, 3) := by decide +kernel
theorem dX0_takeBack_35 : decode cX0_takeBack 35 = .ok (.aload_n 1, 1) := by decide +kernel
theorem dX0_takeBack_36 : decode cX0_takeBack 36 = .ok (.aload_n 0, 1) := by decide +kernel
theorem dX0_takeBack_37 : decode cX0_takeBack 37 = .ok (.getfield 11, 3) := by decide +kernel
theorem dX0_takeBack_40 : decode cX0_takeBack 40 = .ok (.aload_n 0, 1) := by decide +kernel
theorem dX0_takeBack_41 : decode cX0_takeBack 41 = .ok (.getfield 15, 3) := by decide +kernel
theorem dX0_takeBack_44 : decode cX0_takeBack 44 = .ok (.aaload, 1) := by decide +kernel
theorem dX0_takeBack_45 : decode cX0_takeBack 45 = .ok (.invokevirtual 23, 3) := by decide +kernel
theorem dX0_takeBack_48 : decode cX0_takeBack 48 = .ok (.iconst 1, 1) := by decide +kernel
theorem dX0_takeBack_49 : decode cX0_takeBack 49 = .ok (.ireturn, 1) := by decide +kernel
theorem dX1_init_0 : decode cX1_init 0 = .ok (.aload_n 0, 1) := by decide +kernel
theorem dX1_init_1 : decode cX1_init 1 = .ok (.invokespecial 3, 3) := by decide +kernel
theorem dX1_init_4 : decode cX1_init 4 = .ok (.aload_n 0, 1) := by decide +kernel
theorem dX1_init_5 : decode cX1_init 5 = .ok (.bipush 16, 2) := by decide +kernel
theorem dX1_init_7 : decode cX1_init 7 = .ok (.newarray .int, 2) := by decide +kernel
theorem dX1_init_9 : decode cX1_init 9 = .ok (.putfield 11, 3) := by decide +kernel
theorem dX1_init_12 : decode cX1_init 12 = .ok (.aload_n 0, 1) := by decide +kernel
theorem dX1_init_13 : decode cX1_init 13 = .ok (.iconst 0, 1) := by decide +kernel
theorem dX1_init_14 : decode cX1_init 14 = .ok (.putfield 15, 3) := by decide +kernel
theorem dX1_init_17 : decode cX1_init 17 = .ok (.return_, 1) := by decide +kernel
theorem dX1_isOfKind_0 : decode cX1_isOfKind 0 = .ok (.iload_n 0, 1) := by decide +kernel
theorem dX1_isOfKind_1 : decode cX1_isOfKind 1 = .ok (.istore_n 2, 1) := by decide +kernel
theorem dX1_isOfKind_2 : decode cX1_isOfKind 2 = .ok (.iconst 0, 1) := by decide +kernel
theorem dX1_isOfKind_3 : decode cX1_isOfKind 3 = .ok (.istore_n 3, 1) := by decide +kernel
theorem dX1_isOfKind_4 : decode cX1_isOfKind 4 = .ok (.iload_n 3, 1) := by decide +kernel
theorem dX1_isOfKind_5 : decode cX1_isOfKind 5 = .ok (.getstatic 19, 3) := by decide +kernel
theorem dX1_isOfKind_8 : decode cX1_isOfKind 8 = .ok (.arraylength, 1) := by decide +kernel
theorem dX1_isOfKind_9 : decode cX1_isOfKind 9 = .ok (.if_icmp .ge 34, 3) := by decide +kernel
theorem dX1_isOfKind_12 : decode cX1_isOfKind 12 = .ok (.iload_n 2, 1) := by decide +kernel
theorem dX1_isOfKind_13 : decode cX1_isOfKind 13 = .ok (.ifCond .lt 30, 3) := by decide +kernel
theorem dX1_isOfKind_16 : decode cX1_isOfKind 16 = .ok (.iload_n 2, 1) := by decide +kernel
theorem dX1_isOfKind_17 : decode cX1_isOfKind 17 = .ok (.getstatic 19, 3) := by decide +kernel
theorem dX1_isOfKind_20 : decode cX1_isOfKind 20 = .ok (.arraylength, 1) := by decide +kernel
theorem dX1_isOfKind_21 : decode cX1_isOfKind 21 = .ok (.if_icmp .ge 22, 3) := by decide +kernel
theorem dX1_isOfKind_24 : decode cX1_isOfKind 24 = .ok (.iload_n 2, 1) := by decide +kernel
theorem dX1_isOfKind_25 : decode cX1_isOfKind 25 = .ok (.iload_n 1, 1) := by decide +kernel
theorem dX1_isOfKind_26 : decode cX1_isOfKind 26 = .ok (.if_icmp .ne 5, 3) := by decide +kernel
theorem dX1_isOfKind_29 : decode cX1_isOfKind 29 = .ok (.iconst 1, 1) := by decide +kernel
theorem dX1_isOfKind_30 : decode cX1_isOfKind 30 = .ok (.ireturn, 1) := by decide +kernel
theorem dX1_isOfKind_31 : decode cX1_isOfKind 31 = .ok (.getstatic 19, 3) := by decide +kernel
theorem dX1_isOfKind_34 : decode cX1_isOfKind 34 = .ok (.iload_n 2, 1) := by decide +kernel
theorem dX1_isOfKind_35 : decode cX1_isOfKind 35 = .ok (.iaload, 1) := by decide +kernel
theorem dX1_isOfKind_36 : decode cX1_isOfKind 36 = .ok (.istore_n 2, 1) := by decide +kernel
theorem dX1_isOfKind_37 : decode cX1_isOfKind 37 = .ok (.iinc 3 1, 3) := by decide +kernel
theorem dX1_isOfKind_40 : decode cX1_isOfKind 40 = .ok (.goto (-36), 3) := by decide +kernel
theorem dX1_isOfKind_43 : decode cX1_isOfKind 43 = .ok (.iconst 0, 1) := by decide +kernel
theorem dX1_isOfKind_44 : decode cX1_isOfKind 44 = .ok (.ireturn, 1) := by decide +kernel
theorem dX1_traceAt_0 : decode cX1_traceAt 0 = .ok (.iload_n 1, 1) := by decide +kernel
theorem dX1_traceAt_1 : decode cX1_traceAt 1 = .ok (.ifCond .lt 20, 3) := by decide +kernel
theorem dX1_traceAt_4 : decode cX1_traceAt 4 = .ok (.iload_n 1, 1) := by decide +kernel
theorem dX1_traceAt_5 : decode cX1_traceAt 5 = .ok (.aload_n 0, 1) := by decide +kernel
theorem dX1_traceAt_6 : decode cX1_traceAt 6 = .ok (.getfield 15, 3) := by decide +kernel
theorem dX1_traceAt_9 : decode cX1_traceAt 9 = .ok (.if_icmp .ge 12, 3) := by decide +kernel
theorem dX1_traceAt_12 : decode cX1_traceAt 12 = .ok (.aload_n 0, 1) := by decide +kernel
theorem dX1_traceAt_13 : decode cX1_traceAt 13 = .ok (.getfield 11, 3) := by decide +kernel
theorem dX1_traceAt_16 : decode cX1_traceAt 16 = .ok (.iload_n 1, 1) := by decide +kernel
theorem dX1_traceAt_17 : decode cX1_traceAt 17 = .ok (.iaload, 1) := by decide +kernel
theorem dX1_traceAt_18 : decode cX1_traceAt 18 = .ok (.goto 5, 3) := by decide +kernel
theorem dX1_traceAt_21 : decode cX1_traceAt 21 = .ok (.ldc 22, 2) := by decide +kernel
theorem dX1_traceAt_23 : decode cX1_traceAt 23 = .ok (.ireturn, 1) := by decide +kernel
theorem dX1_emptyTrace_0 : decode cX1_emptyTrace 0 = .ok (.aload_n 0, 1) := by decide +kernel
theorem dX1_emptyTrace_1 : decode cX1_emptyTrace 1 = .ok (.iconst 0, 1) := by decide +kernel
theorem dX1_emptyTrace_2 : decode cX1_emptyTrace 2 = .ok (.putfield 15, 3) := by decide +kernel
theorem dX1_emptyTrace_5 : decode cX1_emptyTrace 5 = .ok (.return_, 1) := by decide +kernel
theorem dX1_begin_0 : decode cX1_begin 0 = .ok (.aload_n 0, 1) := by decide +kernel
theorem dX1_begin_1 : decode cX1_begin 1 = .ok (.getfield 15, 3) := by decide +kernel
theorem dX1_begin_4 : decode cX1_begin 4 = .ok (.bipush 16, 2) := by decide +kernel
theorem dX1_begin_6 : decode cX1_begin 6 = .ok (.if_icmp .ge 23, 3) := by decide +kernel
theorem dX1_begin_9 : decode cX1_begin 9 = .ok (.aload_n 0, 1) := by decide +kernel
theorem dX1_begin_10 : decode cX1_begin 10 = .ok (.getfield 11, 3) := by decide +kernel
theorem dX1_begin_13 : decode cX1_begin 13 = .ok (.aload_n 0, 1) := by decide +kernel
theorem dX1_begin_14 : decode cX1_begin 14 = .ok (.getfield 15, 3) := by decide +kernel
theorem dX1_begin_17 : decode cX1_begin 17 = .ok (.iload_n 1, 1) := by decide +kernel
theorem dX1_begin_18 : decode cX1_begin 18 = .ok (.iastore, 1) := by decide +kernel
theorem dX1_begin_19 : decode cX1_begin 19 = .ok (.aload_n 0, 1) := by decide +kernel
theorem dX1_begin_20 : decode cX1_begin 20 = .ok (.dup, 1) := by decide +kernel
theorem dX1_begin_21 : decode cX1_begin 21 = .ok (.getfield 15, 3) := by decide +kernel
theorem dX1_begin_24 : decode cX1_begin 24 = .ok (.iconst 1, 1) := by decide +kernel
theorem dX1_begin_25 : decode cX1_begin 25 = .ok (.iadd, 1) := by decide +kernel
theorem dX1_begin_26 : decode cX1_begin 26 = .ok (.putfield 15, 3) := by decide +kernel
theorem dX1_begin_29 : decode cX1_begin 29 = .ok (.return_, 1) := by decide +kernel
theorem dX1_size_0 : decode cX1_size 0 = .ok (.aload_n 1, 1) := by decide +kernel
theorem dX1_size_1 : decode cX1_size 1 = .ok (.getfield 23, 3) := by decide +kernel
theorem dX1_size_4 : decode cX1_size 4 = .ok (.iload_n 2, 1) := by decide +kernel
theorem dX1_size_5 : decode cX1_size 5 = .ok (.iaload, 1) := by decide +kernel
theorem dX1_size_6 : decode cX1_size 6 = .ok (.tableswitch 69 1 5 #[34, 41, 48, 55, 62], 34) := by decide +kernel
theorem dX1_size_40 : decode cX1_size 40 = .ok (.aload_n 0, 1) := by decide +kernel
theorem dX1_size_41 : decode cX1_size 41 = .ok (.aload_n 1, 1) := by decide +kernel
theorem dX1_size_42 : decode cX1_size 42 = .ok (.iload_n 2, 1) := by decide +kernel
theorem dX1_size_43 : decode cX1_size 43 = .ok (.invokevirtual 28, 3) := by decide +kernel
theorem dX1_size_46 : decode cX1_size 46 = .ok (.ireturn, 1) := by decide +kernel
theorem dX1_size_47 : decode cX1_size 47 = .ok (.aload_n 0, 1) := by decide +kernel
theorem dX1_size_48 : decode cX1_size 48 = .ok (.aload_n 1, 1) := by decide +kernel
theorem dX1_size_49 : decode cX1_size 49 = .ok (.iload_n 2, 1) := by decide +kernel
theorem dX1_size_50 : decode cX1_size 50 = .ok (.invokevirtual 32, 3) := by decide +kernel
theorem dX1_size_53 : decode cX1_size 53 = .ok (.ireturn, 1) := by decide +kernel
theorem dX1_size_54 : decode cX1_size 54 = .ok (.aload_n 0, 1) := by decide +kernel
theorem dX1_size_55 : decode cX1_size 55 = .ok (.aload_n 1, 1) := by decide +kernel
theorem dX1_size_56 : decode cX1_size 56 = .ok (.iload_n 2, 1) := by decide +kernel
theorem dX1_size_57 : decode cX1_size 57 = .ok (.invokevirtual 28, 3) := by decide +kernel
theorem dX1_size_60 : decode cX1_size 60 = .ok (.ireturn, 1) := by decide +kernel
theorem dX1_size_61 : decode cX1_size 61 = .ok (.aload_n 0, 1) := by decide +kernel
theorem dX1_size_62 : decode cX1_size 62 = .ok (.aload_n 1, 1) := by decide +kernel
theorem dX1_size_63 : decode cX1_size 63 = .ok (.iload_n 2, 1) := by decide +kernel
theorem dX1_size_64 : decode cX1_size 64 = .ok (.invokevirtual 35, 3) := by decide +kernel
theorem dX1_size_67 : decode cX1_size 67 = .ok (.ireturn, 1) := by decide +kernel
theorem dX1_size_68 : decode cX1_size 68 = .ok (.aload_n 0, 1) := by decide +kernel
theorem dX1_size_69 : decode cX1_size 69 = .ok (.aload_n 1, 1) := by decide +kernel
theorem dX1_size_70 : decode cX1_size 70 = .ok (.iload_n 2, 1) := by decide +kernel
theorem dX1_size_71 : decode cX1_size 71 = .ok (.invokevirtual 38, 3) := by decide +kernel
theorem dX1_size_74 : decode cX1_size 74 = .ok (.ireturn, 1) := by decide +kernel
theorem dX1_size_75 : decode cX1_size 75 = .ok (.aload_n 0, 1) := by decide +kernel
theorem dX1_size_76 : decode cX1_size 76 = .ok (.aload_n 1, 1) := by decide +kernel
theorem dX1_size_77 : decode cX1_size 77 = .ok (.iload_n 2, 1) := by decide +kernel
theorem dX1_size_78 : decode cX1_size 78 = .ok (.invokevirtual 41, 3) := by decide +kernel
theorem dX1_size_81 : decode cX1_size 81 = .ok (.ireturn, 1) := by decide +kernel
theorem dX1_mark_0 : decode cX1_mark 0 = .ok (.aload_n 1, 1) := by decide +kernel
theorem dX1_mark_1 : decode cX1_mark 1 = .ok (.getfield 23, 3) := by decide +kernel
theorem dX1_mark_4 : decode cX1_mark 4 = .ok (.iload_n 2, 1) := by decide +kernel
theorem dX1_mark_5 : decode cX1_mark 5 = .ok (.iaload, 1) := by decide +kernel
theorem dX1_mark_6 : decode cX1_mark 6 = .ok (.tableswitch 69 1 5 #[34, 41, 48, 55, 62], 34) := by decide +kernel
theorem dX1_mark_40 : decode cX1_mark 40 = .ok (.aload_n 0, 1) := by decide +kernel
theorem dX1_mark_41 : decode cX1_mark 41 = .ok (.aload_n 1, 1) := by decide +kernel
theorem dX1_mark_42 : decode cX1_mark 42 = .ok (.iload_n 2, 1) := by decide +kernel
theorem dX1_mark_43 : decode cX1_mark 43 = .ok (.invokevirtual 44, 3) := by decide +kernel
theorem dX1_mark_46 : decode cX1_mark 46 = .ok (.ireturn, 1) := by decide +kernel
theorem dX1_mark_47 : decode cX1_mark 47 = .ok (.aload_n 0, 1) := by decide +kernel
theorem dX1_mark_48 : decode cX1_mark 48 = .ok (.aload_n 1, 1) := by decide +kernel
theorem dX1_mark_49 : decode cX1_mark 49 = .ok (.iload_n 2, 1) := by decide +kernel
theorem dX1_mark_50 : decode cX1_mark 50 = .ok (.invokevirtual 47, 3) := by decide +kernel
theorem dX1_mark_53 : decode cX1_mark 53 = .ok (.ireturn, 1) := by decide +kernel
theorem dX1_mark_54 : decode cX1_mark 54 = .ok (.aload_n 0, 1) := by decide +kernel
theorem dX1_mark_55 : decode cX1_mark 55 = .ok (.aload_n 1, 1) := by decide +kernel
theorem dX1_mark_56 : decode cX1_mark 56 = .ok (.iload_n 2, 1) := by decide +kernel
theorem dX1_mark_57 : decode cX1_mark 57 = .ok (.invokevirtual 50, 3) := by decide +kernel
theorem dX1_mark_60 : decode cX1_mark 60 = .ok (.ireturn, 1) := by decide +kernel
theorem dX1_mark_61 : decode cX1_mark 61 = .ok (.aload_n 0, 1) := by decide +kernel
theorem dX1_mark_62 : decode cX1_mark 62 = .ok (.aload_n 1, 1) := by decide +kernel
theorem dX1_mark_63 : decode cX1_mark 63 = .ok (.iload_n 2, 1) := by decide +kernel
theorem dX1_mark_64 : decode cX1_mark 64 = .ok (.invokevirtual 53, 3) := by decide +kernel
theorem dX1_mark_67 : decode cX1_mark 67 = .ok (.ireturn, 1) := by decide +kernel
theorem dX1_mark_68 : decode cX1_mark 68 = .ok (.aload_n 0, 1) := by decide +kernel
theorem dX1_mark_69 : decode cX1_mark 69 = .ok (.aload_n 1, 1) := by decide +kernel
theorem dX1_mark_70 : decode cX1_mark 70 = .ok (.iload_n 2, 1) := by decide +kernel
theorem dX1_mark_71 : decode cX1_mark 71 = .ok (.invokevirtual 53, 3) := by decide +kernel
theorem dX1_mark_74 : decode cX1_mark 74 = .ok (.ireturn, 1) := by decide +kernel
theorem dX1_mark_75 : decode cX1_mark 75 = .ok (.aload_n 0, 1) := by decide +kernel
theorem dX1_mark_76 : decode cX1_mark 76 = .ok (.aload_n 1, 1) := by decide +kernel
theorem dX1_mark_77 : decode cX1_mark 77 = .ok (.iload_n 2, 1) := by decide +kernel
theorem dX1_mark_78 : decode cX1_mark 78 = .ok (.invokevirtual 56, 3) := by decide +kernel
theorem dX1_mark_81 : decode cX1_mark 81 = .ok (.ireturn, 1) := by decide +kernel
theorem dX1_body10_0 : decode cX1_body10 0 = .ok (.aload_n 0, 1) := by decide +kernel
theorem dX1_body10_1 : decode cX1_body10 1 = .ok (.bipush 10, 2) := by decide +kernel
theorem dX1_body10_3 : decode cX1_body10 3 = .ok (.invokevirtual 59, 3) := by decide +kernel
theorem dX1_body10_6 : decode cX1_body10 6 = .ok (.aload_n 1, 1) := by decide +kernel
theorem dX1_body10_7 : decode cX1_body10 7 = .ok (.getfield 63, 3) := by decide +kernel
theorem dX1_body10_10 : decode cX1_body10 10 = .ok (.iload_n 2, 1) := by decide +kernel
theorem dX1_body10_11 : decode cX1_body10 11 = .ok (.iaload, 1) := by decide +kernel
theorem dX1_body10_12 : decode cX1_body10 12 = .ok (.ireturn, 1) := by decide +kernel
theorem dX1_body11_0 : decode cX1_body11 0 = .ok (.aload_n 0, 1) := by decide +kernel
theorem dX1_body11_1 : decode cX1_body11 1 = .ok (.bipush 11, 2) := by decide +kernel
theorem dX1_body11_3 : decode cX1_body11 3 = .ok (.invokevirtual 59, 3) := by decide +kernel
theorem dX1_body11_6 : decode cX1_body11 6 = .ok (.aload_n 0, 1) := by decide +kernel
theorem dX1_body11_7 : decode cX1_body11 7 = .ok (.aload_n 1, 1) := by decide +kernel
theorem dX1_body11_8 : decode cX1_body11 8 = .ok (.iload_n 2, 1) := by decide +kernel
theorem dX1_body11_9 : decode cX1_body11 9 = .ok (.invokevirtual 41, 3) := by decide +kernel
theorem dX1_body11_12 : decode cX1_body11 12 = .ok (.aload_n 0, 1) := by decide +kernel
theorem dX1_body11_13 : decode cX1_body11 13 = .ok (.aload_n 1, 1) := by decide +kernel
theorem dX1_body11_14 : decode cX1_body11 14 = .ok (.iload_n 2, 1) := by decide +kernel
theorem dX1_body11_15 : decode cX1_body11 15 = .ok (.invokevirtual 66, 3) := by decide +kernel
theorem dX1_body11_18 : decode cX1_body11 18 = .ok (.iadd, 1) := by decide +kernel
theorem dX1_body11_19 : decode cX1_body11 19 = .ok (.ireturn, 1) := by decide +kernel
theorem dX1_body12_0 : decode cX1_body12 0 = .ok (.aload_n 0, 1) := by decide +kernel
theorem dX1_body12_1 : decode cX1_body12 1 = .ok (.bipush 12, 2) := by decide +kernel
theorem dX1_body12_3 : decode cX1_body12 3 = .ok (.invokevirtual 59, 3) := by decide +kernel
theorem dX1_body12_6 : decode cX1_body12 6 = .ok (.aload_n 0, 1) := by decide +kernel
theorem dX1_body12_7 : decode cX1_body12 7 = .ok (.aload_n 1, 1) := by decide +kernel
theorem dX1_body12_8 : decode cX1_body12 8 = .ok (.iload_n 2, 1) := by decide +kernel
theorem dX1_body12_9 : decode cX1_body12 9 = .ok (.invokevirtual 28, 3) := by decide +kernel
theorem dX1_body12_12 : decode cX1_body12 12 = .ok (.ineg, 1) := by decide +kernel
theorem dX1_body12_13 : decode cX1_body12 13 = .ok (.ireturn, 1) := by decide +kernel
theorem dX1_body13_0 : decode cX1_body13 0 = .ok (.aload_n 0, 1) := by decide +kernel
theorem dX1_body13_1 : decode cX1_body13 1 = .ok (.bipush 13, 2) := by decide +kernel
theorem dX1_body13_3 : decode cX1_body13 3 = .ok (.invokevirtual 59, 3) := by decide +kernel
theorem dX1_body13_6 : decode cX1_body13 6 = .ok (.aload_n 0, 1) := by decide +kernel
theorem dX1_body13_7 : decode cX1_body13 7 = .ok (.aload_n 1, 1) := by decide +kernel
theorem dX1_body13_8 : decode cX1_body13 8 = .ok (.iload_n 2, 1) := by decide +kernel
theorem dX1_body13_9 : decode cX1_body13 9 = .ok (.invokevirtual 41, 3) := by decide +kernel
theorem dX1_body13_12 : decode cX1_body13 12 = .ok (.bipush 100, 2) := by decide +kernel
theorem dX1_body13_14 : decode cX1_body13 14 = .ok (.isub, 1) := by decide +kernel
theorem dX1_body13_15 : decode cX1_body13 15 = .ok (.ireturn, 1) := by decide +kernel
theorem dX1_body14_0 : decode cX1_body14 0 = .ok (.aload_n 0, 1) := by decide +kernel
theorem dX1_body14_1 : decode cX1_body14 1 = .ok (.bipush 14, 2) := by decide +kernel
theorem dX1_body14_3 : decode cX1_body14 3 = .ok (.invokevirtual 59, 3) := by decide +kernel
theorem dX1_body14_6 : decode cX1_body14 6 = .ok (.iconst 2, 1) := by decide +kernel
theorem dX1_body14_7 : decode cX1_body14 7 = .ok (.aload_n 0, 1) := by decide +kernel
theorem dX1_body14_8 : decode cX1_body14 8 = .ok (.aload_n 1, 1) := by decide +kernel
theorem dX1_body14_9 : decode cX1_body14 9 = .ok (.iload_n 2, 1) := by decide +kernel
theorem dX1_body14_10 : decode cX1_body14 10 = .ok (.invokevirtual 35, 3) := by decide +kernel
theorem dX1_body14_13 : decode cX1_body14 13 = .ok (.imul, 1) := by decide +kernel
theorem dX1_body14_14 : decode cX1_body14 14 = .ok (.ireturn, 1) := by decide +kernel
theorem dX1_body20_0 : decode cX1_body20 0 = .ok (.aload_n 0, 1) := by decide +kernel
theorem dX1_body20_1 : decode cX1_body20 1 = .ok (.bipush 20, 2) := by decide +kernel
theorem dX1_body20_3 : decode cX1_body20 3 = .ok (.invokevirtual 59, 3) := by decide +kernel
theorem dX1_body20_6 : decode cX1_body20 6 = .ok (.iload_n 2, 1) := by decide +kernel
theorem dX1_body20_7 : decode cX1_body20 7 = .ok (.ireturn, 1) := by decide +kernel
theorem dX1_body21_0 : decode cX1_body21 0 = .ok (.aload_n 0, 1) := by decide +kernel
theorem dX1_body21_1 : decode cX1_body21 1 = .ok (.bipush 21, 2) := by decide +kernel
theorem dX1_body21_3 : decode cX1_body21 3 = .ok (.invokevirtual 59, 3) := by decide +kernel
theorem dX1_body21_6 : decode cX1_body21 6 = .ok (.aload_n 0, 1) := by decide +kernel
theorem dX1_body21_7 : decode cX1_body21 7 = .ok (.aload_n 1, 1) := by decide +kernel
theorem dX1_body21_8 : decode cX1_body21 8 = .ok (.iload_n 2, 1) := by decide +kernel
theorem dX1_body21_9 : decode cX1_body21 9 = .ok (.invokevirtual 56, 3) := by decide +kernel
theorem dX1_body21_12 : decode cX1_body21 12 = .ok (.aload_n 1, 1) := by decide +kernel
theorem dX1_body21_13 : decode cX1_body21 13 = .ok (.getfield 69, 3) := by decide +kernel
theorem dX1_body21_16 : decode cX1_body21 16 = .ok (.iload_n 2, 1) := by decide +kernel
theorem dX1_body21_17 : decode cX1_body21 17 = .ok (.iaload, 1) := by decide +kernel
theorem dX1_body21_18 : decode cX1_body21 18 = .ok (.iadd, 1) := by decide +kernel
theorem dX1_body21_19 : decode cX1_body21 19 = .ok (.ireturn, 1) := by decide +kernel
theorem dX1_body22_0 : decode cX1_body22 0 = .ok (.aload_n 0, 1) := by decide +kernel
theorem dX1_body22_1 : decode cX1_body22 1 = .ok (.bipush 22, 2) := by decide +kernel
theorem dX1_body22_3 : decode cX1_body22 3 = .ok (.invokevirtual 59, 3) := by decide +kernel
theorem dX1_body22_6 : decode cX1_body22 6 = .ok (.aload_n 0, 1) := by decide +kernel
theorem dX1_body22_7 : decode cX1_body22 7 = .ok (.aload_n 1, 1) := by decide +kernel
theorem dX1_body22_8 : decode cX1_body22 8 = .ok (.iload_n 2, 1) := by decide +kernel
theorem dX1_body22_9 : decode cX1_body22 9 = .ok (.invokevirtual 44, 3) := by decide +kernel
theorem dX1_body22_12 : decode cX1_body22 12 = .ok (.sipush 1000, 3) := by decide +kernel
theorem dX1_body22_15 : decode cX1_body22 15 = .ok (.isub, 1) := by decide +kernel
theorem dX1_body22_16 : decode cX1_body22 16 = .ok (.ireturn, 1) := by decide +kernel
theorem dX1_body23_0 : decode cX1_body23 0 = .ok (.aload_n 0, 1) := by decide +kernel
theorem dX1_body23_1 : decode cX1_body23 1 = .ok (.bipush 23, 2) := by decide +kernel
theorem dX1_body23_3 : decode cX1_body23 3 = .ok (.invokevirtual 59, 3) := by decide +kernel
theorem dX1_body23_6 : decode cX1_body23 6 = .ok (.aload_n 0, 1) := by decide +kernel
theorem dX1_body23_7 : decode cX1_body23 7 = .ok (.aload_n 1, 1) := by decide +kernel
theorem dX1_body23_8 : decode cX1_body23 8 = .ok (.iload_n 2, 1) := by decide +kernel
theorem dX1_body23_9 : decode cX1_body23 9 = .ok (.invokevirtual 56, 3) := by decide +kernel
theorem dX1_body23_12 : decode cX1_body23 12 = .ok (.aload_n 0, 1) := by decide +kernel
theorem dX1_body23_13 : decode cX1_body23 13 = .ok (.aload_n 1, 1) := by decide +kernel
theorem dX1_body23_14 : decode cX1_body23 14 = .ok (.iload_n 2, 1) := by decide +kernel
theorem dX1_body23_15 : decode cX1_body23 15 = .ok (.invokevirtual 72, 3) := by decide +kernel
theorem dX1_body23_18 : decode cX1_body23 18 = .ok (.isub, 1) := by decide +kernel
theorem dX1_body23_19 : decode cX1_body23 19 = .ok (.ireturn, 1) := by decide +kernel
theorem dX1_body24_0 : decode cX1_body24 0 = .ok (.aload_n 0, 1) := by decide +kernel
theorem dX1_body24_1 : decode cX1_body24 1 = .ok (.bipush 24, 2) := by decide +kernel
theorem dX1_body24_3 : decode cX1_body24 3 = .ok (.invokevirtual 59, 3) := by decide +kernel
theorem dX1_body24_6 : decode cX1_body24 6 = .ok (.iconst 2, 1) := by decide +kernel
theorem dX1_body24_7 : decode cX1_body24 7 = .ok (.aload_n 0, 1) := by decide +kernel
theorem dX1_body24_8 : decode cX1_body24 8 = .ok (.aload_n 1, 1) := by decide +kernel
theorem dX1_body24_9 : decode cX1_body24 9 = .ok (.iload_n 2, 1) := by decide +kernel
theorem dX1_body24_10 : decode cX1_body24 10 = .ok (.invokevirtual 44, 3) := by decide +kernel
theorem dX1_body24_13 : decode cX1_body24 13 = .ok (.imul, 1) := by decide +kernel
theorem dX1_body24_14 : decode cX1_body24 14 = .ok (.ireturn, 1) := by decide +kernel
theorem dX2_init_0 : decode cX2_init 0 = .ok (.aload_n 0, 1) := by decide +kernel
theorem dX2_init_1 : decode cX2_init 1 = .ok (.invokespecial 1, 3) := by decide +kernel
theorem dX2_init_4 : decode cX2_init 4 = .ok (.aload_n 0, 1) := by decide +kernel
theorem dX2_init_5 : decode cX2_init 5 = .ok (.bipush 8, 2) := by decide +kernel
theorem dX2_init_7 : decode cX2_init 7 = .ok (.bipush 40, 2) := by decide +kernel
theorem dX2_init_9 : decode cX2_init 9 = .ok (.multianewarray 9 2, 4) := by decide +kernel
theorem dX2_init_13 : decode cX2_init 13 = .ok (.putfield 11, 3) := by decide +kernel
theorem dX2_init_16 : decode cX2_init 16 = .ok (.aload_n 0, 1) := by decide +kernel
theorem dX2_init_17 : decode cX2_init 17 = .ok (.bipush 8, 2) := by decide +kernel
theorem dX2_init_19 : decode cX2_init 19 = .ok (.newarray .int, 2) := by decide +kernel
theorem dX2_init_21 : decode cX2_init 21 = .ok (.putfield 14, 3) := by decide +kernel
theorem dX2_init_24 : decode cX2_init 24 = .ok (.aload_n 0, 1) := by decide +kernel
theorem dX2_init_25 : decode cX2_init 25 = .ok (.bipush 8, 2) := by decide +kernel
theorem dX2_init_27 : decode cX2_init 27 = .ok (.newarray .int, 2) := by decide +kernel
theorem dX2_init_29 : decode cX2_init 29 = .ok (.putfield 18, 3) := by decide +kernel
theorem dX2_init_32 : decode cX2_init 32 = .ok (.aload_n 0, 1) := by decide +kernel
theorem dX2_init_33 : decode cX2_init 33 = .ok (.getfield 18, 3) := by decide +kernel
theorem dX2_init_36 : decode cX2_init 36 = .ok (.iconst (-1), 1) := by decide +kernel
theorem dX2_init_37 : decode cX2_init 37 = .ok (.invokestatic 21, 3) := by decide +kernel
theorem dX2_init_40 : decode cX2_init 40 = .ok (.return_, 1) := by decide +kernel
theorem dX2_isMissing_0 : decode cX2_isMissing 0 = .ok (.aload_n 0, 1) := by decide +kernel
theorem dX2_isMissing_1 : decode cX2_isMissing 1 = .ok (.getfield 18, 3) := by decide +kernel
theorem dX2_isMissing_4 : decode cX2_isMissing 4 = .ok (.iload_n 1, 1) := by decide +kernel
theorem dX2_isMissing_5 : decode cX2_isMissing 5 = .ok (.iaload, 1) := by decide +kernel
theorem dX2_isMissing_6 : decode cX2_isMissing 6 = .ok (.iconst (-1), 1) := by decide +kernel
theorem dX2_isMissing_7 : decode cX2_isMissing 7 = .ok (.if_icmp .ne 7, 3) := by decide +kernel
theorem dX2_isMissing_10 : decode cX2_isMissing 10 = .ok (.iconst 1, 1) := by decide +kernel
theorem dX2_isMissing_11 : decode cX2_isMissing 11 = .ok (.goto 4, 3) := by decide +kernel
theorem dX2_isMissing_14 : decode cX2_isMissing 14 = .ok (.iconst 0, 1) := by decide +kernel
theorem dX2_isMissing_15 : decode cX2_isMissing 15 = .ok (.ireturn, 1) := by decide +kernel
theorem dX2_laneOf_0 : decode cX2_laneOf 0 = .ok (.aload_n 0, 1) := by decide +kernel
theorem dX2_laneOf_1 : decode cX2_laneOf 1 = .ok (.getfield 14, 3) := by decide +kernel
theorem dX2_laneOf_4 : decode cX2_laneOf 4 = .ok (.iload_n 1, 1) := by decide +kernel
theorem dX2_laneOf_5 : decode cX2_laneOf 5 = .ok (.iaload, 1) := by decide +kernel
theorem dX2_laneOf_6 : decode cX2_laneOf 6 = .ok (.ireturn, 1) := by decide +kernel
theorem dX2_itemsOf_0 : decode cX2_itemsOf 0 = .ok (.aload_n 0, 1) := by decide +kernel
theorem dX2_itemsOf_1 : decode cX2_itemsOf 1 = .ok (.getfield 11, 3) := by decide +kernel
theorem dX2_itemsOf_4 : decode cX2_itemsOf 4 = .ok (.iload_n 1, 1) := by decide +kernel
theorem dX2_itemsOf_5 : decode cX2_itemsOf 5 = .ok (.aaload, 1) := by decide +kernel
theorem dX2_itemsOf_6 : decode cX2_itemsOf 6 = .ok (.areturn, 1) := by decide +kernel
theorem dX2_has_0 : decode cX2_has 0 = .ok (.iload_n 2, 1) := by decide +kernel
theorem dX2_has_1 : decode cX2_has 1 = .ok (.ifCond .lt 23, 3) := by decide +kernel
theorem dX2_has_4 : decode cX2_has 4 = .ok (.iload_n 3, 1) := by decide +kernel
theorem dX2_has_5 : decode cX2_has 5 = .ok (.ifCond .lt 19, 3) := by decide +kernel
theorem dX2_has_8 : decode cX2_has 8 = .ok (.iload_n 2, 1) := by decide +kernel
theorem dX2_has_9 : decode cX2_has 9 = .ok (.aload_n 0, 1) := by decide +kernel
theorem dX2_has_10 : decode cX2_has 10 = .ok (.getfield 18, 3) := by decide +kernel
theorem dX2_has_13 : decode cX2_has 13 = .ok (.iload_n 1, 1) := by decide +kernel
theorem dX2_has_14 : decode cX2_has 14 = .ok (.iaload, 1) := by decide +kernel
theorem dX2_has_15 : decode cX2_has 15 = .ok (.iload_n 3, 1) := by decide +kernel
theorem dX2_has_16 : decode cX2_has 16 = .ok (.isub, 1) := by decide +kernel
theorem dX2_has_17 : decode cX2_has 17 = .ok (.if_icmp .gt 7, 3) := by decide +kernel
theorem dX2_has_20 : decode cX2_has 20 = .ok (.iconst 1, 1) := by decide +kernel
theorem dX2_has_21 : decode cX2_has 21 = .ok (.goto 4, 3) := by decide +kernel
theorem dX2_has_24 : decode cX2_has 24 = .ok (.iconst 0, 1) := by decide +kernel
theorem dX2_has_25 : decode cX2_has 25 = .ok (.ireturn, 1) := by decide +kernel
theorem dX2_make_0 : decode cX2_make 0 = .ok (.aload_n 0, 1) := by decide +kernel
theorem dX2_make_1 : decode cX2_make 1 = .ok (.getfield 14, 3) := by decide +kernel
theorem dX2_make_4 : decode cX2_make 4 = .ok (.iload_n 1, 1) := by decide +kernel
theorem dX2_make_5 : decode cX2_make 5 = .ok (.iload_n 2, 1) := by decide +kernel
theorem dX2_make_6 : decode cX2_make 6 = .ok (.iastore, 1) := by decide +kernel
theorem dX2_make_7 : decode cX2_make 7 = .ok (.aload_n 0, 1) := by decide +kernel
theorem dX2_make_8 : decode cX2_make 8 = .ok (.getfield 18, 3) := by decide +kernel
theorem dX2_make_11 : decode cX2_make 11 = .ok (.iload_n 1, 1) := by decide +kernel
theorem dX2_make_12 : decode cX2_make 12 = .ok (.iload_n 3, 1) := by decide +kernel
theorem dX2_make_13 : decode cX2_make 13 = .ok (.iastore, 1) := by decide +kernel
theorem dX2_make_14 : decode cX2_make 14 = .ok (.aload_n 0, 1) := by decide +kernel
theorem dX2_make_15 : decode cX2_make 15 = .ok (.getfield 11, 3) := by decide +kernel
theorem dX2_make_18 : decode cX2_make 18 = .ok (.iload_n 1, 1) := by decide +kernel
theorem dX2_make_19 : decode cX2_make 19 = .ok (.aaload, 1) := by decide +kernel
theorem dX2_make_20 : decode cX2_make 20 = .ok (.iconst 0, 1) := by decide +kernel
theorem dX2_make_21 : decode cX2_make 21 = .ok (.invokestatic 21, 3) := by decide +kernel
theorem dX2_make_24 : decode cX2_make 24 = .ok (.return_, 1) := by decide +kernel
theorem dX2_put_0 : decode cX2_put 0 = .ok (.iload_n 3, 1) := by decide +kernel
theorem dX2_put_1 : decode cX2_put 1 = .ok (.istore 4, 2) := by decide +kernel
theorem dX2_put_3 : decode cX2_put 3 = .ok (.aload_n 0, 1) := by decide +kernel
theorem dX2_put_4 : decode cX2_put 4 = .ok (.getfield 14, 3) := by decide +kernel
theorem dX2_put_7 : decode cX2_put 7 = .ok (.iload_n 1, 1) := by decide +kernel
theorem dX2_put_8 : decode cX2_put 8 = .ok (.iaload, 1) := by decide +kernel
theorem dX2_put_9 : decode cX2_put 9 = .ok (.iconst 1, 1) := by decide +kernel
theorem dX2_put_10 : decode cX2_put 10 = .ok (.if_icmp .ge 10, 3) := by decide +kernel
theorem dX2_put_13 : decode cX2_put 13 = .ok (.iload_n 3, 1) := by decide +kernel
theorem dX2_put_14 : decode cX2_put 14 = .ok (.i2b, 1) := by decide +kernel
theorem dX2_put_15 : decode cX2_put 15 = .ok (.istore 4, 2) := by decide +kernel
theorem dX2_put_17 : decode cX2_put 17 = .ok (.goto 17, 3) := by decide +kernel
theorem dX2_put_20 : decode cX2_put 20 = .ok (.aload_n 0, 1) := by decide +kernel
theorem dX2_put_21 : decode cX2_put 21 = .ok (.getfield 14, 3) := by decide +kernel
theorem dX2_put_24 : decode cX2_put 24 = .ok (.iload_n 1, 1) := by decide +kernel
theorem dX2_put_25 : decode cX2_put 25 = .ok (.iaload, 1) := by decide +kernel
theorem dX2_put_26 : decode cX2_put 26 = .ok (.iconst 2, 1) := by decide +kernel
theorem dX2_put_27 : decode cX2_put 27 = .ok (.if_icmp .ge 7, 3) := by decide +kernel
theorem dX2_put_30 : decode cX2_put 30 = .ok (.iload_n 3, 1) := by decide +kernel
theorem dX2_put_31 : decode cX2_put 31 = .ok (.i2s, 1) := by decide +kernel
theorem dX2_put_32 : decode cX2_put 32 = .ok (.istore 4, 2) := by decide +kernel
theorem dX2_put_34 : decode cX2_put 34 = .ok (.aload_n 0, 1) := by decide +kernel
theorem dX2_put_35 : decode cX2_put 35 = .ok (.getfield 11, 3) := by decide +kernel
theorem dX2_put_38 : decode cX2_put 38 = .ok (.iload_n 1, 1) := by decide +kernel
theorem dX2_put_39 : decode cX2_put 39 = .ok (.aaload, 1) := by decide +kernel
theorem dX2_put_40 : decode cX2_put 40 = .ok (.iload_n 2, 1) := by decide +kernel
theorem dX2_put_41 : decode cX2_put 41 = .ok (.iload 4, 2) := by decide +kernel
theorem dX2_put_43 : decode cX2_put 43 = .ok (.iastore, 1) := by decide +kernel
theorem dX2_put_44 : decode cX2_put 44 = .ok (.iload 4, 2) := by decide +kernel
theorem dX2_put_46 : decode cX2_put 46 = .ok (.ireturn, 1) := by decide +kernel
theorem dX2_move_0 : decode cX2_move 0 = .ok (.aload_n 0, 1) := by decide +kernel
theorem dX2_move_1 : decode cX2_move 1 = .ok (.getfield 11, 3) := by decide +kernel
theorem dX2_move_4 : decode cX2_move 4 = .ok (.iload_n 1, 1) := by decide +kernel
theorem dX2_move_5 : decode cX2_move 5 = .ok (.aaload, 1) := by decide +kernel
theorem dX2_move_6 : decode cX2_move 6 = .ok (.iload_n 2, 1) := by decide +kernel
theorem dX2_move_7 : decode cX2_move 7 = .ok (.aload_n 0, 1) := by decide +kernel
theorem dX2_move_8 : decode cX2_move 8 = .ok (.getfield 11, 3) := by decide +kernel
theorem dX2_move_11 : decode cX2_move 11 = .ok (.iload_n 3, 1) := by decide +kernel
theorem dX2_move_12 : decode cX2_move 12 = .ok (.aaload, 1) := by decide +kernel
theorem dX2_move_13 : decode cX2_move 13 = .ok (.iload 4, 2) := by decide +kernel
theorem dX2_move_15 : decode cX2_move 15 = .ok (.iload 5, 2) := by decide +kernel
theorem dX2_move_17 : decode cX2_move 17 = .ok (.invokestatic 27, 3) := by decide +kernel
theorem dX2_move_20 : decode cX2_move 20 = .ok (.return_, 1) := by decide +kernel
theorem dX2_remove_0 : decode cX2_remove 0 = .ok (.aload_n 0, 1) := by decide +kernel
theorem dX2_remove_1 : decode cX2_remove 1 = .ok (.getfield 18, 3) := by decide +kernel
theorem dX2_remove_4 : decode cX2_remove 4 = .ok (.iload_n 1, 1) := by decide +kernel
theorem dX2_remove_5 : decode cX2_remove 5 = .ok (.iaload, 1) := by decide +kernel
theorem dX2_remove_6 : decode cX2_remove 6 = .ok (.istore_n 2, 1) := by decide +kernel
theorem dX2_remove_7 : decode cX2_remove 7 = .ok (.aload_n 0, 1) := by decide +kernel
theorem dX2_remove_8 : decode cX2_remove 8 = .ok (.getfield 18, 3) := by decide +kernel
theorem dX2_remove_11 : decode cX2_remove 11 = .ok (.iload_n 1, 1) := by decide +kernel
theorem dX2_remove_12 : decode cX2_remove 12 = .ok (.iconst (-1), 1) := by decide +kernel
theorem dX2_remove_13 : decode cX2_remove 13 = .ok (.iastore, 1) := by decide +kernel
theorem dX2_remove_14 : decode cX2_remove 14 = .ok (.iload_n 2, 1) := by decide +kernel
theorem dX2_remove_15 : decode cX2_remove 15 = .ok (.ireturn, 1) := by decide +kernel
theorem dX2_present_0 : decode cX2_present 0 = .ok (.iconst 0, 1) := by decide +kernel
theorem dX2_present_1 : decode cX2_present 1 = .ok (.istore_n 1, 1) := by decide +kernel
theorem dX2_present_2 : decode cX2_present 2 = .ok (.iconst 0, 1) := by decide +kernel
theorem dX2_present_3 : decode cX2_present 3 = .ok (.istore_n 2, 1) := by decide +kernel
theorem dX2_present_4 : decode cX2_present 4 = .ok (.iload_n 2, 1) := by decide +kernel
theorem dX2_present_5 : decode cX2_present 5 = .ok (.bipush 8, 2) := by decide +kernel
theorem dX2_present_7 : decode cX2_present 7 = .ok (.if_icmp .ge 20, 3) := by decide +kernel
theorem dX2_present_10 : decode cX2_present 10 = .ok (.aload_n 0, 1) := by decide +kernel
theorem dX2_present_11 : decode cX2_present 11 = .ok (.iload_n 2, 1) := by decide +kernel
theorem dX2_present_12 : decode cX2_present 12 = .ok (.invokevirtual 33, 3) := by decide +kernel
theorem dX2_present_15 : decode cX2_present 15 = .ok (.ifCond .ne 6, 3) := by decide +kernel
theorem dX2_present_18 : decode cX2_present 18 = .ok (.iinc 1 1, 3) := by decide +kernel
theorem dX2_present_21 : decode cX2_present 21 = .ok (.iinc 2 1, 3) := by decide +kernel
theorem dX2_present_24 : decode cX2_present 24 = .ok (.goto (-20), 3) := by decide +kernel
theorem dX2_present_27 : decode cX2_present 27 = .ok (.iload_n 1, 1) := by decide +kernel
theorem dX2_present_28 : decode cX2_present 28 = .ok (.ireturn, 1) := by decide +kernel
theorem dX3_init_0 : decode cX3_init 0 = .ok (.aload_n 0, 1) := by decide +kernel
theorem dX3_init_1 : decode cX3_init 1 = .ok (.invokespecial 3, 3) := by decide +kernel
theorem dX3_init_4 : decode cX3_init 4 = .ok (.aload_n 0, 1) := by decide +kernel
theorem dX3_init_5 : decode cX3_init 5 = .ok (.new 9, 3) := by decide +kernel
theorem dX3_init_8 : decode cX3_init 8 = .ok (.dup, 1) := by decide +kernel
theorem dX3_init_9 : decode cX3_init 9 = .ok (.invokespecial 11, 3) := by decide +kernel
theorem dX3_init_12 : decode cX3_init 12 = .ok (.putfield 12, 3) := by decide +kernel
theorem dX3_init_15 : decode cX3_init 15 = .ok (.aload_n 0, 1) := by decide +kernel
theorem dX3_init_16 : decode cX3_init 16 = .ok (.sipush 256, 3) := by decide +kernel
theorem dX3_init_19 : decode cX3_init 19 = .ok (.newarray .int, 2) := by decide +kernel
theorem dX3_init_21 : decode cX3_init 21 = .ok (.putfield 18, 3) := by decide +kernel
theorem dX3_init_24 : decode cX3_init 24 = .ok (.aload_n 0, 1) := by decide +kernel
theorem dX3_init_25 : decode cX3_init 25 = .ok (.sipush 256, 3) := by decide +kernel
theorem dX3_init_28 : decode cX3_init 28 = .ok (.newarray .int, 2) := by decide +kernel
theorem dX3_init_30 : decode cX3_init 30 = .ok (.putfield 22, 3) := by decide +kernel
theorem dX3_init_33 : decode cX3_init 33 = .ok (.aload_n 0, 1) := by decide +kernel
theorem dX3_init_34 : decode cX3_init 34 = .ok (.bipush 6, 2) := by decide +kernel
theorem dX3_init_36 : decode cX3_init 36 = .ok (.newarray .int, 2) := by decide +kernel
theorem dX3_init_38 : decode cX3_init 38 = .ok (.putfield 25, 3) := by decide +kernel
theorem dX3_init_41 : decode cX3_init 41 = .ok (.aload_n 0, 1) := by decide +kernel
theorem dX3_init_42 : decode cX3_init 42 = .ok (.bipush 6, 2) := by decide +kernel
theorem dX3_init_44 : decode cX3_init 44 = .ok (.newarray .int, 2) := by decide +kernel
theorem dX3_init_46 : decode cX3_init 46 = .ok (.putfield 28, 3) := by decide +kernel
theorem dX3_init_49 : decode cX3_init 49 = .ok (.aload_n 0, 1) := by decide +kernel
theorem dX3_init_50 : decode cX3_init 50 = .ok (.sipush 4096, 3) := by decide +kernel
theorem dX3_init_53 : decode cX3_init 53 = .ok (.newarray .int, 2) := by decide +kernel
theorem dX3_init_55 : decode cX3_init 55 = .ok (.putfield 31, 3) := by decide +kernel
theorem dX3_init_58 : decode cX3_init 58 = .ok (.aload_n 0, 1) := by decide +kernel
theorem dX3_init_59 : decode cX3_init 59 = .ok (.aconst_null, 1) := by decide +kernel
theorem dX3_init_60 : decode cX3_init 60 = .ok (.putfield 34, 3) := by decide +kernel
theorem dX3_init_63 : decode cX3_init 63 = .ok (.aload_n 0, 1) := by decide +kernel
theorem dX3_init_64 : decode cX3_init 64 = .ok (.iconst 0, 1) := by decide +kernel
theorem dX3_init_65 : decode cX3_init 65 = .ok (.putfield 37, 3) := by decide +kernel
theorem dX3_init_68 : decode cX3_init 68 = .ok (.aload_n 0, 1) := by decide +kernel
theorem dX3_init_69 : decode cX3_init 69 = .ok (.iconst 0, 1) := by decide +kernel
theorem dX3_init_70 : decode cX3_init 70 = .ok (.putfield 41, 3) := by decide +kernel
theorem dX3_init_73 : decode cX3_init 73 = .ok (.aload_n 0, 1) := by decide +kernel
theorem dX3_init_74 : decode cX3_init 74 = .ok (.iconst 0, 1) := by decide +kernel
theorem dX3_init_75 : decode cX3_init 75 = .ok (.putfield 44, 3) := by decide +kernel
theorem dX3_init_78 : decode cX3_init 78 = .ok (.aload_n 0, 1) := by decide +kernel
theorem dX3_init_79 : decode cX3_init 79 = .ok (.iconst 0, 1) := by decide +kernel
theorem dX3_init_80 : decode cX3_init 80 = .ok (.putfield 47, 3) := by decide +kernel
theorem dX3_init_83 : decode cX3_init 83 = .ok (.return_, 1) := by decide +kernel
theorem dX3_most_0 : decode cX3_most 0 = .ok (.aload_n 0, 1) := by decide +kernel
theorem dX3_most_1 : decode cX3_most 1 = .ok (.getfield 44, 3) := by decide +kernel
theorem dX3_most_4 : decode cX3_most 4 = .ok (.ireturn, 1) := by decide +kernel
theorem dX3_chosen_0 : decode cX3_chosen 0 = .ok (.aload_n 0, 1) := by decide +kernel
theorem dX3_chosen_1 : decode cX3_chosen 1 = .ok (.getfield 47, 3) := by decide +kernel
theorem dX3_chosen_4 : decode cX3_chosen 4 = .ok (.ireturn, 1) := by decide +kernel
theorem dX3_chosenAt_0 : decode cX3_chosenAt 0 = .ok (.iload_n 1, 1) := by decide +kernel
theorem dX3_chosenAt_1 : decode cX3_chosenAt 1 = .ok (.ifCond .lt 18, 3) := by decide +kernel
theorem dX3_chosenAt_4 : decode cX3_chosenAt 4 = .ok (.iload_n 1, 1) := by decide +kernel
theorem dX3_chosenAt_5 : decode cX3_chosenAt 5 = .ok (.bipush 6, 2) := by decide +kernel
theorem dX3_chosenAt_7 : decode cX3_chosenAt 7 = .ok (.if_icmp .ge 12, 3) := by decide +kernel
theorem dX3_chosenAt_10 : decode cX3_chosenAt 10 = .ok (.aload_n 0, 1) := by decide +kernel
theorem dX3_chosenAt_11 : decode cX3_chosenAt 11 = .ok (.getfield 28, 3) := by decide +kernel
theorem dX3_chosenAt_14 : decode cX3_chosenAt 14 = .ok (.iload_n 1, 1) := by decide +kernel
theorem dX3_chosenAt_15 : decode cX3_chosenAt 15 = .ok (.iaload, 1) := by decide +kernel
theorem dX3_chosenAt_16 : decode cX3_chosenAt 16 = .ok (.goto 5, 3) := by decide +kernel
theorem dX3_chosenAt_19 : decode cX3_chosenAt 19 = .ok (.ldc 50, 2) := by decide +kernel
theorem dX3_chosenAt_21 : decode cX3_chosenAt 21 = .ok (.ireturn, 1) := by decide +kernel
theorem dX3_behind_0 : decode cX3_behind 0 = .ok (.aload_n 0, 1) := by decide +kernel
theorem dX3_behind_1 : decode cX3_behind 1 = .ok (.getfield 12, 3) := by decide +kernel
theorem dX3_behind_4 : decode cX3_behind 4 = .ok (.aload_n 1, 1) := by decide +kernel
theorem dX3_behind_5 : decode cX3_behind 5 = .ok (.invokevirtual 51, 3) := by decide +kernel
theorem dX3_behind_8 : decode cX3_behind 8 = .ok (.aload_n 0, 1) := by decide +kernel
theorem dX3_behind_9 : decode cX3_behind 9 = .ok (.iload_n 2, 1) := by decide +kernel
theorem dX3_behind_10 : decode cX3_behind 10 = .ok (.invokevirtual 55, 3) := by decide +kernel
theorem dX3_behind_13 : decode cX3_behind 13 = .ok (.aload_n 0, 1) := by decide +kernel
theorem dX3_behind_14 : decode cX3_behind 14 = .ok (.getfield 12, 3) := by decide +kernel
theorem dX3_behind_17 : decode cX3_behind 17 = .ok (.areturn, 1) := by decide +kernel
theorem dX3_goOn_0 : decode cX3_goOn 0 = .ok (.iconst 0, 1) := by decide +kernel
theorem dX3_goOn_1 : decode cX3_goOn 1 = .ok (.istore_n 2, 1) := by decide +kernel
theorem dX3_goOn_2 : decode cX3_goOn 2 = .ok (.iload_n 2, 1) := by decide +kernel
theorem dX3_goOn_3 : decode cX3_goOn 3 = .ok (.iload_n 1, 1) := by decide +kernel
theorem dX3_goOn_4 : decode cX3_goOn 4 = .ok (.if_icmp .ge 26, 3) := by decide +kernel
theorem dX3_goOn_7 : decode cX3_goOn 7 = .ok (.aload_n 0, 1) := by decide +kernel
theorem dX3_goOn_8 : decode cX3_goOn 8 = .ok (.getfield 12, 3) := by decide +kernel
theorem dX3_goOn_11 : decode cX3_goOn 11 = .ok (.invokevirtual 59, 3) := by decide +kernel
theorem dX3_goOn_14 : decode cX3_goOn 14 = .ok (.ifCond .eq 16, 3) := by decide +kernel
theorem dX3_goOn_17 : decode cX3_goOn 17 = .ok (.aload_n 0, 1) := by decide +kernel
theorem dX3_goOn_18 : decode cX3_goOn 18 = .ok (.getfield 12, 3) := by decide +kernel
theorem dX3_goOn_21 : decode cX3_goOn 21 = .ok (.invokevirtual 63, 3) := by decide +kernel
theorem dX3_goOn_24 : decode cX3_goOn 24 = .ok (.iinc 2 1, 3) := by decide +kernel
theorem dX3_goOn_27 : decode cX3_goOn 27 = .ok (.goto (-25), 3) := by decide +kernel
theorem dX3_goOn_30 : decode cX3_goOn 30 = .ok (.return_, 1) := by decide +kernel
theorem dX3_ticksToTray_0 : decode cX3_ticksToTray 0 = .ok (.aload_n 0, 1) := by decide +kernel
theorem dX3_ticksToTray_1 : decode cX3_ticksToTray 1 = .ok (.getfield 12, 3) := by decide +kernel
theorem dX3_ticksToTray_4 : decode cX3_ticksToTray 4 = .ok (.aload_n 1, 1) := by decide +kernel
theorem dX3_ticksToTray_5 : decode cX3_ticksToTray 5 = .ok (.invokevirtual 51, 3) := by decide +kernel
theorem dX3_ticksToTray_8 : decode cX3_ticksToTray 8 = .ok (.iconst 0, 1) := by decide +kernel
theorem dX3_ticksToTray_9 : decode cX3_ticksToTray 9 = .ok (.istore 4, 2) := by decide +kernel
theorem dX3_ticksToTray_11 : decode cX3_ticksToTray 11 = .ok (.iload 4, 2) := by decide +kernel
theorem dX3_ticksToTray_13 : decode cX3_ticksToTray 13 = .ok (.iload_n 3, 1) := by decide +kernel
theorem dX3_ticksToTray_14 : decode cX3_ticksToTray 14 = .ok (.if_icmp .gt 30, 3) := by decide +kernel
theorem dX3_ticksToTray_17 : decode cX3_ticksToTray 17 = .ok (.aload_n 0, 1) := by decide +kernel
theorem dX3_ticksToTray_18 : decode cX3_ticksToTray 18 = .ok (.getfield 12, 3) := by decide +kernel
theorem dX3_ticksToTray_21 : decode cX3_ticksToTray 21 = .ok (.iload_n 2, 1) := by decide +kernel
theorem dX3_ticksToTray_22 : decode cX3_ticksToTray 22 = .ok (.invokevirtual 66, 3) := by decide +kernel
theorem dX3_ticksToTray_25 : decode cX3_ticksToTray 25 = .ok (.ifCond .eq 6, 3) := by decide +kernel
theorem dX3_ticksToTray_28 : decode cX3_ticksToTray 28 = .ok (.iload 4, 2) := by decide +kernel
theorem dX3_ticksToTray_30 : decode cX3_ticksToTray 30 = .ok (.ireturn, 1) := by decide +kernel
theorem dX3_ticksToTray_31 : decode cX3_ticksToTray 31 = .ok (.aload_n 0, 1) := by decide +kernel
theorem dX3_ticksToTray_32 : decode cX3_ticksToTray 32 = .ok (.getfield 12, 3) := by decide +kernel
theorem dX3_ticksToTray_35 : decode cX3_ticksToTray 35 = .ok (.invokevirtual 63, 3) := by decide +kernel
theorem dX3_ticksToTray_38 : decode cX3_ticksToTray 38 = .ok (.iinc 4 1, 3) := by decide +kernel
theorem dX3_ticksToTray_41 : decode cX3_ticksToTray 41 = .ok (.goto (-30), 3) := by decide +kernel
theorem dX3_ticksToTray_44 : decode cX3_ticksToTray 44 = .ok (.ldc 50, 2) := by decide +kernel
theorem dX3_ticksToTray_46 : decode cX3_ticksToTray 46 = .ok (.ireturn, 1) := by decide +kernel
theorem dX3_ticksToRest_0 : decode cX3_ticksToRest 0 = .ok (.aload_n 0, 1) := by decide +kernel
theorem dX3_ticksToRest_1 : decode cX3_ticksToRest 1 = .ok (.getfield 12, 3) := by decide +kernel
theorem dX3_ticksToRest_4 : decode cX3_ticksToRest 4 = .ok (.aload_n 1, 1) := by decide +kernel
theorem dX3_ticksToRest_5 : decode cX3_ticksToRest 5 = .ok (.invokevirtual 51, 3) := by decide +kernel
theorem dX3_ticksToRest_8 : decode cX3_ticksToRest 8 = .ok (.iconst 0, 1) := by decide +kernel
theorem dX3_ticksToRest_9 : decode cX3_ticksToRest 9 = .ok (.istore_n 3, 1) := by decide +kernel
theorem dX3_ticksToRest_10 : decode cX3_ticksToRest 10 = .ok (.iload_n 3, 1) := by decide +kernel
theorem dX3_ticksToRest_11 : decode cX3_ticksToRest 11 = .ok (.iload_n 2, 1) := by decide +kernel
theorem dX3_ticksToRest_12 : decode cX3_ticksToRest 12 = .ok (.if_icmp .gt 28, 3) := by decide +kernel
theorem dX3_ticksToRest_15 : decode cX3_ticksToRest 15 = .ok (.aload_n 0, 1) := by decide +kernel
theorem dX3_ticksToRest_16 : decode cX3_ticksToRest 16 = .ok (.getfield 12, 3) := by decide +kernel
theorem dX3_ticksToRest_19 : decode cX3_ticksToRest 19 = .ok (.invokevirtual 59, 3) := by decide +kernel
theorem dX3_ticksToRest_22 : decode cX3_ticksToRest 22 = .ok (.ifCond .ne 5, 3) := by decide +kernel
theorem dX3_ticksToRest_25 : decode cX3_ticksToRest 25 = .ok (.iload_n 3, 1) := by decide +kernel
theorem dX3_ticksToRest_26 : decode cX3_ticksToRest 26 = .ok (.ireturn, 1) := by decide +kernel
theorem dX3_ticksToRest_27 : decode cX3_ticksToRest 27 = .ok (.aload_n 0, 1) := by decide +kernel
theorem dX3_ticksToRest_28 : decode cX3_ticksToRest 28 = .ok (.getfield 12, 3) := by decide +kernel
theorem dX3_ticksToRest_31 : decode cX3_ticksToRest 31 = .ok (.invokevirtual 63, 3) := by decide +kernel
theorem dX3_ticksToRest_34 : decode cX3_ticksToRest 34 = .ok (.iinc 3 1, 3) := by decide +kernel
theorem dX3_ticksToRest_37 : decode cX3_ticksToRest 37 = .ok (.goto (-27), 3) := by decide +kernel
theorem dX3_ticksToRest_40 : decode cX3_ticksToRest 40 = .ok (.ldc 50, 2) := by decide +kernel
theorem dX3_ticksToRest_42 : decode cX3_ticksToRest 42 = .ok (.ireturn, 1) := by decide +kernel
theorem dX3_chooseTips_0 : decode cX3_chooseTips 0 = .ok (.aload_n 1, 1) := by decide +kernel
theorem dX3_chooseTips_1 : decode cX3_chooseTips 1 = .ok (.invokevirtual 70, 3) := by decide +kernel
theorem dX3_chooseTips_4 : decode cX3_chooseTips 4 = .ok (.istore_n 3, 1) := by decide +kernel
theorem dX3_chooseTips_5 : decode cX3_chooseTips 5 = .ok (.aload_n 0, 1) := by decide +kernel
theorem dX3_chooseTips_6 : decode cX3_chooseTips 6 = .ok (.iconst (-1), 1) := by decide +kernel
theorem dX3_chooseTips_7 : decode cX3_chooseTips 7 = .ok (.putfield 44, 3) := by decide +kernel
theorem dX3_chooseTips_10 : decode cX3_chooseTips 10 = .ok (.aload_n 0, 1) := by decide +kernel
theorem dX3_chooseTips_11 : decode cX3_chooseTips 11 = .ok (.iconst 0, 1) := by decide +kernel
theorem dX3_chooseTips_12 : decode cX3_chooseTips 12 = .ok (.putfield 47, 3) := by decide +kernel
theorem dX3_chooseTips_15 : decode cX3_chooseTips 15 = .ok (.iconst 0, 1) := by decide +kernel
theorem dX3_chooseTips_16 : decode cX3_chooseTips 16 = .ok (.istore 4, 2) := by decide +kernel
theorem dX3_chooseTips_18 : decode cX3_chooseTips 18 = .ok (.iload 4, 2) := by decide +kernel
theorem dX3_chooseTips_20 : decode cX3_chooseTips 20 = .ok (.iload_n 3, 1) := by decide +kernel
theorem dX3_chooseTips_21 : decode cX3_chooseTips 21 = .ok (.if_icmp .gt 55, 3) := by decide +kernel
theorem dX3_chooseTips_24 : decode cX3_chooseTips 24 = .ok (.iload 4, 2) := by decide +kernel
theorem dX3_chooseTips_26 : decode cX3_chooseTips 26 = .ok (.iload_n 3, 1) := by decide +kernel
theorem dX3_chooseTips_27 : decode cX3_chooseTips 27 = .ok (.iconst (-1), 1) := by decide +kernel
theorem dX3_chooseTips_28 : decode cX3_chooseTips 28 = .ok (.ixor, 1) := by decide +kernel
theorem dX3_chooseTips_29 : decode cX3_chooseTips 29 = .ok (.iand, 1) := by decide +kernel
theorem dX3_chooseTips_30 : decode cX3_chooseTips 30 = .ok (.ifCond .ne 40, 3) := by decide +kernel
theorem dX3_chooseTips_33 : decode cX3_chooseTips 33 = .ok (.aload_n 0, 1) := by decide +kernel
theorem dX3_chooseTips_34 : decode cX3_chooseTips 34 = .ok (.getfield 12, 3) := by decide +kernel
theorem dX3_chooseTips_37 : decode cX3_chooseTips 37 = .ok (.aload_n 1, 1) := by decide +kernel
theorem dX3_chooseTips_38 : decode cX3_chooseTips 38 = .ok (.invokevirtual 51, 3) := by decide +kernel
theorem dX3_chooseTips_41 : decode cX3_chooseTips 41 = .ok (.aload_n 0, 1) := by decide +kernel
theorem dX3_chooseTips_42 : decode cX3_chooseTips 42 = .ok (.getfield 12, 3) := by decide +kernel
theorem dX3_chooseTips_45 : decode cX3_chooseTips 45 = .ok (.iload 4, 2) := by decide +kernel
theorem dX3_chooseTips_47 : decode cX3_chooseTips 47 = .ok (.invokevirtual 74, 3) := by decide +kernel
theorem dX3_chooseTips_50 : decode cX3_chooseTips 50 = .ok (.aload_n 0, 1) := by decide +kernel
theorem dX3_chooseTips_51 : decode cX3_chooseTips 51 = .ok (.iload_n 2, 1) := by decide +kernel
theorem dX3_chooseTips_52 : decode cX3_chooseTips 52 = .ok (.invokevirtual 55, 3) := by decide +kernel
theorem dX3_chooseTips_55 : decode cX3_chooseTips 55 = .ok (.aload_n 0, 1) := by decide +kernel
theorem dX3_chooseTips_56 : decode cX3_chooseTips 56 = .ok (.iload 4, 2) := by decide +kernel
theorem dX3_chooseTips_58 : decode cX3_chooseTips 58 = .ok (.aload_n 0, 1) := by decide +kernel
theorem dX3_chooseTips_59 : decode cX3_chooseTips 59 = .ok (.getfield 12, 3) := by decide +kernel
theorem dX3_chooseTips_62 : decode cX3_chooseTips 62 = .ok (.bipush 9, 2) := by decide +kernel
theorem dX3_chooseTips_64 : decode cX3_chooseTips 64 = .ok (.invokevirtual 77, 3) := by decide +kernel
theorem dX3_chooseTips_67 : decode cX3_chooseTips 67 = .ok (.invokevirtual 81, 3) := by decide +kernel
theorem dX3_chooseTips_70 : decode cX3_chooseTips 70 = .ok (.iinc 4 1, 3) := by decide +kernel
theorem dX3_chooseTips_73 : decode cX3_chooseTips 73 = .ok (.goto (-55), 3) := by decide +kernel
theorem dX3_chooseTips_76 : decode cX3_chooseTips 76 = .ok (.return_, 1) := by decide +kernel
theorem dX3_preferTips_0 : decode cX3_preferTips 0 = .ok (.iload_n 1, 1) := by decide +kernel
theorem dX3_preferTips_1 : decode cX3_preferTips 1 = .ok (.invokestatic 85, 3) := by decide +kernel
theorem dX3_preferTips_4 : decode cX3_preferTips 4 = .ok (.aload_n 0, 1) := by decide +kernel
theorem dX3_preferTips_5 : decode cX3_preferTips 5 = .ok (.getfield 47, 3) := by decide +kernel
theorem dX3_preferTips_8 : decode cX3_preferTips 8 = .ok (.invokestatic 85, 3) := by decide +kernel
theorem dX3_preferTips_11 : decode cX3_preferTips 11 = .ok (.if_icmp .ge 7, 3) := by decide +kernel
theorem dX3_preferTips_14 : decode cX3_preferTips 14 = .ok (.iconst 1, 1) := by decide +kernel
theorem dX3_preferTips_15 : decode cX3_preferTips 15 = .ok (.goto 4, 3) := by decide +kernel
theorem dX3_preferTips_18 : decode cX3_preferTips 18 = .ok (.iconst 0, 1) := by decide +kernel
theorem dX3_preferTips_19 : decode cX3_preferTips 19 = .ok (.istore_n 3, 1) := by decide +kernel
theorem dX3_preferTips_20 : decode cX3_preferTips 20 = .ok (.iload_n 2, 1) := by decide +kernel
theorem dX3_preferTips_21 : decode cX3_preferTips 21 = .ok (.aload_n 0, 1) := by decide +kernel
theorem dX3_preferTips_22 : decode cX3_preferTips 22 = .ok (.getfield 44, 3) := by decide +kernel
theorem dX3_preferTips_25 : decode cX3_preferTips 25 = .ok (.if_icmp .gt 15, 3) := by decide +kernel
theorem dX3_preferTips_28 : decode cX3_preferTips 28 = .ok (.iload_n 2, 1) := by decide +kernel
theorem dX3_preferTips_29 : decode cX3_preferTips 29 = .ok (.aload_n 0, 1) := by decide +kernel
theorem dX3_preferTips_30 : decode cX3_preferTips 30 = .ok (.getfield 44, 3) := by decide +kernel
theorem dX3_preferTips_33 : decode cX3_preferTips 33 = .ok (.if_icmp .ne 17, 3) := by decide +kernel
theorem dX3_preferTips_36 : decode cX3_preferTips 36 = .ok (.iload_n 3, 1) := by decide +kernel
theorem dX3_preferTips_37 : decode cX3_preferTips 37 = .ok (.ifCond .eq 13, 3) := by decide +kernel
theorem dX3_preferTips_40 : decode cX3_preferTips 40 = .ok (.aload_n 0, 1) := by decide +kernel
theorem dX3_preferTips_41 : decode cX3_preferTips 41 = .ok (.iload_n 2, 1) := by decide +kernel
theorem dX3_preferTips_42 : decode cX3_preferTips 42 = .ok (.putfield 44, 3) := by decide +kernel
theorem dX3_preferTips_45 : decode cX3_preferTips 45 = .ok (.aload_n 0, 1) := by decide +kernel
theorem dX3_preferTips_46 : decode cX3_preferTips 46 = .ok (.iload_n 1, 1) := by decide +kernel
theorem dX3_preferTips_47 : decode cX3_preferTips 47 = .ok (.putfield 47, 3) := by decide +kernel
theorem dX3_preferTips_50 : decode cX3_preferTips 50 = .ok (.return_, 1) := by decide +kernel
theorem dX3_chooseLead_0 : decode cX3_chooseLead 0 = .ok (.aload_n 0, 1) := by decide +kernel
theorem dX3_chooseLead_1 : decode cX3_chooseLead 1 = .ok (.iconst (-1), 1) := by decide +kernel
theorem dX3_chooseLead_2 : decode cX3_chooseLead 2 = .ok (.putfield 44, 3) := by decide +kernel
theorem dX3_chooseLead_5 : decode cX3_chooseLead 5 = .ok (.aload_n 0, 1) := by decide +kernel
theorem dX3_chooseLead_6 : decode cX3_chooseLead 6 = .ok (.bipush 9, 2) := by decide +kernel
theorem dX3_chooseLead_8 : decode cX3_chooseLead 8 = .ok (.putfield 47, 3) := by decide +kernel
theorem dX3_chooseLead_11 : decode cX3_chooseLead 11 = .ok (.iload_n 2, 1) := by decide +kernel
theorem dX3_chooseLead_12 : decode cX3_chooseLead 12 = .ok (.iconst 1, 1) := by decide +kernel
theorem dX3_chooseLead_13 : decode cX3_chooseLead 13 = .ok (.iadd, 1) := by decide +kernel
theorem dX3_chooseLead_14 : decode cX3_chooseLead 14 = .ok (.istore 4, 2) := by decide +kernel
theorem dX3_chooseLead_16 : decode cX3_chooseLead 16 = .ok (.iload 4, 2) := by decide +kernel
theorem dX3_chooseLead_18 : decode cX3_chooseLead 18 = .ok (.bipush 9, 2) := by decide +kernel
theorem dX3_chooseLead_20 : decode cX3_chooseLead 20 = .ok (.if_icmp .gt 65, 3) := by decide +kernel
theorem dX3_chooseLead_23 : decode cX3_chooseLead 23 = .ok (.aload_n 0, 1) := by decide +kernel
theorem dX3_chooseLead_24 : decode cX3_chooseLead 24 = .ok (.getfield 12, 3) := by decide +kernel
theorem dX3_chooseLead_27 : decode cX3_chooseLead 27 = .ok (.aload_n 1, 1) := by decide +kernel
theorem dX3_chooseLead_28 : decode cX3_chooseLead 28 = .ok (.invokevirtual 51, 3) := by decide +kernel
theorem dX3_chooseLead_31 : decode cX3_chooseLead 31 = .ok (.aload_n 0, 1) := by decide +kernel
theorem dX3_chooseLead_32 : decode cX3_chooseLead 32 = .ok (.getfield 12, 3) := by decide +kernel
theorem dX3_chooseLead_35 : decode cX3_chooseLead 35 = .ok (.getfield 90, 3) := by decide +kernel
theorem dX3_chooseLead_38 : decode cX3_chooseLead 38 = .ok (.iload_n 2, 1) := by decide +kernel
theorem dX3_chooseLead_39 : decode cX3_chooseLead 39 = .ok (.iload 4, 2) := by decide +kernel
theorem dX3_chooseLead_41 : decode cX3_chooseLead 41 = .ok (.iastore, 1) := by decide +kernel
theorem dX3_chooseLead_42 : decode cX3_chooseLead 42 = .ok (.aload_n 0, 1) := by decide +kernel
theorem dX3_chooseLead_43 : decode cX3_chooseLead 43 = .ok (.iload_n 3, 1) := by decide +kernel
theorem dX3_chooseLead_44 : decode cX3_chooseLead 44 = .ok (.invokevirtual 55, 3) := by decide +kernel
theorem dX3_chooseLead_47 : decode cX3_chooseLead 47 = .ok (.aload_n 0, 1) := by decide +kernel
theorem dX3_chooseLead_48 : decode cX3_chooseLead 48 = .ok (.getfield 12, 3) := by decide +kernel
theorem dX3_chooseLead_51 : decode cX3_chooseLead 51 = .ok (.bipush 9, 2) := by decide +kernel
theorem dX3_chooseLead_53 : decode cX3_chooseLead 53 = .ok (.invokevirtual 77, 3) := by decide +kernel
theorem dX3_chooseLead_56 : decode cX3_chooseLead 56 = .ok (.istore 5, 2) := by decide +kernel
theorem dX3_chooseLead_58 : decode cX3_chooseLead 58 = .ok (.iload 5, 2) := by decide +kernel
theorem dX3_chooseLead_60 : decode cX3_chooseLead 60 = .ok (.aload_n 0, 1) := by decide +kernel
theorem dX3_chooseLead_61 : decode cX3_chooseLead 61 = .ok (.getfield 44, 3) := by decide +kernel
theorem dX3_chooseLead_64 : decode cX3_chooseLead 64 = .ok (.if_icmp .le 15, 3) := by decide +kernel
theorem dX3_chooseLead_67 : decode cX3_chooseLead 67 = .ok (.aload_n 0, 1) := by decide +kernel
theorem dX3_chooseLead_68 : decode cX3_chooseLead 68 = .ok (.iload 5, 2) := by decide +kernel
theorem dX3_chooseLead_70 : decode cX3_chooseLead 70 = .ok (.putfield 44, 3) := by decide +kernel
theorem dX3_chooseLead_73 : decode cX3_chooseLead 73 = .ok (.aload_n 0, 1) := by decide +kernel
theorem dX3_chooseLead_74 : decode cX3_chooseLead 74 = .ok (.iload 4, 2) := by decide +kernel
theorem dX3_chooseLead_76 : decode cX3_chooseLead 76 = .ok (.putfield 47, 3) := by decide +kernel
theorem dX3_chooseLead_79 : decode cX3_chooseLead 79 = .ok (.iinc 4 1, 3) := by decide +kernel
theorem dX3_chooseLead_82 : decode cX3_chooseLead 82 = .ok (.goto (-66), 3) := by decide +kernel
theorem dX3_chooseLead_85 : decode cX3_chooseLead 85 = .ok (.return_, 1) := by decide +kernel
theorem dX3_chooseOrder_0 : decode cX3_chooseOrder 0 = .ok (.aload_n 0, 1) := by decide +kernel
theorem dX3_chooseOrder_1 : decode cX3_chooseOrder 1 = .ok (.iconst (-1), 1) := by decide +kernel
theorem dX3_chooseOrder_2 : decode cX3_chooseOrder 2 = .ok (.putfield 44, 3) := by decide +kernel
theorem dX3_chooseOrder_5 : decode cX3_chooseOrder 5 = .ok (.aload_n 0, 1) := by decide +kernel
theorem dX3_chooseOrder_6 : decode cX3_chooseOrder 6 = .ok (.getfield 31, 3) := by decide +kernel
theorem dX3_chooseOrder_9 : decode cX3_chooseOrder 9 = .ok (.iconst (-1), 1) := by decide +kernel
theorem dX3_chooseOrder_10 : decode cX3_chooseOrder 10 = .ok (.invokestatic 93, 3) := by decide +kernel
theorem dX3_chooseOrder_13 : decode cX3_chooseOrder 13 = .ok (.iconst 0, 1) := by decide +kernel
theorem dX3_chooseOrder_14 : decode cX3_chooseOrder 14 = .ok (.istore_n 3, 1) := by decide +kernel
theorem dX3_chooseOrder_15 : decode cX3_chooseOrder 15 = .ok (.iload_n 3, 1) := by decide +kernel
theorem dX3_chooseOrder_16 : decode cX3_chooseOrder 16 = .ok (.aload_n 1, 1) := by decide +kernel
theorem dX3_chooseOrder_17 : decode cX3_chooseOrder 17 = .ok (.getfield 99, 3) := by decide +kernel
theorem dX3_chooseOrder_20 : decode cX3_chooseOrder 20 = .ok (.if_icmp .ge 16, 3) := by decide +kernel
theorem dX3_chooseOrder_23 : decode cX3_chooseOrder 23 = .ok (.aload_n 0, 1) := by decide +kernel
theorem dX3_chooseOrder_24 : decode cX3_chooseOrder 24 = .ok (.getfield 25, 3) := by decide +kernel
theorem dX3_chooseOrder_27 : decode cX3_chooseOrder 27 = .ok (.iload_n 3, 1) := by decide +kernel
theorem dX3_chooseOrder_28 : decode cX3_chooseOrder 28 = .ok (.iload_n 3, 1) := by decide +kernel
theorem dX3_chooseOrder_29 : decode cX3_chooseOrder 29 = .ok (.iastore, 1) := by decide +kernel
theorem dX3_chooseOrder_30 : decode cX3_chooseOrder 30 = .ok (.iinc 3 1, 3) := by decide +kernel
theorem dX3_chooseOrder_33 : decode cX3_chooseOrder 33 = .ok (.goto (-18), 3) := by decide +kernel
theorem dX3_chooseOrder_36 : decode cX3_chooseOrder 36 = .ok (.iconst 1, 1) := by decide +kernel
theorem dX3_chooseOrder_37 : decode cX3_chooseOrder 37 = .ok (.istore_n 3, 1) := by decide +kernel
theorem dX3_chooseOrder_38 : decode cX3_chooseOrder 38 = .ok (.iconst 0, 1) := by decide +kernel
theorem dX3_chooseOrder_39 : decode cX3_chooseOrder 39 = .ok (.istore 4, 2) := by decide +kernel
theorem dX3_chooseOrder_41 : decode cX3_chooseOrder 41 = .ok (.iload 4, 2) := by decide +kernel
theorem dX3_chooseOrder_43 : decode cX3_chooseOrder 43 = .ok (.sipush 720, 3) := by decide +kernel
theorem dX3_chooseOrder_46 : decode cX3_chooseOrder 46 = .ok (.if_icmp .ge 33, 3) := by decide +kernel
theorem dX3_chooseOrder_49 : decode cX3_chooseOrder 49 = .ok (.iload_n 3, 1) := by decide +kernel
theorem dX3_chooseOrder_50 : decode cX3_chooseOrder 50 = .ok (.ifCond .eq 29, 3) := by decide +kernel
theorem dX3_chooseOrder_53 : decode cX3_chooseOrder 53 = .ok (.aload_n 0, 1) := by decide +kernel
theorem dX3_chooseOrder_54 : decode cX3_chooseOrder 54 = .ok (.aload_n 1, 1) := by decide +kernel
theorem dX3_chooseOrder_55 : decode cX3_chooseOrder 55 = .ok (.aload_n 0, 1) := by decide +kernel
theorem dX3_chooseOrder_56 : decode cX3_chooseOrder 56 = .ok (.aload_n 1, 1) := by decide +kernel
theorem dX3_chooseOrder_57 : decode cX3_chooseOrder 57 = .ok (.iload_n 2, 1) := by decide +kernel
theorem dX3_chooseOrder_58 : decode cX3_chooseOrder 58 = .ok (.invokevirtual 102, 3) := by decide +kernel
theorem dX3_chooseOrder_61 : decode cX3_chooseOrder 61 = .ok (.invokevirtual 106, 3) := by decide +kernel
theorem dX3_chooseOrder_64 : decode cX3_chooseOrder 64 = .ok (.aload_n 0, 1) := by decide +kernel
theorem dX3_chooseOrder_65 : decode cX3_chooseOrder 65 = .ok (.aload_n 1, 1) := by decide +kernel
theorem dX3_chooseOrder_66 : decode cX3_chooseOrder 66 = .ok (.getfield 99, 3) := by decide +kernel
theorem dX3_chooseOrder_69 : decode cX3_chooseOrder 69 = .ok (.invokevirtual 110, 3) := by decide +kernel
theorem dX3_chooseOrder_72 : decode cX3_chooseOrder 72 = .ok (.istore_n 3, 1) := by decide +kernel
theorem dX3_chooseOrder_73 : decode cX3_chooseOrder 73 = .ok (.iinc 4 1, 3) := by decide +kernel
theorem dX3_chooseOrder_76 : decode cX3_chooseOrder 76 = .ok (.goto (-35), 3) := by decide +kernel
theorem dX3_chooseOrder_79 : decode cX3_chooseOrder 79 = .ok (.return_, 1) := by decide +kernel
theorem dX3_rightOnes_0 : decode cX3_rightOnes 0 = .ok (.iconst 0, 1) := by decide +kernel
theorem dX3_rightOnes_1 : decode cX3_rightOnes 1 = .ok (.istore_n 3, 1) := by decide +kernel
theorem dX3_rightOnes_2 : decode cX3_rightOnes 2 = .ok (.iconst 0, 1) := by decide +kernel
theorem dX3_rightOnes_3 : decode cX3_rightOnes 3 = .ok (.istore 4, 2) := by decide +kernel
theorem dX3_rightOnes_5 : decode cX3_rightOnes 5 = .ok (.iload 4, 2) := by decide +kernel
theorem dX3_rightOnes_7 : decode cX3_rightOnes 7 = .ok (.aload_n 1, 1) := by decide +kernel
theorem dX3_rightOnes_8 : decode cX3_rightOnes 8 = .ok (.getfield 99, 3) := by decide +kernel
theorem dX3_rightOnes_11 : decode cX3_rightOnes 11 = .ok (.if_icmp .ge 47, 3) := by decide +kernel
theorem dX3_rightOnes_14 : decode cX3_rightOnes 14 = .ok (.aload_n 1, 1) := by decide +kernel
theorem dX3_rightOnes_15 : decode cX3_rightOnes 15 = .ok (.getfield 113, 3) := by decide +kernel
theorem dX3_rightOnes_18 : decode cX3_rightOnes 18 = .ok (.aload_n 0, 1) := by decide +kernel
theorem dX3_rightOnes_19 : decode cX3_rightOnes 19 = .ok (.getfield 25, 3) := by decide +kernel
theorem dX3_rightOnes_22 : decode cX3_rightOnes 22 = .ok (.iload 4, 2) := by decide +kernel
theorem dX3_rightOnes_24 : decode cX3_rightOnes 24 = .ok (.iaload, 1) := by decide +kernel
theorem dX3_rightOnes_25 : decode cX3_rightOnes 25 = .ok (.iaload, 1) := by decide +kernel
theorem dX3_rightOnes_26 : decode cX3_rightOnes 26 = .ok (.istore 5, 2) := by decide +kernel
theorem dX3_rightOnes_28 : decode cX3_rightOnes 28 = .ok (.iconst 4, 1) := by decide +kernel
theorem dX3_rightOnes_29 : decode cX3_rightOnes 29 = .ok (.iload_n 3, 1) := by decide +kernel
theorem dX3_rightOnes_30 : decode cX3_rightOnes 30 = .ok (.imul, 1) := by decide +kernel
theorem dX3_rightOnes_31 : decode cX3_rightOnes 31 = .ok (.iload 5, 2) := by decide +kernel
theorem dX3_rightOnes_33 : decode cX3_rightOnes 33 = .ok (.aload_n 1, 1) := by decide +kernel
theorem dX3_rightOnes_34 : decode cX3_rightOnes 34 = .ok (.getfield 116, 3) := by decide +kernel
theorem dX3_rightOnes_37 : decode cX3_rightOnes 37 = .ok (.if_icmp .lt 7, 3) := by decide +kernel
theorem dX3_rightOnes_40 : decode cX3_rightOnes 40 = .ok (.iconst 2, 1) := by decide +kernel
theorem dX3_rightOnes_41 : decode cX3_rightOnes 41 = .ok (.goto 4, 3) := by decide +kernel
theorem dX3_rightOnes_44 : decode cX3_rightOnes 44 = .ok (.iconst 0, 1) := by decide +kernel
theorem dX3_rightOnes_45 : decode cX3_rightOnes 45 = .ok (.iadd, 1) := by decide +kernel
theorem dX3_rightOnes_46 : decode cX3_rightOnes 46 = .ok (.iload 5, 2) := by decide +kernel
theorem dX3_rightOnes_48 : decode cX3_rightOnes 48 = .ok (.iconst 2, 1) := by decide +kernel
theorem dX3_rightOnes_49 : decode cX3_rightOnes 49 = .ok (.irem, 1) := by decide +kernel
theorem dX3_rightOnes_50 : decode cX3_rightOnes 50 = .ok (.iadd, 1) := by decide +kernel
theorem dX3_rightOnes_51 : decode cX3_rightOnes 51 = .ok (.istore_n 3, 1) := by decide +kernel
theorem dX3_rightOnes_52 : decode cX3_rightOnes 52 = .ok (.iinc 4 1, 3) := by decide +kernel
theorem dX3_rightOnes_55 : decode cX3_rightOnes 55 = .ok (.goto (-50), 3) := by decide +kernel
theorem dX3_rightOnes_58 : decode cX3_rightOnes 58 = .ok (.aload_n 0, 1) := by decide +kernel
theorem dX3_rightOnes_59 : decode cX3_rightOnes 59 = .ok (.getfield 31, 3) := by decide +kernel
theorem dX3_rightOnes_62 : decode cX3_rightOnes 62 = .ok (.iload_n 3, 1) := by decide +kernel
theorem dX3_rightOnes_63 : decode cX3_rightOnes 63 = .ok (.iaload, 1) := by decide +kernel
theorem dX3_rightOnes_64 : decode cX3_rightOnes 64 = .ok (.iconst (-1), 1) := by decide +kernel
theorem dX3_rightOnes_65 : decode cX3_rightOnes 65 = .ok (.if_icmp .ne 71, 3) := by decide +kernel
theorem dX3_rightOnes_68 : decode cX3_rightOnes 68 = .ok (.aload_n 0, 1) := by decide +kernel
theorem dX3_rightOnes_69 : decode cX3_rightOnes 69 = .ok (.getfield 12, 3) := by decide +kernel
theorem dX3_rightOnes_72 : decode cX3_rightOnes 72 = .ok (.aload_n 1, 1) := by decide +kernel
theorem dX3_rightOnes_73 : decode cX3_rightOnes 73 = .ok (.invokevirtual 51, 3) := by decide +kernel
theorem dX3_rightOnes_76 : decode cX3_rightOnes 76 = .ok (.iconst 0, 1) := by decide +kernel
theorem dX3_rightOnes_77 : decode cX3_rightOnes 77 = .ok (.istore 4, 2) := by decide +kernel
theorem dX3_rightOnes_79 : decode cX3_rightOnes 79 = .ok (.iload 4, 2) := by decide +kernel
theorem dX3_rightOnes_81 : decode cX3_rightOnes 81 = .ok (.aload_n 1, 1) := by decide +kernel
theorem dX3_rightOnes_82 : decode cX3_rightOnes 82 = .ok (.getfield 99, 3) := by decide +kernel
theorem dX3_rightOnes_85 : decode cX3_rightOnes 85 = .ok (.if_icmp .ge 31, 3) := by decide +kernel
theorem dX3_rightOnes_88 : decode cX3_rightOnes 88 = .ok (.aload_n 0, 1) := by decide +kernel
theorem dX3_rightOnes_89 : decode cX3_rightOnes 89 = .ok (.getfield 12, 3) := by decide +kernel
theorem dX3_rightOnes_92 : decode cX3_rightOnes 92 = .ok (.getfield 113, 3) := by decide +kernel
theorem dX3_rightOnes_95 : decode cX3_rightOnes 95 = .ok (.iload 4, 2) := by decide +kernel
theorem dX3_rightOnes_97 : decode cX3_rightOnes 97 = .ok (.aload_n 1, 1) := by decide +kernel
theorem dX3_rightOnes_98 : decode cX3_rightOnes 98 = .ok (.getfield 113, 3) := by decide +kernel
theorem dX3_rightOnes_101 : decode cX3_rightOnes 101 = .ok (.aload_n 0, 1) := by decide +kernel
theorem dX3_rightOnes_102 : decode cX3_rightOnes 102 = .ok (.getfield 25, 3) := by decide +kernel
theorem dX3_rightOnes_105 : decode cX3_rightOnes 105 = .ok (.iload 4, 2) := by decide +kernel
theorem dX3_rightOnes_107 : decode cX3_rightOnes 107 = .ok (.iaload, 1) := by decide +kernel
theorem dX3_rightOnes_108 : decode cX3_rightOnes 108 = .ok (.iaload, 1) := by decide +kernel
theorem dX3_rightOnes_109 : decode cX3_rightOnes 109 = .ok (.iastore, 1) := by decide +kernel
theorem dX3_rightOnes_110 : decode cX3_rightOnes 110 = .ok (.iinc 4 1, 3) := by decide +kernel
theorem dX3_rightOnes_113 : decode cX3_rightOnes 113 = .ok (.goto (-34), 3) := by decide +kernel
theorem dX3_rightOnes_116 : decode cX3_rightOnes 116 = .ok (.aload_n 0, 1) := by decide +kernel
theorem dX3_rightOnes_117 : decode cX3_rightOnes 117 = .ok (.iload_n 2, 1) := by decide +kernel
theorem dX3_rightOnes_118 : decode cX3_rightOnes 118 = .ok (.invokevirtual 55, 3) := by decide +kernel
theorem dX3_rightOnes_121 : decode cX3_rightOnes 121 = .ok (.aload_n 0, 1) := by decide +kernel
theorem dX3_rightOnes_122 : decode cX3_rightOnes 122 = .ok (.getfield 31, 3) := by decide +kernel
theorem dX3_rightOnes_125 : decode cX3_rightOnes 125 = .ok (.iload_n 3, 1) := by decide +kernel
theorem dX3_rightOnes_126 : decode cX3_rightOnes 126 = .ok (.aload_n 0, 1) := by decide +kernel
theorem dX3_rightOnes_127 : decode cX3_rightOnes 127 = .ok (.getfield 12, 3) := by decide +kernel
theorem dX3_rightOnes_130 : decode cX3_rightOnes 130 = .ok (.bipush 9, 2) := by decide +kernel
theorem dX3_rightOnes_132 : decode cX3_rightOnes 132 = .ok (.invokevirtual 119, 3) := by decide +kernel
theorem dX3_rightOnes_135 : decode cX3_rightOnes 135 = .ok (.iastore, 1) := by decide +kernel
theorem dX3_rightOnes_136 : decode cX3_rightOnes 136 = .ok (.aload_n 0, 1) := by decide +kernel
theorem dX3_rightOnes_137 : decode cX3_rightOnes 137 = .ok (.getfield 31, 3) := by decide +kernel
theorem dX3_rightOnes_140 : decode cX3_rightOnes 140 = .ok (.iload_n 3, 1) := by decide +kernel
theorem dX3_rightOnes_141 : decode cX3_rightOnes 141 = .ok (.iaload, 1) := by decide +kernel
theorem dX3_rightOnes_142 : decode cX3_rightOnes 142 = .ok (.ireturn, 1) := by decide +kernel
theorem dX3_preferOrder_0 : decode cX3_preferOrder 0 = .ok (.iconst 0, 1) := by decide +kernel
theorem dX3_preferOrder_1 : decode cX3_preferOrder 1 = .ok (.istore_n 3, 1) := by decide +kernel
theorem dX3_preferOrder_2 : decode cX3_preferOrder 2 = .ok (.iconst 0, 1) := by decide +kernel
theorem dX3_preferOrder_3 : decode cX3_preferOrder 3 = .ok (.istore 4, 2) := by decide +kernel
theorem dX3_preferOrder_5 : decode cX3_preferOrder 5 = .ok (.iload 4, 2) := by decide +kernel
theorem dX3_preferOrder_7 : decode cX3_preferOrder 7 = .ok (.aload_n 1, 1) := by decide +kernel
theorem dX3_preferOrder_8 : decode cX3_preferOrder 8 = .ok (.getfield 99, 3) := by decide +kernel
theorem dX3_preferOrder_11 : decode cX3_preferOrder 11 = .ok (.if_icmp .ge 31, 3) := by decide +kernel
theorem dX3_preferOrder_14 : decode cX3_preferOrder 14 = .ok (.iload_n 3, 1) := by decide +kernel
theorem dX3_preferOrder_15 : decode cX3_preferOrder 15 = .ok (.iload_n 2, 1) := by decide +kernel
theorem dX3_preferOrder_16 : decode cX3_preferOrder 16 = .ok (.iload 4, 2) := by decide +kernel
theorem dX3_preferOrder_18 : decode cX3_preferOrder 18 = .ok (.ishr, 1) := by decide +kernel
theorem dX3_preferOrder_19 : decode cX3_preferOrder 19 = .ok (.iconst 1, 1) := by decide +kernel
theorem dX3_preferOrder_20 : decode cX3_preferOrder 20 = .ok (.iand, 1) := by decide +kernel
theorem dX3_preferOrder_21 : decode cX3_preferOrder 21 = .ok (.aload_n 1, 1) := by decide +kernel
theorem dX3_preferOrder_22 : decode cX3_preferOrder 22 = .ok (.getfield 113, 3) := by decide +kernel
theorem dX3_preferOrder_25 : decode cX3_preferOrder 25 = .ok (.aload_n 0, 1) := by decide +kernel
theorem dX3_preferOrder_26 : decode cX3_preferOrder 26 = .ok (.getfield 25, 3) := by decide +kernel
theorem dX3_preferOrder_29 : decode cX3_preferOrder 29 = .ok (.iload 4, 2) := by decide +kernel
theorem dX3_preferOrder_31 : decode cX3_preferOrder 31 = .ok (.iaload, 1) := by decide +kernel
theorem dX3_preferOrder_32 : decode cX3_preferOrder 32 = .ok (.iaload, 1) := by decide +kernel
theorem dX3_preferOrder_33 : decode cX3_preferOrder 33 = .ok (.imul, 1) := by decide +kernel
theorem dX3_preferOrder_34 : decode cX3_preferOrder 34 = .ok (.iadd, 1) := by decide +kernel
theorem dX3_preferOrder_35 : decode cX3_preferOrder 35 = .ok (.istore_n 3, 1) := by decide +kernel
theorem dX3_preferOrder_36 : decode cX3_preferOrder 36 = .ok (.iinc 4 1, 3) := by decide +kernel
theorem dX3_preferOrder_39 : decode cX3_preferOrder 39 = .ok (.goto (-34), 3) := by decide +kernel
theorem dX3_preferOrder_42 : decode cX3_preferOrder 42 = .ok (.iload_n 3, 1) := by decide +kernel
theorem dX3_preferOrder_43 : decode cX3_preferOrder 43 = .ok (.aload_n 0, 1) := by decide +kernel
theorem dX3_preferOrder_44 : decode cX3_preferOrder 44 = .ok (.getfield 44, 3) := by decide +kernel
theorem dX3_preferOrder_47 : decode cX3_preferOrder 47 = .ok (.if_icmp .le 23, 3) := by decide +kernel
theorem dX3_preferOrder_50 : decode cX3_preferOrder 50 = .ok (.aload_n 0, 1) := by decide +kernel
theorem dX3_preferOrder_51 : decode cX3_preferOrder 51 = .ok (.iload_n 3, 1) := by decide +kernel
theorem dX3_preferOrder_52 : decode cX3_preferOrder 52 = .ok (.putfield 44, 3) := by decide +kernel
theorem dX3_preferOrder_55 : decode cX3_preferOrder 55 = .ok (.aload_n 0, 1) := by decide +kernel
theorem dX3_preferOrder_56 : decode cX3_preferOrder 56 = .ok (.getfield 25, 3) := by decide +kernel
theorem dX3_preferOrder_59 : decode cX3_preferOrder 59 = .ok (.iconst 0, 1) := by decide +kernel
theorem dX3_preferOrder_60 : decode cX3_preferOrder 60 = .ok (.aload_n 0, 1) := by decide +kernel
theorem dX3_preferOrder_61 : decode cX3_preferOrder 61 = .ok (.getfield 28, 3) := by decide +kernel
theorem dX3_preferOrder_64 : decode cX3_preferOrder 64 = .ok (.iconst 0, 1) := by decide +kernel
theorem dX3_preferOrder_65 : decode cX3_preferOrder 65 = .ok (.bipush 6, 2) := by decide +kernel
theorem dX3_preferOrder_67 : decode cX3_preferOrder 67 = .ok (.invokestatic 122, 3) := by decide +kernel
theorem dX3_preferOrder_70 : decode cX3_preferOrder 70 = .ok (.return_, 1) := by decide +kernel
theorem dX3_stepToNextOrder_0 : decode cX3_stepToNextOrder 0 = .ok (.iload_n 1, 1) := by decide +kernel
theorem dX3_stepToNextOrder_1 : decode cX3_stepToNextOrder 1 = .ok (.iconst 1, 1) := by decide +kernel
theorem dX3_stepToNextOrder_2 : decode cX3_stepToNextOrder 2 = .ok (.isub, 1) := by decide +kernel
theorem dX3_stepToNextOrder_3 : decode cX3_stepToNextOrder 3 = .ok (.istore_n 2, 1) := by decide +kernel
theorem dX3_stepToNextOrder_4 : decode cX3_stepToNextOrder 4 = .ok (.iload_n 2, 1) := by decide +kernel
theorem dX3_stepToNextOrder_5 : decode cX3_stepToNextOrder 5 = .ok (.iconst 1, 1) := by decide +kernel
theorem dX3_stepToNextOrder_6 : decode cX3_stepToNextOrder 6 = .ok (.isub, 1) := by decide +kernel
theorem dX3_stepToNextOrder_7 : decode cX3_stepToNextOrder 7 = .ok (.istore_n 3, 1) := by decide +kernel
theorem dX3_stepToNextOrder_8 : decode cX3_stepToNextOrder 8 = .ok (.iload_n 3, 1) := by decide +kernel
theorem dX3_stepToNextOrder_9 : decode cX3_stepToNextOrder 9 = .ok (.ifCond .lt 26, 3) := by decide +kernel
theorem dX3_stepToNextOrder_12 : decode cX3_stepToNextOrder 12 = .ok (.aload_n 0, 1) := by decide +kernel
theorem dX3_stepToNextOrder_13 : decode cX3_stepToNextOrder 13 = .ok (.getfield 25, 3) := by decide +kernel
theorem dX3_stepToNextOrder_16 : decode cX3_stepToNextOrder 16 = .ok (.iload_n 3, 1) := by decide +kernel
theorem dX3_stepToNextOrder_17 : decode cX3_stepToNextOrder 17 = .ok (.iaload, 1) := by decide +kernel
theorem dX3_stepToNextOrder_18 : decode cX3_stepToNextOrder 18 = .ok (.aload_n 0, 1) := by decide +kernel
theorem dX3_stepToNextOrder_19 : decode cX3_stepToNextOrder 19 = .ok (.getfield 25, 3) := by decide +kernel
theorem dX3_stepToNextOrder_22 : decode cX3_stepToNextOrder 22 = .ok (.iload_n 3, 1) := by decide +kernel
theorem dX3_stepToNextOrder_23 : decode cX3_stepToNextOrder 23 = .ok (.iconst 1, 1) := by decide +kernel
theorem dX3_stepToNextOrder_24 : decode cX3_stepToNextOrder 24 = .ok (.iadd, 1) := by decide +kernel
theorem dX3_stepToNextOrder_25 : decode cX3_stepToNextOrder 25 = .ok (.iaload, 1) := by decide +kernel
theorem dX3_stepToNextOrder_26 : decode cX3_stepToNextOrder 26 = .ok (.if_icmp .le 9, 3) := by decide +kernel
theorem dX3_stepToNextOrder_29 : decode cX3_stepToNextOrder 29 = .ok (.iinc 3 (-1), 3) := by decide +kernel
theorem dX3_stepToNextOrder_32 : decode cX3_stepToNextOrder 32 = .ok (.goto (-24), 3) := by decide +kernel
theorem dX3_stepToNextOrder_35 : decode cX3_stepToNextOrder 35 = .ok (.iload_n 3, 1) := by decide +kernel
theorem dX3_stepToNextOrder_36 : decode cX3_stepToNextOrder 36 = .ok (.ifCond .ge 5, 3) := by decide +kernel
theorem dX3_stepToNextOrder_39 : decode cX3_stepToNextOrder 39 = .ok (.iconst 0, 1) := by decide +kernel
theorem dX3_stepToNextOrder_40 : decode cX3_stepToNextOrder 40 = .ok (.ireturn, 1) := by decide +kernel
theorem dX3_stepToNextOrder_41 : decode cX3_stepToNextOrder 41 = .ok (.iload_n 2, 1) := by decide +kernel
theorem dX3_stepToNextOrder_42 : decode cX3_stepToNextOrder 42 = .ok (.istore 4, 2) := by decide +kernel
theorem dX3_stepToNextOrder_44 : decode cX3_stepToNextOrder 44 = .ok (.iload 4, 2) := by decide +kernel
theorem dX3_stepToNextOrder_46 : decode cX3_stepToNextOrder 46 = .ok (.iload_n 3, 1) := by decide +kernel
theorem dX3_stepToNextOrder_47 : decode cX3_stepToNextOrder 47 = .ok (.if_icmp .le 25, 3) := by decide +kernel
theorem dX3_stepToNextOrder_50 : decode cX3_stepToNextOrder 50 = .ok (.aload_n 0, 1) := by decide +kernel
theorem dX3_stepToNextOrder_51 : decode cX3_stepToNextOrder 51 = .ok (.getfield 25, 3) := by decide +kernel
theorem dX3_stepToNextOrder_54 : decode cX3_stepToNextOrder 54 = .ok (.iload 4, 2) := by decide +kernel
theorem dX3_stepToNextOrder_56 : decode cX3_stepToNextOrder 56 = .ok (.iaload, 1) := by decide +kernel
theorem dX3_stepToNextOrder_57 : decode cX3_stepToNextOrder 57 = .ok (.aload_n 0, 1) := by decide +kernel
theorem dX3_stepToNextOrder_58 : decode cX3_stepToNextOrder 58 = .ok (.getfield 25, 3) := by decide +kernel
theorem dX3_stepToNextOrder_61 : decode cX3_stepToNextOrder 61 = .ok (.iload_n 3, 1) := by decide +kernel
theorem dX3_stepToNextOrder_62 : decode cX3_stepToNextOrder 62 = .ok (.iaload, 1) := by decide +kernel
theorem dX3_stepToNextOrder_63 : decode cX3_stepToNextOrder 63 = .ok (.if_icmp .ge 9, 3) := by decide +kernel
theorem dX3_stepToNextOrder_66 : decode cX3_stepToNextOrder 66 = .ok (.iinc 4 (-1), 3) := by decide +kernel
theorem dX3_stepToNextOrder_69 : decode cX3_stepToNextOrder 69 = .ok (.goto (-25), 3) := by decide +kernel
theorem dX3_stepToNextOrder_72 : decode cX3_stepToNextOrder 72 = .ok (.aload_n 0, 1) := by decide +kernel
theorem dX3_stepToNextOrder_73 : decode cX3_stepToNextOrder 73 = .ok (.iload_n 3, 1) := by decide +kernel
theorem dX3_stepToNextOrder_74 : decode cX3_stepToNextOrder 74 = .ok (.iload 4, 2) := by decide +kernel
theorem dX3_stepToNextOrder_76 : decode cX3_stepToNextOrder 76 = .ok (.invokevirtual 128, 3) := by decide +kernel
theorem dX3_stepToNextOrder_79 : decode cX3_stepToNextOrder 79 = .ok (.iload_n 3, 1) := by decide +kernel
theorem dX3_stepToNextOrder_80 : decode cX3_stepToNextOrder 80 = .ok (.iconst 1, 1) := by decide +kernel
theorem dX3_stepToNextOrder_81 : decode cX3_stepToNextOrder 81 = .ok (.iadd, 1) := by decide +kernel
theorem dX3_stepToNextOrder_82 : decode cX3_stepToNextOrder 82 = .ok (.istore 5, 2) := by decide +kernel
theorem dX3_stepToNextOrder_84 : decode cX3_stepToNextOrder 84 = .ok (.iload_n 2, 1) := by decide +kernel
theorem dX3_stepToNextOrder_85 : decode cX3_stepToNextOrder 85 = .ok (.istore 6, 2) := by decide +kernel
theorem dX3_stepToNextOrder_87 : decode cX3_stepToNextOrder 87 = .ok (.iload 5, 2) := by decide +kernel
theorem dX3_stepToNextOrder_89 : decode cX3_stepToNextOrder 89 = .ok (.iload 6, 2) := by decide +kernel
theorem dX3_stepToNextOrder_91 : decode cX3_stepToNextOrder 91 = .ok (.if_icmp .ge 20, 3) := by decide +kernel
theorem dX3_stepToNextOrder_94 : decode cX3_stepToNextOrder 94 = .ok (.aload_n 0, 1) := by decide +kernel
theorem dX3_stepToNextOrder_95 : decode cX3_stepToNextOrder 95 = .ok (.iload 5, 2) := by decide +kernel
theorem dX3_stepToNextOrder_97 : decode cX3_stepToNextOrder 97 = .ok (.iload 6, 2) := by decide +kernel
theorem dX3_stepToNextOrder_99 : decode cX3_stepToNextOrder 99 = .ok (.invokevirtual 128, 3) := by decide +kernel
theorem dX3_stepToNextOrder_102 : decode cX3_stepToNextOrder 102 = .ok (.iinc 5 1, 3) := by decide +kernel
theorem dX3_stepToNextOrder_105 : decode cX3_stepToNextOrder 105 = .ok (.iinc 6 (-1), 3) := by decide +kernel
theorem dX3_stepToNextOrder_108 : decode cX3_stepToNextOrder 108 = .ok (.goto (-21), 3) := by decide +kernel
theorem dX3_stepToNextOrder_111 : decode cX3_stepToNextOrder 111 = .ok (.iconst 1, 1) := by decide +kernel
theorem dX3_stepToNextOrder_112 : decode cX3_stepToNextOrder 112 = .ok (.ireturn, 1) := by decide +kernel
theorem dX3_swapTried_0 : decode cX3_swapTried 0 = .ok (.aload_n 0, 1) := by decide +kernel
theorem dX3_swapTried_1 : decode cX3_swapTried 1 = .ok (.getfield 25, 3) := by decide +kernel
theorem dX3_swapTried_4 : decode cX3_swapTried 4 = .ok (.iload_n 1, 1) := by decide +kernel
theorem dX3_swapTried_5 : decode cX3_swapTried 5 = .ok (.iaload, 1) := by decide +kernel
theorem dX3_swapTried_6 : decode cX3_swapTried 6 = .ok (.istore_n 3, 1) := by decide +kernel
theorem dX3_swapTried_7 : decode cX3_swapTried 7 = .ok (.aload_n 0, 1) := by decide +kernel
theorem dX3_swapTried_8 : decode cX3_swapTried 8 = .ok (.getfield 25, 3) := by decide +kernel
theorem dX3_swapTried_11 : decode cX3_swapTried 11 = .ok (.iload_n 1, 1) := by decide +kernel
theorem dX3_swapTried_12 : decode cX3_swapTried 12 = .ok (.aload_n 0, 1) := by decide +kernel
theorem dX3_swapTried_13 : decode cX3_swapTried 13 = .ok (.getfield 25, 3) := by decide +kernel
theorem dX3_swapTried_16 : decode cX3_swapTried 16 = .ok (.iload_n 2, 1) := by decide +kernel
theorem dX3_swapTried_17 : decode cX3_swapTried 17 = .ok (.iaload, 1) := by decide +kernel
theorem dX3_swapTried_18 : decode cX3_swapTried 18 = .ok (.iastore, 1) := by decide +kernel
theorem dX3_swapTried_19 : decode cX3_swapTried 19 = .ok (.aload_n 0, 1) := by decide +kernel
theorem dX3_swapTried_20 : decode cX3_swapTried 20 = .ok (.getfield 25, 3) := by decide +kernel
theorem dX3_swapTried_23 : decode cX3_swapTried 23 = .ok (.iload_n 2, 1) := by decide +kernel
theorem dX3_swapTried_24 : decode cX3_swapTried 24 = .ok (.iload_n 3, 1) := by decide +kernel
theorem dX3_swapTried_25 : decode cX3_swapTried 25 = .ok (.iastore, 1) := by decide +kernel
theorem dX3_swapTried_26 : decode cX3_swapTried 26 = .ok (.return_, 1) := by decide +kernel
theorem dX3_playTurns_0 : decode cX3_playTurns 0 = .ok (.iconst 1, 1) := by decide +kernel
theorem dX3_playTurns_1 : decode cX3_playTurns 1 = .ok (.aload_n 1, 1) := by decide +kernel
theorem dX3_playTurns_2 : decode cX3_playTurns 2 = .ok (.getfield 131, 3) := by decide +kernel
theorem dX3_playTurns_5 : decode cX3_playTurns 5 = .ok (.ishl, 1) := by decide +kernel
theorem dX3_playTurns_6 : decode cX3_playTurns 6 = .ok (.istore 4, 2) := by decide +kernel
theorem dX3_playTurns_8 : decode cX3_playTurns 8 = .ok (.aload_n 0, 1) := by decide +kernel
theorem dX3_playTurns_9 : decode cX3_playTurns 9 = .ok (.aload_n 1, 1) := by decide +kernel
theorem dX3_playTurns_10 : decode cX3_playTurns 10 = .ok (.iload 4, 2) := by decide +kernel
theorem dX3_playTurns_12 : decode cX3_playTurns 12 = .ok (.iload_n 2, 1) := by decide +kernel
theorem dX3_playTurns_13 : decode cX3_playTurns 13 = .ok (.iload_n 3, 1) := by decide +kernel
theorem dX3_playTurns_14 : decode cX3_playTurns 14 = .ok (.invokevirtual 134, 3) := by decide +kernel
theorem dX3_playTurns_17 : decode cX3_playTurns 17 = .ok (.iload_n 2, 1) := by decide +kernel
theorem dX3_playTurns_18 : decode cX3_playTurns 18 = .ok (.iconst 1, 1) := by decide +kernel
theorem dX3_playTurns_19 : decode cX3_playTurns 19 = .ok (.isub, 1) := by decide +kernel
theorem dX3_playTurns_20 : decode cX3_playTurns 20 = .ok (.istore 5, 2) := by decide +kernel
theorem dX3_playTurns_22 : decode cX3_playTurns 22 = .ok (.iload 5, 2) := by decide +kernel
theorem dX3_playTurns_24 : decode cX3_playTurns 24 = .ok (.ifCond .lt 21, 3) := by decide +kernel
theorem dX3_playTurns_27 : decode cX3_playTurns 27 = .ok (.aload_n 0, 1) := by decide +kernel
theorem dX3_playTurns_28 : decode cX3_playTurns 28 = .ok (.aload_n 1, 1) := by decide +kernel
theorem dX3_playTurns_29 : decode cX3_playTurns 29 = .ok (.getfield 131, 3) := by decide +kernel
theorem dX3_playTurns_32 : decode cX3_playTurns 32 = .ok (.iload 4, 2) := by decide +kernel
theorem dX3_playTurns_34 : decode cX3_playTurns 34 = .ok (.iload 5, 2) := by decide +kernel
theorem dX3_playTurns_36 : decode cX3_playTurns 36 = .ok (.invokevirtual 138, 3) := by decide +kernel
theorem dX3_playTurns_39 : decode cX3_playTurns 39 = .ok (.iinc 5 (-1), 3) := by decide +kernel
theorem dX3_playTurns_42 : decode cX3_playTurns 42 = .ok (.goto (-20), 3) := by decide +kernel
theorem dX3_playTurns_45 : decode cX3_playTurns 45 = .ok (.aload_n 0, 1) := by decide +kernel
theorem dX3_playTurns_46 : decode cX3_playTurns 46 = .ok (.getfield 18, 3) := by decide +kernel
theorem dX3_playTurns_49 : decode cX3_playTurns 49 = .ok (.iconst 0, 1) := by decide +kernel
theorem dX3_playTurns_50 : decode cX3_playTurns 50 = .ok (.iaload, 1) := by decide +kernel
theorem dX3_playTurns_51 : decode cX3_playTurns 51 = .ok (.ireturn, 1) := by decide +kernel
theorem dX3_weighSets_0 : decode cX3_weighSets 0 = .ok (.aload_n 1, 1) := by decide +kernel
theorem dX3_weighSets_1 : decode cX3_weighSets 1 = .ok (.invokevirtual 70, 3) := by decide +kernel
theorem dX3_weighSets_4 : decode cX3_weighSets 4 = .ok (.istore 5, 2) := by decide +kernel
theorem dX3_weighSets_6 : decode cX3_weighSets 6 = .ok (.iconst 0, 1) := by decide +kernel
theorem dX3_weighSets_7 : decode cX3_weighSets 7 = .ok (.istore 6, 2) := by decide +kernel
theorem dX3_weighSets_9 : decode cX3_weighSets 9 = .ok (.iload 6, 2) := by decide +kernel
theorem dX3_weighSets_11 : decode cX3_weighSets 11 = .ok (.iload_n 2, 1) := by decide +kernel
theorem dX3_weighSets_12 : decode cX3_weighSets 12 = .ok (.if_icmp .ge 97, 3) := by decide +kernel
theorem dX3_weighSets_15 : decode cX3_weighSets 15 = .ok (.iload 6, 2) := by decide +kernel
theorem dX3_weighSets_17 : decode cX3_weighSets 17 = .ok (.iload 5, 2) := by decide +kernel
theorem dX3_weighSets_19 : decode cX3_weighSets 19 = .ok (.iconst (-1), 1) := by decide +kernel
theorem dX3_weighSets_20 : decode cX3_weighSets 20 = .ok (.ixor, 1) := by decide +kernel
theorem dX3_weighSets_21 : decode cX3_weighSets 21 = .ok (.iand, 1) := by decide +kernel
theorem dX3_weighSets_22 : decode cX3_weighSets 22 = .ok (.ifCond .eq 23, 3) := by decide +kernel
theorem dX3_weighSets_25 : decode cX3_weighSets 25 = .ok (.aload_n 0, 1) := by decide +kernel
theorem dX3_weighSets_26 : decode cX3_weighSets 26 = .ok (.getfield 18, 3) := by decide +kernel
theorem dX3_weighSets_29 : decode cX3_weighSets 29 = .ok (.iload 6, 2) := by decide +kernel
theorem dX3_weighSets_31 : decode cX3_weighSets 31 = .ok (.aload_n 0, 1) := by decide +kernel
theorem dX3_weighSets_32 : decode cX3_weighSets 32 = .ok (.getfield 18, 3) := by decide +kernel
theorem dX3_weighSets_35 : decode cX3_weighSets 35 = .ok (.iload 6, 2) := by decide +kernel
theorem dX3_weighSets_37 : decode cX3_weighSets 37 = .ok (.iload 5, 2) := by decide +kernel
theorem dX3_weighSets_39 : decode cX3_weighSets 39 = .ok (.iand, 1) := by decide +kernel
theorem dX3_weighSets_40 : decode cX3_weighSets 40 = .ok (.iaload, 1) := by decide +kernel
theorem dX3_weighSets_41 : decode cX3_weighSets 41 = .ok (.iastore, 1) := by decide +kernel
theorem dX3_weighSets_42 : decode cX3_weighSets 42 = .ok (.goto 61, 3) := by decide +kernel
theorem dX3_weighSets_45 : decode cX3_weighSets 45 = .ok (.iload 6, 2) := by decide +kernel
theorem dX3_weighSets_47 : decode cX3_weighSets 47 = .ok (.invokestatic 85, 3) := by decide +kernel
theorem dX3_weighSets_50 : decode cX3_weighSets 50 = .ok (.iload_n 3, 1) := by decide +kernel
theorem dX3_weighSets_51 : decode cX3_weighSets 51 = .ok (.if_icmp .gt 52, 3) := by decide +kernel
theorem dX3_weighSets_54 : decode cX3_weighSets 54 = .ok (.aload_n 0, 1) := by decide +kernel
theorem dX3_weighSets_55 : decode cX3_weighSets 55 = .ok (.getfield 12, 3) := by decide +kernel
theorem dX3_weighSets_58 : decode cX3_weighSets 58 = .ok (.aload_n 1, 1) := by decide +kernel
theorem dX3_weighSets_59 : decode cX3_weighSets 59 = .ok (.invokevirtual 51, 3) := by decide +kernel
theorem dX3_weighSets_62 : decode cX3_weighSets 62 = .ok (.aload_n 0, 1) := by decide +kernel
theorem dX3_weighSets_63 : decode cX3_weighSets 63 = .ok (.getfield 12, 3) := by decide +kernel
theorem dX3_weighSets_66 : decode cX3_weighSets 66 = .ok (.iload 6, 2) := by decide +kernel
theorem dX3_weighSets_68 : decode cX3_weighSets 68 = .ok (.invokevirtual 74, 3) := by decide +kernel
theorem dX3_weighSets_71 : decode cX3_weighSets 71 = .ok (.aload_n 0, 1) := by decide +kernel
theorem dX3_weighSets_72 : decode cX3_weighSets 72 = .ok (.iload 4, 2) := by decide +kernel
theorem dX3_weighSets_74 : decode cX3_weighSets 74 = .ok (.invokevirtual 55, 3) := by decide +kernel
theorem dX3_weighSets_77 : decode cX3_weighSets 77 = .ok (.aload_n 0, 1) := by decide +kernel
theorem dX3_weighSets_78 : decode cX3_weighSets 78 = .ok (.getfield 18, 3) := by decide +kernel
theorem dX3_weighSets_81 : decode cX3_weighSets 81 = .ok (.iload 6, 2) := by decide +kernel
theorem dX3_weighSets_83 : decode cX3_weighSets 83 = .ok (.aload_n 0, 1) := by decide +kernel
theorem dX3_weighSets_84 : decode cX3_weighSets 84 = .ok (.getfield 12, 3) := by decide +kernel
theorem dX3_weighSets_87 : decode cX3_weighSets 87 = .ok (.bipush 9, 2) := by decide +kernel
theorem dX3_weighSets_89 : decode cX3_weighSets 89 = .ok (.invokevirtual 77, 3) := by decide +kernel
theorem dX3_weighSets_92 : decode cX3_weighSets 92 = .ok (.aload_n 0, 1) := by decide +kernel
theorem dX3_weighSets_93 : decode cX3_weighSets 93 = .ok (.getfield 12, 3) := by decide +kernel
theorem dX3_weighSets_96 : decode cX3_weighSets 96 = .ok (.bipush 8, 2) := by decide +kernel
theorem dX3_weighSets_98 : decode cX3_weighSets 98 = .ok (.invokevirtual 77, 3) := by decide +kernel
theorem dX3_weighSets_101 : decode cX3_weighSets 101 = .ok (.isub, 1) := by decide +kernel
theorem dX3_weighSets_102 : decode cX3_weighSets 102 = .ok (.iastore, 1) := by decide +kernel
theorem dX3_weighSets_103 : decode cX3_weighSets 103 = .ok (.iinc 6 1, 3) := by decide +kernel
theorem dX3_weighSets_106 : decode cX3_weighSets 106 = .ok (.goto (-97), 3) := by decide +kernel
theorem dX3_weighSets_109 : decode cX3_weighSets 109 = .ok (.return_, 1) := by decide +kernel
theorem dX3_playTurn_0 : decode cX3_playTurn 0 = .ok (.iload_n 3, 1) := by decide +kernel
theorem dX3_playTurn_1 : decode cX3_playTurn 1 = .ok (.iconst 2, 1) := by decide +kernel
theorem dX3_playTurn_2 : decode cX3_playTurn 2 = .ok (.irem, 1) := by decide +kernel
theorem dX3_playTurn_3 : decode cX3_playTurn 3 = .ok (.ifCond .ne 7, 3) := by decide +kernel
theorem dX3_playTurn_6 : decode cX3_playTurn 6 = .ok (.iconst 1, 1) := by decide +kernel
theorem dX3_playTurn_7 : decode cX3_playTurn 7 = .ok (.goto 4, 3) := by decide +kernel
theorem dX3_playTurn_10 : decode cX3_playTurn 10 = .ok (.iconst 0, 1) := by decide +kernel
theorem dX3_playTurn_11 : decode cX3_playTurn 11 = .ok (.istore 4, 2) := by decide +kernel
theorem dX3_playTurn_13 : decode cX3_playTurn 13 = .ok (.iconst 0, 1) := by decide +kernel
theorem dX3_playTurn_14 : decode cX3_playTurn 14 = .ok (.istore 5, 2) := by decide +kernel
theorem dX3_playTurn_16 : decode cX3_playTurn 16 = .ok (.iload 5, 2) := by decide +kernel
theorem dX3_playTurn_18 : decode cX3_playTurn 18 = .ok (.iload_n 2, 1) := by decide +kernel
theorem dX3_playTurn_19 : decode cX3_playTurn 19 = .ok (.if_icmp .ge 89, 3) := by decide +kernel
theorem dX3_playTurn_22 : decode cX3_playTurn 22 = .ok (.aload_n 0, 1) := by decide +kernel
theorem dX3_playTurn_23 : decode cX3_playTurn 23 = .ok (.getfield 18, 3) := by decide +kernel
theorem dX3_playTurn_26 : decode cX3_playTurn 26 = .ok (.iload 5, 2) := by decide +kernel
theorem dX3_playTurn_28 : decode cX3_playTurn 28 = .ok (.iaload, 1) := by decide +kernel
theorem dX3_playTurn_29 : decode cX3_playTurn 29 = .ok (.istore 6, 2) := by decide +kernel
theorem dX3_playTurn_31 : decode cX3_playTurn 31 = .ok (.iconst 0, 1) := by decide +kernel
theorem dX3_playTurn_32 : decode cX3_playTurn 32 = .ok (.istore 7, 2) := by decide +kernel
theorem dX3_playTurn_34 : decode cX3_playTurn 34 = .ok (.iload 7, 2) := by decide +kernel
theorem dX3_playTurn_36 : decode cX3_playTurn 36 = .ok (.iload_n 1, 1) := by decide +kernel
theorem dX3_playTurn_37 : decode cX3_playTurn 37 = .ok (.if_icmp .ge 56, 3) := by decide +kernel
theorem dX3_playTurn_40 : decode cX3_playTurn 40 = .ok (.iload 5, 2) := by decide +kernel
theorem dX3_playTurn_42 : decode cX3_playTurn 42 = .ok (.invokestatic 85, 3) := by decide +kernel
theorem dX3_playTurn_45 : decode cX3_playTurn 45 = .ok (.iload_n 3, 1) := by decide +kernel
theorem dX3_playTurn_46 : decode cX3_playTurn 46 = .ok (.if_icmp .gt 47, 3) := by decide +kernel
theorem dX3_playTurn_49 : decode cX3_playTurn 49 = .ok (.aload_n 0, 1) := by decide +kernel
theorem dX3_playTurn_50 : decode cX3_playTurn 50 = .ok (.getfield 18, 3) := by decide +kernel
theorem dX3_playTurn_53 : decode cX3_playTurn 53 = .ok (.iload 5, 2) := by decide +kernel
theorem dX3_playTurn_55 : decode cX3_playTurn 55 = .ok (.iconst 1, 1) := by decide +kernel
theorem dX3_playTurn_56 : decode cX3_playTurn 56 = .ok (.iload 7, 2) := by decide +kernel
theorem dX3_playTurn_58 : decode cX3_playTurn 58 = .ok (.ishl, 1) := by decide +kernel
theorem dX3_playTurn_59 : decode cX3_playTurn 59 = .ok (.ixor, 1) := by decide +kernel
theorem dX3_playTurn_60 : decode cX3_playTurn 60 = .ok (.iaload, 1) := by decide +kernel
theorem dX3_playTurn_61 : decode cX3_playTurn 61 = .ok (.istore 8, 2) := by decide +kernel
theorem dX3_playTurn_63 : decode cX3_playTurn 63 = .ok (.iload 4, 2) := by decide +kernel
theorem dX3_playTurn_65 : decode cX3_playTurn 65 = .ok (.ifCond .eq 13, 3) := by decide +kernel
theorem dX3_playTurn_68 : decode cX3_playTurn 68 = .ok (.iload 6, 2) := by decide +kernel
theorem dX3_playTurn_70 : decode cX3_playTurn 70 = .ok (.iload 8, 2) := by decide +kernel
theorem dX3_playTurn_72 : decode cX3_playTurn 72 = .ok (.invokestatic 142, 3) := by decide +kernel
theorem dX3_playTurn_75 : decode cX3_playTurn 75 = .ok (.goto 10, 3) := by decide +kernel
theorem dX3_playTurn_78 : decode cX3_playTurn 78 = .ok (.iload 6, 2) := by decide +kernel
theorem dX3_playTurn_80 : decode cX3_playTurn 80 = .ok (.iload 8, 2) := by decide +kernel
theorem dX3_playTurn_82 : decode cX3_playTurn 82 = .ok (.invokestatic 148, 3) := by decide +kernel
theorem dX3_playTurn_85 : decode cX3_playTurn 85 = .ok (.istore 6, 2) := by decide +kernel
theorem dX3_playTurn_87 : decode cX3_playTurn 87 = .ok (.iinc 7 1, 3) := by decide +kernel
theorem dX3_playTurn_90 : decode cX3_playTurn 90 = .ok (.goto (-56), 3) := by decide +kernel
theorem dX3_playTurn_93 : decode cX3_playTurn 93 = .ok (.aload_n 0, 1) := by decide +kernel
theorem dX3_playTurn_94 : decode cX3_playTurn 94 = .ok (.getfield 22, 3) := by decide +kernel
theorem dX3_playTurn_97 : decode cX3_playTurn 97 = .ok (.iload 5, 2) := by decide +kernel
theorem dX3_playTurn_99 : decode cX3_playTurn 99 = .ok (.iload 6, 2) := by decide +kernel
theorem dX3_playTurn_101 : decode cX3_playTurn 101 = .ok (.iastore, 1) := by decide +kernel
theorem dX3_playTurn_102 : decode cX3_playTurn 102 = .ok (.iinc 5 1, 3) := by decide +kernel
theorem dX3_playTurn_105 : decode cX3_playTurn 105 = .ok (.goto (-89), 3) := by decide +kernel
theorem dX3_playTurn_108 : decode cX3_playTurn 108 = .ok (.aload_n 0, 1) := by decide +kernel
theorem dX3_playTurn_109 : decode cX3_playTurn 109 = .ok (.getfield 22, 3) := by decide +kernel
theorem dX3_playTurn_112 : decode cX3_playTurn 112 = .ok (.iconst 0, 1) := by decide +kernel
theorem dX3_playTurn_113 : decode cX3_playTurn 113 = .ok (.aload_n 0, 1) := by decide +kernel
theorem dX3_playTurn_114 : decode cX3_playTurn 114 = .ok (.getfield 18, 3) := by decide +kernel
theorem dX3_playTurn_117 : decode cX3_playTurn 117 = .ok (.iconst 0, 1) := by decide +kernel
theorem dX3_playTurn_118 : decode cX3_playTurn 118 = .ok (.iload_n 2, 1) := by decide +kernel
theorem dX3_playTurn_119 : decode cX3_playTurn 119 = .ok (.invokestatic 122, 3) := by decide +kernel
theorem dX3_playTurn_122 : decode cX3_playTurn 122 = .ok (.return_, 1) := by decide +kernel
theorem dX3_watch_0 : decode cX3_watch 0 = .ok (.aload_n 0, 1) := by decide +kernel
theorem dX3_watch_1 : decode cX3_watch 1 = .ok (.aload_n 1, 1) := by decide +kernel
theorem dX3_watch_2 : decode cX3_watch 2 = .ok (.putfield 34, 3) := by decide +kernel
theorem dX3_watch_5 : decode cX3_watch 5 = .ok (.aload_n 0, 1) := by decide +kernel
theorem dX3_watch_6 : decode cX3_watch 6 = .ok (.iload_n 2, 1) := by decide +kernel
theorem dX3_watch_7 : decode cX3_watch 7 = .ok (.putfield 37, 3) := by decide +kernel
theorem dX3_watch_10 : decode cX3_watch 10 = .ok (.aload_n 0, 1) := by decide +kernel
theorem dX3_watch_11 : decode cX3_watch 11 = .ok (.iload_n 3, 1) := by decide +kernel
theorem dX3_watch_12 : decode cX3_watch 12 = .ok (.putfield 41, 3) := by decide +kernel
theorem dX3_watch_15 : decode cX3_watch 15 = .ok (.return_, 1) := by decide +kernel
theorem dX3_fits_0 : decode cX3_fits 0 = .ok (.aload_n 0, 1) := by decide +kernel
theorem dX3_fits_1 : decode cX3_fits 1 = .ok (.getfield 34, 3) := by decide +kernel
theorem dX3_fits_4 : decode cX3_fits 4 = .ok (.ifnonnull 5, 3) := by decide +kernel
theorem dX3_fits_7 : decode cX3_fits 7 = .ok (.iconst 0, 1) := by decide +kernel
theorem dX3_fits_8 : decode cX3_fits 8 = .ok (.ireturn, 1) := by decide +kernel
theorem dX3_fits_9 : decode cX3_fits 9 = .ok (.iconst 0, 1) := by decide +kernel
theorem dX3_fits_10 : decode cX3_fits 10 = .ok (.istore_n 1, 1) := by decide +kernel
theorem dX3_fits_11 : decode cX3_fits 11 = .ok (.iload_n 1, 1) := by decide +kernel
theorem dX3_fits_12 : decode cX3_fits 12 = .ok (.aload_n 0, 1) := by decide +kernel
theorem dX3_fits_13 : decode cX3_fits 13 = .ok (.getfield 41, 3) := by decide +kernel
theorem dX3_fits_16 : decode cX3_fits 16 = .ok (.if_icmp .ge 54, 3) := by decide +kernel
theorem dX3_fits_19 : decode cX3_fits 19 = .ok (.aload_n 0, 1) := by decide +kernel
theorem dX3_fits_20 : decode cX3_fits 20 = .ok (.getfield 12, 3) := by decide +kernel
theorem dX3_fits_23 : decode cX3_fits 23 = .ok (.invokevirtual 63, 3) := by decide +kernel
theorem dX3_fits_26 : decode cX3_fits 26 = .ok (.aload_n 0, 1) := by decide +kernel
theorem dX3_fits_27 : decode cX3_fits 27 = .ok (.getfield 34, 3) := by decide +kernel
theorem dX3_fits_30 : decode cX3_fits 30 = .ok (.aload_n 0, 1) := by decide +kernel
theorem dX3_fits_31 : decode cX3_fits 31 = .ok (.getfield 37, 3) := by decide +kernel
theorem dX3_fits_34 : decode cX3_fits 34 = .ok (.iload_n 1, 1) := by decide +kernel
theorem dX3_fits_35 : decode cX3_fits 35 = .ok (.iadd, 1) := by decide +kernel
theorem dX3_fits_36 : decode cX3_fits 36 = .ok (.iaload, 1) := by decide +kernel
theorem dX3_fits_37 : decode cX3_fits 37 = .ok (.aload_n 0, 1) := by decide +kernel
theorem dX3_fits_38 : decode cX3_fits 38 = .ok (.getfield 12, 3) := by decide +kernel
theorem dX3_fits_41 : decode cX3_fits 41 = .ok (.bipush 8, 2) := by decide +kernel
theorem dX3_fits_43 : decode cX3_fits 43 = .ok (.invokevirtual 77, 3) := by decide +kernel
theorem dX3_fits_46 : decode cX3_fits 46 = .ok (.bipush 10, 2) := by decide +kernel
theorem dX3_fits_48 : decode cX3_fits 48 = .ok (.aload_n 0, 1) := by decide +kernel
theorem dX3_fits_49 : decode cX3_fits 49 = .ok (.getfield 12, 3) := by decide +kernel
theorem dX3_fits_52 : decode cX3_fits 52 = .ok (.bipush 9, 2) := by decide +kernel
theorem dX3_fits_54 : decode cX3_fits 54 = .ok (.invokevirtual 77, 3) := by decide +kernel
theorem dX3_fits_57 : decode cX3_fits 57 = .ok (.imul, 1) := by decide +kernel
theorem dX3_fits_58 : decode cX3_fits 58 = .ok (.iadd, 1) := by decide +kernel
theorem dX3_fits_59 : decode cX3_fits 59 = .ok (.if_icmp .eq 5, 3) := by decide +kernel
theorem dX3_fits_62 : decode cX3_fits 62 = .ok (.iconst 0, 1) := by decide +kernel
theorem dX3_fits_63 : decode cX3_fits 63 = .ok (.ireturn, 1) := by decide +kernel
theorem dX3_fits_64 : decode cX3_fits 64 = .ok (.iinc 1 1, 3) := by decide +kernel
theorem dX3_fits_67 : decode cX3_fits 67 = .ok (.goto (-56), 3) := by decide +kernel
theorem dX3_fits_70 : decode cX3_fits 70 = .ok (.iconst 1, 1) := by decide +kernel
theorem dX3_fits_71 : decode cX3_fits 71 = .ok (.ireturn, 1) := by decide +kernel
theorem dX3_bitIfFit_0 : decode cX3_bitIfFit 0 = .ok (.aload_n 0, 1) := by decide +kernel
theorem dX3_bitIfFit_1 : decode cX3_bitIfFit 1 = .ok (.invokevirtual 151, 3) := by decide +kernel
theorem dX3_bitIfFit_4 : decode cX3_bitIfFit 4 = .ok (.ifCond .eq 9, 3) := by decide +kernel
theorem dX3_bitIfFit_7 : decode cX3_bitIfFit 7 = .ok (.iconst 1, 1) := by decide +kernel
theorem dX3_bitIfFit_8 : decode cX3_bitIfFit 8 = .ok (.iload_n 1, 1) := by decide +kernel
theorem dX3_bitIfFit_9 : decode cX3_bitIfFit 9 = .ok (.ishl, 1) := by decide +kernel
theorem dX3_bitIfFit_10 : decode cX3_bitIfFit 10 = .ok (.goto 4, 3) := by decide +kernel
theorem dX3_bitIfFit_13 : decode cX3_bitIfFit 13 = .ok (.iconst 0, 1) := by decide +kernel
theorem dX3_bitIfFit_14 : decode cX3_bitIfFit 14 = .ok (.ireturn, 1) := by decide +kernel
theorem dX3_kindsThatFit_0 : decode cX3_kindsThatFit 0 = .ok (.iconst 0, 1) := by decide +kernel
theorem dX3_kindsThatFit_1 : decode cX3_kindsThatFit 1 = .ok (.istore_n 3, 1) := by decide +kernel
theorem dX3_kindsThatFit_2 : decode cX3_kindsThatFit 2 = .ok (.iconst 1, 1) := by decide +kernel
theorem dX3_kindsThatFit_3 : decode cX3_kindsThatFit 3 = .ok (.istore 4, 2) := by decide +kernel
theorem dX3_kindsThatFit_5 : decode cX3_kindsThatFit 5 = .ok (.iload 4, 2) := by decide +kernel
theorem dX3_kindsThatFit_7 : decode cX3_kindsThatFit 7 = .ok (.iconst 5, 1) := by decide +kernel
theorem dX3_kindsThatFit_8 : decode cX3_kindsThatFit 8 = .ok (.if_icmp .gt 37, 3) := by decide +kernel
theorem dX3_kindsThatFit_11 : decode cX3_kindsThatFit 11 = .ok (.aload_n 0, 1) := by decide +kernel
theorem dX3_kindsThatFit_12 : decode cX3_kindsThatFit 12 = .ok (.getfield 12, 3) := by decide +kernel
theorem dX3_kindsThatFit_15 : decode cX3_kindsThatFit 15 = .ok (.aload_n 1, 1) := by decide +kernel
theorem dX3_kindsThatFit_16 : decode cX3_kindsThatFit 16 = .ok (.invokevirtual 51, 3) := by decide +kernel
theorem dX3_kindsThatFit_19 : decode cX3_kindsThatFit 19 = .ok (.aload_n 0, 1) := by decide +kernel
theorem dX3_kindsThatFit_20 : decode cX3_kindsThatFit 20 = .ok (.getfield 12, 3) := by decide +kernel
theorem dX3_kindsThatFit_23 : decode cX3_kindsThatFit 23 = .ok (.getfield 154, 3) := by decide +kernel
theorem dX3_kindsThatFit_26 : decode cX3_kindsThatFit 26 = .ok (.iload_n 2, 1) := by decide +kernel
theorem dX3_kindsThatFit_27 : decode cX3_kindsThatFit 27 = .ok (.iload 4, 2) := by decide +kernel
theorem dX3_kindsThatFit_29 : decode cX3_kindsThatFit 29 = .ok (.iastore, 1) := by decide +kernel
theorem dX3_kindsThatFit_30 : decode cX3_kindsThatFit 30 = .ok (.iload_n 3, 1) := by decide +kernel
theorem dX3_kindsThatFit_31 : decode cX3_kindsThatFit 31 = .ok (.aload_n 0, 1) := by decide +kernel
theorem dX3_kindsThatFit_32 : decode cX3_kindsThatFit 32 = .ok (.iload 4, 2) := by decide +kernel
theorem dX3_kindsThatFit_34 : decode cX3_kindsThatFit 34 = .ok (.invokevirtual 157, 3) := by decide +kernel
theorem dX3_kindsThatFit_37 : decode cX3_kindsThatFit 37 = .ok (.ior, 1) := by decide +kernel
theorem dX3_kindsThatFit_38 : decode cX3_kindsThatFit 38 = .ok (.istore_n 3, 1) := by decide +kernel
theorem dX3_kindsThatFit_39 : decode cX3_kindsThatFit 39 = .ok (.iinc 4 1, 3) := by decide +kernel
theorem dX3_kindsThatFit_42 : decode cX3_kindsThatFit 42 = .ok (.goto (-37), 3) := by decide +kernel
theorem dX3_kindsThatFit_45 : decode cX3_kindsThatFit 45 = .ok (.iload_n 3, 1) := by decide +kernel
theorem dX3_kindsThatFit_46 : decode cX3_kindsThatFit 46 = .ok (.ireturn, 1) := by decide +kernel
theorem dX3_pointsThatFit_0 : decode cX3_pointsThatFit 0 = .ok (.iconst 0, 1) := by decide +kernel
theorem dX3_pointsThatFit_1 : decode cX3_pointsThatFit 1 = .ok (.istore_n 3, 1) := by decide +kernel
theorem dX3_pointsThatFit_2 : decode cX3_pointsThatFit 2 = .ok (.iconst 0, 1) := by decide +kernel
theorem dX3_pointsThatFit_3 : decode cX3_pointsThatFit 3 = .ok (.istore 4, 2) := by decide +kernel
theorem dX3_pointsThatFit_5 : decode cX3_pointsThatFit 5 = .ok (.iload 4, 2) := by decide +kernel
theorem dX3_pointsThatFit_7 : decode cX3_pointsThatFit 7 = .ok (.iconst 1, 1) := by decide +kernel
theorem dX3_pointsThatFit_8 : decode cX3_pointsThatFit 8 = .ok (.if_icmp .gt 37, 3) := by decide +kernel
theorem dX3_pointsThatFit_11 : decode cX3_pointsThatFit 11 = .ok (.aload_n 0, 1) := by decide +kernel
theorem dX3_pointsThatFit_12 : decode cX3_pointsThatFit 12 = .ok (.getfield 12, 3) := by decide +kernel
theorem dX3_pointsThatFit_15 : decode cX3_pointsThatFit 15 = .ok (.aload_n 1, 1) := by decide +kernel
theorem dX3_pointsThatFit_16 : decode cX3_pointsThatFit 16 = .ok (.invokevirtual 51, 3) := by decide +kernel
theorem dX3_pointsThatFit_19 : decode cX3_pointsThatFit 19 = .ok (.aload_n 0, 1) := by decide +kernel
theorem dX3_pointsThatFit_20 : decode cX3_pointsThatFit 20 = .ok (.getfield 12, 3) := by decide +kernel
theorem dX3_pointsThatFit_23 : decode cX3_pointsThatFit 23 = .ok (.getfield 160, 3) := by decide +kernel
theorem dX3_pointsThatFit_26 : decode cX3_pointsThatFit 26 = .ok (.iload_n 2, 1) := by decide +kernel
theorem dX3_pointsThatFit_27 : decode cX3_pointsThatFit 27 = .ok (.iload 4, 2) := by decide +kernel
theorem dX3_pointsThatFit_29 : decode cX3_pointsThatFit 29 = .ok (.iastore, 1) := by decide +kernel
theorem dX3_pointsThatFit_30 : decode cX3_pointsThatFit 30 = .ok (.iload_n 3, 1) := by decide +kernel
theorem dX3_pointsThatFit_31 : decode cX3_pointsThatFit 31 = .ok (.aload_n 0, 1) := by decide +kernel
theorem dX3_pointsThatFit_32 : decode cX3_pointsThatFit 32 = .ok (.iload 4, 2) := by decide +kernel
theorem dX3_pointsThatFit_34 : decode cX3_pointsThatFit 34 = .ok (.invokevirtual 157, 3) := by decide +kernel
theorem dX3_pointsThatFit_37 : decode cX3_pointsThatFit 37 = .ok (.ior, 1) := by decide +kernel
theorem dX3_pointsThatFit_38 : decode cX3_pointsThatFit 38 = .ok (.istore_n 3, 1) := by decide +kernel
theorem dX3_pointsThatFit_39 : decode cX3_pointsThatFit 39 = .ok (.iinc 4 1, 3) := by decide +kernel
theorem dX3_pointsThatFit_42 : decode cX3_pointsThatFit 42 = .ok (.goto (-37), 3) := by decide +kernel
theorem dX3_pointsThatFit_45 : decode cX3_pointsThatFit 45 = .ok (.iload_n 3, 1) := by decide +kernel
theorem dX3_pointsThatFit_46 : decode cX3_pointsThatFit 46 = .ok (.ireturn, 1) := by decide +kernel
theorem dX3_weightsThatFit_0 : decode cX3_weightsThatFit 0 = .ok (.iconst 0, 1) := by decide +kernel
theorem dX3_weightsThatFit_1 : decode cX3_weightsThatFit 1 = .ok (.istore_n 3, 1) := by decide +kernel
theorem dX3_weightsThatFit_2 : decode cX3_weightsThatFit 2 = .ok (.iconst 1, 1) := by decide +kernel
theorem dX3_weightsThatFit_3 : decode cX3_weightsThatFit 3 = .ok (.istore 4, 2) := by decide +kernel
theorem dX3_weightsThatFit_5 : decode cX3_weightsThatFit 5 = .ok (.iload 4, 2) := by decide +kernel
theorem dX3_weightsThatFit_7 : decode cX3_weightsThatFit 7 = .ok (.bipush 9, 2) := by decide +kernel
theorem dX3_weightsThatFit_9 : decode cX3_weightsThatFit 9 = .ok (.if_icmp .gt 37, 3) := by decide +kernel
theorem dX3_weightsThatFit_12 : decode cX3_weightsThatFit 12 = .ok (.aload_n 0, 1) := by decide +kernel
theorem dX3_weightsThatFit_13 : decode cX3_weightsThatFit 13 = .ok (.getfield 12, 3) := by decide +kernel
theorem dX3_weightsThatFit_16 : decode cX3_weightsThatFit 16 = .ok (.aload_n 1, 1) := by decide +kernel
theorem dX3_weightsThatFit_17 : decode cX3_weightsThatFit 17 = .ok (.invokevirtual 51, 3) := by decide +kernel
theorem dX3_weightsThatFit_20 : decode cX3_weightsThatFit 20 = .ok (.aload_n 0, 1) := by decide +kernel
theorem dX3_weightsThatFit_21 : decode cX3_weightsThatFit 21 = .ok (.getfield 12, 3) := by decide +kernel
theorem dX3_weightsThatFit_24 : decode cX3_weightsThatFit 24 = .ok (.getfield 113, 3) := by decide +kernel
theorem dX3_weightsThatFit_27 : decode cX3_weightsThatFit 27 = .ok (.iload_n 2, 1) := by decide +kernel
theorem dX3_weightsThatFit_28 : decode cX3_weightsThatFit 28 = .ok (.iload 4, 2) := by decide +kernel
theorem dX3_weightsThatFit_30 : decode cX3_weightsThatFit 30 = .ok (.iastore, 1) := by decide +kernel
theorem dX3_weightsThatFit_31 : decode cX3_weightsThatFit 31 = .ok (.iload_n 3, 1) := by decide +kernel
theorem dX3_weightsThatFit_32 : decode cX3_weightsThatFit 32 = .ok (.aload_n 0, 1) := by decide +kernel
theorem dX3_weightsThatFit_33 : decode cX3_weightsThatFit 33 = .ok (.iload 4, 2) := by decide +kernel
theorem dX3_weightsThatFit_35 : decode cX3_weightsThatFit 35 = .ok (.invokevirtual 157, 3) := by decide +kernel
theorem dX3_weightsThatFit_38 : decode cX3_weightsThatFit 38 = .ok (.ior, 1) := by decide +kernel
theorem dX3_weightsThatFit_39 : decode cX3_weightsThatFit 39 = .ok (.istore_n 3, 1) := by decide +kernel
theorem dX3_weightsThatFit_40 : decode cX3_weightsThatFit 40 = .ok (.iinc 4 1, 3) := by decide +kernel
theorem dX3_weightsThatFit_43 : decode cX3_weightsThatFit 43 = .ok (.goto (-38), 3) := by decide +kernel
theorem dX3_weightsThatFit_46 : decode cX3_weightsThatFit 46 = .ok (.iload_n 3, 1) := by decide +kernel
theorem dX3_weightsThatFit_47 : decode cX3_weightsThatFit 47 = .ok (.ireturn, 1) := by decide +kernel
theorem dX3_barsThatFit_0 : decode cX3_barsThatFit 0 = .ok (.iconst 0, 1) := by decide +kernel
theorem dX3_barsThatFit_1 : decode cX3_barsThatFit 1 = .ok (.istore_n 2, 1) := by decide +kernel
theorem dX3_barsThatFit_2 : decode cX3_barsThatFit 2 = .ok (.iconst 1, 1) := by decide +kernel
theorem dX3_barsThatFit_3 : decode cX3_barsThatFit 3 = .ok (.istore_n 3, 1) := by decide +kernel
theorem dX3_barsThatFit_4 : decode cX3_barsThatFit 4 = .ok (.iload_n 3, 1) := by decide +kernel
theorem dX3_barsThatFit_5 : decode cX3_barsThatFit 5 = .ok (.bipush 9, 2) := by decide +kernel
theorem dX3_barsThatFit_7 : decode cX3_barsThatFit 7 = .ok (.if_icmp .gt 33, 3) := by decide +kernel
theorem dX3_barsThatFit_10 : decode cX3_barsThatFit 10 = .ok (.aload_n 0, 1) := by decide +kernel
theorem dX3_barsThatFit_11 : decode cX3_barsThatFit 11 = .ok (.getfield 12, 3) := by decide +kernel
theorem dX3_barsThatFit_14 : decode cX3_barsThatFit 14 = .ok (.aload_n 1, 1) := by decide +kernel
theorem dX3_barsThatFit_15 : decode cX3_barsThatFit 15 = .ok (.invokevirtual 51, 3) := by decide +kernel
theorem dX3_barsThatFit_18 : decode cX3_barsThatFit 18 = .ok (.aload_n 0, 1) := by decide +kernel
theorem dX3_barsThatFit_19 : decode cX3_barsThatFit 19 = .ok (.getfield 12, 3) := by decide +kernel
theorem dX3_barsThatFit_22 : decode cX3_barsThatFit 22 = .ok (.iload_n 3, 1) := by decide +kernel
theorem dX3_barsThatFit_23 : decode cX3_barsThatFit 23 = .ok (.putfield 116, 3) := by decide +kernel
theorem dX3_barsThatFit_26 : decode cX3_barsThatFit 26 = .ok (.iload_n 2, 1) := by decide +kernel
theorem dX3_barsThatFit_27 : decode cX3_barsThatFit 27 = .ok (.aload_n 0, 1) := by decide +kernel
theorem dX3_barsThatFit_28 : decode cX3_barsThatFit 28 = .ok (.iload_n 3, 1) := by decide +kernel
theorem dX3_barsThatFit_29 : decode cX3_barsThatFit 29 = .ok (.invokevirtual 157, 3) := by decide +kernel
theorem dX3_barsThatFit_32 : decode cX3_barsThatFit 32 = .ok (.ior, 1) := by decide +kernel
theorem dX3_barsThatFit_33 : decode cX3_barsThatFit 33 = .ok (.istore_n 2, 1) := by decide +kernel
theorem dX3_barsThatFit_34 : decode cX3_barsThatFit 34 = .ok (.iinc 3 1, 3) := by decide +kernel
theorem dX3_barsThatFit_37 : decode cX3_barsThatFit 37 = .ok (.goto (-33), 3) := by decide +kernel
theorem dX3_barsThatFit_40 : decode cX3_barsThatFit 40 = .ok (.iload_n 2, 1) := by decide +kernel
theorem dX3_barsThatFit_41 : decode cX3_barsThatFit 41 = .ok (.ireturn, 1) := by decide +kernel
theorem dX3_jamCases_0 : decode cX3_jamCases 0 = .ok (.lconst 0, 1) := by decide +kernel
theorem dX3_jamCases_1 : decode cX3_jamCases 1 = .ok (.lstore 5, 2) := by decide +kernel
theorem dX3_jamCases_3 : decode cX3_jamCases 3 = .ok (.iconst 0, 1) := by decide +kernel
theorem dX3_jamCases_4 : decode cX3_jamCases 4 = .ok (.istore 7, 2) := by decide +kernel
theorem dX3_jamCases_6 : decode cX3_jamCases 6 = .ok (.iload 7, 2) := by decide +kernel
theorem dX3_jamCases_8 : decode cX3_jamCases 8 = .ok (.iconst 1, 1) := by decide +kernel
theorem dX3_jamCases_9 : decode cX3_jamCases 9 = .ok (.aload_n 1, 1) := by decide +kernel
theorem dX3_jamCases_10 : decode cX3_jamCases 10 = .ok (.getfield 131, 3) := by decide +kernel
theorem dX3_jamCases_13 : decode cX3_jamCases 13 = .ok (.ishl, 1) := by decide +kernel
theorem dX3_jamCases_14 : decode cX3_jamCases 14 = .ok (.if_icmp .ge 97, 3) := by decide +kernel
theorem dX3_jamCases_17 : decode cX3_jamCases 17 = .ok (.iload 7, 2) := by decide +kernel
theorem dX3_jamCases_19 : decode cX3_jamCases 19 = .ok (.invokestatic 85, 3) := by decide +kernel
theorem dX3_jamCases_22 : decode cX3_jamCases 22 = .ok (.istore 8, 2) := by decide +kernel
theorem dX3_jamCases_24 : decode cX3_jamCases 24 = .ok (.iload 4, 2) := by decide +kernel
theorem dX3_jamCases_26 : decode cX3_jamCases 26 = .ok (.i2l, 1) := by decide +kernel
theorem dX3_jamCases_27 : decode cX3_jamCases 27 = .ok (.iload 8, 2) := by decide +kernel
theorem dX3_jamCases_29 : decode cX3_jamCases 29 = .ok (.invokestatic 163, 3) := by decide +kernel
theorem dX3_jamCases_32 : decode cX3_jamCases 32 = .ok (.bipush 10, 2) := by decide +kernel
theorem dX3_jamCases_34 : decode cX3_jamCases 34 = .ok (.iload 4, 2) := by decide +kernel
theorem dX3_jamCases_36 : decode cX3_jamCases 36 = .ok (.isub, 1) := by decide +kernel
theorem dX3_jamCases_37 : decode cX3_jamCases 37 = .ok (.i2l, 1) := by decide +kernel
theorem dX3_jamCases_38 : decode cX3_jamCases 38 = .ok (.aload_n 1, 1) := by decide +kernel
theorem dX3_jamCases_39 : decode cX3_jamCases 39 = .ok (.getfield 131, 3) := by decide +kernel
theorem dX3_jamCases_42 : decode cX3_jamCases 42 = .ok (.iload 8, 2) := by decide +kernel
theorem dX3_jamCases_44 : decode cX3_jamCases 44 = .ok (.isub, 1) := by decide +kernel
theorem dX3_jamCases_45 : decode cX3_jamCases 45 = .ok (.invokestatic 163, 3) := by decide +kernel
theorem dX3_jamCases_48 : decode cX3_jamCases 48 = .ok (.lmul, 1) := by decide +kernel
theorem dX3_jamCases_49 : decode cX3_jamCases 49 = .ok (.lstore 9, 2) := by decide +kernel
theorem dX3_jamCases_51 : decode cX3_jamCases 51 = .ok (.lload 9, 2) := by decide +kernel
theorem dX3_jamCases_53 : decode cX3_jamCases 53 = .ok (.lconst 0, 1) := by decide +kernel
theorem dX3_jamCases_54 : decode cX3_jamCases 54 = .ok (.lcmp, 1) := by decide +kernel
theorem dX3_jamCases_55 : decode cX3_jamCases 55 = .ok (.ifCond .le 50, 3) := by decide +kernel
theorem dX3_jamCases_58 : decode cX3_jamCases 58 = .ok (.aload_n 0, 1) := by decide +kernel
theorem dX3_jamCases_59 : decode cX3_jamCases 59 = .ok (.getfield 12, 3) := by decide +kernel
theorem dX3_jamCases_62 : decode cX3_jamCases 62 = .ok (.aload_n 1, 1) := by decide +kernel
theorem dX3_jamCases_63 : decode cX3_jamCases 63 = .ok (.invokevirtual 51, 3) := by decide +kernel
theorem dX3_jamCases_66 : decode cX3_jamCases 66 = .ok (.aload_n 0, 1) := by decide +kernel
theorem dX3_jamCases_67 : decode cX3_jamCases 67 = .ok (.getfield 12, 3) := by decide +kernel
theorem dX3_jamCases_70 : decode cX3_jamCases 70 = .ok (.iload 7, 2) := by decide +kernel
theorem dX3_jamCases_72 : decode cX3_jamCases 72 = .ok (.putfield 167, 3) := by decide +kernel
theorem dX3_jamCases_75 : decode cX3_jamCases 75 = .ok (.aload_n 0, 1) := by decide +kernel
theorem dX3_jamCases_76 : decode cX3_jamCases 76 = .ok (.iload_n 3, 1) := by decide +kernel
theorem dX3_jamCases_77 : decode cX3_jamCases 77 = .ok (.invokevirtual 55, 3) := by decide +kernel
theorem dX3_jamCases_80 : decode cX3_jamCases 80 = .ok (.lload 5, 2) := by decide +kernel
theorem dX3_jamCases_82 : decode cX3_jamCases 82 = .ok (.aload_n 0, 1) := by decide +kernel
theorem dX3_jamCases_83 : decode cX3_jamCases 83 = .ok (.getfield 12, 3) := by decide +kernel
theorem dX3_jamCases_86 : decode cX3_jamCases 86 = .ok (.getfield 170, 3) := by decide +kernel
theorem dX3_jamCases_89 : decode cX3_jamCases 89 = .ok (.iload_n 2, 1) := by decide +kernel
theorem dX3_jamCases_90 : decode cX3_jamCases 90 = .ok (.iaload, 1) := by decide +kernel
theorem dX3_jamCases_91 : decode cX3_jamCases 91 = .ok (.bipush 9, 2) := by decide +kernel
theorem dX3_jamCases_93 : decode cX3_jamCases 93 = .ok (.if_icmp .ne 8, 3) := by decide +kernel
theorem dX3_jamCases_96 : decode cX3_jamCases 96 = .ok (.lload 9, 2) := by decide +kernel
theorem dX3_jamCases_98 : decode cX3_jamCases 98 = .ok (.goto 4, 3) := by decide +kernel
theorem dX3_jamCases_101 : decode cX3_jamCases 101 = .ok (.lconst 0, 1) := by decide +kernel
theorem dX3_jamCases_102 : decode cX3_jamCases 102 = .ok (.ladd, 1) := by decide +kernel
theorem dX3_jamCases_103 : decode cX3_jamCases 103 = .ok (.lstore 5, 2) := by decide +kernel
theorem dX3_jamCases_105 : decode cX3_jamCases 105 = .ok (.iinc 7 1, 3) := by decide +kernel
theorem dX3_jamCases_108 : decode cX3_jamCases 108 = .ok (.goto (-102), 3) := by decide +kernel
theorem dX3_jamCases_111 : decode cX3_jamCases 111 = .ok (.lload 5, 2) := by decide +kernel
theorem dX3_jamCases_113 : decode cX3_jamCases 113 = .ok (.lreturn, 1) := by decide +kernel
theorem dX3_cameByDraws_0 : decode cX3_cameByDraws 0 = .ok (.aload_n 0, 1) := by decide +kernel
theorem dX3_cameByDraws_1 : decode cX3_cameByDraws 1 = .ok (.getfield 12, 3) := by decide +kernel
theorem dX3_cameByDraws_4 : decode cX3_cameByDraws 4 = .ok (.aload_n 1, 1) := by decide +kernel
theorem dX3_cameByDraws_5 : decode cX3_cameByDraws 5 = .ok (.invokevirtual 51, 3) := by decide +kernel
theorem dX3_cameByDraws_8 : decode cX3_cameByDraws 8 = .ok (.iload_n 3, 1) := by decide +kernel
theorem dX3_cameByDraws_9 : decode cX3_cameByDraws 9 = .ok (.i2l, 1) := by decide +kernel
theorem dX3_cameByDraws_10 : decode cX3_cameByDraws 10 = .ok (.lstore 5, 2) := by decide +kernel
theorem dX3_cameByDraws_12 : decode cX3_cameByDraws 12 = .ok (.iconst 0, 1) := by decide +kernel
theorem dX3_cameByDraws_13 : decode cX3_cameByDraws 13 = .ok (.istore 7, 2) := by decide +kernel
theorem dX3_cameByDraws_15 : decode cX3_cameByDraws 15 = .ok (.iconst 0, 1) := by decide +kernel
theorem dX3_cameByDraws_16 : decode cX3_cameByDraws 16 = .ok (.istore 8, 2) := by decide +kernel
theorem dX3_cameByDraws_18 : decode cX3_cameByDraws 18 = .ok (.iload 8, 2) := by decide +kernel
theorem dX3_cameByDraws_20 : decode cX3_cameByDraws 20 = .ok (.iload_n 2, 1) := by decide +kernel
theorem dX3_cameByDraws_21 : decode cX3_cameByDraws 21 = .ok (.if_icmp .ge 68, 3) := by decide +kernel
theorem dX3_cameByDraws_24 : decode cX3_cameByDraws 24 = .ok (.lload 5, 2) := by decide +kernel
theorem dX3_cameByDraws_26 : decode cX3_cameByDraws 26 = .ok (.ldc2_w 173, 3) := by decide +kernel
theorem dX3_cameByDraws_29 : decode cX3_cameByDraws 29 = .ok (.lmul, 1) := by decide +kernel
theorem dX3_cameByDraws_30 : decode cX3_cameByDraws 30 = .ok (.ldc2_w 175, 3) := by decide +kernel
theorem dX3_cameByDraws_33 : decode cX3_cameByDraws 33 = .ok (.lrem, 1) := by decide +kernel
theorem dX3_cameByDraws_34 : decode cX3_cameByDraws 34 = .ok (.lstore 5, 2) := by decide +kernel
theorem dX3_cameByDraws_36 : decode cX3_cameByDraws 36 = .ok (.aload_n 0, 1) := by decide +kernel
theorem dX3_cameByDraws_37 : decode cX3_cameByDraws 37 = .ok (.lload 5, 2) := by decide +kernel
theorem dX3_cameByDraws_39 : decode cX3_cameByDraws 39 = .ok (.l2i, 1) := by decide +kernel
theorem dX3_cameByDraws_40 : decode cX3_cameByDraws 40 = .ok (.invokevirtual 177, 3) := by decide +kernel
theorem dX3_cameByDraws_43 : decode cX3_cameByDraws 43 = .ok (.aload_n 0, 1) := by decide +kernel
theorem dX3_cameByDraws_44 : decode cX3_cameByDraws 44 = .ok (.getfield 12, 3) := by decide +kernel
theorem dX3_cameByDraws_47 : decode cX3_cameByDraws 47 = .ok (.iload 4, 2) := by decide +kernel
theorem dX3_cameByDraws_49 : decode cX3_cameByDraws 49 = .ok (.invokevirtual 119, 3) := by decide +kernel
theorem dX3_cameByDraws_52 : decode cX3_cameByDraws 52 = .ok (.istore 9, 2) := by decide +kernel
theorem dX3_cameByDraws_54 : decode cX3_cameByDraws 54 = .ok (.aload_n 0, 1) := by decide +kernel
theorem dX3_cameByDraws_55 : decode cX3_cameByDraws 55 = .ok (.getfield 12, 3) := by decide +kernel
theorem dX3_cameByDraws_58 : decode cX3_cameByDraws 58 = .ok (.invokevirtual 63, 3) := by decide +kernel
theorem dX3_cameByDraws_61 : decode cX3_cameByDraws 61 = .ok (.iload 7, 2) := by decide +kernel
theorem dX3_cameByDraws_63 : decode cX3_cameByDraws 63 = .ok (.aload_n 0, 1) := by decide +kernel
theorem dX3_cameByDraws_64 : decode cX3_cameByDraws 64 = .ok (.getfield 12, 3) := by decide +kernel
theorem dX3_cameByDraws_67 : decode cX3_cameByDraws 67 = .ok (.iload 4, 2) := by decide +kernel
theorem dX3_cameByDraws_69 : decode cX3_cameByDraws 69 = .ok (.invokevirtual 119, 3) := by decide +kernel
theorem dX3_cameByDraws_72 : decode cX3_cameByDraws 72 = .ok (.iload 9, 2) := by decide +kernel
theorem dX3_cameByDraws_74 : decode cX3_cameByDraws 74 = .ok (.iconst (-1), 1) := by decide +kernel
theorem dX3_cameByDraws_75 : decode cX3_cameByDraws 75 = .ok (.ixor, 1) := by decide +kernel
theorem dX3_cameByDraws_76 : decode cX3_cameByDraws 76 = .ok (.iand, 1) := by decide +kernel
theorem dX3_cameByDraws_77 : decode cX3_cameByDraws 77 = .ok (.invokestatic 85, 3) := by decide +kernel
theorem dX3_cameByDraws_80 : decode cX3_cameByDraws 80 = .ok (.iadd, 1) := by decide +kernel
theorem dX3_cameByDraws_81 : decode cX3_cameByDraws 81 = .ok (.istore 7, 2) := by decide +kernel
theorem dX3_cameByDraws_83 : decode cX3_cameByDraws 83 = .ok (.iinc 8 1, 3) := by decide +kernel
theorem dX3_cameByDraws_86 : decode cX3_cameByDraws 86 = .ok (.goto (-68), 3) := by decide +kernel
theorem dX3_cameByDraws_89 : decode cX3_cameByDraws 89 = .ok (.iload 7, 2) := by decide +kernel
theorem dX3_cameByDraws_91 : decode cX3_cameByDraws 91 = .ok (.ireturn, 1) := by decide +kernel
theorem dX3_disturb_0 : decode cX3_disturb 0 = .ok (.aload_n 0, 1) := by decide +kernel
theorem dX3_disturb_1 : decode cX3_disturb 1 = .ok (.getfield 12, 3) := by decide +kernel
theorem dX3_disturb_4 : decode cX3_disturb 4 = .ok (.getfield 99, 3) := by decide +kernel
theorem dX3_disturb_7 : decode cX3_disturb 7 = .ok (.ifCond .eq 13, 3) := by decide +kernel
theorem dX3_disturb_10 : decode cX3_disturb 10 = .ok (.aload_n 0, 1) := by decide +kernel
theorem dX3_disturb_11 : decode cX3_disturb 11 = .ok (.getfield 12, 3) := by decide +kernel
theorem dX3_disturb_14 : decode cX3_disturb 14 = .ok (.getfield 131, 3) := by decide +kernel
theorem dX3_disturb_17 : decode cX3_disturb 17 = .ok (.ifCond .ne 4, 3) := by decide +kernel
theorem dX3_disturb_20 : decode cX3_disturb 20 = .ok (.return_, 1) := by decide +kernel
theorem dX3_disturb_21 : decode cX3_disturb 21 = .ok (.iload_n 1, 1) := by decide +kernel
theorem dX3_disturb_22 : decode cX3_disturb 22 = .ok (.aload_n 0, 1) := by decide +kernel
theorem dX3_disturb_23 : decode cX3_disturb 23 = .ok (.getfield 12, 3) := by decide +kernel
theorem dX3_disturb_26 : decode cX3_disturb 26 = .ok (.getfield 99, 3) := by decide +kernel
theorem dX3_disturb_29 : decode cX3_disturb 29 = .ok (.irem, 1) := by decide +kernel
theorem dX3_disturb_30 : decode cX3_disturb 30 = .ok (.istore_n 2, 1) := by decide +kernel
theorem dX3_disturb_31 : decode cX3_disturb 31 = .ok (.aload_n 0, 1) := by decide +kernel
theorem dX3_disturb_32 : decode cX3_disturb 32 = .ok (.getfield 12, 3) := by decide +kernel
theorem dX3_disturb_35 : decode cX3_disturb 35 = .ok (.iload_n 2, 1) := by decide +kernel
theorem dX3_disturb_36 : decode cX3_disturb 36 = .ok (.invokevirtual 66, 3) := by decide +kernel
theorem dX3_disturb_39 : decode cX3_disturb 39 = .ok (.ifCond .eq 20, 3) := by decide +kernel
theorem dX3_disturb_42 : decode cX3_disturb 42 = .ok (.aload_n 0, 1) := by decide +kernel
theorem dX3_disturb_43 : decode cX3_disturb 43 = .ok (.getfield 12, 3) := by decide +kernel
theorem dX3_disturb_46 : decode cX3_disturb 46 = .ok (.iload_n 2, 1) := by decide +kernel
theorem dX3_disturb_47 : decode cX3_disturb 47 = .ok (.iload_n 1, 1) := by decide +kernel
theorem dX3_disturb_48 : decode cX3_disturb 48 = .ok (.bipush 9, 2) := by decide +kernel
theorem dX3_disturb_50 : decode cX3_disturb 50 = .ok (.irem, 1) := by decide +kernel
theorem dX3_disturb_51 : decode cX3_disturb 51 = .ok (.iconst 1, 1) := by decide +kernel
theorem dX3_disturb_52 : decode cX3_disturb 52 = .ok (.iadd, 1) := by decide +kernel
theorem dX3_disturb_53 : decode cX3_disturb 53 = .ok (.invokevirtual 180, 3) := by decide +kernel
theorem dX3_disturb_56 : decode cX3_disturb 56 = .ok (.goto 25, 3) := by decide +kernel
theorem dX3_disturb_59 : decode cX3_disturb 59 = .ok (.iload_n 1, 1) := by decide +kernel
theorem dX3_disturb_60 : decode cX3_disturb 60 = .ok (.iconst 3, 1) := by decide +kernel
theorem dX3_disturb_61 : decode cX3_disturb 61 = .ok (.irem, 1) := by decide +kernel
theorem dX3_disturb_62 : decode cX3_disturb 62 = .ok (.ifCond .ne 19, 3) := by decide +kernel
theorem dX3_disturb_65 : decode cX3_disturb 65 = .ok (.aload_n 0, 1) := by decide +kernel
theorem dX3_disturb_66 : decode cX3_disturb 66 = .ok (.getfield 12, 3) := by decide +kernel
theorem dX3_disturb_69 : decode cX3_disturb 69 = .ok (.iload_n 1, 1) := by decide +kernel
theorem dX3_disturb_70 : decode cX3_disturb 70 = .ok (.aload_n 0, 1) := by decide +kernel
theorem dX3_disturb_71 : decode cX3_disturb 71 = .ok (.getfield 12, 3) := by decide +kernel
theorem dX3_disturb_74 : decode cX3_disturb 74 = .ok (.getfield 131, 3) := by decide +kernel
theorem dX3_disturb_77 : decode cX3_disturb 77 = .ok (.irem, 1) := by decide +kernel
theorem dX3_disturb_78 : decode cX3_disturb 78 = .ok (.invokevirtual 183, 3) := by decide +kernel
theorem dX3_disturb_81 : decode cX3_disturb 81 = .ok (.return_, 1) := by decide +kernel
theorem dX4_init_0 : decode cX4_init 0 = .ok (.aload_n 0, 1) := by decide +kernel
theorem dX4_init_1 : decode cX4_init 1 = .ok (.invokespecial 3, 3) := by decide +kernel
theorem dX4_init_4 : decode cX4_init 4 = .ok (.aload_n 0, 1) := by decide +kernel
theorem dX4_init_5 : decode cX4_init 5 = .ok (.bipush 110, 2) := by decide +kernel
theorem dX4_init_7 : decode cX4_init 7 = .ok (.newarray .int, 2) := by decide +kernel
theorem dX4_init_9 : decode cX4_init 9 = .ok (.putfield 11, 3) := by decide +kernel
theorem dX4_init_12 : decode cX4_init 12 = .ok (.aload_n 0, 1) := by decide +kernel
theorem dX4_init_13 : decode cX4_init 13 = .ok (.iconst 0, 1) := by decide +kernel
theorem dX4_init_14 : decode cX4_init 14 = .ok (.putfield 15, 3) := by decide +kernel
theorem dX4_init_17 : decode cX4_init 17 = .ok (.aload_n 0, 1) := by decide +kernel
theorem dX4_init_18 : decode cX4_init 18 = .ok (.iconst 0, 1) := by decide +kernel
theorem dX4_init_19 : decode cX4_init 19 = .ok (.putfield 19, 3) := by decide +kernel
theorem dX4_init_22 : decode cX4_init 22 = .ok (.aload_n 0, 1) := by decide +kernel
theorem dX4_init_23 : decode cX4_init 23 = .ok (.iconst 0, 1) := by decide +kernel
theorem dX4_init_24 : decode cX4_init 24 = .ok (.putfield 22, 3) := by decide +kernel
theorem dX4_init_27 : decode cX4_init 27 = .ok (.aload_n 0, 1) := by decide +kernel
theorem dX4_init_28 : decode cX4_init 28 = .ok (.iconst 0, 1) := by decide +kernel
theorem dX4_init_29 : decode cX4_init 29 = .ok (.putfield 25, 3) := by decide +kernel
theorem dX4_init_32 : decode cX4_init 32 = .ok (.return_, 1) := by decide +kernel
theorem dX4_add_0 : decode cX4_add 0 = .ok (.aload_n 0, 1) := by decide +kernel
theorem dX4_add_1 : decode cX4_add 1 = .ok (.getfield 15, 3) := by decide +kernel
theorem dX4_add_4 : decode cX4_add 4 = .ok (.bipush 110, 2) := by decide +kernel
theorem dX4_add_6 : decode cX4_add 6 = .ok (.if_icmp .lt 5, 3) := by decide +kernel
theorem dX4_add_9 : decode cX4_add 9 = .ok (.iconst 0, 1) := by decide +kernel
theorem dX4_add_10 : decode cX4_add 10 = .ok (.ireturn, 1) := by decide +kernel
theorem dX4_add_11 : decode cX4_add 11 = .ok (.aload_n 0, 1) := by decide +kernel
theorem dX4_add_12 : decode cX4_add 12 = .ok (.getfield 11, 3) := by decide +kernel
theorem dX4_add_15 : decode cX4_add 15 = .ok (.aload_n 0, 1) := by decide +kernel
theorem dX4_add_16 : decode cX4_add 16 = .ok (.getfield 15, 3) := by decide +kernel
theorem dX4_add_19 : decode cX4_add 19 = .ok (.iload_n 1, 1) := by decide +kernel
theorem dX4_add_20 : decode cX4_add 20 = .ok (.iastore, 1) := by decide +kernel
theorem dX4_add_21 : decode cX4_add 21 = .ok (.aload_n 0, 1) := by decide +kernel
theorem dX4_add_22 : decode cX4_add 22 = .ok (.dup, 1) := by decide +kernel
theorem dX4_add_23 : decode cX4_add 23 = .ok (.getfield 15, 3) := by decide +kernel
theorem dX4_add_26 : decode cX4_add 26 = .ok (.iconst 1, 1) := by decide +kernel
theorem dX4_add_27 : decode cX4_add 27 = .ok (.iadd, 1) := by decide +kernel
theorem dX4_add_28 : decode cX4_add 28 = .ok (.putfield 15, 3) := by decide +kernel
theorem dX4_add_31 : decode cX4_add 31 = .ok (.iconst 1, 1) := by decide +kernel
theorem dX4_add_32 : decode cX4_add 32 = .ok (.ireturn, 1) := by decide +kernel
theorem dX4_length_0 : decode cX4_length 0 = .ok (.aload_n 0, 1) := by decide +kernel
theorem dX4_length_1 : decode cX4_length 1 = .ok (.getfield 15, 3) := by decide +kernel
theorem dX4_length_4 : decode cX4_length 4 = .ok (.ireturn, 1) := by decide +kernel
theorem dX4_clear_0 : decode cX4_clear 0 = .ok (.aload_n 0, 1) := by decide +kernel
theorem dX4_clear_1 : decode cX4_clear 1 = .ok (.iconst 0, 1) := by decide +kernel
theorem dX4_clear_2 : decode cX4_clear 2 = .ok (.putfield 15, 3) := by decide +kernel
theorem dX4_clear_5 : decode cX4_clear 5 = .ok (.return_, 1) := by decide +kernel
theorem dX4_faultNumber_0 : decode cX4_faultNumber 0 = .ok (.aload_n 0, 1) := by decide +kernel
theorem dX4_faultNumber_1 : decode cX4_faultNumber 1 = .ok (.getfield 25, 3) := by decide +kernel
theorem dX4_faultNumber_4 : decode cX4_faultNumber 4 = .ok (.ireturn, 1) := by decide +kernel
theorem dX4_faultPlace_0 : decode cX4_faultPlace 0 = .ok (.aload_n 0, 1) := by decide +kernel
theorem dX4_faultPlace_1 : decode cX4_faultPlace 1 = .ok (.getfield 19, 3) := by decide +kernel
theorem dX4_faultPlace_4 : decode cX4_faultPlace 4 = .ok (.ireturn, 1) := by decide +kernel
theorem dX4_readInto_0 : decode cX4_readInto 0 = .ok (.aload_n 0, 1) := by decide +kernel
theorem dX4_readInto_1 : decode cX4_readInto 1 = .ok (.iconst 0, 1) := by decide +kernel
theorem dX4_readInto_2 : decode cX4_readInto 2 = .ok (.putfield 19, 3) := by decide +kernel
theorem dX4_readInto_5 : decode cX4_readInto 5 = .ok (.aload_n 0, 1) := by decide +kernel
theorem dX4_readInto_6 : decode cX4_readInto 6 = .ok (.iconst 0, 1) := by decide +kernel
theorem dX4_readInto_7 : decode cX4_readInto 7 = .ok (.putfield 25, 3) := by decide +kernel
theorem dX4_readInto_10 : decode cX4_readInto 10 = .ok (.aload_n 1, 1) := by decide +kernel
theorem dX4_readInto_11 : decode cX4_readInto 11 = .ok (.invokevirtual 28, 3) := by decide +kernel
theorem dX4_readInto_14 : decode cX4_readInto 14 = .ok (.aload_n 0, 1) := by decide +kernel
theorem dX4_readInto_15 : decode cX4_readInto 15 = .ok (.aload_n 1, 1) := by decide +kernel
theorem dX4_readInto_16 : decode cX4_readInto 16 = .ok (.invokevirtual 33, 3) := by decide +kernel
theorem dX4_readInto_19 : decode cX4_readInto 19 = .ok (.ifCond .eq 23, 3) := by decide +kernel
theorem dX4_readInto_22 : decode cX4_readInto 22 = .ok (.aload_n 0, 1) := by decide +kernel
theorem dX4_readInto_23 : decode cX4_readInto 23 = .ok (.aload_n 1, 1) := by decide +kernel
theorem dX4_readInto_24 : decode cX4_readInto 24 = .ok (.invokevirtual 37, 3) := by decide +kernel
theorem dX4_readInto_27 : decode cX4_readInto 27 = .ok (.ifCond .eq 15, 3) := by decide +kernel
theorem dX4_readInto_30 : decode cX4_readInto 30 = .ok (.aload_n 0, 1) := by decide +kernel
theorem dX4_readInto_31 : decode cX4_readInto 31 = .ok (.aload_n 1, 1) := by decide +kernel
theorem dX4_readInto_32 : decode cX4_readInto 32 = .ok (.invokevirtual 40, 3) := by decide +kernel
theorem dX4_readInto_35 : decode cX4_readInto 35 = .ok (.ifCond .eq 7, 3) := by decide +kernel
theorem dX4_readInto_38 : decode cX4_readInto 38 = .ok (.iconst 1, 1) := by decide +kernel
theorem dX4_readInto_39 : decode cX4_readInto 39 = .ok (.goto 4, 3) := by decide +kernel
theorem dX4_readInto_42 : decode cX4_readInto 42 = .ok (.iconst 0, 1) := by decide +kernel
theorem dX4_readInto_43 : decode cX4_readInto 43 = .ok (.ireturn, 1) := by decide +kernel
theorem dX4_readLaw_0 : decode cX4_readLaw 0 = .ok (.aload_n 0, 1) := by decide +kernel
theorem dX4_readLaw_1 : decode cX4_readLaw 1 = .ok (.bipush 98, 2) := by decide +kernel
theorem dX4_readLaw_3 : decode cX4_readLaw 3 = .ok (.invokevirtual 43, 3) := by decide +kernel
theorem dX4_readLaw_6 : decode cX4_readLaw 6 = .ok (.ifCond .eq 13, 3) := by decide +kernel
theorem dX4_readLaw_9 : decode cX4_readLaw 9 = .ok (.aload_n 0, 1) := by decide +kernel
theorem dX4_readLaw_10 : decode cX4_readLaw 10 = .ok (.iconst 1, 1) := by decide +kernel
theorem dX4_readLaw_11 : decode cX4_readLaw 11 = .ok (.bipush 9, 2) := by decide +kernel
theorem dX4_readLaw_13 : decode cX4_readLaw 13 = .ok (.invokevirtual 47, 3) := by decide +kernel
theorem dX4_readLaw_16 : decode cX4_readLaw 16 = .ok (.ifCond .ne 5, 3) := by decide +kernel
theorem dX4_readLaw_19 : decode cX4_readLaw 19 = .ok (.iconst 0, 1) := by decide +kernel
theorem dX4_readLaw_20 : decode cX4_readLaw 20 = .ok (.ireturn, 1) := by decide +kernel
theorem dX4_readLaw_21 : decode cX4_readLaw 21 = .ok (.aload_n 1, 1) := by decide +kernel
theorem dX4_readLaw_22 : decode cX4_readLaw 22 = .ok (.aload_n 0, 1) := by decide +kernel
theorem dX4_readLaw_23 : decode cX4_readLaw 23 = .ok (.getfield 22, 3) := by decide +kernel
theorem dX4_readLaw_26 : decode cX4_readLaw 26 = .ok (.putfield 51, 3) := by decide +kernel
theorem dX4_readLaw_29 : decode cX4_readLaw 29 = .ok (.aload_n 0, 1) := by decide +kernel
theorem dX4_readLaw_30 : decode cX4_readLaw 30 = .ok (.bipush 59, 2) := by decide +kernel
theorem dX4_readLaw_32 : decode cX4_readLaw 32 = .ok (.invokevirtual 43, 3) := by decide +kernel
theorem dX4_readLaw_35 : decode cX4_readLaw 35 = .ok (.ireturn, 1) := by decide +kernel
theorem dX4_readMarbles_0 : decode cX4_readMarbles 0 = .ok (.iconst 0, 1) := by decide +kernel
theorem dX4_readMarbles_1 : decode cX4_readMarbles 1 = .ok (.istore_n 2, 1) := by decide +kernel
theorem dX4_readMarbles_2 : decode cX4_readMarbles 2 = .ok (.iload_n 2, 1) := by decide +kernel
theorem dX4_readMarbles_3 : decode cX4_readMarbles 3 = .ok (.bipush 6, 2) := by decide +kernel
theorem dX4_readMarbles_5 : decode cX4_readMarbles 5 = .ok (.if_icmp .gt 52, 3) := by decide +kernel
theorem dX4_readMarbles_8 : decode cX4_readMarbles 8 = .ok (.iload_n 2, 1) := by decide +kernel
theorem dX4_readMarbles_9 : decode cX4_readMarbles 9 = .ok (.ifCond .eq 12, 3) := by decide +kernel
theorem dX4_readMarbles_12 : decode cX4_readMarbles 12 = .ok (.aload_n 0, 1) := by decide +kernel
theorem dX4_readMarbles_13 : decode cX4_readMarbles 13 = .ok (.invokevirtual 54, 3) := by decide +kernel
theorem dX4_readMarbles_16 : decode cX4_readMarbles 16 = .ok (.bipush 109, 2) := by decide +kernel
theorem dX4_readMarbles_18 : decode cX4_readMarbles 18 = .ok (.if_icmp .ne 39, 3) := by decide +kernel
theorem dX4_readMarbles_21 : decode cX4_readMarbles 21 = .ok (.iload_n 2, 1) := by decide +kernel
theorem dX4_readMarbles_22 : decode cX4_readMarbles 22 = .ok (.bipush 6, 2) := by decide +kernel
theorem dX4_readMarbles_24 : decode cX4_readMarbles 24 = .ok (.if_icmp .ne 9, 3) := by decide +kernel
theorem dX4_readMarbles_27 : decode cX4_readMarbles 27 = .ok (.aload_n 0, 1) := by decide +kernel
theorem dX4_readMarbles_28 : decode cX4_readMarbles 28 = .ok (.iconst 3, 1) := by decide +kernel
theorem dX4_readMarbles_29 : decode cX4_readMarbles 29 = .ok (.invokevirtual 58, 3) := by decide +kernel
theorem dX4_readMarbles_32 : decode cX4_readMarbles 32 = .ok (.ireturn, 1) := by decide +kernel
theorem dX4_readMarbles_33 : decode cX4_readMarbles 33 = .ok (.aload_n 0, 1) := by decide +kernel
theorem dX4_readMarbles_34 : decode cX4_readMarbles 34 = .ok (.aload_n 1, 1) := by decide +kernel
theorem dX4_readMarbles_35 : decode cX4_readMarbles 35 = .ok (.iload_n 2, 1) := by decide +kernel
theorem dX4_readMarbles_36 : decode cX4_readMarbles 36 = .ok (.invokevirtual 61, 3) := by decide +kernel
theorem dX4_readMarbles_39 : decode cX4_readMarbles 39 = .ok (.ifCond .ne 5, 3) := by decide +kernel
theorem dX4_readMarbles_42 : decode cX4_readMarbles 42 = .ok (.iconst 0, 1) := by decide +kernel
theorem dX4_readMarbles_43 : decode cX4_readMarbles 43 = .ok (.ireturn, 1) := by decide +kernel
theorem dX4_readMarbles_44 : decode cX4_readMarbles 44 = .ok (.aload_n 1, 1) := by decide +kernel
theorem dX4_readMarbles_45 : decode cX4_readMarbles 45 = .ok (.iload_n 2, 1) := by decide +kernel
theorem dX4_readMarbles_46 : decode cX4_readMarbles 46 = .ok (.iconst 1, 1) := by decide +kernel
theorem dX4_readMarbles_47 : decode cX4_readMarbles 47 = .ok (.iadd, 1) := by decide +kernel
theorem dX4_readMarbles_48 : decode cX4_readMarbles 48 = .ok (.putfield 65, 3) := by decide +kernel
theorem dX4_readMarbles_51 : decode cX4_readMarbles 51 = .ok (.iinc 2 1, 3) := by decide +kernel
theorem dX4_readMarbles_54 : decode cX4_readMarbles 54 = .ok (.goto (-52), 3) := by decide +kernel
theorem dX4_readMarbles_57 : decode cX4_readMarbles 57 = .ok (.iconst 1, 1) := by decide +kernel
theorem dX4_readMarbles_58 : decode cX4_readMarbles 58 = .ok (.ireturn, 1) := by decide +kernel
theorem dX4_readMarble_0 : decode cX4_readMarble 0 = .ok (.aload_n 0, 1) := by decide +kernel
theorem dX4_readMarble_1 : decode cX4_readMarble 1 = .ok (.bipush 109, 2) := by decide +kernel
theorem dX4_readMarble_3 : decode cX4_readMarble 3 = .ok (.invokevirtual 43, 3) := by decide +kernel
theorem dX4_readMarble_6 : decode cX4_readMarble 6 = .ok (.ifCond .eq 13, 3) := by decide +kernel
theorem dX4_readMarble_9 : decode cX4_readMarble 9 = .ok (.aload_n 0, 1) := by decide +kernel
theorem dX4_readMarble_10 : decode cX4_readMarble 10 = .ok (.iconst 1, 1) := by decide +kernel
theorem dX4_readMarble_11 : decode cX4_readMarble 11 = .ok (.bipush 9, 2) := by decide +kernel
theorem dX4_readMarble_13 : decode cX4_readMarble 13 = .ok (.invokevirtual 47, 3) := by decide +kernel
theorem dX4_readMarble_16 : decode cX4_readMarble 16 = .ok (.ifCond .ne 5, 3) := by decide +kernel
theorem dX4_readMarble_19 : decode cX4_readMarble 19 = .ok (.iconst 0, 1) := by decide +kernel
theorem dX4_readMarble_20 : decode cX4_readMarble 20 = .ok (.ireturn, 1) := by decide +kernel
theorem dX4_readMarble_21 : decode cX4_readMarble 21 = .ok (.aload_n 1, 1) := by decide +kernel
theorem dX4_readMarble_22 : decode cX4_readMarble 22 = .ok (.getfield 68, 3) := by decide +kernel
theorem dX4_readMarble_25 : decode cX4_readMarble 25 = .ok (.iload_n 2, 1) := by decide +kernel
theorem dX4_readMarble_26 : decode cX4_readMarble 26 = .ok (.aload_n 0, 1) := by decide +kernel
theorem dX4_readMarble_27 : decode cX4_readMarble 27 = .ok (.getfield 22, 3) := by decide +kernel
theorem dX4_readMarble_30 : decode cX4_readMarble 30 = .ok (.iastore, 1) := by decide +kernel
theorem dX4_readMarble_31 : decode cX4_readMarble 31 = .ok (.aload_n 0, 1) := by decide +kernel
theorem dX4_readMarble_32 : decode cX4_readMarble 32 = .ok (.bipush 44, 2) := by decide +kernel
theorem dX4_readMarble_34 : decode cX4_readMarble 34 = .ok (.invokevirtual 43, 3) := by decide +kernel
theorem dX4_readMarble_37 : decode cX4_readMarble 37 = .ok (.ifCond .eq 13, 3) := by decide +kernel
theorem dX4_readMarble_40 : decode cX4_readMarble 40 = .ok (.aload_n 0, 1) := by decide +kernel
theorem dX4_readMarble_41 : decode cX4_readMarble 41 = .ok (.iconst 0, 1) := by decide +kernel
theorem dX4_readMarble_42 : decode cX4_readMarble 42 = .ok (.bipush 20, 2) := by decide +kernel
theorem dX4_readMarble_44 : decode cX4_readMarble 44 = .ok (.invokevirtual 47, 3) := by decide +kernel
theorem dX4_readMarble_47 : decode cX4_readMarble 47 = .ok (.ifCond .ne 5, 3) := by decide +kernel
theorem dX4_readMarble_50 : decode cX4_readMarble 50 = .ok (.iconst 0, 1) := by decide +kernel
theorem dX4_readMarble_51 : decode cX4_readMarble 51 = .ok (.ireturn, 1) := by decide +kernel
theorem dX4_readMarble_52 : decode cX4_readMarble 52 = .ok (.aload_n 1, 1) := by decide +kernel
theorem dX4_readMarble_53 : decode cX4_readMarble 53 = .ok (.getfield 71, 3) := by decide +kernel
theorem dX4_readMarble_56 : decode cX4_readMarble 56 = .ok (.iload_n 2, 1) := by decide +kernel
theorem dX4_readMarble_57 : decode cX4_readMarble 57 = .ok (.aload_n 0, 1) := by decide +kernel
theorem dX4_readMarble_58 : decode cX4_readMarble 58 = .ok (.getfield 22, 3) := by decide +kernel
theorem dX4_readMarble_61 : decode cX4_readMarble 61 = .ok (.iastore, 1) := by decide +kernel
theorem dX4_readMarble_62 : decode cX4_readMarble 62 = .ok (.aload_n 0, 1) := by decide +kernel
theorem dX4_readMarble_63 : decode cX4_readMarble 63 = .ok (.bipush 59, 2) := by decide +kernel
theorem dX4_readMarble_65 : decode cX4_readMarble 65 = .ok (.invokevirtual 43, 3) := by decide +kernel
theorem dX4_readMarble_68 : decode cX4_readMarble 68 = .ok (.ireturn, 1) := by decide +kernel
theorem dX4_readPieces_0 : decode cX4_readPieces 0 = .ok (.iconst 0, 1) := by decide +kernel
theorem dX4_readPieces_1 : decode cX4_readPieces 1 = .ok (.istore_n 2, 1) := by decide +kernel
theorem dX4_readPieces_2 : decode cX4_readPieces 2 = .ok (.iload_n 2, 1) := by decide +kernel
theorem dX4_readPieces_3 : decode cX4_readPieces 3 = .ok (.bipush 8, 2) := by decide +kernel
theorem dX4_readPieces_5 : decode cX4_readPieces 5 = .ok (.if_icmp .gt 67, 3) := by decide +kernel
theorem dX4_readPieces_8 : decode cX4_readPieces 8 = .ok (.iload_n 2, 1) := by decide +kernel
theorem dX4_readPieces_9 : decode cX4_readPieces 9 = .ok (.ifCond .eq 11, 3) := by decide +kernel
theorem dX4_readPieces_12 : decode cX4_readPieces 12 = .ok (.aload_n 0, 1) := by decide +kernel
theorem dX4_readPieces_13 : decode cX4_readPieces 13 = .ok (.invokevirtual 54, 3) := by decide +kernel
theorem dX4_readPieces_16 : decode cX4_readPieces 16 = .ok (.iconst (-1), 1) := by decide +kernel
theorem dX4_readPieces_17 : decode cX4_readPieces 17 = .ok (.if_icmp .eq 55, 3) := by decide +kernel
theorem dX4_readPieces_20 : decode cX4_readPieces 20 = .ok (.aload_n 0, 1) := by decide +kernel
theorem dX4_readPieces_21 : decode cX4_readPieces 21 = .ok (.invokevirtual 54, 3) := by decide +kernel
theorem dX4_readPieces_24 : decode cX4_readPieces 24 = .ok (.invokestatic 74, 3) := by decide +kernel
theorem dX4_readPieces_27 : decode cX4_readPieces 27 = .ok (.ifCond .ne 9, 3) := by decide +kernel
theorem dX4_readPieces_30 : decode cX4_readPieces 30 = .ok (.aload_n 0, 1) := by decide +kernel
theorem dX4_readPieces_31 : decode cX4_readPieces 31 = .ok (.iconst 1, 1) := by decide +kernel
theorem dX4_readPieces_32 : decode cX4_readPieces 32 = .ok (.invokevirtual 58, 3) := by decide +kernel
theorem dX4_readPieces_35 : decode cX4_readPieces 35 = .ok (.ireturn, 1) := by decide +kernel
theorem dX4_readPieces_36 : decode cX4_readPieces 36 = .ok (.iload_n 2, 1) := by decide +kernel
theorem dX4_readPieces_37 : decode cX4_readPieces 37 = .ok (.bipush 8, 2) := by decide +kernel
theorem dX4_readPieces_39 : decode cX4_readPieces 39 = .ok (.if_icmp .ne 9, 3) := by decide +kernel
theorem dX4_readPieces_42 : decode cX4_readPieces 42 = .ok (.aload_n 0, 1) := by decide +kernel
theorem dX4_readPieces_43 : decode cX4_readPieces 43 = .ok (.iconst 3, 1) := by decide +kernel
theorem dX4_readPieces_44 : decode cX4_readPieces 44 = .ok (.invokevirtual 58, 3) := by decide +kernel
theorem dX4_readPieces_47 : decode cX4_readPieces 47 = .ok (.ireturn, 1) := by decide +kernel
theorem dX4_readPieces_48 : decode cX4_readPieces 48 = .ok (.aload_n 0, 1) := by decide +kernel
theorem dX4_readPieces_49 : decode cX4_readPieces 49 = .ok (.aload_n 1, 1) := by decide +kernel
theorem dX4_readPieces_50 : decode cX4_readPieces 50 = .ok (.iload_n 2, 1) := by decide +kernel
theorem dX4_readPieces_51 : decode cX4_readPieces 51 = .ok (.invokevirtual 78, 3) := by decide +kernel
theorem dX4_readPieces_54 : decode cX4_readPieces 54 = .ok (.ifCond .ne 5, 3) := by decide +kernel
theorem dX4_readPieces_57 : decode cX4_readPieces 57 = .ok (.iconst 0, 1) := by decide +kernel
theorem dX4_readPieces_58 : decode cX4_readPieces 58 = .ok (.ireturn, 1) := by decide +kernel
theorem dX4_readPieces_59 : decode cX4_readPieces 59 = .ok (.aload_n 1, 1) := by decide +kernel
theorem dX4_readPieces_60 : decode cX4_readPieces 60 = .ok (.iload_n 2, 1) := by decide +kernel
theorem dX4_readPieces_61 : decode cX4_readPieces 61 = .ok (.iconst 1, 1) := by decide +kernel
theorem dX4_readPieces_62 : decode cX4_readPieces 62 = .ok (.iadd, 1) := by decide +kernel
theorem dX4_readPieces_63 : decode cX4_readPieces 63 = .ok (.putfield 81, 3) := by decide +kernel
theorem dX4_readPieces_66 : decode cX4_readPieces 66 = .ok (.iinc 2 1, 3) := by decide +kernel
theorem dX4_readPieces_69 : decode cX4_readPieces 69 = .ok (.goto (-67), 3) := by decide +kernel
theorem dX4_readPieces_72 : decode cX4_readPieces 72 = .ok (.iconst 1, 1) := by decide +kernel
theorem dX4_readPieces_73 : decode cX4_readPieces 73 = .ok (.ireturn, 1) := by decide +kernel
theorem dX4_readPiece_0 : decode cX4_readPiece 0 = .ok (.aload_n 1, 1) := by decide +kernel
theorem dX4_readPiece_1 : decode cX4_readPiece 1 = .ok (.getfield 84, 3) := by decide +kernel
theorem dX4_readPiece_4 : decode cX4_readPiece 4 = .ok (.iload_n 2, 1) := by decide +kernel
theorem dX4_readPiece_5 : decode cX4_readPiece 5 = .ok (.aload_n 0, 1) := by decide +kernel
theorem dX4_readPiece_6 : decode cX4_readPiece 6 = .ok (.invokevirtual 54, 3) := by decide +kernel
theorem dX4_readPiece_9 : decode cX4_readPiece 9 = .ok (.invokestatic 74, 3) := by decide +kernel
theorem dX4_readPiece_12 : decode cX4_readPiece 12 = .ok (.iastore, 1) := by decide +kernel
theorem dX4_readPiece_13 : decode cX4_readPiece 13 = .ok (.aload_n 0, 1) := by decide +kernel
theorem dX4_readPiece_14 : decode cX4_readPiece 14 = .ok (.dup, 1) := by decide +kernel
theorem dX4_readPiece_15 : decode cX4_readPiece 15 = .ok (.getfield 19, 3) := by decide +kernel
theorem dX4_readPiece_18 : decode cX4_readPiece 18 = .ok (.iconst 1, 1) := by decide +kernel
theorem dX4_readPiece_19 : decode cX4_readPiece 19 = .ok (.iadd, 1) := by decide +kernel
theorem dX4_readPiece_20 : decode cX4_readPiece 20 = .ok (.putfield 19, 3) := by decide +kernel
theorem dX4_readPiece_23 : decode cX4_readPiece 23 = .ok (.aload_n 0, 1) := by decide +kernel
theorem dX4_readPiece_24 : decode cX4_readPiece 24 = .ok (.iconst 0, 1) := by decide +kernel
theorem dX4_readPiece_25 : decode cX4_readPiece 25 = .ok (.iconst 1, 1) := by decide +kernel
theorem dX4_readPiece_26 : decode cX4_readPiece 26 = .ok (.invokevirtual 47, 3) := by decide +kernel
theorem dX4_readPiece_29 : decode cX4_readPiece 29 = .ok (.ifCond .ne 5, 3) := by decide +kernel
theorem dX4_readPiece_32 : decode cX4_readPiece 32 = .ok (.iconst 0, 1) := by decide +kernel
theorem dX4_readPiece_33 : decode cX4_readPiece 33 = .ok (.ireturn, 1) := by decide +kernel
theorem dX4_readPiece_34 : decode cX4_readPiece 34 = .ok (.aload_n 1, 1) := by decide +kernel
theorem dX4_readPiece_35 : decode cX4_readPiece 35 = .ok (.getfield 87, 3) := by decide +kernel
theorem dX4_readPiece_38 : decode cX4_readPiece 38 = .ok (.iload_n 2, 1) := by decide +kernel
theorem dX4_readPiece_39 : decode cX4_readPiece 39 = .ok (.aload_n 0, 1) := by decide +kernel
theorem dX4_readPiece_40 : decode cX4_readPiece 40 = .ok (.getfield 22, 3) := by decide +kernel
theorem dX4_readPiece_43 : decode cX4_readPiece 43 = .ok (.iastore, 1) := by decide +kernel
theorem dX4_readPiece_44 : decode cX4_readPiece 44 = .ok (.aload_n 0, 1) := by decide +kernel
theorem dX4_readPiece_45 : decode cX4_readPiece 45 = .ok (.bipush 44, 2) := by decide +kernel
theorem dX4_readPiece_47 : decode cX4_readPiece 47 = .ok (.invokevirtual 43, 3) := by decide +kernel
theorem dX4_readPiece_50 : decode cX4_readPiece 50 = .ok (.ifCond .eq 15, 3) := by decide +kernel
theorem dX4_readPiece_53 : decode cX4_readPiece 53 = .ok (.aload_n 0, 1) := by decide +kernel
theorem dX4_readPiece_54 : decode cX4_readPiece 54 = .ok (.iload_n 2, 1) := by decide +kernel
theorem dX4_readPiece_55 : decode cX4_readPiece 55 = .ok (.iconst 1, 1) := by decide +kernel
theorem dX4_readPiece_56 : decode cX4_readPiece 56 = .ok (.iadd, 1) := by decide +kernel
theorem dX4_readPiece_57 : decode cX4_readPiece 57 = .ok (.bipush 9, 2) := by decide +kernel
theorem dX4_readPiece_59 : decode cX4_readPiece 59 = .ok (.invokevirtual 47, 3) := by decide +kernel
theorem dX4_readPiece_62 : decode cX4_readPiece 62 = .ok (.ifCond .ne 5, 3) := by decide +kernel
theorem dX4_readPiece_65 : decode cX4_readPiece 65 = .ok (.iconst 0, 1) := by decide +kernel
theorem dX4_readPiece_66 : decode cX4_readPiece 66 = .ok (.ireturn, 1) := by decide +kernel
theorem dX4_readPiece_67 : decode cX4_readPiece 67 = .ok (.aload_n 1, 1) := by decide +kernel
theorem dX4_readPiece_68 : decode cX4_readPiece 68 = .ok (.getfield 90, 3) := by decide +kernel
theorem dX4_readPiece_71 : decode cX4_readPiece 71 = .ok (.iload_n 2, 1) := by decide +kernel
theorem dX4_readPiece_72 : decode cX4_readPiece 72 = .ok (.aload_n 0, 1) := by decide +kernel
theorem dX4_readPiece_73 : decode cX4_readPiece 73 = .ok (.getfield 22, 3) := by decide +kernel
theorem dX4_readPiece_76 : decode cX4_readPiece 76 = .ok (.iastore, 1) := by decide +kernel
theorem dX4_readPiece_77 : decode cX4_readPiece 77 = .ok (.aload_n 0, 1) := by decide +kernel
theorem dX4_readPiece_78 : decode cX4_readPiece 78 = .ok (.bipush 44, 2) := by decide +kernel
theorem dX4_readPiece_80 : decode cX4_readPiece 80 = .ok (.invokevirtual 43, 3) := by decide +kernel
theorem dX4_readPiece_83 : decode cX4_readPiece 83 = .ok (.ifCond .eq 15, 3) := by decide +kernel
theorem dX4_readPiece_86 : decode cX4_readPiece 86 = .ok (.aload_n 0, 1) := by decide +kernel
theorem dX4_readPiece_87 : decode cX4_readPiece 87 = .ok (.iload_n 2, 1) := by decide +kernel
theorem dX4_readPiece_88 : decode cX4_readPiece 88 = .ok (.iconst 1, 1) := by decide +kernel
theorem dX4_readPiece_89 : decode cX4_readPiece 89 = .ok (.iadd, 1) := by decide +kernel
theorem dX4_readPiece_90 : decode cX4_readPiece 90 = .ok (.bipush 9, 2) := by decide +kernel
theorem dX4_readPiece_92 : decode cX4_readPiece 92 = .ok (.invokevirtual 47, 3) := by decide +kernel
theorem dX4_readPiece_95 : decode cX4_readPiece 95 = .ok (.ifCond .ne 5, 3) := by decide +kernel
theorem dX4_readPiece_98 : decode cX4_readPiece 98 = .ok (.iconst 0, 1) := by decide +kernel
theorem dX4_readPiece_99 : decode cX4_readPiece 99 = .ok (.ireturn, 1) := by decide +kernel
theorem dX4_readPiece_100 : decode cX4_readPiece 100 = .ok (.aload_n 1, 1) := by decide +kernel
theorem dX4_readPiece_101 : decode cX4_readPiece 101 = .ok (.getfield 93, 3) := by decide +kernel
theorem dX4_readPiece_104 : decode cX4_readPiece 104 = .ok (.iload_n 2, 1) := by decide +kernel
theorem dX4_readPiece_105 : decode cX4_readPiece 105 = .ok (.aload_n 0, 1) := by decide +kernel
theorem dX4_readPiece_106 : decode cX4_readPiece 106 = .ok (.getfield 22, 3) := by decide +kernel
theorem dX4_readPiece_109 : decode cX4_readPiece 109 = .ok (.iastore, 1) := by decide +kernel
theorem dX4_readPiece_110 : decode cX4_readPiece 110 = .ok (.aload_n 0, 1) := by decide +kernel
theorem dX4_readPiece_111 : decode cX4_readPiece 111 = .ok (.bipush 59, 2) := by decide +kernel
theorem dX4_readPiece_113 : decode cX4_readPiece 113 = .ok (.invokevirtual 43, 3) := by decide +kernel
theorem dX4_readPiece_116 : decode cX4_readPiece 116 = .ok (.ireturn, 1) := by decide +kernel
theorem dX4_sortOf_0 : decode cX4_sortOf 0 = .ok (.iload_n 0, 1) := by decide +kernel
theorem dX4_sortOf_1 : decode cX4_sortOf 1 = .ok (.lookupswitch 61 #[(103, 51), (104, 55), (108, 53), (115, 57), (119, 59)], 51) := by decide +kernel
theorem dX4_sortOf_52 : decode cX4_sortOf 52 = .ok (.iconst 1, 1) := by decide +kernel
theorem dX4_sortOf_53 : decode cX4_sortOf 53 = .ok (.ireturn, 1) := by decide +kernel
theorem dX4_sortOf_54 : decode cX4_sortOf 54 = .ok (.iconst 2, 1) := by decide +kernel
theorem dX4_sortOf_55 : decode cX4_sortOf 55 = .ok (.ireturn, 1) := by decide +kernel
theorem dX4_sortOf_56 : decode cX4_sortOf 56 = .ok (.iconst 3, 1) := by decide +kernel
theorem dX4_sortOf_57 : decode cX4_sortOf 57 = .ok (.ireturn, 1) := by decide +kernel
theorem dX4_sortOf_58 : decode cX4_sortOf 58 = .ok (.iconst 4, 1) := by decide +kernel
theorem dX4_sortOf_59 : decode cX4_sortOf 59 = .ok (.ireturn, 1) := by decide +kernel
theorem dX4_sortOf_60 : decode cX4_sortOf 60 = .ok (.iconst 5, 1) := by decide +kernel
theorem dX4_sortOf_61 : decode cX4_sortOf 61 = .ok (.ireturn, 1) := by decide +kernel
theorem dX4_sortOf_62 : decode cX4_sortOf 62 = .ok (.iconst 0, 1) := by decide +kernel
theorem dX4_sortOf_63 : decode cX4_sortOf 63 = .ok (.ireturn, 1) := by decide +kernel
theorem dX4_byteAt_0 : decode cX4_byteAt 0 = .ok (.iload_n 1, 1) := by decide +kernel
theorem dX4_byteAt_1 : decode cX4_byteAt 1 = .ok (.aload_n 0, 1) := by decide +kernel
theorem dX4_byteAt_2 : decode cX4_byteAt 2 = .ok (.getfield 15, 3) := by decide +kernel
theorem dX4_byteAt_5 : decode cX4_byteAt 5 = .ok (.if_icmp .ge 18, 3) := by decide +kernel
theorem dX4_byteAt_8 : decode cX4_byteAt 8 = .ok (.iload_n 1, 1) := by decide +kernel
theorem dX4_byteAt_9 : decode cX4_byteAt 9 = .ok (.bipush 110, 2) := by decide +kernel
theorem dX4_byteAt_11 : decode cX4_byteAt 11 = .ok (.if_icmp .ge 12, 3) := by decide +kernel
theorem dX4_byteAt_14 : decode cX4_byteAt 14 = .ok (.aload_n 0, 1) := by decide +kernel
theorem dX4_byteAt_15 : decode cX4_byteAt 15 = .ok (.getfield 11, 3) := by decide +kernel
theorem dX4_byteAt_18 : decode cX4_byteAt 18 = .ok (.iload_n 1, 1) := by decide +kernel
theorem dX4_byteAt_19 : decode cX4_byteAt 19 = .ok (.iaload, 1) := by decide +kernel
theorem dX4_byteAt_20 : decode cX4_byteAt 20 = .ok (.goto 4, 3) := by decide +kernel
theorem dX4_byteAt_23 : decode cX4_byteAt 23 = .ok (.iconst (-1), 1) := by decide +kernel
theorem dX4_byteAt_24 : decode cX4_byteAt 24 = .ok (.ireturn, 1) := by decide +kernel
theorem dX4_next_0 : decode cX4_next 0 = .ok (.aload_n 0, 1) := by decide +kernel
theorem dX4_next_1 : decode cX4_next 1 = .ok (.aload_n 0, 1) := by decide +kernel
theorem dX4_next_2 : decode cX4_next 2 = .ok (.getfield 19, 3) := by decide +kernel
theorem dX4_next_5 : decode cX4_next 5 = .ok (.invokevirtual 96, 3) := by decide +kernel
theorem dX4_next_8 : decode cX4_next 8 = .ok (.ireturn, 1) := by decide +kernel
theorem dX4_isFigureAt_0 : decode cX4_isFigureAt 0 = .ok (.aload_n 0, 1) := by decide +kernel
theorem dX4_isFigureAt_1 : decode cX4_isFigureAt 1 = .ok (.iload_n 1, 1) := by decide +kernel
theorem dX4_isFigureAt_2 : decode cX4_isFigureAt 2 = .ok (.invokevirtual 96, 3) := by decide +kernel
theorem dX4_isFigureAt_5 : decode cX4_isFigureAt 5 = .ok (.istore_n 2, 1) := by decide +kernel
theorem dX4_isFigureAt_6 : decode cX4_isFigureAt 6 = .ok (.iload_n 2, 1) := by decide +kernel
theorem dX4_isFigureAt_7 : decode cX4_isFigureAt 7 = .ok (.bipush 48, 2) := by decide +kernel
theorem dX4_isFigureAt_9 : decode cX4_isFigureAt 9 = .ok (.if_icmp .lt 13, 3) := by decide +kernel
theorem dX4_isFigureAt_12 : decode cX4_isFigureAt 12 = .ok (.iload_n 2, 1) := by decide +kernel
theorem dX4_isFigureAt_13 : decode cX4_isFigureAt 13 = .ok (.bipush 57, 2) := by decide +kernel
theorem dX4_isFigureAt_15 : decode cX4_isFigureAt 15 = .ok (.if_icmp .gt 7, 3) := by decide +kernel
theorem dX4_isFigureAt_18 : decode cX4_isFigureAt 18 = .ok (.iconst 1, 1) := by decide +kernel
theorem dX4_isFigureAt_19 : decode cX4_isFigureAt 19 = .ok (.goto 4, 3) := by decide +kernel
theorem dX4_isFigureAt_22 : decode cX4_isFigureAt 22 = .ok (.iconst 0, 1) := by decide +kernel
theorem dX4_isFigureAt_23 : decode cX4_isFigureAt 23 = .ok (.ireturn, 1) := by decide +kernel
theorem dX4_fails_0 : decode cX4_fails 0 = .ok (.aload_n 0, 1) := by decide +kernel
theorem dX4_fails_1 : decode cX4_fails 1 = .ok (.iload_n 1, 1) := by decide +kernel
theorem dX4_fails_2 : decode cX4_fails 2 = .ok (.putfield 25, 3) := by decide +kernel
theorem dX4_fails_5 : decode cX4_fails 5 = .ok (.iconst 0, 1) := by decide +kernel
theorem dX4_fails_6 : decode cX4_fails 6 = .ok (.ireturn, 1) := by decide +kernel
theorem dX4_take_0 : decode cX4_take 0 = .ok (.aload_n 0, 1) := by decide +kernel
theorem dX4_take_1 : decode cX4_take 1 = .ok (.invokevirtual 54, 3) := by decide +kernel
theorem dX4_take_4 : decode cX4_take 4 = .ok (.iload_n 1, 1) := by decide +kernel
theorem dX4_take_5 : decode cX4_take 5 = .ok (.if_icmp .eq 9, 3) := by decide +kernel
theorem dX4_take_8 : decode cX4_take 8 = .ok (.aload_n 0, 1) := by decide +kernel
theorem dX4_take_9 : decode cX4_take 9 = .ok (.iconst 1, 1) := by decide +kernel
theorem dX4_take_10 : decode cX4_take 10 = .ok (.invokevirtual 58, 3) := by decide +kernel
theorem dX4_take_13 : decode cX4_take 13 = .ok (.ireturn, 1) := by decide +kernel
theorem dX4_take_14 : decode cX4_take 14 = .ok (.aload_n 0, 1) := by decide +kernel
theorem dX4_take_15 : decode cX4_take 15 = .ok (.dup, 1) := by decide +kernel
theorem dX4_take_16 : decode cX4_take 16 = .ok (.getfield 19, 3) := by decide +kernel
theorem dX4_take_19 : decode cX4_take 19 = .ok (.iconst 1, 1) := by decide +kernel
theorem dX4_take_20 : decode cX4_take 20 = .ok (.iadd, 1) := by decide +kernel
theorem dX4_take_21 : decode cX4_take 21 = .ok (.putfield 19, 3) := by decide +kernel
theorem dX4_take_24 : decode cX4_take 24 = .ok (.iconst 1, 1) := by decide +kernel
theorem dX4_take_25 : decode cX4_take 25 = .ok (.ireturn, 1) := by decide +kernel
theorem dX4_takeNumber_0 : decode cX4_takeNumber 0 = .ok (.aload_n 0, 1) := by decide +kernel
theorem dX4_takeNumber_1 : decode cX4_takeNumber 1 = .ok (.aload_n 0, 1) := by decide +kernel
theorem dX4_takeNumber_2 : decode cX4_takeNumber 2 = .ok (.getfield 19, 3) := by decide +kernel
theorem dX4_takeNumber_5 : decode cX4_takeNumber 5 = .ok (.invokevirtual 99, 3) := by decide +kernel
theorem dX4_takeNumber_8 : decode cX4_takeNumber 8 = .ok (.ifCond .eq 29, 3) := by decide +kernel
theorem dX4_takeNumber_11 : decode cX4_takeNumber 11 = .ok (.aload_n 0, 1) := by decide +kernel
theorem dX4_takeNumber_12 : decode cX4_takeNumber 12 = .ok (.aload_n 0, 1) := by decide +kernel
theorem dX4_takeNumber_13 : decode cX4_takeNumber 13 = .ok (.getfield 19, 3) := by decide +kernel
theorem dX4_takeNumber_16 : decode cX4_takeNumber 16 = .ok (.iconst 1, 1) := by decide +kernel
theorem dX4_takeNumber_17 : decode cX4_takeNumber 17 = .ok (.iadd, 1) := by decide +kernel
theorem dX4_takeNumber_18 : decode cX4_takeNumber 18 = .ok (.invokevirtual 99, 3) := by decide +kernel
theorem dX4_takeNumber_21 : decode cX4_takeNumber 21 = .ok (.ifCond .eq 22, 3) := by decide +kernel
theorem dX4_takeNumber_24 : decode cX4_takeNumber 24 = .ok (.aload_n 0, 1) := by decide +kernel
theorem dX4_takeNumber_25 : decode cX4_takeNumber 25 = .ok (.aload_n 0, 1) := by decide +kernel
theorem dX4_takeNumber_26 : decode cX4_takeNumber 26 = .ok (.getfield 19, 3) := by decide +kernel
theorem dX4_takeNumber_29 : decode cX4_takeNumber 29 = .ok (.iconst 2, 1) := by decide +kernel
theorem dX4_takeNumber_30 : decode cX4_takeNumber 30 = .ok (.iadd, 1) := by decide +kernel
theorem dX4_takeNumber_31 : decode cX4_takeNumber 31 = .ok (.invokevirtual 99, 3) := by decide +kernel
theorem dX4_takeNumber_34 : decode cX4_takeNumber 34 = .ok (.ifCond .eq 9, 3) := by decide +kernel
theorem dX4_takeNumber_37 : decode cX4_takeNumber 37 = .ok (.aload_n 0, 1) := by decide +kernel
theorem dX4_takeNumber_38 : decode cX4_takeNumber 38 = .ok (.iconst 1, 1) := by decide +kernel
theorem dX4_takeNumber_39 : decode cX4_takeNumber 39 = .ok (.invokevirtual 58, 3) := by decide +kernel
theorem dX4_takeNumber_42 : decode cX4_takeNumber 42 = .ok (.ireturn, 1) := by decide +kernel
theorem dX4_takeNumber_43 : decode cX4_takeNumber 43 = .ok (.aload_n 0, 1) := by decide +kernel
theorem dX4_takeNumber_44 : decode cX4_takeNumber 44 = .ok (.aload_n 0, 1) := by decide +kernel
theorem dX4_takeNumber_45 : decode cX4_takeNumber 45 = .ok (.getfield 19, 3) := by decide +kernel
theorem dX4_takeNumber_48 : decode cX4_takeNumber 48 = .ok (.iconst 1, 1) := by decide +kernel
theorem dX4_takeNumber_49 : decode cX4_takeNumber 49 = .ok (.iadd, 1) := by decide +kernel
theorem dX4_takeNumber_50 : decode cX4_takeNumber 50 = .ok (.invokevirtual 99, 3) := by decide +kernel
theorem dX4_takeNumber_53 : decode cX4_takeNumber 53 = .ok (.ifCond .ne 7, 3) := by decide +kernel
theorem dX4_takeNumber_56 : decode cX4_takeNumber 56 = .ok (.iconst 1, 1) := by decide +kernel
theorem dX4_takeNumber_57 : decode cX4_takeNumber 57 = .ok (.goto 4, 3) := by decide +kernel
theorem dX4_takeNumber_60 : decode cX4_takeNumber 60 = .ok (.iconst 0, 1) := by decide +kernel
theorem dX4_takeNumber_61 : decode cX4_takeNumber 61 = .ok (.istore_n 3, 1) := by decide +kernel
theorem dX4_takeNumber_62 : decode cX4_takeNumber 62 = .ok (.aload_n 0, 1) := by decide +kernel
theorem dX4_takeNumber_63 : decode cX4_takeNumber 63 = .ok (.aload_n 0, 1) := by decide +kernel
theorem dX4_takeNumber_64 : decode cX4_takeNumber 64 = .ok (.getfield 19, 3) := by decide +kernel
theorem dX4_takeNumber_67 : decode cX4_takeNumber 67 = .ok (.invokevirtual 96, 3) := by decide +kernel
theorem dX4_takeNumber_70 : decode cX4_takeNumber 70 = .ok (.bipush 48, 2) := by decide +kernel
theorem dX4_takeNumber_72 : decode cX4_takeNumber 72 = .ok (.isub, 1) := by decide +kernel
theorem dX4_takeNumber_73 : decode cX4_takeNumber 73 = .ok (.istore 4, 2) := by decide +kernel
theorem dX4_takeNumber_75 : decode cX4_takeNumber 75 = .ok (.aload_n 0, 1) := by decide +kernel
theorem dX4_takeNumber_76 : decode cX4_takeNumber 76 = .ok (.iload_n 3, 1) := by decide +kernel
theorem dX4_takeNumber_77 : decode cX4_takeNumber 77 = .ok (.ifCond .eq 8, 3) := by decide +kernel
theorem dX4_takeNumber_80 : decode cX4_takeNumber 80 = .ok (.iload 4, 2) := by decide +kernel
theorem dX4_takeNumber_82 : decode cX4_takeNumber 82 = .ok (.goto 22, 3) := by decide +kernel
theorem dX4_takeNumber_85 : decode cX4_takeNumber 85 = .ok (.iload 4, 2) := by decide +kernel
theorem dX4_takeNumber_87 : decode cX4_takeNumber 87 = .ok (.bipush 10, 2) := by decide +kernel
theorem dX4_takeNumber_89 : decode cX4_takeNumber 89 = .ok (.imul, 1) := by decide +kernel
theorem dX4_takeNumber_90 : decode cX4_takeNumber 90 = .ok (.aload_n 0, 1) := by decide +kernel
theorem dX4_takeNumber_91 : decode cX4_takeNumber 91 = .ok (.aload_n 0, 1) := by decide +kernel
theorem dX4_takeNumber_92 : decode cX4_takeNumber 92 = .ok (.getfield 19, 3) := by decide +kernel
theorem dX4_takeNumber_95 : decode cX4_takeNumber 95 = .ok (.iconst 1, 1) := by decide +kernel
theorem dX4_takeNumber_96 : decode cX4_takeNumber 96 = .ok (.iadd, 1) := by decide +kernel
theorem dX4_takeNumber_97 : decode cX4_takeNumber 97 = .ok (.invokevirtual 96, 3) := by decide +kernel
theorem dX4_takeNumber_100 : decode cX4_takeNumber 100 = .ok (.iadd, 1) := by decide +kernel
theorem dX4_takeNumber_101 : decode cX4_takeNumber 101 = .ok (.bipush 48, 2) := by decide +kernel
theorem dX4_takeNumber_103 : decode cX4_takeNumber 103 = .ok (.isub, 1) := by decide +kernel
theorem dX4_takeNumber_104 : decode cX4_takeNumber 104 = .ok (.putfield 22, 3) := by decide +kernel
theorem dX4_takeNumber_107 : decode cX4_takeNumber 107 = .ok (.aload_n 0, 1) := by decide +kernel
theorem dX4_takeNumber_108 : decode cX4_takeNumber 108 = .ok (.getfield 22, 3) := by decide +kernel
theorem dX4_takeNumber_111 : decode cX4_takeNumber 111 = .ok (.iload_n 1, 1) := by decide +kernel
theorem dX4_takeNumber_112 : decode cX4_takeNumber 112 = .ok (.if_icmp .lt 11, 3) := by decide +kernel
theorem dX4_takeNumber_115 : decode cX4_takeNumber 115 = .ok (.aload_n 0, 1) := by decide +kernel
theorem dX4_takeNumber_116 : decode cX4_takeNumber 116 = .ok (.getfield 22, 3) := by decide +kernel
theorem dX4_takeNumber_119 : decode cX4_takeNumber 119 = .ok (.iload_n 2, 1) := by decide +kernel
theorem dX4_takeNumber_120 : decode cX4_takeNumber 120 = .ok (.if_icmp .le 9, 3) := by decide +kernel
theorem dX4_takeNumber_123 : decode cX4_takeNumber 123 = .ok (.aload_n 0, 1) := by decide +kernel
theorem dX4_takeNumber_124 : decode cX4_takeNumber 124 = .ok (.iconst 2, 1) := by decide +kernel
theorem dX4_takeNumber_125 : decode cX4_takeNumber 125 = .ok (.invokevirtual 58, 3) := by decide +kernel
theorem dX4_takeNumber_128 : decode cX4_takeNumber 128 = .ok (.ireturn, 1) := by decide +kernel
theorem dX4_takeNumber_129 : decode cX4_takeNumber 129 = .ok (.aload_n 0, 1) := by decide +kernel
theorem dX4_takeNumber_130 : decode cX4_takeNumber 130 = .ok (.dup, 1) := by decide +kernel
theorem dX4_takeNumber_131 : decode cX4_takeNumber 131 = .ok (.getfield 19, 3) := by decide +kernel
theorem dX4_takeNumber_134 : decode cX4_takeNumber 134 = .ok (.iload_n 3, 1) := by decide +kernel
theorem dX4_takeNumber_135 : decode cX4_takeNumber 135 = .ok (.ifCond .eq 7, 3) := by decide +kernel
theorem dX4_takeNumber_138 : decode cX4_takeNumber 138 = .ok (.iconst 1, 1) := by decide +kernel
theorem dX4_takeNumber_139 : decode cX4_takeNumber 139 = .ok (.goto 4, 3) := by decide +kernel
theorem dX4_takeNumber_142 : decode cX4_takeNumber 142 = .ok (.iconst 2, 1) := by decide +kernel
theorem dX4_takeNumber_143 : decode cX4_takeNumber 143 = .ok (.iadd, 1) := by decide +kernel
theorem dX4_takeNumber_144 : decode cX4_takeNumber 144 = .ok (.putfield 19, 3) := by decide +kernel
theorem dX4_takeNumber_147 : decode cX4_takeNumber 147 = .ok (.iconst 1, 1) := by decide +kernel
theorem dX4_takeNumber_148 : decode cX4_takeNumber 148 = .ok (.ireturn, 1) := by decide +kernel
theorem dX5_init_0 : decode cX5_init 0 = .ok (.aload_n 0, 1) := by decide +kernel
theorem dX5_init_1 : decode cX5_init 1 = .ok (.invokespecial 3, 3) := by decide +kernel
theorem dX5_init_4 : decode cX5_init 4 = .ok (.aload_n 0, 1) := by decide +kernel
theorem dX5_init_5 : decode cX5_init 5 = .ok (.iconst 0, 1) := by decide +kernel
theorem dX5_init_6 : decode cX5_init 6 = .ok (.putfield 9, 3) := by decide +kernel
theorem dX5_init_9 : decode cX5_init 9 = .ok (.aload_n 0, 1) := by decide +kernel
theorem dX5_init_10 : decode cX5_init 10 = .ok (.iconst 0, 1) := by decide +kernel
theorem dX5_init_11 : decode cX5_init 11 = .ok (.putfield 15, 3) := by decide +kernel
theorem dX5_init_14 : decode cX5_init 14 = .ok (.aload_n 0, 1) := by decide +kernel
theorem dX5_init_15 : decode cX5_init 15 = .ok (.iconst 0, 1) := by decide +kernel
theorem dX5_init_16 : decode cX5_init 16 = .ok (.putfield 18, 3) := by decide +kernel
theorem dX5_init_19 : decode cX5_init 19 = .ok (.aload_n 0, 1) := by decide +kernel
theorem dX5_init_20 : decode cX5_init 20 = .ok (.iconst 0, 1) := by decide +kernel
theorem dX5_init_21 : decode cX5_init 21 = .ok (.putfield 21, 3) := by decide +kernel
theorem dX5_init_24 : decode cX5_init 24 = .ok (.aload_n 0, 1) := by decide +kernel
theorem dX5_init_25 : decode cX5_init 25 = .ok (.iconst 0, 1) := by decide +kernel
theorem dX5_init_26 : decode cX5_init 26 = .ok (.putfield 24, 3) := by decide +kernel
theorem dX5_init_29 : decode cX5_init 29 = .ok (.aload_n 0, 1) := by decide +kernel
theorem dX5_init_30 : decode cX5_init 30 = .ok (.bipush 6, 2) := by decide +kernel
theorem dX5_init_32 : decode cX5_init 32 = .ok (.newarray .int, 2) := by decide +kernel
theorem dX5_init_34 : decode cX5_init 34 = .ok (.putfield 27, 3) := by decide +kernel
theorem dX5_init_37 : decode cX5_init 37 = .ok (.aload_n 0, 1) := by decide +kernel
theorem dX5_init_38 : decode cX5_init 38 = .ok (.bipush 6, 2) := by decide +kernel
theorem dX5_init_40 : decode cX5_init 40 = .ok (.newarray .int, 2) := by decide +kernel
theorem dX5_init_42 : decode cX5_init 42 = .ok (.putfield 31, 3) := by decide +kernel
theorem dX5_init_45 : decode cX5_init 45 = .ok (.aload_n 0, 1) := by decide +kernel
theorem dX5_init_46 : decode cX5_init 46 = .ok (.bipush 6, 2) := by decide +kernel
theorem dX5_init_48 : decode cX5_init 48 = .ok (.newarray .int, 2) := by decide +kernel
theorem dX5_init_50 : decode cX5_init 50 = .ok (.putfield 34, 3) := by decide +kernel
theorem dX5_init_53 : decode cX5_init 53 = .ok (.aload_n 0, 1) := by decide +kernel
theorem dX5_init_54 : decode cX5_init 54 = .ok (.bipush 8, 2) := by decide +kernel
theorem dX5_init_56 : decode cX5_init 56 = .ok (.newarray .int, 2) := by decide +kernel
theorem dX5_init_58 : decode cX5_init 58 = .ok (.putfield 37, 3) := by decide +kernel
theorem dX5_init_61 : decode cX5_init 61 = .ok (.aload_n 0, 1) := by decide +kernel
theorem dX5_init_62 : decode cX5_init 62 = .ok (.bipush 8, 2) := by decide +kernel
theorem dX5_init_64 : decode cX5_init 64 = .ok (.newarray .int, 2) := by decide +kernel
theorem dX5_init_66 : decode cX5_init 66 = .ok (.putfield 40, 3) := by decide +kernel
theorem dX5_init_69 : decode cX5_init 69 = .ok (.aload_n 0, 1) := by decide +kernel
theorem dX5_init_70 : decode cX5_init 70 = .ok (.bipush 8, 2) := by decide +kernel
theorem dX5_init_72 : decode cX5_init 72 = .ok (.newarray .int, 2) := by decide +kernel
theorem dX5_init_74 : decode cX5_init 74 = .ok (.putfield 43, 3) := by decide +kernel
theorem dX5_init_77 : decode cX5_init 77 = .ok (.aload_n 0, 1) := by decide +kernel
theorem dX5_init_78 : decode cX5_init 78 = .ok (.bipush 8, 2) := by decide +kernel
theorem dX5_init_80 : decode cX5_init 80 = .ok (.newarray .int, 2) := by decide +kernel
theorem dX5_init_82 : decode cX5_init 82 = .ok (.putfield 46, 3) := by decide +kernel
theorem dX5_init_85 : decode cX5_init 85 = .ok (.aload_n 0, 1) := by decide +kernel
theorem dX5_init_86 : decode cX5_init 86 = .ok (.bipush 8, 2) := by decide +kernel
theorem dX5_init_88 : decode cX5_init 88 = .ok (.newarray .int, 2) := by decide +kernel
theorem dX5_init_90 : decode cX5_init 90 = .ok (.putfield 49, 3) := by decide +kernel
theorem dX5_init_93 : decode cX5_init 93 = .ok (.aload_n 0, 1) := by decide +kernel
theorem dX5_init_94 : decode cX5_init 94 = .ok (.bipush 8, 2) := by decide +kernel
theorem dX5_init_96 : decode cX5_init 96 = .ok (.newarray .int, 2) := by decide +kernel
theorem dX5_init_98 : decode cX5_init 98 = .ok (.putfield 52, 3) := by decide +kernel
theorem dX5_init_101 : decode cX5_init 101 = .ok (.aload_n 0, 1) := by decide +kernel
theorem dX5_init_102 : decode cX5_init 102 = .ok (.bipush 8, 2) := by decide +kernel
theorem dX5_init_104 : decode cX5_init 104 = .ok (.newarray .int, 2) := by decide +kernel
theorem dX5_init_106 : decode cX5_init 106 = .ok (.putfield 55, 3) := by decide +kernel
theorem dX5_init_109 : decode cX5_init 109 = .ok (.return_, 1) := by decide +kernel
theorem dX5_clear_0 : decode cX5_clear 0 = .ok (.aload_n 0, 1) := by decide +kernel
theorem dX5_clear_1 : decode cX5_clear 1 = .ok (.iconst 0, 1) := by decide +kernel
theorem dX5_clear_2 : decode cX5_clear 2 = .ok (.putfield 9, 3) := by decide +kernel
theorem dX5_clear_5 : decode cX5_clear 5 = .ok (.aload_n 0, 1) := by decide +kernel
theorem dX5_clear_6 : decode cX5_clear 6 = .ok (.iconst 0, 1) := by decide +kernel
theorem dX5_clear_7 : decode cX5_clear 7 = .ok (.putfield 15, 3) := by decide +kernel
theorem dX5_clear_10 : decode cX5_clear 10 = .ok (.aload_n 0, 1) := by decide +kernel
theorem dX5_clear_11 : decode cX5_clear 11 = .ok (.iconst 0, 1) := by decide +kernel
theorem dX5_clear_12 : decode cX5_clear 12 = .ok (.putfield 18, 3) := by decide +kernel
theorem dX5_clear_15 : decode cX5_clear 15 = .ok (.aload_n 0, 1) := by decide +kernel
theorem dX5_clear_16 : decode cX5_clear 16 = .ok (.iconst 0, 1) := by decide +kernel
theorem dX5_clear_17 : decode cX5_clear 17 = .ok (.putfield 21, 3) := by decide +kernel
theorem dX5_clear_20 : decode cX5_clear 20 = .ok (.aload_n 0, 1) := by decide +kernel
theorem dX5_clear_21 : decode cX5_clear 21 = .ok (.iconst 0, 1) := by decide +kernel
theorem dX5_clear_22 : decode cX5_clear 22 = .ok (.putfield 24, 3) := by decide +kernel
theorem dX5_clear_25 : decode cX5_clear 25 = .ok (.aload_n 0, 1) := by decide +kernel
theorem dX5_clear_26 : decode cX5_clear 26 = .ok (.getfield 34, 3) := by decide +kernel
theorem dX5_clear_29 : decode cX5_clear 29 = .ok (.bipush 10, 2) := by decide +kernel
theorem dX5_clear_31 : decode cX5_clear 31 = .ok (.invokestatic 58, 3) := by decide +kernel
theorem dX5_clear_34 : decode cX5_clear 34 = .ok (.aload_n 0, 1) := by decide +kernel
theorem dX5_clear_35 : decode cX5_clear 35 = .ok (.getfield 49, 3) := by decide +kernel
theorem dX5_clear_38 : decode cX5_clear 38 = .ok (.ldc 64, 2) := by decide +kernel
theorem dX5_clear_40 : decode cX5_clear 40 = .ok (.invokestatic 58, 3) := by decide +kernel
theorem dX5_clear_43 : decode cX5_clear 43 = .ok (.aload_n 0, 1) := by decide +kernel
theorem dX5_clear_44 : decode cX5_clear 44 = .ok (.getfield 52, 3) := by decide +kernel
theorem dX5_clear_47 : decode cX5_clear 47 = .ok (.iconst 0, 1) := by decide +kernel
theorem dX5_clear_48 : decode cX5_clear 48 = .ok (.invokestatic 58, 3) := by decide +kernel
theorem dX5_clear_51 : decode cX5_clear 51 = .ok (.aload_n 0, 1) := by decide +kernel
theorem dX5_clear_52 : decode cX5_clear 52 = .ok (.getfield 55, 3) := by decide +kernel
theorem dX5_clear_55 : decode cX5_clear 55 = .ok (.iconst 0, 1) := by decide +kernel
theorem dX5_clear_56 : decode cX5_clear 56 = .ok (.invokestatic 58, 3) := by decide +kernel
theorem dX5_clear_59 : decode cX5_clear 59 = .ok (.return_, 1) := by decide +kernel
theorem dX5_becomeLike_0 : decode cX5_becomeLike 0 = .ok (.aload_n 0, 1) := by decide +kernel
theorem dX5_becomeLike_1 : decode cX5_becomeLike 1 = .ok (.aload_n 1, 1) := by decide +kernel
theorem dX5_becomeLike_2 : decode cX5_becomeLike 2 = .ok (.getfield 9, 3) := by decide +kernel
theorem dX5_becomeLike_5 : decode cX5_becomeLike 5 = .ok (.putfield 9, 3) := by decide +kernel
theorem dX5_becomeLike_8 : decode cX5_becomeLike 8 = .ok (.aload_n 0, 1) := by decide +kernel
theorem dX5_becomeLike_9 : decode cX5_becomeLike 9 = .ok (.aload_n 1, 1) := by decide +kernel
theorem dX5_becomeLike_10 : decode cX5_becomeLike 10 = .ok (.getfield 15, 3) := by decide +kernel
theorem dX5_becomeLike_13 : decode cX5_becomeLike 13 = .ok (.putfield 15, 3) := by decide +kernel
theorem dX5_becomeLike_16 : decode cX5_becomeLike 16 = .ok (.aload_n 0, 1) := by decide +kernel
theorem dX5_becomeLike_17 : decode cX5_becomeLike 17 = .ok (.aload_n 1, 1) := by decide +kernel
theorem dX5_becomeLike_18 : decode cX5_becomeLike 18 = .ok (.getfield 18, 3) := by decide +kernel
theorem dX5_becomeLike_21 : decode cX5_becomeLike 21 = .ok (.putfield 18, 3) := by decide +kernel
theorem dX5_becomeLike_24 : decode cX5_becomeLike 24 = .ok (.aload_n 0, 1) := by decide +kernel
theorem dX5_becomeLike_25 : decode cX5_becomeLike 25 = .ok (.aload_n 1, 1) := by decide +kernel
theorem dX5_becomeLike_26 : decode cX5_becomeLike 26 = .ok (.getfield 21, 3) := by decide +kernel
theorem dX5_becomeLike_29 : decode cX5_becomeLike 29 = .ok (.putfield 21, 3) := by decide +kernel
theorem dX5_becomeLike_32 : decode cX5_becomeLike 32 = .ok (.aload_n 0, 1) := by decide +kernel
theorem dX5_becomeLike_33 : decode cX5_becomeLike 33 = .ok (.aload_n 1, 1) := by decide +kernel
theorem dX5_becomeLike_34 : decode cX5_becomeLike 34 = .ok (.getfield 24, 3) := by decide +kernel
theorem dX5_becomeLike_37 : decode cX5_becomeLike 37 = .ok (.putfield 24, 3) := by decide +kernel
theorem dX5_becomeLike_40 : decode cX5_becomeLike 40 = .ok (.aload_n 1, 1) := by decide +kernel
theorem dX5_becomeLike_41 : decode cX5_becomeLike 41 = .ok (.getfield 27, 3) := by decide +kernel
theorem dX5_becomeLike_44 : decode cX5_becomeLike 44 = .ok (.iconst 0, 1) := by decide +kernel
theorem dX5_becomeLike_45 : decode cX5_becomeLike 45 = .ok (.aload_n 0, 1) := by decide +kernel
theorem dX5_becomeLike_46 : decode cX5_becomeLike 46 = .ok (.getfield 27, 3) := by decide +kernel
theorem dX5_becomeLike_49 : decode cX5_becomeLike 49 = .ok (.iconst 0, 1) := by decide +kernel
theorem dX5_becomeLike_50 : decode cX5_becomeLike 50 = .ok (.bipush 6, 2) := by decide +kernel
theorem dX5_becomeLike_52 : decode cX5_becomeLike 52 = .ok (.invokestatic 65, 3) := by decide +kernel
theorem dX5_becomeLike_55 : decode cX5_becomeLike 55 = .ok (.aload_n 1, 1) := by decide +kernel
theorem dX5_becomeLike_56 : decode cX5_becomeLike 56 = .ok (.getfield 31, 3) := by decide +kernel
theorem dX5_becomeLike_59 : decode cX5_becomeLike 59 = .ok (.iconst 0, 1) := by decide +kernel
theorem dX5_becomeLike_60 : decode cX5_becomeLike 60 = .ok (.aload_n 0, 1) := by decide +kernel
theorem dX5_becomeLike_61 : decode cX5_becomeLike 61 = .ok (.getfield 31, 3) := by decide +kernel
theorem dX5_becomeLike_64 : decode cX5_becomeLike 64 = .ok (.iconst 0, 1) := by decide +kernel
theorem dX5_becomeLike_65 : decode cX5_becomeLike 65 = .ok (.bipush 6, 2) := by decide +kernel
theorem dX5_becomeLike_67 : decode cX5_becomeLike 67 = .ok (.invokestatic 65, 3) := by decide +kernel
theorem dX5_becomeLike_70 : decode cX5_becomeLike 70 = .ok (.aload_n 1, 1) := by decide +kernel
theorem dX5_becomeLike_71 : decode cX5_becomeLike 71 = .ok (.getfield 34, 3) := by decide +kernel
theorem dX5_becomeLike_74 : decode cX5_becomeLike 74 = .ok (.iconst 0, 1) := by decide +kernel
theorem dX5_becomeLike_75 : decode cX5_becomeLike 75 = .ok (.aload_n 0, 1) := by decide +kernel
theorem dX5_becomeLike_76 : decode cX5_becomeLike 76 = .ok (.getfield 34, 3) := by decide +kernel
theorem dX5_becomeLike_79 : decode cX5_becomeLike 79 = .ok (.iconst 0, 1) := by decide +kernel
theorem dX5_becomeLike_80 : decode cX5_becomeLike 80 = .ok (.bipush 6, 2) := by decide +kernel
theorem dX5_becomeLike_82 : decode cX5_becomeLike 82 = .ok (.invokestatic 65, 3) := by decide +kernel
theorem dX5_becomeLike_85 : decode cX5_becomeLike 85 = .ok (.aload_n 1, 1) := by decide +kernel
theorem dX5_becomeLike_86 : decode cX5_becomeLike 86 = .ok (.getfield 37, 3) := by decide +kernel
theorem dX5_becomeLike_89 : decode cX5_becomeLike 89 = .ok (.iconst 0, 1) := by decide +kernel
theorem dX5_becomeLike_90 : decode cX5_becomeLike 90 = .ok (.aload_n 0, 1) := by decide +kernel
theorem dX5_becomeLike_91 : decode cX5_becomeLike 91 = .ok (.getfield 37, 3) := by decide +kernel
theorem dX5_becomeLike_94 : decode cX5_becomeLike 94 = .ok (.iconst 0, 1) := by decide +kernel
theorem dX5_becomeLike_95 : decode cX5_becomeLike 95 = .ok (.bipush 8, 2) := by decide +kernel
theorem dX5_becomeLike_97 : decode cX5_becomeLike 97 = .ok (.invokestatic 65, 3) := by decide +kernel
theorem dX5_becomeLike_100 : decode cX5_becomeLike 100 = .ok (.aload_n 1, 1) := by decide +kernel
theorem dX5_becomeLike_101 : decode cX5_becomeLike 101 = .ok (.getfield 40, 3) := by decide +kernel
theorem dX5_becomeLike_104 : decode cX5_becomeLike 104 = .ok (.iconst 0, 1) := by decide +kernel
theorem dX5_becomeLike_105 : decode cX5_becomeLike 105 = .ok (.aload_n 0, 1) := by decide +kernel
theorem dX5_becomeLike_106 : decode cX5_becomeLike 106 = .ok (.getfield 40, 3) := by decide +kernel
theorem dX5_becomeLike_109 : decode cX5_becomeLike 109 = .ok (.iconst 0, 1) := by decide +kernel
theorem dX5_becomeLike_110 : decode cX5_becomeLike 110 = .ok (.bipush 8, 2) := by decide +kernel
theorem dX5_becomeLike_112 : decode cX5_becomeLike 112 = .ok (.invokestatic 65, 3) := by decide +kernel
theorem dX5_becomeLike_115 : decode cX5_becomeLike 115 = .ok (.aload_n 1, 1) := by decide +kernel
theorem dX5_becomeLike_116 : decode cX5_becomeLike 116 = .ok (.getfield 43, 3) := by decide +kernel
theorem dX5_becomeLike_119 : decode cX5_becomeLike 119 = .ok (.iconst 0, 1) := by decide +kernel
theorem dX5_becomeLike_120 : decode cX5_becomeLike 120 = .ok (.aload_n 0, 1) := by decide +kernel
theorem dX5_becomeLike_121 : decode cX5_becomeLike 121 = .ok (.getfield 43, 3) := by decide +kernel
theorem dX5_becomeLike_124 : decode cX5_becomeLike 124 = .ok (.iconst 0, 1) := by decide +kernel
theorem dX5_becomeLike_125 : decode cX5_becomeLike 125 = .ok (.bipush 8, 2) := by decide +kernel
theorem dX5_becomeLike_127 : decode cX5_becomeLike 127 = .ok (.invokestatic 65, 3) := by decide +kernel
theorem dX5_becomeLike_130 : decode cX5_becomeLike 130 = .ok (.aload_n 1, 1) := by decide +kernel
theorem dX5_becomeLike_131 : decode cX5_becomeLike 131 = .ok (.getfield 46, 3) := by decide +kernel
theorem dX5_becomeLike_134 : decode cX5_becomeLike 134 = .ok (.iconst 0, 1) := by decide +kernel
theorem dX5_becomeLike_135 : decode cX5_becomeLike 135 = .ok (.aload_n 0, 1) := by decide +kernel
theorem dX5_becomeLike_136 : decode cX5_becomeLike 136 = .ok (.getfield 46, 3) := by decide +kernel
theorem dX5_becomeLike_139 : decode cX5_becomeLike 139 = .ok (.iconst 0, 1) := by decide +kernel
theorem dX5_becomeLike_140 : decode cX5_becomeLike 140 = .ok (.bipush 8, 2) := by decide +kernel
theorem dX5_becomeLike_142 : decode cX5_becomeLike 142 = .ok (.invokestatic 65, 3) := by decide +kernel
theorem dX5_becomeLike_145 : decode cX5_becomeLike 145 = .ok (.aload_n 1, 1) := by decide +kernel
theorem dX5_becomeLike_146 : decode cX5_becomeLike 146 = .ok (.getfield 49, 3) := by decide +kernel
theorem dX5_becomeLike_149 : decode cX5_becomeLike 149 = .ok (.iconst 0, 1) := by decide +kernel
theorem dX5_becomeLike_150 : decode cX5_becomeLike 150 = .ok (.aload_n 0, 1) := by decide +kernel
theorem dX5_becomeLike_151 : decode cX5_becomeLike 151 = .ok (.getfield 49, 3) := by decide +kernel
theorem dX5_becomeLike_154 : decode cX5_becomeLike 154 = .ok (.iconst 0, 1) := by decide +kernel
theorem dX5_becomeLike_155 : decode cX5_becomeLike 155 = .ok (.bipush 8, 2) := by decide +kernel
theorem dX5_becomeLike_157 : decode cX5_becomeLike 157 = .ok (.invokestatic 65, 3) := by decide +kernel
theorem dX5_becomeLike_160 : decode cX5_becomeLike 160 = .ok (.aload_n 1, 1) := by decide +kernel
theorem dX5_becomeLike_161 : decode cX5_becomeLike 161 = .ok (.getfield 52, 3) := by decide +kernel
theorem dX5_becomeLike_164 : decode cX5_becomeLike 164 = .ok (.iconst 0, 1) := by decide +kernel
theorem dX5_becomeLike_165 : decode cX5_becomeLike 165 = .ok (.aload_n 0, 1) := by decide +kernel
theorem dX5_becomeLike_166 : decode cX5_becomeLike 166 = .ok (.getfield 52, 3) := by decide +kernel
theorem dX5_becomeLike_169 : decode cX5_becomeLike 169 = .ok (.iconst 0, 1) := by decide +kernel
theorem dX5_becomeLike_170 : decode cX5_becomeLike 170 = .ok (.bipush 8, 2) := by decide +kernel
theorem dX5_becomeLike_172 : decode cX5_becomeLike 172 = .ok (.invokestatic 65, 3) := by decide +kernel
theorem dX5_becomeLike_175 : decode cX5_becomeLike 175 = .ok (.aload_n 1, 1) := by decide +kernel
theorem dX5_becomeLike_176 : decode cX5_becomeLike 176 = .ok (.getfield 55, 3) := by decide +kernel
theorem dX5_becomeLike_179 : decode cX5_becomeLike 179 = .ok (.iconst 0, 1) := by decide +kernel
theorem dX5_becomeLike_180 : decode cX5_becomeLike 180 = .ok (.aload_n 0, 1) := by decide +kernel
theorem dX5_becomeLike_181 : decode cX5_becomeLike 181 = .ok (.getfield 55, 3) := by decide +kernel
theorem dX5_becomeLike_184 : decode cX5_becomeLike 184 = .ok (.iconst 0, 1) := by decide +kernel
theorem dX5_becomeLike_185 : decode cX5_becomeLike 185 = .ok (.bipush 8, 2) := by decide +kernel
theorem dX5_becomeLike_187 : decode cX5_becomeLike 187 = .ok (.invokestatic 65, 3) := by decide +kernel
theorem dX5_becomeLike_190 : decode cX5_becomeLike 190 = .ok (.return_, 1) := by decide +kernel
theorem dX5_pass_0 : decode cX5_pass 0 = .ok (.aload_n 0, 1) := by decide +kernel
theorem dX5_pass_1 : decode cX5_pass 1 = .ok (.invokevirtual 71, 3) := by decide +kernel
theorem dX5_pass_4 : decode cX5_pass 4 = .ok (.istore_n 1, 1) := by decide +kernel
theorem dX5_pass_5 : decode cX5_pass 5 = .ok (.iconst 0, 1) := by decide +kernel
theorem dX5_pass_6 : decode cX5_pass 6 = .ok (.istore_n 2, 1) := by decide +kernel
theorem dX5_pass_7 : decode cX5_pass 7 = .ok (.iload_n 2, 1) := by decide +kernel
theorem dX5_pass_8 : decode cX5_pass 8 = .ok (.aload_n 0, 1) := by decide +kernel
theorem dX5_pass_9 : decode cX5_pass 9 = .ok (.getfield 18, 3) := by decide +kernel
theorem dX5_pass_12 : decode cX5_pass 12 = .ok (.if_icmp .ge 28, 3) := by decide +kernel
theorem dX5_pass_15 : decode cX5_pass 15 = .ok (.iload_n 1, 1) := by decide +kernel
theorem dX5_pass_16 : decode cX5_pass 16 = .ok (.iload_n 2, 1) := by decide +kernel
theorem dX5_pass_17 : decode cX5_pass 17 = .ok (.ishr, 1) := by decide +kernel
theorem dX5_pass_18 : decode cX5_pass 18 = .ok (.iconst 1, 1) := by decide +kernel
theorem dX5_pass_19 : decode cX5_pass 19 = .ok (.iand, 1) := by decide +kernel
theorem dX5_pass_20 : decode cX5_pass 20 = .ok (.ifCond .eq 14, 3) := by decide +kernel
theorem dX5_pass_23 : decode cX5_pass 23 = .ok (.aload_n 0, 1) := by decide +kernel
theorem dX5_pass_24 : decode cX5_pass 24 = .ok (.iload_n 2, 1) := by decide +kernel
theorem dX5_pass_25 : decode cX5_pass 25 = .ok (.aload_n 0, 1) := by decide +kernel
theorem dX5_pass_26 : decode cX5_pass 26 = .ok (.getfield 34, 3) := by decide +kernel
theorem dX5_pass_29 : decode cX5_pass 29 = .ok (.iload_n 2, 1) := by decide +kernel
theorem dX5_pass_30 : decode cX5_pass 30 = .ok (.iaload, 1) := by decide +kernel
theorem dX5_pass_31 : decode cX5_pass 31 = .ok (.invokevirtual 75, 3) := by decide +kernel
theorem dX5_pass_34 : decode cX5_pass 34 = .ok (.iinc 2 1, 3) := by decide +kernel
theorem dX5_pass_37 : decode cX5_pass 37 = .ok (.goto (-30), 3) := by decide +kernel
theorem dX5_pass_40 : decode cX5_pass 40 = .ok (.aload_n 0, 1) := by decide +kernel
theorem dX5_pass_41 : decode cX5_pass 41 = .ok (.dup, 1) := by decide +kernel
theorem dX5_pass_42 : decode cX5_pass 42 = .ok (.getfield 15, 3) := by decide +kernel
theorem dX5_pass_45 : decode cX5_pass 45 = .ok (.iconst 1, 1) := by decide +kernel
theorem dX5_pass_46 : decode cX5_pass 46 = .ok (.iadd, 1) := by decide +kernel
theorem dX5_pass_47 : decode cX5_pass 47 = .ok (.putfield 15, 3) := by decide +kernel
theorem dX5_pass_50 : decode cX5_pass 50 = .ok (.return_, 1) := by decide +kernel
theorem dX5_letIn_0 : decode cX5_letIn 0 = .ok (.iconst 0, 1) := by decide +kernel
theorem dX5_letIn_1 : decode cX5_letIn 1 = .ok (.istore_n 1, 1) := by decide +kernel
theorem dX5_letIn_2 : decode cX5_letIn 2 = .ok (.iconst 0, 1) := by decide +kernel
theorem dX5_letIn_3 : decode cX5_letIn 3 = .ok (.istore_n 2, 1) := by decide +kernel
theorem dX5_letIn_4 : decode cX5_letIn 4 = .ok (.iload_n 2, 1) := by decide +kernel
theorem dX5_letIn_5 : decode cX5_letIn 5 = .ok (.aload_n 0, 1) := by decide +kernel
theorem dX5_letIn_6 : decode cX5_letIn 6 = .ok (.getfield 18, 3) := by decide +kernel
theorem dX5_letIn_9 : decode cX5_letIn 9 = .ok (.if_icmp .ge 59, 3) := by decide +kernel
theorem dX5_letIn_12 : decode cX5_letIn 12 = .ok (.aload_n 0, 1) := by decide +kernel
theorem dX5_letIn_13 : decode cX5_letIn 13 = .ok (.getfield 34, 3) := by decide +kernel
theorem dX5_letIn_16 : decode cX5_letIn 16 = .ok (.iload_n 2, 1) := by decide +kernel
theorem dX5_letIn_17 : decode cX5_letIn 17 = .ok (.iaload, 1) := by decide +kernel
theorem dX5_letIn_18 : decode cX5_letIn 18 = .ok (.bipush 10, 2) := by decide +kernel
theorem dX5_letIn_20 : decode cX5_letIn 20 = .ok (.if_icmp .ne 23, 3) := by decide +kernel
theorem dX5_letIn_23 : decode cX5_letIn 23 = .ok (.aload_n 0, 1) := by decide +kernel
theorem dX5_letIn_24 : decode cX5_letIn 24 = .ok (.getfield 31, 3) := by decide +kernel
theorem dX5_letIn_27 : decode cX5_letIn 27 = .ok (.iload_n 2, 1) := by decide +kernel
theorem dX5_letIn_28 : decode cX5_letIn 28 = .ok (.iaload, 1) := by decide +kernel
theorem dX5_letIn_29 : decode cX5_letIn 29 = .ok (.aload_n 0, 1) := by decide +kernel
theorem dX5_letIn_30 : decode cX5_letIn 30 = .ok (.getfield 15, 3) := by decide +kernel
theorem dX5_letIn_33 : decode cX5_letIn 33 = .ok (.if_icmp .gt 10, 3) := by decide +kernel
theorem dX5_letIn_36 : decode cX5_letIn 36 = .ok (.aload_n 0, 1) := by decide +kernel
theorem dX5_letIn_37 : decode cX5_letIn 37 = .ok (.getfield 34, 3) := by decide +kernel
theorem dX5_letIn_40 : decode cX5_letIn 40 = .ok (.iload_n 2, 1) := by decide +kernel
theorem dX5_letIn_41 : decode cX5_letIn 41 = .ok (.iconst 0, 1) := by decide +kernel
theorem dX5_letIn_42 : decode cX5_letIn 42 = .ok (.iastore, 1) := by decide +kernel
theorem dX5_letIn_43 : decode cX5_letIn 43 = .ok (.aload_n 0, 1) := by decide +kernel
theorem dX5_letIn_44 : decode cX5_letIn 44 = .ok (.getfield 34, 3) := by decide +kernel
theorem dX5_letIn_47 : decode cX5_letIn 47 = .ok (.iload_n 2, 1) := by decide +kernel
theorem dX5_letIn_48 : decode cX5_letIn 48 = .ok (.iaload, 1) := by decide +kernel
theorem dX5_letIn_49 : decode cX5_letIn 49 = .ok (.aload_n 0, 1) := by decide +kernel
theorem dX5_letIn_50 : decode cX5_letIn 50 = .ok (.getfield 21, 3) := by decide +kernel
theorem dX5_letIn_53 : decode cX5_letIn 53 = .ok (.if_icmp .ge 9, 3) := by decide +kernel
theorem dX5_letIn_56 : decode cX5_letIn 56 = .ok (.iload_n 1, 1) := by decide +kernel
theorem dX5_letIn_57 : decode cX5_letIn 57 = .ok (.iconst 1, 1) := by decide +kernel
theorem dX5_letIn_58 : decode cX5_letIn 58 = .ok (.iload_n 2, 1) := by decide +kernel
theorem dX5_letIn_59 : decode cX5_letIn 59 = .ok (.ishl, 1) := by decide +kernel
theorem dX5_letIn_60 : decode cX5_letIn 60 = .ok (.ior, 1) := by decide +kernel
theorem dX5_letIn_61 : decode cX5_letIn 61 = .ok (.istore_n 1, 1) := by decide +kernel
theorem dX5_letIn_62 : decode cX5_letIn 62 = .ok (.iinc 2 1, 3) := by decide +kernel
theorem dX5_letIn_65 : decode cX5_letIn 65 = .ok (.goto (-61), 3) := by decide +kernel
theorem dX5_letIn_68 : decode cX5_letIn 68 = .ok (.iload_n 1, 1) := by decide +kernel
theorem dX5_letIn_69 : decode cX5_letIn 69 = .ok (.ireturn, 1) := by decide +kernel
theorem dX5_leave_0 : decode cX5_leave 0 = .ok (.aload_n 0, 1) := by decide +kernel
theorem dX5_leave_1 : decode cX5_leave 1 = .ok (.getfield 52, 3) := by decide +kernel
theorem dX5_leave_4 : decode cX5_leave 4 = .ok (.iload_n 2, 1) := by decide +kernel
theorem dX5_leave_5 : decode cX5_leave 5 = .ok (.sipush 999, 3) := by decide +kernel
theorem dX5_leave_8 : decode cX5_leave 8 = .ok (.aload_n 0, 1) := by decide +kernel
theorem dX5_leave_9 : decode cX5_leave 9 = .ok (.getfield 52, 3) := by decide +kernel
theorem dX5_leave_12 : decode cX5_leave 12 = .ok (.iload_n 2, 1) := by decide +kernel
theorem dX5_leave_13 : decode cX5_leave 13 = .ok (.iaload, 1) := by decide +kernel
theorem dX5_leave_14 : decode cX5_leave 14 = .ok (.iconst 1, 1) := by decide +kernel
theorem dX5_leave_15 : decode cX5_leave 15 = .ok (.iadd, 1) := by decide +kernel
theorem dX5_leave_16 : decode cX5_leave 16 = .ok (.invokestatic 79, 3) := by decide +kernel
theorem dX5_leave_19 : decode cX5_leave 19 = .ok (.iastore, 1) := by decide +kernel
theorem dX5_leave_20 : decode cX5_leave 20 = .ok (.aload_n 0, 1) := by decide +kernel
theorem dX5_leave_21 : decode cX5_leave 21 = .ok (.getfield 55, 3) := by decide +kernel
theorem dX5_leave_24 : decode cX5_leave 24 = .ok (.iload_n 2, 1) := by decide +kernel
theorem dX5_leave_25 : decode cX5_leave 25 = .ok (.sipush 9999, 3) := by decide +kernel
theorem dX5_leave_28 : decode cX5_leave 28 = .ok (.aload_n 0, 1) := by decide +kernel
theorem dX5_leave_29 : decode cX5_leave 29 = .ok (.getfield 55, 3) := by decide +kernel
theorem dX5_leave_32 : decode cX5_leave 32 = .ok (.iload_n 2, 1) := by decide +kernel
theorem dX5_leave_33 : decode cX5_leave 33 = .ok (.iaload, 1) := by decide +kernel
theorem dX5_leave_34 : decode cX5_leave 34 = .ok (.aload_n 0, 1) := by decide +kernel
theorem dX5_leave_35 : decode cX5_leave 35 = .ok (.getfield 27, 3) := by decide +kernel
theorem dX5_leave_38 : decode cX5_leave 38 = .ok (.iload_n 1, 1) := by decide +kernel
theorem dX5_leave_39 : decode cX5_leave 39 = .ok (.iaload, 1) := by decide +kernel
theorem dX5_leave_40 : decode cX5_leave 40 = .ok (.iadd, 1) := by decide +kernel
theorem dX5_leave_41 : decode cX5_leave 41 = .ok (.invokestatic 79, 3) := by decide +kernel
theorem dX5_leave_44 : decode cX5_leave 44 = .ok (.iastore, 1) := by decide +kernel
theorem dX5_leave_45 : decode cX5_leave 45 = .ok (.aload_n 0, 1) := by decide +kernel
theorem dX5_leave_46 : decode cX5_leave 46 = .ok (.getfield 24, 3) := by decide +kernel
theorem dX5_leave_49 : decode cX5_leave 49 = .ok (.iload_n 2, 1) := by decide +kernel
theorem dX5_leave_50 : decode cX5_leave 50 = .ok (.ishr, 1) := by decide +kernel
theorem dX5_leave_51 : decode cX5_leave 51 = .ok (.iconst 1, 1) := by decide +kernel
theorem dX5_leave_52 : decode cX5_leave 52 = .ok (.iand, 1) := by decide +kernel
theorem dX5_leave_53 : decode cX5_leave 53 = .ok (.ifCond .eq 15, 3) := by decide +kernel
theorem dX5_leave_56 : decode cX5_leave 56 = .ok (.aload_n 0, 1) := by decide +kernel
theorem dX5_leave_57 : decode cX5_leave 57 = .ok (.iload_n 1, 1) := by decide +kernel
theorem dX5_leave_58 : decode cX5_leave 58 = .ok (.aload_n 0, 1) := by decide +kernel
theorem dX5_leave_59 : decode cX5_leave 59 = .ok (.getfield 43, 3) := by decide +kernel
theorem dX5_leave_62 : decode cX5_leave 62 = .ok (.iload_n 2, 1) := by decide +kernel
theorem dX5_leave_63 : decode cX5_leave 63 = .ok (.iaload, 1) := by decide +kernel
theorem dX5_leave_64 : decode cX5_leave 64 = .ok (.invokevirtual 85, 3) := by decide +kernel
theorem dX5_leave_67 : decode cX5_leave 67 = .ok (.return_, 1) := by decide +kernel
theorem dX5_leave_68 : decode cX5_leave 68 = .ok (.aload_n 0, 1) := by decide +kernel
theorem dX5_leave_69 : decode cX5_leave 69 = .ok (.getfield 37, 3) := by decide +kernel
theorem dX5_leave_72 : decode cX5_leave 72 = .ok (.iload_n 2, 1) := by decide +kernel
theorem dX5_leave_73 : decode cX5_leave 73 = .ok (.iaload, 1) := by decide +kernel
theorem dX5_leave_74 : decode cX5_leave 74 = .ok (.tableswitch 209 1 4 #[30, 67, 115, 173], 30) := by decide +kernel
theorem dX5_leave_104 : decode cX5_leave 104 = .ok (.aload_n 0, 1) := by decide +kernel
theorem dX5_leave_105 : decode cX5_leave 105 = .ok (.iload_n 1, 1) := by decide +kernel
theorem dX5_leave_106 : decode cX5_leave 106 = .ok (.aload_n 0, 1) := by decide +kernel
theorem dX5_leave_107 : decode cX5_leave 107 = .ok (.getfield 40, 3) := by decide +kernel
theorem dX5_leave_110 : decode cX5_leave 110 = .ok (.iload_n 2, 1) := by decide +kernel
theorem dX5_leave_111 : decode cX5_leave 111 = .ok (.iaload, 1) := by decide +kernel
theorem dX5_leave_112 : decode cX5_leave 112 = .ok (.ifCond .ne 12, 3) := by decide +kernel
theorem dX5_leave_115 : decode cX5_leave 115 = .ok (.aload_n 0, 1) := by decide +kernel
theorem dX5_leave_116 : decode cX5_leave 116 = .ok (.getfield 43, 3) := by decide +kernel
theorem dX5_leave_119 : decode cX5_leave 119 = .ok (.iload_n 2, 1) := by decide +kernel
theorem dX5_leave_120 : decode cX5_leave 120 = .ok (.iaload, 1) := by decide +kernel
theorem dX5_leave_121 : decode cX5_leave 121 = .ok (.goto 9, 3) := by decide +kernel
theorem dX5_leave_124 : decode cX5_leave 124 = .ok (.aload_n 0, 1) := by decide +kernel
theorem dX5_leave_125 : decode cX5_leave 125 = .ok (.getfield 46, 3) := by decide +kernel
theorem dX5_leave_128 : decode cX5_leave 128 = .ok (.iload_n 2, 1) := by decide +kernel
theorem dX5_leave_129 : decode cX5_leave 129 = .ok (.iaload, 1) := by decide +kernel
theorem dX5_leave_130 : decode cX5_leave 130 = .ok (.invokevirtual 85, 3) := by decide +kernel
theorem dX5_leave_133 : decode cX5_leave 133 = .ok (.aload_n 0, 1) := by decide +kernel
theorem dX5_leave_134 : decode cX5_leave 134 = .ok (.iload_n 2, 1) := by decide +kernel
theorem dX5_leave_135 : decode cX5_leave 135 = .ok (.invokevirtual 88, 3) := by decide +kernel
theorem dX5_leave_138 : decode cX5_leave 138 = .ok (.goto 176, 3) := by decide +kernel
theorem dX5_leave_141 : decode cX5_leave 141 = .ok (.aload_n 0, 1) := by decide +kernel
theorem dX5_leave_142 : decode cX5_leave 142 = .ok (.iload_n 1, 1) := by decide +kernel
theorem dX5_leave_143 : decode cX5_leave 143 = .ok (.aload_n 0, 1) := by decide +kernel
theorem dX5_leave_144 : decode cX5_leave 144 = .ok (.getfield 40, 3) := by decide +kernel
theorem dX5_leave_147 : decode cX5_leave 147 = .ok (.iload_n 2, 1) := by decide +kernel
theorem dX5_leave_148 : decode cX5_leave 148 = .ok (.iaload, 1) := by decide +kernel
theorem dX5_leave_149 : decode cX5_leave 149 = .ok (.ifCond .ne 12, 3) := by decide +kernel
theorem dX5_leave_152 : decode cX5_leave 152 = .ok (.aload_n 0, 1) := by decide +kernel
theorem dX5_leave_153 : decode cX5_leave 153 = .ok (.getfield 43, 3) := by decide +kernel
theorem dX5_leave_156 : decode cX5_leave 156 = .ok (.iload_n 2, 1) := by decide +kernel
theorem dX5_leave_157 : decode cX5_leave 157 = .ok (.iaload, 1) := by decide +kernel
theorem dX5_leave_158 : decode cX5_leave 158 = .ok (.goto 9, 3) := by decide +kernel
theorem dX5_leave_161 : decode cX5_leave 161 = .ok (.aload_n 0, 1) := by decide +kernel
theorem dX5_leave_162 : decode cX5_leave 162 = .ok (.getfield 46, 3) := by decide +kernel
theorem dX5_leave_165 : decode cX5_leave 165 = .ok (.iload_n 2, 1) := by decide +kernel
theorem dX5_leave_166 : decode cX5_leave 166 = .ok (.iaload, 1) := by decide +kernel
theorem dX5_leave_167 : decode cX5_leave 167 = .ok (.invokevirtual 85, 3) := by decide +kernel
theorem dX5_leave_170 : decode cX5_leave 170 = .ok (.aload_n 0, 1) := by decide +kernel
theorem dX5_leave_171 : decode cX5_leave 171 = .ok (.getfield 52, 3) := by decide +kernel
theorem dX5_leave_174 : decode cX5_leave 174 = .ok (.iload_n 2, 1) := by decide +kernel
theorem dX5_leave_175 : decode cX5_leave 175 = .ok (.iaload, 1) := by decide +kernel
theorem dX5_leave_176 : decode cX5_leave 176 = .ok (.iconst 2, 1) := by decide +kernel
theorem dX5_leave_177 : decode cX5_leave 177 = .ok (.irem, 1) := by decide +kernel
theorem dX5_leave_178 : decode cX5_leave 178 = .ok (.ifCond .ne 136, 3) := by decide +kernel
theorem dX5_leave_181 : decode cX5_leave 181 = .ok (.aload_n 0, 1) := by decide +kernel
theorem dX5_leave_182 : decode cX5_leave 182 = .ok (.iload_n 2, 1) := by decide +kernel
theorem dX5_leave_183 : decode cX5_leave 183 = .ok (.invokevirtual 88, 3) := by decide +kernel
theorem dX5_leave_186 : decode cX5_leave 186 = .ok (.goto 128, 3) := by decide +kernel
theorem dX5_leave_189 : decode cX5_leave 189 = .ok (.aload_n 0, 1) := by decide +kernel
theorem dX5_leave_190 : decode cX5_leave 190 = .ok (.getfield 49, 3) := by decide +kernel
theorem dX5_leave_193 : decode cX5_leave 193 = .ok (.iload_n 2, 1) := by decide +kernel
theorem dX5_leave_194 : decode cX5_leave 194 = .ok (.iaload, 1) := by decide +kernel
theorem dX5_leave_195 : decode cX5_leave 195 = .ok (.ldc 64, 2) := by decide +kernel
theorem dX5_leave_197 : decode cX5_leave 197 = .ok (.if_icmp .ne 12, 3) := by decide +kernel
theorem dX5_leave_200 : decode cX5_leave 200 = .ok (.aload_n 0, 1) := by decide +kernel
theorem dX5_leave_201 : decode cX5_leave 201 = .ok (.iload_n 1, 1) := by decide +kernel
theorem dX5_leave_202 : decode cX5_leave 202 = .ok (.iload_n 2, 1) := by decide +kernel
theorem dX5_leave_203 : decode cX5_leave 203 = .ok (.invokevirtual 92, 3) := by decide +kernel
theorem dX5_leave_206 : decode cX5_leave 206 = .ok (.goto 108, 3) := by decide +kernel
theorem dX5_leave_209 : decode cX5_leave 209 = .ok (.aload_n 0, 1) := by decide +kernel
theorem dX5_leave_210 : decode cX5_leave 210 = .ok (.aload_n 0, 1) := by decide +kernel
theorem dX5_leave_211 : decode cX5_leave 211 = .ok (.getfield 49, 3) := by decide +kernel
theorem dX5_leave_214 : decode cX5_leave 214 = .ok (.iload_n 2, 1) := by decide +kernel
theorem dX5_leave_215 : decode cX5_leave 215 = .ok (.iaload, 1) := by decide +kernel
theorem dX5_leave_216 : decode cX5_leave 216 = .ok (.aload_n 0, 1) := by decide +kernel
theorem dX5_leave_217 : decode cX5_leave 217 = .ok (.getfield 43, 3) := by decide +kernel
theorem dX5_leave_220 : decode cX5_leave 220 = .ok (.iload_n 2, 1) := by decide +kernel
theorem dX5_leave_221 : decode cX5_leave 221 = .ok (.iaload, 1) := by decide +kernel
theorem dX5_leave_222 : decode cX5_leave 222 = .ok (.invokevirtual 85, 3) := by decide +kernel
theorem dX5_leave_225 : decode cX5_leave 225 = .ok (.aload_n 0, 1) := by decide +kernel
theorem dX5_leave_226 : decode cX5_leave 226 = .ok (.iload_n 1, 1) := by decide +kernel
theorem dX5_leave_227 : decode cX5_leave 227 = .ok (.aload_n 0, 1) := by decide +kernel
theorem dX5_leave_228 : decode cX5_leave 228 = .ok (.getfield 46, 3) := by decide +kernel
theorem dX5_leave_231 : decode cX5_leave 231 = .ok (.iload_n 2, 1) := by decide +kernel
theorem dX5_leave_232 : decode cX5_leave 232 = .ok (.iaload, 1) := by decide +kernel
theorem dX5_leave_233 : decode cX5_leave 233 = .ok (.invokevirtual 85, 3) := by decide +kernel
theorem dX5_leave_236 : decode cX5_leave 236 = .ok (.aload_n 0, 1) := by decide +kernel
theorem dX5_leave_237 : decode cX5_leave 237 = .ok (.getfield 49, 3) := by decide +kernel
theorem dX5_leave_240 : decode cX5_leave 240 = .ok (.iload_n 2, 1) := by decide +kernel
theorem dX5_leave_241 : decode cX5_leave 241 = .ok (.ldc 64, 2) := by decide +kernel
theorem dX5_leave_243 : decode cX5_leave 243 = .ok (.iastore, 1) := by decide +kernel
theorem dX5_leave_244 : decode cX5_leave 244 = .ok (.goto 70, 3) := by decide +kernel
theorem dX5_leave_247 : decode cX5_leave 247 = .ok (.aload_n 0, 1) := by decide +kernel
theorem dX5_leave_248 : decode cX5_leave 248 = .ok (.iload_n 1, 1) := by decide +kernel
theorem dX5_leave_249 : decode cX5_leave 249 = .ok (.aload_n 0, 1) := by decide +kernel
theorem dX5_leave_250 : decode cX5_leave 250 = .ok (.getfield 27, 3) := by decide +kernel
theorem dX5_leave_253 : decode cX5_leave 253 = .ok (.iload_n 1, 1) := by decide +kernel
theorem dX5_leave_254 : decode cX5_leave 254 = .ok (.iaload, 1) := by decide +kernel
theorem dX5_leave_255 : decode cX5_leave 255 = .ok (.aload_n 0, 1) := by decide +kernel
theorem dX5_leave_256 : decode cX5_leave 256 = .ok (.getfield 9, 3) := by decide +kernel
theorem dX5_leave_259 : decode cX5_leave 259 = .ok (.if_icmp .lt 12, 3) := by decide +kernel
theorem dX5_leave_262 : decode cX5_leave 262 = .ok (.aload_n 0, 1) := by decide +kernel
theorem dX5_leave_263 : decode cX5_leave 263 = .ok (.getfield 46, 3) := by decide +kernel
theorem dX5_leave_266 : decode cX5_leave 266 = .ok (.iload_n 2, 1) := by decide +kernel
theorem dX5_leave_267 : decode cX5_leave 267 = .ok (.iaload, 1) := by decide +kernel
theorem dX5_leave_268 : decode cX5_leave 268 = .ok (.goto 9, 3) := by decide +kernel
theorem dX5_leave_271 : decode cX5_leave 271 = .ok (.aload_n 0, 1) := by decide +kernel
theorem dX5_leave_272 : decode cX5_leave 272 = .ok (.getfield 43, 3) := by decide +kernel
theorem dX5_leave_275 : decode cX5_leave 275 = .ok (.iload_n 2, 1) := by decide +kernel
theorem dX5_leave_276 : decode cX5_leave 276 = .ok (.iaload, 1) := by decide +kernel
theorem dX5_leave_277 : decode cX5_leave 277 = .ok (.invokevirtual 85, 3) := by decide +kernel
theorem dX5_leave_280 : decode cX5_leave 280 = .ok (.goto 34, 3) := by decide +kernel
theorem dX5_leave_283 : decode cX5_leave 283 = .ok (.aload_n 0, 1) := by decide +kernel
theorem dX5_leave_284 : decode cX5_leave 284 = .ok (.iload_n 1, 1) := by decide +kernel
theorem dX5_leave_285 : decode cX5_leave 285 = .ok (.aload_n 0, 1) := by decide +kernel
theorem dX5_leave_286 : decode cX5_leave 286 = .ok (.getfield 55, 3) := by decide +kernel
theorem dX5_leave_289 : decode cX5_leave 289 = .ok (.iload_n 2, 1) := by decide +kernel
theorem dX5_leave_290 : decode cX5_leave 290 = .ok (.iaload, 1) := by decide +kernel
theorem dX5_leave_291 : decode cX5_leave 291 = .ok (.iconst 2, 1) := by decide +kernel
theorem dX5_leave_292 : decode cX5_leave 292 = .ok (.irem, 1) := by decide +kernel
theorem dX5_leave_293 : decode cX5_leave 293 = .ok (.ifCond .ne 12, 3) := by decide +kernel
theorem dX5_leave_296 : decode cX5_leave 296 = .ok (.aload_n 0, 1) := by decide +kernel
theorem dX5_leave_297 : decode cX5_leave 297 = .ok (.getfield 46, 3) := by decide +kernel
theorem dX5_leave_300 : decode cX5_leave 300 = .ok (.iload_n 2, 1) := by decide +kernel
theorem dX5_leave_301 : decode cX5_leave 301 = .ok (.iaload, 1) := by decide +kernel
theorem dX5_leave_302 : decode cX5_leave 302 = .ok (.goto 9, 3) := by decide +kernel
theorem dX5_leave_305 : decode cX5_leave 305 = .ok (.aload_n 0, 1) := by decide +kernel
theorem dX5_leave_306 : decode cX5_leave 306 = .ok (.getfield 43, 3) := by decide +kernel
theorem dX5_leave_309 : decode cX5_leave 309 = .ok (.iload_n 2, 1) := by decide +kernel
theorem dX5_leave_310 : decode cX5_leave 310 = .ok (.iaload, 1) := by decide +kernel
theorem dX5_leave_311 : decode cX5_leave 311 = .ok (.invokevirtual 85, 3) := by decide +kernel
theorem dX5_leave_314 : decode cX5_leave 314 = .ok (.return_, 1) := by decide +kernel
theorem dX5_hold_0 : decode cX5_hold 0 = .ok (.aload_n 0, 1) := by decide +kernel
theorem dX5_hold_1 : decode cX5_hold 1 = .ok (.getfield 49, 3) := by decide +kernel
theorem dX5_hold_4 : decode cX5_hold 4 = .ok (.iload_n 2, 1) := by decide +kernel
theorem dX5_hold_5 : decode cX5_hold 5 = .ok (.iload_n 1, 1) := by decide +kernel
theorem dX5_hold_6 : decode cX5_hold 6 = .ok (.iastore, 1) := by decide +kernel
theorem dX5_hold_7 : decode cX5_hold 7 = .ok (.aload_n 0, 1) := by decide +kernel
theorem dX5_hold_8 : decode cX5_hold 8 = .ok (.getfield 34, 3) := by decide +kernel
theorem dX5_hold_11 : decode cX5_hold 11 = .ok (.iload_n 1, 1) := by decide +kernel
theorem dX5_hold_12 : decode cX5_hold 12 = .ok (.bipush 20, 2) := by decide +kernel
theorem dX5_hold_14 : decode cX5_hold 14 = .ok (.iload_n 2, 1) := by decide +kernel
theorem dX5_hold_15 : decode cX5_hold 15 = .ok (.iadd, 1) := by decide +kernel
theorem dX5_hold_16 : decode cX5_hold 16 = .ok (.iastore, 1) := by decide +kernel
theorem dX5_hold_17 : decode cX5_hold 17 = .ok (.return_, 1) := by decide +kernel
theorem dX5_send_0 : decode cX5_send 0 = .ok (.iload_n 1, 1) := by decide +kernel
theorem dX5_send_1 : decode cX5_send 1 = .ok (.ifCond .lt 37, 3) := by decide +kernel
theorem dX5_send_4 : decode cX5_send 4 = .ok (.iload_n 1, 1) := by decide +kernel
theorem dX5_send_5 : decode cX5_send 5 = .ok (.aload_n 0, 1) := by decide +kernel
theorem dX5_send_6 : decode cX5_send 6 = .ok (.getfield 18, 3) := by decide +kernel
theorem dX5_send_9 : decode cX5_send 9 = .ok (.if_icmp .ge 29, 3) := by decide +kernel
theorem dX5_send_12 : decode cX5_send 12 = .ok (.aload_n 0, 1) := by decide +kernel
theorem dX5_send_13 : decode cX5_send 13 = .ok (.getfield 34, 3) := by decide +kernel
theorem dX5_send_16 : decode cX5_send 16 = .ok (.iload_n 1, 1) := by decide +kernel
theorem dX5_send_17 : decode cX5_send 17 = .ok (.iload_n 2, 1) := by decide +kernel
theorem dX5_send_18 : decode cX5_send 18 = .ok (.aload_n 0, 1) := by decide +kernel
theorem dX5_send_19 : decode cX5_send 19 = .ok (.getfield 21, 3) := by decide +kernel
theorem dX5_send_22 : decode cX5_send 22 = .ok (.if_icmp .lt 14, 3) := by decide +kernel
theorem dX5_send_25 : decode cX5_send 25 = .ok (.iload_n 2, 1) := by decide +kernel
theorem dX5_send_26 : decode cX5_send 26 = .ok (.bipush 8, 2) := by decide +kernel
theorem dX5_send_28 : decode cX5_send 28 = .ok (.if_icmp .ge 8, 3) := by decide +kernel
theorem dX5_send_31 : decode cX5_send 31 = .ok (.bipush 8, 2) := by decide +kernel
theorem dX5_send_33 : decode cX5_send 33 = .ok (.goto 4, 3) := by decide +kernel
theorem dX5_send_36 : decode cX5_send 36 = .ok (.iload_n 2, 1) := by decide +kernel
theorem dX5_send_37 : decode cX5_send 37 = .ok (.iastore, 1) := by decide +kernel
theorem dX5_send_38 : decode cX5_send 38 = .ok (.return_, 1) := by decide +kernel
theorem dX5_swing_0 : decode cX5_swing 0 = .ok (.aload_n 0, 1) := by decide +kernel
theorem dX5_swing_1 : decode cX5_swing 1 = .ok (.getfield 40, 3) := by decide +kernel
theorem dX5_swing_4 : decode cX5_swing 4 = .ok (.iload_n 1, 1) := by decide +kernel
theorem dX5_swing_5 : decode cX5_swing 5 = .ok (.iconst 1, 1) := by decide +kernel
theorem dX5_swing_6 : decode cX5_swing 6 = .ok (.aload_n 0, 1) := by decide +kernel
theorem dX5_swing_7 : decode cX5_swing 7 = .ok (.getfield 40, 3) := by decide +kernel
theorem dX5_swing_10 : decode cX5_swing 10 = .ok (.iload_n 1, 1) := by decide +kernel
theorem dX5_swing_11 : decode cX5_swing 11 = .ok (.iaload, 1) := by decide +kernel
theorem dX5_swing_12 : decode cX5_swing 12 = .ok (.isub, 1) := by decide +kernel
theorem dX5_swing_13 : decode cX5_swing 13 = .ok (.iastore, 1) := by decide +kernel
theorem dX5_swing_14 : decode cX5_swing 14 = .ok (.return_, 1) := by decide +kernel
theorem dX5_throwAnew_0 : decode cX5_throwAnew 0 = .ok (.aload_n 0, 1) := by decide +kernel
theorem dX5_throwAnew_1 : decode cX5_throwAnew 1 = .ok (.getfield 34, 3) := by decide +kernel
theorem dX5_throwAnew_4 : decode cX5_throwAnew 4 = .ok (.iload_n 1, 1) := by decide +kernel
theorem dX5_throwAnew_5 : decode cX5_throwAnew 5 = .ok (.bipush 10, 2) := by decide +kernel
theorem dX5_throwAnew_7 : decode cX5_throwAnew 7 = .ok (.iastore, 1) := by decide +kernel
theorem dX5_throwAnew_8 : decode cX5_throwAnew 8 = .ok (.aload_n 0, 1) := by decide +kernel
theorem dX5_throwAnew_9 : decode cX5_throwAnew 9 = .ok (.getfield 27, 3) := by decide +kernel
theorem dX5_throwAnew_12 : decode cX5_throwAnew 12 = .ok (.iload_n 1, 1) := by decide +kernel
theorem dX5_throwAnew_13 : decode cX5_throwAnew 13 = .ok (.iload_n 2, 1) := by decide +kernel
theorem dX5_throwAnew_14 : decode cX5_throwAnew 14 = .ok (.iastore, 1) := by decide +kernel
theorem dX5_throwAnew_15 : decode cX5_throwAnew 15 = .ok (.aload_n 0, 1) := by decide +kernel
theorem dX5_throwAnew_16 : decode cX5_throwAnew 16 = .ok (.getfield 31, 3) := by decide +kernel
theorem dX5_throwAnew_19 : decode cX5_throwAnew 19 = .ok (.iload_n 1, 1) := by decide +kernel
theorem dX5_throwAnew_20 : decode cX5_throwAnew 20 = .ok (.aload_n 0, 1) := by decide +kernel
theorem dX5_throwAnew_21 : decode cX5_throwAnew 21 = .ok (.getfield 15, 3) := by decide +kernel
theorem dX5_throwAnew_24 : decode cX5_throwAnew 24 = .ok (.iastore, 1) := by decide +kernel
theorem dX5_throwAnew_25 : decode cX5_throwAnew 25 = .ok (.return_, 1) := by decide +kernel
theorem dX5_isInTray_0 : decode cX5_isInTray 0 = .ok (.aload_n 0, 1) := by decide +kernel
theorem dX5_isInTray_1 : decode cX5_isInTray 1 = .ok (.getfield 34, 3) := by decide +kernel
theorem dX5_isInTray_4 : decode cX5_isInTray 4 = .ok (.iload_n 1, 1) := by decide +kernel
theorem dX5_isInTray_5 : decode cX5_isInTray 5 = .ok (.iaload, 1) := by decide +kernel
theorem dX5_isInTray_6 : decode cX5_isInTray 6 = .ok (.bipush 8, 2) := by decide +kernel
theorem dX5_isInTray_8 : decode cX5_isInTray 8 = .ok (.if_icmp .eq 14, 3) := by decide +kernel
theorem dX5_isInTray_11 : decode cX5_isInTray 11 = .ok (.aload_n 0, 1) := by decide +kernel
theorem dX5_isInTray_12 : decode cX5_isInTray 12 = .ok (.getfield 34, 3) := by decide +kernel
theorem dX5_isInTray_15 : decode cX5_isInTray 15 = .ok (.iload_n 1, 1) := by decide +kernel
theorem dX5_isInTray_16 : decode cX5_isInTray 16 = .ok (.iaload, 1) := by decide +kernel
theorem dX5_isInTray_17 : decode cX5_isInTray 17 = .ok (.bipush 9, 2) := by decide +kernel
theorem dX5_isInTray_19 : decode cX5_isInTray 19 = .ok (.if_icmp .ne 7, 3) := by decide +kernel
theorem dX5_isInTray_22 : decode cX5_isInTray 22 = .ok (.iconst 1, 1) := by decide +kernel
theorem dX5_isInTray_23 : decode cX5_isInTray 23 = .ok (.goto 4, 3) := by decide +kernel
theorem dX5_isInTray_26 : decode cX5_isInTray 26 = .ok (.iconst 0, 1) := by decide +kernel
theorem dX5_isInTray_27 : decode cX5_isInTray 27 = .ok (.ireturn, 1) := by decide +kernel
theorem dX5_isAstir_0 : decode cX5_isAstir 0 = .ok (.iconst 0, 1) := by decide +kernel
theorem dX5_isAstir_1 : decode cX5_isAstir 1 = .ok (.istore_n 1, 1) := by decide +kernel
theorem dX5_isAstir_2 : decode cX5_isAstir 2 = .ok (.iload_n 1, 1) := by decide +kernel
theorem dX5_isAstir_3 : decode cX5_isAstir 3 = .ok (.aload_n 0, 1) := by decide +kernel
theorem dX5_isAstir_4 : decode cX5_isAstir 4 = .ok (.getfield 18, 3) := by decide +kernel
theorem dX5_isAstir_7 : decode cX5_isAstir 7 = .ok (.if_icmp .ge 33, 3) := by decide +kernel
theorem dX5_isAstir_10 : decode cX5_isAstir 10 = .ok (.aload_n 0, 1) := by decide +kernel
theorem dX5_isAstir_11 : decode cX5_isAstir 11 = .ok (.getfield 34, 3) := by decide +kernel
theorem dX5_isAstir_14 : decode cX5_isAstir 14 = .ok (.iload_n 1, 1) := by decide +kernel
theorem dX5_isAstir_15 : decode cX5_isAstir 15 = .ok (.iaload, 1) := by decide +kernel
theorem dX5_isAstir_16 : decode cX5_isAstir 16 = .ok (.bipush 8, 2) := by decide +kernel
theorem dX5_isAstir_18 : decode cX5_isAstir 18 = .ok (.if_icmp .lt 14, 3) := by decide +kernel
theorem dX5_isAstir_21 : decode cX5_isAstir 21 = .ok (.aload_n 0, 1) := by decide +kernel
theorem dX5_isAstir_22 : decode cX5_isAstir 22 = .ok (.getfield 34, 3) := by decide +kernel
theorem dX5_isAstir_25 : decode cX5_isAstir 25 = .ok (.iload_n 1, 1) := by decide +kernel
theorem dX5_isAstir_26 : decode cX5_isAstir 26 = .ok (.iaload, 1) := by decide +kernel
theorem dX5_isAstir_27 : decode cX5_isAstir 27 = .ok (.bipush 10, 2) := by decide +kernel
theorem dX5_isAstir_29 : decode cX5_isAstir 29 = .ok (.if_icmp .ne 5, 3) := by decide +kernel
theorem dX5_isAstir_32 : decode cX5_isAstir 32 = .ok (.iconst 1, 1) := by decide +kernel
theorem dX5_isAstir_33 : decode cX5_isAstir 33 = .ok (.ireturn, 1) := by decide +kernel
theorem dX5_isAstir_34 : decode cX5_isAstir 34 = .ok (.iinc 1 1, 3) := by decide +kernel
theorem dX5_isAstir_37 : decode cX5_isAstir 37 = .ok (.goto (-35), 3) := by decide +kernel
theorem dX5_isAstir_40 : decode cX5_isAstir 40 = .ok (.iconst 0, 1) := by decide +kernel
theorem dX5_isAstir_41 : decode cX5_isAstir 41 = .ok (.ireturn, 1) := by decide +kernel
theorem dX5_bitsBetween_0 : decode cX5_bitsBetween 0 = .ok (.iconst 0, 1) := by decide +kernel
theorem dX5_bitsBetween_1 : decode cX5_bitsBetween 1 = .ok (.istore_n 3, 1) := by decide +kernel
theorem dX5_bitsBetween_2 : decode cX5_bitsBetween 2 = .ok (.iconst 0, 1) := by decide +kernel
theorem dX5_bitsBetween_3 : decode cX5_bitsBetween 3 = .ok (.istore 4, 2) := by decide +kernel
theorem dX5_bitsBetween_5 : decode cX5_bitsBetween 5 = .ok (.iload 4, 2) := by decide +kernel
theorem dX5_bitsBetween_7 : decode cX5_bitsBetween 7 = .ok (.aload_n 0, 1) := by decide +kernel
theorem dX5_bitsBetween_8 : decode cX5_bitsBetween 8 = .ok (.getfield 18, 3) := by decide +kernel
theorem dX5_bitsBetween_11 : decode cX5_bitsBetween 11 = .ok (.if_icmp .ge 38, 3) := by decide +kernel
theorem dX5_bitsBetween_14 : decode cX5_bitsBetween 14 = .ok (.aload_n 0, 1) := by decide +kernel
theorem dX5_bitsBetween_15 : decode cX5_bitsBetween 15 = .ok (.getfield 34, 3) := by decide +kernel
theorem dX5_bitsBetween_18 : decode cX5_bitsBetween 18 = .ok (.iload 4, 2) := by decide +kernel
theorem dX5_bitsBetween_20 : decode cX5_bitsBetween 20 = .ok (.iaload, 1) := by decide +kernel
theorem dX5_bitsBetween_21 : decode cX5_bitsBetween 21 = .ok (.iload_n 1, 1) := by decide +kernel
theorem dX5_bitsBetween_22 : decode cX5_bitsBetween 22 = .ok (.if_icmp .lt 21, 3) := by decide +kernel
theorem dX5_bitsBetween_25 : decode cX5_bitsBetween 25 = .ok (.aload_n 0, 1) := by decide +kernel
theorem dX5_bitsBetween_26 : decode cX5_bitsBetween 26 = .ok (.getfield 34, 3) := by decide +kernel
theorem dX5_bitsBetween_29 : decode cX5_bitsBetween 29 = .ok (.iload 4, 2) := by decide +kernel
theorem dX5_bitsBetween_31 : decode cX5_bitsBetween 31 = .ok (.iaload, 1) := by decide +kernel
theorem dX5_bitsBetween_32 : decode cX5_bitsBetween 32 = .ok (.iload_n 2, 1) := by decide +kernel
theorem dX5_bitsBetween_33 : decode cX5_bitsBetween 33 = .ok (.if_icmp .gt 10, 3) := by decide +kernel
theorem dX5_bitsBetween_36 : decode cX5_bitsBetween 36 = .ok (.iload_n 3, 1) := by decide +kernel
theorem dX5_bitsBetween_37 : decode cX5_bitsBetween 37 = .ok (.iconst 1, 1) := by decide +kernel
theorem dX5_bitsBetween_38 : decode cX5_bitsBetween 38 = .ok (.iload 4, 2) := by decide +kernel
theorem dX5_bitsBetween_40 : decode cX5_bitsBetween 40 = .ok (.ishl, 1) := by decide +kernel
theorem dX5_bitsBetween_41 : decode cX5_bitsBetween 41 = .ok (.ior, 1) := by decide +kernel
theorem dX5_bitsBetween_42 : decode cX5_bitsBetween 42 = .ok (.istore_n 3, 1) := by decide +kernel
theorem dX5_bitsBetween_43 : decode cX5_bitsBetween 43 = .ok (.iinc 4 1, 3) := by decide +kernel
theorem dX5_bitsBetween_46 : decode cX5_bitsBetween 46 = .ok (.goto (-41), 3) := by decide +kernel
theorem dX5_bitsBetween_49 : decode cX5_bitsBetween 49 = .ok (.iload_n 3, 1) := by decide +kernel
theorem dX5_bitsBetween_50 : decode cX5_bitsBetween 50 = .ok (.ireturn, 1) := by decide +kernel
theorem dX5_bitsAt_0 : decode cX5_bitsAt 0 = .ok (.aload_n 0, 1) := by decide +kernel
theorem dX5_bitsAt_1 : decode cX5_bitsAt 1 = .ok (.iload_n 1, 1) := by decide +kernel
theorem dX5_bitsAt_2 : decode cX5_bitsAt 2 = .ok (.iload_n 1, 1) := by decide +kernel
theorem dX5_bitsAt_3 : decode cX5_bitsAt 3 = .ok (.invokevirtual 95, 3) := by decide +kernel
theorem dX5_bitsAt_6 : decode cX5_bitsAt 6 = .ok (.ireturn, 1) := by decide +kernel
theorem dX5_bitsRunning_0 : decode cX5_bitsRunning 0 = .ok (.aload_n 0, 1) := by decide +kernel
theorem dX5_bitsRunning_1 : decode cX5_bitsRunning 1 = .ok (.iconst 0, 1) := by decide +kernel
theorem dX5_bitsRunning_2 : decode cX5_bitsRunning 2 = .ok (.bipush 7, 2) := by decide +kernel
theorem dX5_bitsRunning_4 : decode cX5_bitsRunning 4 = .ok (.invokevirtual 95, 3) := by decide +kernel
theorem dX5_bitsRunning_7 : decode cX5_bitsRunning 7 = .ok (.ireturn, 1) := by decide +kernel
theorem dX5_bitsHeld_0 : decode cX5_bitsHeld 0 = .ok (.aload_n 0, 1) := by decide +kernel
theorem dX5_bitsHeld_1 : decode cX5_bitsHeld 1 = .ok (.bipush 20, 2) := by decide +kernel
theorem dX5_bitsHeld_3 : decode cX5_bitsHeld 3 = .ok (.bipush 27, 2) := by decide +kernel
theorem dX5_bitsHeld_5 : decode cX5_bitsHeld 5 = .ok (.invokevirtual 95, 3) := by decide +kernel
theorem dX5_bitsHeld_8 : decode cX5_bitsHeld 8 = .ok (.ireturn, 1) := by decide +kernel
theorem dX5_bitsOutOfTrays_0 : decode cX5_bitsOutOfTrays 0 = .ok (.iconst 1, 1) := by decide +kernel
theorem dX5_bitsOutOfTrays_1 : decode cX5_bitsOutOfTrays 1 = .ok (.aload_n 0, 1) := by decide +kernel
theorem dX5_bitsOutOfTrays_2 : decode cX5_bitsOutOfTrays 2 = .ok (.getfield 18, 3) := by decide +kernel
theorem dX5_bitsOutOfTrays_5 : decode cX5_bitsOutOfTrays 5 = .ok (.ishl, 1) := by decide +kernel
theorem dX5_bitsOutOfTrays_6 : decode cX5_bitsOutOfTrays 6 = .ok (.iconst 1, 1) := by decide +kernel
theorem dX5_bitsOutOfTrays_7 : decode cX5_bitsOutOfTrays 7 = .ok (.isub, 1) := by decide +kernel
theorem dX5_bitsOutOfTrays_8 : decode cX5_bitsOutOfTrays 8 = .ok (.aload_n 0, 1) := by decide +kernel
theorem dX5_bitsOutOfTrays_9 : decode cX5_bitsOutOfTrays 9 = .ok (.bipush 8, 2) := by decide +kernel
theorem dX5_bitsOutOfTrays_11 : decode cX5_bitsOutOfTrays 11 = .ok (.invokevirtual 98, 3) := by decide +kernel
theorem dX5_bitsOutOfTrays_14 : decode cX5_bitsOutOfTrays 14 = .ok (.iconst (-1), 1) := by decide +kernel
theorem dX5_bitsOutOfTrays_15 : decode cX5_bitsOutOfTrays 15 = .ok (.ixor, 1) := by decide +kernel
theorem dX5_bitsOutOfTrays_16 : decode cX5_bitsOutOfTrays 16 = .ok (.iand, 1) := by decide +kernel
theorem dX5_bitsOutOfTrays_17 : decode cX5_bitsOutOfTrays 17 = .ok (.aload_n 0, 1) := by decide +kernel
theorem dX5_bitsOutOfTrays_18 : decode cX5_bitsOutOfTrays 18 = .ok (.bipush 9, 2) := by decide +kernel
theorem dX5_bitsOutOfTrays_20 : decode cX5_bitsOutOfTrays 20 = .ok (.invokevirtual 98, 3) := by decide +kernel
theorem dX5_bitsOutOfTrays_23 : decode cX5_bitsOutOfTrays 23 = .ok (.iconst (-1), 1) := by decide +kernel
theorem dX5_bitsOutOfTrays_24 : decode cX5_bitsOutOfTrays 24 = .ok (.ixor, 1) := by decide +kernel
theorem dX5_bitsOutOfTrays_25 : decode cX5_bitsOutOfTrays 25 = .ok (.iand, 1) := by decide +kernel
theorem dX5_bitsOutOfTrays_26 : decode cX5_bitsOutOfTrays 26 = .ok (.ireturn, 1) := by decide +kernel
theorem dX5_manyAt_0 : decode cX5_manyAt 0 = .ok (.aload_n 0, 1) := by decide +kernel
theorem dX5_manyAt_1 : decode cX5_manyAt 1 = .ok (.iload_n 1, 1) := by decide +kernel
theorem dX5_manyAt_2 : decode cX5_manyAt 2 = .ok (.invokevirtual 98, 3) := by decide +kernel
theorem dX5_manyAt_5 : decode cX5_manyAt 5 = .ok (.invokestatic 102, 3) := by decide +kernel
theorem dX5_manyAt_8 : decode cX5_manyAt 8 = .ok (.ireturn, 1) := by decide +kernel
theorem dX5_weightOf_0 : decode cX5_weightOf 0 = .ok (.iconst 0, 1) := by decide +kernel
theorem dX5_weightOf_1 : decode cX5_weightOf 1 = .ok (.istore_n 2, 1) := by decide +kernel
theorem dX5_weightOf_2 : decode cX5_weightOf 2 = .ok (.iconst 0, 1) := by decide +kernel
theorem dX5_weightOf_3 : decode cX5_weightOf 3 = .ok (.istore_n 3, 1) := by decide +kernel
theorem dX5_weightOf_4 : decode cX5_weightOf 4 = .ok (.iload_n 3, 1) := by decide +kernel
theorem dX5_weightOf_5 : decode cX5_weightOf 5 = .ok (.aload_n 0, 1) := by decide +kernel
theorem dX5_weightOf_6 : decode cX5_weightOf 6 = .ok (.getfield 18, 3) := by decide +kernel
theorem dX5_weightOf_9 : decode cX5_weightOf 9 = .ok (.if_icmp .ge 26, 3) := by decide +kernel
theorem dX5_weightOf_12 : decode cX5_weightOf 12 = .ok (.iload_n 1, 1) := by decide +kernel
theorem dX5_weightOf_13 : decode cX5_weightOf 13 = .ok (.iload_n 3, 1) := by decide +kernel
theorem dX5_weightOf_14 : decode cX5_weightOf 14 = .ok (.ishr, 1) := by decide +kernel
theorem dX5_weightOf_15 : decode cX5_weightOf 15 = .ok (.iconst 1, 1) := by decide +kernel
theorem dX5_weightOf_16 : decode cX5_weightOf 16 = .ok (.iand, 1) := by decide +kernel
theorem dX5_weightOf_17 : decode cX5_weightOf 17 = .ok (.ifCond .eq 12, 3) := by decide +kernel
theorem dX5_weightOf_20 : decode cX5_weightOf 20 = .ok (.iload_n 2, 1) := by decide +kernel
theorem dX5_weightOf_21 : decode cX5_weightOf 21 = .ok (.aload_n 0, 1) := by decide +kernel
theorem dX5_weightOf_22 : decode cX5_weightOf 22 = .ok (.getfield 27, 3) := by decide +kernel
theorem dX5_weightOf_25 : decode cX5_weightOf 25 = .ok (.iload_n 3, 1) := by decide +kernel
theorem dX5_weightOf_26 : decode cX5_weightOf 26 = .ok (.iaload, 1) := by decide +kernel
theorem dX5_weightOf_27 : decode cX5_weightOf 27 = .ok (.iadd, 1) := by decide +kernel
theorem dX5_weightOf_28 : decode cX5_weightOf 28 = .ok (.istore_n 2, 1) := by decide +kernel
theorem dX5_weightOf_29 : decode cX5_weightOf 29 = .ok (.iinc 3 1, 3) := by decide +kernel
theorem dX5_weightOf_32 : decode cX5_weightOf 32 = .ok (.goto (-28), 3) := by decide +kernel
theorem dX5_weightOf_35 : decode cX5_weightOf 35 = .ok (.iload_n 2, 1) := by decide +kernel
theorem dX5_weightOf_36 : decode cX5_weightOf 36 = .ok (.ireturn, 1) := by decide +kernel
theorem dX5_wentOfAll_0 : decode cX5_wentOfAll 0 = .ok (.iconst 0, 1) := by decide +kernel
theorem dX5_wentOfAll_1 : decode cX5_wentOfAll 1 = .ok (.istore_n 1, 1) := by decide +kernel
theorem dX5_wentOfAll_2 : decode cX5_wentOfAll 2 = .ok (.iconst 0, 1) := by decide +kernel
theorem dX5_wentOfAll_3 : decode cX5_wentOfAll 3 = .ok (.istore_n 2, 1) := by decide +kernel
theorem dX5_wentOfAll_4 : decode cX5_wentOfAll 4 = .ok (.iload_n 2, 1) := by decide +kernel
theorem dX5_wentOfAll_5 : decode cX5_wentOfAll 5 = .ok (.aload_n 0, 1) := by decide +kernel
theorem dX5_wentOfAll_6 : decode cX5_wentOfAll 6 = .ok (.getfield 21, 3) := by decide +kernel
theorem dX5_wentOfAll_9 : decode cX5_wentOfAll 9 = .ok (.if_icmp .ge 18, 3) := by decide +kernel
theorem dX5_wentOfAll_12 : decode cX5_wentOfAll 12 = .ok (.iload_n 1, 1) := by decide +kernel
theorem dX5_wentOfAll_13 : decode cX5_wentOfAll 13 = .ok (.aload_n 0, 1) := by decide +kernel
theorem dX5_wentOfAll_14 : decode cX5_wentOfAll 14 = .ok (.getfield 52, 3) := by decide +kernel
theorem dX5_wentOfAll_17 : decode cX5_wentOfAll 17 = .ok (.iload_n 2, 1) := by decide +kernel
theorem dX5_wentOfAll_18 : decode cX5_wentOfAll 18 = .ok (.iaload, 1) := by decide +kernel
theorem dX5_wentOfAll_19 : decode cX5_wentOfAll 19 = .ok (.iadd, 1) := by decide +kernel
theorem dX5_wentOfAll_20 : decode cX5_wentOfAll 20 = .ok (.istore_n 1, 1) := by decide +kernel
theorem dX5_wentOfAll_21 : decode cX5_wentOfAll 21 = .ok (.iinc 2 1, 3) := by decide +kernel
theorem dX5_wentOfAll_24 : decode cX5_wentOfAll 24 = .ok (.goto (-20), 3) := by decide +kernel
theorem dX5_wentOfAll_27 : decode cX5_wentOfAll 27 = .ok (.iload_n 1, 1) := by decide +kernel
theorem dX5_wentOfAll_28 : decode cX5_wentOfAll 28 = .ok (.ireturn, 1) := by decide +kernel
theorem dX5_bitsPointed_0 : decode cX5_bitsPointed 0 = .ok (.iconst 0, 1) := by decide +kernel
theorem dX5_bitsPointed_1 : decode cX5_bitsPointed 1 = .ok (.istore_n 1, 1) := by decide +kernel
theorem dX5_bitsPointed_2 : decode cX5_bitsPointed 2 = .ok (.iconst 0, 1) := by decide +kernel
theorem dX5_bitsPointed_3 : decode cX5_bitsPointed 3 = .ok (.istore_n 2, 1) := by decide +kernel
theorem dX5_bitsPointed_4 : decode cX5_bitsPointed 4 = .ok (.iload_n 2, 1) := by decide +kernel
theorem dX5_bitsPointed_5 : decode cX5_bitsPointed 5 = .ok (.aload_n 0, 1) := by decide +kernel
theorem dX5_bitsPointed_6 : decode cX5_bitsPointed 6 = .ok (.getfield 21, 3) := by decide +kernel
theorem dX5_bitsPointed_9 : decode cX5_bitsPointed 9 = .ok (.if_icmp .ge 35, 3) := by decide +kernel
theorem dX5_bitsPointed_12 : decode cX5_bitsPointed 12 = .ok (.aload_n 0, 1) := by decide +kernel
theorem dX5_bitsPointed_13 : decode cX5_bitsPointed 13 = .ok (.getfield 37, 3) := by decide +kernel
theorem dX5_bitsPointed_16 : decode cX5_bitsPointed 16 = .ok (.iload_n 2, 1) := by decide +kernel
theorem dX5_bitsPointed_17 : decode cX5_bitsPointed 17 = .ok (.iaload, 1) := by decide +kernel
theorem dX5_bitsPointed_18 : decode cX5_bitsPointed 18 = .ok (.iconst 1, 1) := by decide +kernel
theorem dX5_bitsPointed_19 : decode cX5_bitsPointed 19 = .ok (.if_icmp .eq 13, 3) := by decide +kernel
theorem dX5_bitsPointed_22 : decode cX5_bitsPointed 22 = .ok (.aload_n 0, 1) := by decide +kernel
theorem dX5_bitsPointed_23 : decode cX5_bitsPointed 23 = .ok (.getfield 37, 3) := by decide +kernel
theorem dX5_bitsPointed_26 : decode cX5_bitsPointed 26 = .ok (.iload_n 2, 1) := by decide +kernel
theorem dX5_bitsPointed_27 : decode cX5_bitsPointed 27 = .ok (.iaload, 1) := by decide +kernel
theorem dX5_bitsPointed_28 : decode cX5_bitsPointed 28 = .ok (.iconst 2, 1) := by decide +kernel
theorem dX5_bitsPointed_29 : decode cX5_bitsPointed 29 = .ok (.if_icmp .ne 9, 3) := by decide +kernel
theorem dX5_bitsPointed_32 : decode cX5_bitsPointed 32 = .ok (.iload_n 1, 1) := by decide +kernel
theorem dX5_bitsPointed_33 : decode cX5_bitsPointed 33 = .ok (.iconst 1, 1) := by decide +kernel
theorem dX5_bitsPointed_34 : decode cX5_bitsPointed 34 = .ok (.iload_n 2, 1) := by decide +kernel
theorem dX5_bitsPointed_35 : decode cX5_bitsPointed 35 = .ok (.ishl, 1) := by decide +kernel
theorem dX5_bitsPointed_36 : decode cX5_bitsPointed 36 = .ok (.ior, 1) := by decide +kernel
theorem dX5_bitsPointed_37 : decode cX5_bitsPointed 37 = .ok (.istore_n 1, 1) := by decide +kernel
theorem dX5_bitsPointed_38 : decode cX5_bitsPointed 38 = .ok (.iinc 2 1, 3) := by decide +kernel
theorem dX5_bitsPointed_41 : decode cX5_bitsPointed 41 = .ok (.goto (-37), 3) := by decide +kernel
theorem dX5_bitsPointed_44 : decode cX5_bitsPointed 44 = .ok (.iload_n 1, 1) := by decide +kernel
theorem dX5_bitsPointed_45 : decode cX5_bitsPointed 45 = .ok (.ireturn, 1) := by decide +kernel
theorem dX5_swingAll_0 : decode cX5_swingAll 0 = .ok (.iconst 0, 1) := by decide +kernel
theorem dX5_swingAll_1 : decode cX5_swingAll 1 = .ok (.istore_n 2, 1) := by decide +kernel
theorem dX5_swingAll_2 : decode cX5_swingAll 2 = .ok (.iload_n 2, 1) := by decide +kernel
theorem dX5_swingAll_3 : decode cX5_swingAll 3 = .ok (.aload_n 0, 1) := by decide +kernel
theorem dX5_swingAll_4 : decode cX5_swingAll 4 = .ok (.getfield 21, 3) := by decide +kernel
theorem dX5_swingAll_7 : decode cX5_swingAll 7 = .ok (.if_icmp .ge 22, 3) := by decide +kernel
theorem dX5_swingAll_10 : decode cX5_swingAll 10 = .ok (.iload_n 1, 1) := by decide +kernel
theorem dX5_swingAll_11 : decode cX5_swingAll 11 = .ok (.iload_n 2, 1) := by decide +kernel
theorem dX5_swingAll_12 : decode cX5_swingAll 12 = .ok (.ishr, 1) := by decide +kernel
theorem dX5_swingAll_13 : decode cX5_swingAll 13 = .ok (.iconst 1, 1) := by decide +kernel
theorem dX5_swingAll_14 : decode cX5_swingAll 14 = .ok (.iand, 1) := by decide +kernel
theorem dX5_swingAll_15 : decode cX5_swingAll 15 = .ok (.ifCond .eq 8, 3) := by decide +kernel
theorem dX5_swingAll_18 : decode cX5_swingAll 18 = .ok (.aload_n 0, 1) := by decide +kernel
theorem dX5_swingAll_19 : decode cX5_swingAll 19 = .ok (.iload_n 2, 1) := by decide +kernel
theorem dX5_swingAll_20 : decode cX5_swingAll 20 = .ok (.invokevirtual 88, 3) := by decide +kernel
theorem dX5_swingAll_23 : decode cX5_swingAll 23 = .ok (.iinc 2 1, 3) := by decide +kernel
theorem dX5_swingAll_26 : decode cX5_swingAll 26 = .ok (.goto (-24), 3) := by decide +kernel
theorem dX5_swingAll_29 : decode cX5_swingAll 29 = .ok (.return_, 1) := by decide +kernel
theorem dX6_init_0 : decode cX6_init 0 = .ok (.aload_n 0, 1) := by decide +kernel
theorem dX6_init_1 : decode cX6_init 1 = .ok (.invokespecial 1, 3) := by decide +kernel
theorem dX6_init_4 : decode cX6_init 4 = .ok (.aload_n 0, 1) := by decide +kernel
theorem dX6_init_5 : decode cX6_init 5 = .ok (.new 7, 3) := by decide +kernel
theorem dX6_init_8 : decode cX6_init 8 = .ok (.dup, 1) := by decide +kernel
theorem dX6_init_9 : decode cX6_init 9 = .ok (.invokespecial 9, 3) := by decide +kernel
theorem dX6_init_12 : decode cX6_init 12 = .ok (.putfield 10, 3) := by decide +kernel
theorem dX6_init_15 : decode cX6_init 15 = .ok (.aload_n 0, 1) := by decide +kernel
theorem dX6_init_16 : decode cX6_init 16 = .ok (.new 16, 3) := by decide +kernel
theorem dX6_init_19 : decode cX6_init 19 = .ok (.dup, 1) := by decide +kernel
theorem dX6_init_20 : decode cX6_init 20 = .ok (.invokespecial 18, 3) := by decide +kernel
theorem dX6_init_23 : decode cX6_init 23 = .ok (.putfield 19, 3) := by decide +kernel
theorem dX6_init_26 : decode cX6_init 26 = .ok (.aload_n 0, 1) := by decide +kernel
theorem dX6_init_27 : decode cX6_init 27 = .ok (.new 23, 3) := by decide +kernel
theorem dX6_init_30 : decode cX6_init 30 = .ok (.dup, 1) := by decide +kernel
theorem dX6_init_31 : decode cX6_init 31 = .ok (.invokespecial 25, 3) := by decide +kernel
theorem dX6_init_34 : decode cX6_init 34 = .ok (.putfield 26, 3) := by decide +kernel
theorem dX6_init_37 : decode cX6_init 37 = .ok (.aload_n 0, 1) := by decide +kernel
theorem dX6_init_38 : decode cX6_init 38 = .ok (.new 23, 3) := by decide +kernel
theorem dX6_init_41 : decode cX6_init 41 = .ok (.dup, 1) := by decide +kernel
theorem dX6_init_42 : decode cX6_init 42 = .ok (.invokespecial 25, 3) := by decide +kernel
theorem dX6_init_45 : decode cX6_init 45 = .ok (.putfield 30, 3) := by decide +kernel
theorem dX6_init_48 : decode cX6_init 48 = .ok (.aload_n 0, 1) := by decide +kernel
theorem dX6_init_49 : decode cX6_init 49 = .ok (.new 33, 3) := by decide +kernel
theorem dX6_init_52 : decode cX6_init 52 = .ok (.dup, 1) := by decide +kernel
theorem dX6_init_53 : decode cX6_init 53 = .ok (.invokespecial 35, 3) := by decide +kernel
theorem dX6_init_56 : decode cX6_init 56 = .ok (.putfield 36, 3) := by decide +kernel
theorem dX6_init_59 : decode cX6_init 59 = .ok (.aload_n 0, 1) := by decide +kernel
theorem dX6_init_60 : decode cX6_init 60 = .ok (.new 40, 3) := by decide +kernel
theorem dX6_init_63 : decode cX6_init 63 = .ok (.dup, 1) := by decide +kernel
theorem dX6_init_64 : decode cX6_init 64 = .ok (.invokespecial 42, 3) := by decide +kernel
theorem dX6_init_67 : decode cX6_init 67 = .ok (.putfield 43, 3) := by decide +kernel
theorem dX6_init_70 : decode cX6_init 70 = .ok (.aload_n 0, 1) := by decide +kernel
theorem dX6_init_71 : decode cX6_init 71 = .ok (.new 47, 3) := by decide +kernel
theorem dX6_init_74 : decode cX6_init 74 = .ok (.dup, 1) := by decide +kernel
theorem dX6_init_75 : decode cX6_init 75 = .ok (.invokespecial 49, 3) := by decide +kernel
theorem dX6_init_78 : decode cX6_init 78 = .ok (.putfield 50, 3) := by decide +kernel
theorem dX6_init_81 : decode cX6_init 81 = .ok (.aload_n 0, 1) := by decide +kernel
theorem dX6_init_82 : decode cX6_init 82 = .ok (.iconst 2, 1) := by decide +kernel
theorem dX6_init_83 : decode cX6_init 83 = .ok (.anewarray 23, 3) := by decide +kernel
theorem dX6_init_86 : decode cX6_init 86 = .ok (.dup, 1) := by decide +kernel
theorem dX6_init_87 : decode cX6_init 87 = .ok (.iconst 0, 1) := by decide +kernel
theorem dX6_init_88 : decode cX6_init 88 = .ok (.new 23, 3) := by decide +kernel
theorem dX6_init_91 : decode cX6_init 91 = .ok (.dup, 1) := by decide +kernel
theorem dX6_init_92 : decode cX6_init 92 = .ok (.invokespecial 25, 3) := by decide +kernel
theorem dX6_init_95 : decode cX6_init 95 = .ok (.aastore, 1) := by decide +kernel
theorem dX6_init_96 : decode cX6_init 96 = .ok (.dup, 1) := by decide +kernel
theorem dX6_init_97 : decode cX6_init 97 = .ok (.iconst 1, 1) := by decide +kernel
theorem dX6_init_98 : decode cX6_init 98 = .ok (.new 23, 3) := by decide +kernel
theorem dX6_init_101 : decode cX6_init 101 = .ok (.dup, 1) := by decide +kernel
theorem dX6_init_102 : decode cX6_init 102 = .ok (.invokespecial 25, 3) := by decide +kernel
theorem dX6_init_105 : decode cX6_init 105 = .ok (.aastore, 1) := by decide +kernel
theorem dX6_init_106 : decode cX6_init 106 = .ok (.putfield 54, 3) := by decide +kernel
theorem dX6_init_109 : decode cX6_init 109 = .ok (.aload_n 0, 1) := by decide +kernel
theorem dX6_init_110 : decode cX6_init 110 = .ok (.iconst 0, 1) := by decide +kernel
theorem dX6_init_111 : decode cX6_init 111 = .ok (.putfield 58, 3) := by decide +kernel
theorem dX6_init_114 : decode cX6_init 114 = .ok (.aload_n 0, 1) := by decide +kernel
theorem dX6_init_115 : decode cX6_init 115 = .ok (.iconst 0, 1) := by decide +kernel
theorem dX6_init_116 : decode cX6_init 116 = .ok (.putfield 62, 3) := by decide +kernel
theorem dX6_init_119 : decode cX6_init 119 = .ok (.return_, 1) := by decide +kernel
theorem dX6_row_0 : decode cX6_row 0 = .ok (.iload_n 1, 1) := by decide +kernel
theorem dX6_row_1 : decode cX6_row 1 = .ok (.invokestatic 65, 3) := by decide +kernel
theorem dX6_row_4 : decode cX6_row 4 = .ok (.ifCond .ne 18, 3) := by decide +kernel
theorem dX6_row_7 : decode cX6_row 7 = .ok (.iload_n 2, 1) := by decide +kernel
theorem dX6_row_8 : decode cX6_row 8 = .ok (.ifCond .lt 14, 3) := by decide +kernel
theorem dX6_row_11 : decode cX6_row 11 = .ok (.iload_n 2, 1) := by decide +kernel
theorem dX6_row_12 : decode cX6_row 12 = .ok (.iconst 2, 1) := by decide +kernel
theorem dX6_row_13 : decode cX6_row 13 = .ok (.if_icmp .gt 9, 3) := by decide +kernel
theorem dX6_row_16 : decode cX6_row 16 = .ok (.iload_n 3, 1) := by decide +kernel
theorem dX6_row_17 : decode cX6_row 17 = .ok (.bipush 40, 2) := by decide +kernel
theorem dX6_row_19 : decode cX6_row 19 = .ok (.if_icmp .le 6, 3) := by decide +kernel
theorem dX6_row_22 : decode cX6_row 22 = .ok (.ldc 69, 2) := by decide +kernel
theorem dX6_row_24 : decode cX6_row 24 = .ok (.ireturn, 1) := by decide +kernel
theorem dX6_row_25 : decode cX6_row 25 = .ok (.iload_n 3, 1) := by decide +kernel
theorem dX6_row_26 : decode cX6_row 26 = .ok (.ifCond .ge 9, 3) := by decide +kernel
theorem dX6_row_29 : decode cX6_row 29 = .ok (.aload_n 0, 1) := by decide +kernel
theorem dX6_row_30 : decode cX6_row 30 = .ok (.iconst 4, 1) := by decide +kernel
theorem dX6_row_31 : decode cX6_row 31 = .ok (.invokevirtual 70, 3) := by decide +kernel
theorem dX6_row_34 : decode cX6_row 34 = .ok (.ireturn, 1) := by decide +kernel
theorem dX6_row_35 : decode cX6_row 35 = .ok (.aload_n 0, 1) := by decide +kernel
theorem dX6_row_36 : decode cX6_row 36 = .ok (.getfield 10, 3) := by decide +kernel
theorem dX6_row_39 : decode cX6_row 39 = .ok (.iload_n 1, 1) := by decide +kernel
theorem dX6_row_40 : decode cX6_row 40 = .ok (.iload_n 2, 1) := by decide +kernel
theorem dX6_row_41 : decode cX6_row 41 = .ok (.iload_n 3, 1) := by decide +kernel
theorem dX6_row_42 : decode cX6_row 42 = .ok (.invokevirtual 74, 3) := by decide +kernel
theorem dX6_row_45 : decode cX6_row 45 = .ok (.aload_n 0, 1) := by decide +kernel
theorem dX6_row_46 : decode cX6_row 46 = .ok (.iload_n 3, 1) := by decide +kernel
theorem dX6_row_47 : decode cX6_row 47 = .ok (.invokevirtual 78, 3) := by decide +kernel
theorem dX6_row_50 : decode cX6_row 50 = .ok (.ireturn, 1) := by decide +kernel
theorem dX6_set_0 : decode cX6_set 0 = .ok (.iload_n 1, 1) := by decide +kernel
theorem dX6_set_1 : decode cX6_set 1 = .ok (.invokestatic 65, 3) := by decide +kernel
theorem dX6_set_4 : decode cX6_set 4 = .ok (.ifCond .eq 6, 3) := by decide +kernel
theorem dX6_set_7 : decode cX6_set 7 = .ok (.ldc 69, 2) := by decide +kernel
theorem dX6_set_9 : decode cX6_set 9 = .ok (.ireturn, 1) := by decide +kernel
theorem dX6_set_10 : decode cX6_set 10 = .ok (.aload_n 0, 1) := by decide +kernel
theorem dX6_set_11 : decode cX6_set 11 = .ok (.iload_n 1, 1) := by decide +kernel
theorem dX6_set_12 : decode cX6_set 12 = .ok (.iload_n 2, 1) := by decide +kernel
theorem dX6_set_13 : decode cX6_set 13 = .ok (.iconst 1, 1) := by decide +kernel
theorem dX6_set_14 : decode cX6_set 14 = .ok (.invokevirtual 81, 3) := by decide +kernel
theorem dX6_set_17 : decode cX6_set 17 = .ok (.istore 4, 2) := by decide +kernel
theorem dX6_set_19 : decode cX6_set 19 = .ok (.iload 4, 2) := by decide +kernel
theorem dX6_set_21 : decode cX6_set 21 = .ok (.ifCond .ne 20, 3) := by decide +kernel
theorem dX6_set_24 : decode cX6_set 24 = .ok (.aload_n 0, 1) := by decide +kernel
theorem dX6_set_25 : decode cX6_set 25 = .ok (.aload_n 0, 1) := by decide +kernel
theorem dX6_set_26 : decode cX6_set 26 = .ok (.getfield 10, 3) := by decide +kernel
theorem dX6_set_29 : decode cX6_set 29 = .ok (.iload_n 1, 1) := by decide +kernel
theorem dX6_set_30 : decode cX6_set 30 = .ok (.iload_n 2, 1) := by decide +kernel
theorem dX6_set_31 : decode cX6_set 31 = .ok (.iload_n 3, 1) := by decide +kernel
theorem dX6_set_32 : decode cX6_set 32 = .ok (.invokevirtual 85, 3) := by decide +kernel
theorem dX6_set_35 : decode cX6_set 35 = .ok (.invokevirtual 78, 3) := by decide +kernel
theorem dX6_set_38 : decode cX6_set 38 = .ok (.goto 9, 3) := by decide +kernel
theorem dX6_set_41 : decode cX6_set 41 = .ok (.aload_n 0, 1) := by decide +kernel
theorem dX6_set_42 : decode cX6_set 42 = .ok (.iload 4, 2) := by decide +kernel
theorem dX6_set_44 : decode cX6_set 44 = .ok (.invokevirtual 70, 3) := by decide +kernel
theorem dX6_set_47 : decode cX6_set 47 = .ok (.ireturn, 1) := by decide +kernel
theorem dX6_copy_0 : decode cX6_copy 0 = .ok (.iload_n 1, 1) := by decide +kernel
theorem dX6_copy_1 : decode cX6_copy 1 = .ok (.invokestatic 65, 3) := by decide +kernel
theorem dX6_copy_4 : decode cX6_copy 4 = .ok (.ifCond .ne 10, 3) := by decide +kernel
theorem dX6_copy_7 : decode cX6_copy 7 = .ok (.iload_n 3, 1) := by decide +kernel
theorem dX6_copy_8 : decode cX6_copy 8 = .ok (.invokestatic 65, 3) := by decide +kernel
theorem dX6_copy_11 : decode cX6_copy 11 = .ok (.ifCond .eq 6, 3) := by decide +kernel
theorem dX6_copy_14 : decode cX6_copy 14 = .ok (.ldc 69, 2) := by decide +kernel
theorem dX6_copy_16 : decode cX6_copy 16 = .ok (.ireturn, 1) := by decide +kernel
theorem dX6_copy_17 : decode cX6_copy 17 = .ok (.aload_n 0, 1) := by decide +kernel
theorem dX6_copy_18 : decode cX6_copy 18 = .ok (.getfield 10, 3) := by decide +kernel
theorem dX6_copy_21 : decode cX6_copy 21 = .ok (.iload_n 1, 1) := by decide +kernel
theorem dX6_copy_22 : decode cX6_copy 22 = .ok (.invokevirtual 88, 3) := by decide +kernel
theorem dX6_copy_25 : decode cX6_copy 25 = .ok (.ifCond .ne 14, 3) := by decide +kernel
theorem dX6_copy_28 : decode cX6_copy 28 = .ok (.aload_n 0, 1) := by decide +kernel
theorem dX6_copy_29 : decode cX6_copy 29 = .ok (.getfield 10, 3) := by decide +kernel
theorem dX6_copy_32 : decode cX6_copy 32 = .ok (.iload_n 3, 1) := by decide +kernel
theorem dX6_copy_33 : decode cX6_copy 33 = .ok (.invokevirtual 88, 3) := by decide +kernel
theorem dX6_copy_36 : decode cX6_copy 36 = .ok (.ifCond .eq 9, 3) := by decide +kernel
theorem dX6_copy_39 : decode cX6_copy 39 = .ok (.aload_n 0, 1) := by decide +kernel
theorem dX6_copy_40 : decode cX6_copy 40 = .ok (.iconst 1, 1) := by decide +kernel
theorem dX6_copy_41 : decode cX6_copy 41 = .ok (.invokevirtual 70, 3) := by decide +kernel
theorem dX6_copy_44 : decode cX6_copy 44 = .ok (.ireturn, 1) := by decide +kernel
theorem dX6_copy_45 : decode cX6_copy 45 = .ok (.aload_n 0, 1) := by decide +kernel
theorem dX6_copy_46 : decode cX6_copy 46 = .ok (.getfield 10, 3) := by decide +kernel
theorem dX6_copy_49 : decode cX6_copy 49 = .ok (.iload_n 1, 1) := by decide +kernel
theorem dX6_copy_50 : decode cX6_copy 50 = .ok (.invokevirtual 91, 3) := by decide +kernel
theorem dX6_copy_53 : decode cX6_copy 53 = .ok (.aload_n 0, 1) := by decide +kernel
theorem dX6_copy_54 : decode cX6_copy 54 = .ok (.getfield 10, 3) := by decide +kernel
theorem dX6_copy_57 : decode cX6_copy 57 = .ok (.iload_n 3, 1) := by decide +kernel
theorem dX6_copy_58 : decode cX6_copy 58 = .ok (.invokevirtual 91, 3) := by decide +kernel
theorem dX6_copy_61 : decode cX6_copy 61 = .ok (.if_icmp .eq 9, 3) := by decide +kernel
theorem dX6_copy_64 : decode cX6_copy 64 = .ok (.aload_n 0, 1) := by decide +kernel
theorem dX6_copy_65 : decode cX6_copy 65 = .ok (.iconst 5, 1) := by decide +kernel
theorem dX6_copy_66 : decode cX6_copy 66 = .ok (.invokevirtual 70, 3) := by decide +kernel
theorem dX6_copy_69 : decode cX6_copy 69 = .ok (.ireturn, 1) := by decide +kernel
theorem dX6_copy_70 : decode cX6_copy 70 = .ok (.aload_n 0, 1) := by decide +kernel
theorem dX6_copy_71 : decode cX6_copy 71 = .ok (.getfield 10, 3) := by decide +kernel
theorem dX6_copy_74 : decode cX6_copy 74 = .ok (.iload_n 1, 1) := by decide +kernel
theorem dX6_copy_75 : decode cX6_copy 75 = .ok (.iload_n 2, 1) := by decide +kernel
theorem dX6_copy_76 : decode cX6_copy 76 = .ok (.iload 5, 2) := by decide +kernel
theorem dX6_copy_78 : decode cX6_copy 78 = .ok (.invokevirtual 94, 3) := by decide +kernel
theorem dX6_copy_81 : decode cX6_copy 81 = .ok (.ifCond .eq 18, 3) := by decide +kernel
theorem dX6_copy_84 : decode cX6_copy 84 = .ok (.aload_n 0, 1) := by decide +kernel
theorem dX6_copy_85 : decode cX6_copy 85 = .ok (.getfield 10, 3) := by decide +kernel
theorem dX6_copy_88 : decode cX6_copy 88 = .ok (.iload_n 3, 1) := by decide +kernel
theorem dX6_copy_89 : decode cX6_copy 89 = .ok (.iload 4, 2) := by decide +kernel
theorem dX6_copy_91 : decode cX6_copy 91 = .ok (.iload 5, 2) := by decide +kernel
theorem dX6_copy_93 : decode cX6_copy 93 = .ok (.invokevirtual 94, 3) := by decide +kernel
theorem dX6_copy_96 : decode cX6_copy 96 = .ok (.ifCond .ne 9, 3) := by decide +kernel
theorem dX6_copy_99 : decode cX6_copy 99 = .ok (.aload_n 0, 1) := by decide +kernel
theorem dX6_copy_100 : decode cX6_copy 100 = .ok (.iconst 2, 1) := by decide +kernel
theorem dX6_copy_101 : decode cX6_copy 101 = .ok (.invokevirtual 70, 3) := by decide +kernel
theorem dX6_copy_104 : decode cX6_copy 104 = .ok (.ireturn, 1) := by decide +kernel
theorem dX6_copy_105 : decode cX6_copy 105 = .ok (.aload_n 0, 1) := by decide +kernel
theorem dX6_copy_106 : decode cX6_copy 106 = .ok (.getfield 10, 3) := by decide +kernel
theorem dX6_copy_109 : decode cX6_copy 109 = .ok (.iload_n 1, 1) := by decide +kernel
theorem dX6_copy_110 : decode cX6_copy 110 = .ok (.iload_n 2, 1) := by decide +kernel
theorem dX6_copy_111 : decode cX6_copy 111 = .ok (.iload_n 3, 1) := by decide +kernel
theorem dX6_copy_112 : decode cX6_copy 112 = .ok (.iload 4, 2) := by decide +kernel
theorem dX6_copy_114 : decode cX6_copy 114 = .ok (.iload 5, 2) := by decide +kernel
theorem dX6_copy_116 : decode cX6_copy 116 = .ok (.invokevirtual 98, 3) := by decide +kernel
theorem dX6_copy_119 : decode cX6_copy 119 = .ok (.aload_n 0, 1) := by decide +kernel
theorem dX6_copy_120 : decode cX6_copy 120 = .ok (.iload 5, 2) := by decide +kernel
theorem dX6_copy_122 : decode cX6_copy 122 = .ok (.invokevirtual 78, 3) := by decide +kernel
theorem dX6_copy_125 : decode cX6_copy 125 = .ok (.ireturn, 1) := by decide +kernel
theorem dX6_drop_0 : decode cX6_drop 0 = .ok (.iload_n 1, 1) := by decide +kernel
theorem dX6_drop_1 : decode cX6_drop 1 = .ok (.invokestatic 65, 3) := by decide +kernel
theorem dX6_drop_4 : decode cX6_drop 4 = .ok (.ifCond .eq 6, 3) := by decide +kernel
theorem dX6_drop_7 : decode cX6_drop 7 = .ok (.ldc 69, 2) := by decide +kernel
theorem dX6_drop_9 : decode cX6_drop 9 = .ok (.ireturn, 1) := by decide +kernel
theorem dX6_drop_10 : decode cX6_drop 10 = .ok (.aload_n 0, 1) := by decide +kernel
theorem dX6_drop_11 : decode cX6_drop 11 = .ok (.getfield 10, 3) := by decide +kernel
theorem dX6_drop_14 : decode cX6_drop 14 = .ok (.iload_n 1, 1) := by decide +kernel
theorem dX6_drop_15 : decode cX6_drop 15 = .ok (.invokevirtual 88, 3) := by decide +kernel
theorem dX6_drop_18 : decode cX6_drop 18 = .ok (.ifCond .eq 9, 3) := by decide +kernel
theorem dX6_drop_21 : decode cX6_drop 21 = .ok (.aload_n 0, 1) := by decide +kernel
theorem dX6_drop_22 : decode cX6_drop 22 = .ok (.iconst 1, 1) := by decide +kernel
theorem dX6_drop_23 : decode cX6_drop 23 = .ok (.invokevirtual 70, 3) := by decide +kernel
theorem dX6_drop_26 : decode cX6_drop 26 = .ok (.ireturn, 1) := by decide +kernel
theorem dX6_drop_27 : decode cX6_drop 27 = .ok (.aload_n 0, 1) := by decide +kernel
theorem dX6_drop_28 : decode cX6_drop 28 = .ok (.aload_n 0, 1) := by decide +kernel
theorem dX6_drop_29 : decode cX6_drop 29 = .ok (.getfield 10, 3) := by decide +kernel
theorem dX6_drop_32 : decode cX6_drop 32 = .ok (.iload_n 1, 1) := by decide +kernel
theorem dX6_drop_33 : decode cX6_drop 33 = .ok (.invokevirtual 102, 3) := by decide +kernel
theorem dX6_drop_36 : decode cX6_drop 36 = .ok (.invokevirtual 78, 3) := by decide +kernel
theorem dX6_drop_39 : decode cX6_drop 39 = .ok (.ireturn, 1) := by decide +kernel
theorem dX6_feed_0 : decode cX6_feed 0 = .ok (.iload_n 1, 1) := by decide +kernel
theorem dX6_feed_1 : decode cX6_feed 1 = .ok (.ifCond .lt 10, 3) := by decide +kernel
theorem dX6_feed_4 : decode cX6_feed 4 = .ok (.iload_n 1, 1) := by decide +kernel
theorem dX6_feed_5 : decode cX6_feed 5 = .ok (.sipush 255, 3) := by decide +kernel
theorem dX6_feed_8 : decode cX6_feed 8 = .ok (.if_icmp .le 6, 3) := by decide +kernel
theorem dX6_feed_11 : decode cX6_feed 11 = .ok (.ldc 69, 2) := by decide +kernel
theorem dX6_feed_13 : decode cX6_feed 13 = .ok (.ireturn, 1) := by decide +kernel
theorem dX6_feed_14 : decode cX6_feed 14 = .ok (.aload_n 0, 1) := by decide +kernel
theorem dX6_feed_15 : decode cX6_feed 15 = .ok (.getfield 19, 3) := by decide +kernel
theorem dX6_feed_18 : decode cX6_feed 18 = .ok (.iload_n 1, 1) := by decide +kernel
theorem dX6_feed_19 : decode cX6_feed 19 = .ok (.invokevirtual 105, 3) := by decide +kernel
theorem dX6_feed_22 : decode cX6_feed 22 = .ok (.ifCond .eq 13, 3) := by decide +kernel
theorem dX6_feed_25 : decode cX6_feed 25 = .ok (.aload_n 0, 1) := by decide +kernel
theorem dX6_feed_26 : decode cX6_feed 26 = .ok (.getfield 19, 3) := by decide +kernel
theorem dX6_feed_29 : decode cX6_feed 29 = .ok (.invokevirtual 108, 3) := by decide +kernel
theorem dX6_feed_32 : decode cX6_feed 32 = .ok (.goto 5, 3) := by decide +kernel
theorem dX6_feed_35 : decode cX6_feed 35 = .ok (.ldc 112, 2) := by decide +kernel
theorem dX6_feed_37 : decode cX6_feed 37 = .ok (.ireturn, 1) := by decide +kernel
theorem dX6_run_0 : decode cX6_run 0 = .ok (.aload_n 0, 1) := by decide +kernel
theorem dX6_run_1 : decode cX6_run 1 = .ok (.getfield 19, 3) := by decide +kernel
theorem dX6_run_4 : decode cX6_run 4 = .ok (.aload_n 0, 1) := by decide +kernel
theorem dX6_run_5 : decode cX6_run 5 = .ok (.getfield 30, 3) := by decide +kernel
theorem dX6_run_8 : decode cX6_run 8 = .ok (.invokevirtual 113, 3) := by decide +kernel
theorem dX6_run_11 : decode cX6_run 11 = .ok (.istore_n 1, 1) := by decide +kernel
theorem dX6_run_12 : decode cX6_run 12 = .ok (.aload_n 0, 1) := by decide +kernel
theorem dX6_run_13 : decode cX6_run 13 = .ok (.getfield 19, 3) := by decide +kernel
theorem dX6_run_16 : decode cX6_run 16 = .ok (.invokevirtual 117, 3) := by decide +kernel
theorem dX6_run_19 : decode cX6_run 19 = .ok (.iload_n 1, 1) := by decide +kernel
theorem dX6_run_20 : decode cX6_run 20 = .ok (.ifCond .ne 25, 3) := by decide +kernel
theorem dX6_run_23 : decode cX6_run 23 = .ok (.aload_n 0, 1) := by decide +kernel
theorem dX6_run_24 : decode cX6_run 24 = .ok (.aload_n 0, 1) := by decide +kernel
theorem dX6_run_25 : decode cX6_run 25 = .ok (.getfield 19, 3) := by decide +kernel
theorem dX6_run_28 : decode cX6_run 28 = .ok (.invokevirtual 120, 3) := by decide +kernel
theorem dX6_run_31 : decode cX6_run 31 = .ok (.putfield 58, 3) := by decide +kernel
theorem dX6_run_34 : decode cX6_run 34 = .ok (.ldc 123, 2) := by decide +kernel
theorem dX6_run_36 : decode cX6_run 36 = .ok (.aload_n 0, 1) := by decide +kernel
theorem dX6_run_37 : decode cX6_run 37 = .ok (.getfield 19, 3) := by decide +kernel
theorem dX6_run_40 : decode cX6_run 40 = .ok (.invokevirtual 124, 3) := by decide +kernel
theorem dX6_run_43 : decode cX6_run 43 = .ok (.isub, 1) := by decide +kernel
theorem dX6_run_44 : decode cX6_run 44 = .ok (.ireturn, 1) := by decide +kernel
theorem dX6_run_45 : decode cX6_run 45 = .ok (.aload_n 0, 1) := by decide +kernel
theorem dX6_run_46 : decode cX6_run 46 = .ok (.getfield 26, 3) := by decide +kernel
theorem dX6_run_49 : decode cX6_run 49 = .ok (.aload_n 0, 1) := by decide +kernel
theorem dX6_run_50 : decode cX6_run 50 = .ok (.getfield 30, 3) := by decide +kernel
theorem dX6_run_53 : decode cX6_run 53 = .ok (.invokevirtual 127, 3) := by decide +kernel
theorem dX6_run_56 : decode cX6_run 56 = .ok (.aload_n 0, 1) := by decide +kernel
theorem dX6_run_57 : decode cX6_run 57 = .ok (.getfield 36, 3) := by decide +kernel
theorem dX6_run_60 : decode cX6_run 60 = .ok (.invokevirtual 131, 3) := by decide +kernel
theorem dX6_run_63 : decode cX6_run 63 = .ok (.aload_n 0, 1) := by decide +kernel
theorem dX6_run_64 : decode cX6_run 64 = .ok (.getfield 26, 3) := by decide +kernel
theorem dX6_run_67 : decode cX6_run 67 = .ok (.getfield 134, 3) := by decide +kernel
theorem dX6_run_70 : decode cX6_run 70 = .ok (.ireturn, 1) := by decide +kernel
theorem dX6_fault_0 : decode cX6_fault 0 = .ok (.aload_n 0, 1) := by decide +kernel
theorem dX6_fault_1 : decode cX6_fault 1 = .ok (.getfield 58, 3) := by decide +kernel
theorem dX6_fault_4 : decode cX6_fault 4 = .ok (.ireturn, 1) := by decide +kernel
theorem dX6_undo_0 : decode cX6_undo 0 = .ok (.aload_n 0, 1) := by decide +kernel
theorem dX6_undo_1 : decode cX6_undo 1 = .ok (.getfield 36, 3) := by decide +kernel
theorem dX6_undo_4 : decode cX6_undo 4 = .ok (.aload_n 0, 1) := by decide +kernel
theorem dX6_undo_5 : decode cX6_undo 5 = .ok (.getfield 26, 3) := by decide +kernel
theorem dX6_undo_8 : decode cX6_undo 8 = .ok (.invokevirtual 137, 3) := by decide +kernel
theorem dX6_undo_11 : decode cX6_undo 11 = .ok (.ifCond .eq 13, 3) := by decide +kernel
theorem dX6_undo_14 : decode cX6_undo 14 = .ok (.aload_n 0, 1) := by decide +kernel
theorem dX6_undo_15 : decode cX6_undo 15 = .ok (.getfield 36, 3) := by decide +kernel
theorem dX6_undo_18 : decode cX6_undo 18 = .ok (.invokevirtual 140, 3) := by decide +kernel
theorem dX6_undo_21 : decode cX6_undo 21 = .ok (.goto 5, 3) := by decide +kernel
theorem dX6_undo_24 : decode cX6_undo 24 = .ok (.ldc 143, 2) := by decide +kernel
theorem dX6_undo_26 : decode cX6_undo 26 = .ok (.ireturn, 1) := by decide +kernel
theorem dX6_ticks_0 : decode cX6_ticks 0 = .ok (.aload_n 0, 1) := by decide +kernel
theorem dX6_ticks_1 : decode cX6_ticks 1 = .ok (.invokevirtual 144, 3) := by decide +kernel
theorem dX6_ticks_4 : decode cX6_ticks 4 = .ok (.ifCond .eq 6, 3) := by decide +kernel
theorem dX6_ticks_7 : decode cX6_ticks 7 = .ok (.ldc 143, 2) := by decide +kernel
theorem dX6_ticks_9 : decode cX6_ticks 9 = .ok (.ireturn, 1) := by decide +kernel
theorem dX6_ticks_10 : decode cX6_ticks 10 = .ok (.iload_n 1, 1) := by decide +kernel
theorem dX6_ticks_11 : decode cX6_ticks 11 = .ok (.iconst 1, 1) := by decide +kernel
theorem dX6_ticks_12 : decode cX6_ticks 12 = .ok (.if_icmp .lt 9, 3) := by decide +kernel
theorem dX6_ticks_15 : decode cX6_ticks 15 = .ok (.iload_n 1, 1) := by decide +kernel
theorem dX6_ticks_16 : decode cX6_ticks 16 = .ok (.bipush 24, 2) := by decide +kernel
theorem dX6_ticks_18 : decode cX6_ticks 18 = .ok (.if_icmp .le 6, 3) := by decide +kernel
theorem dX6_ticks_21 : decode cX6_ticks 21 = .ok (.ldc 69, 2) := by decide +kernel
theorem dX6_ticks_23 : decode cX6_ticks 23 = .ok (.ireturn, 1) := by decide +kernel
theorem dX6_ticks_24 : decode cX6_ticks 24 = .ok (.aload_n 0, 1) := by decide +kernel
theorem dX6_ticks_25 : decode cX6_ticks 25 = .ok (.getfield 26, 3) := by decide +kernel
theorem dX6_ticks_28 : decode cX6_ticks 28 = .ok (.getfield 148, 3) := by decide +kernel
theorem dX6_ticks_31 : decode cX6_ticks 31 = .ok (.iload_n 1, 1) := by decide +kernel
theorem dX6_ticks_32 : decode cX6_ticks 32 = .ok (.iadd, 1) := by decide +kernel
theorem dX6_ticks_33 : decode cX6_ticks 33 = .ok (.sipush 999, 3) := by decide +kernel
theorem dX6_ticks_36 : decode cX6_ticks 36 = .ok (.if_icmp .le 6, 3) := by decide +kernel
theorem dX6_ticks_39 : decode cX6_ticks 39 = .ok (.ldc 112, 2) := by decide +kernel
theorem dX6_ticks_41 : decode cX6_ticks 41 = .ok (.ireturn, 1) := by decide +kernel
theorem dX6_ticks_42 : decode cX6_ticks 42 = .ok (.iconst 0, 1) := by decide +kernel
theorem dX6_ticks_43 : decode cX6_ticks 43 = .ok (.istore_n 2, 1) := by decide +kernel
theorem dX6_ticks_44 : decode cX6_ticks 44 = .ok (.iload_n 2, 1) := by decide +kernel
theorem dX6_ticks_45 : decode cX6_ticks 45 = .ok (.iload_n 1, 1) := by decide +kernel
theorem dX6_ticks_46 : decode cX6_ticks 46 = .ok (.if_icmp .ge 27, 3) := by decide +kernel
theorem dX6_ticks_49 : decode cX6_ticks 49 = .ok (.aload_n 0, 1) := by decide +kernel
theorem dX6_ticks_50 : decode cX6_ticks 50 = .ok (.getfield 36, 3) := by decide +kernel
theorem dX6_ticks_53 : decode cX6_ticks 53 = .ok (.aload_n 0, 1) := by decide +kernel
theorem dX6_ticks_54 : decode cX6_ticks 54 = .ok (.getfield 26, 3) := by decide +kernel
theorem dX6_ticks_57 : decode cX6_ticks 57 = .ok (.invokevirtual 151, 3) := by decide +kernel
theorem dX6_ticks_60 : decode cX6_ticks 60 = .ok (.aload_n 0, 1) := by decide +kernel
theorem dX6_ticks_61 : decode cX6_ticks 61 = .ok (.getfield 26, 3) := by decide +kernel
theorem dX6_ticks_64 : decode cX6_ticks 64 = .ok (.invokevirtual 154, 3) := by decide +kernel
theorem dX6_ticks_67 : decode cX6_ticks 67 = .ok (.iinc 2 1, 3) := by decide +kernel
theorem dX6_ticks_70 : decode cX6_ticks 70 = .ok (.goto (-26), 3) := by decide +kernel
theorem dX6_ticks_73 : decode cX6_ticks 73 = .ok (.aload_n 0, 1) := by decide +kernel
theorem dX6_ticks_74 : decode cX6_ticks 74 = .ok (.getfield 26, 3) := by decide +kernel
theorem dX6_ticks_77 : decode cX6_ticks 77 = .ok (.bipush 9, 2) := by decide +kernel
theorem dX6_ticks_79 : decode cX6_ticks 79 = .ok (.invokevirtual 157, 3) := by decide +kernel
theorem dX6_ticks_82 : decode cX6_ticks 82 = .ok (.ireturn, 1) := by decide +kernel
theorem dX6_tip_0 : decode cX6_tip 0 = .ok (.aload_n 0, 1) := by decide +kernel
theorem dX6_tip_1 : decode cX6_tip 1 = .ok (.iload_n 1, 1) := by decide +kernel
theorem dX6_tip_2 : decode cX6_tip 2 = .ok (.invokevirtual 160, 3) := by decide +kernel
theorem dX6_tip_5 : decode cX6_tip 5 = .ok (.ifCond .eq 6, 3) := by decide +kernel
theorem dX6_tip_8 : decode cX6_tip 8 = .ok (.ldc 69, 2) := by decide +kernel
theorem dX6_tip_10 : decode cX6_tip 10 = .ok (.ireturn, 1) := by decide +kernel
theorem dX6_tip_11 : decode cX6_tip 11 = .ok (.aload_n 0, 1) := by decide +kernel
theorem dX6_tip_12 : decode cX6_tip 12 = .ok (.getfield 36, 3) := by decide +kernel
theorem dX6_tip_15 : decode cX6_tip 15 = .ok (.aload_n 0, 1) := by decide +kernel
theorem dX6_tip_16 : decode cX6_tip 16 = .ok (.getfield 26, 3) := by decide +kernel
theorem dX6_tip_19 : decode cX6_tip 19 = .ok (.invokevirtual 151, 3) := by decide +kernel
theorem dX6_tip_22 : decode cX6_tip 22 = .ok (.aload_n 0, 1) := by decide +kernel
theorem dX6_tip_23 : decode cX6_tip 23 = .ok (.getfield 26, 3) := by decide +kernel
theorem dX6_tip_26 : decode cX6_tip 26 = .ok (.iload_n 1, 1) := by decide +kernel
theorem dX6_tip_27 : decode cX6_tip 27 = .ok (.invokevirtual 163, 3) := by decide +kernel
theorem dX6_tip_30 : decode cX6_tip 30 = .ok (.aload_n 0, 1) := by decide +kernel
theorem dX6_tip_31 : decode cX6_tip 31 = .ok (.getfield 26, 3) := by decide +kernel
theorem dX6_tip_34 : decode cX6_tip 34 = .ok (.getfield 167, 3) := by decide +kernel
theorem dX6_tip_37 : decode cX6_tip 37 = .ok (.iload_n 1, 1) := by decide +kernel
theorem dX6_tip_38 : decode cX6_tip 38 = .ok (.iaload, 1) := by decide +kernel
theorem dX6_tip_39 : decode cX6_tip 39 = .ok (.ireturn, 1) := by decide +kernel
theorem dX6_lead_0 : decode cX6_lead 0 = .ok (.aload_n 0, 1) := by decide +kernel
theorem dX6_lead_1 : decode cX6_lead 1 = .ok (.iload_n 1, 1) := by decide +kernel
theorem dX6_lead_2 : decode cX6_lead 2 = .ok (.invokevirtual 160, 3) := by decide +kernel
theorem dX6_lead_5 : decode cX6_lead 5 = .ok (.ifCond .ne 21, 3) := by decide +kernel
theorem dX6_lead_8 : decode cX6_lead 8 = .ok (.iload_n 2, 1) := by decide +kernel
theorem dX6_lead_9 : decode cX6_lead 9 = .ok (.invokestatic 171, 3) := by decide +kernel
theorem dX6_lead_12 : decode cX6_lead 12 = .ok (.ifCond .ne 14, 3) := by decide +kernel
theorem dX6_lead_15 : decode cX6_lead 15 = .ok (.iload_n 3, 1) := by decide +kernel
theorem dX6_lead_16 : decode cX6_lead 16 = .ok (.iload_n 1, 1) := by decide +kernel
theorem dX6_lead_17 : decode cX6_lead 17 = .ok (.if_icmp .le 9, 3) := by decide +kernel
theorem dX6_lead_20 : decode cX6_lead 20 = .ok (.iload_n 3, 1) := by decide +kernel
