theorem dX0_init_0 : decode cX0_init 0 = .ok (.aload_n 0, 1) := by decide +kernel
theorem dX0_init_1 : decode cX0_init 1 = .ok (.invokespecial 3, 3) := by decide +kernel
theorem dX0_init_4 : decode cX0_init 4 = .ok (.aload_n 0, 1) := by decide +kernel
theorem dX0_init_5 : decode cX0_init 5 = .ok (.bipush 60, 2) := by decide +kernel
theorem dX0_init_7 : decode cX0_init 7 = .ok (.anewarray 11, 3) := by decide +kernel
theorem dX0_init_10 : decode cX0_init 10 = .ok (.putfield 13, 3) := by decide +kernel
theorem dX0_init_13 : decode cX0_init 13 = .ok (.aload_n 0, 1) := by decide +kernel
theorem dX0_init_14 : decode cX0_init 14 = .ok (.new 11, 3) := by decide +kernel
theorem dX0_init_17 : decode cX0_init 17 = .ok (.dup, 1) := by decide +kernel
theorem dX0_init_18 : decode cX0_init 18 = .ok (.invokespecial 17, 3) := by decide +kernel
theorem dX0_init_21 : decode cX0_init 21 = .ok (.putfield 18, 3) := by decide +kernel
theorem dX0_init_24 : decode cX0_init 24 = .ok (.return_, 1) := by decide +kernel
theorem dX0_begin_0 : decode cX0_begin 0 = .ok (.aload_n 0, 1) := by decide +kernel
theorem dX0_begin_1 : decode cX0_begin 1 = .ok (.getfield 22, 3) := by decide +kernel
theorem dX0_begin_4 : decode cX0_begin 4 = .ok (.ifCond .ne 18, 3) := by decide +kernel
theorem dX0_begin_7 : decode cX0_begin 7 = .ok (.aload_n 0, 1) := by decide +kernel
theorem dX0_begin_8 : decode cX0_begin 8 = .ok (.iload_n 1, 1) := by decide +kernel
theorem dX0_begin_9 : decode cX0_begin 9 = .ok (.invokevirtual 26, 3) := by decide +kernel
theorem dX0_begin_12 : decode cX0_begin 12 = .ok (.ifCond .eq 10, 3) := by decide +kernel
theorem dX0_begin_15 : decode cX0_begin 15 = .ok (.aload_n 0, 1) := by decide +kernel
theorem dX0_begin_16 : decode cX0_begin 16 = .ok (.invokevirtual 30, 3) := by decide +kernel
theorem dX0_begin_19 : decode cX0_begin 19 = .ok (.ifCond .eq 5, 3) := by decide +kernel
theorem dX0_begin_22 : decode cX0_begin 22 = .ok (.iconst 0, 1) := by decide +kernel
theorem dX0_begin_23 : decode cX0_begin 23 = .ok (.ireturn, 1) := by decide +kernel
theorem dX0_begin_24 : decode cX0_begin 24 = .ok (.aload_n 0, 1) := by decide +kernel
theorem dX0_begin_25 : decode cX0_begin 25 = .ok (.getfield 18, 3) := by decide +kernel
theorem dX0_begin_28 : decode cX0_begin 28 = .ok (.iload_n 1, 1) := by decide +kernel
theorem dX0_begin_29 : decode cX0_begin 29 = .ok (.invokevirtual 34, 3) := by decide +kernel
theorem dX0_begin_32 : decode cX0_begin 32 = .ok (.aload_n 0, 1) := by decide +kernel
theorem dX0_begin_33 : decode cX0_begin 33 = .ok (.iconst 1, 1) := by decide +kernel
theorem dX0_begin_34 : decode cX0_begin 34 = .ok (.putfield 22, 3) := by decide +kernel
theorem dX0_begin_37 : decode cX0_begin 37 = .ok (.iconst 1, 1) := by decide +kernel
theorem dX0_begin_38 : decode cX0_begin 38 = .ok (.ireturn, 1) := by decide +kernel
theorem dX0_addRow_0 : decode cX0_addRow 0 = .ok (.aload_n 0, 1) := by decide +kernel
theorem dX0_addRow_1 : decode cX0_addRow 1 = .ok (.getfield 22, 3) := by decide +kernel
theorem dX0_addRow_4 : decode cX0_addRow 4 = .ok (.ifCond .eq 16, 3) := by decide +kernel
theorem dX0_addRow_7 : decode cX0_addRow 7 = .ok (.iload_n 1, 1) := by decide +kernel
theorem dX0_addRow_8 : decode cX0_addRow 8 = .ok (.invokestatic 38, 3) := by decide +kernel
theorem dX0_addRow_11 : decode cX0_addRow 11 = .ok (.ifCond .eq 9, 3) := by decide +kernel
theorem dX0_addRow_14 : decode cX0_addRow 14 = .ok (.lload_n 2, 1) := by decide +kernel
theorem dX0_addRow_15 : decode cX0_addRow 15 = .ok (.lconst 0, 1) := by decide +kernel
theorem dX0_addRow_16 : decode cX0_addRow 16 = .ok (.lcmp, 1) := by decide +kernel
theorem dX0_addRow_17 : decode cX0_addRow 17 = .ok (.ifCond .ne 5, 3) := by decide +kernel
theorem dX0_addRow_20 : decode cX0_addRow 20 = .ok (.iconst (-1), 1) := by decide +kernel
theorem dX0_addRow_21 : decode cX0_addRow 21 = .ok (.ireturn, 1) := by decide +kernel
theorem dX0_addRow_22 : decode cX0_addRow 22 = .ok (.lload_n 2, 1) := by decide +kernel
theorem dX0_addRow_23 : decode cX0_addRow 23 = .ok (.ldc2_w 41, 3) := by decide +kernel
theorem dX0_addRow_26 : decode cX0_addRow 26 = .ok (.lcmp, 1) := by decide +kernel
theorem dX0_addRow_27 : decode cX0_addRow 27 = .ok (.ifCond .lt 21, 3) := by decide +kernel
theorem dX0_addRow_30 : decode cX0_addRow 30 = .ok (.lload_n 2, 1) := by decide +kernel
theorem dX0_addRow_31 : decode cX0_addRow 31 = .ok (.ldc2_w 43, 3) := by decide +kernel
theorem dX0_addRow_34 : decode cX0_addRow 34 = .ok (.lcmp, 1) := by decide +kernel
theorem dX0_addRow_35 : decode cX0_addRow 35 = .ok (.ifCond .gt 13, 3) := by decide +kernel
theorem dX0_addRow_38 : decode cX0_addRow 38 = .ok (.aload_n 0, 1) := by decide +kernel
theorem dX0_addRow_39 : decode cX0_addRow 39 = .ok (.getfield 18, 3) := by decide +kernel
theorem dX0_addRow_42 : decode cX0_addRow 42 = .ok (.invokevirtual 45, 3) := by decide +kernel
theorem dX0_addRow_45 : decode cX0_addRow 45 = .ok (.ifCond .eq 5, 3) := by decide +kernel
theorem dX0_addRow_48 : decode cX0_addRow 48 = .ok (.iconst (-1), 1) := by decide +kernel
theorem dX0_addRow_49 : decode cX0_addRow 49 = .ok (.ireturn, 1) := by decide +kernel
theorem dX0_addRow_50 : decode cX0_addRow 50 = .ok (.aload_n 0, 1) := by decide +kernel
theorem dX0_addRow_51 : decode cX0_addRow 51 = .ok (.getfield 18, 3) := by decide +kernel
theorem dX0_addRow_54 : decode cX0_addRow 54 = .ok (.iload_n 1, 1) := by decide +kernel
theorem dX0_addRow_55 : decode cX0_addRow 55 = .ok (.lload_n 2, 1) := by decide +kernel
theorem dX0_addRow_56 : decode cX0_addRow 56 = .ok (.invokevirtual 46, 3) := by decide +kernel
theorem dX0_addRow_59 : decode cX0_addRow 59 = .ok (.aload_n 0, 1) := by decide +kernel
theorem dX0_addRow_60 : decode cX0_addRow 60 = .ok (.getfield 18, 3) := by decide +kernel
theorem dX0_addRow_63 : decode cX0_addRow 63 = .ok (.getfield 50, 3) := by decide +kernel
theorem dX0_addRow_66 : decode cX0_addRow 66 = .ok (.ireturn, 1) := by decide +kernel
theorem dX0_takeIn_0 : decode cX0_takeIn 0 = .ok (.aload_n 0, 1) := by decide +kernel
theorem dX0_takeIn_1 : decode cX0_takeIn 1 = .ok (.getfield 22, 3) := by decide +kernel
theorem dX0_takeIn_4 : decode cX0_takeIn 4 = .ok (.ifCond .ne 5, 3) := by decide +kernel
theorem dX0_takeIn_7 : decode cX0_takeIn 7 = .ok (.iconst (-1), 1) := by decide +kernel
theorem dX0_takeIn_8 : decode cX0_takeIn 8 = .ok (.ireturn, 1) := by decide +kernel
theorem dX0_takeIn_9 : decode cX0_takeIn 9 = .ok (.aload_n 0, 1) := by decide +kernel
theorem dX0_takeIn_10 : decode cX0_takeIn 10 = .ok (.getfield 18, 3) := by decide +kernel
theorem dX0_takeIn_13 : decode cX0_takeIn 13 = .ok (.getfield 50, 3) := by decide +kernel
theorem dX0_takeIn_16 : decode cX0_takeIn 16 = .ok (.ifCond .eq 22, 3) := by decide +kernel
theorem dX0_takeIn_19 : decode cX0_takeIn 19 = .ok (.aload_n 0, 1) := by decide +kernel
theorem dX0_takeIn_20 : decode cX0_takeIn 20 = .ok (.getfield 18, 3) := by decide +kernel
theorem dX0_takeIn_23 : decode cX0_takeIn 23 = .ok (.invokevirtual 54, 3) := by decide +kernel
theorem dX0_takeIn_26 : decode cX0_takeIn 26 = .ok (.lconst 0, 1) := by decide +kernel
theorem dX0_takeIn_27 : decode cX0_takeIn 27 = .ok (.lcmp, 1) := by decide +kernel
theorem dX0_takeIn_28 : decode cX0_takeIn 28 = .ok (.ifCond .ne 10, 3) := by decide +kernel
theorem dX0_takeIn_31 : decode cX0_takeIn 31 = .ok (.aload_n 0, 1) := by decide +kernel
theorem dX0_takeIn_32 : decode cX0_takeIn 32 = .ok (.invokevirtual 30, 3) := by decide +kernel
theorem dX0_takeIn_35 : decode cX0_takeIn 35 = .ok (.ifCond .eq 5, 3) := by decide +kernel
theorem dX0_takeIn_38 : decode cX0_takeIn 38 = .ok (.iconst 0, 1) := by decide +kernel
theorem dX0_takeIn_39 : decode cX0_takeIn 39 = .ok (.ireturn, 1) := by decide +kernel
theorem dX0_takeIn_40 : decode cX0_takeIn 40 = .ok (.aload_n 0, 1) := by decide +kernel
theorem dX0_takeIn_41 : decode cX0_takeIn 41 = .ok (.aload_n 0, 1) := by decide +kernel
theorem dX0_takeIn_42 : decode cX0_takeIn 42 = .ok (.getfield 18, 3) := by decide +kernel
theorem dX0_takeIn_45 : decode cX0_takeIn 45 = .ok (.invokevirtual 58, 3) := by decide +kernel
theorem dX0_takeIn_48 : decode cX0_takeIn 48 = .ok (.istore_n 1, 1) := by decide +kernel
theorem dX0_takeIn_49 : decode cX0_takeIn 49 = .ok (.aload_n 0, 1) := by decide +kernel
theorem dX0_takeIn_50 : decode cX0_takeIn 50 = .ok (.new 11, 3) := by decide +kernel
theorem dX0_takeIn_53 : decode cX0_takeIn 53 = .ok (.dup, 1) := by decide +kernel
theorem dX0_takeIn_54 : decode cX0_takeIn 54 = .ok (.invokespecial 17, 3) := by decide +kernel
theorem dX0_takeIn_57 : decode cX0_takeIn 57 = .ok (.putfield 18, 3) := by decide +kernel
theorem dX0_takeIn_60 : decode cX0_takeIn 60 = .ok (.aload_n 0, 1) := by decide +kernel
theorem dX0_takeIn_61 : decode cX0_takeIn 61 = .ok (.iconst 0, 1) := by decide +kernel
theorem dX0_takeIn_62 : decode cX0_takeIn 62 = .ok (.putfield 22, 3) := by decide +kernel
theorem dX0_takeIn_65 : decode cX0_takeIn 65 = .ok (.iload_n 1, 1) := by decide +kernel
theorem dX0_takeIn_66 : decode cX0_takeIn 66 = .ok (.ireturn, 1) := by decide +kernel
theorem dX0_giveUp_0 : decode cX0_giveUp 0 = .ok (.aload_n 0, 1) := by decide +kernel
theorem dX0_giveUp_1 : decode cX0_giveUp 1 = .ok (.getfield 22, 3) := by decide +kernel
theorem dX0_giveUp_4 : decode cX0_giveUp 4 = .ok (.ifCond .ne 5, 3) := by decide +kernel
theorem dX0_giveUp_7 : decode cX0_giveUp 7 = .ok (.iconst (-1), 1) := by decide +kernel
theorem dX0_giveUp_8 : decode cX0_giveUp 8 = .ok (.ireturn, 1) := by decide +kernel
theorem dX0_giveUp_9 : decode cX0_giveUp 9 = .ok (.aload_n 0, 1) := by decide +kernel
theorem dX0_giveUp_10 : decode cX0_giveUp 10 = .ok (.iconst 0, 1) := by decide +kernel
theorem dX0_giveUp_11 : decode cX0_giveUp 11 = .ok (.putfield 22, 3) := by decide +kernel
theorem dX0_giveUp_14 : decode cX0_giveUp 14 = .ok (.aload_n 0, 1) := by decide +kernel
theorem dX0_giveUp_15 : decode cX0_giveUp 15 = .ok (.getfield 18, 3) := by decide +kernel
theorem dX0_giveUp_18 : decode cX0_giveUp 18 = .ok (.getfield 50, 3) := by decide +kernel
theorem dX0_giveUp_21 : decode cX0_giveUp 21 = .ok (.ireturn, 1) := by decide +kernel
theorem dX0_closeUpTo_0 : decode cX0_closeUpTo 0 = .ok (.iload_n 1, 1) := by decide +kernel
theorem dX0_closeUpTo_1 : decode cX0_closeUpTo 1 = .ok (.invokestatic 62, 3) := by decide +kernel
theorem dX0_closeUpTo_4 : decode cX0_closeUpTo 4 = .ok (.ifCond .eq 24, 3) := by decide +kernel
theorem dX0_closeUpTo_7 : decode cX0_closeUpTo 7 = .ok (.aload_n 0, 1) := by decide +kernel
theorem dX0_closeUpTo_8 : decode cX0_closeUpTo 8 = .ok (.getfield 22, 3) := by decide +kernel
theorem dX0_closeUpTo_11 : decode cX0_closeUpTo 11 = .ok (.ifCond .eq 19, 3) := by decide +kernel
theorem dX0_closeUpTo_14 : decode cX0_closeUpTo 14 = .ok (.aload_n 0, 1) := by decide +kernel
theorem dX0_closeUpTo_15 : decode cX0_closeUpTo 15 = .ok (.getfield 18, 3) := by decide +kernel
theorem dX0_closeUpTo_18 : decode cX0_closeUpTo 18 = .ok (.getfield 65, 3) := by decide +kernel
theorem dX0_closeUpTo_21 : decode cX0_closeUpTo 21 = .ok (.invokestatic 68, 3) := by decide +kernel
theorem dX0_closeUpTo_24 : decode cX0_closeUpTo 24 = .ok (.iload_n 1, 1) := by decide +kernel
theorem dX0_closeUpTo_25 : decode cX0_closeUpTo 25 = .ok (.if_icmp .gt 5, 3) := by decide +kernel
theorem dX0_closeUpTo_28 : decode cX0_closeUpTo 28 = .ok (.iconst (-1), 1) := by decide +kernel
theorem dX0_closeUpTo_29 : decode cX0_closeUpTo 29 = .ok (.ireturn, 1) := by decide +kernel
theorem dX0_closeUpTo_30 : decode cX0_closeUpTo 30 = .ok (.aload_n 0, 1) := by decide +kernel
theorem dX0_closeUpTo_31 : decode cX0_closeUpTo 31 = .ok (.getfield 72, 3) := by decide +kernel
theorem dX0_closeUpTo_34 : decode cX0_closeUpTo 34 = .ok (.istore_n 2, 1) := by decide +kernel
theorem dX0_closeUpTo_35 : decode cX0_closeUpTo 35 = .ok (.aload_n 0, 1) := by decide +kernel
theorem dX0_closeUpTo_36 : decode cX0_closeUpTo 36 = .ok (.iload_n 2, 1) := by decide +kernel
theorem dX0_closeUpTo_37 : decode cX0_closeUpTo 37 = .ok (.iload_n 1, 1) := by decide +kernel
theorem dX0_closeUpTo_38 : decode cX0_closeUpTo 38 = .ok (.iconst 1, 1) := by decide +kernel
theorem dX0_closeUpTo_39 : decode cX0_closeUpTo 39 = .ok (.iadd, 1) := by decide +kernel
theorem dX0_closeUpTo_40 : decode cX0_closeUpTo 40 = .ok (.invokestatic 75, 3) := by decide +kernel
theorem dX0_closeUpTo_43 : decode cX0_closeUpTo 43 = .ok (.putfield 72, 3) := by decide +kernel
theorem dX0_closeUpTo_46 : decode cX0_closeUpTo 46 = .ok (.aload_n 0, 1) := by decide +kernel
theorem dX0_closeUpTo_47 : decode cX0_closeUpTo 47 = .ok (.getfield 72, 3) := by decide +kernel
theorem dX0_closeUpTo_50 : decode cX0_closeUpTo 50 = .ok (.iload_n 2, 1) := by decide +kernel
theorem dX0_closeUpTo_51 : decode cX0_closeUpTo 51 = .ok (.isub, 1) := by decide +kernel
theorem dX0_closeUpTo_52 : decode cX0_closeUpTo 52 = .ok (.ireturn, 1) := by decide +kernel
theorem dX0_takeBack_0 : decode cX0_takeBack 0 = .ok (.aload_n 0, 1) := by decide +kernel
theorem dX0_takeBack_1 : decode cX0_takeBack 1 = .ok (.iload_n 1, 1) := by decide +kernel
theorem dX0_takeBack_2 : decode cX0_takeBack 2 = .ok (.invokevirtual 81, 3) := by decide +kernel
theorem dX0_takeBack_5 : decode cX0_takeBack 5 = .ok (.astore_n 3, 1) := by decide +kernel
theorem dX0_takeBack_6 : decode cX0_takeBack 6 = .ok (.aload_n 3, 1) := by decide +kernel
theorem dX0_takeBack_7 : decode cX0_takeBack 7 = .ok (.ifnull 28, 3) := by decide +kernel
theorem dX0_takeBack_10 : decode cX0_takeBack 10 = .ok (.aload_n 0, 1) := by decide +kernel
theorem dX0_takeBack_11 : decode cX0_takeBack 11 = .ok (.aload_n 3, 1) := by decide +kernel
theorem dX0_takeBack_12 : decode cX0_takeBack 12 = .ok (.getfield 65, 3) := by decide +kernel
theorem dX0_takeBack_15 : decode cX0_takeBack 15 = .ok (.invokevirtual 85, 3) := by decide +kernel
theorem dX0_takeBack_18 : decode cX0_takeBack 18 = .ok (.ifCond .eq 17, 3) := by decide +kernel
theorem dX0_takeBack_21 : decode cX0_takeBack 21 = .ok (.aload_n 3, 1) := by decide +kernel
theorem dX0_takeBack_22 : decode cX0_takeBack 22 = .ok (.invokevirtual 88, 3) := by decide +kernel
theorem dX0_takeBack_25 : decode cX0_takeBack 25 = .ok (.ifCond .ne 10, 3) := by decide +kernel
theorem dX0_takeBack_28 : decode cX0_takeBack 28 = .ok (.aload_n 3, 1) := by decide +kernel
theorem dX0_takeBack_29 : decode cX0_takeBack 29 = .ok (.invokevirtual 91, 3) := by decide +kernel
theorem dX0_takeBack_32 : decode cX0_takeBack 32 = .ok (.ifCond .eq 5, 3) := by decide +kernel
theorem dX0_takeBack_35 : decode cX0_takeBack 35 = .ok (.iconst (-1), 1) := by decide +kernel
theorem dX0_takeBack_36 : decode cX0_takeBack 36 = .ok (.ireturn, 1) := by decide +kernel
theorem dX0_takeBack_37 : decode cX0_takeBack 37 = .ok (.aload_n 0, 1) := by decide +kernel
theorem dX0_takeBack_38 : decode cX0_takeBack 38 = .ok (.iload_n 2, 1) := by decide +kernel
theorem dX0_takeBack_39 : decode cX0_takeBack 39 = .ok (.invokevirtual 26, 3) := by decide +kernel
theorem dX0_takeBack_42 : decode cX0_takeBack 42 = .ok (.ifCond .eq 10, 3) := by decide +kernel
theorem dX0_takeBack_45 : decode cX0_takeBack 45 = .ok (.aload_n 0, 1) := by decide +kernel
theorem dX0_takeBack_46 : decode cX0_takeBack 46 = .ok (.invokevirtual 30, 3) := by decide +kernel
theorem dX0_takeBack_49 : decode cX0_takeBack 49 = .ok (.ifCond .eq 5, 3) := by decide +kernel
theorem dX0_takeBack_52 : decode cX0_takeBack 52 = .ok (.iconst (-1), 1) := by decide +kernel
theorem dX0_takeBack_53 : decode cX0_takeBack 53 = .ok (.ireturn, 1) := by decide +kernel
theorem dX0_takeBack_54 : decode cX0_takeBack 54 = .ok (.new 11, 3) := by decide +kernel
theorem dX0_takeBack_57 : decode cX0_takeBack 57 = .ok (.dup, 1) := by decide +kernel
theorem dX0_takeBack_58 : decode cX0_takeBack 58 = .ok (.invokespecial 17, 3) := by decide +kernel
theorem dX0_takeBack_61 : decode cX0_takeBack 61 = .ok (.astore 4, 2) := by decide +kernel
theorem dX0_takeBack_63 : decode cX0_takeBack 63 = .ok (.aload 4, 2) := by decide +kernel
theorem dX0_takeBack_65 : decode cX0_takeBack 65 = .ok (.iload_n 2, 1) := by decide +kernel
theorem dX0_takeBack_66 : decode cX0_takeBack 66 = .ok (.invokevirtual 34, 3) := by decide +kernel
theorem dX0_takeBack_69 : decode cX0_takeBack 69 = .ok (.aload 4, 2) := by decide +kernel
theorem dX0_takeBack_71 : decode cX0_takeBack 71 = .ok (.aload_n 3, 1) := by decide +kernel
theorem dX0_takeBack_72 : decode cX0_takeBack 72 = .ok (.invokevirtual 94, 3) := by decide +kernel
theorem dX0_takeBack_75 : decode cX0_takeBack 75 = .ok (.aload 4, 2) := by decide +kernel
theorem dX0_takeBack_77 : decode cX0_takeBack 77 = .ok (.iload_n 1, 1) := by decide +kernel
theorem dX0_takeBack_78 : decode cX0_takeBack 78 = .ok (.putfield 98, 3) := by decide +kernel
theorem dX0_takeBack_81 : decode cX0_takeBack 81 = .ok (.aload_n 3, 1) := by decide +kernel
theorem dX0_takeBack_82 : decode cX0_takeBack 82 = .ok (.aload_n 0, 1) := by decide +kernel
theorem dX0_takeBack_83 : decode cX0_takeBack 83 = .ok (.aload 4, 2) := by decide +kernel
theorem dX0_takeBack_85 : decode cX0_takeBack 85 = .ok (.invokevirtual 58, 3) := by decide +kernel
theorem dX0_takeBack_88 : decode cX0_takeBack 88 = .ok (.putfield 101, 3) := by decide +kernel
theorem dX0_takeBack_91 : decode cX0_takeBack 91 = .ok (.aload_n 3, 1) := by decide +kernel
theorem dX0_takeBack_92 : decode cX0_takeBack 92 = .ok (.getfield 101, 3) := by decide +kernel
theorem dX0_takeBack_95 : decode cX0_takeBack 95 = .ok (.ireturn, 1) := by decide +kernel
theorem dX0_totalOf_0 : decode cX0_totalOf 0 = .ok (.iload_n 1, 1) := by decide +kernel
theorem dX0_totalOf_1 : decode cX0_totalOf 1 = .ok (.invokestatic 38, 3) := by decide +kernel
theorem dX0_totalOf_4 : decode cX0_totalOf 4 = .ok (.ifCond .eq 10, 3) := by decide +kernel
theorem dX0_totalOf_7 : decode cX0_totalOf 7 = .ok (.iload_n 2, 1) := by decide +kernel
theorem dX0_totalOf_8 : decode cX0_totalOf 8 = .ok (.invokestatic 62, 3) := by decide +kernel
theorem dX0_totalOf_11 : decode cX0_totalOf 11 = .ok (.ifCond .ne 7, 3) := by decide +kernel
theorem dX0_totalOf_14 : decode cX0_totalOf 14 = .ok (.ldc2_w 104, 3) := by decide +kernel
theorem dX0_totalOf_17 : decode cX0_totalOf 17 = .ok (.lreturn, 1) := by decide +kernel
theorem dX0_totalOf_18 : decode cX0_totalOf 18 = .ok (.lconst 0, 1) := by decide +kernel
theorem dX0_totalOf_19 : decode cX0_totalOf 19 = .ok (.lstore_n 3, 1) := by decide +kernel
theorem dX0_totalOf_20 : decode cX0_totalOf 20 = .ok (.iconst 0, 1) := by decide +kernel
theorem dX0_totalOf_21 : decode cX0_totalOf 21 = .ok (.istore 5, 2) := by decide +kernel
theorem dX0_totalOf_23 : decode cX0_totalOf 23 = .ok (.iload 5, 2) := by decide +kernel
theorem dX0_totalOf_25 : decode cX0_totalOf 25 = .ok (.aload_n 0, 1) := by decide +kernel
theorem dX0_totalOf_26 : decode cX0_totalOf 26 = .ok (.getfield 106, 3) := by decide +kernel
theorem dX0_totalOf_29 : decode cX0_totalOf 29 = .ok (.if_icmp .ge 44, 3) := by decide +kernel
theorem dX0_totalOf_32 : decode cX0_totalOf 32 = .ok (.aload_n 0, 1) := by decide +kernel
theorem dX0_totalOf_33 : decode cX0_totalOf 33 = .ok (.getfield 13, 3) := by decide +kernel
theorem dX0_totalOf_36 : decode cX0_totalOf 36 = .ok (.iload 5, 2) := by decide +kernel
theorem dX0_totalOf_38 : decode cX0_totalOf 38 = .ok (.aaload, 1) := by decide +kernel
theorem dX0_totalOf_39 : decode cX0_totalOf 39 = .ok (.astore 6, 2) := by decide +kernel
theorem dX0_totalOf_41 : decode cX0_totalOf 41 = .ok (.aload 6, 2) := by decide +kernel
theorem dX0_totalOf_43 : decode cX0_totalOf 43 = .ok (.ifnull 24, 3) := by decide +kernel
theorem dX0_totalOf_46 : decode cX0_totalOf 46 = .ok (.aload 6, 2) := by decide +kernel
theorem dX0_totalOf_48 : decode cX0_totalOf 48 = .ok (.getfield 65, 3) := by decide +kernel
theorem dX0_totalOf_51 : decode cX0_totalOf 51 = .ok (.invokestatic 68, 3) := by decide +kernel
theorem dX0_totalOf_54 : decode cX0_totalOf 54 = .ok (.iload_n 2, 1) := by decide +kernel
theorem dX0_totalOf_55 : decode cX0_totalOf 55 = .ok (.if_icmp .gt 12, 3) := by decide +kernel
theorem dX0_totalOf_58 : decode cX0_totalOf 58 = .ok (.lload_n 3, 1) := by decide +kernel
theorem dX0_totalOf_59 : decode cX0_totalOf 59 = .ok (.aload 6, 2) := by decide +kernel
theorem dX0_totalOf_61 : decode cX0_totalOf 61 = .ok (.iload_n 1, 1) := by decide +kernel
theorem dX0_totalOf_62 : decode cX0_totalOf 62 = .ok (.invokevirtual 107, 3) := by decide +kernel
theorem dX0_totalOf_65 : decode cX0_totalOf 65 = .ok (.ladd, 1) := by decide +kernel
theorem dX0_totalOf_66 : decode cX0_totalOf 66 = .ok (.lstore_n 3, 1) := by decide +kernel
theorem dX0_totalOf_67 : decode cX0_totalOf 67 = .ok (.iinc 5 1, 3) := by decide +kernel
theorem dX0_totalOf_70 : decode cX0_totalOf 70 = .ok (.goto (-47), 3) := by decide +kernel
theorem dX0_totalOf_73 : decode cX0_totalOf 73 = .ok (.lload_n 3, 1) := by decide +kernel
theorem dX0_totalOf_74 : decode cX0_totalOf 74 = .ok (.lreturn, 1) := by decide +kernel
theorem dX0_tell_0 : decode cX0_tell 0 = .ok (.aload_n 0, 1) := by decide +kernel
theorem dX0_tell_1 : decode cX0_tell 1 = .ok (.iload_n 1, 1) := by decide +kernel
theorem dX0_tell_2 : decode cX0_tell 2 = .ok (.invokevirtual 81, 3) := by decide +kernel
theorem dX0_tell_5 : decode cX0_tell 5 = .ok (.astore 4, 2) := by decide +kernel
theorem dX0_tell_7 : decode cX0_tell 7 = .ok (.aload 4, 2) := by decide +kernel
theorem dX0_tell_9 : decode cX0_tell 9 = .ok (.ifnonnull 7, 3) := by decide +kernel
theorem dX0_tell_12 : decode cX0_tell 12 = .ok (.ldc2_w 104, 3) := by decide +kernel
theorem dX0_tell_15 : decode cX0_tell 15 = .ok (.lreturn, 1) := by decide +kernel
theorem dX0_tell_16 : decode cX0_tell 16 = .ok (.iload_n 2, 1) := by decide +kernel
theorem dX0_tell_17 : decode cX0_tell 17 = .ok (.iconst (-1), 1) := by decide +kernel
theorem dX0_tell_18 : decode cX0_tell 18 = .ok (.if_icmp .ne 12, 3) := by decide +kernel
theorem dX0_tell_21 : decode cX0_tell 21 = .ok (.aload 4, 2) := by decide +kernel
theorem dX0_tell_23 : decode cX0_tell 23 = .ok (.iload_n 3, 1) := by decide +kernel
theorem dX0_tell_24 : decode cX0_tell 24 = .ok (.invokevirtual 111, 3) := by decide +kernel
theorem dX0_tell_27 : decode cX0_tell 27 = .ok (.goto 10, 3) := by decide +kernel
theorem dX0_tell_30 : decode cX0_tell 30 = .ok (.aload 4, 2) := by decide +kernel
theorem dX0_tell_32 : decode cX0_tell 32 = .ok (.iload_n 2, 1) := by decide +kernel
theorem dX0_tell_33 : decode cX0_tell 33 = .ok (.iload_n 3, 1) := by decide +kernel
theorem dX0_tell_34 : decode cX0_tell 34 = .ok (.invokevirtual 114, 3) := by decide +kernel
theorem dX0_tell_37 : decode cX0_tell 37 = .ok (.lreturn, 1) := by decide +kernel
theorem dX0_putIn_0 : decode cX0_putIn 0 = .ok (.aload_n 0, 1) := by decide +kernel
theorem dX0_putIn_1 : decode cX0_putIn 1 = .ok (.getfield 106, 3) := by decide +kernel
theorem dX0_putIn_4 : decode cX0_putIn 4 = .ok (.bipush 60, 2) := by decide +kernel
theorem dX0_putIn_6 : decode cX0_putIn 6 = .ok (.if_icmp .ge 23, 3) := by decide +kernel
theorem dX0_putIn_9 : decode cX0_putIn 9 = .ok (.aload_n 0, 1) := by decide +kernel
theorem dX0_putIn_10 : decode cX0_putIn 10 = .ok (.getfield 13, 3) := by decide +kernel
theorem dX0_putIn_13 : decode cX0_putIn 13 = .ok (.aload_n 0, 1) := by decide +kernel
theorem dX0_putIn_14 : decode cX0_putIn 14 = .ok (.getfield 106, 3) := by decide +kernel
theorem dX0_putIn_17 : decode cX0_putIn 17 = .ok (.aload_n 1, 1) := by decide +kernel
theorem dX0_putIn_18 : decode cX0_putIn 18 = .ok (.aastore, 1) := by decide +kernel
theorem dX0_putIn_19 : decode cX0_putIn 19 = .ok (.aload_n 0, 1) := by decide +kernel
theorem dX0_putIn_20 : decode cX0_putIn 20 = .ok (.dup, 1) := by decide +kernel
theorem dX0_putIn_21 : decode cX0_putIn 21 = .ok (.getfield 106, 3) := by decide +kernel
theorem dX0_putIn_24 : decode cX0_putIn 24 = .ok (.iconst 1, 1) := by decide +kernel
theorem dX0_putIn_25 : decode cX0_putIn 25 = .ok (.iadd, 1) := by decide +kernel
theorem dX0_putIn_26 : decode cX0_putIn 26 = .ok (.putfield 106, 3) := by decide +kernel
theorem dX0_putIn_29 : decode cX0_putIn 29 = .ok (.aload_n 0, 1) := by decide +kernel
theorem dX0_putIn_30 : decode cX0_putIn 30 = .ok (.getfield 106, 3) := by decide +kernel
theorem dX0_putIn_33 : decode cX0_putIn 33 = .ok (.ireturn, 1) := by decide +kernel
theorem dX0_entryAt_0 : decode cX0_entryAt 0 = .ok (.iload_n 1, 1) := by decide +kernel
theorem dX0_entryAt_1 : decode cX0_entryAt 1 = .ok (.iconst 1, 1) := by decide +kernel
theorem dX0_entryAt_2 : decode cX0_entryAt 2 = .ok (.if_icmp .lt 22, 3) := by decide +kernel
theorem dX0_entryAt_5 : decode cX0_entryAt 5 = .ok (.iload_n 1, 1) := by decide +kernel
theorem dX0_entryAt_6 : decode cX0_entryAt 6 = .ok (.aload_n 0, 1) := by decide +kernel
theorem dX0_entryAt_7 : decode cX0_entryAt 7 = .ok (.getfield 106, 3) := by decide +kernel
theorem dX0_entryAt_10 : decode cX0_entryAt 10 = .ok (.if_icmp .gt 14, 3) := by decide +kernel
theorem dX0_entryAt_13 : decode cX0_entryAt 13 = .ok (.aload_n 0, 1) := by decide +kernel
theorem dX0_entryAt_14 : decode cX0_entryAt 14 = .ok (.getfield 13, 3) := by decide +kernel
theorem dX0_entryAt_17 : decode cX0_entryAt 17 = .ok (.iload_n 1, 1) := by decide +kernel
theorem dX0_entryAt_18 : decode cX0_entryAt 18 = .ok (.iconst 1, 1) := by decide +kernel
theorem dX0_entryAt_19 : decode cX0_entryAt 19 = .ok (.isub, 1) := by decide +kernel
theorem dX0_entryAt_20 : decode cX0_entryAt 20 = .ok (.aaload, 1) := by decide +kernel
theorem dX0_entryAt_21 : decode cX0_entryAt 21 = .ok (.goto 4, 3) := by decide +kernel
theorem dX0_entryAt_24 : decode cX0_entryAt 24 = .ok (.aconst_null, 1) := by decide +kernel
theorem dX0_entryAt_25 : decode cX0_entryAt 25 = .ok (.areturn, 1) := by decide +kernel
theorem dX0_isFull_0 : decode cX0_isFull 0 = .ok (.aload_n 0, 1) := by decide +kernel
theorem dX0_isFull_1 : decode cX0_isFull 1 = .ok (.getfield 106, 3) := by decide +kernel
theorem dX0_isFull_4 : decode cX0_isFull 4 = .ok (.bipush 60, 2) := by decide +kernel
theorem dX0_isFull_6 : decode cX0_isFull 6 = .ok (.if_icmp .lt 7, 3) := by decide +kernel
theorem dX0_isFull_9 : decode cX0_isFull 9 = .ok (.iconst 1, 1) := by decide +kernel
theorem dX0_isFull_10 : decode cX0_isFull 10 = .ok (.goto 4, 3) := by decide +kernel
theorem dX0_isFull_13 : decode cX0_isFull 13 = .ok (.iconst 0, 1) := by decide +kernel
theorem dX0_isFull_14 : decode cX0_isFull 14 = .ok (.ireturn, 1) := by decide +kernel
theorem dX0_takesDay_0 : decode cX0_takesDay 0 = .ok (.iload_n 1, 1) := by decide +kernel
theorem dX0_takesDay_1 : decode cX0_takesDay 1 = .ok (.ifCond .lt 22, 3) := by decide +kernel
theorem dX0_takesDay_4 : decode cX0_takesDay 4 = .ok (.iload_n 1, 1) := by decide +kernel
theorem dX0_takesDay_5 : decode cX0_takesDay 5 = .ok (.sipush 3600, 3) := by decide +kernel
theorem dX0_takesDay_8 : decode cX0_takesDay 8 = .ok (.if_icmp .ge 15, 3) := by decide +kernel
theorem dX0_takesDay_11 : decode cX0_takesDay 11 = .ok (.aload_n 0, 1) := by decide +kernel
theorem dX0_takesDay_12 : decode cX0_takesDay 12 = .ok (.iload_n 1, 1) := by decide +kernel
theorem dX0_takesDay_13 : decode cX0_takesDay 13 = .ok (.invokevirtual 85, 3) := by decide +kernel
theorem dX0_takesDay_16 : decode cX0_takesDay 16 = .ok (.ifCond .ne 7, 3) := by decide +kernel
theorem dX0_takesDay_19 : decode cX0_takesDay 19 = .ok (.iconst 1, 1) := by decide +kernel
theorem dX0_takesDay_20 : decode cX0_takesDay 20 = .ok (.goto 4, 3) := by decide +kernel
theorem dX0_takesDay_23 : decode cX0_takesDay 23 = .ok (.iconst 0, 1) := by decide +kernel
theorem dX0_takesDay_24 : decode cX0_takesDay 24 = .ok (.ireturn, 1) := by decide +kernel
theorem dX0_isClosed_0 : decode cX0_isClosed 0 = .ok (.iload_n 1, 1) := by decide +kernel
theorem dX0_isClosed_1 : decode cX0_isClosed 1 = .ok (.invokestatic 68, 3) := by decide +kernel
theorem dX0_isClosed_4 : decode cX0_isClosed 4 = .ok (.aload_n 0, 1) := by decide +kernel
theorem dX0_isClosed_5 : decode cX0_isClosed 5 = .ok (.getfield 72, 3) := by decide +kernel
theorem dX0_isClosed_8 : decode cX0_isClosed 8 = .ok (.if_icmp .ge 7, 3) := by decide +kernel
theorem dX0_isClosed_11 : decode cX0_isClosed 11 = .ok (.iconst 1, 1) := by decide +kernel
theorem dX0_isClosed_12 : decode cX0_isClosed 12 = .ok (.goto 4, 3) := by decide +kernel
theorem dX0_isClosed_15 : decode cX0_isClosed 15 = .ok (.iconst 0, 1) := by decide +kernel
theorem dX0_isClosed_16 : decode cX0_isClosed 16 = .ok (.ireturn, 1) := by decide +kernel
theorem dX0_monthOf_0 : decode cX0_monthOf 0 = .ok (.iload_n 0, 1) := by decide +kernel
theorem dX0_monthOf_1 : decode cX0_monthOf 1 = .ok (.bipush 30, 2) := by decide +kernel
theorem dX0_monthOf_3 : decode cX0_monthOf 3 = .ok (.idiv, 1) := by decide +kernel
theorem dX0_monthOf_4 : decode cX0_monthOf 4 = .ok (.ireturn, 1) := by decide +kernel
theorem dX0_isMonth_0 : decode cX0_isMonth 0 = .ok (.iload_n 0, 1) := by decide +kernel
theorem dX0_isMonth_1 : decode cX0_isMonth 1 = .ok (.ifCond .lt 13, 3) := by decide +kernel
theorem dX0_isMonth_4 : decode cX0_isMonth 4 = .ok (.iload_n 0, 1) := by decide +kernel
theorem dX0_isMonth_5 : decode cX0_isMonth 5 = .ok (.bipush 120, 2) := by decide +kernel
theorem dX0_isMonth_7 : decode cX0_isMonth 7 = .ok (.if_icmp .ge 7, 3) := by decide +kernel
theorem dX0_isMonth_10 : decode cX0_isMonth 10 = .ok (.iconst 1, 1) := by decide +kernel
theorem dX0_isMonth_11 : decode cX0_isMonth 11 = .ok (.goto 4, 3) := by decide +kernel
theorem dX0_isMonth_14 : decode cX0_isMonth 14 = .ok (.iconst 0, 1) := by decide +kernel
theorem dX0_isMonth_15 : decode cX0_isMonth 15 = .ok (.ireturn, 1) := by decide +kernel
theorem dX0_isAccount_0 : decode cX0_isAccount 0 = .ok (.iload_n 0, 1) := by decide +kernel
theorem dX0_isAccount_1 : decode cX0_isAccount 1 = .ok (.ifCond .lt 13, 3) := by decide +kernel
theorem dX0_isAccount_4 : decode cX0_isAccount 4 = .ok (.iload_n 0, 1) := by decide +kernel
theorem dX0_isAccount_5 : decode cX0_isAccount 5 = .ok (.bipush 20, 2) := by decide +kernel
theorem dX0_isAccount_7 : decode cX0_isAccount 7 = .ok (.if_icmp .ge 7, 3) := by decide +kernel
theorem dX0_isAccount_10 : decode cX0_isAccount 10 = .ok (.iconst 1, 1) := by decide +kernel
theorem dX0_isAccount_11 : decode cX0_isAccount 11 = .ok (.goto 4, 3) := by decide +kernel
theorem dX0_isAccount_14 : decode cX0_isAccount 14 = .ok (.iconst 0, 1) := by decide +kernel
theorem dX0_isAccount_15 : decode cX0_isAccount 15 = .ok (.ireturn, 1) := by decide +kernel
theorem dX1_init_0 : decode cX1_init 0 = .ok (.aload_n 0, 1) := by decide +kernel
theorem dX1_init_1 : decode cX1_init 1 = .ok (.invokespecial 3, 3) := by decide +kernel
theorem dX1_init_4 : decode cX1_init 4 = .ok (.aload_n 0, 1) := by decide +kernel
theorem dX1_init_5 : decode cX1_init 5 = .ok (.bipush 12, 2) := by decide +kernel
theorem dX1_init_7 : decode cX1_init 7 = .ok (.newarray .int, 2) := by decide +kernel
theorem dX1_init_9 : decode cX1_init 9 = .ok (.putfield 9, 3) := by decide +kernel
theorem dX1_init_12 : decode cX1_init 12 = .ok (.aload_n 0, 1) := by decide +kernel
theorem dX1_init_13 : decode cX1_init 13 = .ok (.bipush 12, 2) := by decide +kernel
theorem dX1_init_15 : decode cX1_init 15 = .ok (.newarray .long, 2) := by decide +kernel
theorem dX1_init_17 : decode cX1_init 17 = .ok (.putfield 15, 3) := by decide +kernel
theorem dX1_init_20 : decode cX1_init 20 = .ok (.return_, 1) := by decide +kernel
theorem dX1_join_0 : decode cX1_join 0 = .ok (.iload_n 1, 1) := by decide +kernel
theorem dX1_join_1 : decode cX1_join 1 = .ok (.ifCond .lt 18, 3) := by decide +kernel
theorem dX1_join_4 : decode cX1_join 4 = .ok (.iload_n 1, 1) := by decide +kernel
theorem dX1_join_5 : decode cX1_join 5 = .ok (.bipush 10, 2) := by decide +kernel
theorem dX1_join_7 : decode cX1_join 7 = .ok (.if_icmp .ge 12, 3) := by decide +kernel
theorem dX1_join_10 : decode cX1_join 10 = .ok (.aload_n 0, 1) := by decide +kernel
theorem dX1_join_11 : decode cX1_join 11 = .ok (.getfield 19, 3) := by decide +kernel
theorem dX1_join_14 : decode cX1_join 14 = .ok (.bipush 12, 2) := by decide +kernel
theorem dX1_join_16 : decode cX1_join 16 = .ok (.if_icmp .lt 5, 3) := by decide +kernel
theorem dX1_join_19 : decode cX1_join 19 = .ok (.iconst (-1), 1) := by decide +kernel
theorem dX1_join_20 : decode cX1_join 20 = .ok (.ireturn, 1) := by decide +kernel
theorem dX1_join_21 : decode cX1_join 21 = .ok (.aload_n 0, 1) := by decide +kernel
theorem dX1_join_22 : decode cX1_join 22 = .ok (.getfield 9, 3) := by decide +kernel
theorem dX1_join_25 : decode cX1_join 25 = .ok (.aload_n 0, 1) := by decide +kernel
theorem dX1_join_26 : decode cX1_join 26 = .ok (.getfield 19, 3) := by decide +kernel
theorem dX1_join_29 : decode cX1_join 29 = .ok (.iload_n 1, 1) := by decide +kernel
theorem dX1_join_30 : decode cX1_join 30 = .ok (.iastore, 1) := by decide +kernel
theorem dX1_join_31 : decode cX1_join 31 = .ok (.aload_n 0, 1) := by decide +kernel
theorem dX1_join_32 : decode cX1_join 32 = .ok (.dup, 1) := by decide +kernel
theorem dX1_join_33 : decode cX1_join 33 = .ok (.getfield 19, 3) := by decide +kernel
theorem dX1_join_36 : decode cX1_join 36 = .ok (.iconst 1, 1) := by decide +kernel
theorem dX1_join_37 : decode cX1_join 37 = .ok (.iadd, 1) := by decide +kernel
theorem dX1_join_38 : decode cX1_join 38 = .ok (.putfield 19, 3) := by decide +kernel
theorem dX1_join_41 : decode cX1_join 41 = .ok (.aload_n 0, 1) := by decide +kernel
theorem dX1_join_42 : decode cX1_join 42 = .ok (.getfield 19, 3) := by decide +kernel
theorem dX1_join_45 : decode cX1_join 45 = .ok (.iconst 1, 1) := by decide +kernel
theorem dX1_join_46 : decode cX1_join 46 = .ok (.isub, 1) := by decide +kernel
theorem dX1_join_47 : decode cX1_join 47 = .ok (.ireturn, 1) := by decide +kernel
theorem dX1_has_0 : decode cX1_has 0 = .ok (.iload_n 1, 1) := by decide +kernel
theorem dX1_has_1 : decode cX1_has 1 = .ok (.ifCond .lt 15, 3) := by decide +kernel
theorem dX1_has_4 : decode cX1_has 4 = .ok (.iload_n 1, 1) := by decide +kernel
theorem dX1_has_5 : decode cX1_has 5 = .ok (.aload_n 0, 1) := by decide +kernel
theorem dX1_has_6 : decode cX1_has 6 = .ok (.getfield 19, 3) := by decide +kernel
theorem dX1_has_9 : decode cX1_has 9 = .ok (.if_icmp .ge 7, 3) := by decide +kernel
theorem dX1_has_12 : decode cX1_has 12 = .ok (.iconst 1, 1) := by decide +kernel
theorem dX1_has_13 : decode cX1_has 13 = .ok (.goto 4, 3) := by decide +kernel
theorem dX1_has_16 : decode cX1_has 16 = .ok (.iconst 0, 1) := by decide +kernel
theorem dX1_has_17 : decode cX1_has 17 = .ok (.ireturn, 1) := by decide +kernel
theorem dX2_init_0 : decode cX2_init 0 = .ok (.aload_n 0, 1) := by decide +kernel
theorem dX2_init_1 : decode cX2_init 1 = .ok (.invokespecial 3, 3) := by decide +kernel
theorem dX2_init_4 : decode cX2_init 4 = .ok (.aload_n 0, 1) := by decide +kernel
theorem dX2_init_5 : decode cX2_init 5 = .ok (.bipush 8, 2) := by decide +kernel
theorem dX2_init_7 : decode cX2_init 7 = .ok (.newarray .int, 2) := by decide +kernel
theorem dX2_init_9 : decode cX2_init 9 = .ok (.putfield 11, 3) := by decide +kernel
theorem dX2_init_12 : decode cX2_init 12 = .ok (.aload_n 0, 1) := by decide +kernel
theorem dX2_init_13 : decode cX2_init 13 = .ok (.bipush 8, 2) := by decide +kernel
theorem dX2_init_15 : decode cX2_init 15 = .ok (.newarray .long, 2) := by decide +kernel
theorem dX2_init_17 : decode cX2_init 17 = .ok (.putfield 15, 3) := by decide +kernel
theorem dX2_init_20 : decode cX2_init 20 = .ok (.return_, 1) := by decide +kernel
theorem dX2_startOn_0 : decode cX2_startOn 0 = .ok (.aload_n 0, 1) := by decide +kernel
theorem dX2_startOn_1 : decode cX2_startOn 1 = .ok (.iload_n 1, 1) := by decide +kernel
theorem dX2_startOn_2 : decode cX2_startOn 2 = .ok (.putfield 19, 3) := by decide +kernel
theorem dX2_startOn_5 : decode cX2_startOn 5 = .ok (.aload_n 0, 1) := by decide +kernel
theorem dX2_startOn_6 : decode cX2_startOn 6 = .ok (.iconst 0, 1) := by decide +kernel
theorem dX2_startOn_7 : decode cX2_startOn 7 = .ok (.putfield 23, 3) := by decide +kernel
theorem dX2_startOn_10 : decode cX2_startOn 10 = .ok (.return_, 1) := by decide +kernel
theorem dX2_isFull_0 : decode cX2_isFull 0 = .ok (.aload_n 0, 1) := by decide +kernel
theorem dX2_isFull_1 : decode cX2_isFull 1 = .ok (.getfield 23, 3) := by decide +kernel
theorem dX2_isFull_4 : decode cX2_isFull 4 = .ok (.bipush 8, 2) := by decide +kernel
theorem dX2_isFull_6 : decode cX2_isFull 6 = .ok (.if_icmp .lt 7, 3) := by decide +kernel
theorem dX2_isFull_9 : decode cX2_isFull 9 = .ok (.iconst 1, 1) := by decide +kernel
theorem dX2_isFull_10 : decode cX2_isFull 10 = .ok (.goto 4, 3) := by decide +kernel
theorem dX2_isFull_13 : decode cX2_isFull 13 = .ok (.iconst 0, 1) := by decide +kernel
theorem dX2_isFull_14 : decode cX2_isFull 14 = .ok (.ireturn, 1) := by decide +kernel
theorem dX2_add_0 : decode cX2_add 0 = .ok (.aload_n 0, 1) := by decide +kernel
theorem dX2_add_1 : decode cX2_add 1 = .ok (.invokevirtual 26, 3) := by decide +kernel
theorem dX2_add_4 : decode cX2_add 4 = .ok (.ifCond .ne 33, 3) := by decide +kernel
theorem dX2_add_7 : decode cX2_add 7 = .ok (.aload_n 0, 1) := by decide +kernel
theorem dX2_add_8 : decode cX2_add 8 = .ok (.getfield 11, 3) := by decide +kernel
theorem dX2_add_11 : decode cX2_add 11 = .ok (.aload_n 0, 1) := by decide +kernel
theorem dX2_add_12 : decode cX2_add 12 = .ok (.getfield 23, 3) := by decide +kernel
theorem dX2_add_15 : decode cX2_add 15 = .ok (.iload_n 1, 1) := by decide +kernel
theorem dX2_add_16 : decode cX2_add 16 = .ok (.iastore, 1) := by decide +kernel
theorem dX2_add_17 : decode cX2_add 17 = .ok (.aload_n 0, 1) := by decide +kernel
theorem dX2_add_18 : decode cX2_add 18 = .ok (.getfield 15, 3) := by decide +kernel
theorem dX2_add_21 : decode cX2_add 21 = .ok (.aload_n 0, 1) := by decide +kernel
theorem dX2_add_22 : decode cX2_add 22 = .ok (.getfield 23, 3) := by decide +kernel
theorem dX2_add_25 : decode cX2_add 25 = .ok (.lload_n 2, 1) := by decide +kernel
theorem dX2_add_26 : decode cX2_add 26 = .ok (.lastore, 1) := by decide +kernel
theorem dX2_add_27 : decode cX2_add 27 = .ok (.aload_n 0, 1) := by decide +kernel
theorem dX2_add_28 : decode cX2_add 28 = .ok (.dup, 1) := by decide +kernel
theorem dX2_add_29 : decode cX2_add 29 = .ok (.getfield 23, 3) := by decide +kernel
theorem dX2_add_32 : decode cX2_add 32 = .ok (.iconst 1, 1) := by decide +kernel
theorem dX2_add_33 : decode cX2_add 33 = .ok (.iadd, 1) := by decide +kernel
theorem dX2_add_34 : decode cX2_add 34 = .ok (.putfield 23, 3) := by decide +kernel
theorem dX2_add_37 : decode cX2_add 37 = .ok (.return_, 1) := by decide +kernel
theorem dX2_addReversed_0 : decode cX2_addReversed 0 = .ok (.iconst 0, 1) := by decide +kernel
theorem dX2_addReversed_1 : decode cX2_addReversed 1 = .ok (.istore_n 2, 1) := by decide +kernel
theorem dX2_addReversed_2 : decode cX2_addReversed 2 = .ok (.iload_n 2, 1) := by decide +kernel
theorem dX2_addReversed_3 : decode cX2_addReversed 3 = .ok (.aload_n 1, 1) := by decide +kernel
theorem dX2_addReversed_4 : decode cX2_addReversed 4 = .ok (.getfield 23, 3) := by decide +kernel
theorem dX2_addReversed_7 : decode cX2_addReversed 7 = .ok (.if_icmp .ge 26, 3) := by decide +kernel
theorem dX2_addReversed_10 : decode cX2_addReversed 10 = .ok (.aload_n 0, 1) := by decide +kernel
theorem dX2_addReversed_11 : decode cX2_addReversed 11 = .ok (.aload_n 1, 1) := by decide +kernel
theorem dX2_addReversed_12 : decode cX2_addReversed 12 = .ok (.getfield 11, 3) := by decide +kernel
theorem dX2_addReversed_15 : decode cX2_addReversed 15 = .ok (.iload_n 2, 1) := by decide +kernel
theorem dX2_addReversed_16 : decode cX2_addReversed 16 = .ok (.iaload, 1) := by decide +kernel
theorem dX2_addReversed_17 : decode cX2_addReversed 17 = .ok (.aload_n 1, 1) := by decide +kernel
theorem dX2_addReversed_18 : decode cX2_addReversed 18 = .ok (.getfield 15, 3) := by decide +kernel
theorem dX2_addReversed_21 : decode cX2_addReversed 21 = .ok (.iload_n 2, 1) := by decide +kernel
theorem dX2_addReversed_22 : decode cX2_addReversed 22 = .ok (.laload, 1) := by decide +kernel
theorem dX2_addReversed_23 : decode cX2_addReversed 23 = .ok (.lneg, 1) := by decide +kernel
theorem dX2_addReversed_24 : decode cX2_addReversed 24 = .ok (.invokevirtual 30, 3) := by decide +kernel
theorem dX2_addReversed_27 : decode cX2_addReversed 27 = .ok (.iinc 2 1, 3) := by decide +kernel
theorem dX2_addReversed_30 : decode cX2_addReversed 30 = .ok (.goto (-28), 3) := by decide +kernel
theorem dX2_addReversed_33 : decode cX2_addReversed 33 = .ok (.return_, 1) := by decide +kernel
theorem dX2_isTakenBack_0 : decode cX2_isTakenBack 0 = .ok (.aload_n 0, 1) := by decide +kernel
theorem dX2_isTakenBack_1 : decode cX2_isTakenBack 1 = .ok (.getfield 34, 3) := by decide +kernel
theorem dX2_isTakenBack_4 : decode cX2_isTakenBack 4 = .ok (.ifCond .eq 7, 3) := by decide +kernel
theorem dX2_isTakenBack_7 : decode cX2_isTakenBack 7 = .ok (.iconst 1, 1) := by decide +kernel
theorem dX2_isTakenBack_8 : decode cX2_isTakenBack 8 = .ok (.goto 4, 3) := by decide +kernel
theorem dX2_isTakenBack_11 : decode cX2_isTakenBack 11 = .ok (.iconst 0, 1) := by decide +kernel
theorem dX2_isTakenBack_12 : decode cX2_isTakenBack 12 = .ok (.ireturn, 1) := by decide +kernel
theorem dX2_takesOneBack_0 : decode cX2_takesOneBack 0 = .ok (.aload_n 0, 1) := by decide +kernel
theorem dX2_takesOneBack_1 : decode cX2_takesOneBack 1 = .ok (.getfield 37, 3) := by decide +kernel
theorem dX2_takesOneBack_4 : decode cX2_takesOneBack 4 = .ok (.ifCond .eq 7, 3) := by decide +kernel
theorem dX2_takesOneBack_7 : decode cX2_takesOneBack 7 = .ok (.iconst 1, 1) := by decide +kernel
theorem dX2_takesOneBack_8 : decode cX2_takesOneBack 8 = .ok (.goto 4, 3) := by decide +kernel
theorem dX2_takesOneBack_11 : decode cX2_takesOneBack 11 = .ok (.iconst 0, 1) := by decide +kernel
theorem dX2_takesOneBack_12 : decode cX2_takesOneBack 12 = .ok (.ireturn, 1) := by decide +kernel
theorem dX2_total_0 : decode cX2_total 0 = .ok (.lconst 0, 1) := by decide +kernel
theorem dX2_total_1 : decode cX2_total 1 = .ok (.lstore_n 1, 1) := by decide +kernel
theorem dX2_total_2 : decode cX2_total 2 = .ok (.iconst 0, 1) := by decide +kernel
theorem dX2_total_3 : decode cX2_total 3 = .ok (.istore_n 3, 1) := by decide +kernel
theorem dX2_total_4 : decode cX2_total 4 = .ok (.iload_n 3, 1) := by decide +kernel
theorem dX2_total_5 : decode cX2_total 5 = .ok (.aload_n 0, 1) := by decide +kernel
theorem dX2_total_6 : decode cX2_total 6 = .ok (.getfield 23, 3) := by decide +kernel
theorem dX2_total_9 : decode cX2_total 9 = .ok (.if_icmp .ge 18, 3) := by decide +kernel
theorem dX2_total_12 : decode cX2_total 12 = .ok (.lload_n 1, 1) := by decide +kernel
theorem dX2_total_13 : decode cX2_total 13 = .ok (.aload_n 0, 1) := by decide +kernel
theorem dX2_total_14 : decode cX2_total 14 = .ok (.getfield 15, 3) := by decide +kernel
theorem dX2_total_17 : decode cX2_total 17 = .ok (.iload_n 3, 1) := by decide +kernel
theorem dX2_total_18 : decode cX2_total 18 = .ok (.laload, 1) := by decide +kernel
theorem dX2_total_19 : decode cX2_total 19 = .ok (.ladd, 1) := by decide +kernel
theorem dX2_total_20 : decode cX2_total 20 = .ok (.lstore_n 1, 1) := by decide +kernel
theorem dX2_total_21 : decode cX2_total 21 = .ok (.iinc 3 1, 3) := by decide +kernel
theorem dX2_total_24 : decode cX2_total 24 = .ok (.goto (-20), 3) := by decide +kernel
theorem dX2_total_27 : decode cX2_total 27 = .ok (.lload_n 1, 1) := by decide +kernel
theorem dX2_total_28 : decode cX2_total 28 = .ok (.lreturn, 1) := by decide +kernel
theorem dX2_totalOf_0 : decode cX2_totalOf 0 = .ok (.lconst 0, 1) := by decide +kernel
theorem dX2_totalOf_1 : decode cX2_totalOf 1 = .ok (.lstore_n 2, 1) := by decide +kernel
theorem dX2_totalOf_2 : decode cX2_totalOf 2 = .ok (.iconst 0, 1) := by decide +kernel
theorem dX2_totalOf_3 : decode cX2_totalOf 3 = .ok (.istore 4, 2) := by decide +kernel
theorem dX2_totalOf_5 : decode cX2_totalOf 5 = .ok (.iload 4, 2) := by decide +kernel
theorem dX2_totalOf_7 : decode cX2_totalOf 7 = .ok (.aload_n 0, 1) := by decide +kernel
theorem dX2_totalOf_8 : decode cX2_totalOf 8 = .ok (.getfield 23, 3) := by decide +kernel
theorem dX2_totalOf_11 : decode cX2_totalOf 11 = .ok (.if_icmp .ge 30, 3) := by decide +kernel
theorem dX2_totalOf_14 : decode cX2_totalOf 14 = .ok (.aload_n 0, 1) := by decide +kernel
theorem dX2_totalOf_15 : decode cX2_totalOf 15 = .ok (.getfield 11, 3) := by decide +kernel
theorem dX2_totalOf_18 : decode cX2_totalOf 18 = .ok (.iload 4, 2) := by decide +kernel
theorem dX2_totalOf_20 : decode cX2_totalOf 20 = .ok (.iaload, 1) := by decide +kernel
theorem dX2_totalOf_21 : decode cX2_totalOf 21 = .ok (.iload_n 1, 1) := by decide +kernel
theorem dX2_totalOf_22 : decode cX2_totalOf 22 = .ok (.if_icmp .ne 13, 3) := by decide +kernel
theorem dX2_totalOf_25 : decode cX2_totalOf 25 = .ok (.lload_n 2, 1) := by decide +kernel
theorem dX2_totalOf_26 : decode cX2_totalOf 26 = .ok (.aload_n 0, 1) := by decide +kernel
theorem dX2_totalOf_27 : decode cX2_totalOf 27 = .ok (.getfield 15, 3) := by decide +kernel
theorem dX2_totalOf_30 : decode cX2_totalOf 30 = .ok (.iload 4, 2) := by decide +kernel
theorem dX2_totalOf_32 : decode cX2_totalOf 32 = .ok (.laload, 1) := by decide +kernel
theorem dX2_totalOf_33 : decode cX2_totalOf 33 = .ok (.ladd, 1) := by decide +kernel
theorem dX2_totalOf_34 : decode cX2_totalOf 34 = .ok (.lstore_n 2, 1) := by decide +kernel
theorem dX2_totalOf_35 : decode cX2_totalOf 35 = .ok (.iinc 4 1, 3) := by decide +kernel
theorem dX2_totalOf_38 : decode cX2_totalOf 38 = .ok (.goto (-33), 3) := by decide +kernel
theorem dX2_totalOf_41 : decode cX2_totalOf 41 = .ok (.lload_n 2, 1) := by decide +kernel
theorem dX2_totalOf_42 : decode cX2_totalOf 42 = .ok (.lreturn, 1) := by decide +kernel
theorem dX2_tellHead_0 : decode cX2_tellHead 0 = .ok (.iload_n 1, 1) := by decide +kernel
theorem dX2_tellHead_1 : decode cX2_tellHead 1 = .ok (.tableswitch 55 0 3 #[31, 37, 43, 49], 31) := by decide +kernel
theorem dX2_tellHead_32 : decode cX2_tellHead 32 = .ok (.aload_n 0, 1) := by decide +kernel
theorem dX2_tellHead_33 : decode cX2_tellHead 33 = .ok (.getfield 19, 3) := by decide +kernel
theorem dX2_tellHead_36 : decode cX2_tellHead 36 = .ok (.i2l, 1) := by decide +kernel
theorem dX2_tellHead_37 : decode cX2_tellHead 37 = .ok (.lreturn, 1) := by decide +kernel
theorem dX2_tellHead_38 : decode cX2_tellHead 38 = .ok (.aload_n 0, 1) := by decide +kernel
theorem dX2_tellHead_39 : decode cX2_tellHead 39 = .ok (.getfield 23, 3) := by decide +kernel
theorem dX2_tellHead_42 : decode cX2_tellHead 42 = .ok (.i2l, 1) := by decide +kernel
theorem dX2_tellHead_43 : decode cX2_tellHead 43 = .ok (.lreturn, 1) := by decide +kernel
theorem dX2_tellHead_44 : decode cX2_tellHead 44 = .ok (.aload_n 0, 1) := by decide +kernel
theorem dX2_tellHead_45 : decode cX2_tellHead 45 = .ok (.getfield 37, 3) := by decide +kernel
theorem dX2_tellHead_48 : decode cX2_tellHead 48 = .ok (.i2l, 1) := by decide +kernel
theorem dX2_tellHead_49 : decode cX2_tellHead 49 = .ok (.lreturn, 1) := by decide +kernel
theorem dX2_tellHead_50 : decode cX2_tellHead 50 = .ok (.aload_n 0, 1) := by decide +kernel
theorem dX2_tellHead_51 : decode cX2_tellHead 51 = .ok (.getfield 34, 3) := by decide +kernel
theorem dX2_tellHead_54 : decode cX2_tellHead 54 = .ok (.i2l, 1) := by decide +kernel
theorem dX2_tellHead_55 : decode cX2_tellHead 55 = .ok (.lreturn, 1) := by decide +kernel
theorem dX2_tellHead_56 : decode cX2_tellHead 56 = .ok (.ldc2_w 40, 3) := by decide +kernel
theorem dX2_tellHead_59 : decode cX2_tellHead 59 = .ok (.lreturn, 1) := by decide +kernel
theorem dX2_tellRow_0 : decode cX2_tellRow 0 = .ok (.iload_n 1, 1) := by decide +kernel
theorem dX2_tellRow_1 : decode cX2_tellRow 1 = .ok (.ifCond .lt 20, 3) := by decide +kernel
theorem dX2_tellRow_4 : decode cX2_tellRow 4 = .ok (.iload_n 1, 1) := by decide +kernel
theorem dX2_tellRow_5 : decode cX2_tellRow 5 = .ok (.aload_n 0, 1) := by decide +kernel
theorem dX2_tellRow_6 : decode cX2_tellRow 6 = .ok (.getfield 23, 3) := by decide +kernel
theorem dX2_tellRow_9 : decode cX2_tellRow 9 = .ok (.if_icmp .ge 12, 3) := by decide +kernel
theorem dX2_tellRow_12 : decode cX2_tellRow 12 = .ok (.iload_n 2, 1) := by decide +kernel
theorem dX2_tellRow_13 : decode cX2_tellRow 13 = .ok (.ifCond .lt 8, 3) := by decide +kernel
theorem dX2_tellRow_16 : decode cX2_tellRow 16 = .ok (.iload_n 2, 1) := by decide +kernel
theorem dX2_tellRow_17 : decode cX2_tellRow 17 = .ok (.iconst 1, 1) := by decide +kernel
theorem dX2_tellRow_18 : decode cX2_tellRow 18 = .ok (.if_icmp .le 7, 3) := by decide +kernel
theorem dX2_tellRow_21 : decode cX2_tellRow 21 = .ok (.ldc2_w 40, 3) := by decide +kernel
theorem dX2_tellRow_24 : decode cX2_tellRow 24 = .ok (.lreturn, 1) := by decide +kernel
theorem dX2_tellRow_25 : decode cX2_tellRow 25 = .ok (.iload_n 2, 1) := by decide +kernel
theorem dX2_tellRow_26 : decode cX2_tellRow 26 = .ok (.ifCond .ne 13, 3) := by decide +kernel
theorem dX2_tellRow_29 : decode cX2_tellRow 29 = .ok (.aload_n 0, 1) := by decide +kernel
theorem dX2_tellRow_30 : decode cX2_tellRow 30 = .ok (.getfield 11, 3) := by decide +kernel
theorem dX2_tellRow_33 : decode cX2_tellRow 33 = .ok (.iload_n 1, 1) := by decide +kernel
theorem dX2_tellRow_34 : decode cX2_tellRow 34 = .ok (.iaload, 1) := by decide +kernel
theorem dX2_tellRow_35 : decode cX2_tellRow 35 = .ok (.i2l, 1) := by decide +kernel
theorem dX2_tellRow_36 : decode cX2_tellRow 36 = .ok (.goto 9, 3) := by decide +kernel
theorem dX2_tellRow_39 : decode cX2_tellRow 39 = .ok (.aload_n 0, 1) := by decide +kernel
theorem dX2_tellRow_40 : decode cX2_tellRow 40 = .ok (.getfield 15, 3) := by decide +kernel
theorem dX2_tellRow_43 : decode cX2_tellRow 43 = .ok (.iload_n 1, 1) := by decide +kernel
theorem dX2_tellRow_44 : decode cX2_tellRow 44 = .ok (.laload, 1) := by decide +kernel
theorem dX2_tellRow_45 : decode cX2_tellRow 45 = .ok (.lreturn, 1) := by decide +kernel
theorem dX3_init_0 : decode cX3_init 0 = .ok (.aload_n 0, 1) := by decide +kernel
theorem dX3_init_1 : decode cX3_init 1 = .ok (.invokespecial 3, 3) := by decide +kernel
theorem dX3_init_4 : decode cX3_init 4 = .ok (.aload_n 0, 1) := by decide +kernel
theorem dX3_init_5 : decode cX3_init 5 = .ok (.bipush 12, 2) := by decide +kernel
theorem dX3_init_7 : decode cX3_init 7 = .ok (.newarray .long, 2) := by decide +kernel
theorem dX3_init_9 : decode cX3_init 9 = .ok (.putfield 9, 3) := by decide +kernel
theorem dX3_init_12 : decode cX3_init 12 = .ok (.aload_n 0, 1) := by decide +kernel
theorem dX3_init_13 : decode cX3_init 13 = .ok (.bipush 12, 2) := by decide +kernel
theorem dX3_init_15 : decode cX3_init 15 = .ok (.newarray .long, 2) := by decide +kernel
theorem dX3_init_17 : decode cX3_init 17 = .ok (.putfield 15, 3) := by decide +kernel
theorem dX3_init_20 : decode cX3_init 20 = .ok (.aload_n 0, 1) := by decide +kernel
theorem dX3_init_21 : decode cX3_init 21 = .ok (.bipush 12, 2) := by decide +kernel
theorem dX3_init_23 : decode cX3_init 23 = .ok (.newarray .long, 2) := by decide +kernel
theorem dX3_init_25 : decode cX3_init 25 = .ok (.putfield 18, 3) := by decide +kernel
theorem dX3_init_28 : decode cX3_init 28 = .ok (.return_, 1) := by decide +kernel
theorem dX3_clear_0 : decode cX3_clear 0 = .ok (.aload_n 0, 1) := by decide +kernel
theorem dX3_clear_1 : decode cX3_clear 1 = .ok (.iconst 0, 1) := by decide +kernel
theorem dX3_clear_2 : decode cX3_clear 2 = .ok (.putfield 21, 3) := by decide +kernel
theorem dX3_clear_5 : decode cX3_clear 5 = .ok (.return_, 1) := by decide +kernel
theorem dX3_add_0 : decode cX3_add 0 = .ok (.aload_n 0, 1) := by decide +kernel
theorem dX3_add_1 : decode cX3_add 1 = .ok (.getfield 21, 3) := by decide +kernel
theorem dX3_add_4 : decode cX3_add 4 = .ok (.bipush 12, 2) := by decide +kernel
theorem dX3_add_6 : decode cX3_add 6 = .ok (.if_icmp .ge 23, 3) := by decide +kernel
theorem dX3_add_9 : decode cX3_add 9 = .ok (.aload_n 0, 1) := by decide +kernel
theorem dX3_add_10 : decode cX3_add 10 = .ok (.getfield 9, 3) := by decide +kernel
theorem dX3_add_13 : decode cX3_add 13 = .ok (.aload_n 0, 1) := by decide +kernel
theorem dX3_add_14 : decode cX3_add 14 = .ok (.getfield 21, 3) := by decide +kernel
theorem dX3_add_17 : decode cX3_add 17 = .ok (.lload_n 1, 1) := by decide +kernel
theorem dX3_add_18 : decode cX3_add 18 = .ok (.lastore, 1) := by decide +kernel
theorem dX3_add_19 : decode cX3_add 19 = .ok (.aload_n 0, 1) := by decide +kernel
theorem dX3_add_20 : decode cX3_add 20 = .ok (.dup, 1) := by decide +kernel
theorem dX3_add_21 : decode cX3_add 21 = .ok (.getfield 21, 3) := by decide +kernel
theorem dX3_add_24 : decode cX3_add 24 = .ok (.iconst 1, 1) := by decide +kernel
theorem dX3_add_25 : decode cX3_add 25 = .ok (.iadd, 1) := by decide +kernel
theorem dX3_add_26 : decode cX3_add 26 = .ok (.putfield 21, 3) := by decide +kernel
theorem dX3_add_29 : decode cX3_add 29 = .ok (.return_, 1) := by decide +kernel
theorem dX3_divide_0 : decode cX3_divide 0 = .ok (.aload_n 0, 1) := by decide +kernel
theorem dX3_divide_1 : decode cX3_divide 1 = .ok (.getfield 15, 3) := by decide +kernel
theorem dX3_divide_4 : decode cX3_divide 4 = .ok (.lconst 0, 1) := by decide +kernel
theorem dX3_divide_5 : decode cX3_divide 5 = .ok (.invokestatic 25, 3) := by decide +kernel
theorem dX3_divide_8 : decode cX3_divide 8 = .ok (.aload_n 0, 1) := by decide +kernel
theorem dX3_divide_9 : decode cX3_divide 9 = .ok (.invokevirtual 31, 3) := by decide +kernel
theorem dX3_divide_12 : decode cX3_divide 12 = .ok (.lstore_n 3, 1) := by decide +kernel
theorem dX3_divide_13 : decode cX3_divide 13 = .ok (.lload_n 3, 1) := by decide +kernel
theorem dX3_divide_14 : decode cX3_divide 14 = .ok (.lconst 0, 1) := by decide +kernel
theorem dX3_divide_15 : decode cX3_divide 15 = .ok (.lcmp, 1) := by decide +kernel
theorem dX3_divide_16 : decode cX3_divide 16 = .ok (.ifCond .gt 5, 3) := by decide +kernel
theorem dX3_divide_19 : decode cX3_divide 19 = .ok (.iconst 0, 1) := by decide +kernel
theorem dX3_divide_20 : decode cX3_divide 20 = .ok (.ireturn, 1) := by decide +kernel
theorem dX3_divide_21 : decode cX3_divide 21 = .ok (.lload_n 1, 1) := by decide +kernel
theorem dX3_divide_22 : decode cX3_divide 22 = .ok (.lstore 5, 2) := by decide +kernel
theorem dX3_divide_24 : decode cX3_divide 24 = .ok (.iconst 0, 1) := by decide +kernel
theorem dX3_divide_25 : decode cX3_divide 25 = .ok (.istore 7, 2) := by decide +kernel
theorem dX3_divide_27 : decode cX3_divide 27 = .ok (.iload 7, 2) := by decide +kernel
theorem dX3_divide_29 : decode cX3_divide 29 = .ok (.aload_n 0, 1) := by decide +kernel
theorem dX3_divide_30 : decode cX3_divide 30 = .ok (.getfield 21, 3) := by decide +kernel
theorem dX3_divide_33 : decode cX3_divide 33 = .ok (.if_icmp .ge 54, 3) := by decide +kernel
theorem dX3_divide_36 : decode cX3_divide 36 = .ok (.lload_n 1, 1) := by decide +kernel
theorem dX3_divide_37 : decode cX3_divide 37 = .ok (.aload_n 0, 1) := by decide +kernel
theorem dX3_divide_38 : decode cX3_divide 38 = .ok (.getfield 9, 3) := by decide +kernel
theorem dX3_divide_41 : decode cX3_divide 41 = .ok (.iload 7, 2) := by decide +kernel
theorem dX3_divide_43 : decode cX3_divide 43 = .ok (.laload, 1) := by decide +kernel
theorem dX3_divide_44 : decode cX3_divide 44 = .ok (.lmul, 1) := by decide +kernel
theorem dX3_divide_45 : decode cX3_divide 45 = .ok (.lstore 8, 2) := by decide +kernel
theorem dX3_divide_47 : decode cX3_divide 47 = .ok (.aload_n 0, 1) := by decide +kernel
theorem dX3_divide_48 : decode cX3_divide 48 = .ok (.getfield 15, 3) := by decide +kernel
theorem dX3_divide_51 : decode cX3_divide 51 = .ok (.iload 7, 2) := by decide +kernel
theorem dX3_divide_53 : decode cX3_divide 53 = .ok (.lload 8, 2) := by decide +kernel
theorem dX3_divide_55 : decode cX3_divide 55 = .ok (.lload_n 3, 1) := by decide +kernel
theorem dX3_divide_56 : decode cX3_divide 56 = .ok (.ldiv, 1) := by decide +kernel
theorem dX3_divide_57 : decode cX3_divide 57 = .ok (.lastore, 1) := by decide +kernel
theorem dX3_divide_58 : decode cX3_divide 58 = .ok (.aload_n 0, 1) := by decide +kernel
theorem dX3_divide_59 : decode cX3_divide 59 = .ok (.getfield 18, 3) := by decide +kernel
theorem dX3_divide_62 : decode cX3_divide 62 = .ok (.iload 7, 2) := by decide +kernel
theorem dX3_divide_64 : decode cX3_divide 64 = .ok (.lload 8, 2) := by decide +kernel
theorem dX3_divide_66 : decode cX3_divide 66 = .ok (.lload_n 3, 1) := by decide +kernel
theorem dX3_divide_67 : decode cX3_divide 67 = .ok (.lrem, 1) := by decide +kernel
theorem dX3_divide_68 : decode cX3_divide 68 = .ok (.lastore, 1) := by decide +kernel
theorem dX3_divide_69 : decode cX3_divide 69 = .ok (.lload 5, 2) := by decide +kernel
theorem dX3_divide_71 : decode cX3_divide 71 = .ok (.aload_n 0, 1) := by decide +kernel
theorem dX3_divide_72 : decode cX3_divide 72 = .ok (.getfield 15, 3) := by decide +kernel
theorem dX3_divide_75 : decode cX3_divide 75 = .ok (.iload 7, 2) := by decide +kernel
theorem dX3_divide_77 : decode cX3_divide 77 = .ok (.laload, 1) := by decide +kernel
theorem dX3_divide_78 : decode cX3_divide 78 = .ok (.lsub, 1) := by decide +kernel
theorem dX3_divide_79 : decode cX3_divide 79 = .ok (.lstore 5, 2) := by decide +kernel
theorem dX3_divide_81 : decode cX3_divide 81 = .ok (.iinc 7 1, 3) := by decide +kernel
theorem dX3_divide_84 : decode cX3_divide 84 = .ok (.goto (-57), 3) := by decide +kernel
theorem dX3_divide_87 : decode cX3_divide 87 = .ok (.aload_n 0, 1) := by decide +kernel
theorem dX3_divide_88 : decode cX3_divide 88 = .ok (.lload 5, 2) := by decide +kernel
theorem dX3_divide_90 : decode cX3_divide 90 = .ok (.invokevirtual 35, 3) := by decide +kernel
theorem dX3_divide_93 : decode cX3_divide 93 = .ok (.iconst 1, 1) := by decide +kernel
theorem dX3_divide_94 : decode cX3_divide 94 = .ok (.ireturn, 1) := by decide +kernel
theorem dX3_wholeWeight_0 : decode cX3_wholeWeight 0 = .ok (.lconst 0, 1) := by decide +kernel
theorem dX3_wholeWeight_1 : decode cX3_wholeWeight 1 = .ok (.lstore_n 1, 1) := by decide +kernel
theorem dX3_wholeWeight_2 : decode cX3_wholeWeight 2 = .ok (.iconst 0, 1) := by decide +kernel
theorem dX3_wholeWeight_3 : decode cX3_wholeWeight 3 = .ok (.istore_n 3, 1) := by decide +kernel
theorem dX3_wholeWeight_4 : decode cX3_wholeWeight 4 = .ok (.iload_n 3, 1) := by decide +kernel
theorem dX3_wholeWeight_5 : decode cX3_wholeWeight 5 = .ok (.aload_n 0, 1) := by decide +kernel
theorem dX3_wholeWeight_6 : decode cX3_wholeWeight 6 = .ok (.getfield 21, 3) := by decide +kernel
theorem dX3_wholeWeight_9 : decode cX3_wholeWeight 9 = .ok (.if_icmp .ge 18, 3) := by decide +kernel
theorem dX3_wholeWeight_12 : decode cX3_wholeWeight 12 = .ok (.lload_n 1, 1) := by decide +kernel
theorem dX3_wholeWeight_13 : decode cX3_wholeWeight 13 = .ok (.aload_n 0, 1) := by decide +kernel
theorem dX3_wholeWeight_14 : decode cX3_wholeWeight 14 = .ok (.getfield 9, 3) := by decide +kernel
theorem dX3_wholeWeight_17 : decode cX3_wholeWeight 17 = .ok (.iload_n 3, 1) := by decide +kernel
theorem dX3_wholeWeight_18 : decode cX3_wholeWeight 18 = .ok (.laload, 1) := by decide +kernel
theorem dX3_wholeWeight_19 : decode cX3_wholeWeight 19 = .ok (.ladd, 1) := by decide +kernel
theorem dX3_wholeWeight_20 : decode cX3_wholeWeight 20 = .ok (.lstore_n 1, 1) := by decide +kernel
theorem dX3_wholeWeight_21 : decode cX3_wholeWeight 21 = .ok (.iinc 3 1, 3) := by decide +kernel
theorem dX3_wholeWeight_24 : decode cX3_wholeWeight 24 = .ok (.goto (-20), 3) := by decide +kernel
theorem dX3_wholeWeight_27 : decode cX3_wholeWeight 27 = .ok (.lload_n 1, 1) := by decide +kernel
theorem dX3_wholeWeight_28 : decode cX3_wholeWeight 28 = .ok (.lreturn, 1) := by decide +kernel
theorem dX3_giveCents_0 : decode cX3_giveCents 0 = .ok (.iconst 0, 1) := by decide +kernel
theorem dX3_giveCents_1 : decode cX3_giveCents 1 = .ok (.istore_n 3, 1) := by decide +kernel
theorem dX3_giveCents_2 : decode cX3_giveCents 2 = .ok (.iload_n 3, 1) := by decide +kernel
theorem dX3_giveCents_3 : decode cX3_giveCents 3 = .ok (.aload_n 0, 1) := by decide +kernel
theorem dX3_giveCents_4 : decode cX3_giveCents 4 = .ok (.getfield 21, 3) := by decide +kernel
theorem dX3_giveCents_7 : decode cX3_giveCents 7 = .ok (.if_icmp .ge 43, 3) := by decide +kernel
theorem dX3_giveCents_10 : decode cX3_giveCents 10 = .ok (.iload_n 3, 1) := by decide +kernel
theorem dX3_giveCents_11 : decode cX3_giveCents 11 = .ok (.i2l, 1) := by decide +kernel
theorem dX3_giveCents_12 : decode cX3_giveCents 12 = .ok (.lload_n 1, 1) := by decide +kernel
theorem dX3_giveCents_13 : decode cX3_giveCents 13 = .ok (.lcmp, 1) := by decide +kernel
theorem dX3_giveCents_14 : decode cX3_giveCents 14 = .ok (.ifCond .ge 36, 3) := by decide +kernel
theorem dX3_giveCents_17 : decode cX3_giveCents 17 = .ok (.aload_n 0, 1) := by decide +kernel
theorem dX3_giveCents_18 : decode cX3_giveCents 18 = .ok (.invokevirtual 39, 3) := by decide +kernel
theorem dX3_giveCents_21 : decode cX3_giveCents 21 = .ok (.istore 4, 2) := by decide +kernel
theorem dX3_giveCents_23 : decode cX3_giveCents 23 = .ok (.aload_n 0, 1) := by decide +kernel
theorem dX3_giveCents_24 : decode cX3_giveCents 24 = .ok (.getfield 15, 3) := by decide +kernel
theorem dX3_giveCents_27 : decode cX3_giveCents 27 = .ok (.iload 4, 2) := by decide +kernel
theorem dX3_giveCents_29 : decode cX3_giveCents 29 = .ok (.dup2, 1) := by decide +kernel
theorem dX3_giveCents_30 : decode cX3_giveCents 30 = .ok (.laload, 1) := by decide +kernel
theorem dX3_giveCents_31 : decode cX3_giveCents 31 = .ok (.lconst 1, 1) := by decide +kernel
theorem dX3_giveCents_32 : decode cX3_giveCents 32 = .ok (.ladd, 1) := by decide +kernel
theorem dX3_giveCents_33 : decode cX3_giveCents 33 = .ok (.lastore, 1) := by decide +kernel
theorem dX3_giveCents_34 : decode cX3_giveCents 34 = .ok (.aload_n 0, 1) := by decide +kernel
theorem dX3_giveCents_35 : decode cX3_giveCents 35 = .ok (.getfield 18, 3) := by decide +kernel
theorem dX3_giveCents_38 : decode cX3_giveCents 38 = .ok (.iload 4, 2) := by decide +kernel
theorem dX3_giveCents_40 : decode cX3_giveCents 40 = .ok (.ldc2_w 43, 3) := by decide +kernel
theorem dX3_giveCents_43 : decode cX3_giveCents 43 = .ok (.lastore, 1) := by decide +kernel
theorem dX3_giveCents_44 : decode cX3_giveCents 44 = .ok (.iinc 3 1, 3) := by decide +kernel
theorem dX3_giveCents_47 : decode cX3_giveCents 47 = .ok (.goto (-45), 3) := by decide +kernel
theorem dX3_giveCents_50 : decode cX3_giveCents 50 = .ok (.return_, 1) := by decide +kernel
theorem dX3_mostCut_0 : decode cX3_mostCut 0 = .ok (.iconst 0, 1) := by decide +kernel
theorem dX3_mostCut_1 : decode cX3_mostCut 1 = .ok (.istore_n 1, 1) := by decide +kernel
theorem dX3_mostCut_2 : decode cX3_mostCut 2 = .ok (.iconst 1, 1) := by decide +kernel
theorem dX3_mostCut_3 : decode cX3_mostCut 3 = .ok (.istore_n 2, 1) := by decide +kernel
theorem dX3_mostCut_4 : decode cX3_mostCut 4 = .ok (.iload_n 2, 1) := by decide +kernel
theorem dX3_mostCut_5 : decode cX3_mostCut 5 = .ok (.aload_n 0, 1) := by decide +kernel
theorem dX3_mostCut_6 : decode cX3_mostCut 6 = .ok (.getfield 21, 3) := by decide +kernel
theorem dX3_mostCut_9 : decode cX3_mostCut 9 = .ok (.if_icmp .ge 27, 3) := by decide +kernel
theorem dX3_mostCut_12 : decode cX3_mostCut 12 = .ok (.aload_n 0, 1) := by decide +kernel
theorem dX3_mostCut_13 : decode cX3_mostCut 13 = .ok (.getfield 18, 3) := by decide +kernel
theorem dX3_mostCut_16 : decode cX3_mostCut 16 = .ok (.iload_n 2, 1) := by decide +kernel
theorem dX3_mostCut_17 : decode cX3_mostCut 17 = .ok (.laload, 1) := by decide +kernel
theorem dX3_mostCut_18 : decode cX3_mostCut 18 = .ok (.aload_n 0, 1) := by decide +kernel
theorem dX3_mostCut_19 : decode cX3_mostCut 19 = .ok (.getfield 18, 3) := by decide +kernel
theorem dX3_mostCut_22 : decode cX3_mostCut 22 = .ok (.iload_n 1, 1) := by decide +kernel
theorem dX3_mostCut_23 : decode cX3_mostCut 23 = .ok (.laload, 1) := by decide +kernel
theorem dX3_mostCut_24 : decode cX3_mostCut 24 = .ok (.lcmp, 1) := by decide +kernel
theorem dX3_mostCut_25 : decode cX3_mostCut 25 = .ok (.ifCond .le 5, 3) := by decide +kernel
theorem dX3_mostCut_28 : decode cX3_mostCut 28 = .ok (.iload_n 2, 1) := by decide +kernel
theorem dX3_mostCut_29 : decode cX3_mostCut 29 = .ok (.istore_n 1, 1) := by decide +kernel
theorem dX3_mostCut_30 : decode cX3_mostCut 30 = .ok (.iinc 2 1, 3) := by decide +kernel
theorem dX3_mostCut_33 : decode cX3_mostCut 33 = .ok (.goto (-29), 3) := by decide +kernel
theorem dX3_mostCut_36 : decode cX3_mostCut 36 = .ok (.iload_n 1, 1) := by decide +kernel
theorem dX3_mostCut_37 : decode cX3_mostCut 37 = .ok (.ireturn, 1) := by decide +kernel
theorem dX4_init_0 : decode cX4_init 0 = .ok (.aload_n 0, 1) := by decide +kernel
theorem dX4_init_1 : decode cX4_init 1 = .ok (.invokespecial 3, 3) := by decide +kernel
theorem dX4_init_4 : decode cX4_init 4 = .ok (.aload_n 0, 1) := by decide +kernel
theorem dX4_init_5 : decode cX4_init 5 = .ok (.iconst 2, 1) := by decide +kernel
theorem dX4_init_6 : decode cX4_init 6 = .ok (.newarray .int, 2) := by decide +kernel
theorem dX4_init_8 : decode cX4_init 8 = .ok (.putfield 9, 3) := by decide +kernel
theorem dX4_init_11 : decode cX4_init 11 = .ok (.aload_n 0, 1) := by decide +kernel
theorem dX4_init_12 : decode cX4_init 12 = .ok (.bipush 10, 2) := by decide +kernel
theorem dX4_init_14 : decode cX4_init 14 = .ok (.newarray .int, 2) := by decide +kernel
theorem dX4_init_16 : decode cX4_init 16 = .ok (.putfield 15, 3) := by decide +kernel
theorem dX4_init_19 : decode cX4_init 19 = .ok (.aload_n 0, 1) := by decide +kernel
theorem dX4_init_20 : decode cX4_init 20 = .ok (.bipush 10, 2) := by decide +kernel
theorem dX4_init_22 : decode cX4_init 22 = .ok (.newarray .int, 2) := by decide +kernel
theorem dX4_init_24 : decode cX4_init 24 = .ok (.putfield 18, 3) := by decide +kernel
theorem dX4_init_27 : decode cX4_init 27 = .ok (.aload_n 0, 1) := by decide +kernel
theorem dX4_init_28 : decode cX4_init 28 = .ok (.bipush 10, 2) := by decide +kernel
theorem dX4_init_30 : decode cX4_init 30 = .ok (.newarray .int, 2) := by decide +kernel
theorem dX4_init_32 : decode cX4_init 32 = .ok (.putfield 21, 3) := by decide +kernel
theorem dX4_init_35 : decode cX4_init 35 = .ok (.aload_n 0, 1) := by decide +kernel
theorem dX4_init_36 : decode cX4_init 36 = .ok (.invokevirtual 24, 3) := by decide +kernel
theorem dX4_init_39 : decode cX4_init 39 = .ok (.return_, 1) := by decide +kernel
theorem dX4_forget_0 : decode cX4_forget 0 = .ok (.aload_n 0, 1) := by decide +kernel
theorem dX4_forget_1 : decode cX4_forget 1 = .ok (.getfield 9, 3) := by decide +kernel
theorem dX4_forget_4 : decode cX4_forget 4 = .ok (.iconst (-1), 1) := by decide +kernel
theorem dX4_forget_5 : decode cX4_forget 5 = .ok (.invokestatic 27, 3) := by decide +kernel
theorem dX4_forget_8 : decode cX4_forget 8 = .ok (.aload_n 0, 1) := by decide +kernel
theorem dX4_forget_9 : decode cX4_forget 9 = .ok (.getfield 15, 3) := by decide +kernel
theorem dX4_forget_12 : decode cX4_forget 12 = .ok (.iconst 0, 1) := by decide +kernel
theorem dX4_forget_13 : decode cX4_forget 13 = .ok (.invokestatic 27, 3) := by decide +kernel
theorem dX4_forget_16 : decode cX4_forget 16 = .ok (.aload_n 0, 1) := by decide +kernel
theorem dX4_forget_17 : decode cX4_forget 17 = .ok (.getfield 18, 3) := by decide +kernel
theorem dX4_forget_20 : decode cX4_forget 20 = .ok (.iconst 1, 1) := by decide +kernel
theorem dX4_forget_21 : decode cX4_forget 21 = .ok (.invokestatic 27, 3) := by decide +kernel
theorem dX4_forget_24 : decode cX4_forget 24 = .ok (.aload_n 0, 1) := by decide +kernel
theorem dX4_forget_25 : decode cX4_forget 25 = .ok (.getfield 21, 3) := by decide +kernel
theorem dX4_forget_28 : decode cX4_forget 28 = .ok (.iconst 0, 1) := by decide +kernel
theorem dX4_forget_29 : decode cX4_forget 29 = .ok (.invokestatic 27, 3) := by decide +kernel
theorem dX4_forget_32 : decode cX4_forget 32 = .ok (.return_, 1) := by decide +kernel
theorem dX4_takeText_0 : decode cX4_takeText 0 = .ok (.aload_n 0, 1) := by decide +kernel
theorem dX4_takeText_1 : decode cX4_takeText 1 = .ok (.invokevirtual 24, 3) := by decide +kernel
theorem dX4_takeText_4 : decode cX4_takeText 4 = .ok (.aload_n 1, 1) := by decide +kernel
theorem dX4_takeText_5 : decode cX4_takeText 5 = .ok (.invokevirtual 33, 3) := by decide +kernel
theorem dX4_takeText_8 : decode cX4_takeText 8 = .ok (.iconst 0, 1) := by decide +kernel
theorem dX4_takeText_9 : decode cX4_takeText 9 = .ok (.istore_n 2, 1) := by decide +kernel
theorem dX4_takeText_10 : decode cX4_takeText 10 = .ok (.iload_n 2, 1) := by decide +kernel
theorem dX4_takeText_11 : decode cX4_takeText 11 = .ok (.sipush 600, 3) := by decide +kernel
theorem dX4_takeText_14 : decode cX4_takeText 14 = .ok (.if_icmp .ge 31, 3) := by decide +kernel
theorem dX4_takeText_17 : decode cX4_takeText 17 = .ok (.aload_n 1, 1) := by decide +kernel
theorem dX4_takeText_18 : decode cX4_takeText 18 = .ok (.invokevirtual 38, 3) := by decide +kernel
theorem dX4_takeText_21 : decode cX4_takeText 21 = .ok (.ifCond .eq 24, 3) := by decide +kernel
theorem dX4_takeText_24 : decode cX4_takeText 24 = .ok (.aload_n 0, 1) := by decide +kernel
theorem dX4_takeText_25 : decode cX4_takeText 25 = .ok (.aload_n 1, 1) := by decide +kernel
theorem dX4_takeText_26 : decode cX4_takeText 26 = .ok (.invokevirtual 42, 3) := by decide +kernel
theorem dX4_takeText_29 : decode cX4_takeText 29 = .ok (.ifCond .ne 10, 3) := by decide +kernel
theorem dX4_takeText_32 : decode cX4_takeText 32 = .ok (.iconst (-1), 1) := by decide +kernel
theorem dX4_takeText_33 : decode cX4_takeText 33 = .ok (.aload_n 1, 1) := by decide +kernel
theorem dX4_takeText_34 : decode cX4_takeText 34 = .ok (.getfield 46, 3) := by decide +kernel
theorem dX4_takeText_37 : decode cX4_takeText 37 = .ok (.isub, 1) := by decide +kernel
theorem dX4_takeText_38 : decode cX4_takeText 38 = .ok (.ireturn, 1) := by decide +kernel
theorem dX4_takeText_39 : decode cX4_takeText 39 = .ok (.iinc 2 1, 3) := by decide +kernel
theorem dX4_takeText_42 : decode cX4_takeText 42 = .ok (.goto (-32), 3) := by decide +kernel
theorem dX4_takeText_45 : decode cX4_takeText 45 = .ok (.iload_n 2, 1) := by decide +kernel
theorem dX4_takeText_46 : decode cX4_takeText 46 = .ok (.ireturn, 1) := by decide +kernel
theorem dX4_takeSentence_0 : decode cX4_takeSentence 0 = .ok (.aload_n 1, 1) := by decide +kernel
theorem dX4_takeSentence_1 : decode cX4_takeSentence 1 = .ok (.ldc 50, 2) := by decide +kernel
theorem dX4_takeSentence_3 : decode cX4_takeSentence 3 = .ok (.invokevirtual 52, 3) := by decide +kernel
theorem dX4_takeSentence_6 : decode cX4_takeSentence 6 = .ok (.ifCond .eq 11, 3) := by decide +kernel
theorem dX4_takeSentence_9 : decode cX4_takeSentence 9 = .ok (.aload_n 0, 1) := by decide +kernel
theorem dX4_takeSentence_10 : decode cX4_takeSentence 10 = .ok (.aload_n 1, 1) := by decide +kernel
theorem dX4_takeSentence_11 : decode cX4_takeSentence 11 = .ok (.iconst 0, 1) := by decide +kernel
theorem dX4_takeSentence_12 : decode cX4_takeSentence 12 = .ok (.iconst 1, 1) := by decide +kernel
theorem dX4_takeSentence_13 : decode cX4_takeSentence 13 = .ok (.invokevirtual 56, 3) := by decide +kernel
theorem dX4_takeSentence_16 : decode cX4_takeSentence 16 = .ok (.ireturn, 1) := by decide +kernel
theorem dX4_takeSentence_17 : decode cX4_takeSentence 17 = .ok (.aload_n 1, 1) := by decide +kernel
theorem dX4_takeSentence_18 : decode cX4_takeSentence 18 = .ok (.ldc 60, 2) := by decide +kernel
theorem dX4_takeSentence_20 : decode cX4_takeSentence 20 = .ok (.invokevirtual 52, 3) := by decide +kernel
theorem dX4_takeSentence_23 : decode cX4_takeSentence 23 = .ok (.ifCond .eq 11, 3) := by decide +kernel
theorem dX4_takeSentence_26 : decode cX4_takeSentence 26 = .ok (.aload_n 0, 1) := by decide +kernel
theorem dX4_takeSentence_27 : decode cX4_takeSentence 27 = .ok (.aload_n 1, 1) := by decide +kernel
theorem dX4_takeSentence_28 : decode cX4_takeSentence 28 = .ok (.iconst 1, 1) := by decide +kernel
theorem dX4_takeSentence_29 : decode cX4_takeSentence 29 = .ok (.iconst 0, 1) := by decide +kernel
theorem dX4_takeSentence_30 : decode cX4_takeSentence 30 = .ok (.invokevirtual 56, 3) := by decide +kernel
theorem dX4_takeSentence_33 : decode cX4_takeSentence 33 = .ok (.ireturn, 1) := by decide +kernel
theorem dX4_takeSentence_34 : decode cX4_takeSentence 34 = .ok (.aload_n 1, 1) := by decide +kernel
theorem dX4_takeSentence_35 : decode cX4_takeSentence 35 = .ok (.ldc 62, 2) := by decide +kernel
theorem dX4_takeSentence_37 : decode cX4_takeSentence 37 = .ok (.invokevirtual 52, 3) := by decide +kernel
theorem dX4_takeSentence_40 : decode cX4_takeSentence 40 = .ok (.ifCond .eq 13, 3) := by decide +kernel
theorem dX4_takeSentence_43 : decode cX4_takeSentence 43 = .ok (.aload_n 1, 1) := by decide +kernel
theorem dX4_takeSentence_44 : decode cX4_takeSentence 44 = .ok (.aload_n 0, 1) := by decide +kernel
theorem dX4_takeSentence_45 : decode cX4_takeSentence 45 = .ok (.getfield 15, 3) := by decide +kernel
theorem dX4_takeSentence_48 : decode cX4_takeSentence 48 = .ok (.iconst 2, 1) := by decide +kernel
theorem dX4_takeSentence_49 : decode cX4_takeSentence 49 = .ok (.invokestatic 64, 3) := by decide +kernel
theorem dX4_takeSentence_52 : decode cX4_takeSentence 52 = .ok (.ireturn, 1) := by decide +kernel
theorem dX4_takeSentence_53 : decode cX4_takeSentence 53 = .ok (.aload_n 1, 1) := by decide +kernel
theorem dX4_takeSentence_54 : decode cX4_takeSentence 54 = .ok (.ldc 68, 2) := by decide +kernel
theorem dX4_takeSentence_56 : decode cX4_takeSentence 56 = .ok (.invokevirtual 52, 3) := by decide +kernel
theorem dX4_takeSentence_59 : decode cX4_takeSentence 59 = .ok (.ifCond .eq 15, 3) := by decide +kernel
theorem dX4_takeSentence_62 : decode cX4_takeSentence 62 = .ok (.aload_n 1, 1) := by decide +kernel
theorem dX4_takeSentence_63 : decode cX4_takeSentence 63 = .ok (.aload_n 0, 1) := by decide +kernel
theorem dX4_takeSentence_64 : decode cX4_takeSentence 64 = .ok (.getfield 18, 3) := by decide +kernel
theorem dX4_takeSentence_67 : decode cX4_takeSentence 67 = .ok (.sipush 1000, 3) := by decide +kernel
theorem dX4_takeSentence_70 : decode cX4_takeSentence 70 = .ok (.invokestatic 64, 3) := by decide +kernel
theorem dX4_takeSentence_73 : decode cX4_takeSentence 73 = .ok (.ireturn, 1) := by decide +kernel
theorem dX4_takeSentence_74 : decode cX4_takeSentence 74 = .ok (.aload_n 1, 1) := by decide +kernel
theorem dX4_takeSentence_75 : decode cX4_takeSentence 75 = .ok (.ldc 70, 2) := by decide +kernel
theorem dX4_takeSentence_77 : decode cX4_takeSentence 77 = .ok (.invokevirtual 52, 3) := by decide +kernel
theorem dX4_takeSentence_80 : decode cX4_takeSentence 80 = .ok (.ifCond .eq 20, 3) := by decide +kernel
theorem dX4_takeSentence_83 : decode cX4_takeSentence 83 = .ok (.aload_n 1, 1) := by decide +kernel
theorem dX4_takeSentence_84 : decode cX4_takeSentence 84 = .ok (.aload_n 0, 1) := by decide +kernel
theorem dX4_takeSentence_85 : decode cX4_takeSentence 85 = .ok (.getfield 21, 3) := by decide +kernel
theorem dX4_takeSentence_88 : decode cX4_takeSentence 88 = .ok (.ldc 72, 2) := by decide +kernel
theorem dX4_takeSentence_90 : decode cX4_takeSentence 90 = .ok (.invokestatic 64, 3) := by decide +kernel
theorem dX4_takeSentence_93 : decode cX4_takeSentence 93 = .ok (.ifCond .eq 7, 3) := by decide +kernel
theorem dX4_takeSentence_96 : decode cX4_takeSentence 96 = .ok (.iconst 1, 1) := by decide +kernel
theorem dX4_takeSentence_97 : decode cX4_takeSentence 97 = .ok (.goto 4, 3) := by decide +kernel
theorem dX4_takeSentence_100 : decode cX4_takeSentence 100 = .ok (.iconst 0, 1) := by decide +kernel
theorem dX4_takeSentence_101 : decode cX4_takeSentence 101 = .ok (.ireturn, 1) := by decide +kernel
theorem dX4_takePercent_0 : decode cX4_takePercent 0 = .ok (.aload_n 0, 1) := by decide +kernel
theorem dX4_takePercent_1 : decode cX4_takePercent 1 = .ok (.getfield 9, 3) := by decide +kernel
theorem dX4_takePercent_4 : decode cX4_takePercent 4 = .ok (.iload_n 2, 1) := by decide +kernel
theorem dX4_takePercent_5 : decode cX4_takePercent 5 = .ok (.iaload, 1) := by decide +kernel
theorem dX4_takePercent_6 : decode cX4_takePercent 6 = .ok (.iconst (-1), 1) := by decide +kernel
theorem dX4_takePercent_7 : decode cX4_takePercent 7 = .ok (.if_icmp .eq 5, 3) := by decide +kernel
theorem dX4_takePercent_10 : decode cX4_takePercent 10 = .ok (.iconst 0, 1) := by decide +kernel
theorem dX4_takePercent_11 : decode cX4_takePercent 11 = .ok (.ireturn, 1) := by decide +kernel
theorem dX4_takePercent_12 : decode cX4_takePercent 12 = .ok (.aload_n 0, 1) := by decide +kernel
theorem dX4_takePercent_13 : decode cX4_takePercent 13 = .ok (.getfield 9, 3) := by decide +kernel
theorem dX4_takePercent_16 : decode cX4_takePercent 16 = .ok (.iload_n 2, 1) := by decide +kernel
theorem dX4_takePercent_17 : decode cX4_takePercent 17 = .ok (.aload_n 1, 1) := by decide +kernel
theorem dX4_takePercent_18 : decode cX4_takePercent 18 = .ok (.bipush 100, 2) := by decide +kernel
theorem dX4_takePercent_20 : decode cX4_takePercent 20 = .ok (.aload_n 0, 1) := by decide +kernel
theorem dX4_takePercent_21 : decode cX4_takePercent 21 = .ok (.iload_n 3, 1) := by decide +kernel
theorem dX4_takePercent_22 : decode cX4_takePercent 22 = .ok (.invokevirtual 73, 3) := by decide +kernel
theorem dX4_takePercent_25 : decode cX4_takePercent 25 = .ok (.isub, 1) := by decide +kernel
theorem dX4_takePercent_26 : decode cX4_takePercent 26 = .ok (.invokevirtual 77, 3) := by decide +kernel
theorem dX4_takePercent_29 : decode cX4_takePercent 29 = .ok (.iastore, 1) := by decide +kernel
theorem dX4_takePercent_30 : decode cX4_takePercent 30 = .ok (.aload_n 0, 1) := by decide +kernel
theorem dX4_takePercent_31 : decode cX4_takePercent 31 = .ok (.getfield 9, 3) := by decide +kernel
theorem dX4_takePercent_34 : decode cX4_takePercent 34 = .ok (.iload_n 2, 1) := by decide +kernel
theorem dX4_takePercent_35 : decode cX4_takePercent 35 = .ok (.iaload, 1) := by decide +kernel
theorem dX4_takePercent_36 : decode cX4_takePercent 36 = .ok (.iconst (-1), 1) := by decide +kernel
theorem dX4_takePercent_37 : decode cX4_takePercent 37 = .ok (.if_icmp .eq 7, 3) := by decide +kernel
theorem dX4_takePercent_40 : decode cX4_takePercent 40 = .ok (.iconst 1, 1) := by decide +kernel
theorem dX4_takePercent_41 : decode cX4_takePercent 41 = .ok (.goto 4, 3) := by decide +kernel
theorem dX4_takePercent_44 : decode cX4_takePercent 44 = .ok (.iconst 0, 1) := by decide +kernel
theorem dX4_takePercent_45 : decode cX4_takePercent 45 = .ok (.ireturn, 1) := by decide +kernel
theorem dX4_takeValue_0 : decode cX4_takeValue 0 = .ok (.aload_n 0, 1) := by decide +kernel
theorem dX4_takeValue_1 : decode cX4_takeValue 1 = .ok (.aload_n 1, 1) := by decide +kernel
theorem dX4_takeValue_2 : decode cX4_takeValue 2 = .ok (.arraylength, 1) := by decide +kernel
theorem dX4_takeValue_3 : decode cX4_takeValue 3 = .ok (.iconst 1, 1) := by decide +kernel
theorem dX4_takeValue_4 : decode cX4_takeValue 4 = .ok (.isub, 1) := by decide +kernel
theorem dX4_takeValue_5 : decode cX4_takeValue 5 = .ok (.invokevirtual 77, 3) := by decide +kernel
theorem dX4_takeValue_8 : decode cX4_takeValue 8 = .ok (.istore_n 3, 1) := by decide +kernel
theorem dX4_takeValue_9 : decode cX4_takeValue 9 = .ok (.iload_n 3, 1) := by decide +kernel
theorem dX4_takeValue_10 : decode cX4_takeValue 10 = .ok (.ifCond .ge 5, 3) := by decide +kernel
theorem dX4_takeValue_13 : decode cX4_takeValue 13 = .ok (.iconst 0, 1) := by decide +kernel
theorem dX4_takeValue_14 : decode cX4_takeValue 14 = .ok (.ireturn, 1) := by decide +kernel
theorem dX4_takeValue_15 : decode cX4_takeValue 15 = .ok (.aload_n 0, 1) := by decide +kernel
theorem dX4_takeValue_16 : decode cX4_takeValue 16 = .ok (.iload_n 2, 1) := by decide +kernel
theorem dX4_takeValue_17 : decode cX4_takeValue 17 = .ok (.invokevirtual 77, 3) := by decide +kernel
theorem dX4_takeValue_20 : decode cX4_takeValue 20 = .ok (.istore 4, 2) := by decide +kernel
theorem dX4_takeValue_22 : decode cX4_takeValue 22 = .ok (.iload 4, 2) := by decide +kernel
theorem dX4_takeValue_24 : decode cX4_takeValue 24 = .ok (.ifCond .ge 5, 3) := by decide +kernel
theorem dX4_takeValue_27 : decode cX4_takeValue 27 = .ok (.iconst 0, 1) := by decide +kernel
theorem dX4_takeValue_28 : decode cX4_takeValue 28 = .ok (.ireturn, 1) := by decide +kernel
theorem dX4_takeValue_29 : decode cX4_takeValue 29 = .ok (.aload_n 1, 1) := by decide +kernel
theorem dX4_takeValue_30 : decode cX4_takeValue 30 = .ok (.iload_n 3, 1) := by decide +kernel
theorem dX4_takeValue_31 : decode cX4_takeValue 31 = .ok (.iload 4, 2) := by decide +kernel
theorem dX4_takeValue_33 : decode cX4_takeValue 33 = .ok (.iastore, 1) := by decide +kernel
theorem dX4_takeValue_34 : decode cX4_takeValue 34 = .ok (.iconst 1, 1) := by decide +kernel
theorem dX4_takeValue_35 : decode cX4_takeValue 35 = .ok (.ireturn, 1) := by decide +kernel
theorem dX4_percentOf_0 : decode cX4_percentOf 0 = .ok (.aload_n 0, 1) := by decide +kernel
theorem dX4_percentOf_1 : decode cX4_percentOf 1 = .ok (.getfield 9, 3) := by decide +kernel
theorem dX4_percentOf_4 : decode cX4_percentOf 4 = .ok (.iload_n 1, 1) := by decide +kernel
theorem dX4_percentOf_5 : decode cX4_percentOf 5 = .ok (.iaload, 1) := by decide +kernel
theorem dX4_percentOf_6 : decode cX4_percentOf 6 = .ok (.iconst 0, 1) := by decide +kernel
theorem dX4_percentOf_7 : decode cX4_percentOf 7 = .ok (.invokestatic 80, 3) := by decide +kernel
theorem dX4_percentOf_10 : decode cX4_percentOf 10 = .ok (.ireturn, 1) := by decide +kernel
theorem dX5_init_0 : decode cX5_init 0 = .ok (.aload_n 0, 1) := by decide +kernel
theorem dX5_init_1 : decode cX5_init 1 = .ok (.invokespecial 3, 3) := by decide +kernel
theorem dX5_init_4 : decode cX5_init 4 = .ok (.aload_n 0, 1) := by decide +kernel
theorem dX5_init_5 : decode cX5_init 5 = .ok (.sipush 600, 3) := by decide +kernel
theorem dX5_init_8 : decode cX5_init 8 = .ok (.newarray .char, 2) := by decide +kernel
theorem dX5_init_10 : decode cX5_init 10 = .ok (.putfield 11, 3) := by decide +kernel
theorem dX5_init_13 : decode cX5_init 13 = .ok (.return_, 1) := by decide +kernel
theorem dX5_append_0 : decode cX5_append 0 = .ok (.iload_n 1, 1) := by decide +kernel
theorem dX5_append_1 : decode cX5_append 1 = .ok (.ifCond .lt 20, 3) := by decide +kernel
theorem dX5_append_4 : decode cX5_append 4 = .ok (.iload_n 1, 1) := by decide +kernel
theorem dX5_append_5 : decode cX5_append 5 = .ok (.sipush 255, 3) := by decide +kernel
theorem dX5_append_8 : decode cX5_append 8 = .ok (.if_icmp .gt 13, 3) := by decide +kernel
theorem dX5_append_11 : decode cX5_append 11 = .ok (.aload_n 0, 1) := by decide +kernel
theorem dX5_append_12 : decode cX5_append 12 = .ok (.getfield 15, 3) := by decide +kernel
theorem dX5_append_15 : decode cX5_append 15 = .ok (.sipush 600, 3) := by decide +kernel
theorem dX5_append_18 : decode cX5_append 18 = .ok (.if_icmp .lt 5, 3) := by decide +kernel
theorem dX5_append_21 : decode cX5_append 21 = .ok (.iconst 0, 1) := by decide +kernel
theorem dX5_append_22 : decode cX5_append 22 = .ok (.ireturn, 1) := by decide +kernel
theorem dX5_append_23 : decode cX5_append 23 = .ok (.aload_n 0, 1) := by decide +kernel
theorem dX5_append_24 : decode cX5_append 24 = .ok (.getfield 11, 3) := by decide +kernel
theorem dX5_append_27 : decode cX5_append 27 = .ok (.aload_n 0, 1) := by decide +kernel
theorem dX5_append_28 : decode cX5_append 28 = .ok (.getfield 15, 3) := by decide +kernel
theorem dX5_append_31 : decode cX5_append 31 = .ok (.iload_n 1, 1) := by decide +kernel
theorem dX5_append_32 : decode cX5_append 32 = .ok (.i2c, 1) := by decide +kernel
theorem dX5_append_33 : decode cX5_append 33 = .ok (.castore, 1) := by decide +kernel
theorem dX5_append_34 : decode cX5_append 34 = .ok (.aload_n 0, 1) := by decide +kernel
theorem dX5_append_35 : decode cX5_append 35 = .ok (.dup, 1) := by decide +kernel
theorem dX5_append_36 : decode cX5_append 36 = .ok (.getfield 15, 3) := by decide +kernel
theorem dX5_append_39 : decode cX5_append 39 = .ok (.iconst 1, 1) := by decide +kernel
theorem dX5_append_40 : decode cX5_append 40 = .ok (.iadd, 1) := by decide +kernel
theorem dX5_append_41 : decode cX5_append 41 = .ok (.putfield 15, 3) := by decide +kernel
theorem dX5_append_44 : decode cX5_append 44 = .ok (.iconst 1, 1) := by decide +kernel
theorem dX5_append_45 : decode cX5_append 45 = .ok (.ireturn, 1) := by decide +kernel
theorem dX5_empty_0 : decode cX5_empty 0 = .ok (.aload_n 0, 1) := by decide +kernel
theorem dX5_empty_1 : decode cX5_empty 1 = .ok (.iconst 0, 1) := by decide +kernel
theorem dX5_empty_2 : decode cX5_empty 2 = .ok (.putfield 15, 3) := by decide +kernel
theorem dX5_empty_5 : decode cX5_empty 5 = .ok (.return_, 1) := by decide +kernel
theorem dX5_rewind_0 : decode cX5_rewind 0 = .ok (.aload_n 0, 1) := by decide +kernel
theorem dX5_rewind_1 : decode cX5_rewind 1 = .ok (.iconst 0, 1) := by decide +kernel
theorem dX5_rewind_2 : decode cX5_rewind 2 = .ok (.putfield 19, 3) := by decide +kernel
theorem dX5_rewind_5 : decode cX5_rewind 5 = .ok (.aload_n 0, 1) := by decide +kernel
theorem dX5_rewind_6 : decode cX5_rewind 6 = .ok (.iconst (-1), 1) := by decide +kernel
theorem dX5_rewind_7 : decode cX5_rewind 7 = .ok (.putfield 22, 3) := by decide +kernel
theorem dX5_rewind_10 : decode cX5_rewind 10 = .ok (.return_, 1) := by decide +kernel
theorem dX5_nextWord_0 : decode cX5_nextWord 0 = .ok (.aload_n 0, 1) := by decide +kernel
theorem dX5_nextWord_1 : decode cX5_nextWord 1 = .ok (.dup, 1) := by decide +kernel
theorem dX5_nextWord_2 : decode cX5_nextWord 2 = .ok (.getfield 22, 3) := by decide +kernel
theorem dX5_nextWord_5 : decode cX5_nextWord 5 = .ok (.iconst 1, 1) := by decide +kernel
theorem dX5_nextWord_6 : decode cX5_nextWord 6 = .ok (.iadd, 1) := by decide +kernel
theorem dX5_nextWord_7 : decode cX5_nextWord 7 = .ok (.putfield 22, 3) := by decide +kernel
theorem dX5_nextWord_10 : decode cX5_nextWord 10 = .ok (.aload_n 0, 1) := by decide +kernel
theorem dX5_nextWord_11 : decode cX5_nextWord 11 = .ok (.aload_n 0, 1) := by decide +kernel
theorem dX5_nextWord_12 : decode cX5_nextWord 12 = .ok (.getfield 19, 3) := by decide +kernel
theorem dX5_nextWord_15 : decode cX5_nextWord 15 = .ok (.putfield 25, 3) := by decide +kernel
theorem dX5_nextWord_18 : decode cX5_nextWord 18 = .ok (.aload_n 0, 1) := by decide +kernel
theorem dX5_nextWord_19 : decode cX5_nextWord 19 = .ok (.getfield 25, 3) := by decide +kernel
theorem dX5_nextWord_22 : decode cX5_nextWord 22 = .ok (.aload_n 0, 1) := by decide +kernel
theorem dX5_nextWord_23 : decode cX5_nextWord 23 = .ok (.getfield 15, 3) := by decide +kernel
theorem dX5_nextWord_26 : decode cX5_nextWord 26 = .ok (.if_icmp .ge 31, 3) := by decide +kernel
theorem dX5_nextWord_29 : decode cX5_nextWord 29 = .ok (.aload_n 0, 1) := by decide +kernel
theorem dX5_nextWord_30 : decode cX5_nextWord 30 = .ok (.getfield 11, 3) := by decide +kernel
theorem dX5_nextWord_33 : decode cX5_nextWord 33 = .ok (.aload_n 0, 1) := by decide +kernel
theorem dX5_nextWord_34 : decode cX5_nextWord 34 = .ok (.getfield 25, 3) := by decide +kernel
theorem dX5_nextWord_37 : decode cX5_nextWord 37 = .ok (.caload, 1) := by decide +kernel
theorem dX5_nextWord_38 : decode cX5_nextWord 38 = .ok (.invokestatic 28, 3) := by decide +kernel
theorem dX5_nextWord_41 : decode cX5_nextWord 41 = .ok (.ifCond .eq 16, 3) := by decide +kernel
theorem dX5_nextWord_44 : decode cX5_nextWord 44 = .ok (.aload_n 0, 1) := by decide +kernel
theorem dX5_nextWord_45 : decode cX5_nextWord 45 = .ok (.dup, 1) := by decide +kernel
theorem dX5_nextWord_46 : decode cX5_nextWord 46 = .ok (.getfield 25, 3) := by decide +kernel
theorem dX5_nextWord_49 : decode cX5_nextWord 49 = .ok (.iconst 1, 1) := by decide +kernel
theorem dX5_nextWord_50 : decode cX5_nextWord 50 = .ok (.iadd, 1) := by decide +kernel
theorem dX5_nextWord_51 : decode cX5_nextWord 51 = .ok (.putfield 25, 3) := by decide +kernel
theorem dX5_nextWord_54 : decode cX5_nextWord 54 = .ok (.goto (-36), 3) := by decide +kernel
theorem dX5_nextWord_57 : decode cX5_nextWord 57 = .ok (.aload_n 0, 1) := by decide +kernel
theorem dX5_nextWord_58 : decode cX5_nextWord 58 = .ok (.aload_n 0, 1) := by decide +kernel
theorem dX5_nextWord_59 : decode cX5_nextWord 59 = .ok (.getfield 25, 3) := by decide +kernel
theorem dX5_nextWord_62 : decode cX5_nextWord 62 = .ok (.putfield 19, 3) := by decide +kernel
theorem dX5_nextWord_65 : decode cX5_nextWord 65 = .ok (.aload_n 0, 1) := by decide +kernel
theorem dX5_nextWord_66 : decode cX5_nextWord 66 = .ok (.getfield 19, 3) := by decide +kernel
theorem dX5_nextWord_69 : decode cX5_nextWord 69 = .ok (.aload_n 0, 1) := by decide +kernel
theorem dX5_nextWord_70 : decode cX5_nextWord 70 = .ok (.getfield 15, 3) := by decide +kernel
theorem dX5_nextWord_73 : decode cX5_nextWord 73 = .ok (.if_icmp .ge 31, 3) := by decide +kernel
theorem dX5_nextWord_76 : decode cX5_nextWord 76 = .ok (.aload_n 0, 1) := by decide +kernel
theorem dX5_nextWord_77 : decode cX5_nextWord 77 = .ok (.getfield 11, 3) := by decide +kernel
theorem dX5_nextWord_80 : decode cX5_nextWord 80 = .ok (.aload_n 0, 1) := by decide +kernel
theorem dX5_nextWord_81 : decode cX5_nextWord 81 = .ok (.getfield 19, 3) := by decide +kernel
theorem dX5_nextWord_84 : decode cX5_nextWord 84 = .ok (.caload, 1) := by decide +kernel
theorem dX5_nextWord_85 : decode cX5_nextWord 85 = .ok (.invokestatic 28, 3) := by decide +kernel
theorem dX5_nextWord_88 : decode cX5_nextWord 88 = .ok (.ifCond .ne 16, 3) := by decide +kernel
theorem dX5_nextWord_91 : decode cX5_nextWord 91 = .ok (.aload_n 0, 1) := by decide +kernel
theorem dX5_nextWord_92 : decode cX5_nextWord 92 = .ok (.dup, 1) := by decide +kernel
theorem dX5_nextWord_93 : decode cX5_nextWord 93 = .ok (.getfield 19, 3) := by decide +kernel
theorem dX5_nextWord_96 : decode cX5_nextWord 96 = .ok (.iconst 1, 1) := by decide +kernel
theorem dX5_nextWord_97 : decode cX5_nextWord 97 = .ok (.iadd, 1) := by decide +kernel
theorem dX5_nextWord_98 : decode cX5_nextWord 98 = .ok (.putfield 19, 3) := by decide +kernel
theorem dX5_nextWord_101 : decode cX5_nextWord 101 = .ok (.goto (-36), 3) := by decide +kernel
theorem dX5_nextWord_104 : decode cX5_nextWord 104 = .ok (.aload_n 0, 1) := by decide +kernel
theorem dX5_nextWord_105 : decode cX5_nextWord 105 = .ok (.getfield 25, 3) := by decide +kernel
theorem dX5_nextWord_108 : decode cX5_nextWord 108 = .ok (.aload_n 0, 1) := by decide +kernel
theorem dX5_nextWord_109 : decode cX5_nextWord 109 = .ok (.getfield 19, 3) := by decide +kernel
theorem dX5_nextWord_112 : decode cX5_nextWord 112 = .ok (.if_icmp .ge 7, 3) := by decide +kernel
theorem dX5_nextWord_115 : decode cX5_nextWord 115 = .ok (.iconst 1, 1) := by decide +kernel
theorem dX5_nextWord_116 : decode cX5_nextWord 116 = .ok (.goto 4, 3) := by decide +kernel
theorem dX5_nextWord_119 : decode cX5_nextWord 119 = .ok (.iconst 0, 1) := by decide +kernel
theorem dX5_nextWord_120 : decode cX5_nextWord 120 = .ok (.ireturn, 1) := by decide +kernel
theorem dX5_wordIs_0 : decode cX5_wordIs 0 = .ok (.aload_n 0, 1) := by decide +kernel
theorem dX5_wordIs_1 : decode cX5_wordIs 1 = .ok (.getfield 19, 3) := by decide +kernel
theorem dX5_wordIs_4 : decode cX5_wordIs 4 = .ok (.aload_n 0, 1) := by decide +kernel
theorem dX5_wordIs_5 : decode cX5_wordIs 5 = .ok (.getfield 25, 3) := by decide +kernel
theorem dX5_wordIs_8 : decode cX5_wordIs 8 = .ok (.isub, 1) := by decide +kernel
theorem dX5_wordIs_9 : decode cX5_wordIs 9 = .ok (.aload_n 1, 1) := by decide +kernel
theorem dX5_wordIs_10 : decode cX5_wordIs 10 = .ok (.invokevirtual 32, 3) := by decide +kernel
theorem dX5_wordIs_13 : decode cX5_wordIs 13 = .ok (.if_icmp .eq 5, 3) := by decide +kernel
theorem dX5_wordIs_16 : decode cX5_wordIs 16 = .ok (.iconst 0, 1) := by decide +kernel
theorem dX5_wordIs_17 : decode cX5_wordIs 17 = .ok (.ireturn, 1) := by decide +kernel
theorem dX5_wordIs_18 : decode cX5_wordIs 18 = .ok (.iconst 0, 1) := by decide +kernel
theorem dX5_wordIs_19 : decode cX5_wordIs 19 = .ok (.istore_n 2, 1) := by decide +kernel
theorem dX5_wordIs_20 : decode cX5_wordIs 20 = .ok (.iload_n 2, 1) := by decide +kernel
theorem dX5_wordIs_21 : decode cX5_wordIs 21 = .ok (.aload_n 1, 1) := by decide +kernel
theorem dX5_wordIs_22 : decode cX5_wordIs 22 = .ok (.invokevirtual 32, 3) := by decide +kernel
theorem dX5_wordIs_25 : decode cX5_wordIs 25 = .ok (.if_icmp .ge 30, 3) := by decide +kernel
theorem dX5_wordIs_28 : decode cX5_wordIs 28 = .ok (.aload_n 0, 1) := by decide +kernel
theorem dX5_wordIs_29 : decode cX5_wordIs 29 = .ok (.getfield 11, 3) := by decide +kernel
theorem dX5_wordIs_32 : decode cX5_wordIs 32 = .ok (.aload_n 0, 1) := by decide +kernel
theorem dX5_wordIs_33 : decode cX5_wordIs 33 = .ok (.getfield 25, 3) := by decide +kernel
theorem dX5_wordIs_36 : decode cX5_wordIs 36 = .ok (.iload_n 2, 1) := by decide +kernel
theorem dX5_wordIs_37 : decode cX5_wordIs 37 = .ok (.iadd, 1) := by decide +kernel
theorem dX5_wordIs_38 : decode cX5_wordIs 38 = .ok (.caload, 1) := by decide +kernel
theorem dX5_wordIs_39 : decode cX5_wordIs 39 = .ok (.aload_n 1, 1) := by decide +kernel
theorem dX5_wordIs_40 : decode cX5_wordIs 40 = .ok (.iload_n 2, 1) := by decide +kernel
theorem dX5_wordIs_41 : decode cX5_wordIs 41 = .ok (.invokevirtual 37, 3) := by decide +kernel
theorem dX5_wordIs_44 : decode cX5_wordIs 44 = .ok (.if_icmp .eq 5, 3) := by decide +kernel
theorem dX5_wordIs_47 : decode cX5_wordIs 47 = .ok (.iconst 0, 1) := by decide +kernel
theorem dX5_wordIs_48 : decode cX5_wordIs 48 = .ok (.ireturn, 1) := by decide +kernel
theorem dX5_wordIs_49 : decode cX5_wordIs 49 = .ok (.iinc 2 1, 3) := by decide +kernel
theorem dX5_wordIs_52 : decode cX5_wordIs 52 = .ok (.goto (-32), 3) := by decide +kernel
theorem dX5_wordIs_55 : decode cX5_wordIs 55 = .ok (.iconst 1, 1) := by decide +kernel
theorem dX5_wordIs_56 : decode cX5_wordIs 56 = .ok (.ireturn, 1) := by decide +kernel
theorem dX5_nextNumber_0 : decode cX5_nextNumber 0 = .ok (.aload_n 0, 1) := by decide +kernel
theorem dX5_nextNumber_1 : decode cX5_nextNumber 1 = .ok (.invokevirtual 41, 3) := by decide +kernel
theorem dX5_nextNumber_4 : decode cX5_nextNumber 4 = .ok (.ifCond .eq 17, 3) := by decide +kernel
theorem dX5_nextNumber_7 : decode cX5_nextNumber 7 = .ok (.aload_n 0, 1) := by decide +kernel
theorem dX5_nextNumber_8 : decode cX5_nextNumber 8 = .ok (.getfield 19, 3) := by decide +kernel
theorem dX5_nextNumber_11 : decode cX5_nextNumber 11 = .ok (.aload_n 0, 1) := by decide +kernel
theorem dX5_nextNumber_12 : decode cX5_nextNumber 12 = .ok (.getfield 25, 3) := by decide +kernel
theorem dX5_nextNumber_15 : decode cX5_nextNumber 15 = .ok (.isub, 1) := by decide +kernel
theorem dX5_nextNumber_16 : decode cX5_nextNumber 16 = .ok (.bipush 6, 2) := by decide +kernel
theorem dX5_nextNumber_18 : decode cX5_nextNumber 18 = .ok (.if_icmp .le 5, 3) := by decide +kernel
theorem dX5_nextNumber_21 : decode cX5_nextNumber 21 = .ok (.iconst (-1), 1) := by decide +kernel
theorem dX5_nextNumber_22 : decode cX5_nextNumber 22 = .ok (.ireturn, 1) := by decide +kernel
theorem dX5_nextNumber_23 : decode cX5_nextNumber 23 = .ok (.iconst 0, 1) := by decide +kernel
theorem dX5_nextNumber_24 : decode cX5_nextNumber 24 = .ok (.istore_n 2, 1) := by decide +kernel
theorem dX5_nextNumber_25 : decode cX5_nextNumber 25 = .ok (.aload_n 0, 1) := by decide +kernel
theorem dX5_nextNumber_26 : decode cX5_nextNumber 26 = .ok (.getfield 25, 3) := by decide +kernel
theorem dX5_nextNumber_29 : decode cX5_nextNumber 29 = .ok (.istore_n 3, 1) := by decide +kernel
theorem dX5_nextNumber_30 : decode cX5_nextNumber 30 = .ok (.iload_n 3, 1) := by decide +kernel
theorem dX5_nextNumber_31 : decode cX5_nextNumber 31 = .ok (.aload_n 0, 1) := by decide +kernel
theorem dX5_nextNumber_32 : decode cX5_nextNumber 32 = .ok (.getfield 19, 3) := by decide +kernel
theorem dX5_nextNumber_35 : decode cX5_nextNumber 35 = .ok (.if_icmp .ge 48, 3) := by decide +kernel
theorem dX5_nextNumber_38 : decode cX5_nextNumber 38 = .ok (.aload_n 0, 1) := by decide +kernel
theorem dX5_nextNumber_39 : decode cX5_nextNumber 39 = .ok (.getfield 11, 3) := by decide +kernel
theorem dX5_nextNumber_42 : decode cX5_nextNumber 42 = .ok (.iload_n 3, 1) := by decide +kernel
theorem dX5_nextNumber_43 : decode cX5_nextNumber 43 = .ok (.caload, 1) := by decide +kernel
theorem dX5_nextNumber_44 : decode cX5_nextNumber 44 = .ok (.bipush 48, 2) := by decide +kernel
theorem dX5_nextNumber_46 : decode cX5_nextNumber 46 = .ok (.if_icmp .lt 14, 3) := by decide +kernel
theorem dX5_nextNumber_49 : decode cX5_nextNumber 49 = .ok (.aload_n 0, 1) := by decide +kernel
theorem dX5_nextNumber_50 : decode cX5_nextNumber 50 = .ok (.getfield 11, 3) := by decide +kernel
theorem dX5_nextNumber_53 : decode cX5_nextNumber 53 = .ok (.iload_n 3, 1) := by decide +kernel
theorem dX5_nextNumber_54 : decode cX5_nextNumber 54 = .ok (.caload, 1) := by decide +kernel
theorem dX5_nextNumber_55 : decode cX5_nextNumber 55 = .ok (.bipush 57, 2) := by decide +kernel
theorem dX5_nextNumber_57 : decode cX5_nextNumber 57 = .ok (.if_icmp .le 5, 3) := by decide +kernel
theorem dX5_nextNumber_60 : decode cX5_nextNumber 60 = .ok (.iconst (-1), 1) := by decide +kernel
theorem dX5_nextNumber_61 : decode cX5_nextNumber 61 = .ok (.ireturn, 1) := by decide +kernel
theorem dX5_nextNumber_62 : decode cX5_nextNumber 62 = .ok (.bipush 10, 2) := by decide +kernel
theorem dX5_nextNumber_64 : decode cX5_nextNumber 64 = .ok (.iload_n 2, 1) := by decide +kernel
theorem dX5_nextNumber_65 : decode cX5_nextNumber 65 = .ok (.imul, 1) := by decide +kernel
theorem dX5_nextNumber_66 : decode cX5_nextNumber 66 = .ok (.aload_n 0, 1) := by decide +kernel
theorem dX5_nextNumber_67 : decode cX5_nextNumber 67 = .ok (.getfield 11, 3) := by decide +kernel
theorem dX5_nextNumber_70 : decode cX5_nextNumber 70 = .ok (.iload_n 3, 1) := by decide +kernel
theorem dX5_nextNumber_71 : decode cX5_nextNumber 71 = .ok (.caload, 1) := by decide +kernel
theorem dX5_nextNumber_72 : decode cX5_nextNumber 72 = .ok (.bipush 48, 2) := by decide +kernel
theorem dX5_nextNumber_74 : decode cX5_nextNumber 74 = .ok (.isub, 1) := by decide +kernel
theorem dX5_nextNumber_75 : decode cX5_nextNumber 75 = .ok (.iadd, 1) := by decide +kernel
theorem dX5_nextNumber_76 : decode cX5_nextNumber 76 = .ok (.istore_n 2, 1) := by decide +kernel
theorem dX5_nextNumber_77 : decode cX5_nextNumber 77 = .ok (.iinc 3 1, 3) := by decide +kernel
theorem dX5_nextNumber_80 : decode cX5_nextNumber 80 = .ok (.goto (-50), 3) := by decide +kernel
theorem dX5_nextNumber_83 : decode cX5_nextNumber 83 = .ok (.iload_n 2, 1) := by decide +kernel
theorem dX5_nextNumber_84 : decode cX5_nextNumber 84 = .ok (.iload_n 1, 1) := by decide +kernel
theorem dX5_nextNumber_85 : decode cX5_nextNumber 85 = .ok (.if_icmp .gt 7, 3) := by decide +kernel
theorem dX5_nextNumber_88 : decode cX5_nextNumber 88 = .ok (.iload_n 2, 1) := by decide +kernel
theorem dX5_nextNumber_89 : decode cX5_nextNumber 89 = .ok (.goto 4, 3) := by decide +kernel
theorem dX5_nextNumber_92 : decode cX5_nextNumber 92 = .ok (.iconst (-1), 1) := by decide +kernel
theorem dX5_nextNumber_93 : decode cX5_nextNumber 93 = .ok (.ireturn, 1) := by decide +kernel
theorem dX5_isGap_0 : decode cX5_isGap 0 = .ok (.iload_n 0, 1) := by decide +kernel
theorem dX5_isGap_1 : decode cX5_isGap 1 = .ok (.bipush 32, 2) := by decide +kernel
theorem dX5_isGap_3 : decode cX5_isGap 3 = .ok (.if_icmp .eq 9, 3) := by decide +kernel
theorem dX5_isGap_6 : decode cX5_isGap 6 = .ok (.iload_n 0, 1) := by decide +kernel
theorem dX5_isGap_7 : decode cX5_isGap 7 = .ok (.bipush 10, 2) := by decide +kernel
theorem dX5_isGap_9 : decode cX5_isGap 9 = .ok (.if_icmp .ne 7, 3) := by decide +kernel
theorem dX5_isGap_12 : decode cX5_isGap 12 = .ok (.iconst 1, 1) := by decide +kernel
theorem dX5_isGap_13 : decode cX5_isGap 13 = .ok (.goto 4, 3) := by decide +kernel
theorem dX5_isGap_16 : decode cX5_isGap 16 = .ok (.iconst 0, 1) := by decide +kernel
theorem dX5_isGap_17 : decode cX5_isGap 17 = .ok (.ireturn, 1) := by decide +kernel
theorem dX6_init_0 : decode cX6_init 0 = .ok (.aload_n 0, 1) := by decide +kernel
theorem dX6_init_1 : decode cX6_init 1 = .ok (.invokespecial 3, 3) := by decide +kernel
theorem dX6_init_4 : decode cX6_init 4 = .ok (.aload_n 0, 1) := by decide +kernel
theorem dX6_init_5 : decode cX6_init 5 = .ok (.bipush 10, 2) := by decide +kernel
theorem dX6_init_7 : decode cX6_init 7 = .ok (.newarray .long, 2) := by decide +kernel
theorem dX6_init_9 : decode cX6_init 9 = .ok (.putfield 9, 3) := by decide +kernel
theorem dX6_init_12 : decode cX6_init 12 = .ok (.aload_n 0, 1) := by decide +kernel
theorem dX6_init_13 : decode cX6_init 13 = .ok (.bipush 12, 2) := by decide +kernel
theorem dX6_init_15 : decode cX6_init 15 = .ok (.newarray .int, 2) := by decide +kernel
theorem dX6_init_17 : decode cX6_init 17 = .ok (.putfield 15, 3) := by decide +kernel
theorem dX6_init_20 : decode cX6_init 20 = .ok (.aload_n 0, 1) := by decide +kernel
theorem dX6_init_21 : decode cX6_init 21 = .ok (.bipush 6, 2) := by decide +kernel
theorem dX6_init_23 : decode cX6_init 23 = .ok (.newarray .long, 2) := by decide +kernel
theorem dX6_init_25 : decode cX6_init 25 = .ok (.putfield 19, 3) := by decide +kernel
theorem dX6_init_28 : decode cX6_init 28 = .ok (.aload_n 0, 1) := by decide +kernel
theorem dX6_init_29 : decode cX6_init 29 = .ok (.iconst 4, 1) := by decide +kernel
theorem dX6_init_30 : decode cX6_init 30 = .ok (.bipush 12, 2) := by decide +kernel
theorem dX6_init_32 : decode cX6_init 32 = .ok (.multianewarray 22 2, 4) := by decide +kernel
theorem dX6_init_36 : decode cX6_init 36 = .ok (.putfield 24, 3) := by decide +kernel
theorem dX6_init_39 : decode cX6_init 39 = .ok (.aload_n 0, 1) := by decide +kernel
theorem dX6_init_40 : decode cX6_init 40 = .ok (.iload_n 1, 1) := by decide +kernel
theorem dX6_init_41 : decode cX6_init 41 = .ok (.putfield 27, 3) := by decide +kernel
theorem dX6_init_44 : decode cX6_init 44 = .ok (.aload_n 0, 1) := by decide +kernel
theorem dX6_init_45 : decode cX6_init 45 = .ok (.lload_n 2, 1) := by decide +kernel
theorem dX6_init_46 : decode cX6_init 46 = .ok (.putfield 31, 3) := by decide +kernel
theorem dX6_init_49 : decode cX6_init 49 = .ok (.return_, 1) := by decide +kernel
theorem dX6_shareOut_0 : decode cX6_shareOut 0 = .ok (.aload_n 0, 1) := by decide +kernel
theorem dX6_shareOut_1 : decode cX6_shareOut 1 = .ok (.iconst 1, 1) := by decide +kernel
theorem dX6_shareOut_2 : decode cX6_shareOut 2 = .ok (.putfield 35, 3) := by decide +kernel
theorem dX6_shareOut_5 : decode cX6_shareOut 5 = .ok (.aload_n 0, 1) := by decide +kernel
theorem dX6_shareOut_6 : decode cX6_shareOut 6 = .ok (.aload_n 1, 1) := by decide +kernel
theorem dX6_shareOut_7 : decode cX6_shareOut 7 = .ok (.aload_n 3, 1) := by decide +kernel
theorem dX6_shareOut_8 : decode cX6_shareOut 8 = .ok (.invokevirtual 39, 3) := by decide +kernel
theorem dX6_shareOut_11 : decode cX6_shareOut 11 = .ok (.aload_n 0, 1) := by decide +kernel
theorem dX6_shareOut_12 : decode cX6_shareOut 12 = .ok (.aload_n 1, 1) := by decide +kernel
theorem dX6_shareOut_13 : decode cX6_shareOut 13 = .ok (.aload 4, 2) := by decide +kernel
theorem dX6_shareOut_15 : decode cX6_shareOut 15 = .ok (.invokevirtual 43, 3) := by decide +kernel
theorem dX6_shareOut_18 : decode cX6_shareOut 18 = .ok (.aload_n 0, 1) := by decide +kernel
theorem dX6_shareOut_19 : decode cX6_shareOut 19 = .ok (.aload_n 1, 1) := by decide +kernel
theorem dX6_shareOut_20 : decode cX6_shareOut 20 = .ok (.invokevirtual 47, 3) := by decide +kernel
theorem dX6_shareOut_23 : decode cX6_shareOut 23 = .ok (.aload_n 0, 1) := by decide +kernel
theorem dX6_shareOut_24 : decode cX6_shareOut 24 = .ok (.aload_n 1, 1) := by decide +kernel
theorem dX6_shareOut_25 : decode cX6_shareOut 25 = .ok (.aload_n 2, 1) := by decide +kernel
theorem dX6_shareOut_26 : decode cX6_shareOut 26 = .ok (.aload 4, 2) := by decide +kernel
theorem dX6_shareOut_28 : decode cX6_shareOut 28 = .ok (.invokevirtual 51, 3) := by decide +kernel
theorem dX6_shareOut_31 : decode cX6_shareOut 31 = .ok (.iconst 0, 1) := by decide +kernel
theorem dX6_shareOut_32 : decode cX6_shareOut 32 = .ok (.istore 5, 2) := by decide +kernel
theorem dX6_shareOut_34 : decode cX6_shareOut 34 = .ok (.iload 5, 2) := by decide +kernel
theorem dX6_shareOut_36 : decode cX6_shareOut 36 = .ok (.aload_n 2, 1) := by decide +kernel
theorem dX6_shareOut_37 : decode cX6_shareOut 37 = .ok (.getfield 55, 3) := by decide +kernel
theorem dX6_shareOut_40 : decode cX6_shareOut 40 = .ok (.if_icmp .ge 34, 3) := by decide +kernel
theorem dX6_shareOut_43 : decode cX6_shareOut 43 = .ok (.aload_n 0, 1) := by decide +kernel
theorem dX6_shareOut_44 : decode cX6_shareOut 44 = .ok (.iload 5, 2) := by decide +kernel
theorem dX6_shareOut_46 : decode cX6_shareOut 46 = .ok (.aload_n 1, 1) := by decide +kernel
theorem dX6_shareOut_47 : decode cX6_shareOut 47 = .ok (.getfield 60, 3) := by decide +kernel
theorem dX6_shareOut_50 : decode cX6_shareOut 50 = .ok (.aload_n 2, 1) := by decide +kernel
theorem dX6_shareOut_51 : decode cX6_shareOut 51 = .ok (.getfield 65, 3) := by decide +kernel
theorem dX6_shareOut_54 : decode cX6_shareOut 54 = .ok (.iload 5, 2) := by decide +kernel
theorem dX6_shareOut_56 : decode cX6_shareOut 56 = .ok (.iaload, 1) := by decide +kernel
theorem dX6_shareOut_57 : decode cX6_shareOut 57 = .ok (.iaload, 1) := by decide +kernel
theorem dX6_shareOut_58 : decode cX6_shareOut 58 = .ok (.invokevirtual 68, 3) := by decide +kernel
theorem dX6_shareOut_61 : decode cX6_shareOut 61 = .ok (.aload_n 0, 1) := by decide +kernel
theorem dX6_shareOut_62 : decode cX6_shareOut 62 = .ok (.iload 5, 2) := by decide +kernel
theorem dX6_shareOut_64 : decode cX6_shareOut 64 = .ok (.aload_n 2, 1) := by decide +kernel
theorem dX6_shareOut_65 : decode cX6_shareOut 65 = .ok (.invokevirtual 72, 3) := by decide +kernel
theorem dX6_shareOut_68 : decode cX6_shareOut 68 = .ok (.iinc 5 1, 3) := by decide +kernel
theorem dX6_shareOut_71 : decode cX6_shareOut 71 = .ok (.goto (-37), 3) := by decide +kernel
theorem dX6_shareOut_74 : decode cX6_shareOut 74 = .ok (.return_, 1) := by decide +kernel
theorem dX6_bearLoss_0 : decode cX6_bearLoss 0 = .ok (.aload_n 0, 1) := by decide +kernel
theorem dX6_bearLoss_1 : decode cX6_bearLoss 1 = .ok (.getfield 19, 3) := by decide +kernel
theorem dX6_bearLoss_4 : decode cX6_bearLoss 4 = .ok (.iconst 4, 1) := by decide +kernel
theorem dX6_bearLoss_5 : decode cX6_bearLoss 5 = .ok (.aload_n 2, 1) := by decide +kernel
theorem dX6_bearLoss_6 : decode cX6_bearLoss 6 = .ok (.aload_n 0, 1) := by decide +kernel
theorem dX6_bearLoss_7 : decode cX6_bearLoss 7 = .ok (.getfield 27, 3) := by decide +kernel
theorem dX6_bearLoss_10 : decode cX6_bearLoss 10 = .ok (.laload, 1) := by decide +kernel
theorem dX6_bearLoss_11 : decode cX6_bearLoss 11 = .ok (.lastore, 1) := by decide +kernel
theorem dX6_bearLoss_12 : decode cX6_bearLoss 12 = .ok (.aload_n 0, 1) := by decide +kernel
theorem dX6_bearLoss_13 : decode cX6_bearLoss 13 = .ok (.getfield 31, 3) := by decide +kernel
theorem dX6_bearLoss_16 : decode cX6_bearLoss 16 = .ok (.aload_n 0, 1) := by decide +kernel
theorem dX6_bearLoss_17 : decode cX6_bearLoss 17 = .ok (.aload_n 1, 1) := by decide +kernel
theorem dX6_bearLoss_18 : decode cX6_bearLoss 18 = .ok (.iconst 0, 1) := by decide +kernel
theorem dX6_bearLoss_19 : decode cX6_bearLoss 19 = .ok (.invokevirtual 76, 3) := by decide +kernel
theorem dX6_bearLoss_22 : decode cX6_bearLoss 22 = .ok (.lsub, 1) := by decide +kernel
theorem dX6_bearLoss_23 : decode cX6_bearLoss 23 = .ok (.aload_n 2, 1) := by decide +kernel
theorem dX6_bearLoss_24 : decode cX6_bearLoss 24 = .ok (.aload_n 0, 1) := by decide +kernel
theorem dX6_bearLoss_25 : decode cX6_bearLoss 25 = .ok (.getfield 27, 3) := by decide +kernel
theorem dX6_bearLoss_28 : decode cX6_bearLoss 28 = .ok (.laload, 1) := by decide +kernel
theorem dX6_bearLoss_29 : decode cX6_bearLoss 29 = .ok (.lsub, 1) := by decide +kernel
theorem dX6_bearLoss_30 : decode cX6_bearLoss 30 = .ok (.lstore_n 3, 1) := by decide +kernel
theorem dX6_bearLoss_31 : decode cX6_bearLoss 31 = .ok (.aload_n 0, 1) := by decide +kernel
theorem dX6_bearLoss_32 : decode cX6_bearLoss 32 = .ok (.getfield 19, 3) := by decide +kernel
theorem dX6_bearLoss_35 : decode cX6_bearLoss 35 = .ok (.iconst 0, 1) := by decide +kernel
theorem dX6_bearLoss_36 : decode cX6_bearLoss 36 = .ok (.lload_n 3, 1) := by decide +kernel
theorem dX6_bearLoss_37 : decode cX6_bearLoss 37 = .ok (.lconst 0, 1) := by decide +kernel
theorem dX6_bearLoss_38 : decode cX6_bearLoss 38 = .ok (.invokestatic 80, 3) := by decide +kernel
