theorem dX6_bearLoss_41 : decode cX6_bearLoss 41 = .ok (.lastore, 1) := by decide +kernel
theorem dX6_bearLoss_42 : decode cX6_bearLoss 42 = .ok (.aload_n 0, 1) := by decide +kernel
theorem dX6_bearLoss_43 : decode cX6_bearLoss 43 = .ok (.getfield 19, 3) := by decide +kernel
theorem dX6_bearLoss_46 : decode cX6_bearLoss 46 = .ok (.iconst 5, 1) := by decide +kernel
theorem dX6_bearLoss_47 : decode cX6_bearLoss 47 = .ok (.lload_n 3, 1) := by decide +kernel
theorem dX6_bearLoss_48 : decode cX6_bearLoss 48 = .ok (.lneg, 1) := by decide +kernel
theorem dX6_bearLoss_49 : decode cX6_bearLoss 49 = .ok (.lconst 0, 1) := by decide +kernel
theorem dX6_bearLoss_50 : decode cX6_bearLoss 50 = .ok (.invokestatic 80, 3) := by decide +kernel
theorem dX6_bearLoss_53 : decode cX6_bearLoss 53 = .ok (.lastore, 1) := by decide +kernel
theorem dX6_bearLoss_54 : decode cX6_bearLoss 54 = .ok (.aload_n 2, 1) := by decide +kernel
theorem dX6_bearLoss_55 : decode cX6_bearLoss 55 = .ok (.aload_n 0, 1) := by decide +kernel
theorem dX6_bearLoss_56 : decode cX6_bearLoss 56 = .ok (.getfield 27, 3) := by decide +kernel
theorem dX6_bearLoss_59 : decode cX6_bearLoss 59 = .ok (.aload_n 0, 1) := by decide +kernel
theorem dX6_bearLoss_60 : decode cX6_bearLoss 60 = .ok (.getfield 19, 3) := by decide +kernel
theorem dX6_bearLoss_63 : decode cX6_bearLoss 63 = .ok (.iconst 5, 1) := by decide +kernel
theorem dX6_bearLoss_64 : decode cX6_bearLoss 64 = .ok (.laload, 1) := by decide +kernel
theorem dX6_bearLoss_65 : decode cX6_bearLoss 65 = .ok (.lastore, 1) := by decide +kernel
theorem dX6_bearLoss_66 : decode cX6_bearLoss 66 = .ok (.return_, 1) := by decide +kernel
theorem dX6_partLeft_0 : decode cX6_partLeft 0 = .ok (.aload_n 1, 1) := by decide +kernel
theorem dX6_partLeft_1 : decode cX6_partLeft 1 = .ok (.iconst 0, 1) := by decide +kernel
theorem dX6_partLeft_2 : decode cX6_partLeft 2 = .ok (.invokevirtual 86, 3) := by decide +kernel
theorem dX6_partLeft_5 : decode cX6_partLeft 5 = .ok (.istore_n 3, 1) := by decide +kernel
theorem dX6_partLeft_6 : decode cX6_partLeft 6 = .ok (.aload_n 1, 1) := by decide +kernel
theorem dX6_partLeft_7 : decode cX6_partLeft 7 = .ok (.iconst 1, 1) := by decide +kernel
theorem dX6_partLeft_8 : decode cX6_partLeft 8 = .ok (.invokevirtual 86, 3) := by decide +kernel
theorem dX6_partLeft_11 : decode cX6_partLeft 11 = .ok (.istore 4, 2) := by decide +kernel
theorem dX6_partLeft_13 : decode cX6_partLeft 13 = .ok (.aload_n 2, 1) := by decide +kernel
theorem dX6_partLeft_14 : decode cX6_partLeft 14 = .ok (.invokevirtual 90, 3) := by decide +kernel
theorem dX6_partLeft_17 : decode cX6_partLeft 17 = .ok (.aload_n 2, 1) := by decide +kernel
theorem dX6_partLeft_18 : decode cX6_partLeft 18 = .ok (.iload_n 3, 1) := by decide +kernel
theorem dX6_partLeft_19 : decode cX6_partLeft 19 = .ok (.i2l, 1) := by decide +kernel
theorem dX6_partLeft_20 : decode cX6_partLeft 20 = .ok (.invokevirtual 95, 3) := by decide +kernel
theorem dX6_partLeft_23 : decode cX6_partLeft 23 = .ok (.aload_n 2, 1) := by decide +kernel
theorem dX6_partLeft_24 : decode cX6_partLeft 24 = .ok (.iload 4, 2) := by decide +kernel
theorem dX6_partLeft_26 : decode cX6_partLeft 26 = .ok (.i2l, 1) := by decide +kernel
theorem dX6_partLeft_27 : decode cX6_partLeft 27 = .ok (.invokevirtual 95, 3) := by decide +kernel
theorem dX6_partLeft_30 : decode cX6_partLeft 30 = .ok (.aload_n 2, 1) := by decide +kernel
theorem dX6_partLeft_31 : decode cX6_partLeft 31 = .ok (.bipush 100, 2) := by decide +kernel
theorem dX6_partLeft_33 : decode cX6_partLeft 33 = .ok (.iload_n 3, 1) := by decide +kernel
theorem dX6_partLeft_34 : decode cX6_partLeft 34 = .ok (.isub, 1) := by decide +kernel
theorem dX6_partLeft_35 : decode cX6_partLeft 35 = .ok (.iload 4, 2) := by decide +kernel
theorem dX6_partLeft_37 : decode cX6_partLeft 37 = .ok (.isub, 1) := by decide +kernel
theorem dX6_partLeft_38 : decode cX6_partLeft 38 = .ok (.i2l, 1) := by decide +kernel
theorem dX6_partLeft_39 : decode cX6_partLeft 39 = .ok (.invokevirtual 95, 3) := by decide +kernel
theorem dX6_partLeft_42 : decode cX6_partLeft 42 = .ok (.aload_n 2, 1) := by decide +kernel
theorem dX6_partLeft_43 : decode cX6_partLeft 43 = .ok (.aload_n 0, 1) := by decide +kernel
theorem dX6_partLeft_44 : decode cX6_partLeft 44 = .ok (.getfield 19, 3) := by decide +kernel
theorem dX6_partLeft_47 : decode cX6_partLeft 47 = .ok (.iconst 0, 1) := by decide +kernel
theorem dX6_partLeft_48 : decode cX6_partLeft 48 = .ok (.laload, 1) := by decide +kernel
theorem dX6_partLeft_49 : decode cX6_partLeft 49 = .ok (.invokevirtual 99, 3) := by decide +kernel
theorem dX6_partLeft_52 : decode cX6_partLeft 52 = .ok (.pop, 1) := by decide +kernel
theorem dX6_partLeft_53 : decode cX6_partLeft 53 = .ok (.aload_n 0, 1) := by decide +kernel
theorem dX6_partLeft_54 : decode cX6_partLeft 54 = .ok (.getfield 19, 3) := by decide +kernel
theorem dX6_partLeft_57 : decode cX6_partLeft 57 = .ok (.iconst 1, 1) := by decide +kernel
theorem dX6_partLeft_58 : decode cX6_partLeft 58 = .ok (.aload_n 2, 1) := by decide +kernel
theorem dX6_partLeft_59 : decode cX6_partLeft 59 = .ok (.getfield 103, 3) := by decide +kernel
theorem dX6_partLeft_62 : decode cX6_partLeft 62 = .ok (.iconst 0, 1) := by decide +kernel
theorem dX6_partLeft_63 : decode cX6_partLeft 63 = .ok (.laload, 1) := by decide +kernel
theorem dX6_partLeft_64 : decode cX6_partLeft 64 = .ok (.lastore, 1) := by decide +kernel
theorem dX6_partLeft_65 : decode cX6_partLeft 65 = .ok (.aload_n 0, 1) := by decide +kernel
theorem dX6_partLeft_66 : decode cX6_partLeft 66 = .ok (.getfield 19, 3) := by decide +kernel
theorem dX6_partLeft_69 : decode cX6_partLeft 69 = .ok (.iconst 2, 1) := by decide +kernel
theorem dX6_partLeft_70 : decode cX6_partLeft 70 = .ok (.aload_n 2, 1) := by decide +kernel
theorem dX6_partLeft_71 : decode cX6_partLeft 71 = .ok (.getfield 103, 3) := by decide +kernel
theorem dX6_partLeft_74 : decode cX6_partLeft 74 = .ok (.iconst 1, 1) := by decide +kernel
theorem dX6_partLeft_75 : decode cX6_partLeft 75 = .ok (.laload, 1) := by decide +kernel
theorem dX6_partLeft_76 : decode cX6_partLeft 76 = .ok (.lastore, 1) := by decide +kernel
theorem dX6_partLeft_77 : decode cX6_partLeft 77 = .ok (.aload_n 0, 1) := by decide +kernel
theorem dX6_partLeft_78 : decode cX6_partLeft 78 = .ok (.getfield 19, 3) := by decide +kernel
theorem dX6_partLeft_81 : decode cX6_partLeft 81 = .ok (.iconst 3, 1) := by decide +kernel
theorem dX6_partLeft_82 : decode cX6_partLeft 82 = .ok (.aload_n 2, 1) := by decide +kernel
theorem dX6_partLeft_83 : decode cX6_partLeft 83 = .ok (.getfield 103, 3) := by decide +kernel
theorem dX6_partLeft_86 : decode cX6_partLeft 86 = .ok (.iconst 2, 1) := by decide +kernel
theorem dX6_partLeft_87 : decode cX6_partLeft 87 = .ok (.laload, 1) := by decide +kernel
theorem dX6_partLeft_88 : decode cX6_partLeft 88 = .ok (.lastore, 1) := by decide +kernel
theorem dX6_partLeft_89 : decode cX6_partLeft 89 = .ok (.return_, 1) := by decide +kernel
theorem dX6_bearCosts_0 : decode cX6_bearCosts 0 = .ok (.aload_n 0, 1) := by decide +kernel
theorem dX6_bearCosts_1 : decode cX6_bearCosts 1 = .ok (.aload_n 1, 1) := by decide +kernel
theorem dX6_bearCosts_2 : decode cX6_bearCosts 2 = .ok (.iconst 1, 1) := by decide +kernel
theorem dX6_bearCosts_3 : decode cX6_bearCosts 3 = .ok (.invokevirtual 76, 3) := by decide +kernel
theorem dX6_bearCosts_6 : decode cX6_bearCosts 6 = .ok (.lstore_n 2, 1) := by decide +kernel
theorem dX6_bearCosts_7 : decode cX6_bearCosts 7 = .ok (.lload_n 2, 1) := by decide +kernel
theorem dX6_bearCosts_8 : decode cX6_bearCosts 8 = .ok (.aload_n 0, 1) := by decide +kernel
theorem dX6_bearCosts_9 : decode cX6_bearCosts 9 = .ok (.getfield 19, 3) := by decide +kernel
theorem dX6_bearCosts_12 : decode cX6_bearCosts 12 = .ok (.iconst 3, 1) := by decide +kernel
theorem dX6_bearCosts_13 : decode cX6_bearCosts 13 = .ok (.laload, 1) := by decide +kernel
theorem dX6_bearCosts_14 : decode cX6_bearCosts 14 = .ok (.invokestatic 105, 3) := by decide +kernel
theorem dX6_bearCosts_17 : decode cX6_bearCosts 17 = .ok (.lstore 4, 2) := by decide +kernel
theorem dX6_bearCosts_19 : decode cX6_bearCosts 19 = .ok (.aload_n 0, 1) := by decide +kernel
theorem dX6_bearCosts_20 : decode cX6_bearCosts 20 = .ok (.getfield 19, 3) := by decide +kernel
theorem dX6_bearCosts_23 : decode cX6_bearCosts 23 = .ok (.iconst 3, 1) := by decide +kernel
theorem dX6_bearCosts_24 : decode cX6_bearCosts 24 = .ok (.dup2, 1) := by decide +kernel
theorem dX6_bearCosts_25 : decode cX6_bearCosts 25 = .ok (.laload, 1) := by decide +kernel
theorem dX6_bearCosts_26 : decode cX6_bearCosts 26 = .ok (.lload 4, 2) := by decide +kernel
theorem dX6_bearCosts_28 : decode cX6_bearCosts 28 = .ok (.lsub, 1) := by decide +kernel
theorem dX6_bearCosts_29 : decode cX6_bearCosts 29 = .ok (.lastore, 1) := by decide +kernel
theorem dX6_bearCosts_30 : decode cX6_bearCosts 30 = .ok (.aload_n 0, 1) := by decide +kernel
theorem dX6_bearCosts_31 : decode cX6_bearCosts 31 = .ok (.getfield 19, 3) := by decide +kernel
theorem dX6_bearCosts_34 : decode cX6_bearCosts 34 = .ok (.iconst 1, 1) := by decide +kernel
theorem dX6_bearCosts_35 : decode cX6_bearCosts 35 = .ok (.dup2, 1) := by decide +kernel
theorem dX6_bearCosts_36 : decode cX6_bearCosts 36 = .ok (.laload, 1) := by decide +kernel
theorem dX6_bearCosts_37 : decode cX6_bearCosts 37 = .ok (.lload_n 2, 1) := by decide +kernel
theorem dX6_bearCosts_38 : decode cX6_bearCosts 38 = .ok (.lload 4, 2) := by decide +kernel
theorem dX6_bearCosts_40 : decode cX6_bearCosts 40 = .ok (.lsub, 1) := by decide +kernel
theorem dX6_bearCosts_41 : decode cX6_bearCosts 41 = .ok (.aload_n 0, 1) := by decide +kernel
theorem dX6_bearCosts_42 : decode cX6_bearCosts 42 = .ok (.aload_n 1, 1) := by decide +kernel
theorem dX6_bearCosts_43 : decode cX6_bearCosts 43 = .ok (.iconst 2, 1) := by decide +kernel
theorem dX6_bearCosts_44 : decode cX6_bearCosts 44 = .ok (.invokevirtual 76, 3) := by decide +kernel
theorem dX6_bearCosts_47 : decode cX6_bearCosts 47 = .ok (.ladd, 1) := by decide +kernel
theorem dX6_bearCosts_48 : decode cX6_bearCosts 48 = .ok (.lsub, 1) := by decide +kernel
theorem dX6_bearCosts_49 : decode cX6_bearCosts 49 = .ok (.lastore, 1) := by decide +kernel
theorem dX6_bearCosts_50 : decode cX6_bearCosts 50 = .ok (.return_, 1) := by decide +kernel
theorem dX6_shareCrewsPart_0 : decode cX6_shareCrewsPart 0 = .ok (.aload_n 3, 1) := by decide +kernel
theorem dX6_shareCrewsPart_1 : decode cX6_shareCrewsPart 1 = .ok (.invokevirtual 90, 3) := by decide +kernel
theorem dX6_shareCrewsPart_4 : decode cX6_shareCrewsPart 4 = .ok (.iconst 0, 1) := by decide +kernel
theorem dX6_shareCrewsPart_5 : decode cX6_shareCrewsPart 5 = .ok (.istore 4, 2) := by decide +kernel
theorem dX6_shareCrewsPart_7 : decode cX6_shareCrewsPart 7 = .ok (.iload 4, 2) := by decide +kernel
theorem dX6_shareCrewsPart_9 : decode cX6_shareCrewsPart 9 = .ok (.aload_n 2, 1) := by decide +kernel
theorem dX6_shareCrewsPart_10 : decode cX6_shareCrewsPart 10 = .ok (.getfield 55, 3) := by decide +kernel
theorem dX6_shareCrewsPart_13 : decode cX6_shareCrewsPart 13 = .ok (.if_icmp .ge 35, 3) := by decide +kernel
theorem dX6_shareCrewsPart_16 : decode cX6_shareCrewsPart 16 = .ok (.aload_n 3, 1) := by decide +kernel
theorem dX6_shareCrewsPart_17 : decode cX6_shareCrewsPart 17 = .ok (.aload_n 1, 1) := by decide +kernel
theorem dX6_shareCrewsPart_18 : decode cX6_shareCrewsPart 18 = .ok (.getfield 108, 3) := by decide +kernel
theorem dX6_shareCrewsPart_21 : decode cX6_shareCrewsPart 21 = .ok (.aload_n 2, 1) := by decide +kernel
theorem dX6_shareCrewsPart_22 : decode cX6_shareCrewsPart 22 = .ok (.getfield 65, 3) := by decide +kernel
theorem dX6_shareCrewsPart_25 : decode cX6_shareCrewsPart 25 = .ok (.iload 4, 2) := by decide +kernel
theorem dX6_shareCrewsPart_27 : decode cX6_shareCrewsPart 27 = .ok (.iaload, 1) := by decide +kernel
theorem dX6_shareCrewsPart_28 : decode cX6_shareCrewsPart 28 = .ok (.iaload, 1) := by decide +kernel
theorem dX6_shareCrewsPart_29 : decode cX6_shareCrewsPart 29 = .ok (.i2l, 1) := by decide +kernel
theorem dX6_shareCrewsPart_30 : decode cX6_shareCrewsPart 30 = .ok (.aload_n 0, 1) := by decide +kernel
theorem dX6_shareCrewsPart_31 : decode cX6_shareCrewsPart 31 = .ok (.getfield 15, 3) := by decide +kernel
theorem dX6_shareCrewsPart_34 : decode cX6_shareCrewsPart 34 = .ok (.iload 4, 2) := by decide +kernel
theorem dX6_shareCrewsPart_36 : decode cX6_shareCrewsPart 36 = .ok (.iaload, 1) := by decide +kernel
theorem dX6_shareCrewsPart_37 : decode cX6_shareCrewsPart 37 = .ok (.i2l, 1) := by decide +kernel
theorem dX6_shareCrewsPart_38 : decode cX6_shareCrewsPart 38 = .ok (.lmul, 1) := by decide +kernel
theorem dX6_shareCrewsPart_39 : decode cX6_shareCrewsPart 39 = .ok (.invokevirtual 95, 3) := by decide +kernel
theorem dX6_shareCrewsPart_42 : decode cX6_shareCrewsPart 42 = .ok (.iinc 4 1, 3) := by decide +kernel
theorem dX6_shareCrewsPart_45 : decode cX6_shareCrewsPart 45 = .ok (.goto (-38), 3) := by decide +kernel
theorem dX6_shareCrewsPart_48 : decode cX6_shareCrewsPart 48 = .ok (.aload_n 3, 1) := by decide +kernel
theorem dX6_shareCrewsPart_49 : decode cX6_shareCrewsPart 49 = .ok (.aload_n 0, 1) := by decide +kernel
theorem dX6_shareCrewsPart_50 : decode cX6_shareCrewsPart 50 = .ok (.getfield 19, 3) := by decide +kernel
theorem dX6_shareCrewsPart_53 : decode cX6_shareCrewsPart 53 = .ok (.iconst 3, 1) := by decide +kernel
theorem dX6_shareCrewsPart_54 : decode cX6_shareCrewsPart 54 = .ok (.laload, 1) := by decide +kernel
theorem dX6_shareCrewsPart_55 : decode cX6_shareCrewsPart 55 = .ok (.invokevirtual 99, 3) := by decide +kernel
theorem dX6_shareCrewsPart_58 : decode cX6_shareCrewsPart 58 = .ok (.ifCond .ne 18, 3) := by decide +kernel
theorem dX6_shareCrewsPart_61 : decode cX6_shareCrewsPart 61 = .ok (.aload_n 0, 1) := by decide +kernel
theorem dX6_shareCrewsPart_62 : decode cX6_shareCrewsPart 62 = .ok (.getfield 19, 3) := by decide +kernel
theorem dX6_shareCrewsPart_65 : decode cX6_shareCrewsPart 65 = .ok (.iconst 1, 1) := by decide +kernel
theorem dX6_shareCrewsPart_66 : decode cX6_shareCrewsPart 66 = .ok (.dup2, 1) := by decide +kernel
theorem dX6_shareCrewsPart_67 : decode cX6_shareCrewsPart 67 = .ok (.laload, 1) := by decide +kernel
theorem dX6_shareCrewsPart_68 : decode cX6_shareCrewsPart 68 = .ok (.aload_n 0, 1) := by decide +kernel
theorem dX6_shareCrewsPart_69 : decode cX6_shareCrewsPart 69 = .ok (.getfield 19, 3) := by decide +kernel
theorem dX6_shareCrewsPart_72 : decode cX6_shareCrewsPart 72 = .ok (.iconst 3, 1) := by decide +kernel
theorem dX6_shareCrewsPart_73 : decode cX6_shareCrewsPart 73 = .ok (.laload, 1) := by decide +kernel
theorem dX6_shareCrewsPart_74 : decode cX6_shareCrewsPart 74 = .ok (.ladd, 1) := by decide +kernel
theorem dX6_shareCrewsPart_75 : decode cX6_shareCrewsPart 75 = .ok (.lastore, 1) := by decide +kernel
theorem dX6_shareCrewsPart_76 : decode cX6_shareCrewsPart 76 = .ok (.iconst 0, 1) := by decide +kernel
theorem dX6_shareCrewsPart_77 : decode cX6_shareCrewsPart 77 = .ok (.istore 4, 2) := by decide +kernel
theorem dX6_shareCrewsPart_79 : decode cX6_shareCrewsPart 79 = .ok (.iload 4, 2) := by decide +kernel
theorem dX6_shareCrewsPart_81 : decode cX6_shareCrewsPart 81 = .ok (.aload_n 2, 1) := by decide +kernel
theorem dX6_shareCrewsPart_82 : decode cX6_shareCrewsPart 82 = .ok (.getfield 55, 3) := by decide +kernel
theorem dX6_shareCrewsPart_85 : decode cX6_shareCrewsPart 85 = .ok (.if_icmp .ge 25, 3) := by decide +kernel
theorem dX6_shareCrewsPart_88 : decode cX6_shareCrewsPart 88 = .ok (.aload_n 0, 1) := by decide +kernel
theorem dX6_shareCrewsPart_89 : decode cX6_shareCrewsPart 89 = .ok (.getfield 24, 3) := by decide +kernel
theorem dX6_shareCrewsPart_92 : decode cX6_shareCrewsPart 92 = .ok (.iconst 0, 1) := by decide +kernel
theorem dX6_shareCrewsPart_93 : decode cX6_shareCrewsPart 93 = .ok (.aaload, 1) := by decide +kernel
theorem dX6_shareCrewsPart_94 : decode cX6_shareCrewsPart 94 = .ok (.iload 4, 2) := by decide +kernel
theorem dX6_shareCrewsPart_96 : decode cX6_shareCrewsPart 96 = .ok (.aload_n 3, 1) := by decide +kernel
theorem dX6_shareCrewsPart_97 : decode cX6_shareCrewsPart 97 = .ok (.getfield 103, 3) := by decide +kernel
theorem dX6_shareCrewsPart_100 : decode cX6_shareCrewsPart 100 = .ok (.iload 4, 2) := by decide +kernel
theorem dX6_shareCrewsPart_102 : decode cX6_shareCrewsPart 102 = .ok (.laload, 1) := by decide +kernel
theorem dX6_shareCrewsPart_103 : decode cX6_shareCrewsPart 103 = .ok (.lastore, 1) := by decide +kernel
theorem dX6_shareCrewsPart_104 : decode cX6_shareCrewsPart 104 = .ok (.iinc 4 1, 3) := by decide +kernel
theorem dX6_shareCrewsPart_107 : decode cX6_shareCrewsPart 107 = .ok (.goto (-28), 3) := by decide +kernel
theorem dX6_shareCrewsPart_110 : decode cX6_shareCrewsPart 110 = .ok (.return_, 1) := by decide +kernel
theorem dX6_topUp_0 : decode cX6_topUp 0 = .ok (.iload_n 2, 1) := by decide +kernel
theorem dX6_topUp_1 : decode cX6_topUp 1 = .ok (.i2l, 1) := by decide +kernel
theorem dX6_topUp_2 : decode cX6_topUp 2 = .ok (.aload_n 0, 1) := by decide +kernel
theorem dX6_topUp_3 : decode cX6_topUp 3 = .ok (.getfield 15, 3) := by decide +kernel
theorem dX6_topUp_6 : decode cX6_topUp 6 = .ok (.iload_n 1, 1) := by decide +kernel
theorem dX6_topUp_7 : decode cX6_topUp 7 = .ok (.iaload, 1) := by decide +kernel
theorem dX6_topUp_8 : decode cX6_topUp 8 = .ok (.i2l, 1) := by decide +kernel
theorem dX6_topUp_9 : decode cX6_topUp 9 = .ok (.lmul, 1) := by decide +kernel
theorem dX6_topUp_10 : decode cX6_topUp 10 = .ok (.lstore_n 3, 1) := by decide +kernel
theorem dX6_topUp_11 : decode cX6_topUp 11 = .ok (.lload_n 3, 1) := by decide +kernel
theorem dX6_topUp_12 : decode cX6_topUp 12 = .ok (.aload_n 0, 1) := by decide +kernel
theorem dX6_topUp_13 : decode cX6_topUp 13 = .ok (.getfield 24, 3) := by decide +kernel
theorem dX6_topUp_16 : decode cX6_topUp 16 = .ok (.iconst 0, 1) := by decide +kernel
theorem dX6_topUp_17 : decode cX6_topUp 17 = .ok (.aaload, 1) := by decide +kernel
theorem dX6_topUp_18 : decode cX6_topUp 18 = .ok (.iload_n 1, 1) := by decide +kernel
theorem dX6_topUp_19 : decode cX6_topUp 19 = .ok (.laload, 1) := by decide +kernel
theorem dX6_topUp_20 : decode cX6_topUp 20 = .ok (.lsub, 1) := by decide +kernel
theorem dX6_topUp_21 : decode cX6_topUp 21 = .ok (.lconst 0, 1) := by decide +kernel
theorem dX6_topUp_22 : decode cX6_topUp 22 = .ok (.invokestatic 80, 3) := by decide +kernel
theorem dX6_topUp_25 : decode cX6_topUp 25 = .ok (.lstore 5, 2) := by decide +kernel
theorem dX6_topUp_27 : decode cX6_topUp 27 = .ok (.aload_n 0, 1) := by decide +kernel
theorem dX6_topUp_28 : decode cX6_topUp 28 = .ok (.getfield 24, 3) := by decide +kernel
theorem dX6_topUp_31 : decode cX6_topUp 31 = .ok (.iconst 1, 1) := by decide +kernel
theorem dX6_topUp_32 : decode cX6_topUp 32 = .ok (.aaload, 1) := by decide +kernel
theorem dX6_topUp_33 : decode cX6_topUp 33 = .ok (.iload_n 1, 1) := by decide +kernel
theorem dX6_topUp_34 : decode cX6_topUp 34 = .ok (.lload 5, 2) := by decide +kernel
theorem dX6_topUp_36 : decode cX6_topUp 36 = .ok (.lastore, 1) := by decide +kernel
theorem dX6_topUp_37 : decode cX6_topUp 37 = .ok (.aload_n 0, 1) := by decide +kernel
theorem dX6_topUp_38 : decode cX6_topUp 38 = .ok (.getfield 19, 3) := by decide +kernel
theorem dX6_topUp_41 : decode cX6_topUp 41 = .ok (.iconst 1, 1) := by decide +kernel
theorem dX6_topUp_42 : decode cX6_topUp 42 = .ok (.dup2, 1) := by decide +kernel
theorem dX6_topUp_43 : decode cX6_topUp 43 = .ok (.laload, 1) := by decide +kernel
theorem dX6_topUp_44 : decode cX6_topUp 44 = .ok (.lload 5, 2) := by decide +kernel
theorem dX6_topUp_46 : decode cX6_topUp 46 = .ok (.lsub, 1) := by decide +kernel
theorem dX6_topUp_47 : decode cX6_topUp 47 = .ok (.lastore, 1) := by decide +kernel
theorem dX6_topUp_48 : decode cX6_topUp 48 = .ok (.return_, 1) := by decide +kernel
theorem dX6_pay_0 : decode cX6_pay 0 = .ok (.aload_n 0, 1) := by decide +kernel
theorem dX6_pay_1 : decode cX6_pay 1 = .ok (.iload_n 1, 1) := by decide +kernel
theorem dX6_pay_2 : decode cX6_pay 2 = .ok (.invokevirtual 111, 3) := by decide +kernel
theorem dX6_pay_5 : decode cX6_pay 5 = .ok (.lstore_n 3, 1) := by decide +kernel
theorem dX6_pay_6 : decode cX6_pay 6 = .ok (.lload_n 3, 1) := by decide +kernel
theorem dX6_pay_7 : decode cX6_pay 7 = .ok (.aload_n 2, 1) := by decide +kernel
theorem dX6_pay_8 : decode cX6_pay 8 = .ok (.getfield 115, 3) := by decide +kernel
theorem dX6_pay_11 : decode cX6_pay 11 = .ok (.iload_n 1, 1) := by decide +kernel
theorem dX6_pay_12 : decode cX6_pay 12 = .ok (.laload, 1) := by decide +kernel
theorem dX6_pay_13 : decode cX6_pay 13 = .ok (.invokestatic 105, 3) := by decide +kernel
theorem dX6_pay_16 : decode cX6_pay 16 = .ok (.lstore 5, 2) := by decide +kernel
theorem dX6_pay_18 : decode cX6_pay 18 = .ok (.aload_n 2, 1) := by decide +kernel
theorem dX6_pay_19 : decode cX6_pay 19 = .ok (.getfield 115, 3) := by decide +kernel
theorem dX6_pay_22 : decode cX6_pay 22 = .ok (.iload_n 1, 1) := by decide +kernel
theorem dX6_pay_23 : decode cX6_pay 23 = .ok (.dup2, 1) := by decide +kernel
theorem dX6_pay_24 : decode cX6_pay 24 = .ok (.laload, 1) := by decide +kernel
theorem dX6_pay_25 : decode cX6_pay 25 = .ok (.lload 5, 2) := by decide +kernel
theorem dX6_pay_27 : decode cX6_pay 27 = .ok (.lsub, 1) := by decide +kernel
theorem dX6_pay_28 : decode cX6_pay 28 = .ok (.lastore, 1) := by decide +kernel
theorem dX6_pay_29 : decode cX6_pay 29 = .ok (.aload_n 0, 1) := by decide +kernel
theorem dX6_pay_30 : decode cX6_pay 30 = .ok (.getfield 24, 3) := by decide +kernel
theorem dX6_pay_33 : decode cX6_pay 33 = .ok (.iconst 2, 1) := by decide +kernel
theorem dX6_pay_34 : decode cX6_pay 34 = .ok (.aaload, 1) := by decide +kernel
theorem dX6_pay_35 : decode cX6_pay 35 = .ok (.iload_n 1, 1) := by decide +kernel
theorem dX6_pay_36 : decode cX6_pay 36 = .ok (.lload 5, 2) := by decide +kernel
theorem dX6_pay_38 : decode cX6_pay 38 = .ok (.lastore, 1) := by decide +kernel
theorem dX6_pay_39 : decode cX6_pay 39 = .ok (.aload_n 0, 1) := by decide +kernel
theorem dX6_pay_40 : decode cX6_pay 40 = .ok (.getfield 24, 3) := by decide +kernel
theorem dX6_pay_43 : decode cX6_pay 43 = .ok (.iconst 3, 1) := by decide +kernel
theorem dX6_pay_44 : decode cX6_pay 44 = .ok (.aaload, 1) := by decide +kernel
theorem dX6_pay_45 : decode cX6_pay 45 = .ok (.iload_n 1, 1) := by decide +kernel
theorem dX6_pay_46 : decode cX6_pay 46 = .ok (.lload_n 3, 1) := by decide +kernel
theorem dX6_pay_47 : decode cX6_pay 47 = .ok (.lload 5, 2) := by decide +kernel
theorem dX6_pay_49 : decode cX6_pay 49 = .ok (.lsub, 1) := by decide +kernel
theorem dX6_pay_50 : decode cX6_pay 50 = .ok (.lastore, 1) := by decide +kernel
theorem dX6_pay_51 : decode cX6_pay 51 = .ok (.return_, 1) := by decide +kernel
theorem dX6_hasOf_0 : decode cX6_hasOf 0 = .ok (.aload_n 0, 1) := by decide +kernel
theorem dX6_hasOf_1 : decode cX6_hasOf 1 = .ok (.getfield 24, 3) := by decide +kernel
theorem dX6_hasOf_4 : decode cX6_hasOf 4 = .ok (.iconst 0, 1) := by decide +kernel
theorem dX6_hasOf_5 : decode cX6_hasOf 5 = .ok (.aaload, 1) := by decide +kernel
theorem dX6_hasOf_6 : decode cX6_hasOf 6 = .ok (.iload_n 1, 1) := by decide +kernel
theorem dX6_hasOf_7 : decode cX6_hasOf 7 = .ok (.laload, 1) := by decide +kernel
theorem dX6_hasOf_8 : decode cX6_hasOf 8 = .ok (.aload_n 0, 1) := by decide +kernel
theorem dX6_hasOf_9 : decode cX6_hasOf 9 = .ok (.getfield 24, 3) := by decide +kernel
theorem dX6_hasOf_12 : decode cX6_hasOf 12 = .ok (.iconst 1, 1) := by decide +kernel
theorem dX6_hasOf_13 : decode cX6_hasOf 13 = .ok (.aaload, 1) := by decide +kernel
theorem dX6_hasOf_14 : decode cX6_hasOf 14 = .ok (.iload_n 1, 1) := by decide +kernel
theorem dX6_hasOf_15 : decode cX6_hasOf 15 = .ok (.laload, 1) := by decide +kernel
theorem dX6_hasOf_16 : decode cX6_hasOf 16 = .ok (.ladd, 1) := by decide +kernel
theorem dX6_hasOf_17 : decode cX6_hasOf 17 = .ok (.lreturn, 1) := by decide +kernel
theorem dX6_costsOff_0 : decode cX6_costsOff 0 = .ok (.lconst 0, 1) := by decide +kernel
theorem dX6_costsOff_1 : decode cX6_costsOff 1 = .ok (.lstore_n 3, 1) := by decide +kernel
theorem dX6_costsOff_2 : decode cX6_costsOff 2 = .ok (.iconst 0, 1) := by decide +kernel
theorem dX6_costsOff_3 : decode cX6_costsOff 3 = .ok (.istore 5, 2) := by decide +kernel
theorem dX6_costsOff_5 : decode cX6_costsOff 5 = .ok (.iload 5, 2) := by decide +kernel
theorem dX6_costsOff_7 : decode cX6_costsOff 7 = .ok (.bipush 10, 2) := by decide +kernel
theorem dX6_costsOff_9 : decode cX6_costsOff 9 = .ok (.if_icmp .ge 30, 3) := by decide +kernel
theorem dX6_costsOff_12 : decode cX6_costsOff 12 = .ok (.aload_n 1, 1) := by decide +kernel
theorem dX6_costsOff_13 : decode cX6_costsOff 13 = .ok (.getfield 118, 3) := by decide +kernel
theorem dX6_costsOff_16 : decode cX6_costsOff 16 = .ok (.iload 5, 2) := by decide +kernel
theorem dX6_costsOff_18 : decode cX6_costsOff 18 = .ok (.iaload, 1) := by decide +kernel
theorem dX6_costsOff_19 : decode cX6_costsOff 19 = .ok (.iload_n 2, 1) := by decide +kernel
theorem dX6_costsOff_20 : decode cX6_costsOff 20 = .ok (.if_icmp .ne 13, 3) := by decide +kernel
theorem dX6_costsOff_23 : decode cX6_costsOff 23 = .ok (.lload_n 3, 1) := by decide +kernel
theorem dX6_costsOff_24 : decode cX6_costsOff 24 = .ok (.aload_n 0, 1) := by decide +kernel
theorem dX6_costsOff_25 : decode cX6_costsOff 25 = .ok (.getfield 9, 3) := by decide +kernel
theorem dX6_costsOff_28 : decode cX6_costsOff 28 = .ok (.iload 5, 2) := by decide +kernel
theorem dX6_costsOff_30 : decode cX6_costsOff 30 = .ok (.laload, 1) := by decide +kernel
theorem dX6_costsOff_31 : decode cX6_costsOff 31 = .ok (.ladd, 1) := by decide +kernel
theorem dX6_costsOff_32 : decode cX6_costsOff 32 = .ok (.lstore_n 3, 1) := by decide +kernel
theorem dX6_costsOff_33 : decode cX6_costsOff 33 = .ok (.iinc 5 1, 3) := by decide +kernel
theorem dX6_costsOff_36 : decode cX6_costsOff 36 = .ok (.goto (-31), 3) := by decide +kernel
theorem dX6_costsOff_39 : decode cX6_costsOff 39 = .ok (.lload_n 3, 1) := by decide +kernel
theorem dX6_costsOff_40 : decode cX6_costsOff 40 = .ok (.lreturn, 1) := by decide +kernel
theorem dX6_countAboard_0 : decode cX6_countAboard 0 = .ok (.iconst 0, 1) := by decide +kernel
theorem dX6_countAboard_1 : decode cX6_countAboard 1 = .ok (.istore_n 1, 1) := by decide +kernel
theorem dX6_countAboard_2 : decode cX6_countAboard 2 = .ok (.iconst 0, 1) := by decide +kernel
theorem dX6_countAboard_3 : decode cX6_countAboard 3 = .ok (.istore_n 2, 1) := by decide +kernel
theorem dX6_countAboard_4 : decode cX6_countAboard 4 = .ok (.iload_n 2, 1) := by decide +kernel
theorem dX6_countAboard_5 : decode cX6_countAboard 5 = .ok (.bipush 12, 2) := by decide +kernel
theorem dX6_countAboard_7 : decode cX6_countAboard 7 = .ok (.if_icmp .ge 21, 3) := by decide +kernel
theorem dX6_countAboard_10 : decode cX6_countAboard 10 = .ok (.aload_n 0, 1) := by decide +kernel
theorem dX6_countAboard_11 : decode cX6_countAboard 11 = .ok (.getfield 15, 3) := by decide +kernel
theorem dX6_countAboard_14 : decode cX6_countAboard 14 = .ok (.iload_n 2, 1) := by decide +kernel
theorem dX6_countAboard_15 : decode cX6_countAboard 15 = .ok (.iaload, 1) := by decide +kernel
theorem dX6_countAboard_16 : decode cX6_countAboard 16 = .ok (.ifCond .le 6, 3) := by decide +kernel
theorem dX6_countAboard_19 : decode cX6_countAboard 19 = .ok (.iinc 1 1, 3) := by decide +kernel
theorem dX6_countAboard_22 : decode cX6_countAboard 22 = .ok (.iinc 2 1, 3) := by decide +kernel
theorem dX6_countAboard_25 : decode cX6_countAboard 25 = .ok (.goto (-21), 3) := by decide +kernel
theorem dX6_countAboard_28 : decode cX6_countAboard 28 = .ok (.iload_n 1, 1) := by decide +kernel
theorem dX6_countAboard_29 : decode cX6_countAboard 29 = .ok (.ireturn, 1) := by decide +kernel
theorem dX6_isEven_0 : decode cX6_isEven 0 = .ok (.aload_n 0, 1) := by decide +kernel
theorem dX6_isEven_1 : decode cX6_isEven 1 = .ok (.getfield 19, 3) := by decide +kernel
theorem dX6_isEven_4 : decode cX6_isEven 4 = .ok (.iconst 1, 1) := by decide +kernel
theorem dX6_isEven_5 : decode cX6_isEven 5 = .ok (.laload, 1) := by decide +kernel
theorem dX6_isEven_6 : decode cX6_isEven 6 = .ok (.aload_n 0, 1) := by decide +kernel
theorem dX6_isEven_7 : decode cX6_isEven 7 = .ok (.getfield 19, 3) := by decide +kernel
theorem dX6_isEven_10 : decode cX6_isEven 10 = .ok (.iconst 2, 1) := by decide +kernel
theorem dX6_isEven_11 : decode cX6_isEven 11 = .ok (.laload, 1) := by decide +kernel
theorem dX6_isEven_12 : decode cX6_isEven 12 = .ok (.ladd, 1) := by decide +kernel
theorem dX6_isEven_13 : decode cX6_isEven 13 = .ok (.lstore_n 1, 1) := by decide +kernel
theorem dX6_isEven_14 : decode cX6_isEven 14 = .ok (.iconst 0, 1) := by decide +kernel
theorem dX6_isEven_15 : decode cX6_isEven 15 = .ok (.istore_n 3, 1) := by decide +kernel
theorem dX6_isEven_16 : decode cX6_isEven 16 = .ok (.iload_n 3, 1) := by decide +kernel
theorem dX6_isEven_17 : decode cX6_isEven 17 = .ok (.bipush 12, 2) := by decide +kernel
theorem dX6_isEven_19 : decode cX6_isEven 19 = .ok (.if_icmp .ge 17, 3) := by decide +kernel
theorem dX6_isEven_22 : decode cX6_isEven 22 = .ok (.lload_n 1, 1) := by decide +kernel
theorem dX6_isEven_23 : decode cX6_isEven 23 = .ok (.aload_n 0, 1) := by decide +kernel
theorem dX6_isEven_24 : decode cX6_isEven 24 = .ok (.iload_n 3, 1) := by decide +kernel
theorem dX6_isEven_25 : decode cX6_isEven 25 = .ok (.invokevirtual 111, 3) := by decide +kernel
theorem dX6_isEven_28 : decode cX6_isEven 28 = .ok (.ladd, 1) := by decide +kernel
theorem dX6_isEven_29 : decode cX6_isEven 29 = .ok (.lstore_n 1, 1) := by decide +kernel
theorem dX6_isEven_30 : decode cX6_isEven 30 = .ok (.iinc 3 1, 3) := by decide +kernel
theorem dX6_isEven_33 : decode cX6_isEven 33 = .ok (.goto (-17), 3) := by decide +kernel
theorem dX6_isEven_36 : decode cX6_isEven 36 = .ok (.aload_n 0, 1) := by decide +kernel
theorem dX6_isEven_37 : decode cX6_isEven 37 = .ok (.getfield 31, 3) := by decide +kernel
theorem dX6_isEven_40 : decode cX6_isEven 40 = .ok (.aload_n 0, 1) := by decide +kernel
theorem dX6_isEven_41 : decode cX6_isEven 41 = .ok (.getfield 19, 3) := by decide +kernel
theorem dX6_isEven_44 : decode cX6_isEven 44 = .ok (.iconst 4, 1) := by decide +kernel
theorem dX6_isEven_45 : decode cX6_isEven 45 = .ok (.laload, 1) := by decide +kernel
theorem dX6_isEven_46 : decode cX6_isEven 46 = .ok (.lsub, 1) := by decide +kernel
theorem dX6_isEven_47 : decode cX6_isEven 47 = .ok (.aload_n 0, 1) := by decide +kernel
theorem dX6_isEven_48 : decode cX6_isEven 48 = .ok (.getfield 19, 3) := by decide +kernel
theorem dX6_isEven_51 : decode cX6_isEven 51 = .ok (.iconst 5, 1) := by decide +kernel
theorem dX6_isEven_52 : decode cX6_isEven 52 = .ok (.laload, 1) := by decide +kernel
theorem dX6_isEven_53 : decode cX6_isEven 53 = .ok (.ladd, 1) := by decide +kernel
theorem dX6_isEven_54 : decode cX6_isEven 54 = .ok (.lstore_n 3, 1) := by decide +kernel
theorem dX6_isEven_55 : decode cX6_isEven 55 = .ok (.iconst 0, 1) := by decide +kernel
theorem dX6_isEven_56 : decode cX6_isEven 56 = .ok (.istore 5, 2) := by decide +kernel
theorem dX6_isEven_58 : decode cX6_isEven 58 = .ok (.iload 5, 2) := by decide +kernel
theorem dX6_isEven_60 : decode cX6_isEven 60 = .ok (.bipush 10, 2) := by decide +kernel
theorem dX6_isEven_62 : decode cX6_isEven 62 = .ok (.if_icmp .ge 19, 3) := by decide +kernel
theorem dX6_isEven_65 : decode cX6_isEven 65 = .ok (.lload_n 3, 1) := by decide +kernel
theorem dX6_isEven_66 : decode cX6_isEven 66 = .ok (.aload_n 0, 1) := by decide +kernel
theorem dX6_isEven_67 : decode cX6_isEven 67 = .ok (.getfield 9, 3) := by decide +kernel
theorem dX6_isEven_70 : decode cX6_isEven 70 = .ok (.iload 5, 2) := by decide +kernel
theorem dX6_isEven_72 : decode cX6_isEven 72 = .ok (.laload, 1) := by decide +kernel
theorem dX6_isEven_73 : decode cX6_isEven 73 = .ok (.lsub, 1) := by decide +kernel
theorem dX6_isEven_74 : decode cX6_isEven 74 = .ok (.lstore_n 3, 1) := by decide +kernel
theorem dX6_isEven_75 : decode cX6_isEven 75 = .ok (.iinc 5 1, 3) := by decide +kernel
theorem dX6_isEven_78 : decode cX6_isEven 78 = .ok (.goto (-20), 3) := by decide +kernel
theorem dX6_isEven_81 : decode cX6_isEven 81 = .ok (.lload_n 1, 1) := by decide +kernel
theorem dX6_isEven_82 : decode cX6_isEven 82 = .ok (.lload_n 3, 1) := by decide +kernel
theorem dX6_isEven_83 : decode cX6_isEven 83 = .ok (.lcmp, 1) := by decide +kernel
theorem dX6_isEven_84 : decode cX6_isEven 84 = .ok (.ifCond .ne 7, 3) := by decide +kernel
theorem dX6_isEven_87 : decode cX6_isEven 87 = .ok (.iconst 1, 1) := by decide +kernel
theorem dX6_isEven_88 : decode cX6_isEven 88 = .ok (.goto 4, 3) := by decide +kernel
theorem dX6_isEven_91 : decode cX6_isEven 91 = .ok (.iconst 0, 1) := by decide +kernel
theorem dX6_isEven_92 : decode cX6_isEven 92 = .ok (.ireturn, 1) := by decide +kernel
theorem dX7_init_0 : decode cX7_init 0 = .ok (.aload_n 0, 1) := by decide +kernel
theorem dX7_init_1 : decode cX7_init 1 = .ok (.invokespecial 3, 3) := by decide +kernel
theorem dX7_init_4 : decode cX7_init 4 = .ok (.aload_n 0, 1) := by decide +kernel
theorem dX7_init_5 : decode cX7_init 5 = .ok (.new 9, 3) := by decide +kernel
theorem dX7_init_8 : decode cX7_init 8 = .ok (.dup, 1) := by decide +kernel
theorem dX7_init_9 : decode cX7_init 9 = .ok (.invokespecial 11, 3) := by decide +kernel
theorem dX7_init_12 : decode cX7_init 12 = .ok (.putfield 12, 3) := by decide +kernel
theorem dX7_init_15 : decode cX7_init 15 = .ok (.aload_n 0, 1) := by decide +kernel
theorem dX7_init_16 : decode cX7_init 16 = .ok (.new 18, 3) := by decide +kernel
theorem dX7_init_19 : decode cX7_init 19 = .ok (.dup, 1) := by decide +kernel
theorem dX7_init_20 : decode cX7_init 20 = .ok (.invokespecial 20, 3) := by decide +kernel
theorem dX7_init_23 : decode cX7_init 23 = .ok (.putfield 21, 3) := by decide +kernel
theorem dX7_init_26 : decode cX7_init 26 = .ok (.aload_n 0, 1) := by decide +kernel
theorem dX7_init_27 : decode cX7_init 27 = .ok (.iconst 4, 1) := by decide +kernel
theorem dX7_init_28 : decode cX7_init 28 = .ok (.newarray .long, 2) := by decide +kernel
theorem dX7_init_30 : decode cX7_init 30 = .ok (.putfield 25, 3) := by decide +kernel
theorem dX7_init_33 : decode cX7_init 33 = .ok (.aload_n 0, 1) := by decide +kernel
theorem dX7_init_34 : decode cX7_init 34 = .ok (.bipush 20, 2) := by decide +kernel
theorem dX7_init_36 : decode cX7_init 36 = .ok (.anewarray 29, 3) := by decide +kernel
theorem dX7_init_39 : decode cX7_init 39 = .ok (.putfield 31, 3) := by decide +kernel
theorem dX7_init_42 : decode cX7_init 42 = .ok (.aload_n 0, 1) := by decide +kernel
theorem dX7_init_43 : decode cX7_init 43 = .ok (.new 35, 3) := by decide +kernel
theorem dX7_init_46 : decode cX7_init 46 = .ok (.dup, 1) := by decide +kernel
theorem dX7_init_47 : decode cX7_init 47 = .ok (.invokespecial 37, 3) := by decide +kernel
theorem dX7_init_50 : decode cX7_init 50 = .ok (.putfield 38, 3) := by decide +kernel
theorem dX7_init_53 : decode cX7_init 53 = .ok (.aload_n 0, 1) := by decide +kernel
theorem dX7_init_54 : decode cX7_init 54 = .ok (.new 42, 3) := by decide +kernel
theorem dX7_init_57 : decode cX7_init 57 = .ok (.dup, 1) := by decide +kernel
theorem dX7_init_58 : decode cX7_init 58 = .ok (.invokespecial 44, 3) := by decide +kernel
theorem dX7_init_61 : decode cX7_init 61 = .ok (.putfield 45, 3) := by decide +kernel
theorem dX7_init_64 : decode cX7_init 64 = .ok (.aload_n 0, 1) := by decide +kernel
theorem dX7_init_65 : decode cX7_init 65 = .ok (.new 49, 3) := by decide +kernel
theorem dX7_init_68 : decode cX7_init 68 = .ok (.dup, 1) := by decide +kernel
theorem dX7_init_69 : decode cX7_init 69 = .ok (.invokespecial 51, 3) := by decide +kernel
theorem dX7_init_72 : decode cX7_init 72 = .ok (.putfield 52, 3) := by decide +kernel
theorem dX7_init_75 : decode cX7_init 75 = .ok (.aload_n 0, 1) := by decide +kernel
theorem dX7_init_76 : decode cX7_init 76 = .ok (.new 49, 3) := by decide +kernel
theorem dX7_init_79 : decode cX7_init 79 = .ok (.dup, 1) := by decide +kernel
theorem dX7_init_80 : decode cX7_init 80 = .ok (.invokespecial 51, 3) := by decide +kernel
theorem dX7_init_83 : decode cX7_init 83 = .ok (.putfield 56, 3) := by decide +kernel
theorem dX7_init_86 : decode cX7_init 86 = .ok (.return_, 1) := by decide +kernel
theorem dX7_unit_0 : decode cX7_unit 0 = .ok (.aload_n 0, 1) := by decide +kernel
theorem dX7_unit_1 : decode cX7_unit 1 = .ok (.getfield 12, 3) := by decide +kernel
theorem dX7_unit_4 : decode cX7_unit 4 = .ok (.iload_n 1, 1) := by decide +kernel
theorem dX7_unit_5 : decode cX7_unit 5 = .ok (.invokevirtual 59, 3) := by decide +kernel
theorem dX7_unit_8 : decode cX7_unit 8 = .ok (.ireturn, 1) := by decide +kernel
theorem dX7_read_0 : decode cX7_read 0 = .ok (.aload_n 0, 1) := by decide +kernel
theorem dX7_read_1 : decode cX7_read 1 = .ok (.getfield 56, 3) := by decide +kernel
theorem dX7_read_4 : decode cX7_read 4 = .ok (.aload_n 0, 1) := by decide +kernel
theorem dX7_read_5 : decode cX7_read 5 = .ok (.getfield 12, 3) := by decide +kernel
theorem dX7_read_8 : decode cX7_read 8 = .ok (.invokevirtual 63, 3) := by decide +kernel
theorem dX7_read_11 : decode cX7_read 11 = .ok (.istore_n 1, 1) := by decide +kernel
theorem dX7_read_12 : decode cX7_read 12 = .ok (.aload_n 0, 1) := by decide +kernel
theorem dX7_read_13 : decode cX7_read 13 = .ok (.getfield 12, 3) := by decide +kernel
theorem dX7_read_16 : decode cX7_read 16 = .ok (.invokevirtual 67, 3) := by decide +kernel
theorem dX7_read_19 : decode cX7_read 19 = .ok (.iload_n 1, 1) := by decide +kernel
theorem dX7_read_20 : decode cX7_read 20 = .ok (.ifCond .lt 21, 3) := by decide +kernel
theorem dX7_read_23 : decode cX7_read 23 = .ok (.aload_n 0, 1) := by decide +kernel
theorem dX7_read_24 : decode cX7_read 24 = .ok (.getfield 52, 3) := by decide +kernel
theorem dX7_read_27 : decode cX7_read 27 = .ok (.astore_n 2, 1) := by decide +kernel
theorem dX7_read_28 : decode cX7_read 28 = .ok (.aload_n 0, 1) := by decide +kernel
theorem dX7_read_29 : decode cX7_read 29 = .ok (.aload_n 0, 1) := by decide +kernel
theorem dX7_read_30 : decode cX7_read 30 = .ok (.getfield 56, 3) := by decide +kernel
theorem dX7_read_33 : decode cX7_read 33 = .ok (.putfield 52, 3) := by decide +kernel
theorem dX7_read_36 : decode cX7_read 36 = .ok (.aload_n 0, 1) := by decide +kernel
theorem dX7_read_37 : decode cX7_read 37 = .ok (.aload_n 2, 1) := by decide +kernel
theorem dX7_read_38 : decode cX7_read 38 = .ok (.putfield 56, 3) := by decide +kernel
theorem dX7_read_41 : decode cX7_read 41 = .ok (.iload_n 1, 1) := by decide +kernel
theorem dX7_read_42 : decode cX7_read 42 = .ok (.ireturn, 1) := by decide +kernel
theorem dX7_person_0 : decode cX7_person 0 = .ok (.aload_n 0, 1) := by decide +kernel
theorem dX7_person_1 : decode cX7_person 1 = .ok (.getfield 21, 3) := by decide +kernel
theorem dX7_person_4 : decode cX7_person 4 = .ok (.iload_n 1, 1) := by decide +kernel
theorem dX7_person_5 : decode cX7_person 5 = .ok (.invokevirtual 70, 3) := by decide +kernel
theorem dX7_person_8 : decode cX7_person 8 = .ok (.ireturn, 1) := by decide +kernel
theorem dX7_advance_0 : decode cX7_advance 0 = .ok (.aload_n 0, 1) := by decide +kernel
theorem dX7_advance_1 : decode cX7_advance 1 = .ok (.getfield 21, 3) := by decide +kernel
theorem dX7_advance_4 : decode cX7_advance 4 = .ok (.iload_n 1, 1) := by decide +kernel
theorem dX7_advance_5 : decode cX7_advance 5 = .ok (.invokevirtual 74, 3) := by decide +kernel
theorem dX7_advance_8 : decode cX7_advance 8 = .ok (.ifCond .eq 10, 3) := by decide +kernel
theorem dX7_advance_11 : decode cX7_advance 11 = .ok (.lload_n 2, 1) := by decide +kernel
theorem dX7_advance_12 : decode cX7_advance 12 = .ok (.invokestatic 77, 3) := by decide +kernel
theorem dX7_advance_15 : decode cX7_advance 15 = .ok (.ifCond .ne 5, 3) := by decide +kernel
theorem dX7_advance_18 : decode cX7_advance 18 = .ok (.iconst 0, 1) := by decide +kernel
theorem dX7_advance_19 : decode cX7_advance 19 = .ok (.ireturn, 1) := by decide +kernel
theorem dX7_advance_20 : decode cX7_advance 20 = .ok (.aload_n 0, 1) := by decide +kernel
theorem dX7_advance_21 : decode cX7_advance 21 = .ok (.getfield 21, 3) := by decide +kernel
theorem dX7_advance_24 : decode cX7_advance 24 = .ok (.getfield 81, 3) := by decide +kernel
theorem dX7_advance_27 : decode cX7_advance 27 = .ok (.iload_n 1, 1) := by decide +kernel
theorem dX7_advance_28 : decode cX7_advance 28 = .ok (.dup2, 1) := by decide +kernel
theorem dX7_advance_29 : decode cX7_advance 29 = .ok (.laload, 1) := by decide +kernel
theorem dX7_advance_30 : decode cX7_advance 30 = .ok (.lload_n 2, 1) := by decide +kernel
theorem dX7_advance_31 : decode cX7_advance 31 = .ok (.ladd, 1) := by decide +kernel
theorem dX7_advance_32 : decode cX7_advance 32 = .ok (.lastore, 1) := by decide +kernel
theorem dX7_advance_33 : decode cX7_advance 33 = .ok (.iconst 1, 1) := by decide +kernel
theorem dX7_advance_34 : decode cX7_advance 34 = .ok (.ireturn, 1) := by decide +kernel
theorem dX7_trip_0 : decode cX7_trip 0 = .ok (.iload_n 1, 1) := by decide +kernel
theorem dX7_trip_1 : decode cX7_trip 1 = .ok (.ifCond .lt 31, 3) := by decide +kernel
theorem dX7_trip_4 : decode cX7_trip 4 = .ok (.iload_n 1, 1) := by decide +kernel
theorem dX7_trip_5 : decode cX7_trip 5 = .ok (.iconst 4, 1) := by decide +kernel
theorem dX7_trip_6 : decode cX7_trip 6 = .ok (.if_icmp .ge 26, 3) := by decide +kernel
theorem dX7_trip_9 : decode cX7_trip 9 = .ok (.lload_n 2, 1) := by decide +kernel
theorem dX7_trip_10 : decode cX7_trip 10 = .ok (.lconst 0, 1) := by decide +kernel
theorem dX7_trip_11 : decode cX7_trip 11 = .ok (.lcmp, 1) := by decide +kernel
theorem dX7_trip_12 : decode cX7_trip 12 = .ok (.ifCond .lt 20, 3) := by decide +kernel
theorem dX7_trip_15 : decode cX7_trip 15 = .ok (.lload_n 2, 1) := by decide +kernel
theorem dX7_trip_16 : decode cX7_trip 16 = .ok (.ldc2_w 84, 3) := by decide +kernel
theorem dX7_trip_19 : decode cX7_trip 19 = .ok (.lcmp, 1) := by decide +kernel
theorem dX7_trip_20 : decode cX7_trip 20 = .ok (.ifCond .gt 12, 3) := by decide +kernel
theorem dX7_trip_23 : decode cX7_trip 23 = .ok (.aload_n 0, 1) := by decide +kernel
theorem dX7_trip_24 : decode cX7_trip 24 = .ok (.getfield 86, 3) := by decide +kernel
theorem dX7_trip_27 : decode cX7_trip 27 = .ok (.bipush 20, 2) := by decide +kernel
theorem dX7_trip_29 : decode cX7_trip 29 = .ok (.if_icmp .lt 5, 3) := by decide +kernel
theorem dX7_trip_32 : decode cX7_trip 32 = .ok (.iconst (-1), 1) := by decide +kernel
theorem dX7_trip_33 : decode cX7_trip 33 = .ok (.ireturn, 1) := by decide +kernel
theorem dX7_trip_34 : decode cX7_trip 34 = .ok (.aload_n 0, 1) := by decide +kernel
theorem dX7_trip_35 : decode cX7_trip 35 = .ok (.getfield 31, 3) := by decide +kernel
theorem dX7_trip_38 : decode cX7_trip 38 = .ok (.aload_n 0, 1) := by decide +kernel
theorem dX7_trip_39 : decode cX7_trip 39 = .ok (.getfield 86, 3) := by decide +kernel
theorem dX7_trip_42 : decode cX7_trip 42 = .ok (.new 29, 3) := by decide +kernel
theorem dX7_trip_45 : decode cX7_trip 45 = .ok (.dup, 1) := by decide +kernel
theorem dX7_trip_46 : decode cX7_trip 46 = .ok (.iload_n 1, 1) := by decide +kernel
theorem dX7_trip_47 : decode cX7_trip 47 = .ok (.lload_n 2, 1) := by decide +kernel
theorem dX7_trip_48 : decode cX7_trip 48 = .ok (.invokespecial 90, 3) := by decide +kernel
theorem dX7_trip_51 : decode cX7_trip 51 = .ok (.aastore, 1) := by decide +kernel
theorem dX7_trip_52 : decode cX7_trip 52 = .ok (.aload_n 0, 1) := by decide +kernel
theorem dX7_trip_53 : decode cX7_trip 53 = .ok (.dup, 1) := by decide +kernel
theorem dX7_trip_54 : decode cX7_trip 54 = .ok (.getfield 86, 3) := by decide +kernel
theorem dX7_trip_57 : decode cX7_trip 57 = .ok (.iconst 1, 1) := by decide +kernel
theorem dX7_trip_58 : decode cX7_trip 58 = .ok (.iadd, 1) := by decide +kernel
theorem dX7_trip_59 : decode cX7_trip 59 = .ok (.putfield 86, 3) := by decide +kernel
theorem dX7_trip_62 : decode cX7_trip 62 = .ok (.aload_n 0, 1) := by decide +kernel
theorem dX7_trip_63 : decode cX7_trip 63 = .ok (.getfield 86, 3) := by decide +kernel
theorem dX7_trip_66 : decode cX7_trip 66 = .ok (.iconst 1, 1) := by decide +kernel
theorem dX7_trip_67 : decode cX7_trip 67 = .ok (.isub, 1) := by decide +kernel
theorem dX7_trip_68 : decode cX7_trip 68 = .ok (.ireturn, 1) := by decide +kernel
theorem dX7_cost_0 : decode cX7_cost 0 = .ok (.aload_n 0, 1) := by decide +kernel
theorem dX7_cost_1 : decode cX7_cost 1 = .ok (.iload_n 1, 1) := by decide +kernel
theorem dX7_cost_2 : decode cX7_cost 2 = .ok (.invokevirtual 93, 3) := by decide +kernel
theorem dX7_cost_5 : decode cX7_cost 5 = .ok (.astore 5, 2) := by decide +kernel
theorem dX7_cost_7 : decode cX7_cost 7 = .ok (.aload 5, 2) := by decide +kernel
theorem dX7_cost_9 : decode cX7_cost 9 = .ok (.ifnull 20, 3) := by decide +kernel
theorem dX7_cost_12 : decode cX7_cost 12 = .ok (.iload_n 2, 1) := by decide +kernel
theorem dX7_cost_13 : decode cX7_cost 13 = .ok (.ifCond .lt 16, 3) := by decide +kernel
theorem dX7_cost_16 : decode cX7_cost 16 = .ok (.iload_n 2, 1) := by decide +kernel
theorem dX7_cost_17 : decode cX7_cost 17 = .ok (.bipush 10, 2) := by decide +kernel
theorem dX7_cost_19 : decode cX7_cost 19 = .ok (.if_icmp .ge 10, 3) := by decide +kernel
theorem dX7_cost_22 : decode cX7_cost 22 = .ok (.lload_n 3, 1) := by decide +kernel
theorem dX7_cost_23 : decode cX7_cost 23 = .ok (.invokestatic 77, 3) := by decide +kernel
theorem dX7_cost_26 : decode cX7_cost 26 = .ok (.ifCond .ne 5, 3) := by decide +kernel
theorem dX7_cost_29 : decode cX7_cost 29 = .ok (.iconst 0, 1) := by decide +kernel
theorem dX7_cost_30 : decode cX7_cost 30 = .ok (.ireturn, 1) := by decide +kernel
theorem dX7_cost_31 : decode cX7_cost 31 = .ok (.aload 5, 2) := by decide +kernel
theorem dX7_cost_33 : decode cX7_cost 33 = .ok (.getfield 97, 3) := by decide +kernel
theorem dX7_cost_36 : decode cX7_cost 36 = .ok (.iload_n 2, 1) := by decide +kernel
theorem dX7_cost_37 : decode cX7_cost 37 = .ok (.dup2, 1) := by decide +kernel
theorem dX7_cost_38 : decode cX7_cost 38 = .ok (.laload, 1) := by decide +kernel
theorem dX7_cost_39 : decode cX7_cost 39 = .ok (.lload_n 3, 1) := by decide +kernel
theorem dX7_cost_40 : decode cX7_cost 40 = .ok (.ladd, 1) := by decide +kernel
theorem dX7_cost_41 : decode cX7_cost 41 = .ok (.lastore, 1) := by decide +kernel
theorem dX7_cost_42 : decode cX7_cost 42 = .ok (.iconst 1, 1) := by decide +kernel
theorem dX7_cost_43 : decode cX7_cost 43 = .ok (.ireturn, 1) := by decide +kernel
theorem dX7_days_0 : decode cX7_days 0 = .ok (.aload_n 0, 1) := by decide +kernel
theorem dX7_days_1 : decode cX7_days 1 = .ok (.iload_n 1, 1) := by decide +kernel
theorem dX7_days_2 : decode cX7_days 2 = .ok (.invokevirtual 93, 3) := by decide +kernel
theorem dX7_days_5 : decode cX7_days 5 = .ok (.astore 4, 2) := by decide +kernel
theorem dX7_days_7 : decode cX7_days 7 = .ok (.aload 4, 2) := by decide +kernel
theorem dX7_days_9 : decode cX7_days 9 = .ok (.ifnull 25, 3) := by decide +kernel
theorem dX7_days_12 : decode cX7_days 12 = .ok (.aload_n 0, 1) := by decide +kernel
theorem dX7_days_13 : decode cX7_days 13 = .ok (.getfield 21, 3) := by decide +kernel
theorem dX7_days_16 : decode cX7_days 16 = .ok (.iload_n 2, 1) := by decide +kernel
theorem dX7_days_17 : decode cX7_days 17 = .ok (.invokevirtual 74, 3) := by decide +kernel
theorem dX7_days_20 : decode cX7_days 20 = .ok (.ifCond .eq 14, 3) := by decide +kernel
theorem dX7_days_23 : decode cX7_days 23 = .ok (.iload_n 3, 1) := by decide +kernel
theorem dX7_days_24 : decode cX7_days 24 = .ok (.ifCond .lt 10, 3) := by decide +kernel
theorem dX7_days_27 : decode cX7_days 27 = .ok (.iload_n 3, 1) := by decide +kernel
theorem dX7_days_28 : decode cX7_days 28 = .ok (.sipush 400, 3) := by decide +kernel
theorem dX7_days_31 : decode cX7_days 31 = .ok (.if_icmp .le 5, 3) := by decide +kernel
theorem dX7_days_34 : decode cX7_days 34 = .ok (.iconst (-1), 1) := by decide +kernel
theorem dX7_days_35 : decode cX7_days 35 = .ok (.ireturn, 1) := by decide +kernel
theorem dX7_days_36 : decode cX7_days 36 = .ok (.aload 4, 2) := by decide +kernel
theorem dX7_days_38 : decode cX7_days 38 = .ok (.getfield 100, 3) := by decide +kernel
theorem dX7_days_41 : decode cX7_days 41 = .ok (.iload_n 2, 1) := by decide +kernel
theorem dX7_days_42 : decode cX7_days 42 = .ok (.iaload, 1) := by decide +kernel
theorem dX7_days_43 : decode cX7_days 43 = .ok (.istore 5, 2) := by decide +kernel
theorem dX7_days_45 : decode cX7_days 45 = .ok (.aload 4, 2) := by decide +kernel
theorem dX7_days_47 : decode cX7_days 47 = .ok (.getfield 100, 3) := by decide +kernel
theorem dX7_days_50 : decode cX7_days 50 = .ok (.iload_n 2, 1) := by decide +kernel
theorem dX7_days_51 : decode cX7_days 51 = .ok (.iload_n 3, 1) := by decide +kernel
theorem dX7_days_52 : decode cX7_days 52 = .ok (.iastore, 1) := by decide +kernel
theorem dX7_days_53 : decode cX7_days 53 = .ok (.iload 5, 2) := by decide +kernel
theorem dX7_days_55 : decode cX7_days 55 = .ok (.ireturn, 1) := by decide +kernel
theorem dX7_settle_0 : decode cX7_settle 0 = .ok (.aload_n 0, 1) := by decide +kernel
theorem dX7_settle_1 : decode cX7_settle 1 = .ok (.iload_n 1, 1) := by decide +kernel
theorem dX7_settle_2 : decode cX7_settle 2 = .ok (.invokevirtual 93, 3) := by decide +kernel
theorem dX7_settle_5 : decode cX7_settle 5 = .ok (.astore_n 2, 1) := by decide +kernel
theorem dX7_settle_6 : decode cX7_settle 6 = .ok (.aload_n 2, 1) := by decide +kernel
theorem dX7_settle_7 : decode cX7_settle 7 = .ok (.ifnonnull 5, 3) := by decide +kernel
theorem dX7_settle_10 : decode cX7_settle 10 = .ok (.iconst (-1), 1) := by decide +kernel
theorem dX7_settle_11 : decode cX7_settle 11 = .ok (.ireturn, 1) := by decide +kernel
theorem dX7_settle_12 : decode cX7_settle 12 = .ok (.aload_n 2, 1) := by decide +kernel
theorem dX7_settle_13 : decode cX7_settle 13 = .ok (.aload_n 0, 1) := by decide +kernel
theorem dX7_settle_14 : decode cX7_settle 14 = .ok (.getfield 52, 3) := by decide +kernel
theorem dX7_settle_17 : decode cX7_settle 17 = .ok (.aload_n 0, 1) := by decide +kernel
theorem dX7_settle_18 : decode cX7_settle 18 = .ok (.getfield 21, 3) := by decide +kernel
theorem dX7_settle_21 : decode cX7_settle 21 = .ok (.aload_n 0, 1) := by decide +kernel
theorem dX7_settle_22 : decode cX7_settle 22 = .ok (.getfield 25, 3) := by decide +kernel
theorem dX7_settle_25 : decode cX7_settle 25 = .ok (.aload_n 0, 1) := by decide +kernel
theorem dX7_settle_26 : decode cX7_settle 26 = .ok (.getfield 38, 3) := by decide +kernel
theorem dX7_settle_29 : decode cX7_settle 29 = .ok (.invokevirtual 104, 3) := by decide +kernel
theorem dX7_settle_32 : decode cX7_settle 32 = .ok (.aload_n 2, 1) := by decide +kernel
theorem dX7_settle_33 : decode cX7_settle 33 = .ok (.invokevirtual 108, 3) := by decide +kernel
theorem dX7_settle_36 : decode cX7_settle 36 = .ok (.ireturn, 1) := by decide +kernel
theorem dX7_part_0 : decode cX7_part 0 = .ok (.aload_n 0, 1) := by decide +kernel
theorem dX7_part_1 : decode cX7_part 1 = .ok (.iload_n 1, 1) := by decide +kernel
theorem dX7_part_2 : decode cX7_part 2 = .ok (.invokevirtual 112, 3) := by decide +kernel
theorem dX7_part_5 : decode cX7_part 5 = .ok (.astore_n 3, 1) := by decide +kernel
theorem dX7_part_6 : decode cX7_part 6 = .ok (.aload_n 3, 1) := by decide +kernel
theorem dX7_part_7 : decode cX7_part 7 = .ok (.ifnull 13, 3) := by decide +kernel
theorem dX7_part_10 : decode cX7_part 10 = .ok (.iload_n 2, 1) := by decide +kernel
theorem dX7_part_11 : decode cX7_part 11 = .ok (.ifCond .lt 9, 3) := by decide +kernel
theorem dX7_part_14 : decode cX7_part 14 = .ok (.iload_n 2, 1) := by decide +kernel
theorem dX7_part_15 : decode cX7_part 15 = .ok (.bipush 6, 2) := by decide +kernel
theorem dX7_part_17 : decode cX7_part 17 = .ok (.if_icmp .lt 7, 3) := by decide +kernel
theorem dX7_part_20 : decode cX7_part 20 = .ok (.ldc2_w 115, 3) := by decide +kernel
theorem dX7_part_23 : decode cX7_part 23 = .ok (.lreturn, 1) := by decide +kernel
theorem dX7_part_24 : decode cX7_part 24 = .ok (.aload_n 3, 1) := by decide +kernel
theorem dX7_part_25 : decode cX7_part 25 = .ok (.getfield 117, 3) := by decide +kernel
theorem dX7_part_28 : decode cX7_part 28 = .ok (.iload_n 2, 1) := by decide +kernel
theorem dX7_part_29 : decode cX7_part 29 = .ok (.laload, 1) := by decide +kernel
theorem dX7_part_30 : decode cX7_part 30 = .ok (.lreturn, 1) := by decide +kernel
theorem dX7_share_0 : decode cX7_share 0 = .ok (.aload_n 0, 1) := by decide +kernel
theorem dX7_share_1 : decode cX7_share 1 = .ok (.iload_n 1, 1) := by decide +kernel
theorem dX7_share_2 : decode cX7_share 2 = .ok (.invokevirtual 112, 3) := by decide +kernel
theorem dX7_share_5 : decode cX7_share 5 = .ok (.astore 4, 2) := by decide +kernel
theorem dX7_share_7 : decode cX7_share 7 = .ok (.aload 4, 2) := by decide +kernel
theorem dX7_share_9 : decode cX7_share 9 = .ok (.ifnull 23, 3) := by decide +kernel
theorem dX7_share_12 : decode cX7_share 12 = .ok (.aload_n 0, 1) := by decide +kernel
theorem dX7_share_13 : decode cX7_share 13 = .ok (.getfield 21, 3) := by decide +kernel
theorem dX7_share_16 : decode cX7_share 16 = .ok (.iload_n 2, 1) := by decide +kernel
theorem dX7_share_17 : decode cX7_share 17 = .ok (.invokevirtual 74, 3) := by decide +kernel
theorem dX7_share_20 : decode cX7_share 20 = .ok (.ifCond .eq 12, 3) := by decide +kernel
theorem dX7_share_23 : decode cX7_share 23 = .ok (.iload_n 3, 1) := by decide +kernel
theorem dX7_share_24 : decode cX7_share 24 = .ok (.ifCond .lt 8, 3) := by decide +kernel
theorem dX7_share_27 : decode cX7_share 27 = .ok (.iload_n 3, 1) := by decide +kernel
theorem dX7_share_28 : decode cX7_share 28 = .ok (.iconst 4, 1) := by decide +kernel
theorem dX7_share_29 : decode cX7_share 29 = .ok (.if_icmp .lt 7, 3) := by decide +kernel
theorem dX7_share_32 : decode cX7_share 32 = .ok (.ldc2_w 115, 3) := by decide +kernel
theorem dX7_share_35 : decode cX7_share 35 = .ok (.lreturn, 1) := by decide +kernel
theorem dX7_share_36 : decode cX7_share 36 = .ok (.aload 4, 2) := by decide +kernel
theorem dX7_share_38 : decode cX7_share 38 = .ok (.getfield 120, 3) := by decide +kernel
theorem dX7_share_41 : decode cX7_share 41 = .ok (.iload_n 3, 1) := by decide +kernel
theorem dX7_share_42 : decode cX7_share 42 = .ok (.aaload, 1) := by decide +kernel
theorem dX7_share_43 : decode cX7_share 43 = .ok (.iload_n 2, 1) := by decide +kernel
theorem dX7_share_44 : decode cX7_share 44 = .ok (.laload, 1) := by decide +kernel
theorem dX7_share_45 : decode cX7_share 45 = .ok (.lreturn, 1) := by decide +kernel
theorem dX7_carried_0 : decode cX7_carried 0 = .ok (.iload_n 1, 1) := by decide +kernel
theorem dX7_carried_1 : decode cX7_carried 1 = .ok (.ifCond .lt 15, 3) := by decide +kernel
theorem dX7_carried_4 : decode cX7_carried 4 = .ok (.iload_n 1, 1) := by decide +kernel
theorem dX7_carried_5 : decode cX7_carried 5 = .ok (.iconst 4, 1) := by decide +kernel
theorem dX7_carried_6 : decode cX7_carried 6 = .ok (.if_icmp .ge 10, 3) := by decide +kernel
theorem dX7_carried_9 : decode cX7_carried 9 = .ok (.aload_n 0, 1) := by decide +kernel
theorem dX7_carried_10 : decode cX7_carried 10 = .ok (.getfield 25, 3) := by decide +kernel
theorem dX7_carried_13 : decode cX7_carried 13 = .ok (.iload_n 1, 1) := by decide +kernel
theorem dX7_carried_14 : decode cX7_carried 14 = .ok (.laload, 1) := by decide +kernel
theorem dX7_carried_15 : decode cX7_carried 15 = .ok (.lreturn, 1) := by decide +kernel
theorem dX7_carried_16 : decode cX7_carried 16 = .ok (.iload_n 1, 1) := by decide +kernel
theorem dX7_carried_17 : decode cX7_carried 17 = .ok (.bipush 100, 2) := by decide +kernel
theorem dX7_carried_19 : decode cX7_carried 19 = .ok (.if_icmp .lt 30, 3) := by decide +kernel
theorem dX7_carried_22 : decode cX7_carried 22 = .ok (.aload_n 0, 1) := by decide +kernel
theorem dX7_carried_23 : decode cX7_carried 23 = .ok (.getfield 21, 3) := by decide +kernel
theorem dX7_carried_26 : decode cX7_carried 26 = .ok (.iload_n 1, 1) := by decide +kernel
theorem dX7_carried_27 : decode cX7_carried 27 = .ok (.bipush 100, 2) := by decide +kernel
theorem dX7_carried_29 : decode cX7_carried 29 = .ok (.isub, 1) := by decide +kernel
theorem dX7_carried_30 : decode cX7_carried 30 = .ok (.invokevirtual 74, 3) := by decide +kernel
theorem dX7_carried_33 : decode cX7_carried 33 = .ok (.ifCond .eq 16, 3) := by decide +kernel
theorem dX7_carried_36 : decode cX7_carried 36 = .ok (.aload_n 0, 1) := by decide +kernel
theorem dX7_carried_37 : decode cX7_carried 37 = .ok (.getfield 21, 3) := by decide +kernel
theorem dX7_carried_40 : decode cX7_carried 40 = .ok (.getfield 81, 3) := by decide +kernel
theorem dX7_carried_43 : decode cX7_carried 43 = .ok (.iload_n 1, 1) := by decide +kernel
theorem dX7_carried_44 : decode cX7_carried 44 = .ok (.bipush 100, 2) := by decide +kernel
theorem dX7_carried_46 : decode cX7_carried 46 = .ok (.isub, 1) := by decide +kernel
theorem dX7_carried_47 : decode cX7_carried 47 = .ok (.laload, 1) := by decide +kernel
theorem dX7_carried_48 : decode cX7_carried 48 = .ok (.lreturn, 1) := by decide +kernel
theorem dX7_carried_49 : decode cX7_carried 49 = .ok (.ldc2_w 124, 3) := by decide +kernel
theorem dX7_carried_52 : decode cX7_carried 52 = .ok (.lreturn, 1) := by decide +kernel
theorem dX7_sums_0 : decode cX7_sums 0 = .ok (.aload_n 0, 1) := by decide +kernel
theorem dX7_sums_1 : decode cX7_sums 1 = .ok (.iload_n 1, 1) := by decide +kernel
theorem dX7_sums_2 : decode cX7_sums 2 = .ok (.invokevirtual 112, 3) := by decide +kernel
theorem dX7_sums_5 : decode cX7_sums 5 = .ok (.astore_n 2, 1) := by decide +kernel
theorem dX7_sums_6 : decode cX7_sums 6 = .ok (.aload_n 2, 1) := by decide +kernel
theorem dX7_sums_7 : decode cX7_sums 7 = .ok (.ifnull 14, 3) := by decide +kernel
theorem dX7_sums_10 : decode cX7_sums 10 = .ok (.aload_n 2, 1) := by decide +kernel
theorem dX7_sums_11 : decode cX7_sums 11 = .ok (.invokevirtual 126, 3) := by decide +kernel
theorem dX7_sums_14 : decode cX7_sums 14 = .ok (.ifCond .eq 7, 3) := by decide +kernel
theorem dX7_sums_17 : decode cX7_sums 17 = .ok (.iconst 1, 1) := by decide +kernel
theorem dX7_sums_18 : decode cX7_sums 18 = .ok (.goto 4, 3) := by decide +kernel
theorem dX7_sums_21 : decode cX7_sums 21 = .ok (.iconst 0, 1) := by decide +kernel
theorem dX7_sums_22 : decode cX7_sums 22 = .ok (.ireturn, 1) := by decide +kernel
theorem dX7_open_0 : decode cX7_open 0 = .ok (.aload_n 0, 1) := by decide +kernel
theorem dX7_open_1 : decode cX7_open 1 = .ok (.getfield 45, 3) := by decide +kernel
theorem dX7_open_4 : decode cX7_open 4 = .ok (.iload_n 1, 1) := by decide +kernel
theorem dX7_open_5 : decode cX7_open 5 = .ok (.invokevirtual 130, 3) := by decide +kernel
theorem dX7_open_8 : decode cX7_open 8 = .ok (.ireturn, 1) := by decide +kernel
theorem dX7_row_0 : decode cX7_row 0 = .ok (.aload_n 0, 1) := by decide +kernel
theorem dX7_row_1 : decode cX7_row 1 = .ok (.getfield 45, 3) := by decide +kernel
theorem dX7_row_4 : decode cX7_row 4 = .ok (.iload_n 1, 1) := by decide +kernel
theorem dX7_row_5 : decode cX7_row 5 = .ok (.lload_n 2, 1) := by decide +kernel
theorem dX7_row_6 : decode cX7_row 6 = .ok (.invokevirtual 133, 3) := by decide +kernel
theorem dX7_row_9 : decode cX7_row 9 = .ok (.ireturn, 1) := by decide +kernel
theorem dX7_enter_0 : decode cX7_enter 0 = .ok (.aload_n 0, 1) := by decide +kernel
theorem dX7_enter_1 : decode cX7_enter 1 = .ok (.getfield 45, 3) := by decide +kernel
theorem dX7_enter_4 : decode cX7_enter 4 = .ok (.invokevirtual 137, 3) := by decide +kernel
theorem dX7_enter_7 : decode cX7_enter 7 = .ok (.ireturn, 1) := by decide +kernel
theorem dX7_drop_0 : decode cX7_drop 0 = .ok (.aload_n 0, 1) := by decide +kernel
theorem dX7_drop_1 : decode cX7_drop 1 = .ok (.getfield 45, 3) := by decide +kernel
theorem dX7_drop_4 : decode cX7_drop 4 = .ok (.invokevirtual 140, 3) := by decide +kernel
theorem dX7_drop_7 : decode cX7_drop 7 = .ok (.ireturn, 1) := by decide +kernel
theorem dX7_closeMonth_0 : decode cX7_closeMonth 0 = .ok (.aload_n 0, 1) := by decide +kernel
theorem dX7_closeMonth_1 : decode cX7_closeMonth 1 = .ok (.getfield 45, 3) := by decide +kernel
theorem dX7_closeMonth_4 : decode cX7_closeMonth 4 = .ok (.iload_n 1, 1) := by decide +kernel
theorem dX7_closeMonth_5 : decode cX7_closeMonth 5 = .ok (.invokevirtual 143, 3) := by decide +kernel
theorem dX7_closeMonth_8 : decode cX7_closeMonth 8 = .ok (.ireturn, 1) := by decide +kernel
theorem dX7_correct_0 : decode cX7_correct 0 = .ok (.aload_n 0, 1) := by decide +kernel
theorem dX7_correct_1 : decode cX7_correct 1 = .ok (.getfield 45, 3) := by decide +kernel
theorem dX7_correct_4 : decode cX7_correct 4 = .ok (.iload_n 1, 1) := by decide +kernel
theorem dX7_correct_5 : decode cX7_correct 5 = .ok (.iload_n 2, 1) := by decide +kernel
theorem dX7_correct_6 : decode cX7_correct 6 = .ok (.invokevirtual 146, 3) := by decide +kernel
theorem dX7_correct_9 : decode cX7_correct 9 = .ok (.ireturn, 1) := by decide +kernel
theorem dX7_balance_0 : decode cX7_balance 0 = .ok (.aload_n 0, 1) := by decide +kernel
theorem dX7_balance_1 : decode cX7_balance 1 = .ok (.getfield 45, 3) := by decide +kernel
theorem dX7_balance_4 : decode cX7_balance 4 = .ok (.iload_n 1, 1) := by decide +kernel
theorem dX7_balance_5 : decode cX7_balance 5 = .ok (.iload_n 2, 1) := by decide +kernel
theorem dX7_balance_6 : decode cX7_balance 6 = .ok (.invokevirtual 150, 3) := by decide +kernel
theorem dX7_balance_9 : decode cX7_balance 9 = .ok (.lreturn, 1) := by decide +kernel
theorem dX7_entry_0 : decode cX7_entry 0 = .ok (.aload_n 0, 1) := by decide +kernel
theorem dX7_entry_1 : decode cX7_entry 1 = .ok (.getfield 45, 3) := by decide +kernel
theorem dX7_entry_4 : decode cX7_entry 4 = .ok (.iload_n 1, 1) := by decide +kernel
theorem dX7_entry_5 : decode cX7_entry 5 = .ok (.iload_n 2, 1) := by decide +kernel
theorem dX7_entry_6 : decode cX7_entry 6 = .ok (.iload_n 3, 1) := by decide +kernel
theorem dX7_entry_7 : decode cX7_entry 7 = .ok (.invokevirtual 154, 3) := by decide +kernel
theorem dX7_entry_10 : decode cX7_entry 10 = .ok (.lreturn, 1) := by decide +kernel
theorem dX7_areCents_0 : decode cX7_areCents 0 = .ok (.lload_n 0, 1) := by decide +kernel
theorem dX7_areCents_1 : decode cX7_areCents 1 = .ok (.lconst 1, 1) := by decide +kernel
theorem dX7_areCents_2 : decode cX7_areCents 2 = .ok (.lcmp, 1) := by decide +kernel
theorem dX7_areCents_3 : decode cX7_areCents 3 = .ok (.ifCond .lt 15, 3) := by decide +kernel
theorem dX7_areCents_6 : decode cX7_areCents 6 = .ok (.lload_n 0, 1) := by decide +kernel
theorem dX7_areCents_7 : decode cX7_areCents 7 = .ok (.ldc2_w 158, 3) := by decide +kernel
theorem dX7_areCents_10 : decode cX7_areCents 10 = .ok (.lcmp, 1) := by decide +kernel
theorem dX7_areCents_11 : decode cX7_areCents 11 = .ok (.ifCond .gt 7, 3) := by decide +kernel
theorem dX7_areCents_14 : decode cX7_areCents 14 = .ok (.iconst 1, 1) := by decide +kernel
theorem dX7_areCents_15 : decode cX7_areCents 15 = .ok (.goto 4, 3) := by decide +kernel
theorem dX7_areCents_18 : decode cX7_areCents 18 = .ok (.iconst 0, 1) := by decide +kernel
theorem dX7_areCents_19 : decode cX7_areCents 19 = .ok (.ireturn, 1) := by decide +kernel
theorem dX7_tripAt_0 : decode cX7_tripAt 0 = .ok (.iload_n 1, 1) := by decide +kernel
theorem dX7_tripAt_1 : decode cX7_tripAt 1 = .ok (.ifCond .lt 20, 3) := by decide +kernel
theorem dX7_tripAt_4 : decode cX7_tripAt 4 = .ok (.iload_n 1, 1) := by decide +kernel
theorem dX7_tripAt_5 : decode cX7_tripAt 5 = .ok (.aload_n 0, 1) := by decide +kernel
theorem dX7_tripAt_6 : decode cX7_tripAt 6 = .ok (.getfield 86, 3) := by decide +kernel
theorem dX7_tripAt_9 : decode cX7_tripAt 9 = .ok (.if_icmp .ge 12, 3) := by decide +kernel
theorem dX7_tripAt_12 : decode cX7_tripAt 12 = .ok (.aload_n 0, 1) := by decide +kernel
theorem dX7_tripAt_13 : decode cX7_tripAt 13 = .ok (.getfield 31, 3) := by decide +kernel
theorem dX7_tripAt_16 : decode cX7_tripAt 16 = .ok (.iload_n 1, 1) := by decide +kernel
theorem dX7_tripAt_17 : decode cX7_tripAt 17 = .ok (.aaload, 1) := by decide +kernel
theorem dX7_tripAt_18 : decode cX7_tripAt 18 = .ok (.goto 4, 3) := by decide +kernel
theorem dX7_tripAt_21 : decode cX7_tripAt 21 = .ok (.aconst_null, 1) := by decide +kernel
theorem dX7_tripAt_22 : decode cX7_tripAt 22 = .ok (.areturn, 1) := by decide +kernel
theorem dX7_tripToSettle_0 : decode cX7_tripToSettle 0 = .ok (.aload_n 0, 1) := by decide +kernel
theorem dX7_tripToSettle_1 : decode cX7_tripToSettle 1 = .ok (.iload_n 1, 1) := by decide +kernel
theorem dX7_tripToSettle_2 : decode cX7_tripToSettle 2 = .ok (.invokevirtual 160, 3) := by decide +kernel
theorem dX7_tripToSettle_5 : decode cX7_tripToSettle 5 = .ok (.astore_n 2, 1) := by decide +kernel
theorem dX7_tripToSettle_6 : decode cX7_tripToSettle 6 = .ok (.aload_n 2, 1) := by decide +kernel
theorem dX7_tripToSettle_7 : decode cX7_tripToSettle 7 = .ok (.ifnull 14, 3) := by decide +kernel
theorem dX7_tripToSettle_10 : decode cX7_tripToSettle 10 = .ok (.aload_n 2, 1) := by decide +kernel
theorem dX7_tripToSettle_11 : decode cX7_tripToSettle 11 = .ok (.getfield 163, 3) := by decide +kernel
theorem dX7_tripToSettle_14 : decode cX7_tripToSettle 14 = .ok (.ifCond .ne 7, 3) := by decide +kernel
theorem dX7_tripToSettle_17 : decode cX7_tripToSettle 17 = .ok (.aload_n 2, 1) := by decide +kernel
theorem dX7_tripToSettle_18 : decode cX7_tripToSettle 18 = .ok (.goto 4, 3) := by decide +kernel
theorem dX7_tripToSettle_21 : decode cX7_tripToSettle 21 = .ok (.aconst_null, 1) := by decide +kernel
theorem dX7_tripToSettle_22 : decode cX7_tripToSettle 22 = .ok (.areturn, 1) := by decide +kernel
theorem dX7_settledTrip_0 : decode cX7_settledTrip 0 = .ok (.aload_n 0, 1) := by decide +kernel
theorem dX7_settledTrip_1 : decode cX7_settledTrip 1 = .ok (.iload_n 1, 1) := by decide +kernel
theorem dX7_settledTrip_2 : decode cX7_settledTrip 2 = .ok (.invokevirtual 160, 3) := by decide +kernel
theorem dX7_settledTrip_5 : decode cX7_settledTrip 5 = .ok (.astore_n 2, 1) := by decide +kernel
theorem dX7_settledTrip_6 : decode cX7_settledTrip 6 = .ok (.aload_n 2, 1) := by decide +kernel
theorem dX7_settledTrip_7 : decode cX7_settledTrip 7 = .ok (.ifnull 14, 3) := by decide +kernel
theorem dX7_settledTrip_10 : decode cX7_settledTrip 10 = .ok (.aload_n 2, 1) := by decide +kernel
theorem dX7_settledTrip_11 : decode cX7_settledTrip 11 = .ok (.getfield 163, 3) := by decide +kernel
theorem dX7_settledTrip_14 : decode cX7_settledTrip 14 = .ok (.ifCond .eq 7, 3) := by decide +kernel
theorem dX7_settledTrip_17 : decode cX7_settledTrip 17 = .ok (.aload_n 2, 1) := by decide +kernel
theorem dX7_settledTrip_18 : decode cX7_settledTrip 18 = .ok (.goto 4, 3) := by decide +kernel
theorem dX7_settledTrip_21 : decode cX7_settledTrip 21 = .ok (.aconst_null, 1) := by decide +kernel
theorem dX7_settledTrip_22 : decode cX7_settledTrip 22 = .ok (.areturn, 1) := by decide +kernel
theorem dX8_init_0 : decode cX8_init 0 = .ok (.aload_n 0, 1) := by decide +kernel
theorem dX8_init_1 : decode cX8_init 1 = .ok (.invokespecial 1, 3) := by decide +kernel
theorem dX8_init_4 : decode cX8_init 4 = .ok (.aload_n 0, 1) := by decide +kernel
theorem dX8_init_5 : decode cX8_init 5 = .ok (.sipush 600, 3) := by decide +kernel
theorem dX8_init_8 : decode cX8_init 8 = .ok (.newarray .int, 2) := by decide +kernel
theorem dX8_init_10 : decode cX8_init 10 = .ok (.putfield 7, 3) := by decide +kernel
theorem dX8_init_13 : decode cX8_init 13 = .ok (.aload_n 0, 1) := by decide +kernel
theorem dX8_init_14 : decode cX8_init 14 = .ok (.bipush 34, 2) := by decide +kernel
theorem dX8_init_16 : decode cX8_init 16 = .ok (.newarray .int, 2) := by decide +kernel
theorem dX8_init_18 : decode cX8_init 18 = .ok (.putfield 13, 3) := by decide +kernel
theorem dX8_init_21 : decode cX8_init 21 = .ok (.aload_n 0, 1) := by decide +kernel
theorem dX8_init_22 : decode cX8_init 22 = .ok (.bipush 34, 2) := by decide +kernel
theorem dX8_init_24 : decode cX8_init 24 = .ok (.newarray .int, 2) := by decide +kernel
theorem dX8_init_26 : decode cX8_init 26 = .ok (.putfield 16, 3) := by decide +kernel
theorem dX8_init_29 : decode cX8_init 29 = .ok (.aload_n 0, 1) := by decide +kernel
theorem dX8_init_30 : decode cX8_init 30 = .ok (.iconst 4, 1) := by decide +kernel
theorem dX8_init_31 : decode cX8_init 31 = .ok (.newarray .long, 2) := by decide +kernel
theorem dX8_init_33 : decode cX8_init 33 = .ok (.putfield 19, 3) := by decide +kernel
theorem dX8_init_36 : decode cX8_init 36 = .ok (.aload_n 0, 1) := by decide +kernel
theorem dX8_init_37 : decode cX8_init 37 = .ok (.bipush 12, 2) := by decide +kernel
theorem dX8_init_39 : decode cX8_init 39 = .ok (.newarray .int, 2) := by decide +kernel
theorem dX8_init_41 : decode cX8_init 41 = .ok (.putfield 23, 3) := by decide +kernel
theorem dX8_init_44 : decode cX8_init 44 = .ok (.aload_n 0, 1) := by decide +kernel
theorem dX8_init_45 : decode cX8_init 45 = .ok (.bipush 12, 2) := by decide +kernel
theorem dX8_init_47 : decode cX8_init 47 = .ok (.newarray .long, 2) := by decide +kernel
theorem dX8_init_49 : decode cX8_init 49 = .ok (.putfield 26, 3) := by decide +kernel
theorem dX8_init_52 : decode cX8_init 52 = .ok (.aload_n 0, 1) := by decide +kernel
theorem dX8_init_53 : decode cX8_init 53 = .ok (.bipush 20, 2) := by decide +kernel
theorem dX8_init_55 : decode cX8_init 55 = .ok (.newarray .int, 2) := by decide +kernel
theorem dX8_init_57 : decode cX8_init 57 = .ok (.putfield 29, 3) := by decide +kernel
theorem dX8_init_60 : decode cX8_init 60 = .ok (.aload_n 0, 1) := by decide +kernel
theorem dX8_init_61 : decode cX8_init 61 = .ok (.bipush 20, 2) := by decide +kernel
theorem dX8_init_63 : decode cX8_init 63 = .ok (.newarray .long, 2) := by decide +kernel
theorem dX8_init_65 : decode cX8_init 65 = .ok (.putfield 32, 3) := by decide +kernel
theorem dX8_init_68 : decode cX8_init 68 = .ok (.aload_n 0, 1) := by decide +kernel
theorem dX8_init_69 : decode cX8_init 69 = .ok (.sipush 200, 3) := by decide +kernel
theorem dX8_init_72 : decode cX8_init 72 = .ok (.newarray .long, 2) := by decide +kernel
theorem dX8_init_74 : decode cX8_init 74 = .ok (.putfield 35, 3) := by decide +kernel
theorem dX8_init_77 : decode cX8_init 77 = .ok (.aload_n 0, 1) := by decide +kernel
theorem dX8_init_78 : decode cX8_init 78 = .ok (.sipush 240, 3) := by decide +kernel
theorem dX8_init_81 : decode cX8_init 81 = .ok (.newarray .int, 2) := by decide +kernel
theorem dX8_init_83 : decode cX8_init 83 = .ok (.putfield 38, 3) := by decide +kernel
theorem dX8_init_86 : decode cX8_init 86 = .ok (.aload_n 0, 1) := by decide +kernel
theorem dX8_init_87 : decode cX8_init 87 = .ok (.bipush 20, 2) := by decide +kernel
theorem dX8_init_89 : decode cX8_init 89 = .ok (.newarray .boolean, 2) := by decide +kernel
theorem dX8_init_91 : decode cX8_init 91 = .ok (.putfield 41, 3) := by decide +kernel
theorem dX8_init_94 : decode cX8_init 94 = .ok (.aload_n 0, 1) := by decide +kernel
theorem dX8_init_95 : decode cX8_init 95 = .ok (.bipush 120, 2) := by decide +kernel
theorem dX8_init_97 : decode cX8_init 97 = .ok (.newarray .long, 2) := by decide +kernel
theorem dX8_init_99 : decode cX8_init 99 = .ok (.putfield 45, 3) := by decide +kernel
theorem dX8_init_102 : decode cX8_init 102 = .ok (.aload_n 0, 1) := by decide +kernel
theorem dX8_init_103 : decode cX8_init 103 = .ok (.sipush 960, 3) := by decide +kernel
theorem dX8_init_106 : decode cX8_init 106 = .ok (.newarray .long, 2) := by decide +kernel
theorem dX8_init_108 : decode cX8_init 108 = .ok (.putfield 48, 3) := by decide +kernel
theorem dX8_init_111 : decode cX8_init 111 = .ok (.aload_n 0, 1) := by decide +kernel
theorem dX8_init_112 : decode cX8_init 112 = .ok (.bipush 12, 2) := by decide +kernel
theorem dX8_init_114 : decode cX8_init 114 = .ok (.newarray .long, 2) := by decide +kernel
theorem dX8_init_116 : decode cX8_init 116 = .ok (.putfield 51, 3) := by decide +kernel
theorem dX8_init_119 : decode cX8_init 119 = .ok (.aload_n 0, 1) := by decide +kernel
theorem dX8_init_120 : decode cX8_init 120 = .ok (.bipush 12, 2) := by decide +kernel
theorem dX8_init_122 : decode cX8_init 122 = .ok (.newarray .long, 2) := by decide +kernel
theorem dX8_init_124 : decode cX8_init 124 = .ok (.putfield 54, 3) := by decide +kernel
theorem dX8_init_127 : decode cX8_init 127 = .ok (.aload_n 0, 1) := by decide +kernel
theorem dX8_init_128 : decode cX8_init 128 = .ok (.bipush 12, 2) := by decide +kernel
theorem dX8_init_130 : decode cX8_init 130 = .ok (.newarray .long, 2) := by decide +kernel
theorem dX8_init_132 : decode cX8_init 132 = .ok (.putfield 57, 3) := by decide +kernel
theorem dX8_init_135 : decode cX8_init 135 = .ok (.aload_n 0, 1) := by decide +kernel
theorem dX8_init_136 : decode cX8_init 136 = .ok (.bipush 61, 2) := by decide +kernel
theorem dX8_init_138 : decode cX8_init 138 = .ok (.newarray .int, 2) := by decide +kernel
theorem dX8_init_140 : decode cX8_init 140 = .ok (.putfield 60, 3) := by decide +kernel
theorem dX8_init_143 : decode cX8_init 143 = .ok (.aload_n 0, 1) := by decide +kernel
theorem dX8_init_144 : decode cX8_init 144 = .ok (.bipush 61, 2) := by decide +kernel
theorem dX8_init_146 : decode cX8_init 146 = .ok (.newarray .int, 2) := by decide +kernel
theorem dX8_init_148 : decode cX8_init 148 = .ok (.putfield 63, 3) := by decide +kernel
theorem dX8_init_151 : decode cX8_init 151 = .ok (.aload_n 0, 1) := by decide +kernel
theorem dX8_init_152 : decode cX8_init 152 = .ok (.bipush 61, 2) := by decide +kernel
theorem dX8_init_154 : decode cX8_init 154 = .ok (.newarray .int, 2) := by decide +kernel
theorem dX8_init_156 : decode cX8_init 156 = .ok (.putfield 66, 3) := by decide +kernel
theorem dX8_init_159 : decode cX8_init 159 = .ok (.aload_n 0, 1) := by decide +kernel
theorem dX8_init_160 : decode cX8_init 160 = .ok (.bipush 61, 2) := by decide +kernel
theorem dX8_init_162 : decode cX8_init 162 = .ok (.newarray .int, 2) := by decide +kernel
theorem dX8_init_164 : decode cX8_init 164 = .ok (.putfield 69, 3) := by decide +kernel
theorem dX8_init_167 : decode cX8_init 167 = .ok (.aload_n 0, 1) := by decide +kernel
theorem dX8_init_168 : decode cX8_init 168 = .ok (.sipush 488, 3) := by decide +kernel
theorem dX8_init_171 : decode cX8_init 171 = .ok (.newarray .int, 2) := by decide +kernel
theorem dX8_init_173 : decode cX8_init 173 = .ok (.putfield 72, 3) := by decide +kernel
theorem dX8_init_176 : decode cX8_init 176 = .ok (.aload_n 0, 1) := by decide +kernel
theorem dX8_init_177 : decode cX8_init 177 = .ok (.sipush 488, 3) := by decide +kernel
theorem dX8_init_180 : decode cX8_init 180 = .ok (.newarray .long, 2) := by decide +kernel
theorem dX8_init_182 : decode cX8_init 182 = .ok (.putfield 75, 3) := by decide +kernel
theorem dX8_init_185 : decode cX8_init 185 = .ok (.iconst 0, 1) := by decide +kernel
theorem dX8_init_186 : decode cX8_init 186 = .ok (.istore_n 1, 1) := by decide +kernel
theorem dX8_init_187 : decode cX8_init 187 = .ok (.iload_n 1, 1) := by decide +kernel
theorem dX8_init_188 : decode cX8_init 188 = .ok (.bipush 10, 2) := by decide +kernel
theorem dX8_init_190 : decode cX8_init 190 = .ok (.if_icmp .ge 19, 3) := by decide +kernel
theorem dX8_init_193 : decode cX8_init 193 = .ok (.aload_n 0, 1) := by decide +kernel
theorem dX8_init_194 : decode cX8_init 194 = .ok (.getfield 13, 3) := by decide +kernel
theorem dX8_init_197 : decode cX8_init 197 = .ok (.bipush 12, 2) := by decide +kernel
theorem dX8_init_199 : decode cX8_init 199 = .ok (.iload_n 1, 1) := by decide +kernel
theorem dX8_init_200 : decode cX8_init 200 = .ok (.iadd, 1) := by decide +kernel
theorem dX8_init_201 : decode cX8_init 201 = .ok (.iconst 1, 1) := by decide +kernel
theorem dX8_init_202 : decode cX8_init 202 = .ok (.iastore, 1) := by decide +kernel
theorem dX8_init_203 : decode cX8_init 203 = .ok (.iinc 1 1, 3) := by decide +kernel
theorem dX8_init_206 : decode cX8_init 206 = .ok (.goto (-19), 3) := by decide +kernel
theorem dX8_init_209 : decode cX8_init 209 = .ok (.return_, 1) := by decide +kernel
theorem dX8_within_0 : decode cX8_within 0 = .ok (.lload_n 0, 1) := by decide +kernel
theorem dX8_within_1 : decode cX8_within 1 = .ok (.lload_n 2, 1) := by decide +kernel
theorem dX8_within_2 : decode cX8_within 2 = .ok (.lcmp, 1) := by decide +kernel
theorem dX8_within_3 : decode cX8_within 3 = .ok (.ifCond .lt 14, 3) := by decide +kernel
theorem dX8_within_6 : decode cX8_within 6 = .ok (.lload_n 0, 1) := by decide +kernel
theorem dX8_within_7 : decode cX8_within 7 = .ok (.lload 4, 2) := by decide +kernel
theorem dX8_within_9 : decode cX8_within 9 = .ok (.lcmp, 1) := by decide +kernel
theorem dX8_within_10 : decode cX8_within 10 = .ok (.ifCond .gt 7, 3) := by decide +kernel
theorem dX8_within_13 : decode cX8_within 13 = .ok (.iconst 1, 1) := by decide +kernel
theorem dX8_within_14 : decode cX8_within 14 = .ok (.goto 4, 3) := by decide +kernel
theorem dX8_within_17 : decode cX8_within 17 = .ok (.iconst 0, 1) := by decide +kernel
theorem dX8_within_18 : decode cX8_within 18 = .ok (.ireturn, 1) := by decide +kernel
theorem dX8_unit_0 : decode cX8_unit 0 = .ok (.iload_n 1, 1) := by decide +kernel
theorem dX8_unit_1 : decode cX8_unit 1 = .ok (.i2l, 1) := by decide +kernel
theorem dX8_unit_2 : decode cX8_unit 2 = .ok (.lconst 0, 1) := by decide +kernel
theorem dX8_unit_3 : decode cX8_unit 3 = .ok (.ldc2_w 78, 3) := by decide +kernel
theorem dX8_unit_6 : decode cX8_unit 6 = .ok (.invokestatic 80, 3) := by decide +kernel
theorem dX8_unit_9 : decode cX8_unit 9 = .ok (.ifCond .eq 13, 3) := by decide +kernel
theorem dX8_unit_12 : decode cX8_unit 12 = .ok (.aload_n 0, 1) := by decide +kernel
theorem dX8_unit_13 : decode cX8_unit 13 = .ok (.getfield 84, 3) := by decide +kernel
theorem dX8_unit_16 : decode cX8_unit 16 = .ok (.sipush 600, 3) := by decide +kernel
theorem dX8_unit_19 : decode cX8_unit 19 = .ok (.if_icmp .ne 5, 3) := by decide +kernel
theorem dX8_unit_22 : decode cX8_unit 22 = .ok (.iconst 0, 1) := by decide +kernel
theorem dX8_unit_23 : decode cX8_unit 23 = .ok (.ireturn, 1) := by decide +kernel
theorem dX8_unit_24 : decode cX8_unit 24 = .ok (.aload_n 0, 1) := by decide +kernel
theorem dX8_unit_25 : decode cX8_unit 25 = .ok (.getfield 7, 3) := by decide +kernel
theorem dX8_unit_28 : decode cX8_unit 28 = .ok (.aload_n 0, 1) := by decide +kernel
theorem dX8_unit_29 : decode cX8_unit 29 = .ok (.getfield 84, 3) := by decide +kernel
theorem dX8_unit_32 : decode cX8_unit 32 = .ok (.iload_n 1, 1) := by decide +kernel
theorem dX8_unit_33 : decode cX8_unit 33 = .ok (.iastore, 1) := by decide +kernel
theorem dX8_unit_34 : decode cX8_unit 34 = .ok (.aload_n 0, 1) := by decide +kernel
theorem dX8_unit_35 : decode cX8_unit 35 = .ok (.dup, 1) := by decide +kernel
theorem dX8_unit_36 : decode cX8_unit 36 = .ok (.getfield 84, 3) := by decide +kernel
theorem dX8_unit_39 : decode cX8_unit 39 = .ok (.iconst 1, 1) := by decide +kernel
theorem dX8_unit_40 : decode cX8_unit 40 = .ok (.iadd, 1) := by decide +kernel
theorem dX8_unit_41 : decode cX8_unit 41 = .ok (.putfield 84, 3) := by decide +kernel
theorem dX8_unit_44 : decode cX8_unit 44 = .ok (.iconst 1, 1) := by decide +kernel
theorem dX8_unit_45 : decode cX8_unit 45 = .ok (.ireturn, 1) := by decide +kernel
theorem dX8_isNext_0 : decode cX8_isNext 0 = .ok (.aload_n 0, 1) := by decide +kernel
theorem dX8_isNext_1 : decode cX8_isNext 1 = .ok (.getfield 88, 3) := by decide +kernel
theorem dX8_isNext_4 : decode cX8_isNext 4 = .ok (.aload_n 0, 1) := by decide +kernel
theorem dX8_isNext_5 : decode cX8_isNext 5 = .ok (.getfield 84, 3) := by decide +kernel
theorem dX8_isNext_8 : decode cX8_isNext 8 = .ok (.if_icmp .ge 44, 3) := by decide +kernel
theorem dX8_isNext_11 : decode cX8_isNext 11 = .ok (.aload_n 0, 1) := by decide +kernel
theorem dX8_isNext_12 : decode cX8_isNext 12 = .ok (.getfield 7, 3) := by decide +kernel
theorem dX8_isNext_15 : decode cX8_isNext 15 = .ok (.aload_n 0, 1) := by decide +kernel
theorem dX8_isNext_16 : decode cX8_isNext 16 = .ok (.getfield 88, 3) := by decide +kernel
theorem dX8_isNext_19 : decode cX8_isNext 19 = .ok (.iaload, 1) := by decide +kernel
theorem dX8_isNext_20 : decode cX8_isNext 20 = .ok (.bipush 32, 2) := by decide +kernel
theorem dX8_isNext_22 : decode cX8_isNext 22 = .ok (.if_icmp .eq 17, 3) := by decide +kernel
theorem dX8_isNext_25 : decode cX8_isNext 25 = .ok (.aload_n 0, 1) := by decide +kernel
theorem dX8_isNext_26 : decode cX8_isNext 26 = .ok (.getfield 7, 3) := by decide +kernel
theorem dX8_isNext_29 : decode cX8_isNext 29 = .ok (.aload_n 0, 1) := by decide +kernel
theorem dX8_isNext_30 : decode cX8_isNext 30 = .ok (.getfield 88, 3) := by decide +kernel
theorem dX8_isNext_33 : decode cX8_isNext 33 = .ok (.iaload, 1) := by decide +kernel
theorem dX8_isNext_34 : decode cX8_isNext 34 = .ok (.bipush 10, 2) := by decide +kernel
theorem dX8_isNext_36 : decode cX8_isNext 36 = .ok (.if_icmp .ne 16, 3) := by decide +kernel
theorem dX8_isNext_39 : decode cX8_isNext 39 = .ok (.aload_n 0, 1) := by decide +kernel
theorem dX8_isNext_40 : decode cX8_isNext 40 = .ok (.dup, 1) := by decide +kernel
theorem dX8_isNext_41 : decode cX8_isNext 41 = .ok (.getfield 88, 3) := by decide +kernel
theorem dX8_isNext_44 : decode cX8_isNext 44 = .ok (.iconst 1, 1) := by decide +kernel
theorem dX8_isNext_45 : decode cX8_isNext 45 = .ok (.iadd, 1) := by decide +kernel
theorem dX8_isNext_46 : decode cX8_isNext 46 = .ok (.putfield 88, 3) := by decide +kernel
theorem dX8_isNext_49 : decode cX8_isNext 49 = .ok (.goto (-49), 3) := by decide +kernel
theorem dX8_isNext_52 : decode cX8_isNext 52 = .ok (.aload_n 0, 1) := by decide +kernel
theorem dX8_isNext_53 : decode cX8_isNext 53 = .ok (.aload_n 0, 1) := by decide +kernel
theorem dX8_isNext_54 : decode cX8_isNext 54 = .ok (.getfield 88, 3) := by decide +kernel
theorem dX8_isNext_57 : decode cX8_isNext 57 = .ok (.putfield 91, 3) := by decide +kernel
theorem dX8_isNext_60 : decode cX8_isNext 60 = .ok (.aload_n 0, 1) := by decide +kernel
theorem dX8_isNext_61 : decode cX8_isNext 61 = .ok (.getfield 88, 3) := by decide +kernel
theorem dX8_isNext_64 : decode cX8_isNext 64 = .ok (.aload_n 0, 1) := by decide +kernel
theorem dX8_isNext_65 : decode cX8_isNext 65 = .ok (.getfield 84, 3) := by decide +kernel
theorem dX8_isNext_68 : decode cX8_isNext 68 = .ok (.if_icmp .ge 44, 3) := by decide +kernel
theorem dX8_isNext_71 : decode cX8_isNext 71 = .ok (.aload_n 0, 1) := by decide +kernel
theorem dX8_isNext_72 : decode cX8_isNext 72 = .ok (.getfield 7, 3) := by decide +kernel
theorem dX8_isNext_75 : decode cX8_isNext 75 = .ok (.aload_n 0, 1) := by decide +kernel
theorem dX8_isNext_76 : decode cX8_isNext 76 = .ok (.getfield 88, 3) := by decide +kernel
theorem dX8_isNext_79 : decode cX8_isNext 79 = .ok (.iaload, 1) := by decide +kernel
theorem dX8_isNext_80 : decode cX8_isNext 80 = .ok (.bipush 32, 2) := by decide +kernel
theorem dX8_isNext_82 : decode cX8_isNext 82 = .ok (.if_icmp .eq 30, 3) := by decide +kernel
theorem dX8_isNext_85 : decode cX8_isNext 85 = .ok (.aload_n 0, 1) := by decide +kernel
theorem dX8_isNext_86 : decode cX8_isNext 86 = .ok (.getfield 7, 3) := by decide +kernel
theorem dX8_isNext_89 : decode cX8_isNext 89 = .ok (.aload_n 0, 1) := by decide +kernel
theorem dX8_isNext_90 : decode cX8_isNext 90 = .ok (.getfield 88, 3) := by decide +kernel
theorem dX8_isNext_93 : decode cX8_isNext 93 = .ok (.iaload, 1) := by decide +kernel
theorem dX8_isNext_94 : decode cX8_isNext 94 = .ok (.bipush 10, 2) := by decide +kernel
theorem dX8_isNext_96 : decode cX8_isNext 96 = .ok (.if_icmp .eq 16, 3) := by decide +kernel
theorem dX8_isNext_99 : decode cX8_isNext 99 = .ok (.aload_n 0, 1) := by decide +kernel
theorem dX8_isNext_100 : decode cX8_isNext 100 = .ok (.dup, 1) := by decide +kernel
theorem dX8_isNext_101 : decode cX8_isNext 101 = .ok (.getfield 88, 3) := by decide +kernel
theorem dX8_isNext_104 : decode cX8_isNext 104 = .ok (.iconst 1, 1) := by decide +kernel
theorem dX8_isNext_105 : decode cX8_isNext 105 = .ok (.iadd, 1) := by decide +kernel
theorem dX8_isNext_106 : decode cX8_isNext 106 = .ok (.putfield 88, 3) := by decide +kernel
theorem dX8_isNext_109 : decode cX8_isNext 109 = .ok (.goto (-49), 3) := by decide +kernel
theorem dX8_isNext_112 : decode cX8_isNext 112 = .ok (.aload_n 0, 1) := by decide +kernel
theorem dX8_isNext_113 : decode cX8_isNext 113 = .ok (.getfield 88, 3) := by decide +kernel
theorem dX8_isNext_116 : decode cX8_isNext 116 = .ok (.aload_n 0, 1) := by decide +kernel
theorem dX8_isNext_117 : decode cX8_isNext 117 = .ok (.getfield 91, 3) := by decide +kernel
theorem dX8_isNext_120 : decode cX8_isNext 120 = .ok (.if_icmp .le 7, 3) := by decide +kernel
theorem dX8_isNext_123 : decode cX8_isNext 123 = .ok (.iconst 1, 1) := by decide +kernel
theorem dX8_isNext_124 : decode cX8_isNext 124 = .ok (.goto 4, 3) := by decide +kernel
theorem dX8_isNext_127 : decode cX8_isNext 127 = .ok (.iconst 0, 1) := by decide +kernel
theorem dX8_isNext_128 : decode cX8_isNext 128 = .ok (.ireturn, 1) := by decide +kernel
theorem dX8_isWord_0 : decode cX8_isWord 0 = .ok (.aload_n 0, 1) := by decide +kernel
theorem dX8_isWord_1 : decode cX8_isWord 1 = .ok (.getfield 88, 3) := by decide +kernel
theorem dX8_isWord_4 : decode cX8_isWord 4 = .ok (.aload_n 0, 1) := by decide +kernel
theorem dX8_isWord_5 : decode cX8_isWord 5 = .ok (.getfield 91, 3) := by decide +kernel
theorem dX8_isWord_8 : decode cX8_isWord 8 = .ok (.isub, 1) := by decide +kernel
theorem dX8_isWord_9 : decode cX8_isWord 9 = .ok (.iload_n 3, 1) := by decide +kernel
theorem dX8_isWord_10 : decode cX8_isWord 10 = .ok (.if_icmp .ne 7, 3) := by decide +kernel
theorem dX8_isWord_13 : decode cX8_isWord 13 = .ok (.iconst 1, 1) := by decide +kernel
theorem dX8_isWord_14 : decode cX8_isWord 14 = .ok (.goto 4, 3) := by decide +kernel
theorem dX8_isWord_17 : decode cX8_isWord 17 = .ok (.iconst 0, 1) := by decide +kernel
theorem dX8_isWord_18 : decode cX8_isWord 18 = .ok (.istore 4, 2) := by decide +kernel
theorem dX8_isWord_20 : decode cX8_isWord 20 = .ok (.iconst 0, 1) := by decide +kernel
theorem dX8_isWord_21 : decode cX8_isWord 21 = .ok (.istore 5, 2) := by decide +kernel
theorem dX8_isWord_23 : decode cX8_isWord 23 = .ok (.iload 5, 2) := by decide +kernel
theorem dX8_isWord_25 : decode cX8_isWord 25 = .ok (.iload_n 3, 1) := by decide +kernel
theorem dX8_isWord_26 : decode cX8_isWord 26 = .ok (.if_icmp .ge 53, 3) := by decide +kernel
theorem dX8_isWord_29 : decode cX8_isWord 29 = .ok (.iload 4, 2) := by decide +kernel
theorem dX8_isWord_31 : decode cX8_isWord 31 = .ok (.ifCond .eq 48, 3) := by decide +kernel
theorem dX8_isWord_34 : decode cX8_isWord 34 = .ok (.aload_n 0, 1) := by decide +kernel
theorem dX8_isWord_35 : decode cX8_isWord 35 = .ok (.getfield 7, 3) := by decide +kernel
theorem dX8_isWord_38 : decode cX8_isWord 38 = .ok (.aload_n 0, 1) := by decide +kernel
theorem dX8_isWord_39 : decode cX8_isWord 39 = .ok (.getfield 91, 3) := by decide +kernel
theorem dX8_isWord_42 : decode cX8_isWord 42 = .ok (.iload 5, 2) := by decide +kernel
theorem dX8_isWord_44 : decode cX8_isWord 44 = .ok (.iadd, 1) := by decide +kernel
theorem dX8_isWord_45 : decode cX8_isWord 45 = .ok (.iaload, 1) := by decide +kernel
theorem dX8_isWord_46 : decode cX8_isWord 46 = .ok (.i2l, 1) := by decide +kernel
theorem dX8_isWord_47 : decode cX8_isWord 47 = .ok (.lload_n 1, 1) := by decide +kernel
theorem dX8_isWord_48 : decode cX8_isWord 48 = .ok (.bipush 8, 2) := by decide +kernel
theorem dX8_isWord_50 : decode cX8_isWord 50 = .ok (.iload_n 3, 1) := by decide +kernel
theorem dX8_isWord_51 : decode cX8_isWord 51 = .ok (.iconst 1, 1) := by decide +kernel
theorem dX8_isWord_52 : decode cX8_isWord 52 = .ok (.isub, 1) := by decide +kernel
theorem dX8_isWord_53 : decode cX8_isWord 53 = .ok (.iload 5, 2) := by decide +kernel
theorem dX8_isWord_55 : decode cX8_isWord 55 = .ok (.isub, 1) := by decide +kernel
theorem dX8_isWord_56 : decode cX8_isWord 56 = .ok (.imul, 1) := by decide +kernel
theorem dX8_isWord_57 : decode cX8_isWord 57 = .ok (.lshr, 1) := by decide +kernel
theorem dX8_isWord_58 : decode cX8_isWord 58 = .ok (.ldc2_w 78, 3) := by decide +kernel
theorem dX8_isWord_61 : decode cX8_isWord 61 = .ok (.land, 1) := by decide +kernel
theorem dX8_isWord_62 : decode cX8_isWord 62 = .ok (.lcmp, 1) := by decide +kernel
theorem dX8_isWord_63 : decode cX8_isWord 63 = .ok (.ifCond .ne 7, 3) := by decide +kernel
theorem dX8_isWord_66 : decode cX8_isWord 66 = .ok (.iconst 1, 1) := by decide +kernel
theorem dX8_isWord_67 : decode cX8_isWord 67 = .ok (.goto 4, 3) := by decide +kernel
theorem dX8_isWord_70 : decode cX8_isWord 70 = .ok (.iconst 0, 1) := by decide +kernel
theorem dX8_isWord_71 : decode cX8_isWord 71 = .ok (.istore 4, 2) := by decide +kernel
theorem dX8_isWord_73 : decode cX8_isWord 73 = .ok (.iinc 5 1, 3) := by decide +kernel
theorem dX8_isWord_76 : decode cX8_isWord 76 = .ok (.goto (-53), 3) := by decide +kernel
theorem dX8_isWord_79 : decode cX8_isWord 79 = .ok (.iload 4, 2) := by decide +kernel
theorem dX8_isWord_81 : decode cX8_isWord 81 = .ok (.ireturn, 1) := by decide +kernel
theorem dX8_number_0 : decode cX8_number 0 = .ok (.aload_n 0, 1) := by decide +kernel
theorem dX8_number_1 : decode cX8_number 1 = .ok (.invokevirtual 94, 3) := by decide +kernel
theorem dX8_number_4 : decode cX8_number 4 = .ok (.ifCond .eq 17, 3) := by decide +kernel
theorem dX8_number_7 : decode cX8_number 7 = .ok (.aload_n 0, 1) := by decide +kernel
theorem dX8_number_8 : decode cX8_number 8 = .ok (.getfield 88, 3) := by decide +kernel
theorem dX8_number_11 : decode cX8_number 11 = .ok (.aload_n 0, 1) := by decide +kernel
theorem dX8_number_12 : decode cX8_number 12 = .ok (.getfield 91, 3) := by decide +kernel
theorem dX8_number_15 : decode cX8_number 15 = .ok (.isub, 1) := by decide +kernel
theorem dX8_number_16 : decode cX8_number 16 = .ok (.bipush 6, 2) := by decide +kernel
theorem dX8_number_18 : decode cX8_number 18 = .ok (.if_icmp .le 5, 3) := by decide +kernel
theorem dX8_number_21 : decode cX8_number 21 = .ok (.iconst (-1), 1) := by decide +kernel
theorem dX8_number_22 : decode cX8_number 22 = .ok (.ireturn, 1) := by decide +kernel
theorem dX8_number_23 : decode cX8_number 23 = .ok (.iconst 0, 1) := by decide +kernel
theorem dX8_number_24 : decode cX8_number 24 = .ok (.istore_n 2, 1) := by decide +kernel
theorem dX8_number_25 : decode cX8_number 25 = .ok (.aload_n 0, 1) := by decide +kernel
theorem dX8_number_26 : decode cX8_number 26 = .ok (.getfield 91, 3) := by decide +kernel
theorem dX8_number_29 : decode cX8_number 29 = .ok (.istore_n 3, 1) := by decide +kernel
theorem dX8_number_30 : decode cX8_number 30 = .ok (.iload_n 3, 1) := by decide +kernel
theorem dX8_number_31 : decode cX8_number 31 = .ok (.aload_n 0, 1) := by decide +kernel
theorem dX8_number_32 : decode cX8_number 32 = .ok (.getfield 88, 3) := by decide +kernel
theorem dX8_number_35 : decode cX8_number 35 = .ok (.if_icmp .ge 48, 3) := by decide +kernel
theorem dX8_number_38 : decode cX8_number 38 = .ok (.aload_n 0, 1) := by decide +kernel
theorem dX8_number_39 : decode cX8_number 39 = .ok (.getfield 7, 3) := by decide +kernel
theorem dX8_number_42 : decode cX8_number 42 = .ok (.iload_n 3, 1) := by decide +kernel
theorem dX8_number_43 : decode cX8_number 43 = .ok (.iaload, 1) := by decide +kernel
theorem dX8_number_44 : decode cX8_number 44 = .ok (.bipush 48, 2) := by decide +kernel
theorem dX8_number_46 : decode cX8_number 46 = .ok (.if_icmp .lt 14, 3) := by decide +kernel
theorem dX8_number_49 : decode cX8_number 49 = .ok (.aload_n 0, 1) := by decide +kernel
theorem dX8_number_50 : decode cX8_number 50 = .ok (.getfield 7, 3) := by decide +kernel
theorem dX8_number_53 : decode cX8_number 53 = .ok (.iload_n 3, 1) := by decide +kernel
theorem dX8_number_54 : decode cX8_number 54 = .ok (.iaload, 1) := by decide +kernel
theorem dX8_number_55 : decode cX8_number 55 = .ok (.bipush 57, 2) := by decide +kernel
theorem dX8_number_57 : decode cX8_number 57 = .ok (.if_icmp .le 5, 3) := by decide +kernel
theorem dX8_number_60 : decode cX8_number 60 = .ok (.iconst (-1), 1) := by decide +kernel
theorem dX8_number_61 : decode cX8_number 61 = .ok (.ireturn, 1) := by decide +kernel
theorem dX8_number_62 : decode cX8_number 62 = .ok (.bipush 10, 2) := by decide +kernel
theorem dX8_number_64 : decode cX8_number 64 = .ok (.iload_n 2, 1) := by decide +kernel
theorem dX8_number_65 : decode cX8_number 65 = .ok (.imul, 1) := by decide +kernel
theorem dX8_number_66 : decode cX8_number 66 = .ok (.aload_n 0, 1) := by decide +kernel
theorem dX8_number_67 : decode cX8_number 67 = .ok (.getfield 7, 3) := by decide +kernel
theorem dX8_number_70 : decode cX8_number 70 = .ok (.iload_n 3, 1) := by decide +kernel
theorem dX8_number_71 : decode cX8_number 71 = .ok (.iaload, 1) := by decide +kernel
theorem dX8_number_72 : decode cX8_number 72 = .ok (.iadd, 1) := by decide +kernel
theorem dX8_number_73 : decode cX8_number 73 = .ok (.bipush 48, 2) := by decide +kernel
theorem dX8_number_75 : decode cX8_number 75 = .ok (.isub, 1) := by decide +kernel
theorem dX8_number_76 : decode cX8_number 76 = .ok (.istore_n 2, 1) := by decide +kernel
theorem dX8_number_77 : decode cX8_number 77 = .ok (.iinc 3 1, 3) := by decide +kernel
theorem dX8_number_80 : decode cX8_number 80 = .ok (.goto (-50), 3) := by decide +kernel
theorem dX8_number_83 : decode cX8_number 83 = .ok (.iload_n 2, 1) := by decide +kernel
theorem dX8_number_84 : decode cX8_number 84 = .ok (.iload_n 1, 1) := by decide +kernel
theorem dX8_number_85 : decode cX8_number 85 = .ok (.if_icmp .le 5, 3) := by decide +kernel
theorem dX8_number_88 : decode cX8_number 88 = .ok (.iconst (-1), 1) := by decide +kernel
theorem dX8_number_89 : decode cX8_number 89 = .ok (.ireturn, 1) := by decide +kernel
theorem dX8_number_90 : decode cX8_number 90 = .ok (.aload_n 0, 1) := by decide +kernel
theorem dX8_number_91 : decode cX8_number 91 = .ok (.dup, 1) := by decide +kernel
theorem dX8_number_92 : decode cX8_number 92 = .ok (.getfield 98, 3) := by decide +kernel
theorem dX8_number_95 : decode cX8_number 95 = .ok (.iconst 1, 1) := by decide +kernel
theorem dX8_number_96 : decode cX8_number 96 = .ok (.iadd, 1) := by decide +kernel
theorem dX8_number_97 : decode cX8_number 97 = .ok (.putfield 98, 3) := by decide +kernel
theorem dX8_number_100 : decode cX8_number 100 = .ok (.iload_n 2, 1) := by decide +kernel
theorem dX8_number_101 : decode cX8_number 101 = .ok (.ireturn, 1) := by decide +kernel
theorem dX8_isSentence_0 : decode cX8_isSentence 0 = .ok (.aload_n 0, 1) := by decide +kernel
theorem dX8_isSentence_1 : decode cX8_isSentence 1 = .ok (.ldc2_w 101, 3) := by decide +kernel
theorem dX8_isSentence_4 : decode cX8_isSentence 4 = .ok (.iconst 4, 1) := by decide +kernel
theorem dX8_isSentence_5 : decode cX8_isSentence 5 = .ok (.invokevirtual 103, 3) := by decide +kernel
theorem dX8_isSentence_8 : decode cX8_isSentence 8 = .ok (.ifCond .ne 14, 3) := by decide +kernel
theorem dX8_isSentence_11 : decode cX8_isSentence 11 = .ok (.aload_n 0, 1) := by decide +kernel
theorem dX8_isSentence_12 : decode cX8_isSentence 12 = .ok (.ldc2_w 107, 3) := by decide +kernel
theorem dX8_isSentence_15 : decode cX8_isSentence 15 = .ok (.iconst 4, 1) := by decide +kernel
theorem dX8_isSentence_16 : decode cX8_isSentence 16 = .ok (.invokevirtual 103, 3) := by decide +kernel
theorem dX8_isSentence_19 : decode cX8_isSentence 19 = .ok (.ifCond .eq 86, 3) := by decide +kernel
theorem dX8_isSentence_22 : decode cX8_isSentence 22 = .ok (.aload_n 0, 1) := by decide +kernel
theorem dX8_isSentence_23 : decode cX8_isSentence 23 = .ok (.ldc2_w 101, 3) := by decide +kernel
theorem dX8_isSentence_26 : decode cX8_isSentence 26 = .ok (.iconst 4, 1) := by decide +kernel
theorem dX8_isSentence_27 : decode cX8_isSentence 27 = .ok (.invokevirtual 103, 3) := by decide +kernel
theorem dX8_isSentence_30 : decode cX8_isSentence 30 = .ok (.ifCond .eq 7, 3) := by decide +kernel
theorem dX8_isSentence_33 : decode cX8_isSentence 33 = .ok (.iconst 0, 1) := by decide +kernel
theorem dX8_isSentence_34 : decode cX8_isSentence 34 = .ok (.goto 4, 3) := by decide +kernel
theorem dX8_isSentence_37 : decode cX8_isSentence 37 = .ok (.iconst 1, 1) := by decide +kernel
theorem dX8_isSentence_38 : decode cX8_isSentence 38 = .ok (.istore_n 1, 1) := by decide +kernel
theorem dX8_isSentence_39 : decode cX8_isSentence 39 = .ok (.aload_n 0, 1) := by decide +kernel
theorem dX8_isSentence_40 : decode cX8_isSentence 40 = .ok (.getfield 16, 3) := by decide +kernel
theorem dX8_isSentence_43 : decode cX8_isSentence 43 = .ok (.bipush 32, 2) := by decide +kernel
theorem dX8_isSentence_45 : decode cX8_isSentence 45 = .ok (.iload_n 1, 1) := by decide +kernel
theorem dX8_isSentence_46 : decode cX8_isSentence 46 = .ok (.iadd, 1) := by decide +kernel
theorem dX8_isSentence_47 : decode cX8_isSentence 47 = .ok (.iaload, 1) := by decide +kernel
theorem dX8_isSentence_48 : decode cX8_isSentence 48 = .ok (.iconst 1, 1) := by decide +kernel
theorem dX8_isSentence_49 : decode cX8_isSentence 49 = .ok (.if_icmp .ne 5, 3) := by decide +kernel
theorem dX8_isSentence_52 : decode cX8_isSentence 52 = .ok (.iconst 0, 1) := by decide +kernel
theorem dX8_isSentence_53 : decode cX8_isSentence 53 = .ok (.ireturn, 1) := by decide +kernel
theorem dX8_isSentence_54 : decode cX8_isSentence 54 = .ok (.aload_n 0, 1) := by decide +kernel
theorem dX8_isSentence_55 : decode cX8_isSentence 55 = .ok (.dup, 1) := by decide +kernel
theorem dX8_isSentence_56 : decode cX8_isSentence 56 = .ok (.getfield 98, 3) := by decide +kernel
theorem dX8_isSentence_59 : decode cX8_isSentence 59 = .ok (.iconst 1, 1) := by decide +kernel
theorem dX8_isSentence_60 : decode cX8_isSentence 60 = .ok (.iadd, 1) := by decide +kernel
theorem dX8_isSentence_61 : decode cX8_isSentence 61 = .ok (.putfield 98, 3) := by decide +kernel
theorem dX8_isSentence_64 : decode cX8_isSentence 64 = .ok (.aload_n 0, 1) := by decide +kernel
theorem dX8_isSentence_65 : decode cX8_isSentence 65 = .ok (.bipush 100, 2) := by decide +kernel
theorem dX8_isSentence_67 : decode cX8_isSentence 67 = .ok (.aload_n 0, 1) := by decide +kernel
theorem dX8_isSentence_68 : decode cX8_isSentence 68 = .ok (.getfield 16, 3) := by decide +kernel
theorem dX8_isSentence_71 : decode cX8_isSentence 71 = .ok (.iconst 1, 1) := by decide +kernel
theorem dX8_isSentence_72 : decode cX8_isSentence 72 = .ok (.iload_n 1, 1) := by decide +kernel
theorem dX8_isSentence_73 : decode cX8_isSentence 73 = .ok (.isub, 1) := by decide +kernel
theorem dX8_isSentence_74 : decode cX8_isSentence 74 = .ok (.iaload, 1) := by decide +kernel
theorem dX8_isSentence_75 : decode cX8_isSentence 75 = .ok (.isub, 1) := by decide +kernel
theorem dX8_isSentence_76 : decode cX8_isSentence 76 = .ok (.invokevirtual 109, 3) := by decide +kernel
theorem dX8_isSentence_79 : decode cX8_isSentence 79 = .ok (.istore_n 2, 1) := by decide +kernel
theorem dX8_isSentence_80 : decode cX8_isSentence 80 = .ok (.iload_n 2, 1) := by decide +kernel
theorem dX8_isSentence_81 : decode cX8_isSentence 81 = .ok (.ifCond .ge 5, 3) := by decide +kernel
theorem dX8_isSentence_84 : decode cX8_isSentence 84 = .ok (.iconst 0, 1) := by decide +kernel
theorem dX8_isSentence_85 : decode cX8_isSentence 85 = .ok (.ireturn, 1) := by decide +kernel
theorem dX8_isSentence_86 : decode cX8_isSentence 86 = .ok (.aload_n 0, 1) := by decide +kernel
theorem dX8_isSentence_87 : decode cX8_isSentence 87 = .ok (.getfield 16, 3) := by decide +kernel
theorem dX8_isSentence_90 : decode cX8_isSentence 90 = .ok (.iload_n 1, 1) := by decide +kernel
theorem dX8_isSentence_91 : decode cX8_isSentence 91 = .ok (.iload_n 2, 1) := by decide +kernel
theorem dX8_isSentence_92 : decode cX8_isSentence 92 = .ok (.iastore, 1) := by decide +kernel
theorem dX8_isSentence_93 : decode cX8_isSentence 93 = .ok (.aload_n 0, 1) := by decide +kernel
theorem dX8_isSentence_94 : decode cX8_isSentence 94 = .ok (.getfield 16, 3) := by decide +kernel
theorem dX8_isSentence_97 : decode cX8_isSentence 97 = .ok (.bipush 32, 2) := by decide +kernel
theorem dX8_isSentence_99 : decode cX8_isSentence 99 = .ok (.iload_n 1, 1) := by decide +kernel
theorem dX8_isSentence_100 : decode cX8_isSentence 100 = .ok (.iadd, 1) := by decide +kernel
theorem dX8_isSentence_101 : decode cX8_isSentence 101 = .ok (.iconst 1, 1) := by decide +kernel
theorem dX8_isSentence_102 : decode cX8_isSentence 102 = .ok (.iastore, 1) := by decide +kernel
theorem dX8_isSentence_103 : decode cX8_isSentence 103 = .ok (.iconst 1, 1) := by decide +kernel
theorem dX8_isSentence_104 : decode cX8_isSentence 104 = .ok (.ireturn, 1) := by decide +kernel
theorem dX8_isSentence_105 : decode cX8_isSentence 105 = .ok (.aload_n 0, 1) := by decide +kernel
theorem dX8_isSentence_106 : decode cX8_isSentence 106 = .ok (.ldc2_w 113, 3) := by decide +kernel
theorem dX8_isSentence_109 : decode cX8_isSentence 109 = .ok (.iconst 4, 1) := by decide +kernel
theorem dX8_isSentence_110 : decode cX8_isSentence 110 = .ok (.invokevirtual 103, 3) := by decide +kernel
theorem dX8_isSentence_113 : decode cX8_isSentence 113 = .ok (.ifCond .eq 7, 3) := by decide +kernel
theorem dX8_isSentence_116 : decode cX8_isSentence 116 = .ok (.iconst 2, 1) := by decide +kernel
theorem dX8_isSentence_117 : decode cX8_isSentence 117 = .ok (.goto 36, 3) := by decide +kernel
theorem dX8_isSentence_120 : decode cX8_isSentence 120 = .ok (.aload_n 0, 1) := by decide +kernel
theorem dX8_isSentence_121 : decode cX8_isSentence 121 = .ok (.ldc2_w 115, 3) := by decide +kernel
theorem dX8_isSentence_124 : decode cX8_isSentence 124 = .ok (.iconst 4, 1) := by decide +kernel
theorem dX8_isSentence_125 : decode cX8_isSentence 125 = .ok (.invokevirtual 103, 3) := by decide +kernel
theorem dX8_isSentence_128 : decode cX8_isSentence 128 = .ok (.ifCond .eq 8, 3) := by decide +kernel
theorem dX8_isSentence_131 : decode cX8_isSentence 131 = .ok (.bipush 12, 2) := by decide +kernel
theorem dX8_isSentence_133 : decode cX8_isSentence 133 = .ok (.goto 20, 3) := by decide +kernel
theorem dX8_isSentence_136 : decode cX8_isSentence 136 = .ok (.aload_n 0, 1) := by decide +kernel
theorem dX8_isSentence_137 : decode cX8_isSentence 137 = .ok (.ldc2_w 117, 3) := by decide +kernel
theorem dX8_isSentence_140 : decode cX8_isSentence 140 = .ok (.iconst 5, 1) := by decide +kernel
theorem dX8_isSentence_141 : decode cX8_isSentence 141 = .ok (.invokevirtual 103, 3) := by decide +kernel
theorem dX8_isSentence_144 : decode cX8_isSentence 144 = .ok (.ifCond .eq 8, 3) := by decide +kernel
theorem dX8_isSentence_147 : decode cX8_isSentence 147 = .ok (.bipush 22, 2) := by decide +kernel
theorem dX8_isSentence_149 : decode cX8_isSentence 149 = .ok (.goto 4, 3) := by decide +kernel
theorem dX8_isSentence_152 : decode cX8_isSentence 152 = .ok (.iconst (-1), 1) := by decide +kernel
theorem dX8_isSentence_153 : decode cX8_isSentence 153 = .ok (.istore_n 1, 1) := by decide +kernel
theorem dX8_isSentence_154 : decode cX8_isSentence 154 = .ok (.iload_n 1, 1) := by decide +kernel
theorem dX8_isSentence_155 : decode cX8_isSentence 155 = .ok (.ifCond .ge 5, 3) := by decide +kernel
theorem dX8_isSentence_158 : decode cX8_isSentence 158 = .ok (.iconst 0, 1) := by decide +kernel
theorem dX8_isSentence_159 : decode cX8_isSentence 159 = .ok (.ireturn, 1) := by decide +kernel
theorem dX8_isSentence_160 : decode cX8_isSentence 160 = .ok (.aload_n 0, 1) := by decide +kernel
theorem dX8_isSentence_161 : decode cX8_isSentence 161 = .ok (.dup, 1) := by decide +kernel
theorem dX8_isSentence_162 : decode cX8_isSentence 162 = .ok (.getfield 98, 3) := by decide +kernel
theorem dX8_isSentence_165 : decode cX8_isSentence 165 = .ok (.iconst 1, 1) := by decide +kernel
theorem dX8_isSentence_166 : decode cX8_isSentence 166 = .ok (.iadd, 1) := by decide +kernel
theorem dX8_isSentence_167 : decode cX8_isSentence 167 = .ok (.putfield 98, 3) := by decide +kernel
theorem dX8_isSentence_170 : decode cX8_isSentence 170 = .ok (.aload_n 0, 1) := by decide +kernel
theorem dX8_isSentence_171 : decode cX8_isSentence 171 = .ok (.bipush 9, 2) := by decide +kernel
theorem dX8_isSentence_173 : decode cX8_isSentence 173 = .ok (.invokevirtual 109, 3) := by decide +kernel
theorem dX8_isSentence_176 : decode cX8_isSentence 176 = .ok (.istore_n 2, 1) := by decide +kernel
theorem dX8_isSentence_177 : decode cX8_isSentence 177 = .ok (.iload_n 2, 1) := by decide +kernel
theorem dX8_isSentence_178 : decode cX8_isSentence 178 = .ok (.ifCond .ge 7, 3) := by decide +kernel
theorem dX8_isSentence_181 : decode cX8_isSentence 181 = .ok (.iconst (-1), 1) := by decide +kernel
theorem dX8_isSentence_182 : decode cX8_isSentence 182 = .ok (.goto 30, 3) := by decide +kernel
theorem dX8_isSentence_185 : decode cX8_isSentence 185 = .ok (.aload_n 0, 1) := by decide +kernel
theorem dX8_isSentence_186 : decode cX8_isSentence 186 = .ok (.iload_n 1, 1) := by decide +kernel
theorem dX8_isSentence_187 : decode cX8_isSentence 187 = .ok (.iconst 2, 1) := by decide +kernel
theorem dX8_isSentence_188 : decode cX8_isSentence 188 = .ok (.if_icmp .ne 7, 3) := by decide +kernel
theorem dX8_isSentence_191 : decode cX8_isSentence 191 = .ok (.iconst 2, 1) := by decide +kernel
theorem dX8_isSentence_192 : decode cX8_isSentence 192 = .ok (.goto 17, 3) := by decide +kernel
theorem dX8_isSentence_195 : decode cX8_isSentence 195 = .ok (.iload_n 1, 1) := by decide +kernel
theorem dX8_isSentence_196 : decode cX8_isSentence 196 = .ok (.bipush 12, 2) := by decide +kernel
theorem dX8_isSentence_198 : decode cX8_isSentence 198 = .ok (.if_icmp .ne 9, 3) := by decide +kernel
theorem dX8_isSentence_201 : decode cX8_isSentence 201 = .ok (.sipush 1000, 3) := by decide +kernel
theorem dX8_isSentence_204 : decode cX8_isSentence 204 = .ok (.goto 5, 3) := by decide +kernel
theorem dX8_isSentence_207 : decode cX8_isSentence 207 = .ok (.ldc 119, 2) := by decide +kernel
theorem dX8_isSentence_209 : decode cX8_isSentence 209 = .ok (.invokevirtual 109, 3) := by decide +kernel
theorem dX8_isSentence_212 : decode cX8_isSentence 212 = .ok (.istore_n 3, 1) := by decide +kernel
theorem dX8_isSentence_213 : decode cX8_isSentence 213 = .ok (.iload_n 3, 1) := by decide +kernel
theorem dX8_isSentence_214 : decode cX8_isSentence 214 = .ok (.ifCond .ge 5, 3) := by decide +kernel
theorem dX8_isSentence_217 : decode cX8_isSentence 217 = .ok (.iconst 0, 1) := by decide +kernel
theorem dX8_isSentence_218 : decode cX8_isSentence 218 = .ok (.ireturn, 1) := by decide +kernel
theorem dX8_isSentence_219 : decode cX8_isSentence 219 = .ok (.aload_n 0, 1) := by decide +kernel
theorem dX8_isSentence_220 : decode cX8_isSentence 220 = .ok (.getfield 16, 3) := by decide +kernel
theorem dX8_isSentence_223 : decode cX8_isSentence 223 = .ok (.iload_n 1, 1) := by decide +kernel
theorem dX8_isSentence_224 : decode cX8_isSentence 224 = .ok (.iload_n 2, 1) := by decide +kernel
theorem dX8_isSentence_225 : decode cX8_isSentence 225 = .ok (.iadd, 1) := by decide +kernel
theorem dX8_isSentence_226 : decode cX8_isSentence 226 = .ok (.iload_n 3, 1) := by decide +kernel
theorem dX8_isSentence_227 : decode cX8_isSentence 227 = .ok (.iastore, 1) := by decide +kernel
theorem dX8_isSentence_228 : decode cX8_isSentence 228 = .ok (.iconst 1, 1) := by decide +kernel
theorem dX8_isSentence_229 : decode cX8_isSentence 229 = .ok (.ireturn, 1) := by decide +kernel
