theorem dX8_read_0 : decode cX8_read 0 = .ok (.iconst 0, 1) := by decide +kernel
theorem dX8_read_1 : decode cX8_read 1 = .ok (.istore_n 1, 1) := by decide +kernel
theorem dX8_read_2 : decode cX8_read 2 = .ok (.iload_n 1, 1) := by decide +kernel
theorem dX8_read_3 : decode cX8_read 3 = .ok (.bipush 34, 2) := by decide +kernel
theorem dX8_read_5 : decode cX8_read 5 = .ok (.if_icmp .ge 32, 3) := by decide +kernel
theorem dX8_read_8 : decode cX8_read 8 = .ok (.aload_n 0, 1) := by decide +kernel
theorem dX8_read_9 : decode cX8_read 9 = .ok (.getfield 16, 3) := by decide +kernel
theorem dX8_read_12 : decode cX8_read 12 = .ok (.iload_n 1, 1) := by decide +kernel
theorem dX8_read_13 : decode cX8_read 13 = .ok (.iload_n 1, 1) := by decide +kernel
theorem dX8_read_14 : decode cX8_read 14 = .ok (.bipush 12, 2) := by decide +kernel
theorem dX8_read_16 : decode cX8_read 16 = .ok (.if_icmp .lt 13, 3) := by decide +kernel
theorem dX8_read_19 : decode cX8_read 19 = .ok (.iload_n 1, 1) := by decide +kernel
theorem dX8_read_20 : decode cX8_read 20 = .ok (.bipush 22, 2) := by decide +kernel
theorem dX8_read_22 : decode cX8_read 22 = .ok (.if_icmp .ge 7, 3) := by decide +kernel
theorem dX8_read_25 : decode cX8_read 25 = .ok (.iconst 1, 1) := by decide +kernel
theorem dX8_read_26 : decode cX8_read 26 = .ok (.goto 4, 3) := by decide +kernel
theorem dX8_read_29 : decode cX8_read 29 = .ok (.iconst 0, 1) := by decide +kernel
theorem dX8_read_30 : decode cX8_read 30 = .ok (.iastore, 1) := by decide +kernel
theorem dX8_read_31 : decode cX8_read 31 = .ok (.iinc 1 1, 3) := by decide +kernel
theorem dX8_read_34 : decode cX8_read 34 = .ok (.goto (-32), 3) := by decide +kernel
theorem dX8_read_37 : decode cX8_read 37 = .ok (.aload_n 0, 1) := by decide +kernel
theorem dX8_read_38 : decode cX8_read 38 = .ok (.iconst 0, 1) := by decide +kernel
theorem dX8_read_39 : decode cX8_read 39 = .ok (.putfield 88, 3) := by decide +kernel
theorem dX8_read_42 : decode cX8_read 42 = .ok (.aload_n 0, 1) := by decide +kernel
theorem dX8_read_43 : decode cX8_read 43 = .ok (.iconst 0, 1) := by decide +kernel
theorem dX8_read_44 : decode cX8_read 44 = .ok (.putfield 98, 3) := by decide +kernel
theorem dX8_read_47 : decode cX8_read 47 = .ok (.iconst 0, 1) := by decide +kernel
theorem dX8_read_48 : decode cX8_read 48 = .ok (.istore_n 1, 1) := by decide +kernel
theorem dX8_read_49 : decode cX8_read 49 = .ok (.iconst 1, 1) := by decide +kernel
theorem dX8_read_50 : decode cX8_read 50 = .ok (.istore_n 2, 1) := by decide +kernel
theorem dX8_read_51 : decode cX8_read 51 = .ok (.iload_n 2, 1) := by decide +kernel
theorem dX8_read_52 : decode cX8_read 52 = .ok (.ifCond .eq 30, 3) := by decide +kernel
theorem dX8_read_55 : decode cX8_read 55 = .ok (.aload_n 0, 1) := by decide +kernel
theorem dX8_read_56 : decode cX8_read 56 = .ok (.invokevirtual 94, 3) := by decide +kernel
theorem dX8_read_59 : decode cX8_read 59 = .ok (.ifCond .eq 23, 3) := by decide +kernel
theorem dX8_read_62 : decode cX8_read 62 = .ok (.aload_n 0, 1) := by decide +kernel
theorem dX8_read_63 : decode cX8_read 63 = .ok (.invokevirtual 120, 3) := by decide +kernel
theorem dX8_read_66 : decode cX8_read 66 = .ok (.istore_n 2, 1) := by decide +kernel
theorem dX8_read_67 : decode cX8_read 67 = .ok (.iload_n 1, 1) := by decide +kernel
theorem dX8_read_68 : decode cX8_read 68 = .ok (.iload_n 2, 1) := by decide +kernel
theorem dX8_read_69 : decode cX8_read 69 = .ok (.ifCond .eq 7, 3) := by decide +kernel
theorem dX8_read_72 : decode cX8_read 72 = .ok (.iconst 1, 1) := by decide +kernel
theorem dX8_read_73 : decode cX8_read 73 = .ok (.goto 4, 3) := by decide +kernel
theorem dX8_read_76 : decode cX8_read 76 = .ok (.iconst 0, 1) := by decide +kernel
theorem dX8_read_77 : decode cX8_read 77 = .ok (.iadd, 1) := by decide +kernel
theorem dX8_read_78 : decode cX8_read 78 = .ok (.istore_n 1, 1) := by decide +kernel
theorem dX8_read_79 : decode cX8_read 79 = .ok (.goto (-28), 3) := by decide +kernel
theorem dX8_read_82 : decode cX8_read 82 = .ok (.aload_n 0, 1) := by decide +kernel
theorem dX8_read_83 : decode cX8_read 83 = .ok (.iconst 0, 1) := by decide +kernel
theorem dX8_read_84 : decode cX8_read 84 = .ok (.putfield 84, 3) := by decide +kernel
theorem dX8_read_87 : decode cX8_read 87 = .ok (.iload_n 2, 1) := by decide +kernel
theorem dX8_read_88 : decode cX8_read 88 = .ok (.ifCond .ne 10, 3) := by decide +kernel
theorem dX8_read_91 : decode cX8_read 91 = .ok (.iconst (-1), 1) := by decide +kernel
theorem dX8_read_92 : decode cX8_read 92 = .ok (.aload_n 0, 1) := by decide +kernel
theorem dX8_read_93 : decode cX8_read 93 = .ok (.getfield 98, 3) := by decide +kernel
theorem dX8_read_96 : decode cX8_read 96 = .ok (.isub, 1) := by decide +kernel
theorem dX8_read_97 : decode cX8_read 97 = .ok (.ireturn, 1) := by decide +kernel
theorem dX8_read_98 : decode cX8_read 98 = .ok (.iconst 0, 1) := by decide +kernel
theorem dX8_read_99 : decode cX8_read 99 = .ok (.istore_n 3, 1) := by decide +kernel
theorem dX8_read_100 : decode cX8_read 100 = .ok (.iload_n 3, 1) := by decide +kernel
theorem dX8_read_101 : decode cX8_read 101 = .ok (.bipush 34, 2) := by decide +kernel
theorem dX8_read_103 : decode cX8_read 103 = .ok (.if_icmp .ge 21, 3) := by decide +kernel
theorem dX8_read_106 : decode cX8_read 106 = .ok (.aload_n 0, 1) := by decide +kernel
theorem dX8_read_107 : decode cX8_read 107 = .ok (.getfield 13, 3) := by decide +kernel
theorem dX8_read_110 : decode cX8_read 110 = .ok (.iload_n 3, 1) := by decide +kernel
theorem dX8_read_111 : decode cX8_read 111 = .ok (.aload_n 0, 1) := by decide +kernel
theorem dX8_read_112 : decode cX8_read 112 = .ok (.getfield 16, 3) := by decide +kernel
theorem dX8_read_115 : decode cX8_read 115 = .ok (.iload_n 3, 1) := by decide +kernel
theorem dX8_read_116 : decode cX8_read 116 = .ok (.iaload, 1) := by decide +kernel
theorem dX8_read_117 : decode cX8_read 117 = .ok (.iastore, 1) := by decide +kernel
theorem dX8_read_118 : decode cX8_read 118 = .ok (.iinc 3 1, 3) := by decide +kernel
theorem dX8_read_121 : decode cX8_read 121 = .ok (.goto (-21), 3) := by decide +kernel
theorem dX8_read_124 : decode cX8_read 124 = .ok (.iload_n 1, 1) := by decide +kernel
theorem dX8_read_125 : decode cX8_read 125 = .ok (.ireturn, 1) := by decide +kernel
theorem dX8_isPerson_0 : decode cX8_isPerson 0 = .ok (.iload_n 1, 1) := by decide +kernel
theorem dX8_isPerson_1 : decode cX8_isPerson 1 = .ok (.ifCond .lt 15, 3) := by decide +kernel
theorem dX8_isPerson_4 : decode cX8_isPerson 4 = .ok (.iload_n 1, 1) := by decide +kernel
theorem dX8_isPerson_5 : decode cX8_isPerson 5 = .ok (.aload_n 0, 1) := by decide +kernel
theorem dX8_isPerson_6 : decode cX8_isPerson 6 = .ok (.getfield 123, 3) := by decide +kernel
theorem dX8_isPerson_9 : decode cX8_isPerson 9 = .ok (.if_icmp .ge 7, 3) := by decide +kernel
theorem dX8_isPerson_12 : decode cX8_isPerson 12 = .ok (.iconst 1, 1) := by decide +kernel
theorem dX8_isPerson_13 : decode cX8_isPerson 13 = .ok (.goto 4, 3) := by decide +kernel
theorem dX8_isPerson_16 : decode cX8_isPerson 16 = .ok (.iconst 0, 1) := by decide +kernel
theorem dX8_isPerson_17 : decode cX8_isPerson 17 = .ok (.ireturn, 1) := by decide +kernel
theorem dX8_isTrip_0 : decode cX8_isTrip 0 = .ok (.iload_n 1, 1) := by decide +kernel
theorem dX8_isTrip_1 : decode cX8_isTrip 1 = .ok (.ifCond .lt 15, 3) := by decide +kernel
theorem dX8_isTrip_4 : decode cX8_isTrip 4 = .ok (.iload_n 1, 1) := by decide +kernel
theorem dX8_isTrip_5 : decode cX8_isTrip 5 = .ok (.aload_n 0, 1) := by decide +kernel
theorem dX8_isTrip_6 : decode cX8_isTrip 6 = .ok (.getfield 126, 3) := by decide +kernel
theorem dX8_isTrip_9 : decode cX8_isTrip 9 = .ok (.if_icmp .ge 7, 3) := by decide +kernel
theorem dX8_isTrip_12 : decode cX8_isTrip 12 = .ok (.iconst 1, 1) := by decide +kernel
theorem dX8_isTrip_13 : decode cX8_isTrip 13 = .ok (.goto 4, 3) := by decide +kernel
theorem dX8_isTrip_16 : decode cX8_isTrip 16 = .ok (.iconst 0, 1) := by decide +kernel
theorem dX8_isTrip_17 : decode cX8_isTrip 17 = .ok (.ireturn, 1) := by decide +kernel
theorem dX8_person_0 : decode cX8_person 0 = .ok (.iload_n 1, 1) := by decide +kernel
theorem dX8_person_1 : decode cX8_person 1 = .ok (.i2l, 1) := by decide +kernel
theorem dX8_person_2 : decode cX8_person 2 = .ok (.lconst 0, 1) := by decide +kernel
theorem dX8_person_3 : decode cX8_person 3 = .ok (.ldc2_w 129, 3) := by decide +kernel
theorem dX8_person_6 : decode cX8_person 6 = .ok (.invokestatic 80, 3) := by decide +kernel
theorem dX8_person_9 : decode cX8_person 9 = .ok (.ifCond .eq 12, 3) := by decide +kernel
theorem dX8_person_12 : decode cX8_person 12 = .ok (.aload_n 0, 1) := by decide +kernel
theorem dX8_person_13 : decode cX8_person 13 = .ok (.getfield 123, 3) := by decide +kernel
theorem dX8_person_16 : decode cX8_person 16 = .ok (.bipush 12, 2) := by decide +kernel
theorem dX8_person_18 : decode cX8_person 18 = .ok (.if_icmp .ne 5, 3) := by decide +kernel
theorem dX8_person_21 : decode cX8_person 21 = .ok (.iconst (-1), 1) := by decide +kernel
theorem dX8_person_22 : decode cX8_person 22 = .ok (.ireturn, 1) := by decide +kernel
theorem dX8_person_23 : decode cX8_person 23 = .ok (.aload_n 0, 1) := by decide +kernel
theorem dX8_person_24 : decode cX8_person 24 = .ok (.getfield 23, 3) := by decide +kernel
theorem dX8_person_27 : decode cX8_person 27 = .ok (.aload_n 0, 1) := by decide +kernel
theorem dX8_person_28 : decode cX8_person 28 = .ok (.getfield 123, 3) := by decide +kernel
theorem dX8_person_31 : decode cX8_person 31 = .ok (.iload_n 1, 1) := by decide +kernel
theorem dX8_person_32 : decode cX8_person 32 = .ok (.iastore, 1) := by decide +kernel
theorem dX8_person_33 : decode cX8_person 33 = .ok (.aload_n 0, 1) := by decide +kernel
theorem dX8_person_34 : decode cX8_person 34 = .ok (.dup, 1) := by decide +kernel
theorem dX8_person_35 : decode cX8_person 35 = .ok (.getfield 123, 3) := by decide +kernel
theorem dX8_person_38 : decode cX8_person 38 = .ok (.iconst 1, 1) := by decide +kernel
theorem dX8_person_39 : decode cX8_person 39 = .ok (.iadd, 1) := by decide +kernel
theorem dX8_person_40 : decode cX8_person 40 = .ok (.putfield 123, 3) := by decide +kernel
theorem dX8_person_43 : decode cX8_person 43 = .ok (.aload_n 0, 1) := by decide +kernel
theorem dX8_person_44 : decode cX8_person 44 = .ok (.getfield 123, 3) := by decide +kernel
theorem dX8_person_47 : decode cX8_person 47 = .ok (.iconst 1, 1) := by decide +kernel
theorem dX8_person_48 : decode cX8_person 48 = .ok (.isub, 1) := by decide +kernel
theorem dX8_person_49 : decode cX8_person 49 = .ok (.ireturn, 1) := by decide +kernel
theorem dX8_advance_0 : decode cX8_advance 0 = .ok (.aload_n 0, 1) := by decide +kernel
theorem dX8_advance_1 : decode cX8_advance 1 = .ok (.iload_n 1, 1) := by decide +kernel
theorem dX8_advance_2 : decode cX8_advance 2 = .ok (.invokevirtual 131, 3) := by decide +kernel
theorem dX8_advance_5 : decode cX8_advance 5 = .ok (.ifCond .eq 14, 3) := by decide +kernel
theorem dX8_advance_8 : decode cX8_advance 8 = .ok (.lload_n 2, 1) := by decide +kernel
theorem dX8_advance_9 : decode cX8_advance 9 = .ok (.lconst 1, 1) := by decide +kernel
theorem dX8_advance_10 : decode cX8_advance 10 = .ok (.ldc2_w 135, 3) := by decide +kernel
theorem dX8_advance_13 : decode cX8_advance 13 = .ok (.invokestatic 80, 3) := by decide +kernel
theorem dX8_advance_16 : decode cX8_advance 16 = .ok (.ifCond .ne 5, 3) := by decide +kernel
theorem dX8_advance_19 : decode cX8_advance 19 = .ok (.iconst 0, 1) := by decide +kernel
theorem dX8_advance_20 : decode cX8_advance 20 = .ok (.ireturn, 1) := by decide +kernel
theorem dX8_advance_21 : decode cX8_advance 21 = .ok (.aload_n 0, 1) := by decide +kernel
theorem dX8_advance_22 : decode cX8_advance 22 = .ok (.getfield 26, 3) := by decide +kernel
theorem dX8_advance_25 : decode cX8_advance 25 = .ok (.iload_n 1, 1) := by decide +kernel
theorem dX8_advance_26 : decode cX8_advance 26 = .ok (.dup2, 1) := by decide +kernel
theorem dX8_advance_27 : decode cX8_advance 27 = .ok (.laload, 1) := by decide +kernel
theorem dX8_advance_28 : decode cX8_advance 28 = .ok (.lload_n 2, 1) := by decide +kernel
theorem dX8_advance_29 : decode cX8_advance 29 = .ok (.ladd, 1) := by decide +kernel
theorem dX8_advance_30 : decode cX8_advance 30 = .ok (.lastore, 1) := by decide +kernel
theorem dX8_advance_31 : decode cX8_advance 31 = .ok (.iconst 1, 1) := by decide +kernel
theorem dX8_advance_32 : decode cX8_advance 32 = .ok (.ireturn, 1) := by decide +kernel
theorem dX8_trip_0 : decode cX8_trip 0 = .ok (.iload_n 1, 1) := by decide +kernel
theorem dX8_trip_1 : decode cX8_trip 1 = .ok (.i2l, 1) := by decide +kernel
theorem dX8_trip_2 : decode cX8_trip 2 = .ok (.lconst 0, 1) := by decide +kernel
theorem dX8_trip_3 : decode cX8_trip 3 = .ok (.ldc2_w 137, 3) := by decide +kernel
theorem dX8_trip_6 : decode cX8_trip 6 = .ok (.invokestatic 80, 3) := by decide +kernel
theorem dX8_trip_9 : decode cX8_trip 9 = .ok (.ifCond .eq 23, 3) := by decide +kernel
theorem dX8_trip_12 : decode cX8_trip 12 = .ok (.lload_n 2, 1) := by decide +kernel
theorem dX8_trip_13 : decode cX8_trip 13 = .ok (.lconst 0, 1) := by decide +kernel
theorem dX8_trip_14 : decode cX8_trip 14 = .ok (.ldc2_w 139, 3) := by decide +kernel
theorem dX8_trip_17 : decode cX8_trip 17 = .ok (.invokestatic 80, 3) := by decide +kernel
theorem dX8_trip_20 : decode cX8_trip 20 = .ok (.ifCond .eq 12, 3) := by decide +kernel
theorem dX8_trip_23 : decode cX8_trip 23 = .ok (.aload_n 0, 1) := by decide +kernel
theorem dX8_trip_24 : decode cX8_trip 24 = .ok (.getfield 126, 3) := by decide +kernel
theorem dX8_trip_27 : decode cX8_trip 27 = .ok (.bipush 20, 2) := by decide +kernel
theorem dX8_trip_29 : decode cX8_trip 29 = .ok (.if_icmp .ne 5, 3) := by decide +kernel
theorem dX8_trip_32 : decode cX8_trip 32 = .ok (.iconst (-1), 1) := by decide +kernel
theorem dX8_trip_33 : decode cX8_trip 33 = .ok (.ireturn, 1) := by decide +kernel
theorem dX8_trip_34 : decode cX8_trip 34 = .ok (.aload_n 0, 1) := by decide +kernel
theorem dX8_trip_35 : decode cX8_trip 35 = .ok (.getfield 29, 3) := by decide +kernel
theorem dX8_trip_38 : decode cX8_trip 38 = .ok (.aload_n 0, 1) := by decide +kernel
theorem dX8_trip_39 : decode cX8_trip 39 = .ok (.getfield 126, 3) := by decide +kernel
theorem dX8_trip_42 : decode cX8_trip 42 = .ok (.iload_n 1, 1) := by decide +kernel
theorem dX8_trip_43 : decode cX8_trip 43 = .ok (.iastore, 1) := by decide +kernel
theorem dX8_trip_44 : decode cX8_trip 44 = .ok (.aload_n 0, 1) := by decide +kernel
theorem dX8_trip_45 : decode cX8_trip 45 = .ok (.getfield 32, 3) := by decide +kernel
theorem dX8_trip_48 : decode cX8_trip 48 = .ok (.aload_n 0, 1) := by decide +kernel
theorem dX8_trip_49 : decode cX8_trip 49 = .ok (.getfield 126, 3) := by decide +kernel
theorem dX8_trip_52 : decode cX8_trip 52 = .ok (.lload_n 2, 1) := by decide +kernel
theorem dX8_trip_53 : decode cX8_trip 53 = .ok (.lastore, 1) := by decide +kernel
theorem dX8_trip_54 : decode cX8_trip 54 = .ok (.aload_n 0, 1) := by decide +kernel
theorem dX8_trip_55 : decode cX8_trip 55 = .ok (.dup, 1) := by decide +kernel
theorem dX8_trip_56 : decode cX8_trip 56 = .ok (.getfield 126, 3) := by decide +kernel
theorem dX8_trip_59 : decode cX8_trip 59 = .ok (.iconst 1, 1) := by decide +kernel
theorem dX8_trip_60 : decode cX8_trip 60 = .ok (.iadd, 1) := by decide +kernel
theorem dX8_trip_61 : decode cX8_trip 61 = .ok (.putfield 126, 3) := by decide +kernel
theorem dX8_trip_64 : decode cX8_trip 64 = .ok (.aload_n 0, 1) := by decide +kernel
theorem dX8_trip_65 : decode cX8_trip 65 = .ok (.getfield 126, 3) := by decide +kernel
theorem dX8_trip_68 : decode cX8_trip 68 = .ok (.iconst 1, 1) := by decide +kernel
theorem dX8_trip_69 : decode cX8_trip 69 = .ok (.isub, 1) := by decide +kernel
theorem dX8_trip_70 : decode cX8_trip 70 = .ok (.ireturn, 1) := by decide +kernel
theorem dX8_cost_0 : decode cX8_cost 0 = .ok (.aload_n 0, 1) := by decide +kernel
theorem dX8_cost_1 : decode cX8_cost 1 = .ok (.iload_n 1, 1) := by decide +kernel
theorem dX8_cost_2 : decode cX8_cost 2 = .ok (.invokevirtual 141, 3) := by decide +kernel
theorem dX8_cost_5 : decode cX8_cost 5 = .ok (.ifCond .eq 35, 3) := by decide +kernel
theorem dX8_cost_8 : decode cX8_cost 8 = .ok (.aload_n 0, 1) := by decide +kernel
theorem dX8_cost_9 : decode cX8_cost 9 = .ok (.getfield 41, 3) := by decide +kernel
theorem dX8_cost_12 : decode cX8_cost 12 = .ok (.iload_n 1, 1) := by decide +kernel
theorem dX8_cost_13 : decode cX8_cost 13 = .ok (.baload, 1) := by decide +kernel
theorem dX8_cost_14 : decode cX8_cost 14 = .ok (.ifCond .ne 26, 3) := by decide +kernel
theorem dX8_cost_17 : decode cX8_cost 17 = .ok (.iload_n 2, 1) := by decide +kernel
theorem dX8_cost_18 : decode cX8_cost 18 = .ok (.i2l, 1) := by decide +kernel
theorem dX8_cost_19 : decode cX8_cost 19 = .ok (.lconst 0, 1) := by decide +kernel
theorem dX8_cost_20 : decode cX8_cost 20 = .ok (.ldc2_w 129, 3) := by decide +kernel
theorem dX8_cost_23 : decode cX8_cost 23 = .ok (.invokestatic 80, 3) := by decide +kernel
theorem dX8_cost_26 : decode cX8_cost 26 = .ok (.ifCond .eq 14, 3) := by decide +kernel
theorem dX8_cost_29 : decode cX8_cost 29 = .ok (.lload_n 3, 1) := by decide +kernel
theorem dX8_cost_30 : decode cX8_cost 30 = .ok (.lconst 1, 1) := by decide +kernel
theorem dX8_cost_31 : decode cX8_cost 31 = .ok (.ldc2_w 135, 3) := by decide +kernel
theorem dX8_cost_34 : decode cX8_cost 34 = .ok (.invokestatic 80, 3) := by decide +kernel
theorem dX8_cost_37 : decode cX8_cost 37 = .ok (.ifCond .ne 5, 3) := by decide +kernel
theorem dX8_cost_40 : decode cX8_cost 40 = .ok (.iconst 0, 1) := by decide +kernel
theorem dX8_cost_41 : decode cX8_cost 41 = .ok (.ireturn, 1) := by decide +kernel
theorem dX8_cost_42 : decode cX8_cost 42 = .ok (.aload_n 0, 1) := by decide +kernel
theorem dX8_cost_43 : decode cX8_cost 43 = .ok (.getfield 35, 3) := by decide +kernel
theorem dX8_cost_46 : decode cX8_cost 46 = .ok (.bipush 10, 2) := by decide +kernel
theorem dX8_cost_48 : decode cX8_cost 48 = .ok (.iload_n 1, 1) := by decide +kernel
theorem dX8_cost_49 : decode cX8_cost 49 = .ok (.imul, 1) := by decide +kernel
theorem dX8_cost_50 : decode cX8_cost 50 = .ok (.iload_n 2, 1) := by decide +kernel
theorem dX8_cost_51 : decode cX8_cost 51 = .ok (.iadd, 1) := by decide +kernel
theorem dX8_cost_52 : decode cX8_cost 52 = .ok (.dup2, 1) := by decide +kernel
theorem dX8_cost_53 : decode cX8_cost 53 = .ok (.laload, 1) := by decide +kernel
theorem dX8_cost_54 : decode cX8_cost 54 = .ok (.lload_n 3, 1) := by decide +kernel
theorem dX8_cost_55 : decode cX8_cost 55 = .ok (.ladd, 1) := by decide +kernel
theorem dX8_cost_56 : decode cX8_cost 56 = .ok (.lastore, 1) := by decide +kernel
theorem dX8_cost_57 : decode cX8_cost 57 = .ok (.iconst 1, 1) := by decide +kernel
theorem dX8_cost_58 : decode cX8_cost 58 = .ok (.ireturn, 1) := by decide +kernel
theorem dX8_days_0 : decode cX8_days 0 = .ok (.aload_n 0, 1) := by decide +kernel
theorem dX8_days_1 : decode cX8_days 1 = .ok (.iload_n 1, 1) := by decide +kernel
theorem dX8_days_2 : decode cX8_days 2 = .ok (.invokevirtual 141, 3) := by decide +kernel
theorem dX8_days_5 : decode cX8_days 5 = .ok (.ifCond .eq 32, 3) := by decide +kernel
theorem dX8_days_8 : decode cX8_days 8 = .ok (.aload_n 0, 1) := by decide +kernel
theorem dX8_days_9 : decode cX8_days 9 = .ok (.iload_n 2, 1) := by decide +kernel
theorem dX8_days_10 : decode cX8_days 10 = .ok (.invokevirtual 131, 3) := by decide +kernel
theorem dX8_days_13 : decode cX8_days 13 = .ok (.ifCond .eq 24, 3) := by decide +kernel
theorem dX8_days_16 : decode cX8_days 16 = .ok (.aload_n 0, 1) := by decide +kernel
theorem dX8_days_17 : decode cX8_days 17 = .ok (.getfield 41, 3) := by decide +kernel
theorem dX8_days_20 : decode cX8_days 20 = .ok (.iload_n 1, 1) := by decide +kernel
theorem dX8_days_21 : decode cX8_days 21 = .ok (.baload, 1) := by decide +kernel
theorem dX8_days_22 : decode cX8_days 22 = .ok (.ifCond .ne 15, 3) := by decide +kernel
theorem dX8_days_25 : decode cX8_days 25 = .ok (.iload_n 3, 1) := by decide +kernel
theorem dX8_days_26 : decode cX8_days 26 = .ok (.i2l, 1) := by decide +kernel
theorem dX8_days_27 : decode cX8_days 27 = .ok (.lconst 0, 1) := by decide +kernel
theorem dX8_days_28 : decode cX8_days 28 = .ok (.ldc2_w 144, 3) := by decide +kernel
theorem dX8_days_31 : decode cX8_days 31 = .ok (.invokestatic 80, 3) := by decide +kernel
theorem dX8_days_34 : decode cX8_days 34 = .ok (.ifCond .ne 5, 3) := by decide +kernel
theorem dX8_days_37 : decode cX8_days 37 = .ok (.iconst (-1), 1) := by decide +kernel
theorem dX8_days_38 : decode cX8_days 38 = .ok (.ireturn, 1) := by decide +kernel
theorem dX8_days_39 : decode cX8_days 39 = .ok (.aload_n 0, 1) := by decide +kernel
theorem dX8_days_40 : decode cX8_days 40 = .ok (.getfield 38, 3) := by decide +kernel
theorem dX8_days_43 : decode cX8_days 43 = .ok (.bipush 12, 2) := by decide +kernel
theorem dX8_days_45 : decode cX8_days 45 = .ok (.iload_n 1, 1) := by decide +kernel
theorem dX8_days_46 : decode cX8_days 46 = .ok (.imul, 1) := by decide +kernel
theorem dX8_days_47 : decode cX8_days 47 = .ok (.iload_n 2, 1) := by decide +kernel
theorem dX8_days_48 : decode cX8_days 48 = .ok (.iadd, 1) := by decide +kernel
theorem dX8_days_49 : decode cX8_days 49 = .ok (.iaload, 1) := by decide +kernel
theorem dX8_days_50 : decode cX8_days 50 = .ok (.istore 4, 2) := by decide +kernel
theorem dX8_days_52 : decode cX8_days 52 = .ok (.aload_n 0, 1) := by decide +kernel
theorem dX8_days_53 : decode cX8_days 53 = .ok (.getfield 38, 3) := by decide +kernel
theorem dX8_days_56 : decode cX8_days 56 = .ok (.bipush 12, 2) := by decide +kernel
theorem dX8_days_58 : decode cX8_days 58 = .ok (.iload_n 1, 1) := by decide +kernel
theorem dX8_days_59 : decode cX8_days 59 = .ok (.imul, 1) := by decide +kernel
theorem dX8_days_60 : decode cX8_days 60 = .ok (.iload_n 2, 1) := by decide +kernel
theorem dX8_days_61 : decode cX8_days 61 = .ok (.iadd, 1) := by decide +kernel
theorem dX8_days_62 : decode cX8_days 62 = .ok (.iload_n 3, 1) := by decide +kernel
theorem dX8_days_63 : decode cX8_days 63 = .ok (.iastore, 1) := by decide +kernel
theorem dX8_days_64 : decode cX8_days 64 = .ok (.iload 4, 2) := by decide +kernel
theorem dX8_days_66 : decode cX8_days 66 = .ok (.ireturn, 1) := by decide +kernel
theorem dX8_costsOf_0 : decode cX8_costsOf 0 = .ok (.lconst 0, 1) := by decide +kernel
theorem dX8_costsOf_1 : decode cX8_costsOf 1 = .ok (.lstore_n 3, 1) := by decide +kernel
theorem dX8_costsOf_2 : decode cX8_costsOf 2 = .ok (.iconst 0, 1) := by decide +kernel
theorem dX8_costsOf_3 : decode cX8_costsOf 3 = .ok (.istore 5, 2) := by decide +kernel
theorem dX8_costsOf_5 : decode cX8_costsOf 5 = .ok (.iload 5, 2) := by decide +kernel
theorem dX8_costsOf_7 : decode cX8_costsOf 7 = .ok (.bipush 10, 2) := by decide +kernel
theorem dX8_costsOf_9 : decode cX8_costsOf 9 = .ok (.if_icmp .ge 41, 3) := by decide +kernel
theorem dX8_costsOf_12 : decode cX8_costsOf 12 = .ok (.lload_n 3, 1) := by decide +kernel
theorem dX8_costsOf_13 : decode cX8_costsOf 13 = .ok (.aload_n 0, 1) := by decide +kernel
theorem dX8_costsOf_14 : decode cX8_costsOf 14 = .ok (.getfield 13, 3) := by decide +kernel
theorem dX8_costsOf_17 : decode cX8_costsOf 17 = .ok (.iconst 2, 1) := by decide +kernel
theorem dX8_costsOf_18 : decode cX8_costsOf 18 = .ok (.iload 5, 2) := by decide +kernel
theorem dX8_costsOf_20 : decode cX8_costsOf 20 = .ok (.iadd, 1) := by decide +kernel
theorem dX8_costsOf_21 : decode cX8_costsOf 21 = .ok (.iaload, 1) := by decide +kernel
theorem dX8_costsOf_22 : decode cX8_costsOf 22 = .ok (.iload_n 2, 1) := by decide +kernel
theorem dX8_costsOf_23 : decode cX8_costsOf 23 = .ok (.if_icmp .ne 18, 3) := by decide +kernel
theorem dX8_costsOf_26 : decode cX8_costsOf 26 = .ok (.aload_n 0, 1) := by decide +kernel
theorem dX8_costsOf_27 : decode cX8_costsOf 27 = .ok (.getfield 35, 3) := by decide +kernel
theorem dX8_costsOf_30 : decode cX8_costsOf 30 = .ok (.bipush 10, 2) := by decide +kernel
theorem dX8_costsOf_32 : decode cX8_costsOf 32 = .ok (.iload_n 1, 1) := by decide +kernel
theorem dX8_costsOf_33 : decode cX8_costsOf 33 = .ok (.imul, 1) := by decide +kernel
theorem dX8_costsOf_34 : decode cX8_costsOf 34 = .ok (.iload 5, 2) := by decide +kernel
theorem dX8_costsOf_36 : decode cX8_costsOf 36 = .ok (.iadd, 1) := by decide +kernel
theorem dX8_costsOf_37 : decode cX8_costsOf 37 = .ok (.laload, 1) := by decide +kernel
theorem dX8_costsOf_38 : decode cX8_costsOf 38 = .ok (.goto 4, 3) := by decide +kernel
theorem dX8_costsOf_41 : decode cX8_costsOf 41 = .ok (.lconst 0, 1) := by decide +kernel
theorem dX8_costsOf_42 : decode cX8_costsOf 42 = .ok (.ladd, 1) := by decide +kernel
theorem dX8_costsOf_43 : decode cX8_costsOf 43 = .ok (.lstore_n 3, 1) := by decide +kernel
theorem dX8_costsOf_44 : decode cX8_costsOf 44 = .ok (.iinc 5 1, 3) := by decide +kernel
theorem dX8_costsOf_47 : decode cX8_costsOf 47 = .ok (.goto (-42), 3) := by decide +kernel
theorem dX8_costsOf_50 : decode cX8_costsOf 50 = .ok (.lload_n 3, 1) := by decide +kernel
theorem dX8_costsOf_51 : decode cX8_costsOf 51 = .ok (.lreturn, 1) := by decide +kernel
theorem dX8_partByCents_0 : decode cX8_partByCents 0 = .ok (.lconst 0, 1) := by decide +kernel
theorem dX8_partByCents_1 : decode cX8_partByCents 1 = .ok (.lstore 4, 2) := by decide +kernel
theorem dX8_partByCents_3 : decode cX8_partByCents 3 = .ok (.iconst 0, 1) := by decide +kernel
theorem dX8_partByCents_4 : decode cX8_partByCents 4 = .ok (.istore 6, 2) := by decide +kernel
theorem dX8_partByCents_6 : decode cX8_partByCents 6 = .ok (.iload 6, 2) := by decide +kernel
theorem dX8_partByCents_8 : decode cX8_partByCents 8 = .ok (.iload_n 3, 1) := by decide +kernel
theorem dX8_partByCents_9 : decode cX8_partByCents 9 = .ok (.if_icmp .ge 21, 3) := by decide +kernel
theorem dX8_partByCents_12 : decode cX8_partByCents 12 = .ok (.lload 4, 2) := by decide +kernel
theorem dX8_partByCents_14 : decode cX8_partByCents 14 = .ok (.aload_n 0, 1) := by decide +kernel
theorem dX8_partByCents_15 : decode cX8_partByCents 15 = .ok (.getfield 51, 3) := by decide +kernel
theorem dX8_partByCents_18 : decode cX8_partByCents 18 = .ok (.iload 6, 2) := by decide +kernel
theorem dX8_partByCents_20 : decode cX8_partByCents 20 = .ok (.laload, 1) := by decide +kernel
theorem dX8_partByCents_21 : decode cX8_partByCents 21 = .ok (.ladd, 1) := by decide +kernel
theorem dX8_partByCents_22 : decode cX8_partByCents 22 = .ok (.lstore 4, 2) := by decide +kernel
theorem dX8_partByCents_24 : decode cX8_partByCents 24 = .ok (.iinc 6 1, 3) := by decide +kernel
theorem dX8_partByCents_27 : decode cX8_partByCents 27 = .ok (.goto (-21), 3) := by decide +kernel
theorem dX8_partByCents_30 : decode cX8_partByCents 30 = .ok (.lload_n 1, 1) := by decide +kernel
theorem dX8_partByCents_31 : decode cX8_partByCents 31 = .ok (.lstore 6, 2) := by decide +kernel
theorem dX8_partByCents_33 : decode cX8_partByCents 33 = .ok (.iconst 0, 1) := by decide +kernel
theorem dX8_partByCents_34 : decode cX8_partByCents 34 = .ok (.istore 8, 2) := by decide +kernel
theorem dX8_partByCents_36 : decode cX8_partByCents 36 = .ok (.iload 8, 2) := by decide +kernel
theorem dX8_partByCents_38 : decode cX8_partByCents 38 = .ok (.iload_n 3, 1) := by decide +kernel
theorem dX8_partByCents_39 : decode cX8_partByCents 39 = .ok (.if_icmp .ge 59, 3) := by decide +kernel
theorem dX8_partByCents_42 : decode cX8_partByCents 42 = .ok (.aload_n 0, 1) := by decide +kernel
theorem dX8_partByCents_43 : decode cX8_partByCents 43 = .ok (.getfield 54, 3) := by decide +kernel
theorem dX8_partByCents_46 : decode cX8_partByCents 46 = .ok (.iload 8, 2) := by decide +kernel
theorem dX8_partByCents_48 : decode cX8_partByCents 48 = .ok (.lload_n 1, 1) := by decide +kernel
theorem dX8_partByCents_49 : decode cX8_partByCents 49 = .ok (.aload_n 0, 1) := by decide +kernel
theorem dX8_partByCents_50 : decode cX8_partByCents 50 = .ok (.getfield 51, 3) := by decide +kernel
theorem dX8_partByCents_53 : decode cX8_partByCents 53 = .ok (.iload 8, 2) := by decide +kernel
theorem dX8_partByCents_55 : decode cX8_partByCents 55 = .ok (.laload, 1) := by decide +kernel
theorem dX8_partByCents_56 : decode cX8_partByCents 56 = .ok (.lmul, 1) := by decide +kernel
theorem dX8_partByCents_57 : decode cX8_partByCents 57 = .ok (.lload 4, 2) := by decide +kernel
theorem dX8_partByCents_59 : decode cX8_partByCents 59 = .ok (.ldiv, 1) := by decide +kernel
theorem dX8_partByCents_60 : decode cX8_partByCents 60 = .ok (.lastore, 1) := by decide +kernel
theorem dX8_partByCents_61 : decode cX8_partByCents 61 = .ok (.aload_n 0, 1) := by decide +kernel
theorem dX8_partByCents_62 : decode cX8_partByCents 62 = .ok (.getfield 57, 3) := by decide +kernel
theorem dX8_partByCents_65 : decode cX8_partByCents 65 = .ok (.iload 8, 2) := by decide +kernel
theorem dX8_partByCents_67 : decode cX8_partByCents 67 = .ok (.lload_n 1, 1) := by decide +kernel
theorem dX8_partByCents_68 : decode cX8_partByCents 68 = .ok (.aload_n 0, 1) := by decide +kernel
theorem dX8_partByCents_69 : decode cX8_partByCents 69 = .ok (.getfield 51, 3) := by decide +kernel
theorem dX8_partByCents_72 : decode cX8_partByCents 72 = .ok (.iload 8, 2) := by decide +kernel
theorem dX8_partByCents_74 : decode cX8_partByCents 74 = .ok (.laload, 1) := by decide +kernel
theorem dX8_partByCents_75 : decode cX8_partByCents 75 = .ok (.lmul, 1) := by decide +kernel
theorem dX8_partByCents_76 : decode cX8_partByCents 76 = .ok (.lload 4, 2) := by decide +kernel
theorem dX8_partByCents_78 : decode cX8_partByCents 78 = .ok (.lrem, 1) := by decide +kernel
theorem dX8_partByCents_79 : decode cX8_partByCents 79 = .ok (.lastore, 1) := by decide +kernel
theorem dX8_partByCents_80 : decode cX8_partByCents 80 = .ok (.lload 6, 2) := by decide +kernel
theorem dX8_partByCents_82 : decode cX8_partByCents 82 = .ok (.aload_n 0, 1) := by decide +kernel
theorem dX8_partByCents_83 : decode cX8_partByCents 83 = .ok (.getfield 54, 3) := by decide +kernel
theorem dX8_partByCents_86 : decode cX8_partByCents 86 = .ok (.iload 8, 2) := by decide +kernel
theorem dX8_partByCents_88 : decode cX8_partByCents 88 = .ok (.laload, 1) := by decide +kernel
theorem dX8_partByCents_89 : decode cX8_partByCents 89 = .ok (.lsub, 1) := by decide +kernel
theorem dX8_partByCents_90 : decode cX8_partByCents 90 = .ok (.lstore 6, 2) := by decide +kernel
theorem dX8_partByCents_92 : decode cX8_partByCents 92 = .ok (.iinc 8 1, 3) := by decide +kernel
theorem dX8_partByCents_95 : decode cX8_partByCents 95 = .ok (.goto (-59), 3) := by decide +kernel
theorem dX8_partByCents_98 : decode cX8_partByCents 98 = .ok (.lload 6, 2) := by decide +kernel
theorem dX8_partByCents_100 : decode cX8_partByCents 100 = .ok (.lconst 0, 1) := by decide +kernel
theorem dX8_partByCents_101 : decode cX8_partByCents 101 = .ok (.lcmp, 1) := by decide +kernel
theorem dX8_partByCents_102 : decode cX8_partByCents 102 = .ok (.ifCond .le 78, 3) := by decide +kernel
theorem dX8_partByCents_105 : decode cX8_partByCents 105 = .ok (.iconst 0, 1) := by decide +kernel
theorem dX8_partByCents_106 : decode cX8_partByCents 106 = .ok (.istore 8, 2) := by decide +kernel
theorem dX8_partByCents_108 : decode cX8_partByCents 108 = .ok (.iconst 1, 1) := by decide +kernel
theorem dX8_partByCents_109 : decode cX8_partByCents 109 = .ok (.istore 9, 2) := by decide +kernel
theorem dX8_partByCents_111 : decode cX8_partByCents 111 = .ok (.iload 9, 2) := by decide +kernel
theorem dX8_partByCents_113 : decode cX8_partByCents 113 = .ok (.iload_n 3, 1) := by decide +kernel
theorem dX8_partByCents_114 : decode cX8_partByCents 114 = .ok (.if_icmp .ge 36, 3) := by decide +kernel
theorem dX8_partByCents_117 : decode cX8_partByCents 117 = .ok (.aload_n 0, 1) := by decide +kernel
theorem dX8_partByCents_118 : decode cX8_partByCents 118 = .ok (.getfield 57, 3) := by decide +kernel
theorem dX8_partByCents_121 : decode cX8_partByCents 121 = .ok (.iload 9, 2) := by decide +kernel
theorem dX8_partByCents_123 : decode cX8_partByCents 123 = .ok (.laload, 1) := by decide +kernel
theorem dX8_partByCents_124 : decode cX8_partByCents 124 = .ok (.aload_n 0, 1) := by decide +kernel
theorem dX8_partByCents_125 : decode cX8_partByCents 125 = .ok (.getfield 57, 3) := by decide +kernel
theorem dX8_partByCents_128 : decode cX8_partByCents 128 = .ok (.iload 8, 2) := by decide +kernel
theorem dX8_partByCents_130 : decode cX8_partByCents 130 = .ok (.laload, 1) := by decide +kernel
theorem dX8_partByCents_131 : decode cX8_partByCents 131 = .ok (.lcmp, 1) := by decide +kernel
theorem dX8_partByCents_132 : decode cX8_partByCents 132 = .ok (.ifCond .le 8, 3) := by decide +kernel
theorem dX8_partByCents_135 : decode cX8_partByCents 135 = .ok (.iload 9, 2) := by decide +kernel
theorem dX8_partByCents_137 : decode cX8_partByCents 137 = .ok (.goto 5, 3) := by decide +kernel
theorem dX8_partByCents_140 : decode cX8_partByCents 140 = .ok (.iload 8, 2) := by decide +kernel
theorem dX8_partByCents_142 : decode cX8_partByCents 142 = .ok (.istore 8, 2) := by decide +kernel
theorem dX8_partByCents_144 : decode cX8_partByCents 144 = .ok (.iinc 9 1, 3) := by decide +kernel
theorem dX8_partByCents_147 : decode cX8_partByCents 147 = .ok (.goto (-36), 3) := by decide +kernel
theorem dX8_partByCents_150 : decode cX8_partByCents 150 = .ok (.aload_n 0, 1) := by decide +kernel
theorem dX8_partByCents_151 : decode cX8_partByCents 151 = .ok (.getfield 54, 3) := by decide +kernel
theorem dX8_partByCents_154 : decode cX8_partByCents 154 = .ok (.iload 8, 2) := by decide +kernel
theorem dX8_partByCents_156 : decode cX8_partByCents 156 = .ok (.dup2, 1) := by decide +kernel
theorem dX8_partByCents_157 : decode cX8_partByCents 157 = .ok (.laload, 1) := by decide +kernel
theorem dX8_partByCents_158 : decode cX8_partByCents 158 = .ok (.lconst 1, 1) := by decide +kernel
theorem dX8_partByCents_159 : decode cX8_partByCents 159 = .ok (.ladd, 1) := by decide +kernel
theorem dX8_partByCents_160 : decode cX8_partByCents 160 = .ok (.lastore, 1) := by decide +kernel
theorem dX8_partByCents_161 : decode cX8_partByCents 161 = .ok (.aload_n 0, 1) := by decide +kernel
theorem dX8_partByCents_162 : decode cX8_partByCents 162 = .ok (.getfield 57, 3) := by decide +kernel
theorem dX8_partByCents_165 : decode cX8_partByCents 165 = .ok (.iload 8, 2) := by decide +kernel
theorem dX8_partByCents_167 : decode cX8_partByCents 167 = .ok (.ldc2_w 146, 3) := by decide +kernel
theorem dX8_partByCents_170 : decode cX8_partByCents 170 = .ok (.lastore, 1) := by decide +kernel
theorem dX8_partByCents_171 : decode cX8_partByCents 171 = .ok (.lload 6, 2) := by decide +kernel
theorem dX8_partByCents_173 : decode cX8_partByCents 173 = .ok (.lconst 1, 1) := by decide +kernel
theorem dX8_partByCents_174 : decode cX8_partByCents 174 = .ok (.lsub, 1) := by decide +kernel
theorem dX8_partByCents_175 : decode cX8_partByCents 175 = .ok (.lstore 6, 2) := by decide +kernel
theorem dX8_partByCents_177 : decode cX8_partByCents 177 = .ok (.goto (-79), 3) := by decide +kernel
theorem dX8_partByCents_180 : decode cX8_partByCents 180 = .ok (.return_, 1) := by decide +kernel
theorem dX8_settle_0 : decode cX8_settle 0 = .ok (.aload_n 0, 1) := by decide +kernel
theorem dX8_settle_1 : decode cX8_settle 1 = .ok (.iload_n 1, 1) := by decide +kernel
theorem dX8_settle_2 : decode cX8_settle 2 = .ok (.invokevirtual 141, 3) := by decide +kernel
theorem dX8_settle_5 : decode cX8_settle 5 = .ok (.ifCond .eq 12, 3) := by decide +kernel
theorem dX8_settle_8 : decode cX8_settle 8 = .ok (.aload_n 0, 1) := by decide +kernel
theorem dX8_settle_9 : decode cX8_settle 9 = .ok (.getfield 41, 3) := by decide +kernel
theorem dX8_settle_12 : decode cX8_settle 12 = .ok (.iload_n 1, 1) := by decide +kernel
theorem dX8_settle_13 : decode cX8_settle 13 = .ok (.baload, 1) := by decide +kernel
theorem dX8_settle_14 : decode cX8_settle 14 = .ok (.ifCond .eq 5, 3) := by decide +kernel
theorem dX8_settle_17 : decode cX8_settle 17 = .ok (.iconst (-1), 1) := by decide +kernel
theorem dX8_settle_18 : decode cX8_settle 18 = .ok (.ireturn, 1) := by decide +kernel
theorem dX8_settle_19 : decode cX8_settle 19 = .ok (.aload_n 0, 1) := by decide +kernel
theorem dX8_settle_20 : decode cX8_settle 20 = .ok (.getfield 41, 3) := by decide +kernel
theorem dX8_settle_23 : decode cX8_settle 23 = .ok (.iload_n 1, 1) := by decide +kernel
theorem dX8_settle_24 : decode cX8_settle 24 = .ok (.iconst 1, 1) := by decide +kernel
theorem dX8_settle_25 : decode cX8_settle 25 = .ok (.bastore, 1) := by decide +kernel
theorem dX8_settle_26 : decode cX8_settle 26 = .ok (.aload_n 0, 1) := by decide +kernel
theorem dX8_settle_27 : decode cX8_settle 27 = .ok (.getfield 29, 3) := by decide +kernel
theorem dX8_settle_30 : decode cX8_settle 30 = .ok (.iload_n 1, 1) := by decide +kernel
theorem dX8_settle_31 : decode cX8_settle 31 = .ok (.iaload, 1) := by decide +kernel
theorem dX8_settle_32 : decode cX8_settle 32 = .ok (.istore_n 2, 1) := by decide +kernel
theorem dX8_settle_33 : decode cX8_settle 33 = .ok (.aload_n 0, 1) := by decide +kernel
theorem dX8_settle_34 : decode cX8_settle 34 = .ok (.getfield 32, 3) := by decide +kernel
theorem dX8_settle_37 : decode cX8_settle 37 = .ok (.iload_n 1, 1) := by decide +kernel
theorem dX8_settle_38 : decode cX8_settle 38 = .ok (.laload, 1) := by decide +kernel
theorem dX8_settle_39 : decode cX8_settle 39 = .ok (.aload_n 0, 1) := by decide +kernel
theorem dX8_settle_40 : decode cX8_settle 40 = .ok (.iload_n 1, 1) := by decide +kernel
theorem dX8_settle_41 : decode cX8_settle 41 = .ok (.iconst 0, 1) := by decide +kernel
theorem dX8_settle_42 : decode cX8_settle 42 = .ok (.invokevirtual 148, 3) := by decide +kernel
theorem dX8_settle_45 : decode cX8_settle 45 = .ok (.lsub, 1) := by decide +kernel
theorem dX8_settle_46 : decode cX8_settle 46 = .ok (.aload_n 0, 1) := by decide +kernel
theorem dX8_settle_47 : decode cX8_settle 47 = .ok (.getfield 19, 3) := by decide +kernel
theorem dX8_settle_50 : decode cX8_settle 50 = .ok (.iload_n 2, 1) := by decide +kernel
theorem dX8_settle_51 : decode cX8_settle 51 = .ok (.laload, 1) := by decide +kernel
theorem dX8_settle_52 : decode cX8_settle 52 = .ok (.lsub, 1) := by decide +kernel
theorem dX8_settle_53 : decode cX8_settle 53 = .ok (.lstore_n 3, 1) := by decide +kernel
theorem dX8_settle_54 : decode cX8_settle 54 = .ok (.aload_n 0, 1) := by decide +kernel
theorem dX8_settle_55 : decode cX8_settle 55 = .ok (.getfield 45, 3) := by decide +kernel
theorem dX8_settle_58 : decode cX8_settle 58 = .ok (.bipush 6, 2) := by decide +kernel
theorem dX8_settle_60 : decode cX8_settle 60 = .ok (.iload_n 1, 1) := by decide +kernel
theorem dX8_settle_61 : decode cX8_settle 61 = .ok (.imul, 1) := by decide +kernel
theorem dX8_settle_62 : decode cX8_settle 62 = .ok (.iconst 4, 1) := by decide +kernel
theorem dX8_settle_63 : decode cX8_settle 63 = .ok (.iadd, 1) := by decide +kernel
theorem dX8_settle_64 : decode cX8_settle 64 = .ok (.aload_n 0, 1) := by decide +kernel
theorem dX8_settle_65 : decode cX8_settle 65 = .ok (.getfield 19, 3) := by decide +kernel
theorem dX8_settle_68 : decode cX8_settle 68 = .ok (.iload_n 2, 1) := by decide +kernel
theorem dX8_settle_69 : decode cX8_settle 69 = .ok (.laload, 1) := by decide +kernel
theorem dX8_settle_70 : decode cX8_settle 70 = .ok (.lastore, 1) := by decide +kernel
theorem dX8_settle_71 : decode cX8_settle 71 = .ok (.aload_n 0, 1) := by decide +kernel
theorem dX8_settle_72 : decode cX8_settle 72 = .ok (.getfield 19, 3) := by decide +kernel
theorem dX8_settle_75 : decode cX8_settle 75 = .ok (.iload_n 2, 1) := by decide +kernel
theorem dX8_settle_76 : decode cX8_settle 76 = .ok (.lload_n 3, 1) := by decide +kernel
theorem dX8_settle_77 : decode cX8_settle 77 = .ok (.lconst 0, 1) := by decide +kernel
theorem dX8_settle_78 : decode cX8_settle 78 = .ok (.lcmp, 1) := by decide +kernel
theorem dX8_settle_79 : decode cX8_settle 79 = .ok (.ifCond .ge 8, 3) := by decide +kernel
theorem dX8_settle_82 : decode cX8_settle 82 = .ok (.lload_n 3, 1) := by decide +kernel
theorem dX8_settle_83 : decode cX8_settle 83 = .ok (.lneg, 1) := by decide +kernel
theorem dX8_settle_84 : decode cX8_settle 84 = .ok (.goto 4, 3) := by decide +kernel
theorem dX8_settle_87 : decode cX8_settle 87 = .ok (.lconst 0, 1) := by decide +kernel
theorem dX8_settle_88 : decode cX8_settle 88 = .ok (.lastore, 1) := by decide +kernel
theorem dX8_settle_89 : decode cX8_settle 89 = .ok (.lload_n 3, 1) := by decide +kernel
theorem dX8_settle_90 : decode cX8_settle 90 = .ok (.lconst 0, 1) := by decide +kernel
theorem dX8_settle_91 : decode cX8_settle 91 = .ok (.lcmp, 1) := by decide +kernel
theorem dX8_settle_92 : decode cX8_settle 92 = .ok (.ifCond .ge 7, 3) := by decide +kernel
theorem dX8_settle_95 : decode cX8_settle 95 = .ok (.lconst 0, 1) := by decide +kernel
theorem dX8_settle_96 : decode cX8_settle 96 = .ok (.goto 4, 3) := by decide +kernel
theorem dX8_settle_99 : decode cX8_settle 99 = .ok (.lload_n 3, 1) := by decide +kernel
theorem dX8_settle_100 : decode cX8_settle 100 = .ok (.lstore_n 3, 1) := by decide +kernel
theorem dX8_settle_101 : decode cX8_settle 101 = .ok (.aload_n 0, 1) := by decide +kernel
theorem dX8_settle_102 : decode cX8_settle 102 = .ok (.getfield 45, 3) := by decide +kernel
theorem dX8_settle_105 : decode cX8_settle 105 = .ok (.bipush 6, 2) := by decide +kernel
theorem dX8_settle_107 : decode cX8_settle 107 = .ok (.iload_n 1, 1) := by decide +kernel
theorem dX8_settle_108 : decode cX8_settle 108 = .ok (.imul, 1) := by decide +kernel
theorem dX8_settle_109 : decode cX8_settle 109 = .ok (.iconst 5, 1) := by decide +kernel
theorem dX8_settle_110 : decode cX8_settle 110 = .ok (.iadd, 1) := by decide +kernel
theorem dX8_settle_111 : decode cX8_settle 111 = .ok (.aload_n 0, 1) := by decide +kernel
theorem dX8_settle_112 : decode cX8_settle 112 = .ok (.getfield 19, 3) := by decide +kernel
theorem dX8_settle_115 : decode cX8_settle 115 = .ok (.iload_n 2, 1) := by decide +kernel
theorem dX8_settle_116 : decode cX8_settle 116 = .ok (.laload, 1) := by decide +kernel
theorem dX8_settle_117 : decode cX8_settle 117 = .ok (.lastore, 1) := by decide +kernel
theorem dX8_settle_118 : decode cX8_settle 118 = .ok (.aload_n 0, 1) := by decide +kernel
theorem dX8_settle_119 : decode cX8_settle 119 = .ok (.getfield 45, 3) := by decide +kernel
theorem dX8_settle_122 : decode cX8_settle 122 = .ok (.bipush 6, 2) := by decide +kernel
theorem dX8_settle_124 : decode cX8_settle 124 = .ok (.iload_n 1, 1) := by decide +kernel
theorem dX8_settle_125 : decode cX8_settle 125 = .ok (.imul, 1) := by decide +kernel
theorem dX8_settle_126 : decode cX8_settle 126 = .ok (.lload_n 3, 1) := by decide +kernel
theorem dX8_settle_127 : decode cX8_settle 127 = .ok (.lastore, 1) := by decide +kernel
theorem dX8_settle_128 : decode cX8_settle 128 = .ok (.aload_n 0, 1) := by decide +kernel
theorem dX8_settle_129 : decode cX8_settle 129 = .ok (.getfield 51, 3) := by decide +kernel
theorem dX8_settle_132 : decode cX8_settle 132 = .ok (.iconst 0, 1) := by decide +kernel
theorem dX8_settle_133 : decode cX8_settle 133 = .ok (.aload_n 0, 1) := by decide +kernel
theorem dX8_settle_134 : decode cX8_settle 134 = .ok (.getfield 13, 3) := by decide +kernel
theorem dX8_settle_137 : decode cX8_settle 137 = .ok (.iconst 0, 1) := by decide +kernel
theorem dX8_settle_138 : decode cX8_settle 138 = .ok (.iaload, 1) := by decide +kernel
theorem dX8_settle_139 : decode cX8_settle 139 = .ok (.i2l, 1) := by decide +kernel
theorem dX8_settle_140 : decode cX8_settle 140 = .ok (.lastore, 1) := by decide +kernel
theorem dX8_settle_141 : decode cX8_settle 141 = .ok (.aload_n 0, 1) := by decide +kernel
theorem dX8_settle_142 : decode cX8_settle 142 = .ok (.getfield 51, 3) := by decide +kernel
theorem dX8_settle_145 : decode cX8_settle 145 = .ok (.iconst 1, 1) := by decide +kernel
theorem dX8_settle_146 : decode cX8_settle 146 = .ok (.aload_n 0, 1) := by decide +kernel
theorem dX8_settle_147 : decode cX8_settle 147 = .ok (.getfield 13, 3) := by decide +kernel
theorem dX8_settle_150 : decode cX8_settle 150 = .ok (.iconst 1, 1) := by decide +kernel
theorem dX8_settle_151 : decode cX8_settle 151 = .ok (.iaload, 1) := by decide +kernel
theorem dX8_settle_152 : decode cX8_settle 152 = .ok (.i2l, 1) := by decide +kernel
theorem dX8_settle_153 : decode cX8_settle 153 = .ok (.lastore, 1) := by decide +kernel
theorem dX8_settle_154 : decode cX8_settle 154 = .ok (.aload_n 0, 1) := by decide +kernel
theorem dX8_settle_155 : decode cX8_settle 155 = .ok (.getfield 51, 3) := by decide +kernel
theorem dX8_settle_158 : decode cX8_settle 158 = .ok (.iconst 2, 1) := by decide +kernel
theorem dX8_settle_159 : decode cX8_settle 159 = .ok (.bipush 100, 2) := by decide +kernel
theorem dX8_settle_161 : decode cX8_settle 161 = .ok (.aload_n 0, 1) := by decide +kernel
theorem dX8_settle_162 : decode cX8_settle 162 = .ok (.getfield 13, 3) := by decide +kernel
theorem dX8_settle_165 : decode cX8_settle 165 = .ok (.iconst 0, 1) := by decide +kernel
theorem dX8_settle_166 : decode cX8_settle 166 = .ok (.iaload, 1) := by decide +kernel
theorem dX8_settle_167 : decode cX8_settle 167 = .ok (.isub, 1) := by decide +kernel
theorem dX8_settle_168 : decode cX8_settle 168 = .ok (.aload_n 0, 1) := by decide +kernel
theorem dX8_settle_169 : decode cX8_settle 169 = .ok (.getfield 13, 3) := by decide +kernel
theorem dX8_settle_172 : decode cX8_settle 172 = .ok (.iconst 1, 1) := by decide +kernel
theorem dX8_settle_173 : decode cX8_settle 173 = .ok (.iaload, 1) := by decide +kernel
theorem dX8_settle_174 : decode cX8_settle 174 = .ok (.isub, 1) := by decide +kernel
theorem dX8_settle_175 : decode cX8_settle 175 = .ok (.i2l, 1) := by decide +kernel
theorem dX8_settle_176 : decode cX8_settle 176 = .ok (.lastore, 1) := by decide +kernel
theorem dX8_settle_177 : decode cX8_settle 177 = .ok (.aload_n 0, 1) := by decide +kernel
theorem dX8_settle_178 : decode cX8_settle 178 = .ok (.lload_n 3, 1) := by decide +kernel
theorem dX8_settle_179 : decode cX8_settle 179 = .ok (.iconst 3, 1) := by decide +kernel
theorem dX8_settle_180 : decode cX8_settle 180 = .ok (.invokevirtual 152, 3) := by decide +kernel
theorem dX8_settle_183 : decode cX8_settle 183 = .ok (.aload_n 0, 1) := by decide +kernel
theorem dX8_settle_184 : decode cX8_settle 184 = .ok (.getfield 54, 3) := by decide +kernel
theorem dX8_settle_187 : decode cX8_settle 187 = .ok (.iconst 0, 1) := by decide +kernel
theorem dX8_settle_188 : decode cX8_settle 188 = .ok (.laload, 1) := by decide +kernel
theorem dX8_settle_189 : decode cX8_settle 189 = .ok (.aload_n 0, 1) := by decide +kernel
theorem dX8_settle_190 : decode cX8_settle 190 = .ok (.iload_n 1, 1) := by decide +kernel
theorem dX8_settle_191 : decode cX8_settle 191 = .ok (.iconst 2, 1) := by decide +kernel
theorem dX8_settle_192 : decode cX8_settle 192 = .ok (.invokevirtual 148, 3) := by decide +kernel
theorem dX8_settle_195 : decode cX8_settle 195 = .ok (.lsub, 1) := by decide +kernel
theorem dX8_settle_196 : decode cX8_settle 196 = .ok (.lstore 5, 2) := by decide +kernel
theorem dX8_settle_198 : decode cX8_settle 198 = .ok (.aload_n 0, 1) := by decide +kernel
theorem dX8_settle_199 : decode cX8_settle 199 = .ok (.getfield 45, 3) := by decide +kernel
theorem dX8_settle_202 : decode cX8_settle 202 = .ok (.bipush 6, 2) := by decide +kernel
theorem dX8_settle_204 : decode cX8_settle 204 = .ok (.iload_n 1, 1) := by decide +kernel
theorem dX8_settle_205 : decode cX8_settle 205 = .ok (.imul, 1) := by decide +kernel
theorem dX8_settle_206 : decode cX8_settle 206 = .ok (.iconst 2, 1) := by decide +kernel
theorem dX8_settle_207 : decode cX8_settle 207 = .ok (.iadd, 1) := by decide +kernel
theorem dX8_settle_208 : decode cX8_settle 208 = .ok (.aload_n 0, 1) := by decide +kernel
theorem dX8_settle_209 : decode cX8_settle 209 = .ok (.getfield 54, 3) := by decide +kernel
theorem dX8_settle_212 : decode cX8_settle 212 = .ok (.iconst 1, 1) := by decide +kernel
theorem dX8_settle_213 : decode cX8_settle 213 = .ok (.laload, 1) := by decide +kernel
theorem dX8_settle_214 : decode cX8_settle 214 = .ok (.lastore, 1) := by decide +kernel
theorem dX8_settle_215 : decode cX8_settle 215 = .ok (.aload_n 0, 1) := by decide +kernel
theorem dX8_settle_216 : decode cX8_settle 216 = .ok (.getfield 54, 3) := by decide +kernel
theorem dX8_settle_219 : decode cX8_settle 219 = .ok (.iconst 2, 1) := by decide +kernel
theorem dX8_settle_220 : decode cX8_settle 220 = .ok (.laload, 1) := by decide +kernel
theorem dX8_settle_221 : decode cX8_settle 221 = .ok (.aload_n 0, 1) := by decide +kernel
theorem dX8_settle_222 : decode cX8_settle 222 = .ok (.iload_n 1, 1) := by decide +kernel
theorem dX8_settle_223 : decode cX8_settle 223 = .ok (.iconst 1, 1) := by decide +kernel
theorem dX8_settle_224 : decode cX8_settle 224 = .ok (.invokevirtual 148, 3) := by decide +kernel
theorem dX8_settle_227 : decode cX8_settle 227 = .ok (.lsub, 1) := by decide +kernel
theorem dX8_settle_228 : decode cX8_settle 228 = .ok (.lstore 7, 2) := by decide +kernel
theorem dX8_settle_230 : decode cX8_settle 230 = .ok (.lload 5, 2) := by decide +kernel
theorem dX8_settle_232 : decode cX8_settle 232 = .ok (.lload 7, 2) := by decide +kernel
theorem dX8_settle_234 : decode cX8_settle 234 = .ok (.lconst 0, 1) := by decide +kernel
theorem dX8_settle_235 : decode cX8_settle 235 = .ok (.lcmp, 1) := by decide +kernel
theorem dX8_settle_236 : decode cX8_settle 236 = .ok (.ifCond .ge 8, 3) := by decide +kernel
theorem dX8_settle_239 : decode cX8_settle 239 = .ok (.lload 7, 2) := by decide +kernel
theorem dX8_settle_241 : decode cX8_settle 241 = .ok (.goto 4, 3) := by decide +kernel
theorem dX8_settle_244 : decode cX8_settle 244 = .ok (.lconst 0, 1) := by decide +kernel
theorem dX8_settle_245 : decode cX8_settle 245 = .ok (.ladd, 1) := by decide +kernel
theorem dX8_settle_246 : decode cX8_settle 246 = .ok (.lstore 5, 2) := by decide +kernel
theorem dX8_settle_248 : decode cX8_settle 248 = .ok (.lload 7, 2) := by decide +kernel
theorem dX8_settle_250 : decode cX8_settle 250 = .ok (.lconst 0, 1) := by decide +kernel
theorem dX8_settle_251 : decode cX8_settle 251 = .ok (.lcmp, 1) := by decide +kernel
theorem dX8_settle_252 : decode cX8_settle 252 = .ok (.ifCond .ge 7, 3) := by decide +kernel
theorem dX8_settle_255 : decode cX8_settle 255 = .ok (.lconst 0, 1) := by decide +kernel
theorem dX8_settle_256 : decode cX8_settle 256 = .ok (.goto 5, 3) := by decide +kernel
theorem dX8_settle_259 : decode cX8_settle 259 = .ok (.lload 7, 2) := by decide +kernel
theorem dX8_settle_261 : decode cX8_settle 261 = .ok (.lstore 7, 2) := by decide +kernel
theorem dX8_settle_263 : decode cX8_settle 263 = .ok (.aload_n 0, 1) := by decide +kernel
theorem dX8_settle_264 : decode cX8_settle 264 = .ok (.getfield 45, 3) := by decide +kernel
theorem dX8_settle_267 : decode cX8_settle 267 = .ok (.bipush 6, 2) := by decide +kernel
theorem dX8_settle_269 : decode cX8_settle 269 = .ok (.iload_n 1, 1) := by decide +kernel
theorem dX8_settle_270 : decode cX8_settle 270 = .ok (.imul, 1) := by decide +kernel
theorem dX8_settle_271 : decode cX8_settle 271 = .ok (.iconst 3, 1) := by decide +kernel
theorem dX8_settle_272 : decode cX8_settle 272 = .ok (.iadd, 1) := by decide +kernel
theorem dX8_settle_273 : decode cX8_settle 273 = .ok (.lload 7, 2) := by decide +kernel
theorem dX8_settle_275 : decode cX8_settle 275 = .ok (.lastore, 1) := by decide +kernel
theorem dX8_settle_276 : decode cX8_settle 276 = .ok (.lconst 0, 1) := by decide +kernel
theorem dX8_settle_277 : decode cX8_settle 277 = .ok (.lstore 9, 2) := by decide +kernel
theorem dX8_settle_279 : decode cX8_settle 279 = .ok (.iconst 0, 1) := by decide +kernel
theorem dX8_settle_280 : decode cX8_settle 280 = .ok (.istore 11, 2) := by decide +kernel
theorem dX8_settle_282 : decode cX8_settle 282 = .ok (.iconst 0, 1) := by decide +kernel
theorem dX8_settle_283 : decode cX8_settle 283 = .ok (.istore 12, 2) := by decide +kernel
theorem dX8_settle_285 : decode cX8_settle 285 = .ok (.iload 12, 2) := by decide +kernel
theorem dX8_settle_287 : decode cX8_settle 287 = .ok (.aload_n 0, 1) := by decide +kernel
theorem dX8_settle_288 : decode cX8_settle 288 = .ok (.getfield 123, 3) := by decide +kernel
theorem dX8_settle_291 : decode cX8_settle 291 = .ok (.if_icmp .ge 85, 3) := by decide +kernel
theorem dX8_settle_294 : decode cX8_settle 294 = .ok (.aload_n 0, 1) := by decide +kernel
theorem dX8_settle_295 : decode cX8_settle 295 = .ok (.getfield 38, 3) := by decide +kernel
theorem dX8_settle_298 : decode cX8_settle 298 = .ok (.bipush 12, 2) := by decide +kernel
theorem dX8_settle_300 : decode cX8_settle 300 = .ok (.iload_n 1, 1) := by decide +kernel
theorem dX8_settle_301 : decode cX8_settle 301 = .ok (.imul, 1) := by decide +kernel
theorem dX8_settle_302 : decode cX8_settle 302 = .ok (.iload 12, 2) := by decide +kernel
theorem dX8_settle_304 : decode cX8_settle 304 = .ok (.iadd, 1) := by decide +kernel
theorem dX8_settle_305 : decode cX8_settle 305 = .ok (.iaload, 1) := by decide +kernel
theorem dX8_settle_306 : decode cX8_settle 306 = .ok (.istore 13, 2) := by decide +kernel
theorem dX8_settle_308 : decode cX8_settle 308 = .ok (.aload_n 0, 1) := by decide +kernel
theorem dX8_settle_309 : decode cX8_settle 309 = .ok (.getfield 51, 3) := by decide +kernel
theorem dX8_settle_312 : decode cX8_settle 312 = .ok (.iload 12, 2) := by decide +kernel
theorem dX8_settle_314 : decode cX8_settle 314 = .ok (.iload 13, 2) := by decide +kernel
theorem dX8_settle_316 : decode cX8_settle 316 = .ok (.i2l, 1) := by decide +kernel
theorem dX8_settle_317 : decode cX8_settle 317 = .ok (.aload_n 0, 1) := by decide +kernel
theorem dX8_settle_318 : decode cX8_settle 318 = .ok (.getfield 13, 3) := by decide +kernel
theorem dX8_settle_321 : decode cX8_settle 321 = .ok (.bipush 12, 2) := by decide +kernel
theorem dX8_settle_323 : decode cX8_settle 323 = .ok (.aload_n 0, 1) := by decide +kernel
theorem dX8_settle_324 : decode cX8_settle 324 = .ok (.getfield 23, 3) := by decide +kernel
theorem dX8_settle_327 : decode cX8_settle 327 = .ok (.iload 12, 2) := by decide +kernel
theorem dX8_settle_329 : decode cX8_settle 329 = .ok (.iaload, 1) := by decide +kernel
theorem dX8_settle_330 : decode cX8_settle 330 = .ok (.iadd, 1) := by decide +kernel
theorem dX8_settle_331 : decode cX8_settle 331 = .ok (.iaload, 1) := by decide +kernel
theorem dX8_settle_332 : decode cX8_settle 332 = .ok (.i2l, 1) := by decide +kernel
theorem dX8_settle_333 : decode cX8_settle 333 = .ok (.lmul, 1) := by decide +kernel
theorem dX8_settle_334 : decode cX8_settle 334 = .ok (.lastore, 1) := by decide +kernel
theorem dX8_settle_335 : decode cX8_settle 335 = .ok (.aload_n 0, 1) := by decide +kernel
theorem dX8_settle_336 : decode cX8_settle 336 = .ok (.getfield 54, 3) := by decide +kernel
theorem dX8_settle_339 : decode cX8_settle 339 = .ok (.iload 12, 2) := by decide +kernel
theorem dX8_settle_341 : decode cX8_settle 341 = .ok (.lconst 0, 1) := by decide +kernel
theorem dX8_settle_342 : decode cX8_settle 342 = .ok (.lastore, 1) := by decide +kernel
theorem dX8_settle_343 : decode cX8_settle 343 = .ok (.lload 9, 2) := by decide +kernel
theorem dX8_settle_345 : decode cX8_settle 345 = .ok (.aload_n 0, 1) := by decide +kernel
theorem dX8_settle_346 : decode cX8_settle 346 = .ok (.getfield 51, 3) := by decide +kernel
theorem dX8_settle_349 : decode cX8_settle 349 = .ok (.iload 12, 2) := by decide +kernel
theorem dX8_settle_351 : decode cX8_settle 351 = .ok (.laload, 1) := by decide +kernel
theorem dX8_settle_352 : decode cX8_settle 352 = .ok (.ladd, 1) := by decide +kernel
theorem dX8_settle_353 : decode cX8_settle 353 = .ok (.lstore 9, 2) := by decide +kernel
theorem dX8_settle_355 : decode cX8_settle 355 = .ok (.iload 11, 2) := by decide +kernel
theorem dX8_settle_357 : decode cX8_settle 357 = .ok (.iload 13, 2) := by decide +kernel
theorem dX8_settle_359 : decode cX8_settle 359 = .ok (.ifCond .le 7, 3) := by decide +kernel
theorem dX8_settle_362 : decode cX8_settle 362 = .ok (.iconst 1, 1) := by decide +kernel
theorem dX8_settle_363 : decode cX8_settle 363 = .ok (.goto 4, 3) := by decide +kernel
theorem dX8_settle_366 : decode cX8_settle 366 = .ok (.iconst 0, 1) := by decide +kernel
theorem dX8_settle_367 : decode cX8_settle 367 = .ok (.iadd, 1) := by decide +kernel
theorem dX8_settle_368 : decode cX8_settle 368 = .ok (.istore 11, 2) := by decide +kernel
theorem dX8_settle_370 : decode cX8_settle 370 = .ok (.iinc 12 1, 3) := by decide +kernel
theorem dX8_settle_373 : decode cX8_settle 373 = .ok (.goto (-88), 3) := by decide +kernel
theorem dX8_settle_376 : decode cX8_settle 376 = .ok (.lload 9, 2) := by decide +kernel
theorem dX8_settle_378 : decode cX8_settle 378 = .ok (.lconst 0, 1) := by decide +kernel
theorem dX8_settle_379 : decode cX8_settle 379 = .ok (.lcmp, 1) := by decide +kernel
theorem dX8_settle_380 : decode cX8_settle 380 = .ok (.ifCond .le 16, 3) := by decide +kernel
theorem dX8_settle_383 : decode cX8_settle 383 = .ok (.aload_n 0, 1) := by decide +kernel
theorem dX8_settle_384 : decode cX8_settle 384 = .ok (.lload 7, 2) := by decide +kernel
theorem dX8_settle_386 : decode cX8_settle 386 = .ok (.aload_n 0, 1) := by decide +kernel
theorem dX8_settle_387 : decode cX8_settle 387 = .ok (.getfield 123, 3) := by decide +kernel
theorem dX8_settle_390 : decode cX8_settle 390 = .ok (.invokevirtual 152, 3) := by decide +kernel
theorem dX8_settle_393 : decode cX8_settle 393 = .ok (.goto 10, 3) := by decide +kernel
theorem dX8_settle_396 : decode cX8_settle 396 = .ok (.lload 5, 2) := by decide +kernel
theorem dX8_settle_398 : decode cX8_settle 398 = .ok (.lload 7, 2) := by decide +kernel
theorem dX8_settle_400 : decode cX8_settle 400 = .ok (.ladd, 1) := by decide +kernel
theorem dX8_settle_401 : decode cX8_settle 401 = .ok (.lstore 5, 2) := by decide +kernel
theorem dX8_settle_403 : decode cX8_settle 403 = .ok (.iconst 0, 1) := by decide +kernel
theorem dX8_settle_404 : decode cX8_settle 404 = .ok (.istore 12, 2) := by decide +kernel
theorem dX8_settle_406 : decode cX8_settle 406 = .ok (.iload 12, 2) := by decide +kernel
theorem dX8_settle_408 : decode cX8_settle 408 = .ok (.aload_n 0, 1) := by decide +kernel
theorem dX8_settle_409 : decode cX8_settle 409 = .ok (.getfield 123, 3) := by decide +kernel
theorem dX8_settle_412 : decode cX8_settle 412 = .ok (.if_icmp .ge 189, 3) := by decide +kernel
theorem dX8_settle_415 : decode cX8_settle 415 = .ok (.bipush 48, 2) := by decide +kernel
theorem dX8_settle_417 : decode cX8_settle 417 = .ok (.iload_n 1, 1) := by decide +kernel
theorem dX8_settle_418 : decode cX8_settle 418 = .ok (.imul, 1) := by decide +kernel
theorem dX8_settle_419 : decode cX8_settle 419 = .ok (.iconst 4, 1) := by decide +kernel
theorem dX8_settle_420 : decode cX8_settle 420 = .ok (.iload 12, 2) := by decide +kernel
theorem dX8_settle_422 : decode cX8_settle 422 = .ok (.imul, 1) := by decide +kernel
theorem dX8_settle_423 : decode cX8_settle 423 = .ok (.iadd, 1) := by decide +kernel
theorem dX8_settle_424 : decode cX8_settle 424 = .ok (.istore 13, 2) := by decide +kernel
theorem dX8_settle_426 : decode cX8_settle 426 = .ok (.aload_n 0, 1) := by decide +kernel
theorem dX8_settle_427 : decode cX8_settle 427 = .ok (.getfield 38, 3) := by decide +kernel
theorem dX8_settle_430 : decode cX8_settle 430 = .ok (.bipush 12, 2) := by decide +kernel
theorem dX8_settle_432 : decode cX8_settle 432 = .ok (.iload_n 1, 1) := by decide +kernel
theorem dX8_settle_433 : decode cX8_settle 433 = .ok (.imul, 1) := by decide +kernel
theorem dX8_settle_434 : decode cX8_settle 434 = .ok (.iload 12, 2) := by decide +kernel
theorem dX8_settle_436 : decode cX8_settle 436 = .ok (.iadd, 1) := by decide +kernel
theorem dX8_settle_437 : decode cX8_settle 437 = .ok (.iaload, 1) := by decide +kernel
theorem dX8_settle_438 : decode cX8_settle 438 = .ok (.i2l, 1) := by decide +kernel
theorem dX8_settle_439 : decode cX8_settle 439 = .ok (.aload_n 0, 1) := by decide +kernel
theorem dX8_settle_440 : decode cX8_settle 440 = .ok (.getfield 13, 3) := by decide +kernel
theorem dX8_settle_443 : decode cX8_settle 443 = .ok (.bipush 22, 2) := by decide +kernel
theorem dX8_settle_445 : decode cX8_settle 445 = .ok (.aload_n 0, 1) := by decide +kernel
theorem dX8_settle_446 : decode cX8_settle 446 = .ok (.getfield 23, 3) := by decide +kernel
theorem dX8_settle_449 : decode cX8_settle 449 = .ok (.iload 12, 2) := by decide +kernel
theorem dX8_settle_451 : decode cX8_settle 451 = .ok (.iaload, 1) := by decide +kernel
theorem dX8_settle_452 : decode cX8_settle 452 = .ok (.iadd, 1) := by decide +kernel
theorem dX8_settle_453 : decode cX8_settle 453 = .ok (.iaload, 1) := by decide +kernel
theorem dX8_settle_454 : decode cX8_settle 454 = .ok (.i2l, 1) := by decide +kernel
theorem dX8_settle_455 : decode cX8_settle 455 = .ok (.lmul, 1) := by decide +kernel
theorem dX8_settle_456 : decode cX8_settle 456 = .ok (.lstore 14, 2) := by decide +kernel
theorem dX8_settle_458 : decode cX8_settle 458 = .ok (.lload 14, 2) := by decide +kernel
theorem dX8_settle_460 : decode cX8_settle 460 = .ok (.aload_n 0, 1) := by decide +kernel
theorem dX8_settle_461 : decode cX8_settle 461 = .ok (.getfield 54, 3) := by decide +kernel
theorem dX8_settle_464 : decode cX8_settle 464 = .ok (.iload 12, 2) := by decide +kernel
theorem dX8_settle_466 : decode cX8_settle 466 = .ok (.laload, 1) := by decide +kernel
theorem dX8_settle_467 : decode cX8_settle 467 = .ok (.lcmp, 1) := by decide +kernel
theorem dX8_settle_468 : decode cX8_settle 468 = .ok (.ifCond .le 16, 3) := by decide +kernel
theorem dX8_settle_471 : decode cX8_settle 471 = .ok (.lload 14, 2) := by decide +kernel
theorem dX8_settle_473 : decode cX8_settle 473 = .ok (.aload_n 0, 1) := by decide +kernel
theorem dX8_settle_474 : decode cX8_settle 474 = .ok (.getfield 54, 3) := by decide +kernel
theorem dX8_settle_477 : decode cX8_settle 477 = .ok (.iload 12, 2) := by decide +kernel
theorem dX8_settle_479 : decode cX8_settle 479 = .ok (.laload, 1) := by decide +kernel
theorem dX8_settle_480 : decode cX8_settle 480 = .ok (.lsub, 1) := by decide +kernel
theorem dX8_settle_481 : decode cX8_settle 481 = .ok (.goto 4, 3) := by decide +kernel
theorem dX8_settle_484 : decode cX8_settle 484 = .ok (.lconst 0, 1) := by decide +kernel
theorem dX8_settle_485 : decode cX8_settle 485 = .ok (.lstore 16, 2) := by decide +kernel
theorem dX8_settle_487 : decode cX8_settle 487 = .ok (.aload_n 0, 1) := by decide +kernel
theorem dX8_settle_488 : decode cX8_settle 488 = .ok (.getfield 54, 3) := by decide +kernel
theorem dX8_settle_491 : decode cX8_settle 491 = .ok (.iload 12, 2) := by decide +kernel
theorem dX8_settle_493 : decode cX8_settle 493 = .ok (.laload, 1) := by decide +kernel
theorem dX8_settle_494 : decode cX8_settle 494 = .ok (.lload 16, 2) := by decide +kernel
theorem dX8_settle_496 : decode cX8_settle 496 = .ok (.ladd, 1) := by decide +kernel
theorem dX8_settle_497 : decode cX8_settle 497 = .ok (.lstore 18, 2) := by decide +kernel
theorem dX8_settle_499 : decode cX8_settle 499 = .ok (.aload_n 0, 1) := by decide +kernel
theorem dX8_settle_500 : decode cX8_settle 500 = .ok (.getfield 26, 3) := by decide +kernel
theorem dX8_settle_503 : decode cX8_settle 503 = .ok (.iload 12, 2) := by decide +kernel
theorem dX8_settle_505 : decode cX8_settle 505 = .ok (.laload, 1) := by decide +kernel
theorem dX8_settle_506 : decode cX8_settle 506 = .ok (.lload 18, 2) := by decide +kernel
theorem dX8_settle_508 : decode cX8_settle 508 = .ok (.lcmp, 1) := by decide +kernel
theorem dX8_settle_509 : decode cX8_settle 509 = .ok (.ifCond .ge 13, 3) := by decide +kernel
theorem dX8_settle_512 : decode cX8_settle 512 = .ok (.aload_n 0, 1) := by decide +kernel
theorem dX8_settle_513 : decode cX8_settle 513 = .ok (.getfield 26, 3) := by decide +kernel
theorem dX8_settle_516 : decode cX8_settle 516 = .ok (.iload 12, 2) := by decide +kernel
theorem dX8_settle_518 : decode cX8_settle 518 = .ok (.laload, 1) := by decide +kernel
theorem dX8_settle_519 : decode cX8_settle 519 = .ok (.goto 5, 3) := by decide +kernel
theorem dX8_settle_522 : decode cX8_settle 522 = .ok (.lload 18, 2) := by decide +kernel
theorem dX8_settle_524 : decode cX8_settle 524 = .ok (.lstore 20, 2) := by decide +kernel
theorem dX8_settle_526 : decode cX8_settle 526 = .ok (.lload 5, 2) := by decide +kernel
theorem dX8_settle_528 : decode cX8_settle 528 = .ok (.lload 16, 2) := by decide +kernel
theorem dX8_settle_530 : decode cX8_settle 530 = .ok (.lsub, 1) := by decide +kernel
theorem dX8_settle_531 : decode cX8_settle 531 = .ok (.lstore 5, 2) := by decide +kernel
theorem dX8_settle_533 : decode cX8_settle 533 = .ok (.aload_n 0, 1) := by decide +kernel
theorem dX8_settle_534 : decode cX8_settle 534 = .ok (.getfield 26, 3) := by decide +kernel
theorem dX8_settle_537 : decode cX8_settle 537 = .ok (.iload 12, 2) := by decide +kernel
theorem dX8_settle_539 : decode cX8_settle 539 = .ok (.dup2, 1) := by decide +kernel
theorem dX8_settle_540 : decode cX8_settle 540 = .ok (.laload, 1) := by decide +kernel
theorem dX8_settle_541 : decode cX8_settle 541 = .ok (.lload 20, 2) := by decide +kernel
theorem dX8_settle_543 : decode cX8_settle 543 = .ok (.lsub, 1) := by decide +kernel
theorem dX8_settle_544 : decode cX8_settle 544 = .ok (.lastore, 1) := by decide +kernel
theorem dX8_settle_545 : decode cX8_settle 545 = .ok (.aload_n 0, 1) := by decide +kernel
theorem dX8_settle_546 : decode cX8_settle 546 = .ok (.getfield 48, 3) := by decide +kernel
theorem dX8_settle_549 : decode cX8_settle 549 = .ok (.iload 13, 2) := by decide +kernel
theorem dX8_settle_551 : decode cX8_settle 551 = .ok (.aload_n 0, 1) := by decide +kernel
theorem dX8_settle_552 : decode cX8_settle 552 = .ok (.getfield 54, 3) := by decide +kernel
theorem dX8_settle_555 : decode cX8_settle 555 = .ok (.iload 12, 2) := by decide +kernel
theorem dX8_settle_557 : decode cX8_settle 557 = .ok (.laload, 1) := by decide +kernel
theorem dX8_settle_558 : decode cX8_settle 558 = .ok (.lastore, 1) := by decide +kernel
theorem dX8_settle_559 : decode cX8_settle 559 = .ok (.aload_n 0, 1) := by decide +kernel
theorem dX8_settle_560 : decode cX8_settle 560 = .ok (.getfield 48, 3) := by decide +kernel
theorem dX8_settle_563 : decode cX8_settle 563 = .ok (.iload 13, 2) := by decide +kernel
theorem dX8_settle_565 : decode cX8_settle 565 = .ok (.iconst 1, 1) := by decide +kernel
theorem dX8_settle_566 : decode cX8_settle 566 = .ok (.iadd, 1) := by decide +kernel
theorem dX8_settle_567 : decode cX8_settle 567 = .ok (.lload 16, 2) := by decide +kernel
theorem dX8_settle_569 : decode cX8_settle 569 = .ok (.lastore, 1) := by decide +kernel
theorem dX8_settle_570 : decode cX8_settle 570 = .ok (.aload_n 0, 1) := by decide +kernel
theorem dX8_settle_571 : decode cX8_settle 571 = .ok (.getfield 48, 3) := by decide +kernel
theorem dX8_settle_574 : decode cX8_settle 574 = .ok (.iload 13, 2) := by decide +kernel
theorem dX8_settle_576 : decode cX8_settle 576 = .ok (.iconst 2, 1) := by decide +kernel
theorem dX8_settle_577 : decode cX8_settle 577 = .ok (.iadd, 1) := by decide +kernel
theorem dX8_settle_578 : decode cX8_settle 578 = .ok (.lload 20, 2) := by decide +kernel
theorem dX8_settle_580 : decode cX8_settle 580 = .ok (.lastore, 1) := by decide +kernel
theorem dX8_settle_581 : decode cX8_settle 581 = .ok (.aload_n 0, 1) := by decide +kernel
theorem dX8_settle_582 : decode cX8_settle 582 = .ok (.getfield 48, 3) := by decide +kernel
theorem dX8_settle_585 : decode cX8_settle 585 = .ok (.iload 13, 2) := by decide +kernel
theorem dX8_settle_587 : decode cX8_settle 587 = .ok (.iconst 3, 1) := by decide +kernel
theorem dX8_settle_588 : decode cX8_settle 588 = .ok (.iadd, 1) := by decide +kernel
theorem dX8_settle_589 : decode cX8_settle 589 = .ok (.lload 18, 2) := by decide +kernel
theorem dX8_settle_591 : decode cX8_settle 591 = .ok (.lload 20, 2) := by decide +kernel
theorem dX8_settle_593 : decode cX8_settle 593 = .ok (.lsub, 1) := by decide +kernel
theorem dX8_settle_594 : decode cX8_settle 594 = .ok (.lastore, 1) := by decide +kernel
theorem dX8_settle_595 : decode cX8_settle 595 = .ok (.iinc 12 1, 3) := by decide +kernel
theorem dX8_settle_598 : decode cX8_settle 598 = .ok (.goto (-192), 3) := by decide +kernel
theorem dX8_settle_601 : decode cX8_settle 601 = .ok (.aload_n 0, 1) := by decide +kernel
theorem dX8_settle_602 : decode cX8_settle 602 = .ok (.getfield 45, 3) := by decide +kernel
theorem dX8_settle_605 : decode cX8_settle 605 = .ok (.bipush 6, 2) := by decide +kernel
theorem dX8_settle_607 : decode cX8_settle 607 = .ok (.iload_n 1, 1) := by decide +kernel
theorem dX8_settle_608 : decode cX8_settle 608 = .ok (.imul, 1) := by decide +kernel
theorem dX8_settle_609 : decode cX8_settle 609 = .ok (.iconst 1, 1) := by decide +kernel
theorem dX8_settle_610 : decode cX8_settle 610 = .ok (.iadd, 1) := by decide +kernel
theorem dX8_settle_611 : decode cX8_settle 611 = .ok (.lload 5, 2) := by decide +kernel
theorem dX8_settle_613 : decode cX8_settle 613 = .ok (.lastore, 1) := by decide +kernel
theorem dX8_settle_614 : decode cX8_settle 614 = .ok (.iload 11, 2) := by decide +kernel
theorem dX8_settle_616 : decode cX8_settle 616 = .ok (.ireturn, 1) := by decide +kernel
theorem dX8_part_0 : decode cX8_part 0 = .ok (.aload_n 0, 1) := by decide +kernel
theorem dX8_part_1 : decode cX8_part 1 = .ok (.iload_n 1, 1) := by decide +kernel
theorem dX8_part_2 : decode cX8_part 2 = .ok (.invokevirtual 141, 3) := by decide +kernel
theorem dX8_part_5 : decode cX8_part 5 = .ok (.ifCond .eq 38, 3) := by decide +kernel
theorem dX8_part_8 : decode cX8_part 8 = .ok (.aload_n 0, 1) := by decide +kernel
theorem dX8_part_9 : decode cX8_part 9 = .ok (.getfield 41, 3) := by decide +kernel
theorem dX8_part_12 : decode cX8_part 12 = .ok (.iload_n 1, 1) := by decide +kernel
theorem dX8_part_13 : decode cX8_part 13 = .ok (.baload, 1) := by decide +kernel
theorem dX8_part_14 : decode cX8_part 14 = .ok (.ifCond .eq 29, 3) := by decide +kernel
theorem dX8_part_17 : decode cX8_part 17 = .ok (.iload_n 2, 1) := by decide +kernel
theorem dX8_part_18 : decode cX8_part 18 = .ok (.i2l, 1) := by decide +kernel
theorem dX8_part_19 : decode cX8_part 19 = .ok (.lconst 0, 1) := by decide +kernel
theorem dX8_part_20 : decode cX8_part 20 = .ok (.ldc2_w 156, 3) := by decide +kernel
theorem dX8_part_23 : decode cX8_part 23 = .ok (.invokestatic 80, 3) := by decide +kernel
theorem dX8_part_26 : decode cX8_part 26 = .ok (.ifCond .eq 17, 3) := by decide +kernel
theorem dX8_part_29 : decode cX8_part 29 = .ok (.aload_n 0, 1) := by decide +kernel
theorem dX8_part_30 : decode cX8_part 30 = .ok (.getfield 45, 3) := by decide +kernel
theorem dX8_part_33 : decode cX8_part 33 = .ok (.bipush 6, 2) := by decide +kernel
theorem dX8_part_35 : decode cX8_part 35 = .ok (.iload_n 1, 1) := by decide +kernel
theorem dX8_part_36 : decode cX8_part 36 = .ok (.imul, 1) := by decide +kernel
theorem dX8_part_37 : decode cX8_part 37 = .ok (.iload_n 2, 1) := by decide +kernel
theorem dX8_part_38 : decode cX8_part 38 = .ok (.iadd, 1) := by decide +kernel
theorem dX8_part_39 : decode cX8_part 39 = .ok (.laload, 1) := by decide +kernel
theorem dX8_part_40 : decode cX8_part 40 = .ok (.goto 6, 3) := by decide +kernel
theorem dX8_part_43 : decode cX8_part 43 = .ok (.ldc2_w 158, 3) := by decide +kernel
theorem dX8_part_46 : decode cX8_part 46 = .ok (.lreturn, 1) := by decide +kernel
theorem dX8_share_0 : decode cX8_share 0 = .ok (.aload_n 0, 1) := by decide +kernel
theorem dX8_share_1 : decode cX8_share 1 = .ok (.iload_n 1, 1) := by decide +kernel
theorem dX8_share_2 : decode cX8_share 2 = .ok (.invokevirtual 141, 3) := by decide +kernel
theorem dX8_share_5 : decode cX8_share 5 = .ok (.ifCond .eq 50, 3) := by decide +kernel
theorem dX8_share_8 : decode cX8_share 8 = .ok (.aload_n 0, 1) := by decide +kernel
theorem dX8_share_9 : decode cX8_share 9 = .ok (.getfield 41, 3) := by decide +kernel
theorem dX8_share_12 : decode cX8_share 12 = .ok (.iload_n 1, 1) := by decide +kernel
theorem dX8_share_13 : decode cX8_share 13 = .ok (.baload, 1) := by decide +kernel
theorem dX8_share_14 : decode cX8_share 14 = .ok (.ifCond .eq 41, 3) := by decide +kernel
theorem dX8_share_17 : decode cX8_share 17 = .ok (.aload_n 0, 1) := by decide +kernel
theorem dX8_share_18 : decode cX8_share 18 = .ok (.iload_n 2, 1) := by decide +kernel
theorem dX8_share_19 : decode cX8_share 19 = .ok (.invokevirtual 131, 3) := by decide +kernel
theorem dX8_share_22 : decode cX8_share 22 = .ok (.ifCond .eq 33, 3) := by decide +kernel
theorem dX8_share_25 : decode cX8_share 25 = .ok (.iload_n 3, 1) := by decide +kernel
theorem dX8_share_26 : decode cX8_share 26 = .ok (.i2l, 1) := by decide +kernel
theorem dX8_share_27 : decode cX8_share 27 = .ok (.lconst 0, 1) := by decide +kernel
theorem dX8_share_28 : decode cX8_share 28 = .ok (.ldc2_w 137, 3) := by decide +kernel
theorem dX8_share_31 : decode cX8_share 31 = .ok (.invokestatic 80, 3) := by decide +kernel
theorem dX8_share_34 : decode cX8_share 34 = .ok (.ifCond .eq 21, 3) := by decide +kernel
theorem dX8_share_37 : decode cX8_share 37 = .ok (.aload_n 0, 1) := by decide +kernel
theorem dX8_share_38 : decode cX8_share 38 = .ok (.getfield 48, 3) := by decide +kernel
theorem dX8_share_41 : decode cX8_share 41 = .ok (.bipush 48, 2) := by decide +kernel
theorem dX8_share_43 : decode cX8_share 43 = .ok (.iload_n 1, 1) := by decide +kernel
theorem dX8_share_44 : decode cX8_share 44 = .ok (.imul, 1) := by decide +kernel
theorem dX8_share_45 : decode cX8_share 45 = .ok (.iconst 4, 1) := by decide +kernel
theorem dX8_share_46 : decode cX8_share 46 = .ok (.iload_n 2, 1) := by decide +kernel
theorem dX8_share_47 : decode cX8_share 47 = .ok (.imul, 1) := by decide +kernel
theorem dX8_share_48 : decode cX8_share 48 = .ok (.iadd, 1) := by decide +kernel
theorem dX8_share_49 : decode cX8_share 49 = .ok (.iload_n 3, 1) := by decide +kernel
theorem dX8_share_50 : decode cX8_share 50 = .ok (.iadd, 1) := by decide +kernel
theorem dX8_share_51 : decode cX8_share 51 = .ok (.laload, 1) := by decide +kernel
theorem dX8_share_52 : decode cX8_share 52 = .ok (.goto 6, 3) := by decide +kernel
theorem dX8_share_55 : decode cX8_share 55 = .ok (.ldc2_w 158, 3) := by decide +kernel
theorem dX8_share_58 : decode cX8_share 58 = .ok (.lreturn, 1) := by decide +kernel
theorem dX8_carried_0 : decode cX8_carried 0 = .ok (.iload_n 1, 1) := by decide +kernel
theorem dX8_carried_1 : decode cX8_carried 1 = .ok (.i2l, 1) := by decide +kernel
theorem dX8_carried_2 : decode cX8_carried 2 = .ok (.lconst 0, 1) := by decide +kernel
theorem dX8_carried_3 : decode cX8_carried 3 = .ok (.ldc2_w 137, 3) := by decide +kernel
theorem dX8_carried_6 : decode cX8_carried 6 = .ok (.invokestatic 80, 3) := by decide +kernel
theorem dX8_carried_9 : decode cX8_carried 9 = .ok (.ifCond .eq 12, 3) := by decide +kernel
theorem dX8_carried_12 : decode cX8_carried 12 = .ok (.aload_n 0, 1) := by decide +kernel
theorem dX8_carried_13 : decode cX8_carried 13 = .ok (.getfield 19, 3) := by decide +kernel
theorem dX8_carried_16 : decode cX8_carried 16 = .ok (.iload_n 1, 1) := by decide +kernel
theorem dX8_carried_17 : decode cX8_carried 17 = .ok (.laload, 1) := by decide +kernel
theorem dX8_carried_18 : decode cX8_carried 18 = .ok (.goto 29, 3) := by decide +kernel
theorem dX8_carried_21 : decode cX8_carried 21 = .ok (.aload_n 0, 1) := by decide +kernel
theorem dX8_carried_22 : decode cX8_carried 22 = .ok (.iload_n 1, 1) := by decide +kernel
theorem dX8_carried_23 : decode cX8_carried 23 = .ok (.bipush 100, 2) := by decide +kernel
theorem dX8_carried_25 : decode cX8_carried 25 = .ok (.isub, 1) := by decide +kernel
theorem dX8_carried_26 : decode cX8_carried 26 = .ok (.invokevirtual 131, 3) := by decide +kernel
theorem dX8_carried_29 : decode cX8_carried 29 = .ok (.ifCond .eq 15, 3) := by decide +kernel
theorem dX8_carried_32 : decode cX8_carried 32 = .ok (.aload_n 0, 1) := by decide +kernel
theorem dX8_carried_33 : decode cX8_carried 33 = .ok (.getfield 26, 3) := by decide +kernel
theorem dX8_carried_36 : decode cX8_carried 36 = .ok (.iload_n 1, 1) := by decide +kernel
theorem dX8_carried_37 : decode cX8_carried 37 = .ok (.bipush 100, 2) := by decide +kernel
theorem dX8_carried_39 : decode cX8_carried 39 = .ok (.isub, 1) := by decide +kernel
theorem dX8_carried_40 : decode cX8_carried 40 = .ok (.laload, 1) := by decide +kernel
theorem dX8_carried_41 : decode cX8_carried 41 = .ok (.goto 6, 3) := by decide +kernel
theorem dX8_carried_44 : decode cX8_carried 44 = .ok (.ldc2_w 146, 3) := by decide +kernel
theorem dX8_carried_47 : decode cX8_carried 47 = .ok (.lreturn, 1) := by decide +kernel
theorem dX8_sums_0 : decode cX8_sums 0 = .ok (.aload_n 0, 1) := by decide +kernel
theorem dX8_sums_1 : decode cX8_sums 1 = .ok (.iload_n 1, 1) := by decide +kernel
theorem dX8_sums_2 : decode cX8_sums 2 = .ok (.invokevirtual 141, 3) := by decide +kernel
theorem dX8_sums_5 : decode cX8_sums 5 = .ok (.ifCond .eq 12, 3) := by decide +kernel
theorem dX8_sums_8 : decode cX8_sums 8 = .ok (.aload_n 0, 1) := by decide +kernel
theorem dX8_sums_9 : decode cX8_sums 9 = .ok (.getfield 41, 3) := by decide +kernel
theorem dX8_sums_12 : decode cX8_sums 12 = .ok (.iload_n 1, 1) := by decide +kernel
theorem dX8_sums_13 : decode cX8_sums 13 = .ok (.baload, 1) := by decide +kernel
theorem dX8_sums_14 : decode cX8_sums 14 = .ok (.ifCond .ne 5, 3) := by decide +kernel
theorem dX8_sums_17 : decode cX8_sums 17 = .ok (.iconst 0, 1) := by decide +kernel
theorem dX8_sums_18 : decode cX8_sums 18 = .ok (.ireturn, 1) := by decide +kernel
theorem dX8_sums_19 : decode cX8_sums 19 = .ok (.aload_n 0, 1) := by decide +kernel
theorem dX8_sums_20 : decode cX8_sums 20 = .ok (.getfield 45, 3) := by decide +kernel
theorem dX8_sums_23 : decode cX8_sums 23 = .ok (.bipush 6, 2) := by decide +kernel
theorem dX8_sums_25 : decode cX8_sums 25 = .ok (.iload_n 1, 1) := by decide +kernel
theorem dX8_sums_26 : decode cX8_sums 26 = .ok (.imul, 1) := by decide +kernel
theorem dX8_sums_27 : decode cX8_sums 27 = .ok (.iconst 1, 1) := by decide +kernel
theorem dX8_sums_28 : decode cX8_sums 28 = .ok (.iadd, 1) := by decide +kernel
theorem dX8_sums_29 : decode cX8_sums 29 = .ok (.laload, 1) := by decide +kernel
theorem dX8_sums_30 : decode cX8_sums 30 = .ok (.aload_n 0, 1) := by decide +kernel
theorem dX8_sums_31 : decode cX8_sums 31 = .ok (.getfield 45, 3) := by decide +kernel
theorem dX8_sums_34 : decode cX8_sums 34 = .ok (.bipush 6, 2) := by decide +kernel
theorem dX8_sums_36 : decode cX8_sums 36 = .ok (.iload_n 1, 1) := by decide +kernel
theorem dX8_sums_37 : decode cX8_sums 37 = .ok (.imul, 1) := by decide +kernel
theorem dX8_sums_38 : decode cX8_sums 38 = .ok (.iconst 2, 1) := by decide +kernel
theorem dX8_sums_39 : decode cX8_sums 39 = .ok (.iadd, 1) := by decide +kernel
theorem dX8_sums_40 : decode cX8_sums 40 = .ok (.laload, 1) := by decide +kernel
theorem dX8_sums_41 : decode cX8_sums 41 = .ok (.ladd, 1) := by decide +kernel
theorem dX8_sums_42 : decode cX8_sums 42 = .ok (.lstore_n 2, 1) := by decide +kernel
theorem dX8_sums_43 : decode cX8_sums 43 = .ok (.iconst 0, 1) := by decide +kernel
theorem dX8_sums_44 : decode cX8_sums 44 = .ok (.istore 4, 2) := by decide +kernel
theorem dX8_sums_46 : decode cX8_sums 46 = .ok (.iload 4, 2) := by decide +kernel
theorem dX8_sums_48 : decode cX8_sums 48 = .ok (.bipush 12, 2) := by decide +kernel
theorem dX8_sums_50 : decode cX8_sums 50 = .ok (.if_icmp .ge 43, 3) := by decide +kernel
theorem dX8_sums_53 : decode cX8_sums 53 = .ok (.lload_n 2, 1) := by decide +kernel
theorem dX8_sums_54 : decode cX8_sums 54 = .ok (.aload_n 0, 1) := by decide +kernel
theorem dX8_sums_55 : decode cX8_sums 55 = .ok (.getfield 48, 3) := by decide +kernel
theorem dX8_sums_58 : decode cX8_sums 58 = .ok (.bipush 48, 2) := by decide +kernel
theorem dX8_sums_60 : decode cX8_sums 60 = .ok (.iload_n 1, 1) := by decide +kernel
theorem dX8_sums_61 : decode cX8_sums 61 = .ok (.imul, 1) := by decide +kernel
theorem dX8_sums_62 : decode cX8_sums 62 = .ok (.iconst 4, 1) := by decide +kernel
theorem dX8_sums_63 : decode cX8_sums 63 = .ok (.iload 4, 2) := by decide +kernel
theorem dX8_sums_65 : decode cX8_sums 65 = .ok (.imul, 1) := by decide +kernel
theorem dX8_sums_66 : decode cX8_sums 66 = .ok (.iadd, 1) := by decide +kernel
theorem dX8_sums_67 : decode cX8_sums 67 = .ok (.laload, 1) := by decide +kernel
theorem dX8_sums_68 : decode cX8_sums 68 = .ok (.aload_n 0, 1) := by decide +kernel
theorem dX8_sums_69 : decode cX8_sums 69 = .ok (.getfield 48, 3) := by decide +kernel
theorem dX8_sums_72 : decode cX8_sums 72 = .ok (.bipush 48, 2) := by decide +kernel
theorem dX8_sums_74 : decode cX8_sums 74 = .ok (.iload_n 1, 1) := by decide +kernel
theorem dX8_sums_75 : decode cX8_sums 75 = .ok (.imul, 1) := by decide +kernel
theorem dX8_sums_76 : decode cX8_sums 76 = .ok (.iconst 4, 1) := by decide +kernel
theorem dX8_sums_77 : decode cX8_sums 77 = .ok (.iload 4, 2) := by decide +kernel
theorem dX8_sums_79 : decode cX8_sums 79 = .ok (.imul, 1) := by decide +kernel
theorem dX8_sums_80 : decode cX8_sums 80 = .ok (.iadd, 1) := by decide +kernel
theorem dX8_sums_81 : decode cX8_sums 81 = .ok (.iconst 1, 1) := by decide +kernel
theorem dX8_sums_82 : decode cX8_sums 82 = .ok (.iadd, 1) := by decide +kernel
theorem dX8_sums_83 : decode cX8_sums 83 = .ok (.laload, 1) := by decide +kernel
theorem dX8_sums_84 : decode cX8_sums 84 = .ok (.ladd, 1) := by decide +kernel
theorem dX8_sums_85 : decode cX8_sums 85 = .ok (.ladd, 1) := by decide +kernel
theorem dX8_sums_86 : decode cX8_sums 86 = .ok (.lstore_n 2, 1) := by decide +kernel
theorem dX8_sums_87 : decode cX8_sums 87 = .ok (.iinc 4 1, 3) := by decide +kernel
theorem dX8_sums_90 : decode cX8_sums 90 = .ok (.goto (-44), 3) := by decide +kernel
theorem dX8_sums_93 : decode cX8_sums 93 = .ok (.aload_n 0, 1) := by decide +kernel
theorem dX8_sums_94 : decode cX8_sums 94 = .ok (.getfield 32, 3) := by decide +kernel
theorem dX8_sums_97 : decode cX8_sums 97 = .ok (.iload_n 1, 1) := by decide +kernel
theorem dX8_sums_98 : decode cX8_sums 98 = .ok (.laload, 1) := by decide +kernel
theorem dX8_sums_99 : decode cX8_sums 99 = .ok (.aload_n 0, 1) := by decide +kernel
theorem dX8_sums_100 : decode cX8_sums 100 = .ok (.getfield 45, 3) := by decide +kernel
theorem dX8_sums_103 : decode cX8_sums 103 = .ok (.bipush 6, 2) := by decide +kernel
theorem dX8_sums_105 : decode cX8_sums 105 = .ok (.iload_n 1, 1) := by decide +kernel
theorem dX8_sums_106 : decode cX8_sums 106 = .ok (.imul, 1) := by decide +kernel
theorem dX8_sums_107 : decode cX8_sums 107 = .ok (.iconst 4, 1) := by decide +kernel
theorem dX8_sums_108 : decode cX8_sums 108 = .ok (.iadd, 1) := by decide +kernel
theorem dX8_sums_109 : decode cX8_sums 109 = .ok (.laload, 1) := by decide +kernel
theorem dX8_sums_110 : decode cX8_sums 110 = .ok (.lsub, 1) := by decide +kernel
theorem dX8_sums_111 : decode cX8_sums 111 = .ok (.aload_n 0, 1) := by decide +kernel
theorem dX8_sums_112 : decode cX8_sums 112 = .ok (.getfield 45, 3) := by decide +kernel
theorem dX8_sums_115 : decode cX8_sums 115 = .ok (.bipush 6, 2) := by decide +kernel
theorem dX8_sums_117 : decode cX8_sums 117 = .ok (.iload_n 1, 1) := by decide +kernel
theorem dX8_sums_118 : decode cX8_sums 118 = .ok (.imul, 1) := by decide +kernel
theorem dX8_sums_119 : decode cX8_sums 119 = .ok (.iconst 5, 1) := by decide +kernel
theorem dX8_sums_120 : decode cX8_sums 120 = .ok (.iadd, 1) := by decide +kernel
theorem dX8_sums_121 : decode cX8_sums 121 = .ok (.laload, 1) := by decide +kernel
theorem dX8_sums_122 : decode cX8_sums 122 = .ok (.ladd, 1) := by decide +kernel
theorem dX8_sums_123 : decode cX8_sums 123 = .ok (.lstore 4, 2) := by decide +kernel
theorem dX8_sums_125 : decode cX8_sums 125 = .ok (.iconst 0, 1) := by decide +kernel
theorem dX8_sums_126 : decode cX8_sums 126 = .ok (.istore 6, 2) := by decide +kernel
theorem dX8_sums_128 : decode cX8_sums 128 = .ok (.iload 6, 2) := by decide +kernel
theorem dX8_sums_130 : decode cX8_sums 130 = .ok (.bipush 10, 2) := by decide +kernel
theorem dX8_sums_132 : decode cX8_sums 132 = .ok (.if_icmp .ge 26, 3) := by decide +kernel
theorem dX8_sums_135 : decode cX8_sums 135 = .ok (.lload 4, 2) := by decide +kernel
theorem dX8_sums_137 : decode cX8_sums 137 = .ok (.aload_n 0, 1) := by decide +kernel
theorem dX8_sums_138 : decode cX8_sums 138 = .ok (.getfield 35, 3) := by decide +kernel
theorem dX8_sums_141 : decode cX8_sums 141 = .ok (.bipush 10, 2) := by decide +kernel
theorem dX8_sums_143 : decode cX8_sums 143 = .ok (.iload_n 1, 1) := by decide +kernel
theorem dX8_sums_144 : decode cX8_sums 144 = .ok (.imul, 1) := by decide +kernel
theorem dX8_sums_145 : decode cX8_sums 145 = .ok (.iload 6, 2) := by decide +kernel
theorem dX8_sums_147 : decode cX8_sums 147 = .ok (.iadd, 1) := by decide +kernel
theorem dX8_sums_148 : decode cX8_sums 148 = .ok (.laload, 1) := by decide +kernel
theorem dX8_sums_149 : decode cX8_sums 149 = .ok (.lsub, 1) := by decide +kernel
theorem dX8_sums_150 : decode cX8_sums 150 = .ok (.lstore 4, 2) := by decide +kernel
theorem dX8_sums_152 : decode cX8_sums 152 = .ok (.iinc 6 1, 3) := by decide +kernel
theorem dX8_sums_155 : decode cX8_sums 155 = .ok (.goto (-27), 3) := by decide +kernel
theorem dX8_sums_158 : decode cX8_sums 158 = .ok (.lload_n 2, 1) := by decide +kernel
theorem dX8_sums_159 : decode cX8_sums 159 = .ok (.lload 4, 2) := by decide +kernel
theorem dX8_sums_161 : decode cX8_sums 161 = .ok (.lcmp, 1) := by decide +kernel
theorem dX8_sums_162 : decode cX8_sums 162 = .ok (.ifCond .ne 7, 3) := by decide +kernel
theorem dX8_sums_165 : decode cX8_sums 165 = .ok (.iconst 1, 1) := by decide +kernel
theorem dX8_sums_166 : decode cX8_sums 166 = .ok (.goto 4, 3) := by decide +kernel
theorem dX8_sums_169 : decode cX8_sums 169 = .ok (.iconst 0, 1) := by decide +kernel
theorem dX8_sums_170 : decode cX8_sums 170 = .ok (.ireturn, 1) := by decide +kernel
theorem dX8_open_0 : decode cX8_open 0 = .ok (.aload_n 0, 1) := by decide +kernel
theorem dX8_open_1 : decode cX8_open 1 = .ok (.getfield 160, 3) := by decide +kernel
theorem dX8_open_4 : decode cX8_open 4 = .ok (.ifCond .ne 35, 3) := by decide +kernel
theorem dX8_open_7 : decode cX8_open 7 = .ok (.iload_n 1, 1) := by decide +kernel
theorem dX8_open_8 : decode cX8_open 8 = .ok (.i2l, 1) := by decide +kernel
theorem dX8_open_9 : decode cX8_open 9 = .ok (.lconst 0, 1) := by decide +kernel
theorem dX8_open_10 : decode cX8_open 10 = .ok (.ldc2_w 164, 3) := by decide +kernel
theorem dX8_open_13 : decode cX8_open 13 = .ok (.invokestatic 80, 3) := by decide +kernel
theorem dX8_open_16 : decode cX8_open 16 = .ok (.ifCond .eq 23, 3) := by decide +kernel
theorem dX8_open_19 : decode cX8_open 19 = .ok (.iload_n 1, 1) := by decide +kernel
theorem dX8_open_20 : decode cX8_open 20 = .ok (.bipush 30, 2) := by decide +kernel
theorem dX8_open_22 : decode cX8_open 22 = .ok (.idiv, 1) := by decide +kernel
theorem dX8_open_23 : decode cX8_open 23 = .ok (.aload_n 0, 1) := by decide +kernel
theorem dX8_open_24 : decode cX8_open 24 = .ok (.getfield 166, 3) := by decide +kernel
theorem dX8_open_27 : decode cX8_open 27 = .ok (.if_icmp .lt 12, 3) := by decide +kernel
theorem dX8_open_30 : decode cX8_open 30 = .ok (.aload_n 0, 1) := by decide +kernel
theorem dX8_open_31 : decode cX8_open 31 = .ok (.getfield 169, 3) := by decide +kernel
theorem dX8_open_34 : decode cX8_open 34 = .ok (.bipush 60, 2) := by decide +kernel
theorem dX8_open_36 : decode cX8_open 36 = .ok (.if_icmp .ne 5, 3) := by decide +kernel
theorem dX8_open_39 : decode cX8_open 39 = .ok (.iconst 0, 1) := by decide +kernel
theorem dX8_open_40 : decode cX8_open 40 = .ok (.ireturn, 1) := by decide +kernel
theorem dX8_open_41 : decode cX8_open 41 = .ok (.aload_n 0, 1) := by decide +kernel
theorem dX8_open_42 : decode cX8_open 42 = .ok (.iconst 1, 1) := by decide +kernel
theorem dX8_open_43 : decode cX8_open 43 = .ok (.putfield 160, 3) := by decide +kernel
theorem dX8_open_46 : decode cX8_open 46 = .ok (.aload_n 0, 1) := by decide +kernel
theorem dX8_open_47 : decode cX8_open 47 = .ok (.getfield 60, 3) := by decide +kernel
theorem dX8_open_50 : decode cX8_open 50 = .ok (.iconst 0, 1) := by decide +kernel
theorem dX8_open_51 : decode cX8_open 51 = .ok (.iload_n 1, 1) := by decide +kernel
theorem dX8_open_52 : decode cX8_open 52 = .ok (.iastore, 1) := by decide +kernel
theorem dX8_open_53 : decode cX8_open 53 = .ok (.aload_n 0, 1) := by decide +kernel
theorem dX8_open_54 : decode cX8_open 54 = .ok (.getfield 63, 3) := by decide +kernel
theorem dX8_open_57 : decode cX8_open 57 = .ok (.iconst 0, 1) := by decide +kernel
theorem dX8_open_58 : decode cX8_open 58 = .ok (.iconst 0, 1) := by decide +kernel
theorem dX8_open_59 : decode cX8_open 59 = .ok (.iastore, 1) := by decide +kernel
theorem dX8_open_60 : decode cX8_open 60 = .ok (.iconst 1, 1) := by decide +kernel
theorem dX8_open_61 : decode cX8_open 61 = .ok (.ireturn, 1) := by decide +kernel
theorem dX8_row_0 : decode cX8_row 0 = .ok (.aload_n 0, 1) := by decide +kernel
theorem dX8_row_1 : decode cX8_row 1 = .ok (.getfield 160, 3) := by decide +kernel
theorem dX8_row_4 : decode cX8_row 4 = .ok (.ifCond .eq 45, 3) := by decide +kernel
theorem dX8_row_7 : decode cX8_row 7 = .ok (.iload_n 1, 1) := by decide +kernel
theorem dX8_row_8 : decode cX8_row 8 = .ok (.i2l, 1) := by decide +kernel
theorem dX8_row_9 : decode cX8_row 9 = .ok (.lconst 0, 1) := by decide +kernel
theorem dX8_row_10 : decode cX8_row 10 = .ok (.ldc2_w 172, 3) := by decide +kernel
theorem dX8_row_13 : decode cX8_row 13 = .ok (.invokestatic 80, 3) := by decide +kernel
theorem dX8_row_16 : decode cX8_row 16 = .ok (.ifCond .eq 33, 3) := by decide +kernel
theorem dX8_row_19 : decode cX8_row 19 = .ok (.lload_n 2, 1) := by decide +kernel
theorem dX8_row_20 : decode cX8_row 20 = .ok (.lconst 0, 1) := by decide +kernel
theorem dX8_row_21 : decode cX8_row 21 = .ok (.lcmp, 1) := by decide +kernel
theorem dX8_row_22 : decode cX8_row 22 = .ok (.ifCond .eq 27, 3) := by decide +kernel
theorem dX8_row_25 : decode cX8_row 25 = .ok (.lload_n 2, 1) := by decide +kernel
theorem dX8_row_26 : decode cX8_row 26 = .ok (.ldc2_w 174, 3) := by decide +kernel
theorem dX8_row_29 : decode cX8_row 29 = .ok (.ldc2_w 139, 3) := by decide +kernel
theorem dX8_row_32 : decode cX8_row 32 = .ok (.invokestatic 80, 3) := by decide +kernel
theorem dX8_row_35 : decode cX8_row 35 = .ok (.ifCond .eq 14, 3) := by decide +kernel
theorem dX8_row_38 : decode cX8_row 38 = .ok (.aload_n 0, 1) := by decide +kernel
theorem dX8_row_39 : decode cX8_row 39 = .ok (.getfield 63, 3) := by decide +kernel
theorem dX8_row_42 : decode cX8_row 42 = .ok (.iconst 0, 1) := by decide +kernel
theorem dX8_row_43 : decode cX8_row 43 = .ok (.iaload, 1) := by decide +kernel
theorem dX8_row_44 : decode cX8_row 44 = .ok (.bipush 8, 2) := by decide +kernel
theorem dX8_row_46 : decode cX8_row 46 = .ok (.if_icmp .ne 5, 3) := by decide +kernel
theorem dX8_row_49 : decode cX8_row 49 = .ok (.iconst (-1), 1) := by decide +kernel
theorem dX8_row_50 : decode cX8_row 50 = .ok (.ireturn, 1) := by decide +kernel
theorem dX8_row_51 : decode cX8_row 51 = .ok (.aload_n 0, 1) := by decide +kernel
theorem dX8_row_52 : decode cX8_row 52 = .ok (.getfield 72, 3) := by decide +kernel
theorem dX8_row_55 : decode cX8_row 55 = .ok (.aload_n 0, 1) := by decide +kernel
theorem dX8_row_56 : decode cX8_row 56 = .ok (.getfield 63, 3) := by decide +kernel
theorem dX8_row_59 : decode cX8_row 59 = .ok (.iconst 0, 1) := by decide +kernel
theorem dX8_row_60 : decode cX8_row 60 = .ok (.iaload, 1) := by decide +kernel
theorem dX8_row_61 : decode cX8_row 61 = .ok (.iload_n 1, 1) := by decide +kernel
theorem dX8_row_62 : decode cX8_row 62 = .ok (.iastore, 1) := by decide +kernel
theorem dX8_row_63 : decode cX8_row 63 = .ok (.aload_n 0, 1) := by decide +kernel
theorem dX8_row_64 : decode cX8_row 64 = .ok (.getfield 75, 3) := by decide +kernel
theorem dX8_row_67 : decode cX8_row 67 = .ok (.aload_n 0, 1) := by decide +kernel
theorem dX8_row_68 : decode cX8_row 68 = .ok (.getfield 63, 3) := by decide +kernel
theorem dX8_row_71 : decode cX8_row 71 = .ok (.iconst 0, 1) := by decide +kernel
theorem dX8_row_72 : decode cX8_row 72 = .ok (.iaload, 1) := by decide +kernel
theorem dX8_row_73 : decode cX8_row 73 = .ok (.lload_n 2, 1) := by decide +kernel
theorem dX8_row_74 : decode cX8_row 74 = .ok (.lastore, 1) := by decide +kernel
theorem dX8_row_75 : decode cX8_row 75 = .ok (.aload_n 0, 1) := by decide +kernel
theorem dX8_row_76 : decode cX8_row 76 = .ok (.getfield 63, 3) := by decide +kernel
theorem dX8_row_79 : decode cX8_row 79 = .ok (.iconst 0, 1) := by decide +kernel
theorem dX8_row_80 : decode cX8_row 80 = .ok (.dup2, 1) := by decide +kernel
theorem dX8_row_81 : decode cX8_row 81 = .ok (.iaload, 1) := by decide +kernel
theorem dX8_row_82 : decode cX8_row 82 = .ok (.iconst 1, 1) := by decide +kernel
theorem dX8_row_83 : decode cX8_row 83 = .ok (.iadd, 1) := by decide +kernel
theorem dX8_row_84 : decode cX8_row 84 = .ok (.iastore, 1) := by decide +kernel
theorem dX8_row_85 : decode cX8_row 85 = .ok (.aload_n 0, 1) := by decide +kernel
theorem dX8_row_86 : decode cX8_row 86 = .ok (.getfield 63, 3) := by decide +kernel
theorem dX8_row_89 : decode cX8_row 89 = .ok (.iconst 0, 1) := by decide +kernel
theorem dX8_row_90 : decode cX8_row 90 = .ok (.iaload, 1) := by decide +kernel
theorem dX8_row_91 : decode cX8_row 91 = .ok (.ireturn, 1) := by decide +kernel
theorem dX8_enter_0 : decode cX8_enter 0 = .ok (.aload_n 0, 1) := by decide +kernel
theorem dX8_enter_1 : decode cX8_enter 1 = .ok (.getfield 160, 3) := by decide +kernel
theorem dX8_enter_4 : decode cX8_enter 4 = .ok (.ifCond .ne 5, 3) := by decide +kernel
theorem dX8_enter_7 : decode cX8_enter 7 = .ok (.iconst (-1), 1) := by decide +kernel
theorem dX8_enter_8 : decode cX8_enter 8 = .ok (.ireturn, 1) := by decide +kernel
theorem dX8_enter_9 : decode cX8_enter 9 = .ok (.lconst 0, 1) := by decide +kernel
theorem dX8_enter_10 : decode cX8_enter 10 = .ok (.lstore_n 1, 1) := by decide +kernel
theorem dX8_enter_11 : decode cX8_enter 11 = .ok (.iconst 0, 1) := by decide +kernel
theorem dX8_enter_12 : decode cX8_enter 12 = .ok (.istore_n 3, 1) := by decide +kernel
theorem dX8_enter_13 : decode cX8_enter 13 = .ok (.iload_n 3, 1) := by decide +kernel
theorem dX8_enter_14 : decode cX8_enter 14 = .ok (.aload_n 0, 1) := by decide +kernel
theorem dX8_enter_15 : decode cX8_enter 15 = .ok (.getfield 63, 3) := by decide +kernel
theorem dX8_enter_18 : decode cX8_enter 18 = .ok (.iconst 0, 1) := by decide +kernel
theorem dX8_enter_19 : decode cX8_enter 19 = .ok (.iaload, 1) := by decide +kernel
theorem dX8_enter_20 : decode cX8_enter 20 = .ok (.if_icmp .ge 18, 3) := by decide +kernel
theorem dX8_enter_23 : decode cX8_enter 23 = .ok (.lload_n 1, 1) := by decide +kernel
theorem dX8_enter_24 : decode cX8_enter 24 = .ok (.aload_n 0, 1) := by decide +kernel
theorem dX8_enter_25 : decode cX8_enter 25 = .ok (.getfield 75, 3) := by decide +kernel
theorem dX8_enter_28 : decode cX8_enter 28 = .ok (.iload_n 3, 1) := by decide +kernel
theorem dX8_enter_29 : decode cX8_enter 29 = .ok (.laload, 1) := by decide +kernel
theorem dX8_enter_30 : decode cX8_enter 30 = .ok (.ladd, 1) := by decide +kernel
theorem dX8_enter_31 : decode cX8_enter 31 = .ok (.lstore_n 1, 1) := by decide +kernel
theorem dX8_enter_32 : decode cX8_enter 32 = .ok (.iinc 3 1, 3) := by decide +kernel
theorem dX8_enter_35 : decode cX8_enter 35 = .ok (.goto (-22), 3) := by decide +kernel
theorem dX8_enter_38 : decode cX8_enter 38 = .ok (.aload_n 0, 1) := by decide +kernel
theorem dX8_enter_39 : decode cX8_enter 39 = .ok (.getfield 63, 3) := by decide +kernel
theorem dX8_enter_42 : decode cX8_enter 42 = .ok (.iconst 0, 1) := by decide +kernel
theorem dX8_enter_43 : decode cX8_enter 43 = .ok (.iaload, 1) := by decide +kernel
theorem dX8_enter_44 : decode cX8_enter 44 = .ok (.ifCond .eq 18, 3) := by decide +kernel
theorem dX8_enter_47 : decode cX8_enter 47 = .ok (.lload_n 1, 1) := by decide +kernel
theorem dX8_enter_48 : decode cX8_enter 48 = .ok (.lconst 0, 1) := by decide +kernel
theorem dX8_enter_49 : decode cX8_enter 49 = .ok (.lcmp, 1) := by decide +kernel
theorem dX8_enter_50 : decode cX8_enter 50 = .ok (.ifCond .ne 12, 3) := by decide +kernel
theorem dX8_enter_53 : decode cX8_enter 53 = .ok (.aload_n 0, 1) := by decide +kernel
theorem dX8_enter_54 : decode cX8_enter 54 = .ok (.getfield 169, 3) := by decide +kernel
theorem dX8_enter_57 : decode cX8_enter 57 = .ok (.bipush 60, 2) := by decide +kernel
theorem dX8_enter_59 : decode cX8_enter 59 = .ok (.if_icmp .ne 5, 3) := by decide +kernel
theorem dX8_enter_62 : decode cX8_enter 62 = .ok (.iconst 0, 1) := by decide +kernel
theorem dX8_enter_63 : decode cX8_enter 63 = .ok (.ireturn, 1) := by decide +kernel
theorem dX8_enter_64 : decode cX8_enter 64 = .ok (.aload_n 0, 1) := by decide +kernel
theorem dX8_enter_65 : decode cX8_enter 65 = .ok (.iconst 0, 1) := by decide +kernel
theorem dX8_enter_66 : decode cX8_enter 66 = .ok (.putfield 160, 3) := by decide +kernel
theorem dX8_enter_69 : decode cX8_enter 69 = .ok (.aload_n 0, 1) := by decide +kernel
theorem dX8_enter_70 : decode cX8_enter 70 = .ok (.iconst 0, 1) := by decide +kernel
theorem dX8_enter_71 : decode cX8_enter 71 = .ok (.aload_n 0, 1) := by decide +kernel
theorem dX8_enter_72 : decode cX8_enter 72 = .ok (.getfield 60, 3) := by decide +kernel
theorem dX8_enter_75 : decode cX8_enter 75 = .ok (.iconst 0, 1) := by decide +kernel
theorem dX8_enter_76 : decode cX8_enter 76 = .ok (.iaload, 1) := by decide +kernel
theorem dX8_enter_77 : decode cX8_enter 77 = .ok (.lconst 1, 1) := by decide +kernel
theorem dX8_enter_78 : decode cX8_enter 78 = .ok (.invokevirtual 176, 3) := by decide +kernel
theorem dX8_enter_81 : decode cX8_enter 81 = .ok (.aload_n 0, 1) := by decide +kernel
theorem dX8_enter_82 : decode cX8_enter 82 = .ok (.getfield 169, 3) := by decide +kernel
theorem dX8_enter_85 : decode cX8_enter 85 = .ok (.ireturn, 1) := by decide +kernel
theorem dX8_put_0 : decode cX8_put 0 = .ok (.aload_n 0, 1) := by decide +kernel
theorem dX8_put_1 : decode cX8_put 1 = .ok (.dup, 1) := by decide +kernel
theorem dX8_put_2 : decode cX8_put 2 = .ok (.getfield 169, 3) := by decide +kernel
theorem dX8_put_5 : decode cX8_put 5 = .ok (.iconst 1, 1) := by decide +kernel
theorem dX8_put_6 : decode cX8_put 6 = .ok (.iadd, 1) := by decide +kernel
theorem dX8_put_7 : decode cX8_put 7 = .ok (.putfield 169, 3) := by decide +kernel
theorem dX8_put_10 : decode cX8_put 10 = .ok (.aload_n 0, 1) := by decide +kernel
theorem dX8_put_11 : decode cX8_put 11 = .ok (.getfield 60, 3) := by decide +kernel
theorem dX8_put_14 : decode cX8_put 14 = .ok (.aload_n 0, 1) := by decide +kernel
theorem dX8_put_15 : decode cX8_put 15 = .ok (.getfield 169, 3) := by decide +kernel
theorem dX8_put_18 : decode cX8_put 18 = .ok (.iload_n 2, 1) := by decide +kernel
theorem dX8_put_19 : decode cX8_put 19 = .ok (.iastore, 1) := by decide +kernel
theorem dX8_put_20 : decode cX8_put 20 = .ok (.aload_n 0, 1) := by decide +kernel
theorem dX8_put_21 : decode cX8_put 21 = .ok (.getfield 63, 3) := by decide +kernel
theorem dX8_put_24 : decode cX8_put 24 = .ok (.aload_n 0, 1) := by decide +kernel
theorem dX8_put_25 : decode cX8_put 25 = .ok (.getfield 169, 3) := by decide +kernel
theorem dX8_put_28 : decode cX8_put 28 = .ok (.aload_n 0, 1) := by decide +kernel
theorem dX8_put_29 : decode cX8_put 29 = .ok (.getfield 63, 3) := by decide +kernel
theorem dX8_put_32 : decode cX8_put 32 = .ok (.iload_n 1, 1) := by decide +kernel
theorem dX8_put_33 : decode cX8_put 33 = .ok (.iaload, 1) := by decide +kernel
theorem dX8_put_34 : decode cX8_put 34 = .ok (.iastore, 1) := by decide +kernel
theorem dX8_put_35 : decode cX8_put 35 = .ok (.aload_n 0, 1) := by decide +kernel
theorem dX8_put_36 : decode cX8_put 36 = .ok (.getfield 66, 3) := by decide +kernel
theorem dX8_put_39 : decode cX8_put 39 = .ok (.aload_n 0, 1) := by decide +kernel
theorem dX8_put_40 : decode cX8_put 40 = .ok (.getfield 169, 3) := by decide +kernel
theorem dX8_put_43 : decode cX8_put 43 = .ok (.iconst 0, 1) := by decide +kernel
theorem dX8_put_44 : decode cX8_put 44 = .ok (.iastore, 1) := by decide +kernel
theorem dX8_put_45 : decode cX8_put 45 = .ok (.aload_n 0, 1) := by decide +kernel
theorem dX8_put_46 : decode cX8_put 46 = .ok (.getfield 69, 3) := by decide +kernel
theorem dX8_put_49 : decode cX8_put 49 = .ok (.aload_n 0, 1) := by decide +kernel
theorem dX8_put_50 : decode cX8_put 50 = .ok (.getfield 169, 3) := by decide +kernel
theorem dX8_put_53 : decode cX8_put 53 = .ok (.iconst 0, 1) := by decide +kernel
theorem dX8_put_54 : decode cX8_put 54 = .ok (.iastore, 1) := by decide +kernel
theorem dX8_put_55 : decode cX8_put 55 = .ok (.iconst 0, 1) := by decide +kernel
theorem dX8_put_56 : decode cX8_put 56 = .ok (.istore 5, 2) := by decide +kernel
theorem dX8_put_58 : decode cX8_put 58 = .ok (.iload 5, 2) := by decide +kernel
theorem dX8_put_60 : decode cX8_put 60 = .ok (.aload_n 0, 1) := by decide +kernel
theorem dX8_put_61 : decode cX8_put 61 = .ok (.getfield 63, 3) := by decide +kernel
theorem dX8_put_64 : decode cX8_put 64 = .ok (.iload_n 1, 1) := by decide +kernel
theorem dX8_put_65 : decode cX8_put 65 = .ok (.iaload, 1) := by decide +kernel
theorem dX8_put_66 : decode cX8_put 66 = .ok (.if_icmp .ge 65, 3) := by decide +kernel
theorem dX8_put_69 : decode cX8_put 69 = .ok (.aload_n 0, 1) := by decide +kernel
theorem dX8_put_70 : decode cX8_put 70 = .ok (.getfield 72, 3) := by decide +kernel
theorem dX8_put_73 : decode cX8_put 73 = .ok (.bipush 8, 2) := by decide +kernel
theorem dX8_put_75 : decode cX8_put 75 = .ok (.aload_n 0, 1) := by decide +kernel
theorem dX8_put_76 : decode cX8_put 76 = .ok (.getfield 169, 3) := by decide +kernel
theorem dX8_put_79 : decode cX8_put 79 = .ok (.imul, 1) := by decide +kernel
theorem dX8_put_80 : decode cX8_put 80 = .ok (.iload 5, 2) := by decide +kernel
theorem dX8_put_82 : decode cX8_put 82 = .ok (.iadd, 1) := by decide +kernel
theorem dX8_put_83 : decode cX8_put 83 = .ok (.aload_n 0, 1) := by decide +kernel
theorem dX8_put_84 : decode cX8_put 84 = .ok (.getfield 72, 3) := by decide +kernel
theorem dX8_put_87 : decode cX8_put 87 = .ok (.bipush 8, 2) := by decide +kernel
theorem dX8_put_89 : decode cX8_put 89 = .ok (.iload_n 1, 1) := by decide +kernel
theorem dX8_put_90 : decode cX8_put 90 = .ok (.imul, 1) := by decide +kernel
theorem dX8_put_91 : decode cX8_put 91 = .ok (.iload 5, 2) := by decide +kernel
theorem dX8_put_93 : decode cX8_put 93 = .ok (.iadd, 1) := by decide +kernel
theorem dX8_put_94 : decode cX8_put 94 = .ok (.iaload, 1) := by decide +kernel
theorem dX8_put_95 : decode cX8_put 95 = .ok (.iastore, 1) := by decide +kernel
theorem dX8_put_96 : decode cX8_put 96 = .ok (.aload_n 0, 1) := by decide +kernel
theorem dX8_put_97 : decode cX8_put 97 = .ok (.getfield 75, 3) := by decide +kernel
theorem dX8_put_100 : decode cX8_put 100 = .ok (.bipush 8, 2) := by decide +kernel
theorem dX8_put_102 : decode cX8_put 102 = .ok (.aload_n 0, 1) := by decide +kernel
theorem dX8_put_103 : decode cX8_put 103 = .ok (.getfield 169, 3) := by decide +kernel
theorem dX8_put_106 : decode cX8_put 106 = .ok (.imul, 1) := by decide +kernel
theorem dX8_put_107 : decode cX8_put 107 = .ok (.iload 5, 2) := by decide +kernel
theorem dX8_put_109 : decode cX8_put 109 = .ok (.iadd, 1) := by decide +kernel
theorem dX8_put_110 : decode cX8_put 110 = .ok (.lload_n 3, 1) := by decide +kernel
theorem dX8_put_111 : decode cX8_put 111 = .ok (.aload_n 0, 1) := by decide +kernel
theorem dX8_put_112 : decode cX8_put 112 = .ok (.getfield 75, 3) := by decide +kernel
theorem dX8_put_115 : decode cX8_put 115 = .ok (.bipush 8, 2) := by decide +kernel
theorem dX8_put_117 : decode cX8_put 117 = .ok (.iload_n 1, 1) := by decide +kernel
theorem dX8_put_118 : decode cX8_put 118 = .ok (.imul, 1) := by decide +kernel
theorem dX8_put_119 : decode cX8_put 119 = .ok (.iload 5, 2) := by decide +kernel
theorem dX8_put_121 : decode cX8_put 121 = .ok (.iadd, 1) := by decide +kernel
theorem dX8_put_122 : decode cX8_put 122 = .ok (.laload, 1) := by decide +kernel
theorem dX8_put_123 : decode cX8_put 123 = .ok (.lmul, 1) := by decide +kernel
theorem dX8_put_124 : decode cX8_put 124 = .ok (.lastore, 1) := by decide +kernel
theorem dX8_put_125 : decode cX8_put 125 = .ok (.iinc 5 1, 3) := by decide +kernel
theorem dX8_put_128 : decode cX8_put 128 = .ok (.goto (-70), 3) := by decide +kernel
theorem dX8_put_131 : decode cX8_put 131 = .ok (.return_, 1) := by decide +kernel
