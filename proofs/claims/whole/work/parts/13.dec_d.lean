theorem dX0_areInFeud_0 : decode cX0_areInFeud 0 = .ok (.aload_n 0, 1) := by decide +kernel
theorem dX0_areInFeud_1 : decode cX0_areInFeud 1 = .ok (.getfield 9, 3) := by decide +kernel
theorem dX0_areInFeud_4 : decode cX0_areInFeud 4 = .ok (.iload_n 1, 1) := by decide +kernel
theorem dX0_areInFeud_5 : decode cX0_areInFeud 5 = .ok (.iaload, 1) := by decide +kernel
theorem dX0_areInFeud_6 : decode cX0_areInFeud 6 = .ok (.iconst 1, 1) := by decide +kernel
theorem dX0_areInFeud_7 : decode cX0_areInFeud 7 = .ok (.iload_n 2, 1) := by decide +kernel
theorem dX0_areInFeud_8 : decode cX0_areInFeud 8 = .ok (.ishl, 1) := by decide +kernel
theorem dX0_areInFeud_9 : decode cX0_areInFeud 9 = .ok (.iand, 1) := by decide +kernel
theorem dX0_areInFeud_10 : decode cX0_areInFeud 10 = .ok (.ifCond .eq 7, 3) := by decide +kernel
theorem dX0_areInFeud_13 : decode cX0_areInFeud 13 = .ok (.iconst 1, 1) := by decide +kernel
theorem dX0_areInFeud_14 : decode cX0_areInFeud 14 = .ok (.goto 4, 3) := by decide +kernel
theorem dX0_areInFeud_17 : decode cX0_areInFeud 17 = .ok (.iconst 0, 1) := by decide +kernel
theorem dX0_areInFeud_18 : decode cX0_areInFeud 18 = .ok (.ireturn, 1) := by decide +kernel
theorem dX0_setFeud_0 : decode cX0_setFeud 0 = .ok (.iload_n 3, 1) := by decide +kernel
theorem dX0_setFeud_1 : decode cX0_setFeud 1 = .ok (.ifCond .eq 30, 3) := by decide +kernel
theorem dX0_setFeud_4 : decode cX0_setFeud 4 = .ok (.aload_n 0, 1) := by decide +kernel
theorem dX0_setFeud_5 : decode cX0_setFeud 5 = .ok (.getfield 9, 3) := by decide +kernel
theorem dX0_setFeud_8 : decode cX0_setFeud 8 = .ok (.iload_n 1, 1) := by decide +kernel
theorem dX0_setFeud_9 : decode cX0_setFeud 9 = .ok (.dup2, 1) := by decide +kernel
theorem dX0_setFeud_10 : decode cX0_setFeud 10 = .ok (.iaload, 1) := by decide +kernel
theorem dX0_setFeud_11 : decode cX0_setFeud 11 = .ok (.iconst 1, 1) := by decide +kernel
theorem dX0_setFeud_12 : decode cX0_setFeud 12 = .ok (.iload_n 2, 1) := by decide +kernel
theorem dX0_setFeud_13 : decode cX0_setFeud 13 = .ok (.ishl, 1) := by decide +kernel
theorem dX0_setFeud_14 : decode cX0_setFeud 14 = .ok (.ior, 1) := by decide +kernel
theorem dX0_setFeud_15 : decode cX0_setFeud 15 = .ok (.iastore, 1) := by decide +kernel
theorem dX0_setFeud_16 : decode cX0_setFeud 16 = .ok (.aload_n 0, 1) := by decide +kernel
theorem dX0_setFeud_17 : decode cX0_setFeud 17 = .ok (.getfield 9, 3) := by decide +kernel
theorem dX0_setFeud_20 : decode cX0_setFeud 20 = .ok (.iload_n 2, 1) := by decide +kernel
theorem dX0_setFeud_21 : decode cX0_setFeud 21 = .ok (.dup2, 1) := by decide +kernel
theorem dX0_setFeud_22 : decode cX0_setFeud 22 = .ok (.iaload, 1) := by decide +kernel
theorem dX0_setFeud_23 : decode cX0_setFeud 23 = .ok (.iconst 1, 1) := by decide +kernel
theorem dX0_setFeud_24 : decode cX0_setFeud 24 = .ok (.iload_n 1, 1) := by decide +kernel
theorem dX0_setFeud_25 : decode cX0_setFeud 25 = .ok (.ishl, 1) := by decide +kernel
theorem dX0_setFeud_26 : decode cX0_setFeud 26 = .ok (.ior, 1) := by decide +kernel
theorem dX0_setFeud_27 : decode cX0_setFeud 27 = .ok (.iastore, 1) := by decide +kernel
theorem dX0_setFeud_28 : decode cX0_setFeud 28 = .ok (.goto 31, 3) := by decide +kernel
theorem dX0_setFeud_31 : decode cX0_setFeud 31 = .ok (.aload_n 0, 1) := by decide +kernel
theorem dX0_setFeud_32 : decode cX0_setFeud 32 = .ok (.getfield 9, 3) := by decide +kernel
theorem dX0_setFeud_35 : decode cX0_setFeud 35 = .ok (.iload_n 1, 1) := by decide +kernel
theorem dX0_setFeud_36 : decode cX0_setFeud 36 = .ok (.dup2, 1) := by decide +kernel
theorem dX0_setFeud_37 : decode cX0_setFeud 37 = .ok (.iaload, 1) := by decide +kernel
theorem dX0_setFeud_38 : decode cX0_setFeud 38 = .ok (.iconst 1, 1) := by decide +kernel
theorem dX0_setFeud_39 : decode cX0_setFeud 39 = .ok (.iload_n 2, 1) := by decide +kernel
theorem dX0_setFeud_40 : decode cX0_setFeud 40 = .ok (.ishl, 1) := by decide +kernel
theorem dX0_setFeud_41 : decode cX0_setFeud 41 = .ok (.iconst (-1), 1) := by decide +kernel
theorem dX0_setFeud_42 : decode cX0_setFeud 42 = .ok (.ixor, 1) := by decide +kernel
theorem dX0_setFeud_43 : decode cX0_setFeud 43 = .ok (.iand, 1) := by decide +kernel
theorem dX0_setFeud_44 : decode cX0_setFeud 44 = .ok (.iastore, 1) := by decide +kernel
theorem dX0_setFeud_45 : decode cX0_setFeud 45 = .ok (.aload_n 0, 1) := by decide +kernel
theorem dX0_setFeud_46 : decode cX0_setFeud 46 = .ok (.getfield 9, 3) := by decide +kernel
theorem dX0_setFeud_49 : decode cX0_setFeud 49 = .ok (.iload_n 2, 1) := by decide +kernel
theorem dX0_setFeud_50 : decode cX0_setFeud 50 = .ok (.dup2, 1) := by decide +kernel
theorem dX0_setFeud_51 : decode cX0_setFeud 51 = .ok (.iaload, 1) := by decide +kernel
theorem dX0_setFeud_52 : decode cX0_setFeud 52 = .ok (.iconst 1, 1) := by decide +kernel
theorem dX0_setFeud_53 : decode cX0_setFeud 53 = .ok (.iload_n 1, 1) := by decide +kernel
theorem dX0_setFeud_54 : decode cX0_setFeud 54 = .ok (.ishl, 1) := by decide +kernel
theorem dX0_setFeud_55 : decode cX0_setFeud 55 = .ok (.iconst (-1), 1) := by decide +kernel
theorem dX0_setFeud_56 : decode cX0_setFeud 56 = .ok (.ixor, 1) := by decide +kernel
theorem dX0_setFeud_57 : decode cX0_setFeud 57 = .ok (.iand, 1) := by decide +kernel
theorem dX0_setFeud_58 : decode cX0_setFeud 58 = .ok (.iastore, 1) := by decide +kernel
theorem dX0_setFeud_59 : decode cX0_setFeud 59 = .ok (.return_, 1) := by decide +kernel
theorem dX0_countFeuds_0 : decode cX0_countFeuds 0 = .ok (.iconst 0, 1) := by decide +kernel
theorem dX0_countFeuds_1 : decode cX0_countFeuds 1 = .ok (.istore_n 1, 1) := by decide +kernel
theorem dX0_countFeuds_2 : decode cX0_countFeuds 2 = .ok (.iconst 0, 1) := by decide +kernel
theorem dX0_countFeuds_3 : decode cX0_countFeuds 3 = .ok (.istore_n 2, 1) := by decide +kernel
theorem dX0_countFeuds_4 : decode cX0_countFeuds 4 = .ok (.iload_n 2, 1) := by decide +kernel
theorem dX0_countFeuds_5 : decode cX0_countFeuds 5 = .ok (.bipush 14, 2) := by decide +kernel
theorem dX0_countFeuds_7 : decode cX0_countFeuds 7 = .ok (.if_icmp .ge 21, 3) := by decide +kernel
theorem dX0_countFeuds_10 : decode cX0_countFeuds 10 = .ok (.iload_n 1, 1) := by decide +kernel
theorem dX0_countFeuds_11 : decode cX0_countFeuds 11 = .ok (.aload_n 0, 1) := by decide +kernel
theorem dX0_countFeuds_12 : decode cX0_countFeuds 12 = .ok (.getfield 9, 3) := by decide +kernel
theorem dX0_countFeuds_15 : decode cX0_countFeuds 15 = .ok (.iload_n 2, 1) := by decide +kernel
theorem dX0_countFeuds_16 : decode cX0_countFeuds 16 = .ok (.iaload, 1) := by decide +kernel
theorem dX0_countFeuds_17 : decode cX0_countFeuds 17 = .ok (.invokestatic 18, 3) := by decide +kernel
theorem dX0_countFeuds_20 : decode cX0_countFeuds 20 = .ok (.iadd, 1) := by decide +kernel
theorem dX0_countFeuds_21 : decode cX0_countFeuds 21 = .ok (.istore_n 1, 1) := by decide +kernel
theorem dX0_countFeuds_22 : decode cX0_countFeuds 22 = .ok (.iinc 2 1, 3) := by decide +kernel
theorem dX0_countFeuds_25 : decode cX0_countFeuds 25 = .ok (.goto (-21), 3) := by decide +kernel
theorem dX0_countFeuds_28 : decode cX0_countFeuds 28 = .ok (.iload_n 1, 1) := by decide +kernel
theorem dX0_countFeuds_29 : decode cX0_countFeuds 29 = .ok (.iconst 2, 1) := by decide +kernel
theorem dX0_countFeuds_30 : decode cX0_countFeuds 30 = .ok (.idiv, 1) := by decide +kernel
theorem dX0_countFeuds_31 : decode cX0_countFeuds 31 = .ok (.ireturn, 1) := by decide +kernel
theorem dX0_knightAt_0 : decode cX0_knightAt 0 = .ok (.aload_n 0, 1) := by decide +kernel
theorem dX0_knightAt_1 : decode cX0_knightAt 1 = .ok (.getfield 15, 3) := by decide +kernel
theorem dX0_knightAt_4 : decode cX0_knightAt 4 = .ok (.iload_n 1, 1) := by decide +kernel
theorem dX0_knightAt_5 : decode cX0_knightAt 5 = .ok (.iaload, 1) := by decide +kernel
theorem dX0_knightAt_6 : decode cX0_knightAt 6 = .ok (.ireturn, 1) := by decide +kernel
theorem dX0_pitch_0 : decode cX0_pitch 0 = .ok (.iconst 0, 1) := by decide +kernel
theorem dX0_pitch_1 : decode cX0_pitch 1 = .ok (.istore_n 2, 1) := by decide +kernel
theorem dX0_pitch_2 : decode cX0_pitch 2 = .ok (.iconst 0, 1) := by decide +kernel
theorem dX0_pitch_3 : decode cX0_pitch 3 = .ok (.istore_n 3, 1) := by decide +kernel
theorem dX0_pitch_4 : decode cX0_pitch 4 = .ok (.iconst 3, 1) := by decide +kernel
theorem dX0_pitch_5 : decode cX0_pitch 5 = .ok (.istore 4, 2) := by decide +kernel
theorem dX0_pitch_7 : decode cX0_pitch 7 = .ok (.iload 4, 2) := by decide +kernel
theorem dX0_pitch_9 : decode cX0_pitch 9 = .ok (.ifCond .lt 69, 3) := by decide +kernel
theorem dX0_pitch_12 : decode cX0_pitch 12 = .ok (.iconst 0, 1) := by decide +kernel
theorem dX0_pitch_13 : decode cX0_pitch 13 = .ok (.istore 5, 2) := by decide +kernel
theorem dX0_pitch_15 : decode cX0_pitch 15 = .ok (.iload 5, 2) := by decide +kernel
theorem dX0_pitch_17 : decode cX0_pitch 17 = .ok (.aload_n 1, 1) := by decide +kernel
theorem dX0_pitch_18 : decode cX0_pitch 18 = .ok (.invokevirtual 24, 3) := by decide +kernel
theorem dX0_pitch_21 : decode cX0_pitch 21 = .ok (.if_icmp .ge 51, 3) := by decide +kernel
theorem dX0_pitch_24 : decode cX0_pitch 24 = .ok (.iload_n 3, 1) := by decide +kernel
theorem dX0_pitch_25 : decode cX0_pitch 25 = .ok (.bipush 7, 2) := by decide +kernel
theorem dX0_pitch_27 : decode cX0_pitch 27 = .ok (.if_icmp .ge 45, 3) := by decide +kernel
theorem dX0_pitch_30 : decode cX0_pitch 30 = .ok (.aload_n 1, 1) := by decide +kernel
theorem dX0_pitch_31 : decode cX0_pitch 31 = .ok (.iload 5, 2) := by decide +kernel
theorem dX0_pitch_33 : decode cX0_pitch 33 = .ok (.invokevirtual 30, 3) := by decide +kernel
theorem dX0_pitch_36 : decode cX0_pitch 36 = .ok (.iload 4, 2) := by decide +kernel
theorem dX0_pitch_38 : decode cX0_pitch 38 = .ok (.if_icmp .ne 28, 3) := by decide +kernel
theorem dX0_pitch_41 : decode cX0_pitch 41 = .ok (.iload_n 3, 1) := by decide +kernel
theorem dX0_pitch_42 : decode cX0_pitch 42 = .ok (.ifCond .ne 14, 3) := by decide +kernel
theorem dX0_pitch_45 : decode cX0_pitch 45 = .ok (.aload_n 0, 1) := by decide +kernel
theorem dX0_pitch_46 : decode cX0_pitch 46 = .ok (.getfield 15, 3) := by decide +kernel
theorem dX0_pitch_49 : decode cX0_pitch 49 = .ok (.iconst 0, 1) := by decide +kernel
theorem dX0_pitch_50 : decode cX0_pitch 50 = .ok (.iload 5, 2) := by decide +kernel
theorem dX0_pitch_52 : decode cX0_pitch 52 = .ok (.iastore, 1) := by decide +kernel
theorem dX0_pitch_53 : decode cX0_pitch 53 = .ok (.goto 10, 3) := by decide +kernel
theorem dX0_pitch_56 : decode cX0_pitch 56 = .ok (.iload_n 2, 1) := by decide +kernel
theorem dX0_pitch_57 : decode cX0_pitch 57 = .ok (.iconst 1, 1) := by decide +kernel
theorem dX0_pitch_58 : decode cX0_pitch 58 = .ok (.iload 5, 2) := by decide +kernel
theorem dX0_pitch_60 : decode cX0_pitch 60 = .ok (.ishl, 1) := by decide +kernel
theorem dX0_pitch_61 : decode cX0_pitch 61 = .ok (.ior, 1) := by decide +kernel
theorem dX0_pitch_62 : decode cX0_pitch 62 = .ok (.istore_n 2, 1) := by decide +kernel
theorem dX0_pitch_63 : decode cX0_pitch 63 = .ok (.iinc 3 1, 3) := by decide +kernel
theorem dX0_pitch_66 : decode cX0_pitch 66 = .ok (.iinc 5 1, 3) := by decide +kernel
theorem dX0_pitch_69 : decode cX0_pitch 69 = .ok (.goto (-54), 3) := by decide +kernel
theorem dX0_pitch_72 : decode cX0_pitch 72 = .ok (.iinc 4 (-1), 3) := by decide +kernel
theorem dX0_pitch_75 : decode cX0_pitch 75 = .ok (.goto (-68), 3) := by decide +kernel
theorem dX0_pitch_78 : decode cX0_pitch 78 = .ok (.iload_n 3, 1) := by decide +kernel
theorem dX0_pitch_79 : decode cX0_pitch 79 = .ok (.ifCond .eq 12, 3) := by decide +kernel
theorem dX0_pitch_82 : decode cX0_pitch 82 = .ok (.aload_n 0, 1) := by decide +kernel
theorem dX0_pitch_83 : decode cX0_pitch 83 = .ok (.iconst 1, 1) := by decide +kernel
theorem dX0_pitch_84 : decode cX0_pitch 84 = .ok (.iload_n 2, 1) := by decide +kernel
theorem dX0_pitch_85 : decode cX0_pitch 85 = .ok (.invokevirtual 33, 3) := by decide +kernel
theorem dX0_pitch_88 : decode cX0_pitch 88 = .ok (.ifCond .eq 7, 3) := by decide +kernel
theorem dX0_pitch_91 : decode cX0_pitch 91 = .ok (.iload_n 3, 1) := by decide +kernel
theorem dX0_pitch_92 : decode cX0_pitch 92 = .ok (.goto 4, 3) := by decide +kernel
theorem dX0_pitch_95 : decode cX0_pitch 95 = .ok (.iconst 0, 1) := by decide +kernel
theorem dX0_pitch_96 : decode cX0_pitch 96 = .ok (.ireturn, 1) := by decide +kernel
theorem dX0_seat_0 : decode cX0_seat 0 = .ok (.iload_n 2, 1) := by decide +kernel
theorem dX0_seat_1 : decode cX0_seat 1 = .ok (.ifCond .eq 9, 3) := by decide +kernel
theorem dX0_seat_4 : decode cX0_seat 4 = .ok (.iload_n 1, 1) := by decide +kernel
theorem dX0_seat_5 : decode cX0_seat 5 = .ok (.bipush 7, 2) := by decide +kernel
theorem dX0_seat_7 : decode cX0_seat 7 = .ok (.if_icmp .lt 30, 3) := by decide +kernel
theorem dX0_seat_10 : decode cX0_seat 10 = .ok (.aload_n 0, 1) := by decide +kernel
theorem dX0_seat_11 : decode cX0_seat 11 = .ok (.aload_n 0, 1) := by decide +kernel
theorem dX0_seat_12 : decode cX0_seat 12 = .ok (.getfield 15, 3) := by decide +kernel
theorem dX0_seat_15 : decode cX0_seat 15 = .ok (.iload_n 1, 1) := by decide +kernel
theorem dX0_seat_16 : decode cX0_seat 16 = .ok (.iconst 1, 1) := by decide +kernel
theorem dX0_seat_17 : decode cX0_seat 17 = .ok (.isub, 1) := by decide +kernel
theorem dX0_seat_18 : decode cX0_seat 18 = .ok (.iaload, 1) := by decide +kernel
theorem dX0_seat_19 : decode cX0_seat 19 = .ok (.aload_n 0, 1) := by decide +kernel
theorem dX0_seat_20 : decode cX0_seat 20 = .ok (.getfield 15, 3) := by decide +kernel
theorem dX0_seat_23 : decode cX0_seat 23 = .ok (.iconst 0, 1) := by decide +kernel
theorem dX0_seat_24 : decode cX0_seat 24 = .ok (.iaload, 1) := by decide +kernel
theorem dX0_seat_25 : decode cX0_seat 25 = .ok (.invokevirtual 37, 3) := by decide +kernel
theorem dX0_seat_28 : decode cX0_seat 28 = .ok (.ifCond .ne 7, 3) := by decide +kernel
theorem dX0_seat_31 : decode cX0_seat 31 = .ok (.iconst 1, 1) := by decide +kernel
theorem dX0_seat_32 : decode cX0_seat 32 = .ok (.goto 4, 3) := by decide +kernel
theorem dX0_seat_35 : decode cX0_seat 35 = .ok (.iconst 0, 1) := by decide +kernel
theorem dX0_seat_36 : decode cX0_seat 36 = .ok (.ireturn, 1) := by decide +kernel
theorem dX0_seat_37 : decode cX0_seat 37 = .ok (.iload_n 2, 1) := by decide +kernel
theorem dX0_seat_38 : decode cX0_seat 38 = .ok (.aload_n 0, 1) := by decide +kernel
theorem dX0_seat_39 : decode cX0_seat 39 = .ok (.getfield 9, 3) := by decide +kernel
theorem dX0_seat_42 : decode cX0_seat 42 = .ok (.aload_n 0, 1) := by decide +kernel
theorem dX0_seat_43 : decode cX0_seat 43 = .ok (.getfield 15, 3) := by decide +kernel
theorem dX0_seat_46 : decode cX0_seat 46 = .ok (.iload_n 1, 1) := by decide +kernel
theorem dX0_seat_47 : decode cX0_seat 47 = .ok (.iconst 1, 1) := by decide +kernel
theorem dX0_seat_48 : decode cX0_seat 48 = .ok (.isub, 1) := by decide +kernel
theorem dX0_seat_49 : decode cX0_seat 49 = .ok (.iaload, 1) := by decide +kernel
theorem dX0_seat_50 : decode cX0_seat 50 = .ok (.iaload, 1) := by decide +kernel
theorem dX0_seat_51 : decode cX0_seat 51 = .ok (.iconst (-1), 1) := by decide +kernel
theorem dX0_seat_52 : decode cX0_seat 52 = .ok (.ixor, 1) := by decide +kernel
theorem dX0_seat_53 : decode cX0_seat 53 = .ok (.iand, 1) := by decide +kernel
theorem dX0_seat_54 : decode cX0_seat 54 = .ok (.istore_n 3, 1) := by decide +kernel
theorem dX0_seat_55 : decode cX0_seat 55 = .ok (.iconst 0, 1) := by decide +kernel
theorem dX0_seat_56 : decode cX0_seat 56 = .ok (.istore 4, 2) := by decide +kernel
theorem dX0_seat_58 : decode cX0_seat 58 = .ok (.iload 4, 2) := by decide +kernel
theorem dX0_seat_60 : decode cX0_seat 60 = .ok (.bipush 14, 2) := by decide +kernel
theorem dX0_seat_62 : decode cX0_seat 62 = .ok (.if_icmp .ge 46, 3) := by decide +kernel
theorem dX0_seat_65 : decode cX0_seat 65 = .ok (.iload_n 3, 1) := by decide +kernel
theorem dX0_seat_66 : decode cX0_seat 66 = .ok (.iconst 1, 1) := by decide +kernel
theorem dX0_seat_67 : decode cX0_seat 67 = .ok (.iload 4, 2) := by decide +kernel
theorem dX0_seat_69 : decode cX0_seat 69 = .ok (.ishl, 1) := by decide +kernel
theorem dX0_seat_70 : decode cX0_seat 70 = .ok (.iand, 1) := by decide +kernel
theorem dX0_seat_71 : decode cX0_seat 71 = .ok (.ifCond .eq 31, 3) := by decide +kernel
theorem dX0_seat_74 : decode cX0_seat 74 = .ok (.aload_n 0, 1) := by decide +kernel
theorem dX0_seat_75 : decode cX0_seat 75 = .ok (.getfield 15, 3) := by decide +kernel
theorem dX0_seat_78 : decode cX0_seat 78 = .ok (.iload_n 1, 1) := by decide +kernel
theorem dX0_seat_79 : decode cX0_seat 79 = .ok (.iload 4, 2) := by decide +kernel
theorem dX0_seat_81 : decode cX0_seat 81 = .ok (.iastore, 1) := by decide +kernel
theorem dX0_seat_82 : decode cX0_seat 82 = .ok (.aload_n 0, 1) := by decide +kernel
theorem dX0_seat_83 : decode cX0_seat 83 = .ok (.iload_n 1, 1) := by decide +kernel
theorem dX0_seat_84 : decode cX0_seat 84 = .ok (.iconst 1, 1) := by decide +kernel
theorem dX0_seat_85 : decode cX0_seat 85 = .ok (.iadd, 1) := by decide +kernel
theorem dX0_seat_86 : decode cX0_seat 86 = .ok (.iload_n 2, 1) := by decide +kernel
theorem dX0_seat_87 : decode cX0_seat 87 = .ok (.iconst 1, 1) := by decide +kernel
theorem dX0_seat_88 : decode cX0_seat 88 = .ok (.iload 4, 2) := by decide +kernel
theorem dX0_seat_90 : decode cX0_seat 90 = .ok (.ishl, 1) := by decide +kernel
theorem dX0_seat_91 : decode cX0_seat 91 = .ok (.iconst (-1), 1) := by decide +kernel
theorem dX0_seat_92 : decode cX0_seat 92 = .ok (.ixor, 1) := by decide +kernel
theorem dX0_seat_93 : decode cX0_seat 93 = .ok (.iand, 1) := by decide +kernel
theorem dX0_seat_94 : decode cX0_seat 94 = .ok (.invokevirtual 33, 3) := by decide +kernel
theorem dX0_seat_97 : decode cX0_seat 97 = .ok (.ifCond .eq 5, 3) := by decide +kernel
theorem dX0_seat_100 : decode cX0_seat 100 = .ok (.iconst 1, 1) := by decide +kernel
theorem dX0_seat_101 : decode cX0_seat 101 = .ok (.ireturn, 1) := by decide +kernel
theorem dX0_seat_102 : decode cX0_seat 102 = .ok (.iinc 4 1, 3) := by decide +kernel
theorem dX0_seat_105 : decode cX0_seat 105 = .ok (.goto (-47), 3) := by decide +kernel
theorem dX0_seat_108 : decode cX0_seat 108 = .ok (.iconst 0, 1) := by decide +kernel
theorem dX0_seat_109 : decode cX0_seat 109 = .ok (.ireturn, 1) := by decide +kernel
theorem dX1_size_0 : decode cX1_size 0 = .ok (.aload_n 0, 1) := by decide +kernel
theorem dX1_size_1 : decode cX1_size 1 = .ok (.getfield 21, 3) := by decide +kernel
theorem dX1_size_4 : decode cX1_size 4 = .ok (.ireturn, 1) := by decide +kernel
theorem dX1_isFull_0 : decode cX1_isFull 0 = .ok (.aload_n 0, 1) := by decide +kernel
theorem dX1_isFull_1 : decode cX1_isFull 1 = .ok (.getfield 21, 3) := by decide +kernel
theorem dX1_isFull_4 : decode cX1_isFull 4 = .ok (.bipush 7, 2) := by decide +kernel
theorem dX1_isFull_6 : decode cX1_isFull 6 = .ok (.if_icmp .lt 7, 3) := by decide +kernel
theorem dX1_isFull_9 : decode cX1_isFull 9 = .ok (.iconst 1, 1) := by decide +kernel
theorem dX1_isFull_10 : decode cX1_isFull 10 = .ok (.goto 4, 3) := by decide +kernel
theorem dX1_isFull_13 : decode cX1_isFull 13 = .ok (.iconst 0, 1) := by decide +kernel
theorem dX1_isFull_14 : decode cX1_isFull 14 = .ok (.ireturn, 1) := by decide +kernel
theorem dX1_areTwo_0 : decode cX1_areTwo 0 = .ok (.iconst 0, 1) := by decide +kernel
theorem dX1_areTwo_1 : decode cX1_areTwo 1 = .ok (.istore_n 3, 1) := by decide +kernel
theorem dX1_areTwo_2 : decode cX1_areTwo 2 = .ok (.iload_n 3, 1) := by decide +kernel
theorem dX1_areTwo_3 : decode cX1_areTwo 3 = .ok (.aload_n 0, 1) := by decide +kernel
theorem dX1_areTwo_4 : decode cX1_areTwo 4 = .ok (.getfield 21, 3) := by decide +kernel
theorem dX1_areTwo_7 : decode cX1_areTwo 7 = .ok (.if_icmp .ge 29, 3) := by decide +kernel
theorem dX1_areTwo_10 : decode cX1_areTwo 10 = .ok (.aload_n 0, 1) := by decide +kernel
theorem dX1_areTwo_11 : decode cX1_areTwo 11 = .ok (.iload_n 3, 1) := by decide +kernel
theorem dX1_areTwo_12 : decode cX1_areTwo 12 = .ok (.iload_n 1, 1) := by decide +kernel
theorem dX1_areTwo_13 : decode cX1_areTwo 13 = .ok (.invokevirtual 25, 3) := by decide +kernel
theorem dX1_areTwo_16 : decode cX1_areTwo 16 = .ok (.ifCond .eq 14, 3) := by decide +kernel
theorem dX1_areTwo_19 : decode cX1_areTwo 19 = .ok (.aload_n 0, 1) := by decide +kernel
theorem dX1_areTwo_20 : decode cX1_areTwo 20 = .ok (.iload_n 3, 1) := by decide +kernel
theorem dX1_areTwo_21 : decode cX1_areTwo 21 = .ok (.iload_n 2, 1) := by decide +kernel
theorem dX1_areTwo_22 : decode cX1_areTwo 22 = .ok (.invokevirtual 25, 3) := by decide +kernel
theorem dX1_areTwo_25 : decode cX1_areTwo 25 = .ok (.ifCond .eq 5, 3) := by decide +kernel
theorem dX1_areTwo_28 : decode cX1_areTwo 28 = .ok (.iconst 1, 1) := by decide +kernel
theorem dX1_areTwo_29 : decode cX1_areTwo 29 = .ok (.ireturn, 1) := by decide +kernel
theorem dX1_areTwo_30 : decode cX1_areTwo 30 = .ok (.iinc 3 1, 3) := by decide +kernel
theorem dX1_areTwo_33 : decode cX1_areTwo 33 = .ok (.goto (-31), 3) := by decide +kernel
theorem dX1_areTwo_36 : decode cX1_areTwo 36 = .ok (.iconst 0, 1) := by decide +kernel
theorem dX1_areTwo_37 : decode cX1_areTwo 37 = .ok (.ireturn, 1) := by decide +kernel
theorem dX1_isOf_0 : decode cX1_isOf 0 = .ok (.aload_n 0, 1) := by decide +kernel
theorem dX1_isOf_1 : decode cX1_isOf 1 = .ok (.getfield 11, 3) := by decide +kernel
theorem dX1_isOf_4 : decode cX1_isOf 4 = .ok (.iload_n 1, 1) := by decide +kernel
theorem dX1_isOf_5 : decode cX1_isOf 5 = .ok (.iaload, 1) := by decide +kernel
theorem dX1_isOf_6 : decode cX1_isOf 6 = .ok (.iload_n 2, 1) := by decide +kernel
theorem dX1_isOf_7 : decode cX1_isOf 7 = .ok (.if_icmp .eq 13, 3) := by decide +kernel
theorem dX1_isOf_10 : decode cX1_isOf 10 = .ok (.aload_n 0, 1) := by decide +kernel
theorem dX1_isOf_11 : decode cX1_isOf 11 = .ok (.getfield 15, 3) := by decide +kernel
theorem dX1_isOf_14 : decode cX1_isOf 14 = .ok (.iload_n 1, 1) := by decide +kernel
theorem dX1_isOf_15 : decode cX1_isOf 15 = .ok (.iaload, 1) := by decide +kernel
theorem dX1_isOf_16 : decode cX1_isOf 16 = .ok (.iload_n 2, 1) := by decide +kernel
theorem dX1_isOf_17 : decode cX1_isOf 17 = .ok (.if_icmp .ne 7, 3) := by decide +kernel
theorem dX1_isOf_20 : decode cX1_isOf 20 = .ok (.iconst 1, 1) := by decide +kernel
theorem dX1_isOf_21 : decode cX1_isOf 21 = .ok (.goto 4, 3) := by decide +kernel
theorem dX1_isOf_24 : decode cX1_isOf 24 = .ok (.iconst 0, 1) := by decide +kernel
theorem dX1_isOf_25 : decode cX1_isOf 25 = .ok (.ireturn, 1) := by decide +kernel
theorem dX1_add_0 : decode cX1_add 0 = .ok (.aload_n 0, 1) := by decide +kernel
theorem dX1_add_1 : decode cX1_add 1 = .ok (.getfield 21, 3) := by decide +kernel
theorem dX1_add_4 : decode cX1_add 4 = .ok (.istore_n 3, 1) := by decide +kernel
theorem dX1_add_5 : decode cX1_add 5 = .ok (.aload_n 0, 1) := by decide +kernel
theorem dX1_add_6 : decode cX1_add 6 = .ok (.dup, 1) := by decide +kernel
theorem dX1_add_7 : decode cX1_add 7 = .ok (.getfield 21, 3) := by decide +kernel
theorem dX1_add_10 : decode cX1_add 10 = .ok (.iconst 1, 1) := by decide +kernel
theorem dX1_add_11 : decode cX1_add 11 = .ok (.iadd, 1) := by decide +kernel
theorem dX1_add_12 : decode cX1_add 12 = .ok (.putfield 21, 3) := by decide +kernel
theorem dX1_add_15 : decode cX1_add 15 = .ok (.aload_n 0, 1) := by decide +kernel
theorem dX1_add_16 : decode cX1_add 16 = .ok (.getfield 11, 3) := by decide +kernel
theorem dX1_add_19 : decode cX1_add 19 = .ok (.iload_n 3, 1) := by decide +kernel
theorem dX1_add_20 : decode cX1_add 20 = .ok (.iload_n 1, 1) := by decide +kernel
theorem dX1_add_21 : decode cX1_add 21 = .ok (.iastore, 1) := by decide +kernel
theorem dX1_add_22 : decode cX1_add 22 = .ok (.aload_n 0, 1) := by decide +kernel
theorem dX1_add_23 : decode cX1_add 23 = .ok (.getfield 15, 3) := by decide +kernel
theorem dX1_add_26 : decode cX1_add 26 = .ok (.iload_n 3, 1) := by decide +kernel
theorem dX1_add_27 : decode cX1_add 27 = .ok (.iload_n 2, 1) := by decide +kernel
theorem dX1_add_28 : decode cX1_add 28 = .ok (.iastore, 1) := by decide +kernel
theorem dX1_add_29 : decode cX1_add 29 = .ok (.iload_n 3, 1) := by decide +kernel
theorem dX1_add_30 : decode cX1_add 30 = .ok (.ireturn, 1) := by decide +kernel
theorem dX1_dropLatest_0 : decode cX1_dropLatest 0 = .ok (.aload_n 0, 1) := by decide +kernel
theorem dX1_dropLatest_1 : decode cX1_dropLatest 1 = .ok (.dup, 1) := by decide +kernel
theorem dX1_dropLatest_2 : decode cX1_dropLatest 2 = .ok (.getfield 21, 3) := by decide +kernel
theorem dX1_dropLatest_5 : decode cX1_dropLatest 5 = .ok (.iconst 1, 1) := by decide +kernel
theorem dX1_dropLatest_6 : decode cX1_dropLatest 6 = .ok (.isub, 1) := by decide +kernel
theorem dX1_dropLatest_7 : decode cX1_dropLatest 7 = .ok (.putfield 21, 3) := by decide +kernel
theorem dX1_dropLatest_10 : decode cX1_dropLatest 10 = .ok (.return_, 1) := by decide +kernel
theorem dX1_plannedTurn_0 : decode cX1_plannedTurn 0 = .ok (.aload_n 0, 1) := by decide +kernel
theorem dX1_plannedTurn_1 : decode cX1_plannedTurn 1 = .ok (.getfield 18, 3) := by decide +kernel
theorem dX1_plannedTurn_4 : decode cX1_plannedTurn 4 = .ok (.iload_n 1, 1) := by decide +kernel
theorem dX1_plannedTurn_5 : decode cX1_plannedTurn 5 = .ok (.iaload, 1) := by decide +kernel
theorem dX1_plannedTurn_6 : decode cX1_plannedTurn 6 = .ok (.ireturn, 1) := by decide +kernel
theorem dX1_plannedLength_0 : decode cX1_plannedLength 0 = .ok (.iconst 0, 1) := by decide +kernel
theorem dX1_plannedLength_1 : decode cX1_plannedLength 1 = .ok (.istore_n 1, 1) := by decide +kernel
theorem dX1_plannedLength_2 : decode cX1_plannedLength 2 = .ok (.iconst 0, 1) := by decide +kernel
theorem dX1_plannedLength_3 : decode cX1_plannedLength 3 = .ok (.istore_n 2, 1) := by decide +kernel
theorem dX1_plannedLength_4 : decode cX1_plannedLength 4 = .ok (.iload_n 2, 1) := by decide +kernel
theorem dX1_plannedLength_5 : decode cX1_plannedLength 5 = .ok (.aload_n 0, 1) := by decide +kernel
theorem dX1_plannedLength_6 : decode cX1_plannedLength 6 = .ok (.getfield 21, 3) := by decide +kernel
theorem dX1_plannedLength_9 : decode cX1_plannedLength 9 = .ok (.if_icmp .ge 22, 3) := by decide +kernel
theorem dX1_plannedLength_12 : decode cX1_plannedLength 12 = .ok (.iload_n 1, 1) := by decide +kernel
theorem dX1_plannedLength_13 : decode cX1_plannedLength 13 = .ok (.aload_n 0, 1) := by decide +kernel
theorem dX1_plannedLength_14 : decode cX1_plannedLength 14 = .ok (.getfield 18, 3) := by decide +kernel
theorem dX1_plannedLength_17 : decode cX1_plannedLength 17 = .ok (.iload_n 2, 1) := by decide +kernel
theorem dX1_plannedLength_18 : decode cX1_plannedLength 18 = .ok (.iaload, 1) := by decide +kernel
theorem dX1_plannedLength_19 : decode cX1_plannedLength 19 = .ok (.iconst 1, 1) := by decide +kernel
theorem dX1_plannedLength_20 : decode cX1_plannedLength 20 = .ok (.iadd, 1) := by decide +kernel
theorem dX1_plannedLength_21 : decode cX1_plannedLength 21 = .ok (.invokestatic 29, 3) := by decide +kernel
theorem dX1_plannedLength_24 : decode cX1_plannedLength 24 = .ok (.istore_n 1, 1) := by decide +kernel
theorem dX1_plannedLength_25 : decode cX1_plannedLength 25 = .ok (.iinc 2 1, 3) := by decide +kernel
theorem dX1_plannedLength_28 : decode cX1_plannedLength 28 = .ok (.goto (-24), 3) := by decide +kernel
theorem dX1_plannedLength_31 : decode cX1_plannedLength 31 = .ok (.iload_n 1, 1) := by decide +kernel
theorem dX1_plannedLength_32 : decode cX1_plannedLength 32 = .ok (.ireturn, 1) := by decide +kernel
theorem dX1_plan_0 : decode cX1_plan 0 = .ok (.iconst 2, 1) := by decide +kernel
theorem dX1_plan_1 : decode cX1_plan 1 = .ok (.aload_n 0, 1) := by decide +kernel
theorem dX1_plan_2 : decode cX1_plan 2 = .ok (.invokevirtual 35, 3) := by decide +kernel
theorem dX1_plan_5 : decode cX1_plan 5 = .ok (.iconst 1, 1) := by decide +kernel
theorem dX1_plan_6 : decode cX1_plan 6 = .ok (.isub, 1) := by decide +kernel
theorem dX1_plan_7 : decode cX1_plan 7 = .ok (.imul, 1) := by decide +kernel
theorem dX1_plan_8 : decode cX1_plan 8 = .ok (.istore_n 1, 1) := by decide +kernel
theorem dX1_plan_9 : decode cX1_plan 9 = .ok (.iload_n 1, 1) := by decide +kernel
theorem dX1_plan_10 : decode cX1_plan 10 = .ok (.bipush 12, 2) := by decide +kernel
theorem dX1_plan_12 : decode cX1_plan 12 = .ok (.if_icmp .gt 19, 3) := by decide +kernel
theorem dX1_plan_15 : decode cX1_plan 15 = .ok (.aload_n 0, 1) := by decide +kernel
theorem dX1_plan_16 : decode cX1_plan 16 = .ok (.iconst 0, 1) := by decide +kernel
theorem dX1_plan_17 : decode cX1_plan 17 = .ok (.iload_n 1, 1) := by decide +kernel
theorem dX1_plan_18 : decode cX1_plan 18 = .ok (.invokevirtual 39, 3) := by decide +kernel
theorem dX1_plan_21 : decode cX1_plan 21 = .ok (.ifCond .eq 4, 3) := by decide +kernel
theorem dX1_plan_24 : decode cX1_plan 24 = .ok (.return_, 1) := by decide +kernel
theorem dX1_plan_25 : decode cX1_plan 25 = .ok (.iinc 1 2, 3) := by decide +kernel
theorem dX1_plan_28 : decode cX1_plan 28 = .ok (.goto (-19), 3) := by decide +kernel
theorem dX1_plan_31 : decode cX1_plan 31 = .ok (.return_, 1) := by decide +kernel
theorem dX1_countOfBusiest_0 : decode cX1_countOfBusiest 0 = .ok (.iconst 1, 1) := by decide +kernel
theorem dX1_countOfBusiest_1 : decode cX1_countOfBusiest 1 = .ok (.istore_n 1, 1) := by decide +kernel
theorem dX1_countOfBusiest_2 : decode cX1_countOfBusiest 2 = .ok (.iconst 0, 1) := by decide +kernel
theorem dX1_countOfBusiest_3 : decode cX1_countOfBusiest 3 = .ok (.istore_n 2, 1) := by decide +kernel
theorem dX1_countOfBusiest_4 : decode cX1_countOfBusiest 4 = .ok (.iload_n 2, 1) := by decide +kernel
theorem dX1_countOfBusiest_5 : decode cX1_countOfBusiest 5 = .ok (.bipush 14, 2) := by decide +kernel
theorem dX1_countOfBusiest_7 : decode cX1_countOfBusiest 7 = .ok (.if_icmp .ge 48, 3) := by decide +kernel
theorem dX1_countOfBusiest_10 : decode cX1_countOfBusiest 10 = .ok (.iconst 0, 1) := by decide +kernel
theorem dX1_countOfBusiest_11 : decode cX1_countOfBusiest 11 = .ok (.istore_n 3, 1) := by decide +kernel
theorem dX1_countOfBusiest_12 : decode cX1_countOfBusiest 12 = .ok (.iconst 0, 1) := by decide +kernel
theorem dX1_countOfBusiest_13 : decode cX1_countOfBusiest 13 = .ok (.istore 4, 2) := by decide +kernel
theorem dX1_countOfBusiest_15 : decode cX1_countOfBusiest 15 = .ok (.iload 4, 2) := by decide +kernel
theorem dX1_countOfBusiest_17 : decode cX1_countOfBusiest 17 = .ok (.aload_n 0, 1) := by decide +kernel
theorem dX1_countOfBusiest_18 : decode cX1_countOfBusiest 18 = .ok (.getfield 21, 3) := by decide +kernel
theorem dX1_countOfBusiest_21 : decode cX1_countOfBusiest 21 = .ok (.if_icmp .ge 22, 3) := by decide +kernel
theorem dX1_countOfBusiest_24 : decode cX1_countOfBusiest 24 = .ok (.aload_n 0, 1) := by decide +kernel
theorem dX1_countOfBusiest_25 : decode cX1_countOfBusiest 25 = .ok (.iload 4, 2) := by decide +kernel
theorem dX1_countOfBusiest_27 : decode cX1_countOfBusiest 27 = .ok (.iload_n 2, 1) := by decide +kernel
theorem dX1_countOfBusiest_28 : decode cX1_countOfBusiest 28 = .ok (.invokevirtual 25, 3) := by decide +kernel
theorem dX1_countOfBusiest_31 : decode cX1_countOfBusiest 31 = .ok (.ifCond .eq 6, 3) := by decide +kernel
theorem dX1_countOfBusiest_34 : decode cX1_countOfBusiest 34 = .ok (.iinc 3 1, 3) := by decide +kernel
theorem dX1_countOfBusiest_37 : decode cX1_countOfBusiest 37 = .ok (.iinc 4 1, 3) := by decide +kernel
theorem dX1_countOfBusiest_40 : decode cX1_countOfBusiest 40 = .ok (.goto (-25), 3) := by decide +kernel
theorem dX1_countOfBusiest_43 : decode cX1_countOfBusiest 43 = .ok (.iload_n 1, 1) := by decide +kernel
theorem dX1_countOfBusiest_44 : decode cX1_countOfBusiest 44 = .ok (.iload_n 3, 1) := by decide +kernel
theorem dX1_countOfBusiest_45 : decode cX1_countOfBusiest 45 = .ok (.invokestatic 29, 3) := by decide +kernel
theorem dX1_countOfBusiest_48 : decode cX1_countOfBusiest 48 = .ok (.istore_n 1, 1) := by decide +kernel
theorem dX1_countOfBusiest_49 : decode cX1_countOfBusiest 49 = .ok (.iinc 2 1, 3) := by decide +kernel
theorem dX1_countOfBusiest_52 : decode cX1_countOfBusiest 52 = .ok (.goto (-48), 3) := by decide +kernel
theorem dX1_countOfBusiest_55 : decode cX1_countOfBusiest 55 = .ok (.iload_n 1, 1) := by decide +kernel
theorem dX1_countOfBusiest_56 : decode cX1_countOfBusiest 56 = .ok (.ireturn, 1) := by decide +kernel
theorem dX1_settle_0 : decode cX1_settle 0 = .ok (.iload_n 1, 1) := by decide +kernel
theorem dX1_settle_1 : decode cX1_settle 1 = .ok (.aload_n 0, 1) := by decide +kernel
theorem dX1_settle_2 : decode cX1_settle 2 = .ok (.getfield 21, 3) := by decide +kernel
theorem dX1_settle_5 : decode cX1_settle 5 = .ok (.if_icmp .lt 5, 3) := by decide +kernel
theorem dX1_settle_8 : decode cX1_settle 8 = .ok (.iconst 1, 1) := by decide +kernel
theorem dX1_settle_9 : decode cX1_settle 9 = .ok (.ireturn, 1) := by decide +kernel
theorem dX1_settle_10 : decode cX1_settle 10 = .ok (.iconst 0, 1) := by decide +kernel
theorem dX1_settle_11 : decode cX1_settle 11 = .ok (.istore_n 3, 1) := by decide +kernel
theorem dX1_settle_12 : decode cX1_settle 12 = .ok (.iload_n 3, 1) := by decide +kernel
theorem dX1_settle_13 : decode cX1_settle 13 = .ok (.iload_n 2, 1) := by decide +kernel
theorem dX1_settle_14 : decode cX1_settle 14 = .ok (.if_icmp .gt 38, 3) := by decide +kernel
theorem dX1_settle_17 : decode cX1_settle 17 = .ok (.aload_n 0, 1) := by decide +kernel
theorem dX1_settle_18 : decode cX1_settle 18 = .ok (.iload_n 1, 1) := by decide +kernel
theorem dX1_settle_19 : decode cX1_settle 19 = .ok (.iload_n 3, 1) := by decide +kernel
theorem dX1_settle_20 : decode cX1_settle 20 = .ok (.invokevirtual 42, 3) := by decide +kernel
theorem dX1_settle_23 : decode cX1_settle 23 = .ok (.ifCond .eq 23, 3) := by decide +kernel
theorem dX1_settle_26 : decode cX1_settle 26 = .ok (.aload_n 0, 1) := by decide +kernel
theorem dX1_settle_27 : decode cX1_settle 27 = .ok (.getfield 18, 3) := by decide +kernel
theorem dX1_settle_30 : decode cX1_settle 30 = .ok (.iload_n 1, 1) := by decide +kernel
theorem dX1_settle_31 : decode cX1_settle 31 = .ok (.iload_n 3, 1) := by decide +kernel
theorem dX1_settle_32 : decode cX1_settle 32 = .ok (.iastore, 1) := by decide +kernel
theorem dX1_settle_33 : decode cX1_settle 33 = .ok (.aload_n 0, 1) := by decide +kernel
theorem dX1_settle_34 : decode cX1_settle 34 = .ok (.iload_n 1, 1) := by decide +kernel
theorem dX1_settle_35 : decode cX1_settle 35 = .ok (.iconst 1, 1) := by decide +kernel
theorem dX1_settle_36 : decode cX1_settle 36 = .ok (.iadd, 1) := by decide +kernel
theorem dX1_settle_37 : decode cX1_settle 37 = .ok (.iload_n 2, 1) := by decide +kernel
theorem dX1_settle_38 : decode cX1_settle 38 = .ok (.invokevirtual 39, 3) := by decide +kernel
theorem dX1_settle_41 : decode cX1_settle 41 = .ok (.ifCond .eq 5, 3) := by decide +kernel
theorem dX1_settle_44 : decode cX1_settle 44 = .ok (.iconst 1, 1) := by decide +kernel
theorem dX1_settle_45 : decode cX1_settle 45 = .ok (.ireturn, 1) := by decide +kernel
theorem dX1_settle_46 : decode cX1_settle 46 = .ok (.iinc 3 2, 3) := by decide +kernel
theorem dX1_settle_49 : decode cX1_settle 49 = .ok (.goto (-37), 3) := by decide +kernel
theorem dX1_settle_52 : decode cX1_settle 52 = .ok (.iconst 0, 1) := by decide +kernel
theorem dX1_settle_53 : decode cX1_settle 53 = .ok (.ireturn, 1) := by decide +kernel
theorem dX1_isFree_0 : decode cX1_isFree 0 = .ok (.iconst 0, 1) := by decide +kernel
theorem dX1_isFree_1 : decode cX1_isFree 1 = .ok (.istore_n 3, 1) := by decide +kernel
theorem dX1_isFree_2 : decode cX1_isFree 2 = .ok (.iload_n 3, 1) := by decide +kernel
theorem dX1_isFree_3 : decode cX1_isFree 3 = .ok (.iload_n 1, 1) := by decide +kernel
theorem dX1_isFree_4 : decode cX1_isFree 4 = .ok (.if_icmp .ge 66, 3) := by decide +kernel
theorem dX1_isFree_7 : decode cX1_isFree 7 = .ok (.aload_n 0, 1) := by decide +kernel
theorem dX1_isFree_8 : decode cX1_isFree 8 = .ok (.iload_n 3, 1) := by decide +kernel
theorem dX1_isFree_9 : decode cX1_isFree 9 = .ok (.aload_n 0, 1) := by decide +kernel
theorem dX1_isFree_10 : decode cX1_isFree 10 = .ok (.getfield 11, 3) := by decide +kernel
theorem dX1_isFree_13 : decode cX1_isFree 13 = .ok (.iload_n 1, 1) := by decide +kernel
theorem dX1_isFree_14 : decode cX1_isFree 14 = .ok (.iaload, 1) := by decide +kernel
theorem dX1_isFree_15 : decode cX1_isFree 15 = .ok (.invokevirtual 25, 3) := by decide +kernel
theorem dX1_isFree_18 : decode cX1_isFree 18 = .ok (.ifCond .ne 17, 3) := by decide +kernel
theorem dX1_isFree_21 : decode cX1_isFree 21 = .ok (.aload_n 0, 1) := by decide +kernel
theorem dX1_isFree_22 : decode cX1_isFree 22 = .ok (.iload_n 3, 1) := by decide +kernel
theorem dX1_isFree_23 : decode cX1_isFree 23 = .ok (.aload_n 0, 1) := by decide +kernel
theorem dX1_isFree_24 : decode cX1_isFree 24 = .ok (.getfield 15, 3) := by decide +kernel
theorem dX1_isFree_27 : decode cX1_isFree 27 = .ok (.iload_n 1, 1) := by decide +kernel
theorem dX1_isFree_28 : decode cX1_isFree 28 = .ok (.iaload, 1) := by decide +kernel
theorem dX1_isFree_29 : decode cX1_isFree 29 = .ok (.invokevirtual 25, 3) := by decide +kernel
theorem dX1_isFree_32 : decode cX1_isFree 32 = .ok (.ifCond .eq 7, 3) := by decide +kernel
theorem dX1_isFree_35 : decode cX1_isFree 35 = .ok (.iconst 1, 1) := by decide +kernel
theorem dX1_isFree_36 : decode cX1_isFree 36 = .ok (.goto 4, 3) := by decide +kernel
theorem dX1_isFree_39 : decode cX1_isFree 39 = .ok (.iconst 0, 1) := by decide +kernel
theorem dX1_isFree_40 : decode cX1_isFree 40 = .ok (.istore 4, 2) := by decide +kernel
theorem dX1_isFree_42 : decode cX1_isFree 42 = .ok (.iload 4, 2) := by decide +kernel
theorem dX1_isFree_44 : decode cX1_isFree 44 = .ok (.ifCond .eq 20, 3) := by decide +kernel
theorem dX1_isFree_47 : decode cX1_isFree 47 = .ok (.aload_n 0, 1) := by decide +kernel
theorem dX1_isFree_48 : decode cX1_isFree 48 = .ok (.getfield 18, 3) := by decide +kernel
theorem dX1_isFree_51 : decode cX1_isFree 51 = .ok (.iload_n 3, 1) := by decide +kernel
theorem dX1_isFree_52 : decode cX1_isFree 52 = .ok (.iaload, 1) := by decide +kernel
theorem dX1_isFree_53 : decode cX1_isFree 53 = .ok (.iload_n 2, 1) := by decide +kernel
theorem dX1_isFree_54 : decode cX1_isFree 54 = .ok (.isub, 1) := by decide +kernel
theorem dX1_isFree_55 : decode cX1_isFree 55 = .ok (.invokestatic 45, 3) := by decide +kernel
theorem dX1_isFree_58 : decode cX1_isFree 58 = .ok (.iconst 2, 1) := by decide +kernel
theorem dX1_isFree_59 : decode cX1_isFree 59 = .ok (.if_icmp .ge 5, 3) := by decide +kernel
theorem dX1_isFree_62 : decode cX1_isFree 62 = .ok (.iconst 0, 1) := by decide +kernel
theorem dX1_isFree_63 : decode cX1_isFree 63 = .ok (.ireturn, 1) := by decide +kernel
theorem dX1_isFree_64 : decode cX1_isFree 64 = .ok (.iinc 3 1, 3) := by decide +kernel
theorem dX1_isFree_67 : decode cX1_isFree 67 = .ok (.goto (-65), 3) := by decide +kernel
theorem dX1_isFree_70 : decode cX1_isFree 70 = .ok (.iconst 1, 1) := by decide +kernel
theorem dX1_isFree_71 : decode cX1_isFree 71 = .ok (.ireturn, 1) := by decide +kernel
