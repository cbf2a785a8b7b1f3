theorem dX7_in_0 : decode cX7_in 0 = .ok (.iload_n 0, 1) := by decide +kernel
theorem dX7_in_1 : decode cX7_in 1 = .ok (.iload_n 1, 1) := by decide +kernel
theorem dX7_in_2 : decode cX7_in 2 = .ok (.if_icmp .lt 12, 3) := by decide +kernel
theorem dX7_in_5 : decode cX7_in 5 = .ok (.iload_n 0, 1) := by decide +kernel
theorem dX7_in_6 : decode cX7_in 6 = .ok (.iload_n 2, 1) := by decide +kernel
theorem dX7_in_7 : decode cX7_in 7 = .ok (.if_icmp .gt 7, 3) := by decide +kernel
theorem dX7_in_10 : decode cX7_in 10 = .ok (.iconst 1, 1) := by decide +kernel
theorem dX7_in_11 : decode cX7_in 11 = .ok (.goto 4, 3) := by decide +kernel
theorem dX7_in_14 : decode cX7_in 14 = .ok (.iconst 0, 1) := by decide +kernel
theorem dX7_in_15 : decode cX7_in 15 = .ok (.ireturn, 1) := by decide +kernel
theorem dX7_isKnight_0 : decode cX7_isKnight 0 = .ok (.iload_n 1, 1) := by decide +kernel
theorem dX7_isKnight_1 : decode cX7_isKnight 1 = .ok (.iconst 0, 1) := by decide +kernel
theorem dX7_isKnight_2 : decode cX7_isKnight 2 = .ok (.aload_n 0, 1) := by decide +kernel
theorem dX7_isKnight_3 : decode cX7_isKnight 3 = .ok (.getfield 69, 3) := by decide +kernel
theorem dX7_isKnight_6 : decode cX7_isKnight 6 = .ok (.iconst 1, 1) := by decide +kernel
theorem dX7_isKnight_7 : decode cX7_isKnight 7 = .ok (.isub, 1) := by decide +kernel
theorem dX7_isKnight_8 : decode cX7_isKnight 8 = .ok (.invokestatic 72, 3) := by decide +kernel
theorem dX7_isKnight_11 : decode cX7_isKnight 11 = .ok (.ireturn, 1) := by decide +kernel
theorem dX7_areTwo_0 : decode cX7_areTwo 0 = .ok (.aload_n 0, 1) := by decide +kernel
theorem dX7_areTwo_1 : decode cX7_areTwo 1 = .ok (.iload_n 1, 1) := by decide +kernel
theorem dX7_areTwo_2 : decode cX7_areTwo 2 = .ok (.invokevirtual 76, 3) := by decide +kernel
theorem dX7_areTwo_5 : decode cX7_areTwo 5 = .ok (.ifCond .eq 20, 3) := by decide +kernel
theorem dX7_areTwo_8 : decode cX7_areTwo 8 = .ok (.aload_n 0, 1) := by decide +kernel
theorem dX7_areTwo_9 : decode cX7_areTwo 9 = .ok (.iload_n 2, 1) := by decide +kernel
theorem dX7_areTwo_10 : decode cX7_areTwo 10 = .ok (.invokevirtual 76, 3) := by decide +kernel
theorem dX7_areTwo_13 : decode cX7_areTwo 13 = .ok (.ifCond .eq 12, 3) := by decide +kernel
theorem dX7_areTwo_16 : decode cX7_areTwo 16 = .ok (.iload_n 1, 1) := by decide +kernel
theorem dX7_areTwo_17 : decode cX7_areTwo 17 = .ok (.iload_n 2, 1) := by decide +kernel
theorem dX7_areTwo_18 : decode cX7_areTwo 18 = .ok (.if_icmp .eq 7, 3) := by decide +kernel
theorem dX7_areTwo_21 : decode cX7_areTwo 21 = .ok (.iconst 1, 1) := by decide +kernel
theorem dX7_areTwo_22 : decode cX7_areTwo 22 = .ok (.goto 4, 3) := by decide +kernel
theorem dX7_areTwo_25 : decode cX7_areTwo 25 = .ok (.iconst 0, 1) := by decide +kernel
theorem dX7_areTwo_26 : decode cX7_areTwo 26 = .ok (.ireturn, 1) := by decide +kernel
theorem dX7_isJoust_0 : decode cX7_isJoust 0 = .ok (.iload_n 1, 1) := by decide +kernel
theorem dX7_isJoust_1 : decode cX7_isJoust 1 = .ok (.iconst 0, 1) := by decide +kernel
theorem dX7_isJoust_2 : decode cX7_isJoust 2 = .ok (.aload_n 0, 1) := by decide +kernel
theorem dX7_isJoust_3 : decode cX7_isJoust 3 = .ok (.getfield 80, 3) := by decide +kernel
theorem dX7_isJoust_6 : decode cX7_isJoust 6 = .ok (.iconst 1, 1) := by decide +kernel
theorem dX7_isJoust_7 : decode cX7_isJoust 7 = .ok (.isub, 1) := by decide +kernel
theorem dX7_isJoust_8 : decode cX7_isJoust 8 = .ok (.invokestatic 72, 3) := by decide +kernel
theorem dX7_isJoust_11 : decode cX7_isJoust 11 = .ok (.ireturn, 1) := by decide +kernel
theorem dX7_isSide_0 : decode cX7_isSide 0 = .ok (.iload_n 0, 1) := by decide +kernel
theorem dX7_isSide_1 : decode cX7_isSide 1 = .ok (.iconst 0, 1) := by decide +kernel
theorem dX7_isSide_2 : decode cX7_isSide 2 = .ok (.iconst 1, 1) := by decide +kernel
theorem dX7_isSide_3 : decode cX7_isSide 3 = .ok (.invokestatic 72, 3) := by decide +kernel
theorem dX7_isSide_6 : decode cX7_isSide 6 = .ok (.ireturn, 1) := by decide +kernel
theorem dX7_areArms_0 : decode cX7_areArms 0 = .ok (.iload_n 0, 1) := by decide +kernel
theorem dX7_areArms_1 : decode cX7_areArms 1 = .ok (.iconst 0, 1) := by decide +kernel
theorem dX7_areArms_2 : decode cX7_areArms 2 = .ok (.iconst 5, 1) := by decide +kernel
theorem dX7_areArms_3 : decode cX7_areArms 3 = .ok (.invokestatic 72, 3) := by decide +kernel
theorem dX7_areArms_6 : decode cX7_areArms 6 = .ok (.ifCond .eq 26, 3) := by decide +kernel
theorem dX7_areArms_9 : decode cX7_areArms 9 = .ok (.iload_n 1, 1) := by decide +kernel
theorem dX7_areArms_10 : decode cX7_areArms 10 = .ok (.iconst 0, 1) := by decide +kernel
theorem dX7_areArms_11 : decode cX7_areArms 11 = .ok (.bipush 9, 2) := by decide +kernel
theorem dX7_areArms_13 : decode cX7_areArms 13 = .ok (.invokestatic 72, 3) := by decide +kernel
theorem dX7_areArms_16 : decode cX7_areArms 16 = .ok (.ifCond .eq 16, 3) := by decide +kernel
theorem dX7_areArms_19 : decode cX7_areArms 19 = .ok (.iload_n 2, 1) := by decide +kernel
theorem dX7_areArms_20 : decode cX7_areArms 20 = .ok (.iconst 0, 1) := by decide +kernel
theorem dX7_areArms_21 : decode cX7_areArms 21 = .ok (.iconst 5, 1) := by decide +kernel
theorem dX7_areArms_22 : decode cX7_areArms 22 = .ok (.invokestatic 72, 3) := by decide +kernel
theorem dX7_areArms_25 : decode cX7_areArms 25 = .ok (.ifCond .eq 7, 3) := by decide +kernel
theorem dX7_areArms_28 : decode cX7_areArms 28 = .ok (.iconst 1, 1) := by decide +kernel
theorem dX7_areArms_29 : decode cX7_areArms 29 = .ok (.goto 4, 3) := by decide +kernel
theorem dX7_areArms_32 : decode cX7_areArms 32 = .ok (.iconst 0, 1) := by decide +kernel
theorem dX7_areArms_33 : decode cX7_areArms 33 = .ok (.ireturn, 1) := by decide +kernel
theorem dX7_put_0 : decode cX7_put 0 = .ok (.aload_n 0, 1) := by decide +kernel
theorem dX7_put_1 : decode cX7_put 1 = .ok (.getfield 13, 3) := by decide +kernel
theorem dX7_put_4 : decode cX7_put 4 = .ok (.iload_n 1, 1) := by decide +kernel
theorem dX7_put_5 : decode cX7_put 5 = .ok (.iload_n 2, 1) := by decide +kernel
theorem dX7_put_6 : decode cX7_put 6 = .ok (.iastore, 1) := by decide +kernel
theorem dX7_put_7 : decode cX7_put 7 = .ok (.aload_n 0, 1) := by decide +kernel
theorem dX7_put_8 : decode cX7_put 8 = .ok (.getfield 16, 3) := by decide +kernel
theorem dX7_put_11 : decode cX7_put 11 = .ok (.iload_n 1, 1) := by decide +kernel
theorem dX7_put_12 : decode cX7_put 12 = .ok (.iload_n 3, 1) := by decide +kernel
theorem dX7_put_13 : decode cX7_put 13 = .ok (.iastore, 1) := by decide +kernel
theorem dX7_put_14 : decode cX7_put 14 = .ok (.aload_n 0, 1) := by decide +kernel
theorem dX7_put_15 : decode cX7_put 15 = .ok (.getfield 19, 3) := by decide +kernel
theorem dX7_put_18 : decode cX7_put 18 = .ok (.iload_n 1, 1) := by decide +kernel
theorem dX7_put_19 : decode cX7_put 19 = .ok (.iload 4, 2) := by decide +kernel
theorem dX7_put_21 : decode cX7_put 21 = .ok (.iastore, 1) := by decide +kernel
theorem dX7_put_22 : decode cX7_put 22 = .ok (.return_, 1) := by decide +kernel
theorem dX7_knight_0 : decode cX7_knight 0 = .ok (.iload_n 1, 1) := by decide +kernel
theorem dX7_knight_1 : decode cX7_knight 1 = .ok (.iconst 0, 1) := by decide +kernel
theorem dX7_knight_2 : decode cX7_knight 2 = .ok (.iconst 3, 1) := by decide +kernel
theorem dX7_knight_3 : decode cX7_knight 3 = .ok (.invokestatic 72, 3) := by decide +kernel
theorem dX7_knight_6 : decode cX7_knight 6 = .ok (.ifCond .eq 13, 3) := by decide +kernel
theorem dX7_knight_9 : decode cX7_knight 9 = .ok (.iload_n 2, 1) := by decide +kernel
theorem dX7_knight_10 : decode cX7_knight 10 = .ok (.iload_n 3, 1) := by decide +kernel
theorem dX7_knight_11 : decode cX7_knight 11 = .ok (.iload 4, 2) := by decide +kernel
theorem dX7_knight_13 : decode cX7_knight 13 = .ok (.invokestatic 83, 3) := by decide +kernel
theorem dX7_knight_16 : decode cX7_knight 16 = .ok (.ifCond .ne 5, 3) := by decide +kernel
theorem dX7_knight_19 : decode cX7_knight 19 = .ok (.iconst (-1), 1) := by decide +kernel
theorem dX7_knight_20 : decode cX7_knight 20 = .ok (.ireturn, 1) := by decide +kernel
theorem dX7_knight_21 : decode cX7_knight 21 = .ok (.aload_n 0, 1) := by decide +kernel
theorem dX7_knight_22 : decode cX7_knight 22 = .ok (.getfield 69, 3) := by decide +kernel
theorem dX7_knight_25 : decode cX7_knight 25 = .ok (.bipush 14, 2) := by decide +kernel
theorem dX7_knight_27 : decode cX7_knight 27 = .ok (.if_icmp .ne 6, 3) := by decide +kernel
theorem dX7_knight_30 : decode cX7_knight 30 = .ok (.bipush (-2), 2) := by decide +kernel
theorem dX7_knight_32 : decode cX7_knight 32 = .ok (.ireturn, 1) := by decide +kernel
theorem dX7_knight_33 : decode cX7_knight 33 = .ok (.aload_n 0, 1) := by decide +kernel
theorem dX7_knight_34 : decode cX7_knight 34 = .ok (.getfield 7, 3) := by decide +kernel
theorem dX7_knight_37 : decode cX7_knight 37 = .ok (.aload_n 0, 1) := by decide +kernel
theorem dX7_knight_38 : decode cX7_knight 38 = .ok (.getfield 69, 3) := by decide +kernel
theorem dX7_knight_41 : decode cX7_knight 41 = .ok (.iload_n 1, 1) := by decide +kernel
theorem dX7_knight_42 : decode cX7_knight 42 = .ok (.iastore, 1) := by decide +kernel
theorem dX7_knight_43 : decode cX7_knight 43 = .ok (.aload_n 0, 1) := by decide +kernel
theorem dX7_knight_44 : decode cX7_knight 44 = .ok (.aload_n 0, 1) := by decide +kernel
theorem dX7_knight_45 : decode cX7_knight 45 = .ok (.getfield 69, 3) := by decide +kernel
theorem dX7_knight_48 : decode cX7_knight 48 = .ok (.iload_n 2, 1) := by decide +kernel
theorem dX7_knight_49 : decode cX7_knight 49 = .ok (.iload_n 3, 1) := by decide +kernel
theorem dX7_knight_50 : decode cX7_knight 50 = .ok (.iload 4, 2) := by decide +kernel
theorem dX7_knight_52 : decode cX7_knight 52 = .ok (.invokevirtual 86, 3) := by decide +kernel
theorem dX7_knight_55 : decode cX7_knight 55 = .ok (.aload_n 0, 1) := by decide +kernel
theorem dX7_knight_56 : decode cX7_knight 56 = .ok (.dup, 1) := by decide +kernel
theorem dX7_knight_57 : decode cX7_knight 57 = .ok (.getfield 69, 3) := by decide +kernel
theorem dX7_knight_60 : decode cX7_knight 60 = .ok (.iconst 1, 1) := by decide +kernel
theorem dX7_knight_61 : decode cX7_knight 61 = .ok (.iadd, 1) := by decide +kernel
theorem dX7_knight_62 : decode cX7_knight 62 = .ok (.putfield 69, 3) := by decide +kernel
theorem dX7_knight_65 : decode cX7_knight 65 = .ok (.aload_n 0, 1) := by decide +kernel
theorem dX7_knight_66 : decode cX7_knight 66 = .ok (.getfield 69, 3) := by decide +kernel
theorem dX7_knight_69 : decode cX7_knight 69 = .ok (.iconst 1, 1) := by decide +kernel
theorem dX7_knight_70 : decode cX7_knight 70 = .ok (.isub, 1) := by decide +kernel
theorem dX7_knight_71 : decode cX7_knight 71 = .ok (.ireturn, 1) := by decide +kernel
theorem dX7_arms_0 : decode cX7_arms 0 = .ok (.aload_n 0, 1) := by decide +kernel
theorem dX7_arms_1 : decode cX7_arms 1 = .ok (.iload_n 1, 1) := by decide +kernel
theorem dX7_arms_2 : decode cX7_arms 2 = .ok (.invokevirtual 76, 3) := by decide +kernel
theorem dX7_arms_5 : decode cX7_arms 5 = .ok (.ifCond .eq 13, 3) := by decide +kernel
theorem dX7_arms_8 : decode cX7_arms 8 = .ok (.iload_n 2, 1) := by decide +kernel
theorem dX7_arms_9 : decode cX7_arms 9 = .ok (.iload_n 3, 1) := by decide +kernel
theorem dX7_arms_10 : decode cX7_arms 10 = .ok (.iload 4, 2) := by decide +kernel
theorem dX7_arms_12 : decode cX7_arms 12 = .ok (.invokestatic 83, 3) := by decide +kernel
theorem dX7_arms_15 : decode cX7_arms 15 = .ok (.ifCond .ne 5, 3) := by decide +kernel
theorem dX7_arms_18 : decode cX7_arms 18 = .ok (.iconst (-1), 1) := by decide +kernel
theorem dX7_arms_19 : decode cX7_arms 19 = .ok (.ireturn, 1) := by decide +kernel
theorem dX7_arms_20 : decode cX7_arms 20 = .ok (.aload_n 0, 1) := by decide +kernel
theorem dX7_arms_21 : decode cX7_arms 21 = .ok (.iload_n 1, 1) := by decide +kernel
theorem dX7_arms_22 : decode cX7_arms 22 = .ok (.iload_n 2, 1) := by decide +kernel
theorem dX7_arms_23 : decode cX7_arms 23 = .ok (.iload_n 3, 1) := by decide +kernel
theorem dX7_arms_24 : decode cX7_arms 24 = .ok (.iload 4, 2) := by decide +kernel
theorem dX7_arms_26 : decode cX7_arms 26 = .ok (.invokevirtual 86, 3) := by decide +kernel
theorem dX7_arms_29 : decode cX7_arms 29 = .ok (.iconst 1, 1) := by decide +kernel
theorem dX7_arms_30 : decode cX7_arms 30 = .ok (.ireturn, 1) := by decide +kernel
theorem dX7_rank_0 : decode cX7_rank 0 = .ok (.aload_n 0, 1) := by decide +kernel
theorem dX7_rank_1 : decode cX7_rank 1 = .ok (.iload_n 1, 1) := by decide +kernel
theorem dX7_rank_2 : decode cX7_rank 2 = .ok (.invokevirtual 76, 3) := by decide +kernel
theorem dX7_rank_5 : decode cX7_rank 5 = .ok (.ifCond .eq 12, 3) := by decide +kernel
theorem dX7_rank_8 : decode cX7_rank 8 = .ok (.iload_n 2, 1) := by decide +kernel
theorem dX7_rank_9 : decode cX7_rank 9 = .ok (.iconst 0, 1) := by decide +kernel
theorem dX7_rank_10 : decode cX7_rank 10 = .ok (.iconst 3, 1) := by decide +kernel
theorem dX7_rank_11 : decode cX7_rank 11 = .ok (.invokestatic 72, 3) := by decide +kernel
theorem dX7_rank_14 : decode cX7_rank 14 = .ok (.ifCond .ne 5, 3) := by decide +kernel
theorem dX7_rank_17 : decode cX7_rank 17 = .ok (.iconst (-1), 1) := by decide +kernel
theorem dX7_rank_18 : decode cX7_rank 18 = .ok (.ireturn, 1) := by decide +kernel
theorem dX7_rank_19 : decode cX7_rank 19 = .ok (.aload_n 0, 1) := by decide +kernel
theorem dX7_rank_20 : decode cX7_rank 20 = .ok (.getfield 7, 3) := by decide +kernel
theorem dX7_rank_23 : decode cX7_rank 23 = .ok (.iload_n 1, 1) := by decide +kernel
theorem dX7_rank_24 : decode cX7_rank 24 = .ok (.iaload, 1) := by decide +kernel
theorem dX7_rank_25 : decode cX7_rank 25 = .ok (.istore_n 3, 1) := by decide +kernel
theorem dX7_rank_26 : decode cX7_rank 26 = .ok (.aload_n 0, 1) := by decide +kernel
theorem dX7_rank_27 : decode cX7_rank 27 = .ok (.getfield 7, 3) := by decide +kernel
theorem dX7_rank_30 : decode cX7_rank 30 = .ok (.iload_n 1, 1) := by decide +kernel
theorem dX7_rank_31 : decode cX7_rank 31 = .ok (.iload_n 2, 1) := by decide +kernel
theorem dX7_rank_32 : decode cX7_rank 32 = .ok (.iastore, 1) := by decide +kernel
theorem dX7_rank_33 : decode cX7_rank 33 = .ok (.iload_n 3, 1) := by decide +kernel
theorem dX7_rank_34 : decode cX7_rank 34 = .ok (.ireturn, 1) := by decide +kernel
theorem dX7_areNear_0 : decode cX7_areNear 0 = .ok (.aload_n 0, 1) := by decide +kernel
theorem dX7_areNear_1 : decode cX7_areNear 1 = .ok (.getfield 13, 3) := by decide +kernel
theorem dX7_areNear_4 : decode cX7_areNear 4 = .ok (.iload_n 1, 1) := by decide +kernel
theorem dX7_areNear_5 : decode cX7_areNear 5 = .ok (.iaload, 1) := by decide +kernel
theorem dX7_areNear_6 : decode cX7_areNear 6 = .ok (.aload_n 0, 1) := by decide +kernel
theorem dX7_areNear_7 : decode cX7_areNear 7 = .ok (.getfield 13, 3) := by decide +kernel
theorem dX7_areNear_10 : decode cX7_areNear 10 = .ok (.iload_n 2, 1) := by decide +kernel
theorem dX7_areNear_11 : decode cX7_areNear 11 = .ok (.iaload, 1) := by decide +kernel
theorem dX7_areNear_12 : decode cX7_areNear 12 = .ok (.if_icmp .ne 7, 3) := by decide +kernel
theorem dX7_areNear_15 : decode cX7_areNear 15 = .ok (.iconst 1, 1) := by decide +kernel
theorem dX7_areNear_16 : decode cX7_areNear 16 = .ok (.goto 4, 3) := by decide +kernel
theorem dX7_areNear_19 : decode cX7_areNear 19 = .ok (.iconst 0, 1) := by decide +kernel
theorem dX7_areNear_20 : decode cX7_areNear 20 = .ok (.aload_n 0, 1) := by decide +kernel
theorem dX7_areNear_21 : decode cX7_areNear 21 = .ok (.getfield 16, 3) := by decide +kernel
theorem dX7_areNear_24 : decode cX7_areNear 24 = .ok (.iload_n 1, 1) := by decide +kernel
theorem dX7_areNear_25 : decode cX7_areNear 25 = .ok (.iaload, 1) := by decide +kernel
theorem dX7_areNear_26 : decode cX7_areNear 26 = .ok (.aload_n 0, 1) := by decide +kernel
theorem dX7_areNear_27 : decode cX7_areNear 27 = .ok (.getfield 16, 3) := by decide +kernel
theorem dX7_areNear_30 : decode cX7_areNear 30 = .ok (.iload_n 2, 1) := by decide +kernel
theorem dX7_areNear_31 : decode cX7_areNear 31 = .ok (.iaload, 1) := by decide +kernel
theorem dX7_areNear_32 : decode cX7_areNear 32 = .ok (.if_icmp .ne 7, 3) := by decide +kernel
theorem dX7_areNear_35 : decode cX7_areNear 35 = .ok (.iconst 1, 1) := by decide +kernel
theorem dX7_areNear_36 : decode cX7_areNear 36 = .ok (.goto 4, 3) := by decide +kernel
theorem dX7_areNear_39 : decode cX7_areNear 39 = .ok (.iconst 0, 1) := by decide +kernel
theorem dX7_areNear_40 : decode cX7_areNear 40 = .ok (.iadd, 1) := by decide +kernel
theorem dX7_areNear_41 : decode cX7_areNear 41 = .ok (.aload_n 0, 1) := by decide +kernel
theorem dX7_areNear_42 : decode cX7_areNear 42 = .ok (.getfield 19, 3) := by decide +kernel
theorem dX7_areNear_45 : decode cX7_areNear 45 = .ok (.iload_n 1, 1) := by decide +kernel
theorem dX7_areNear_46 : decode cX7_areNear 46 = .ok (.iaload, 1) := by decide +kernel
theorem dX7_areNear_47 : decode cX7_areNear 47 = .ok (.aload_n 0, 1) := by decide +kernel
theorem dX7_areNear_48 : decode cX7_areNear 48 = .ok (.getfield 19, 3) := by decide +kernel
theorem dX7_areNear_51 : decode cX7_areNear 51 = .ok (.iload_n 2, 1) := by decide +kernel
theorem dX7_areNear_52 : decode cX7_areNear 52 = .ok (.iaload, 1) := by decide +kernel
theorem dX7_areNear_53 : decode cX7_areNear 53 = .ok (.if_icmp .ne 7, 3) := by decide +kernel
theorem dX7_areNear_56 : decode cX7_areNear 56 = .ok (.iconst 1, 1) := by decide +kernel
theorem dX7_areNear_57 : decode cX7_areNear 57 = .ok (.goto 4, 3) := by decide +kernel
theorem dX7_areNear_60 : decode cX7_areNear 60 = .ok (.iconst 0, 1) := by decide +kernel
theorem dX7_areNear_61 : decode cX7_areNear 61 = .ok (.iadd, 1) := by decide +kernel
theorem dX7_areNear_62 : decode cX7_areNear 62 = .ok (.istore_n 3, 1) := by decide +kernel
theorem dX7_areNear_63 : decode cX7_areNear 63 = .ok (.iload_n 3, 1) := by decide +kernel
theorem dX7_areNear_64 : decode cX7_areNear 64 = .ok (.iconst 2, 1) := by decide +kernel
theorem dX7_areNear_65 : decode cX7_areNear 65 = .ok (.if_icmp .lt 7, 3) := by decide +kernel
theorem dX7_areNear_68 : decode cX7_areNear 68 = .ok (.iconst 1, 1) := by decide +kernel
theorem dX7_areNear_69 : decode cX7_areNear 69 = .ok (.goto 4, 3) := by decide +kernel
theorem dX7_areNear_72 : decode cX7_areNear 72 = .ok (.iconst 0, 1) := by decide +kernel
theorem dX7_areNear_73 : decode cX7_areNear 73 = .ok (.ireturn, 1) := by decide +kernel
theorem dX7_doesYield_0 : decode cX7_doesYield 0 = .ok (.iload_n 1, 1) := by decide +kernel
theorem dX7_doesYield_1 : decode cX7_doesYield 1 = .ok (.iload_n 2, 1) := by decide +kernel
theorem dX7_doesYield_2 : decode cX7_doesYield 2 = .ok (.if_icmp .eq 54, 3) := by decide +kernel
theorem dX7_doesYield_5 : decode cX7_doesYield 5 = .ok (.aload_n 0, 1) := by decide +kernel
theorem dX7_doesYield_6 : decode cX7_doesYield 6 = .ok (.iload_n 1, 1) := by decide +kernel
theorem dX7_doesYield_7 : decode cX7_doesYield 7 = .ok (.iload_n 2, 1) := by decide +kernel
theorem dX7_doesYield_8 : decode cX7_doesYield 8 = .ok (.invokevirtual 90, 3) := by decide +kernel
theorem dX7_doesYield_11 : decode cX7_doesYield 11 = .ok (.ifCond .eq 45, 3) := by decide +kernel
theorem dX7_doesYield_14 : decode cX7_doesYield 14 = .ok (.aload_n 0, 1) := by decide +kernel
theorem dX7_doesYield_15 : decode cX7_doesYield 15 = .ok (.getfield 7, 3) := by decide +kernel
theorem dX7_doesYield_18 : decode cX7_doesYield 18 = .ok (.iload_n 1, 1) := by decide +kernel
theorem dX7_doesYield_19 : decode cX7_doesYield 19 = .ok (.iaload, 1) := by decide +kernel
theorem dX7_doesYield_20 : decode cX7_doesYield 20 = .ok (.aload_n 0, 1) := by decide +kernel
theorem dX7_doesYield_21 : decode cX7_doesYield 21 = .ok (.getfield 7, 3) := by decide +kernel
theorem dX7_doesYield_24 : decode cX7_doesYield 24 = .ok (.iload_n 2, 1) := by decide +kernel
theorem dX7_doesYield_25 : decode cX7_doesYield 25 = .ok (.iaload, 1) := by decide +kernel
theorem dX7_doesYield_26 : decode cX7_doesYield 26 = .ok (.if_icmp .eq 21, 3) := by decide +kernel
theorem dX7_doesYield_29 : decode cX7_doesYield 29 = .ok (.aload_n 0, 1) := by decide +kernel
theorem dX7_doesYield_30 : decode cX7_doesYield 30 = .ok (.getfield 7, 3) := by decide +kernel
theorem dX7_doesYield_33 : decode cX7_doesYield 33 = .ok (.iload_n 1, 1) := by decide +kernel
theorem dX7_doesYield_34 : decode cX7_doesYield 34 = .ok (.iaload, 1) := by decide +kernel
theorem dX7_doesYield_35 : decode cX7_doesYield 35 = .ok (.aload_n 0, 1) := by decide +kernel
theorem dX7_doesYield_36 : decode cX7_doesYield 36 = .ok (.getfield 7, 3) := by decide +kernel
theorem dX7_doesYield_39 : decode cX7_doesYield 39 = .ok (.iload_n 2, 1) := by decide +kernel
theorem dX7_doesYield_40 : decode cX7_doesYield 40 = .ok (.iaload, 1) := by decide +kernel
theorem dX7_doesYield_41 : decode cX7_doesYield 41 = .ok (.if_icmp .ge 15, 3) := by decide +kernel
theorem dX7_doesYield_44 : decode cX7_doesYield 44 = .ok (.goto 8, 3) := by decide +kernel
theorem dX7_doesYield_47 : decode cX7_doesYield 47 = .ok (.iload_n 1, 1) := by decide +kernel
theorem dX7_doesYield_48 : decode cX7_doesYield 48 = .ok (.iload_n 2, 1) := by decide +kernel
theorem dX7_doesYield_49 : decode cX7_doesYield 49 = .ok (.if_icmp .le 7, 3) := by decide +kernel
theorem dX7_doesYield_52 : decode cX7_doesYield 52 = .ok (.iconst 1, 1) := by decide +kernel
theorem dX7_doesYield_53 : decode cX7_doesYield 53 = .ok (.goto 4, 3) := by decide +kernel
theorem dX7_doesYield_56 : decode cX7_doesYield 56 = .ok (.iconst 0, 1) := by decide +kernel
theorem dX7_doesYield_57 : decode cX7_doesYield 57 = .ok (.ireturn, 1) := by decide +kernel
theorem dX7_yieldsTo_0 : decode cX7_yieldsTo 0 = .ok (.iconst 0, 1) := by decide +kernel
theorem dX7_yieldsTo_1 : decode cX7_yieldsTo 1 = .ok (.istore_n 2, 1) := by decide +kernel
theorem dX7_yieldsTo_2 : decode cX7_yieldsTo 2 = .ok (.iload_n 2, 1) := by decide +kernel
theorem dX7_yieldsTo_3 : decode cX7_yieldsTo 3 = .ok (.aload_n 0, 1) := by decide +kernel
theorem dX7_yieldsTo_4 : decode cX7_yieldsTo 4 = .ok (.getfield 69, 3) := by decide +kernel
theorem dX7_yieldsTo_7 : decode cX7_yieldsTo 7 = .ok (.if_icmp .ge 20, 3) := by decide +kernel
theorem dX7_yieldsTo_10 : decode cX7_yieldsTo 10 = .ok (.aload_n 0, 1) := by decide +kernel
theorem dX7_yieldsTo_11 : decode cX7_yieldsTo 11 = .ok (.iload_n 1, 1) := by decide +kernel
theorem dX7_yieldsTo_12 : decode cX7_yieldsTo 12 = .ok (.iload_n 2, 1) := by decide +kernel
theorem dX7_yieldsTo_13 : decode cX7_yieldsTo 13 = .ok (.invokevirtual 94, 3) := by decide +kernel
theorem dX7_yieldsTo_16 : decode cX7_yieldsTo 16 = .ok (.ifCond .eq 5, 3) := by decide +kernel
theorem dX7_yieldsTo_19 : decode cX7_yieldsTo 19 = .ok (.iload_n 2, 1) := by decide +kernel
theorem dX7_yieldsTo_20 : decode cX7_yieldsTo 20 = .ok (.ireturn, 1) := by decide +kernel
theorem dX7_yieldsTo_21 : decode cX7_yieldsTo 21 = .ok (.iinc 2 1, 3) := by decide +kernel
theorem dX7_yieldsTo_24 : decode cX7_yieldsTo 24 = .ok (.goto (-22), 3) := by decide +kernel
theorem dX7_yieldsTo_27 : decode cX7_yieldsTo 27 = .ok (.bipush (-2), 2) := by decide +kernel
theorem dX7_yieldsTo_29 : decode cX7_yieldsTo 29 = .ok (.ireturn, 1) := by decide +kernel
theorem dX7_of_0 : decode cX7_of 0 = .ok (.aload_n 0, 1) := by decide +kernel
theorem dX7_of_1 : decode cX7_of 1 = .ok (.iload_n 1, 1) := by decide +kernel
theorem dX7_of_2 : decode cX7_of 2 = .ok (.invokevirtual 76, 3) := by decide +kernel
theorem dX7_of_5 : decode cX7_of 5 = .ok (.ifCond .ne 5, 3) := by decide +kernel
theorem dX7_of_8 : decode cX7_of 8 = .ok (.iconst (-1), 1) := by decide +kernel
theorem dX7_of_9 : decode cX7_of 9 = .ok (.ireturn, 1) := by decide +kernel
theorem dX7_of_10 : decode cX7_of 10 = .ok (.iload_n 2, 1) := by decide +kernel
theorem dX7_of_11 : decode cX7_of 11 = .ok (.tableswitch 85 0 5 #[37, 44, 51, 58, 65, 79], 37) := by decide +kernel
theorem dX7_of_48 : decode cX7_of 48 = .ok (.aload_n 0, 1) := by decide +kernel
theorem dX7_of_49 : decode cX7_of 49 = .ok (.getfield 7, 3) := by decide +kernel
theorem dX7_of_52 : decode cX7_of 52 = .ok (.iload_n 1, 1) := by decide +kernel
theorem dX7_of_53 : decode cX7_of 53 = .ok (.iaload, 1) := by decide +kernel
theorem dX7_of_54 : decode cX7_of 54 = .ok (.ireturn, 1) := by decide +kernel
theorem dX7_of_55 : decode cX7_of 55 = .ok (.aload_n 0, 1) := by decide +kernel
theorem dX7_of_56 : decode cX7_of 56 = .ok (.getfield 13, 3) := by decide +kernel
theorem dX7_of_59 : decode cX7_of 59 = .ok (.iload_n 1, 1) := by decide +kernel
theorem dX7_of_60 : decode cX7_of 60 = .ok (.iaload, 1) := by decide +kernel
theorem dX7_of_61 : decode cX7_of 61 = .ok (.ireturn, 1) := by decide +kernel
theorem dX7_of_62 : decode cX7_of 62 = .ok (.aload_n 0, 1) := by decide +kernel
theorem dX7_of_63 : decode cX7_of 63 = .ok (.getfield 16, 3) := by decide +kernel
theorem dX7_of_66 : decode cX7_of 66 = .ok (.iload_n 1, 1) := by decide +kernel
theorem dX7_of_67 : decode cX7_of 67 = .ok (.iaload, 1) := by decide +kernel
theorem dX7_of_68 : decode cX7_of 68 = .ok (.ireturn, 1) := by decide +kernel
theorem dX7_of_69 : decode cX7_of 69 = .ok (.aload_n 0, 1) := by decide +kernel
theorem dX7_of_70 : decode cX7_of 70 = .ok (.getfield 19, 3) := by decide +kernel
theorem dX7_of_73 : decode cX7_of 73 = .ok (.iload_n 1, 1) := by decide +kernel
theorem dX7_of_74 : decode cX7_of 74 = .ok (.iaload, 1) := by decide +kernel
theorem dX7_of_75 : decode cX7_of 75 = .ok (.ireturn, 1) := by decide +kernel
theorem dX7_of_76 : decode cX7_of 76 = .ok (.aload_n 0, 1) := by decide +kernel
theorem dX7_of_77 : decode cX7_of 77 = .ok (.iload_n 1, 1) := by decide +kernel
theorem dX7_of_78 : decode cX7_of 78 = .ok (.invokevirtual 97, 3) := by decide +kernel
theorem dX7_of_81 : decode cX7_of 81 = .ok (.ifCond .ge 7, 3) := by decide +kernel
theorem dX7_of_84 : decode cX7_of 84 = .ok (.iconst 1, 1) := by decide +kernel
theorem dX7_of_85 : decode cX7_of 85 = .ok (.goto 4, 3) := by decide +kernel
theorem dX7_of_88 : decode cX7_of 88 = .ok (.iconst 0, 1) := by decide +kernel
theorem dX7_of_89 : decode cX7_of 89 = .ok (.ireturn, 1) := by decide +kernel
theorem dX7_of_90 : decode cX7_of 90 = .ok (.aload_n 0, 1) := by decide +kernel
theorem dX7_of_91 : decode cX7_of 91 = .ok (.iload_n 1, 1) := by decide +kernel
theorem dX7_of_92 : decode cX7_of 92 = .ok (.invokevirtual 97, 3) := by decide +kernel
theorem dX7_of_95 : decode cX7_of 95 = .ok (.ireturn, 1) := by decide +kernel
theorem dX7_of_96 : decode cX7_of 96 = .ok (.iconst (-1), 1) := by decide +kernel
theorem dX7_of_97 : decode cX7_of 97 = .ok (.ireturn, 1) := by decide +kernel
theorem dX7_near_0 : decode cX7_near 0 = .ok (.iconst 0, 1) := by decide +kernel
theorem dX7_near_1 : decode cX7_near 1 = .ok (.istore_n 1, 1) := by decide +kernel
theorem dX7_near_2 : decode cX7_near 2 = .ok (.iconst 0, 1) := by decide +kernel
theorem dX7_near_3 : decode cX7_near 3 = .ok (.istore_n 2, 1) := by decide +kernel
theorem dX7_near_4 : decode cX7_near 4 = .ok (.iload_n 2, 1) := by decide +kernel
theorem dX7_near_5 : decode cX7_near 5 = .ok (.aload_n 0, 1) := by decide +kernel
theorem dX7_near_6 : decode cX7_near 6 = .ok (.getfield 69, 3) := by decide +kernel
theorem dX7_near_9 : decode cX7_near 9 = .ok (.if_icmp .ge 39, 3) := by decide +kernel
theorem dX7_near_12 : decode cX7_near 12 = .ok (.iconst 0, 1) := by decide +kernel
theorem dX7_near_13 : decode cX7_near 13 = .ok (.istore_n 3, 1) := by decide +kernel
theorem dX7_near_14 : decode cX7_near 14 = .ok (.iload_n 3, 1) := by decide +kernel
theorem dX7_near_15 : decode cX7_near 15 = .ok (.iload_n 2, 1) := by decide +kernel
theorem dX7_near_16 : decode cX7_near 16 = .ok (.if_icmp .ge 26, 3) := by decide +kernel
theorem dX7_near_19 : decode cX7_near 19 = .ok (.iload_n 1, 1) := by decide +kernel
theorem dX7_near_20 : decode cX7_near 20 = .ok (.aload_n 0, 1) := by decide +kernel
theorem dX7_near_21 : decode cX7_near 21 = .ok (.iload_n 2, 1) := by decide +kernel
theorem dX7_near_22 : decode cX7_near 22 = .ok (.iload_n 3, 1) := by decide +kernel
theorem dX7_near_23 : decode cX7_near 23 = .ok (.invokevirtual 90, 3) := by decide +kernel
theorem dX7_near_26 : decode cX7_near 26 = .ok (.ifCond .eq 7, 3) := by decide +kernel
theorem dX7_near_29 : decode cX7_near 29 = .ok (.iconst 1, 1) := by decide +kernel
theorem dX7_near_30 : decode cX7_near 30 = .ok (.goto 4, 3) := by decide +kernel
theorem dX7_near_33 : decode cX7_near 33 = .ok (.iconst 0, 1) := by decide +kernel
theorem dX7_near_34 : decode cX7_near 34 = .ok (.iadd, 1) := by decide +kernel
theorem dX7_near_35 : decode cX7_near 35 = .ok (.istore_n 1, 1) := by decide +kernel
theorem dX7_near_36 : decode cX7_near 36 = .ok (.iinc 3 1, 3) := by decide +kernel
theorem dX7_near_39 : decode cX7_near 39 = .ok (.goto (-25), 3) := by decide +kernel
theorem dX7_near_42 : decode cX7_near 42 = .ok (.iinc 2 1, 3) := by decide +kernel
theorem dX7_near_45 : decode cX7_near 45 = .ok (.goto (-41), 3) := by decide +kernel
theorem dX7_near_48 : decode cX7_near 48 = .ok (.iload_n 1, 1) := by decide +kernel
theorem dX7_near_49 : decode cX7_near 49 = .ok (.ireturn, 1) := by decide +kernel
theorem dX7_feed_0 : decode cX7_feed 0 = .ok (.iconst 0, 1) := by decide +kernel
theorem dX7_feed_1 : decode cX7_feed 1 = .ok (.istore_n 2, 1) := by decide +kernel
theorem dX7_feed_2 : decode cX7_feed 2 = .ok (.iload_n 2, 1) := by decide +kernel
theorem dX7_feed_3 : decode cX7_feed 3 = .ok (.iconst 4, 1) := by decide +kernel
theorem dX7_feed_4 : decode cX7_feed 4 = .ok (.if_icmp .ge 22, 3) := by decide +kernel
theorem dX7_feed_7 : decode cX7_feed 7 = .ok (.iload_n 1, 1) := by decide +kernel
theorem dX7_feed_8 : decode cX7_feed 8 = .ok (.bipush 8, 2) := by decide +kernel
theorem dX7_feed_10 : decode cX7_feed 10 = .ok (.iload_n 2, 1) := by decide +kernel
theorem dX7_feed_11 : decode cX7_feed 11 = .ok (.imul, 1) := by decide +kernel
theorem dX7_feed_12 : decode cX7_feed 12 = .ok (.ishr, 1) := by decide +kernel
theorem dX7_feed_13 : decode cX7_feed 13 = .ok (.sipush 255, 3) := by decide +kernel
theorem dX7_feed_16 : decode cX7_feed 16 = .ok (.iand, 1) := by decide +kernel
theorem dX7_feed_17 : decode cX7_feed 17 = .ok (.ifCond .eq 9, 3) := by decide +kernel
theorem dX7_feed_20 : decode cX7_feed 20 = .ok (.iinc 2 1, 3) := by decide +kernel
theorem dX7_feed_23 : decode cX7_feed 23 = .ok (.goto (-21), 3) := by decide +kernel
theorem dX7_feed_26 : decode cX7_feed 26 = .ok (.aload_n 0, 1) := by decide +kernel
theorem dX7_feed_27 : decode cX7_feed 27 = .ok (.getfield 101, 3) := by decide +kernel
theorem dX7_feed_30 : decode cX7_feed 30 = .ok (.iload_n 2, 1) := by decide +kernel
theorem dX7_feed_31 : decode cX7_feed 31 = .ok (.iadd, 1) := by decide +kernel
theorem dX7_feed_32 : decode cX7_feed 32 = .ok (.bipush 60, 2) := by decide +kernel
theorem dX7_feed_34 : decode cX7_feed 34 = .ok (.if_icmp .le 6, 3) := by decide +kernel
theorem dX7_feed_37 : decode cX7_feed 37 = .ok (.bipush (-2), 2) := by decide +kernel
theorem dX7_feed_39 : decode cX7_feed 39 = .ok (.ireturn, 1) := by decide +kernel
theorem dX7_feed_40 : decode cX7_feed 40 = .ok (.iconst 0, 1) := by decide +kernel
theorem dX7_feed_41 : decode cX7_feed 41 = .ok (.istore_n 3, 1) := by decide +kernel
theorem dX7_feed_42 : decode cX7_feed 42 = .ok (.iload_n 3, 1) := by decide +kernel
theorem dX7_feed_43 : decode cX7_feed 43 = .ok (.iload_n 2, 1) := by decide +kernel
theorem dX7_feed_44 : decode cX7_feed 44 = .ok (.if_icmp .ge 38, 3) := by decide +kernel
theorem dX7_feed_47 : decode cX7_feed 47 = .ok (.aload_n 0, 1) := by decide +kernel
theorem dX7_feed_48 : decode cX7_feed 48 = .ok (.getfield 22, 3) := by decide +kernel
theorem dX7_feed_51 : decode cX7_feed 51 = .ok (.aload_n 0, 1) := by decide +kernel
theorem dX7_feed_52 : decode cX7_feed 52 = .ok (.getfield 101, 3) := by decide +kernel
theorem dX7_feed_55 : decode cX7_feed 55 = .ok (.iload_n 1, 1) := by decide +kernel
theorem dX7_feed_56 : decode cX7_feed 56 = .ok (.bipush 8, 2) := by decide +kernel
theorem dX7_feed_58 : decode cX7_feed 58 = .ok (.iload_n 3, 1) := by decide +kernel
theorem dX7_feed_59 : decode cX7_feed 59 = .ok (.imul, 1) := by decide +kernel
theorem dX7_feed_60 : decode cX7_feed 60 = .ok (.ishr, 1) := by decide +kernel
theorem dX7_feed_61 : decode cX7_feed 61 = .ok (.sipush 255, 3) := by decide +kernel
theorem dX7_feed_64 : decode cX7_feed 64 = .ok (.iand, 1) := by decide +kernel
theorem dX7_feed_65 : decode cX7_feed 65 = .ok (.iastore, 1) := by decide +kernel
theorem dX7_feed_66 : decode cX7_feed 66 = .ok (.aload_n 0, 1) := by decide +kernel
theorem dX7_feed_67 : decode cX7_feed 67 = .ok (.dup, 1) := by decide +kernel
theorem dX7_feed_68 : decode cX7_feed 68 = .ok (.getfield 101, 3) := by decide +kernel
theorem dX7_feed_71 : decode cX7_feed 71 = .ok (.iconst 1, 1) := by decide +kernel
theorem dX7_feed_72 : decode cX7_feed 72 = .ok (.iadd, 1) := by decide +kernel
theorem dX7_feed_73 : decode cX7_feed 73 = .ok (.putfield 101, 3) := by decide +kernel
theorem dX7_feed_76 : decode cX7_feed 76 = .ok (.iinc 3 1, 3) := by decide +kernel
theorem dX7_feed_79 : decode cX7_feed 79 = .ok (.goto (-37), 3) := by decide +kernel
theorem dX7_feed_82 : decode cX7_feed 82 = .ok (.aload_n 0, 1) := by decide +kernel
theorem dX7_feed_83 : decode cX7_feed 83 = .ok (.getfield 101, 3) := by decide +kernel
theorem dX7_feed_86 : decode cX7_feed 86 = .ok (.ireturn, 1) := by decide +kernel
theorem dX7_scrap_0 : decode cX7_scrap 0 = .ok (.aload_n 0, 1) := by decide +kernel
theorem dX7_scrap_1 : decode cX7_scrap 1 = .ok (.getfield 101, 3) := by decide +kernel
theorem dX7_scrap_4 : decode cX7_scrap 4 = .ok (.istore_n 1, 1) := by decide +kernel
theorem dX7_scrap_5 : decode cX7_scrap 5 = .ok (.aload_n 0, 1) := by decide +kernel
theorem dX7_scrap_6 : decode cX7_scrap 6 = .ok (.iconst 0, 1) := by decide +kernel
theorem dX7_scrap_7 : decode cX7_scrap 7 = .ok (.putfield 101, 3) := by decide +kernel
theorem dX7_scrap_10 : decode cX7_scrap 10 = .ok (.iload_n 1, 1) := by decide +kernel
theorem dX7_scrap_11 : decode cX7_scrap 11 = .ok (.ireturn, 1) := by decide +kernel
theorem dX7_strokeOf_0 : decode cX7_strokeOf 0 = .ok (.iload_n 0, 1) := by decide +kernel
theorem dX7_strokeOf_1 : decode cX7_strokeOf 1 = .ok (.bipush 98, 2) := by decide +kernel
theorem dX7_strokeOf_3 : decode cX7_strokeOf 3 = .ok (.if_icmp .ne 7, 3) := by decide +kernel
theorem dX7_strokeOf_6 : decode cX7_strokeOf 6 = .ok (.iconst 1, 1) := by decide +kernel
theorem dX7_strokeOf_7 : decode cX7_strokeOf 7 = .ok (.goto 44, 3) := by decide +kernel
theorem dX7_strokeOf_10 : decode cX7_strokeOf 10 = .ok (.iload_n 0, 1) := by decide +kernel
theorem dX7_strokeOf_11 : decode cX7_strokeOf 11 = .ok (.bipush 104, 2) := by decide +kernel
theorem dX7_strokeOf_13 : decode cX7_strokeOf 13 = .ok (.if_icmp .ne 7, 3) := by decide +kernel
theorem dX7_strokeOf_16 : decode cX7_strokeOf 16 = .ok (.iconst 2, 1) := by decide +kernel
theorem dX7_strokeOf_17 : decode cX7_strokeOf 17 = .ok (.goto 34, 3) := by decide +kernel
theorem dX7_strokeOf_20 : decode cX7_strokeOf 20 = .ok (.iload_n 0, 1) := by decide +kernel
theorem dX7_strokeOf_21 : decode cX7_strokeOf 21 = .ok (.bipush 108, 2) := by decide +kernel
theorem dX7_strokeOf_23 : decode cX7_strokeOf 23 = .ok (.if_icmp .ne 7, 3) := by decide +kernel
theorem dX7_strokeOf_26 : decode cX7_strokeOf 26 = .ok (.iconst 3, 1) := by decide +kernel
theorem dX7_strokeOf_27 : decode cX7_strokeOf 27 = .ok (.goto 24, 3) := by decide +kernel
theorem dX7_strokeOf_30 : decode cX7_strokeOf 30 = .ok (.iload_n 0, 1) := by decide +kernel
theorem dX7_strokeOf_31 : decode cX7_strokeOf 31 = .ok (.bipush 117, 2) := by decide +kernel
theorem dX7_strokeOf_33 : decode cX7_strokeOf 33 = .ok (.if_icmp .ne 7, 3) := by decide +kernel
theorem dX7_strokeOf_36 : decode cX7_strokeOf 36 = .ok (.iconst 4, 1) := by decide +kernel
theorem dX7_strokeOf_37 : decode cX7_strokeOf 37 = .ok (.goto 14, 3) := by decide +kernel
theorem dX7_strokeOf_40 : decode cX7_strokeOf 40 = .ok (.iload_n 0, 1) := by decide +kernel
theorem dX7_strokeOf_41 : decode cX7_strokeOf 41 = .ok (.bipush 102, 2) := by decide +kernel
theorem dX7_strokeOf_43 : decode cX7_strokeOf 43 = .ok (.if_icmp .ne 7, 3) := by decide +kernel
theorem dX7_strokeOf_46 : decode cX7_strokeOf 46 = .ok (.iconst 5, 1) := by decide +kernel
theorem dX7_strokeOf_47 : decode cX7_strokeOf 47 = .ok (.goto 4, 3) := by decide +kernel
theorem dX7_strokeOf_50 : decode cX7_strokeOf 50 = .ok (.iconst 0, 1) := by decide +kernel
theorem dX7_strokeOf_51 : decode cX7_strokeOf 51 = .ok (.ireturn, 1) := by decide +kernel
theorem dX7_pass_0 : decode cX7_pass 0 = .ok (.iload_n 1, 1) := by decide +kernel
theorem dX7_pass_1 : decode cX7_pass 1 = .ok (.bipush 48, 2) := by decide +kernel
theorem dX7_pass_3 : decode cX7_pass 3 = .ok (.if_icmp .lt 13, 3) := by decide +kernel
theorem dX7_pass_6 : decode cX7_pass 6 = .ok (.iload_n 1, 1) := by decide +kernel
theorem dX7_pass_7 : decode cX7_pass 7 = .ok (.bipush 57, 2) := by decide +kernel
theorem dX7_pass_9 : decode cX7_pass 9 = .ok (.if_icmp .gt 7, 3) := by decide +kernel
theorem dX7_pass_12 : decode cX7_pass 12 = .ok (.iconst 1, 1) := by decide +kernel
theorem dX7_pass_13 : decode cX7_pass 13 = .ok (.goto 4, 3) := by decide +kernel
theorem dX7_pass_16 : decode cX7_pass 16 = .ok (.iconst 0, 1) := by decide +kernel
theorem dX7_pass_17 : decode cX7_pass 17 = .ok (.istore_n 2, 1) := by decide +kernel
theorem dX7_pass_18 : decode cX7_pass 18 = .ok (.iload_n 1, 1) := by decide +kernel
theorem dX7_pass_19 : decode cX7_pass 19 = .ok (.invokestatic 104, 3) := by decide +kernel
theorem dX7_pass_22 : decode cX7_pass 22 = .ok (.istore_n 3, 1) := by decide +kernel
theorem dX7_pass_23 : decode cX7_pass 23 = .ok (.aload_n 0, 1) := by decide +kernel
theorem dX7_pass_24 : decode cX7_pass 24 = .ok (.getfield 107, 3) := by decide +kernel
theorem dX7_pass_27 : decode cX7_pass 27 = .ok (.iconst 5, 1) := by decide +kernel
theorem dX7_pass_28 : decode cX7_pass 28 = .ok (.if_icmp .ne 27, 3) := by decide +kernel
theorem dX7_pass_31 : decode cX7_pass 31 = .ok (.aload_n 0, 1) := by decide +kernel
theorem dX7_pass_32 : decode cX7_pass 32 = .ok (.getfield 54, 3) := by decide +kernel
theorem dX7_pass_35 : decode cX7_pass 35 = .ok (.bipush 6, 2) := by decide +kernel
theorem dX7_pass_37 : decode cX7_pass 37 = .ok (.iload_n 3, 1) := by decide +kernel
theorem dX7_pass_38 : decode cX7_pass 38 = .ok (.iastore, 1) := by decide +kernel
theorem dX7_pass_39 : decode cX7_pass 39 = .ok (.aload_n 0, 1) := by decide +kernel
theorem dX7_pass_40 : decode cX7_pass 40 = .ok (.bipush 6, 2) := by decide +kernel
theorem dX7_pass_42 : decode cX7_pass 42 = .ok (.putfield 107, 3) := by decide +kernel
theorem dX7_pass_45 : decode cX7_pass 45 = .ok (.iload_n 3, 1) := by decide +kernel
theorem dX7_pass_46 : decode cX7_pass 46 = .ok (.ifCond .le 7, 3) := by decide +kernel
theorem dX7_pass_49 : decode cX7_pass 49 = .ok (.iconst 1, 1) := by decide +kernel
theorem dX7_pass_50 : decode cX7_pass 50 = .ok (.goto 4, 3) := by decide +kernel
theorem dX7_pass_53 : decode cX7_pass 53 = .ok (.iconst 0, 1) := by decide +kernel
theorem dX7_pass_54 : decode cX7_pass 54 = .ok (.ireturn, 1) := by decide +kernel
theorem dX7_pass_55 : decode cX7_pass 55 = .ok (.iload_n 2, 1) := by decide +kernel
theorem dX7_pass_56 : decode cX7_pass 56 = .ok (.ifCond .eq 39, 3) := by decide +kernel
theorem dX7_pass_59 : decode cX7_pass 59 = .ok (.aload_n 0, 1) := by decide +kernel
theorem dX7_pass_60 : decode cX7_pass 60 = .ok (.getfield 107, 3) := by decide +kernel
theorem dX7_pass_63 : decode cX7_pass 63 = .ok (.iconst 1, 1) := by decide +kernel
theorem dX7_pass_64 : decode cX7_pass 64 = .ok (.if_icmp .eq 11, 3) := by decide +kernel
theorem dX7_pass_67 : decode cX7_pass 67 = .ok (.aload_n 0, 1) := by decide +kernel
theorem dX7_pass_68 : decode cX7_pass 68 = .ok (.getfield 107, 3) := by decide +kernel
theorem dX7_pass_71 : decode cX7_pass 71 = .ok (.iconst 2, 1) := by decide +kernel
theorem dX7_pass_72 : decode cX7_pass 72 = .ok (.if_icmp .ne 23, 3) := by decide +kernel
theorem dX7_pass_75 : decode cX7_pass 75 = .ok (.aload_n 0, 1) := by decide +kernel
theorem dX7_pass_76 : decode cX7_pass 76 = .ok (.getfield 54, 3) := by decide +kernel
theorem dX7_pass_79 : decode cX7_pass 79 = .ok (.aload_n 0, 1) := by decide +kernel
theorem dX7_pass_80 : decode cX7_pass 80 = .ok (.getfield 110, 3) := by decide +kernel
theorem dX7_pass_83 : decode cX7_pass 83 = .ok (.iload_n 1, 1) := by decide +kernel
theorem dX7_pass_84 : decode cX7_pass 84 = .ok (.bipush 48, 2) := by decide +kernel
theorem dX7_pass_86 : decode cX7_pass 86 = .ok (.isub, 1) := by decide +kernel
theorem dX7_pass_87 : decode cX7_pass 87 = .ok (.iastore, 1) := by decide +kernel
theorem dX7_pass_88 : decode cX7_pass 88 = .ok (.aload_n 0, 1) := by decide +kernel
theorem dX7_pass_89 : decode cX7_pass 89 = .ok (.iconst 3, 1) := by decide +kernel
theorem dX7_pass_90 : decode cX7_pass 90 = .ok (.putfield 107, 3) := by decide +kernel
theorem dX7_pass_93 : decode cX7_pass 93 = .ok (.iconst 1, 1) := by decide +kernel
theorem dX7_pass_94 : decode cX7_pass 94 = .ok (.ireturn, 1) := by decide +kernel
theorem dX7_pass_95 : decode cX7_pass 95 = .ok (.aload_n 0, 1) := by decide +kernel
theorem dX7_pass_96 : decode cX7_pass 96 = .ok (.getfield 107, 3) := by decide +kernel
theorem dX7_pass_99 : decode cX7_pass 99 = .ok (.iconst 1, 1) := by decide +kernel
theorem dX7_pass_100 : decode cX7_pass 100 = .ok (.if_icmp .ne 21, 3) := by decide +kernel
theorem dX7_pass_103 : decode cX7_pass 103 = .ok (.iload_n 1, 1) := by decide +kernel
theorem dX7_pass_104 : decode cX7_pass 104 = .ok (.bipush 45, 2) := by decide +kernel
theorem dX7_pass_106 : decode cX7_pass 106 = .ok (.if_icmp .ne 15, 3) := by decide +kernel
theorem dX7_pass_109 : decode cX7_pass 109 = .ok (.aload_n 0, 1) := by decide +kernel
theorem dX7_pass_110 : decode cX7_pass 110 = .ok (.iconst 1, 1) := by decide +kernel
theorem dX7_pass_111 : decode cX7_pass 111 = .ok (.putfield 113, 3) := by decide +kernel
theorem dX7_pass_114 : decode cX7_pass 114 = .ok (.aload_n 0, 1) := by decide +kernel
theorem dX7_pass_115 : decode cX7_pass 115 = .ok (.iconst 2, 1) := by decide +kernel
theorem dX7_pass_116 : decode cX7_pass 116 = .ok (.putfield 107, 3) := by decide +kernel
theorem dX7_pass_119 : decode cX7_pass 119 = .ok (.iconst 1, 1) := by decide +kernel
theorem dX7_pass_120 : decode cX7_pass 120 = .ok (.ireturn, 1) := by decide +kernel
theorem dX7_pass_121 : decode cX7_pass 121 = .ok (.iload_n 2, 1) := by decide +kernel
theorem dX7_pass_122 : decode cX7_pass 122 = .ok (.ifCond .eq 44, 3) := by decide +kernel
theorem dX7_pass_125 : decode cX7_pass 125 = .ok (.aload_n 0, 1) := by decide +kernel
theorem dX7_pass_126 : decode cX7_pass 126 = .ok (.getfield 107, 3) := by decide +kernel
theorem dX7_pass_129 : decode cX7_pass 129 = .ok (.iconst 3, 1) := by decide +kernel
theorem dX7_pass_130 : decode cX7_pass 130 = .ok (.if_icmp .ne 36, 3) := by decide +kernel
theorem dX7_pass_133 : decode cX7_pass 133 = .ok (.aload_n 0, 1) := by decide +kernel
theorem dX7_pass_134 : decode cX7_pass 134 = .ok (.getfield 54, 3) := by decide +kernel
theorem dX7_pass_137 : decode cX7_pass 137 = .ok (.aload_n 0, 1) := by decide +kernel
theorem dX7_pass_138 : decode cX7_pass 138 = .ok (.getfield 110, 3) := by decide +kernel
theorem dX7_pass_141 : decode cX7_pass 141 = .ok (.bipush 10, 2) := by decide +kernel
theorem dX7_pass_143 : decode cX7_pass 143 = .ok (.aload_n 0, 1) := by decide +kernel
theorem dX7_pass_144 : decode cX7_pass 144 = .ok (.getfield 54, 3) := by decide +kernel
theorem dX7_pass_147 : decode cX7_pass 147 = .ok (.aload_n 0, 1) := by decide +kernel
theorem dX7_pass_148 : decode cX7_pass 148 = .ok (.getfield 110, 3) := by decide +kernel
theorem dX7_pass_151 : decode cX7_pass 151 = .ok (.iaload, 1) := by decide +kernel
theorem dX7_pass_152 : decode cX7_pass 152 = .ok (.imul, 1) := by decide +kernel
theorem dX7_pass_153 : decode cX7_pass 153 = .ok (.iload_n 1, 1) := by decide +kernel
theorem dX7_pass_154 : decode cX7_pass 154 = .ok (.iadd, 1) := by decide +kernel
theorem dX7_pass_155 : decode cX7_pass 155 = .ok (.bipush 48, 2) := by decide +kernel
theorem dX7_pass_157 : decode cX7_pass 157 = .ok (.isub, 1) := by decide +kernel
theorem dX7_pass_158 : decode cX7_pass 158 = .ok (.iastore, 1) := by decide +kernel
theorem dX7_pass_159 : decode cX7_pass 159 = .ok (.aload_n 0, 1) := by decide +kernel
theorem dX7_pass_160 : decode cX7_pass 160 = .ok (.iconst 4, 1) := by decide +kernel
theorem dX7_pass_161 : decode cX7_pass 161 = .ok (.putfield 107, 3) := by decide +kernel
theorem dX7_pass_164 : decode cX7_pass 164 = .ok (.iconst 1, 1) := by decide +kernel
theorem dX7_pass_165 : decode cX7_pass 165 = .ok (.ireturn, 1) := by decide +kernel
theorem dX7_pass_166 : decode cX7_pass 166 = .ok (.aload_n 0, 1) := by decide +kernel
theorem dX7_pass_167 : decode cX7_pass 167 = .ok (.getfield 107, 3) := by decide +kernel
theorem dX7_pass_170 : decode cX7_pass 170 = .ok (.iconst 1, 1) := by decide +kernel
theorem dX7_pass_171 : decode cX7_pass 171 = .ok (.if_icmp .eq 20, 3) := by decide +kernel
theorem dX7_pass_174 : decode cX7_pass 174 = .ok (.aload_n 0, 1) := by decide +kernel
theorem dX7_pass_175 : decode cX7_pass 175 = .ok (.getfield 107, 3) := by decide +kernel
theorem dX7_pass_178 : decode cX7_pass 178 = .ok (.iconst 2, 1) := by decide +kernel
theorem dX7_pass_179 : decode cX7_pass 179 = .ok (.if_icmp .eq 12, 3) := by decide +kernel
theorem dX7_pass_182 : decode cX7_pass 182 = .ok (.aload_n 0, 1) := by decide +kernel
theorem dX7_pass_183 : decode cX7_pass 183 = .ok (.getfield 107, 3) := by decide +kernel
theorem dX7_pass_186 : decode cX7_pass 186 = .ok (.bipush 6, 2) := by decide +kernel
theorem dX7_pass_188 : decode cX7_pass 188 = .ok (.if_icmp .ne 5, 3) := by decide +kernel
theorem dX7_pass_191 : decode cX7_pass 191 = .ok (.iconst 0, 1) := by decide +kernel
theorem dX7_pass_192 : decode cX7_pass 192 = .ok (.ireturn, 1) := by decide +kernel
theorem dX7_pass_193 : decode cX7_pass 193 = .ok (.iload_n 1, 1) := by decide +kernel
theorem dX7_pass_194 : decode cX7_pass 194 = .ok (.bipush 33, 2) := by decide +kernel
theorem dX7_pass_196 : decode cX7_pass 196 = .ok (.if_icmp .ne 21, 3) := by decide +kernel
theorem dX7_pass_199 : decode cX7_pass 199 = .ok (.aload_n 0, 1) := by decide +kernel
theorem dX7_pass_200 : decode cX7_pass 200 = .ok (.getfield 107, 3) := by decide +kernel
theorem dX7_pass_203 : decode cX7_pass 203 = .ok (.ifCond .eq 14, 3) := by decide +kernel
theorem dX7_pass_206 : decode cX7_pass 206 = .ok (.aload_n 0, 1) := by decide +kernel
theorem dX7_pass_207 : decode cX7_pass 207 = .ok (.invokevirtual 117, 3) := by decide +kernel
theorem dX7_pass_210 : decode cX7_pass 210 = .ok (.aload_n 0, 1) := by decide +kernel
theorem dX7_pass_211 : decode cX7_pass 211 = .ok (.iconst 5, 1) := by decide +kernel
theorem dX7_pass_212 : decode cX7_pass 212 = .ok (.putfield 107, 3) := by decide +kernel
theorem dX7_pass_215 : decode cX7_pass 215 = .ok (.iconst 1, 1) := by decide +kernel
theorem dX7_pass_216 : decode cX7_pass 216 = .ok (.ireturn, 1) := by decide +kernel
theorem dX7_pass_217 : decode cX7_pass 217 = .ok (.iload_n 3, 1) := by decide +kernel
theorem dX7_pass_218 : decode cX7_pass 218 = .ok (.ifCond .eq 12, 3) := by decide +kernel
theorem dX7_pass_221 : decode cX7_pass 221 = .ok (.aload_n 0, 1) := by decide +kernel
theorem dX7_pass_222 : decode cX7_pass 222 = .ok (.getfield 57, 3) := by decide +kernel
theorem dX7_pass_225 : decode cX7_pass 225 = .ok (.iload_n 3, 1) := by decide +kernel
theorem dX7_pass_226 : decode cX7_pass 226 = .ok (.baload, 1) := by decide +kernel
theorem dX7_pass_227 : decode cX7_pass 227 = .ok (.ifCond .eq 5, 3) := by decide +kernel
theorem dX7_pass_230 : decode cX7_pass 230 = .ok (.iconst 0, 1) := by decide +kernel
theorem dX7_pass_231 : decode cX7_pass 231 = .ok (.ireturn, 1) := by decide +kernel
theorem dX7_pass_232 : decode cX7_pass 232 = .ok (.aload_n 0, 1) := by decide +kernel
theorem dX7_pass_233 : decode cX7_pass 233 = .ok (.invokevirtual 117, 3) := by decide +kernel
theorem dX7_pass_236 : decode cX7_pass 236 = .ok (.aload_n 0, 1) := by decide +kernel
theorem dX7_pass_237 : decode cX7_pass 237 = .ok (.getfield 57, 3) := by decide +kernel
theorem dX7_pass_240 : decode cX7_pass 240 = .ok (.iload_n 3, 1) := by decide +kernel
theorem dX7_pass_241 : decode cX7_pass 241 = .ok (.iconst 1, 1) := by decide +kernel
theorem dX7_pass_242 : decode cX7_pass 242 = .ok (.bastore, 1) := by decide +kernel
theorem dX7_pass_243 : decode cX7_pass 243 = .ok (.aload_n 0, 1) := by decide +kernel
theorem dX7_pass_244 : decode cX7_pass 244 = .ok (.iload_n 3, 1) := by decide +kernel
theorem dX7_pass_245 : decode cX7_pass 245 = .ok (.putfield 110, 3) := by decide +kernel
theorem dX7_pass_248 : decode cX7_pass 248 = .ok (.aload_n 0, 1) := by decide +kernel
theorem dX7_pass_249 : decode cX7_pass 249 = .ok (.iconst 0, 1) := by decide +kernel
theorem dX7_pass_250 : decode cX7_pass 250 = .ok (.putfield 113, 3) := by decide +kernel
theorem dX7_pass_253 : decode cX7_pass 253 = .ok (.aload_n 0, 1) := by decide +kernel
theorem dX7_pass_254 : decode cX7_pass 254 = .ok (.iconst 1, 1) := by decide +kernel
theorem dX7_pass_255 : decode cX7_pass 255 = .ok (.putfield 107, 3) := by decide +kernel
theorem dX7_pass_258 : decode cX7_pass 258 = .ok (.iconst 1, 1) := by decide +kernel
theorem dX7_pass_259 : decode cX7_pass 259 = .ok (.ireturn, 1) := by decide +kernel
theorem dX7_close_0 : decode cX7_close 0 = .ok (.aload_n 0, 1) := by decide +kernel
theorem dX7_close_1 : decode cX7_close 1 = .ok (.getfield 113, 3) := by decide +kernel
theorem dX7_close_4 : decode cX7_close 4 = .ok (.ifCond .eq 22, 3) := by decide +kernel
theorem dX7_close_7 : decode cX7_close 7 = .ok (.aload_n 0, 1) := by decide +kernel
theorem dX7_close_8 : decode cX7_close 8 = .ok (.getfield 54, 3) := by decide +kernel
theorem dX7_close_11 : decode cX7_close 11 = .ok (.aload_n 0, 1) := by decide +kernel
theorem dX7_close_12 : decode cX7_close 12 = .ok (.getfield 110, 3) := by decide +kernel
theorem dX7_close_15 : decode cX7_close 15 = .ok (.aload_n 0, 1) := by decide +kernel
theorem dX7_close_16 : decode cX7_close 16 = .ok (.getfield 54, 3) := by decide +kernel
theorem dX7_close_19 : decode cX7_close 19 = .ok (.aload_n 0, 1) := by decide +kernel
theorem dX7_close_20 : decode cX7_close 20 = .ok (.getfield 110, 3) := by decide +kernel
theorem dX7_close_23 : decode cX7_close 23 = .ok (.iaload, 1) := by decide +kernel
theorem dX7_close_24 : decode cX7_close 24 = .ok (.ineg, 1) := by decide +kernel
theorem dX7_close_25 : decode cX7_close 25 = .ok (.iastore, 1) := by decide +kernel
theorem dX7_close_26 : decode cX7_close 26 = .ok (.aload_n 0, 1) := by decide +kernel
theorem dX7_close_27 : decode cX7_close 27 = .ok (.iconst 0, 1) := by decide +kernel
theorem dX7_close_28 : decode cX7_close 28 = .ok (.putfield 113, 3) := by decide +kernel
theorem dX7_close_31 : decode cX7_close 31 = .ok (.return_, 1) := by decide +kernel
theorem dX7_goOver_0 : decode cX7_goOver 0 = .ok (.iconst 0, 1) := by decide +kernel
theorem dX7_goOver_1 : decode cX7_goOver 1 = .ok (.istore_n 1, 1) := by decide +kernel
theorem dX7_goOver_2 : decode cX7_goOver 2 = .ok (.iload_n 1, 1) := by decide +kernel
theorem dX7_goOver_3 : decode cX7_goOver 3 = .ok (.bipush 7, 2) := by decide +kernel
theorem dX7_goOver_5 : decode cX7_goOver 5 = .ok (.if_icmp .ge 16, 3) := by decide +kernel
theorem dX7_goOver_8 : decode cX7_goOver 8 = .ok (.aload_n 0, 1) := by decide +kernel
theorem dX7_goOver_9 : decode cX7_goOver 9 = .ok (.getfield 54, 3) := by decide +kernel
theorem dX7_goOver_12 : decode cX7_goOver 12 = .ok (.iload_n 1, 1) := by decide +kernel
theorem dX7_goOver_13 : decode cX7_goOver 13 = .ok (.iconst 0, 1) := by decide +kernel
theorem dX7_goOver_14 : decode cX7_goOver 14 = .ok (.iastore, 1) := by decide +kernel
theorem dX7_goOver_15 : decode cX7_goOver 15 = .ok (.iinc 1 1, 3) := by decide +kernel
theorem dX7_goOver_18 : decode cX7_goOver 18 = .ok (.goto (-16), 3) := by decide +kernel
theorem dX7_goOver_21 : decode cX7_goOver 21 = .ok (.iconst 0, 1) := by decide +kernel
theorem dX7_goOver_22 : decode cX7_goOver 22 = .ok (.istore_n 1, 1) := by decide +kernel
theorem dX7_goOver_23 : decode cX7_goOver 23 = .ok (.iload_n 1, 1) := by decide +kernel
theorem dX7_goOver_24 : decode cX7_goOver 24 = .ok (.bipush 6, 2) := by decide +kernel
theorem dX7_goOver_26 : decode cX7_goOver 26 = .ok (.if_icmp .ge 16, 3) := by decide +kernel
theorem dX7_goOver_29 : decode cX7_goOver 29 = .ok (.aload_n 0, 1) := by decide +kernel
theorem dX7_goOver_30 : decode cX7_goOver 30 = .ok (.getfield 57, 3) := by decide +kernel
theorem dX7_goOver_33 : decode cX7_goOver 33 = .ok (.iload_n 1, 1) := by decide +kernel
theorem dX7_goOver_34 : decode cX7_goOver 34 = .ok (.iconst 0, 1) := by decide +kernel
theorem dX7_goOver_35 : decode cX7_goOver 35 = .ok (.bastore, 1) := by decide +kernel
theorem dX7_goOver_36 : decode cX7_goOver 36 = .ok (.iinc 1 1, 3) := by decide +kernel
theorem dX7_goOver_39 : decode cX7_goOver 39 = .ok (.goto (-16), 3) := by decide +kernel
theorem dX7_goOver_42 : decode cX7_goOver 42 = .ok (.aload_n 0, 1) := by decide +kernel
theorem dX7_goOver_43 : decode cX7_goOver 43 = .ok (.iconst 0, 1) := by decide +kernel
theorem dX7_goOver_44 : decode cX7_goOver 44 = .ok (.putfield 107, 3) := by decide +kernel
theorem dX7_goOver_47 : decode cX7_goOver 47 = .ok (.aload_n 0, 1) := by decide +kernel
theorem dX7_goOver_48 : decode cX7_goOver 48 = .ok (.iconst 0, 1) := by decide +kernel
theorem dX7_goOver_49 : decode cX7_goOver 49 = .ok (.putfield 110, 3) := by decide +kernel
theorem dX7_goOver_52 : decode cX7_goOver 52 = .ok (.aload_n 0, 1) := by decide +kernel
theorem dX7_goOver_53 : decode cX7_goOver 53 = .ok (.iconst 0, 1) := by decide +kernel
theorem dX7_goOver_54 : decode cX7_goOver 54 = .ok (.putfield 113, 3) := by decide +kernel
theorem dX7_goOver_57 : decode cX7_goOver 57 = .ok (.iconst 0, 1) := by decide +kernel
theorem dX7_goOver_58 : decode cX7_goOver 58 = .ok (.istore_n 1, 1) := by decide +kernel
theorem dX7_goOver_59 : decode cX7_goOver 59 = .ok (.iload_n 1, 1) := by decide +kernel
theorem dX7_goOver_60 : decode cX7_goOver 60 = .ok (.aload_n 0, 1) := by decide +kernel
theorem dX7_goOver_61 : decode cX7_goOver 61 = .ok (.getfield 101, 3) := by decide +kernel
theorem dX7_goOver_64 : decode cX7_goOver 64 = .ok (.if_icmp .ge 24, 3) := by decide +kernel
theorem dX7_goOver_67 : decode cX7_goOver 67 = .ok (.aload_n 0, 1) := by decide +kernel
theorem dX7_goOver_68 : decode cX7_goOver 68 = .ok (.aload_n 0, 1) := by decide +kernel
theorem dX7_goOver_69 : decode cX7_goOver 69 = .ok (.getfield 22, 3) := by decide +kernel
theorem dX7_goOver_72 : decode cX7_goOver 72 = .ok (.iload_n 1, 1) := by decide +kernel
theorem dX7_goOver_73 : decode cX7_goOver 73 = .ok (.iaload, 1) := by decide +kernel
theorem dX7_goOver_74 : decode cX7_goOver 74 = .ok (.invokevirtual 120, 3) := by decide +kernel
theorem dX7_goOver_77 : decode cX7_goOver 77 = .ok (.ifCond .ne 5, 3) := by decide +kernel
theorem dX7_goOver_80 : decode cX7_goOver 80 = .ok (.iload_n 1, 1) := by decide +kernel
theorem dX7_goOver_81 : decode cX7_goOver 81 = .ok (.ireturn, 1) := by decide +kernel
theorem dX7_goOver_82 : decode cX7_goOver 82 = .ok (.iinc 1 1, 3) := by decide +kernel
theorem dX7_goOver_85 : decode cX7_goOver 85 = .ok (.goto (-26), 3) := by decide +kernel
theorem dX7_goOver_88 : decode cX7_goOver 88 = .ok (.aload_n 0, 1) := by decide +kernel
theorem dX7_goOver_89 : decode cX7_goOver 89 = .ok (.getfield 107, 3) := by decide +kernel
theorem dX7_goOver_92 : decode cX7_goOver 92 = .ok (.ifCond .eq 27, 3) := by decide +kernel
theorem dX7_goOver_95 : decode cX7_goOver 95 = .ok (.aload_n 0, 1) := by decide +kernel
theorem dX7_goOver_96 : decode cX7_goOver 96 = .ok (.getfield 107, 3) := by decide +kernel
theorem dX7_goOver_99 : decode cX7_goOver 99 = .ok (.iconst 1, 1) := by decide +kernel
theorem dX7_goOver_100 : decode cX7_goOver 100 = .ok (.if_icmp .eq 19, 3) := by decide +kernel
theorem dX7_goOver_103 : decode cX7_goOver 103 = .ok (.aload_n 0, 1) := by decide +kernel
theorem dX7_goOver_104 : decode cX7_goOver 104 = .ok (.getfield 107, 3) := by decide +kernel
theorem dX7_goOver_107 : decode cX7_goOver 107 = .ok (.iconst 2, 1) := by decide +kernel
theorem dX7_goOver_108 : decode cX7_goOver 108 = .ok (.if_icmp .eq 11, 3) := by decide +kernel
theorem dX7_goOver_111 : decode cX7_goOver 111 = .ok (.aload_n 0, 1) := by decide +kernel
theorem dX7_goOver_112 : decode cX7_goOver 112 = .ok (.getfield 107, 3) := by decide +kernel
theorem dX7_goOver_115 : decode cX7_goOver 115 = .ok (.iconst 5, 1) := by decide +kernel
theorem dX7_goOver_116 : decode cX7_goOver 116 = .ok (.if_icmp .ne 8, 3) := by decide +kernel
theorem dX7_goOver_119 : decode cX7_goOver 119 = .ok (.aload_n 0, 1) := by decide +kernel
theorem dX7_goOver_120 : decode cX7_goOver 120 = .ok (.getfield 101, 3) := by decide +kernel
theorem dX7_goOver_123 : decode cX7_goOver 123 = .ok (.ireturn, 1) := by decide +kernel
theorem dX7_goOver_124 : decode cX7_goOver 124 = .ok (.aload_n 0, 1) := by decide +kernel
theorem dX7_goOver_125 : decode cX7_goOver 125 = .ok (.invokevirtual 117, 3) := by decide +kernel
theorem dX7_goOver_128 : decode cX7_goOver 128 = .ok (.iconst (-1), 1) := by decide +kernel
theorem dX7_goOver_129 : decode cX7_goOver 129 = .ok (.ireturn, 1) := by decide +kernel
theorem dX7_ordain_0 : decode cX7_ordain 0 = .ok (.aload_n 0, 1) := by decide +kernel
theorem dX7_ordain_1 : decode cX7_ordain 1 = .ok (.getfield 123, 3) := by decide +kernel
theorem dX7_ordain_4 : decode cX7_ordain 4 = .ok (.bipush 6, 2) := by decide +kernel
theorem dX7_ordain_6 : decode cX7_ordain 6 = .ok (.if_icmp .ne 6, 3) := by decide +kernel
theorem dX7_ordain_9 : decode cX7_ordain 9 = .ok (.bipush (-2), 2) := by decide +kernel
theorem dX7_ordain_11 : decode cX7_ordain 11 = .ok (.ireturn, 1) := by decide +kernel
theorem dX7_ordain_12 : decode cX7_ordain 12 = .ok (.aload_n 0, 1) := by decide +kernel
theorem dX7_ordain_13 : decode cX7_ordain 13 = .ok (.invokevirtual 126, 3) := by decide +kernel
theorem dX7_ordain_16 : decode cX7_ordain 16 = .ok (.istore_n 1, 1) := by decide +kernel
theorem dX7_ordain_17 : decode cX7_ordain 17 = .ok (.iload_n 1, 1) := by decide +kernel
theorem dX7_ordain_18 : decode cX7_ordain 18 = .ok (.ifCond .lt 8, 3) := by decide +kernel
theorem dX7_ordain_21 : decode cX7_ordain 21 = .ok (.bipush (-100), 2) := by decide +kernel
theorem dX7_ordain_23 : decode cX7_ordain 23 = .ok (.iload_n 1, 1) := by decide +kernel
theorem dX7_ordain_24 : decode cX7_ordain 24 = .ok (.isub, 1) := by decide +kernel
theorem dX7_ordain_25 : decode cX7_ordain 25 = .ok (.ireturn, 1) := by decide +kernel
theorem dX7_ordain_26 : decode cX7_ordain 26 = .ok (.iconst 0, 1) := by decide +kernel
theorem dX7_ordain_27 : decode cX7_ordain 27 = .ok (.istore_n 2, 1) := by decide +kernel
theorem dX7_ordain_28 : decode cX7_ordain 28 = .ok (.iload_n 2, 1) := by decide +kernel
theorem dX7_ordain_29 : decode cX7_ordain 29 = .ok (.bipush 7, 2) := by decide +kernel
theorem dX7_ordain_31 : decode cX7_ordain 31 = .ok (.if_icmp .ge 29, 3) := by decide +kernel
theorem dX7_ordain_34 : decode cX7_ordain 34 = .ok (.aload_n 0, 1) := by decide +kernel
theorem dX7_ordain_35 : decode cX7_ordain 35 = .ok (.getfield 29, 3) := by decide +kernel
theorem dX7_ordain_38 : decode cX7_ordain 38 = .ok (.bipush 7, 2) := by decide +kernel
theorem dX7_ordain_40 : decode cX7_ordain 40 = .ok (.aload_n 0, 1) := by decide +kernel
theorem dX7_ordain_41 : decode cX7_ordain 41 = .ok (.getfield 123, 3) := by decide +kernel
theorem dX7_ordain_44 : decode cX7_ordain 44 = .ok (.imul, 1) := by decide +kernel
theorem dX7_ordain_45 : decode cX7_ordain 45 = .ok (.iload_n 2, 1) := by decide +kernel
theorem dX7_ordain_46 : decode cX7_ordain 46 = .ok (.iadd, 1) := by decide +kernel
theorem dX7_ordain_47 : decode cX7_ordain 47 = .ok (.aload_n 0, 1) := by decide +kernel
theorem dX7_ordain_48 : decode cX7_ordain 48 = .ok (.getfield 54, 3) := by decide +kernel
theorem dX7_ordain_51 : decode cX7_ordain 51 = .ok (.iload_n 2, 1) := by decide +kernel
theorem dX7_ordain_52 : decode cX7_ordain 52 = .ok (.iaload, 1) := by decide +kernel
theorem dX7_ordain_53 : decode cX7_ordain 53 = .ok (.iastore, 1) := by decide +kernel
theorem dX7_ordain_54 : decode cX7_ordain 54 = .ok (.iinc 2 1, 3) := by decide +kernel
theorem dX7_ordain_57 : decode cX7_ordain 57 = .ok (.goto (-29), 3) := by decide +kernel
theorem dX7_ordain_60 : decode cX7_ordain 60 = .ok (.aload_n 0, 1) := by decide +kernel
theorem dX7_ordain_61 : decode cX7_ordain 61 = .ok (.iconst 0, 1) := by decide +kernel
theorem dX7_ordain_62 : decode cX7_ordain 62 = .ok (.putfield 101, 3) := by decide +kernel
theorem dX7_ordain_65 : decode cX7_ordain 65 = .ok (.aload_n 0, 1) := by decide +kernel
theorem dX7_ordain_66 : decode cX7_ordain 66 = .ok (.aload_n 0, 1) := by decide +kernel
theorem dX7_ordain_67 : decode cX7_ordain 67 = .ok (.getfield 123, 3) := by decide +kernel
theorem dX7_ordain_70 : decode cX7_ordain 70 = .ok (.putfield 25, 3) := by decide +kernel
theorem dX7_ordain_73 : decode cX7_ordain 73 = .ok (.aload_n 0, 1) := by decide +kernel
theorem dX7_ordain_74 : decode cX7_ordain 74 = .ok (.dup, 1) := by decide +kernel
theorem dX7_ordain_75 : decode cX7_ordain 75 = .ok (.getfield 123, 3) := by decide +kernel
theorem dX7_ordain_78 : decode cX7_ordain 78 = .ok (.iconst 1, 1) := by decide +kernel
theorem dX7_ordain_79 : decode cX7_ordain 79 = .ok (.iadd, 1) := by decide +kernel
theorem dX7_ordain_80 : decode cX7_ordain 80 = .ok (.putfield 123, 3) := by decide +kernel
theorem dX7_ordain_83 : decode cX7_ordain 83 = .ok (.aload_n 0, 1) := by decide +kernel
theorem dX7_ordain_84 : decode cX7_ordain 84 = .ok (.getfield 25, 3) := by decide +kernel
theorem dX7_ordain_87 : decode cX7_ordain 87 = .ok (.ireturn, 1) := by decide +kernel
theorem dX7_force_0 : decode cX7_force 0 = .ok (.iload_n 1, 1) := by decide +kernel
theorem dX7_force_1 : decode cX7_force 1 = .ok (.iconst 0, 1) := by decide +kernel
theorem dX7_force_2 : decode cX7_force 2 = .ok (.aload_n 0, 1) := by decide +kernel
theorem dX7_force_3 : decode cX7_force 3 = .ok (.getfield 123, 3) := by decide +kernel
theorem dX7_force_6 : decode cX7_force 6 = .ok (.iconst 1, 1) := by decide +kernel
theorem dX7_force_7 : decode cX7_force 7 = .ok (.isub, 1) := by decide +kernel
theorem dX7_force_8 : decode cX7_force 8 = .ok (.invokestatic 72, 3) := by decide +kernel
theorem dX7_force_11 : decode cX7_force 11 = .ok (.ifCond .ne 5, 3) := by decide +kernel
theorem dX7_force_14 : decode cX7_force 14 = .ok (.iconst (-1), 1) := by decide +kernel
theorem dX7_force_15 : decode cX7_force 15 = .ok (.ireturn, 1) := by decide +kernel
theorem dX7_force_16 : decode cX7_force 16 = .ok (.aload_n 0, 1) := by decide +kernel
theorem dX7_force_17 : decode cX7_force 17 = .ok (.iload_n 1, 1) := by decide +kernel
theorem dX7_force_18 : decode cX7_force 18 = .ok (.putfield 25, 3) := by decide +kernel
theorem dX7_force_21 : decode cX7_force 21 = .ok (.iconst 1, 1) := by decide +kernel
theorem dX7_force_22 : decode cX7_force 22 = .ok (.ireturn, 1) := by decide +kernel
theorem dX7_worth_0 : decode cX7_worth 0 = .ok (.iload_n 1, 1) := by decide +kernel
theorem dX7_worth_1 : decode cX7_worth 1 = .ok (.iconst 0, 1) := by decide +kernel
theorem dX7_worth_2 : decode cX7_worth 2 = .ok (.aload_n 0, 1) := by decide +kernel
theorem dX7_worth_3 : decode cX7_worth 3 = .ok (.getfield 123, 3) := by decide +kernel
theorem dX7_worth_6 : decode cX7_worth 6 = .ok (.iconst 1, 1) := by decide +kernel
theorem dX7_worth_7 : decode cX7_worth 7 = .ok (.isub, 1) := by decide +kernel
theorem dX7_worth_8 : decode cX7_worth 8 = .ok (.invokestatic 72, 3) := by decide +kernel
theorem dX7_worth_11 : decode cX7_worth 11 = .ok (.ifCond .eq 27, 3) := by decide +kernel
theorem dX7_worth_14 : decode cX7_worth 14 = .ok (.iload_n 2, 1) := by decide +kernel
theorem dX7_worth_15 : decode cX7_worth 15 = .ok (.iconst 0, 1) := by decide +kernel
theorem dX7_worth_16 : decode cX7_worth 16 = .ok (.bipush 6, 2) := by decide +kernel
theorem dX7_worth_18 : decode cX7_worth 18 = .ok (.invokestatic 72, 3) := by decide +kernel
theorem dX7_worth_21 : decode cX7_worth 21 = .ok (.ifCond .eq 17, 3) := by decide +kernel
theorem dX7_worth_24 : decode cX7_worth 24 = .ok (.aload_n 0, 1) := by decide +kernel
theorem dX7_worth_25 : decode cX7_worth 25 = .ok (.getfield 29, 3) := by decide +kernel
theorem dX7_worth_28 : decode cX7_worth 28 = .ok (.bipush 7, 2) := by decide +kernel
theorem dX7_worth_30 : decode cX7_worth 30 = .ok (.iload_n 1, 1) := by decide +kernel
theorem dX7_worth_31 : decode cX7_worth 31 = .ok (.imul, 1) := by decide +kernel
theorem dX7_worth_32 : decode cX7_worth 32 = .ok (.iload_n 2, 1) := by decide +kernel
theorem dX7_worth_33 : decode cX7_worth 33 = .ok (.iadd, 1) := by decide +kernel
theorem dX7_worth_34 : decode cX7_worth 34 = .ok (.iaload, 1) := by decide +kernel
theorem dX7_worth_35 : decode cX7_worth 35 = .ok (.goto 5, 3) := by decide +kernel
theorem dX7_worth_38 : decode cX7_worth 38 = .ok (.ldc 130, 2) := by decide +kernel
theorem dX7_worth_40 : decode cX7_worth 40 = .ok (.ireturn, 1) := by decide +kernel
theorem dX7_joust_0 : decode cX7_joust 0 = .ok (.aload_n 0, 1) := by decide +kernel
theorem dX7_joust_1 : decode cX7_joust 1 = .ok (.iload_n 1, 1) := by decide +kernel
theorem dX7_joust_2 : decode cX7_joust 2 = .ok (.iload_n 2, 1) := by decide +kernel
theorem dX7_joust_3 : decode cX7_joust 3 = .ok (.invokevirtual 131, 3) := by decide +kernel
theorem dX7_joust_6 : decode cX7_joust 6 = .ok (.ifCond .ne 5, 3) := by decide +kernel
theorem dX7_joust_9 : decode cX7_joust 9 = .ok (.iconst (-1), 1) := by decide +kernel
theorem dX7_joust_10 : decode cX7_joust 10 = .ok (.ireturn, 1) := by decide +kernel
theorem dX7_joust_11 : decode cX7_joust 11 = .ok (.aload_n 0, 1) := by decide +kernel
theorem dX7_joust_12 : decode cX7_joust 12 = .ok (.getfield 25, 3) := by decide +kernel
theorem dX7_joust_15 : decode cX7_joust 15 = .ok (.ifCond .ge 6, 3) := by decide +kernel
theorem dX7_joust_18 : decode cX7_joust 18 = .ok (.bipush (-4), 2) := by decide +kernel
theorem dX7_joust_20 : decode cX7_joust 20 = .ok (.ireturn, 1) := by decide +kernel
theorem dX7_joust_21 : decode cX7_joust 21 = .ok (.aload_n 0, 1) := by decide +kernel
theorem dX7_joust_22 : decode cX7_joust 22 = .ok (.iload_n 1, 1) := by decide +kernel
theorem dX7_joust_23 : decode cX7_joust 23 = .ok (.invokevirtual 97, 3) := by decide +kernel
theorem dX7_joust_26 : decode cX7_joust 26 = .ok (.ifCond .ge 11, 3) := by decide +kernel
theorem dX7_joust_29 : decode cX7_joust 29 = .ok (.aload_n 0, 1) := by decide +kernel
theorem dX7_joust_30 : decode cX7_joust 30 = .ok (.iload_n 2, 1) := by decide +kernel
theorem dX7_joust_31 : decode cX7_joust 31 = .ok (.invokevirtual 97, 3) := by decide +kernel
theorem dX7_joust_34 : decode cX7_joust 34 = .ok (.ifCond .lt 6, 3) := by decide +kernel
theorem dX7_joust_37 : decode cX7_joust 37 = .ok (.bipush (-5), 2) := by decide +kernel
theorem dX7_joust_39 : decode cX7_joust 39 = .ok (.ireturn, 1) := by decide +kernel
theorem dX7_joust_40 : decode cX7_joust 40 = .ok (.aload_n 0, 1) := by decide +kernel
theorem dX7_joust_41 : decode cX7_joust 41 = .ok (.getfield 80, 3) := by decide +kernel
theorem dX7_joust_44 : decode cX7_joust 44 = .ok (.bipush 30, 2) := by decide +kernel
theorem dX7_joust_46 : decode cX7_joust 46 = .ok (.if_icmp .ne 6, 3) := by decide +kernel
theorem dX7_joust_49 : decode cX7_joust 49 = .ok (.bipush (-2), 2) := by decide +kernel
theorem dX7_joust_51 : decode cX7_joust 51 = .ok (.ireturn, 1) := by decide +kernel
theorem dX7_joust_52 : decode cX7_joust 52 = .ok (.aload_n 0, 1) := by decide +kernel
theorem dX7_joust_53 : decode cX7_joust 53 = .ok (.getfield 32, 3) := by decide +kernel
theorem dX7_joust_56 : decode cX7_joust 56 = .ok (.iconst 2, 1) := by decide +kernel
theorem dX7_joust_57 : decode cX7_joust 57 = .ok (.aload_n 0, 1) := by decide +kernel
theorem dX7_joust_58 : decode cX7_joust 58 = .ok (.getfield 80, 3) := by decide +kernel
theorem dX7_joust_61 : decode cX7_joust 61 = .ok (.imul, 1) := by decide +kernel
theorem dX7_joust_62 : decode cX7_joust 62 = .ok (.iload_n 1, 1) := by decide +kernel
theorem dX7_joust_63 : decode cX7_joust 63 = .ok (.iastore, 1) := by decide +kernel
theorem dX7_joust_64 : decode cX7_joust 64 = .ok (.aload_n 0, 1) := by decide +kernel
theorem dX7_joust_65 : decode cX7_joust 65 = .ok (.getfield 32, 3) := by decide +kernel
theorem dX7_joust_68 : decode cX7_joust 68 = .ok (.iconst 2, 1) := by decide +kernel
theorem dX7_joust_69 : decode cX7_joust 69 = .ok (.aload_n 0, 1) := by decide +kernel
theorem dX7_joust_70 : decode cX7_joust 70 = .ok (.getfield 80, 3) := by decide +kernel
theorem dX7_joust_73 : decode cX7_joust 73 = .ok (.imul, 1) := by decide +kernel
theorem dX7_joust_74 : decode cX7_joust 74 = .ok (.iconst 1, 1) := by decide +kernel
theorem dX7_joust_75 : decode cX7_joust 75 = .ok (.iadd, 1) := by decide +kernel
theorem dX7_joust_76 : decode cX7_joust 76 = .ok (.iload_n 2, 1) := by decide +kernel
theorem dX7_joust_77 : decode cX7_joust 77 = .ok (.iastore, 1) := by decide +kernel
theorem dX7_joust_78 : decode cX7_joust 78 = .ok (.aload_n 0, 1) := by decide +kernel
theorem dX7_joust_79 : decode cX7_joust 79 = .ok (.getfield 35, 3) := by decide +kernel
theorem dX7_joust_82 : decode cX7_joust 82 = .ok (.aload_n 0, 1) := by decide +kernel
theorem dX7_joust_83 : decode cX7_joust 83 = .ok (.getfield 80, 3) := by decide +kernel
theorem dX7_joust_86 : decode cX7_joust 86 = .ok (.aload_n 0, 1) := by decide +kernel
theorem dX7_joust_87 : decode cX7_joust 87 = .ok (.getfield 25, 3) := by decide +kernel
theorem dX7_joust_90 : decode cX7_joust 90 = .ok (.iastore, 1) := by decide +kernel
theorem dX7_joust_91 : decode cX7_joust 91 = .ok (.aload_n 0, 1) := by decide +kernel
theorem dX7_joust_92 : decode cX7_joust 92 = .ok (.getfield 41, 3) := by decide +kernel
theorem dX7_joust_95 : decode cX7_joust 95 = .ok (.iconst 2, 1) := by decide +kernel
theorem dX7_joust_96 : decode cX7_joust 96 = .ok (.aload_n 0, 1) := by decide +kernel
theorem dX7_joust_97 : decode cX7_joust 97 = .ok (.getfield 80, 3) := by decide +kernel
theorem dX7_joust_100 : decode cX7_joust 100 = .ok (.imul, 1) := by decide +kernel
theorem dX7_joust_101 : decode cX7_joust 101 = .ok (.iconst 0, 1) := by decide +kernel
theorem dX7_joust_102 : decode cX7_joust 102 = .ok (.iastore, 1) := by decide +kernel
theorem dX7_joust_103 : decode cX7_joust 103 = .ok (.aload_n 0, 1) := by decide +kernel
theorem dX7_joust_104 : decode cX7_joust 104 = .ok (.getfield 41, 3) := by decide +kernel
theorem dX7_joust_107 : decode cX7_joust 107 = .ok (.iconst 2, 1) := by decide +kernel
theorem dX7_joust_108 : decode cX7_joust 108 = .ok (.aload_n 0, 1) := by decide +kernel
theorem dX7_joust_109 : decode cX7_joust 109 = .ok (.getfield 80, 3) := by decide +kernel
theorem dX7_joust_112 : decode cX7_joust 112 = .ok (.imul, 1) := by decide +kernel
theorem dX7_joust_113 : decode cX7_joust 113 = .ok (.iconst 1, 1) := by decide +kernel
theorem dX7_joust_114 : decode cX7_joust 114 = .ok (.iadd, 1) := by decide +kernel
theorem dX7_joust_115 : decode cX7_joust 115 = .ok (.iconst 0, 1) := by decide +kernel
theorem dX7_joust_116 : decode cX7_joust 116 = .ok (.iastore, 1) := by decide +kernel
theorem dX7_joust_117 : decode cX7_joust 117 = .ok (.iconst 0, 1) := by decide +kernel
theorem dX7_joust_118 : decode cX7_joust 118 = .ok (.istore_n 3, 1) := by decide +kernel
theorem dX7_joust_119 : decode cX7_joust 119 = .ok (.iload_n 3, 1) := by decide +kernel
theorem dX7_joust_120 : decode cX7_joust 120 = .ok (.bipush 12, 2) := by decide +kernel
theorem dX7_joust_122 : decode cX7_joust 122 = .ok (.if_icmp .ge 25, 3) := by decide +kernel
theorem dX7_joust_125 : decode cX7_joust 125 = .ok (.aload_n 0, 1) := by decide +kernel
theorem dX7_joust_126 : decode cX7_joust 126 = .ok (.getfield 38, 3) := by decide +kernel
theorem dX7_joust_129 : decode cX7_joust 129 = .ok (.bipush 12, 2) := by decide +kernel
theorem dX7_joust_131 : decode cX7_joust 131 = .ok (.aload_n 0, 1) := by decide +kernel
theorem dX7_joust_132 : decode cX7_joust 132 = .ok (.getfield 80, 3) := by decide +kernel
theorem dX7_joust_135 : decode cX7_joust 135 = .ok (.imul, 1) := by decide +kernel
theorem dX7_joust_136 : decode cX7_joust 136 = .ok (.iload_n 3, 1) := by decide +kernel
theorem dX7_joust_137 : decode cX7_joust 137 = .ok (.iadd, 1) := by decide +kernel
theorem dX7_joust_138 : decode cX7_joust 138 = .ok (.bipush 6, 2) := by decide +kernel
theorem dX7_joust_140 : decode cX7_joust 140 = .ok (.iastore, 1) := by decide +kernel
theorem dX7_joust_141 : decode cX7_joust 141 = .ok (.iinc 3 1, 3) := by decide +kernel
theorem dX7_joust_144 : decode cX7_joust 144 = .ok (.goto (-25), 3) := by decide +kernel
theorem dX7_joust_147 : decode cX7_joust 147 = .ok (.aload_n 0, 1) := by decide +kernel
theorem dX7_joust_148 : decode cX7_joust 148 = .ok (.dup, 1) := by decide +kernel
theorem dX7_joust_149 : decode cX7_joust 149 = .ok (.getfield 80, 3) := by decide +kernel
theorem dX7_joust_152 : decode cX7_joust 152 = .ok (.iconst 1, 1) := by decide +kernel
theorem dX7_joust_153 : decode cX7_joust 153 = .ok (.iadd, 1) := by decide +kernel
theorem dX7_joust_154 : decode cX7_joust 154 = .ok (.putfield 80, 3) := by decide +kernel
theorem dX7_joust_157 : decode cX7_joust 157 = .ok (.aload_n 0, 1) := by decide +kernel
theorem dX7_joust_158 : decode cX7_joust 158 = .ok (.getfield 80, 3) := by decide +kernel
theorem dX7_joust_161 : decode cX7_joust 161 = .ok (.iconst 1, 1) := by decide +kernel
theorem dX7_joust_162 : decode cX7_joust 162 = .ok (.isub, 1) := by decide +kernel
theorem dX7_joust_163 : decode cX7_joust 163 = .ok (.ireturn, 1) := by decide +kernel
theorem dX7_sheetAt_0 : decode cX7_sheetAt 0 = .ok (.bipush 6, 2) := by decide +kernel
theorem dX7_sheetAt_2 : decode cX7_sheetAt 2 = .ok (.iconst 2, 1) := by decide +kernel
theorem dX7_sheetAt_3 : decode cX7_sheetAt 3 = .ok (.iload_n 0, 1) := by decide +kernel
theorem dX7_sheetAt_4 : decode cX7_sheetAt 4 = .ok (.imul, 1) := by decide +kernel
theorem dX7_sheetAt_5 : decode cX7_sheetAt 5 = .ok (.iload_n 1, 1) := by decide +kernel
theorem dX7_sheetAt_6 : decode cX7_sheetAt 6 = .ok (.iadd, 1) := by decide +kernel
theorem dX7_sheetAt_7 : decode cX7_sheetAt 7 = .ok (.imul, 1) := by decide +kernel
theorem dX7_sheetAt_8 : decode cX7_sheetAt 8 = .ok (.ireturn, 1) := by decide +kernel
theorem dX7_stroke_0 : decode cX7_stroke 0 = .ok (.aload_n 0, 1) := by decide +kernel
theorem dX7_stroke_1 : decode cX7_stroke 1 = .ok (.iload_n 1, 1) := by decide +kernel
theorem dX7_stroke_2 : decode cX7_stroke 2 = .ok (.invokevirtual 134, 3) := by decide +kernel
theorem dX7_stroke_5 : decode cX7_stroke 5 = .ok (.ifCond .eq 30, 3) := by decide +kernel
theorem dX7_stroke_8 : decode cX7_stroke 8 = .ok (.iload_n 2, 1) := by decide +kernel
theorem dX7_stroke_9 : decode cX7_stroke 9 = .ok (.invokestatic 137, 3) := by decide +kernel
theorem dX7_stroke_12 : decode cX7_stroke 12 = .ok (.ifCond .eq 23, 3) := by decide +kernel
theorem dX7_stroke_15 : decode cX7_stroke 15 = .ok (.iload_n 3, 1) := by decide +kernel
theorem dX7_stroke_16 : decode cX7_stroke 16 = .ok (.iconst 0, 1) := by decide +kernel
theorem dX7_stroke_17 : decode cX7_stroke 17 = .ok (.iconst 5, 1) := by decide +kernel
theorem dX7_stroke_18 : decode cX7_stroke 18 = .ok (.invokestatic 72, 3) := by decide +kernel
theorem dX7_stroke_21 : decode cX7_stroke 21 = .ok (.ifCond .eq 14, 3) := by decide +kernel
theorem dX7_stroke_24 : decode cX7_stroke 24 = .ok (.iload 4, 2) := by decide +kernel
theorem dX7_stroke_26 : decode cX7_stroke 26 = .ok (.iconst 0, 1) := by decide +kernel
theorem dX7_stroke_27 : decode cX7_stroke 27 = .ok (.bipush 6, 2) := by decide +kernel
theorem dX7_stroke_29 : decode cX7_stroke 29 = .ok (.invokestatic 72, 3) := by decide +kernel
theorem dX7_stroke_32 : decode cX7_stroke 32 = .ok (.ifCond .ne 5, 3) := by decide +kernel
theorem dX7_stroke_35 : decode cX7_stroke 35 = .ok (.iconst (-1), 1) := by decide +kernel
theorem dX7_stroke_36 : decode cX7_stroke 36 = .ok (.ireturn, 1) := by decide +kernel
theorem dX7_stroke_37 : decode cX7_stroke 37 = .ok (.iload_n 1, 1) := by decide +kernel
theorem dX7_stroke_38 : decode cX7_stroke 38 = .ok (.iload_n 2, 1) := by decide +kernel
theorem dX7_stroke_39 : decode cX7_stroke 39 = .ok (.invokestatic 140, 3) := by decide +kernel
theorem dX7_stroke_42 : decode cX7_stroke 42 = .ok (.iload_n 3, 1) := by decide +kernel
theorem dX7_stroke_43 : decode cX7_stroke 43 = .ok (.iadd, 1) := by decide +kernel
theorem dX7_stroke_44 : decode cX7_stroke 44 = .ok (.istore 5, 2) := by decide +kernel
theorem dX7_stroke_46 : decode cX7_stroke 46 = .ok (.aload_n 0, 1) := by decide +kernel
theorem dX7_stroke_47 : decode cX7_stroke 47 = .ok (.getfield 38, 3) := by decide +kernel
theorem dX7_stroke_50 : decode cX7_stroke 50 = .ok (.iload 5, 2) := by decide +kernel
theorem dX7_stroke_52 : decode cX7_stroke 52 = .ok (.iaload, 1) := by decide +kernel
theorem dX7_stroke_53 : decode cX7_stroke 53 = .ok (.istore 6, 2) := by decide +kernel
theorem dX7_stroke_55 : decode cX7_stroke 55 = .ok (.aload_n 0, 1) := by decide +kernel
theorem dX7_stroke_56 : decode cX7_stroke 56 = .ok (.getfield 38, 3) := by decide +kernel
theorem dX7_stroke_59 : decode cX7_stroke 59 = .ok (.iload 5, 2) := by decide +kernel
theorem dX7_stroke_61 : decode cX7_stroke 61 = .ok (.iload 4, 2) := by decide +kernel
theorem dX7_stroke_63 : decode cX7_stroke 63 = .ok (.iastore, 1) := by decide +kernel
theorem dX7_stroke_64 : decode cX7_stroke 64 = .ok (.iload 6, 2) := by decide +kernel
theorem dX7_stroke_66 : decode cX7_stroke 66 = .ok (.ireturn, 1) := by decide +kernel
theorem dX7_copy_0 : decode cX7_copy 0 = .ok (.aload_n 0, 1) := by decide +kernel
theorem dX7_copy_1 : decode cX7_copy 1 = .ok (.iload_n 1, 1) := by decide +kernel
theorem dX7_copy_2 : decode cX7_copy 2 = .ok (.invokevirtual 134, 3) := by decide +kernel
theorem dX7_copy_5 : decode cX7_copy 5 = .ok (.ifCond .eq 57, 3) := by decide +kernel
theorem dX7_copy_8 : decode cX7_copy 8 = .ok (.aload_n 0, 1) := by decide +kernel
theorem dX7_copy_9 : decode cX7_copy 9 = .ok (.iload_n 2, 1) := by decide +kernel
theorem dX7_copy_10 : decode cX7_copy 10 = .ok (.invokevirtual 134, 3) := by decide +kernel
theorem dX7_copy_13 : decode cX7_copy 13 = .ok (.ifCond .eq 49, 3) := by decide +kernel
theorem dX7_copy_16 : decode cX7_copy 16 = .ok (.iload_n 3, 1) := by decide +kernel
theorem dX7_copy_17 : decode cX7_copy 17 = .ok (.invokestatic 137, 3) := by decide +kernel
theorem dX7_copy_20 : decode cX7_copy 20 = .ok (.ifCond .eq 42, 3) := by decide +kernel
theorem dX7_copy_23 : decode cX7_copy 23 = .ok (.iload 6, 2) := by decide +kernel
theorem dX7_copy_25 : decode cX7_copy 25 = .ok (.iconst 0, 1) := by decide +kernel
theorem dX7_copy_26 : decode cX7_copy 26 = .ok (.bipush 6, 2) := by decide +kernel
theorem dX7_copy_28 : decode cX7_copy 28 = .ok (.invokestatic 72, 3) := by decide +kernel
theorem dX7_copy_31 : decode cX7_copy 31 = .ok (.ifCond .eq 31, 3) := by decide +kernel
theorem dX7_copy_34 : decode cX7_copy 34 = .ok (.iload 4, 2) := by decide +kernel
theorem dX7_copy_36 : decode cX7_copy 36 = .ok (.iconst 0, 1) := by decide +kernel
theorem dX7_copy_37 : decode cX7_copy 37 = .ok (.bipush 6, 2) := by decide +kernel
theorem dX7_copy_39 : decode cX7_copy 39 = .ok (.iload 6, 2) := by decide +kernel
theorem dX7_copy_41 : decode cX7_copy 41 = .ok (.isub, 1) := by decide +kernel
theorem dX7_copy_42 : decode cX7_copy 42 = .ok (.invokestatic 72, 3) := by decide +kernel
theorem dX7_copy_45 : decode cX7_copy 45 = .ok (.ifCond .eq 17, 3) := by decide +kernel
theorem dX7_copy_48 : decode cX7_copy 48 = .ok (.iload 5, 2) := by decide +kernel
theorem dX7_copy_50 : decode cX7_copy 50 = .ok (.iconst 0, 1) := by decide +kernel
theorem dX7_copy_51 : decode cX7_copy 51 = .ok (.bipush 6, 2) := by decide +kernel
theorem dX7_copy_53 : decode cX7_copy 53 = .ok (.iload 6, 2) := by decide +kernel
theorem dX7_copy_55 : decode cX7_copy 55 = .ok (.isub, 1) := by decide +kernel
theorem dX7_copy_56 : decode cX7_copy 56 = .ok (.invokestatic 72, 3) := by decide +kernel
theorem dX7_copy_59 : decode cX7_copy 59 = .ok (.ifCond .ne 5, 3) := by decide +kernel
theorem dX7_copy_62 : decode cX7_copy 62 = .ok (.iconst (-1), 1) := by decide +kernel
theorem dX7_copy_63 : decode cX7_copy 63 = .ok (.ireturn, 1) := by decide +kernel
theorem dX7_copy_64 : decode cX7_copy 64 = .ok (.iload_n 1, 1) := by decide +kernel
theorem dX7_copy_65 : decode cX7_copy 65 = .ok (.iload_n 3, 1) := by decide +kernel
theorem dX7_copy_66 : decode cX7_copy 66 = .ok (.invokestatic 140, 3) := by decide +kernel
theorem dX7_copy_69 : decode cX7_copy 69 = .ok (.iload 4, 2) := by decide +kernel
theorem dX7_copy_71 : decode cX7_copy 71 = .ok (.iadd, 1) := by decide +kernel
theorem dX7_copy_72 : decode cX7_copy 72 = .ok (.istore 7, 2) := by decide +kernel
theorem dX7_copy_74 : decode cX7_copy 74 = .ok (.iload_n 2, 1) := by decide +kernel
theorem dX7_copy_75 : decode cX7_copy 75 = .ok (.iload_n 3, 1) := by decide +kernel
theorem dX7_copy_76 : decode cX7_copy 76 = .ok (.invokestatic 140, 3) := by decide +kernel
theorem dX7_copy_79 : decode cX7_copy 79 = .ok (.iload 5, 2) := by decide +kernel
theorem dX7_copy_81 : decode cX7_copy 81 = .ok (.iadd, 1) := by decide +kernel
theorem dX7_copy_82 : decode cX7_copy 82 = .ok (.istore 8, 2) := by decide +kernel
theorem dX7_copy_84 : decode cX7_copy 84 = .ok (.iconst 0, 1) := by decide +kernel
theorem dX7_copy_85 : decode cX7_copy 85 = .ok (.istore 9, 2) := by decide +kernel
theorem dX7_copy_87 : decode cX7_copy 87 = .ok (.iload 9, 2) := by decide +kernel
theorem dX7_copy_89 : decode cX7_copy 89 = .ok (.iload 6, 2) := by decide +kernel
theorem dX7_copy_91 : decode cX7_copy 91 = .ok (.if_icmp .ge 50, 3) := by decide +kernel
theorem dX7_copy_94 : decode cX7_copy 94 = .ok (.iload 8, 2) := by decide +kernel
theorem dX7_copy_96 : decode cX7_copy 96 = .ok (.iload 7, 2) := by decide +kernel
theorem dX7_copy_98 : decode cX7_copy 98 = .ok (.if_icmp .le 13, 3) := by decide +kernel
theorem dX7_copy_101 : decode cX7_copy 101 = .ok (.iload 6, 2) := by decide +kernel
theorem dX7_copy_103 : decode cX7_copy 103 = .ok (.iconst 1, 1) := by decide +kernel
theorem dX7_copy_104 : decode cX7_copy 104 = .ok (.isub, 1) := by decide +kernel
theorem dX7_copy_105 : decode cX7_copy 105 = .ok (.iload 9, 2) := by decide +kernel
theorem dX7_copy_107 : decode cX7_copy 107 = .ok (.isub, 1) := by decide +kernel
theorem dX7_copy_108 : decode cX7_copy 108 = .ok (.goto 5, 3) := by decide +kernel
theorem dX7_copy_111 : decode cX7_copy 111 = .ok (.iload 9, 2) := by decide +kernel
theorem dX7_copy_113 : decode cX7_copy 113 = .ok (.istore 10, 2) := by decide +kernel
theorem dX7_copy_115 : decode cX7_copy 115 = .ok (.aload_n 0, 1) := by decide +kernel
theorem dX7_copy_116 : decode cX7_copy 116 = .ok (.getfield 38, 3) := by decide +kernel
theorem dX7_copy_119 : decode cX7_copy 119 = .ok (.iload 8, 2) := by decide +kernel
theorem dX7_copy_121 : decode cX7_copy 121 = .ok (.iload 10, 2) := by decide +kernel
theorem dX7_copy_123 : decode cX7_copy 123 = .ok (.iadd, 1) := by decide +kernel
theorem dX7_copy_124 : decode cX7_copy 124 = .ok (.aload_n 0, 1) := by decide +kernel
theorem dX7_copy_125 : decode cX7_copy 125 = .ok (.getfield 38, 3) := by decide +kernel
theorem dX7_copy_128 : decode cX7_copy 128 = .ok (.iload 7, 2) := by decide +kernel
theorem dX7_copy_130 : decode cX7_copy 130 = .ok (.iload 10, 2) := by decide +kernel
theorem dX7_copy_132 : decode cX7_copy 132 = .ok (.iadd, 1) := by decide +kernel
theorem dX7_copy_133 : decode cX7_copy 133 = .ok (.iaload, 1) := by decide +kernel
theorem dX7_copy_134 : decode cX7_copy 134 = .ok (.iastore, 1) := by decide +kernel
theorem dX7_copy_135 : decode cX7_copy 135 = .ok (.iinc 9 1, 3) := by decide +kernel
theorem dX7_copy_138 : decode cX7_copy 138 = .ok (.goto (-51), 3) := by decide +kernel
theorem dX7_copy_141 : decode cX7_copy 141 = .ok (.iload 6, 2) := by decide +kernel
theorem dX7_copy_143 : decode cX7_copy 143 = .ok (.ireturn, 1) := by decide +kernel
theorem dX7_strokeMany_0 : decode cX7_strokeMany 0 = .ok (.iconst 0, 1) := by decide +kernel
theorem dX7_strokeMany_1 : decode cX7_strokeMany 1 = .ok (.istore 4, 2) := by decide +kernel
theorem dX7_strokeMany_3 : decode cX7_strokeMany 3 = .ok (.iconst 0, 1) := by decide +kernel
theorem dX7_strokeMany_4 : decode cX7_strokeMany 4 = .ok (.istore 5, 2) := by decide +kernel
theorem dX7_strokeMany_6 : decode cX7_strokeMany 6 = .ok (.iload 5, 2) := by decide +kernel
theorem dX7_strokeMany_8 : decode cX7_strokeMany 8 = .ok (.bipush 6, 2) := by decide +kernel
theorem dX7_strokeMany_10 : decode cX7_strokeMany 10 = .ok (.if_icmp .ge 36, 3) := by decide +kernel
theorem dX7_strokeMany_13 : decode cX7_strokeMany 13 = .ok (.iload 4, 2) := by decide +kernel
theorem dX7_strokeMany_15 : decode cX7_strokeMany 15 = .ok (.aload_n 0, 1) := by decide +kernel
theorem dX7_strokeMany_16 : decode cX7_strokeMany 16 = .ok (.getfield 38, 3) := by decide +kernel
theorem dX7_strokeMany_19 : decode cX7_strokeMany 19 = .ok (.iload_n 1, 1) := by decide +kernel
theorem dX7_strokeMany_20 : decode cX7_strokeMany 20 = .ok (.iload_n 2, 1) := by decide +kernel
theorem dX7_strokeMany_21 : decode cX7_strokeMany 21 = .ok (.invokestatic 140, 3) := by decide +kernel
theorem dX7_strokeMany_24 : decode cX7_strokeMany 24 = .ok (.iload 5, 2) := by decide +kernel
theorem dX7_strokeMany_26 : decode cX7_strokeMany 26 = .ok (.iadd, 1) := by decide +kernel
theorem dX7_strokeMany_27 : decode cX7_strokeMany 27 = .ok (.iaload, 1) := by decide +kernel
theorem dX7_strokeMany_28 : decode cX7_strokeMany 28 = .ok (.iload_n 3, 1) := by decide +kernel
theorem dX7_strokeMany_29 : decode cX7_strokeMany 29 = .ok (.if_icmp .ne 7, 3) := by decide +kernel
theorem dX7_strokeMany_32 : decode cX7_strokeMany 32 = .ok (.iconst 1, 1) := by decide +kernel
theorem dX7_strokeMany_33 : decode cX7_strokeMany 33 = .ok (.goto 4, 3) := by decide +kernel
theorem dX7_strokeMany_36 : decode cX7_strokeMany 36 = .ok (.iconst 0, 1) := by decide +kernel
theorem dX7_strokeMany_37 : decode cX7_strokeMany 37 = .ok (.iadd, 1) := by decide +kernel
theorem dX7_strokeMany_38 : decode cX7_strokeMany 38 = .ok (.istore 4, 2) := by decide +kernel
theorem dX7_strokeMany_40 : decode cX7_strokeMany 40 = .ok (.iinc 5 1, 3) := by decide +kernel
theorem dX7_strokeMany_43 : decode cX7_strokeMany 43 = .ok (.goto (-37), 3) := by decide +kernel
theorem dX7_strokeMany_46 : decode cX7_strokeMany 46 = .ok (.iload 4, 2) := by decide +kernel
theorem dX7_strokeMany_48 : decode cX7_strokeMany 48 = .ok (.ireturn, 1) := by decide +kernel
theorem dX7_reckon_0 : decode cX7_reckon 0 = .ok (.bipush 7, 2) := by decide +kernel
theorem dX7_reckon_2 : decode cX7_reckon 2 = .ok (.aload_n 0, 1) := by decide +kernel
theorem dX7_reckon_3 : decode cX7_reckon 3 = .ok (.getfield 35, 3) := by decide +kernel
theorem dX7_reckon_6 : decode cX7_reckon 6 = .ok (.iload_n 1, 1) := by decide +kernel
theorem dX7_reckon_7 : decode cX7_reckon 7 = .ok (.iaload, 1) := by decide +kernel
theorem dX7_reckon_8 : decode cX7_reckon 8 = .ok (.imul, 1) := by decide +kernel
theorem dX7_reckon_9 : decode cX7_reckon 9 = .ok (.istore 4, 2) := by decide +kernel
theorem dX7_reckon_11 : decode cX7_reckon 11 = .ok (.aload_n 0, 1) := by decide +kernel
theorem dX7_reckon_12 : decode cX7_reckon 12 = .ok (.getfield 29, 3) := by decide +kernel
theorem dX7_reckon_15 : decode cX7_reckon 15 = .ok (.iload 4, 2) := by decide +kernel
theorem dX7_reckon_17 : decode cX7_reckon 17 = .ok (.bipush 6, 2) := by decide +kernel
theorem dX7_reckon_19 : decode cX7_reckon 19 = .ok (.iadd, 1) := by decide +kernel
theorem dX7_reckon_20 : decode cX7_reckon 20 = .ok (.iaload, 1) := by decide +kernel
theorem dX7_reckon_21 : decode cX7_reckon 21 = .ok (.istore 5, 2) := by decide +kernel
theorem dX7_reckon_23 : decode cX7_reckon 23 = .ok (.aload_n 0, 1) := by decide +kernel
theorem dX7_reckon_24 : decode cX7_reckon 24 = .ok (.iconst 0, 1) := by decide +kernel
theorem dX7_reckon_25 : decode cX7_reckon 25 = .ok (.putfield 144, 3) := by decide +kernel
theorem dX7_reckon_28 : decode cX7_reckon 28 = .ok (.aload_n 0, 1) := by decide +kernel
theorem dX7_reckon_29 : decode cX7_reckon 29 = .ok (.iconst 0, 1) := by decide +kernel
theorem dX7_reckon_30 : decode cX7_reckon 30 = .ok (.putfield 147, 3) := by decide +kernel
theorem dX7_reckon_33 : decode cX7_reckon 33 = .ok (.iconst 0, 1) := by decide +kernel
theorem dX7_reckon_34 : decode cX7_reckon 34 = .ok (.istore 6, 2) := by decide +kernel
theorem dX7_reckon_36 : decode cX7_reckon 36 = .ok (.iload 6, 2) := by decide +kernel
theorem dX7_reckon_38 : decode cX7_reckon 38 = .ok (.bipush 6, 2) := by decide +kernel
theorem dX7_reckon_40 : decode cX7_reckon 40 = .ok (.if_icmp .ge 186, 3) := by decide +kernel
theorem dX7_reckon_43 : decode cX7_reckon 43 = .ok (.aload_n 0, 1) := by decide +kernel
theorem dX7_reckon_44 : decode cX7_reckon 44 = .ok (.getfield 38, 3) := by decide +kernel
theorem dX7_reckon_47 : decode cX7_reckon 47 = .ok (.iload_n 1, 1) := by decide +kernel
theorem dX7_reckon_48 : decode cX7_reckon 48 = .ok (.iload_n 2, 1) := by decide +kernel
theorem dX7_reckon_49 : decode cX7_reckon 49 = .ok (.invokestatic 140, 3) := by decide +kernel
theorem dX7_reckon_52 : decode cX7_reckon 52 = .ok (.iload 6, 2) := by decide +kernel
theorem dX7_reckon_54 : decode cX7_reckon 54 = .ok (.iadd, 1) := by decide +kernel
theorem dX7_reckon_55 : decode cX7_reckon 55 = .ok (.iaload, 1) := by decide +kernel
theorem dX7_reckon_56 : decode cX7_reckon 56 = .ok (.istore 7, 2) := by decide +kernel
theorem dX7_reckon_58 : decode cX7_reckon 58 = .ok (.iload 7, 2) := by decide +kernel
theorem dX7_reckon_60 : decode cX7_reckon 60 = .ok (.bipush 6, 2) := by decide +kernel
theorem dX7_reckon_62 : decode cX7_reckon 62 = .ok (.if_icmp .ne 113, 3) := by decide +kernel
theorem dX7_reckon_65 : decode cX7_reckon 65 = .ok (.iconst 0, 1) := by decide +kernel
theorem dX7_reckon_66 : decode cX7_reckon 66 = .ok (.istore 7, 2) := by decide +kernel
theorem dX7_reckon_68 : decode cX7_reckon 68 = .ok (.iconst 1, 1) := by decide +kernel
theorem dX7_reckon_69 : decode cX7_reckon 69 = .ok (.istore 8, 2) := by decide +kernel
theorem dX7_reckon_71 : decode cX7_reckon 71 = .ok (.iload 8, 2) := by decide +kernel
theorem dX7_reckon_73 : decode cX7_reckon 73 = .ok (.bipush 6, 2) := by decide +kernel
theorem dX7_reckon_75 : decode cX7_reckon 75 = .ok (.if_icmp .ge 100, 3) := by decide +kernel
theorem dX7_reckon_78 : decode cX7_reckon 78 = .ok (.aload_n 0, 1) := by decide +kernel
theorem dX7_reckon_79 : decode cX7_reckon 79 = .ok (.getfield 29, 3) := by decide +kernel
theorem dX7_reckon_82 : decode cX7_reckon 82 = .ok (.iload 4, 2) := by decide +kernel
theorem dX7_reckon_84 : decode cX7_reckon 84 = .ok (.iload 8, 2) := by decide +kernel
theorem dX7_reckon_86 : decode cX7_reckon 86 = .ok (.iadd, 1) := by decide +kernel
theorem dX7_reckon_87 : decode cX7_reckon 87 = .ok (.iaload, 1) := by decide +kernel
theorem dX7_reckon_88 : decode cX7_reckon 88 = .ok (.aload_n 0, 1) := by decide +kernel
theorem dX7_reckon_89 : decode cX7_reckon 89 = .ok (.getfield 29, 3) := by decide +kernel
theorem dX7_reckon_92 : decode cX7_reckon 92 = .ok (.iload 4, 2) := by decide +kernel
theorem dX7_reckon_94 : decode cX7_reckon 94 = .ok (.iload 7, 2) := by decide +kernel
theorem dX7_reckon_96 : decode cX7_reckon 96 = .ok (.iadd, 1) := by decide +kernel
theorem dX7_reckon_97 : decode cX7_reckon 97 = .ok (.iaload, 1) := by decide +kernel
theorem dX7_reckon_98 : decode cX7_reckon 98 = .ok (.isub, 1) := by decide +kernel
theorem dX7_reckon_99 : decode cX7_reckon 99 = .ok (.istore 9, 2) := by decide +kernel
theorem dX7_reckon_101 : decode cX7_reckon 101 = .ok (.iload 9, 2) := by decide +kernel
theorem dX7_reckon_103 : decode cX7_reckon 103 = .ok (.ifCond .ne 36, 3) := by decide +kernel
theorem dX7_reckon_106 : decode cX7_reckon 106 = .ok (.iload 8, 2) := by decide +kernel
theorem dX7_reckon_108 : decode cX7_reckon 108 = .ok (.iload 5, 2) := by decide +kernel
theorem dX7_reckon_110 : decode cX7_reckon 110 = .ok (.if_icmp .ne 7, 3) := by decide +kernel
theorem dX7_reckon_113 : decode cX7_reckon 113 = .ok (.iconst 1, 1) := by decide +kernel
theorem dX7_reckon_114 : decode cX7_reckon 114 = .ok (.goto 4, 3) := by decide +kernel
theorem dX7_reckon_117 : decode cX7_reckon 117 = .ok (.iconst 0, 1) := by decide +kernel
theorem dX7_reckon_118 : decode cX7_reckon 118 = .ok (.iload 7, 2) := by decide +kernel
theorem dX7_reckon_120 : decode cX7_reckon 120 = .ok (.iload 5, 2) := by decide +kernel
theorem dX7_reckon_122 : decode cX7_reckon 122 = .ok (.if_icmp .ne 12, 3) := by decide +kernel
theorem dX7_reckon_125 : decode cX7_reckon 125 = .ok (.iload 5, 2) := by decide +kernel
theorem dX7_reckon_127 : decode cX7_reckon 127 = .ok (.ifCond .le 7, 3) := by decide +kernel
theorem dX7_reckon_130 : decode cX7_reckon 130 = .ok (.iconst 1, 1) := by decide +kernel
theorem dX7_reckon_131 : decode cX7_reckon 131 = .ok (.goto 4, 3) := by decide +kernel
theorem dX7_reckon_134 : decode cX7_reckon 134 = .ok (.iconst 0, 1) := by decide +kernel
theorem dX7_reckon_135 : decode cX7_reckon 135 = .ok (.isub, 1) := by decide +kernel
theorem dX7_reckon_136 : decode cX7_reckon 136 = .ok (.goto 5, 3) := by decide +kernel
theorem dX7_reckon_139 : decode cX7_reckon 139 = .ok (.iload 9, 2) := by decide +kernel
theorem dX7_reckon_141 : decode cX7_reckon 141 = .ok (.istore 9, 2) := by decide +kernel
theorem dX7_reckon_143 : decode cX7_reckon 143 = .ok (.iload_n 3, 1) := by decide +kernel
theorem dX7_reckon_144 : decode cX7_reckon 144 = .ok (.ifCond .eq 11, 3) := by decide +kernel
theorem dX7_reckon_147 : decode cX7_reckon 147 = .ok (.iload 9, 2) := by decide +kernel
theorem dX7_reckon_149 : decode cX7_reckon 149 = .ok (.ifCond .le 16, 3) := by decide +kernel
theorem dX7_reckon_152 : decode cX7_reckon 152 = .ok (.goto 8, 3) := by decide +kernel
theorem dX7_reckon_155 : decode cX7_reckon 155 = .ok (.iload 9, 2) := by decide +kernel
theorem dX7_reckon_157 : decode cX7_reckon 157 = .ok (.ifCond .ge 8, 3) := by decide +kernel
theorem dX7_reckon_160 : decode cX7_reckon 160 = .ok (.iload 8, 2) := by decide +kernel
theorem dX7_reckon_162 : decode cX7_reckon 162 = .ok (.goto 5, 3) := by decide +kernel
theorem dX7_reckon_165 : decode cX7_reckon 165 = .ok (.iload 7, 2) := by decide +kernel
theorem dX7_reckon_167 : decode cX7_reckon 167 = .ok (.istore 7, 2) := by decide +kernel
theorem dX7_reckon_169 : decode cX7_reckon 169 = .ok (.iinc 8 1, 3) := by decide +kernel
theorem dX7_reckon_172 : decode cX7_reckon 172 = .ok (.goto (-101), 3) := by decide +kernel
theorem dX7_reckon_175 : decode cX7_reckon 175 = .ok (.aload_n 0, 1) := by decide +kernel
theorem dX7_reckon_176 : decode cX7_reckon 176 = .ok (.dup, 1) := by decide +kernel
theorem dX7_reckon_177 : decode cX7_reckon 177 = .ok (.getfield 144, 3) := by decide +kernel
theorem dX7_reckon_180 : decode cX7_reckon 180 = .ok (.aload_n 0, 1) := by decide +kernel
theorem dX7_reckon_181 : decode cX7_reckon 181 = .ok (.getfield 29, 3) := by decide +kernel
theorem dX7_reckon_184 : decode cX7_reckon 184 = .ok (.iload 4, 2) := by decide +kernel
theorem dX7_reckon_186 : decode cX7_reckon 186 = .ok (.iload 7, 2) := by decide +kernel
theorem dX7_reckon_188 : decode cX7_reckon 188 = .ok (.iadd, 1) := by decide +kernel
theorem dX7_reckon_189 : decode cX7_reckon 189 = .ok (.iaload, 1) := by decide +kernel
theorem dX7_reckon_190 : decode cX7_reckon 190 = .ok (.iadd, 1) := by decide +kernel
theorem dX7_reckon_191 : decode cX7_reckon 191 = .ok (.putfield 144, 3) := by decide +kernel
theorem dX7_reckon_194 : decode cX7_reckon 194 = .ok (.aload_n 0, 1) := by decide +kernel
theorem dX7_reckon_195 : decode cX7_reckon 195 = .ok (.dup, 1) := by decide +kernel
theorem dX7_reckon_196 : decode cX7_reckon 196 = .ok (.getfield 147, 3) := by decide +kernel
theorem dX7_reckon_199 : decode cX7_reckon 199 = .ok (.iload 5, 2) := by decide +kernel
theorem dX7_reckon_201 : decode cX7_reckon 201 = .ok (.ifCond .le 14, 3) := by decide +kernel
theorem dX7_reckon_204 : decode cX7_reckon 204 = .ok (.iload 7, 2) := by decide +kernel
theorem dX7_reckon_206 : decode cX7_reckon 206 = .ok (.iload 5, 2) := by decide +kernel
theorem dX7_reckon_208 : decode cX7_reckon 208 = .ok (.if_icmp .ne 7, 3) := by decide +kernel
theorem dX7_reckon_211 : decode cX7_reckon 211 = .ok (.iconst 1, 1) := by decide +kernel
theorem dX7_reckon_212 : decode cX7_reckon 212 = .ok (.goto 4, 3) := by decide +kernel
theorem dX7_reckon_215 : decode cX7_reckon 215 = .ok (.iconst 0, 1) := by decide +kernel
theorem dX7_reckon_216 : decode cX7_reckon 216 = .ok (.iadd, 1) := by decide +kernel
theorem dX7_reckon_217 : decode cX7_reckon 217 = .ok (.putfield 147, 3) := by decide +kernel
theorem dX7_reckon_220 : decode cX7_reckon 220 = .ok (.iinc 6 1, 3) := by decide +kernel
theorem dX7_reckon_223 : decode cX7_reckon 223 = .ok (.goto (-187), 3) := by decide +kernel
theorem dX7_reckon_226 : decode cX7_reckon 226 = .ok (.return_, 1) := by decide +kernel
theorem dX7_sheet_0 : decode cX7_sheet 0 = .ok (.aload_n 0, 1) := by decide +kernel
theorem dX7_sheet_1 : decode cX7_sheet 1 = .ok (.iload_n 1, 1) := by decide +kernel
theorem dX7_sheet_2 : decode cX7_sheet 2 = .ok (.invokevirtual 134, 3) := by decide +kernel
theorem dX7_sheet_5 : decode cX7_sheet 5 = .ok (.ifCond .eq 20, 3) := by decide +kernel
theorem dX7_sheet_8 : decode cX7_sheet 8 = .ok (.iload_n 2, 1) := by decide +kernel
theorem dX7_sheet_9 : decode cX7_sheet 9 = .ok (.invokestatic 137, 3) := by decide +kernel
theorem dX7_sheet_12 : decode cX7_sheet 12 = .ok (.ifCond .eq 13, 3) := by decide +kernel
theorem dX7_sheet_15 : decode cX7_sheet 15 = .ok (.iload_n 3, 1) := by decide +kernel
theorem dX7_sheet_16 : decode cX7_sheet 16 = .ok (.iconst 0, 1) := by decide +kernel
theorem dX7_sheet_17 : decode cX7_sheet 17 = .ok (.bipush 8, 2) := by decide +kernel
theorem dX7_sheet_19 : decode cX7_sheet 19 = .ok (.invokestatic 72, 3) := by decide +kernel
theorem dX7_sheet_22 : decode cX7_sheet 22 = .ok (.ifCond .ne 6, 3) := by decide +kernel
theorem dX7_sheet_25 : decode cX7_sheet 25 = .ok (.ldc 130, 2) := by decide +kernel
theorem dX7_sheet_27 : decode cX7_sheet 27 = .ok (.ireturn, 1) := by decide +kernel
theorem dX7_sheet_28 : decode cX7_sheet 28 = .ok (.iload_n 3, 1) := by decide +kernel
theorem dX7_sheet_29 : decode cX7_sheet 29 = .ok (.iconst 2, 1) := by decide +kernel
theorem dX7_sheet_30 : decode cX7_sheet 30 = .ok (.if_icmp .ge 24, 3) := by decide +kernel
theorem dX7_sheet_33 : decode cX7_sheet 33 = .ok (.aload_n 0, 1) := by decide +kernel
theorem dX7_sheet_34 : decode cX7_sheet 34 = .ok (.iload_n 1, 1) := by decide +kernel
theorem dX7_sheet_35 : decode cX7_sheet 35 = .ok (.iload_n 2, 1) := by decide +kernel
theorem dX7_sheet_36 : decode cX7_sheet 36 = .ok (.iload_n 3, 1) := by decide +kernel
theorem dX7_sheet_37 : decode cX7_sheet 37 = .ok (.iconst 1, 1) := by decide +kernel
theorem dX7_sheet_38 : decode cX7_sheet 38 = .ok (.if_icmp .ne 7, 3) := by decide +kernel
theorem dX7_sheet_41 : decode cX7_sheet 41 = .ok (.iconst 1, 1) := by decide +kernel
theorem dX7_sheet_42 : decode cX7_sheet 42 = .ok (.goto 4, 3) := by decide +kernel
theorem dX7_sheet_45 : decode cX7_sheet 45 = .ok (.iconst 0, 1) := by decide +kernel
theorem dX7_sheet_46 : decode cX7_sheet 46 = .ok (.invokevirtual 150, 3) := by decide +kernel
theorem dX7_sheet_49 : decode cX7_sheet 49 = .ok (.aload_n 0, 1) := by decide +kernel
theorem dX7_sheet_50 : decode cX7_sheet 50 = .ok (.getfield 144, 3) := by decide +kernel
theorem dX7_sheet_53 : decode cX7_sheet 53 = .ok (.ireturn, 1) := by decide +kernel
theorem dX7_sheet_54 : decode cX7_sheet 54 = .ok (.aload_n 0, 1) := by decide +kernel
theorem dX7_sheet_55 : decode cX7_sheet 55 = .ok (.iload_n 1, 1) := by decide +kernel
theorem dX7_sheet_56 : decode cX7_sheet 56 = .ok (.iload_n 2, 1) := by decide +kernel
theorem dX7_sheet_57 : decode cX7_sheet 57 = .ok (.iload_n 3, 1) := by decide +kernel
theorem dX7_sheet_58 : decode cX7_sheet 58 = .ok (.iconst 2, 1) := by decide +kernel
theorem dX7_sheet_59 : decode cX7_sheet 59 = .ok (.if_icmp .ne 8, 3) := by decide +kernel
theorem dX7_sheet_62 : decode cX7_sheet 62 = .ok (.bipush 6, 2) := by decide +kernel
theorem dX7_sheet_64 : decode cX7_sheet 64 = .ok (.goto 6, 3) := by decide +kernel
theorem dX7_sheet_67 : decode cX7_sheet 67 = .ok (.iload_n 3, 1) := by decide +kernel
theorem dX7_sheet_68 : decode cX7_sheet 68 = .ok (.iconst 3, 1) := by decide +kernel
theorem dX7_sheet_69 : decode cX7_sheet 69 = .ok (.isub, 1) := by decide +kernel
theorem dX7_sheet_70 : decode cX7_sheet 70 = .ok (.invokevirtual 154, 3) := by decide +kernel
theorem dX7_sheet_73 : decode cX7_sheet 73 = .ok (.ireturn, 1) := by decide +kernel
theorem dX7_isGreater_0 : decode cX7_isGreater 0 = .ok (.aload_n 0, 1) := by decide +kernel
theorem dX7_isGreater_1 : decode cX7_isGreater 1 = .ok (.iload_n 1, 1) := by decide +kernel
theorem dX7_isGreater_2 : decode cX7_isGreater 2 = .ok (.iload_n 2, 1) := by decide +kernel
theorem dX7_isGreater_3 : decode cX7_isGreater 3 = .ok (.iload_n 3, 1) := by decide +kernel
theorem dX7_isGreater_4 : decode cX7_isGreater 4 = .ok (.invokevirtual 150, 3) := by decide +kernel
theorem dX7_isGreater_7 : decode cX7_isGreater 7 = .ok (.aload_n 0, 1) := by decide +kernel
theorem dX7_isGreater_8 : decode cX7_isGreater 8 = .ok (.getfield 144, 3) := by decide +kernel
theorem dX7_isGreater_11 : decode cX7_isGreater 11 = .ok (.istore 4, 2) := by decide +kernel
theorem dX7_isGreater_13 : decode cX7_isGreater 13 = .ok (.aload_n 0, 1) := by decide +kernel
theorem dX7_isGreater_14 : decode cX7_isGreater 14 = .ok (.getfield 147, 3) := by decide +kernel
theorem dX7_isGreater_17 : decode cX7_isGreater 17 = .ok (.istore 5, 2) := by decide +kernel
theorem dX7_isGreater_19 : decode cX7_isGreater 19 = .ok (.aload_n 0, 1) := by decide +kernel
theorem dX7_isGreater_20 : decode cX7_isGreater 20 = .ok (.iload_n 1, 1) := by decide +kernel
theorem dX7_isGreater_21 : decode cX7_isGreater 21 = .ok (.iconst 1, 1) := by decide +kernel
theorem dX7_isGreater_22 : decode cX7_isGreater 22 = .ok (.iload_n 2, 1) := by decide +kernel
theorem dX7_isGreater_23 : decode cX7_isGreater 23 = .ok (.isub, 1) := by decide +kernel
theorem dX7_isGreater_24 : decode cX7_isGreater 24 = .ok (.iload_n 3, 1) := by decide +kernel
theorem dX7_isGreater_25 : decode cX7_isGreater 25 = .ok (.ifCond .ne 7, 3) := by decide +kernel
theorem dX7_isGreater_28 : decode cX7_isGreater 28 = .ok (.iconst 1, 1) := by decide +kernel
theorem dX7_isGreater_29 : decode cX7_isGreater 29 = .ok (.goto 4, 3) := by decide +kernel
theorem dX7_isGreater_32 : decode cX7_isGreater 32 = .ok (.iconst 0, 1) := by decide +kernel
theorem dX7_isGreater_33 : decode cX7_isGreater 33 = .ok (.invokevirtual 150, 3) := by decide +kernel
theorem dX7_isGreater_36 : decode cX7_isGreater 36 = .ok (.iload 4, 2) := by decide +kernel
theorem dX7_isGreater_38 : decode cX7_isGreater 38 = .ok (.aload_n 0, 1) := by decide +kernel
theorem dX7_isGreater_39 : decode cX7_isGreater 39 = .ok (.getfield 144, 3) := by decide +kernel
theorem dX7_isGreater_42 : decode cX7_isGreater 42 = .ok (.if_icmp .eq 20, 3) := by decide +kernel
theorem dX7_isGreater_45 : decode cX7_isGreater 45 = .ok (.iload 4, 2) := by decide +kernel
theorem dX7_isGreater_47 : decode cX7_isGreater 47 = .ok (.aload_n 0, 1) := by decide +kernel
theorem dX7_isGreater_48 : decode cX7_isGreater 48 = .ok (.getfield 144, 3) := by decide +kernel
theorem dX7_isGreater_51 : decode cX7_isGreater 51 = .ok (.if_icmp .le 7, 3) := by decide +kernel
theorem dX7_isGreater_54 : decode cX7_isGreater 54 = .ok (.iconst 1, 1) := by decide +kernel
theorem dX7_isGreater_55 : decode cX7_isGreater 55 = .ok (.goto 21, 3) := by decide +kernel
theorem dX7_isGreater_58 : decode cX7_isGreater 58 = .ok (.iconst 0, 1) := by decide +kernel
theorem dX7_isGreater_59 : decode cX7_isGreater 59 = .ok (.goto 17, 3) := by decide +kernel
theorem dX7_isGreater_62 : decode cX7_isGreater 62 = .ok (.iload 5, 2) := by decide +kernel
theorem dX7_isGreater_64 : decode cX7_isGreater 64 = .ok (.aload_n 0, 1) := by decide +kernel
theorem dX7_isGreater_65 : decode cX7_isGreater 65 = .ok (.getfield 147, 3) := by decide +kernel
theorem dX7_isGreater_68 : decode cX7_isGreater 68 = .ok (.if_icmp .le 7, 3) := by decide +kernel
theorem dX7_isGreater_71 : decode cX7_isGreater 71 = .ok (.iconst 1, 1) := by decide +kernel
theorem dX7_isGreater_72 : decode cX7_isGreater 72 = .ok (.goto 4, 3) := by decide +kernel
theorem dX7_isGreater_75 : decode cX7_isGreater 75 = .ok (.iconst 0, 1) := by decide +kernel
theorem dX7_isGreater_76 : decode cX7_isGreater 76 = .ok (.ireturn, 1) := by decide +kernel
theorem dX7_wins_0 : decode cX7_wins 0 = .ok (.aload_n 0, 1) := by decide +kernel
theorem dX7_wins_1 : decode cX7_wins 1 = .ok (.iload_n 1, 1) := by decide +kernel
theorem dX7_wins_2 : decode cX7_wins 2 = .ok (.invokevirtual 134, 3) := by decide +kernel
theorem dX7_wins_5 : decode cX7_wins 5 = .ok (.ifCond .eq 10, 3) := by decide +kernel
theorem dX7_wins_8 : decode cX7_wins 8 = .ok (.iload_n 2, 1) := by decide +kernel
theorem dX7_wins_9 : decode cX7_wins 9 = .ok (.invokestatic 137, 3) := by decide +kernel
theorem dX7_wins_12 : decode cX7_wins 12 = .ok (.ifCond .ne 5, 3) := by decide +kernel
theorem dX7_wins_15 : decode cX7_wins 15 = .ok (.iconst (-1), 1) := by decide +kernel
theorem dX7_wins_16 : decode cX7_wins 16 = .ok (.ireturn, 1) := by decide +kernel
theorem dX7_wins_17 : decode cX7_wins 17 = .ok (.aload_n 0, 1) := by decide +kernel
theorem dX7_wins_18 : decode cX7_wins 18 = .ok (.iload_n 1, 1) := by decide +kernel
theorem dX7_wins_19 : decode cX7_wins 19 = .ok (.iload_n 2, 1) := by decide +kernel
theorem dX7_wins_20 : decode cX7_wins 20 = .ok (.iconst 0, 1) := by decide +kernel
theorem dX7_wins_21 : decode cX7_wins 21 = .ok (.invokevirtual 158, 3) := by decide +kernel
theorem dX7_wins_24 : decode cX7_wins 24 = .ok (.ifCond .eq 7, 3) := by decide +kernel
theorem dX7_wins_27 : decode cX7_wins 27 = .ok (.iconst 2, 1) := by decide +kernel
theorem dX7_wins_28 : decode cX7_wins 28 = .ok (.goto 18, 3) := by decide +kernel
theorem dX7_wins_31 : decode cX7_wins 31 = .ok (.aload_n 0, 1) := by decide +kernel
theorem dX7_wins_32 : decode cX7_wins 32 = .ok (.iload_n 1, 1) := by decide +kernel
theorem dX7_wins_33 : decode cX7_wins 33 = .ok (.iload_n 2, 1) := by decide +kernel
theorem dX7_wins_34 : decode cX7_wins 34 = .ok (.iconst 1, 1) := by decide +kernel
theorem dX7_wins_35 : decode cX7_wins 35 = .ok (.invokevirtual 158, 3) := by decide +kernel
theorem dX7_wins_38 : decode cX7_wins 38 = .ok (.ifCond .eq 7, 3) := by decide +kernel
theorem dX7_wins_41 : decode cX7_wins 41 = .ok (.iconst 1, 1) := by decide +kernel
theorem dX7_wins_42 : decode cX7_wins 42 = .ok (.goto 4, 3) := by decide +kernel
theorem dX7_wins_45 : decode cX7_wins 45 = .ok (.iconst 0, 1) := by decide +kernel
theorem dX7_wins_46 : decode cX7_wins 46 = .ok (.ireturn, 1) := by decide +kernel
theorem dX7_wonBy_0 : decode cX7_wonBy 0 = .ok (.iconst 0, 1) := by decide +kernel
theorem dX7_wonBy_1 : decode cX7_wonBy 1 = .ok (.istore_n 2, 1) := by decide +kernel
theorem dX7_wonBy_2 : decode cX7_wonBy 2 = .ok (.iconst 0, 1) := by decide +kernel
theorem dX7_wonBy_3 : decode cX7_wonBy 3 = .ok (.istore_n 3, 1) := by decide +kernel
theorem dX7_wonBy_4 : decode cX7_wonBy 4 = .ok (.iload_n 3, 1) := by decide +kernel
theorem dX7_wonBy_5 : decode cX7_wonBy 5 = .ok (.iconst 2, 1) := by decide +kernel
theorem dX7_wonBy_6 : decode cX7_wonBy 6 = .ok (.aload_n 0, 1) := by decide +kernel
theorem dX7_wonBy_7 : decode cX7_wonBy 7 = .ok (.getfield 80, 3) := by decide +kernel
theorem dX7_wonBy_10 : decode cX7_wonBy 10 = .ok (.imul, 1) := by decide +kernel
theorem dX7_wonBy_11 : decode cX7_wonBy 11 = .ok (.if_icmp .ge 41, 3) := by decide +kernel
theorem dX7_wonBy_14 : decode cX7_wonBy 14 = .ok (.iload_n 2, 1) := by decide +kernel
theorem dX7_wonBy_15 : decode cX7_wonBy 15 = .ok (.aload_n 0, 1) := by decide +kernel
theorem dX7_wonBy_16 : decode cX7_wonBy 16 = .ok (.getfield 32, 3) := by decide +kernel
theorem dX7_wonBy_19 : decode cX7_wonBy 19 = .ok (.iload_n 3, 1) := by decide +kernel
theorem dX7_wonBy_20 : decode cX7_wonBy 20 = .ok (.iaload, 1) := by decide +kernel
theorem dX7_wonBy_21 : decode cX7_wonBy 21 = .ok (.iload_n 1, 1) := by decide +kernel
theorem dX7_wonBy_22 : decode cX7_wonBy 22 = .ok (.if_icmp .ne 21, 3) := by decide +kernel
theorem dX7_wonBy_25 : decode cX7_wonBy 25 = .ok (.aload_n 0, 1) := by decide +kernel
theorem dX7_wonBy_26 : decode cX7_wonBy 26 = .ok (.iload_n 3, 1) := by decide +kernel
theorem dX7_wonBy_27 : decode cX7_wonBy 27 = .ok (.iconst 2, 1) := by decide +kernel
theorem dX7_wonBy_28 : decode cX7_wonBy 28 = .ok (.idiv, 1) := by decide +kernel
theorem dX7_wonBy_29 : decode cX7_wonBy 29 = .ok (.iload_n 3, 1) := by decide +kernel
theorem dX7_wonBy_30 : decode cX7_wonBy 30 = .ok (.iconst 2, 1) := by decide +kernel
theorem dX7_wonBy_31 : decode cX7_wonBy 31 = .ok (.irem, 1) := by decide +kernel
theorem dX7_wonBy_32 : decode cX7_wonBy 32 = .ok (.iconst 0, 1) := by decide +kernel
theorem dX7_wonBy_33 : decode cX7_wonBy 33 = .ok (.invokevirtual 158, 3) := by decide +kernel
theorem dX7_wonBy_36 : decode cX7_wonBy 36 = .ok (.ifCond .eq 7, 3) := by decide +kernel
theorem dX7_wonBy_39 : decode cX7_wonBy 39 = .ok (.iconst 1, 1) := by decide +kernel
theorem dX7_wonBy_40 : decode cX7_wonBy 40 = .ok (.goto 4, 3) := by decide +kernel
theorem dX7_wonBy_43 : decode cX7_wonBy 43 = .ok (.iconst 0, 1) := by decide +kernel
theorem dX7_wonBy_44 : decode cX7_wonBy 44 = .ok (.iadd, 1) := by decide +kernel
theorem dX7_wonBy_45 : decode cX7_wonBy 45 = .ok (.istore_n 2, 1) := by decide +kernel
theorem dX7_wonBy_46 : decode cX7_wonBy 46 = .ok (.iinc 3 1, 3) := by decide +kernel
theorem dX7_wonBy_49 : decode cX7_wonBy 49 = .ok (.goto (-45), 3) := by decide +kernel
theorem dX7_wonBy_52 : decode cX7_wonBy 52 = .ok (.iload_n 2, 1) := by decide +kernel
theorem dX7_wonBy_53 : decode cX7_wonBy 53 = .ok (.ireturn, 1) := by decide +kernel
theorem dX7_joustsOf_0 : decode cX7_joustsOf 0 = .ok (.iconst 0, 1) := by decide +kernel
theorem dX7_joustsOf_1 : decode cX7_joustsOf 1 = .ok (.istore_n 2, 1) := by decide +kernel
theorem dX7_joustsOf_2 : decode cX7_joustsOf 2 = .ok (.iconst 0, 1) := by decide +kernel
theorem dX7_joustsOf_3 : decode cX7_joustsOf 3 = .ok (.istore_n 3, 1) := by decide +kernel
theorem dX7_joustsOf_4 : decode cX7_joustsOf 4 = .ok (.iload_n 3, 1) := by decide +kernel
theorem dX7_joustsOf_5 : decode cX7_joustsOf 5 = .ok (.iconst 2, 1) := by decide +kernel
theorem dX7_joustsOf_6 : decode cX7_joustsOf 6 = .ok (.aload_n 0, 1) := by decide +kernel
theorem dX7_joustsOf_7 : decode cX7_joustsOf 7 = .ok (.getfield 80, 3) := by decide +kernel
theorem dX7_joustsOf_10 : decode cX7_joustsOf 10 = .ok (.imul, 1) := by decide +kernel
theorem dX7_joustsOf_11 : decode cX7_joustsOf 11 = .ok (.if_icmp .ge 27, 3) := by decide +kernel
theorem dX7_joustsOf_14 : decode cX7_joustsOf 14 = .ok (.iload_n 2, 1) := by decide +kernel
theorem dX7_joustsOf_15 : decode cX7_joustsOf 15 = .ok (.aload_n 0, 1) := by decide +kernel
theorem dX7_joustsOf_16 : decode cX7_joustsOf 16 = .ok (.getfield 32, 3) := by decide +kernel
theorem dX7_joustsOf_19 : decode cX7_joustsOf 19 = .ok (.iload_n 3, 1) := by decide +kernel
theorem dX7_joustsOf_20 : decode cX7_joustsOf 20 = .ok (.iaload, 1) := by decide +kernel
theorem dX7_joustsOf_21 : decode cX7_joustsOf 21 = .ok (.iload_n 1, 1) := by decide +kernel
theorem dX7_joustsOf_22 : decode cX7_joustsOf 22 = .ok (.if_icmp .ne 7, 3) := by decide +kernel
theorem dX7_joustsOf_25 : decode cX7_joustsOf 25 = .ok (.iconst 1, 1) := by decide +kernel
theorem dX7_joustsOf_26 : decode cX7_joustsOf 26 = .ok (.goto 4, 3) := by decide +kernel
theorem dX7_joustsOf_29 : decode cX7_joustsOf 29 = .ok (.iconst 0, 1) := by decide +kernel
theorem dX7_joustsOf_30 : decode cX7_joustsOf 30 = .ok (.iadd, 1) := by decide +kernel
theorem dX7_joustsOf_31 : decode cX7_joustsOf 31 = .ok (.istore_n 2, 1) := by decide +kernel
theorem dX7_joustsOf_32 : decode cX7_joustsOf 32 = .ok (.iinc 3 1, 3) := by decide +kernel
theorem dX7_joustsOf_35 : decode cX7_joustsOf 35 = .ok (.goto (-31), 3) := by decide +kernel
theorem dX7_joustsOf_38 : decode cX7_joustsOf 38 = .ok (.iload_n 2, 1) := by decide +kernel
theorem dX7_joustsOf_39 : decode cX7_joustsOf 39 = .ok (.ireturn, 1) := by decide +kernel
theorem dX7_won_0 : decode cX7_won 0 = .ok (.aload_n 0, 1) := by decide +kernel
theorem dX7_won_1 : decode cX7_won 1 = .ok (.iload_n 1, 1) := by decide +kernel
theorem dX7_won_2 : decode cX7_won 2 = .ok (.invokevirtual 76, 3) := by decide +kernel
theorem dX7_won_5 : decode cX7_won 5 = .ok (.ifCond .eq 11, 3) := by decide +kernel
theorem dX7_won_8 : decode cX7_won 8 = .ok (.aload_n 0, 1) := by decide +kernel
theorem dX7_won_9 : decode cX7_won 9 = .ok (.iload_n 1, 1) := by decide +kernel
theorem dX7_won_10 : decode cX7_won 10 = .ok (.invokevirtual 162, 3) := by decide +kernel
theorem dX7_won_13 : decode cX7_won 13 = .ok (.goto 4, 3) := by decide +kernel
theorem dX7_won_16 : decode cX7_won 16 = .ok (.iconst (-1), 1) := by decide +kernel
theorem dX7_won_17 : decode cX7_won 17 = .ok (.ireturn, 1) := by decide +kernel
theorem dX7_best_0 : decode cX7_best 0 = .ok (.bipush (-4), 2) := by decide +kernel
theorem dX7_best_2 : decode cX7_best 2 = .ok (.istore_n 1, 1) := by decide +kernel
theorem dX7_best_3 : decode cX7_best 3 = .ok (.iconst 0, 1) := by decide +kernel
theorem dX7_best_4 : decode cX7_best 4 = .ok (.istore_n 2, 1) := by decide +kernel
theorem dX7_best_5 : decode cX7_best 5 = .ok (.iload_n 2, 1) := by decide +kernel
theorem dX7_best_6 : decode cX7_best 6 = .ok (.aload_n 0, 1) := by decide +kernel
theorem dX7_best_7 : decode cX7_best 7 = .ok (.getfield 69, 3) := by decide +kernel
theorem dX7_best_10 : decode cX7_best 10 = .ok (.if_icmp .ge 68, 3) := by decide +kernel
theorem dX7_best_13 : decode cX7_best 13 = .ok (.iload_n 1, 1) := by decide +kernel
theorem dX7_best_14 : decode cX7_best 14 = .ok (.ifCond .lt 42, 3) := by decide +kernel
theorem dX7_best_17 : decode cX7_best 17 = .ok (.aload_n 0, 1) := by decide +kernel
theorem dX7_best_18 : decode cX7_best 18 = .ok (.iload_n 2, 1) := by decide +kernel
theorem dX7_best_19 : decode cX7_best 19 = .ok (.invokevirtual 162, 3) := by decide +kernel
theorem dX7_best_22 : decode cX7_best 22 = .ok (.aload_n 0, 1) := by decide +kernel
theorem dX7_best_23 : decode cX7_best 23 = .ok (.iload_n 1, 1) := by decide +kernel
theorem dX7_best_24 : decode cX7_best 24 = .ok (.invokevirtual 162, 3) := by decide +kernel
theorem dX7_best_27 : decode cX7_best 27 = .ok (.if_icmp .gt 29, 3) := by decide +kernel
theorem dX7_best_30 : decode cX7_best 30 = .ok (.aload_n 0, 1) := by decide +kernel
theorem dX7_best_31 : decode cX7_best 31 = .ok (.iload_n 2, 1) := by decide +kernel
theorem dX7_best_32 : decode cX7_best 32 = .ok (.invokevirtual 162, 3) := by decide +kernel
theorem dX7_best_35 : decode cX7_best 35 = .ok (.aload_n 0, 1) := by decide +kernel
theorem dX7_best_36 : decode cX7_best 36 = .ok (.iload_n 1, 1) := by decide +kernel
theorem dX7_best_37 : decode cX7_best 37 = .ok (.invokevirtual 162, 3) := by decide +kernel
theorem dX7_best_40 : decode cX7_best 40 = .ok (.if_icmp .ne 20, 3) := by decide +kernel
theorem dX7_best_43 : decode cX7_best 43 = .ok (.aload_n 0, 1) := by decide +kernel
theorem dX7_best_44 : decode cX7_best 44 = .ok (.iload_n 2, 1) := by decide +kernel
theorem dX7_best_45 : decode cX7_best 45 = .ok (.invokevirtual 165, 3) := by decide +kernel
theorem dX7_best_48 : decode cX7_best 48 = .ok (.aload_n 0, 1) := by decide +kernel
theorem dX7_best_49 : decode cX7_best 49 = .ok (.iload_n 1, 1) := by decide +kernel
theorem dX7_best_50 : decode cX7_best 50 = .ok (.invokevirtual 165, 3) := by decide +kernel
theorem dX7_best_53 : decode cX7_best 53 = .ok (.if_icmp .ge 7, 3) := by decide +kernel
theorem dX7_best_56 : decode cX7_best 56 = .ok (.iconst 1, 1) := by decide +kernel
theorem dX7_best_57 : decode cX7_best 57 = .ok (.goto 4, 3) := by decide +kernel
theorem dX7_best_60 : decode cX7_best 60 = .ok (.iconst 0, 1) := by decide +kernel
theorem dX7_best_61 : decode cX7_best 61 = .ok (.istore_n 3, 1) := by decide +kernel
theorem dX7_best_62 : decode cX7_best 62 = .ok (.iload_n 3, 1) := by decide +kernel
theorem dX7_best_63 : decode cX7_best 63 = .ok (.ifCond .eq 7, 3) := by decide +kernel
theorem dX7_best_66 : decode cX7_best 66 = .ok (.iload_n 2, 1) := by decide +kernel
theorem dX7_best_67 : decode cX7_best 67 = .ok (.goto 4, 3) := by decide +kernel
theorem dX7_best_70 : decode cX7_best 70 = .ok (.iload_n 1, 1) := by decide +kernel
theorem dX7_best_71 : decode cX7_best 71 = .ok (.istore_n 1, 1) := by decide +kernel
theorem dX7_best_72 : decode cX7_best 72 = .ok (.iinc 2 1, 3) := by decide +kernel
theorem dX7_best_75 : decode cX7_best 75 = .ok (.goto (-70), 3) := by decide +kernel
theorem dX7_best_78 : decode cX7_best 78 = .ok (.iload_n 1, 1) := by decide +kernel
theorem dX7_best_79 : decode cX7_best 79 = .ok (.ireturn, 1) := by decide +kernel
theorem dX7_owedOf_0 : decode cX7_owedOf 0 = .ok (.aload_n 0, 1) := by decide +kernel
theorem dX7_owedOf_1 : decode cX7_owedOf 1 = .ok (.iload_n 1, 1) := by decide +kernel
theorem dX7_owedOf_2 : decode cX7_owedOf 2 = .ok (.iconst 1, 1) := by decide +kernel
theorem dX7_owedOf_3 : decode cX7_owedOf 3 = .ok (.iload_n 2, 1) := by decide +kernel
theorem dX7_owedOf_4 : decode cX7_owedOf 4 = .ok (.isub, 1) := by decide +kernel
theorem dX7_owedOf_5 : decode cX7_owedOf 5 = .ok (.iconst 4, 1) := by decide +kernel
theorem dX7_owedOf_6 : decode cX7_owedOf 6 = .ok (.invokevirtual 154, 3) := by decide +kernel
theorem dX7_owedOf_9 : decode cX7_owedOf 9 = .ok (.ifCond .le 7, 3) := by decide +kernel
theorem dX7_owedOf_12 : decode cX7_owedOf 12 = .ok (.iconst 1, 1) := by decide +kernel
theorem dX7_owedOf_13 : decode cX7_owedOf 13 = .ok (.goto 4, 3) := by decide +kernel
theorem dX7_owedOf_16 : decode cX7_owedOf 16 = .ok (.iconst 0, 1) := by decide +kernel
theorem dX7_owedOf_17 : decode cX7_owedOf 17 = .ok (.istore_n 3, 1) := by decide +kernel
theorem dX7_owedOf_18 : decode cX7_owedOf 18 = .ok (.iload_n 3, 1) := by decide +kernel
theorem dX7_owedOf_19 : decode cX7_owedOf 19 = .ok (.ifCond .eq 27, 3) := by decide +kernel
theorem dX7_owedOf_22 : decode cX7_owedOf 22 = .ok (.bipush 10, 2) := by decide +kernel
theorem dX7_owedOf_24 : decode cX7_owedOf 24 = .ok (.bipush 10, 2) := by decide +kernel
theorem dX7_owedOf_26 : decode cX7_owedOf 26 = .ok (.aload_n 0, 1) := by decide +kernel
theorem dX7_owedOf_27 : decode cX7_owedOf 27 = .ok (.getfield 7, 3) := by decide +kernel
theorem dX7_owedOf_30 : decode cX7_owedOf 30 = .ok (.aload_n 0, 1) := by decide +kernel
theorem dX7_owedOf_31 : decode cX7_owedOf 31 = .ok (.getfield 32, 3) := by decide +kernel
theorem dX7_owedOf_34 : decode cX7_owedOf 34 = .ok (.iconst 2, 1) := by decide +kernel
theorem dX7_owedOf_35 : decode cX7_owedOf 35 = .ok (.iload_n 1, 1) := by decide +kernel
theorem dX7_owedOf_36 : decode cX7_owedOf 36 = .ok (.imul, 1) := by decide +kernel
theorem dX7_owedOf_37 : decode cX7_owedOf 37 = .ok (.iload_n 2, 1) := by decide +kernel
theorem dX7_owedOf_38 : decode cX7_owedOf 38 = .ok (.iadd, 1) := by decide +kernel
theorem dX7_owedOf_39 : decode cX7_owedOf 39 = .ok (.iaload, 1) := by decide +kernel
theorem dX7_owedOf_40 : decode cX7_owedOf 40 = .ok (.iaload, 1) := by decide +kernel
theorem dX7_owedOf_41 : decode cX7_owedOf 41 = .ok (.imul, 1) := by decide +kernel
theorem dX7_owedOf_42 : decode cX7_owedOf 42 = .ok (.iadd, 1) := by decide +kernel
theorem dX7_owedOf_43 : decode cX7_owedOf 43 = .ok (.goto 4, 3) := by decide +kernel
theorem dX7_owedOf_46 : decode cX7_owedOf 46 = .ok (.iconst 0, 1) := by decide +kernel
theorem dX7_owedOf_47 : decode cX7_owedOf 47 = .ok (.istore 4, 2) := by decide +kernel
theorem dX7_owedOf_49 : decode cX7_owedOf 49 = .ok (.iload 4, 2) := by decide +kernel
theorem dX7_owedOf_51 : decode cX7_owedOf 51 = .ok (.aload_n 0, 1) := by decide +kernel
theorem dX7_owedOf_52 : decode cX7_owedOf 52 = .ok (.getfield 41, 3) := by decide +kernel
theorem dX7_owedOf_55 : decode cX7_owedOf 55 = .ok (.iconst 2, 1) := by decide +kernel
theorem dX7_owedOf_56 : decode cX7_owedOf 56 = .ok (.iload_n 1, 1) := by decide +kernel
theorem dX7_owedOf_57 : decode cX7_owedOf 57 = .ok (.imul, 1) := by decide +kernel
theorem dX7_owedOf_58 : decode cX7_owedOf 58 = .ok (.iload_n 2, 1) := by decide +kernel
theorem dX7_owedOf_59 : decode cX7_owedOf 59 = .ok (.iadd, 1) := by decide +kernel
theorem dX7_owedOf_60 : decode cX7_owedOf 60 = .ok (.iaload, 1) := by decide +kernel
theorem dX7_owedOf_61 : decode cX7_owedOf 61 = .ok (.isub, 1) := by decide +kernel
theorem dX7_owedOf_62 : decode cX7_owedOf 62 = .ok (.istore 5, 2) := by decide +kernel
theorem dX7_owedOf_64 : decode cX7_owedOf 64 = .ok (.iload 5, 2) := by decide +kernel
theorem dX7_owedOf_66 : decode cX7_owedOf 66 = .ok (.ifCond .ge 7, 3) := by decide +kernel
theorem dX7_owedOf_69 : decode cX7_owedOf 69 = .ok (.iconst 0, 1) := by decide +kernel
theorem dX7_owedOf_70 : decode cX7_owedOf 70 = .ok (.goto 5, 3) := by decide +kernel
theorem dX7_owedOf_73 : decode cX7_owedOf 73 = .ok (.iload 5, 2) := by decide +kernel
theorem dX7_owedOf_75 : decode cX7_owedOf 75 = .ok (.ireturn, 1) := by decide +kernel
theorem dX7_owes_0 : decode cX7_owes 0 = .ok (.aload_n 0, 1) := by decide +kernel
theorem dX7_owes_1 : decode cX7_owes 1 = .ok (.iload_n 1, 1) := by decide +kernel
theorem dX7_owes_2 : decode cX7_owes 2 = .ok (.invokevirtual 76, 3) := by decide +kernel
theorem dX7_owes_5 : decode cX7_owes 5 = .ok (.ifCond .ne 5, 3) := by decide +kernel
theorem dX7_owes_8 : decode cX7_owes 8 = .ok (.iconst (-1), 1) := by decide +kernel
theorem dX7_owes_9 : decode cX7_owes 9 = .ok (.ireturn, 1) := by decide +kernel
theorem dX7_owes_10 : decode cX7_owes 10 = .ok (.iconst 0, 1) := by decide +kernel
theorem dX7_owes_11 : decode cX7_owes 11 = .ok (.istore_n 2, 1) := by decide +kernel
theorem dX7_owes_12 : decode cX7_owes 12 = .ok (.iconst 0, 1) := by decide +kernel
theorem dX7_owes_13 : decode cX7_owes 13 = .ok (.istore_n 3, 1) := by decide +kernel
theorem dX7_owes_14 : decode cX7_owes 14 = .ok (.iload_n 3, 1) := by decide +kernel
theorem dX7_owes_15 : decode cX7_owes 15 = .ok (.iconst 2, 1) := by decide +kernel
theorem dX7_owes_16 : decode cX7_owes 16 = .ok (.aload_n 0, 1) := by decide +kernel
theorem dX7_owes_17 : decode cX7_owes 17 = .ok (.getfield 80, 3) := by decide +kernel
theorem dX7_owes_20 : decode cX7_owes 20 = .ok (.imul, 1) := by decide +kernel
theorem dX7_owes_21 : decode cX7_owes 21 = .ok (.if_icmp .ge 36, 3) := by decide +kernel
theorem dX7_owes_24 : decode cX7_owes 24 = .ok (.iload_n 2, 1) := by decide +kernel
theorem dX7_owes_25 : decode cX7_owes 25 = .ok (.aload_n 0, 1) := by decide +kernel
theorem dX7_owes_26 : decode cX7_owes 26 = .ok (.getfield 32, 3) := by decide +kernel
theorem dX7_owes_29 : decode cX7_owes 29 = .ok (.iload_n 3, 1) := by decide +kernel
theorem dX7_owes_30 : decode cX7_owes 30 = .ok (.iaload, 1) := by decide +kernel
theorem dX7_owes_31 : decode cX7_owes 31 = .ok (.iload_n 1, 1) := by decide +kernel
theorem dX7_owes_32 : decode cX7_owes 32 = .ok (.if_icmp .ne 16, 3) := by decide +kernel
theorem dX7_owes_35 : decode cX7_owes 35 = .ok (.aload_n 0, 1) := by decide +kernel
theorem dX7_owes_36 : decode cX7_owes 36 = .ok (.iload_n 3, 1) := by decide +kernel
theorem dX7_owes_37 : decode cX7_owes 37 = .ok (.iconst 2, 1) := by decide +kernel
theorem dX7_owes_38 : decode cX7_owes 38 = .ok (.idiv, 1) := by decide +kernel
theorem dX7_owes_39 : decode cX7_owes 39 = .ok (.iload_n 3, 1) := by decide +kernel
theorem dX7_owes_40 : decode cX7_owes 40 = .ok (.iconst 2, 1) := by decide +kernel
theorem dX7_owes_41 : decode cX7_owes 41 = .ok (.irem, 1) := by decide +kernel
theorem dX7_owes_42 : decode cX7_owes 42 = .ok (.invokevirtual 168, 3) := by decide +kernel
theorem dX7_owes_45 : decode cX7_owes 45 = .ok (.goto 4, 3) := by decide +kernel
theorem dX7_owes_48 : decode cX7_owes 48 = .ok (.iconst 0, 1) := by decide +kernel
theorem dX7_owes_49 : decode cX7_owes 49 = .ok (.iadd, 1) := by decide +kernel
theorem dX7_owes_50 : decode cX7_owes 50 = .ok (.istore_n 2, 1) := by decide +kernel
theorem dX7_owes_51 : decode cX7_owes 51 = .ok (.iinc 3 1, 3) := by decide +kernel
theorem dX7_owes_54 : decode cX7_owes 54 = .ok (.goto (-40), 3) := by decide +kernel
theorem dX7_owes_57 : decode cX7_owes 57 = .ok (.iload_n 2, 1) := by decide +kernel
theorem dX7_owes_58 : decode cX7_owes 58 = .ok (.ireturn, 1) := by decide +kernel
theorem dX7_pay_0 : decode cX7_pay 0 = .ok (.aload_n 0, 1) := by decide +kernel
theorem dX7_pay_1 : decode cX7_pay 1 = .ok (.iload_n 1, 1) := by decide +kernel
theorem dX7_pay_2 : decode cX7_pay 2 = .ok (.invokevirtual 134, 3) := by decide +kernel
theorem dX7_pay_5 : decode cX7_pay 5 = .ok (.ifCond .eq 20, 3) := by decide +kernel
theorem dX7_pay_8 : decode cX7_pay 8 = .ok (.iload_n 2, 1) := by decide +kernel
theorem dX7_pay_9 : decode cX7_pay 9 = .ok (.invokestatic 137, 3) := by decide +kernel
theorem dX7_pay_12 : decode cX7_pay 12 = .ok (.ifCond .eq 13, 3) := by decide +kernel
theorem dX7_pay_15 : decode cX7_pay 15 = .ok (.iload_n 3, 1) := by decide +kernel
theorem dX7_pay_16 : decode cX7_pay 16 = .ok (.iconst 1, 1) := by decide +kernel
theorem dX7_pay_17 : decode cX7_pay 17 = .ok (.bipush 100, 2) := by decide +kernel
theorem dX7_pay_19 : decode cX7_pay 19 = .ok (.invokestatic 72, 3) := by decide +kernel
theorem dX7_pay_22 : decode cX7_pay 22 = .ok (.ifCond .ne 5, 3) := by decide +kernel
theorem dX7_pay_25 : decode cX7_pay 25 = .ok (.iconst (-1), 1) := by decide +kernel
theorem dX7_pay_26 : decode cX7_pay 26 = .ok (.ireturn, 1) := by decide +kernel
theorem dX7_pay_27 : decode cX7_pay 27 = .ok (.aload_n 0, 1) := by decide +kernel
theorem dX7_pay_28 : decode cX7_pay 28 = .ok (.iload_n 1, 1) := by decide +kernel
theorem dX7_pay_29 : decode cX7_pay 29 = .ok (.iload_n 2, 1) := by decide +kernel
theorem dX7_pay_30 : decode cX7_pay 30 = .ok (.invokevirtual 168, 3) := by decide +kernel
theorem dX7_pay_33 : decode cX7_pay 33 = .ok (.iload_n 3, 1) := by decide +kernel
theorem dX7_pay_34 : decode cX7_pay 34 = .ok (.if_icmp .ge 6, 3) := by decide +kernel
theorem dX7_pay_37 : decode cX7_pay 37 = .ok (.bipush (-4), 2) := by decide +kernel
theorem dX7_pay_39 : decode cX7_pay 39 = .ok (.ireturn, 1) := by decide +kernel
theorem dX7_pay_40 : decode cX7_pay 40 = .ok (.aload_n 0, 1) := by decide +kernel
theorem dX7_pay_41 : decode cX7_pay 41 = .ok (.getfield 41, 3) := by decide +kernel
theorem dX7_pay_44 : decode cX7_pay 44 = .ok (.iconst 2, 1) := by decide +kernel
theorem dX7_pay_45 : decode cX7_pay 45 = .ok (.iload_n 1, 1) := by decide +kernel
theorem dX7_pay_46 : decode cX7_pay 46 = .ok (.imul, 1) := by decide +kernel
theorem dX7_pay_47 : decode cX7_pay 47 = .ok (.iload_n 2, 1) := by decide +kernel
theorem dX7_pay_48 : decode cX7_pay 48 = .ok (.iadd, 1) := by decide +kernel
theorem dX7_pay_49 : decode cX7_pay 49 = .ok (.dup2, 1) := by decide +kernel
theorem dX7_pay_50 : decode cX7_pay 50 = .ok (.iaload, 1) := by decide +kernel
theorem dX7_pay_51 : decode cX7_pay 51 = .ok (.iload_n 3, 1) := by decide +kernel
theorem dX7_pay_52 : decode cX7_pay 52 = .ok (.iadd, 1) := by decide +kernel
theorem dX7_pay_53 : decode cX7_pay 53 = .ok (.iastore, 1) := by decide +kernel
theorem dX7_pay_54 : decode cX7_pay 54 = .ok (.aload_n 0, 1) := by decide +kernel
theorem dX7_pay_55 : decode cX7_pay 55 = .ok (.iload_n 1, 1) := by decide +kernel
theorem dX7_pay_56 : decode cX7_pay 56 = .ok (.iload_n 2, 1) := by decide +kernel
theorem dX7_pay_57 : decode cX7_pay 57 = .ok (.invokevirtual 168, 3) := by decide +kernel
theorem dX7_pay_60 : decode cX7_pay 60 = .ok (.ireturn, 1) := by decide +kernel
theorem dX7_purse_0 : decode cX7_purse 0 = .ok (.aload_n 0, 1) := by decide +kernel
theorem dX7_purse_1 : decode cX7_purse 1 = .ok (.iload_n 1, 1) := by decide +kernel
theorem dX7_purse_2 : decode cX7_purse 2 = .ok (.invokevirtual 76, 3) := by decide +kernel
theorem dX7_purse_5 : decode cX7_purse 5 = .ok (.ifCond .ne 6, 3) := by decide +kernel
theorem dX7_purse_8 : decode cX7_purse 8 = .ok (.ldc 130, 2) := by decide +kernel
theorem dX7_purse_10 : decode cX7_purse 10 = .ok (.ireturn, 1) := by decide +kernel
theorem dX7_purse_11 : decode cX7_purse 11 = .ok (.iconst 0, 1) := by decide +kernel
theorem dX7_purse_12 : decode cX7_purse 12 = .ok (.istore_n 2, 1) := by decide +kernel
theorem dX7_purse_13 : decode cX7_purse 13 = .ok (.iconst 0, 1) := by decide +kernel
theorem dX7_purse_14 : decode cX7_purse 14 = .ok (.istore_n 3, 1) := by decide +kernel
theorem dX7_purse_15 : decode cX7_purse 15 = .ok (.iload_n 3, 1) := by decide +kernel
theorem dX7_purse_16 : decode cX7_purse 16 = .ok (.iconst 2, 1) := by decide +kernel
theorem dX7_purse_17 : decode cX7_purse 17 = .ok (.aload_n 0, 1) := by decide +kernel
theorem dX7_purse_18 : decode cX7_purse 18 = .ok (.getfield 80, 3) := by decide +kernel
theorem dX7_purse_21 : decode cX7_purse 21 = .ok (.imul, 1) := by decide +kernel
theorem dX7_purse_22 : decode cX7_purse 22 = .ok (.if_icmp .ge 53, 3) := by decide +kernel
theorem dX7_purse_25 : decode cX7_purse 25 = .ok (.iload_n 2, 1) := by decide +kernel
theorem dX7_purse_26 : decode cX7_purse 26 = .ok (.aload_n 0, 1) := by decide +kernel
theorem dX7_purse_27 : decode cX7_purse 27 = .ok (.getfield 32, 3) := by decide +kernel
theorem dX7_purse_30 : decode cX7_purse 30 = .ok (.iload_n 3, 1) := by decide +kernel
theorem dX7_purse_31 : decode cX7_purse 31 = .ok (.iaload, 1) := by decide +kernel
theorem dX7_purse_32 : decode cX7_purse 32 = .ok (.iload_n 1, 1) := by decide +kernel
theorem dX7_purse_33 : decode cX7_purse 33 = .ok (.if_icmp .ne 33, 3) := by decide +kernel
theorem dX7_purse_36 : decode cX7_purse 36 = .ok (.aload_n 0, 1) := by decide +kernel
theorem dX7_purse_37 : decode cX7_purse 37 = .ok (.getfield 41, 3) := by decide +kernel
theorem dX7_purse_40 : decode cX7_purse 40 = .ok (.iload_n 3, 1) := by decide +kernel
theorem dX7_purse_41 : decode cX7_purse 41 = .ok (.iconst 2, 1) := by decide +kernel
theorem dX7_purse_42 : decode cX7_purse 42 = .ok (.irem, 1) := by decide +kernel
theorem dX7_purse_43 : decode cX7_purse 43 = .ok (.ifCond .ne 9, 3) := by decide +kernel
theorem dX7_purse_46 : decode cX7_purse 46 = .ok (.iload_n 3, 1) := by decide +kernel
theorem dX7_purse_47 : decode cX7_purse 47 = .ok (.iconst 1, 1) := by decide +kernel
theorem dX7_purse_48 : decode cX7_purse 48 = .ok (.iadd, 1) := by decide +kernel
theorem dX7_purse_49 : decode cX7_purse 49 = .ok (.goto 6, 3) := by decide +kernel
theorem dX7_purse_52 : decode cX7_purse 52 = .ok (.iload_n 3, 1) := by decide +kernel
theorem dX7_purse_53 : decode cX7_purse 53 = .ok (.iconst 1, 1) := by decide +kernel
theorem dX7_purse_54 : decode cX7_purse 54 = .ok (.isub, 1) := by decide +kernel
theorem dX7_purse_55 : decode cX7_purse 55 = .ok (.iaload, 1) := by decide +kernel
theorem dX7_purse_56 : decode cX7_purse 56 = .ok (.aload_n 0, 1) := by decide +kernel
theorem dX7_purse_57 : decode cX7_purse 57 = .ok (.getfield 41, 3) := by decide +kernel
theorem dX7_purse_60 : decode cX7_purse 60 = .ok (.iload_n 3, 1) := by decide +kernel
theorem dX7_purse_61 : decode cX7_purse 61 = .ok (.iaload, 1) := by decide +kernel
theorem dX7_purse_62 : decode cX7_purse 62 = .ok (.isub, 1) := by decide +kernel
theorem dX7_purse_63 : decode cX7_purse 63 = .ok (.goto 4, 3) := by decide +kernel
theorem dX7_purse_66 : decode cX7_purse 66 = .ok (.iconst 0, 1) := by decide +kernel
theorem dX7_purse_67 : decode cX7_purse 67 = .ok (.iadd, 1) := by decide +kernel
theorem dX7_purse_68 : decode cX7_purse 68 = .ok (.istore_n 2, 1) := by decide +kernel
theorem dX7_purse_69 : decode cX7_purse 69 = .ok (.iinc 3 1, 3) := by decide +kernel
theorem dX7_purse_72 : decode cX7_purse 72 = .ok (.goto (-57), 3) := by decide +kernel
theorem dX7_purse_75 : decode cX7_purse 75 = .ok (.iload_n 2, 1) := by decide +kernel
theorem dX7_purse_76 : decode cX7_purse 76 = .ok (.ireturn, 1) := by decide +kernel
theorem dX7_challenge_0 : decode cX7_challenge 0 = .ok (.aload_n 0, 1) := by decide +kernel
theorem dX7_challenge_1 : decode cX7_challenge 1 = .ok (.iload_n 1, 1) := by decide +kernel
theorem dX7_challenge_2 : decode cX7_challenge 2 = .ok (.iload_n 2, 1) := by decide +kernel
theorem dX7_challenge_3 : decode cX7_challenge 3 = .ok (.invokevirtual 131, 3) := by decide +kernel
theorem dX7_challenge_6 : decode cX7_challenge 6 = .ok (.ifCond .ne 5, 3) := by decide +kernel
theorem dX7_challenge_9 : decode cX7_challenge 9 = .ok (.iconst (-1), 1) := by decide +kernel
theorem dX7_challenge_10 : decode cX7_challenge 10 = .ok (.ireturn, 1) := by decide +kernel
theorem dX7_challenge_11 : decode cX7_challenge 11 = .ok (.iconst 0, 1) := by decide +kernel
theorem dX7_challenge_12 : decode cX7_challenge 12 = .ok (.istore_n 3, 1) := by decide +kernel
theorem dX7_challenge_13 : decode cX7_challenge 13 = .ok (.iload_n 3, 1) := by decide +kernel
theorem dX7_challenge_14 : decode cX7_challenge 14 = .ok (.aload_n 0, 1) := by decide +kernel
theorem dX7_challenge_15 : decode cX7_challenge 15 = .ok (.getfield 171, 3) := by decide +kernel
theorem dX7_challenge_18 : decode cX7_challenge 18 = .ok (.if_icmp .ge 64, 3) := by decide +kernel
theorem dX7_challenge_21 : decode cX7_challenge 21 = .ok (.aload_n 0, 1) := by decide +kernel
theorem dX7_challenge_22 : decode cX7_challenge 22 = .ok (.getfield 44, 3) := by decide +kernel
theorem dX7_challenge_25 : decode cX7_challenge 25 = .ok (.iload_n 3, 1) := by decide +kernel
theorem dX7_challenge_26 : decode cX7_challenge 26 = .ok (.iaload, 1) := by decide +kernel
theorem dX7_challenge_27 : decode cX7_challenge 27 = .ok (.iload_n 1, 1) := by decide +kernel
theorem dX7_challenge_28 : decode cX7_challenge 28 = .ok (.if_icmp .ne 17, 3) := by decide +kernel
theorem dX7_challenge_31 : decode cX7_challenge 31 = .ok (.aload_n 0, 1) := by decide +kernel
theorem dX7_challenge_32 : decode cX7_challenge 32 = .ok (.getfield 47, 3) := by decide +kernel
theorem dX7_challenge_35 : decode cX7_challenge 35 = .ok (.iload_n 3, 1) := by decide +kernel
theorem dX7_challenge_36 : decode cX7_challenge 36 = .ok (.iaload, 1) := by decide +kernel
theorem dX7_challenge_37 : decode cX7_challenge 37 = .ok (.iload_n 2, 1) := by decide +kernel
theorem dX7_challenge_38 : decode cX7_challenge 38 = .ok (.if_icmp .ne 7, 3) := by decide +kernel
theorem dX7_challenge_41 : decode cX7_challenge 41 = .ok (.iconst 1, 1) := by decide +kernel
theorem dX7_challenge_42 : decode cX7_challenge 42 = .ok (.goto 4, 3) := by decide +kernel
theorem dX7_challenge_45 : decode cX7_challenge 45 = .ok (.iconst 0, 1) := by decide +kernel
theorem dX7_challenge_46 : decode cX7_challenge 46 = .ok (.istore 4, 2) := by decide +kernel
theorem dX7_challenge_48 : decode cX7_challenge 48 = .ok (.iload 4, 2) := by decide +kernel
theorem dX7_challenge_50 : decode cX7_challenge 50 = .ok (.ifCond .ne 23, 3) := by decide +kernel
theorem dX7_challenge_53 : decode cX7_challenge 53 = .ok (.aload_n 0, 1) := by decide +kernel
theorem dX7_challenge_54 : decode cX7_challenge 54 = .ok (.getfield 44, 3) := by decide +kernel
theorem dX7_challenge_57 : decode cX7_challenge 57 = .ok (.iload_n 3, 1) := by decide +kernel
theorem dX7_challenge_58 : decode cX7_challenge 58 = .ok (.iaload, 1) := by decide +kernel
theorem dX7_challenge_59 : decode cX7_challenge 59 = .ok (.iload_n 2, 1) := by decide +kernel
theorem dX7_challenge_60 : decode cX7_challenge 60 = .ok (.if_icmp .ne 16, 3) := by decide +kernel
theorem dX7_challenge_63 : decode cX7_challenge 63 = .ok (.aload_n 0, 1) := by decide +kernel
theorem dX7_challenge_64 : decode cX7_challenge 64 = .ok (.getfield 47, 3) := by decide +kernel
theorem dX7_challenge_67 : decode cX7_challenge 67 = .ok (.iload_n 3, 1) := by decide +kernel
theorem dX7_challenge_68 : decode cX7_challenge 68 = .ok (.iaload, 1) := by decide +kernel
theorem dX7_challenge_69 : decode cX7_challenge 69 = .ok (.iload_n 1, 1) := by decide +kernel
theorem dX7_challenge_70 : decode cX7_challenge 70 = .ok (.if_icmp .ne 6, 3) := by decide +kernel
theorem dX7_challenge_73 : decode cX7_challenge 73 = .ok (.bipush (-3), 2) := by decide +kernel
theorem dX7_challenge_75 : decode cX7_challenge 75 = .ok (.ireturn, 1) := by decide +kernel
theorem dX7_challenge_76 : decode cX7_challenge 76 = .ok (.iinc 3 1, 3) := by decide +kernel
theorem dX7_challenge_79 : decode cX7_challenge 79 = .ok (.goto (-66), 3) := by decide +kernel
theorem dX7_challenge_82 : decode cX7_challenge 82 = .ok (.aload_n 0, 1) := by decide +kernel
theorem dX7_challenge_83 : decode cX7_challenge 83 = .ok (.getfield 171, 3) := by decide +kernel
theorem dX7_challenge_86 : decode cX7_challenge 86 = .ok (.bipush 7, 2) := by decide +kernel
theorem dX7_challenge_88 : decode cX7_challenge 88 = .ok (.if_icmp .ne 6, 3) := by decide +kernel
theorem dX7_challenge_91 : decode cX7_challenge 91 = .ok (.bipush (-2), 2) := by decide +kernel
theorem dX7_challenge_93 : decode cX7_challenge 93 = .ok (.ireturn, 1) := by decide +kernel
theorem dX7_challenge_94 : decode cX7_challenge 94 = .ok (.aload_n 0, 1) := by decide +kernel
theorem dX7_challenge_95 : decode cX7_challenge 95 = .ok (.getfield 44, 3) := by decide +kernel
theorem dX7_challenge_98 : decode cX7_challenge 98 = .ok (.aload_n 0, 1) := by decide +kernel
theorem dX7_challenge_99 : decode cX7_challenge 99 = .ok (.getfield 171, 3) := by decide +kernel
theorem dX7_challenge_102 : decode cX7_challenge 102 = .ok (.iload_n 1, 1) := by decide +kernel
theorem dX7_challenge_103 : decode cX7_challenge 103 = .ok (.iastore, 1) := by decide +kernel
theorem dX7_challenge_104 : decode cX7_challenge 104 = .ok (.aload_n 0, 1) := by decide +kernel
theorem dX7_challenge_105 : decode cX7_challenge 105 = .ok (.getfield 47, 3) := by decide +kernel
theorem dX7_challenge_108 : decode cX7_challenge 108 = .ok (.aload_n 0, 1) := by decide +kernel
theorem dX7_challenge_109 : decode cX7_challenge 109 = .ok (.getfield 171, 3) := by decide +kernel
theorem dX7_challenge_112 : decode cX7_challenge 112 = .ok (.iload_n 2, 1) := by decide +kernel
theorem dX7_challenge_113 : decode cX7_challenge 113 = .ok (.iastore, 1) := by decide +kernel
theorem dX7_challenge_114 : decode cX7_challenge 114 = .ok (.aload_n 0, 1) := by decide +kernel
theorem dX7_challenge_115 : decode cX7_challenge 115 = .ok (.dup, 1) := by decide +kernel
theorem dX7_challenge_116 : decode cX7_challenge 116 = .ok (.getfield 171, 3) := by decide +kernel
theorem dX7_challenge_119 : decode cX7_challenge 119 = .ok (.iconst 1, 1) := by decide +kernel
theorem dX7_challenge_120 : decode cX7_challenge 120 = .ok (.iadd, 1) := by decide +kernel
theorem dX7_challenge_121 : decode cX7_challenge 121 = .ok (.putfield 171, 3) := by decide +kernel
theorem dX7_challenge_124 : decode cX7_challenge 124 = .ok (.aload_n 0, 1) := by decide +kernel
theorem dX7_challenge_125 : decode cX7_challenge 125 = .ok (.getfield 171, 3) := by decide +kernel
theorem dX7_challenge_128 : decode cX7_challenge 128 = .ok (.iconst 1, 1) := by decide +kernel
theorem dX7_challenge_129 : decode cX7_challenge 129 = .ok (.isub, 1) := by decide +kernel
theorem dX7_challenge_130 : decode cX7_challenge 130 = .ok (.ireturn, 1) := by decide +kernel
theorem dX7_withdraw_0 : decode cX7_withdraw 0 = .ok (.aload_n 0, 1) := by decide +kernel
theorem dX7_withdraw_1 : decode cX7_withdraw 1 = .ok (.getfield 171, 3) := by decide +kernel
theorem dX7_withdraw_4 : decode cX7_withdraw 4 = .ok (.ifCond .ne 6, 3) := by decide +kernel
theorem dX7_withdraw_7 : decode cX7_withdraw 7 = .ok (.bipush (-4), 2) := by decide +kernel
theorem dX7_withdraw_9 : decode cX7_withdraw 9 = .ok (.ireturn, 1) := by decide +kernel
theorem dX7_withdraw_10 : decode cX7_withdraw 10 = .ok (.aload_n 0, 1) := by decide +kernel
theorem dX7_withdraw_11 : decode cX7_withdraw 11 = .ok (.dup, 1) := by decide +kernel
theorem dX7_withdraw_12 : decode cX7_withdraw 12 = .ok (.getfield 171, 3) := by decide +kernel
theorem dX7_withdraw_15 : decode cX7_withdraw 15 = .ok (.iconst 1, 1) := by decide +kernel
theorem dX7_withdraw_16 : decode cX7_withdraw 16 = .ok (.isub, 1) := by decide +kernel
theorem dX7_withdraw_17 : decode cX7_withdraw 17 = .ok (.putfield 171, 3) := by decide +kernel
theorem dX7_withdraw_20 : decode cX7_withdraw 20 = .ok (.aload_n 0, 1) := by decide +kernel
theorem dX7_withdraw_21 : decode cX7_withdraw 21 = .ok (.getfield 171, 3) := by decide +kernel
theorem dX7_withdraw_24 : decode cX7_withdraw 24 = .ok (.ireturn, 1) := by decide +kernel
theorem dX7_isTurn_0 : decode cX7_isTurn 0 = .ok (.iconst 0, 1) := by decide +kernel
theorem dX7_isTurn_1 : decode cX7_isTurn 1 = .ok (.istore_n 2, 1) := by decide +kernel
theorem dX7_isTurn_2 : decode cX7_isTurn 2 = .ok (.iload_n 2, 1) := by decide +kernel
theorem dX7_isTurn_3 : decode cX7_isTurn 3 = .ok (.iload_n 1, 1) := by decide +kernel
theorem dX7_isTurn_4 : decode cX7_isTurn 4 = .ok (.if_icmp .ge 121, 3) := by decide +kernel
theorem dX7_isTurn_7 : decode cX7_isTurn 7 = .ok (.aload_n 0, 1) := by decide +kernel
theorem dX7_isTurn_8 : decode cX7_isTurn 8 = .ok (.getfield 44, 3) := by decide +kernel
theorem dX7_isTurn_11 : decode cX7_isTurn 11 = .ok (.iload_n 2, 1) := by decide +kernel
theorem dX7_isTurn_12 : decode cX7_isTurn 12 = .ok (.iaload, 1) := by decide +kernel
theorem dX7_isTurn_13 : decode cX7_isTurn 13 = .ok (.aload_n 0, 1) := by decide +kernel
theorem dX7_isTurn_14 : decode cX7_isTurn 14 = .ok (.getfield 44, 3) := by decide +kernel
theorem dX7_isTurn_17 : decode cX7_isTurn 17 = .ok (.iload_n 1, 1) := by decide +kernel
theorem dX7_isTurn_18 : decode cX7_isTurn 18 = .ok (.iaload, 1) := by decide +kernel
theorem dX7_isTurn_19 : decode cX7_isTurn 19 = .ok (.if_icmp .eq 18, 3) := by decide +kernel
theorem dX7_isTurn_22 : decode cX7_isTurn 22 = .ok (.aload_n 0, 1) := by decide +kernel
theorem dX7_isTurn_23 : decode cX7_isTurn 23 = .ok (.getfield 44, 3) := by decide +kernel
theorem dX7_isTurn_26 : decode cX7_isTurn 26 = .ok (.iload_n 2, 1) := by decide +kernel
theorem dX7_isTurn_27 : decode cX7_isTurn 27 = .ok (.iaload, 1) := by decide +kernel
theorem dX7_isTurn_28 : decode cX7_isTurn 28 = .ok (.aload_n 0, 1) := by decide +kernel
theorem dX7_isTurn_29 : decode cX7_isTurn 29 = .ok (.getfield 47, 3) := by decide +kernel
theorem dX7_isTurn_32 : decode cX7_isTurn 32 = .ok (.iload_n 1, 1) := by decide +kernel
theorem dX7_isTurn_33 : decode cX7_isTurn 33 = .ok (.iaload, 1) := by decide +kernel
theorem dX7_isTurn_34 : decode cX7_isTurn 34 = .ok (.if_icmp .ne 7, 3) := by decide +kernel
theorem dX7_isTurn_37 : decode cX7_isTurn 37 = .ok (.iconst 1, 1) := by decide +kernel
theorem dX7_isTurn_38 : decode cX7_isTurn 38 = .ok (.goto 4, 3) := by decide +kernel
theorem dX7_isTurn_41 : decode cX7_isTurn 41 = .ok (.iconst 0, 1) := by decide +kernel
theorem dX7_isTurn_42 : decode cX7_isTurn 42 = .ok (.istore_n 3, 1) := by decide +kernel
theorem dX7_isTurn_43 : decode cX7_isTurn 43 = .ok (.iload_n 3, 1) := by decide +kernel
theorem dX7_isTurn_44 : decode cX7_isTurn 44 = .ok (.ifCond .ne 33, 3) := by decide +kernel
theorem dX7_isTurn_47 : decode cX7_isTurn 47 = .ok (.aload_n 0, 1) := by decide +kernel
theorem dX7_isTurn_48 : decode cX7_isTurn 48 = .ok (.getfield 47, 3) := by decide +kernel
theorem dX7_isTurn_51 : decode cX7_isTurn 51 = .ok (.iload_n 2, 1) := by decide +kernel
theorem dX7_isTurn_52 : decode cX7_isTurn 52 = .ok (.iaload, 1) := by decide +kernel
theorem dX7_isTurn_53 : decode cX7_isTurn 53 = .ok (.aload_n 0, 1) := by decide +kernel
theorem dX7_isTurn_54 : decode cX7_isTurn 54 = .ok (.getfield 44, 3) := by decide +kernel
theorem dX7_isTurn_57 : decode cX7_isTurn 57 = .ok (.iload_n 1, 1) := by decide +kernel
theorem dX7_isTurn_58 : decode cX7_isTurn 58 = .ok (.iaload, 1) := by decide +kernel
theorem dX7_isTurn_59 : decode cX7_isTurn 59 = .ok (.if_icmp .eq 18, 3) := by decide +kernel
theorem dX7_isTurn_62 : decode cX7_isTurn 62 = .ok (.aload_n 0, 1) := by decide +kernel
theorem dX7_isTurn_63 : decode cX7_isTurn 63 = .ok (.getfield 47, 3) := by decide +kernel
theorem dX7_isTurn_66 : decode cX7_isTurn 66 = .ok (.iload_n 2, 1) := by decide +kernel
theorem dX7_isTurn_67 : decode cX7_isTurn 67 = .ok (.iaload, 1) := by decide +kernel
theorem dX7_isTurn_68 : decode cX7_isTurn 68 = .ok (.aload_n 0, 1) := by decide +kernel
theorem dX7_isTurn_69 : decode cX7_isTurn 69 = .ok (.getfield 47, 3) := by decide +kernel
theorem dX7_isTurn_72 : decode cX7_isTurn 72 = .ok (.iload_n 1, 1) := by decide +kernel
theorem dX7_isTurn_73 : decode cX7_isTurn 73 = .ok (.iaload, 1) := by decide +kernel
theorem dX7_isTurn_74 : decode cX7_isTurn 74 = .ok (.if_icmp .ne 7, 3) := by decide +kernel
theorem dX7_isTurn_77 : decode cX7_isTurn 77 = .ok (.iconst 1, 1) := by decide +kernel
theorem dX7_isTurn_78 : decode cX7_isTurn 78 = .ok (.goto 4, 3) := by decide +kernel
theorem dX7_isTurn_81 : decode cX7_isTurn 81 = .ok (.iconst 0, 1) := by decide +kernel
theorem dX7_isTurn_82 : decode cX7_isTurn 82 = .ok (.istore 4, 2) := by decide +kernel
theorem dX7_isTurn_84 : decode cX7_isTurn 84 = .ok (.aload_n 0, 1) := by decide +kernel
theorem dX7_isTurn_85 : decode cX7_isTurn 85 = .ok (.getfield 60, 3) := by decide +kernel
theorem dX7_isTurn_88 : decode cX7_isTurn 88 = .ok (.iload_n 2, 1) := by decide +kernel
theorem dX7_isTurn_89 : decode cX7_isTurn 89 = .ok (.iaload, 1) := by decide +kernel
theorem dX7_isTurn_90 : decode cX7_isTurn 90 = .ok (.aload_n 0, 1) := by decide +kernel
theorem dX7_isTurn_91 : decode cX7_isTurn 91 = .ok (.getfield 60, 3) := by decide +kernel
theorem dX7_isTurn_94 : decode cX7_isTurn 94 = .ok (.iload_n 1, 1) := by decide +kernel
theorem dX7_isTurn_95 : decode cX7_isTurn 95 = .ok (.iaload, 1) := by decide +kernel
theorem dX7_isTurn_96 : decode cX7_isTurn 96 = .ok (.isub, 1) := by decide +kernel
theorem dX7_isTurn_97 : decode cX7_isTurn 97 = .ok (.istore 5, 2) := by decide +kernel
theorem dX7_isTurn_99 : decode cX7_isTurn 99 = .ok (.iload 4, 2) := by decide +kernel
theorem dX7_isTurn_101 : decode cX7_isTurn 101 = .ok (.ifCond .eq 18, 3) := by decide +kernel
theorem dX7_isTurn_104 : decode cX7_isTurn 104 = .ok (.iload 5, 2) := by decide +kernel
theorem dX7_isTurn_106 : decode cX7_isTurn 106 = .ok (.iconst 2, 1) := by decide +kernel
theorem dX7_isTurn_107 : decode cX7_isTurn 107 = .ok (.if_icmp .ge 12, 3) := by decide +kernel
theorem dX7_isTurn_110 : decode cX7_isTurn 110 = .ok (.iload 5, 2) := by decide +kernel
theorem dX7_isTurn_112 : decode cX7_isTurn 112 = .ok (.bipush (-2), 2) := by decide +kernel
theorem dX7_isTurn_114 : decode cX7_isTurn 114 = .ok (.if_icmp .le 5, 3) := by decide +kernel
theorem dX7_isTurn_117 : decode cX7_isTurn 117 = .ok (.iconst 0, 1) := by decide +kernel
theorem dX7_isTurn_118 : decode cX7_isTurn 118 = .ok (.ireturn, 1) := by decide +kernel
theorem dX7_isTurn_119 : decode cX7_isTurn 119 = .ok (.iinc 2 1, 3) := by decide +kernel
theorem dX7_isTurn_122 : decode cX7_isTurn 122 = .ok (.goto (-120), 3) := by decide +kernel
theorem dX7_isTurn_125 : decode cX7_isTurn 125 = .ok (.iconst 1, 1) := by decide +kernel
theorem dX7_isTurn_126 : decode cX7_isTurn 126 = .ok (.ireturn, 1) := by decide +kernel
theorem dX7_findPlan_0 : decode cX7_findPlan 0 = .ok (.iconst 0, 1) := by decide +kernel
theorem dX7_findPlan_1 : decode cX7_findPlan 1 = .ok (.istore_n 2, 1) := by decide +kernel
theorem dX7_findPlan_2 : decode cX7_findPlan 2 = .ok (.aload_n 0, 1) := by decide +kernel
theorem dX7_findPlan_3 : decode cX7_findPlan 3 = .ok (.getfield 60, 3) := by decide +kernel
theorem dX7_findPlan_6 : decode cX7_findPlan 6 = .ok (.iconst 0, 1) := by decide +kernel
theorem dX7_findPlan_7 : decode cX7_findPlan 7 = .ok (.iconst 0, 1) := by decide +kernel
theorem dX7_findPlan_8 : decode cX7_findPlan 8 = .ok (.iastore, 1) := by decide +kernel
theorem dX7_findPlan_9 : decode cX7_findPlan 9 = .ok (.iload_n 2, 1) := by decide +kernel
theorem dX7_findPlan_10 : decode cX7_findPlan 10 = .ok (.ifCond .lt 85, 3) := by decide +kernel
theorem dX7_findPlan_13 : decode cX7_findPlan 13 = .ok (.iload_n 2, 1) := by decide +kernel
theorem dX7_findPlan_14 : decode cX7_findPlan 14 = .ok (.aload_n 0, 1) := by decide +kernel
theorem dX7_findPlan_15 : decode cX7_findPlan 15 = .ok (.getfield 171, 3) := by decide +kernel
theorem dX7_findPlan_18 : decode cX7_findPlan 18 = .ok (.if_icmp .ge 77, 3) := by decide +kernel
theorem dX7_findPlan_21 : decode cX7_findPlan 21 = .ok (.aload_n 0, 1) := by decide +kernel
theorem dX7_findPlan_22 : decode cX7_findPlan 22 = .ok (.getfield 60, 3) := by decide +kernel
theorem dX7_findPlan_25 : decode cX7_findPlan 25 = .ok (.iload_n 2, 1) := by decide +kernel
theorem dX7_findPlan_26 : decode cX7_findPlan 26 = .ok (.iaload, 1) := by decide +kernel
theorem dX7_findPlan_27 : decode cX7_findPlan 27 = .ok (.iload_n 1, 1) := by decide +kernel
theorem dX7_findPlan_28 : decode cX7_findPlan 28 = .ok (.if_icmp .gt 24, 3) := by decide +kernel
theorem dX7_findPlan_31 : decode cX7_findPlan 31 = .ok (.aload_n 0, 1) := by decide +kernel
theorem dX7_findPlan_32 : decode cX7_findPlan 32 = .ok (.iload_n 2, 1) := by decide +kernel
theorem dX7_findPlan_33 : decode cX7_findPlan 33 = .ok (.invokevirtual 174, 3) := by decide +kernel
theorem dX7_findPlan_36 : decode cX7_findPlan 36 = .ok (.ifCond .ne 16, 3) := by decide +kernel
theorem dX7_findPlan_39 : decode cX7_findPlan 39 = .ok (.aload_n 0, 1) := by decide +kernel
theorem dX7_findPlan_40 : decode cX7_findPlan 40 = .ok (.getfield 60, 3) := by decide +kernel
theorem dX7_findPlan_43 : decode cX7_findPlan 43 = .ok (.iload_n 2, 1) := by decide +kernel
theorem dX7_findPlan_44 : decode cX7_findPlan 44 = .ok (.dup2, 1) := by decide +kernel
theorem dX7_findPlan_45 : decode cX7_findPlan 45 = .ok (.iaload, 1) := by decide +kernel
theorem dX7_findPlan_46 : decode cX7_findPlan 46 = .ok (.iconst 1, 1) := by decide +kernel
theorem dX7_findPlan_47 : decode cX7_findPlan 47 = .ok (.iadd, 1) := by decide +kernel
theorem dX7_findPlan_48 : decode cX7_findPlan 48 = .ok (.iastore, 1) := by decide +kernel
theorem dX7_findPlan_49 : decode cX7_findPlan 49 = .ok (.goto (-28), 3) := by decide +kernel
theorem dX7_findPlan_52 : decode cX7_findPlan 52 = .ok (.aload_n 0, 1) := by decide +kernel
theorem dX7_findPlan_53 : decode cX7_findPlan 53 = .ok (.getfield 60, 3) := by decide +kernel
theorem dX7_findPlan_56 : decode cX7_findPlan 56 = .ok (.iload_n 2, 1) := by decide +kernel
theorem dX7_findPlan_57 : decode cX7_findPlan 57 = .ok (.iaload, 1) := by decide +kernel
theorem dX7_findPlan_58 : decode cX7_findPlan 58 = .ok (.iload_n 1, 1) := by decide +kernel
theorem dX7_findPlan_59 : decode cX7_findPlan 59 = .ok (.if_icmp .gt 16, 3) := by decide +kernel
theorem dX7_findPlan_62 : decode cX7_findPlan 62 = .ok (.iinc 2 1, 3) := by decide +kernel
theorem dX7_findPlan_65 : decode cX7_findPlan 65 = .ok (.aload_n 0, 1) := by decide +kernel
theorem dX7_findPlan_66 : decode cX7_findPlan 66 = .ok (.getfield 60, 3) := by decide +kernel
theorem dX7_findPlan_69 : decode cX7_findPlan 69 = .ok (.iload_n 2, 1) := by decide +kernel
theorem dX7_findPlan_70 : decode cX7_findPlan 70 = .ok (.iconst 0, 1) := by decide +kernel
theorem dX7_findPlan_71 : decode cX7_findPlan 71 = .ok (.iastore, 1) := by decide +kernel
theorem dX7_findPlan_72 : decode cX7_findPlan 72 = .ok (.goto (-63), 3) := by decide +kernel
theorem dX7_findPlan_75 : decode cX7_findPlan 75 = .ok (.iinc 2 (-1), 3) := by decide +kernel
theorem dX7_findPlan_78 : decode cX7_findPlan 78 = .ok (.iload_n 2, 1) := by decide +kernel
theorem dX7_findPlan_79 : decode cX7_findPlan 79 = .ok (.ifCond .lt (-70), 3) := by decide +kernel
theorem dX7_findPlan_82 : decode cX7_findPlan 82 = .ok (.aload_n 0, 1) := by decide +kernel
theorem dX7_findPlan_83 : decode cX7_findPlan 83 = .ok (.getfield 60, 3) := by decide +kernel
theorem dX7_findPlan_86 : decode cX7_findPlan 86 = .ok (.iload_n 2, 1) := by decide +kernel
theorem dX7_findPlan_87 : decode cX7_findPlan 87 = .ok (.dup2, 1) := by decide +kernel
theorem dX7_findPlan_88 : decode cX7_findPlan 88 = .ok (.iaload, 1) := by decide +kernel
theorem dX7_findPlan_89 : decode cX7_findPlan 89 = .ok (.iconst 1, 1) := by decide +kernel
theorem dX7_findPlan_90 : decode cX7_findPlan 90 = .ok (.iadd, 1) := by decide +kernel
theorem dX7_findPlan_91 : decode cX7_findPlan 91 = .ok (.iastore, 1) := by decide +kernel
theorem dX7_findPlan_92 : decode cX7_findPlan 92 = .ok (.goto (-83), 3) := by decide +kernel
theorem dX7_findPlan_95 : decode cX7_findPlan 95 = .ok (.iload_n 2, 1) := by decide +kernel
theorem dX7_findPlan_96 : decode cX7_findPlan 96 = .ok (.ifCond .lt 7, 3) := by decide +kernel
theorem dX7_findPlan_99 : decode cX7_findPlan 99 = .ok (.iconst 1, 1) := by decide +kernel
theorem dX7_findPlan_100 : decode cX7_findPlan 100 = .ok (.goto 4, 3) := by decide +kernel
theorem dX7_findPlan_103 : decode cX7_findPlan 103 = .ok (.iconst 0, 1) := by decide +kernel
theorem dX7_findPlan_104 : decode cX7_findPlan 104 = .ok (.ireturn, 1) := by decide +kernel
theorem dX7_makePlan_0 : decode cX7_makePlan 0 = .ok (.iconst 0, 1) := by decide +kernel
theorem dX7_makePlan_1 : decode cX7_makePlan 1 = .ok (.istore_n 1, 1) := by decide +kernel
theorem dX7_makePlan_2 : decode cX7_makePlan 2 = .ok (.aload_n 0, 1) := by decide +kernel
theorem dX7_makePlan_3 : decode cX7_makePlan 3 = .ok (.iload_n 1, 1) := by decide +kernel
theorem dX7_makePlan_4 : decode cX7_makePlan 4 = .ok (.invokevirtual 177, 3) := by decide +kernel
theorem dX7_makePlan_7 : decode cX7_makePlan 7 = .ok (.ifCond .ne 9, 3) := by decide +kernel
theorem dX7_makePlan_10 : decode cX7_makePlan 10 = .ok (.iinc 1 1, 3) := by decide +kernel
theorem dX7_makePlan_13 : decode cX7_makePlan 13 = .ok (.goto (-11), 3) := by decide +kernel
theorem dX7_makePlan_16 : decode cX7_makePlan 16 = .ok (.iload_n 1, 1) := by decide +kernel
theorem dX7_makePlan_17 : decode cX7_makePlan 17 = .ok (.ireturn, 1) := by decide +kernel
theorem dX7_turn_0 : decode cX7_turn 0 = .ok (.iload_n 1, 1) := by decide +kernel
theorem dX7_turn_1 : decode cX7_turn 1 = .ok (.iconst 0, 1) := by decide +kernel
theorem dX7_turn_2 : decode cX7_turn 2 = .ok (.aload_n 0, 1) := by decide +kernel
theorem dX7_turn_3 : decode cX7_turn 3 = .ok (.getfield 171, 3) := by decide +kernel
theorem dX7_turn_6 : decode cX7_turn 6 = .ok (.iconst 1, 1) := by decide +kernel
theorem dX7_turn_7 : decode cX7_turn 7 = .ok (.isub, 1) := by decide +kernel
theorem dX7_turn_8 : decode cX7_turn 8 = .ok (.invokestatic 72, 3) := by decide +kernel
theorem dX7_turn_11 : decode cX7_turn 11 = .ok (.ifCond .ne 5, 3) := by decide +kernel
theorem dX7_turn_14 : decode cX7_turn 14 = .ok (.iconst (-1), 1) := by decide +kernel
theorem dX7_turn_15 : decode cX7_turn 15 = .ok (.ireturn, 1) := by decide +kernel
theorem dX7_turn_16 : decode cX7_turn 16 = .ok (.aload_n 0, 1) := by decide +kernel
theorem dX7_turn_17 : decode cX7_turn 17 = .ok (.invokevirtual 180, 3) := by decide +kernel
theorem dX7_turn_20 : decode cX7_turn 20 = .ok (.istore_n 2, 1) := by decide +kernel
theorem dX7_turn_21 : decode cX7_turn 21 = .ok (.aload_n 0, 1) := by decide +kernel
theorem dX7_turn_22 : decode cX7_turn 22 = .ok (.getfield 60, 3) := by decide +kernel
theorem dX7_turn_25 : decode cX7_turn 25 = .ok (.iload_n 1, 1) := by decide +kernel
theorem dX7_turn_26 : decode cX7_turn 26 = .ok (.iaload, 1) := by decide +kernel
theorem dX7_turn_27 : decode cX7_turn 27 = .ok (.ireturn, 1) := by decide +kernel
theorem dX7_turns_0 : decode cX7_turns 0 = .ok (.aload_n 0, 1) := by decide +kernel
theorem dX7_turns_1 : decode cX7_turns 1 = .ok (.getfield 171, 3) := by decide +kernel
theorem dX7_turns_4 : decode cX7_turns 4 = .ok (.ifCond .ne 7, 3) := by decide +kernel
theorem dX7_turns_7 : decode cX7_turns 7 = .ok (.iconst 0, 1) := by decide +kernel
theorem dX7_turns_8 : decode cX7_turns 8 = .ok (.goto 9, 3) := by decide +kernel
theorem dX7_turns_11 : decode cX7_turns 11 = .ok (.aload_n 0, 1) := by decide +kernel
theorem dX7_turns_12 : decode cX7_turns 12 = .ok (.invokevirtual 180, 3) := by decide +kernel
theorem dX7_turns_15 : decode cX7_turns 15 = .ok (.iconst 1, 1) := by decide +kernel
theorem dX7_turns_16 : decode cX7_turns 16 = .ok (.iadd, 1) := by decide +kernel
theorem dX7_turns_17 : decode cX7_turns 17 = .ok (.ireturn, 1) := by decide +kernel
theorem dX7_feud_0 : decode cX7_feud 0 = .ok (.aload_n 0, 1) := by decide +kernel
theorem dX7_feud_1 : decode cX7_feud 1 = .ok (.iload_n 1, 1) := by decide +kernel
theorem dX7_feud_2 : decode cX7_feud 2 = .ok (.iload_n 2, 1) := by decide +kernel
theorem dX7_feud_3 : decode cX7_feud 3 = .ok (.invokevirtual 131, 3) := by decide +kernel
theorem dX7_feud_6 : decode cX7_feud 6 = .ok (.ifCond .ne 5, 3) := by decide +kernel
theorem dX7_feud_9 : decode cX7_feud 9 = .ok (.iconst (-1), 1) := by decide +kernel
theorem dX7_feud_10 : decode cX7_feud 10 = .ok (.ireturn, 1) := by decide +kernel
theorem dX7_feud_11 : decode cX7_feud 11 = .ok (.aload_n 0, 1) := by decide +kernel
theorem dX7_feud_12 : decode cX7_feud 12 = .ok (.getfield 50, 3) := by decide +kernel
theorem dX7_feud_15 : decode cX7_feud 15 = .ok (.bipush 14, 2) := by decide +kernel
theorem dX7_feud_17 : decode cX7_feud 17 = .ok (.iload_n 1, 1) := by decide +kernel
theorem dX7_feud_18 : decode cX7_feud 18 = .ok (.imul, 1) := by decide +kernel
theorem dX7_feud_19 : decode cX7_feud 19 = .ok (.iload_n 2, 1) := by decide +kernel
theorem dX7_feud_20 : decode cX7_feud 20 = .ok (.iadd, 1) := by decide +kernel
theorem dX7_feud_21 : decode cX7_feud 21 = .ok (.baload, 1) := by decide +kernel
theorem dX7_feud_22 : decode cX7_feud 22 = .ok (.istore 4, 2) := by decide +kernel
theorem dX7_feud_24 : decode cX7_feud 24 = .ok (.aload_n 0, 1) := by decide +kernel
theorem dX7_feud_25 : decode cX7_feud 25 = .ok (.getfield 50, 3) := by decide +kernel
theorem dX7_feud_28 : decode cX7_feud 28 = .ok (.bipush 14, 2) := by decide +kernel
theorem dX7_feud_30 : decode cX7_feud 30 = .ok (.iload_n 1, 1) := by decide +kernel
theorem dX7_feud_31 : decode cX7_feud 31 = .ok (.imul, 1) := by decide +kernel
theorem dX7_feud_32 : decode cX7_feud 32 = .ok (.iload_n 2, 1) := by decide +kernel
theorem dX7_feud_33 : decode cX7_feud 33 = .ok (.iadd, 1) := by decide +kernel
theorem dX7_feud_34 : decode cX7_feud 34 = .ok (.iload_n 3, 1) := by decide +kernel
theorem dX7_feud_35 : decode cX7_feud 35 = .ok (.bastore, 1) := by decide +kernel
theorem dX7_feud_36 : decode cX7_feud 36 = .ok (.aload_n 0, 1) := by decide +kernel
theorem dX7_feud_37 : decode cX7_feud 37 = .ok (.getfield 50, 3) := by decide +kernel
theorem dX7_feud_40 : decode cX7_feud 40 = .ok (.bipush 14, 2) := by decide +kernel
theorem dX7_feud_42 : decode cX7_feud 42 = .ok (.iload_n 2, 1) := by decide +kernel
theorem dX7_feud_43 : decode cX7_feud 43 = .ok (.imul, 1) := by decide +kernel
theorem dX7_feud_44 : decode cX7_feud 44 = .ok (.iload_n 1, 1) := by decide +kernel
theorem dX7_feud_45 : decode cX7_feud 45 = .ok (.iadd, 1) := by decide +kernel
theorem dX7_feud_46 : decode cX7_feud 46 = .ok (.iload_n 3, 1) := by decide +kernel
theorem dX7_feud_47 : decode cX7_feud 47 = .ok (.bastore, 1) := by decide +kernel
theorem dX7_feud_48 : decode cX7_feud 48 = .ok (.iload 4, 2) := by decide +kernel
theorem dX7_feud_50 : decode cX7_feud 50 = .ok (.iload_n 3, 1) := by decide +kernel
theorem dX7_feud_51 : decode cX7_feud 51 = .ok (.if_icmp .ne 7, 3) := by decide +kernel
theorem dX7_feud_54 : decode cX7_feud 54 = .ok (.iconst 0, 1) := by decide +kernel
theorem dX7_feud_55 : decode cX7_feud 55 = .ok (.goto 4, 3) := by decide +kernel
theorem dX7_feud_58 : decode cX7_feud 58 = .ok (.iconst 1, 1) := by decide +kernel
theorem dX7_feud_59 : decode cX7_feud 59 = .ok (.ireturn, 1) := by decide +kernel
theorem dX7_chooseTents_0 : decode cX7_chooseTents 0 = .ok (.iconst 0, 1) := by decide +kernel
theorem dX7_chooseTents_1 : decode cX7_chooseTents 1 = .ok (.istore_n 1, 1) := by decide +kernel
theorem dX7_chooseTents_2 : decode cX7_chooseTents 2 = .ok (.iload_n 1, 1) := by decide +kernel
theorem dX7_chooseTents_3 : decode cX7_chooseTents 3 = .ok (.aload_n 0, 1) := by decide +kernel
theorem dX7_chooseTents_4 : decode cX7_chooseTents 4 = .ok (.getfield 69, 3) := by decide +kernel
theorem dX7_chooseTents_7 : decode cX7_chooseTents 7 = .ok (.if_icmp .ge 16, 3) := by decide +kernel
theorem dX7_chooseTents_10 : decode cX7_chooseTents 10 = .ok (.aload_n 0, 1) := by decide +kernel
theorem dX7_chooseTents_11 : decode cX7_chooseTents 11 = .ok (.getfield 63, 3) := by decide +kernel
theorem dX7_chooseTents_14 : decode cX7_chooseTents 14 = .ok (.iload_n 1, 1) := by decide +kernel
theorem dX7_chooseTents_15 : decode cX7_chooseTents 15 = .ok (.iconst 0, 1) := by decide +kernel
theorem dX7_chooseTents_16 : decode cX7_chooseTents 16 = .ok (.bastore, 1) := by decide +kernel
theorem dX7_chooseTents_17 : decode cX7_chooseTents 17 = .ok (.iinc 1 1, 3) := by decide +kernel
theorem dX7_chooseTents_20 : decode cX7_chooseTents 20 = .ok (.goto (-18), 3) := by decide +kernel
theorem dX7_chooseTents_23 : decode cX7_chooseTents 23 = .ok (.aload_n 0, 1) := by decide +kernel
theorem dX7_chooseTents_24 : decode cX7_chooseTents 24 = .ok (.aload_n 0, 1) := by decide +kernel
theorem dX7_chooseTents_25 : decode cX7_chooseTents 25 = .ok (.getfield 69, 3) := by decide +kernel
theorem dX7_chooseTents_28 : decode cX7_chooseTents 28 = .ok (.bipush 7, 2) := by decide +kernel
theorem dX7_chooseTents_30 : decode cX7_chooseTents 30 = .ok (.if_icmp .ge 10, 3) := by decide +kernel
theorem dX7_chooseTents_33 : decode cX7_chooseTents 33 = .ok (.aload_n 0, 1) := by decide +kernel
theorem dX7_chooseTents_34 : decode cX7_chooseTents 34 = .ok (.getfield 69, 3) := by decide +kernel
theorem dX7_chooseTents_37 : decode cX7_chooseTents 37 = .ok (.goto 5, 3) := by decide +kernel
theorem dX7_chooseTents_40 : decode cX7_chooseTents 40 = .ok (.bipush 7, 2) := by decide +kernel
theorem dX7_chooseTents_42 : decode cX7_chooseTents 42 = .ok (.putfield 183, 3) := by decide +kernel
theorem dX7_chooseTents_45 : decode cX7_chooseTents 45 = .ok (.iconst 0, 1) := by decide +kernel
theorem dX7_chooseTents_46 : decode cX7_chooseTents 46 = .ok (.istore_n 1, 1) := by decide +kernel
theorem dX7_chooseTents_47 : decode cX7_chooseTents 47 = .ok (.iload_n 1, 1) := by decide +kernel
theorem dX7_chooseTents_48 : decode cX7_chooseTents 48 = .ok (.aload_n 0, 1) := by decide +kernel
theorem dX7_chooseTents_49 : decode cX7_chooseTents 49 = .ok (.getfield 183, 3) := by decide +kernel
theorem dX7_chooseTents_52 : decode cX7_chooseTents 52 = .ok (.if_icmp .ge 88, 3) := by decide +kernel
theorem dX7_chooseTents_55 : decode cX7_chooseTents 55 = .ok (.iconst (-1), 1) := by decide +kernel
theorem dX7_chooseTents_56 : decode cX7_chooseTents 56 = .ok (.istore_n 2, 1) := by decide +kernel
theorem dX7_chooseTents_57 : decode cX7_chooseTents 57 = .ok (.iconst 0, 1) := by decide +kernel
theorem dX7_chooseTents_58 : decode cX7_chooseTents 58 = .ok (.istore_n 3, 1) := by decide +kernel
theorem dX7_chooseTents_59 : decode cX7_chooseTents 59 = .ok (.iload_n 3, 1) := by decide +kernel
theorem dX7_chooseTents_60 : decode cX7_chooseTents 60 = .ok (.aload_n 0, 1) := by decide +kernel
theorem dX7_chooseTents_61 : decode cX7_chooseTents 61 = .ok (.getfield 69, 3) := by decide +kernel
theorem dX7_chooseTents_64 : decode cX7_chooseTents 64 = .ok (.if_icmp .ge 43, 3) := by decide +kernel
theorem dX7_chooseTents_67 : decode cX7_chooseTents 67 = .ok (.aload_n 0, 1) := by decide +kernel
theorem dX7_chooseTents_68 : decode cX7_chooseTents 68 = .ok (.getfield 63, 3) := by decide +kernel
theorem dX7_chooseTents_71 : decode cX7_chooseTents 71 = .ok (.iload_n 3, 1) := by decide +kernel
theorem dX7_chooseTents_72 : decode cX7_chooseTents 72 = .ok (.baload, 1) := by decide +kernel
theorem dX7_chooseTents_73 : decode cX7_chooseTents 73 = .ok (.ifCond .ne 26, 3) := by decide +kernel
theorem dX7_chooseTents_76 : decode cX7_chooseTents 76 = .ok (.iload_n 2, 1) := by decide +kernel
theorem dX7_chooseTents_77 : decode cX7_chooseTents 77 = .ok (.ifCond .lt 18, 3) := by decide +kernel
theorem dX7_chooseTents_80 : decode cX7_chooseTents 80 = .ok (.aload_n 0, 1) := by decide +kernel
theorem dX7_chooseTents_81 : decode cX7_chooseTents 81 = .ok (.getfield 7, 3) := by decide +kernel
theorem dX7_chooseTents_84 : decode cX7_chooseTents 84 = .ok (.iload_n 3, 1) := by decide +kernel
theorem dX7_chooseTents_85 : decode cX7_chooseTents 85 = .ok (.iaload, 1) := by decide +kernel
theorem dX7_chooseTents_86 : decode cX7_chooseTents 86 = .ok (.aload_n 0, 1) := by decide +kernel
theorem dX7_chooseTents_87 : decode cX7_chooseTents 87 = .ok (.getfield 7, 3) := by decide +kernel
theorem dX7_chooseTents_90 : decode cX7_chooseTents 90 = .ok (.iload_n 2, 1) := by decide +kernel
theorem dX7_chooseTents_91 : decode cX7_chooseTents 91 = .ok (.iaload, 1) := by decide +kernel
theorem dX7_chooseTents_92 : decode cX7_chooseTents 92 = .ok (.if_icmp .le 7, 3) := by decide +kernel
theorem dX7_chooseTents_95 : decode cX7_chooseTents 95 = .ok (.iload_n 3, 1) := by decide +kernel
theorem dX7_chooseTents_96 : decode cX7_chooseTents 96 = .ok (.goto 4, 3) := by decide +kernel
theorem dX7_chooseTents_99 : decode cX7_chooseTents 99 = .ok (.iload_n 2, 1) := by decide +kernel
theorem dX7_chooseTents_100 : decode cX7_chooseTents 100 = .ok (.istore_n 2, 1) := by decide +kernel
theorem dX7_chooseTents_101 : decode cX7_chooseTents 101 = .ok (.iinc 3 1, 3) := by decide +kernel
theorem dX7_chooseTents_104 : decode cX7_chooseTents 104 = .ok (.goto (-45), 3) := by decide +kernel
theorem dX7_chooseTents_107 : decode cX7_chooseTents 107 = .ok (.aload_n 0, 1) := by decide +kernel
theorem dX7_chooseTents_108 : decode cX7_chooseTents 108 = .ok (.getfield 63, 3) := by decide +kernel
theorem dX7_chooseTents_111 : decode cX7_chooseTents 111 = .ok (.iload_n 2, 1) := by decide +kernel
theorem dX7_chooseTents_112 : decode cX7_chooseTents 112 = .ok (.iconst 1, 1) := by decide +kernel
theorem dX7_chooseTents_113 : decode cX7_chooseTents 113 = .ok (.bastore, 1) := by decide +kernel
theorem dX7_chooseTents_114 : decode cX7_chooseTents 114 = .ok (.aload_n 0, 1) := by decide +kernel
theorem dX7_chooseTents_115 : decode cX7_chooseTents 115 = .ok (.getfield 66, 3) := by decide +kernel
theorem dX7_chooseTents_118 : decode cX7_chooseTents 118 = .ok (.iconst 0, 1) := by decide +kernel
theorem dX7_chooseTents_119 : decode cX7_chooseTents 119 = .ok (.iload_n 1, 1) := by decide +kernel
theorem dX7_chooseTents_120 : decode cX7_chooseTents 120 = .ok (.ifCond .ne 7, 3) := by decide +kernel
theorem dX7_chooseTents_123 : decode cX7_chooseTents 123 = .ok (.iload_n 2, 1) := by decide +kernel
theorem dX7_chooseTents_124 : decode cX7_chooseTents 124 = .ok (.goto 9, 3) := by decide +kernel
theorem dX7_chooseTents_127 : decode cX7_chooseTents 127 = .ok (.aload_n 0, 1) := by decide +kernel
theorem dX7_chooseTents_128 : decode cX7_chooseTents 128 = .ok (.getfield 66, 3) := by decide +kernel
theorem dX7_chooseTents_131 : decode cX7_chooseTents 131 = .ok (.iconst 0, 1) := by decide +kernel
theorem dX7_chooseTents_132 : decode cX7_chooseTents 132 = .ok (.iaload, 1) := by decide +kernel
theorem dX7_chooseTents_133 : decode cX7_chooseTents 133 = .ok (.iastore, 1) := by decide +kernel
theorem dX7_chooseTents_134 : decode cX7_chooseTents 134 = .ok (.iinc 1 1, 3) := by decide +kernel
theorem dX7_chooseTents_137 : decode cX7_chooseTents 137 = .ok (.goto (-90), 3) := by decide +kernel
theorem dX7_chooseTents_140 : decode cX7_chooseTents 140 = .ok (.return_, 1) := by decide +kernel
theorem dX7_mayStand_0 : decode cX7_mayStand 0 = .ok (.aload_n 0, 1) := by decide +kernel
theorem dX7_mayStand_1 : decode cX7_mayStand 1 = .ok (.getfield 66, 3) := by decide +kernel
theorem dX7_mayStand_4 : decode cX7_mayStand 4 = .ok (.iload_n 1, 1) := by decide +kernel
theorem dX7_mayStand_5 : decode cX7_mayStand 5 = .ok (.iaload, 1) := by decide +kernel
theorem dX7_mayStand_6 : decode cX7_mayStand 6 = .ok (.istore_n 2, 1) := by decide +kernel
theorem dX7_mayStand_7 : decode cX7_mayStand 7 = .ok (.aload_n 0, 1) := by decide +kernel
theorem dX7_mayStand_8 : decode cX7_mayStand 8 = .ok (.getfield 63, 3) := by decide +kernel
theorem dX7_mayStand_11 : decode cX7_mayStand 11 = .ok (.iload_n 2, 1) := by decide +kernel
theorem dX7_mayStand_12 : decode cX7_mayStand 12 = .ok (.baload, 1) := by decide +kernel
theorem dX7_mayStand_13 : decode cX7_mayStand 13 = .ok (.ifCond .eq 24, 3) := by decide +kernel
theorem dX7_mayStand_16 : decode cX7_mayStand 16 = .ok (.aload_n 0, 1) := by decide +kernel
theorem dX7_mayStand_17 : decode cX7_mayStand 17 = .ok (.getfield 50, 3) := by decide +kernel
theorem dX7_mayStand_20 : decode cX7_mayStand 20 = .ok (.bipush 14, 2) := by decide +kernel
theorem dX7_mayStand_22 : decode cX7_mayStand 22 = .ok (.iload_n 2, 1) := by decide +kernel
theorem dX7_mayStand_23 : decode cX7_mayStand 23 = .ok (.imul, 1) := by decide +kernel
theorem dX7_mayStand_24 : decode cX7_mayStand 24 = .ok (.aload_n 0, 1) := by decide +kernel
theorem dX7_mayStand_25 : decode cX7_mayStand 25 = .ok (.getfield 66, 3) := by decide +kernel
theorem dX7_mayStand_28 : decode cX7_mayStand 28 = .ok (.iload_n 1, 1) := by decide +kernel
theorem dX7_mayStand_29 : decode cX7_mayStand 29 = .ok (.iconst 1, 1) := by decide +kernel
theorem dX7_mayStand_30 : decode cX7_mayStand 30 = .ok (.isub, 1) := by decide +kernel
theorem dX7_mayStand_31 : decode cX7_mayStand 31 = .ok (.iaload, 1) := by decide +kernel
theorem dX7_mayStand_32 : decode cX7_mayStand 32 = .ok (.iadd, 1) := by decide +kernel
theorem dX7_mayStand_33 : decode cX7_mayStand 33 = .ok (.baload, 1) := by decide +kernel
theorem dX7_mayStand_34 : decode cX7_mayStand 34 = .ok (.ifCond .eq 5, 3) := by decide +kernel
theorem dX7_mayStand_37 : decode cX7_mayStand 37 = .ok (.iconst 0, 1) := by decide +kernel
theorem dX7_mayStand_38 : decode cX7_mayStand 38 = .ok (.ireturn, 1) := by decide +kernel
theorem dX7_mayStand_39 : decode cX7_mayStand 39 = .ok (.iconst 0, 1) := by decide +kernel
theorem dX7_mayStand_40 : decode cX7_mayStand 40 = .ok (.istore_n 3, 1) := by decide +kernel
theorem dX7_mayStand_41 : decode cX7_mayStand 41 = .ok (.iload_n 3, 1) := by decide +kernel
theorem dX7_mayStand_42 : decode cX7_mayStand 42 = .ok (.iload_n 1, 1) := by decide +kernel
theorem dX7_mayStand_43 : decode cX7_mayStand 43 = .ok (.if_icmp .ge 21, 3) := by decide +kernel
theorem dX7_mayStand_46 : decode cX7_mayStand 46 = .ok (.aload_n 0, 1) := by decide +kernel
theorem dX7_mayStand_47 : decode cX7_mayStand 47 = .ok (.getfield 66, 3) := by decide +kernel
theorem dX7_mayStand_50 : decode cX7_mayStand 50 = .ok (.iload_n 3, 1) := by decide +kernel
theorem dX7_mayStand_51 : decode cX7_mayStand 51 = .ok (.iaload, 1) := by decide +kernel
theorem dX7_mayStand_52 : decode cX7_mayStand 52 = .ok (.iload_n 2, 1) := by decide +kernel
theorem dX7_mayStand_53 : decode cX7_mayStand 53 = .ok (.if_icmp .ne 5, 3) := by decide +kernel
theorem dX7_mayStand_56 : decode cX7_mayStand 56 = .ok (.iconst 0, 1) := by decide +kernel
theorem dX7_mayStand_57 : decode cX7_mayStand 57 = .ok (.ireturn, 1) := by decide +kernel
theorem dX7_mayStand_58 : decode cX7_mayStand 58 = .ok (.iinc 3 1, 3) := by decide +kernel
theorem dX7_mayStand_61 : decode cX7_mayStand 61 = .ok (.goto (-20), 3) := by decide +kernel
theorem dX7_mayStand_64 : decode cX7_mayStand 64 = .ok (.iload_n 1, 1) := by decide +kernel
theorem dX7_mayStand_65 : decode cX7_mayStand 65 = .ok (.aload_n 0, 1) := by decide +kernel
theorem dX7_mayStand_66 : decode cX7_mayStand 66 = .ok (.getfield 183, 3) := by decide +kernel
theorem dX7_mayStand_69 : decode cX7_mayStand 69 = .ok (.iconst 1, 1) := by decide +kernel
theorem dX7_mayStand_70 : decode cX7_mayStand 70 = .ok (.isub, 1) := by decide +kernel
theorem dX7_mayStand_71 : decode cX7_mayStand 71 = .ok (.if_icmp .lt 22, 3) := by decide +kernel
theorem dX7_mayStand_74 : decode cX7_mayStand 74 = .ok (.aload_n 0, 1) := by decide +kernel
theorem dX7_mayStand_75 : decode cX7_mayStand 75 = .ok (.getfield 50, 3) := by decide +kernel
theorem dX7_mayStand_78 : decode cX7_mayStand 78 = .ok (.bipush 14, 2) := by decide +kernel
theorem dX7_mayStand_80 : decode cX7_mayStand 80 = .ok (.iload_n 2, 1) := by decide +kernel
theorem dX7_mayStand_81 : decode cX7_mayStand 81 = .ok (.imul, 1) := by decide +kernel
theorem dX7_mayStand_82 : decode cX7_mayStand 82 = .ok (.aload_n 0, 1) := by decide +kernel
theorem dX7_mayStand_83 : decode cX7_mayStand 83 = .ok (.getfield 66, 3) := by decide +kernel
theorem dX7_mayStand_86 : decode cX7_mayStand 86 = .ok (.iconst 0, 1) := by decide +kernel
theorem dX7_mayStand_87 : decode cX7_mayStand 87 = .ok (.iaload, 1) := by decide +kernel
theorem dX7_mayStand_88 : decode cX7_mayStand 88 = .ok (.iadd, 1) := by decide +kernel
theorem dX7_mayStand_89 : decode cX7_mayStand 89 = .ok (.baload, 1) := by decide +kernel
theorem dX7_mayStand_90 : decode cX7_mayStand 90 = .ok (.ifCond .ne 7, 3) := by decide +kernel
theorem dX7_mayStand_93 : decode cX7_mayStand 93 = .ok (.iconst 1, 1) := by decide +kernel
theorem dX7_mayStand_94 : decode cX7_mayStand 94 = .ok (.goto 4, 3) := by decide +kernel
theorem dX7_mayStand_97 : decode cX7_mayStand 97 = .ok (.iconst 0, 1) := by decide +kernel
theorem dX7_mayStand_98 : decode cX7_mayStand 98 = .ok (.ireturn, 1) := by decide +kernel
theorem dX7_findCamp_0 : decode cX7_findCamp 0 = .ok (.aload_n 0, 1) := by decide +kernel
theorem dX7_findCamp_1 : decode cX7_findCamp 1 = .ok (.invokevirtual 186, 3) := by decide +kernel
theorem dX7_findCamp_4 : decode cX7_findCamp 4 = .ok (.iconst 1, 1) := by decide +kernel
theorem dX7_findCamp_5 : decode cX7_findCamp 5 = .ok (.istore_n 1, 1) := by decide +kernel
theorem dX7_findCamp_6 : decode cX7_findCamp 6 = .ok (.aload_n 0, 1) := by decide +kernel
theorem dX7_findCamp_7 : decode cX7_findCamp 7 = .ok (.getfield 66, 3) := by decide +kernel
theorem dX7_findCamp_10 : decode cX7_findCamp 10 = .ok (.iconst 1, 1) := by decide +kernel
theorem dX7_findCamp_11 : decode cX7_findCamp 11 = .ok (.iconst 0, 1) := by decide +kernel
theorem dX7_findCamp_12 : decode cX7_findCamp 12 = .ok (.iastore, 1) := by decide +kernel
theorem dX7_findCamp_13 : decode cX7_findCamp 13 = .ok (.iload_n 1, 1) := by decide +kernel
theorem dX7_findCamp_14 : decode cX7_findCamp 14 = .ok (.ifCond .le 95, 3) := by decide +kernel
theorem dX7_findCamp_17 : decode cX7_findCamp 17 = .ok (.iload_n 1, 1) := by decide +kernel
theorem dX7_findCamp_18 : decode cX7_findCamp 18 = .ok (.aload_n 0, 1) := by decide +kernel
theorem dX7_findCamp_19 : decode cX7_findCamp 19 = .ok (.getfield 183, 3) := by decide +kernel
theorem dX7_findCamp_22 : decode cX7_findCamp 22 = .ok (.if_icmp .ge 87, 3) := by decide +kernel
theorem dX7_findCamp_25 : decode cX7_findCamp 25 = .ok (.aload_n 0, 1) := by decide +kernel
theorem dX7_findCamp_26 : decode cX7_findCamp 26 = .ok (.getfield 66, 3) := by decide +kernel
theorem dX7_findCamp_29 : decode cX7_findCamp 29 = .ok (.iload_n 1, 1) := by decide +kernel
theorem dX7_findCamp_30 : decode cX7_findCamp 30 = .ok (.iaload, 1) := by decide +kernel
theorem dX7_findCamp_31 : decode cX7_findCamp 31 = .ok (.aload_n 0, 1) := by decide +kernel
theorem dX7_findCamp_32 : decode cX7_findCamp 32 = .ok (.getfield 69, 3) := by decide +kernel
theorem dX7_findCamp_35 : decode cX7_findCamp 35 = .ok (.if_icmp .ge 24, 3) := by decide +kernel
theorem dX7_findCamp_38 : decode cX7_findCamp 38 = .ok (.aload_n 0, 1) := by decide +kernel
theorem dX7_findCamp_39 : decode cX7_findCamp 39 = .ok (.iload_n 1, 1) := by decide +kernel
theorem dX7_findCamp_40 : decode cX7_findCamp 40 = .ok (.invokevirtual 189, 3) := by decide +kernel
theorem dX7_findCamp_43 : decode cX7_findCamp 43 = .ok (.ifCond .ne 16, 3) := by decide +kernel
theorem dX7_findCamp_46 : decode cX7_findCamp 46 = .ok (.aload_n 0, 1) := by decide +kernel
theorem dX7_findCamp_47 : decode cX7_findCamp 47 = .ok (.getfield 66, 3) := by decide +kernel
theorem dX7_findCamp_50 : decode cX7_findCamp 50 = .ok (.iload_n 1, 1) := by decide +kernel
theorem dX7_findCamp_51 : decode cX7_findCamp 51 = .ok (.dup2, 1) := by decide +kernel
theorem dX7_findCamp_52 : decode cX7_findCamp 52 = .ok (.iaload, 1) := by decide +kernel
theorem dX7_findCamp_53 : decode cX7_findCamp 53 = .ok (.iconst 1, 1) := by decide +kernel
theorem dX7_findCamp_54 : decode cX7_findCamp 54 = .ok (.iadd, 1) := by decide +kernel
theorem dX7_findCamp_55 : decode cX7_findCamp 55 = .ok (.iastore, 1) := by decide +kernel
theorem dX7_findCamp_56 : decode cX7_findCamp 56 = .ok (.goto (-31), 3) := by decide +kernel
theorem dX7_findCamp_59 : decode cX7_findCamp 59 = .ok (.aload_n 0, 1) := by decide +kernel
theorem dX7_findCamp_60 : decode cX7_findCamp 60 = .ok (.getfield 66, 3) := by decide +kernel
theorem dX7_findCamp_63 : decode cX7_findCamp 63 = .ok (.iload_n 1, 1) := by decide +kernel
theorem dX7_findCamp_64 : decode cX7_findCamp 64 = .ok (.iaload, 1) := by decide +kernel
theorem dX7_findCamp_65 : decode cX7_findCamp 65 = .ok (.aload_n 0, 1) := by decide +kernel
theorem dX7_findCamp_66 : decode cX7_findCamp 66 = .ok (.getfield 69, 3) := by decide +kernel
theorem dX7_findCamp_69 : decode cX7_findCamp 69 = .ok (.if_icmp .ge 16, 3) := by decide +kernel
theorem dX7_findCamp_72 : decode cX7_findCamp 72 = .ok (.iinc 1 1, 3) := by decide +kernel
theorem dX7_findCamp_75 : decode cX7_findCamp 75 = .ok (.aload_n 0, 1) := by decide +kernel
theorem dX7_findCamp_76 : decode cX7_findCamp 76 = .ok (.getfield 66, 3) := by decide +kernel
theorem dX7_findCamp_79 : decode cX7_findCamp 79 = .ok (.iload_n 1, 1) := by decide +kernel
theorem dX7_findCamp_80 : decode cX7_findCamp 80 = .ok (.iconst 0, 1) := by decide +kernel
theorem dX7_findCamp_81 : decode cX7_findCamp 81 = .ok (.iastore, 1) := by decide +kernel
theorem dX7_findCamp_82 : decode cX7_findCamp 82 = .ok (.goto (-69), 3) := by decide +kernel
theorem dX7_findCamp_85 : decode cX7_findCamp 85 = .ok (.iinc 1 (-1), 3) := by decide +kernel
theorem dX7_findCamp_88 : decode cX7_findCamp 88 = .ok (.aload_n 0, 1) := by decide +kernel
theorem dX7_findCamp_89 : decode cX7_findCamp 89 = .ok (.getfield 66, 3) := by decide +kernel
theorem dX7_findCamp_92 : decode cX7_findCamp 92 = .ok (.iload_n 1, 1) := by decide +kernel
theorem dX7_findCamp_93 : decode cX7_findCamp 93 = .ok (.dup2, 1) := by decide +kernel
theorem dX7_findCamp_94 : decode cX7_findCamp 94 = .ok (.iaload, 1) := by decide +kernel
theorem dX7_findCamp_95 : decode cX7_findCamp 95 = .ok (.iload_n 1, 1) := by decide +kernel
theorem dX7_findCamp_96 : decode cX7_findCamp 96 = .ok (.ifCond .le 7, 3) := by decide +kernel
theorem dX7_findCamp_99 : decode cX7_findCamp 99 = .ok (.iconst 1, 1) := by decide +kernel
theorem dX7_findCamp_100 : decode cX7_findCamp 100 = .ok (.goto 4, 3) := by decide +kernel
theorem dX7_findCamp_103 : decode cX7_findCamp 103 = .ok (.iconst 0, 1) := by decide +kernel
theorem dX7_findCamp_104 : decode cX7_findCamp 104 = .ok (.iadd, 1) := by decide +kernel
theorem dX7_findCamp_105 : decode cX7_findCamp 105 = .ok (.iastore, 1) := by decide +kernel
theorem dX7_findCamp_106 : decode cX7_findCamp 106 = .ok (.goto (-93), 3) := by decide +kernel
theorem dX7_findCamp_109 : decode cX7_findCamp 109 = .ok (.aload_n 0, 1) := by decide +kernel
theorem dX7_findCamp_110 : decode cX7_findCamp 110 = .ok (.getfield 183, 3) := by decide +kernel
theorem dX7_findCamp_113 : decode cX7_findCamp 113 = .ok (.ifCond .le 11, 3) := by decide +kernel
theorem dX7_findCamp_116 : decode cX7_findCamp 116 = .ok (.iload_n 1, 1) := by decide +kernel
theorem dX7_findCamp_117 : decode cX7_findCamp 117 = .ok (.ifCond .le 7, 3) := by decide +kernel
theorem dX7_findCamp_120 : decode cX7_findCamp 120 = .ok (.iconst 1, 1) := by decide +kernel
theorem dX7_findCamp_121 : decode cX7_findCamp 121 = .ok (.goto 4, 3) := by decide +kernel
theorem dX7_findCamp_124 : decode cX7_findCamp 124 = .ok (.iconst 0, 1) := by decide +kernel
theorem dX7_findCamp_125 : decode cX7_findCamp 125 = .ok (.ireturn, 1) := by decide +kernel
theorem dX7_tent_0 : decode cX7_tent 0 = .ok (.iload_n 1, 1) := by decide +kernel
theorem dX7_tent_1 : decode cX7_tent 1 = .ok (.iconst 0, 1) := by decide +kernel
theorem dX7_tent_2 : decode cX7_tent 2 = .ok (.bipush 6, 2) := by decide +kernel
theorem dX7_tent_4 : decode cX7_tent 4 = .ok (.invokestatic 72, 3) := by decide +kernel
theorem dX7_tent_7 : decode cX7_tent 7 = .ok (.ifCond .ne 5, 3) := by decide +kernel
theorem dX7_tent_10 : decode cX7_tent 10 = .ok (.iconst (-1), 1) := by decide +kernel
theorem dX7_tent_11 : decode cX7_tent 11 = .ok (.ireturn, 1) := by decide +kernel
theorem dX7_tent_12 : decode cX7_tent 12 = .ok (.aload_n 0, 1) := by decide +kernel
theorem dX7_tent_13 : decode cX7_tent 13 = .ok (.invokevirtual 192, 3) := by decide +kernel
theorem dX7_tent_16 : decode cX7_tent 16 = .ok (.ifCond .eq 20, 3) := by decide +kernel
theorem dX7_tent_19 : decode cX7_tent 19 = .ok (.iload_n 1, 1) := by decide +kernel
theorem dX7_tent_20 : decode cX7_tent 20 = .ok (.aload_n 0, 1) := by decide +kernel
theorem dX7_tent_21 : decode cX7_tent 21 = .ok (.getfield 183, 3) := by decide +kernel
theorem dX7_tent_24 : decode cX7_tent 24 = .ok (.if_icmp .ge 12, 3) := by decide +kernel
theorem dX7_tent_27 : decode cX7_tent 27 = .ok (.aload_n 0, 1) := by decide +kernel
theorem dX7_tent_28 : decode cX7_tent 28 = .ok (.getfield 66, 3) := by decide +kernel
theorem dX7_tent_31 : decode cX7_tent 31 = .ok (.iload_n 1, 1) := by decide +kernel
theorem dX7_tent_32 : decode cX7_tent 32 = .ok (.iaload, 1) := by decide +kernel
theorem dX7_tent_33 : decode cX7_tent 33 = .ok (.goto 5, 3) := by decide +kernel
theorem dX7_tent_36 : decode cX7_tent 36 = .ok (.bipush (-4), 2) := by decide +kernel
theorem dX7_tent_38 : decode cX7_tent 38 = .ok (.ireturn, 1) := by decide +kernel
theorem dX7_feuds_0 : decode cX7_feuds 0 = .ok (.iconst 0, 1) := by decide +kernel
theorem dX7_feuds_1 : decode cX7_feuds 1 = .ok (.istore_n 1, 1) := by decide +kernel
theorem dX7_feuds_2 : decode cX7_feuds 2 = .ok (.iconst 0, 1) := by decide +kernel
theorem dX7_feuds_3 : decode cX7_feuds 3 = .ok (.istore_n 2, 1) := by decide +kernel
theorem dX7_feuds_4 : decode cX7_feuds 4 = .ok (.iload_n 2, 1) := by decide +kernel
theorem dX7_feuds_5 : decode cX7_feuds 5 = .ok (.aload_n 0, 1) := by decide +kernel
theorem dX7_feuds_6 : decode cX7_feuds 6 = .ok (.getfield 69, 3) := by decide +kernel
theorem dX7_feuds_9 : decode cX7_feuds 9 = .ok (.if_icmp .ge 44, 3) := by decide +kernel
theorem dX7_feuds_12 : decode cX7_feuds 12 = .ok (.iconst 0, 1) := by decide +kernel
theorem dX7_feuds_13 : decode cX7_feuds 13 = .ok (.istore_n 3, 1) := by decide +kernel
theorem dX7_feuds_14 : decode cX7_feuds 14 = .ok (.iload_n 3, 1) := by decide +kernel
theorem dX7_feuds_15 : decode cX7_feuds 15 = .ok (.iload_n 2, 1) := by decide +kernel
theorem dX7_feuds_16 : decode cX7_feuds 16 = .ok (.if_icmp .ge 31, 3) := by decide +kernel
theorem dX7_feuds_19 : decode cX7_feuds 19 = .ok (.iload_n 1, 1) := by decide +kernel
theorem dX7_feuds_20 : decode cX7_feuds 20 = .ok (.aload_n 0, 1) := by decide +kernel
theorem dX7_feuds_21 : decode cX7_feuds 21 = .ok (.getfield 50, 3) := by decide +kernel
theorem dX7_feuds_24 : decode cX7_feuds 24 = .ok (.bipush 14, 2) := by decide +kernel
theorem dX7_feuds_26 : decode cX7_feuds 26 = .ok (.iload_n 2, 1) := by decide +kernel
theorem dX7_feuds_27 : decode cX7_feuds 27 = .ok (.imul, 1) := by decide +kernel
theorem dX7_feuds_28 : decode cX7_feuds 28 = .ok (.iload_n 3, 1) := by decide +kernel
theorem dX7_feuds_29 : decode cX7_feuds 29 = .ok (.iadd, 1) := by decide +kernel
theorem dX7_feuds_30 : decode cX7_feuds 30 = .ok (.baload, 1) := by decide +kernel
theorem dX7_feuds_31 : decode cX7_feuds 31 = .ok (.ifCond .eq 7, 3) := by decide +kernel
theorem dX7_feuds_34 : decode cX7_feuds 34 = .ok (.iconst 1, 1) := by decide +kernel
theorem dX7_feuds_35 : decode cX7_feuds 35 = .ok (.goto 4, 3) := by decide +kernel
theorem dX7_feuds_38 : decode cX7_feuds 38 = .ok (.iconst 0, 1) := by decide +kernel
theorem dX7_feuds_39 : decode cX7_feuds 39 = .ok (.iadd, 1) := by decide +kernel
theorem dX7_feuds_40 : decode cX7_feuds 40 = .ok (.istore_n 1, 1) := by decide +kernel
theorem dX7_feuds_41 : decode cX7_feuds 41 = .ok (.iinc 3 1, 3) := by decide +kernel
theorem dX7_feuds_44 : decode cX7_feuds 44 = .ok (.goto (-30), 3) := by decide +kernel
theorem dX7_feuds_47 : decode cX7_feuds 47 = .ok (.iinc 2 1, 3) := by decide +kernel
theorem dX7_feuds_50 : decode cX7_feuds 50 = .ok (.goto (-46), 3) := by decide +kernel
theorem dX7_feuds_53 : decode cX7_feuds 53 = .ok (.iload_n 1, 1) := by decide +kernel
theorem dX7_feuds_54 : decode cX7_feuds 54 = .ok (.ireturn, 1) := by decide +kernel
theorem dX7_riding_0 : decode cX7_riding 0 = .ok (.iconst 0, 1) := by decide +kernel
theorem dX7_riding_1 : decode cX7_riding 1 = .ok (.istore_n 1, 1) := by decide +kernel
theorem dX7_riding_2 : decode cX7_riding 2 = .ok (.iconst 0, 1) := by decide +kernel
theorem dX7_riding_3 : decode cX7_riding 3 = .ok (.istore_n 2, 1) := by decide +kernel
theorem dX7_riding_4 : decode cX7_riding 4 = .ok (.iload_n 2, 1) := by decide +kernel
theorem dX7_riding_5 : decode cX7_riding 5 = .ok (.aload_n 0, 1) := by decide +kernel
theorem dX7_riding_6 : decode cX7_riding 6 = .ok (.getfield 69, 3) := by decide +kernel
theorem dX7_riding_9 : decode cX7_riding 9 = .ok (.if_icmp .ge 25, 3) := by decide +kernel
theorem dX7_riding_12 : decode cX7_riding 12 = .ok (.iload_n 1, 1) := by decide +kernel
theorem dX7_riding_13 : decode cX7_riding 13 = .ok (.aload_n 0, 1) := by decide +kernel
theorem dX7_riding_14 : decode cX7_riding 14 = .ok (.iload_n 2, 1) := by decide +kernel
theorem dX7_riding_15 : decode cX7_riding 15 = .ok (.invokevirtual 97, 3) := by decide +kernel
theorem dX7_riding_18 : decode cX7_riding 18 = .ok (.ifCond .ge 7, 3) := by decide +kernel
theorem dX7_riding_21 : decode cX7_riding 21 = .ok (.iconst 1, 1) := by decide +kernel
theorem dX7_riding_22 : decode cX7_riding 22 = .ok (.goto 4, 3) := by decide +kernel
theorem dX7_riding_25 : decode cX7_riding 25 = .ok (.iconst 0, 1) := by decide +kernel
theorem dX7_riding_26 : decode cX7_riding 26 = .ok (.iadd, 1) := by decide +kernel
theorem dX7_riding_27 : decode cX7_riding 27 = .ok (.istore_n 1, 1) := by decide +kernel
theorem dX7_riding_28 : decode cX7_riding 28 = .ok (.iinc 2 1, 3) := by decide +kernel
theorem dX7_riding_31 : decode cX7_riding 31 = .ok (.goto (-27), 3) := by decide +kernel
theorem dX7_riding_34 : decode cX7_riding 34 = .ok (.iload_n 1, 1) := by decide +kernel
theorem dX7_riding_35 : decode cX7_riding 35 = .ok (.ireturn, 1) := by decide +kernel
theorem dX7_sumOf_0 : decode cX7_sumOf 0 = .ok (.iconst 0, 1) := by decide +kernel
theorem dX7_sumOf_1 : decode cX7_sumOf 1 = .ok (.istore_n 2, 1) := by decide +kernel
theorem dX7_sumOf_2 : decode cX7_sumOf 2 = .ok (.iconst 0, 1) := by decide +kernel
theorem dX7_sumOf_3 : decode cX7_sumOf 3 = .ok (.istore_n 3, 1) := by decide +kernel
theorem dX7_sumOf_4 : decode cX7_sumOf 4 = .ok (.iload_n 3, 1) := by decide +kernel
theorem dX7_sumOf_5 : decode cX7_sumOf 5 = .ok (.iconst 2, 1) := by decide +kernel
theorem dX7_sumOf_6 : decode cX7_sumOf 6 = .ok (.aload_n 0, 1) := by decide +kernel
theorem dX7_sumOf_7 : decode cX7_sumOf 7 = .ok (.getfield 80, 3) := by decide +kernel
theorem dX7_sumOf_10 : decode cX7_sumOf 10 = .ok (.imul, 1) := by decide +kernel
theorem dX7_sumOf_11 : decode cX7_sumOf 11 = .ok (.if_icmp .ge 35, 3) := by decide +kernel
theorem dX7_sumOf_14 : decode cX7_sumOf 14 = .ok (.iload_n 2, 1) := by decide +kernel
theorem dX7_sumOf_15 : decode cX7_sumOf 15 = .ok (.iload_n 1, 1) := by decide +kernel
theorem dX7_sumOf_16 : decode cX7_sumOf 16 = .ok (.ifCond .eq 16, 3) := by decide +kernel
theorem dX7_sumOf_19 : decode cX7_sumOf 19 = .ok (.aload_n 0, 1) := by decide +kernel
theorem dX7_sumOf_20 : decode cX7_sumOf 20 = .ok (.iload_n 3, 1) := by decide +kernel
theorem dX7_sumOf_21 : decode cX7_sumOf 21 = .ok (.iconst 2, 1) := by decide +kernel
theorem dX7_sumOf_22 : decode cX7_sumOf 22 = .ok (.idiv, 1) := by decide +kernel
theorem dX7_sumOf_23 : decode cX7_sumOf 23 = .ok (.iload_n 3, 1) := by decide +kernel
theorem dX7_sumOf_24 : decode cX7_sumOf 24 = .ok (.iconst 2, 1) := by decide +kernel
theorem dX7_sumOf_25 : decode cX7_sumOf 25 = .ok (.irem, 1) := by decide +kernel
theorem dX7_sumOf_26 : decode cX7_sumOf 26 = .ok (.invokevirtual 168, 3) := by decide +kernel
theorem dX7_sumOf_29 : decode cX7_sumOf 29 = .ok (.goto 9, 3) := by decide +kernel
theorem dX7_sumOf_32 : decode cX7_sumOf 32 = .ok (.aload_n 0, 1) := by decide +kernel
theorem dX7_sumOf_33 : decode cX7_sumOf 33 = .ok (.getfield 41, 3) := by decide +kernel
theorem dX7_sumOf_36 : decode cX7_sumOf 36 = .ok (.iload_n 3, 1) := by decide +kernel
theorem dX7_sumOf_37 : decode cX7_sumOf 37 = .ok (.iaload, 1) := by decide +kernel
theorem dX7_sumOf_38 : decode cX7_sumOf 38 = .ok (.iadd, 1) := by decide +kernel
theorem dX7_sumOf_39 : decode cX7_sumOf 39 = .ok (.istore_n 2, 1) := by decide +kernel
theorem dX7_sumOf_40 : decode cX7_sumOf 40 = .ok (.iinc 3 1, 3) := by decide +kernel
theorem dX7_sumOf_43 : decode cX7_sumOf 43 = .ok (.goto (-39), 3) := by decide +kernel
theorem dX7_sumOf_46 : decode cX7_sumOf 46 = .ok (.iload_n 2, 1) := by decide +kernel
theorem dX7_sumOf_47 : decode cX7_sumOf 47 = .ok (.ireturn, 1) := by decide +kernel
theorem dX7_many_0 : decode cX7_many 0 = .ok (.iload_n 1, 1) := by decide +kernel
theorem dX7_many_1 : decode cX7_many 1 = .ok (.tableswitch 107 0 9 #[55, 60, 65, 70, 75, 80, 85, 90, 95, 101], 55) := by decide +kernel
theorem dX7_many_56 : decode cX7_many 56 = .ok (.aload_n 0, 1) := by decide +kernel
theorem dX7_many_57 : decode cX7_many 57 = .ok (.getfield 69, 3) := by decide +kernel
theorem dX7_many_60 : decode cX7_many 60 = .ok (.ireturn, 1) := by decide +kernel
theorem dX7_many_61 : decode cX7_many 61 = .ok (.aload_n 0, 1) := by decide +kernel
theorem dX7_many_62 : decode cX7_many 62 = .ok (.getfield 123, 3) := by decide +kernel
theorem dX7_many_65 : decode cX7_many 65 = .ok (.ireturn, 1) := by decide +kernel
theorem dX7_many_66 : decode cX7_many 66 = .ok (.aload_n 0, 1) := by decide +kernel
theorem dX7_many_67 : decode cX7_many 67 = .ok (.getfield 25, 3) := by decide +kernel
theorem dX7_many_70 : decode cX7_many 70 = .ok (.ireturn, 1) := by decide +kernel
theorem dX7_many_71 : decode cX7_many 71 = .ok (.aload_n 0, 1) := by decide +kernel
theorem dX7_many_72 : decode cX7_many 72 = .ok (.getfield 80, 3) := by decide +kernel
theorem dX7_many_75 : decode cX7_many 75 = .ok (.ireturn, 1) := by decide +kernel
theorem dX7_many_76 : decode cX7_many 76 = .ok (.aload_n 0, 1) := by decide +kernel
theorem dX7_many_77 : decode cX7_many 77 = .ok (.getfield 171, 3) := by decide +kernel
theorem dX7_many_80 : decode cX7_many 80 = .ok (.ireturn, 1) := by decide +kernel
theorem dX7_many_81 : decode cX7_many 81 = .ok (.aload_n 0, 1) := by decide +kernel
theorem dX7_many_82 : decode cX7_many 82 = .ok (.invokevirtual 196, 3) := by decide +kernel
theorem dX7_many_85 : decode cX7_many 85 = .ok (.ireturn, 1) := by decide +kernel
theorem dX7_many_86 : decode cX7_many 86 = .ok (.aload_n 0, 1) := by decide +kernel
theorem dX7_many_87 : decode cX7_many 87 = .ok (.getfield 101, 3) := by decide +kernel
theorem dX7_many_90 : decode cX7_many 90 = .ok (.ireturn, 1) := by decide +kernel
theorem dX7_many_91 : decode cX7_many 91 = .ok (.aload_n 0, 1) := by decide +kernel
theorem dX7_many_92 : decode cX7_many 92 = .ok (.invokevirtual 199, 3) := by decide +kernel
theorem dX7_many_95 : decode cX7_many 95 = .ok (.ireturn, 1) := by decide +kernel
theorem dX7_many_96 : decode cX7_many 96 = .ok (.aload_n 0, 1) := by decide +kernel
theorem dX7_many_97 : decode cX7_many 97 = .ok (.iconst 1, 1) := by decide +kernel
theorem dX7_many_98 : decode cX7_many 98 = .ok (.invokevirtual 202, 3) := by decide +kernel
theorem dX7_many_101 : decode cX7_many 101 = .ok (.ireturn, 1) := by decide +kernel
theorem dX7_many_102 : decode cX7_many 102 = .ok (.aload_n 0, 1) := by decide +kernel
theorem dX7_many_103 : decode cX7_many 103 = .ok (.iconst 0, 1) := by decide +kernel
theorem dX7_many_104 : decode cX7_many 104 = .ok (.invokevirtual 202, 3) := by decide +kernel
theorem dX7_many_107 : decode cX7_many 107 = .ok (.ireturn, 1) := by decide +kernel
theorem dX7_many_108 : decode cX7_many 108 = .ok (.iconst (-1), 1) := by decide +kernel
theorem dX7_many_109 : decode cX7_many 109 = .ok (.ireturn, 1) := by decide +kernel
