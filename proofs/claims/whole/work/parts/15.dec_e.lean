theorem dX6_knight_0 : decode cX6_knight 0 = .ok (.iload_n 1, 1) := by decide +kernel
theorem dX6_knight_1 : decode cX6_knight 1 = .ok (.invokestatic 53, 3) := by decide +kernel
theorem dX6_knight_4 : decode cX6_knight 4 = .ok (.ifCond .eq 13, 3) := by decide +kernel
theorem dX6_knight_7 : decode cX6_knight 7 = .ok (.iload_n 2, 1) := by decide +kernel
theorem dX6_knight_8 : decode cX6_knight 8 = .ok (.iload_n 3, 1) := by decide +kernel
theorem dX6_knight_9 : decode cX6_knight 9 = .ok (.iload 4, 2) := by decide +kernel
theorem dX6_knight_11 : decode cX6_knight 11 = .ok (.invokestatic 57, 3) := by decide +kernel
theorem dX6_knight_14 : decode cX6_knight 14 = .ok (.ifCond .ne 5, 3) := by decide +kernel
theorem dX6_knight_17 : decode cX6_knight 17 = .ok (.iconst (-1), 1) := by decide +kernel
theorem dX6_knight_18 : decode cX6_knight 18 = .ok (.ireturn, 1) := by decide +kernel
theorem dX6_knight_19 : decode cX6_knight 19 = .ok (.aload_n 0, 1) := by decide +kernel
theorem dX6_knight_20 : decode cX6_knight 20 = .ok (.getfield 10, 3) := by decide +kernel
theorem dX6_knight_23 : decode cX6_knight 23 = .ok (.invokevirtual 61, 3) := by decide +kernel
theorem dX6_knight_26 : decode cX6_knight 26 = .ok (.ifCond .eq 6, 3) := by decide +kernel
theorem dX6_knight_29 : decode cX6_knight 29 = .ok (.bipush (-2), 2) := by decide +kernel
theorem dX6_knight_31 : decode cX6_knight 31 = .ok (.ireturn, 1) := by decide +kernel
theorem dX6_knight_32 : decode cX6_knight 32 = .ok (.aload_n 0, 1) := by decide +kernel
theorem dX6_knight_33 : decode cX6_knight 33 = .ok (.getfield 10, 3) := by decide +kernel
theorem dX6_knight_36 : decode cX6_knight 36 = .ok (.iload_n 1, 1) := by decide +kernel
theorem dX6_knight_37 : decode cX6_knight 37 = .ok (.iload_n 2, 1) := by decide +kernel
theorem dX6_knight_38 : decode cX6_knight 38 = .ok (.iload_n 3, 1) := by decide +kernel
theorem dX6_knight_39 : decode cX6_knight 39 = .ok (.iload 4, 2) := by decide +kernel
theorem dX6_knight_41 : decode cX6_knight 41 = .ok (.invokevirtual 65, 3) := by decide +kernel
theorem dX6_knight_44 : decode cX6_knight 44 = .ok (.ireturn, 1) := by decide +kernel
theorem dX6_arms_0 : decode cX6_arms 0 = .ok (.aload_n 0, 1) := by decide +kernel
theorem dX6_arms_1 : decode cX6_arms 1 = .ok (.getfield 10, 3) := by decide +kernel
theorem dX6_arms_4 : decode cX6_arms 4 = .ok (.iload_n 1, 1) := by decide +kernel
theorem dX6_arms_5 : decode cX6_arms 5 = .ok (.invokevirtual 69, 3) := by decide +kernel
theorem dX6_arms_8 : decode cX6_arms 8 = .ok (.ifCond .eq 13, 3) := by decide +kernel
theorem dX6_arms_11 : decode cX6_arms 11 = .ok (.iload_n 2, 1) := by decide +kernel
theorem dX6_arms_12 : decode cX6_arms 12 = .ok (.iload_n 3, 1) := by decide +kernel
theorem dX6_arms_13 : decode cX6_arms 13 = .ok (.iload 4, 2) := by decide +kernel
theorem dX6_arms_15 : decode cX6_arms 15 = .ok (.invokestatic 57, 3) := by decide +kernel
theorem dX6_arms_18 : decode cX6_arms 18 = .ok (.ifCond .ne 5, 3) := by decide +kernel
theorem dX6_arms_21 : decode cX6_arms 21 = .ok (.iconst (-1), 1) := by decide +kernel
theorem dX6_arms_22 : decode cX6_arms 22 = .ok (.ireturn, 1) := by decide +kernel
theorem dX6_arms_23 : decode cX6_arms 23 = .ok (.aload_n 0, 1) := by decide +kernel
theorem dX6_arms_24 : decode cX6_arms 24 = .ok (.getfield 10, 3) := by decide +kernel
theorem dX6_arms_27 : decode cX6_arms 27 = .ok (.iload_n 1, 1) := by decide +kernel
theorem dX6_arms_28 : decode cX6_arms 28 = .ok (.iload_n 2, 1) := by decide +kernel
theorem dX6_arms_29 : decode cX6_arms 29 = .ok (.iload_n 3, 1) := by decide +kernel
theorem dX6_arms_30 : decode cX6_arms 30 = .ok (.iload 4, 2) := by decide +kernel
theorem dX6_arms_32 : decode cX6_arms 32 = .ok (.invokevirtual 72, 3) := by decide +kernel
theorem dX6_arms_35 : decode cX6_arms 35 = .ok (.iconst 1, 1) := by decide +kernel
theorem dX6_arms_36 : decode cX6_arms 36 = .ok (.ireturn, 1) := by decide +kernel
theorem dX6_rank_0 : decode cX6_rank 0 = .ok (.aload_n 0, 1) := by decide +kernel
theorem dX6_rank_1 : decode cX6_rank 1 = .ok (.getfield 10, 3) := by decide +kernel
theorem dX6_rank_4 : decode cX6_rank 4 = .ok (.iload_n 1, 1) := by decide +kernel
theorem dX6_rank_5 : decode cX6_rank 5 = .ok (.invokevirtual 69, 3) := by decide +kernel
theorem dX6_rank_8 : decode cX6_rank 8 = .ok (.ifCond .eq 10, 3) := by decide +kernel
theorem dX6_rank_11 : decode cX6_rank 11 = .ok (.iload_n 2, 1) := by decide +kernel
theorem dX6_rank_12 : decode cX6_rank 12 = .ok (.invokestatic 53, 3) := by decide +kernel
theorem dX6_rank_15 : decode cX6_rank 15 = .ok (.ifCond .ne 5, 3) := by decide +kernel
theorem dX6_rank_18 : decode cX6_rank 18 = .ok (.iconst (-1), 1) := by decide +kernel
theorem dX6_rank_19 : decode cX6_rank 19 = .ok (.ireturn, 1) := by decide +kernel
theorem dX6_rank_20 : decode cX6_rank 20 = .ok (.aload_n 0, 1) := by decide +kernel
theorem dX6_rank_21 : decode cX6_rank 21 = .ok (.getfield 10, 3) := by decide +kernel
theorem dX6_rank_24 : decode cX6_rank 24 = .ok (.iload_n 1, 1) := by decide +kernel
theorem dX6_rank_25 : decode cX6_rank 25 = .ok (.invokevirtual 76, 3) := by decide +kernel
theorem dX6_rank_28 : decode cX6_rank 28 = .ok (.istore_n 3, 1) := by decide +kernel
theorem dX6_rank_29 : decode cX6_rank 29 = .ok (.aload_n 0, 1) := by decide +kernel
theorem dX6_rank_30 : decode cX6_rank 30 = .ok (.getfield 10, 3) := by decide +kernel
theorem dX6_rank_33 : decode cX6_rank 33 = .ok (.iload_n 1, 1) := by decide +kernel
theorem dX6_rank_34 : decode cX6_rank 34 = .ok (.iload_n 2, 1) := by decide +kernel
theorem dX6_rank_35 : decode cX6_rank 35 = .ok (.invokevirtual 80, 3) := by decide +kernel
theorem dX6_rank_38 : decode cX6_rank 38 = .ok (.iload_n 3, 1) := by decide +kernel
theorem dX6_rank_39 : decode cX6_rank 39 = .ok (.ireturn, 1) := by decide +kernel
theorem dX6_of_0 : decode cX6_of 0 = .ok (.aload_n 0, 1) := by decide +kernel
theorem dX6_of_1 : decode cX6_of 1 = .ok (.getfield 10, 3) := by decide +kernel
theorem dX6_of_4 : decode cX6_of 4 = .ok (.iload_n 1, 1) := by decide +kernel
theorem dX6_of_5 : decode cX6_of 5 = .ok (.invokevirtual 69, 3) := by decide +kernel
theorem dX6_of_8 : decode cX6_of 8 = .ok (.ifCond .ne 5, 3) := by decide +kernel
theorem dX6_of_11 : decode cX6_of 11 = .ok (.iconst (-1), 1) := by decide +kernel
theorem dX6_of_12 : decode cX6_of 12 = .ok (.ireturn, 1) := by decide +kernel
theorem dX6_of_13 : decode cX6_of 13 = .ok (.iload_n 2, 1) := by decide +kernel
theorem dX6_of_14 : decode cX6_of 14 = .ok (.tableswitch 100 0 5 #[38, 47, 56, 65, 74, 91], 38) := by decide +kernel
theorem dX6_of_52 : decode cX6_of 52 = .ok (.aload_n 0, 1) := by decide +kernel
theorem dX6_of_53 : decode cX6_of 53 = .ok (.getfield 10, 3) := by decide +kernel
theorem dX6_of_56 : decode cX6_of 56 = .ok (.iload_n 1, 1) := by decide +kernel
theorem dX6_of_57 : decode cX6_of 57 = .ok (.invokevirtual 76, 3) := by decide +kernel
theorem dX6_of_60 : decode cX6_of 60 = .ok (.ireturn, 1) := by decide +kernel
theorem dX6_of_61 : decode cX6_of 61 = .ok (.aload_n 0, 1) := by decide +kernel
theorem dX6_of_62 : decode cX6_of 62 = .ok (.getfield 10, 3) := by decide +kernel
theorem dX6_of_65 : decode cX6_of 65 = .ok (.iload_n 1, 1) := by decide +kernel
theorem dX6_of_66 : decode cX6_of 66 = .ok (.invokevirtual 84, 3) := by decide +kernel
theorem dX6_of_69 : decode cX6_of 69 = .ok (.ireturn, 1) := by decide +kernel
theorem dX6_of_70 : decode cX6_of 70 = .ok (.aload_n 0, 1) := by decide +kernel
theorem dX6_of_71 : decode cX6_of 71 = .ok (.getfield 10, 3) := by decide +kernel
theorem dX6_of_74 : decode cX6_of 74 = .ok (.iload_n 1, 1) := by decide +kernel
theorem dX6_of_75 : decode cX6_of 75 = .ok (.invokevirtual 87, 3) := by decide +kernel
theorem dX6_of_78 : decode cX6_of 78 = .ok (.ireturn, 1) := by decide +kernel
theorem dX6_of_79 : decode cX6_of 79 = .ok (.aload_n 0, 1) := by decide +kernel
theorem dX6_of_80 : decode cX6_of 80 = .ok (.getfield 10, 3) := by decide +kernel
theorem dX6_of_83 : decode cX6_of 83 = .ok (.iload_n 1, 1) := by decide +kernel
theorem dX6_of_84 : decode cX6_of 84 = .ok (.invokevirtual 90, 3) := by decide +kernel
theorem dX6_of_87 : decode cX6_of 87 = .ok (.ireturn, 1) := by decide +kernel
theorem dX6_of_88 : decode cX6_of 88 = .ok (.aload_n 0, 1) := by decide +kernel
theorem dX6_of_89 : decode cX6_of 89 = .ok (.getfield 10, 3) := by decide +kernel
theorem dX6_of_92 : decode cX6_of 92 = .ok (.iload_n 1, 1) := by decide +kernel
theorem dX6_of_93 : decode cX6_of 93 = .ok (.invokevirtual 93, 3) := by decide +kernel
theorem dX6_of_96 : decode cX6_of 96 = .ok (.ifCond .eq 7, 3) := by decide +kernel
theorem dX6_of_99 : decode cX6_of 99 = .ok (.iconst 1, 1) := by decide +kernel
theorem dX6_of_100 : decode cX6_of 100 = .ok (.goto 4, 3) := by decide +kernel
theorem dX6_of_103 : decode cX6_of 103 = .ok (.iconst 0, 1) := by decide +kernel
theorem dX6_of_104 : decode cX6_of 104 = .ok (.ireturn, 1) := by decide +kernel
theorem dX6_of_105 : decode cX6_of 105 = .ok (.aload_n 0, 1) := by decide +kernel
theorem dX6_of_106 : decode cX6_of 106 = .ok (.getfield 10, 3) := by decide +kernel
theorem dX6_of_109 : decode cX6_of 109 = .ok (.iload_n 1, 1) := by decide +kernel
theorem dX6_of_110 : decode cX6_of 110 = .ok (.invokevirtual 96, 3) := by decide +kernel
theorem dX6_of_113 : decode cX6_of 113 = .ok (.ireturn, 1) := by decide +kernel
theorem dX6_of_114 : decode cX6_of 114 = .ok (.iconst (-1), 1) := by decide +kernel
theorem dX6_of_115 : decode cX6_of 115 = .ok (.ireturn, 1) := by decide +kernel
theorem dX6_near_0 : decode cX6_near 0 = .ok (.aload_n 0, 1) := by decide +kernel
theorem dX6_near_1 : decode cX6_near 1 = .ok (.getfield 10, 3) := by decide +kernel
theorem dX6_near_4 : decode cX6_near 4 = .ok (.invokevirtual 99, 3) := by decide +kernel
theorem dX6_near_7 : decode cX6_near 7 = .ok (.ireturn, 1) := by decide +kernel
theorem dX6_feed_0 : decode cX6_feed 0 = .ok (.aload_n 0, 1) := by decide +kernel
theorem dX6_feed_1 : decode cX6_feed 1 = .ok (.getfield 26, 3) := by decide +kernel
theorem dX6_feed_4 : decode cX6_feed 4 = .ok (.iload_n 1, 1) := by decide +kernel
theorem dX6_feed_5 : decode cX6_feed 5 = .ok (.invokevirtual 103, 3) := by decide +kernel
theorem dX6_feed_8 : decode cX6_feed 8 = .ok (.ifCond .eq 13, 3) := by decide +kernel
theorem dX6_feed_11 : decode cX6_feed 11 = .ok (.aload_n 0, 1) := by decide +kernel
theorem dX6_feed_12 : decode cX6_feed 12 = .ok (.getfield 26, 3) := by decide +kernel
theorem dX6_feed_15 : decode cX6_feed 15 = .ok (.invokevirtual 106, 3) := by decide +kernel
theorem dX6_feed_18 : decode cX6_feed 18 = .ok (.goto 5, 3) := by decide +kernel
theorem dX6_feed_21 : decode cX6_feed 21 = .ok (.bipush (-2), 2) := by decide +kernel
theorem dX6_feed_23 : decode cX6_feed 23 = .ok (.ireturn, 1) := by decide +kernel
theorem dX6_ordain_0 : decode cX6_ordain 0 = .ok (.aload_n 0, 1) := by decide +kernel
theorem dX6_ordain_1 : decode cX6_ordain 1 = .ok (.getfield 19, 3) := by decide +kernel
theorem dX6_ordain_4 : decode cX6_ordain 4 = .ok (.invokevirtual 109, 3) := by decide +kernel
theorem dX6_ordain_7 : decode cX6_ordain 7 = .ok (.ifCond .eq 6, 3) := by decide +kernel
theorem dX6_ordain_10 : decode cX6_ordain 10 = .ok (.bipush (-2), 2) := by decide +kernel
theorem dX6_ordain_12 : decode cX6_ordain 12 = .ok (.ireturn, 1) := by decide +kernel
theorem dX6_ordain_13 : decode cX6_ordain 13 = .ok (.aload_n 0, 1) := by decide +kernel
theorem dX6_ordain_14 : decode cX6_ordain 14 = .ok (.getfield 26, 3) := by decide +kernel
theorem dX6_ordain_17 : decode cX6_ordain 17 = .ok (.aload_n 0, 1) := by decide +kernel
theorem dX6_ordain_18 : decode cX6_ordain 18 = .ok (.getfield 19, 3) := by decide +kernel
theorem dX6_ordain_21 : decode cX6_ordain 21 = .ok (.invokevirtual 110, 3) := by decide +kernel
theorem dX6_ordain_24 : decode cX6_ordain 24 = .ok (.istore_n 1, 1) := by decide +kernel
theorem dX6_ordain_25 : decode cX6_ordain 25 = .ok (.iload_n 1, 1) := by decide +kernel
theorem dX6_ordain_26 : decode cX6_ordain 26 = .ok (.iconst (-1), 1) := by decide +kernel
theorem dX6_ordain_27 : decode cX6_ordain 27 = .ok (.if_icmp .eq 8, 3) := by decide +kernel
theorem dX6_ordain_30 : decode cX6_ordain 30 = .ok (.bipush (-100), 2) := by decide +kernel
theorem dX6_ordain_32 : decode cX6_ordain 32 = .ok (.iload_n 1, 1) := by decide +kernel
theorem dX6_ordain_33 : decode cX6_ordain 33 = .ok (.isub, 1) := by decide +kernel
theorem dX6_ordain_34 : decode cX6_ordain 34 = .ok (.ireturn, 1) := by decide +kernel
theorem dX6_ordain_35 : decode cX6_ordain 35 = .ok (.aload_n 0, 1) := by decide +kernel
theorem dX6_ordain_36 : decode cX6_ordain 36 = .ok (.getfield 26, 3) := by decide +kernel
theorem dX6_ordain_39 : decode cX6_ordain 39 = .ok (.invokevirtual 114, 3) := by decide +kernel
theorem dX6_ordain_42 : decode cX6_ordain 42 = .ok (.pop, 1) := by decide +kernel
theorem dX6_ordain_43 : decode cX6_ordain 43 = .ok (.aload_n 0, 1) := by decide +kernel
theorem dX6_ordain_44 : decode cX6_ordain 44 = .ok (.getfield 19, 3) := by decide +kernel
theorem dX6_ordain_47 : decode cX6_ordain 47 = .ok (.invokevirtual 117, 3) := by decide +kernel
theorem dX6_ordain_50 : decode cX6_ordain 50 = .ok (.ireturn, 1) := by decide +kernel
theorem dX6_scrap_0 : decode cX6_scrap 0 = .ok (.aload_n 0, 1) := by decide +kernel
theorem dX6_scrap_1 : decode cX6_scrap 1 = .ok (.getfield 26, 3) := by decide +kernel
theorem dX6_scrap_4 : decode cX6_scrap 4 = .ok (.invokevirtual 114, 3) := by decide +kernel
theorem dX6_scrap_7 : decode cX6_scrap 7 = .ok (.ireturn, 1) := by decide +kernel
theorem dX6_force_0 : decode cX6_force 0 = .ok (.aload_n 0, 1) := by decide +kernel
theorem dX6_force_1 : decode cX6_force 1 = .ok (.getfield 19, 3) := by decide +kernel
theorem dX6_force_4 : decode cX6_force 4 = .ok (.iload_n 1, 1) := by decide +kernel
theorem dX6_force_5 : decode cX6_force 5 = .ok (.invokevirtual 120, 3) := by decide +kernel
theorem dX6_force_8 : decode cX6_force 8 = .ok (.ifCond .ne 5, 3) := by decide +kernel
theorem dX6_force_11 : decode cX6_force 11 = .ok (.iconst (-1), 1) := by decide +kernel
theorem dX6_force_12 : decode cX6_force 12 = .ok (.ireturn, 1) := by decide +kernel
theorem dX6_force_13 : decode cX6_force 13 = .ok (.aload_n 0, 1) := by decide +kernel
theorem dX6_force_14 : decode cX6_force 14 = .ok (.getfield 19, 3) := by decide +kernel
theorem dX6_force_17 : decode cX6_force 17 = .ok (.iload_n 1, 1) := by decide +kernel
theorem dX6_force_18 : decode cX6_force 18 = .ok (.invokevirtual 121, 3) := by decide +kernel
theorem dX6_force_21 : decode cX6_force 21 = .ok (.iconst 1, 1) := by decide +kernel
theorem dX6_force_22 : decode cX6_force 22 = .ok (.ireturn, 1) := by decide +kernel
theorem dX6_worth_0 : decode cX6_worth 0 = .ok (.aload_n 0, 1) := by decide +kernel
theorem dX6_worth_1 : decode cX6_worth 1 = .ok (.getfield 19, 3) := by decide +kernel
theorem dX6_worth_4 : decode cX6_worth 4 = .ok (.iload_n 1, 1) := by decide +kernel
theorem dX6_worth_5 : decode cX6_worth 5 = .ok (.invokevirtual 120, 3) := by decide +kernel
theorem dX6_worth_8 : decode cX6_worth 8 = .ok (.ifCond .ne 6, 3) := by decide +kernel
theorem dX6_worth_11 : decode cX6_worth 11 = .ok (.ldc 125, 2) := by decide +kernel
theorem dX6_worth_13 : decode cX6_worth 13 = .ok (.ireturn, 1) := by decide +kernel
theorem dX6_worth_14 : decode cX6_worth 14 = .ok (.iload_n 2, 1) := by decide +kernel
theorem dX6_worth_15 : decode cX6_worth 15 = .ok (.bipush 6, 2) := by decide +kernel
theorem dX6_worth_17 : decode cX6_worth 17 = .ok (.if_icmp .ne 12, 3) := by decide +kernel
theorem dX6_worth_20 : decode cX6_worth 20 = .ok (.aload_n 0, 1) := by decide +kernel
theorem dX6_worth_21 : decode cX6_worth 21 = .ok (.getfield 19, 3) := by decide +kernel
theorem dX6_worth_24 : decode cX6_worth 24 = .ok (.iload_n 1, 1) := by decide +kernel
theorem dX6_worth_25 : decode cX6_worth 25 = .ok (.invokevirtual 126, 3) := by decide +kernel
theorem dX6_worth_28 : decode cX6_worth 28 = .ok (.ireturn, 1) := by decide +kernel
theorem dX6_worth_29 : decode cX6_worth 29 = .ok (.iload_n 2, 1) := by decide +kernel
theorem dX6_worth_30 : decode cX6_worth 30 = .ok (.iconst 0, 1) := by decide +kernel
theorem dX6_worth_31 : decode cX6_worth 31 = .ok (.iconst 5, 1) := by decide +kernel
theorem dX6_worth_32 : decode cX6_worth 32 = .ok (.invokestatic 129, 3) := by decide +kernel
theorem dX6_worth_35 : decode cX6_worth 35 = .ok (.ifCond .eq 15, 3) := by decide +kernel
theorem dX6_worth_38 : decode cX6_worth 38 = .ok (.aload_n 0, 1) := by decide +kernel
theorem dX6_worth_39 : decode cX6_worth 39 = .ok (.getfield 19, 3) := by decide +kernel
theorem dX6_worth_42 : decode cX6_worth 42 = .ok (.iload_n 1, 1) := by decide +kernel
theorem dX6_worth_43 : decode cX6_worth 43 = .ok (.iload_n 2, 1) := by decide +kernel
theorem dX6_worth_44 : decode cX6_worth 44 = .ok (.invokevirtual 132, 3) := by decide +kernel
theorem dX6_worth_47 : decode cX6_worth 47 = .ok (.goto 5, 3) := by decide +kernel
theorem dX6_worth_50 : decode cX6_worth 50 = .ok (.ldc 125, 2) := by decide +kernel
theorem dX6_worth_52 : decode cX6_worth 52 = .ok (.ireturn, 1) := by decide +kernel
theorem dX6_joust_0 : decode cX6_joust 0 = .ok (.aload_n 0, 1) := by decide +kernel
theorem dX6_joust_1 : decode cX6_joust 1 = .ok (.getfield 10, 3) := by decide +kernel
theorem dX6_joust_4 : decode cX6_joust 4 = .ok (.iload_n 1, 1) := by decide +kernel
theorem dX6_joust_5 : decode cX6_joust 5 = .ok (.iload_n 2, 1) := by decide +kernel
theorem dX6_joust_6 : decode cX6_joust 6 = .ok (.invokevirtual 136, 3) := by decide +kernel
theorem dX6_joust_9 : decode cX6_joust 9 = .ok (.ifCond .ne 5, 3) := by decide +kernel
theorem dX6_joust_12 : decode cX6_joust 12 = .ok (.iconst (-1), 1) := by decide +kernel
theorem dX6_joust_13 : decode cX6_joust 13 = .ok (.ireturn, 1) := by decide +kernel
theorem dX6_joust_14 : decode cX6_joust 14 = .ok (.aload_n 0, 1) := by decide +kernel
theorem dX6_joust_15 : decode cX6_joust 15 = .ok (.getfield 19, 3) := by decide +kernel
theorem dX6_joust_18 : decode cX6_joust 18 = .ok (.invokevirtual 140, 3) := by decide +kernel
theorem dX6_joust_21 : decode cX6_joust 21 = .ok (.bipush (-2), 2) := by decide +kernel
theorem dX6_joust_23 : decode cX6_joust 23 = .ok (.if_icmp .ne 6, 3) := by decide +kernel
theorem dX6_joust_26 : decode cX6_joust 26 = .ok (.bipush (-4), 2) := by decide +kernel
theorem dX6_joust_28 : decode cX6_joust 28 = .ok (.ireturn, 1) := by decide +kernel
theorem dX6_joust_29 : decode cX6_joust 29 = .ok (.aload_n 0, 1) := by decide +kernel
theorem dX6_joust_30 : decode cX6_joust 30 = .ok (.getfield 10, 3) := by decide +kernel
theorem dX6_joust_33 : decode cX6_joust 33 = .ok (.iload_n 1, 1) := by decide +kernel
theorem dX6_joust_34 : decode cX6_joust 34 = .ok (.invokevirtual 93, 3) := by decide +kernel
theorem dX6_joust_37 : decode cX6_joust 37 = .ok (.ifCond .eq 14, 3) := by decide +kernel
theorem dX6_joust_40 : decode cX6_joust 40 = .ok (.aload_n 0, 1) := by decide +kernel
theorem dX6_joust_41 : decode cX6_joust 41 = .ok (.getfield 10, 3) := by decide +kernel
theorem dX6_joust_44 : decode cX6_joust 44 = .ok (.iload_n 2, 1) := by decide +kernel
theorem dX6_joust_45 : decode cX6_joust 45 = .ok (.invokevirtual 93, 3) := by decide +kernel
theorem dX6_joust_48 : decode cX6_joust 48 = .ok (.ifCond .ne 6, 3) := by decide +kernel
theorem dX6_joust_51 : decode cX6_joust 51 = .ok (.bipush (-5), 2) := by decide +kernel
theorem dX6_joust_53 : decode cX6_joust 53 = .ok (.ireturn, 1) := by decide +kernel
theorem dX6_joust_54 : decode cX6_joust 54 = .ok (.aload_n 0, 1) := by decide +kernel
theorem dX6_joust_55 : decode cX6_joust 55 = .ok (.getfield 35, 3) := by decide +kernel
theorem dX6_joust_58 : decode cX6_joust 58 = .ok (.invokevirtual 143, 3) := by decide +kernel
theorem dX6_joust_61 : decode cX6_joust 61 = .ok (.ifCond .eq 6, 3) := by decide +kernel
theorem dX6_joust_64 : decode cX6_joust 64 = .ok (.bipush (-2), 2) := by decide +kernel
theorem dX6_joust_66 : decode cX6_joust 66 = .ok (.ireturn, 1) := by decide +kernel
theorem dX6_joust_67 : decode cX6_joust 67 = .ok (.aload_n 0, 1) := by decide +kernel
theorem dX6_joust_68 : decode cX6_joust 68 = .ok (.getfield 35, 3) := by decide +kernel
theorem dX6_joust_71 : decode cX6_joust 71 = .ok (.iload_n 1, 1) := by decide +kernel
theorem dX6_joust_72 : decode cX6_joust 72 = .ok (.iload_n 2, 1) := by decide +kernel
theorem dX6_joust_73 : decode cX6_joust 73 = .ok (.aload_n 0, 1) := by decide +kernel
theorem dX6_joust_74 : decode cX6_joust 74 = .ok (.getfield 19, 3) := by decide +kernel
theorem dX6_joust_77 : decode cX6_joust 77 = .ok (.invokevirtual 140, 3) := by decide +kernel
theorem dX6_joust_80 : decode cX6_joust 80 = .ok (.invokevirtual 144, 3) := by decide +kernel
theorem dX6_joust_83 : decode cX6_joust 83 = .ok (.ireturn, 1) := by decide +kernel
theorem dX6_stroke_0 : decode cX6_stroke 0 = .ok (.aload_n 0, 1) := by decide +kernel
theorem dX6_stroke_1 : decode cX6_stroke 1 = .ok (.getfield 35, 3) := by decide +kernel
theorem dX6_stroke_4 : decode cX6_stroke 4 = .ok (.iload_n 1, 1) := by decide +kernel
theorem dX6_stroke_5 : decode cX6_stroke 5 = .ok (.iload_n 2, 1) := by decide +kernel
theorem dX6_stroke_6 : decode cX6_stroke 6 = .ok (.invokevirtual 148, 3) := by decide +kernel
theorem dX6_stroke_9 : decode cX6_stroke 9 = .ok (.ifCond .eq 23, 3) := by decide +kernel
theorem dX6_stroke_12 : decode cX6_stroke 12 = .ok (.iload_n 3, 1) := by decide +kernel
theorem dX6_stroke_13 : decode cX6_stroke 13 = .ok (.iconst 0, 1) := by decide +kernel
theorem dX6_stroke_14 : decode cX6_stroke 14 = .ok (.iconst 5, 1) := by decide +kernel
theorem dX6_stroke_15 : decode cX6_stroke 15 = .ok (.invokestatic 129, 3) := by decide +kernel
theorem dX6_stroke_18 : decode cX6_stroke 18 = .ok (.ifCond .eq 14, 3) := by decide +kernel
theorem dX6_stroke_21 : decode cX6_stroke 21 = .ok (.iload 4, 2) := by decide +kernel
theorem dX6_stroke_23 : decode cX6_stroke 23 = .ok (.iconst 0, 1) := by decide +kernel
theorem dX6_stroke_24 : decode cX6_stroke 24 = .ok (.bipush 6, 2) := by decide +kernel
theorem dX6_stroke_26 : decode cX6_stroke 26 = .ok (.invokestatic 129, 3) := by decide +kernel
theorem dX6_stroke_29 : decode cX6_stroke 29 = .ok (.ifCond .ne 5, 3) := by decide +kernel
theorem dX6_stroke_32 : decode cX6_stroke 32 = .ok (.iconst (-1), 1) := by decide +kernel
theorem dX6_stroke_33 : decode cX6_stroke 33 = .ok (.ireturn, 1) := by decide +kernel
theorem dX6_stroke_34 : decode cX6_stroke 34 = .ok (.aload_n 0, 1) := by decide +kernel
theorem dX6_stroke_35 : decode cX6_stroke 35 = .ok (.getfield 35, 3) := by decide +kernel
theorem dX6_stroke_38 : decode cX6_stroke 38 = .ok (.iload_n 1, 1) := by decide +kernel
theorem dX6_stroke_39 : decode cX6_stroke 39 = .ok (.iload_n 2, 1) := by decide +kernel
theorem dX6_stroke_40 : decode cX6_stroke 40 = .ok (.invokestatic 150, 3) := by decide +kernel
theorem dX6_stroke_43 : decode cX6_stroke 43 = .ok (.iload_n 3, 1) := by decide +kernel
theorem dX6_stroke_44 : decode cX6_stroke 44 = .ok (.iload 4, 2) := by decide +kernel
theorem dX6_stroke_46 : decode cX6_stroke 46 = .ok (.invokevirtual 153, 3) := by decide +kernel
theorem dX6_stroke_49 : decode cX6_stroke 49 = .ok (.ireturn, 1) := by decide +kernel
theorem dX6_copy_0 : decode cX6_copy 0 = .ok (.aload_n 0, 1) := by decide +kernel
theorem dX6_copy_1 : decode cX6_copy 1 = .ok (.getfield 35, 3) := by decide +kernel
theorem dX6_copy_4 : decode cX6_copy 4 = .ok (.iload_n 1, 1) := by decide +kernel
theorem dX6_copy_5 : decode cX6_copy 5 = .ok (.iload_n 3, 1) := by decide +kernel
theorem dX6_copy_6 : decode cX6_copy 6 = .ok (.invokevirtual 148, 3) := by decide +kernel
theorem dX6_copy_9 : decode cX6_copy 9 = .ok (.ifCond .eq 15, 3) := by decide +kernel
theorem dX6_copy_12 : decode cX6_copy 12 = .ok (.aload_n 0, 1) := by decide +kernel
theorem dX6_copy_13 : decode cX6_copy 13 = .ok (.getfield 35, 3) := by decide +kernel
theorem dX6_copy_16 : decode cX6_copy 16 = .ok (.iload_n 2, 1) := by decide +kernel
theorem dX6_copy_17 : decode cX6_copy 17 = .ok (.iload_n 3, 1) := by decide +kernel
theorem dX6_copy_18 : decode cX6_copy 18 = .ok (.invokevirtual 148, 3) := by decide +kernel
theorem dX6_copy_21 : decode cX6_copy 21 = .ok (.ifCond .ne 5, 3) := by decide +kernel
theorem dX6_copy_24 : decode cX6_copy 24 = .ok (.iconst (-1), 1) := by decide +kernel
theorem dX6_copy_25 : decode cX6_copy 25 = .ok (.ireturn, 1) := by decide +kernel
theorem dX6_copy_26 : decode cX6_copy 26 = .ok (.iload 6, 2) := by decide +kernel
theorem dX6_copy_28 : decode cX6_copy 28 = .ok (.iconst 0, 1) := by decide +kernel
theorem dX6_copy_29 : decode cX6_copy 29 = .ok (.bipush 6, 2) := by decide +kernel
theorem dX6_copy_31 : decode cX6_copy 31 = .ok (.invokestatic 129, 3) := by decide +kernel
theorem dX6_copy_34 : decode cX6_copy 34 = .ok (.ifCond .eq 31, 3) := by decide +kernel
theorem dX6_copy_37 : decode cX6_copy 37 = .ok (.iload 4, 2) := by decide +kernel
theorem dX6_copy_39 : decode cX6_copy 39 = .ok (.iconst 0, 1) := by decide +kernel
theorem dX6_copy_40 : decode cX6_copy 40 = .ok (.bipush 6, 2) := by decide +kernel
theorem dX6_copy_42 : decode cX6_copy 42 = .ok (.iload 6, 2) := by decide +kernel
theorem dX6_copy_44 : decode cX6_copy 44 = .ok (.isub, 1) := by decide +kernel
theorem dX6_copy_45 : decode cX6_copy 45 = .ok (.invokestatic 129, 3) := by decide +kernel
theorem dX6_copy_48 : decode cX6_copy 48 = .ok (.ifCond .eq 17, 3) := by decide +kernel
theorem dX6_copy_51 : decode cX6_copy 51 = .ok (.iload 5, 2) := by decide +kernel
theorem dX6_copy_53 : decode cX6_copy 53 = .ok (.iconst 0, 1) := by decide +kernel
theorem dX6_copy_54 : decode cX6_copy 54 = .ok (.bipush 6, 2) := by decide +kernel
theorem dX6_copy_56 : decode cX6_copy 56 = .ok (.iload 6, 2) := by decide +kernel
theorem dX6_copy_58 : decode cX6_copy 58 = .ok (.isub, 1) := by decide +kernel
theorem dX6_copy_59 : decode cX6_copy 59 = .ok (.invokestatic 129, 3) := by decide +kernel
theorem dX6_copy_62 : decode cX6_copy 62 = .ok (.ifCond .ne 5, 3) := by decide +kernel
theorem dX6_copy_65 : decode cX6_copy 65 = .ok (.iconst (-1), 1) := by decide +kernel
theorem dX6_copy_66 : decode cX6_copy 66 = .ok (.ireturn, 1) := by decide +kernel
theorem dX6_copy_67 : decode cX6_copy 67 = .ok (.aload_n 0, 1) := by decide +kernel
theorem dX6_copy_68 : decode cX6_copy 68 = .ok (.getfield 35, 3) := by decide +kernel
theorem dX6_copy_71 : decode cX6_copy 71 = .ok (.iload_n 1, 1) := by decide +kernel
theorem dX6_copy_72 : decode cX6_copy 72 = .ok (.iload_n 3, 1) := by decide +kernel
theorem dX6_copy_73 : decode cX6_copy 73 = .ok (.invokestatic 150, 3) := by decide +kernel
theorem dX6_copy_76 : decode cX6_copy 76 = .ok (.iload_n 2, 1) := by decide +kernel
theorem dX6_copy_77 : decode cX6_copy 77 = .ok (.iload_n 3, 1) := by decide +kernel
theorem dX6_copy_78 : decode cX6_copy 78 = .ok (.invokestatic 150, 3) := by decide +kernel
theorem dX6_copy_81 : decode cX6_copy 81 = .ok (.iload 4, 2) := by decide +kernel
theorem dX6_copy_83 : decode cX6_copy 83 = .ok (.iload 5, 2) := by decide +kernel
theorem dX6_copy_85 : decode cX6_copy 85 = .ok (.iload 6, 2) := by decide +kernel
theorem dX6_copy_87 : decode cX6_copy 87 = .ok (.invokevirtual 156, 3) := by decide +kernel
theorem dX6_copy_90 : decode cX6_copy 90 = .ok (.iload 6, 2) := by decide +kernel
theorem dX6_copy_92 : decode cX6_copy 92 = .ok (.ireturn, 1) := by decide +kernel
theorem dX6_sheet_0 : decode cX6_sheet 0 = .ok (.aload_n 0, 1) := by decide +kernel
theorem dX6_sheet_1 : decode cX6_sheet 1 = .ok (.getfield 35, 3) := by decide +kernel
theorem dX6_sheet_4 : decode cX6_sheet 4 = .ok (.iload_n 1, 1) := by decide +kernel
theorem dX6_sheet_5 : decode cX6_sheet 5 = .ok (.iload_n 2, 1) := by decide +kernel
theorem dX6_sheet_6 : decode cX6_sheet 6 = .ok (.invokevirtual 148, 3) := by decide +kernel
theorem dX6_sheet_9 : decode cX6_sheet 9 = .ok (.ifCond .ne 6, 3) := by decide +kernel
theorem dX6_sheet_12 : decode cX6_sheet 12 = .ok (.ldc 125, 2) := by decide +kernel
theorem dX6_sheet_14 : decode cX6_sheet 14 = .ok (.ireturn, 1) := by decide +kernel
theorem dX6_sheet_15 : decode cX6_sheet 15 = .ok (.iload_n 1, 1) := by decide +kernel
theorem dX6_sheet_16 : decode cX6_sheet 16 = .ok (.iload_n 2, 1) := by decide +kernel
theorem dX6_sheet_17 : decode cX6_sheet 17 = .ok (.invokestatic 150, 3) := by decide +kernel
theorem dX6_sheet_20 : decode cX6_sheet 20 = .ok (.istore 4, 2) := by decide +kernel
theorem dX6_sheet_22 : decode cX6_sheet 22 = .ok (.iload_n 3, 1) := by decide +kernel
theorem dX6_sheet_23 : decode cX6_sheet 23 = .ok (.tableswitch 63 0 2 #[25, 38, 51], 25) := by decide +kernel
theorem dX6_sheet_48 : decode cX6_sheet 48 = .ok (.aload_n 0, 1) := by decide +kernel
theorem dX6_sheet_49 : decode cX6_sheet 49 = .ok (.getfield 35, 3) := by decide +kernel
theorem dX6_sheet_52 : decode cX6_sheet 52 = .ok (.iload 4, 2) := by decide +kernel
theorem dX6_sheet_54 : decode cX6_sheet 54 = .ok (.invokevirtual 160, 3) := by decide +kernel
theorem dX6_sheet_57 : decode cX6_sheet 57 = .ok (.invokestatic 163, 3) := by decide +kernel
theorem dX6_sheet_60 : decode cX6_sheet 60 = .ok (.ireturn, 1) := by decide +kernel
theorem dX6_sheet_61 : decode cX6_sheet 61 = .ok (.aload_n 0, 1) := by decide +kernel
theorem dX6_sheet_62 : decode cX6_sheet 62 = .ok (.getfield 35, 3) := by decide +kernel
theorem dX6_sheet_65 : decode cX6_sheet 65 = .ok (.iload 4, 2) := by decide +kernel
theorem dX6_sheet_67 : decode cX6_sheet 67 = .ok (.invokevirtual 166, 3) := by decide +kernel
theorem dX6_sheet_70 : decode cX6_sheet 70 = .ok (.invokestatic 163, 3) := by decide +kernel
theorem dX6_sheet_73 : decode cX6_sheet 73 = .ok (.ireturn, 1) := by decide +kernel
theorem dX6_sheet_74 : decode cX6_sheet 74 = .ok (.aload_n 0, 1) := by decide +kernel
theorem dX6_sheet_75 : decode cX6_sheet 75 = .ok (.getfield 35, 3) := by decide +kernel
theorem dX6_sheet_78 : decode cX6_sheet 78 = .ok (.iload 4, 2) := by decide +kernel
theorem dX6_sheet_80 : decode cX6_sheet 80 = .ok (.bipush 6, 2) := by decide +kernel
theorem dX6_sheet_82 : decode cX6_sheet 82 = .ok (.invokevirtual 169, 3) := by decide +kernel
theorem dX6_sheet_85 : decode cX6_sheet 85 = .ok (.ireturn, 1) := by decide +kernel
theorem dX6_sheet_86 : decode cX6_sheet 86 = .ok (.iload_n 3, 1) := by decide +kernel
theorem dX6_sheet_87 : decode cX6_sheet 87 = .ok (.iconst 3, 1) := by decide +kernel
theorem dX6_sheet_88 : decode cX6_sheet 88 = .ok (.bipush 8, 2) := by decide +kernel
theorem dX6_sheet_90 : decode cX6_sheet 90 = .ok (.invokestatic 129, 3) := by decide +kernel
theorem dX6_sheet_93 : decode cX6_sheet 93 = .ok (.ifCond .eq 18, 3) := by decide +kernel
theorem dX6_sheet_96 : decode cX6_sheet 96 = .ok (.aload_n 0, 1) := by decide +kernel
theorem dX6_sheet_97 : decode cX6_sheet 97 = .ok (.getfield 35, 3) := by decide +kernel
theorem dX6_sheet_100 : decode cX6_sheet 100 = .ok (.iload 4, 2) := by decide +kernel
theorem dX6_sheet_102 : decode cX6_sheet 102 = .ok (.iload_n 3, 1) := by decide +kernel
theorem dX6_sheet_103 : decode cX6_sheet 103 = .ok (.iconst 3, 1) := by decide +kernel
theorem dX6_sheet_104 : decode cX6_sheet 104 = .ok (.isub, 1) := by decide +kernel
theorem dX6_sheet_105 : decode cX6_sheet 105 = .ok (.invokevirtual 169, 3) := by decide +kernel
theorem dX6_sheet_108 : decode cX6_sheet 108 = .ok (.goto 5, 3) := by decide +kernel
theorem dX6_sheet_111 : decode cX6_sheet 111 = .ok (.ldc 125, 2) := by decide +kernel
theorem dX6_sheet_113 : decode cX6_sheet 113 = .ok (.ireturn, 1) := by decide +kernel
theorem dX6_wins_0 : decode cX6_wins 0 = .ok (.aload_n 0, 1) := by decide +kernel
theorem dX6_wins_1 : decode cX6_wins 1 = .ok (.getfield 35, 3) := by decide +kernel
theorem dX6_wins_4 : decode cX6_wins 4 = .ok (.iload_n 1, 1) := by decide +kernel
theorem dX6_wins_5 : decode cX6_wins 5 = .ok (.iload_n 2, 1) := by decide +kernel
theorem dX6_wins_6 : decode cX6_wins 6 = .ok (.invokevirtual 148, 3) := by decide +kernel
theorem dX6_wins_9 : decode cX6_wins 9 = .ok (.ifCond .ne 5, 3) := by decide +kernel
theorem dX6_wins_12 : decode cX6_wins 12 = .ok (.iconst (-1), 1) := by decide +kernel
theorem dX6_wins_13 : decode cX6_wins 13 = .ok (.ireturn, 1) := by decide +kernel
theorem dX6_wins_14 : decode cX6_wins 14 = .ok (.iload_n 1, 1) := by decide +kernel
theorem dX6_wins_15 : decode cX6_wins 15 = .ok (.iload_n 2, 1) := by decide +kernel
theorem dX6_wins_16 : decode cX6_wins 16 = .ok (.invokestatic 150, 3) := by decide +kernel
theorem dX6_wins_19 : decode cX6_wins 19 = .ok (.istore_n 3, 1) := by decide +kernel
theorem dX6_wins_20 : decode cX6_wins 20 = .ok (.aload_n 0, 1) := by decide +kernel
theorem dX6_wins_21 : decode cX6_wins 21 = .ok (.getfield 35, 3) := by decide +kernel
theorem dX6_wins_24 : decode cX6_wins 24 = .ok (.iload_n 3, 1) := by decide +kernel
theorem dX6_wins_25 : decode cX6_wins 25 = .ok (.invokevirtual 172, 3) := by decide +kernel
theorem dX6_wins_28 : decode cX6_wins 28 = .ok (.ifCond .eq 5, 3) := by decide +kernel
theorem dX6_wins_31 : decode cX6_wins 31 = .ok (.iconst 2, 1) := by decide +kernel
theorem dX6_wins_32 : decode cX6_wins 32 = .ok (.ireturn, 1) := by decide +kernel
theorem dX6_wins_33 : decode cX6_wins 33 = .ok (.aload_n 0, 1) := by decide +kernel
theorem dX6_wins_34 : decode cX6_wins 34 = .ok (.getfield 35, 3) := by decide +kernel
theorem dX6_wins_37 : decode cX6_wins 37 = .ok (.iload_n 3, 1) := by decide +kernel
theorem dX6_wins_38 : decode cX6_wins 38 = .ok (.invokevirtual 175, 3) := by decide +kernel
theorem dX6_wins_41 : decode cX6_wins 41 = .ok (.ifCond .eq 7, 3) := by decide +kernel
theorem dX6_wins_44 : decode cX6_wins 44 = .ok (.iconst 1, 1) := by decide +kernel
theorem dX6_wins_45 : decode cX6_wins 45 = .ok (.goto 4, 3) := by decide +kernel
theorem dX6_wins_48 : decode cX6_wins 48 = .ok (.iconst 0, 1) := by decide +kernel
theorem dX6_wins_49 : decode cX6_wins 49 = .ok (.ireturn, 1) := by decide +kernel
theorem dX6_won_0 : decode cX6_won 0 = .ok (.aload_n 0, 1) := by decide +kernel
theorem dX6_won_1 : decode cX6_won 1 = .ok (.getfield 10, 3) := by decide +kernel
theorem dX6_won_4 : decode cX6_won 4 = .ok (.iload_n 1, 1) := by decide +kernel
theorem dX6_won_5 : decode cX6_won 5 = .ok (.invokevirtual 69, 3) := by decide +kernel
theorem dX6_won_8 : decode cX6_won 8 = .ok (.ifCond .eq 14, 3) := by decide +kernel
theorem dX6_won_11 : decode cX6_won 11 = .ok (.aload_n 0, 1) := by decide +kernel
theorem dX6_won_12 : decode cX6_won 12 = .ok (.getfield 35, 3) := by decide +kernel
theorem dX6_won_15 : decode cX6_won 15 = .ok (.iload_n 1, 1) := by decide +kernel
theorem dX6_won_16 : decode cX6_won 16 = .ok (.invokevirtual 178, 3) := by decide +kernel
theorem dX6_won_19 : decode cX6_won 19 = .ok (.goto 4, 3) := by decide +kernel
theorem dX6_won_22 : decode cX6_won 22 = .ok (.iconst (-1), 1) := by decide +kernel
theorem dX6_won_23 : decode cX6_won 23 = .ok (.ireturn, 1) := by decide +kernel
theorem dX6_best_0 : decode cX6_best 0 = .ok (.aload_n 0, 1) := by decide +kernel
theorem dX6_best_1 : decode cX6_best 1 = .ok (.getfield 10, 3) := by decide +kernel
theorem dX6_best_4 : decode cX6_best 4 = .ok (.invokevirtual 181, 3) := by decide +kernel
theorem dX6_best_7 : decode cX6_best 7 = .ok (.ifCond .ne 6, 3) := by decide +kernel
theorem dX6_best_10 : decode cX6_best 10 = .ok (.bipush (-4), 2) := by decide +kernel
theorem dX6_best_12 : decode cX6_best 12 = .ok (.ireturn, 1) := by decide +kernel
theorem dX6_best_13 : decode cX6_best 13 = .ok (.iconst 0, 1) := by decide +kernel
theorem dX6_best_14 : decode cX6_best 14 = .ok (.istore_n 1, 1) := by decide +kernel
theorem dX6_best_15 : decode cX6_best 15 = .ok (.iconst 1, 1) := by decide +kernel
theorem dX6_best_16 : decode cX6_best 16 = .ok (.istore_n 2, 1) := by decide +kernel
theorem dX6_best_17 : decode cX6_best 17 = .ok (.iload_n 2, 1) := by decide +kernel
theorem dX6_best_18 : decode cX6_best 18 = .ok (.aload_n 0, 1) := by decide +kernel
theorem dX6_best_19 : decode cX6_best 19 = .ok (.getfield 10, 3) := by decide +kernel
theorem dX6_best_22 : decode cX6_best 22 = .ok (.invokevirtual 181, 3) := by decide +kernel
theorem dX6_best_25 : decode cX6_best 25 = .ok (.if_icmp .ge 23, 3) := by decide +kernel
theorem dX6_best_28 : decode cX6_best 28 = .ok (.aload_n 0, 1) := by decide +kernel
theorem dX6_best_29 : decode cX6_best 29 = .ok (.getfield 35, 3) := by decide +kernel
theorem dX6_best_32 : decode cX6_best 32 = .ok (.iload_n 2, 1) := by decide +kernel
theorem dX6_best_33 : decode cX6_best 33 = .ok (.iload_n 1, 1) := by decide +kernel
theorem dX6_best_34 : decode cX6_best 34 = .ok (.invokevirtual 184, 3) := by decide +kernel
theorem dX6_best_37 : decode cX6_best 37 = .ok (.ifCond .eq 5, 3) := by decide +kernel
theorem dX6_best_40 : decode cX6_best 40 = .ok (.iload_n 2, 1) := by decide +kernel
theorem dX6_best_41 : decode cX6_best 41 = .ok (.istore_n 1, 1) := by decide +kernel
theorem dX6_best_42 : decode cX6_best 42 = .ok (.iinc 2 1, 3) := by decide +kernel
theorem dX6_best_45 : decode cX6_best 45 = .ok (.goto (-28), 3) := by decide +kernel
theorem dX6_best_48 : decode cX6_best 48 = .ok (.iload_n 1, 1) := by decide +kernel
theorem dX6_best_49 : decode cX6_best 49 = .ok (.ireturn, 1) := by decide +kernel
theorem dX6_owes_0 : decode cX6_owes 0 = .ok (.aload_n 0, 1) := by decide +kernel
theorem dX6_owes_1 : decode cX6_owes 1 = .ok (.getfield 10, 3) := by decide +kernel
theorem dX6_owes_4 : decode cX6_owes 4 = .ok (.iload_n 1, 1) := by decide +kernel
theorem dX6_owes_5 : decode cX6_owes 5 = .ok (.invokevirtual 69, 3) := by decide +kernel
theorem dX6_owes_8 : decode cX6_owes 8 = .ok (.ifCond .eq 14, 3) := by decide +kernel
theorem dX6_owes_11 : decode cX6_owes 11 = .ok (.aload_n 0, 1) := by decide +kernel
theorem dX6_owes_12 : decode cX6_owes 12 = .ok (.getfield 35, 3) := by decide +kernel
theorem dX6_owes_15 : decode cX6_owes 15 = .ok (.iload_n 1, 1) := by decide +kernel
theorem dX6_owes_16 : decode cX6_owes 16 = .ok (.invokevirtual 187, 3) := by decide +kernel
theorem dX6_owes_19 : decode cX6_owes 19 = .ok (.goto 4, 3) := by decide +kernel
theorem dX6_owes_22 : decode cX6_owes 22 = .ok (.iconst (-1), 1) := by decide +kernel
theorem dX6_owes_23 : decode cX6_owes 23 = .ok (.ireturn, 1) := by decide +kernel
theorem dX6_pay_0 : decode cX6_pay 0 = .ok (.aload_n 0, 1) := by decide +kernel
theorem dX6_pay_1 : decode cX6_pay 1 = .ok (.getfield 35, 3) := by decide +kernel
theorem dX6_pay_4 : decode cX6_pay 4 = .ok (.iload_n 1, 1) := by decide +kernel
theorem dX6_pay_5 : decode cX6_pay 5 = .ok (.iload_n 2, 1) := by decide +kernel
theorem dX6_pay_6 : decode cX6_pay 6 = .ok (.invokevirtual 148, 3) := by decide +kernel
theorem dX6_pay_9 : decode cX6_pay 9 = .ok (.ifCond .eq 13, 3) := by decide +kernel
theorem dX6_pay_12 : decode cX6_pay 12 = .ok (.iload_n 3, 1) := by decide +kernel
theorem dX6_pay_13 : decode cX6_pay 13 = .ok (.iconst 1, 1) := by decide +kernel
theorem dX6_pay_14 : decode cX6_pay 14 = .ok (.bipush 100, 2) := by decide +kernel
theorem dX6_pay_16 : decode cX6_pay 16 = .ok (.invokestatic 129, 3) := by decide +kernel
theorem dX6_pay_19 : decode cX6_pay 19 = .ok (.ifCond .ne 5, 3) := by decide +kernel
theorem dX6_pay_22 : decode cX6_pay 22 = .ok (.iconst (-1), 1) := by decide +kernel
theorem dX6_pay_23 : decode cX6_pay 23 = .ok (.ireturn, 1) := by decide +kernel
theorem dX6_pay_24 : decode cX6_pay 24 = .ok (.iload_n 1, 1) := by decide +kernel
theorem dX6_pay_25 : decode cX6_pay 25 = .ok (.iload_n 2, 1) := by decide +kernel
theorem dX6_pay_26 : decode cX6_pay 26 = .ok (.invokestatic 150, 3) := by decide +kernel
theorem dX6_pay_29 : decode cX6_pay 29 = .ok (.istore 4, 2) := by decide +kernel
theorem dX6_pay_31 : decode cX6_pay 31 = .ok (.aload_n 0, 1) := by decide +kernel
theorem dX6_pay_32 : decode cX6_pay 32 = .ok (.getfield 35, 3) := by decide +kernel
theorem dX6_pay_35 : decode cX6_pay 35 = .ok (.iload 4, 2) := by decide +kernel
theorem dX6_pay_37 : decode cX6_pay 37 = .ok (.invokevirtual 190, 3) := by decide +kernel
theorem dX6_pay_40 : decode cX6_pay 40 = .ok (.iload_n 3, 1) := by decide +kernel
theorem dX6_pay_41 : decode cX6_pay 41 = .ok (.if_icmp .ge 6, 3) := by decide +kernel
theorem dX6_pay_44 : decode cX6_pay 44 = .ok (.bipush (-4), 2) := by decide +kernel
theorem dX6_pay_46 : decode cX6_pay 46 = .ok (.ireturn, 1) := by decide +kernel
theorem dX6_pay_47 : decode cX6_pay 47 = .ok (.aload_n 0, 1) := by decide +kernel
theorem dX6_pay_48 : decode cX6_pay 48 = .ok (.getfield 35, 3) := by decide +kernel
theorem dX6_pay_51 : decode cX6_pay 51 = .ok (.iload 4, 2) := by decide +kernel
theorem dX6_pay_53 : decode cX6_pay 53 = .ok (.iload_n 3, 1) := by decide +kernel
theorem dX6_pay_54 : decode cX6_pay 54 = .ok (.invokevirtual 193, 3) := by decide +kernel
theorem dX6_pay_57 : decode cX6_pay 57 = .ok (.aload_n 0, 1) := by decide +kernel
theorem dX6_pay_58 : decode cX6_pay 58 = .ok (.getfield 35, 3) := by decide +kernel
theorem dX6_pay_61 : decode cX6_pay 61 = .ok (.iload 4, 2) := by decide +kernel
theorem dX6_pay_63 : decode cX6_pay 63 = .ok (.invokevirtual 190, 3) := by decide +kernel
theorem dX6_pay_66 : decode cX6_pay 66 = .ok (.ireturn, 1) := by decide +kernel
theorem dX6_purse_0 : decode cX6_purse 0 = .ok (.aload_n 0, 1) := by decide +kernel
theorem dX6_purse_1 : decode cX6_purse 1 = .ok (.getfield 10, 3) := by decide +kernel
theorem dX6_purse_4 : decode cX6_purse 4 = .ok (.iload_n 1, 1) := by decide +kernel
theorem dX6_purse_5 : decode cX6_purse 5 = .ok (.invokevirtual 69, 3) := by decide +kernel
theorem dX6_purse_8 : decode cX6_purse 8 = .ok (.ifCond .eq 14, 3) := by decide +kernel
theorem dX6_purse_11 : decode cX6_purse 11 = .ok (.aload_n 0, 1) := by decide +kernel
theorem dX6_purse_12 : decode cX6_purse 12 = .ok (.getfield 35, 3) := by decide +kernel
theorem dX6_purse_15 : decode cX6_purse 15 = .ok (.iload_n 1, 1) := by decide +kernel
theorem dX6_purse_16 : decode cX6_purse 16 = .ok (.invokevirtual 196, 3) := by decide +kernel
theorem dX6_purse_19 : decode cX6_purse 19 = .ok (.goto 5, 3) := by decide +kernel
theorem dX6_purse_22 : decode cX6_purse 22 = .ok (.ldc 125, 2) := by decide +kernel
theorem dX6_purse_24 : decode cX6_purse 24 = .ok (.ireturn, 1) := by decide +kernel
theorem dX6_challenge_0 : decode cX6_challenge 0 = .ok (.aload_n 0, 1) := by decide +kernel
theorem dX6_challenge_1 : decode cX6_challenge 1 = .ok (.getfield 10, 3) := by decide +kernel
theorem dX6_challenge_4 : decode cX6_challenge 4 = .ok (.iload_n 1, 1) := by decide +kernel
theorem dX6_challenge_5 : decode cX6_challenge 5 = .ok (.iload_n 2, 1) := by decide +kernel
theorem dX6_challenge_6 : decode cX6_challenge 6 = .ok (.invokevirtual 136, 3) := by decide +kernel
theorem dX6_challenge_9 : decode cX6_challenge 9 = .ok (.ifCond .ne 5, 3) := by decide +kernel
theorem dX6_challenge_12 : decode cX6_challenge 12 = .ok (.iconst (-1), 1) := by decide +kernel
theorem dX6_challenge_13 : decode cX6_challenge 13 = .ok (.ireturn, 1) := by decide +kernel
theorem dX6_challenge_14 : decode cX6_challenge 14 = .ok (.aload_n 0, 1) := by decide +kernel
theorem dX6_challenge_15 : decode cX6_challenge 15 = .ok (.getfield 42, 3) := by decide +kernel
theorem dX6_challenge_18 : decode cX6_challenge 18 = .ok (.iload_n 1, 1) := by decide +kernel
theorem dX6_challenge_19 : decode cX6_challenge 19 = .ok (.iload_n 2, 1) := by decide +kernel
theorem dX6_challenge_20 : decode cX6_challenge 20 = .ok (.invokevirtual 199, 3) := by decide +kernel
theorem dX6_challenge_23 : decode cX6_challenge 23 = .ok (.ifCond .eq 6, 3) := by decide +kernel
theorem dX6_challenge_26 : decode cX6_challenge 26 = .ok (.bipush (-3), 2) := by decide +kernel
theorem dX6_challenge_28 : decode cX6_challenge 28 = .ok (.ireturn, 1) := by decide +kernel
theorem dX6_challenge_29 : decode cX6_challenge 29 = .ok (.aload_n 0, 1) := by decide +kernel
theorem dX6_challenge_30 : decode cX6_challenge 30 = .ok (.getfield 42, 3) := by decide +kernel
theorem dX6_challenge_33 : decode cX6_challenge 33 = .ok (.invokevirtual 202, 3) := by decide +kernel
theorem dX6_challenge_36 : decode cX6_challenge 36 = .ok (.ifCond .eq 6, 3) := by decide +kernel
theorem dX6_challenge_39 : decode cX6_challenge 39 = .ok (.bipush (-2), 2) := by decide +kernel
theorem dX6_challenge_41 : decode cX6_challenge 41 = .ok (.ireturn, 1) := by decide +kernel
theorem dX6_challenge_42 : decode cX6_challenge 42 = .ok (.aload_n 0, 1) := by decide +kernel
theorem dX6_challenge_43 : decode cX6_challenge 43 = .ok (.getfield 42, 3) := by decide +kernel
theorem dX6_challenge_46 : decode cX6_challenge 46 = .ok (.iload_n 1, 1) := by decide +kernel
theorem dX6_challenge_47 : decode cX6_challenge 47 = .ok (.iload_n 2, 1) := by decide +kernel
theorem dX6_challenge_48 : decode cX6_challenge 48 = .ok (.invokevirtual 203, 3) := by decide +kernel
theorem dX6_challenge_51 : decode cX6_challenge 51 = .ok (.ireturn, 1) := by decide +kernel
theorem dX6_withdraw_0 : decode cX6_withdraw 0 = .ok (.aload_n 0, 1) := by decide +kernel
theorem dX6_withdraw_1 : decode cX6_withdraw 1 = .ok (.getfield 42, 3) := by decide +kernel
theorem dX6_withdraw_4 : decode cX6_withdraw 4 = .ok (.invokevirtual 206, 3) := by decide +kernel
theorem dX6_withdraw_7 : decode cX6_withdraw 7 = .ok (.ifCond .ne 6, 3) := by decide +kernel
theorem dX6_withdraw_10 : decode cX6_withdraw 10 = .ok (.bipush (-4), 2) := by decide +kernel
theorem dX6_withdraw_12 : decode cX6_withdraw 12 = .ok (.ireturn, 1) := by decide +kernel
theorem dX6_withdraw_13 : decode cX6_withdraw 13 = .ok (.aload_n 0, 1) := by decide +kernel
theorem dX6_withdraw_14 : decode cX6_withdraw 14 = .ok (.getfield 42, 3) := by decide +kernel
theorem dX6_withdraw_17 : decode cX6_withdraw 17 = .ok (.invokevirtual 207, 3) := by decide +kernel
theorem dX6_withdraw_20 : decode cX6_withdraw 20 = .ok (.aload_n 0, 1) := by decide +kernel
theorem dX6_withdraw_21 : decode cX6_withdraw 21 = .ok (.getfield 42, 3) := by decide +kernel
theorem dX6_withdraw_24 : decode cX6_withdraw 24 = .ok (.invokevirtual 206, 3) := by decide +kernel
theorem dX6_withdraw_27 : decode cX6_withdraw 27 = .ok (.ireturn, 1) := by decide +kernel
theorem dX6_turn_0 : decode cX6_turn 0 = .ok (.iload_n 1, 1) := by decide +kernel
theorem dX6_turn_1 : decode cX6_turn 1 = .ok (.iconst 0, 1) := by decide +kernel
theorem dX6_turn_2 : decode cX6_turn 2 = .ok (.aload_n 0, 1) := by decide +kernel
theorem dX6_turn_3 : decode cX6_turn 3 = .ok (.getfield 42, 3) := by decide +kernel
theorem dX6_turn_6 : decode cX6_turn 6 = .ok (.invokevirtual 206, 3) := by decide +kernel
theorem dX6_turn_9 : decode cX6_turn 9 = .ok (.iconst 1, 1) := by decide +kernel
theorem dX6_turn_10 : decode cX6_turn 10 = .ok (.isub, 1) := by decide +kernel
theorem dX6_turn_11 : decode cX6_turn 11 = .ok (.invokestatic 129, 3) := by decide +kernel
theorem dX6_turn_14 : decode cX6_turn 14 = .ok (.ifCond .ne 5, 3) := by decide +kernel
theorem dX6_turn_17 : decode cX6_turn 17 = .ok (.iconst (-1), 1) := by decide +kernel
theorem dX6_turn_18 : decode cX6_turn 18 = .ok (.ireturn, 1) := by decide +kernel
theorem dX6_turn_19 : decode cX6_turn 19 = .ok (.aload_n 0, 1) := by decide +kernel
theorem dX6_turn_20 : decode cX6_turn 20 = .ok (.getfield 42, 3) := by decide +kernel
theorem dX6_turn_23 : decode cX6_turn 23 = .ok (.invokevirtual 210, 3) := by decide +kernel
theorem dX6_turn_26 : decode cX6_turn 26 = .ok (.aload_n 0, 1) := by decide +kernel
theorem dX6_turn_27 : decode cX6_turn 27 = .ok (.getfield 42, 3) := by decide +kernel
theorem dX6_turn_30 : decode cX6_turn 30 = .ok (.iload_n 1, 1) := by decide +kernel
theorem dX6_turn_31 : decode cX6_turn 31 = .ok (.invokevirtual 213, 3) := by decide +kernel
theorem dX6_turn_34 : decode cX6_turn 34 = .ok (.ireturn, 1) := by decide +kernel
theorem dX6_turns_0 : decode cX6_turns 0 = .ok (.aload_n 0, 1) := by decide +kernel
theorem dX6_turns_1 : decode cX6_turns 1 = .ok (.getfield 42, 3) := by decide +kernel
theorem dX6_turns_4 : decode cX6_turns 4 = .ok (.invokevirtual 210, 3) := by decide +kernel
theorem dX6_turns_7 : decode cX6_turns 7 = .ok (.aload_n 0, 1) := by decide +kernel
theorem dX6_turns_8 : decode cX6_turns 8 = .ok (.getfield 42, 3) := by decide +kernel
theorem dX6_turns_11 : decode cX6_turns 11 = .ok (.invokevirtual 216, 3) := by decide +kernel
theorem dX6_turns_14 : decode cX6_turns 14 = .ok (.ireturn, 1) := by decide +kernel
theorem dX6_feud_0 : decode cX6_feud 0 = .ok (.aload_n 0, 1) := by decide +kernel
theorem dX6_feud_1 : decode cX6_feud 1 = .ok (.getfield 10, 3) := by decide +kernel
theorem dX6_feud_4 : decode cX6_feud 4 = .ok (.iload_n 1, 1) := by decide +kernel
theorem dX6_feud_5 : decode cX6_feud 5 = .ok (.iload_n 2, 1) := by decide +kernel
theorem dX6_feud_6 : decode cX6_feud 6 = .ok (.invokevirtual 136, 3) := by decide +kernel
theorem dX6_feud_9 : decode cX6_feud 9 = .ok (.ifCond .ne 5, 3) := by decide +kernel
theorem dX6_feud_12 : decode cX6_feud 12 = .ok (.iconst (-1), 1) := by decide +kernel
theorem dX6_feud_13 : decode cX6_feud 13 = .ok (.ireturn, 1) := by decide +kernel
theorem dX6_feud_14 : decode cX6_feud 14 = .ok (.aload_n 0, 1) := by decide +kernel
theorem dX6_feud_15 : decode cX6_feud 15 = .ok (.getfield 49, 3) := by decide +kernel
theorem dX6_feud_18 : decode cX6_feud 18 = .ok (.iload_n 1, 1) := by decide +kernel
theorem dX6_feud_19 : decode cX6_feud 19 = .ok (.iload_n 2, 1) := by decide +kernel
theorem dX6_feud_20 : decode cX6_feud 20 = .ok (.invokevirtual 219, 3) := by decide +kernel
theorem dX6_feud_23 : decode cX6_feud 23 = .ok (.iload_n 3, 1) := by decide +kernel
theorem dX6_feud_24 : decode cX6_feud 24 = .ok (.if_icmp .ne 5, 3) := by decide +kernel
theorem dX6_feud_27 : decode cX6_feud 27 = .ok (.iconst 0, 1) := by decide +kernel
theorem dX6_feud_28 : decode cX6_feud 28 = .ok (.ireturn, 1) := by decide +kernel
theorem dX6_feud_29 : decode cX6_feud 29 = .ok (.aload_n 0, 1) := by decide +kernel
theorem dX6_feud_30 : decode cX6_feud 30 = .ok (.getfield 49, 3) := by decide +kernel
theorem dX6_feud_33 : decode cX6_feud 33 = .ok (.iload_n 1, 1) := by decide +kernel
theorem dX6_feud_34 : decode cX6_feud 34 = .ok (.iload_n 2, 1) := by decide +kernel
theorem dX6_feud_35 : decode cX6_feud 35 = .ok (.iload_n 3, 1) := by decide +kernel
theorem dX6_feud_36 : decode cX6_feud 36 = .ok (.invokevirtual 222, 3) := by decide +kernel
theorem dX6_feud_39 : decode cX6_feud 39 = .ok (.iconst 1, 1) := by decide +kernel
theorem dX6_feud_40 : decode cX6_feud 40 = .ok (.ireturn, 1) := by decide +kernel
theorem dX6_tent_0 : decode cX6_tent 0 = .ok (.iload_n 1, 1) := by decide +kernel
theorem dX6_tent_1 : decode cX6_tent 1 = .ok (.iconst 0, 1) := by decide +kernel
theorem dX6_tent_2 : decode cX6_tent 2 = .ok (.bipush 6, 2) := by decide +kernel
theorem dX6_tent_4 : decode cX6_tent 4 = .ok (.invokestatic 129, 3) := by decide +kernel
theorem dX6_tent_7 : decode cX6_tent 7 = .ok (.ifCond .ne 5, 3) := by decide +kernel
theorem dX6_tent_10 : decode cX6_tent 10 = .ok (.iconst (-1), 1) := by decide +kernel
theorem dX6_tent_11 : decode cX6_tent 11 = .ok (.ireturn, 1) := by decide +kernel
theorem dX6_tent_12 : decode cX6_tent 12 = .ok (.iload_n 1, 1) := by decide +kernel
theorem dX6_tent_13 : decode cX6_tent 13 = .ok (.aload_n 0, 1) := by decide +kernel
theorem dX6_tent_14 : decode cX6_tent 14 = .ok (.getfield 49, 3) := by decide +kernel
theorem dX6_tent_17 : decode cX6_tent 17 = .ok (.aload_n 0, 1) := by decide +kernel
theorem dX6_tent_18 : decode cX6_tent 18 = .ok (.getfield 10, 3) := by decide +kernel
theorem dX6_tent_21 : decode cX6_tent 21 = .ok (.invokevirtual 226, 3) := by decide +kernel
theorem dX6_tent_24 : decode cX6_tent 24 = .ok (.if_icmp .ge 14, 3) := by decide +kernel
theorem dX6_tent_27 : decode cX6_tent 27 = .ok (.aload_n 0, 1) := by decide +kernel
theorem dX6_tent_28 : decode cX6_tent 28 = .ok (.getfield 49, 3) := by decide +kernel
theorem dX6_tent_31 : decode cX6_tent 31 = .ok (.iload_n 1, 1) := by decide +kernel
theorem dX6_tent_32 : decode cX6_tent 32 = .ok (.invokevirtual 230, 3) := by decide +kernel
theorem dX6_tent_35 : decode cX6_tent 35 = .ok (.goto 5, 3) := by decide +kernel
theorem dX6_tent_38 : decode cX6_tent 38 = .ok (.bipush (-4), 2) := by decide +kernel
theorem dX6_tent_40 : decode cX6_tent 40 = .ok (.ireturn, 1) := by decide +kernel
theorem dX6_many_0 : decode cX6_many 0 = .ok (.iload_n 1, 1) := by decide +kernel
theorem dX6_many_1 : decode cX6_many 1 = .ok (.tableswitch 135 0 9 #[55, 63, 71, 79, 87, 95, 103, 111, 119, 127], 55) := by decide +kernel
theorem dX6_many_56 : decode cX6_many 56 = .ok (.aload_n 0, 1) := by decide +kernel
theorem dX6_many_57 : decode cX6_many 57 = .ok (.getfield 10, 3) := by decide +kernel
theorem dX6_many_60 : decode cX6_many 60 = .ok (.invokevirtual 181, 3) := by decide +kernel
theorem dX6_many_63 : decode cX6_many 63 = .ok (.ireturn, 1) := by decide +kernel
theorem dX6_many_64 : decode cX6_many 64 = .ok (.aload_n 0, 1) := by decide +kernel
theorem dX6_many_65 : decode cX6_many 65 = .ok (.getfield 19, 3) := by decide +kernel
theorem dX6_many_68 : decode cX6_many 68 = .ok (.invokevirtual 233, 3) := by decide +kernel
theorem dX6_many_71 : decode cX6_many 71 = .ok (.ireturn, 1) := by decide +kernel
theorem dX6_many_72 : decode cX6_many 72 = .ok (.aload_n 0, 1) := by decide +kernel
theorem dX6_many_73 : decode cX6_many 73 = .ok (.getfield 19, 3) := by decide +kernel
theorem dX6_many_76 : decode cX6_many 76 = .ok (.invokevirtual 140, 3) := by decide +kernel
theorem dX6_many_79 : decode cX6_many 79 = .ok (.ireturn, 1) := by decide +kernel
theorem dX6_many_80 : decode cX6_many 80 = .ok (.aload_n 0, 1) := by decide +kernel
theorem dX6_many_81 : decode cX6_many 81 = .ok (.getfield 35, 3) := by decide +kernel
theorem dX6_many_84 : decode cX6_many 84 = .ok (.invokevirtual 234, 3) := by decide +kernel
theorem dX6_many_87 : decode cX6_many 87 = .ok (.ireturn, 1) := by decide +kernel
theorem dX6_many_88 : decode cX6_many 88 = .ok (.aload_n 0, 1) := by decide +kernel
theorem dX6_many_89 : decode cX6_many 89 = .ok (.getfield 42, 3) := by decide +kernel
theorem dX6_many_92 : decode cX6_many 92 = .ok (.invokevirtual 206, 3) := by decide +kernel
theorem dX6_many_95 : decode cX6_many 95 = .ok (.ireturn, 1) := by decide +kernel
theorem dX6_many_96 : decode cX6_many 96 = .ok (.aload_n 0, 1) := by decide +kernel
theorem dX6_many_97 : decode cX6_many 97 = .ok (.getfield 49, 3) := by decide +kernel
theorem dX6_many_100 : decode cX6_many 100 = .ok (.invokevirtual 235, 3) := by decide +kernel
theorem dX6_many_103 : decode cX6_many 103 = .ok (.ireturn, 1) := by decide +kernel
theorem dX6_many_104 : decode cX6_many 104 = .ok (.aload_n 0, 1) := by decide +kernel
theorem dX6_many_105 : decode cX6_many 105 = .ok (.getfield 26, 3) := by decide +kernel
theorem dX6_many_108 : decode cX6_many 108 = .ok (.invokevirtual 106, 3) := by decide +kernel
theorem dX6_many_111 : decode cX6_many 111 = .ok (.ireturn, 1) := by decide +kernel
theorem dX6_many_112 : decode cX6_many 112 = .ok (.aload_n 0, 1) := by decide +kernel
theorem dX6_many_113 : decode cX6_many 113 = .ok (.getfield 10, 3) := by decide +kernel
theorem dX6_many_116 : decode cX6_many 116 = .ok (.invokevirtual 238, 3) := by decide +kernel
theorem dX6_many_119 : decode cX6_many 119 = .ok (.ireturn, 1) := by decide +kernel
theorem dX6_many_120 : decode cX6_many 120 = .ok (.aload_n 0, 1) := by decide +kernel
theorem dX6_many_121 : decode cX6_many 121 = .ok (.getfield 35, 3) := by decide +kernel
theorem dX6_many_124 : decode cX6_many 124 = .ok (.invokevirtual 241, 3) := by decide +kernel
theorem dX6_many_127 : decode cX6_many 127 = .ok (.ireturn, 1) := by decide +kernel
theorem dX6_many_128 : decode cX6_many 128 = .ok (.aload_n 0, 1) := by decide +kernel
theorem dX6_many_129 : decode cX6_many 129 = .ok (.getfield 35, 3) := by decide +kernel
theorem dX6_many_132 : decode cX6_many 132 = .ok (.invokevirtual 244, 3) := by decide +kernel
theorem dX6_many_135 : decode cX6_many 135 = .ok (.ireturn, 1) := by decide +kernel
theorem dX6_many_136 : decode cX6_many 136 = .ok (.iconst (-1), 1) := by decide +kernel
theorem dX6_many_137 : decode cX6_many 137 = .ok (.ireturn, 1) := by decide +kernel
theorem dX6_isWithin_0 : decode cX6_isWithin 0 = .ok (.iload_n 0, 1) := by decide +kernel
theorem dX6_isWithin_1 : decode cX6_isWithin 1 = .ok (.iload_n 1, 1) := by decide +kernel
theorem dX6_isWithin_2 : decode cX6_isWithin 2 = .ok (.if_icmp .lt 12, 3) := by decide +kernel
theorem dX6_isWithin_5 : decode cX6_isWithin 5 = .ok (.iload_n 0, 1) := by decide +kernel
theorem dX6_isWithin_6 : decode cX6_isWithin 6 = .ok (.iload_n 2, 1) := by decide +kernel
theorem dX6_isWithin_7 : decode cX6_isWithin 7 = .ok (.if_icmp .gt 7, 3) := by decide +kernel
theorem dX6_isWithin_10 : decode cX6_isWithin 10 = .ok (.iconst 1, 1) := by decide +kernel
theorem dX6_isWithin_11 : decode cX6_isWithin 11 = .ok (.goto 4, 3) := by decide +kernel
theorem dX6_isWithin_14 : decode cX6_isWithin 14 = .ok (.iconst 0, 1) := by decide +kernel
theorem dX6_isWithin_15 : decode cX6_isWithin 15 = .ok (.ireturn, 1) := by decide +kernel
