theorem dX3_size_0 : decode cX3_size 0 = .ok (.aload_n 0, 1) := by decide +kernel
theorem dX3_size_1 : decode cX3_size 1 = .ok (.getfield 22, 3) := by decide +kernel
theorem dX3_size_4 : decode cX3_size 4 = .ok (.ireturn, 1) := by decide +kernel
theorem dX3_isFull_0 : decode cX3_isFull 0 = .ok (.aload_n 0, 1) := by decide +kernel
theorem dX3_isFull_1 : decode cX3_isFull 1 = .ok (.getfield 22, 3) := by decide +kernel
theorem dX3_isFull_4 : decode cX3_isFull 4 = .ok (.bipush 6, 2) := by decide +kernel
theorem dX3_isFull_6 : decode cX3_isFull 6 = .ok (.if_icmp .lt 7, 3) := by decide +kernel
theorem dX3_isFull_9 : decode cX3_isFull 9 = .ok (.iconst 1, 1) := by decide +kernel
theorem dX3_isFull_10 : decode cX3_isFull 10 = .ok (.goto 4, 3) := by decide +kernel
theorem dX3_isFull_13 : decode cX3_isFull 13 = .ok (.iconst 0, 1) := by decide +kernel
theorem dX3_isFull_14 : decode cX3_isFull 14 = .ok (.ireturn, 1) := by decide +kernel
theorem dX3_has_0 : decode cX3_has 0 = .ok (.iload_n 1, 1) := by decide +kernel
theorem dX3_has_1 : decode cX3_has 1 = .ok (.ifCond .lt 15, 3) := by decide +kernel
theorem dX3_has_4 : decode cX3_has 4 = .ok (.iload_n 1, 1) := by decide +kernel
theorem dX3_has_5 : decode cX3_has 5 = .ok (.aload_n 0, 1) := by decide +kernel
theorem dX3_has_6 : decode cX3_has 6 = .ok (.getfield 22, 3) := by decide +kernel
theorem dX3_has_9 : decode cX3_has 9 = .ok (.if_icmp .ge 7, 3) := by decide +kernel
theorem dX3_has_12 : decode cX3_has 12 = .ok (.iconst 1, 1) := by decide +kernel
theorem dX3_has_13 : decode cX3_has 13 = .ok (.goto 4, 3) := by decide +kernel
theorem dX3_has_16 : decode cX3_has 16 = .ok (.iconst 0, 1) := by decide +kernel
theorem dX3_has_17 : decode cX3_has 17 = .ok (.ireturn, 1) := by decide +kernel
theorem dX3_inForce_0 : decode cX3_inForce 0 = .ok (.aload_n 0, 1) := by decide +kernel
theorem dX3_inForce_1 : decode cX3_inForce 1 = .ok (.getfield 18, 3) := by decide +kernel
theorem dX3_inForce_4 : decode cX3_inForce 4 = .ok (.ireturn, 1) := by decide +kernel
theorem dX3_putInForce_0 : decode cX3_putInForce 0 = .ok (.aload_n 0, 1) := by decide +kernel
theorem dX3_putInForce_1 : decode cX3_putInForce 1 = .ok (.iload_n 1, 1) := by decide +kernel
theorem dX3_putInForce_2 : decode cX3_putInForce 2 = .ok (.putfield 18, 3) := by decide +kernel
theorem dX3_putInForce_5 : decode cX3_putInForce 5 = .ok (.return_, 1) := by decide +kernel
theorem dX3_worthOf_0 : decode cX3_worthOf 0 = .ok (.aload_n 0, 1) := by decide +kernel
theorem dX3_worthOf_1 : decode cX3_worthOf 1 = .ok (.getfield 9, 3) := by decide +kernel
theorem dX3_worthOf_4 : decode cX3_worthOf 4 = .ok (.iload_n 1, 1) := by decide +kernel
theorem dX3_worthOf_5 : decode cX3_worthOf 5 = .ok (.bipush 6, 2) := by decide +kernel
theorem dX3_worthOf_7 : decode cX3_worthOf 7 = .ok (.imul, 1) := by decide +kernel
theorem dX3_worthOf_8 : decode cX3_worthOf 8 = .ok (.iload_n 2, 1) := by decide +kernel
theorem dX3_worthOf_9 : decode cX3_worthOf 9 = .ok (.iadd, 1) := by decide +kernel
theorem dX3_worthOf_10 : decode cX3_worthOf 10 = .ok (.iaload, 1) := by decide +kernel
theorem dX3_worthOf_11 : decode cX3_worthOf 11 = .ok (.ireturn, 1) := by decide +kernel
theorem dX3_tieOf_0 : decode cX3_tieOf 0 = .ok (.aload_n 0, 1) := by decide +kernel
theorem dX3_tieOf_1 : decode cX3_tieOf 1 = .ok (.getfield 15, 3) := by decide +kernel
theorem dX3_tieOf_4 : decode cX3_tieOf 4 = .ok (.iload_n 1, 1) := by decide +kernel
theorem dX3_tieOf_5 : decode cX3_tieOf 5 = .ok (.iaload, 1) := by decide +kernel
theorem dX3_tieOf_6 : decode cX3_tieOf 6 = .ok (.ireturn, 1) := by decide +kernel
theorem dX3_standingOf_0 : decode cX3_standingOf 0 = .ok (.iload_n 2, 1) := by decide +kernel
theorem dX3_standingOf_1 : decode cX3_standingOf 1 = .ok (.ifCond .eq 17, 3) := by decide +kernel
theorem dX3_standingOf_4 : decode cX3_standingOf 4 = .ok (.iload_n 2, 1) := by decide +kernel
theorem dX3_standingOf_5 : decode cX3_standingOf 5 = .ok (.aload_n 0, 1) := by decide +kernel
theorem dX3_standingOf_6 : decode cX3_standingOf 6 = .ok (.getfield 15, 3) := by decide +kernel
theorem dX3_standingOf_9 : decode cX3_standingOf 9 = .ok (.iload_n 1, 1) := by decide +kernel
theorem dX3_standingOf_10 : decode cX3_standingOf 10 = .ok (.iaload, 1) := by decide +kernel
theorem dX3_standingOf_11 : decode cX3_standingOf 11 = .ok (.if_icmp .ne 7, 3) := by decide +kernel
theorem dX3_standingOf_14 : decode cX3_standingOf 14 = .ok (.iconst 1, 1) := by decide +kernel
theorem dX3_standingOf_15 : decode cX3_standingOf 15 = .ok (.goto 4, 3) := by decide +kernel
theorem dX3_standingOf_18 : decode cX3_standingOf 18 = .ok (.iconst 0, 1) := by decide +kernel
theorem dX3_standingOf_19 : decode cX3_standingOf 19 = .ok (.istore_n 3, 1) := by decide +kernel
theorem dX3_standingOf_20 : decode cX3_standingOf 20 = .ok (.aload_n 0, 1) := by decide +kernel
theorem dX3_standingOf_21 : decode cX3_standingOf 21 = .ok (.getfield 9, 3) := by decide +kernel
theorem dX3_standingOf_24 : decode cX3_standingOf 24 = .ok (.iload_n 1, 1) := by decide +kernel
theorem dX3_standingOf_25 : decode cX3_standingOf 25 = .ok (.bipush 6, 2) := by decide +kernel
theorem dX3_standingOf_27 : decode cX3_standingOf 27 = .ok (.imul, 1) := by decide +kernel
theorem dX3_standingOf_28 : decode cX3_standingOf 28 = .ok (.iload_n 2, 1) := by decide +kernel
theorem dX3_standingOf_29 : decode cX3_standingOf 29 = .ok (.iadd, 1) := by decide +kernel
theorem dX3_standingOf_30 : decode cX3_standingOf 30 = .ok (.iaload, 1) := by decide +kernel
theorem dX3_standingOf_31 : decode cX3_standingOf 31 = .ok (.bipush 7, 2) := by decide +kernel
theorem dX3_standingOf_33 : decode cX3_standingOf 33 = .ok (.imul, 1) := by decide +kernel
theorem dX3_standingOf_34 : decode cX3_standingOf 34 = .ok (.iload_n 3, 1) := by decide +kernel
theorem dX3_standingOf_35 : decode cX3_standingOf 35 = .ok (.iadd, 1) := by decide +kernel
theorem dX3_standingOf_36 : decode cX3_standingOf 36 = .ok (.ireturn, 1) := by decide +kernel
theorem dX3_scoreIn_0 : decode cX3_scoreIn 0 = .ok (.iload_n 0, 1) := by decide +kernel
theorem dX3_scoreIn_1 : decode cX3_scoreIn 1 = .ok (.bipush 7, 2) := by decide +kernel
theorem dX3_scoreIn_3 : decode cX3_scoreIn 3 = .ok (.invokestatic 25, 3) := by decide +kernel
theorem dX3_scoreIn_6 : decode cX3_scoreIn 6 = .ok (.ireturn, 1) := by decide +kernel
theorem dX3_leastStanding_0 : decode cX3_leastStanding 0 = .ok (.iconst 0, 1) := by decide +kernel
theorem dX3_leastStanding_1 : decode cX3_leastStanding 1 = .ok (.istore_n 2, 1) := by decide +kernel
theorem dX3_leastStanding_2 : decode cX3_leastStanding 2 = .ok (.iconst 1, 1) := by decide +kernel
theorem dX3_leastStanding_3 : decode cX3_leastStanding 3 = .ok (.istore_n 3, 1) := by decide +kernel
theorem dX3_leastStanding_4 : decode cX3_leastStanding 4 = .ok (.iload_n 3, 1) := by decide +kernel
theorem dX3_leastStanding_5 : decode cX3_leastStanding 5 = .ok (.bipush 6, 2) := by decide +kernel
theorem dX3_leastStanding_7 : decode cX3_leastStanding 7 = .ok (.if_icmp .ge 20, 3) := by decide +kernel
theorem dX3_leastStanding_10 : decode cX3_leastStanding 10 = .ok (.iload_n 2, 1) := by decide +kernel
theorem dX3_leastStanding_11 : decode cX3_leastStanding 11 = .ok (.aload_n 0, 1) := by decide +kernel
theorem dX3_leastStanding_12 : decode cX3_leastStanding 12 = .ok (.iload_n 1, 1) := by decide +kernel
theorem dX3_leastStanding_13 : decode cX3_leastStanding 13 = .ok (.iload_n 3, 1) := by decide +kernel
theorem dX3_leastStanding_14 : decode cX3_leastStanding 14 = .ok (.invokevirtual 31, 3) := by decide +kernel
theorem dX3_leastStanding_17 : decode cX3_leastStanding 17 = .ok (.invokestatic 34, 3) := by decide +kernel
theorem dX3_leastStanding_20 : decode cX3_leastStanding 20 = .ok (.istore_n 2, 1) := by decide +kernel
theorem dX3_leastStanding_21 : decode cX3_leastStanding 21 = .ok (.iinc 3 1, 3) := by decide +kernel
theorem dX3_leastStanding_24 : decode cX3_leastStanding 24 = .ok (.goto (-20), 3) := by decide +kernel
theorem dX3_leastStanding_27 : decode cX3_leastStanding 27 = .ok (.iload_n 2, 1) := by decide +kernel
theorem dX3_leastStanding_28 : decode cX3_leastStanding 28 = .ok (.ireturn, 1) := by decide +kernel
theorem dX3_greatestStanding_0 : decode cX3_greatestStanding 0 = .ok (.iconst 0, 1) := by decide +kernel
theorem dX3_greatestStanding_1 : decode cX3_greatestStanding 1 = .ok (.istore_n 2, 1) := by decide +kernel
theorem dX3_greatestStanding_2 : decode cX3_greatestStanding 2 = .ok (.iconst 1, 1) := by decide +kernel
theorem dX3_greatestStanding_3 : decode cX3_greatestStanding 3 = .ok (.istore_n 3, 1) := by decide +kernel
theorem dX3_greatestStanding_4 : decode cX3_greatestStanding 4 = .ok (.iload_n 3, 1) := by decide +kernel
theorem dX3_greatestStanding_5 : decode cX3_greatestStanding 5 = .ok (.bipush 6, 2) := by decide +kernel
theorem dX3_greatestStanding_7 : decode cX3_greatestStanding 7 = .ok (.if_icmp .ge 20, 3) := by decide +kernel
theorem dX3_greatestStanding_10 : decode cX3_greatestStanding 10 = .ok (.iload_n 2, 1) := by decide +kernel
theorem dX3_greatestStanding_11 : decode cX3_greatestStanding 11 = .ok (.aload_n 0, 1) := by decide +kernel
theorem dX3_greatestStanding_12 : decode cX3_greatestStanding 12 = .ok (.iload_n 1, 1) := by decide +kernel
theorem dX3_greatestStanding_13 : decode cX3_greatestStanding 13 = .ok (.iload_n 3, 1) := by decide +kernel
theorem dX3_greatestStanding_14 : decode cX3_greatestStanding 14 = .ok (.invokevirtual 31, 3) := by decide +kernel
theorem dX3_greatestStanding_17 : decode cX3_greatestStanding 17 = .ok (.invokestatic 37, 3) := by decide +kernel
theorem dX3_greatestStanding_20 : decode cX3_greatestStanding 20 = .ok (.istore_n 2, 1) := by decide +kernel
theorem dX3_greatestStanding_21 : decode cX3_greatestStanding 21 = .ok (.iinc 3 1, 3) := by decide +kernel
theorem dX3_greatestStanding_24 : decode cX3_greatestStanding 24 = .ok (.goto (-20), 3) := by decide +kernel
theorem dX3_greatestStanding_27 : decode cX3_greatestStanding 27 = .ok (.iload_n 2, 1) := by decide +kernel
theorem dX3_greatestStanding_28 : decode cX3_greatestStanding 28 = .ok (.ireturn, 1) := by decide +kernel
theorem dX3_clearDraft_0 : decode cX3_clearDraft 0 = .ok (.iconst 0, 1) := by decide +kernel
theorem dX3_clearDraft_1 : decode cX3_clearDraft 1 = .ok (.istore_n 1, 1) := by decide +kernel
theorem dX3_clearDraft_2 : decode cX3_clearDraft 2 = .ok (.iload_n 1, 1) := by decide +kernel
theorem dX3_clearDraft_3 : decode cX3_clearDraft 3 = .ok (.bipush 6, 2) := by decide +kernel
theorem dX3_clearDraft_5 : decode cX3_clearDraft 5 = .ok (.if_icmp .ge 15, 3) := by decide +kernel
theorem dX3_clearDraft_8 : decode cX3_clearDraft 8 = .ok (.aload_n 0, 1) := by decide +kernel
theorem dX3_clearDraft_9 : decode cX3_clearDraft 9 = .ok (.iload_n 1, 1) := by decide +kernel
theorem dX3_clearDraft_10 : decode cX3_clearDraft 10 = .ok (.iconst 0, 1) := by decide +kernel
theorem dX3_clearDraft_11 : decode cX3_clearDraft 11 = .ok (.invokevirtual 40, 3) := by decide +kernel
theorem dX3_clearDraft_14 : decode cX3_clearDraft 14 = .ok (.iinc 1 1, 3) := by decide +kernel
theorem dX3_clearDraft_17 : decode cX3_clearDraft 17 = .ok (.goto (-15), 3) := by decide +kernel
theorem dX3_clearDraft_20 : decode cX3_clearDraft 20 = .ok (.aload_n 0, 1) := by decide +kernel
theorem dX3_clearDraft_21 : decode cX3_clearDraft 21 = .ok (.iconst 0, 1) := by decide +kernel
theorem dX3_clearDraft_22 : decode cX3_clearDraft 22 = .ok (.invokevirtual 44, 3) := by decide +kernel
theorem dX3_clearDraft_25 : decode cX3_clearDraft 25 = .ok (.return_, 1) := by decide +kernel
theorem dX3_draftWorth_0 : decode cX3_draftWorth 0 = .ok (.aload_n 0, 1) := by decide +kernel
theorem dX3_draftWorth_1 : decode cX3_draftWorth 1 = .ok (.getfield 9, 3) := by decide +kernel
theorem dX3_draftWorth_4 : decode cX3_draftWorth 4 = .ok (.aload_n 0, 1) := by decide +kernel
theorem dX3_draftWorth_5 : decode cX3_draftWorth 5 = .ok (.getfield 22, 3) := by decide +kernel
theorem dX3_draftWorth_8 : decode cX3_draftWorth 8 = .ok (.bipush 6, 2) := by decide +kernel
theorem dX3_draftWorth_10 : decode cX3_draftWorth 10 = .ok (.imul, 1) := by decide +kernel
theorem dX3_draftWorth_11 : decode cX3_draftWorth 11 = .ok (.iload_n 1, 1) := by decide +kernel
theorem dX3_draftWorth_12 : decode cX3_draftWorth 12 = .ok (.iadd, 1) := by decide +kernel
theorem dX3_draftWorth_13 : decode cX3_draftWorth 13 = .ok (.iload_n 2, 1) := by decide +kernel
theorem dX3_draftWorth_14 : decode cX3_draftWorth 14 = .ok (.iastore, 1) := by decide +kernel
theorem dX3_draftWorth_15 : decode cX3_draftWorth 15 = .ok (.return_, 1) := by decide +kernel
theorem dX3_draftTie_0 : decode cX3_draftTie 0 = .ok (.aload_n 0, 1) := by decide +kernel
theorem dX3_draftTie_1 : decode cX3_draftTie 1 = .ok (.getfield 15, 3) := by decide +kernel
theorem dX3_draftTie_4 : decode cX3_draftTie 4 = .ok (.aload_n 0, 1) := by decide +kernel
theorem dX3_draftTie_5 : decode cX3_draftTie 5 = .ok (.getfield 22, 3) := by decide +kernel
theorem dX3_draftTie_8 : decode cX3_draftTie 8 = .ok (.iload_n 1, 1) := by decide +kernel
theorem dX3_draftTie_9 : decode cX3_draftTie 9 = .ok (.iastore, 1) := by decide +kernel
theorem dX3_draftTie_10 : decode cX3_draftTie 10 = .ok (.return_, 1) := by decide +kernel
theorem dX3_keepDraft_0 : decode cX3_keepDraft 0 = .ok (.aload_n 0, 1) := by decide +kernel
theorem dX3_keepDraft_1 : decode cX3_keepDraft 1 = .ok (.aload_n 0, 1) := by decide +kernel
theorem dX3_keepDraft_2 : decode cX3_keepDraft 2 = .ok (.getfield 22, 3) := by decide +kernel
theorem dX3_keepDraft_5 : decode cX3_keepDraft 5 = .ok (.putfield 18, 3) := by decide +kernel
theorem dX3_keepDraft_8 : decode cX3_keepDraft 8 = .ok (.aload_n 0, 1) := by decide +kernel
theorem dX3_keepDraft_9 : decode cX3_keepDraft 9 = .ok (.dup, 1) := by decide +kernel
theorem dX3_keepDraft_10 : decode cX3_keepDraft 10 = .ok (.getfield 22, 3) := by decide +kernel
theorem dX3_keepDraft_13 : decode cX3_keepDraft 13 = .ok (.iconst 1, 1) := by decide +kernel
theorem dX3_keepDraft_14 : decode cX3_keepDraft 14 = .ok (.iadd, 1) := by decide +kernel
theorem dX3_keepDraft_15 : decode cX3_keepDraft 15 = .ok (.putfield 22, 3) := by decide +kernel
theorem dX3_keepDraft_18 : decode cX3_keepDraft 18 = .ok (.aload_n 0, 1) := by decide +kernel
theorem dX3_keepDraft_19 : decode cX3_keepDraft 19 = .ok (.getfield 18, 3) := by decide +kernel
theorem dX3_keepDraft_22 : decode cX3_keepDraft 22 = .ok (.ireturn, 1) := by decide +kernel
theorem dX5_length_0 : decode cX5_length 0 = .ok (.aload_n 0, 1) := by decide +kernel
theorem dX5_length_1 : decode cX5_length 1 = .ok (.getfield 15, 3) := by decide +kernel
theorem dX5_length_4 : decode cX5_length 4 = .ok (.ireturn, 1) := by decide +kernel
theorem dX5_wipe_0 : decode cX5_wipe 0 = .ok (.aload_n 0, 1) := by decide +kernel
theorem dX5_wipe_1 : decode cX5_wipe 1 = .ok (.getfield 15, 3) := by decide +kernel
theorem dX5_wipe_4 : decode cX5_wipe 4 = .ok (.istore_n 1, 1) := by decide +kernel
theorem dX5_wipe_5 : decode cX5_wipe 5 = .ok (.aload_n 0, 1) := by decide +kernel
theorem dX5_wipe_6 : decode cX5_wipe 6 = .ok (.iconst 0, 1) := by decide +kernel
theorem dX5_wipe_7 : decode cX5_wipe 7 = .ok (.putfield 15, 3) := by decide +kernel
theorem dX5_wipe_10 : decode cX5_wipe 10 = .ok (.iload_n 1, 1) := by decide +kernel
theorem dX5_wipe_11 : decode cX5_wipe 11 = .ok (.ireturn, 1) := by decide +kernel
theorem dX5_append_0 : decode cX5_append 0 = .ok (.iload_n 1, 1) := by decide +kernel
theorem dX5_append_1 : decode cX5_append 1 = .ok (.invokestatic 19, 3) := by decide +kernel
theorem dX5_append_4 : decode cX5_append 4 = .ok (.istore_n 2, 1) := by decide +kernel
theorem dX5_append_5 : decode cX5_append 5 = .ok (.aload_n 0, 1) := by decide +kernel
theorem dX5_append_6 : decode cX5_append 6 = .ok (.getfield 15, 3) := by decide +kernel
theorem dX5_append_9 : decode cX5_append 9 = .ok (.iload_n 2, 1) := by decide +kernel
theorem dX5_append_10 : decode cX5_append 10 = .ok (.iadd, 1) := by decide +kernel
theorem dX5_append_11 : decode cX5_append 11 = .ok (.bipush 60, 2) := by decide +kernel
theorem dX5_append_13 : decode cX5_append 13 = .ok (.if_icmp .le 5, 3) := by decide +kernel
theorem dX5_append_16 : decode cX5_append 16 = .ok (.iconst 0, 1) := by decide +kernel
theorem dX5_append_17 : decode cX5_append 17 = .ok (.ireturn, 1) := by decide +kernel
theorem dX5_append_18 : decode cX5_append 18 = .ok (.iconst 0, 1) := by decide +kernel
theorem dX5_append_19 : decode cX5_append 19 = .ok (.istore_n 3, 1) := by decide +kernel
theorem dX5_append_20 : decode cX5_append 20 = .ok (.iload_n 3, 1) := by decide +kernel
theorem dX5_append_21 : decode cX5_append 21 = .ok (.iload_n 2, 1) := by decide +kernel
theorem dX5_append_22 : decode cX5_append 22 = .ok (.if_icmp .ge 25, 3) := by decide +kernel
theorem dX5_append_25 : decode cX5_append 25 = .ok (.aload_n 0, 1) := by decide +kernel
theorem dX5_append_26 : decode cX5_append 26 = .ok (.getfield 9, 3) := by decide +kernel
theorem dX5_append_29 : decode cX5_append 29 = .ok (.aload_n 0, 1) := by decide +kernel
theorem dX5_append_30 : decode cX5_append 30 = .ok (.getfield 15, 3) := by decide +kernel
theorem dX5_append_33 : decode cX5_append 33 = .ok (.iload_n 3, 1) := by decide +kernel
theorem dX5_append_34 : decode cX5_append 34 = .ok (.iadd, 1) := by decide +kernel
theorem dX5_append_35 : decode cX5_append 35 = .ok (.iload_n 1, 1) := by decide +kernel
theorem dX5_append_36 : decode cX5_append 36 = .ok (.iload_n 3, 1) := by decide +kernel
theorem dX5_append_37 : decode cX5_append 37 = .ok (.invokestatic 23, 3) := by decide +kernel
theorem dX5_append_40 : decode cX5_append 40 = .ok (.iastore, 1) := by decide +kernel
theorem dX5_append_41 : decode cX5_append 41 = .ok (.iinc 3 1, 3) := by decide +kernel
theorem dX5_append_44 : decode cX5_append 44 = .ok (.goto (-24), 3) := by decide +kernel
theorem dX5_append_47 : decode cX5_append 47 = .ok (.aload_n 0, 1) := by decide +kernel
theorem dX5_append_48 : decode cX5_append 48 = .ok (.dup, 1) := by decide +kernel
theorem dX5_append_49 : decode cX5_append 49 = .ok (.getfield 15, 3) := by decide +kernel
theorem dX5_append_52 : decode cX5_append 52 = .ok (.iload_n 2, 1) := by decide +kernel
theorem dX5_append_53 : decode cX5_append 53 = .ok (.iadd, 1) := by decide +kernel
theorem dX5_append_54 : decode cX5_append 54 = .ok (.putfield 15, 3) := by decide +kernel
theorem dX5_append_57 : decode cX5_append 57 = .ok (.iconst 1, 1) := by decide +kernel
theorem dX5_append_58 : decode cX5_append 58 = .ok (.ireturn, 1) := by decide +kernel
theorem dX5_countLetters_0 : decode cX5_countLetters 0 = .ok (.iconst 0, 1) := by decide +kernel
theorem dX5_countLetters_1 : decode cX5_countLetters 1 = .ok (.istore_n 1, 1) := by decide +kernel
theorem dX5_countLetters_2 : decode cX5_countLetters 2 = .ok (.iload_n 1, 1) := by decide +kernel
theorem dX5_countLetters_3 : decode cX5_countLetters 3 = .ok (.iconst 4, 1) := by decide +kernel
theorem dX5_countLetters_4 : decode cX5_countLetters 4 = .ok (.if_icmp .ge 17, 3) := by decide +kernel
theorem dX5_countLetters_7 : decode cX5_countLetters 7 = .ok (.iload_n 0, 1) := by decide +kernel
theorem dX5_countLetters_8 : decode cX5_countLetters 8 = .ok (.iload_n 1, 1) := by decide +kernel
theorem dX5_countLetters_9 : decode cX5_countLetters 9 = .ok (.invokestatic 23, 3) := by decide +kernel
theorem dX5_countLetters_12 : decode cX5_countLetters 12 = .ok (.ifCond .eq 9, 3) := by decide +kernel
theorem dX5_countLetters_15 : decode cX5_countLetters 15 = .ok (.iinc 1 1, 3) := by decide +kernel
theorem dX5_countLetters_18 : decode cX5_countLetters 18 = .ok (.goto (-16), 3) := by decide +kernel
theorem dX5_countLetters_21 : decode cX5_countLetters 21 = .ok (.iload_n 1, 1) := by decide +kernel
theorem dX5_countLetters_22 : decode cX5_countLetters 22 = .ok (.ireturn, 1) := by decide +kernel
theorem dX5_letterIn_0 : decode cX5_letterIn 0 = .ok (.iload_n 0, 1) := by decide +kernel
theorem dX5_letterIn_1 : decode cX5_letterIn 1 = .ok (.bipush 8, 2) := by decide +kernel
theorem dX5_letterIn_3 : decode cX5_letterIn 3 = .ok (.iload_n 1, 1) := by decide +kernel
theorem dX5_letterIn_4 : decode cX5_letterIn 4 = .ok (.imul, 1) := by decide +kernel
theorem dX5_letterIn_5 : decode cX5_letterIn 5 = .ok (.iushr, 1) := by decide +kernel
theorem dX5_letterIn_6 : decode cX5_letterIn 6 = .ok (.sipush 255, 3) := by decide +kernel
theorem dX5_letterIn_9 : decode cX5_letterIn 9 = .ok (.iand, 1) := by decide +kernel
theorem dX5_letterIn_10 : decode cX5_letterIn 10 = .ok (.ireturn, 1) := by decide +kernel
theorem dX5_readInto_0 : decode cX5_readInto 0 = .ok (.aload_n 0, 1) := by decide +kernel
theorem dX5_readInto_1 : decode cX5_readInto 1 = .ok (.iconst 0, 1) := by decide +kernel
theorem dX5_readInto_2 : decode cX5_readInto 2 = .ok (.putfield 27, 3) := by decide +kernel
theorem dX5_readInto_5 : decode cX5_readInto 5 = .ok (.aload_n 0, 1) := by decide +kernel
theorem dX5_readInto_6 : decode cX5_readInto 6 = .ok (.iconst 0, 1) := by decide +kernel
theorem dX5_readInto_7 : decode cX5_readInto 7 = .ok (.putfield 30, 3) := by decide +kernel
theorem dX5_readInto_10 : decode cX5_readInto 10 = .ok (.aload_n 1, 1) := by decide +kernel
theorem dX5_readInto_11 : decode cX5_readInto 11 = .ok (.invokevirtual 33, 3) := by decide +kernel
theorem dX5_readInto_14 : decode cX5_readInto 14 = .ok (.aload_n 0, 1) := by decide +kernel
theorem dX5_readInto_15 : decode cX5_readInto 15 = .ok (.aload_n 1, 1) := by decide +kernel
theorem dX5_readInto_16 : decode cX5_readInto 16 = .ok (.invokevirtual 38, 3) := by decide +kernel
theorem dX5_readInto_19 : decode cX5_readInto 19 = .ok (.ifCond .eq 26, 3) := by decide +kernel
theorem dX5_readInto_22 : decode cX5_readInto 22 = .ok (.aload_n 0, 1) := by decide +kernel
theorem dX5_readInto_23 : decode cX5_readInto 23 = .ok (.aload_n 1, 1) := by decide +kernel
theorem dX5_readInto_24 : decode cX5_readInto 24 = .ok (.invokevirtual 42, 3) := by decide +kernel
theorem dX5_readInto_27 : decode cX5_readInto 27 = .ok (.ifCond .eq 18, 3) := by decide +kernel
theorem dX5_readInto_30 : decode cX5_readInto 30 = .ok (.aload_n 0, 1) := by decide +kernel
theorem dX5_readInto_31 : decode cX5_readInto 31 = .ok (.getfield 27, 3) := by decide +kernel
theorem dX5_readInto_34 : decode cX5_readInto 34 = .ok (.aload_n 0, 1) := by decide +kernel
theorem dX5_readInto_35 : decode cX5_readInto 35 = .ok (.getfield 15, 3) := by decide +kernel
theorem dX5_readInto_38 : decode cX5_readInto 38 = .ok (.if_icmp .ne 7, 3) := by decide +kernel
theorem dX5_readInto_41 : decode cX5_readInto 41 = .ok (.iconst 1, 1) := by decide +kernel
theorem dX5_readInto_42 : decode cX5_readInto 42 = .ok (.goto 4, 3) := by decide +kernel
theorem dX5_readInto_45 : decode cX5_readInto 45 = .ok (.iconst 0, 1) := by decide +kernel
theorem dX5_readInto_46 : decode cX5_readInto 46 = .ok (.istore_n 2, 1) := by decide +kernel
theorem dX5_readInto_47 : decode cX5_readInto 47 = .ok (.iload_n 2, 1) := by decide +kernel
theorem dX5_readInto_48 : decode cX5_readInto 48 = .ok (.ifCond .eq 7, 3) := by decide +kernel
theorem dX5_readInto_51 : decode cX5_readInto 51 = .ok (.iconst (-1), 1) := by decide +kernel
theorem dX5_readInto_52 : decode cX5_readInto 52 = .ok (.goto 7, 3) := by decide +kernel
theorem dX5_readInto_55 : decode cX5_readInto 55 = .ok (.aload_n 0, 1) := by decide +kernel
theorem dX5_readInto_56 : decode cX5_readInto 56 = .ok (.getfield 27, 3) := by decide +kernel
theorem dX5_readInto_59 : decode cX5_readInto 59 = .ok (.ireturn, 1) := by decide +kernel
theorem dX5_readItems_0 : decode cX5_readItems 0 = .ok (.iconst 0, 1) := by decide +kernel
theorem dX5_readItems_1 : decode cX5_readItems 1 = .ok (.istore_n 2, 1) := by decide +kernel
theorem dX5_readItems_2 : decode cX5_readItems 2 = .ok (.iload_n 2, 1) := by decide +kernel
theorem dX5_readItems_3 : decode cX5_readItems 3 = .ok (.bipush 6, 2) := by decide +kernel
theorem dX5_readItems_5 : decode cX5_readItems 5 = .ok (.if_icmp .ge 26, 3) := by decide +kernel
theorem dX5_readItems_8 : decode cX5_readItems 8 = .ok (.aload_n 0, 1) := by decide +kernel
theorem dX5_readItems_9 : decode cX5_readItems 9 = .ok (.invokevirtual 45, 3) := by decide +kernel
theorem dX5_readItems_12 : decode cX5_readItems 12 = .ok (.ifCond .eq 19, 3) := by decide +kernel
theorem dX5_readItems_15 : decode cX5_readItems 15 = .ok (.aload_n 0, 1) := by decide +kernel
theorem dX5_readItems_16 : decode cX5_readItems 16 = .ok (.aload_n 1, 1) := by decide +kernel
theorem dX5_readItems_17 : decode cX5_readItems 17 = .ok (.invokevirtual 49, 3) := by decide +kernel
theorem dX5_readItems_20 : decode cX5_readItems 20 = .ok (.ifCond .ne 5, 3) := by decide +kernel
theorem dX5_readItems_23 : decode cX5_readItems 23 = .ok (.iconst 0, 1) := by decide +kernel
theorem dX5_readItems_24 : decode cX5_readItems 24 = .ok (.ireturn, 1) := by decide +kernel
theorem dX5_readItems_25 : decode cX5_readItems 25 = .ok (.iinc 2 1, 3) := by decide +kernel
theorem dX5_readItems_28 : decode cX5_readItems 28 = .ok (.goto (-26), 3) := by decide +kernel
theorem dX5_readItems_31 : decode cX5_readItems 31 = .ok (.iload_n 2, 1) := by decide +kernel
theorem dX5_readItems_32 : decode cX5_readItems 32 = .ok (.ifCond .le 7, 3) := by decide +kernel
theorem dX5_readItems_35 : decode cX5_readItems 35 = .ok (.iconst 1, 1) := by decide +kernel
theorem dX5_readItems_36 : decode cX5_readItems 36 = .ok (.goto 4, 3) := by decide +kernel
theorem dX5_readItems_39 : decode cX5_readItems 39 = .ok (.iconst 0, 1) := by decide +kernel
theorem dX5_readItems_40 : decode cX5_readItems 40 = .ok (.ireturn, 1) := by decide +kernel
theorem dX5_startsItem_0 : decode cX5_startsItem 0 = .ok (.aload_n 0, 1) := by decide +kernel
theorem dX5_startsItem_1 : decode cX5_startsItem 1 = .ok (.invokevirtual 52, 3) := by decide +kernel
theorem dX5_startsItem_4 : decode cX5_startsItem 4 = .ok (.invokestatic 56, 3) := by decide +kernel
theorem dX5_startsItem_7 : decode cX5_startsItem 7 = .ok (.istore_n 1, 1) := by decide +kernel
theorem dX5_startsItem_8 : decode cX5_startsItem 8 = .ok (.iload_n 1, 1) := by decide +kernel
theorem dX5_startsItem_9 : decode cX5_startsItem 9 = .ok (.ifCond .eq 18, 3) := by decide +kernel
theorem dX5_startsItem_12 : decode cX5_startsItem 12 = .ok (.aload_n 0, 1) := by decide +kernel
theorem dX5_startsItem_13 : decode cX5_startsItem 13 = .ok (.getfield 30, 3) := by decide +kernel
theorem dX5_startsItem_16 : decode cX5_startsItem 16 = .ok (.iconst 1, 1) := by decide +kernel
theorem dX5_startsItem_17 : decode cX5_startsItem 17 = .ok (.iload_n 1, 1) := by decide +kernel
theorem dX5_startsItem_18 : decode cX5_startsItem 18 = .ok (.ishl, 1) := by decide +kernel
theorem dX5_startsItem_19 : decode cX5_startsItem 19 = .ok (.iand, 1) := by decide +kernel
theorem dX5_startsItem_20 : decode cX5_startsItem 20 = .ok (.ifCond .ne 7, 3) := by decide +kernel
theorem dX5_startsItem_23 : decode cX5_startsItem 23 = .ok (.iconst 1, 1) := by decide +kernel
theorem dX5_startsItem_24 : decode cX5_startsItem 24 = .ok (.goto 4, 3) := by decide +kernel
theorem dX5_startsItem_27 : decode cX5_startsItem 27 = .ok (.iconst 0, 1) := by decide +kernel
theorem dX5_startsItem_28 : decode cX5_startsItem 28 = .ok (.ireturn, 1) := by decide +kernel
theorem dX5_readItem_0 : decode cX5_readItem 0 = .ok (.aload_n 0, 1) := by decide +kernel
theorem dX5_readItem_1 : decode cX5_readItem 1 = .ok (.invokevirtual 52, 3) := by decide +kernel
theorem dX5_readItem_4 : decode cX5_readItem 4 = .ok (.invokestatic 56, 3) := by decide +kernel
theorem dX5_readItem_7 : decode cX5_readItem 7 = .ok (.istore_n 2, 1) := by decide +kernel
theorem dX5_readItem_8 : decode cX5_readItem 8 = .ok (.aload_n 0, 1) := by decide +kernel
theorem dX5_readItem_9 : decode cX5_readItem 9 = .ok (.dup, 1) := by decide +kernel
theorem dX5_readItem_10 : decode cX5_readItem 10 = .ok (.getfield 30, 3) := by decide +kernel
theorem dX5_readItem_13 : decode cX5_readItem 13 = .ok (.iconst 1, 1) := by decide +kernel
theorem dX5_readItem_14 : decode cX5_readItem 14 = .ok (.iload_n 2, 1) := by decide +kernel
theorem dX5_readItem_15 : decode cX5_readItem 15 = .ok (.ishl, 1) := by decide +kernel
theorem dX5_readItem_16 : decode cX5_readItem 16 = .ok (.ior, 1) := by decide +kernel
theorem dX5_readItem_17 : decode cX5_readItem 17 = .ok (.putfield 30, 3) := by decide +kernel
theorem dX5_readItem_20 : decode cX5_readItem 20 = .ok (.aload_n 0, 1) := by decide +kernel
theorem dX5_readItem_21 : decode cX5_readItem 21 = .ok (.dup, 1) := by decide +kernel
theorem dX5_readItem_22 : decode cX5_readItem 22 = .ok (.getfield 27, 3) := by decide +kernel
theorem dX5_readItem_25 : decode cX5_readItem 25 = .ok (.iconst 1, 1) := by decide +kernel
theorem dX5_readItem_26 : decode cX5_readItem 26 = .ok (.iadd, 1) := by decide +kernel
theorem dX5_readItem_27 : decode cX5_readItem 27 = .ok (.putfield 27, 3) := by decide +kernel
theorem dX5_readItem_30 : decode cX5_readItem 30 = .ok (.aload_n 0, 1) := by decide +kernel
theorem dX5_readItem_31 : decode cX5_readItem 31 = .ok (.invokevirtual 52, 3) := by decide +kernel
theorem dX5_readItem_34 : decode cX5_readItem 34 = .ok (.bipush 45, 2) := by decide +kernel
theorem dX5_readItem_36 : decode cX5_readItem 36 = .ok (.if_icmp .ne 7, 3) := by decide +kernel
theorem dX5_readItem_39 : decode cX5_readItem 39 = .ok (.iconst 1, 1) := by decide +kernel
theorem dX5_readItem_40 : decode cX5_readItem 40 = .ok (.goto 4, 3) := by decide +kernel
theorem dX5_readItem_43 : decode cX5_readItem 43 = .ok (.iconst 0, 1) := by decide +kernel
theorem dX5_readItem_44 : decode cX5_readItem 44 = .ok (.istore_n 3, 1) := by decide +kernel
theorem dX5_readItem_45 : decode cX5_readItem 45 = .ok (.iload_n 3, 1) := by decide +kernel
theorem dX5_readItem_46 : decode cX5_readItem 46 = .ok (.ifCond .eq 13, 3) := by decide +kernel
theorem dX5_readItem_49 : decode cX5_readItem 49 = .ok (.aload_n 0, 1) := by decide +kernel
theorem dX5_readItem_50 : decode cX5_readItem 50 = .ok (.dup, 1) := by decide +kernel
theorem dX5_readItem_51 : decode cX5_readItem 51 = .ok (.getfield 27, 3) := by decide +kernel
theorem dX5_readItem_54 : decode cX5_readItem 54 = .ok (.iconst 1, 1) := by decide +kernel
theorem dX5_readItem_55 : decode cX5_readItem 55 = .ok (.iadd, 1) := by decide +kernel
theorem dX5_readItem_56 : decode cX5_readItem 56 = .ok (.putfield 27, 3) := by decide +kernel
theorem dX5_readItem_59 : decode cX5_readItem 59 = .ok (.aload_n 0, 1) := by decide +kernel
theorem dX5_readItem_60 : decode cX5_readItem 60 = .ok (.invokevirtual 52, 3) := by decide +kernel
theorem dX5_readItem_63 : decode cX5_readItem 63 = .ok (.invokestatic 59, 3) := by decide +kernel
theorem dX5_readItem_66 : decode cX5_readItem 66 = .ok (.ifCond .ne 5, 3) := by decide +kernel
theorem dX5_readItem_69 : decode cX5_readItem 69 = .ok (.iconst 0, 1) := by decide +kernel
theorem dX5_readItem_70 : decode cX5_readItem 70 = .ok (.ireturn, 1) := by decide +kernel
theorem dX5_readItem_71 : decode cX5_readItem 71 = .ok (.aload_n 0, 1) := by decide +kernel
theorem dX5_readItem_72 : decode cX5_readItem 72 = .ok (.invokevirtual 52, 3) := by decide +kernel
theorem dX5_readItem_75 : decode cX5_readItem 75 = .ok (.bipush 48, 2) := by decide +kernel
theorem dX5_readItem_77 : decode cX5_readItem 77 = .ok (.isub, 1) := by decide +kernel
theorem dX5_readItem_78 : decode cX5_readItem 78 = .ok (.istore 4, 2) := by decide +kernel
theorem dX5_readItem_80 : decode cX5_readItem 80 = .ok (.aload_n 0, 1) := by decide +kernel
theorem dX5_readItem_81 : decode cX5_readItem 81 = .ok (.dup, 1) := by decide +kernel
theorem dX5_readItem_82 : decode cX5_readItem 82 = .ok (.getfield 27, 3) := by decide +kernel
theorem dX5_readItem_85 : decode cX5_readItem 85 = .ok (.iconst 1, 1) := by decide +kernel
theorem dX5_readItem_86 : decode cX5_readItem 86 = .ok (.iadd, 1) := by decide +kernel
theorem dX5_readItem_87 : decode cX5_readItem 87 = .ok (.putfield 27, 3) := by decide +kernel
theorem dX5_readItem_90 : decode cX5_readItem 90 = .ok (.aload_n 0, 1) := by decide +kernel
theorem dX5_readItem_91 : decode cX5_readItem 91 = .ok (.invokevirtual 52, 3) := by decide +kernel
theorem dX5_readItem_94 : decode cX5_readItem 94 = .ok (.invokestatic 59, 3) := by decide +kernel
theorem dX5_readItem_97 : decode cX5_readItem 97 = .ok (.ifCond .eq 28, 3) := by decide +kernel
theorem dX5_readItem_100 : decode cX5_readItem 100 = .ok (.iload 4, 2) := by decide +kernel
theorem dX5_readItem_102 : decode cX5_readItem 102 = .ok (.bipush 10, 2) := by decide +kernel
theorem dX5_readItem_104 : decode cX5_readItem 104 = .ok (.imul, 1) := by decide +kernel
theorem dX5_readItem_105 : decode cX5_readItem 105 = .ok (.aload_n 0, 1) := by decide +kernel
theorem dX5_readItem_106 : decode cX5_readItem 106 = .ok (.invokevirtual 52, 3) := by decide +kernel
theorem dX5_readItem_109 : decode cX5_readItem 109 = .ok (.iadd, 1) := by decide +kernel
theorem dX5_readItem_110 : decode cX5_readItem 110 = .ok (.bipush 48, 2) := by decide +kernel
theorem dX5_readItem_112 : decode cX5_readItem 112 = .ok (.isub, 1) := by decide +kernel
theorem dX5_readItem_113 : decode cX5_readItem 113 = .ok (.istore 4, 2) := by decide +kernel
theorem dX5_readItem_115 : decode cX5_readItem 115 = .ok (.aload_n 0, 1) := by decide +kernel
theorem dX5_readItem_116 : decode cX5_readItem 116 = .ok (.dup, 1) := by decide +kernel
theorem dX5_readItem_117 : decode cX5_readItem 117 = .ok (.getfield 27, 3) := by decide +kernel
theorem dX5_readItem_120 : decode cX5_readItem 120 = .ok (.iconst 1, 1) := by decide +kernel
theorem dX5_readItem_121 : decode cX5_readItem 121 = .ok (.iadd, 1) := by decide +kernel
theorem dX5_readItem_122 : decode cX5_readItem 122 = .ok (.putfield 27, 3) := by decide +kernel
theorem dX5_readItem_125 : decode cX5_readItem 125 = .ok (.aload_n 1, 1) := by decide +kernel
theorem dX5_readItem_126 : decode cX5_readItem 126 = .ok (.iload_n 2, 1) := by decide +kernel
theorem dX5_readItem_127 : decode cX5_readItem 127 = .ok (.iload_n 3, 1) := by decide +kernel
theorem dX5_readItem_128 : decode cX5_readItem 128 = .ok (.ifCond .eq 9, 3) := by decide +kernel
theorem dX5_readItem_131 : decode cX5_readItem 131 = .ok (.iload 4, 2) := by decide +kernel
theorem dX5_readItem_133 : decode cX5_readItem 133 = .ok (.ineg, 1) := by decide +kernel
theorem dX5_readItem_134 : decode cX5_readItem 134 = .ok (.goto 5, 3) := by decide +kernel
theorem dX5_readItem_137 : decode cX5_readItem 137 = .ok (.iload 4, 2) := by decide +kernel
theorem dX5_readItem_139 : decode cX5_readItem 139 = .ok (.invokevirtual 63, 3) := by decide +kernel
theorem dX5_readItem_142 : decode cX5_readItem 142 = .ok (.iconst 1, 1) := by decide +kernel
theorem dX5_readItem_143 : decode cX5_readItem 143 = .ok (.ireturn, 1) := by decide +kernel
theorem dX5_readTie_0 : decode cX5_readTie 0 = .ok (.aload_n 0, 1) := by decide +kernel
theorem dX5_readTie_1 : decode cX5_readTie 1 = .ok (.invokevirtual 52, 3) := by decide +kernel
theorem dX5_readTie_4 : decode cX5_readTie 4 = .ok (.bipush 33, 2) := by decide +kernel
theorem dX5_readTie_6 : decode cX5_readTie 6 = .ok (.if_icmp .eq 5, 3) := by decide +kernel
theorem dX5_readTie_9 : decode cX5_readTie 9 = .ok (.iconst 1, 1) := by decide +kernel
theorem dX5_readTie_10 : decode cX5_readTie 10 = .ok (.ireturn, 1) := by decide +kernel
theorem dX5_readTie_11 : decode cX5_readTie 11 = .ok (.aload_n 0, 1) := by decide +kernel
theorem dX5_readTie_12 : decode cX5_readTie 12 = .ok (.dup, 1) := by decide +kernel
theorem dX5_readTie_13 : decode cX5_readTie 13 = .ok (.getfield 27, 3) := by decide +kernel
theorem dX5_readTie_16 : decode cX5_readTie 16 = .ok (.iconst 1, 1) := by decide +kernel
theorem dX5_readTie_17 : decode cX5_readTie 17 = .ok (.iadd, 1) := by decide +kernel
theorem dX5_readTie_18 : decode cX5_readTie 18 = .ok (.putfield 27, 3) := by decide +kernel
theorem dX5_readTie_21 : decode cX5_readTie 21 = .ok (.aload_n 0, 1) := by decide +kernel
theorem dX5_readTie_22 : decode cX5_readTie 22 = .ok (.invokevirtual 52, 3) := by decide +kernel
theorem dX5_readTie_25 : decode cX5_readTie 25 = .ok (.invokestatic 56, 3) := by decide +kernel
theorem dX5_readTie_28 : decode cX5_readTie 28 = .ok (.istore_n 2, 1) := by decide +kernel
theorem dX5_readTie_29 : decode cX5_readTie 29 = .ok (.iload_n 2, 1) := by decide +kernel
theorem dX5_readTie_30 : decode cX5_readTie 30 = .ok (.ifCond .ne 5, 3) := by decide +kernel
theorem dX5_readTie_33 : decode cX5_readTie 33 = .ok (.iconst 0, 1) := by decide +kernel
theorem dX5_readTie_34 : decode cX5_readTie 34 = .ok (.ireturn, 1) := by decide +kernel
theorem dX5_readTie_35 : decode cX5_readTie 35 = .ok (.aload_n 1, 1) := by decide +kernel
theorem dX5_readTie_36 : decode cX5_readTie 36 = .ok (.iload_n 2, 1) := by decide +kernel
theorem dX5_readTie_37 : decode cX5_readTie 37 = .ok (.invokevirtual 67, 3) := by decide +kernel
theorem dX5_readTie_40 : decode cX5_readTie 40 = .ok (.aload_n 0, 1) := by decide +kernel
theorem dX5_readTie_41 : decode cX5_readTie 41 = .ok (.dup, 1) := by decide +kernel
theorem dX5_readTie_42 : decode cX5_readTie 42 = .ok (.getfield 27, 3) := by decide +kernel
theorem dX5_readTie_45 : decode cX5_readTie 45 = .ok (.iconst 1, 1) := by decide +kernel
theorem dX5_readTie_46 : decode cX5_readTie 46 = .ok (.iadd, 1) := by decide +kernel
theorem dX5_readTie_47 : decode cX5_readTie 47 = .ok (.putfield 27, 3) := by decide +kernel
theorem dX5_readTie_50 : decode cX5_readTie 50 = .ok (.iconst 1, 1) := by decide +kernel
theorem dX5_readTie_51 : decode cX5_readTie 51 = .ok (.ireturn, 1) := by decide +kernel
theorem dX5_letter_0 : decode cX5_letter 0 = .ok (.aload_n 0, 1) := by decide +kernel
theorem dX5_letter_1 : decode cX5_letter 1 = .ok (.getfield 27, 3) := by decide +kernel
theorem dX5_letter_4 : decode cX5_letter 4 = .ok (.ifCond .lt 26, 3) := by decide +kernel
theorem dX5_letter_7 : decode cX5_letter 7 = .ok (.aload_n 0, 1) := by decide +kernel
theorem dX5_letter_8 : decode cX5_letter 8 = .ok (.getfield 27, 3) := by decide +kernel
theorem dX5_letter_11 : decode cX5_letter 11 = .ok (.aload_n 0, 1) := by decide +kernel
theorem dX5_letter_12 : decode cX5_letter 12 = .ok (.getfield 15, 3) := by decide +kernel
theorem dX5_letter_15 : decode cX5_letter 15 = .ok (.if_icmp .ge 15, 3) := by decide +kernel
theorem dX5_letter_18 : decode cX5_letter 18 = .ok (.aload_n 0, 1) := by decide +kernel
theorem dX5_letter_19 : decode cX5_letter 19 = .ok (.getfield 9, 3) := by decide +kernel
theorem dX5_letter_22 : decode cX5_letter 22 = .ok (.aload_n 0, 1) := by decide +kernel
theorem dX5_letter_23 : decode cX5_letter 23 = .ok (.getfield 27, 3) := by decide +kernel
theorem dX5_letter_26 : decode cX5_letter 26 = .ok (.iaload, 1) := by decide +kernel
theorem dX5_letter_27 : decode cX5_letter 27 = .ok (.goto 4, 3) := by decide +kernel
theorem dX5_letter_30 : decode cX5_letter 30 = .ok (.iconst 0, 1) := by decide +kernel
theorem dX5_letter_31 : decode cX5_letter 31 = .ok (.ireturn, 1) := by decide +kernel
theorem dX5_isFigure_0 : decode cX5_isFigure 0 = .ok (.iload_n 0, 1) := by decide +kernel
theorem dX5_isFigure_1 : decode cX5_isFigure 1 = .ok (.bipush 48, 2) := by decide +kernel
theorem dX5_isFigure_3 : decode cX5_isFigure 3 = .ok (.if_icmp .lt 13, 3) := by decide +kernel
theorem dX5_isFigure_6 : decode cX5_isFigure 6 = .ok (.iload_n 0, 1) := by decide +kernel
theorem dX5_isFigure_7 : decode cX5_isFigure 7 = .ok (.bipush 57, 2) := by decide +kernel
theorem dX5_isFigure_9 : decode cX5_isFigure 9 = .ok (.if_icmp .gt 7, 3) := by decide +kernel
theorem dX5_isFigure_12 : decode cX5_isFigure 12 = .ok (.iconst 1, 1) := by decide +kernel
theorem dX5_isFigure_13 : decode cX5_isFigure 13 = .ok (.goto 4, 3) := by decide +kernel
theorem dX5_isFigure_16 : decode cX5_isFigure 16 = .ok (.iconst 0, 1) := by decide +kernel
theorem dX5_isFigure_17 : decode cX5_isFigure 17 = .ok (.ireturn, 1) := by decide +kernel
theorem dX5_strokeBy_0 : decode cX5_strokeBy 0 = .ok (.iload_n 0, 1) := by decide +kernel
theorem dX5_strokeBy_1 : decode cX5_strokeBy 1 = .ok (.lookupswitch 61 #[(98, 51), (102, 59), (104, 53), (108, 55), (117, 57)], 51) := by decide +kernel
theorem dX5_strokeBy_52 : decode cX5_strokeBy 52 = .ok (.iconst 1, 1) := by decide +kernel
theorem dX5_strokeBy_53 : decode cX5_strokeBy 53 = .ok (.ireturn, 1) := by decide +kernel
theorem dX5_strokeBy_54 : decode cX5_strokeBy 54 = .ok (.iconst 2, 1) := by decide +kernel
theorem dX5_strokeBy_55 : decode cX5_strokeBy 55 = .ok (.ireturn, 1) := by decide +kernel
theorem dX5_strokeBy_56 : decode cX5_strokeBy 56 = .ok (.iconst 3, 1) := by decide +kernel
theorem dX5_strokeBy_57 : decode cX5_strokeBy 57 = .ok (.ireturn, 1) := by decide +kernel
theorem dX5_strokeBy_58 : decode cX5_strokeBy 58 = .ok (.iconst 4, 1) := by decide +kernel
theorem dX5_strokeBy_59 : decode cX5_strokeBy 59 = .ok (.ireturn, 1) := by decide +kernel
theorem dX5_strokeBy_60 : decode cX5_strokeBy 60 = .ok (.iconst 5, 1) := by decide +kernel
theorem dX5_strokeBy_61 : decode cX5_strokeBy 61 = .ok (.ireturn, 1) := by decide +kernel
theorem dX5_strokeBy_62 : decode cX5_strokeBy 62 = .ok (.iconst 0, 1) := by decide +kernel
theorem dX5_strokeBy_63 : decode cX5_strokeBy 63 = .ok (.ireturn, 1) := by decide +kernel
