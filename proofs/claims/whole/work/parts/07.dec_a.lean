theorem dX4_mayBeRank_0 : decode cX4_mayBeRank 0 = .ok (.iload_n 0, 1) := by decide +kernel
theorem dX4_mayBeRank_1 : decode cX4_mayBeRank 1 = .ok (.iconst 0, 1) := by decide +kernel
theorem dX4_mayBeRank_2 : decode cX4_mayBeRank 2 = .ok (.iconst 3, 1) := by decide +kernel
theorem dX4_mayBeRank_3 : decode cX4_mayBeRank 3 = .ok (.invokestatic 24, 3) := by decide +kernel
theorem dX4_mayBeRank_6 : decode cX4_mayBeRank 6 = .ok (.ireturn, 1) := by decide +kernel
theorem dX4_mayBeArms_0 : decode cX4_mayBeArms 0 = .ok (.iload_n 0, 1) := by decide +kernel
theorem dX4_mayBeArms_1 : decode cX4_mayBeArms 1 = .ok (.iconst 0, 1) := by decide +kernel
theorem dX4_mayBeArms_2 : decode cX4_mayBeArms 2 = .ok (.iconst 5, 1) := by decide +kernel
theorem dX4_mayBeArms_3 : decode cX4_mayBeArms 3 = .ok (.invokestatic 24, 3) := by decide +kernel
theorem dX4_mayBeArms_6 : decode cX4_mayBeArms 6 = .ok (.ifCond .eq 26, 3) := by decide +kernel
theorem dX4_mayBeArms_9 : decode cX4_mayBeArms 9 = .ok (.iload_n 1, 1) := by decide +kernel
theorem dX4_mayBeArms_10 : decode cX4_mayBeArms 10 = .ok (.iconst 0, 1) := by decide +kernel
theorem dX4_mayBeArms_11 : decode cX4_mayBeArms 11 = .ok (.bipush 9, 2) := by decide +kernel
theorem dX4_mayBeArms_13 : decode cX4_mayBeArms 13 = .ok (.invokestatic 24, 3) := by decide +kernel
theorem dX4_mayBeArms_16 : decode cX4_mayBeArms 16 = .ok (.ifCond .eq 16, 3) := by decide +kernel
theorem dX4_mayBeArms_19 : decode cX4_mayBeArms 19 = .ok (.iload_n 2, 1) := by decide +kernel
theorem dX4_mayBeArms_20 : decode cX4_mayBeArms 20 = .ok (.iconst 0, 1) := by decide +kernel
theorem dX4_mayBeArms_21 : decode cX4_mayBeArms 21 = .ok (.iconst 5, 1) := by decide +kernel
theorem dX4_mayBeArms_22 : decode cX4_mayBeArms 22 = .ok (.invokestatic 24, 3) := by decide +kernel
theorem dX4_mayBeArms_25 : decode cX4_mayBeArms 25 = .ok (.ifCond .eq 7, 3) := by decide +kernel
theorem dX4_mayBeArms_28 : decode cX4_mayBeArms 28 = .ok (.iconst 1, 1) := by decide +kernel
theorem dX4_mayBeArms_29 : decode cX4_mayBeArms 29 = .ok (.goto 4, 3) := by decide +kernel
theorem dX4_mayBeArms_32 : decode cX4_mayBeArms 32 = .ok (.iconst 0, 1) := by decide +kernel
theorem dX4_mayBeArms_33 : decode cX4_mayBeArms 33 = .ok (.ireturn, 1) := by decide +kernel
theorem dX4_size_0 : decode cX4_size 0 = .ok (.aload_n 0, 1) := by decide +kernel
theorem dX4_size_1 : decode cX4_size 1 = .ok (.getfield 28, 3) := by decide +kernel
theorem dX4_size_4 : decode cX4_size 4 = .ok (.ireturn, 1) := by decide +kernel
theorem dX4_isFull_0 : decode cX4_isFull 0 = .ok (.aload_n 0, 1) := by decide +kernel
theorem dX4_isFull_1 : decode cX4_isFull 1 = .ok (.getfield 28, 3) := by decide +kernel
theorem dX4_isFull_4 : decode cX4_isFull 4 = .ok (.bipush 14, 2) := by decide +kernel
theorem dX4_isFull_6 : decode cX4_isFull 6 = .ok (.if_icmp .lt 7, 3) := by decide +kernel
theorem dX4_isFull_9 : decode cX4_isFull 9 = .ok (.iconst 1, 1) := by decide +kernel
theorem dX4_isFull_10 : decode cX4_isFull 10 = .ok (.goto 4, 3) := by decide +kernel
theorem dX4_isFull_13 : decode cX4_isFull 13 = .ok (.iconst 0, 1) := by decide +kernel
theorem dX4_isFull_14 : decode cX4_isFull 14 = .ok (.ireturn, 1) := by decide +kernel
theorem dX4_has_0 : decode cX4_has 0 = .ok (.iload_n 1, 1) := by decide +kernel
theorem dX4_has_1 : decode cX4_has 1 = .ok (.ifCond .lt 15, 3) := by decide +kernel
theorem dX4_has_4 : decode cX4_has 4 = .ok (.iload_n 1, 1) := by decide +kernel
theorem dX4_has_5 : decode cX4_has 5 = .ok (.aload_n 0, 1) := by decide +kernel
theorem dX4_has_6 : decode cX4_has 6 = .ok (.getfield 28, 3) := by decide +kernel
theorem dX4_has_9 : decode cX4_has 9 = .ok (.if_icmp .ge 7, 3) := by decide +kernel
theorem dX4_has_12 : decode cX4_has 12 = .ok (.iconst 1, 1) := by decide +kernel
theorem dX4_has_13 : decode cX4_has 13 = .ok (.goto 4, 3) := by decide +kernel
theorem dX4_has_16 : decode cX4_has 16 = .ok (.iconst 0, 1) := by decide +kernel
theorem dX4_has_17 : decode cX4_has 17 = .ok (.ireturn, 1) := by decide +kernel
theorem dX4_hasPair_0 : decode cX4_hasPair 0 = .ok (.aload_n 0, 1) := by decide +kernel
theorem dX4_hasPair_1 : decode cX4_hasPair 1 = .ok (.iload_n 1, 1) := by decide +kernel
theorem dX4_hasPair_2 : decode cX4_hasPair 2 = .ok (.invokevirtual 32, 3) := by decide +kernel
theorem dX4_hasPair_5 : decode cX4_hasPair 5 = .ok (.ifCond .eq 20, 3) := by decide +kernel
theorem dX4_hasPair_8 : decode cX4_hasPair 8 = .ok (.aload_n 0, 1) := by decide +kernel
theorem dX4_hasPair_9 : decode cX4_hasPair 9 = .ok (.iload_n 2, 1) := by decide +kernel
theorem dX4_hasPair_10 : decode cX4_hasPair 10 = .ok (.invokevirtual 32, 3) := by decide +kernel
theorem dX4_hasPair_13 : decode cX4_hasPair 13 = .ok (.ifCond .eq 12, 3) := by decide +kernel
theorem dX4_hasPair_16 : decode cX4_hasPair 16 = .ok (.iload_n 1, 1) := by decide +kernel
theorem dX4_hasPair_17 : decode cX4_hasPair 17 = .ok (.iload_n 2, 1) := by decide +kernel
theorem dX4_hasPair_18 : decode cX4_hasPair 18 = .ok (.if_icmp .eq 7, 3) := by decide +kernel
theorem dX4_hasPair_21 : decode cX4_hasPair 21 = .ok (.iconst 1, 1) := by decide +kernel
theorem dX4_hasPair_22 : decode cX4_hasPair 22 = .ok (.goto 4, 3) := by decide +kernel
theorem dX4_hasPair_25 : decode cX4_hasPair 25 = .ok (.iconst 0, 1) := by decide +kernel
theorem dX4_hasPair_26 : decode cX4_hasPair 26 = .ok (.ireturn, 1) := by decide +kernel
theorem dX4_enter_0 : decode cX4_enter 0 = .ok (.aload_n 0, 1) := by decide +kernel
theorem dX4_enter_1 : decode cX4_enter 1 = .ok (.getfield 28, 3) := by decide +kernel
theorem dX4_enter_4 : decode cX4_enter 4 = .ok (.istore 5, 2) := by decide +kernel
theorem dX4_enter_6 : decode cX4_enter 6 = .ok (.aload_n 0, 1) := by decide +kernel
theorem dX4_enter_7 : decode cX4_enter 7 = .ok (.dup, 1) := by decide +kernel
theorem dX4_enter_8 : decode cX4_enter 8 = .ok (.getfield 28, 3) := by decide +kernel
theorem dX4_enter_11 : decode cX4_enter 11 = .ok (.iconst 1, 1) := by decide +kernel
theorem dX4_enter_12 : decode cX4_enter 12 = .ok (.iadd, 1) := by decide +kernel
theorem dX4_enter_13 : decode cX4_enter 13 = .ok (.putfield 28, 3) := by decide +kernel
theorem dX4_enter_16 : decode cX4_enter 16 = .ok (.aload_n 0, 1) := by decide +kernel
theorem dX4_enter_17 : decode cX4_enter 17 = .ok (.iload 5, 2) := by decide +kernel
theorem dX4_enter_19 : decode cX4_enter 19 = .ok (.iload_n 1, 1) := by decide +kernel
theorem dX4_enter_20 : decode cX4_enter 20 = .ok (.invokevirtual 36, 3) := by decide +kernel
theorem dX4_enter_23 : decode cX4_enter 23 = .ok (.aload_n 0, 1) := by decide +kernel
theorem dX4_enter_24 : decode cX4_enter 24 = .ok (.iload 5, 2) := by decide +kernel
theorem dX4_enter_26 : decode cX4_enter 26 = .ok (.iload_n 2, 1) := by decide +kernel
theorem dX4_enter_27 : decode cX4_enter 27 = .ok (.iload_n 3, 1) := by decide +kernel
theorem dX4_enter_28 : decode cX4_enter 28 = .ok (.iload 4, 2) := by decide +kernel
theorem dX4_enter_30 : decode cX4_enter 30 = .ok (.invokevirtual 40, 3) := by decide +kernel
theorem dX4_enter_33 : decode cX4_enter 33 = .ok (.iload 5, 2) := by decide +kernel
theorem dX4_enter_35 : decode cX4_enter 35 = .ok (.ireturn, 1) := by decide +kernel
theorem dX4_raise_0 : decode cX4_raise 0 = .ok (.aload_n 0, 1) := by decide +kernel
theorem dX4_raise_1 : decode cX4_raise 1 = .ok (.getfield 9, 3) := by decide +kernel
theorem dX4_raise_4 : decode cX4_raise 4 = .ok (.iload_n 1, 1) := by decide +kernel
theorem dX4_raise_5 : decode cX4_raise 5 = .ok (.iload_n 2, 1) := by decide +kernel
theorem dX4_raise_6 : decode cX4_raise 6 = .ok (.iastore, 1) := by decide +kernel
theorem dX4_raise_7 : decode cX4_raise 7 = .ok (.return_, 1) := by decide +kernel
theorem dX4_paint_0 : decode cX4_paint 0 = .ok (.aload_n 0, 1) := by decide +kernel
theorem dX4_paint_1 : decode cX4_paint 1 = .ok (.getfield 15, 3) := by decide +kernel
theorem dX4_paint_4 : decode cX4_paint 4 = .ok (.iload_n 1, 1) := by decide +kernel
theorem dX4_paint_5 : decode cX4_paint 5 = .ok (.iload_n 2, 1) := by decide +kernel
theorem dX4_paint_6 : decode cX4_paint 6 = .ok (.iastore, 1) := by decide +kernel
theorem dX4_paint_7 : decode cX4_paint 7 = .ok (.aload_n 0, 1) := by decide +kernel
theorem dX4_paint_8 : decode cX4_paint 8 = .ok (.getfield 18, 3) := by decide +kernel
theorem dX4_paint_11 : decode cX4_paint 11 = .ok (.iload_n 1, 1) := by decide +kernel
theorem dX4_paint_12 : decode cX4_paint 12 = .ok (.iload_n 3, 1) := by decide +kernel
theorem dX4_paint_13 : decode cX4_paint 13 = .ok (.iastore, 1) := by decide +kernel
theorem dX4_paint_14 : decode cX4_paint 14 = .ok (.aload_n 0, 1) := by decide +kernel
theorem dX4_paint_15 : decode cX4_paint 15 = .ok (.getfield 21, 3) := by decide +kernel
theorem dX4_paint_18 : decode cX4_paint 18 = .ok (.iload_n 1, 1) := by decide +kernel
theorem dX4_paint_19 : decode cX4_paint 19 = .ok (.iload 4, 2) := by decide +kernel
theorem dX4_paint_21 : decode cX4_paint 21 = .ok (.iastore, 1) := by decide +kernel
theorem dX4_paint_22 : decode cX4_paint 22 = .ok (.return_, 1) := by decide +kernel
theorem dX4_rankOf_0 : decode cX4_rankOf 0 = .ok (.aload_n 0, 1) := by decide +kernel
theorem dX4_rankOf_1 : decode cX4_rankOf 1 = .ok (.getfield 9, 3) := by decide +kernel
theorem dX4_rankOf_4 : decode cX4_rankOf 4 = .ok (.iload_n 1, 1) := by decide +kernel
theorem dX4_rankOf_5 : decode cX4_rankOf 5 = .ok (.iaload, 1) := by decide +kernel
theorem dX4_rankOf_6 : decode cX4_rankOf 6 = .ok (.ireturn, 1) := by decide +kernel
theorem dX4_fieldOf_0 : decode cX4_fieldOf 0 = .ok (.aload_n 0, 1) := by decide +kernel
theorem dX4_fieldOf_1 : decode cX4_fieldOf 1 = .ok (.getfield 15, 3) := by decide +kernel
theorem dX4_fieldOf_4 : decode cX4_fieldOf 4 = .ok (.iload_n 1, 1) := by decide +kernel
theorem dX4_fieldOf_5 : decode cX4_fieldOf 5 = .ok (.iaload, 1) := by decide +kernel
theorem dX4_fieldOf_6 : decode cX4_fieldOf 6 = .ok (.ireturn, 1) := by decide +kernel
theorem dX4_chargeOf_0 : decode cX4_chargeOf 0 = .ok (.aload_n 0, 1) := by decide +kernel
theorem dX4_chargeOf_1 : decode cX4_chargeOf 1 = .ok (.getfield 18, 3) := by decide +kernel
theorem dX4_chargeOf_4 : decode cX4_chargeOf 4 = .ok (.iload_n 1, 1) := by decide +kernel
theorem dX4_chargeOf_5 : decode cX4_chargeOf 5 = .ok (.iaload, 1) := by decide +kernel
theorem dX4_chargeOf_6 : decode cX4_chargeOf 6 = .ok (.ireturn, 1) := by decide +kernel
theorem dX4_tinctureOf_0 : decode cX4_tinctureOf 0 = .ok (.aload_n 0, 1) := by decide +kernel
theorem dX4_tinctureOf_1 : decode cX4_tinctureOf 1 = .ok (.getfield 21, 3) := by decide +kernel
theorem dX4_tinctureOf_4 : decode cX4_tinctureOf 4 = .ok (.iload_n 1, 1) := by decide +kernel
theorem dX4_tinctureOf_5 : decode cX4_tinctureOf 5 = .ok (.iaload, 1) := by decide +kernel
theorem dX4_tinctureOf_6 : decode cX4_tinctureOf 6 = .ok (.ireturn, 1) := by decide +kernel
theorem dX4_areNear_0 : decode cX4_areNear 0 = .ok (.iconst 0, 1) := by decide +kernel
theorem dX4_areNear_1 : decode cX4_areNear 1 = .ok (.istore_n 3, 1) := by decide +kernel
theorem dX4_areNear_2 : decode cX4_areNear 2 = .ok (.aload_n 0, 1) := by decide +kernel
theorem dX4_areNear_3 : decode cX4_areNear 3 = .ok (.getfield 15, 3) := by decide +kernel
theorem dX4_areNear_6 : decode cX4_areNear 6 = .ok (.iload_n 1, 1) := by decide +kernel
theorem dX4_areNear_7 : decode cX4_areNear 7 = .ok (.iaload, 1) := by decide +kernel
theorem dX4_areNear_8 : decode cX4_areNear 8 = .ok (.aload_n 0, 1) := by decide +kernel
theorem dX4_areNear_9 : decode cX4_areNear 9 = .ok (.getfield 15, 3) := by decide +kernel
theorem dX4_areNear_12 : decode cX4_areNear 12 = .ok (.iload_n 2, 1) := by decide +kernel
theorem dX4_areNear_13 : decode cX4_areNear 13 = .ok (.iaload, 1) := by decide +kernel
theorem dX4_areNear_14 : decode cX4_areNear 14 = .ok (.if_icmp .ne 6, 3) := by decide +kernel
theorem dX4_areNear_17 : decode cX4_areNear 17 = .ok (.iinc 3 1, 3) := by decide +kernel
theorem dX4_areNear_20 : decode cX4_areNear 20 = .ok (.aload_n 0, 1) := by decide +kernel
theorem dX4_areNear_21 : decode cX4_areNear 21 = .ok (.getfield 18, 3) := by decide +kernel
theorem dX4_areNear_24 : decode cX4_areNear 24 = .ok (.iload_n 1, 1) := by decide +kernel
theorem dX4_areNear_25 : decode cX4_areNear 25 = .ok (.iaload, 1) := by decide +kernel
theorem dX4_areNear_26 : decode cX4_areNear 26 = .ok (.aload_n 0, 1) := by decide +kernel
theorem dX4_areNear_27 : decode cX4_areNear 27 = .ok (.getfield 18, 3) := by decide +kernel
theorem dX4_areNear_30 : decode cX4_areNear 30 = .ok (.iload_n 2, 1) := by decide +kernel
theorem dX4_areNear_31 : decode cX4_areNear 31 = .ok (.iaload, 1) := by decide +kernel
theorem dX4_areNear_32 : decode cX4_areNear 32 = .ok (.if_icmp .ne 6, 3) := by decide +kernel
theorem dX4_areNear_35 : decode cX4_areNear 35 = .ok (.iinc 3 1, 3) := by decide +kernel
theorem dX4_areNear_38 : decode cX4_areNear 38 = .ok (.aload_n 0, 1) := by decide +kernel
theorem dX4_areNear_39 : decode cX4_areNear 39 = .ok (.getfield 21, 3) := by decide +kernel
theorem dX4_areNear_42 : decode cX4_areNear 42 = .ok (.iload_n 1, 1) := by decide +kernel
theorem dX4_areNear_43 : decode cX4_areNear 43 = .ok (.iaload, 1) := by decide +kernel
theorem dX4_areNear_44 : decode cX4_areNear 44 = .ok (.aload_n 0, 1) := by decide +kernel
theorem dX4_areNear_45 : decode cX4_areNear 45 = .ok (.getfield 21, 3) := by decide +kernel
theorem dX4_areNear_48 : decode cX4_areNear 48 = .ok (.iload_n 2, 1) := by decide +kernel
theorem dX4_areNear_49 : decode cX4_areNear 49 = .ok (.iaload, 1) := by decide +kernel
theorem dX4_areNear_50 : decode cX4_areNear 50 = .ok (.if_icmp .ne 6, 3) := by decide +kernel
theorem dX4_areNear_53 : decode cX4_areNear 53 = .ok (.iinc 3 1, 3) := by decide +kernel
theorem dX4_areNear_56 : decode cX4_areNear 56 = .ok (.iload_n 3, 1) := by decide +kernel
theorem dX4_areNear_57 : decode cX4_areNear 57 = .ok (.iconst 2, 1) := by decide +kernel
theorem dX4_areNear_58 : decode cX4_areNear 58 = .ok (.if_icmp .lt 7, 3) := by decide +kernel
theorem dX4_areNear_61 : decode cX4_areNear 61 = .ok (.iconst 1, 1) := by decide +kernel
theorem dX4_areNear_62 : decode cX4_areNear 62 = .ok (.goto 4, 3) := by decide +kernel
theorem dX4_areNear_65 : decode cX4_areNear 65 = .ok (.iconst 0, 1) := by decide +kernel
theorem dX4_areNear_66 : decode cX4_areNear 66 = .ok (.ireturn, 1) := by decide +kernel
theorem dX4_yieldsTo_0 : decode cX4_yieldsTo 0 = .ok (.iload_n 1, 1) := by decide +kernel
theorem dX4_yieldsTo_1 : decode cX4_yieldsTo 1 = .ok (.iload_n 2, 1) := by decide +kernel
theorem dX4_yieldsTo_2 : decode cX4_yieldsTo 2 = .ok (.if_icmp .eq 12, 3) := by decide +kernel
theorem dX4_yieldsTo_5 : decode cX4_yieldsTo 5 = .ok (.aload_n 0, 1) := by decide +kernel
theorem dX4_yieldsTo_6 : decode cX4_yieldsTo 6 = .ok (.iload_n 1, 1) := by decide +kernel
theorem dX4_yieldsTo_7 : decode cX4_yieldsTo 7 = .ok (.iload_n 2, 1) := by decide +kernel
theorem dX4_yieldsTo_8 : decode cX4_yieldsTo 8 = .ok (.invokevirtual 44, 3) := by decide +kernel
theorem dX4_yieldsTo_11 : decode cX4_yieldsTo 11 = .ok (.ifCond .ne 5, 3) := by decide +kernel
theorem dX4_yieldsTo_14 : decode cX4_yieldsTo 14 = .ok (.iconst 0, 1) := by decide +kernel
theorem dX4_yieldsTo_15 : decode cX4_yieldsTo 15 = .ok (.ireturn, 1) := by decide +kernel
theorem dX4_yieldsTo_16 : decode cX4_yieldsTo 16 = .ok (.aload_n 0, 1) := by decide +kernel
theorem dX4_yieldsTo_17 : decode cX4_yieldsTo 17 = .ok (.getfield 9, 3) := by decide +kernel
theorem dX4_yieldsTo_20 : decode cX4_yieldsTo 20 = .ok (.iload_n 1, 1) := by decide +kernel
theorem dX4_yieldsTo_21 : decode cX4_yieldsTo 21 = .ok (.iaload, 1) := by decide +kernel
theorem dX4_yieldsTo_22 : decode cX4_yieldsTo 22 = .ok (.aload_n 0, 1) := by decide +kernel
theorem dX4_yieldsTo_23 : decode cX4_yieldsTo 23 = .ok (.getfield 9, 3) := by decide +kernel
theorem dX4_yieldsTo_26 : decode cX4_yieldsTo 26 = .ok (.iload_n 2, 1) := by decide +kernel
theorem dX4_yieldsTo_27 : decode cX4_yieldsTo 27 = .ok (.iaload, 1) := by decide +kernel
theorem dX4_yieldsTo_28 : decode cX4_yieldsTo 28 = .ok (.if_icmp .ne 14, 3) := by decide +kernel
theorem dX4_yieldsTo_31 : decode cX4_yieldsTo 31 = .ok (.iload_n 1, 1) := by decide +kernel
theorem dX4_yieldsTo_32 : decode cX4_yieldsTo 32 = .ok (.iload_n 2, 1) := by decide +kernel
theorem dX4_yieldsTo_33 : decode cX4_yieldsTo 33 = .ok (.if_icmp .le 7, 3) := by decide +kernel
theorem dX4_yieldsTo_36 : decode cX4_yieldsTo 36 = .ok (.iconst 1, 1) := by decide +kernel
theorem dX4_yieldsTo_37 : decode cX4_yieldsTo 37 = .ok (.goto 4, 3) := by decide +kernel
theorem dX4_yieldsTo_40 : decode cX4_yieldsTo 40 = .ok (.iconst 0, 1) := by decide +kernel
theorem dX4_yieldsTo_41 : decode cX4_yieldsTo 41 = .ok (.ireturn, 1) := by decide +kernel
theorem dX4_yieldsTo_42 : decode cX4_yieldsTo 42 = .ok (.aload_n 0, 1) := by decide +kernel
theorem dX4_yieldsTo_43 : decode cX4_yieldsTo 43 = .ok (.getfield 9, 3) := by decide +kernel
theorem dX4_yieldsTo_46 : decode cX4_yieldsTo 46 = .ok (.iload_n 1, 1) := by decide +kernel
theorem dX4_yieldsTo_47 : decode cX4_yieldsTo 47 = .ok (.iaload, 1) := by decide +kernel
theorem dX4_yieldsTo_48 : decode cX4_yieldsTo 48 = .ok (.aload_n 0, 1) := by decide +kernel
theorem dX4_yieldsTo_49 : decode cX4_yieldsTo 49 = .ok (.getfield 9, 3) := by decide +kernel
theorem dX4_yieldsTo_52 : decode cX4_yieldsTo 52 = .ok (.iload_n 2, 1) := by decide +kernel
theorem dX4_yieldsTo_53 : decode cX4_yieldsTo 53 = .ok (.iaload, 1) := by decide +kernel
theorem dX4_yieldsTo_54 : decode cX4_yieldsTo 54 = .ok (.if_icmp .ge 7, 3) := by decide +kernel
theorem dX4_yieldsTo_57 : decode cX4_yieldsTo 57 = .ok (.iconst 1, 1) := by decide +kernel
theorem dX4_yieldsTo_58 : decode cX4_yieldsTo 58 = .ok (.goto 4, 3) := by decide +kernel
theorem dX4_yieldsTo_61 : decode cX4_yieldsTo 61 = .ok (.iconst 0, 1) := by decide +kernel
theorem dX4_yieldsTo_62 : decode cX4_yieldsTo 62 = .ok (.ireturn, 1) := by decide +kernel
theorem dX4_leastYieldedTo_0 : decode cX4_leastYieldedTo 0 = .ok (.iconst 0, 1) := by decide +kernel
theorem dX4_leastYieldedTo_1 : decode cX4_leastYieldedTo 1 = .ok (.istore_n 2, 1) := by decide +kernel
theorem dX4_leastYieldedTo_2 : decode cX4_leastYieldedTo 2 = .ok (.iload_n 2, 1) := by decide +kernel
theorem dX4_leastYieldedTo_3 : decode cX4_leastYieldedTo 3 = .ok (.aload_n 0, 1) := by decide +kernel
theorem dX4_leastYieldedTo_4 : decode cX4_leastYieldedTo 4 = .ok (.getfield 28, 3) := by decide +kernel
theorem dX4_leastYieldedTo_7 : decode cX4_leastYieldedTo 7 = .ok (.if_icmp .ge 20, 3) := by decide +kernel
theorem dX4_leastYieldedTo_10 : decode cX4_leastYieldedTo 10 = .ok (.aload_n 0, 1) := by decide +kernel
theorem dX4_leastYieldedTo_11 : decode cX4_leastYieldedTo 11 = .ok (.iload_n 1, 1) := by decide +kernel
theorem dX4_leastYieldedTo_12 : decode cX4_leastYieldedTo 12 = .ok (.iload_n 2, 1) := by decide +kernel
theorem dX4_leastYieldedTo_13 : decode cX4_leastYieldedTo 13 = .ok (.invokevirtual 48, 3) := by decide +kernel
theorem dX4_leastYieldedTo_16 : decode cX4_leastYieldedTo 16 = .ok (.ifCond .eq 5, 3) := by decide +kernel
theorem dX4_leastYieldedTo_19 : decode cX4_leastYieldedTo 19 = .ok (.iload_n 2, 1) := by decide +kernel
theorem dX4_leastYieldedTo_20 : decode cX4_leastYieldedTo 20 = .ok (.ireturn, 1) := by decide +kernel
theorem dX4_leastYieldedTo_21 : decode cX4_leastYieldedTo 21 = .ok (.iinc 2 1, 3) := by decide +kernel
theorem dX4_leastYieldedTo_24 : decode cX4_leastYieldedTo 24 = .ok (.goto (-22), 3) := by decide +kernel
theorem dX4_leastYieldedTo_27 : decode cX4_leastYieldedTo 27 = .ok (.bipush (-2), 2) := by decide +kernel
theorem dX4_leastYieldedTo_29 : decode cX4_leastYieldedTo 29 = .ok (.ireturn, 1) := by decide +kernel
theorem dX4_canRide_0 : decode cX4_canRide 0 = .ok (.aload_n 0, 1) := by decide +kernel
theorem dX4_canRide_1 : decode cX4_canRide 1 = .ok (.iload_n 1, 1) := by decide +kernel
theorem dX4_canRide_2 : decode cX4_canRide 2 = .ok (.invokevirtual 51, 3) := by decide +kernel
theorem dX4_canRide_5 : decode cX4_canRide 5 = .ok (.bipush (-2), 2) := by decide +kernel
theorem dX4_canRide_7 : decode cX4_canRide 7 = .ok (.if_icmp .ne 7, 3) := by decide +kernel
theorem dX4_canRide_10 : decode cX4_canRide 10 = .ok (.iconst 1, 1) := by decide +kernel
theorem dX4_canRide_11 : decode cX4_canRide 11 = .ok (.goto 4, 3) := by decide +kernel
theorem dX4_canRide_14 : decode cX4_canRide 14 = .ok (.iconst 0, 1) := by decide +kernel
theorem dX4_canRide_15 : decode cX4_canRide 15 = .ok (.ireturn, 1) := by decide +kernel
theorem dX4_countNear_0 : decode cX4_countNear 0 = .ok (.iconst 0, 1) := by decide +kernel
theorem dX4_countNear_1 : decode cX4_countNear 1 = .ok (.istore_n 1, 1) := by decide +kernel
theorem dX4_countNear_2 : decode cX4_countNear 2 = .ok (.iconst 0, 1) := by decide +kernel
theorem dX4_countNear_3 : decode cX4_countNear 3 = .ok (.istore_n 2, 1) := by decide +kernel
theorem dX4_countNear_4 : decode cX4_countNear 4 = .ok (.iload_n 2, 1) := by decide +kernel
theorem dX4_countNear_5 : decode cX4_countNear 5 = .ok (.aload_n 0, 1) := by decide +kernel
theorem dX4_countNear_6 : decode cX4_countNear 6 = .ok (.getfield 28, 3) := by decide +kernel
theorem dX4_countNear_9 : decode cX4_countNear 9 = .ok (.if_icmp .ge 39, 3) := by decide +kernel
theorem dX4_countNear_12 : decode cX4_countNear 12 = .ok (.iload_n 2, 1) := by decide +kernel
theorem dX4_countNear_13 : decode cX4_countNear 13 = .ok (.iconst 1, 1) := by decide +kernel
theorem dX4_countNear_14 : decode cX4_countNear 14 = .ok (.iadd, 1) := by decide +kernel
theorem dX4_countNear_15 : decode cX4_countNear 15 = .ok (.istore_n 3, 1) := by decide +kernel
theorem dX4_countNear_16 : decode cX4_countNear 16 = .ok (.iload_n 3, 1) := by decide +kernel
theorem dX4_countNear_17 : decode cX4_countNear 17 = .ok (.aload_n 0, 1) := by decide +kernel
theorem dX4_countNear_18 : decode cX4_countNear 18 = .ok (.getfield 28, 3) := by decide +kernel
theorem dX4_countNear_21 : decode cX4_countNear 21 = .ok (.if_icmp .ge 21, 3) := by decide +kernel
theorem dX4_countNear_24 : decode cX4_countNear 24 = .ok (.aload_n 0, 1) := by decide +kernel
theorem dX4_countNear_25 : decode cX4_countNear 25 = .ok (.iload_n 2, 1) := by decide +kernel
theorem dX4_countNear_26 : decode cX4_countNear 26 = .ok (.iload_n 3, 1) := by decide +kernel
theorem dX4_countNear_27 : decode cX4_countNear 27 = .ok (.invokevirtual 44, 3) := by decide +kernel
theorem dX4_countNear_30 : decode cX4_countNear 30 = .ok (.ifCond .eq 6, 3) := by decide +kernel
theorem dX4_countNear_33 : decode cX4_countNear 33 = .ok (.iinc 1 1, 3) := by decide +kernel
theorem dX4_countNear_36 : decode cX4_countNear 36 = .ok (.iinc 3 1, 3) := by decide +kernel
theorem dX4_countNear_39 : decode cX4_countNear 39 = .ok (.goto (-23), 3) := by decide +kernel
theorem dX4_countNear_42 : decode cX4_countNear 42 = .ok (.iinc 2 1, 3) := by decide +kernel
theorem dX4_countNear_45 : decode cX4_countNear 45 = .ok (.goto (-41), 3) := by decide +kernel
theorem dX4_countNear_48 : decode cX4_countNear 48 = .ok (.iload_n 1, 1) := by decide +kernel
theorem dX4_countNear_49 : decode cX4_countNear 49 = .ok (.ireturn, 1) := by decide +kernel
theorem dX4_countRiders_0 : decode cX4_countRiders 0 = .ok (.iconst 0, 1) := by decide +kernel
theorem dX4_countRiders_1 : decode cX4_countRiders 1 = .ok (.istore_n 1, 1) := by decide +kernel
theorem dX4_countRiders_2 : decode cX4_countRiders 2 = .ok (.iconst 0, 1) := by decide +kernel
theorem dX4_countRiders_3 : decode cX4_countRiders 3 = .ok (.istore_n 2, 1) := by decide +kernel
theorem dX4_countRiders_4 : decode cX4_countRiders 4 = .ok (.iload_n 2, 1) := by decide +kernel
theorem dX4_countRiders_5 : decode cX4_countRiders 5 = .ok (.aload_n 0, 1) := by decide +kernel
theorem dX4_countRiders_6 : decode cX4_countRiders 6 = .ok (.getfield 28, 3) := by decide +kernel
theorem dX4_countRiders_9 : decode cX4_countRiders 9 = .ok (.if_icmp .ge 20, 3) := by decide +kernel
theorem dX4_countRiders_12 : decode cX4_countRiders 12 = .ok (.aload_n 0, 1) := by decide +kernel
theorem dX4_countRiders_13 : decode cX4_countRiders 13 = .ok (.iload_n 2, 1) := by decide +kernel
theorem dX4_countRiders_14 : decode cX4_countRiders 14 = .ok (.invokevirtual 55, 3) := by decide +kernel
theorem dX4_countRiders_17 : decode cX4_countRiders 17 = .ok (.ifCond .eq 6, 3) := by decide +kernel
theorem dX4_countRiders_20 : decode cX4_countRiders 20 = .ok (.iinc 1 1, 3) := by decide +kernel
theorem dX4_countRiders_23 : decode cX4_countRiders 23 = .ok (.iinc 2 1, 3) := by decide +kernel
theorem dX4_countRiders_26 : decode cX4_countRiders 26 = .ok (.goto (-22), 3) := by decide +kernel
theorem dX4_countRiders_29 : decode cX4_countRiders 29 = .ok (.iload_n 1, 1) := by decide +kernel
theorem dX4_countRiders_30 : decode cX4_countRiders 30 = .ok (.ireturn, 1) := by decide +kernel
theorem dJ6_bitCount_0f7a4_0 : decode cJ6_bitCount_0f7a4 0 = .ok (.iload_n 0, 1) := by decide +kernel
theorem dJ6_bitCount_0f7a4_1 : decode cJ6_bitCount_0f7a4 1 = .ok (.iload_n 0, 1) := by decide +kernel
theorem dJ6_bitCount_0f7a4_2 : decode cJ6_bitCount_0f7a4 2 = .ok (.iconst 1, 1) := by decide +kernel
theorem dJ6_bitCount_0f7a4_3 : decode cJ6_bitCount_0f7a4 3 = .ok (.iushr, 1) := by decide +kernel
theorem dJ6_bitCount_0f7a4_4 : decode cJ6_bitCount_0f7a4 4 = .ok (.ldc_w 265, 3) := by decide +kernel
theorem dJ6_bitCount_0f7a4_7 : decode cJ6_bitCount_0f7a4 7 = .ok (.iand, 1) := by decide +kernel
theorem dJ6_bitCount_0f7a4_8 : decode cJ6_bitCount_0f7a4 8 = .ok (.isub, 1) := by decide +kernel
theorem dJ6_bitCount_0f7a4_9 : decode cJ6_bitCount_0f7a4 9 = .ok (.istore_n 0, 1) := by decide +kernel
theorem dJ6_bitCount_0f7a4_10 : decode cJ6_bitCount_0f7a4 10 = .ok (.iload_n 0, 1) := by decide +kernel
theorem dJ6_bitCount_0f7a4_11 : decode cJ6_bitCount_0f7a4 11 = .ok (.ldc_w 266, 3) := by decide +kernel
theorem dJ6_bitCount_0f7a4_14 : decode cJ6_bitCount_0f7a4 14 = .ok (.iand, 1) := by decide +kernel
theorem dJ6_bitCount_0f7a4_15 : decode cJ6_bitCount_0f7a4 15 = .ok (.iload_n 0, 1) := by decide +kernel
theorem dJ6_bitCount_0f7a4_16 : decode cJ6_bitCount_0f7a4 16 = .ok (.iconst 2, 1) := by decide +kernel
theorem dJ6_bitCount_0f7a4_17 : decode cJ6_bitCount_0f7a4 17 = .ok (.iushr, 1) := by decide +kernel
theorem dJ6_bitCount_0f7a4_18 : decode cJ6_bitCount_0f7a4 18 = .ok (.ldc_w 266, 3) := by decide +kernel
theorem dJ6_bitCount_0f7a4_21 : decode cJ6_bitCount_0f7a4 21 = .ok (.iand, 1) := by decide +kernel
theorem dJ6_bitCount_0f7a4_22 : decode cJ6_bitCount_0f7a4 22 = .ok (.iadd, 1) := by decide +kernel
theorem dJ6_bitCount_0f7a4_23 : decode cJ6_bitCount_0f7a4 23 = .ok (.istore_n 0, 1) := by decide +kernel
theorem dJ6_bitCount_0f7a4_24 : decode cJ6_bitCount_0f7a4 24 = .ok (.iload_n 0, 1) := by decide +kernel
theorem dJ6_bitCount_0f7a4_25 : decode cJ6_bitCount_0f7a4 25 = .ok (.iload_n 0, 1) := by decide +kernel
theorem dJ6_bitCount_0f7a4_26 : decode cJ6_bitCount_0f7a4 26 = .ok (.iconst 4, 1) := by decide +kernel
theorem dJ6_bitCount_0f7a4_27 : decode cJ6_bitCount_0f7a4 27 = .ok (.iushr, 1) := by decide +kernel
theorem dJ6_bitCount_0f7a4_28 : decode cJ6_bitCount_0f7a4 28 = .ok (.iadd, 1) := by decide +kernel
theorem dJ6_bitCount_0f7a4_29 : decode cJ6_bitCount_0f7a4 29 = .ok (.ldc_w 267, 3) := by decide +kernel
theorem dJ6_bitCount_0f7a4_32 : decode cJ6_bitCount_0f7a4 32 = .ok (.iand, 1) := by decide +kernel
theorem dJ6_bitCount_0f7a4_33 : decode cJ6_bitCount_0f7a4 33 = .ok (.istore_n 0, 1) := by decide +kernel
theorem dJ6_bitCount_0f7a4_34 : decode cJ6_bitCount_0f7a4 34 = .ok (.iload_n 0, 1) := by decide +kernel
theorem dJ6_bitCount_0f7a4_35 : decode cJ6_bitCount_0f7a4 35 = .ok (.iload_n 0, 1) := by decide +kernel
theorem dJ6_bitCount_0f7a4_36 : decode cJ6_bitCount_0f7a4 36 = .ok (.bipush 8, 2) := by decide +kernel
theorem dJ6_bitCount_0f7a4_38 : decode cJ6_bitCount_0f7a4 38 = .ok (.iushr, 1) := by decide +kernel
theorem dJ6_bitCount_0f7a4_39 : decode cJ6_bitCount_0f7a4 39 = .ok (.iadd, 1) := by decide +kernel
theorem dJ6_bitCount_0f7a4_40 : decode cJ6_bitCount_0f7a4 40 = .ok (.istore_n 0, 1) := by decide +kernel
theorem dJ6_bitCount_0f7a4_41 : decode cJ6_bitCount_0f7a4 41 = .ok (.iload_n 0, 1) := by decide +kernel
theorem dJ6_bitCount_0f7a4_42 : decode cJ6_bitCount_0f7a4 42 = .ok (.iload_n 0, 1) := by decide +kernel
theorem dJ6_bitCount_0f7a4_43 : decode cJ6_bitCount_0f7a4 43 = .ok (.bipush 16, 2) := by decide +kernel
theorem dJ6_bitCount_0f7a4_45 : decode cJ6_bitCount_0f7a4 45 = .ok (.iushr, 1) := by decide +kernel
theorem dJ6_bitCount_0f7a4_46 : decode cJ6_bitCount_0f7a4 46 = .ok (.iadd, 1) := by decide +kernel
theorem dJ6_bitCount_0f7a4_47 : decode cJ6_bitCount_0f7a4 47 = .ok (.istore_n 0, 1) := by decide +kernel
theorem dJ6_bitCount_0f7a4_48 : decode cJ6_bitCount_0f7a4 48 = .ok (.iload_n 0, 1) := by decide +kernel
theorem dJ6_bitCount_0f7a4_49 : decode cJ6_bitCount_0f7a4 49 = .ok (.bipush 63, 2) := by decide +kernel
theorem dJ6_bitCount_0f7a4_51 : decode cJ6_bitCount_0f7a4 51 = .ok (.iand, 1) := by decide +kernel
theorem dJ6_bitCount_0f7a4_52 : decode cJ6_bitCount_0f7a4 52 = .ok (.ireturn, 1) := by decide +kernel
theorem dJ9_floorDiv_7cf53_0 : decode cJ9_floorDiv_7cf53 0 = .ok (.iload_n 0, 1) := by decide +kernel
theorem dJ9_floorDiv_7cf53_1 : decode cJ9_floorDiv_7cf53 1 = .ok (.iload_n 1, 1) := by decide +kernel
theorem dJ9_floorDiv_7cf53_2 : decode cJ9_floorDiv_7cf53 2 = .ok (.idiv, 1) := by decide +kernel
theorem dJ9_floorDiv_7cf53_3 : decode cJ9_floorDiv_7cf53 3 = .ok (.istore_n 2, 1) := by decide +kernel
theorem dJ9_floorDiv_7cf53_4 : decode cJ9_floorDiv_7cf53 4 = .ok (.iload_n 0, 1) := by decide +kernel
theorem dJ9_floorDiv_7cf53_5 : decode cJ9_floorDiv_7cf53 5 = .ok (.iload_n 1, 1) := by decide +kernel
theorem dJ9_floorDiv_7cf53_6 : decode cJ9_floorDiv_7cf53 6 = .ok (.ixor, 1) := by decide +kernel
theorem dJ9_floorDiv_7cf53_7 : decode cJ9_floorDiv_7cf53 7 = .ok (.ifCond .ge 14, 3) := by decide +kernel
theorem dJ9_floorDiv_7cf53_10 : decode cJ9_floorDiv_7cf53 10 = .ok (.iload_n 2, 1) := by decide +kernel
theorem dJ9_floorDiv_7cf53_11 : decode cJ9_floorDiv_7cf53 11 = .ok (.iload_n 1, 1) := by decide +kernel
theorem dJ9_floorDiv_7cf53_12 : decode cJ9_floorDiv_7cf53 12 = .ok (.imul, 1) := by decide +kernel
theorem dJ9_floorDiv_7cf53_13 : decode cJ9_floorDiv_7cf53 13 = .ok (.iload_n 0, 1) := by decide +kernel
theorem dJ9_floorDiv_7cf53_14 : decode cJ9_floorDiv_7cf53 14 = .ok (.if_icmp .eq 7, 3) := by decide +kernel
theorem dJ9_floorDiv_7cf53_17 : decode cJ9_floorDiv_7cf53 17 = .ok (.iload_n 2, 1) := by decide +kernel
theorem dJ9_floorDiv_7cf53_18 : decode cJ9_floorDiv_7cf53 18 = .ok (.iconst 1, 1) := by decide +kernel
theorem dJ9_floorDiv_7cf53_19 : decode cJ9_floorDiv_7cf53 19 = .ok (.isub, 1) := by decide +kernel
theorem dJ9_floorDiv_7cf53_20 : decode cJ9_floorDiv_7cf53 20 = .ok (.ireturn, 1) := by decide +kernel
theorem dJ9_floorDiv_7cf53_21 : decode cJ9_floorDiv_7cf53 21 = .ok (.iload_n 2, 1) := by decide +kernel
theorem dJ9_floorDiv_7cf53_22 : decode cJ9_floorDiv_7cf53 22 = .ok (.ireturn, 1) := by decide +kernel
theorem dJ9_abs_0f7a4_0 : decode cJ9_abs_0f7a4 0 = .ok (.iload_n 0, 1) := by decide +kernel
theorem dJ9_abs_0f7a4_1 : decode cJ9_abs_0f7a4 1 = .ok (.ifCond .ge 8, 3) := by decide +kernel
theorem dJ9_abs_0f7a4_4 : decode cJ9_abs_0f7a4 4 = .ok (.iload_n 0, 1) := by decide +kernel
theorem dJ9_abs_0f7a4_5 : decode cJ9_abs_0f7a4 5 = .ok (.ineg, 1) := by decide +kernel
theorem dJ9_abs_0f7a4_6 : decode cJ9_abs_0f7a4 6 = .ok (.goto 4, 3) := by decide +kernel
theorem dJ9_abs_0f7a4_9 : decode cJ9_abs_0f7a4 9 = .ok (.iload_n 0, 1) := by decide +kernel
theorem dJ9_abs_0f7a4_10 : decode cJ9_abs_0f7a4 10 = .ok (.ireturn, 1) := by decide +kernel
theorem dJ9_max_7cf53_0 : decode cJ9_max_7cf53 0 = .ok (.iload_n 0, 1) := by decide +kernel
theorem dJ9_max_7cf53_1 : decode cJ9_max_7cf53 1 = .ok (.iload_n 1, 1) := by decide +kernel
theorem dJ9_max_7cf53_2 : decode cJ9_max_7cf53 2 = .ok (.if_icmp .lt 7, 3) := by decide +kernel
theorem dJ9_max_7cf53_5 : decode cJ9_max_7cf53 5 = .ok (.iload_n 0, 1) := by decide +kernel
theorem dJ9_max_7cf53_6 : decode cJ9_max_7cf53 6 = .ok (.goto 4, 3) := by decide +kernel
theorem dJ9_max_7cf53_9 : decode cJ9_max_7cf53 9 = .ok (.iload_n 1, 1) := by decide +kernel
theorem dJ9_max_7cf53_10 : decode cJ9_max_7cf53 10 = .ok (.ireturn, 1) := by decide +kernel
theorem dJ9_min_7cf53_0 : decode cJ9_min_7cf53 0 = .ok (.iload_n 0, 1) := by decide +kernel
theorem dJ9_min_7cf53_1 : decode cJ9_min_7cf53 1 = .ok (.iload_n 1, 1) := by decide +kernel
theorem dJ9_min_7cf53_2 : decode cJ9_min_7cf53 2 = .ok (.if_icmp .gt 7, 3) := by decide +kernel
theorem dJ9_min_7cf53_5 : decode cJ9_min_7cf53 5 = .ok (.iload_n 0, 1) := by decide +kernel
theorem dJ9_min_7cf53_6 : decode cJ9_min_7cf53 6 = .ok (.goto 4, 3) := by decide +kernel
theorem dJ9_min_7cf53_9 : decode cJ9_min_7cf53 9 = .ok (.iload_n 1, 1) := by decide +kernel
theorem dJ9_min_7cf53_10 : decode cJ9_min_7cf53 10 = .ok (.ireturn, 1) := by decide +kernel
