theorem dX2_sheetOf_0 : decode cX2_sheetOf 0 = .ok (.iload_n 0, 1) := by decide +kernel
theorem dX2_sheetOf_1 : decode cX2_sheetOf 1 = .ok (.iconst 2, 1) := by decide +kernel
theorem dX2_sheetOf_2 : decode cX2_sheetOf 2 = .ok (.imul, 1) := by decide +kernel
theorem dX2_sheetOf_3 : decode cX2_sheetOf 3 = .ok (.iload_n 1, 1) := by decide +kernel
theorem dX2_sheetOf_4 : decode cX2_sheetOf 4 = .ok (.iadd, 1) := by decide +kernel
theorem dX2_sheetOf_5 : decode cX2_sheetOf 5 = .ok (.ireturn, 1) := by decide +kernel
theorem dX2_size_0 : decode cX2_size 0 = .ok (.aload_n 0, 1) := by decide +kernel
theorem dX2_size_1 : decode cX2_size 1 = .ok (.getfield 32, 3) := by decide +kernel
theorem dX2_size_4 : decode cX2_size 4 = .ok (.ireturn, 1) := by decide +kernel
theorem dX2_isFull_0 : decode cX2_isFull 0 = .ok (.aload_n 0, 1) := by decide +kernel
theorem dX2_isFull_1 : decode cX2_isFull 1 = .ok (.getfield 32, 3) := by decide +kernel
theorem dX2_isFull_4 : decode cX2_isFull 4 = .ok (.bipush 30, 2) := by decide +kernel
theorem dX2_isFull_6 : decode cX2_isFull 6 = .ok (.if_icmp .lt 7, 3) := by decide +kernel
theorem dX2_isFull_9 : decode cX2_isFull 9 = .ok (.iconst 1, 1) := by decide +kernel
theorem dX2_isFull_10 : decode cX2_isFull 10 = .ok (.goto 4, 3) := by decide +kernel
theorem dX2_isFull_13 : decode cX2_isFull 13 = .ok (.iconst 0, 1) := by decide +kernel
theorem dX2_isFull_14 : decode cX2_isFull 14 = .ok (.ireturn, 1) := by decide +kernel
theorem dX2_has_0 : decode cX2_has 0 = .ok (.iload_n 1, 1) := by decide +kernel
theorem dX2_has_1 : decode cX2_has 1 = .ok (.ifCond .lt 24, 3) := by decide +kernel
theorem dX2_has_4 : decode cX2_has 4 = .ok (.iload_n 1, 1) := by decide +kernel
theorem dX2_has_5 : decode cX2_has 5 = .ok (.aload_n 0, 1) := by decide +kernel
theorem dX2_has_6 : decode cX2_has 6 = .ok (.getfield 32, 3) := by decide +kernel
theorem dX2_has_9 : decode cX2_has 9 = .ok (.if_icmp .ge 16, 3) := by decide +kernel
theorem dX2_has_12 : decode cX2_has 12 = .ok (.iload_n 2, 1) := by decide +kernel
theorem dX2_has_13 : decode cX2_has 13 = .ok (.ifCond .lt 12, 3) := by decide +kernel
theorem dX2_has_16 : decode cX2_has 16 = .ok (.iload_n 2, 1) := by decide +kernel
theorem dX2_has_17 : decode cX2_has 17 = .ok (.iconst 2, 1) := by decide +kernel
theorem dX2_has_18 : decode cX2_has 18 = .ok (.if_icmp .ge 7, 3) := by decide +kernel
theorem dX2_has_21 : decode cX2_has 21 = .ok (.iconst 1, 1) := by decide +kernel
theorem dX2_has_22 : decode cX2_has 22 = .ok (.goto 4, 3) := by decide +kernel
theorem dX2_has_25 : decode cX2_has 25 = .ok (.iconst 0, 1) := by decide +kernel
theorem dX2_has_26 : decode cX2_has 26 = .ok (.ireturn, 1) := by decide +kernel
theorem dX2_begin_0 : decode cX2_begin 0 = .ok (.aload_n 0, 1) := by decide +kernel
theorem dX2_begin_1 : decode cX2_begin 1 = .ok (.getfield 32, 3) := by decide +kernel
theorem dX2_begin_4 : decode cX2_begin 4 = .ok (.istore 4, 2) := by decide +kernel
theorem dX2_begin_6 : decode cX2_begin 6 = .ok (.aload_n 0, 1) := by decide +kernel
theorem dX2_begin_7 : decode cX2_begin 7 = .ok (.dup, 1) := by decide +kernel
theorem dX2_begin_8 : decode cX2_begin 8 = .ok (.getfield 32, 3) := by decide +kernel
theorem dX2_begin_11 : decode cX2_begin 11 = .ok (.iconst 1, 1) := by decide +kernel
theorem dX2_begin_12 : decode cX2_begin 12 = .ok (.iadd, 1) := by decide +kernel
theorem dX2_begin_13 : decode cX2_begin 13 = .ok (.putfield 32, 3) := by decide +kernel
theorem dX2_begin_16 : decode cX2_begin 16 = .ok (.aload_n 0, 1) := by decide +kernel
theorem dX2_begin_17 : decode cX2_begin 17 = .ok (.getfield 9, 3) := by decide +kernel
theorem dX2_begin_20 : decode cX2_begin 20 = .ok (.iload 4, 2) := by decide +kernel
theorem dX2_begin_22 : decode cX2_begin 22 = .ok (.iload_n 3, 1) := by decide +kernel
theorem dX2_begin_23 : decode cX2_begin 23 = .ok (.iastore, 1) := by decide +kernel
theorem dX2_begin_24 : decode cX2_begin 24 = .ok (.aload_n 0, 1) := by decide +kernel
theorem dX2_begin_25 : decode cX2_begin 25 = .ok (.iload 4, 2) := by decide +kernel
theorem dX2_begin_27 : decode cX2_begin 27 = .ok (.iconst 0, 1) := by decide +kernel
theorem dX2_begin_28 : decode cX2_begin 28 = .ok (.invokestatic 36, 3) := by decide +kernel
theorem dX2_begin_31 : decode cX2_begin 31 = .ok (.iload_n 1, 1) := by decide +kernel
theorem dX2_begin_32 : decode cX2_begin 32 = .ok (.invokevirtual 40, 3) := by decide +kernel
theorem dX2_begin_35 : decode cX2_begin 35 = .ok (.aload_n 0, 1) := by decide +kernel
theorem dX2_begin_36 : decode cX2_begin 36 = .ok (.iload 4, 2) := by decide +kernel
theorem dX2_begin_38 : decode cX2_begin 38 = .ok (.iconst 1, 1) := by decide +kernel
theorem dX2_begin_39 : decode cX2_begin 39 = .ok (.invokestatic 36, 3) := by decide +kernel
theorem dX2_begin_42 : decode cX2_begin 42 = .ok (.iload_n 2, 1) := by decide +kernel
theorem dX2_begin_43 : decode cX2_begin 43 = .ok (.invokevirtual 40, 3) := by decide +kernel
theorem dX2_begin_46 : decode cX2_begin 46 = .ok (.iload 4, 2) := by decide +kernel
theorem dX2_begin_48 : decode cX2_begin 48 = .ok (.ireturn, 1) := by decide +kernel
theorem dX2_openSheet_0 : decode cX2_openSheet 0 = .ok (.aload_n 0, 1) := by decide +kernel
theorem dX2_openSheet_1 : decode cX2_openSheet 1 = .ok (.getfield 15, 3) := by decide +kernel
theorem dX2_openSheet_4 : decode cX2_openSheet 4 = .ok (.iload_n 1, 1) := by decide +kernel
theorem dX2_openSheet_5 : decode cX2_openSheet 5 = .ok (.iload_n 2, 1) := by decide +kernel
theorem dX2_openSheet_6 : decode cX2_openSheet 6 = .ok (.iastore, 1) := by decide +kernel
theorem dX2_openSheet_7 : decode cX2_openSheet 7 = .ok (.iconst 0, 1) := by decide +kernel
theorem dX2_openSheet_8 : decode cX2_openSheet 8 = .ok (.istore_n 3, 1) := by decide +kernel
theorem dX2_openSheet_9 : decode cX2_openSheet 9 = .ok (.iload_n 3, 1) := by decide +kernel
theorem dX2_openSheet_10 : decode cX2_openSheet 10 = .ok (.bipush 6, 2) := by decide +kernel
theorem dX2_openSheet_12 : decode cX2_openSheet 12 = .ok (.if_icmp .ge 18, 3) := by decide +kernel
theorem dX2_openSheet_15 : decode cX2_openSheet 15 = .ok (.aload_n 0, 1) := by decide +kernel
theorem dX2_openSheet_16 : decode cX2_openSheet 16 = .ok (.iload_n 1, 1) := by decide +kernel
theorem dX2_openSheet_17 : decode cX2_openSheet 17 = .ok (.iload_n 3, 1) := by decide +kernel
theorem dX2_openSheet_18 : decode cX2_openSheet 18 = .ok (.bipush 6, 2) := by decide +kernel
theorem dX2_openSheet_20 : decode cX2_openSheet 20 = .ok (.invokevirtual 44, 3) := by decide +kernel
theorem dX2_openSheet_23 : decode cX2_openSheet 23 = .ok (.pop, 1) := by decide +kernel
theorem dX2_openSheet_24 : decode cX2_openSheet 24 = .ok (.iinc 3 1, 3) := by decide +kernel
theorem dX2_openSheet_27 : decode cX2_openSheet 27 = .ok (.goto (-18), 3) := by decide +kernel
theorem dX2_openSheet_30 : decode cX2_openSheet 30 = .ok (.return_, 1) := by decide +kernel
theorem dX2_strokeIn_0 : decode cX2_strokeIn 0 = .ok (.aload_n 0, 1) := by decide +kernel
theorem dX2_strokeIn_1 : decode cX2_strokeIn 1 = .ok (.getfield 21, 3) := by decide +kernel
theorem dX2_strokeIn_4 : decode cX2_strokeIn 4 = .ok (.iload_n 1, 1) := by decide +kernel
theorem dX2_strokeIn_5 : decode cX2_strokeIn 5 = .ok (.bipush 6, 2) := by decide +kernel
theorem dX2_strokeIn_7 : decode cX2_strokeIn 7 = .ok (.imul, 1) := by decide +kernel
theorem dX2_strokeIn_8 : decode cX2_strokeIn 8 = .ok (.iload_n 2, 1) := by decide +kernel
theorem dX2_strokeIn_9 : decode cX2_strokeIn 9 = .ok (.iadd, 1) := by decide +kernel
theorem dX2_strokeIn_10 : decode cX2_strokeIn 10 = .ok (.iaload, 1) := by decide +kernel
theorem dX2_strokeIn_11 : decode cX2_strokeIn 11 = .ok (.ireturn, 1) := by decide +kernel
theorem dX2_tell_0 : decode cX2_tell 0 = .ok (.aload_n 0, 1) := by decide +kernel
theorem dX2_tell_1 : decode cX2_tell 1 = .ok (.iload_n 1, 1) := by decide +kernel
theorem dX2_tell_2 : decode cX2_tell 2 = .ok (.iload_n 2, 1) := by decide +kernel
theorem dX2_tell_3 : decode cX2_tell 3 = .ok (.invokevirtual 48, 3) := by decide +kernel
theorem dX2_tell_6 : decode cX2_tell 6 = .ok (.istore 4, 2) := by decide +kernel
theorem dX2_tell_8 : decode cX2_tell 8 = .ok (.aload_n 0, 1) := by decide +kernel
theorem dX2_tell_9 : decode cX2_tell 9 = .ok (.getfield 21, 3) := by decide +kernel
theorem dX2_tell_12 : decode cX2_tell 12 = .ok (.iload_n 1, 1) := by decide +kernel
theorem dX2_tell_13 : decode cX2_tell 13 = .ok (.bipush 6, 2) := by decide +kernel
theorem dX2_tell_15 : decode cX2_tell 15 = .ok (.imul, 1) := by decide +kernel
theorem dX2_tell_16 : decode cX2_tell 16 = .ok (.iload_n 2, 1) := by decide +kernel
theorem dX2_tell_17 : decode cX2_tell 17 = .ok (.iadd, 1) := by decide +kernel
theorem dX2_tell_18 : decode cX2_tell 18 = .ok (.iload_n 3, 1) := by decide +kernel
theorem dX2_tell_19 : decode cX2_tell 19 = .ok (.iastore, 1) := by decide +kernel
theorem dX2_tell_20 : decode cX2_tell 20 = .ok (.iload 4, 2) := by decide +kernel
theorem dX2_tell_22 : decode cX2_tell 22 = .ok (.ireturn, 1) := by decide +kernel
theorem dX2_carryOver_0 : decode cX2_carryOver 0 = .ok (.aload_n 0, 1) := by decide +kernel
theorem dX2_carryOver_1 : decode cX2_carryOver 1 = .ok (.getfield 21, 3) := by decide +kernel
theorem dX2_carryOver_4 : decode cX2_carryOver 4 = .ok (.iload_n 1, 1) := by decide +kernel
theorem dX2_carryOver_5 : decode cX2_carryOver 5 = .ok (.bipush 6, 2) := by decide +kernel
theorem dX2_carryOver_7 : decode cX2_carryOver 7 = .ok (.imul, 1) := by decide +kernel
theorem dX2_carryOver_8 : decode cX2_carryOver 8 = .ok (.iload_n 3, 1) := by decide +kernel
theorem dX2_carryOver_9 : decode cX2_carryOver 9 = .ok (.iadd, 1) := by decide +kernel
theorem dX2_carryOver_10 : decode cX2_carryOver 10 = .ok (.aload_n 0, 1) := by decide +kernel
theorem dX2_carryOver_11 : decode cX2_carryOver 11 = .ok (.getfield 21, 3) := by decide +kernel
theorem dX2_carryOver_14 : decode cX2_carryOver 14 = .ok (.iload_n 2, 1) := by decide +kernel
theorem dX2_carryOver_15 : decode cX2_carryOver 15 = .ok (.bipush 6, 2) := by decide +kernel
theorem dX2_carryOver_17 : decode cX2_carryOver 17 = .ok (.imul, 1) := by decide +kernel
theorem dX2_carryOver_18 : decode cX2_carryOver 18 = .ok (.iload 4, 2) := by decide +kernel
theorem dX2_carryOver_20 : decode cX2_carryOver 20 = .ok (.iadd, 1) := by decide +kernel
theorem dX2_carryOver_21 : decode cX2_carryOver 21 = .ok (.iload 5, 2) := by decide +kernel
theorem dX2_carryOver_23 : decode cX2_carryOver 23 = .ok (.invokestatic 51, 3) := by decide +kernel
theorem dX2_carryOver_26 : decode cX2_carryOver 26 = .ok (.return_, 1) := by decide +kernel
theorem dX2_countOf_0 : decode cX2_countOf 0 = .ok (.iconst 0, 1) := by decide +kernel
theorem dX2_countOf_1 : decode cX2_countOf 1 = .ok (.istore_n 3, 1) := by decide +kernel
theorem dX2_countOf_2 : decode cX2_countOf 2 = .ok (.iconst 0, 1) := by decide +kernel
theorem dX2_countOf_3 : decode cX2_countOf 3 = .ok (.istore 4, 2) := by decide +kernel
theorem dX2_countOf_5 : decode cX2_countOf 5 = .ok (.iload 4, 2) := by decide +kernel
theorem dX2_countOf_7 : decode cX2_countOf 7 = .ok (.bipush 6, 2) := by decide +kernel
theorem dX2_countOf_9 : decode cX2_countOf 9 = .ok (.if_icmp .ge 23, 3) := by decide +kernel
theorem dX2_countOf_12 : decode cX2_countOf 12 = .ok (.aload_n 0, 1) := by decide +kernel
theorem dX2_countOf_13 : decode cX2_countOf 13 = .ok (.iload_n 1, 1) := by decide +kernel
theorem dX2_countOf_14 : decode cX2_countOf 14 = .ok (.iload 4, 2) := by decide +kernel
theorem dX2_countOf_16 : decode cX2_countOf 16 = .ok (.invokevirtual 48, 3) := by decide +kernel
theorem dX2_countOf_19 : decode cX2_countOf 19 = .ok (.iload_n 2, 1) := by decide +kernel
theorem dX2_countOf_20 : decode cX2_countOf 20 = .ok (.if_icmp .ne 6, 3) := by decide +kernel
theorem dX2_countOf_23 : decode cX2_countOf 23 = .ok (.iinc 3 1, 3) := by decide +kernel
theorem dX2_countOf_26 : decode cX2_countOf 26 = .ok (.iinc 4 1, 3) := by decide +kernel
theorem dX2_countOf_29 : decode cX2_countOf 29 = .ok (.goto (-24), 3) := by decide +kernel
theorem dX2_countOf_32 : decode cX2_countOf 32 = .ok (.iload_n 3, 1) := by decide +kernel
theorem dX2_countOf_33 : decode cX2_countOf 33 = .ok (.ireturn, 1) := by decide +kernel
theorem dX2_leastStanding_0 : decode cX2_leastStanding 0 = .ok (.aload_n 0, 1) := by decide +kernel
theorem dX2_leastStanding_1 : decode cX2_leastStanding 1 = .ok (.iload_n 1, 1) := by decide +kernel
theorem dX2_leastStanding_2 : decode cX2_leastStanding 2 = .ok (.aload_n 0, 1) := by decide +kernel
theorem dX2_leastStanding_3 : decode cX2_leastStanding 3 = .ok (.getfield 28, 3) := by decide +kernel
theorem dX2_leastStanding_6 : decode cX2_leastStanding 6 = .ok (.aload_n 0, 1) := by decide +kernel
theorem dX2_leastStanding_7 : decode cX2_leastStanding 7 = .ok (.getfield 9, 3) := by decide +kernel
theorem dX2_leastStanding_10 : decode cX2_leastStanding 10 = .ok (.iload_n 1, 1) := by decide +kernel
theorem dX2_leastStanding_11 : decode cX2_leastStanding 11 = .ok (.iconst 2, 1) := by decide +kernel
theorem dX2_leastStanding_12 : decode cX2_leastStanding 12 = .ok (.idiv, 1) := by decide +kernel
theorem dX2_leastStanding_13 : decode cX2_leastStanding 13 = .ok (.iaload, 1) := by decide +kernel
theorem dX2_leastStanding_14 : decode cX2_leastStanding 14 = .ok (.invokevirtual 57, 3) := by decide +kernel
theorem dX2_leastStanding_17 : decode cX2_leastStanding 17 = .ok (.invokevirtual 63, 3) := by decide +kernel
theorem dX2_leastStanding_20 : decode cX2_leastStanding 20 = .ok (.ireturn, 1) := by decide +kernel
theorem dX2_greatestStanding_0 : decode cX2_greatestStanding 0 = .ok (.aload_n 0, 1) := by decide +kernel
theorem dX2_greatestStanding_1 : decode cX2_greatestStanding 1 = .ok (.iload_n 1, 1) := by decide +kernel
theorem dX2_greatestStanding_2 : decode cX2_greatestStanding 2 = .ok (.aload_n 0, 1) := by decide +kernel
theorem dX2_greatestStanding_3 : decode cX2_greatestStanding 3 = .ok (.getfield 28, 3) := by decide +kernel
theorem dX2_greatestStanding_6 : decode cX2_greatestStanding 6 = .ok (.aload_n 0, 1) := by decide +kernel
theorem dX2_greatestStanding_7 : decode cX2_greatestStanding 7 = .ok (.getfield 9, 3) := by decide +kernel
theorem dX2_greatestStanding_10 : decode cX2_greatestStanding 10 = .ok (.iload_n 1, 1) := by decide +kernel
theorem dX2_greatestStanding_11 : decode cX2_greatestStanding 11 = .ok (.iconst 2, 1) := by decide +kernel
theorem dX2_greatestStanding_12 : decode cX2_greatestStanding 12 = .ok (.idiv, 1) := by decide +kernel
theorem dX2_greatestStanding_13 : decode cX2_greatestStanding 13 = .ok (.iaload, 1) := by decide +kernel
theorem dX2_greatestStanding_14 : decode cX2_greatestStanding 14 = .ok (.invokevirtual 66, 3) := by decide +kernel
theorem dX2_greatestStanding_17 : decode cX2_greatestStanding 17 = .ok (.invokevirtual 63, 3) := by decide +kernel
theorem dX2_greatestStanding_20 : decode cX2_greatestStanding 20 = .ok (.ireturn, 1) := by decide +kernel
theorem dX2_standingWith_0 : decode cX2_standingWith 0 = .ok (.aload_n 0, 1) := by decide +kernel
theorem dX2_standingWith_1 : decode cX2_standingWith 1 = .ok (.getfield 9, 3) := by decide +kernel
theorem dX2_standingWith_4 : decode cX2_standingWith 4 = .ok (.iload_n 1, 1) := by decide +kernel
theorem dX2_standingWith_5 : decode cX2_standingWith 5 = .ok (.iconst 2, 1) := by decide +kernel
theorem dX2_standingWith_6 : decode cX2_standingWith 6 = .ok (.idiv, 1) := by decide +kernel
theorem dX2_standingWith_7 : decode cX2_standingWith 7 = .ok (.iaload, 1) := by decide +kernel
theorem dX2_standingWith_8 : decode cX2_standingWith 8 = .ok (.istore_n 3, 1) := by decide +kernel
theorem dX2_standingWith_9 : decode cX2_standingWith 9 = .ok (.iconst 0, 1) := by decide +kernel
theorem dX2_standingWith_10 : decode cX2_standingWith 10 = .ok (.istore 4, 2) := by decide +kernel
theorem dX2_standingWith_12 : decode cX2_standingWith 12 = .ok (.iconst 0, 1) := by decide +kernel
theorem dX2_standingWith_13 : decode cX2_standingWith 13 = .ok (.istore 5, 2) := by decide +kernel
theorem dX2_standingWith_15 : decode cX2_standingWith 15 = .ok (.iload 5, 2) := by decide +kernel
theorem dX2_standingWith_17 : decode cX2_standingWith 17 = .ok (.bipush 6, 2) := by decide +kernel
theorem dX2_standingWith_19 : decode cX2_standingWith 19 = .ok (.if_icmp .ge 44, 3) := by decide +kernel
theorem dX2_standingWith_22 : decode cX2_standingWith 22 = .ok (.aload_n 0, 1) := by decide +kernel
theorem dX2_standingWith_23 : decode cX2_standingWith 23 = .ok (.iload_n 1, 1) := by decide +kernel
theorem dX2_standingWith_24 : decode cX2_standingWith 24 = .ok (.iload 5, 2) := by decide +kernel
theorem dX2_standingWith_26 : decode cX2_standingWith 26 = .ok (.invokevirtual 48, 3) := by decide +kernel
theorem dX2_standingWith_29 : decode cX2_standingWith 29 = .ok (.istore 6, 2) := by decide +kernel
theorem dX2_standingWith_31 : decode cX2_standingWith 31 = .ok (.iload 4, 2) := by decide +kernel
theorem dX2_standingWith_33 : decode cX2_standingWith 33 = .ok (.iload 6, 2) := by decide +kernel
theorem dX2_standingWith_35 : decode cX2_standingWith 35 = .ok (.bipush 6, 2) := by decide +kernel
theorem dX2_standingWith_37 : decode cX2_standingWith 37 = .ok (.if_icmp .ne 7, 3) := by decide +kernel
theorem dX2_standingWith_40 : decode cX2_standingWith 40 = .ok (.iload_n 2, 1) := by decide +kernel
theorem dX2_standingWith_41 : decode cX2_standingWith 41 = .ok (.goto 13, 3) := by decide +kernel
theorem dX2_standingWith_44 : decode cX2_standingWith 44 = .ok (.aload_n 0, 1) := by decide +kernel
theorem dX2_standingWith_45 : decode cX2_standingWith 45 = .ok (.getfield 28, 3) := by decide +kernel
theorem dX2_standingWith_48 : decode cX2_standingWith 48 = .ok (.iload_n 3, 1) := by decide +kernel
theorem dX2_standingWith_49 : decode cX2_standingWith 49 = .ok (.iload 6, 2) := by decide +kernel
theorem dX2_standingWith_51 : decode cX2_standingWith 51 = .ok (.invokevirtual 69, 3) := by decide +kernel
theorem dX2_standingWith_54 : decode cX2_standingWith 54 = .ok (.iadd, 1) := by decide +kernel
theorem dX2_standingWith_55 : decode cX2_standingWith 55 = .ok (.istore 4, 2) := by decide +kernel
theorem dX2_standingWith_57 : decode cX2_standingWith 57 = .ok (.iinc 5 1, 3) := by decide +kernel
theorem dX2_standingWith_60 : decode cX2_standingWith 60 = .ok (.goto (-45), 3) := by decide +kernel
theorem dX2_standingWith_63 : decode cX2_standingWith 63 = .ok (.iload 4, 2) := by decide +kernel
theorem dX2_standingWith_65 : decode cX2_standingWith 65 = .ok (.ireturn, 1) := by decide +kernel
theorem dX2_winsSurely_0 : decode cX2_winsSurely 0 = .ok (.aload_n 0, 1) := by decide +kernel
theorem dX2_winsSurely_1 : decode cX2_winsSurely 1 = .ok (.iload_n 1, 1) := by decide +kernel
theorem dX2_winsSurely_2 : decode cX2_winsSurely 2 = .ok (.invokevirtual 72, 3) := by decide +kernel
theorem dX2_winsSurely_5 : decode cX2_winsSurely 5 = .ok (.aload_n 0, 1) := by decide +kernel
theorem dX2_winsSurely_6 : decode cX2_winsSurely 6 = .ok (.iload_n 1, 1) := by decide +kernel
theorem dX2_winsSurely_7 : decode cX2_winsSurely 7 = .ok (.iconst 1, 1) := by decide +kernel
theorem dX2_winsSurely_8 : decode cX2_winsSurely 8 = .ok (.ixor, 1) := by decide +kernel
theorem dX2_winsSurely_9 : decode cX2_winsSurely 9 = .ok (.invokevirtual 73, 3) := by decide +kernel
theorem dX2_winsSurely_12 : decode cX2_winsSurely 12 = .ok (.if_icmp .le 7, 3) := by decide +kernel
theorem dX2_winsSurely_15 : decode cX2_winsSurely 15 = .ok (.iconst 1, 1) := by decide +kernel
theorem dX2_winsSurely_16 : decode cX2_winsSurely 16 = .ok (.goto 4, 3) := by decide +kernel
theorem dX2_winsSurely_19 : decode cX2_winsSurely 19 = .ok (.iconst 0, 1) := by decide +kernel
theorem dX2_winsSurely_20 : decode cX2_winsSurely 20 = .ok (.ireturn, 1) := by decide +kernel
theorem dX2_mayWin_0 : decode cX2_mayWin 0 = .ok (.aload_n 0, 1) := by decide +kernel
theorem dX2_mayWin_1 : decode cX2_mayWin 1 = .ok (.iload_n 1, 1) := by decide +kernel
theorem dX2_mayWin_2 : decode cX2_mayWin 2 = .ok (.invokevirtual 73, 3) := by decide +kernel
theorem dX2_mayWin_5 : decode cX2_mayWin 5 = .ok (.aload_n 0, 1) := by decide +kernel
theorem dX2_mayWin_6 : decode cX2_mayWin 6 = .ok (.iload_n 1, 1) := by decide +kernel
theorem dX2_mayWin_7 : decode cX2_mayWin 7 = .ok (.iconst 1, 1) := by decide +kernel
theorem dX2_mayWin_8 : decode cX2_mayWin 8 = .ok (.ixor, 1) := by decide +kernel
theorem dX2_mayWin_9 : decode cX2_mayWin 9 = .ok (.invokevirtual 72, 3) := by decide +kernel
theorem dX2_mayWin_12 : decode cX2_mayWin 12 = .ok (.if_icmp .le 7, 3) := by decide +kernel
theorem dX2_mayWin_15 : decode cX2_mayWin 15 = .ok (.iconst 1, 1) := by decide +kernel
theorem dX2_mayWin_16 : decode cX2_mayWin 16 = .ok (.goto 4, 3) := by decide +kernel
theorem dX2_mayWin_19 : decode cX2_mayWin 19 = .ok (.iconst 0, 1) := by decide +kernel
theorem dX2_mayWin_20 : decode cX2_mayWin 20 = .ok (.ireturn, 1) := by decide +kernel
theorem dX2_countSureWins_0 : decode cX2_countSureWins 0 = .ok (.iconst 0, 1) := by decide +kernel
theorem dX2_countSureWins_1 : decode cX2_countSureWins 1 = .ok (.istore_n 2, 1) := by decide +kernel
theorem dX2_countSureWins_2 : decode cX2_countSureWins 2 = .ok (.iconst 0, 1) := by decide +kernel
theorem dX2_countSureWins_3 : decode cX2_countSureWins 3 = .ok (.istore_n 3, 1) := by decide +kernel
theorem dX2_countSureWins_4 : decode cX2_countSureWins 4 = .ok (.iload_n 3, 1) := by decide +kernel
theorem dX2_countSureWins_5 : decode cX2_countSureWins 5 = .ok (.aload_n 0, 1) := by decide +kernel
theorem dX2_countSureWins_6 : decode cX2_countSureWins 6 = .ok (.getfield 32, 3) := by decide +kernel
theorem dX2_countSureWins_9 : decode cX2_countSureWins 9 = .ok (.iconst 2, 1) := by decide +kernel
theorem dX2_countSureWins_10 : decode cX2_countSureWins 10 = .ok (.imul, 1) := by decide +kernel
theorem dX2_countSureWins_11 : decode cX2_countSureWins 11 = .ok (.if_icmp .ge 30, 3) := by decide +kernel
theorem dX2_countSureWins_14 : decode cX2_countSureWins 14 = .ok (.aload_n 0, 1) := by decide +kernel
theorem dX2_countSureWins_15 : decode cX2_countSureWins 15 = .ok (.getfield 15, 3) := by decide +kernel
theorem dX2_countSureWins_18 : decode cX2_countSureWins 18 = .ok (.iload_n 3, 1) := by decide +kernel
theorem dX2_countSureWins_19 : decode cX2_countSureWins 19 = .ok (.iaload, 1) := by decide +kernel
theorem dX2_countSureWins_20 : decode cX2_countSureWins 20 = .ok (.iload_n 1, 1) := by decide +kernel
theorem dX2_countSureWins_21 : decode cX2_countSureWins 21 = .ok (.if_icmp .ne 14, 3) := by decide +kernel
theorem dX2_countSureWins_24 : decode cX2_countSureWins 24 = .ok (.aload_n 0, 1) := by decide +kernel
theorem dX2_countSureWins_25 : decode cX2_countSureWins 25 = .ok (.iload_n 3, 1) := by decide +kernel
theorem dX2_countSureWins_26 : decode cX2_countSureWins 26 = .ok (.invokevirtual 74, 3) := by decide +kernel
theorem dX2_countSureWins_29 : decode cX2_countSureWins 29 = .ok (.ifCond .eq 6, 3) := by decide +kernel
theorem dX2_countSureWins_32 : decode cX2_countSureWins 32 = .ok (.iinc 2 1, 3) := by decide +kernel
theorem dX2_countSureWins_35 : decode cX2_countSureWins 35 = .ok (.iinc 3 1, 3) := by decide +kernel
theorem dX2_countSureWins_38 : decode cX2_countSureWins 38 = .ok (.goto (-34), 3) := by decide +kernel
theorem dX2_countSureWins_41 : decode cX2_countSureWins 41 = .ok (.iload_n 2, 1) := by decide +kernel
theorem dX2_countSureWins_42 : decode cX2_countSureWins 42 = .ok (.ireturn, 1) := by decide +kernel
theorem dX2_countJousts_0 : decode cX2_countJousts 0 = .ok (.iconst 0, 1) := by decide +kernel
theorem dX2_countJousts_1 : decode cX2_countJousts 1 = .ok (.istore_n 2, 1) := by decide +kernel
theorem dX2_countJousts_2 : decode cX2_countJousts 2 = .ok (.iconst 0, 1) := by decide +kernel
theorem dX2_countJousts_3 : decode cX2_countJousts 3 = .ok (.istore_n 3, 1) := by decide +kernel
theorem dX2_countJousts_4 : decode cX2_countJousts 4 = .ok (.iload_n 3, 1) := by decide +kernel
theorem dX2_countJousts_5 : decode cX2_countJousts 5 = .ok (.aload_n 0, 1) := by decide +kernel
theorem dX2_countJousts_6 : decode cX2_countJousts 6 = .ok (.getfield 32, 3) := by decide +kernel
theorem dX2_countJousts_9 : decode cX2_countJousts 9 = .ok (.iconst 2, 1) := by decide +kernel
theorem dX2_countJousts_10 : decode cX2_countJousts 10 = .ok (.imul, 1) := by decide +kernel
theorem dX2_countJousts_11 : decode cX2_countJousts 11 = .ok (.if_icmp .ge 22, 3) := by decide +kernel
theorem dX2_countJousts_14 : decode cX2_countJousts 14 = .ok (.aload_n 0, 1) := by decide +kernel
theorem dX2_countJousts_15 : decode cX2_countJousts 15 = .ok (.getfield 15, 3) := by decide +kernel
theorem dX2_countJousts_18 : decode cX2_countJousts 18 = .ok (.iload_n 3, 1) := by decide +kernel
theorem dX2_countJousts_19 : decode cX2_countJousts 19 = .ok (.iaload, 1) := by decide +kernel
theorem dX2_countJousts_20 : decode cX2_countJousts 20 = .ok (.iload_n 1, 1) := by decide +kernel
theorem dX2_countJousts_21 : decode cX2_countJousts 21 = .ok (.if_icmp .ne 6, 3) := by decide +kernel
theorem dX2_countJousts_24 : decode cX2_countJousts 24 = .ok (.iinc 2 1, 3) := by decide +kernel
theorem dX2_countJousts_27 : decode cX2_countJousts 27 = .ok (.iinc 3 1, 3) := by decide +kernel
theorem dX2_countJousts_30 : decode cX2_countJousts 30 = .ok (.goto (-26), 3) := by decide +kernel
theorem dX2_countJousts_33 : decode cX2_countJousts 33 = .ok (.iload_n 2, 1) := by decide +kernel
theorem dX2_countJousts_34 : decode cX2_countJousts 34 = .ok (.ireturn, 1) := by decide +kernel
theorem dX2_isBetter_0 : decode cX2_isBetter 0 = .ok (.aload_n 0, 1) := by decide +kernel
theorem dX2_isBetter_1 : decode cX2_isBetter 1 = .ok (.iload_n 1, 1) := by decide +kernel
theorem dX2_isBetter_2 : decode cX2_isBetter 2 = .ok (.invokevirtual 78, 3) := by decide +kernel
theorem dX2_isBetter_5 : decode cX2_isBetter 5 = .ok (.istore_n 3, 1) := by decide +kernel
theorem dX2_isBetter_6 : decode cX2_isBetter 6 = .ok (.aload_n 0, 1) := by decide +kernel
theorem dX2_isBetter_7 : decode cX2_isBetter 7 = .ok (.iload_n 2, 1) := by decide +kernel
theorem dX2_isBetter_8 : decode cX2_isBetter 8 = .ok (.invokevirtual 78, 3) := by decide +kernel
theorem dX2_isBetter_11 : decode cX2_isBetter 11 = .ok (.istore 4, 2) := by decide +kernel
theorem dX2_isBetter_13 : decode cX2_isBetter 13 = .ok (.iload_n 3, 1) := by decide +kernel
theorem dX2_isBetter_14 : decode cX2_isBetter 14 = .ok (.iload 4, 2) := by decide +kernel
theorem dX2_isBetter_16 : decode cX2_isBetter 16 = .ok (.if_icmp .eq 15, 3) := by decide +kernel
theorem dX2_isBetter_19 : decode cX2_isBetter 19 = .ok (.iload_n 3, 1) := by decide +kernel
theorem dX2_isBetter_20 : decode cX2_isBetter 20 = .ok (.iload 4, 2) := by decide +kernel
theorem dX2_isBetter_22 : decode cX2_isBetter 22 = .ok (.if_icmp .le 7, 3) := by decide +kernel
theorem dX2_isBetter_25 : decode cX2_isBetter 25 = .ok (.iconst 1, 1) := by decide +kernel
theorem dX2_isBetter_26 : decode cX2_isBetter 26 = .ok (.goto 4, 3) := by decide +kernel
theorem dX2_isBetter_29 : decode cX2_isBetter 29 = .ok (.iconst 0, 1) := by decide +kernel
theorem dX2_isBetter_30 : decode cX2_isBetter 30 = .ok (.ireturn, 1) := by decide +kernel
theorem dX2_isBetter_31 : decode cX2_isBetter 31 = .ok (.aload_n 0, 1) := by decide +kernel
theorem dX2_isBetter_32 : decode cX2_isBetter 32 = .ok (.iload_n 1, 1) := by decide +kernel
theorem dX2_isBetter_33 : decode cX2_isBetter 33 = .ok (.invokevirtual 81, 3) := by decide +kernel
theorem dX2_isBetter_36 : decode cX2_isBetter 36 = .ok (.aload_n 0, 1) := by decide +kernel
theorem dX2_isBetter_37 : decode cX2_isBetter 37 = .ok (.iload_n 2, 1) := by decide +kernel
theorem dX2_isBetter_38 : decode cX2_isBetter 38 = .ok (.invokevirtual 81, 3) := by decide +kernel
theorem dX2_isBetter_41 : decode cX2_isBetter 41 = .ok (.if_icmp .ge 7, 3) := by decide +kernel
theorem dX2_isBetter_44 : decode cX2_isBetter 44 = .ok (.iconst 1, 1) := by decide +kernel
theorem dX2_isBetter_45 : decode cX2_isBetter 45 = .ok (.goto 4, 3) := by decide +kernel
theorem dX2_isBetter_48 : decode cX2_isBetter 48 = .ok (.iconst 0, 1) := by decide +kernel
theorem dX2_isBetter_49 : decode cX2_isBetter 49 = .ok (.ireturn, 1) := by decide +kernel
theorem dX2_ransomOf_0 : decode cX2_ransomOf 0 = .ok (.aload_n 0, 1) := by decide +kernel
theorem dX2_ransomOf_1 : decode cX2_ransomOf 1 = .ok (.iload_n 1, 1) := by decide +kernel
theorem dX2_ransomOf_2 : decode cX2_ransomOf 2 = .ok (.iconst 1, 1) := by decide +kernel
theorem dX2_ransomOf_3 : decode cX2_ransomOf 3 = .ok (.ixor, 1) := by decide +kernel
theorem dX2_ransomOf_4 : decode cX2_ransomOf 4 = .ok (.iconst 4, 1) := by decide +kernel
theorem dX2_ransomOf_5 : decode cX2_ransomOf 5 = .ok (.invokevirtual 84, 3) := by decide +kernel
theorem dX2_ransomOf_8 : decode cX2_ransomOf 8 = .ok (.ifCond .le 7, 3) := by decide +kernel
theorem dX2_ransomOf_11 : decode cX2_ransomOf 11 = .ok (.iconst 1, 1) := by decide +kernel
theorem dX2_ransomOf_12 : decode cX2_ransomOf 12 = .ok (.goto 4, 3) := by decide +kernel
theorem dX2_ransomOf_15 : decode cX2_ransomOf 15 = .ok (.iconst 0, 1) := by decide +kernel
theorem dX2_ransomOf_16 : decode cX2_ransomOf 16 = .ok (.istore_n 2, 1) := by decide +kernel
theorem dX2_ransomOf_17 : decode cX2_ransomOf 17 = .ok (.iload_n 2, 1) := by decide +kernel
theorem dX2_ransomOf_18 : decode cX2_ransomOf 18 = .ok (.ifCond .eq 25, 3) := by decide +kernel
theorem dX2_ransomOf_21 : decode cX2_ransomOf 21 = .ok (.bipush 10, 2) := by decide +kernel
theorem dX2_ransomOf_23 : decode cX2_ransomOf 23 = .ok (.bipush 10, 2) := by decide +kernel
theorem dX2_ransomOf_25 : decode cX2_ransomOf 25 = .ok (.aload_n 0, 1) := by decide +kernel
theorem dX2_ransomOf_26 : decode cX2_ransomOf 26 = .ok (.getfield 24, 3) := by decide +kernel
theorem dX2_ransomOf_29 : decode cX2_ransomOf 29 = .ok (.aload_n 0, 1) := by decide +kernel
theorem dX2_ransomOf_30 : decode cX2_ransomOf 30 = .ok (.getfield 15, 3) := by decide +kernel
theorem dX2_ransomOf_33 : decode cX2_ransomOf 33 = .ok (.iload_n 1, 1) := by decide +kernel
theorem dX2_ransomOf_34 : decode cX2_ransomOf 34 = .ok (.iaload, 1) := by decide +kernel
theorem dX2_ransomOf_35 : decode cX2_ransomOf 35 = .ok (.invokevirtual 87, 3) := by decide +kernel
theorem dX2_ransomOf_38 : decode cX2_ransomOf 38 = .ok (.imul, 1) := by decide +kernel
theorem dX2_ransomOf_39 : decode cX2_ransomOf 39 = .ok (.iadd, 1) := by decide +kernel
theorem dX2_ransomOf_40 : decode cX2_ransomOf 40 = .ok (.goto 4, 3) := by decide +kernel
theorem dX2_ransomOf_43 : decode cX2_ransomOf 43 = .ok (.iconst 0, 1) := by decide +kernel
theorem dX2_ransomOf_44 : decode cX2_ransomOf 44 = .ok (.ireturn, 1) := by decide +kernel
theorem dX2_owedOf_0 : decode cX2_owedOf 0 = .ok (.iconst 0, 1) := by decide +kernel
theorem dX2_owedOf_1 : decode cX2_owedOf 1 = .ok (.aload_n 0, 1) := by decide +kernel
theorem dX2_owedOf_2 : decode cX2_owedOf 2 = .ok (.iload_n 1, 1) := by decide +kernel
theorem dX2_owedOf_3 : decode cX2_owedOf 3 = .ok (.invokevirtual 92, 3) := by decide +kernel
theorem dX2_owedOf_6 : decode cX2_owedOf 6 = .ok (.aload_n 0, 1) := by decide +kernel
theorem dX2_owedOf_7 : decode cX2_owedOf 7 = .ok (.getfield 18, 3) := by decide +kernel
theorem dX2_owedOf_10 : decode cX2_owedOf 10 = .ok (.iload_n 1, 1) := by decide +kernel
theorem dX2_owedOf_11 : decode cX2_owedOf 11 = .ok (.iaload, 1) := by decide +kernel
theorem dX2_owedOf_12 : decode cX2_owedOf 12 = .ok (.isub, 1) := by decide +kernel
theorem dX2_owedOf_13 : decode cX2_owedOf 13 = .ok (.invokestatic 95, 3) := by decide +kernel
theorem dX2_owedOf_16 : decode cX2_owedOf 16 = .ok (.ireturn, 1) := by decide +kernel
theorem dX2_putDown_0 : decode cX2_putDown 0 = .ok (.aload_n 0, 1) := by decide +kernel
theorem dX2_putDown_1 : decode cX2_putDown 1 = .ok (.getfield 18, 3) := by decide +kernel
theorem dX2_putDown_4 : decode cX2_putDown 4 = .ok (.iload_n 1, 1) := by decide +kernel
theorem dX2_putDown_5 : decode cX2_putDown 5 = .ok (.dup2, 1) := by decide +kernel
theorem dX2_putDown_6 : decode cX2_putDown 6 = .ok (.iaload, 1) := by decide +kernel
theorem dX2_putDown_7 : decode cX2_putDown 7 = .ok (.iload_n 2, 1) := by decide +kernel
theorem dX2_putDown_8 : decode cX2_putDown 8 = .ok (.iadd, 1) := by decide +kernel
theorem dX2_putDown_9 : decode cX2_putDown 9 = .ok (.iastore, 1) := by decide +kernel
theorem dX2_putDown_10 : decode cX2_putDown 10 = .ok (.return_, 1) := by decide +kernel
theorem dX2_owedBy_0 : decode cX2_owedBy 0 = .ok (.iconst 0, 1) := by decide +kernel
theorem dX2_owedBy_1 : decode cX2_owedBy 1 = .ok (.istore_n 2, 1) := by decide +kernel
theorem dX2_owedBy_2 : decode cX2_owedBy 2 = .ok (.iconst 0, 1) := by decide +kernel
theorem dX2_owedBy_3 : decode cX2_owedBy 3 = .ok (.istore_n 3, 1) := by decide +kernel
theorem dX2_owedBy_4 : decode cX2_owedBy 4 = .ok (.iload_n 3, 1) := by decide +kernel
theorem dX2_owedBy_5 : decode cX2_owedBy 5 = .ok (.aload_n 0, 1) := by decide +kernel
theorem dX2_owedBy_6 : decode cX2_owedBy 6 = .ok (.getfield 32, 3) := by decide +kernel
theorem dX2_owedBy_9 : decode cX2_owedBy 9 = .ok (.iconst 2, 1) := by decide +kernel
theorem dX2_owedBy_10 : decode cX2_owedBy 10 = .ok (.imul, 1) := by decide +kernel
theorem dX2_owedBy_11 : decode cX2_owedBy 11 = .ok (.if_icmp .ge 27, 3) := by decide +kernel
theorem dX2_owedBy_14 : decode cX2_owedBy 14 = .ok (.aload_n 0, 1) := by decide +kernel
theorem dX2_owedBy_15 : decode cX2_owedBy 15 = .ok (.getfield 15, 3) := by decide +kernel
theorem dX2_owedBy_18 : decode cX2_owedBy 18 = .ok (.iload_n 3, 1) := by decide +kernel
theorem dX2_owedBy_19 : decode cX2_owedBy 19 = .ok (.iaload, 1) := by decide +kernel
theorem dX2_owedBy_20 : decode cX2_owedBy 20 = .ok (.iload_n 1, 1) := by decide +kernel
theorem dX2_owedBy_21 : decode cX2_owedBy 21 = .ok (.if_icmp .ne 11, 3) := by decide +kernel
theorem dX2_owedBy_24 : decode cX2_owedBy 24 = .ok (.iload_n 2, 1) := by decide +kernel
theorem dX2_owedBy_25 : decode cX2_owedBy 25 = .ok (.aload_n 0, 1) := by decide +kernel
theorem dX2_owedBy_26 : decode cX2_owedBy 26 = .ok (.iload_n 3, 1) := by decide +kernel
theorem dX2_owedBy_27 : decode cX2_owedBy 27 = .ok (.invokevirtual 100, 3) := by decide +kernel
theorem dX2_owedBy_30 : decode cX2_owedBy 30 = .ok (.iadd, 1) := by decide +kernel
theorem dX2_owedBy_31 : decode cX2_owedBy 31 = .ok (.istore_n 2, 1) := by decide +kernel
theorem dX2_owedBy_32 : decode cX2_owedBy 32 = .ok (.iinc 3 1, 3) := by decide +kernel
theorem dX2_owedBy_35 : decode cX2_owedBy 35 = .ok (.goto (-31), 3) := by decide +kernel
theorem dX2_owedBy_38 : decode cX2_owedBy 38 = .ok (.iload_n 2, 1) := by decide +kernel
theorem dX2_owedBy_39 : decode cX2_owedBy 39 = .ok (.ireturn, 1) := by decide +kernel
theorem dX2_gainOf_0 : decode cX2_gainOf 0 = .ok (.iconst 0, 1) := by decide +kernel
theorem dX2_gainOf_1 : decode cX2_gainOf 1 = .ok (.istore_n 2, 1) := by decide +kernel
theorem dX2_gainOf_2 : decode cX2_gainOf 2 = .ok (.iconst 0, 1) := by decide +kernel
theorem dX2_gainOf_3 : decode cX2_gainOf 3 = .ok (.istore_n 3, 1) := by decide +kernel
theorem dX2_gainOf_4 : decode cX2_gainOf 4 = .ok (.iload_n 3, 1) := by decide +kernel
theorem dX2_gainOf_5 : decode cX2_gainOf 5 = .ok (.aload_n 0, 1) := by decide +kernel
theorem dX2_gainOf_6 : decode cX2_gainOf 6 = .ok (.getfield 32, 3) := by decide +kernel
theorem dX2_gainOf_9 : decode cX2_gainOf 9 = .ok (.iconst 2, 1) := by decide +kernel
theorem dX2_gainOf_10 : decode cX2_gainOf 10 = .ok (.imul, 1) := by decide +kernel
theorem dX2_gainOf_11 : decode cX2_gainOf 11 = .ok (.if_icmp .ge 37, 3) := by decide +kernel
theorem dX2_gainOf_14 : decode cX2_gainOf 14 = .ok (.aload_n 0, 1) := by decide +kernel
theorem dX2_gainOf_15 : decode cX2_gainOf 15 = .ok (.getfield 15, 3) := by decide +kernel
theorem dX2_gainOf_18 : decode cX2_gainOf 18 = .ok (.iload_n 3, 1) := by decide +kernel
theorem dX2_gainOf_19 : decode cX2_gainOf 19 = .ok (.iaload, 1) := by decide +kernel
theorem dX2_gainOf_20 : decode cX2_gainOf 20 = .ok (.iload_n 1, 1) := by decide +kernel
theorem dX2_gainOf_21 : decode cX2_gainOf 21 = .ok (.if_icmp .ne 21, 3) := by decide +kernel
theorem dX2_gainOf_24 : decode cX2_gainOf 24 = .ok (.iload_n 2, 1) := by decide +kernel
theorem dX2_gainOf_25 : decode cX2_gainOf 25 = .ok (.aload_n 0, 1) := by decide +kernel
theorem dX2_gainOf_26 : decode cX2_gainOf 26 = .ok (.getfield 18, 3) := by decide +kernel
theorem dX2_gainOf_29 : decode cX2_gainOf 29 = .ok (.iload_n 3, 1) := by decide +kernel
theorem dX2_gainOf_30 : decode cX2_gainOf 30 = .ok (.iconst 1, 1) := by decide +kernel
theorem dX2_gainOf_31 : decode cX2_gainOf 31 = .ok (.ixor, 1) := by decide +kernel
theorem dX2_gainOf_32 : decode cX2_gainOf 32 = .ok (.iaload, 1) := by decide +kernel
theorem dX2_gainOf_33 : decode cX2_gainOf 33 = .ok (.aload_n 0, 1) := by decide +kernel
theorem dX2_gainOf_34 : decode cX2_gainOf 34 = .ok (.getfield 18, 3) := by decide +kernel
theorem dX2_gainOf_37 : decode cX2_gainOf 37 = .ok (.iload_n 3, 1) := by decide +kernel
theorem dX2_gainOf_38 : decode cX2_gainOf 38 = .ok (.iaload, 1) := by decide +kernel
theorem dX2_gainOf_39 : decode cX2_gainOf 39 = .ok (.isub, 1) := by decide +kernel
theorem dX2_gainOf_40 : decode cX2_gainOf 40 = .ok (.iadd, 1) := by decide +kernel
theorem dX2_gainOf_41 : decode cX2_gainOf 41 = .ok (.istore_n 2, 1) := by decide +kernel
theorem dX2_gainOf_42 : decode cX2_gainOf 42 = .ok (.iinc 3 1, 3) := by decide +kernel
theorem dX2_gainOf_45 : decode cX2_gainOf 45 = .ok (.goto (-41), 3) := by decide +kernel
theorem dX2_gainOf_48 : decode cX2_gainOf 48 = .ok (.iload_n 2, 1) := by decide +kernel
theorem dX2_gainOf_49 : decode cX2_gainOf 49 = .ok (.ireturn, 1) := by decide +kernel
theorem dX2_owedInAll_0 : decode cX2_owedInAll 0 = .ok (.iconst 0, 1) := by decide +kernel
theorem dX2_owedInAll_1 : decode cX2_owedInAll 1 = .ok (.istore_n 1, 1) := by decide +kernel
theorem dX2_owedInAll_2 : decode cX2_owedInAll 2 = .ok (.iconst 0, 1) := by decide +kernel
theorem dX2_owedInAll_3 : decode cX2_owedInAll 3 = .ok (.istore_n 2, 1) := by decide +kernel
theorem dX2_owedInAll_4 : decode cX2_owedInAll 4 = .ok (.iload_n 2, 1) := by decide +kernel
theorem dX2_owedInAll_5 : decode cX2_owedInAll 5 = .ok (.aload_n 0, 1) := by decide +kernel
theorem dX2_owedInAll_6 : decode cX2_owedInAll 6 = .ok (.getfield 32, 3) := by decide +kernel
theorem dX2_owedInAll_9 : decode cX2_owedInAll 9 = .ok (.iconst 2, 1) := by decide +kernel
theorem dX2_owedInAll_10 : decode cX2_owedInAll 10 = .ok (.imul, 1) := by decide +kernel
theorem dX2_owedInAll_11 : decode cX2_owedInAll 11 = .ok (.if_icmp .ge 17, 3) := by decide +kernel
theorem dX2_owedInAll_14 : decode cX2_owedInAll 14 = .ok (.iload_n 1, 1) := by decide +kernel
theorem dX2_owedInAll_15 : decode cX2_owedInAll 15 = .ok (.aload_n 0, 1) := by decide +kernel
theorem dX2_owedInAll_16 : decode cX2_owedInAll 16 = .ok (.iload_n 2, 1) := by decide +kernel
theorem dX2_owedInAll_17 : decode cX2_owedInAll 17 = .ok (.invokevirtual 100, 3) := by decide +kernel
theorem dX2_owedInAll_20 : decode cX2_owedInAll 20 = .ok (.iadd, 1) := by decide +kernel
theorem dX2_owedInAll_21 : decode cX2_owedInAll 21 = .ok (.istore_n 1, 1) := by decide +kernel
theorem dX2_owedInAll_22 : decode cX2_owedInAll 22 = .ok (.iinc 2 1, 3) := by decide +kernel
theorem dX2_owedInAll_25 : decode cX2_owedInAll 25 = .ok (.goto (-21), 3) := by decide +kernel
theorem dX2_owedInAll_28 : decode cX2_owedInAll 28 = .ok (.iload_n 1, 1) := by decide +kernel
theorem dX2_owedInAll_29 : decode cX2_owedInAll 29 = .ok (.ireturn, 1) := by decide +kernel
theorem dX2_paidInAll_0 : decode cX2_paidInAll 0 = .ok (.iconst 0, 1) := by decide +kernel
theorem dX2_paidInAll_1 : decode cX2_paidInAll 1 = .ok (.istore_n 1, 1) := by decide +kernel
theorem dX2_paidInAll_2 : decode cX2_paidInAll 2 = .ok (.iconst 0, 1) := by decide +kernel
theorem dX2_paidInAll_3 : decode cX2_paidInAll 3 = .ok (.istore_n 2, 1) := by decide +kernel
theorem dX2_paidInAll_4 : decode cX2_paidInAll 4 = .ok (.iload_n 2, 1) := by decide +kernel
theorem dX2_paidInAll_5 : decode cX2_paidInAll 5 = .ok (.aload_n 0, 1) := by decide +kernel
theorem dX2_paidInAll_6 : decode cX2_paidInAll 6 = .ok (.getfield 32, 3) := by decide +kernel
theorem dX2_paidInAll_9 : decode cX2_paidInAll 9 = .ok (.iconst 2, 1) := by decide +kernel
theorem dX2_paidInAll_10 : decode cX2_paidInAll 10 = .ok (.imul, 1) := by decide +kernel
theorem dX2_paidInAll_11 : decode cX2_paidInAll 11 = .ok (.if_icmp .ge 18, 3) := by decide +kernel
theorem dX2_paidInAll_14 : decode cX2_paidInAll 14 = .ok (.iload_n 1, 1) := by decide +kernel
theorem dX2_paidInAll_15 : decode cX2_paidInAll 15 = .ok (.aload_n 0, 1) := by decide +kernel
theorem dX2_paidInAll_16 : decode cX2_paidInAll 16 = .ok (.getfield 18, 3) := by decide +kernel
theorem dX2_paidInAll_19 : decode cX2_paidInAll 19 = .ok (.iload_n 2, 1) := by decide +kernel
theorem dX2_paidInAll_20 : decode cX2_paidInAll 20 = .ok (.iaload, 1) := by decide +kernel
theorem dX2_paidInAll_21 : decode cX2_paidInAll 21 = .ok (.iadd, 1) := by decide +kernel
theorem dX2_paidInAll_22 : decode cX2_paidInAll 22 = .ok (.istore_n 1, 1) := by decide +kernel
theorem dX2_paidInAll_23 : decode cX2_paidInAll 23 = .ok (.iinc 2 1, 3) := by decide +kernel
theorem dX2_paidInAll_26 : decode cX2_paidInAll 26 = .ok (.goto (-22), 3) := by decide +kernel
theorem dX2_paidInAll_29 : decode cX2_paidInAll 29 = .ok (.iload_n 1, 1) := by decide +kernel
theorem dX2_paidInAll_30 : decode cX2_paidInAll 30 = .ok (.ireturn, 1) := by decide +kernel
