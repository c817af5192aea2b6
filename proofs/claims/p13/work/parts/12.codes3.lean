theorem dX3_pointsIn_13 : decode cX3_pointsIn 13 = .ok (.istore_n 3, 1) := by decide +kernel
theorem dX3_pointsIn_14 : decode cX3_pointsIn 14 = .ok (.iconst 0, 1) := by decide +kernel
theorem dX3_pointsIn_15 : decode cX3_pointsIn 15 = .ok (.istore 4, 2) := by decide +kernel
theorem dX3_pointsIn_17 : decode cX3_pointsIn 17 = .ok (.iconst 0, 1) := by decide +kernel
theorem dX3_pointsIn_18 : decode cX3_pointsIn 18 = .ok (.istore 5, 2) := by decide +kernel
theorem dX3_pointsIn_20 : decode cX3_pointsIn 20 = .ok (.iload 5, 2) := by decide +kernel
theorem dX3_pointsIn_22 : decode cX3_pointsIn 22 = .ok (.iconst 4, 1) := by decide +kernel
theorem dX3_pointsIn_23 : decode cX3_pointsIn 23 = .ok (.if_icmp .ge 55, 3) := by decide +kernel
theorem dX3_pointsIn_26 : decode cX3_pointsIn 26 = .ok (.iload_n 2, 1) := by decide +kernel
theorem dX3_pointsIn_27 : decode cX3_pointsIn 27 = .ok (.iconst 1, 1) := by decide +kernel
theorem dX3_pointsIn_28 : decode cX3_pointsIn 28 = .ok (.isub, 1) := by decide +kernel
theorem dX3_pointsIn_29 : decode cX3_pointsIn 29 = .ok (.iload_n 3, 1) := by decide +kernel
theorem dX3_pointsIn_30 : decode cX3_pointsIn 30 = .ok (.iadd, 1) := by decide +kernel
theorem dX3_pointsIn_31 : decode cX3_pointsIn 31 = .ok (.istore 6, 2) := by decide +kernel
theorem dX3_pointsIn_33 : decode cX3_pointsIn 33 = .ok (.aload_n 0, 1) := by decide +kernel
theorem dX3_pointsIn_34 : decode cX3_pointsIn 34 = .ok (.getfield 26, 3) := by decide +kernel
theorem dX3_pointsIn_37 : decode cX3_pointsIn 37 = .ok (.iload 5, 2) := by decide +kernel
theorem dX3_pointsIn_39 : decode cX3_pointsIn 39 = .ok (.iaload, 1) := by decide +kernel
theorem dX3_pointsIn_40 : decode cX3_pointsIn 40 = .ok (.aload_n 0, 1) := by decide +kernel
theorem dX3_pointsIn_41 : decode cX3_pointsIn 41 = .ok (.getfield 26, 3) := by decide +kernel
theorem dX3_pointsIn_44 : decode cX3_pointsIn 44 = .ok (.iload_n 1, 1) := by decide +kernel
theorem dX3_pointsIn_45 : decode cX3_pointsIn 45 = .ok (.iaload, 1) := by decide +kernel
theorem dX3_pointsIn_46 : decode cX3_pointsIn 46 = .ok (.if_icmp .ne 26, 3) := by decide +kernel
theorem dX3_pointsIn_49 : decode cX3_pointsIn 49 = .ok (.iload 6, 2) := by decide +kernel
theorem dX3_pointsIn_51 : decode cX3_pointsIn 51 = .ok (.getstatic 45, 3) := by decide +kernel
theorem dX3_pointsIn_54 : decode cX3_pointsIn 54 = .ok (.arraylength, 1) := by decide +kernel
theorem dX3_pointsIn_55 : decode cX3_pointsIn 55 = .ok (.if_icmp .ge 17, 3) := by decide +kernel
theorem dX3_pointsIn_58 : decode cX3_pointsIn 58 = .ok (.iload 4, 2) := by decide +kernel
theorem dX3_pointsIn_60 : decode cX3_pointsIn 60 = .ok (.getstatic 45, 3) := by decide +kernel
theorem dX3_pointsIn_63 : decode cX3_pointsIn 63 = .ok (.iload 6, 2) := by decide +kernel
theorem dX3_pointsIn_65 : decode cX3_pointsIn 65 = .ok (.iaload, 1) := by decide +kernel
theorem dX3_pointsIn_66 : decode cX3_pointsIn 66 = .ok (.iadd, 1) := by decide +kernel
theorem dX3_pointsIn_67 : decode cX3_pointsIn 67 = .ok (.istore 4, 2) := by decide +kernel
theorem dX3_pointsIn_69 : decode cX3_pointsIn 69 = .ok (.iinc 3 1, 3) := by decide +kernel
theorem dX3_pointsIn_72 : decode cX3_pointsIn 72 = .ok (.iinc 5 1, 3) := by decide +kernel
theorem dX3_pointsIn_75 : decode cX3_pointsIn 75 = .ok (.goto (-55), 3) := by decide +kernel
theorem dX3_pointsIn_78 : decode cX3_pointsIn 78 = .ok (.iload_n 3, 1) := by decide +kernel
theorem dX3_pointsIn_79 : decode cX3_pointsIn 79 = .ok (.ifCond .ne 7, 3) := by decide +kernel
theorem dX3_pointsIn_82 : decode cX3_pointsIn 82 = .ok (.iconst 0, 1) := by decide +kernel
theorem dX3_pointsIn_83 : decode cX3_pointsIn 83 = .ok (.goto 10, 3) := by decide +kernel
theorem dX3_pointsIn_86 : decode cX3_pointsIn 86 = .ok (.bipush 60, 2) := by decide +kernel
theorem dX3_pointsIn_88 : decode cX3_pointsIn 88 = .ok (.iload 4, 2) := by decide +kernel
theorem dX3_pointsIn_90 : decode cX3_pointsIn 90 = .ok (.imul, 1) := by decide +kernel
theorem dX3_pointsIn_91 : decode cX3_pointsIn 91 = .ok (.iload_n 3, 1) := by decide +kernel
theorem dX3_pointsIn_92 : decode cX3_pointsIn 92 = .ok (.idiv, 1) := by decide +kernel
theorem dX3_pointsIn_93 : decode cX3_pointsIn 93 = .ok (.ireturn, 1) := by decide +kernel
theorem dX9_pointsOf_0 : decode cX9_pointsOf 0 = .ok (.iconst 0, 1) := by decide +kernel
theorem dX9_pointsOf_1 : decode cX9_pointsOf 1 = .ok (.istore_n 2, 1) := by decide +kernel
theorem dX9_pointsOf_2 : decode cX9_pointsOf 2 = .ok (.iconst 0, 1) := by decide +kernel
theorem dX9_pointsOf_3 : decode cX9_pointsOf 3 = .ok (.istore_n 3, 1) := by decide +kernel
theorem dX9_pointsOf_4 : decode cX9_pointsOf 4 = .ok (.iload_n 3, 1) := by decide +kernel
theorem dX9_pointsOf_5 : decode cX9_pointsOf 5 = .ok (.aload_n 0, 1) := by decide +kernel
theorem dX9_pointsOf_6 : decode cX9_pointsOf 6 = .ok (.getfield 77, 3) := by decide +kernel
theorem dX9_pointsOf_9 : decode cX9_pointsOf 9 = .ok (.if_icmp .ge 62, 3) := by decide +kernel
theorem dX9_pointsOf_12 : decode cX9_pointsOf 12 = .ok (.aload_n 0, 1) := by decide +kernel
theorem dX9_pointsOf_13 : decode cX9_pointsOf 13 = .ok (.getfield 73, 3) := by decide +kernel
theorem dX9_pointsOf_16 : decode cX9_pointsOf 16 = .ok (.iload_n 3, 1) := by decide +kernel
theorem dX9_pointsOf_17 : decode cX9_pointsOf 17 = .ok (.aaload, 1) := by decide +kernel
theorem dX9_pointsOf_18 : decode cX9_pointsOf 18 = .ok (.getfield 333, 3) := by decide +kernel
theorem dX9_pointsOf_21 : decode cX9_pointsOf 21 = .ok (.iconst 1, 1) := by decide +kernel
theorem dX9_pointsOf_22 : decode cX9_pointsOf 22 = .ok (.if_icmp .ne 16, 3) := by decide +kernel
theorem dX9_pointsOf_25 : decode cX9_pointsOf 25 = .ok (.aload_n 0, 1) := by decide +kernel
theorem dX9_pointsOf_26 : decode cX9_pointsOf 26 = .ok (.getfield 73, 3) := by decide +kernel
theorem dX9_pointsOf_29 : decode cX9_pointsOf 29 = .ok (.iload_n 3, 1) := by decide +kernel
theorem dX9_pointsOf_30 : decode cX9_pointsOf 30 = .ok (.aaload, 1) := by decide +kernel
theorem dX9_pointsOf_31 : decode cX9_pointsOf 31 = .ok (.iload_n 1, 1) := by decide +kernel
theorem dX9_pointsOf_32 : decode cX9_pointsOf 32 = .ok (.invokevirtual 261, 3) := by decide +kernel
theorem dX9_pointsOf_35 : decode cX9_pointsOf 35 = .ok (.goto 4, 3) := by decide +kernel
theorem dX9_pointsOf_38 : decode cX9_pointsOf 38 = .ok (.iconst (-1), 1) := by decide +kernel
theorem dX9_pointsOf_39 : decode cX9_pointsOf 39 = .ok (.istore 4, 2) := by decide +kernel
theorem dX9_pointsOf_41 : decode cX9_pointsOf 41 = .ok (.iload_n 2, 1) := by decide +kernel
theorem dX9_pointsOf_42 : decode cX9_pointsOf 42 = .ok (.iload 4, 2) := by decide +kernel
theorem dX9_pointsOf_44 : decode cX9_pointsOf 44 = .ok (.iconst (-1), 1) := by decide +kernel
theorem dX9_pointsOf_45 : decode cX9_pointsOf 45 = .ok (.if_icmp .eq 17, 3) := by decide +kernel
theorem dX9_pointsOf_48 : decode cX9_pointsOf 48 = .ok (.aload_n 0, 1) := by decide +kernel
theorem dX9_pointsOf_49 : decode cX9_pointsOf 49 = .ok (.getfield 73, 3) := by decide +kernel
theorem dX9_pointsOf_52 : decode cX9_pointsOf 52 = .ok (.iload_n 3, 1) := by decide +kernel
theorem dX9_pointsOf_53 : decode cX9_pointsOf 53 = .ok (.aaload, 1) := by decide +kernel
theorem dX9_pointsOf_54 : decode cX9_pointsOf 54 = .ok (.iload 4, 2) := by decide +kernel
theorem dX9_pointsOf_56 : decode cX9_pointsOf 56 = .ok (.invokevirtual 336, 3) := by decide +kernel
theorem dX9_pointsOf_59 : decode cX9_pointsOf 59 = .ok (.goto 4, 3) := by decide +kernel
theorem dX9_pointsOf_62 : decode cX9_pointsOf 62 = .ok (.iconst 0, 1) := by decide +kernel
theorem dX9_pointsOf_63 : decode cX9_pointsOf 63 = .ok (.iadd, 1) := by decide +kernel
theorem dX9_pointsOf_64 : decode cX9_pointsOf 64 = .ok (.istore_n 2, 1) := by decide +kernel
theorem dX9_pointsOf_65 : decode cX9_pointsOf 65 = .ok (.iinc 3 1, 3) := by decide +kernel
theorem dX9_pointsOf_68 : decode cX9_pointsOf 68 = .ok (.goto (-64), 3) := by decide +kernel
theorem dX9_pointsOf_71 : decode cX9_pointsOf 71 = .ok (.iload_n 2, 1) := by decide +kernel
theorem dX9_pointsOf_72 : decode cX9_pointsOf 72 = .ok (.ireturn, 1) := by decide +kernel
theorem dX9_points_0 : decode cX9_points 0 = .ok (.aload_n 0, 1) := by decide +kernel
theorem dX9_points_1 : decode cX9_points 1 = .ok (.iload_n 1, 1) := by decide +kernel
theorem dX9_points_2 : decode cX9_points 2 = .ok (.invokevirtual 126, 3) := by decide +kernel
theorem dX9_points_5 : decode cX9_points 5 = .ok (.ifCond .eq 11, 3) := by decide +kernel
theorem dX9_points_8 : decode cX9_points 8 = .ok (.aload_n 0, 1) := by decide +kernel
theorem dX9_points_9 : decode cX9_points 9 = .ok (.iload_n 1, 1) := by decide +kernel
theorem dX9_points_10 : decode cX9_points 10 = .ok (.invokevirtual 296, 3) := by decide +kernel
theorem dX9_points_13 : decode cX9_points 13 = .ok (.goto 4, 3) := by decide +kernel
theorem dX9_points_16 : decode cX9_points 16 = .ok (.iconst (-1), 1) := by decide +kernel
theorem dX9_points_17 : decode cX9_points 17 = .ok (.ireturn, 1) := by decide +kernel
theorem dX9_crewsAheadOf_0 : decode cX9_crewsAheadOf 0 = .ok (.aload_n 0, 1) := by decide +kernel
theorem dX9_crewsAheadOf_1 : decode cX9_crewsAheadOf 1 = .ok (.iload_n 1, 1) := by decide +kernel
theorem dX9_crewsAheadOf_2 : decode cX9_crewsAheadOf 2 = .ok (.invokevirtual 296, 3) := by decide +kernel
theorem dX9_crewsAheadOf_5 : decode cX9_crewsAheadOf 5 = .ok (.istore_n 2, 1) := by decide +kernel
theorem dX9_crewsAheadOf_6 : decode cX9_crewsAheadOf 6 = .ok (.iconst 0, 1) := by decide +kernel
theorem dX9_crewsAheadOf_7 : decode cX9_crewsAheadOf 7 = .ok (.istore_n 3, 1) := by decide +kernel
theorem dX9_crewsAheadOf_8 : decode cX9_crewsAheadOf 8 = .ok (.iconst 0, 1) := by decide +kernel
theorem dX9_crewsAheadOf_9 : decode cX9_crewsAheadOf 9 = .ok (.istore 4, 2) := by decide +kernel
theorem dX9_crewsAheadOf_11 : decode cX9_crewsAheadOf 11 = .ok (.iload 4, 2) := by decide +kernel
theorem dX9_crewsAheadOf_13 : decode cX9_crewsAheadOf 13 = .ok (.aload_n 0, 1) := by decide +kernel
theorem dX9_crewsAheadOf_14 : decode cX9_crewsAheadOf 14 = .ok (.getfield 24, 3) := by decide +kernel
theorem dX9_crewsAheadOf_17 : decode cX9_crewsAheadOf 17 = .ok (.if_icmp .ge 43, 3) := by decide +kernel
theorem dX9_crewsAheadOf_20 : decode cX9_crewsAheadOf 20 = .ok (.aload_n 0, 1) := by decide +kernel
theorem dX9_crewsAheadOf_21 : decode cX9_crewsAheadOf 21 = .ok (.iload 4, 2) := by decide +kernel
theorem dX9_crewsAheadOf_23 : decode cX9_crewsAheadOf 23 = .ok (.invokevirtual 296, 3) := by decide +kernel
theorem dX9_crewsAheadOf_26 : decode cX9_crewsAheadOf 26 = .ok (.istore 5, 2) := by decide +kernel
theorem dX9_crewsAheadOf_28 : decode cX9_crewsAheadOf 28 = .ok (.iload_n 3, 1) := by decide +kernel
theorem dX9_crewsAheadOf_29 : decode cX9_crewsAheadOf 29 = .ok (.iload 5, 2) := by decide +kernel
theorem dX9_crewsAheadOf_31 : decode cX9_crewsAheadOf 31 = .ok (.iload_n 2, 1) := by decide +kernel
theorem dX9_crewsAheadOf_32 : decode cX9_crewsAheadOf 32 = .ok (.if_icmp .gt 15, 3) := by decide +kernel
theorem dX9_crewsAheadOf_35 : decode cX9_crewsAheadOf 35 = .ok (.iload 5, 2) := by decide +kernel
theorem dX9_crewsAheadOf_37 : decode cX9_crewsAheadOf 37 = .ok (.iload_n 2, 1) := by decide +kernel
theorem dX9_crewsAheadOf_38 : decode cX9_crewsAheadOf 38 = .ok (.if_icmp .ne 13, 3) := by decide +kernel
theorem dX9_crewsAheadOf_41 : decode cX9_crewsAheadOf 41 = .ok (.iload 4, 2) := by decide +kernel
theorem dX9_crewsAheadOf_43 : decode cX9_crewsAheadOf 43 = .ok (.iload_n 1, 1) := by decide +kernel
theorem dX9_crewsAheadOf_44 : decode cX9_crewsAheadOf 44 = .ok (.if_icmp .ge 7, 3) := by decide +kernel
theorem dX9_crewsAheadOf_47 : decode cX9_crewsAheadOf 47 = .ok (.iconst 1, 1) := by decide +kernel
theorem dX9_crewsAheadOf_48 : decode cX9_crewsAheadOf 48 = .ok (.goto 4, 3) := by decide +kernel
theorem dX9_crewsAheadOf_51 : decode cX9_crewsAheadOf 51 = .ok (.iconst 0, 1) := by decide +kernel
theorem dX9_crewsAheadOf_52 : decode cX9_crewsAheadOf 52 = .ok (.iadd, 1) := by decide +kernel
theorem dX9_crewsAheadOf_53 : decode cX9_crewsAheadOf 53 = .ok (.istore_n 3, 1) := by decide +kernel
theorem dX9_crewsAheadOf_54 : decode cX9_crewsAheadOf 54 = .ok (.iinc 4 1, 3) := by decide +kernel
theorem dX9_crewsAheadOf_57 : decode cX9_crewsAheadOf 57 = .ok (.goto (-46), 3) := by decide +kernel
theorem dX9_crewsAheadOf_60 : decode cX9_crewsAheadOf 60 = .ok (.iload_n 3, 1) := by decide +kernel
theorem dX9_crewsAheadOf_61 : decode cX9_crewsAheadOf 61 = .ok (.ireturn, 1) := by decide +kernel
theorem dX9_table_0 : decode cX9_table 0 = .ok (.iconst 0, 1) := by decide +kernel
theorem dX9_table_1 : decode cX9_table 1 = .ok (.istore_n 2, 1) := by decide +kernel
theorem dX9_table_2 : decode cX9_table 2 = .ok (.iload_n 2, 1) := by decide +kernel
theorem dX9_table_3 : decode cX9_table 3 = .ok (.aload_n 0, 1) := by decide +kernel
theorem dX9_table_4 : decode cX9_table 4 = .ok (.getfield 24, 3) := by decide +kernel
theorem dX9_table_7 : decode cX9_table 7 = .ok (.if_icmp .ge 20, 3) := by decide +kernel
theorem dX9_table_10 : decode cX9_table 10 = .ok (.aload_n 0, 1) := by decide +kernel
theorem dX9_table_11 : decode cX9_table 11 = .ok (.iload_n 2, 1) := by decide +kernel
theorem dX9_table_12 : decode cX9_table 12 = .ok (.invokevirtual 299, 3) := by decide +kernel
theorem dX9_table_15 : decode cX9_table 15 = .ok (.iload_n 1, 1) := by decide +kernel
theorem dX9_table_16 : decode cX9_table 16 = .ok (.if_icmp .ne 5, 3) := by decide +kernel
theorem dX9_table_19 : decode cX9_table 19 = .ok (.iload_n 2, 1) := by decide +kernel
theorem dX9_table_20 : decode cX9_table 20 = .ok (.ireturn, 1) := by decide +kernel
theorem dX9_table_21 : decode cX9_table 21 = .ok (.iinc 2 1, 3) := by decide +kernel
theorem dX9_table_24 : decode cX9_table 24 = .ok (.goto (-22), 3) := by decide +kernel
theorem dX9_table_27 : decode cX9_table 27 = .ok (.iconst (-1), 1) := by decide +kernel
theorem dX9_table_28 : decode cX9_table 28 = .ok (.ireturn, 1) := by decide +kernel
theorem dX9_howManyAreSeated_0 : decode cX9_howManyAreSeated 0 = .ok (.iconst 0, 1) := by decide +kernel
theorem dX9_howManyAreSeated_1 : decode cX9_howManyAreSeated 1 = .ok (.istore_n 1, 1) := by decide +kernel
theorem dX9_howManyAreSeated_2 : decode cX9_howManyAreSeated 2 = .ok (.iconst 0, 1) := by decide +kernel
theorem dX9_howManyAreSeated_3 : decode cX9_howManyAreSeated 3 = .ok (.istore_n 2, 1) := by decide +kernel
theorem dX9_howManyAreSeated_4 : decode cX9_howManyAreSeated 4 = .ok (.iload_n 2, 1) := by decide +kernel
theorem dX9_howManyAreSeated_5 : decode cX9_howManyAreSeated 5 = .ok (.aload_n 0, 1) := by decide +kernel
theorem dX9_howManyAreSeated_6 : decode cX9_howManyAreSeated 6 = .ok (.getfield 24, 3) := by decide +kernel
theorem dX9_howManyAreSeated_9 : decode cX9_howManyAreSeated 9 = .ok (.if_icmp .ge 29, 3) := by decide +kernel
theorem dX9_howManyAreSeated_12 : decode cX9_howManyAreSeated 12 = .ok (.iload_n 1, 1) := by decide +kernel
theorem dX9_howManyAreSeated_13 : decode cX9_howManyAreSeated 13 = .ok (.aload_n 0, 1) := by decide +kernel
theorem dX9_howManyAreSeated_14 : decode cX9_howManyAreSeated 14 = .ok (.getfield 20, 3) := by decide +kernel
theorem dX9_howManyAreSeated_17 : decode cX9_howManyAreSeated 17 = .ok (.iload_n 2, 1) := by decide +kernel
theorem dX9_howManyAreSeated_18 : decode cX9_howManyAreSeated 18 = .ok (.aaload, 1) := by decide +kernel
theorem dX9_howManyAreSeated_19 : decode cX9_howManyAreSeated 19 = .ok (.getfield 147, 3) := by decide +kernel
theorem dX9_howManyAreSeated_22 : decode cX9_howManyAreSeated 22 = .ok (.ifCond .eq 7, 3) := by decide +kernel
theorem dX9_howManyAreSeated_25 : decode cX9_howManyAreSeated 25 = .ok (.iconst 1, 1) := by decide +kernel
theorem dX9_howManyAreSeated_26 : decode cX9_howManyAreSeated 26 = .ok (.goto 4, 3) := by decide +kernel
theorem dX9_howManyAreSeated_29 : decode cX9_howManyAreSeated 29 = .ok (.iconst 0, 1) := by decide +kernel
theorem dX9_howManyAreSeated_30 : decode cX9_howManyAreSeated 30 = .ok (.iadd, 1) := by decide +kernel
theorem dX9_howManyAreSeated_31 : decode cX9_howManyAreSeated 31 = .ok (.istore_n 1, 1) := by decide +kernel
theorem dX9_howManyAreSeated_32 : decode cX9_howManyAreSeated 32 = .ok (.iinc 2 1, 3) := by decide +kernel
theorem dX9_howManyAreSeated_35 : decode cX9_howManyAreSeated 35 = .ok (.goto (-31), 3) := by decide +kernel
theorem dX9_howManyAreSeated_38 : decode cX9_howManyAreSeated 38 = .ok (.iload_n 1, 1) := by decide +kernel
theorem dX9_howManyAreSeated_39 : decode cX9_howManyAreSeated 39 = .ok (.ireturn, 1) := by decide +kernel
theorem dX9_howManyTimes_0 : decode cX9_howManyTimes 0 = .ok (.iconst 0, 1) := by decide +kernel
theorem dX9_howManyTimes_1 : decode cX9_howManyTimes 1 = .ok (.istore_n 1, 1) := by decide +kernel
theorem dX9_howManyTimes_2 : decode cX9_howManyTimes 2 = .ok (.iconst 0, 1) := by decide +kernel
theorem dX9_howManyTimes_3 : decode cX9_howManyTimes 3 = .ok (.istore_n 2, 1) := by decide +kernel
theorem dX9_howManyTimes_4 : decode cX9_howManyTimes 4 = .ok (.iload_n 2, 1) := by decide +kernel
theorem dX9_howManyTimes_5 : decode cX9_howManyTimes 5 = .ok (.aload_n 0, 1) := by decide +kernel
theorem dX9_howManyTimes_6 : decode cX9_howManyTimes 6 = .ok (.getfield 77, 3) := by decide +kernel
theorem dX9_howManyTimes_9 : decode cX9_howManyTimes 9 = .ok (.if_icmp .ge 21, 3) := by decide +kernel
theorem dX9_howManyTimes_12 : decode cX9_howManyTimes 12 = .ok (.iload_n 1, 1) := by decide +kernel
theorem dX9_howManyTimes_13 : decode cX9_howManyTimes 13 = .ok (.aload_n 0, 1) := by decide +kernel
theorem dX9_howManyTimes_14 : decode cX9_howManyTimes 14 = .ok (.getfield 73, 3) := by decide +kernel
theorem dX9_howManyTimes_17 : decode cX9_howManyTimes 17 = .ok (.iload_n 2, 1) := by decide +kernel
theorem dX9_howManyTimes_18 : decode cX9_howManyTimes 18 = .ok (.aaload, 1) := by decide +kernel
theorem dX9_howManyTimes_19 : decode cX9_howManyTimes 19 = .ok (.invokevirtual 245, 3) := by decide +kernel
theorem dX9_howManyTimes_22 : decode cX9_howManyTimes 22 = .ok (.iadd, 1) := by decide +kernel
theorem dX9_howManyTimes_23 : decode cX9_howManyTimes 23 = .ok (.istore_n 1, 1) := by decide +kernel
theorem dX9_howManyTimes_24 : decode cX9_howManyTimes 24 = .ok (.iinc 2 1, 3) := by decide +kernel
theorem dX9_howManyTimes_27 : decode cX9_howManyTimes 27 = .ok (.goto (-23), 3) := by decide +kernel
theorem dX9_howManyTimes_30 : decode cX9_howManyTimes 30 = .ok (.iload_n 1, 1) := by decide +kernel
theorem dX9_howManyTimes_31 : decode cX9_howManyTimes 31 = .ok (.ireturn, 1) := by decide +kernel
theorem dX9_count_0 : decode cX9_count 0 = .ok (.iload_n 1, 1) := by decide +kernel
theorem dX9_count_1 : decode cX9_count 1 = .ok (.tableswitch 102 0 8 #[51, 59, 64, 69, 74, 79, 87, 92, 97], 51) := by decide +kernel
theorem dX9_count_52 : decode cX9_count 52 = .ok (.aload_n 0, 1) := by decide +kernel
theorem dX9_count_53 : decode cX9_count 53 = .ok (.getfield 12, 3) := by decide +kernel
theorem dX9_count_56 : decode cX9_count 56 = .ok (.getfield 101, 3) := by decide +kernel
theorem dX9_count_59 : decode cX9_count 59 = .ok (.ireturn, 1) := by decide +kernel
theorem dX9_count_60 : decode cX9_count 60 = .ok (.aload_n 0, 1) := by decide +kernel
theorem dX9_count_61 : decode cX9_count 61 = .ok (.getfield 24, 3) := by decide +kernel
theorem dX9_count_64 : decode cX9_count 64 = .ok (.ireturn, 1) := by decide +kernel
theorem dX9_count_65 : decode cX9_count 65 = .ok (.aload_n 0, 1) := by decide +kernel
theorem dX9_count_66 : decode cX9_count 66 = .ok (.getfield 55, 3) := by decide +kernel
theorem dX9_count_69 : decode cX9_count 69 = .ok (.ireturn, 1) := by decide +kernel
theorem dX9_count_70 : decode cX9_count 70 = .ok (.aload_n 0, 1) := by decide +kernel
theorem dX9_count_71 : decode cX9_count 71 = .ok (.getfield 77, 3) := by decide +kernel
theorem dX9_count_74 : decode cX9_count 74 = .ok (.ireturn, 1) := by decide +kernel
theorem dX9_count_75 : decode cX9_count 75 = .ok (.aload_n 0, 1) := by decide +kernel
theorem dX9_count_76 : decode cX9_count 76 = .ok (.invokevirtual 218, 3) := by decide +kernel
theorem dX9_count_79 : decode cX9_count 79 = .ok (.ireturn, 1) := by decide +kernel
theorem dX9_count_80 : decode cX9_count 80 = .ok (.aload_n 0, 1) := by decide +kernel
theorem dX9_count_81 : decode cX9_count 81 = .ok (.getfield 45, 3) := by decide +kernel
theorem dX9_count_84 : decode cX9_count 84 = .ok (.getfield 192, 3) := by decide +kernel
theorem dX9_count_87 : decode cX9_count 87 = .ok (.ireturn, 1) := by decide +kernel
theorem dX9_count_88 : decode cX9_count 88 = .ok (.aload_n 0, 1) := by decide +kernel
theorem dX9_count_89 : decode cX9_count 89 = .ok (.getfield 62, 3) := by decide +kernel
theorem dX9_count_92 : decode cX9_count 92 = .ok (.ireturn, 1) := by decide +kernel
theorem dX9_count_93 : decode cX9_count 93 = .ok (.aload_n 0, 1) := by decide +kernel
theorem dX9_count_94 : decode cX9_count 94 = .ok (.invokevirtual 302, 3) := by decide +kernel
theorem dX9_count_97 : decode cX9_count 97 = .ok (.ireturn, 1) := by decide +kernel
theorem dX9_count_98 : decode cX9_count 98 = .ok (.aload_n 0, 1) := by decide +kernel
theorem dX9_count_99 : decode cX9_count 99 = .ok (.invokevirtual 305, 3) := by decide +kernel
theorem dX9_count_102 : decode cX9_count 102 = .ok (.ireturn, 1) := by decide +kernel
theorem dX9_count_103 : decode cX9_count 103 = .ok (.iconst (-1), 1) := by decide +kernel
theorem dX9_count_104 : decode cX9_count 104 = .ok (.ireturn, 1) := by decide +kernel
theorem dX10_isPaddler_0 : decode cX10_isPaddler 0 = .ok (.iload_n 1, 1) := by decide +kernel
theorem dX10_isPaddler_1 : decode cX10_isPaddler 1 = .ok (.ifCond .lt 15, 3) := by decide +kernel
theorem dX10_isPaddler_4 : decode cX10_isPaddler 4 = .ok (.iload_n 1, 1) := by decide +kernel
theorem dX10_isPaddler_5 : decode cX10_isPaddler 5 = .ok (.aload_n 0, 1) := by decide +kernel
theorem dX10_isPaddler_6 : decode cX10_isPaddler 6 = .ok (.getfield 125, 3) := by decide +kernel
theorem dX10_isPaddler_9 : decode cX10_isPaddler 9 = .ok (.if_icmp .ge 7, 3) := by decide +kernel
theorem dX10_isPaddler_12 : decode cX10_isPaddler 12 = .ok (.iconst 1, 1) := by decide +kernel
theorem dX10_isPaddler_13 : decode cX10_isPaddler 13 = .ok (.goto 4, 3) := by decide +kernel
theorem dX10_isPaddler_16 : decode cX10_isPaddler 16 = .ok (.iconst 0, 1) := by decide +kernel
theorem dX10_isPaddler_17 : decode cX10_isPaddler 17 = .ok (.ireturn, 1) := by decide +kernel
theorem dX10_isCrew_0 : decode cX10_isCrew 0 = .ok (.iload_n 1, 1) := by decide +kernel
theorem dX10_isCrew_1 : decode cX10_isCrew 1 = .ok (.ifCond .lt 15, 3) := by decide +kernel
theorem dX10_isCrew_4 : decode cX10_isCrew 4 = .ok (.iload_n 1, 1) := by decide +kernel
theorem dX10_isCrew_5 : decode cX10_isCrew 5 = .ok (.aload_n 0, 1) := by decide +kernel
theorem dX10_isCrew_6 : decode cX10_isCrew 6 = .ok (.getfield 128, 3) := by decide +kernel
theorem dX10_isCrew_9 : decode cX10_isCrew 9 = .ok (.if_icmp .ge 7, 3) := by decide +kernel
theorem dX10_isCrew_12 : decode cX10_isCrew 12 = .ok (.iconst 1, 1) := by decide +kernel
theorem dX10_isCrew_13 : decode cX10_isCrew 13 = .ok (.goto 4, 3) := by decide +kernel
theorem dX10_isCrew_16 : decode cX10_isCrew 16 = .ok (.iconst 0, 1) := by decide +kernel
theorem dX10_isCrew_17 : decode cX10_isCrew 17 = .ok (.ireturn, 1) := by decide +kernel
theorem dX10_size_0 : decode cX10_size 0 = .ok (.iload_n 0, 1) := by decide +kernel
theorem dX10_size_1 : decode cX10_size 1 = .ok (.ifCond .ge 8, 3) := by decide +kernel
theorem dX10_size_4 : decode cX10_size 4 = .ok (.iload_n 0, 1) := by decide +kernel
theorem dX10_size_5 : decode cX10_size 5 = .ok (.ineg, 1) := by decide +kernel
theorem dX10_size_6 : decode cX10_size 6 = .ok (.goto 4, 3) := by decide +kernel
theorem dX10_size_9 : decode cX10_size 9 = .ok (.iload_n 0, 1) := by decide +kernel
theorem dX10_size_10 : decode cX10_size 10 = .ok (.ireturn, 1) := by decide +kernel
theorem dX10_paddler_0 : decode cX10_paddler 0 = .ok (.iload_n 1, 1) := by decide +kernel
theorem dX10_paddler_1 : decode cX10_paddler 1 = .ok (.bipush 30, 2) := by decide +kernel
theorem dX10_paddler_3 : decode cX10_paddler 3 = .ok (.if_icmp .lt 55, 3) := by decide +kernel
theorem dX10_paddler_6 : decode cX10_paddler 6 = .ok (.iload_n 1, 1) := by decide +kernel
theorem dX10_paddler_7 : decode cX10_paddler 7 = .ok (.sipush 150, 3) := by decide +kernel
theorem dX10_paddler_10 : decode cX10_paddler 10 = .ok (.if_icmp .gt 48, 3) := by decide +kernel
theorem dX10_paddler_13 : decode cX10_paddler 13 = .ok (.iload_n 2, 1) := by decide +kernel
theorem dX10_paddler_14 : decode cX10_paddler 14 = .ok (.iconst 1, 1) := by decide +kernel
theorem dX10_paddler_15 : decode cX10_paddler 15 = .ok (.if_icmp .lt 43, 3) := by decide +kernel
theorem dX10_paddler_18 : decode cX10_paddler 18 = .ok (.iload_n 2, 1) := by decide +kernel
theorem dX10_paddler_19 : decode cX10_paddler 19 = .ok (.bipush 99, 2) := by decide +kernel
theorem dX10_paddler_21 : decode cX10_paddler 21 = .ok (.if_icmp .gt 37, 3) := by decide +kernel
theorem dX10_paddler_24 : decode cX10_paddler 24 = .ok (.iload_n 3, 1) := by decide +kernel
theorem dX10_paddler_25 : decode cX10_paddler 25 = .ok (.ifCond .lt 33, 3) := by decide +kernel
theorem dX10_paddler_28 : decode cX10_paddler 28 = .ok (.iload_n 3, 1) := by decide +kernel
theorem dX10_paddler_29 : decode cX10_paddler 29 = .ok (.iconst 2, 1) := by decide +kernel
theorem dX10_paddler_30 : decode cX10_paddler 30 = .ok (.if_icmp .gt 28, 3) := by decide +kernel
theorem dX10_paddler_33 : decode cX10_paddler 33 = .ok (.iload 4, 2) := by decide +kernel
theorem dX10_paddler_35 : decode cX10_paddler 35 = .ok (.ifCond .lt 23, 3) := by decide +kernel
theorem dX10_paddler_38 : decode cX10_paddler 38 = .ok (.iload 4, 2) := by decide +kernel
theorem dX10_paddler_40 : decode cX10_paddler 40 = .ok (.iconst 1, 1) := by decide +kernel
theorem dX10_paddler_41 : decode cX10_paddler 41 = .ok (.if_icmp .gt 17, 3) := by decide +kernel
theorem dX10_paddler_44 : decode cX10_paddler 44 = .ok (.iload 5, 2) := by decide +kernel
theorem dX10_paddler_46 : decode cX10_paddler 46 = .ok (.bipush 10, 2) := by decide +kernel
theorem dX10_paddler_48 : decode cX10_paddler 48 = .ok (.if_icmp .lt 10, 3) := by decide +kernel
theorem dX10_paddler_51 : decode cX10_paddler 51 = .ok (.iload 5, 2) := by decide +kernel
theorem dX10_paddler_53 : decode cX10_paddler 53 = .ok (.bipush 90, 2) := by decide +kernel
theorem dX10_paddler_55 : decode cX10_paddler 55 = .ok (.if_icmp .le 6, 3) := by decide +kernel
theorem dX10_paddler_58 : decode cX10_paddler 58 = .ok (.bipush (-2), 2) := by decide +kernel
theorem dX10_paddler_60 : decode cX10_paddler 60 = .ok (.ireturn, 1) := by decide +kernel
theorem dX10_paddler_61 : decode cX10_paddler 61 = .ok (.aload_n 0, 1) := by decide +kernel
theorem dX10_paddler_62 : decode cX10_paddler 62 = .ok (.getfield 125, 3) := by decide +kernel
theorem dX10_paddler_65 : decode cX10_paddler 65 = .ok (.bipush 40, 2) := by decide +kernel
theorem dX10_paddler_67 : decode cX10_paddler 67 = .ok (.if_icmp .ne 6, 3) := by decide +kernel
theorem dX10_paddler_70 : decode cX10_paddler 70 = .ok (.bipush (-4), 2) := by decide +kernel
theorem dX10_paddler_72 : decode cX10_paddler 72 = .ok (.ireturn, 1) := by decide +kernel
theorem dX10_paddler_73 : decode cX10_paddler 73 = .ok (.aload_n 0, 1) := by decide +kernel
theorem dX10_paddler_74 : decode cX10_paddler 74 = .ok (.getfield 15, 3) := by decide +kernel
theorem dX10_paddler_77 : decode cX10_paddler 77 = .ok (.aload_n 0, 1) := by decide +kernel
theorem dX10_paddler_78 : decode cX10_paddler 78 = .ok (.getfield 125, 3) := by decide +kernel
theorem dX10_paddler_81 : decode cX10_paddler 81 = .ok (.iload_n 1, 1) := by decide +kernel
theorem dX10_paddler_82 : decode cX10_paddler 82 = .ok (.iastore, 1) := by decide +kernel
theorem dX10_paddler_83 : decode cX10_paddler 83 = .ok (.aload_n 0, 1) := by decide +kernel
theorem dX10_paddler_84 : decode cX10_paddler 84 = .ok (.getfield 19, 3) := by decide +kernel
theorem dX10_paddler_87 : decode cX10_paddler 87 = .ok (.aload_n 0, 1) := by decide +kernel
theorem dX10_paddler_88 : decode cX10_paddler 88 = .ok (.getfield 125, 3) := by decide +kernel
theorem dX10_paddler_91 : decode cX10_paddler 91 = .ok (.iload_n 2, 1) := by decide +kernel
theorem dX10_paddler_92 : decode cX10_paddler 92 = .ok (.iastore, 1) := by decide +kernel
theorem dX10_paddler_93 : decode cX10_paddler 93 = .ok (.aload_n 0, 1) := by decide +kernel
theorem dX10_paddler_94 : decode cX10_paddler 94 = .ok (.getfield 22, 3) := by decide +kernel
theorem dX10_paddler_97 : decode cX10_paddler 97 = .ok (.aload_n 0, 1) := by decide +kernel
theorem dX10_paddler_98 : decode cX10_paddler 98 = .ok (.getfield 125, 3) := by decide +kernel
theorem dX10_paddler_101 : decode cX10_paddler 101 = .ok (.iload_n 3, 1) := by decide +kernel
theorem dX10_paddler_102 : decode cX10_paddler 102 = .ok (.iastore, 1) := by decide +kernel
theorem dX10_paddler_103 : decode cX10_paddler 103 = .ok (.aload_n 0, 1) := by decide +kernel
theorem dX10_paddler_104 : decode cX10_paddler 104 = .ok (.getfield 25, 3) := by decide +kernel
theorem dX10_paddler_107 : decode cX10_paddler 107 = .ok (.aload_n 0, 1) := by decide +kernel
theorem dX10_paddler_108 : decode cX10_paddler 108 = .ok (.getfield 125, 3) := by decide +kernel
theorem dX10_paddler_111 : decode cX10_paddler 111 = .ok (.iload 4, 2) := by decide +kernel
theorem dX10_paddler_113 : decode cX10_paddler 113 = .ok (.iastore, 1) := by decide +kernel
theorem dX10_paddler_114 : decode cX10_paddler 114 = .ok (.aload_n 0, 1) := by decide +kernel
theorem dX10_paddler_115 : decode cX10_paddler 115 = .ok (.getfield 28, 3) := by decide +kernel
theorem dX10_paddler_118 : decode cX10_paddler 118 = .ok (.aload_n 0, 1) := by decide +kernel
theorem dX10_paddler_119 : decode cX10_paddler 119 = .ok (.getfield 125, 3) := by decide +kernel
theorem dX10_paddler_122 : decode cX10_paddler 122 = .ok (.iload 5, 2) := by decide +kernel
theorem dX10_paddler_124 : decode cX10_paddler 124 = .ok (.iastore, 1) := by decide +kernel
theorem dX10_paddler_125 : decode cX10_paddler 125 = .ok (.aload_n 0, 1) := by decide +kernel
theorem dX10_paddler_126 : decode cX10_paddler 126 = .ok (.dup, 1) := by decide +kernel
theorem dX10_paddler_127 : decode cX10_paddler 127 = .ok (.getfield 125, 3) := by decide +kernel
theorem dX10_paddler_130 : decode cX10_paddler 130 = .ok (.dup_x1, 1) := by decide +kernel
theorem dX10_paddler_131 : decode cX10_paddler 131 = .ok (.iconst 1, 1) := by decide +kernel
theorem dX10_paddler_132 : decode cX10_paddler 132 = .ok (.iadd, 1) := by decide +kernel
theorem dX10_paddler_133 : decode cX10_paddler 133 = .ok (.putfield 125, 3) := by decide +kernel
theorem dX10_paddler_136 : decode cX10_paddler 136 = .ok (.ireturn, 1) := by decide +kernel
theorem dX10_like_0 : decode cX10_like 0 = .ok (.aload_n 0, 1) := by decide +kernel
theorem dX10_like_1 : decode cX10_like 1 = .ok (.iload_n 1, 1) := by decide +kernel
theorem dX10_like_2 : decode cX10_like 2 = .ok (.invokevirtual 131, 3) := by decide +kernel
theorem dX10_like_5 : decode cX10_like 5 = .ok (.ifCond .eq 11, 3) := by decide +kernel
theorem dX10_like_8 : decode cX10_like 8 = .ok (.aload_n 0, 1) := by decide +kernel
theorem dX10_like_9 : decode cX10_like 9 = .ok (.iload_n 2, 1) := by decide +kernel
theorem dX10_like_10 : decode cX10_like 10 = .ok (.invokevirtual 131, 3) := by decide +kernel
theorem dX10_like_13 : decode cX10_like 13 = .ok (.ifCond .ne 5, 3) := by decide +kernel
theorem dX10_like_16 : decode cX10_like 16 = .ok (.iconst (-1), 1) := by decide +kernel
theorem dX10_like_17 : decode cX10_like 17 = .ok (.ireturn, 1) := by decide +kernel
theorem dX10_like_18 : decode cX10_like 18 = .ok (.iload_n 3, 1) := by decide +kernel
theorem dX10_like_19 : decode cX10_like 19 = .ok (.ifCond .lt 13, 3) := by decide +kernel
theorem dX10_like_22 : decode cX10_like 22 = .ok (.iload_n 3, 1) := by decide +kernel
theorem dX10_like_23 : decode cX10_like 23 = .ok (.iconst 1, 1) := by decide +kernel
theorem dX10_like_24 : decode cX10_like 24 = .ok (.if_icmp .gt 8, 3) := by decide +kernel
theorem dX10_like_27 : decode cX10_like 27 = .ok (.iload_n 1, 1) := by decide +kernel
theorem dX10_like_28 : decode cX10_like 28 = .ok (.iload_n 2, 1) := by decide +kernel
theorem dX10_like_29 : decode cX10_like 29 = .ok (.if_icmp .ne 6, 3) := by decide +kernel
theorem dX10_like_32 : decode cX10_like 32 = .ok (.bipush (-2), 2) := by decide +kernel
theorem dX10_like_34 : decode cX10_like 34 = .ok (.ireturn, 1) := by decide +kernel
theorem dX10_like_35 : decode cX10_like 35 = .ok (.aload_n 0, 1) := by decide +kernel
theorem dX10_like_36 : decode cX10_like 36 = .ok (.getfield 31, 3) := by decide +kernel
theorem dX10_like_39 : decode cX10_like 39 = .ok (.bipush 40, 2) := by decide +kernel
theorem dX10_like_41 : decode cX10_like 41 = .ok (.iload_n 1, 1) := by decide +kernel
theorem dX10_like_42 : decode cX10_like 42 = .ok (.imul, 1) := by decide +kernel
theorem dX10_like_43 : decode cX10_like 43 = .ok (.iload_n 2, 1) := by decide +kernel
theorem dX10_like_44 : decode cX10_like 44 = .ok (.iadd, 1) := by decide +kernel
theorem dX10_like_45 : decode cX10_like 45 = .ok (.baload, 1) := by decide +kernel
theorem dX10_like_46 : decode cX10_like 46 = .ok (.istore 4, 2) := by decide +kernel
theorem dX10_like_48 : decode cX10_like 48 = .ok (.aload_n 0, 1) := by decide +kernel
theorem dX10_like_49 : decode cX10_like 49 = .ok (.getfield 31, 3) := by decide +kernel
theorem dX10_like_52 : decode cX10_like 52 = .ok (.bipush 40, 2) := by decide +kernel
theorem dX10_like_54 : decode cX10_like 54 = .ok (.iload_n 1, 1) := by decide +kernel
theorem dX10_like_55 : decode cX10_like 55 = .ok (.imul, 1) := by decide +kernel
theorem dX10_like_56 : decode cX10_like 56 = .ok (.iload_n 2, 1) := by decide +kernel
theorem dX10_like_57 : decode cX10_like 57 = .ok (.iadd, 1) := by decide +kernel
theorem dX10_like_58 : decode cX10_like 58 = .ok (.iload_n 3, 1) := by decide +kernel
theorem dX10_like_59 : decode cX10_like 59 = .ok (.iconst 1, 1) := by decide +kernel
theorem dX10_like_60 : decode cX10_like 60 = .ok (.if_icmp .ne 7, 3) := by decide +kernel
theorem dX10_like_63 : decode cX10_like 63 = .ok (.iconst 1, 1) := by decide +kernel
theorem dX10_like_64 : decode cX10_like 64 = .ok (.goto 4, 3) := by decide +kernel
theorem dX10_like_67 : decode cX10_like 67 = .ok (.iconst 0, 1) := by decide +kernel
theorem dX10_like_68 : decode cX10_like 68 = .ok (.bastore, 1) := by decide +kernel
theorem dX10_like_69 : decode cX10_like 69 = .ok (.aload_n 0, 1) := by decide +kernel
theorem dX10_like_70 : decode cX10_like 70 = .ok (.getfield 31, 3) := by decide +kernel
theorem dX10_like_73 : decode cX10_like 73 = .ok (.bipush 40, 2) := by decide +kernel
theorem dX10_like_75 : decode cX10_like 75 = .ok (.iload_n 2, 1) := by decide +kernel
theorem dX10_like_76 : decode cX10_like 76 = .ok (.imul, 1) := by decide +kernel
theorem dX10_like_77 : decode cX10_like 77 = .ok (.iload_n 1, 1) := by decide +kernel
theorem dX10_like_78 : decode cX10_like 78 = .ok (.iadd, 1) := by decide +kernel
theorem dX10_like_79 : decode cX10_like 79 = .ok (.iload_n 3, 1) := by decide +kernel
theorem dX10_like_80 : decode cX10_like 80 = .ok (.iconst 1, 1) := by decide +kernel
theorem dX10_like_81 : decode cX10_like 81 = .ok (.if_icmp .ne 7, 3) := by decide +kernel
theorem dX10_like_84 : decode cX10_like 84 = .ok (.iconst 1, 1) := by decide +kernel
theorem dX10_like_85 : decode cX10_like 85 = .ok (.goto 4, 3) := by decide +kernel
theorem dX10_like_88 : decode cX10_like 88 = .ok (.iconst 0, 1) := by decide +kernel
theorem dX10_like_89 : decode cX10_like 89 = .ok (.bastore, 1) := by decide +kernel
theorem dX10_like_90 : decode cX10_like 90 = .ok (.iload 4, 2) := by decide +kernel
theorem dX10_like_92 : decode cX10_like 92 = .ok (.ifCond .eq 7, 3) := by decide +kernel
theorem dX10_like_95 : decode cX10_like 95 = .ok (.iconst 1, 1) := by decide +kernel
theorem dX10_like_96 : decode cX10_like 96 = .ok (.goto 4, 3) := by decide +kernel
theorem dX10_like_99 : decode cX10_like 99 = .ok (.iconst 0, 1) := by decide +kernel
theorem dX10_like_100 : decode cX10_like 100 = .ok (.ireturn, 1) := by decide +kernel
theorem dX10_crew_0 : decode cX10_crew 0 = .ok (.iload_n 1, 1) := by decide +kernel
theorem dX10_crew_1 : decode cX10_crew 1 = .ok (.iconst 2, 1) := by decide +kernel
theorem dX10_crew_2 : decode cX10_crew 2 = .ok (.if_icmp .lt 19, 3) := by decide +kernel
theorem dX10_crew_5 : decode cX10_crew 5 = .ok (.iload_n 1, 1) := by decide +kernel
theorem dX10_crew_6 : decode cX10_crew 6 = .ok (.iconst 4, 1) := by decide +kernel
theorem dX10_crew_7 : decode cX10_crew 7 = .ok (.if_icmp .gt 14, 3) := by decide +kernel
theorem dX10_crew_10 : decode cX10_crew 10 = .ok (.iload_n 2, 1) := by decide +kernel
theorem dX10_crew_11 : decode cX10_crew 11 = .ok (.ifCond .lt 10, 3) := by decide +kernel
theorem dX10_crew_14 : decode cX10_crew 14 = .ok (.iload_n 2, 1) := by decide +kernel
theorem dX10_crew_15 : decode cX10_crew 15 = .ok (.sipush 150, 3) := by decide +kernel
theorem dX10_crew_18 : decode cX10_crew 18 = .ok (.if_icmp .le 6, 3) := by decide +kernel
theorem dX10_crew_21 : decode cX10_crew 21 = .ok (.bipush (-2), 2) := by decide +kernel
theorem dX10_crew_23 : decode cX10_crew 23 = .ok (.ireturn, 1) := by decide +kernel
theorem dX10_crew_24 : decode cX10_crew 24 = .ok (.aload_n 0, 1) := by decide +kernel
theorem dX10_crew_25 : decode cX10_crew 25 = .ok (.getfield 128, 3) := by decide +kernel
theorem dX10_crew_28 : decode cX10_crew 28 = .ok (.bipush 6, 2) := by decide +kernel
theorem dX10_crew_30 : decode cX10_crew 30 = .ok (.if_icmp .ne 6, 3) := by decide +kernel
theorem dX10_crew_33 : decode cX10_crew 33 = .ok (.bipush (-4), 2) := by decide +kernel
theorem dX10_crew_35 : decode cX10_crew 35 = .ok (.ireturn, 1) := by decide +kernel
theorem dX10_crew_36 : decode cX10_crew 36 = .ok (.aload_n 0, 1) := by decide +kernel
theorem dX10_crew_37 : decode cX10_crew 37 = .ok (.getfield 35, 3) := by decide +kernel
theorem dX10_crew_40 : decode cX10_crew 40 = .ok (.aload_n 0, 1) := by decide +kernel
theorem dX10_crew_41 : decode cX10_crew 41 = .ok (.getfield 128, 3) := by decide +kernel
theorem dX10_crew_44 : decode cX10_crew 44 = .ok (.iload_n 1, 1) := by decide +kernel
theorem dX10_crew_45 : decode cX10_crew 45 = .ok (.iastore, 1) := by decide +kernel
theorem dX10_crew_46 : decode cX10_crew 46 = .ok (.aload_n 0, 1) := by decide +kernel
theorem dX10_crew_47 : decode cX10_crew 47 = .ok (.getfield 38, 3) := by decide +kernel
theorem dX10_crew_50 : decode cX10_crew 50 = .ok (.aload_n 0, 1) := by decide +kernel
theorem dX10_crew_51 : decode cX10_crew 51 = .ok (.getfield 128, 3) := by decide +kernel
theorem dX10_crew_54 : decode cX10_crew 54 = .ok (.iload_n 2, 1) := by decide +kernel
theorem dX10_crew_55 : decode cX10_crew 55 = .ok (.iastore, 1) := by decide +kernel
theorem dX10_crew_56 : decode cX10_crew 56 = .ok (.aload_n 0, 1) := by decide +kernel
theorem dX10_crew_57 : decode cX10_crew 57 = .ok (.getfield 44, 3) := by decide +kernel
theorem dX10_crew_60 : decode cX10_crew 60 = .ok (.aload_n 0, 1) := by decide +kernel
theorem dX10_crew_61 : decode cX10_crew 61 = .ok (.getfield 128, 3) := by decide +kernel
theorem dX10_crew_64 : decode cX10_crew 64 = .ok (.iconst 4, 1) := by decide +kernel
theorem dX10_crew_65 : decode cX10_crew 65 = .ok (.iastore, 1) := by decide +kernel
theorem dX10_crew_66 : decode cX10_crew 66 = .ok (.aload_n 0, 1) := by decide +kernel
theorem dX10_crew_67 : decode cX10_crew 67 = .ok (.dup, 1) := by decide +kernel
theorem dX10_crew_68 : decode cX10_crew 68 = .ok (.getfield 128, 3) := by decide +kernel
theorem dX10_crew_71 : decode cX10_crew 71 = .ok (.dup_x1, 1) := by decide +kernel
theorem dX10_crew_72 : decode cX10_crew 72 = .ok (.iconst 1, 1) := by decide +kernel
theorem dX10_crew_73 : decode cX10_crew 73 = .ok (.iadd, 1) := by decide +kernel
theorem dX10_crew_74 : decode cX10_crew 74 = .ok (.putfield 128, 3) := by decide +kernel
theorem dX10_crew_77 : decode cX10_crew 77 = .ok (.ireturn, 1) := by decide +kernel
theorem dX10_isMember_0 : decode cX10_isMember 0 = .ok (.iconst 0, 1) := by decide +kernel
theorem dX10_isMember_1 : decode cX10_isMember 1 = .ok (.istore_n 3, 1) := by decide +kernel
theorem dX10_isMember_2 : decode cX10_isMember 2 = .ok (.iload_n 3, 1) := by decide +kernel
theorem dX10_isMember_3 : decode cX10_isMember 3 = .ok (.aload_n 0, 1) := by decide +kernel
theorem dX10_isMember_4 : decode cX10_isMember 4 = .ok (.getfield 41, 3) := by decide +kernel
theorem dX10_isMember_7 : decode cX10_isMember 7 = .ok (.iload_n 1, 1) := by decide +kernel
theorem dX10_isMember_8 : decode cX10_isMember 8 = .ok (.iaload, 1) := by decide +kernel
theorem dX10_isMember_9 : decode cX10_isMember 9 = .ok (.if_icmp .ge 26, 3) := by decide +kernel
theorem dX10_isMember_12 : decode cX10_isMember 12 = .ok (.aload_n 0, 1) := by decide +kernel
theorem dX10_isMember_13 : decode cX10_isMember 13 = .ok (.getfield 47, 3) := by decide +kernel
theorem dX10_isMember_16 : decode cX10_isMember 16 = .ok (.bipush 8, 2) := by decide +kernel
theorem dX10_isMember_18 : decode cX10_isMember 18 = .ok (.iload_n 1, 1) := by decide +kernel
theorem dX10_isMember_19 : decode cX10_isMember 19 = .ok (.imul, 1) := by decide +kernel
theorem dX10_isMember_20 : decode cX10_isMember 20 = .ok (.iload_n 3, 1) := by decide +kernel
theorem dX10_isMember_21 : decode cX10_isMember 21 = .ok (.iadd, 1) := by decide +kernel
theorem dX10_isMember_22 : decode cX10_isMember 22 = .ok (.iaload, 1) := by decide +kernel
theorem dX10_isMember_23 : decode cX10_isMember 23 = .ok (.iload_n 2, 1) := by decide +kernel
theorem dX10_isMember_24 : decode cX10_isMember 24 = .ok (.if_icmp .ne 5, 3) := by decide +kernel
theorem dX10_isMember_27 : decode cX10_isMember 27 = .ok (.iconst 1, 1) := by decide +kernel
theorem dX10_isMember_28 : decode cX10_isMember 28 = .ok (.ireturn, 1) := by decide +kernel
theorem dX10_isMember_29 : decode cX10_isMember 29 = .ok (.iinc 3 1, 3) := by decide +kernel
theorem dX10_isMember_32 : decode cX10_isMember 32 = .ok (.goto (-30), 3) := by decide +kernel
theorem dX10_isMember_35 : decode cX10_isMember 35 = .ok (.iconst 0, 1) := by decide +kernel
theorem dX10_isMember_36 : decode cX10_isMember 36 = .ok (.ireturn, 1) := by decide +kernel
theorem dX10_join_0 : decode cX10_join 0 = .ok (.aload_n 0, 1) := by decide +kernel
theorem dX10_join_1 : decode cX10_join 1 = .ok (.iload_n 1, 1) := by decide +kernel
theorem dX10_join_2 : decode cX10_join 2 = .ok (.invokevirtual 135, 3) := by decide +kernel
theorem dX10_join_5 : decode cX10_join 5 = .ok (.ifCond .eq 11, 3) := by decide +kernel
theorem dX10_join_8 : decode cX10_join 8 = .ok (.aload_n 0, 1) := by decide +kernel
theorem dX10_join_9 : decode cX10_join 9 = .ok (.iload_n 2, 1) := by decide +kernel
theorem dX10_join_10 : decode cX10_join 10 = .ok (.invokevirtual 131, 3) := by decide +kernel
theorem dX10_join_13 : decode cX10_join 13 = .ok (.ifCond .ne 5, 3) := by decide +kernel
theorem dX10_join_16 : decode cX10_join 16 = .ok (.iconst (-1), 1) := by decide +kernel
theorem dX10_join_17 : decode cX10_join 17 = .ok (.ireturn, 1) := by decide +kernel
theorem dX10_join_18 : decode cX10_join 18 = .ok (.aload_n 0, 1) := by decide +kernel
theorem dX10_join_19 : decode cX10_join 19 = .ok (.iload_n 1, 1) := by decide +kernel
theorem dX10_join_20 : decode cX10_join 20 = .ok (.iload_n 2, 1) := by decide +kernel
theorem dX10_join_21 : decode cX10_join 21 = .ok (.invokevirtual 138, 3) := by decide +kernel
theorem dX10_join_24 : decode cX10_join 24 = .ok (.ifCond .eq 6, 3) := by decide +kernel
theorem dX10_join_27 : decode cX10_join 27 = .ok (.bipush (-3), 2) := by decide +kernel
theorem dX10_join_29 : decode cX10_join 29 = .ok (.ireturn, 1) := by decide +kernel
theorem dX10_join_30 : decode cX10_join 30 = .ok (.aload_n 0, 1) := by decide +kernel
theorem dX10_join_31 : decode cX10_join 31 = .ok (.getfield 41, 3) := by decide +kernel
theorem dX10_join_34 : decode cX10_join 34 = .ok (.iload_n 1, 1) := by decide +kernel
theorem dX10_join_35 : decode cX10_join 35 = .ok (.iaload, 1) := by decide +kernel
theorem dX10_join_36 : decode cX10_join 36 = .ok (.bipush 8, 2) := by decide +kernel
theorem dX10_join_38 : decode cX10_join 38 = .ok (.if_icmp .ne 6, 3) := by decide +kernel
theorem dX10_join_41 : decode cX10_join 41 = .ok (.bipush (-4), 2) := by decide +kernel
theorem dX10_join_43 : decode cX10_join 43 = .ok (.ireturn, 1) := by decide +kernel
theorem dX10_join_44 : decode cX10_join 44 = .ok (.aload_n 0, 1) := by decide +kernel
theorem dX10_join_45 : decode cX10_join 45 = .ok (.getfield 47, 3) := by decide +kernel
theorem dX10_join_48 : decode cX10_join 48 = .ok (.bipush 8, 2) := by decide +kernel
theorem dX10_join_50 : decode cX10_join 50 = .ok (.iload_n 1, 1) := by decide +kernel
theorem dX10_join_51 : decode cX10_join 51 = .ok (.imul, 1) := by decide +kernel
theorem dX10_join_52 : decode cX10_join 52 = .ok (.aload_n 0, 1) := by decide +kernel
theorem dX10_join_53 : decode cX10_join 53 = .ok (.getfield 41, 3) := by decide +kernel
theorem dX10_join_56 : decode cX10_join 56 = .ok (.iload_n 1, 1) := by decide +kernel
theorem dX10_join_57 : decode cX10_join 57 = .ok (.iaload, 1) := by decide +kernel
theorem dX10_join_58 : decode cX10_join 58 = .ok (.iadd, 1) := by decide +kernel
theorem dX10_join_59 : decode cX10_join 59 = .ok (.iload_n 2, 1) := by decide +kernel
theorem dX10_join_60 : decode cX10_join 60 = .ok (.iastore, 1) := by decide +kernel
theorem dX10_join_61 : decode cX10_join 61 = .ok (.aload_n 0, 1) := by decide +kernel
theorem dX10_join_62 : decode cX10_join 62 = .ok (.getfield 53, 3) := by decide +kernel
theorem dX10_join_65 : decode cX10_join 65 = .ok (.iload_n 1, 1) := by decide +kernel
theorem dX10_join_66 : decode cX10_join 66 = .ok (.iconst 0, 1) := by decide +kernel
theorem dX10_join_67 : decode cX10_join 67 = .ok (.bastore, 1) := by decide +kernel
theorem dX10_join_68 : decode cX10_join 68 = .ok (.aload_n 0, 1) := by decide +kernel
theorem dX10_join_69 : decode cX10_join 69 = .ok (.getfield 41, 3) := by decide +kernel
theorem dX10_join_72 : decode cX10_join 72 = .ok (.iload_n 1, 1) := by decide +kernel
theorem dX10_join_73 : decode cX10_join 73 = .ok (.dup2, 1) := by decide +kernel
theorem dX10_join_74 : decode cX10_join 74 = .ok (.iaload, 1) := by decide +kernel
theorem dX10_join_75 : decode cX10_join 75 = .ok (.iconst 1, 1) := by decide +kernel
theorem dX10_join_76 : decode cX10_join 76 = .ok (.iadd, 1) := by decide +kernel
theorem dX10_join_77 : decode cX10_join 77 = .ok (.dup_x2, 1) := by decide +kernel
theorem dX10_join_78 : decode cX10_join 78 = .ok (.iastore, 1) := by decide +kernel
theorem dX10_join_79 : decode cX10_join 79 = .ok (.ireturn, 1) := by decide +kernel
theorem dX10_beat_0 : decode cX10_beat 0 = .ok (.aload_n 0, 1) := by decide +kernel
theorem dX10_beat_1 : decode cX10_beat 1 = .ok (.iload_n 1, 1) := by decide +kernel
theorem dX10_beat_2 : decode cX10_beat 2 = .ok (.invokevirtual 135, 3) := by decide +kernel
theorem dX10_beat_5 : decode cX10_beat 5 = .ok (.ifCond .ne 5, 3) := by decide +kernel
theorem dX10_beat_8 : decode cX10_beat 8 = .ok (.iconst (-1), 1) := by decide +kernel
theorem dX10_beat_9 : decode cX10_beat 9 = .ok (.ireturn, 1) := by decide +kernel
theorem dX10_beat_10 : decode cX10_beat 10 = .ok (.iload_n 2, 1) := by decide +kernel
theorem dX10_beat_11 : decode cX10_beat 11 = .ok (.iconst 1, 1) := by decide +kernel
theorem dX10_beat_12 : decode cX10_beat 12 = .ok (.if_icmp .lt 9, 3) := by decide +kernel
theorem dX10_beat_15 : decode cX10_beat 15 = .ok (.iload_n 2, 1) := by decide +kernel
theorem dX10_beat_16 : decode cX10_beat 16 = .ok (.bipush 9, 2) := by decide +kernel
theorem dX10_beat_18 : decode cX10_beat 18 = .ok (.if_icmp .le 6, 3) := by decide +kernel
theorem dX10_beat_21 : decode cX10_beat 21 = .ok (.bipush (-2), 2) := by decide +kernel
theorem dX10_beat_23 : decode cX10_beat 23 = .ok (.ireturn, 1) := by decide +kernel
theorem dX10_beat_24 : decode cX10_beat 24 = .ok (.aload_n 0, 1) := by decide +kernel
theorem dX10_beat_25 : decode cX10_beat 25 = .ok (.getfield 44, 3) := by decide +kernel
theorem dX10_beat_28 : decode cX10_beat 28 = .ok (.iload_n 1, 1) := by decide +kernel
theorem dX10_beat_29 : decode cX10_beat 29 = .ok (.iaload, 1) := by decide +kernel
theorem dX10_beat_30 : decode cX10_beat 30 = .ok (.istore_n 3, 1) := by decide +kernel
theorem dX10_beat_31 : decode cX10_beat 31 = .ok (.aload_n 0, 1) := by decide +kernel
theorem dX10_beat_32 : decode cX10_beat 32 = .ok (.getfield 44, 3) := by decide +kernel
theorem dX10_beat_35 : decode cX10_beat 35 = .ok (.iload_n 1, 1) := by decide +kernel
theorem dX10_beat_36 : decode cX10_beat 36 = .ok (.iload_n 2, 1) := by decide +kernel
theorem dX10_beat_37 : decode cX10_beat 37 = .ok (.iastore, 1) := by decide +kernel
theorem dX10_beat_38 : decode cX10_beat 38 = .ok (.iload_n 3, 1) := by decide +kernel
theorem dX10_beat_39 : decode cX10_beat 39 = .ok (.ireturn, 1) := by decide +kernel
theorem dX10_fits_0 : decode cX10_fits 0 = .ok (.aload_n 0, 1) := by decide +kernel
theorem dX10_fits_1 : decode cX10_fits 1 = .ok (.getfield 22, 3) := by decide +kernel
theorem dX10_fits_4 : decode cX10_fits 4 = .ok (.iload_n 1, 1) := by decide +kernel
theorem dX10_fits_5 : decode cX10_fits 5 = .ok (.iaload, 1) := by decide +kernel
theorem dX10_fits_6 : decode cX10_fits 6 = .ok (.iconst 2, 1) := by decide +kernel
theorem dX10_fits_7 : decode cX10_fits 7 = .ok (.if_icmp .eq 15, 3) := by decide +kernel
theorem dX10_fits_10 : decode cX10_fits 10 = .ok (.aload_n 0, 1) := by decide +kernel
theorem dX10_fits_11 : decode cX10_fits 11 = .ok (.getfield 22, 3) := by decide +kernel
theorem dX10_fits_14 : decode cX10_fits 14 = .ok (.iload_n 1, 1) := by decide +kernel
theorem dX10_fits_15 : decode cX10_fits 15 = .ok (.iaload, 1) := by decide +kernel
theorem dX10_fits_16 : decode cX10_fits 16 = .ok (.iload_n 2, 1) := by decide +kernel
theorem dX10_fits_17 : decode cX10_fits 17 = .ok (.iconst 2, 1) := by decide +kernel
theorem dX10_fits_18 : decode cX10_fits 18 = .ok (.irem, 1) := by decide +kernel
theorem dX10_fits_19 : decode cX10_fits 19 = .ok (.if_icmp .ne 7, 3) := by decide +kernel
theorem dX10_fits_22 : decode cX10_fits 22 = .ok (.iconst 1, 1) := by decide +kernel
theorem dX10_fits_23 : decode cX10_fits 23 = .ok (.goto 4, 3) := by decide +kernel
theorem dX10_fits_26 : decode cX10_fits 26 = .ok (.iconst 0, 1) := by decide +kernel
theorem dX10_fits_27 : decode cX10_fits 27 = .ok (.ireturn, 1) := by decide +kernel
theorem dX10_trims_0 : decode cX10_trims 0 = .ok (.aload_n 0, 1) := by decide +kernel
theorem dX10_trims_1 : decode cX10_trims 1 = .ok (.getfield 35, 3) := by decide +kernel
theorem dX10_trims_4 : decode cX10_trims 4 = .ok (.iload_n 1, 1) := by decide +kernel
theorem dX10_trims_5 : decode cX10_trims 5 = .ok (.iaload, 1) := by decide +kernel
theorem dX10_trims_6 : decode cX10_trims 6 = .ok (.istore 5, 2) := by decide +kernel
theorem dX10_trims_8 : decode cX10_trims 8 = .ok (.iload 4, 2) := by decide +kernel
theorem dX10_trims_10 : decode cX10_trims 10 = .ok (.iconst 1, 1) := by decide +kernel
theorem dX10_trims_11 : decode cX10_trims 11 = .ok (.if_icmp .ne 16, 3) := by decide +kernel
theorem dX10_trims_14 : decode cX10_trims 14 = .ok (.iload 5, 2) := by decide +kernel
theorem dX10_trims_16 : decode cX10_trims 16 = .ok (.ineg, 1) := by decide +kernel
theorem dX10_trims_17 : decode cX10_trims 17 = .ok (.aload_n 0, 1) := by decide +kernel
theorem dX10_trims_18 : decode cX10_trims 18 = .ok (.getfield 38, 3) := by decide +kernel
theorem dX10_trims_21 : decode cX10_trims 21 = .ok (.iload_n 1, 1) := by decide +kernel
theorem dX10_trims_22 : decode cX10_trims 22 = .ok (.iaload, 1) := by decide +kernel
theorem dX10_trims_23 : decode cX10_trims 23 = .ok (.imul, 1) := by decide +kernel
theorem dX10_trims_24 : decode cX10_trims 24 = .ok (.goto 4, 3) := by decide +kernel
theorem dX10_trims_27 : decode cX10_trims 27 = .ok (.iconst 0, 1) := by decide +kernel
theorem dX10_trims_28 : decode cX10_trims 28 = .ok (.istore 6, 2) := by decide +kernel
theorem dX10_trims_30 : decode cX10_trims 30 = .ok (.iconst 0, 1) := by decide +kernel
theorem dX10_trims_31 : decode cX10_trims 31 = .ok (.istore 7, 2) := by decide +kernel
theorem dX10_trims_33 : decode cX10_trims 33 = .ok (.iload 7, 2) := by decide +kernel
theorem dX10_trims_35 : decode cX10_trims 35 = .ok (.iconst 2, 1) := by decide +kernel
theorem dX10_trims_36 : decode cX10_trims 36 = .ok (.iload 5, 2) := by decide +kernel
theorem dX10_trims_38 : decode cX10_trims 38 = .ok (.imul, 1) := by decide +kernel
theorem dX10_trims_39 : decode cX10_trims 39 = .ok (.if_icmp .ge 169, 3) := by decide +kernel
theorem dX10_trims_42 : decode cX10_trims 42 = .ok (.aload_n 2, 1) := by decide +kernel
theorem dX10_trims_43 : decode cX10_trims 43 = .ok (.iload_n 3, 1) := by decide +kernel
theorem dX10_trims_44 : decode cX10_trims 44 = .ok (.iload 7, 2) := by decide +kernel
theorem dX10_trims_46 : decode cX10_trims 46 = .ok (.iadd, 1) := by decide +kernel
theorem dX10_trims_47 : decode cX10_trims 47 = .ok (.iaload, 1) := by decide +kernel
theorem dX10_trims_48 : decode cX10_trims 48 = .ok (.istore 8, 2) := by decide +kernel
theorem dX10_trims_50 : decode cX10_trims 50 = .ok (.iload 7, 2) := by decide +kernel
theorem dX10_trims_52 : decode cX10_trims 52 = .ok (.iconst 2, 1) := by decide +kernel
theorem dX10_trims_53 : decode cX10_trims 53 = .ok (.idiv, 1) := by decide +kernel
theorem dX10_trims_54 : decode cX10_trims 54 = .ok (.istore 9, 2) := by decide +kernel
theorem dX10_trims_56 : decode cX10_trims 56 = .ok (.iload 5, 2) := by decide +kernel
theorem dX10_trims_58 : decode cX10_trims 58 = .ok (.iconst 1, 1) := by decide +kernel
theorem dX10_trims_59 : decode cX10_trims 59 = .ok (.isub, 1) := by decide +kernel
theorem dX10_trims_60 : decode cX10_trims 60 = .ok (.iload 9, 2) := by decide +kernel
theorem dX10_trims_62 : decode cX10_trims 62 = .ok (.isub, 1) := by decide +kernel
theorem dX10_trims_63 : decode cX10_trims 63 = .ok (.istore 10, 2) := by decide +kernel
theorem dX10_trims_65 : decode cX10_trims 65 = .ok (.iload 4, 2) := by decide +kernel
theorem dX10_trims_67 : decode cX10_trims 67 = .ok (.ifCond .ne 36, 3) := by decide +kernel
theorem dX10_trims_70 : decode cX10_trims 70 = .ok (.iload 6, 2) := by decide +kernel
theorem dX10_trims_72 : decode cX10_trims 72 = .ok (.iload 7, 2) := by decide +kernel
theorem dX10_trims_74 : decode cX10_trims 74 = .ok (.iconst 2, 1) := by decide +kernel
theorem dX10_trims_75 : decode cX10_trims 75 = .ok (.irem, 1) := by decide +kernel
theorem dX10_trims_76 : decode cX10_trims 76 = .ok (.ifCond .ne 13, 3) := by decide +kernel
theorem dX10_trims_79 : decode cX10_trims 79 = .ok (.aload_n 0, 1) := by decide +kernel
theorem dX10_trims_80 : decode cX10_trims 80 = .ok (.getfield 15, 3) := by decide +kernel
theorem dX10_trims_83 : decode cX10_trims 83 = .ok (.iload 8, 2) := by decide +kernel
theorem dX10_trims_85 : decode cX10_trims 85 = .ok (.iaload, 1) := by decide +kernel
theorem dX10_trims_86 : decode cX10_trims 86 = .ok (.goto 11, 3) := by decide +kernel
theorem dX10_trims_89 : decode cX10_trims 89 = .ok (.aload_n 0, 1) := by decide +kernel
theorem dX10_trims_90 : decode cX10_trims 90 = .ok (.getfield 15, 3) := by decide +kernel
theorem dX10_trims_93 : decode cX10_trims 93 = .ok (.iload 8, 2) := by decide +kernel
theorem dX10_trims_95 : decode cX10_trims 95 = .ok (.iaload, 1) := by decide +kernel
theorem dX10_trims_96 : decode cX10_trims 96 = .ok (.ineg, 1) := by decide +kernel
theorem dX10_trims_97 : decode cX10_trims 97 = .ok (.iadd, 1) := by decide +kernel
theorem dX10_trims_98 : decode cX10_trims 98 = .ok (.istore 6, 2) := by decide +kernel
theorem dX10_trims_100 : decode cX10_trims 100 = .ok (.goto 102, 3) := by decide +kernel
theorem dX10_trims_103 : decode cX10_trims 103 = .ok (.iload 4, 2) := by decide +kernel
theorem dX10_trims_105 : decode cX10_trims 105 = .ok (.iconst 1, 1) := by decide +kernel
theorem dX10_trims_106 : decode cX10_trims 106 = .ok (.if_icmp .ne 28, 3) := by decide +kernel
theorem dX10_trims_109 : decode cX10_trims 109 = .ok (.iload 6, 2) := by decide +kernel
theorem dX10_trims_111 : decode cX10_trims 111 = .ok (.aload_n 0, 1) := by decide +kernel
theorem dX10_trims_112 : decode cX10_trims 112 = .ok (.getfield 15, 3) := by decide +kernel
theorem dX10_trims_115 : decode cX10_trims 115 = .ok (.iload 8, 2) := by decide +kernel
theorem dX10_trims_117 : decode cX10_trims 117 = .ok (.iaload, 1) := by decide +kernel
theorem dX10_trims_118 : decode cX10_trims 118 = .ok (.iconst 2, 1) := by decide +kernel
theorem dX10_trims_119 : decode cX10_trims 119 = .ok (.iload 9, 2) := by decide +kernel
theorem dX10_trims_121 : decode cX10_trims 121 = .ok (.imul, 1) := by decide +kernel
theorem dX10_trims_122 : decode cX10_trims 122 = .ok (.iload 5, 2) := by decide +kernel
theorem dX10_trims_124 : decode cX10_trims 124 = .ok (.iconst 1, 1) := by decide +kernel
theorem dX10_trims_125 : decode cX10_trims 125 = .ok (.isub, 1) := by decide +kernel
theorem dX10_trims_126 : decode cX10_trims 126 = .ok (.isub, 1) := by decide +kernel
theorem dX10_trims_127 : decode cX10_trims 127 = .ok (.imul, 1) := by decide +kernel
theorem dX10_trims_128 : decode cX10_trims 128 = .ok (.iadd, 1) := by decide +kernel
theorem dX10_trims_129 : decode cX10_trims 129 = .ok (.istore 6, 2) := by decide +kernel
theorem dX10_trims_131 : decode cX10_trims 131 = .ok (.goto 71, 3) := by decide +kernel
theorem dX10_trims_134 : decode cX10_trims 134 = .ok (.iload 4, 2) := by decide +kernel
theorem dX10_trims_136 : decode cX10_trims 136 = .ok (.iconst 2, 1) := by decide +kernel
theorem dX10_trims_137 : decode cX10_trims 137 = .ok (.if_icmp .ne 33, 3) := by decide +kernel
theorem dX10_trims_140 : decode cX10_trims 140 = .ok (.iload 6, 2) := by decide +kernel
theorem dX10_trims_142 : decode cX10_trims 142 = .ok (.aload_n 0, 1) := by decide +kernel
theorem dX10_trims_143 : decode cX10_trims 143 = .ok (.getfield 19, 3) := by decide +kernel
theorem dX10_trims_146 : decode cX10_trims 146 = .ok (.iload 8, 2) := by decide +kernel
theorem dX10_trims_148 : decode cX10_trims 148 = .ok (.iaload, 1) := by decide +kernel
theorem dX10_trims_149 : decode cX10_trims 149 = .ok (.iload 9, 2) := by decide +kernel
theorem dX10_trims_151 : decode cX10_trims 151 = .ok (.iload 10, 2) := by decide +kernel
theorem dX10_trims_153 : decode cX10_trims 153 = .ok (.if_icmp .ge 8, 3) := by decide +kernel
theorem dX10_trims_156 : decode cX10_trims 156 = .ok (.iload 9, 2) := by decide +kernel
theorem dX10_trims_158 : decode cX10_trims 158 = .ok (.goto 5, 3) := by decide +kernel
theorem dX10_trims_161 : decode cX10_trims 161 = .ok (.iload 10, 2) := by decide +kernel
theorem dX10_trims_163 : decode cX10_trims 163 = .ok (.imul, 1) := by decide +kernel
theorem dX10_trims_164 : decode cX10_trims 164 = .ok (.iadd, 1) := by decide +kernel
theorem dX10_trims_165 : decode cX10_trims 165 = .ok (.istore 6, 2) := by decide +kernel
theorem dX10_trims_167 : decode cX10_trims 167 = .ok (.goto 35, 3) := by decide +kernel
theorem dX10_trims_170 : decode cX10_trims 170 = .ok (.iload 7, 2) := by decide +kernel
theorem dX10_trims_172 : decode cX10_trims 172 = .ok (.iconst 2, 1) := by decide +kernel
theorem dX10_trims_173 : decode cX10_trims 173 = .ok (.irem, 1) := by decide +kernel
theorem dX10_trims_174 : decode cX10_trims 174 = .ok (.ifCond .ne 28, 3) := by decide +kernel
theorem dX10_trims_177 : decode cX10_trims 177 = .ok (.aload_n 0, 1) := by decide +kernel
theorem dX10_trims_178 : decode cX10_trims 178 = .ok (.getfield 31, 3) := by decide +kernel
theorem dX10_trims_181 : decode cX10_trims 181 = .ok (.bipush 40, 2) := by decide +kernel
theorem dX10_trims_183 : decode cX10_trims 183 = .ok (.iload 8, 2) := by decide +kernel
theorem dX10_trims_185 : decode cX10_trims 185 = .ok (.imul, 1) := by decide +kernel
theorem dX10_trims_186 : decode cX10_trims 186 = .ok (.aload_n 2, 1) := by decide +kernel
theorem dX10_trims_187 : decode cX10_trims 187 = .ok (.iload_n 3, 1) := by decide +kernel
theorem dX10_trims_188 : decode cX10_trims 188 = .ok (.iload 7, 2) := by decide +kernel
theorem dX10_trims_190 : decode cX10_trims 190 = .ok (.iadd, 1) := by decide +kernel
theorem dX10_trims_191 : decode cX10_trims 191 = .ok (.iconst 1, 1) := by decide +kernel
theorem dX10_trims_192 : decode cX10_trims 192 = .ok (.iadd, 1) := by decide +kernel
theorem dX10_trims_193 : decode cX10_trims 193 = .ok (.iaload, 1) := by decide +kernel
theorem dX10_trims_194 : decode cX10_trims 194 = .ok (.iadd, 1) := by decide +kernel
theorem dX10_trims_195 : decode cX10_trims 195 = .ok (.baload, 1) := by decide +kernel
theorem dX10_trims_196 : decode cX10_trims 196 = .ok (.ifCond .eq 6, 3) := by decide +kernel
theorem dX10_trims_199 : decode cX10_trims 199 = .ok (.iinc 6 1, 3) := by decide +kernel
theorem dX10_trims_202 : decode cX10_trims 202 = .ok (.iinc 7 1, 3) := by decide +kernel
theorem dX10_trims_205 : decode cX10_trims 205 = .ok (.goto (-172), 3) := by decide +kernel
theorem dX10_trims_208 : decode cX10_trims 208 = .ok (.iload 4, 2) := by decide +kernel
theorem dX10_trims_210 : decode cX10_trims 210 = .ok (.iconst 2, 1) := by decide +kernel
theorem dX10_trims_211 : decode cX10_trims 211 = .ok (.if_icmp .ge 11, 3) := by decide +kernel
theorem dX10_trims_214 : decode cX10_trims 214 = .ok (.iload 6, 2) := by decide +kernel
theorem dX10_trims_216 : decode cX10_trims 216 = .ok (.invokestatic 142, 3) := by decide +kernel
theorem dX10_trims_219 : decode cX10_trims 219 = .ok (.goto 5, 3) := by decide +kernel
theorem dX10_trims_222 : decode cX10_trims 222 = .ok (.iload 6, 2) := by decide +kernel
theorem dX10_trims_224 : decode cX10_trims 224 = .ok (.ireturn, 1) := by decide +kernel
theorem dX10_tilt_0 : decode cX10_tilt 0 = .ok (.iconst 4, 1) := by decide +kernel
theorem dX10_tilt_1 : decode cX10_tilt 1 = .ok (.aload_n 0, 1) := by decide +kernel
theorem dX10_tilt_2 : decode cX10_tilt 2 = .ok (.iload_n 1, 1) := by decide +kernel
theorem dX10_tilt_3 : decode cX10_tilt 3 = .ok (.aload_n 2, 1) := by decide +kernel
theorem dX10_tilt_4 : decode cX10_tilt 4 = .ok (.iload_n 3, 1) := by decide +kernel
theorem dX10_tilt_5 : decode cX10_tilt 5 = .ok (.iconst 0, 1) := by decide +kernel
theorem dX10_tilt_6 : decode cX10_tilt 6 = .ok (.invokevirtual 146, 3) := by decide +kernel
theorem dX10_tilt_9 : decode cX10_tilt 9 = .ok (.imul, 1) := by decide +kernel
theorem dX10_tilt_10 : decode cX10_tilt 10 = .ok (.aload_n 0, 1) := by decide +kernel
theorem dX10_tilt_11 : decode cX10_tilt 11 = .ok (.iload_n 1, 1) := by decide +kernel
theorem dX10_tilt_12 : decode cX10_tilt 12 = .ok (.aload_n 2, 1) := by decide +kernel
theorem dX10_tilt_13 : decode cX10_tilt 13 = .ok (.iload_n 3, 1) := by decide +kernel
theorem dX10_tilt_14 : decode cX10_tilt 14 = .ok (.iconst 1, 1) := by decide +kernel
theorem dX10_tilt_15 : decode cX10_tilt 15 = .ok (.invokevirtual 146, 3) := by decide +kernel
theorem dX10_tilt_18 : decode cX10_tilt 18 = .ok (.iadd, 1) := by decide +kernel
theorem dX10_tilt_19 : decode cX10_tilt 19 = .ok (.aload_n 0, 1) := by decide +kernel
theorem dX10_tilt_20 : decode cX10_tilt 20 = .ok (.iload_n 1, 1) := by decide +kernel
theorem dX10_tilt_21 : decode cX10_tilt 21 = .ok (.aload_n 2, 1) := by decide +kernel
theorem dX10_tilt_22 : decode cX10_tilt 22 = .ok (.iload_n 3, 1) := by decide +kernel
theorem dX10_tilt_23 : decode cX10_tilt 23 = .ok (.iconst 2, 1) := by decide +kernel
theorem dX10_tilt_24 : decode cX10_tilt 24 = .ok (.invokevirtual 146, 3) := by decide +kernel
theorem dX10_tilt_27 : decode cX10_tilt 27 = .ok (.isub, 1) := by decide +kernel
theorem dX10_tilt_28 : decode cX10_tilt 28 = .ok (.bipush 20, 2) := by decide +kernel
theorem dX10_tilt_30 : decode cX10_tilt 30 = .ok (.aload_n 0, 1) := by decide +kernel
theorem dX10_tilt_31 : decode cX10_tilt 31 = .ok (.iload_n 1, 1) := by decide +kernel
theorem dX10_tilt_32 : decode cX10_tilt 32 = .ok (.aload_n 2, 1) := by decide +kernel
theorem dX10_tilt_33 : decode cX10_tilt 33 = .ok (.iload_n 3, 1) := by decide +kernel
theorem dX10_tilt_34 : decode cX10_tilt 34 = .ok (.iconst 3, 1) := by decide +kernel
theorem dX10_tilt_35 : decode cX10_tilt 35 = .ok (.invokevirtual 146, 3) := by decide +kernel
theorem dX10_tilt_38 : decode cX10_tilt 38 = .ok (.imul, 1) := by decide +kernel
theorem dX10_tilt_39 : decode cX10_tilt 39 = .ok (.isub, 1) := by decide +kernel
theorem dX10_tilt_40 : decode cX10_tilt 40 = .ok (.ireturn, 1) := by decide +kernel
theorem dX10_seat_0 : decode cX10_seat 0 = .ok (.aload_n 0, 1) := by decide +kernel
theorem dX10_seat_1 : decode cX10_seat 1 = .ok (.iload_n 1, 1) := by decide +kernel
theorem dX10_seat_2 : decode cX10_seat 2 = .ok (.invokevirtual 135, 3) := by decide +kernel
theorem dX10_seat_5 : decode cX10_seat 5 = .ok (.ifCond .ne 6, 3) := by decide +kernel
theorem dX10_seat_8 : decode cX10_seat 8 = .ok (.ldc 150, 2) := by decide +kernel
theorem dX10_seat_10 : decode cX10_seat 10 = .ok (.ireturn, 1) := by decide +kernel
theorem dX10_seat_11 : decode cX10_seat 11 = .ok (.iconst 2, 1) := by decide +kernel
theorem dX10_seat_12 : decode cX10_seat 12 = .ok (.aload_n 0, 1) := by decide +kernel
theorem dX10_seat_13 : decode cX10_seat 13 = .ok (.getfield 35, 3) := by decide +kernel
theorem dX10_seat_16 : decode cX10_seat 16 = .ok (.iload_n 1, 1) := by decide +kernel
theorem dX10_seat_17 : decode cX10_seat 17 = .ok (.iaload, 1) := by decide +kernel
theorem dX10_seat_18 : decode cX10_seat 18 = .ok (.imul, 1) := by decide +kernel
theorem dX10_seat_19 : decode cX10_seat 19 = .ok (.istore_n 2, 1) := by decide +kernel
theorem dX10_seat_20 : decode cX10_seat 20 = .ok (.aload_n 0, 1) := by decide +kernel
theorem dX10_seat_21 : decode cX10_seat 21 = .ok (.getfield 41, 3) := by decide +kernel
theorem dX10_seat_24 : decode cX10_seat 24 = .ok (.iload_n 1, 1) := by decide +kernel
theorem dX10_seat_25 : decode cX10_seat 25 = .ok (.iaload, 1) := by decide +kernel
theorem dX10_seat_26 : decode cX10_seat 26 = .ok (.istore_n 3, 1) := by decide +kernel
theorem dX10_seat_27 : decode cX10_seat 27 = .ok (.iconst 0, 1) := by decide +kernel
theorem dX10_seat_28 : decode cX10_seat 28 = .ok (.istore 4, 2) := by decide +kernel
theorem dX10_seat_30 : decode cX10_seat 30 = .ok (.iconst 0, 1) := by decide +kernel
theorem dX10_seat_31 : decode cX10_seat 31 = .ok (.istore 5, 2) := by decide +kernel
theorem dX10_seat_33 : decode cX10_seat 33 = .ok (.iconst 0, 1) := by decide +kernel
theorem dX10_seat_34 : decode cX10_seat 34 = .ok (.istore 6, 2) := by decide +kernel
theorem dX10_seat_36 : decode cX10_seat 36 = .ok (.iconst 0, 1) := by decide +kernel
theorem dX10_seat_37 : decode cX10_seat 37 = .ok (.istore 7, 2) := by decide +kernel
theorem dX10_seat_39 : decode cX10_seat 39 = .ok (.iconst 0, 1) := by decide +kernel
theorem dX10_seat_40 : decode cX10_seat 40 = .ok (.istore 8, 2) := by decide +kernel
theorem dX10_seat_42 : decode cX10_seat 42 = .ok (.iload 8, 2) := by decide +kernel
theorem dX10_seat_44 : decode cX10_seat 44 = .ok (.bipush 8, 2) := by decide +kernel
theorem dX10_seat_46 : decode cX10_seat 46 = .ok (.if_icmp .ge 17, 3) := by decide +kernel
theorem dX10_seat_49 : decode cX10_seat 49 = .ok (.aload_n 0, 1) := by decide +kernel
theorem dX10_seat_50 : decode cX10_seat 50 = .ok (.getfield 113, 3) := by decide +kernel
theorem dX10_seat_53 : decode cX10_seat 53 = .ok (.iload 8, 2) := by decide +kernel
theorem dX10_seat_55 : decode cX10_seat 55 = .ok (.iconst (-1), 1) := by decide +kernel
theorem dX10_seat_56 : decode cX10_seat 56 = .ok (.iastore, 1) := by decide +kernel
theorem dX10_seat_57 : decode cX10_seat 57 = .ok (.iinc 8 1, 3) := by decide +kernel
theorem dX10_seat_60 : decode cX10_seat 60 = .ok (.goto (-18), 3) := by decide +kernel
theorem dX10_seat_63 : decode cX10_seat 63 = .ok (.iload 6, 2) := by decide +kernel
theorem dX10_seat_65 : decode cX10_seat 65 = .ok (.ifCond .lt 218, 3) := by decide +kernel
theorem dX10_seat_68 : decode cX10_seat 68 = .ok (.aload_n 0, 1) := by decide +kernel
theorem dX10_seat_69 : decode cX10_seat 69 = .ok (.getfield 113, 3) := by decide +kernel
theorem dX10_seat_72 : decode cX10_seat 72 = .ok (.iload 6, 2) := by decide +kernel
theorem dX10_seat_74 : decode cX10_seat 74 = .ok (.iaload, 1) := by decide +kernel
theorem dX10_seat_75 : decode cX10_seat 75 = .ok (.ifCond .lt 19, 3) := by decide +kernel
theorem dX10_seat_78 : decode cX10_seat 78 = .ok (.iload 7, 2) := by decide +kernel
theorem dX10_seat_80 : decode cX10_seat 80 = .ok (.iconst 1, 1) := by decide +kernel
theorem dX10_seat_81 : decode cX10_seat 81 = .ok (.aload_n 0, 1) := by decide +kernel
theorem dX10_seat_82 : decode cX10_seat 82 = .ok (.getfield 113, 3) := by decide +kernel
theorem dX10_seat_85 : decode cX10_seat 85 = .ok (.iload 6, 2) := by decide +kernel
theorem dX10_seat_87 : decode cX10_seat 87 = .ok (.iaload, 1) := by decide +kernel
theorem dX10_seat_88 : decode cX10_seat 88 = .ok (.ishl, 1) := by decide +kernel
theorem dX10_seat_89 : decode cX10_seat 89 = .ok (.iconst (-1), 1) := by decide +kernel
theorem dX10_seat_90 : decode cX10_seat 90 = .ok (.ixor, 1) := by decide +kernel
theorem dX10_seat_91 : decode cX10_seat 91 = .ok (.iand, 1) := by decide +kernel
theorem dX10_seat_92 : decode cX10_seat 92 = .ok (.istore 7, 2) := by decide +kernel
theorem dX10_seat_94 : decode cX10_seat 94 = .ok (.aload_n 0, 1) := by decide +kernel
theorem dX10_seat_95 : decode cX10_seat 95 = .ok (.getfield 113, 3) := by decide +kernel
theorem dX10_seat_98 : decode cX10_seat 98 = .ok (.iload 6, 2) := by decide +kernel
theorem dX10_seat_100 : decode cX10_seat 100 = .ok (.iaload, 1) := by decide +kernel
theorem dX10_seat_101 : decode cX10_seat 101 = .ok (.iconst 1, 1) := by decide +kernel
theorem dX10_seat_102 : decode cX10_seat 102 = .ok (.iadd, 1) := by decide +kernel
theorem dX10_seat_103 : decode cX10_seat 103 = .ok (.istore 8, 2) := by decide +kernel
theorem dX10_seat_105 : decode cX10_seat 105 = .ok (.iload 8, 2) := by decide +kernel
theorem dX10_seat_107 : decode cX10_seat 107 = .ok (.iload_n 3, 1) := by decide +kernel
theorem dX10_seat_108 : decode cX10_seat 108 = .ok (.if_icmp .ge 41, 3) := by decide +kernel
theorem dX10_seat_111 : decode cX10_seat 111 = .ok (.iload 7, 2) := by decide +kernel
theorem dX10_seat_113 : decode cX10_seat 113 = .ok (.iload 8, 2) := by decide +kernel
theorem dX10_seat_115 : decode cX10_seat 115 = .ok (.ishr, 1) := by decide +kernel
theorem dX10_seat_116 : decode cX10_seat 116 = .ok (.iconst 1, 1) := by decide +kernel
theorem dX10_seat_117 : decode cX10_seat 117 = .ok (.iand, 1) := by decide +kernel
theorem dX10_seat_118 : decode cX10_seat 118 = .ok (.iconst 1, 1) := by decide +kernel
theorem dX10_seat_119 : decode cX10_seat 119 = .ok (.if_icmp .eq 24, 3) := by decide +kernel
theorem dX10_seat_122 : decode cX10_seat 122 = .ok (.aload_n 0, 1) := by decide +kernel
theorem dX10_seat_123 : decode cX10_seat 123 = .ok (.aload_n 0, 1) := by decide +kernel
theorem dX10_seat_124 : decode cX10_seat 124 = .ok (.getfield 47, 3) := by decide +kernel
theorem dX10_seat_127 : decode cX10_seat 127 = .ok (.bipush 8, 2) := by decide +kernel
theorem dX10_seat_129 : decode cX10_seat 129 = .ok (.iload_n 1, 1) := by decide +kernel
theorem dX10_seat_130 : decode cX10_seat 130 = .ok (.imul, 1) := by decide +kernel
theorem dX10_seat_131 : decode cX10_seat 131 = .ok (.iload 8, 2) := by decide +kernel
theorem dX10_seat_133 : decode cX10_seat 133 = .ok (.iadd, 1) := by decide +kernel
theorem dX10_seat_134 : decode cX10_seat 134 = .ok (.iaload, 1) := by decide +kernel
theorem dX10_seat_135 : decode cX10_seat 135 = .ok (.iload 6, 2) := by decide +kernel
theorem dX10_seat_137 : decode cX10_seat 137 = .ok (.invokevirtual 151, 3) := by decide +kernel
theorem dX10_seat_140 : decode cX10_seat 140 = .ok (.ifCond .ne 9, 3) := by decide +kernel
theorem dX10_seat_143 : decode cX10_seat 143 = .ok (.iinc 8 1, 3) := by decide +kernel
theorem dX10_seat_146 : decode cX10_seat 146 = .ok (.goto (-41), 3) := by decide +kernel
theorem dX10_seat_149 : decode cX10_seat 149 = .ok (.iload 8, 2) := by decide +kernel
theorem dX10_seat_151 : decode cX10_seat 151 = .ok (.iload_n 3, 1) := by decide +kernel
theorem dX10_seat_152 : decode cX10_seat 152 = .ok (.if_icmp .ne 17, 3) := by decide +kernel
theorem dX10_seat_155 : decode cX10_seat 155 = .ok (.aload_n 0, 1) := by decide +kernel
theorem dX10_seat_156 : decode cX10_seat 156 = .ok (.getfield 113, 3) := by decide +kernel
theorem dX10_seat_159 : decode cX10_seat 159 = .ok (.iload 6, 2) := by decide +kernel
theorem dX10_seat_161 : decode cX10_seat 161 = .ok (.iconst (-1), 1) := by decide +kernel
theorem dX10_seat_162 : decode cX10_seat 162 = .ok (.iastore, 1) := by decide +kernel
theorem dX10_seat_163 : decode cX10_seat 163 = .ok (.iinc 6 (-1), 3) := by decide +kernel
theorem dX10_seat_166 : decode cX10_seat 166 = .ok (.goto (-103), 3) := by decide +kernel
theorem dX10_seat_169 : decode cX10_seat 169 = .ok (.aload_n 0, 1) := by decide +kernel
theorem dX10_seat_170 : decode cX10_seat 170 = .ok (.getfield 113, 3) := by decide +kernel
theorem dX10_seat_173 : decode cX10_seat 173 = .ok (.iload 6, 2) := by decide +kernel
theorem dX10_seat_175 : decode cX10_seat 175 = .ok (.iload 8, 2) := by decide +kernel
theorem dX10_seat_177 : decode cX10_seat 177 = .ok (.iastore, 1) := by decide +kernel
theorem dX10_seat_178 : decode cX10_seat 178 = .ok (.iload 7, 2) := by decide +kernel
theorem dX10_seat_180 : decode cX10_seat 180 = .ok (.iconst 1, 1) := by decide +kernel
theorem dX10_seat_181 : decode cX10_seat 181 = .ok (.iload 8, 2) := by decide +kernel
theorem dX10_seat_183 : decode cX10_seat 183 = .ok (.ishl, 1) := by decide +kernel
theorem dX10_seat_184 : decode cX10_seat 184 = .ok (.ior, 1) := by decide +kernel
theorem dX10_seat_185 : decode cX10_seat 185 = .ok (.istore 7, 2) := by decide +kernel
theorem dX10_seat_187 : decode cX10_seat 187 = .ok (.aload_n 0, 1) := by decide +kernel
theorem dX10_seat_188 : decode cX10_seat 188 = .ok (.getfield 122, 3) := by decide +kernel
theorem dX10_seat_191 : decode cX10_seat 191 = .ok (.iload 6, 2) := by decide +kernel
theorem dX10_seat_193 : decode cX10_seat 193 = .ok (.aload_n 0, 1) := by decide +kernel
theorem dX10_seat_194 : decode cX10_seat 194 = .ok (.getfield 47, 3) := by decide +kernel
theorem dX10_seat_197 : decode cX10_seat 197 = .ok (.bipush 8, 2) := by decide +kernel
theorem dX10_seat_199 : decode cX10_seat 199 = .ok (.iload_n 1, 1) := by decide +kernel
theorem dX10_seat_200 : decode cX10_seat 200 = .ok (.imul, 1) := by decide +kernel
theorem dX10_seat_201 : decode cX10_seat 201 = .ok (.iload 8, 2) := by decide +kernel
theorem dX10_seat_203 : decode cX10_seat 203 = .ok (.iadd, 1) := by decide +kernel
theorem dX10_seat_204 : decode cX10_seat 204 = .ok (.iaload, 1) := by decide +kernel
theorem dX10_seat_205 : decode cX10_seat 205 = .ok (.iastore, 1) := by decide +kernel
theorem dX10_seat_206 : decode cX10_seat 206 = .ok (.iload 6, 2) := by decide +kernel
theorem dX10_seat_208 : decode cX10_seat 208 = .ok (.iconst 1, 1) := by decide +kernel
theorem dX10_seat_209 : decode cX10_seat 209 = .ok (.iadd, 1) := by decide +kernel
theorem dX10_seat_210 : decode cX10_seat 210 = .ok (.iload_n 2, 1) := by decide +kernel
theorem dX10_seat_211 : decode cX10_seat 211 = .ok (.if_icmp .ge 9, 3) := by decide +kernel
theorem dX10_seat_214 : decode cX10_seat 214 = .ok (.iinc 6 1, 3) := by decide +kernel
theorem dX10_seat_217 : decode cX10_seat 217 = .ok (.goto (-154), 3) := by decide +kernel
theorem dX10_seat_220 : decode cX10_seat 220 = .ok (.aload_n 0, 1) := by decide +kernel
theorem dX10_seat_221 : decode cX10_seat 221 = .ok (.iload_n 1, 1) := by decide +kernel
theorem dX10_seat_222 : decode cX10_seat 222 = .ok (.aload_n 0, 1) := by decide +kernel
theorem dX10_seat_223 : decode cX10_seat 223 = .ok (.getfield 122, 3) := by decide +kernel
theorem dX10_seat_226 : decode cX10_seat 226 = .ok (.iconst 0, 1) := by decide +kernel
theorem dX10_seat_227 : decode cX10_seat 227 = .ok (.invokevirtual 154, 3) := by decide +kernel
theorem dX10_seat_230 : decode cX10_seat 230 = .ok (.istore 9, 2) := by decide +kernel
theorem dX10_seat_232 : decode cX10_seat 232 = .ok (.iload 5, 2) := by decide +kernel
theorem dX10_seat_234 : decode cX10_seat 234 = .ok (.ifCond .eq 10, 3) := by decide +kernel
theorem dX10_seat_237 : decode cX10_seat 237 = .ok (.iload 9, 2) := by decide +kernel
theorem dX10_seat_239 : decode cX10_seat 239 = .ok (.iload 4, 2) := by decide +kernel
theorem dX10_seat_241 : decode cX10_seat 241 = .ok (.if_icmp .ge 39, 3) := by decide +kernel
theorem dX10_seat_244 : decode cX10_seat 244 = .ok (.iconst 1, 1) := by decide +kernel
theorem dX10_seat_245 : decode cX10_seat 245 = .ok (.istore 5, 2) := by decide +kernel
theorem dX10_seat_247 : decode cX10_seat 247 = .ok (.iload 9, 2) := by decide +kernel
theorem dX10_seat_249 : decode cX10_seat 249 = .ok (.istore 4, 2) := by decide +kernel
theorem dX10_seat_251 : decode cX10_seat 251 = .ok (.iconst 0, 1) := by decide +kernel
theorem dX10_seat_252 : decode cX10_seat 252 = .ok (.istore 10, 2) := by decide +kernel
theorem dX10_seat_254 : decode cX10_seat 254 = .ok (.iload 10, 2) := by decide +kernel
theorem dX10_seat_256 : decode cX10_seat 256 = .ok (.iload_n 2, 1) := by decide +kernel
theorem dX10_seat_257 : decode cX10_seat 257 = .ok (.if_icmp .ge 23, 3) := by decide +kernel
theorem dX10_seat_260 : decode cX10_seat 260 = .ok (.aload_n 0, 1) := by decide +kernel
theorem dX10_seat_261 : decode cX10_seat 261 = .ok (.getfield 116, 3) := by decide +kernel
theorem dX10_seat_264 : decode cX10_seat 264 = .ok (.iload 10, 2) := by decide +kernel
theorem dX10_seat_266 : decode cX10_seat 266 = .ok (.aload_n 0, 1) := by decide +kernel
theorem dX10_seat_267 : decode cX10_seat 267 = .ok (.getfield 122, 3) := by decide +kernel
theorem dX10_seat_270 : decode cX10_seat 270 = .ok (.iload 10, 2) := by decide +kernel
theorem dX10_seat_272 : decode cX10_seat 272 = .ok (.iaload, 1) := by decide +kernel
theorem dX10_seat_273 : decode cX10_seat 273 = .ok (.iastore, 1) := by decide +kernel
theorem dX10_seat_274 : decode cX10_seat 274 = .ok (.iinc 10 1, 3) := by decide +kernel
theorem dX10_seat_277 : decode cX10_seat 277 = .ok (.goto (-23), 3) := by decide +kernel
theorem dX10_seat_280 : decode cX10_seat 280 = .ok (.goto (-217), 3) := by decide +kernel
theorem dX10_seat_283 : decode cX10_seat 283 = .ok (.aload_n 0, 1) := by decide +kernel
theorem dX10_seat_284 : decode cX10_seat 284 = .ok (.getfield 53, 3) := by decide +kernel
theorem dX10_seat_287 : decode cX10_seat 287 = .ok (.iload_n 1, 1) := by decide +kernel
theorem dX10_seat_288 : decode cX10_seat 288 = .ok (.iload 5, 2) := by decide +kernel
theorem dX10_seat_290 : decode cX10_seat 290 = .ok (.bastore, 1) := by decide +kernel
theorem dX10_seat_291 : decode cX10_seat 291 = .ok (.iload 5, 2) := by decide +kernel
theorem dX10_seat_293 : decode cX10_seat 293 = .ok (.ifCond .ne 6, 3) := by decide +kernel
theorem dX10_seat_296 : decode cX10_seat 296 = .ok (.ldc 158, 2) := by decide +kernel
theorem dX10_seat_298 : decode cX10_seat 298 = .ok (.ireturn, 1) := by decide +kernel
theorem dX10_seat_299 : decode cX10_seat 299 = .ok (.iconst 0, 1) := by decide +kernel
theorem dX10_seat_300 : decode cX10_seat 300 = .ok (.istore 8, 2) := by decide +kernel
theorem dX10_seat_302 : decode cX10_seat 302 = .ok (.iload 8, 2) := by decide +kernel
theorem dX10_seat_304 : decode cX10_seat 304 = .ok (.iload_n 2, 1) := by decide +kernel
theorem dX10_seat_305 : decode cX10_seat 305 = .ok (.if_icmp .ge 28, 3) := by decide +kernel
theorem dX10_seat_308 : decode cX10_seat 308 = .ok (.aload_n 0, 1) := by decide +kernel
theorem dX10_seat_309 : decode cX10_seat 309 = .ok (.getfield 50, 3) := by decide +kernel
theorem dX10_seat_312 : decode cX10_seat 312 = .ok (.bipush 8, 2) := by decide +kernel
theorem dX10_seat_314 : decode cX10_seat 314 = .ok (.iload_n 1, 1) := by decide +kernel
theorem dX10_seat_315 : decode cX10_seat 315 = .ok (.imul, 1) := by decide +kernel
theorem dX10_seat_316 : decode cX10_seat 316 = .ok (.iload 8, 2) := by decide +kernel
theorem dX10_seat_318 : decode cX10_seat 318 = .ok (.iadd, 1) := by decide +kernel
theorem dX10_seat_319 : decode cX10_seat 319 = .ok (.aload_n 0, 1) := by decide +kernel
theorem dX10_seat_320 : decode cX10_seat 320 = .ok (.getfield 116, 3) := by decide +kernel
theorem dX10_seat_323 : decode cX10_seat 323 = .ok (.iload 8, 2) := by decide +kernel
theorem dX10_seat_325 : decode cX10_seat 325 = .ok (.iaload, 1) := by decide +kernel
theorem dX10_seat_326 : decode cX10_seat 326 = .ok (.iastore, 1) := by decide +kernel
theorem dX10_seat_327 : decode cX10_seat 327 = .ok (.iinc 8 1, 3) := by decide +kernel
theorem dX10_seat_330 : decode cX10_seat 330 = .ok (.goto (-28), 3) := by decide +kernel
theorem dX10_seat_333 : decode cX10_seat 333 = .ok (.iload 4, 2) := by decide +kernel
theorem dX10_seat_335 : decode cX10_seat 335 = .ok (.ireturn, 1) := by decide +kernel
theorem dX10_sits_0 : decode cX10_sits 0 = .ok (.aload_n 0, 1) := by decide +kernel
theorem dX10_sits_1 : decode cX10_sits 1 = .ok (.iload_n 1, 1) := by decide +kernel
theorem dX10_sits_2 : decode cX10_sits 2 = .ok (.invokevirtual 135, 3) := by decide +kernel
theorem dX10_sits_5 : decode cX10_sits 5 = .ok (.ifCond .eq 35, 3) := by decide +kernel
theorem dX10_sits_8 : decode cX10_sits 8 = .ok (.iload_n 2, 1) := by decide +kernel
theorem dX10_sits_9 : decode cX10_sits 9 = .ok (.ifCond .lt 31, 3) := by decide +kernel
theorem dX10_sits_12 : decode cX10_sits 12 = .ok (.iload_n 2, 1) := by decide +kernel
theorem dX10_sits_13 : decode cX10_sits 13 = .ok (.aload_n 0, 1) := by decide +kernel
theorem dX10_sits_14 : decode cX10_sits 14 = .ok (.getfield 35, 3) := by decide +kernel
theorem dX10_sits_17 : decode cX10_sits 17 = .ok (.iload_n 1, 1) := by decide +kernel
theorem dX10_sits_18 : decode cX10_sits 18 = .ok (.iaload, 1) := by decide +kernel
theorem dX10_sits_19 : decode cX10_sits 19 = .ok (.if_icmp .ge 21, 3) := by decide +kernel
theorem dX10_sits_22 : decode cX10_sits 22 = .ok (.iload_n 3, 1) := by decide +kernel
theorem dX10_sits_23 : decode cX10_sits 23 = .ok (.ifCond .lt 17, 3) := by decide +kernel
theorem dX10_sits_26 : decode cX10_sits 26 = .ok (.iload_n 3, 1) := by decide +kernel
theorem dX10_sits_27 : decode cX10_sits 27 = .ok (.iconst 1, 1) := by decide +kernel
theorem dX10_sits_28 : decode cX10_sits 28 = .ok (.if_icmp .gt 12, 3) := by decide +kernel
theorem dX10_sits_31 : decode cX10_sits 31 = .ok (.aload_n 0, 1) := by decide +kernel
theorem dX10_sits_32 : decode cX10_sits 32 = .ok (.getfield 53, 3) := by decide +kernel
theorem dX10_sits_35 : decode cX10_sits 35 = .ok (.iload_n 1, 1) := by decide +kernel
theorem dX10_sits_36 : decode cX10_sits 36 = .ok (.baload, 1) := by decide +kernel
theorem dX10_sits_37 : decode cX10_sits 37 = .ok (.ifCond .ne 5, 3) := by decide +kernel
theorem dX10_sits_40 : decode cX10_sits 40 = .ok (.iconst (-1), 1) := by decide +kernel
theorem dX10_sits_41 : decode cX10_sits 41 = .ok (.ireturn, 1) := by decide +kernel
theorem dX10_sits_42 : decode cX10_sits 42 = .ok (.aload_n 0, 1) := by decide +kernel
theorem dX10_sits_43 : decode cX10_sits 43 = .ok (.getfield 50, 3) := by decide +kernel
theorem dX10_sits_46 : decode cX10_sits 46 = .ok (.bipush 8, 2) := by decide +kernel
theorem dX10_sits_48 : decode cX10_sits 48 = .ok (.iload_n 1, 1) := by decide +kernel
theorem dX10_sits_49 : decode cX10_sits 49 = .ok (.imul, 1) := by decide +kernel
theorem dX10_sits_50 : decode cX10_sits 50 = .ok (.iconst 2, 1) := by decide +kernel
theorem dX10_sits_51 : decode cX10_sits 51 = .ok (.iload_n 2, 1) := by decide +kernel
theorem dX10_sits_52 : decode cX10_sits 52 = .ok (.imul, 1) := by decide +kernel
theorem dX10_sits_53 : decode cX10_sits 53 = .ok (.iadd, 1) := by decide +kernel
theorem dX10_sits_54 : decode cX10_sits 54 = .ok (.iload_n 3, 1) := by decide +kernel
theorem dX10_sits_55 : decode cX10_sits 55 = .ok (.iadd, 1) := by decide +kernel
theorem dX10_sits_56 : decode cX10_sits 56 = .ok (.iaload, 1) := by decide +kernel
theorem dX10_sits_57 : decode cX10_sits 57 = .ok (.ireturn, 1) := by decide +kernel
theorem dX10_trim_0 : decode cX10_trim 0 = .ok (.aload_n 0, 1) := by decide +kernel
theorem dX10_trim_1 : decode cX10_trim 1 = .ok (.iload_n 1, 1) := by decide +kernel
theorem dX10_trim_2 : decode cX10_trim 2 = .ok (.invokevirtual 135, 3) := by decide +kernel
theorem dX10_trim_5 : decode cX10_trim 5 = .ok (.ifCond .eq 12, 3) := by decide +kernel
theorem dX10_trim_8 : decode cX10_trim 8 = .ok (.iload_n 2, 1) := by decide +kernel
theorem dX10_trim_9 : decode cX10_trim 9 = .ok (.ifCond .lt 8, 3) := by decide +kernel
theorem dX10_trim_12 : decode cX10_trim 12 = .ok (.iload_n 2, 1) := by decide +kernel
theorem dX10_trim_13 : decode cX10_trim 13 = .ok (.iconst 3, 1) := by decide +kernel
theorem dX10_trim_14 : decode cX10_trim 14 = .ok (.if_icmp .le 5, 3) := by decide +kernel
theorem dX10_trim_17 : decode cX10_trim 17 = .ok (.iconst (-1), 1) := by decide +kernel
theorem dX10_trim_18 : decode cX10_trim 18 = .ok (.ireturn, 1) := by decide +kernel
theorem dX10_trim_19 : decode cX10_trim 19 = .ok (.aload_n 0, 1) := by decide +kernel
theorem dX10_trim_20 : decode cX10_trim 20 = .ok (.getfield 53, 3) := by decide +kernel
theorem dX10_trim_23 : decode cX10_trim 23 = .ok (.iload_n 1, 1) := by decide +kernel
theorem dX10_trim_24 : decode cX10_trim 24 = .ok (.baload, 1) := by decide +kernel
theorem dX10_trim_25 : decode cX10_trim 25 = .ok (.ifCond .eq 20, 3) := by decide +kernel
theorem dX10_trim_28 : decode cX10_trim 28 = .ok (.aload_n 0, 1) := by decide +kernel
theorem dX10_trim_29 : decode cX10_trim 29 = .ok (.iload_n 1, 1) := by decide +kernel
theorem dX10_trim_30 : decode cX10_trim 30 = .ok (.aload_n 0, 1) := by decide +kernel
theorem dX10_trim_31 : decode cX10_trim 31 = .ok (.getfield 50, 3) := by decide +kernel
theorem dX10_trim_34 : decode cX10_trim 34 = .ok (.bipush 8, 2) := by decide +kernel
theorem dX10_trim_36 : decode cX10_trim 36 = .ok (.iload_n 1, 1) := by decide +kernel
theorem dX10_trim_37 : decode cX10_trim 37 = .ok (.imul, 1) := by decide +kernel
theorem dX10_trim_38 : decode cX10_trim 38 = .ok (.iload_n 2, 1) := by decide +kernel
theorem dX10_trim_39 : decode cX10_trim 39 = .ok (.invokevirtual 146, 3) := by decide +kernel
theorem dX10_trim_42 : decode cX10_trim 42 = .ok (.goto 5, 3) := by decide +kernel
theorem dX10_trim_45 : decode cX10_trim 45 = .ok (.bipush (-3), 2) := by decide +kernel
theorem dX10_trim_47 : decode cX10_trim 47 = .ok (.ireturn, 1) := by decide +kernel
theorem dX10_change_0 : decode cX10_change 0 = .ok (.aload_n 0, 1) := by decide +kernel
theorem dX10_change_1 : decode cX10_change 1 = .ok (.iload_n 1, 1) := by decide +kernel
theorem dX10_change_2 : decode cX10_change 2 = .ok (.invokevirtual 135, 3) := by decide +kernel
theorem dX10_change_5 : decode cX10_change 5 = .ok (.ifCond .eq 35, 3) := by decide +kernel
theorem dX10_change_8 : decode cX10_change 8 = .ok (.iload_n 2, 1) := by decide +kernel
theorem dX10_change_9 : decode cX10_change 9 = .ok (.ifCond .lt 31, 3) := by decide +kernel
theorem dX10_change_12 : decode cX10_change 12 = .ok (.iload_n 3, 1) := by decide +kernel
theorem dX10_change_13 : decode cX10_change 13 = .ok (.ifCond .lt 27, 3) := by decide +kernel
theorem dX10_change_16 : decode cX10_change 16 = .ok (.iload_n 2, 1) := by decide +kernel
theorem dX10_change_17 : decode cX10_change 17 = .ok (.iconst 2, 1) := by decide +kernel
theorem dX10_change_18 : decode cX10_change 18 = .ok (.aload_n 0, 1) := by decide +kernel
theorem dX10_change_19 : decode cX10_change 19 = .ok (.getfield 35, 3) := by decide +kernel
theorem dX10_change_22 : decode cX10_change 22 = .ok (.iload_n 1, 1) := by decide +kernel
theorem dX10_change_23 : decode cX10_change 23 = .ok (.iaload, 1) := by decide +kernel
theorem dX10_change_24 : decode cX10_change 24 = .ok (.imul, 1) := by decide +kernel
theorem dX10_change_25 : decode cX10_change 25 = .ok (.if_icmp .ge 15, 3) := by decide +kernel
theorem dX10_change_28 : decode cX10_change 28 = .ok (.iload_n 3, 1) := by decide +kernel
theorem dX10_change_29 : decode cX10_change 29 = .ok (.iconst 2, 1) := by decide +kernel
theorem dX10_change_30 : decode cX10_change 30 = .ok (.aload_n 0, 1) := by decide +kernel
theorem dX10_change_31 : decode cX10_change 31 = .ok (.getfield 35, 3) := by decide +kernel
theorem dX10_change_34 : decode cX10_change 34 = .ok (.iload_n 1, 1) := by decide +kernel
theorem dX10_change_35 : decode cX10_change 35 = .ok (.iaload, 1) := by decide +kernel
theorem dX10_change_36 : decode cX10_change 36 = .ok (.imul, 1) := by decide +kernel
theorem dX10_change_37 : decode cX10_change 37 = .ok (.if_icmp .lt 6, 3) := by decide +kernel
theorem dX10_change_40 : decode cX10_change 40 = .ok (.ldc 150, 2) := by decide +kernel
theorem dX10_change_42 : decode cX10_change 42 = .ok (.ireturn, 1) := by decide +kernel
theorem dX10_change_43 : decode cX10_change 43 = .ok (.aload_n 0, 1) := by decide +kernel
theorem dX10_change_44 : decode cX10_change 44 = .ok (.getfield 53, 3) := by decide +kernel
theorem dX10_change_47 : decode cX10_change 47 = .ok (.iload_n 1, 1) := by decide +kernel
theorem dX10_change_48 : decode cX10_change 48 = .ok (.baload, 1) := by decide +kernel
theorem dX10_change_49 : decode cX10_change 49 = .ok (.ifCond .ne 6, 3) := by decide +kernel
theorem dX10_change_52 : decode cX10_change 52 = .ok (.ldc 158, 2) := by decide +kernel
theorem dX10_change_54 : decode cX10_change 54 = .ok (.ireturn, 1) := by decide +kernel
theorem dX10_change_55 : decode cX10_change 55 = .ok (.iconst 0, 1) := by decide +kernel
theorem dX10_change_56 : decode cX10_change 56 = .ok (.istore 4, 2) := by decide +kernel
theorem dX10_change_58 : decode cX10_change 58 = .ok (.iload 4, 2) := by decide +kernel
theorem dX10_change_60 : decode cX10_change 60 = .ok (.iconst 2, 1) := by decide +kernel
theorem dX10_change_61 : decode cX10_change 61 = .ok (.aload_n 0, 1) := by decide +kernel
theorem dX10_change_62 : decode cX10_change 62 = .ok (.getfield 35, 3) := by decide +kernel
theorem dX10_change_65 : decode cX10_change 65 = .ok (.iload_n 1, 1) := by decide +kernel
theorem dX10_change_66 : decode cX10_change 66 = .ok (.iaload, 1) := by decide +kernel
theorem dX10_change_67 : decode cX10_change 67 = .ok (.imul, 1) := by decide +kernel
theorem dX10_change_68 : decode cX10_change 68 = .ok (.if_icmp .ge 28, 3) := by decide +kernel
theorem dX10_change_71 : decode cX10_change 71 = .ok (.aload_n 0, 1) := by decide +kernel
theorem dX10_change_72 : decode cX10_change 72 = .ok (.getfield 122, 3) := by decide +kernel
theorem dX10_change_75 : decode cX10_change 75 = .ok (.iload 4, 2) := by decide +kernel
theorem dX10_change_77 : decode cX10_change 77 = .ok (.aload_n 0, 1) := by decide +kernel
theorem dX10_change_78 : decode cX10_change 78 = .ok (.getfield 50, 3) := by decide +kernel
theorem dX10_change_81 : decode cX10_change 81 = .ok (.bipush 8, 2) := by decide +kernel
theorem dX10_change_83 : decode cX10_change 83 = .ok (.iload_n 1, 1) := by decide +kernel
theorem dX10_change_84 : decode cX10_change 84 = .ok (.imul, 1) := by decide +kernel
theorem dX10_change_85 : decode cX10_change 85 = .ok (.iload 4, 2) := by decide +kernel
theorem dX10_change_87 : decode cX10_change 87 = .ok (.iadd, 1) := by decide +kernel
theorem dX10_change_88 : decode cX10_change 88 = .ok (.iaload, 1) := by decide +kernel
theorem dX10_change_89 : decode cX10_change 89 = .ok (.iastore, 1) := by decide +kernel
theorem dX10_change_90 : decode cX10_change 90 = .ok (.iinc 4 1, 3) := by decide +kernel
theorem dX10_change_93 : decode cX10_change 93 = .ok (.goto (-35), 3) := by decide +kernel
theorem dX10_change_96 : decode cX10_change 96 = .ok (.aload_n 0, 1) := by decide +kernel
theorem dX10_change_97 : decode cX10_change 97 = .ok (.getfield 122, 3) := by decide +kernel
theorem dX10_change_100 : decode cX10_change 100 = .ok (.iload_n 2, 1) := by decide +kernel
theorem dX10_change_101 : decode cX10_change 101 = .ok (.iaload, 1) := by decide +kernel
theorem dX10_change_102 : decode cX10_change 102 = .ok (.istore 4, 2) := by decide +kernel
theorem dX10_change_104 : decode cX10_change 104 = .ok (.aload_n 0, 1) := by decide +kernel
theorem dX10_change_105 : decode cX10_change 105 = .ok (.getfield 122, 3) := by decide +kernel
theorem dX10_change_108 : decode cX10_change 108 = .ok (.iload_n 2, 1) := by decide +kernel
theorem dX10_change_109 : decode cX10_change 109 = .ok (.aload_n 0, 1) := by decide +kernel
theorem dX10_change_110 : decode cX10_change 110 = .ok (.getfield 122, 3) := by decide +kernel
theorem dX10_change_113 : decode cX10_change 113 = .ok (.iload_n 3, 1) := by decide +kernel
theorem dX10_change_114 : decode cX10_change 114 = .ok (.iaload, 1) := by decide +kernel
theorem dX10_change_115 : decode cX10_change 115 = .ok (.iastore, 1) := by decide +kernel
theorem dX10_change_116 : decode cX10_change 116 = .ok (.aload_n 0, 1) := by decide +kernel
theorem dX10_change_117 : decode cX10_change 117 = .ok (.getfield 122, 3) := by decide +kernel
theorem dX10_change_120 : decode cX10_change 120 = .ok (.iload_n 3, 1) := by decide +kernel
theorem dX10_change_121 : decode cX10_change 121 = .ok (.iload 4, 2) := by decide +kernel
theorem dX10_change_123 : decode cX10_change 123 = .ok (.iastore, 1) := by decide +kernel
theorem dX10_change_124 : decode cX10_change 124 = .ok (.aload_n 0, 1) := by decide +kernel
theorem dX10_change_125 : decode cX10_change 125 = .ok (.aload_n 0, 1) := by decide +kernel
theorem dX10_change_126 : decode cX10_change 126 = .ok (.getfield 122, 3) := by decide +kernel
theorem dX10_change_129 : decode cX10_change 129 = .ok (.iload_n 2, 1) := by decide +kernel
theorem dX10_change_130 : decode cX10_change 130 = .ok (.iaload, 1) := by decide +kernel
theorem dX10_change_131 : decode cX10_change 131 = .ok (.iload_n 2, 1) := by decide +kernel
theorem dX10_change_132 : decode cX10_change 132 = .ok (.invokevirtual 151, 3) := by decide +kernel
theorem dX10_change_135 : decode cX10_change 135 = .ok (.ifCond .eq 17, 3) := by decide +kernel
theorem dX10_change_138 : decode cX10_change 138 = .ok (.aload_n 0, 1) := by decide +kernel
theorem dX10_change_139 : decode cX10_change 139 = .ok (.aload_n 0, 1) := by decide +kernel
theorem dX10_change_140 : decode cX10_change 140 = .ok (.getfield 122, 3) := by decide +kernel
theorem dX10_change_143 : decode cX10_change 143 = .ok (.iload_n 3, 1) := by decide +kernel
theorem dX10_change_144 : decode cX10_change 144 = .ok (.iaload, 1) := by decide +kernel
theorem dX10_change_145 : decode cX10_change 145 = .ok (.iload_n 3, 1) := by decide +kernel
theorem dX10_change_146 : decode cX10_change 146 = .ok (.invokevirtual 151, 3) := by decide +kernel
theorem dX10_change_149 : decode cX10_change 149 = .ok (.ifCond .ne 6, 3) := by decide +kernel
theorem dX10_change_152 : decode cX10_change 152 = .ok (.ldc 158, 2) := by decide +kernel
theorem dX10_change_154 : decode cX10_change 154 = .ok (.ireturn, 1) := by decide +kernel
theorem dX10_change_155 : decode cX10_change 155 = .ok (.aload_n 0, 1) := by decide +kernel
theorem dX10_change_156 : decode cX10_change 156 = .ok (.iload_n 1, 1) := by decide +kernel
theorem dX10_change_157 : decode cX10_change 157 = .ok (.aload_n 0, 1) := by decide +kernel
theorem dX10_change_158 : decode cX10_change 158 = .ok (.getfield 122, 3) := by decide +kernel
theorem dX10_change_161 : decode cX10_change 161 = .ok (.iconst 0, 1) := by decide +kernel
theorem dX10_change_162 : decode cX10_change 162 = .ok (.invokevirtual 154, 3) := by decide +kernel
theorem dX10_change_165 : decode cX10_change 165 = .ok (.ireturn, 1) := by decide +kernel
theorem dX10_feed_0 : decode cX10_feed 0 = .ok (.iload_n 3, 1) := by decide +kernel
theorem dX10_feed_1 : decode cX10_feed 1 = .ok (.iconst 1, 1) := by decide +kernel
theorem dX10_feed_2 : decode cX10_feed 2 = .ok (.if_icmp .lt 9, 3) := by decide +kernel
theorem dX10_feed_5 : decode cX10_feed 5 = .ok (.iload_n 3, 1) := by decide +kernel
theorem dX10_feed_6 : decode cX10_feed 6 = .ok (.bipush 8, 2) := by decide +kernel
theorem dX10_feed_8 : decode cX10_feed 8 = .ok (.if_icmp .le 6, 3) := by decide +kernel
theorem dX10_feed_11 : decode cX10_feed 11 = .ok (.bipush (-2), 2) := by decide +kernel
theorem dX10_feed_13 : decode cX10_feed 13 = .ok (.ireturn, 1) := by decide +kernel
theorem dX10_feed_14 : decode cX10_feed 14 = .ok (.aload_n 0, 1) := by decide +kernel
theorem dX10_feed_15 : decode cX10_feed 15 = .ok (.getfield 159, 3) := by decide +kernel
theorem dX10_feed_18 : decode cX10_feed 18 = .ok (.iload_n 3, 1) := by decide +kernel
theorem dX10_feed_19 : decode cX10_feed 19 = .ok (.iadd, 1) := by decide +kernel
theorem dX10_feed_20 : decode cX10_feed 20 = .ok (.bipush 120, 2) := by decide +kernel
theorem dX10_feed_22 : decode cX10_feed 22 = .ok (.if_icmp .le 6, 3) := by decide +kernel
theorem dX10_feed_25 : decode cX10_feed 25 = .ok (.bipush (-4), 2) := by decide +kernel
theorem dX10_feed_27 : decode cX10_feed 27 = .ok (.ireturn, 1) := by decide +kernel
theorem dX10_feed_28 : decode cX10_feed 28 = .ok (.iload_n 3, 1) := by decide +kernel
theorem dX10_feed_29 : decode cX10_feed 29 = .ok (.iconst 1, 1) := by decide +kernel
theorem dX10_feed_30 : decode cX10_feed 30 = .ok (.isub, 1) := by decide +kernel
theorem dX10_feed_31 : decode cX10_feed 31 = .ok (.istore 4, 2) := by decide +kernel
theorem dX10_feed_33 : decode cX10_feed 33 = .ok (.iload 4, 2) := by decide +kernel
theorem dX10_feed_35 : decode cX10_feed 35 = .ok (.ifCond .lt 37, 3) := by decide +kernel
theorem dX10_feed_38 : decode cX10_feed 38 = .ok (.aload_n 0, 1) := by decide +kernel
theorem dX10_feed_39 : decode cX10_feed 39 = .ok (.getfield 56, 3) := by decide +kernel
theorem dX10_feed_42 : decode cX10_feed 42 = .ok (.aload_n 0, 1) := by decide +kernel
theorem dX10_feed_43 : decode cX10_feed 43 = .ok (.dup, 1) := by decide +kernel
theorem dX10_feed_44 : decode cX10_feed 44 = .ok (.getfield 159, 3) := by decide +kernel
theorem dX10_feed_47 : decode cX10_feed 47 = .ok (.dup_x1, 1) := by decide +kernel
theorem dX10_feed_48 : decode cX10_feed 48 = .ok (.iconst 1, 1) := by decide +kernel
theorem dX10_feed_49 : decode cX10_feed 49 = .ok (.iadd, 1) := by decide +kernel
