theorem dX10_run_38 : decode cX10_run 38 = .ok (.iload_n 1, 1) := by decide +kernel
theorem dX10_run_39 : decode cX10_run 39 = .ok (.imul, 1) := by decide +kernel
theorem dX10_run_40 : decode cX10_run 40 = .ok (.iload_n 3, 1) := by decide +kernel
theorem dX10_run_41 : decode cX10_run 41 = .ok (.iadd, 1) := by decide +kernel
theorem dX10_run_42 : decode cX10_run 42 = .ok (.iaload, 1) := by decide +kernel
theorem dX10_run_43 : decode cX10_run 43 = .ok (.ifCond .le 6, 3) := by decide +kernel
theorem dX10_run_46 : decode cX10_run 46 = .ok (.bipush (-3), 2) := by decide +kernel
theorem dX10_run_48 : decode cX10_run 48 = .ok (.ireturn, 1) := by decide +kernel
theorem dX10_run_49 : decode cX10_run 49 = .ok (.iinc 3 1, 3) := by decide +kernel
theorem dX10_run_52 : decode cX10_run 52 = .ok (.goto (-24), 3) := by decide +kernel
theorem dX10_run_55 : decode cX10_run 55 = .ok (.aload_n 0, 1) := by decide +kernel
theorem dX10_run_56 : decode cX10_run 56 = .ok (.getfield 95, 3) := by decide +kernel
theorem dX10_run_59 : decode cX10_run 59 = .ok (.iload_n 1, 1) := by decide +kernel
theorem dX10_run_60 : decode cX10_run 60 = .ok (.baload, 1) := by decide +kernel
theorem dX10_run_61 : decode cX10_run 61 = .ok (.ifCond .eq 6, 3) := by decide +kernel
theorem dX10_run_64 : decode cX10_run 64 = .ok (.bipush (-3), 2) := by decide +kernel
theorem dX10_run_66 : decode cX10_run 66 = .ok (.ireturn, 1) := by decide +kernel
theorem dX10_run_67 : decode cX10_run 67 = .ok (.aload_n 0, 1) := by decide +kernel
theorem dX10_run_68 : decode cX10_run 68 = .ok (.getfield 95, 3) := by decide +kernel
theorem dX10_run_71 : decode cX10_run 71 = .ok (.iload_n 1, 1) := by decide +kernel
theorem dX10_run_72 : decode cX10_run 72 = .ok (.iconst 1, 1) := by decide +kernel
theorem dX10_run_73 : decode cX10_run 73 = .ok (.bastore, 1) := by decide +kernel
theorem dX10_run_74 : decode cX10_run 74 = .ok (.iconst 0, 1) := by decide +kernel
theorem dX10_run_75 : decode cX10_run 75 = .ok (.istore_n 3, 1) := by decide +kernel
theorem dX10_run_76 : decode cX10_run 76 = .ok (.iconst 0, 1) := by decide +kernel
theorem dX10_run_77 : decode cX10_run 77 = .ok (.istore 4, 2) := by decide +kernel
theorem dX10_run_79 : decode cX10_run 79 = .ok (.iload 4, 2) := by decide +kernel
theorem dX10_run_81 : decode cX10_run 81 = .ok (.iconst 4, 1) := by decide +kernel
theorem dX10_run_82 : decode cX10_run 82 = .ok (.if_icmp .ge 68, 3) := by decide +kernel
theorem dX10_run_85 : decode cX10_run 85 = .ok (.iconst 4, 1) := by decide +kernel
theorem dX10_run_86 : decode cX10_run 86 = .ok (.iload_n 1, 1) := by decide +kernel
theorem dX10_run_87 : decode cX10_run 87 = .ok (.imul, 1) := by decide +kernel
theorem dX10_run_88 : decode cX10_run 88 = .ok (.iload 4, 2) := by decide +kernel
theorem dX10_run_90 : decode cX10_run 90 = .ok (.iadd, 1) := by decide +kernel
theorem dX10_run_91 : decode cX10_run 91 = .ok (.istore 5, 2) := by decide +kernel
theorem dX10_run_93 : decode cX10_run 93 = .ok (.aload_n 0, 1) := by decide +kernel
theorem dX10_run_94 : decode cX10_run 94 = .ok (.getfield 83, 3) := by decide +kernel
theorem dX10_run_97 : decode cX10_run 97 = .ok (.iload 5, 2) := by decide +kernel
theorem dX10_run_99 : decode cX10_run 99 = .ok (.iaload, 1) := by decide +kernel
theorem dX10_run_100 : decode cX10_run 100 = .ok (.iconst (-1), 1) := by decide +kernel
theorem dX10_run_101 : decode cX10_run 101 = .ok (.if_icmp .eq 43, 3) := by decide +kernel
theorem dX10_run_104 : decode cX10_run 104 = .ok (.aload_n 0, 1) := by decide +kernel
theorem dX10_run_105 : decode cX10_run 105 = .ok (.getfield 92, 3) := by decide +kernel
theorem dX10_run_108 : decode cX10_run 108 = .ok (.iload 5, 2) := by decide +kernel
theorem dX10_run_110 : decode cX10_run 110 = .ok (.baload, 1) := by decide +kernel
theorem dX10_run_111 : decode cX10_run 111 = .ok (.ifCond .ne 33, 3) := by decide +kernel
theorem dX10_run_114 : decode cX10_run 114 = .ok (.aload_n 0, 1) := by decide +kernel
theorem dX10_run_115 : decode cX10_run 115 = .ok (.getfield 53, 3) := by decide +kernel
theorem dX10_run_118 : decode cX10_run 118 = .ok (.aload_n 0, 1) := by decide +kernel
theorem dX10_run_119 : decode cX10_run 119 = .ok (.getfield 83, 3) := by decide +kernel
theorem dX10_run_122 : decode cX10_run 122 = .ok (.iload 5, 2) := by decide +kernel
theorem dX10_run_124 : decode cX10_run 124 = .ok (.iaload, 1) := by decide +kernel
theorem dX10_run_125 : decode cX10_run 125 = .ok (.baload, 1) := by decide +kernel
theorem dX10_run_126 : decode cX10_run 126 = .ok (.ifCond .eq 18, 3) := by decide +kernel
theorem dX10_run_129 : decode cX10_run 129 = .ok (.aload_n 0, 1) := by decide +kernel
theorem dX10_run_130 : decode cX10_run 130 = .ok (.iload 5, 2) := by decide +kernel
theorem dX10_run_132 : decode cX10_run 132 = .ok (.iload 4, 2) := by decide +kernel
theorem dX10_run_134 : decode cX10_run 134 = .ok (.iload_n 2, 1) := by decide +kernel
theorem dX10_run_135 : decode cX10_run 135 = .ok (.invokevirtual 229, 3) := by decide +kernel
theorem dX10_run_138 : decode cX10_run 138 = .ok (.ifCond .eq 6, 3) := by decide +kernel
theorem dX10_run_141 : decode cX10_run 141 = .ok (.iinc 3 1, 3) := by decide +kernel
theorem dX10_run_144 : decode cX10_run 144 = .ok (.iinc 4 1, 3) := by decide +kernel
theorem dX10_run_147 : decode cX10_run 147 = .ok (.goto (-68), 3) := by decide +kernel
theorem dX10_run_150 : decode cX10_run 150 = .ok (.iload_n 3, 1) := by decide +kernel
theorem dX10_run_151 : decode cX10_run 151 = .ok (.ireturn, 1) := by decide +kernel
theorem dX10_isIn_0 : decode cX10_isIn 0 = .ok (.aload_n 0, 1) := by decide +kernel
theorem dX10_isIn_1 : decode cX10_isIn 1 = .ok (.iload_n 1, 1) := by decide +kernel
theorem dX10_isIn_2 : decode cX10_isIn 2 = .ok (.invokevirtual 226, 3) := by decide +kernel
theorem dX10_isIn_5 : decode cX10_isIn 5 = .ok (.ifCond .eq 30, 3) := by decide +kernel
theorem dX10_isIn_8 : decode cX10_isIn 8 = .ok (.iload_n 2, 1) := by decide +kernel
theorem dX10_isIn_9 : decode cX10_isIn 9 = .ok (.ifCond .lt 26, 3) := by decide +kernel
theorem dX10_isIn_12 : decode cX10_isIn 12 = .ok (.iload_n 2, 1) := by decide +kernel
theorem dX10_isIn_13 : decode cX10_isIn 13 = .ok (.iconst 4, 1) := by decide +kernel
theorem dX10_isIn_14 : decode cX10_isIn 14 = .ok (.if_icmp .ge 21, 3) := by decide +kernel
theorem dX10_isIn_17 : decode cX10_isIn 17 = .ok (.aload_n 0, 1) := by decide +kernel
theorem dX10_isIn_18 : decode cX10_isIn 18 = .ok (.getfield 83, 3) := by decide +kernel
theorem dX10_isIn_21 : decode cX10_isIn 21 = .ok (.iconst 4, 1) := by decide +kernel
theorem dX10_isIn_22 : decode cX10_isIn 22 = .ok (.iload_n 1, 1) := by decide +kernel
theorem dX10_isIn_23 : decode cX10_isIn 23 = .ok (.imul, 1) := by decide +kernel
theorem dX10_isIn_24 : decode cX10_isIn 24 = .ok (.iload_n 2, 1) := by decide +kernel
theorem dX10_isIn_25 : decode cX10_isIn 25 = .ok (.iadd, 1) := by decide +kernel
theorem dX10_isIn_26 : decode cX10_isIn 26 = .ok (.iaload, 1) := by decide +kernel
theorem dX10_isIn_27 : decode cX10_isIn 27 = .ok (.iconst (-1), 1) := by decide +kernel
theorem dX10_isIn_28 : decode cX10_isIn 28 = .ok (.if_icmp .eq 7, 3) := by decide +kernel
theorem dX10_isIn_31 : decode cX10_isIn 31 = .ok (.iconst 1, 1) := by decide +kernel
theorem dX10_isIn_32 : decode cX10_isIn 32 = .ok (.goto 4, 3) := by decide +kernel
theorem dX10_isIn_35 : decode cX10_isIn 35 = .ok (.iconst 0, 1) := by decide +kernel
theorem dX10_isIn_36 : decode cX10_isIn 36 = .ok (.ireturn, 1) := by decide +kernel
theorem dX10_time_0 : decode cX10_time 0 = .ok (.aload_n 0, 1) := by decide +kernel
theorem dX10_time_1 : decode cX10_time 1 = .ok (.iload_n 1, 1) := by decide +kernel
theorem dX10_time_2 : decode cX10_time 2 = .ok (.iload_n 2, 1) := by decide +kernel
theorem dX10_time_3 : decode cX10_time 3 = .ok (.invokevirtual 233, 3) := by decide +kernel
theorem dX10_time_6 : decode cX10_time 6 = .ok (.ifCond .ne 5, 3) := by decide +kernel
theorem dX10_time_9 : decode cX10_time 9 = .ok (.iconst (-1), 1) := by decide +kernel
theorem dX10_time_10 : decode cX10_time 10 = .ok (.ireturn, 1) := by decide +kernel
theorem dX10_time_11 : decode cX10_time 11 = .ok (.iload_n 3, 1) := by decide +kernel
theorem dX10_time_12 : decode cX10_time 12 = .ok (.ifCond .lt 9, 3) := by decide +kernel
theorem dX10_time_15 : decode cX10_time 15 = .ok (.iload_n 3, 1) := by decide +kernel
theorem dX10_time_16 : decode cX10_time 16 = .ok (.ldc 236, 2) := by decide +kernel
theorem dX10_time_18 : decode cX10_time 18 = .ok (.if_icmp .le 6, 3) := by decide +kernel
theorem dX10_time_21 : decode cX10_time 21 = .ok (.bipush (-2), 2) := by decide +kernel
theorem dX10_time_23 : decode cX10_time 23 = .ok (.ireturn, 1) := by decide +kernel
theorem dX10_time_24 : decode cX10_time 24 = .ok (.aload_n 0, 1) := by decide +kernel
theorem dX10_time_25 : decode cX10_time 25 = .ok (.getfield 92, 3) := by decide +kernel
theorem dX10_time_28 : decode cX10_time 28 = .ok (.iconst 4, 1) := by decide +kernel
theorem dX10_time_29 : decode cX10_time 29 = .ok (.iload_n 1, 1) := by decide +kernel
theorem dX10_time_30 : decode cX10_time 30 = .ok (.imul, 1) := by decide +kernel
theorem dX10_time_31 : decode cX10_time 31 = .ok (.iload_n 2, 1) := by decide +kernel
theorem dX10_time_32 : decode cX10_time 32 = .ok (.iadd, 1) := by decide +kernel
theorem dX10_time_33 : decode cX10_time 33 = .ok (.baload, 1) := by decide +kernel
theorem dX10_time_34 : decode cX10_time 34 = .ok (.ifCond .eq 6, 3) := by decide +kernel
theorem dX10_time_37 : decode cX10_time 37 = .ok (.bipush (-3), 2) := by decide +kernel
theorem dX10_time_39 : decode cX10_time 39 = .ok (.ireturn, 1) := by decide +kernel
theorem dX10_time_40 : decode cX10_time 40 = .ok (.aload_n 0, 1) := by decide +kernel
theorem dX10_time_41 : decode cX10_time 41 = .ok (.getfield 86, 3) := by decide +kernel
theorem dX10_time_44 : decode cX10_time 44 = .ok (.iconst 4, 1) := by decide +kernel
theorem dX10_time_45 : decode cX10_time 45 = .ok (.iload_n 1, 1) := by decide +kernel
theorem dX10_time_46 : decode cX10_time 46 = .ok (.imul, 1) := by decide +kernel
theorem dX10_time_47 : decode cX10_time 47 = .ok (.iload_n 2, 1) := by decide +kernel
theorem dX10_time_48 : decode cX10_time 48 = .ok (.iadd, 1) := by decide +kernel
theorem dX10_time_49 : decode cX10_time 49 = .ok (.iaload, 1) := by decide +kernel
theorem dX10_time_50 : decode cX10_time 50 = .ok (.istore 4, 2) := by decide +kernel
theorem dX10_time_52 : decode cX10_time 52 = .ok (.aload_n 0, 1) := by decide +kernel
theorem dX10_time_53 : decode cX10_time 53 = .ok (.getfield 86, 3) := by decide +kernel
theorem dX10_time_56 : decode cX10_time 56 = .ok (.iconst 4, 1) := by decide +kernel
theorem dX10_time_57 : decode cX10_time 57 = .ok (.iload_n 1, 1) := by decide +kernel
theorem dX10_time_58 : decode cX10_time 58 = .ok (.imul, 1) := by decide +kernel
theorem dX10_time_59 : decode cX10_time 59 = .ok (.iload_n 2, 1) := by decide +kernel
theorem dX10_time_60 : decode cX10_time 60 = .ok (.iadd, 1) := by decide +kernel
theorem dX10_time_61 : decode cX10_time 61 = .ok (.iload_n 3, 1) := by decide +kernel
theorem dX10_time_62 : decode cX10_time 62 = .ok (.iastore, 1) := by decide +kernel
theorem dX10_time_63 : decode cX10_time 63 = .ok (.iload 4, 2) := by decide +kernel
theorem dX10_time_65 : decode cX10_time 65 = .ok (.ireturn, 1) := by decide +kernel
theorem dX10_place_0 : decode cX10_place 0 = .ok (.aload_n 0, 1) := by decide +kernel
theorem dX10_place_1 : decode cX10_place 1 = .ok (.getfield 86, 3) := by decide +kernel
theorem dX10_place_4 : decode cX10_place 4 = .ok (.iconst 4, 1) := by decide +kernel
theorem dX10_place_5 : decode cX10_place 5 = .ok (.iload_n 1, 1) := by decide +kernel
theorem dX10_place_6 : decode cX10_place 6 = .ok (.imul, 1) := by decide +kernel
theorem dX10_place_7 : decode cX10_place 7 = .ok (.iload_n 2, 1) := by decide +kernel
theorem dX10_place_8 : decode cX10_place 8 = .ok (.iadd, 1) := by decide +kernel
theorem dX10_place_9 : decode cX10_place 9 = .ok (.iaload, 1) := by decide +kernel
theorem dX10_place_10 : decode cX10_place 10 = .ok (.istore_n 3, 1) := by decide +kernel
theorem dX10_place_11 : decode cX10_place 11 = .ok (.iload_n 3, 1) := by decide +kernel
theorem dX10_place_12 : decode cX10_place 12 = .ok (.ifCond .ne 5, 3) := by decide +kernel
theorem dX10_place_15 : decode cX10_place 15 = .ok (.iconst 0, 1) := by decide +kernel
theorem dX10_place_16 : decode cX10_place 16 = .ok (.ireturn, 1) := by decide +kernel
theorem dX10_place_17 : decode cX10_place 17 = .ok (.iconst 1, 1) := by decide +kernel
theorem dX10_place_18 : decode cX10_place 18 = .ok (.istore 4, 2) := by decide +kernel
theorem dX10_place_20 : decode cX10_place 20 = .ok (.iconst 0, 1) := by decide +kernel
theorem dX10_place_21 : decode cX10_place 21 = .ok (.istore 5, 2) := by decide +kernel
theorem dX10_place_23 : decode cX10_place 23 = .ok (.iload 5, 2) := by decide +kernel
theorem dX10_place_25 : decode cX10_place 25 = .ok (.iconst 4, 1) := by decide +kernel
theorem dX10_place_26 : decode cX10_place 26 = .ok (.if_icmp .ge 41, 3) := by decide +kernel
theorem dX10_place_29 : decode cX10_place 29 = .ok (.aload_n 0, 1) := by decide +kernel
theorem dX10_place_30 : decode cX10_place 30 = .ok (.getfield 86, 3) := by decide +kernel
theorem dX10_place_33 : decode cX10_place 33 = .ok (.iconst 4, 1) := by decide +kernel
theorem dX10_place_34 : decode cX10_place 34 = .ok (.iload_n 1, 1) := by decide +kernel
theorem dX10_place_35 : decode cX10_place 35 = .ok (.imul, 1) := by decide +kernel
theorem dX10_place_36 : decode cX10_place 36 = .ok (.iload 5, 2) := by decide +kernel
theorem dX10_place_38 : decode cX10_place 38 = .ok (.iadd, 1) := by decide +kernel
theorem dX10_place_39 : decode cX10_place 39 = .ok (.iaload, 1) := by decide +kernel
theorem dX10_place_40 : decode cX10_place 40 = .ok (.ifCond .le 21, 3) := by decide +kernel
theorem dX10_place_43 : decode cX10_place 43 = .ok (.aload_n 0, 1) := by decide +kernel
theorem dX10_place_44 : decode cX10_place 44 = .ok (.getfield 86, 3) := by decide +kernel
theorem dX10_place_47 : decode cX10_place 47 = .ok (.iconst 4, 1) := by decide +kernel
theorem dX10_place_48 : decode cX10_place 48 = .ok (.iload_n 1, 1) := by decide +kernel
theorem dX10_place_49 : decode cX10_place 49 = .ok (.imul, 1) := by decide +kernel
theorem dX10_place_50 : decode cX10_place 50 = .ok (.iload 5, 2) := by decide +kernel
theorem dX10_place_52 : decode cX10_place 52 = .ok (.iadd, 1) := by decide +kernel
theorem dX10_place_53 : decode cX10_place 53 = .ok (.iaload, 1) := by decide +kernel
theorem dX10_place_54 : decode cX10_place 54 = .ok (.iload_n 3, 1) := by decide +kernel
theorem dX10_place_55 : decode cX10_place 55 = .ok (.if_icmp .ge 6, 3) := by decide +kernel
theorem dX10_place_58 : decode cX10_place 58 = .ok (.iinc 4 1, 3) := by decide +kernel
theorem dX10_place_61 : decode cX10_place 61 = .ok (.iinc 5 1, 3) := by decide +kernel
theorem dX10_place_64 : decode cX10_place 64 = .ok (.goto (-41), 3) := by decide +kernel
theorem dX10_place_67 : decode cX10_place 67 = .ok (.iload 4, 2) := by decide +kernel
theorem dX10_place_69 : decode cX10_place 69 = .ok (.ireturn, 1) := by decide +kernel
theorem dX10_told_0 : decode cX10_told 0 = .ok (.aload_n 0, 1) := by decide +kernel
theorem dX10_told_1 : decode cX10_told 1 = .ok (.iload_n 1, 1) := by decide +kernel
theorem dX10_told_2 : decode cX10_told 2 = .ok (.iload_n 2, 1) := by decide +kernel
theorem dX10_told_3 : decode cX10_told 3 = .ok (.invokevirtual 233, 3) := by decide +kernel
theorem dX10_told_6 : decode cX10_told 6 = .ok (.ifCond .ne 5, 3) := by decide +kernel
theorem dX10_told_9 : decode cX10_told 9 = .ok (.iconst (-1), 1) := by decide +kernel
theorem dX10_told_10 : decode cX10_told 10 = .ok (.ireturn, 1) := by decide +kernel
theorem dX10_told_11 : decode cX10_told 11 = .ok (.iload_n 3, 1) := by decide +kernel
theorem dX10_told_12 : decode cX10_told 12 = .ok (.tableswitch 72 0 3 #[32, 43, 54, 61], 32) := by decide +kernel
theorem dX10_told_44 : decode cX10_told 44 = .ok (.aload_n 0, 1) := by decide +kernel
theorem dX10_told_45 : decode cX10_told 45 = .ok (.getfield 83, 3) := by decide +kernel
theorem dX10_told_48 : decode cX10_told 48 = .ok (.iconst 4, 1) := by decide +kernel
theorem dX10_told_49 : decode cX10_told 49 = .ok (.iload_n 1, 1) := by decide +kernel
theorem dX10_told_50 : decode cX10_told 50 = .ok (.imul, 1) := by decide +kernel
theorem dX10_told_51 : decode cX10_told 51 = .ok (.iload_n 2, 1) := by decide +kernel
theorem dX10_told_52 : decode cX10_told 52 = .ok (.iadd, 1) := by decide +kernel
theorem dX10_told_53 : decode cX10_told 53 = .ok (.iaload, 1) := by decide +kernel
theorem dX10_told_54 : decode cX10_told 54 = .ok (.ireturn, 1) := by decide +kernel
theorem dX10_told_55 : decode cX10_told 55 = .ok (.aload_n 0, 1) := by decide +kernel
theorem dX10_told_56 : decode cX10_told 56 = .ok (.getfield 86, 3) := by decide +kernel
theorem dX10_told_59 : decode cX10_told 59 = .ok (.iconst 4, 1) := by decide +kernel
theorem dX10_told_60 : decode cX10_told 60 = .ok (.iload_n 1, 1) := by decide +kernel
theorem dX10_told_61 : decode cX10_told 61 = .ok (.imul, 1) := by decide +kernel
theorem dX10_told_62 : decode cX10_told 62 = .ok (.iload_n 2, 1) := by decide +kernel
theorem dX10_told_63 : decode cX10_told 63 = .ok (.iadd, 1) := by decide +kernel
theorem dX10_told_64 : decode cX10_told 64 = .ok (.iaload, 1) := by decide +kernel
theorem dX10_told_65 : decode cX10_told 65 = .ok (.ireturn, 1) := by decide +kernel
theorem dX10_told_66 : decode cX10_told 66 = .ok (.aload_n 0, 1) := by decide +kernel
theorem dX10_told_67 : decode cX10_told 67 = .ok (.iload_n 1, 1) := by decide +kernel
theorem dX10_told_68 : decode cX10_told 68 = .ok (.iload_n 2, 1) := by decide +kernel
theorem dX10_told_69 : decode cX10_told 69 = .ok (.invokevirtual 237, 3) := by decide +kernel
theorem dX10_told_72 : decode cX10_told 72 = .ok (.ireturn, 1) := by decide +kernel
theorem dX10_told_73 : decode cX10_told 73 = .ok (.aload_n 0, 1) := by decide +kernel
theorem dX10_told_74 : decode cX10_told 74 = .ok (.getfield 89, 3) := by decide +kernel
theorem dX10_told_77 : decode cX10_told 77 = .ok (.iconst 4, 1) := by decide +kernel
theorem dX10_told_78 : decode cX10_told 78 = .ok (.iload_n 1, 1) := by decide +kernel
theorem dX10_told_79 : decode cX10_told 79 = .ok (.imul, 1) := by decide +kernel
theorem dX10_told_80 : decode cX10_told 80 = .ok (.iload_n 2, 1) := by decide +kernel
theorem dX10_told_81 : decode cX10_told 81 = .ok (.iadd, 1) := by decide +kernel
theorem dX10_told_82 : decode cX10_told 82 = .ok (.iaload, 1) := by decide +kernel
theorem dX10_told_83 : decode cX10_told 83 = .ok (.ireturn, 1) := by decide +kernel
theorem dX10_told_84 : decode cX10_told 84 = .ok (.iconst (-1), 1) := by decide +kernel
theorem dX10_told_85 : decode cX10_told 85 = .ok (.ireturn, 1) := by decide +kernel
theorem dX10_again_0 : decode cX10_again 0 = .ok (.aload_n 0, 1) := by decide +kernel
theorem dX10_again_1 : decode cX10_again 1 = .ok (.iload_n 1, 1) := by decide +kernel
theorem dX10_again_2 : decode cX10_again 2 = .ok (.invokevirtual 226, 3) := by decide +kernel
theorem dX10_again_5 : decode cX10_again 5 = .ok (.ifCond .ne 5, 3) := by decide +kernel
theorem dX10_again_8 : decode cX10_again 8 = .ok (.iconst (-1), 1) := by decide +kernel
theorem dX10_again_9 : decode cX10_again 9 = .ok (.ireturn, 1) := by decide +kernel
theorem dX10_again_10 : decode cX10_again 10 = .ok (.iconst 0, 1) := by decide +kernel
theorem dX10_again_11 : decode cX10_again 11 = .ok (.istore_n 2, 1) := by decide +kernel
theorem dX10_again_12 : decode cX10_again 12 = .ok (.iconst 0, 1) := by decide +kernel
theorem dX10_again_13 : decode cX10_again 13 = .ok (.istore_n 3, 1) := by decide +kernel
theorem dX10_again_14 : decode cX10_again 14 = .ok (.iload_n 3, 1) := by decide +kernel
theorem dX10_again_15 : decode cX10_again 15 = .ok (.iconst 4, 1) := by decide +kernel
theorem dX10_again_16 : decode cX10_again 16 = .ok (.if_icmp .ge 47, 3) := by decide +kernel
theorem dX10_again_19 : decode cX10_again 19 = .ok (.aload_n 0, 1) := by decide +kernel
theorem dX10_again_20 : decode cX10_again 20 = .ok (.getfield 86, 3) := by decide +kernel
theorem dX10_again_23 : decode cX10_again 23 = .ok (.iconst 4, 1) := by decide +kernel
theorem dX10_again_24 : decode cX10_again 24 = .ok (.iload_n 1, 1) := by decide +kernel
theorem dX10_again_25 : decode cX10_again 25 = .ok (.imul, 1) := by decide +kernel
theorem dX10_again_26 : decode cX10_again 26 = .ok (.iload_n 3, 1) := by decide +kernel
theorem dX10_again_27 : decode cX10_again 27 = .ok (.iadd, 1) := by decide +kernel
theorem dX10_again_28 : decode cX10_again 28 = .ok (.iaload, 1) := by decide +kernel
theorem dX10_again_29 : decode cX10_again 29 = .ok (.ifCond .le 6, 3) := by decide +kernel
theorem dX10_again_32 : decode cX10_again 32 = .ok (.iinc 2 1, 3) := by decide +kernel
theorem dX10_again_35 : decode cX10_again 35 = .ok (.aload_n 0, 1) := by decide +kernel
theorem dX10_again_36 : decode cX10_again 36 = .ok (.getfield 86, 3) := by decide +kernel
theorem dX10_again_39 : decode cX10_again 39 = .ok (.iconst 4, 1) := by decide +kernel
theorem dX10_again_40 : decode cX10_again 40 = .ok (.iload_n 1, 1) := by decide +kernel
theorem dX10_again_41 : decode cX10_again 41 = .ok (.imul, 1) := by decide +kernel
theorem dX10_again_42 : decode cX10_again 42 = .ok (.iload_n 3, 1) := by decide +kernel
theorem dX10_again_43 : decode cX10_again 43 = .ok (.iadd, 1) := by decide +kernel
theorem dX10_again_44 : decode cX10_again 44 = .ok (.iconst 0, 1) := by decide +kernel
theorem dX10_again_45 : decode cX10_again 45 = .ok (.iastore, 1) := by decide +kernel
theorem dX10_again_46 : decode cX10_again 46 = .ok (.aload_n 0, 1) := by decide +kernel
theorem dX10_again_47 : decode cX10_again 47 = .ok (.getfield 89, 3) := by decide +kernel
theorem dX10_again_50 : decode cX10_again 50 = .ok (.iconst 4, 1) := by decide +kernel
theorem dX10_again_51 : decode cX10_again 51 = .ok (.iload_n 1, 1) := by decide +kernel
theorem dX10_again_52 : decode cX10_again 52 = .ok (.imul, 1) := by decide +kernel
theorem dX10_again_53 : decode cX10_again 53 = .ok (.iload_n 3, 1) := by decide +kernel
theorem dX10_again_54 : decode cX10_again 54 = .ok (.iadd, 1) := by decide +kernel
theorem dX10_again_55 : decode cX10_again 55 = .ok (.iconst 0, 1) := by decide +kernel
theorem dX10_again_56 : decode cX10_again 56 = .ok (.iastore, 1) := by decide +kernel
theorem dX10_again_57 : decode cX10_again 57 = .ok (.iinc 3 1, 3) := by decide +kernel
theorem dX10_again_60 : decode cX10_again 60 = .ok (.goto (-46), 3) := by decide +kernel
theorem dX10_again_63 : decode cX10_again 63 = .ok (.aload_n 0, 1) := by decide +kernel
theorem dX10_again_64 : decode cX10_again 64 = .ok (.getfield 95, 3) := by decide +kernel
theorem dX10_again_67 : decode cX10_again 67 = .ok (.iload_n 1, 1) := by decide +kernel
theorem dX10_again_68 : decode cX10_again 68 = .ok (.iconst 0, 1) := by decide +kernel
theorem dX10_again_69 : decode cX10_again 69 = .ok (.bastore, 1) := by decide +kernel
theorem dX10_again_70 : decode cX10_again 70 = .ok (.iload_n 2, 1) := by decide +kernel
theorem dX10_again_71 : decode cX10_again 71 = .ok (.ireturn, 1) := by decide +kernel
theorem dX10_strike_0 : decode cX10_strike 0 = .ok (.aload_n 0, 1) := by decide +kernel
theorem dX10_strike_1 : decode cX10_strike 1 = .ok (.iload_n 1, 1) := by decide +kernel
theorem dX10_strike_2 : decode cX10_strike 2 = .ok (.invokevirtual 226, 3) := by decide +kernel
theorem dX10_strike_5 : decode cX10_strike 5 = .ok (.ifCond .ne 5, 3) := by decide +kernel
theorem dX10_strike_8 : decode cX10_strike 8 = .ok (.iconst (-1), 1) := by decide +kernel
theorem dX10_strike_9 : decode cX10_strike 9 = .ok (.ireturn, 1) := by decide +kernel
theorem dX10_strike_10 : decode cX10_strike 10 = .ok (.iconst 0, 1) := by decide +kernel
theorem dX10_strike_11 : decode cX10_strike 11 = .ok (.istore_n 3, 1) := by decide +kernel
theorem dX10_strike_12 : decode cX10_strike 12 = .ok (.iload_n 3, 1) := by decide +kernel
theorem dX10_strike_13 : decode cX10_strike 13 = .ok (.iconst 4, 1) := by decide +kernel
theorem dX10_strike_14 : decode cX10_strike 14 = .ok (.if_icmp .ge 79, 3) := by decide +kernel
theorem dX10_strike_17 : decode cX10_strike 17 = .ok (.aload_n 0, 1) := by decide +kernel
theorem dX10_strike_18 : decode cX10_strike 18 = .ok (.getfield 83, 3) := by decide +kernel
theorem dX10_strike_21 : decode cX10_strike 21 = .ok (.iconst 4, 1) := by decide +kernel
theorem dX10_strike_22 : decode cX10_strike 22 = .ok (.iload_n 1, 1) := by decide +kernel
theorem dX10_strike_23 : decode cX10_strike 23 = .ok (.imul, 1) := by decide +kernel
theorem dX10_strike_24 : decode cX10_strike 24 = .ok (.iload_n 3, 1) := by decide +kernel
theorem dX10_strike_25 : decode cX10_strike 25 = .ok (.iadd, 1) := by decide +kernel
theorem dX10_strike_26 : decode cX10_strike 26 = .ok (.iaload, 1) := by decide +kernel
theorem dX10_strike_27 : decode cX10_strike 27 = .ok (.iload_n 2, 1) := by decide +kernel
theorem dX10_strike_28 : decode cX10_strike 28 = .ok (.if_icmp .ne 59, 3) := by decide +kernel
theorem dX10_strike_31 : decode cX10_strike 31 = .ok (.iload_n 2, 1) := by decide +kernel
theorem dX10_strike_32 : decode cX10_strike 32 = .ok (.ifCond .ge 6, 3) := by decide +kernel
theorem dX10_strike_35 : decode cX10_strike 35 = .ok (.goto 52, 3) := by decide +kernel
theorem dX10_strike_38 : decode cX10_strike 38 = .ok (.aload_n 0, 1) := by decide +kernel
theorem dX10_strike_39 : decode cX10_strike 39 = .ok (.getfield 92, 3) := by decide +kernel
theorem dX10_strike_42 : decode cX10_strike 42 = .ok (.iconst 4, 1) := by decide +kernel
theorem dX10_strike_43 : decode cX10_strike 43 = .ok (.iload_n 1, 1) := by decide +kernel
theorem dX10_strike_44 : decode cX10_strike 44 = .ok (.imul, 1) := by decide +kernel
theorem dX10_strike_45 : decode cX10_strike 45 = .ok (.iload_n 3, 1) := by decide +kernel
theorem dX10_strike_46 : decode cX10_strike 46 = .ok (.iadd, 1) := by decide +kernel
theorem dX10_strike_47 : decode cX10_strike 47 = .ok (.baload, 1) := by decide +kernel
theorem dX10_strike_48 : decode cX10_strike 48 = .ok (.ifCond .eq 6, 3) := by decide +kernel
theorem dX10_strike_51 : decode cX10_strike 51 = .ok (.bipush (-3), 2) := by decide +kernel
theorem dX10_strike_53 : decode cX10_strike 53 = .ok (.ireturn, 1) := by decide +kernel
theorem dX10_strike_54 : decode cX10_strike 54 = .ok (.aload_n 0, 1) := by decide +kernel
theorem dX10_strike_55 : decode cX10_strike 55 = .ok (.iload_n 1, 1) := by decide +kernel
theorem dX10_strike_56 : decode cX10_strike 56 = .ok (.iload_n 3, 1) := by decide +kernel
theorem dX10_strike_57 : decode cX10_strike 57 = .ok (.invokevirtual 237, 3) := by decide +kernel
theorem dX10_strike_60 : decode cX10_strike 60 = .ok (.istore 4, 2) := by decide +kernel
theorem dX10_strike_62 : decode cX10_strike 62 = .ok (.aload_n 0, 1) := by decide +kernel
theorem dX10_strike_63 : decode cX10_strike 63 = .ok (.getfield 92, 3) := by decide +kernel
theorem dX10_strike_66 : decode cX10_strike 66 = .ok (.iconst 4, 1) := by decide +kernel
theorem dX10_strike_67 : decode cX10_strike 67 = .ok (.iload_n 1, 1) := by decide +kernel
theorem dX10_strike_68 : decode cX10_strike 68 = .ok (.imul, 1) := by decide +kernel
theorem dX10_strike_69 : decode cX10_strike 69 = .ok (.iload_n 3, 1) := by decide +kernel
theorem dX10_strike_70 : decode cX10_strike 70 = .ok (.iadd, 1) := by decide +kernel
theorem dX10_strike_71 : decode cX10_strike 71 = .ok (.iconst 1, 1) := by decide +kernel
theorem dX10_strike_72 : decode cX10_strike 72 = .ok (.bastore, 1) := by decide +kernel
theorem dX10_strike_73 : decode cX10_strike 73 = .ok (.aload_n 0, 1) := by decide +kernel
theorem dX10_strike_74 : decode cX10_strike 74 = .ok (.getfield 86, 3) := by decide +kernel
theorem dX10_strike_77 : decode cX10_strike 77 = .ok (.iconst 4, 1) := by decide +kernel
theorem dX10_strike_78 : decode cX10_strike 78 = .ok (.iload_n 1, 1) := by decide +kernel
theorem dX10_strike_79 : decode cX10_strike 79 = .ok (.imul, 1) := by decide +kernel
theorem dX10_strike_80 : decode cX10_strike 80 = .ok (.iload_n 3, 1) := by decide +kernel
theorem dX10_strike_81 : decode cX10_strike 81 = .ok (.iadd, 1) := by decide +kernel
theorem dX10_strike_82 : decode cX10_strike 82 = .ok (.iconst 0, 1) := by decide +kernel
theorem dX10_strike_83 : decode cX10_strike 83 = .ok (.iastore, 1) := by decide +kernel
theorem dX10_strike_84 : decode cX10_strike 84 = .ok (.iload 4, 2) := by decide +kernel
theorem dX10_strike_86 : decode cX10_strike 86 = .ok (.ireturn, 1) := by decide +kernel
theorem dX10_strike_87 : decode cX10_strike 87 = .ok (.iinc 3 1, 3) := by decide +kernel
theorem dX10_strike_90 : decode cX10_strike 90 = .ok (.goto (-78), 3) := by decide +kernel
theorem dX10_strike_93 : decode cX10_strike 93 = .ok (.iconst (-1), 1) := by decide +kernel
theorem dX10_strike_94 : decode cX10_strike 94 = .ok (.ireturn, 1) := by decide +kernel
theorem dX10_finalists_0 : decode cX10_finalists 0 = .ok (.iload_n 1, 1) := by decide +kernel
theorem dX10_finalists_1 : decode cX10_finalists 1 = .ok (.ifCond .lt 19, 3) := by decide +kernel
theorem dX10_finalists_4 : decode cX10_finalists 4 = .ok (.iload_n 1, 1) := by decide +kernel
theorem dX10_finalists_5 : decode cX10_finalists 5 = .ok (.bipush 9, 2) := by decide +kernel
theorem dX10_finalists_7 : decode cX10_finalists 7 = .ok (.if_icmp .gt 13, 3) := by decide +kernel
theorem dX10_finalists_10 : decode cX10_finalists 10 = .ok (.iload_n 2, 1) := by decide +kernel
theorem dX10_finalists_11 : decode cX10_finalists 11 = .ok (.ifCond .lt 9, 3) := by decide +kernel
theorem dX10_finalists_14 : decode cX10_finalists 14 = .ok (.iload_n 2, 1) := by decide +kernel
theorem dX10_finalists_15 : decode cX10_finalists 15 = .ok (.bipush 9, 2) := by decide +kernel
theorem dX10_finalists_17 : decode cX10_finalists 17 = .ok (.if_icmp .le 6, 3) := by decide +kernel
theorem dX10_finalists_20 : decode cX10_finalists 20 = .ok (.bipush (-2), 2) := by decide +kernel
theorem dX10_finalists_22 : decode cX10_finalists 22 = .ok (.ireturn, 1) := by decide +kernel
theorem dX10_finalists_23 : decode cX10_finalists 23 = .ok (.iconst 0, 1) := by decide +kernel
theorem dX10_finalists_24 : decode cX10_finalists 24 = .ok (.istore_n 3, 1) := by decide +kernel
theorem dX10_finalists_25 : decode cX10_finalists 25 = .ok (.iload_n 3, 1) := by decide +kernel
theorem dX10_finalists_26 : decode cX10_finalists 26 = .ok (.aload_n 0, 1) := by decide +kernel
theorem dX10_finalists_27 : decode cX10_finalists 27 = .ok (.getfield 128, 3) := by decide +kernel
theorem dX10_finalists_30 : decode cX10_finalists 30 = .ok (.if_icmp .ge 23, 3) := by decide +kernel
theorem dX10_finalists_33 : decode cX10_finalists 33 = .ok (.aload_n 0, 1) := by decide +kernel
theorem dX10_finalists_34 : decode cX10_finalists 34 = .ok (.getfield 107, 3) := by decide +kernel
theorem dX10_finalists_37 : decode cX10_finalists 37 = .ok (.iload_n 3, 1) := by decide +kernel
theorem dX10_finalists_38 : decode cX10_finalists 38 = .ok (.iconst 0, 1) := by decide +kernel
theorem dX10_finalists_39 : decode cX10_finalists 39 = .ok (.iastore, 1) := by decide +kernel
theorem dX10_finalists_40 : decode cX10_finalists 40 = .ok (.aload_n 0, 1) := by decide +kernel
theorem dX10_finalists_41 : decode cX10_finalists 41 = .ok (.getfield 110, 3) := by decide +kernel
theorem dX10_finalists_44 : decode cX10_finalists 44 = .ok (.iload_n 3, 1) := by decide +kernel
theorem dX10_finalists_45 : decode cX10_finalists 45 = .ok (.iconst 0, 1) := by decide +kernel
theorem dX10_finalists_46 : decode cX10_finalists 46 = .ok (.bastore, 1) := by decide +kernel
theorem dX10_finalists_47 : decode cX10_finalists 47 = .ok (.iinc 3 1, 3) := by decide +kernel
theorem dX10_finalists_50 : decode cX10_finalists 50 = .ok (.goto (-25), 3) := by decide +kernel
theorem dX10_finalists_53 : decode cX10_finalists 53 = .ok (.iconst 0, 1) := by decide +kernel
theorem dX10_finalists_54 : decode cX10_finalists 54 = .ok (.istore_n 3, 1) := by decide +kernel
theorem dX10_finalists_55 : decode cX10_finalists 55 = .ok (.iload_n 3, 1) := by decide +kernel
theorem dX10_finalists_56 : decode cX10_finalists 56 = .ok (.aload_n 0, 1) := by decide +kernel
theorem dX10_finalists_57 : decode cX10_finalists 57 = .ok (.getfield 223, 3) := by decide +kernel
theorem dX10_finalists_60 : decode cX10_finalists 60 = .ok (.if_icmp .ge 117, 3) := by decide +kernel
theorem dX10_finalists_63 : decode cX10_finalists 63 = .ok (.iconst 0, 1) := by decide +kernel
theorem dX10_finalists_64 : decode cX10_finalists 64 = .ok (.istore 4, 2) := by decide +kernel
theorem dX10_finalists_66 : decode cX10_finalists 66 = .ok (.iload 4, 2) := by decide +kernel
theorem dX10_finalists_68 : decode cX10_finalists 68 = .ok (.iconst 4, 1) := by decide +kernel
theorem dX10_finalists_69 : decode cX10_finalists 69 = .ok (.if_icmp .ge 102, 3) := by decide +kernel
theorem dX10_finalists_72 : decode cX10_finalists 72 = .ok (.aload_n 0, 1) := by decide +kernel
theorem dX10_finalists_73 : decode cX10_finalists 73 = .ok (.getfield 80, 3) := by decide +kernel
theorem dX10_finalists_76 : decode cX10_finalists 76 = .ok (.iload_n 3, 1) := by decide +kernel
theorem dX10_finalists_77 : decode cX10_finalists 77 = .ok (.iaload, 1) := by decide +kernel
theorem dX10_finalists_78 : decode cX10_finalists 78 = .ok (.ifCond .ne 93, 3) := by decide +kernel
theorem dX10_finalists_81 : decode cX10_finalists 81 = .ok (.aload_n 0, 1) := by decide +kernel
theorem dX10_finalists_82 : decode cX10_finalists 82 = .ok (.getfield 86, 3) := by decide +kernel
theorem dX10_finalists_85 : decode cX10_finalists 85 = .ok (.iconst 4, 1) := by decide +kernel
theorem dX10_finalists_86 : decode cX10_finalists 86 = .ok (.iload_n 3, 1) := by decide +kernel
theorem dX10_finalists_87 : decode cX10_finalists 87 = .ok (.imul, 1) := by decide +kernel
theorem dX10_finalists_88 : decode cX10_finalists 88 = .ok (.iload 4, 2) := by decide +kernel
theorem dX10_finalists_90 : decode cX10_finalists 90 = .ok (.iadd, 1) := by decide +kernel
theorem dX10_finalists_91 : decode cX10_finalists 91 = .ok (.iaload, 1) := by decide +kernel
theorem dX10_finalists_92 : decode cX10_finalists 92 = .ok (.istore 5, 2) := by decide +kernel
theorem dX10_finalists_94 : decode cX10_finalists 94 = .ok (.iload 5, 2) := by decide +kernel
theorem dX10_finalists_96 : decode cX10_finalists 96 = .ok (.ifCond .ne 6, 3) := by decide +kernel
theorem dX10_finalists_99 : decode cX10_finalists 99 = .ok (.goto 66, 3) := by decide +kernel
theorem dX10_finalists_102 : decode cX10_finalists 102 = .ok (.aload_n 0, 1) := by decide +kernel
theorem dX10_finalists_103 : decode cX10_finalists 103 = .ok (.getfield 83, 3) := by decide +kernel
theorem dX10_finalists_106 : decode cX10_finalists 106 = .ok (.iconst 4, 1) := by decide +kernel
theorem dX10_finalists_107 : decode cX10_finalists 107 = .ok (.iload_n 3, 1) := by decide +kernel
theorem dX10_finalists_108 : decode cX10_finalists 108 = .ok (.imul, 1) := by decide +kernel
theorem dX10_finalists_109 : decode cX10_finalists 109 = .ok (.iload 4, 2) := by decide +kernel
theorem dX10_finalists_111 : decode cX10_finalists 111 = .ok (.iadd, 1) := by decide +kernel
theorem dX10_finalists_112 : decode cX10_finalists 112 = .ok (.iaload, 1) := by decide +kernel
theorem dX10_finalists_113 : decode cX10_finalists 113 = .ok (.istore 6, 2) := by decide +kernel
theorem dX10_finalists_115 : decode cX10_finalists 115 = .ok (.aload_n 0, 1) := by decide +kernel
theorem dX10_finalists_116 : decode cX10_finalists 116 = .ok (.getfield 107, 3) := by decide +kernel
theorem dX10_finalists_119 : decode cX10_finalists 119 = .ok (.iload 6, 2) := by decide +kernel
theorem dX10_finalists_121 : decode cX10_finalists 121 = .ok (.iaload, 1) := by decide +kernel
theorem dX10_finalists_122 : decode cX10_finalists 122 = .ok (.ifCond .eq 15, 3) := by decide +kernel
theorem dX10_finalists_125 : decode cX10_finalists 125 = .ok (.iload 5, 2) := by decide +kernel
theorem dX10_finalists_127 : decode cX10_finalists 127 = .ok (.aload_n 0, 1) := by decide +kernel
theorem dX10_finalists_128 : decode cX10_finalists 128 = .ok (.getfield 107, 3) := by decide +kernel
theorem dX10_finalists_131 : decode cX10_finalists 131 = .ok (.iload 6, 2) := by decide +kernel
theorem dX10_finalists_133 : decode cX10_finalists 133 = .ok (.iaload, 1) := by decide +kernel
theorem dX10_finalists_134 : decode cX10_finalists 134 = .ok (.if_icmp .ge 12, 3) := by decide +kernel
theorem dX10_finalists_137 : decode cX10_finalists 137 = .ok (.aload_n 0, 1) := by decide +kernel
theorem dX10_finalists_138 : decode cX10_finalists 138 = .ok (.getfield 107, 3) := by decide +kernel
theorem dX10_finalists_141 : decode cX10_finalists 141 = .ok (.iload 6, 2) := by decide +kernel
theorem dX10_finalists_143 : decode cX10_finalists 143 = .ok (.iload 5, 2) := by decide +kernel
theorem dX10_finalists_145 : decode cX10_finalists 145 = .ok (.iastore, 1) := by decide +kernel
theorem dX10_finalists_146 : decode cX10_finalists 146 = .ok (.aload_n 0, 1) := by decide +kernel
theorem dX10_finalists_147 : decode cX10_finalists 147 = .ok (.iload_n 3, 1) := by decide +kernel
theorem dX10_finalists_148 : decode cX10_finalists 148 = .ok (.iload 4, 2) := by decide +kernel
theorem dX10_finalists_150 : decode cX10_finalists 150 = .ok (.invokevirtual 237, 3) := by decide +kernel
theorem dX10_finalists_153 : decode cX10_finalists 153 = .ok (.iload_n 1, 1) := by decide +kernel
theorem dX10_finalists_154 : decode cX10_finalists 154 = .ok (.if_icmp .gt 11, 3) := by decide +kernel
theorem dX10_finalists_157 : decode cX10_finalists 157 = .ok (.aload_n 0, 1) := by decide +kernel
theorem dX10_finalists_158 : decode cX10_finalists 158 = .ok (.getfield 110, 3) := by decide +kernel
theorem dX10_finalists_161 : decode cX10_finalists 161 = .ok (.iload 6, 2) := by decide +kernel
theorem dX10_finalists_163 : decode cX10_finalists 163 = .ok (.iconst 1, 1) := by decide +kernel
theorem dX10_finalists_164 : decode cX10_finalists 164 = .ok (.bastore, 1) := by decide +kernel
theorem dX10_finalists_165 : decode cX10_finalists 165 = .ok (.iinc 4 1, 3) := by decide +kernel
theorem dX10_finalists_168 : decode cX10_finalists 168 = .ok (.goto (-102), 3) := by decide +kernel
theorem dX10_finalists_171 : decode cX10_finalists 171 = .ok (.iinc 3 1, 3) := by decide +kernel
theorem dX10_finalists_174 : decode cX10_finalists 174 = .ok (.goto (-119), 3) := by decide +kernel
theorem dX10_finalists_177 : decode cX10_finalists 177 = .ok (.aload_n 0, 1) := by decide +kernel
theorem dX10_finalists_178 : decode cX10_finalists 178 = .ok (.iconst 0, 1) := by decide +kernel
theorem dX10_finalists_179 : decode cX10_finalists 179 = .ok (.putfield 240, 3) := by decide +kernel
theorem dX10_finalists_182 : decode cX10_finalists 182 = .ok (.iconst 0, 1) := by decide +kernel
theorem dX10_finalists_183 : decode cX10_finalists 183 = .ok (.istore_n 3, 1) := by decide +kernel
theorem dX10_finalists_184 : decode cX10_finalists 184 = .ok (.iload_n 3, 1) := by decide +kernel
theorem dX10_finalists_185 : decode cX10_finalists 185 = .ok (.aload_n 0, 1) := by decide +kernel
theorem dX10_finalists_186 : decode cX10_finalists 186 = .ok (.getfield 128, 3) := by decide +kernel
theorem dX10_finalists_189 : decode cX10_finalists 189 = .ok (.if_icmp .ge 183, 3) := by decide +kernel
theorem dX10_finalists_192 : decode cX10_finalists 192 = .ok (.aload_n 0, 1) := by decide +kernel
theorem dX10_finalists_193 : decode cX10_finalists 193 = .ok (.getfield 110, 3) := by decide +kernel
theorem dX10_finalists_196 : decode cX10_finalists 196 = .ok (.iload_n 3, 1) := by decide +kernel
theorem dX10_finalists_197 : decode cX10_finalists 197 = .ok (.baload, 1) := by decide +kernel
theorem dX10_finalists_198 : decode cX10_finalists 198 = .ok (.istore 4, 2) := by decide +kernel
theorem dX10_finalists_200 : decode cX10_finalists 200 = .ok (.iload 4, 2) := by decide +kernel
theorem dX10_finalists_202 : decode cX10_finalists 202 = .ok (.ifCond .ne 85, 3) := by decide +kernel
theorem dX10_finalists_205 : decode cX10_finalists 205 = .ok (.aload_n 0, 1) := by decide +kernel
theorem dX10_finalists_206 : decode cX10_finalists 206 = .ok (.getfield 107, 3) := by decide +kernel
theorem dX10_finalists_209 : decode cX10_finalists 209 = .ok (.iload_n 3, 1) := by decide +kernel
theorem dX10_finalists_210 : decode cX10_finalists 210 = .ok (.iaload, 1) := by decide +kernel
theorem dX10_finalists_211 : decode cX10_finalists 211 = .ok (.ifCond .le 76, 3) := by decide +kernel
theorem dX10_finalists_214 : decode cX10_finalists 214 = .ok (.iconst 0, 1) := by decide +kernel
theorem dX10_finalists_215 : decode cX10_finalists 215 = .ok (.istore 5, 2) := by decide +kernel
theorem dX10_finalists_217 : decode cX10_finalists 217 = .ok (.iconst 0, 1) := by decide +kernel
theorem dX10_finalists_218 : decode cX10_finalists 218 = .ok (.istore 6, 2) := by decide +kernel
theorem dX10_finalists_220 : decode cX10_finalists 220 = .ok (.iload 6, 2) := by decide +kernel
theorem dX10_finalists_222 : decode cX10_finalists 222 = .ok (.aload_n 0, 1) := by decide +kernel
theorem dX10_finalists_223 : decode cX10_finalists 223 = .ok (.getfield 128, 3) := by decide +kernel
theorem dX10_finalists_226 : decode cX10_finalists 226 = .ok (.if_icmp .ge 48, 3) := by decide +kernel
theorem dX10_finalists_229 : decode cX10_finalists 229 = .ok (.aload_n 0, 1) := by decide +kernel
theorem dX10_finalists_230 : decode cX10_finalists 230 = .ok (.getfield 110, 3) := by decide +kernel
theorem dX10_finalists_233 : decode cX10_finalists 233 = .ok (.iload 6, 2) := by decide +kernel
theorem dX10_finalists_235 : decode cX10_finalists 235 = .ok (.baload, 1) := by decide +kernel
theorem dX10_finalists_236 : decode cX10_finalists 236 = .ok (.ifCond .ne 32, 3) := by decide +kernel
theorem dX10_finalists_239 : decode cX10_finalists 239 = .ok (.aload_n 0, 1) := by decide +kernel
theorem dX10_finalists_240 : decode cX10_finalists 240 = .ok (.getfield 107, 3) := by decide +kernel
theorem dX10_finalists_243 : decode cX10_finalists 243 = .ok (.iload 6, 2) := by decide +kernel
theorem dX10_finalists_245 : decode cX10_finalists 245 = .ok (.iaload, 1) := by decide +kernel
theorem dX10_finalists_246 : decode cX10_finalists 246 = .ok (.ifCond .le 22, 3) := by decide +kernel
theorem dX10_finalists_249 : decode cX10_finalists 249 = .ok (.aload_n 0, 1) := by decide +kernel
theorem dX10_finalists_250 : decode cX10_finalists 250 = .ok (.getfield 107, 3) := by decide +kernel
theorem dX10_finalists_253 : decode cX10_finalists 253 = .ok (.iload 6, 2) := by decide +kernel
theorem dX10_finalists_255 : decode cX10_finalists 255 = .ok (.iaload, 1) := by decide +kernel
theorem dX10_finalists_256 : decode cX10_finalists 256 = .ok (.aload_n 0, 1) := by decide +kernel
theorem dX10_finalists_257 : decode cX10_finalists 257 = .ok (.getfield 107, 3) := by decide +kernel
theorem dX10_finalists_260 : decode cX10_finalists 260 = .ok (.iload_n 3, 1) := by decide +kernel
theorem dX10_finalists_261 : decode cX10_finalists 261 = .ok (.iaload, 1) := by decide +kernel
theorem dX10_finalists_262 : decode cX10_finalists 262 = .ok (.if_icmp .ge 6, 3) := by decide +kernel
theorem dX10_finalists_265 : decode cX10_finalists 265 = .ok (.iinc 5 1, 3) := by decide +kernel
theorem dX10_finalists_268 : decode cX10_finalists 268 = .ok (.iinc 6 1, 3) := by decide +kernel
theorem dX10_finalists_271 : decode cX10_finalists 271 = .ok (.goto (-51), 3) := by decide +kernel
theorem dX10_finalists_274 : decode cX10_finalists 274 = .ok (.iload 5, 2) := by decide +kernel
theorem dX10_finalists_276 : decode cX10_finalists 276 = .ok (.iload_n 2, 1) := by decide +kernel
theorem dX10_finalists_277 : decode cX10_finalists 277 = .ok (.if_icmp .ge 7, 3) := by decide +kernel
theorem dX10_finalists_280 : decode cX10_finalists 280 = .ok (.iconst 1, 1) := by decide +kernel
theorem dX10_finalists_281 : decode cX10_finalists 281 = .ok (.goto 4, 3) := by decide +kernel
theorem dX10_finalists_284 : decode cX10_finalists 284 = .ok (.iconst 0, 1) := by decide +kernel
theorem dX10_finalists_285 : decode cX10_finalists 285 = .ok (.istore 4, 2) := by decide +kernel
theorem dX10_finalists_287 : decode cX10_finalists 287 = .ok (.iload 4, 2) := by decide +kernel
theorem dX10_finalists_289 : decode cX10_finalists 289 = .ok (.ifCond .ne 6, 3) := by decide +kernel
theorem dX10_finalists_292 : decode cX10_finalists 292 = .ok (.goto 74, 3) := by decide +kernel
theorem dX10_finalists_295 : decode cX10_finalists 295 = .ok (.aload_n 0, 1) := by decide +kernel
theorem dX10_finalists_296 : decode cX10_finalists 296 = .ok (.dup, 1) := by decide +kernel
theorem dX10_finalists_297 : decode cX10_finalists 297 = .ok (.getfield 240, 3) := by decide +kernel
theorem dX10_finalists_300 : decode cX10_finalists 300 = .ok (.dup_x1, 1) := by decide +kernel
theorem dX10_finalists_301 : decode cX10_finalists 301 = .ok (.iconst 1, 1) := by decide +kernel
theorem dX10_finalists_302 : decode cX10_finalists 302 = .ok (.iadd, 1) := by decide +kernel
theorem dX10_finalists_303 : decode cX10_finalists 303 = .ok (.putfield 240, 3) := by decide +kernel
theorem dX10_finalists_306 : decode cX10_finalists 306 = .ok (.istore 5, 2) := by decide +kernel
theorem dX10_finalists_308 : decode cX10_finalists 308 = .ok (.iload 5, 2) := by decide +kernel
theorem dX10_finalists_310 : decode cX10_finalists 310 = .ok (.ifCond .le 48, 3) := by decide +kernel
theorem dX10_finalists_313 : decode cX10_finalists 313 = .ok (.aload_n 0, 1) := by decide +kernel
theorem dX10_finalists_314 : decode cX10_finalists 314 = .ok (.getfield 107, 3) := by decide +kernel
theorem dX10_finalists_317 : decode cX10_finalists 317 = .ok (.aload_n 0, 1) := by decide +kernel
theorem dX10_finalists_318 : decode cX10_finalists 318 = .ok (.getfield 104, 3) := by decide +kernel
theorem dX10_finalists_321 : decode cX10_finalists 321 = .ok (.iload 5, 2) := by decide +kernel
theorem dX10_finalists_323 : decode cX10_finalists 323 = .ok (.iconst 1, 1) := by decide +kernel
theorem dX10_finalists_324 : decode cX10_finalists 324 = .ok (.isub, 1) := by decide +kernel
theorem dX10_finalists_325 : decode cX10_finalists 325 = .ok (.iaload, 1) := by decide +kernel
theorem dX10_finalists_326 : decode cX10_finalists 326 = .ok (.iaload, 1) := by decide +kernel
theorem dX10_finalists_327 : decode cX10_finalists 327 = .ok (.aload_n 0, 1) := by decide +kernel
theorem dX10_finalists_328 : decode cX10_finalists 328 = .ok (.getfield 107, 3) := by decide +kernel
theorem dX10_finalists_331 : decode cX10_finalists 331 = .ok (.iload_n 3, 1) := by decide +kernel
theorem dX10_finalists_332 : decode cX10_finalists 332 = .ok (.iaload, 1) := by decide +kernel
theorem dX10_finalists_333 : decode cX10_finalists 333 = .ok (.if_icmp .le 25, 3) := by decide +kernel
theorem dX10_finalists_336 : decode cX10_finalists 336 = .ok (.aload_n 0, 1) := by decide +kernel
theorem dX10_finalists_337 : decode cX10_finalists 337 = .ok (.getfield 104, 3) := by decide +kernel
theorem dX10_finalists_340 : decode cX10_finalists 340 = .ok (.iload 5, 2) := by decide +kernel
theorem dX10_finalists_342 : decode cX10_finalists 342 = .ok (.aload_n 0, 1) := by decide +kernel
theorem dX10_finalists_343 : decode cX10_finalists 343 = .ok (.getfield 104, 3) := by decide +kernel
theorem dX10_finalists_346 : decode cX10_finalists 346 = .ok (.iload 5, 2) := by decide +kernel
theorem dX10_finalists_348 : decode cX10_finalists 348 = .ok (.iconst 1, 1) := by decide +kernel
theorem dX10_finalists_349 : decode cX10_finalists 349 = .ok (.isub, 1) := by decide +kernel
theorem dX10_finalists_350 : decode cX10_finalists 350 = .ok (.iaload, 1) := by decide +kernel
theorem dX10_finalists_351 : decode cX10_finalists 351 = .ok (.iastore, 1) := by decide +kernel
theorem dX10_finalists_352 : decode cX10_finalists 352 = .ok (.iinc 5 (-1), 3) := by decide +kernel
theorem dX10_finalists_355 : decode cX10_finalists 355 = .ok (.goto (-47), 3) := by decide +kernel
theorem dX10_finalists_358 : decode cX10_finalists 358 = .ok (.aload_n 0, 1) := by decide +kernel
theorem dX10_finalists_359 : decode cX10_finalists 359 = .ok (.getfield 104, 3) := by decide +kernel
theorem dX10_finalists_362 : decode cX10_finalists 362 = .ok (.iload 5, 2) := by decide +kernel
theorem dX10_finalists_364 : decode cX10_finalists 364 = .ok (.iload_n 3, 1) := by decide +kernel
theorem dX10_finalists_365 : decode cX10_finalists 365 = .ok (.iastore, 1) := by decide +kernel
theorem dX10_finalists_366 : decode cX10_finalists 366 = .ok (.iinc 3 1, 3) := by decide +kernel
theorem dX10_finalists_369 : decode cX10_finalists 369 = .ok (.goto (-185), 3) := by decide +kernel
theorem dX10_finalists_372 : decode cX10_finalists 372 = .ok (.aload_n 0, 1) := by decide +kernel
theorem dX10_finalists_373 : decode cX10_finalists 373 = .ok (.getfield 240, 3) := by decide +kernel
theorem dX10_finalists_376 : decode cX10_finalists 376 = .ok (.ireturn, 1) := by decide +kernel
theorem dX10_finalist_0 : decode cX10_finalist 0 = .ok (.iload_n 1, 1) := by decide +kernel
theorem dX10_finalist_1 : decode cX10_finalist 1 = .ok (.ifCond .lt 20, 3) := by decide +kernel
theorem dX10_finalist_4 : decode cX10_finalist 4 = .ok (.iload_n 1, 1) := by decide +kernel
theorem dX10_finalist_5 : decode cX10_finalist 5 = .ok (.aload_n 0, 1) := by decide +kernel
theorem dX10_finalist_6 : decode cX10_finalist 6 = .ok (.getfield 240, 3) := by decide +kernel
theorem dX10_finalist_9 : decode cX10_finalist 9 = .ok (.if_icmp .ge 12, 3) := by decide +kernel
theorem dX10_finalist_12 : decode cX10_finalist 12 = .ok (.aload_n 0, 1) := by decide +kernel
theorem dX10_finalist_13 : decode cX10_finalist 13 = .ok (.getfield 104, 3) := by decide +kernel
theorem dX10_finalist_16 : decode cX10_finalist 16 = .ok (.iload_n 1, 1) := by decide +kernel
theorem dX10_finalist_17 : decode cX10_finalist 17 = .ok (.iaload, 1) := by decide +kernel
theorem dX10_finalist_18 : decode cX10_finalist 18 = .ok (.goto 4, 3) := by decide +kernel
theorem dX10_finalist_21 : decode cX10_finalist 21 = .ok (.iconst (-1), 1) := by decide +kernel
theorem dX10_finalist_22 : decode cX10_finalist 22 = .ok (.ireturn, 1) := by decide +kernel
theorem dX10_slack_0 : decode cX10_slack 0 = .ok (.iconst (-1), 1) := by decide +kernel
theorem dX10_slack_1 : decode cX10_slack 1 = .ok (.istore_n 1, 1) := by decide +kernel
theorem dX10_slack_2 : decode cX10_slack 2 = .ok (.iconst 0, 1) := by decide +kernel
theorem dX10_slack_3 : decode cX10_slack 3 = .ok (.istore_n 2, 1) := by decide +kernel
theorem dX10_slack_4 : decode cX10_slack 4 = .ok (.iload_n 2, 1) := by decide +kernel
theorem dX10_slack_5 : decode cX10_slack 5 = .ok (.aload_n 0, 1) := by decide +kernel
theorem dX10_slack_6 : decode cX10_slack 6 = .ok (.getfield 223, 3) := by decide +kernel
theorem dX10_slack_9 : decode cX10_slack 9 = .ok (.if_icmp .ge 134, 3) := by decide +kernel
theorem dX10_slack_12 : decode cX10_slack 12 = .ok (.iconst 0, 1) := by decide +kernel
theorem dX10_slack_13 : decode cX10_slack 13 = .ok (.istore_n 3, 1) := by decide +kernel
theorem dX10_slack_14 : decode cX10_slack 14 = .ok (.iload_n 3, 1) := by decide +kernel
theorem dX10_slack_15 : decode cX10_slack 15 = .ok (.iload_n 2, 1) := by decide +kernel
theorem dX10_slack_16 : decode cX10_slack 16 = .ok (.if_icmp .ge 121, 3) := by decide +kernel
theorem dX10_slack_19 : decode cX10_slack 19 = .ok (.iconst 0, 1) := by decide +kernel
theorem dX10_slack_20 : decode cX10_slack 20 = .ok (.istore 4, 2) := by decide +kernel
theorem dX10_slack_22 : decode cX10_slack 22 = .ok (.iconst 0, 1) := by decide +kernel
theorem dX10_slack_23 : decode cX10_slack 23 = .ok (.istore 5, 2) := by decide +kernel
theorem dX10_slack_25 : decode cX10_slack 25 = .ok (.iload 5, 2) := by decide +kernel
theorem dX10_slack_27 : decode cX10_slack 27 = .ok (.bipush 16, 2) := by decide +kernel
theorem dX10_slack_29 : decode cX10_slack 29 = .ok (.if_icmp .ge 65, 3) := by decide +kernel
theorem dX10_slack_32 : decode cX10_slack 32 = .ok (.aload_n 0, 1) := by decide +kernel
theorem dX10_slack_33 : decode cX10_slack 33 = .ok (.getfield 83, 3) := by decide +kernel
theorem dX10_slack_36 : decode cX10_slack 36 = .ok (.iconst 4, 1) := by decide +kernel
theorem dX10_slack_37 : decode cX10_slack 37 = .ok (.iload_n 2, 1) := by decide +kernel
theorem dX10_slack_38 : decode cX10_slack 38 = .ok (.imul, 1) := by decide +kernel
theorem dX10_slack_39 : decode cX10_slack 39 = .ok (.iload 5, 2) := by decide +kernel
theorem dX10_slack_41 : decode cX10_slack 41 = .ok (.iconst 4, 1) := by decide +kernel
theorem dX10_slack_42 : decode cX10_slack 42 = .ok (.idiv, 1) := by decide +kernel
theorem dX10_slack_43 : decode cX10_slack 43 = .ok (.iadd, 1) := by decide +kernel
theorem dX10_slack_44 : decode cX10_slack 44 = .ok (.iaload, 1) := by decide +kernel
theorem dX10_slack_45 : decode cX10_slack 45 = .ok (.istore 6, 2) := by decide +kernel
theorem dX10_slack_47 : decode cX10_slack 47 = .ok (.aload_n 0, 1) := by decide +kernel
theorem dX10_slack_48 : decode cX10_slack 48 = .ok (.getfield 83, 3) := by decide +kernel
theorem dX10_slack_51 : decode cX10_slack 51 = .ok (.iconst 4, 1) := by decide +kernel
theorem dX10_slack_52 : decode cX10_slack 52 = .ok (.iload_n 3, 1) := by decide +kernel
theorem dX10_slack_53 : decode cX10_slack 53 = .ok (.imul, 1) := by decide +kernel
theorem dX10_slack_54 : decode cX10_slack 54 = .ok (.iload 5, 2) := by decide +kernel
theorem dX10_slack_56 : decode cX10_slack 56 = .ok (.iconst 4, 1) := by decide +kernel
theorem dX10_slack_57 : decode cX10_slack 57 = .ok (.irem, 1) := by decide +kernel
theorem dX10_slack_58 : decode cX10_slack 58 = .ok (.iadd, 1) := by decide +kernel
theorem dX10_slack_59 : decode cX10_slack 59 = .ok (.iaload, 1) := by decide +kernel
theorem dX10_slack_60 : decode cX10_slack 60 = .ok (.istore 7, 2) := by decide +kernel
theorem dX10_slack_62 : decode cX10_slack 62 = .ok (.iload 6, 2) := by decide +kernel
theorem dX10_slack_64 : decode cX10_slack 64 = .ok (.iconst (-1), 1) := by decide +kernel
theorem dX10_slack_65 : decode cX10_slack 65 = .ok (.if_icmp .eq 23, 3) := by decide +kernel
theorem dX10_slack_68 : decode cX10_slack 68 = .ok (.iload 7, 2) := by decide +kernel
theorem dX10_slack_70 : decode cX10_slack 70 = .ok (.iconst (-1), 1) := by decide +kernel
theorem dX10_slack_71 : decode cX10_slack 71 = .ok (.if_icmp .eq 17, 3) := by decide +kernel
theorem dX10_slack_74 : decode cX10_slack 74 = .ok (.aload_n 0, 1) := by decide +kernel
theorem dX10_slack_75 : decode cX10_slack 75 = .ok (.iload 6, 2) := by decide +kernel
theorem dX10_slack_77 : decode cX10_slack 77 = .ok (.iload 7, 2) := by decide +kernel
theorem dX10_slack_79 : decode cX10_slack 79 = .ok (.invokevirtual 217, 3) := by decide +kernel
theorem dX10_slack_82 : decode cX10_slack 82 = .ok (.ifCond .eq 6, 3) := by decide +kernel
theorem dX10_slack_85 : decode cX10_slack 85 = .ok (.iconst 1, 1) := by decide +kernel
theorem dX10_slack_86 : decode cX10_slack 86 = .ok (.istore 4, 2) := by decide +kernel
theorem dX10_slack_88 : decode cX10_slack 88 = .ok (.iinc 5 1, 3) := by decide +kernel
theorem dX10_slack_91 : decode cX10_slack 91 = .ok (.goto (-66), 3) := by decide +kernel
theorem dX10_slack_94 : decode cX10_slack 94 = .ok (.aload_n 0, 1) := by decide +kernel
theorem dX10_slack_95 : decode cX10_slack 95 = .ok (.getfield 77, 3) := by decide +kernel
theorem dX10_slack_98 : decode cX10_slack 98 = .ok (.iload_n 2, 1) := by decide +kernel
theorem dX10_slack_99 : decode cX10_slack 99 = .ok (.iaload, 1) := by decide +kernel
theorem dX10_slack_100 : decode cX10_slack 100 = .ok (.aload_n 0, 1) := by decide +kernel
theorem dX10_slack_101 : decode cX10_slack 101 = .ok (.getfield 77, 3) := by decide +kernel
theorem dX10_slack_104 : decode cX10_slack 104 = .ok (.iload_n 3, 1) := by decide +kernel
theorem dX10_slack_105 : decode cX10_slack 105 = .ok (.iaload, 1) := by decide +kernel
theorem dX10_slack_106 : decode cX10_slack 106 = .ok (.isub, 1) := by decide +kernel
theorem dX10_slack_107 : decode cX10_slack 107 = .ok (.invokestatic 142, 3) := by decide +kernel
theorem dX10_slack_110 : decode cX10_slack 110 = .ok (.istore 5, 2) := by decide +kernel
theorem dX10_slack_112 : decode cX10_slack 112 = .ok (.iload 4, 2) := by decide +kernel
theorem dX10_slack_114 : decode cX10_slack 114 = .ok (.ifCond .eq 17, 3) := by decide +kernel
theorem dX10_slack_117 : decode cX10_slack 117 = .ok (.iload_n 1, 1) := by decide +kernel
theorem dX10_slack_118 : decode cX10_slack 118 = .ok (.iconst (-1), 1) := by decide +kernel
theorem dX10_slack_119 : decode cX10_slack 119 = .ok (.if_icmp .eq 9, 3) := by decide +kernel
theorem dX10_slack_122 : decode cX10_slack 122 = .ok (.iload 5, 2) := by decide +kernel
theorem dX10_slack_124 : decode cX10_slack 124 = .ok (.iload_n 1, 1) := by decide +kernel
theorem dX10_slack_125 : decode cX10_slack 125 = .ok (.if_icmp .ge 6, 3) := by decide +kernel
theorem dX10_slack_128 : decode cX10_slack 128 = .ok (.iload 5, 2) := by decide +kernel
theorem dX10_slack_130 : decode cX10_slack 130 = .ok (.istore_n 1, 1) := by decide +kernel
theorem dX10_slack_131 : decode cX10_slack 131 = .ok (.iinc 3 1, 3) := by decide +kernel
theorem dX10_slack_134 : decode cX10_slack 134 = .ok (.goto (-120), 3) := by decide +kernel
theorem dX10_slack_137 : decode cX10_slack 137 = .ok (.iinc 2 1, 3) := by decide +kernel
theorem dX10_slack_140 : decode cX10_slack 140 = .ok (.goto (-136), 3) := by decide +kernel
theorem dX10_slack_143 : decode cX10_slack 143 = .ok (.iload_n 1, 1) := by decide +kernel
theorem dX10_slack_144 : decode cX10_slack 144 = .ok (.ireturn, 1) := by decide +kernel
theorem dX10_leastTime_0 : decode cX10_leastTime 0 = .ok (.iconst 0, 1) := by decide +kernel
theorem dX10_leastTime_1 : decode cX10_leastTime 1 = .ok (.istore_n 3, 1) := by decide +kernel
theorem dX10_leastTime_2 : decode cX10_leastTime 2 = .ok (.iconst 0, 1) := by decide +kernel
theorem dX10_leastTime_3 : decode cX10_leastTime 3 = .ok (.istore 4, 2) := by decide +kernel
theorem dX10_leastTime_5 : decode cX10_leastTime 5 = .ok (.iload 4, 2) := by decide +kernel
theorem dX10_leastTime_7 : decode cX10_leastTime 7 = .ok (.aload_n 0, 1) := by decide +kernel
theorem dX10_leastTime_8 : decode cX10_leastTime 8 = .ok (.getfield 223, 3) := by decide +kernel
theorem dX10_leastTime_11 : decode cX10_leastTime 11 = .ok (.if_icmp .ge 59, 3) := by decide +kernel
theorem dX10_leastTime_14 : decode cX10_leastTime 14 = .ok (.aload_n 0, 1) := by decide +kernel
theorem dX10_leastTime_15 : decode cX10_leastTime 15 = .ok (.getfield 83, 3) := by decide +kernel
theorem dX10_leastTime_18 : decode cX10_leastTime 18 = .ok (.iconst 4, 1) := by decide +kernel
theorem dX10_leastTime_19 : decode cX10_leastTime 19 = .ok (.iload 4, 2) := by decide +kernel
theorem dX10_leastTime_21 : decode cX10_leastTime 21 = .ok (.imul, 1) := by decide +kernel
theorem dX10_leastTime_22 : decode cX10_leastTime 22 = .ok (.iload_n 2, 1) := by decide +kernel
theorem dX10_leastTime_23 : decode cX10_leastTime 23 = .ok (.iadd, 1) := by decide +kernel
theorem dX10_leastTime_24 : decode cX10_leastTime 24 = .ok (.iaload, 1) := by decide +kernel
theorem dX10_leastTime_25 : decode cX10_leastTime 25 = .ok (.iload_n 1, 1) := by decide +kernel
theorem dX10_leastTime_26 : decode cX10_leastTime 26 = .ok (.if_icmp .ne 17, 3) := by decide +kernel
theorem dX10_leastTime_29 : decode cX10_leastTime 29 = .ok (.aload_n 0, 1) := by decide +kernel
theorem dX10_leastTime_30 : decode cX10_leastTime 30 = .ok (.getfield 86, 3) := by decide +kernel
theorem dX10_leastTime_33 : decode cX10_leastTime 33 = .ok (.iconst 4, 1) := by decide +kernel
theorem dX10_leastTime_34 : decode cX10_leastTime 34 = .ok (.iload 4, 2) := by decide +kernel
theorem dX10_leastTime_36 : decode cX10_leastTime 36 = .ok (.imul, 1) := by decide +kernel
theorem dX10_leastTime_37 : decode cX10_leastTime 37 = .ok (.iload_n 2, 1) := by decide +kernel
theorem dX10_leastTime_38 : decode cX10_leastTime 38 = .ok (.iadd, 1) := by decide +kernel
theorem dX10_leastTime_39 : decode cX10_leastTime 39 = .ok (.iaload, 1) := by decide +kernel
theorem dX10_leastTime_40 : decode cX10_leastTime 40 = .ok (.goto 4, 3) := by decide +kernel
theorem dX10_leastTime_43 : decode cX10_leastTime 43 = .ok (.iconst 0, 1) := by decide +kernel
theorem dX10_leastTime_44 : decode cX10_leastTime 44 = .ok (.istore 5, 2) := by decide +kernel
theorem dX10_leastTime_46 : decode cX10_leastTime 46 = .ok (.iload 5, 2) := by decide +kernel
theorem dX10_leastTime_48 : decode cX10_leastTime 48 = .ok (.ifCond .le 16, 3) := by decide +kernel
theorem dX10_leastTime_51 : decode cX10_leastTime 51 = .ok (.iload_n 3, 1) := by decide +kernel
theorem dX10_leastTime_52 : decode cX10_leastTime 52 = .ok (.ifCond .eq 9, 3) := by decide +kernel
theorem dX10_leastTime_55 : decode cX10_leastTime 55 = .ok (.iload 5, 2) := by decide +kernel
theorem dX10_leastTime_57 : decode cX10_leastTime 57 = .ok (.iload_n 3, 1) := by decide +kernel
theorem dX10_leastTime_58 : decode cX10_leastTime 58 = .ok (.if_icmp .ge 6, 3) := by decide +kernel
theorem dX10_leastTime_61 : decode cX10_leastTime 61 = .ok (.iload 5, 2) := by decide +kernel
theorem dX10_leastTime_63 : decode cX10_leastTime 63 = .ok (.istore_n 3, 1) := by decide +kernel
theorem dX10_leastTime_64 : decode cX10_leastTime 64 = .ok (.iinc 4 1, 3) := by decide +kernel
theorem dX10_leastTime_67 : decode cX10_leastTime 67 = .ok (.goto (-62), 3) := by decide +kernel
theorem dX10_leastTime_70 : decode cX10_leastTime 70 = .ok (.iload_n 3, 1) := by decide +kernel
theorem dX10_leastTime_71 : decode cX10_leastTime 71 = .ok (.ireturn, 1) := by decide +kernel
theorem dX10_level_0 : decode cX10_level 0 = .ok (.iload_n 1, 1) := by decide +kernel
theorem dX10_level_1 : decode cX10_level 1 = .ok (.ifCond .lt 31, 3) := by decide +kernel
theorem dX10_level_4 : decode cX10_level 4 = .ok (.iload_n 1, 1) := by decide +kernel
theorem dX10_level_5 : decode cX10_level 5 = .ok (.iconst 3, 1) := by decide +kernel
theorem dX10_level_6 : decode cX10_level 6 = .ok (.if_icmp .gt 26, 3) := by decide +kernel
theorem dX10_level_9 : decode cX10_level 9 = .ok (.iload_n 2, 1) := by decide +kernel
theorem dX10_level_10 : decode cX10_level 10 = .ok (.ifCond .lt 22, 3) := by decide +kernel
theorem dX10_level_13 : decode cX10_level 13 = .ok (.iload_n 2, 1) := by decide +kernel
theorem dX10_level_14 : decode cX10_level 14 = .ok (.iconst 3, 1) := by decide +kernel
theorem dX10_level_15 : decode cX10_level 15 = .ok (.if_icmp .gt 17, 3) := by decide +kernel
theorem dX10_level_18 : decode cX10_level 18 = .ok (.iload_n 1, 1) := by decide +kernel
theorem dX10_level_19 : decode cX10_level 19 = .ok (.iload_n 2, 1) := by decide +kernel
theorem dX10_level_20 : decode cX10_level 20 = .ok (.if_icmp .eq 12, 3) := by decide +kernel
theorem dX10_level_23 : decode cX10_level 23 = .ok (.iload_n 3, 1) := by decide +kernel
theorem dX10_level_24 : decode cX10_level 24 = .ok (.ifCond .lt 8, 3) := by decide +kernel
theorem dX10_level_27 : decode cX10_level 27 = .ok (.iload_n 3, 1) := by decide +kernel
theorem dX10_level_28 : decode cX10_level 28 = .ok (.iconst 1, 1) := by decide +kernel
theorem dX10_level_29 : decode cX10_level 29 = .ok (.if_icmp .le 7, 3) := by decide +kernel
theorem dX10_level_32 : decode cX10_level 32 = .ok (.ldc2_w 243, 3) := by decide +kernel
theorem dX10_level_35 : decode cX10_level 35 = .ok (.lreturn, 1) := by decide +kernel
theorem dX10_level_36 : decode cX10_level 36 = .ok (.aload_n 0, 1) := by decide +kernel
theorem dX10_level_37 : decode cX10_level 37 = .ok (.lconst 0, 1) := by decide +kernel
theorem dX10_level_38 : decode cX10_level 38 = .ok (.putfield 245, 3) := by decide +kernel
theorem dX10_level_41 : decode cX10_level 41 = .ok (.aload_n 0, 1) := by decide +kernel
theorem dX10_level_42 : decode cX10_level 42 = .ok (.lconst 0, 1) := by decide +kernel
theorem dX10_level_43 : decode cX10_level 43 = .ok (.putfield 249, 3) := by decide +kernel
theorem dX10_level_46 : decode cX10_level 46 = .ok (.iconst 0, 1) := by decide +kernel
theorem dX10_level_47 : decode cX10_level 47 = .ok (.istore 4, 2) := by decide +kernel
theorem dX10_level_49 : decode cX10_level 49 = .ok (.iload 4, 2) := by decide +kernel
theorem dX10_level_51 : decode cX10_level 51 = .ok (.aload_n 0, 1) := by decide +kernel
theorem dX10_level_52 : decode cX10_level 52 = .ok (.getfield 128, 3) := by decide +kernel
theorem dX10_level_55 : decode cX10_level 55 = .ok (.if_icmp .ge 65, 3) := by decide +kernel
theorem dX10_level_58 : decode cX10_level 58 = .ok (.aload_n 0, 1) := by decide +kernel
theorem dX10_level_59 : decode cX10_level 59 = .ok (.iload 4, 2) := by decide +kernel
theorem dX10_level_61 : decode cX10_level 61 = .ok (.iload_n 1, 1) := by decide +kernel
theorem dX10_level_62 : decode cX10_level 62 = .ok (.invokevirtual 252, 3) := by decide +kernel
theorem dX10_level_65 : decode cX10_level 65 = .ok (.istore 5, 2) := by decide +kernel
theorem dX10_level_67 : decode cX10_level 67 = .ok (.aload_n 0, 1) := by decide +kernel
theorem dX10_level_68 : decode cX10_level 68 = .ok (.iload 4, 2) := by decide +kernel
theorem dX10_level_70 : decode cX10_level 70 = .ok (.iload_n 2, 1) := by decide +kernel
theorem dX10_level_71 : decode cX10_level 71 = .ok (.invokevirtual 252, 3) := by decide +kernel
theorem dX10_level_74 : decode cX10_level 74 = .ok (.istore 6, 2) := by decide +kernel
theorem dX10_level_76 : decode cX10_level 76 = .ok (.iload 5, 2) := by decide +kernel
theorem dX10_level_78 : decode cX10_level 78 = .ok (.ifCond .eq 36, 3) := by decide +kernel
theorem dX10_level_81 : decode cX10_level 81 = .ok (.iload 6, 2) := by decide +kernel
theorem dX10_level_83 : decode cX10_level 83 = .ok (.ifCond .ne 6, 3) := by decide +kernel
theorem dX10_level_86 : decode cX10_level 86 = .ok (.goto 28, 3) := by decide +kernel
theorem dX10_level_89 : decode cX10_level 89 = .ok (.aload_n 0, 1) := by decide +kernel
theorem dX10_level_90 : decode cX10_level 90 = .ok (.dup, 1) := by decide +kernel
theorem dX10_level_91 : decode cX10_level 91 = .ok (.getfield 245, 3) := by decide +kernel
theorem dX10_level_94 : decode cX10_level 94 = .ok (.iload 5, 2) := by decide +kernel
theorem dX10_level_96 : decode cX10_level 96 = .ok (.iload 6, 2) := by decide +kernel
theorem dX10_level_98 : decode cX10_level 98 = .ok (.isub, 1) := by decide +kernel
theorem dX10_level_99 : decode cX10_level 99 = .ok (.i2l, 1) := by decide +kernel
theorem dX10_level_100 : decode cX10_level 100 = .ok (.ladd, 1) := by decide +kernel
theorem dX10_level_101 : decode cX10_level 101 = .ok (.putfield 245, 3) := by decide +kernel
theorem dX10_level_104 : decode cX10_level 104 = .ok (.aload_n 0, 1) := by decide +kernel
theorem dX10_level_105 : decode cX10_level 105 = .ok (.dup, 1) := by decide +kernel
theorem dX10_level_106 : decode cX10_level 106 = .ok (.getfield 249, 3) := by decide +kernel
theorem dX10_level_109 : decode cX10_level 109 = .ok (.lconst 1, 1) := by decide +kernel
theorem dX10_level_110 : decode cX10_level 110 = .ok (.ladd, 1) := by decide +kernel
theorem dX10_level_111 : decode cX10_level 111 = .ok (.putfield 249, 3) := by decide +kernel
theorem dX10_level_114 : decode cX10_level 114 = .ok (.iinc 4 1, 3) := by decide +kernel
theorem dX10_level_117 : decode cX10_level 117 = .ok (.goto (-68), 3) := by decide +kernel
theorem dX10_level_120 : decode cX10_level 120 = .ok (.aload_n 0, 1) := by decide +kernel
theorem dX10_level_121 : decode cX10_level 121 = .ok (.getfield 249, 3) := by decide +kernel
theorem dX10_level_124 : decode cX10_level 124 = .ok (.lconst 0, 1) := by decide +kernel
theorem dX10_level_125 : decode cX10_level 125 = .ok (.lcmp, 1) := by decide +kernel
theorem dX10_level_126 : decode cX10_level 126 = .ok (.ifCond .ne 7, 3) := by decide +kernel
theorem dX10_level_129 : decode cX10_level 129 = .ok (.ldc2_w 243, 3) := by decide +kernel
theorem dX10_level_132 : decode cX10_level 132 = .ok (.lreturn, 1) := by decide +kernel
theorem dX10_level_133 : decode cX10_level 133 = .ok (.aload_n 0, 1) := by decide +kernel
theorem dX10_level_134 : decode cX10_level 134 = .ok (.getfield 245, 3) := by decide +kernel
theorem dX10_level_137 : decode cX10_level 137 = .ok (.lconst 0, 1) := by decide +kernel
theorem dX10_level_138 : decode cX10_level 138 = .ok (.lcmp, 1) := by decide +kernel
theorem dX10_level_139 : decode cX10_level 139 = .ok (.ifCond .ge 11, 3) := by decide +kernel
theorem dX10_level_142 : decode cX10_level 142 = .ok (.aload_n 0, 1) := by decide +kernel
theorem dX10_level_143 : decode cX10_level 143 = .ok (.getfield 245, 3) := by decide +kernel
theorem dX10_level_146 : decode cX10_level 146 = .ok (.lneg, 1) := by decide +kernel
theorem dX10_level_147 : decode cX10_level 147 = .ok (.goto 7, 3) := by decide +kernel
theorem dX10_level_150 : decode cX10_level 150 = .ok (.aload_n 0, 1) := by decide +kernel
theorem dX10_level_151 : decode cX10_level 151 = .ok (.getfield 245, 3) := by decide +kernel
theorem dX10_level_154 : decode cX10_level 154 = .ok (.lstore 4, 2) := by decide +kernel
theorem dX10_level_156 : decode cX10_level 156 = .ok (.aload_n 0, 1) := by decide +kernel
theorem dX10_level_157 : decode cX10_level 157 = .ok (.getfield 249, 3) := by decide +kernel
theorem dX10_level_160 : decode cX10_level 160 = .ok (.lstore 6, 2) := by decide +kernel
theorem dX10_level_162 : decode cX10_level 162 = .ok (.lload 4, 2) := by decide +kernel
theorem dX10_level_164 : decode cX10_level 164 = .ok (.lconst 0, 1) := by decide +kernel
theorem dX10_level_165 : decode cX10_level 165 = .ok (.lcmp, 1) := by decide +kernel
theorem dX10_level_166 : decode cX10_level 166 = .ok (.ifCond .eq 21, 3) := by decide +kernel
theorem dX10_level_169 : decode cX10_level 169 = .ok (.lload 6, 2) := by decide +kernel
theorem dX10_level_171 : decode cX10_level 171 = .ok (.lload 4, 2) := by decide +kernel
theorem dX10_level_173 : decode cX10_level 173 = .ok (.lrem, 1) := by decide +kernel
theorem dX10_level_174 : decode cX10_level 174 = .ok (.lstore 8, 2) := by decide +kernel
theorem dX10_level_176 : decode cX10_level 176 = .ok (.lload 4, 2) := by decide +kernel
theorem dX10_level_178 : decode cX10_level 178 = .ok (.lstore 6, 2) := by decide +kernel
theorem dX10_level_180 : decode cX10_level 180 = .ok (.lload 8, 2) := by decide +kernel
theorem dX10_level_182 : decode cX10_level 182 = .ok (.lstore 4, 2) := by decide +kernel
theorem dX10_level_184 : decode cX10_level 184 = .ok (.goto (-22), 3) := by decide +kernel
theorem dX10_level_187 : decode cX10_level 187 = .ok (.iload_n 3, 1) := by decide +kernel
theorem dX10_level_188 : decode cX10_level 188 = .ok (.ifCond .ne 13, 3) := by decide +kernel
theorem dX10_level_191 : decode cX10_level 191 = .ok (.aload_n 0, 1) := by decide +kernel
theorem dX10_level_192 : decode cX10_level 192 = .ok (.getfield 245, 3) := by decide +kernel
theorem dX10_level_195 : decode cX10_level 195 = .ok (.lload 6, 2) := by decide +kernel
theorem dX10_level_197 : decode cX10_level 197 = .ok (.ldiv, 1) := by decide +kernel
theorem dX10_level_198 : decode cX10_level 198 = .ok (.goto 10, 3) := by decide +kernel
theorem dX10_level_201 : decode cX10_level 201 = .ok (.aload_n 0, 1) := by decide +kernel
theorem dX10_level_202 : decode cX10_level 202 = .ok (.getfield 249, 3) := by decide +kernel
theorem dX10_level_205 : decode cX10_level 205 = .ok (.lload 6, 2) := by decide +kernel
theorem dX10_level_207 : decode cX10_level 207 = .ok (.ldiv, 1) := by decide +kernel
theorem dX10_level_208 : decode cX10_level 208 = .ok (.lreturn, 1) := by decide +kernel
theorem dX10_worth_0 : decode cX10_worth 0 = .ok (.iload_n 0, 1) := by decide +kernel
theorem dX10_worth_1 : decode cX10_worth 1 = .ok (.iconst 1, 1) := by decide +kernel
theorem dX10_worth_2 : decode cX10_worth 2 = .ok (.if_icmp .ne 8, 3) := by decide +kernel
theorem dX10_worth_5 : decode cX10_worth 5 = .ok (.bipush 10, 2) := by decide +kernel
theorem dX10_worth_7 : decode cX10_worth 7 = .ok (.goto 27, 3) := by decide +kernel
theorem dX10_worth_10 : decode cX10_worth 10 = .ok (.iload_n 0, 1) := by decide +kernel
theorem dX10_worth_11 : decode cX10_worth 11 = .ok (.iconst 2, 1) := by decide +kernel
theorem dX10_worth_12 : decode cX10_worth 12 = .ok (.if_icmp .ne 8, 3) := by decide +kernel
theorem dX10_worth_15 : decode cX10_worth 15 = .ok (.bipush 8, 2) := by decide +kernel
theorem dX10_worth_17 : decode cX10_worth 17 = .ok (.goto 17, 3) := by decide +kernel
theorem dX10_worth_20 : decode cX10_worth 20 = .ok (.iload_n 0, 1) := by decide +kernel
theorem dX10_worth_21 : decode cX10_worth 21 = .ok (.bipush 7, 2) := by decide +kernel
theorem dX10_worth_23 : decode cX10_worth 23 = .ok (.if_icmp .ge 10, 3) := by decide +kernel
theorem dX10_worth_26 : decode cX10_worth 26 = .ok (.bipush 9, 2) := by decide +kernel
theorem dX10_worth_28 : decode cX10_worth 28 = .ok (.iload_n 0, 1) := by decide +kernel
theorem dX10_worth_29 : decode cX10_worth 29 = .ok (.isub, 1) := by decide +kernel
theorem dX10_worth_30 : decode cX10_worth 30 = .ok (.goto 4, 3) := by decide +kernel
theorem dX10_worth_33 : decode cX10_worth 33 = .ok (.iconst 0, 1) := by decide +kernel
theorem dX10_worth_34 : decode cX10_worth 34 = .ok (.ireturn, 1) := by decide +kernel
theorem dX10_pointsOf_0 : decode cX10_pointsOf 0 = .ok (.iconst 0, 1) := by decide +kernel
theorem dX10_pointsOf_1 : decode cX10_pointsOf 1 = .ok (.istore_n 2, 1) := by decide +kernel
theorem dX10_pointsOf_2 : decode cX10_pointsOf 2 = .ok (.iconst 0, 1) := by decide +kernel
theorem dX10_pointsOf_3 : decode cX10_pointsOf 3 = .ok (.istore_n 3, 1) := by decide +kernel
theorem dX10_pointsOf_4 : decode cX10_pointsOf 4 = .ok (.iload_n 3, 1) := by decide +kernel
theorem dX10_pointsOf_5 : decode cX10_pointsOf 5 = .ok (.aload_n 0, 1) := by decide +kernel
theorem dX10_pointsOf_6 : decode cX10_pointsOf 6 = .ok (.getfield 223, 3) := by decide +kernel
theorem dX10_pointsOf_9 : decode cX10_pointsOf 9 = .ok (.if_icmp .ge 164, 3) := by decide +kernel
theorem dX10_pointsOf_12 : decode cX10_pointsOf 12 = .ok (.iconst 0, 1) := by decide +kernel
theorem dX10_pointsOf_13 : decode cX10_pointsOf 13 = .ok (.istore 4, 2) := by decide +kernel
theorem dX10_pointsOf_15 : decode cX10_pointsOf 15 = .ok (.iload 4, 2) := by decide +kernel
theorem dX10_pointsOf_17 : decode cX10_pointsOf 17 = .ok (.iconst 4, 1) := by decide +kernel
theorem dX10_pointsOf_18 : decode cX10_pointsOf 18 = .ok (.if_icmp .ge 149, 3) := by decide +kernel
theorem dX10_pointsOf_21 : decode cX10_pointsOf 21 = .ok (.aload_n 0, 1) := by decide +kernel
theorem dX10_pointsOf_22 : decode cX10_pointsOf 22 = .ok (.getfield 80, 3) := by decide +kernel
theorem dX10_pointsOf_25 : decode cX10_pointsOf 25 = .ok (.iload_n 3, 1) := by decide +kernel
theorem dX10_pointsOf_26 : decode cX10_pointsOf 26 = .ok (.iaload, 1) := by decide +kernel
theorem dX10_pointsOf_27 : decode cX10_pointsOf 27 = .ok (.iconst 1, 1) := by decide +kernel
theorem dX10_pointsOf_28 : decode cX10_pointsOf 28 = .ok (.if_icmp .ne 139, 3) := by decide +kernel
theorem dX10_pointsOf_31 : decode cX10_pointsOf 31 = .ok (.aload_n 0, 1) := by decide +kernel
theorem dX10_pointsOf_32 : decode cX10_pointsOf 32 = .ok (.getfield 83, 3) := by decide +kernel
theorem dX10_pointsOf_35 : decode cX10_pointsOf 35 = .ok (.iconst 4, 1) := by decide +kernel
theorem dX10_pointsOf_36 : decode cX10_pointsOf 36 = .ok (.iload_n 3, 1) := by decide +kernel
theorem dX10_pointsOf_37 : decode cX10_pointsOf 37 = .ok (.imul, 1) := by decide +kernel
theorem dX10_pointsOf_38 : decode cX10_pointsOf 38 = .ok (.iload 4, 2) := by decide +kernel
theorem dX10_pointsOf_40 : decode cX10_pointsOf 40 = .ok (.iadd, 1) := by decide +kernel
theorem dX10_pointsOf_41 : decode cX10_pointsOf 41 = .ok (.iaload, 1) := by decide +kernel
theorem dX10_pointsOf_42 : decode cX10_pointsOf 42 = .ok (.iload_n 1, 1) := by decide +kernel
theorem dX10_pointsOf_43 : decode cX10_pointsOf 43 = .ok (.if_icmp .ne 118, 3) := by decide +kernel
theorem dX10_pointsOf_46 : decode cX10_pointsOf 46 = .ok (.aload_n 0, 1) := by decide +kernel
theorem dX10_pointsOf_47 : decode cX10_pointsOf 47 = .ok (.getfield 86, 3) := by decide +kernel
theorem dX10_pointsOf_50 : decode cX10_pointsOf 50 = .ok (.iconst 4, 1) := by decide +kernel
theorem dX10_pointsOf_51 : decode cX10_pointsOf 51 = .ok (.iload_n 3, 1) := by decide +kernel
theorem dX10_pointsOf_52 : decode cX10_pointsOf 52 = .ok (.imul, 1) := by decide +kernel
theorem dX10_pointsOf_53 : decode cX10_pointsOf 53 = .ok (.iload 4, 2) := by decide +kernel
theorem dX10_pointsOf_55 : decode cX10_pointsOf 55 = .ok (.iadd, 1) := by decide +kernel
theorem dX10_pointsOf_56 : decode cX10_pointsOf 56 = .ok (.iaload, 1) := by decide +kernel
theorem dX10_pointsOf_57 : decode cX10_pointsOf 57 = .ok (.ifCond .ne 6, 3) := by decide +kernel
theorem dX10_pointsOf_60 : decode cX10_pointsOf 60 = .ok (.goto 101, 3) := by decide +kernel
theorem dX10_pointsOf_63 : decode cX10_pointsOf 63 = .ok (.aload_n 0, 1) := by decide +kernel
theorem dX10_pointsOf_64 : decode cX10_pointsOf 64 = .ok (.iload_n 3, 1) := by decide +kernel
theorem dX10_pointsOf_65 : decode cX10_pointsOf 65 = .ok (.iload 4, 2) := by decide +kernel
theorem dX10_pointsOf_67 : decode cX10_pointsOf 67 = .ok (.invokevirtual 237, 3) := by decide +kernel
theorem dX10_pointsOf_70 : decode cX10_pointsOf 70 = .ok (.istore 5, 2) := by decide +kernel
theorem dX10_pointsOf_72 : decode cX10_pointsOf 72 = .ok (.iconst 0, 1) := by decide +kernel
theorem dX10_pointsOf_73 : decode cX10_pointsOf 73 = .ok (.istore 6, 2) := by decide +kernel
theorem dX10_pointsOf_75 : decode cX10_pointsOf 75 = .ok (.iconst 0, 1) := by decide +kernel
theorem dX10_pointsOf_76 : decode cX10_pointsOf 76 = .ok (.istore 7, 2) := by decide +kernel
theorem dX10_pointsOf_78 : decode cX10_pointsOf 78 = .ok (.iload 7, 2) := by decide +kernel
theorem dX10_pointsOf_80 : decode cX10_pointsOf 80 = .ok (.iconst 4, 1) := by decide +kernel
theorem dX10_pointsOf_81 : decode cX10_pointsOf 81 = .ok (.if_icmp .ge 37, 3) := by decide +kernel
theorem dX10_pointsOf_84 : decode cX10_pointsOf 84 = .ok (.aload_n 0, 1) := by decide +kernel
theorem dX10_pointsOf_85 : decode cX10_pointsOf 85 = .ok (.getfield 86, 3) := by decide +kernel
theorem dX10_pointsOf_88 : decode cX10_pointsOf 88 = .ok (.iconst 4, 1) := by decide +kernel
theorem dX10_pointsOf_89 : decode cX10_pointsOf 89 = .ok (.iload_n 3, 1) := by decide +kernel
theorem dX10_pointsOf_90 : decode cX10_pointsOf 90 = .ok (.imul, 1) := by decide +kernel
theorem dX10_pointsOf_91 : decode cX10_pointsOf 91 = .ok (.iload 7, 2) := by decide +kernel
theorem dX10_pointsOf_93 : decode cX10_pointsOf 93 = .ok (.iadd, 1) := by decide +kernel
theorem dX10_pointsOf_94 : decode cX10_pointsOf 94 = .ok (.iaload, 1) := by decide +kernel
theorem dX10_pointsOf_95 : decode cX10_pointsOf 95 = .ok (.aload_n 0, 1) := by decide +kernel
theorem dX10_pointsOf_96 : decode cX10_pointsOf 96 = .ok (.getfield 86, 3) := by decide +kernel
theorem dX10_pointsOf_99 : decode cX10_pointsOf 99 = .ok (.iconst 4, 1) := by decide +kernel
theorem dX10_pointsOf_100 : decode cX10_pointsOf 100 = .ok (.iload_n 3, 1) := by decide +kernel
theorem dX10_pointsOf_101 : decode cX10_pointsOf 101 = .ok (.imul, 1) := by decide +kernel
theorem dX10_pointsOf_102 : decode cX10_pointsOf 102 = .ok (.iload 4, 2) := by decide +kernel
theorem dX10_pointsOf_104 : decode cX10_pointsOf 104 = .ok (.iadd, 1) := by decide +kernel
theorem dX10_pointsOf_105 : decode cX10_pointsOf 105 = .ok (.iaload, 1) := by decide +kernel
theorem dX10_pointsOf_106 : decode cX10_pointsOf 106 = .ok (.if_icmp .ne 6, 3) := by decide +kernel
theorem dX10_pointsOf_109 : decode cX10_pointsOf 109 = .ok (.iinc 6 1, 3) := by decide +kernel
theorem dX10_pointsOf_112 : decode cX10_pointsOf 112 = .ok (.iinc 7 1, 3) := by decide +kernel
theorem dX10_pointsOf_115 : decode cX10_pointsOf 115 = .ok (.goto (-37), 3) := by decide +kernel
theorem dX10_pointsOf_118 : decode cX10_pointsOf 118 = .ok (.iconst 0, 1) := by decide +kernel
theorem dX10_pointsOf_119 : decode cX10_pointsOf 119 = .ok (.istore 7, 2) := by decide +kernel
theorem dX10_pointsOf_121 : decode cX10_pointsOf 121 = .ok (.iconst 0, 1) := by decide +kernel
theorem dX10_pointsOf_122 : decode cX10_pointsOf 122 = .ok (.istore 8, 2) := by decide +kernel
theorem dX10_pointsOf_124 : decode cX10_pointsOf 124 = .ok (.iload 8, 2) := by decide +kernel
theorem dX10_pointsOf_126 : decode cX10_pointsOf 126 = .ok (.iload 6, 2) := by decide +kernel
theorem dX10_pointsOf_128 : decode cX10_pointsOf 128 = .ok (.if_icmp .ge 22, 3) := by decide +kernel
theorem dX10_pointsOf_131 : decode cX10_pointsOf 131 = .ok (.iload 7, 2) := by decide +kernel
theorem dX10_pointsOf_133 : decode cX10_pointsOf 133 = .ok (.iload 5, 2) := by decide +kernel
theorem dX10_pointsOf_135 : decode cX10_pointsOf 135 = .ok (.iload 8, 2) := by decide +kernel
theorem dX10_pointsOf_137 : decode cX10_pointsOf 137 = .ok (.iadd, 1) := by decide +kernel
theorem dX10_pointsOf_138 : decode cX10_pointsOf 138 = .ok (.invokestatic 255, 3) := by decide +kernel
theorem dX10_pointsOf_141 : decode cX10_pointsOf 141 = .ok (.iadd, 1) := by decide +kernel
theorem dX10_pointsOf_142 : decode cX10_pointsOf 142 = .ok (.istore 7, 2) := by decide +kernel
theorem dX10_pointsOf_144 : decode cX10_pointsOf 144 = .ok (.iinc 8 1, 3) := by decide +kernel
theorem dX10_pointsOf_147 : decode cX10_pointsOf 147 = .ok (.goto (-23), 3) := by decide +kernel
theorem dX10_pointsOf_150 : decode cX10_pointsOf 150 = .ok (.iload_n 2, 1) := by decide +kernel
theorem dX10_pointsOf_151 : decode cX10_pointsOf 151 = .ok (.bipush 60, 2) := by decide +kernel
theorem dX10_pointsOf_153 : decode cX10_pointsOf 153 = .ok (.iload 7, 2) := by decide +kernel
theorem dX10_pointsOf_155 : decode cX10_pointsOf 155 = .ok (.imul, 1) := by decide +kernel
theorem dX10_pointsOf_156 : decode cX10_pointsOf 156 = .ok (.iload 6, 2) := by decide +kernel
theorem dX10_pointsOf_158 : decode cX10_pointsOf 158 = .ok (.idiv, 1) := by decide +kernel
theorem dX10_pointsOf_159 : decode cX10_pointsOf 159 = .ok (.iadd, 1) := by decide +kernel
theorem dX10_pointsOf_160 : decode cX10_pointsOf 160 = .ok (.istore_n 2, 1) := by decide +kernel
theorem dX10_pointsOf_161 : decode cX10_pointsOf 161 = .ok (.iinc 4 1, 3) := by decide +kernel
theorem dX10_pointsOf_164 : decode cX10_pointsOf 164 = .ok (.goto (-149), 3) := by decide +kernel
theorem dX10_pointsOf_167 : decode cX10_pointsOf 167 = .ok (.iinc 3 1, 3) := by decide +kernel
theorem dX10_pointsOf_170 : decode cX10_pointsOf 170 = .ok (.goto (-166), 3) := by decide +kernel
theorem dX10_pointsOf_173 : decode cX10_pointsOf 173 = .ok (.iload_n 2, 1) := by decide +kernel
theorem dX10_pointsOf_174 : decode cX10_pointsOf 174 = .ok (.ireturn, 1) := by decide +kernel
theorem dX10_points_0 : decode cX10_points 0 = .ok (.aload_n 0, 1) := by decide +kernel
theorem dX10_points_1 : decode cX10_points 1 = .ok (.iload_n 1, 1) := by decide +kernel
theorem dX10_points_2 : decode cX10_points 2 = .ok (.invokevirtual 135, 3) := by decide +kernel
theorem dX10_points_5 : decode cX10_points 5 = .ok (.ifCond .eq 11, 3) := by decide +kernel
theorem dX10_points_8 : decode cX10_points 8 = .ok (.aload_n 0, 1) := by decide +kernel
theorem dX10_points_9 : decode cX10_points 9 = .ok (.iload_n 1, 1) := by decide +kernel
theorem dX10_points_10 : decode cX10_points 10 = .ok (.invokevirtual 258, 3) := by decide +kernel
theorem dX10_points_13 : decode cX10_points 13 = .ok (.goto 4, 3) := by decide +kernel
theorem dX10_points_16 : decode cX10_points 16 = .ok (.iconst (-1), 1) := by decide +kernel
theorem dX10_points_17 : decode cX10_points 17 = .ok (.ireturn, 1) := by decide +kernel
theorem dX10_table_0 : decode cX10_table 0 = .ok (.iload_n 1, 1) := by decide +kernel
theorem dX10_table_1 : decode cX10_table 1 = .ok (.ifCond .lt 11, 3) := by decide +kernel
theorem dX10_table_4 : decode cX10_table 4 = .ok (.iload_n 1, 1) := by decide +kernel
theorem dX10_table_5 : decode cX10_table 5 = .ok (.aload_n 0, 1) := by decide +kernel
theorem dX10_table_6 : decode cX10_table 6 = .ok (.getfield 128, 3) := by decide +kernel
theorem dX10_table_9 : decode cX10_table 9 = .ok (.if_icmp .lt 5, 3) := by decide +kernel
theorem dX10_table_12 : decode cX10_table 12 = .ok (.iconst (-1), 1) := by decide +kernel
theorem dX10_table_13 : decode cX10_table 13 = .ok (.ireturn, 1) := by decide +kernel
theorem dX10_table_14 : decode cX10_table 14 = .ok (.iconst 0, 1) := by decide +kernel
theorem dX10_table_15 : decode cX10_table 15 = .ok (.istore_n 2, 1) := by decide +kernel
theorem dX10_table_16 : decode cX10_table 16 = .ok (.iload_n 2, 1) := by decide +kernel
theorem dX10_table_17 : decode cX10_table 17 = .ok (.aload_n 0, 1) := by decide +kernel
theorem dX10_table_18 : decode cX10_table 18 = .ok (.getfield 128, 3) := by decide +kernel
theorem dX10_table_21 : decode cX10_table 21 = .ok (.if_icmp .ge 73, 3) := by decide +kernel
theorem dX10_table_24 : decode cX10_table 24 = .ok (.iconst 0, 1) := by decide +kernel
theorem dX10_table_25 : decode cX10_table 25 = .ok (.istore_n 3, 1) := by decide +kernel
theorem dX10_table_26 : decode cX10_table 26 = .ok (.iconst 0, 1) := by decide +kernel
theorem dX10_table_27 : decode cX10_table 27 = .ok (.istore 4, 2) := by decide +kernel
theorem dX10_table_29 : decode cX10_table 29 = .ok (.iload 4, 2) := by decide +kernel
theorem dX10_table_31 : decode cX10_table 31 = .ok (.aload_n 0, 1) := by decide +kernel
theorem dX10_table_32 : decode cX10_table 32 = .ok (.getfield 128, 3) := by decide +kernel
theorem dX10_table_35 : decode cX10_table 35 = .ok (.if_icmp .ge 46, 3) := by decide +kernel
theorem dX10_table_38 : decode cX10_table 38 = .ok (.aload_n 0, 1) := by decide +kernel
theorem dX10_table_39 : decode cX10_table 39 = .ok (.iload 4, 2) := by decide +kernel
theorem dX10_table_41 : decode cX10_table 41 = .ok (.invokevirtual 258, 3) := by decide +kernel
theorem dX10_table_44 : decode cX10_table 44 = .ok (.aload_n 0, 1) := by decide +kernel
theorem dX10_table_45 : decode cX10_table 45 = .ok (.iload_n 2, 1) := by decide +kernel
theorem dX10_table_46 : decode cX10_table 46 = .ok (.invokevirtual 258, 3) := by decide +kernel
theorem dX10_table_49 : decode cX10_table 49 = .ok (.if_icmp .gt 23, 3) := by decide +kernel
theorem dX10_table_52 : decode cX10_table 52 = .ok (.iload 4, 2) := by decide +kernel
theorem dX10_table_54 : decode cX10_table 54 = .ok (.iload_n 2, 1) := by decide +kernel
theorem dX10_table_55 : decode cX10_table 55 = .ok (.if_icmp .ge 20, 3) := by decide +kernel
theorem dX10_table_58 : decode cX10_table 58 = .ok (.aload_n 0, 1) := by decide +kernel
theorem dX10_table_59 : decode cX10_table 59 = .ok (.iload 4, 2) := by decide +kernel
theorem dX10_table_61 : decode cX10_table 61 = .ok (.invokevirtual 258, 3) := by decide +kernel
theorem dX10_table_64 : decode cX10_table 64 = .ok (.aload_n 0, 1) := by decide +kernel
theorem dX10_table_65 : decode cX10_table 65 = .ok (.iload_n 2, 1) := by decide +kernel
theorem dX10_table_66 : decode cX10_table 66 = .ok (.invokevirtual 258, 3) := by decide +kernel
theorem dX10_table_69 : decode cX10_table 69 = .ok (.if_icmp .ne 6, 3) := by decide +kernel
theorem dX10_table_72 : decode cX10_table 72 = .ok (.iinc 3 1, 3) := by decide +kernel
theorem dX10_table_75 : decode cX10_table 75 = .ok (.iinc 4 1, 3) := by decide +kernel
theorem dX10_table_78 : decode cX10_table 78 = .ok (.goto (-49), 3) := by decide +kernel
theorem dX10_table_81 : decode cX10_table 81 = .ok (.iload_n 3, 1) := by decide +kernel
theorem dX10_table_82 : decode cX10_table 82 = .ok (.iload_n 1, 1) := by decide +kernel
theorem dX10_table_83 : decode cX10_table 83 = .ok (.if_icmp .ne 5, 3) := by decide +kernel
theorem dX10_table_86 : decode cX10_table 86 = .ok (.iload_n 2, 1) := by decide +kernel
theorem dX10_table_87 : decode cX10_table 87 = .ok (.ireturn, 1) := by decide +kernel
theorem dX10_table_88 : decode cX10_table 88 = .ok (.iinc 2 1, 3) := by decide +kernel
theorem dX10_table_91 : decode cX10_table 91 = .ok (.goto (-75), 3) := by decide +kernel
theorem dX10_table_94 : decode cX10_table 94 = .ok (.iconst (-1), 1) := by decide +kernel
theorem dX10_table_95 : decode cX10_table 95 = .ok (.ireturn, 1) := by decide +kernel
theorem dX10_count_0 : decode cX10_count 0 = .ok (.iconst 0, 1) := by decide +kernel
theorem dX10_count_1 : decode cX10_count 1 = .ok (.istore_n 2, 1) := by decide +kernel
theorem dX10_count_2 : decode cX10_count 2 = .ok (.iload_n 1, 1) := by decide +kernel
theorem dX10_count_3 : decode cX10_count 3 = .ok (.tableswitch 146 0 8 #[49, 54, 59, 64, 69, 74, 79, 84, 114], 49) := by decide +kernel
theorem dX10_count_52 : decode cX10_count 52 = .ok (.aload_n 0, 1) := by decide +kernel
theorem dX10_count_53 : decode cX10_count 53 = .ok (.getfield 125, 3) := by decide +kernel
theorem dX10_count_56 : decode cX10_count 56 = .ok (.ireturn, 1) := by decide +kernel
theorem dX10_count_57 : decode cX10_count 57 = .ok (.aload_n 0, 1) := by decide +kernel
theorem dX10_count_58 : decode cX10_count 58 = .ok (.getfield 128, 3) := by decide +kernel
theorem dX10_count_61 : decode cX10_count 61 = .ok (.ireturn, 1) := by decide +kernel
theorem dX10_count_62 : decode cX10_count 62 = .ok (.aload_n 0, 1) := by decide +kernel
theorem dX10_count_63 : decode cX10_count 63 = .ok (.getfield 200, 3) := by decide +kernel
theorem dX10_count_66 : decode cX10_count 66 = .ok (.ireturn, 1) := by decide +kernel
theorem dX10_count_67 : decode cX10_count 67 = .ok (.aload_n 0, 1) := by decide +kernel
theorem dX10_count_68 : decode cX10_count 68 = .ok (.getfield 223, 3) := by decide +kernel
theorem dX10_count_71 : decode cX10_count 71 = .ok (.ireturn, 1) := by decide +kernel
theorem dX10_count_72 : decode cX10_count 72 = .ok (.aload_n 0, 1) := by decide +kernel
theorem dX10_count_73 : decode cX10_count 73 = .ok (.getfield 220, 3) := by decide +kernel
theorem dX10_count_76 : decode cX10_count 76 = .ok (.ireturn, 1) := by decide +kernel
theorem dX10_count_77 : decode cX10_count 77 = .ok (.aload_n 0, 1) := by decide +kernel
theorem dX10_count_78 : decode cX10_count 78 = .ok (.getfield 159, 3) := by decide +kernel
theorem dX10_count_81 : decode cX10_count 81 = .ok (.ireturn, 1) := by decide +kernel
theorem dX10_count_82 : decode cX10_count 82 = .ok (.aload_n 0, 1) := by decide +kernel
theorem dX10_count_83 : decode cX10_count 83 = .ok (.getfield 9, 3) := by decide +kernel
theorem dX10_count_86 : decode cX10_count 86 = .ok (.ireturn, 1) := by decide +kernel
theorem dX10_count_87 : decode cX10_count 87 = .ok (.iconst 0, 1) := by decide +kernel
theorem dX10_count_88 : decode cX10_count 88 = .ok (.istore_n 3, 1) := by decide +kernel
theorem dX10_count_89 : decode cX10_count 89 = .ok (.iload_n 3, 1) := by decide +kernel
theorem dX10_count_90 : decode cX10_count 90 = .ok (.aload_n 0, 1) := by decide +kernel
theorem dX10_count_91 : decode cX10_count 91 = .ok (.getfield 128, 3) := by decide +kernel
theorem dX10_count_94 : decode cX10_count 94 = .ok (.if_icmp .ge 21, 3) := by decide +kernel
theorem dX10_count_97 : decode cX10_count 97 = .ok (.aload_n 0, 1) := by decide +kernel
theorem dX10_count_98 : decode cX10_count 98 = .ok (.getfield 53, 3) := by decide +kernel
theorem dX10_count_101 : decode cX10_count 101 = .ok (.iload_n 3, 1) := by decide +kernel
theorem dX10_count_102 : decode cX10_count 102 = .ok (.baload, 1) := by decide +kernel
theorem dX10_count_103 : decode cX10_count 103 = .ok (.ifCond .eq 6, 3) := by decide +kernel
theorem dX10_count_106 : decode cX10_count 106 = .ok (.iinc 2 1, 3) := by decide +kernel
theorem dX10_count_109 : decode cX10_count 109 = .ok (.iinc 3 1, 3) := by decide +kernel
theorem dX10_count_112 : decode cX10_count 112 = .ok (.goto (-23), 3) := by decide +kernel
theorem dX10_count_115 : decode cX10_count 115 = .ok (.iload_n 2, 1) := by decide +kernel
theorem dX10_count_116 : decode cX10_count 116 = .ok (.ireturn, 1) := by decide +kernel
theorem dX10_count_117 : decode cX10_count 117 = .ok (.iconst 0, 1) := by decide +kernel
theorem dX10_count_118 : decode cX10_count 118 = .ok (.istore_n 3, 1) := by decide +kernel
theorem dX10_count_119 : decode cX10_count 119 = .ok (.iload_n 3, 1) := by decide +kernel
theorem dX10_count_120 : decode cX10_count 120 = .ok (.iconst 4, 1) := by decide +kernel
theorem dX10_count_121 : decode cX10_count 121 = .ok (.aload_n 0, 1) := by decide +kernel
theorem dX10_count_122 : decode cX10_count 122 = .ok (.getfield 223, 3) := by decide +kernel
theorem dX10_count_125 : decode cX10_count 125 = .ok (.imul, 1) := by decide +kernel
theorem dX10_count_126 : decode cX10_count 126 = .ok (.if_icmp .ge 21, 3) := by decide +kernel
theorem dX10_count_129 : decode cX10_count 129 = .ok (.aload_n 0, 1) := by decide +kernel
theorem dX10_count_130 : decode cX10_count 130 = .ok (.getfield 86, 3) := by decide +kernel
theorem dX10_count_133 : decode cX10_count 133 = .ok (.iload_n 3, 1) := by decide +kernel
theorem dX10_count_134 : decode cX10_count 134 = .ok (.iaload, 1) := by decide +kernel
theorem dX10_count_135 : decode cX10_count 135 = .ok (.ifCond .le 6, 3) := by decide +kernel
theorem dX10_count_138 : decode cX10_count 138 = .ok (.iinc 2 1, 3) := by decide +kernel
theorem dX10_count_141 : decode cX10_count 141 = .ok (.iinc 3 1, 3) := by decide +kernel
theorem dX10_count_144 : decode cX10_count 144 = .ok (.goto (-25), 3) := by decide +kernel
theorem dX10_count_147 : decode cX10_count 147 = .ok (.iload_n 2, 1) := by decide +kernel
theorem dX10_count_148 : decode cX10_count 148 = .ok (.ireturn, 1) := by decide +kernel
theorem dX10_count_149 : decode cX10_count 149 = .ok (.iconst (-1), 1) := by decide +kernel
theorem dX10_count_150 : decode cX10_count 150 = .ok (.ireturn, 1) := by decide +kernel
