theorem dX9_firstBarring_31 : decode cX9_firstBarring 31 = .ok (.getfield 73, 3) := by decide +kernel
theorem dX9_firstBarring_34 : decode cX9_firstBarring 34 = .ok (.iload_n 1, 1) := by decide +kernel
theorem dX9_firstBarring_35 : decode cX9_firstBarring 35 = .ok (.aaload, 1) := by decide +kernel
theorem dX9_firstBarring_36 : decode cX9_firstBarring 36 = .ok (.aload_n 0, 1) := by decide +kernel
theorem dX9_firstBarring_37 : decode cX9_firstBarring 37 = .ok (.getfield 73, 3) := by decide +kernel
theorem dX9_firstBarring_40 : decode cX9_firstBarring 40 = .ok (.iload_n 2, 1) := by decide +kernel
theorem dX9_firstBarring_41 : decode cX9_firstBarring 41 = .ok (.aaload, 1) := by decide +kernel
theorem dX9_firstBarring_42 : decode cX9_firstBarring 42 = .ok (.invokevirtual 276, 3) := by decide +kernel
theorem dX9_firstBarring_45 : decode cX9_firstBarring 45 = .ok (.ifCond .eq 5, 3) := by decide +kernel
theorem dX9_firstBarring_48 : decode cX9_firstBarring 48 = .ok (.iload_n 2, 1) := by decide +kernel
theorem dX9_firstBarring_49 : decode cX9_firstBarring 49 = .ok (.ireturn, 1) := by decide +kernel
theorem dX9_firstBarring_50 : decode cX9_firstBarring 50 = .ok (.iinc 2 1, 3) := by decide +kernel
theorem dX9_firstBarring_53 : decode cX9_firstBarring 53 = .ok (.goto (-51), 3) := by decide +kernel
theorem dX9_firstBarring_56 : decode cX9_firstBarring 56 = .ok (.iconst (-1), 1) := by decide +kernel
theorem dX9_firstBarring_57 : decode cX9_firstBarring 57 = .ok (.ireturn, 1) := by decide +kernel
theorem dX9_race_0 : decode cX9_race 0 = .ok (.iload_n 1, 1) := by decide +kernel
theorem dX9_race_1 : decode cX9_race 1 = .ok (.iconst 0, 1) := by decide +kernel
theorem dX9_race_2 : decode cX9_race 2 = .ok (.sipush 999, 3) := by decide +kernel
theorem dX9_race_5 : decode cX9_race 5 = .ok (.invokestatic 97, 3) := by decide +kernel
theorem dX9_race_8 : decode cX9_race 8 = .ok (.ifCond .eq 12, 3) := by decide +kernel
theorem dX9_race_11 : decode cX9_race 11 = .ok (.iload_n 2, 1) := by decide +kernel
theorem dX9_race_12 : decode cX9_race 12 = .ok (.iconst 0, 1) := by decide +kernel
theorem dX9_race_13 : decode cX9_race 13 = .ok (.iconst 1, 1) := by decide +kernel
theorem dX9_race_14 : decode cX9_race 14 = .ok (.invokestatic 97, 3) := by decide +kernel
theorem dX9_race_17 : decode cX9_race 17 = .ok (.ifCond .ne 6, 3) := by decide +kernel
theorem dX9_race_20 : decode cX9_race 20 = .ok (.bipush (-2), 2) := by decide +kernel
theorem dX9_race_22 : decode cX9_race 22 = .ok (.ireturn, 1) := by decide +kernel
theorem dX9_race_23 : decode cX9_race 23 = .ok (.aload_n 0, 1) := by decide +kernel
theorem dX9_race_24 : decode cX9_race 24 = .ok (.invokevirtual 218, 3) := by decide +kernel
theorem dX9_race_27 : decode cX9_race 27 = .ok (.iconst 2, 1) := by decide +kernel
theorem dX9_race_28 : decode cX9_race 28 = .ok (.if_icmp .ge 6, 3) := by decide +kernel
theorem dX9_race_31 : decode cX9_race 31 = .ok (.bipush (-3), 2) := by decide +kernel
theorem dX9_race_33 : decode cX9_race 33 = .ok (.ireturn, 1) := by decide +kernel
theorem dX9_race_34 : decode cX9_race 34 = .ok (.aload_n 0, 1) := by decide +kernel
theorem dX9_race_35 : decode cX9_race 35 = .ok (.getfield 77, 3) := by decide +kernel
theorem dX9_race_38 : decode cX9_race 38 = .ok (.bipush 24, 2) := by decide +kernel
theorem dX9_race_40 : decode cX9_race 40 = .ok (.if_icmp .lt 6, 3) := by decide +kernel
theorem dX9_race_43 : decode cX9_race 43 = .ok (.bipush (-4), 2) := by decide +kernel
theorem dX9_race_45 : decode cX9_race 45 = .ok (.ireturn, 1) := by decide +kernel
theorem dX9_race_46 : decode cX9_race 46 = .ok (.aload_n 0, 1) := by decide +kernel
theorem dX9_race_47 : decode cX9_race 47 = .ok (.getfield 73, 3) := by decide +kernel
theorem dX9_race_50 : decode cX9_race 50 = .ok (.aload_n 0, 1) := by decide +kernel
theorem dX9_race_51 : decode cX9_race 51 = .ok (.getfield 77, 3) := by decide +kernel
theorem dX9_race_54 : decode cX9_race 54 = .ok (.aaload, 1) := by decide +kernel
theorem dX9_race_55 : decode cX9_race 55 = .ok (.iload_n 1, 1) := by decide +kernel
theorem dX9_race_56 : decode cX9_race 56 = .ok (.iload_n 2, 1) := by decide +kernel
theorem dX9_race_57 : decode cX9_race 57 = .ok (.aload_n 0, 1) := by decide +kernel
theorem dX9_race_58 : decode cX9_race 58 = .ok (.getfield 65, 3) := by decide +kernel
theorem dX9_race_61 : decode cX9_race 61 = .ok (.invokevirtual 221, 3) := by decide +kernel
theorem dX9_race_64 : decode cX9_race 64 = .ok (.aload_n 0, 1) := by decide +kernel
theorem dX9_race_65 : decode cX9_race 65 = .ok (.aload_n 0, 1) := by decide +kernel
theorem dX9_race_66 : decode cX9_race 66 = .ok (.getfield 77, 3) := by decide +kernel
theorem dX9_race_69 : decode cX9_race 69 = .ok (.invokevirtual 225, 3) := by decide +kernel
theorem dX9_race_72 : decode cX9_race 72 = .ok (.istore_n 3, 1) := by decide +kernel
theorem dX9_race_73 : decode cX9_race 73 = .ok (.iload_n 3, 1) := by decide +kernel
theorem dX9_race_74 : decode cX9_race 74 = .ok (.iconst (-1), 1) := by decide +kernel
theorem dX9_race_75 : decode cX9_race 75 = .ok (.if_icmp .eq 8, 3) := by decide +kernel
theorem dX9_race_78 : decode cX9_race 78 = .ok (.bipush (-10), 2) := by decide +kernel
theorem dX9_race_80 : decode cX9_race 80 = .ok (.iload_n 3, 1) := by decide +kernel
theorem dX9_race_81 : decode cX9_race 81 = .ok (.isub, 1) := by decide +kernel
theorem dX9_race_82 : decode cX9_race 82 = .ok (.ireturn, 1) := by decide +kernel
theorem dX9_race_83 : decode cX9_race 83 = .ok (.iconst 0, 1) := by decide +kernel
theorem dX9_race_84 : decode cX9_race 84 = .ok (.istore 4, 2) := by decide +kernel
theorem dX9_race_86 : decode cX9_race 86 = .ok (.iload 4, 2) := by decide +kernel
theorem dX9_race_88 : decode cX9_race 88 = .ok (.iconst 4, 1) := by decide +kernel
theorem dX9_race_89 : decode cX9_race 89 = .ok (.if_icmp .ge 17, 3) := by decide +kernel
theorem dX9_race_92 : decode cX9_race 92 = .ok (.aload_n 0, 1) := by decide +kernel
theorem dX9_race_93 : decode cX9_race 93 = .ok (.getfield 65, 3) := by decide +kernel
theorem dX9_race_96 : decode cX9_race 96 = .ok (.iload 4, 2) := by decide +kernel
theorem dX9_race_98 : decode cX9_race 98 = .ok (.iconst (-1), 1) := by decide +kernel
theorem dX9_race_99 : decode cX9_race 99 = .ok (.iastore, 1) := by decide +kernel
theorem dX9_race_100 : decode cX9_race 100 = .ok (.iinc 4 1, 3) := by decide +kernel
theorem dX9_race_103 : decode cX9_race 103 = .ok (.goto (-17), 3) := by decide +kernel
theorem dX9_race_106 : decode cX9_race 106 = .ok (.aload_n 0, 1) := by decide +kernel
theorem dX9_race_107 : decode cX9_race 107 = .ok (.dup, 1) := by decide +kernel
theorem dX9_race_108 : decode cX9_race 108 = .ok (.getfield 77, 3) := by decide +kernel
theorem dX9_race_111 : decode cX9_race 111 = .ok (.iconst 1, 1) := by decide +kernel
theorem dX9_race_112 : decode cX9_race 112 = .ok (.iadd, 1) := by decide +kernel
theorem dX9_race_113 : decode cX9_race 113 = .ok (.putfield 77, 3) := by decide +kernel
theorem dX9_race_116 : decode cX9_race 116 = .ok (.aload_n 0, 1) := by decide +kernel
theorem dX9_race_117 : decode cX9_race 117 = .ok (.getfield 77, 3) := by decide +kernel
theorem dX9_race_120 : decode cX9_race 120 = .ok (.iconst 1, 1) := by decide +kernel
theorem dX9_race_121 : decode cX9_race 121 = .ok (.isub, 1) := by decide +kernel
theorem dX9_race_122 : decode cX9_race 122 = .ok (.ireturn, 1) := by decide +kernel
theorem dX9_current_0 : decode cX9_current 0 = .ok (.iload_n 1, 1) := by decide +kernel
theorem dX9_current_1 : decode cX9_current 1 = .ok (.invokestatic 211, 3) := by decide +kernel
theorem dX9_current_4 : decode cX9_current 4 = .ok (.ifCond .ne 6, 3) := by decide +kernel
theorem dX9_current_7 : decode cX9_current 7 = .ok (.bipush (-100), 2) := by decide +kernel
theorem dX9_current_9 : decode cX9_current 9 = .ok (.ireturn, 1) := by decide +kernel
theorem dX9_current_10 : decode cX9_current 10 = .ok (.iload_n 2, 1) := by decide +kernel
theorem dX9_current_11 : decode cX9_current 11 = .ok (.bipush (-9), 2) := by decide +kernel
theorem dX9_current_13 : decode cX9_current 13 = .ok (.bipush 9, 2) := by decide +kernel
theorem dX9_current_15 : decode cX9_current 15 = .ok (.invokestatic 97, 3) := by decide +kernel
theorem dX9_current_18 : decode cX9_current 18 = .ok (.ifCond .ne 6, 3) := by decide +kernel
theorem dX9_current_21 : decode cX9_current 21 = .ok (.bipush (-101), 2) := by decide +kernel
theorem dX9_current_23 : decode cX9_current 23 = .ok (.ireturn, 1) := by decide +kernel
theorem dX9_current_24 : decode cX9_current 24 = .ok (.aload_n 0, 1) := by decide +kernel
theorem dX9_current_25 : decode cX9_current 25 = .ok (.getfield 68, 3) := by decide +kernel
theorem dX9_current_28 : decode cX9_current 28 = .ok (.iload_n 1, 1) := by decide +kernel
theorem dX9_current_29 : decode cX9_current 29 = .ok (.iaload, 1) := by decide +kernel
theorem dX9_current_30 : decode cX9_current 30 = .ok (.istore_n 3, 1) := by decide +kernel
theorem dX9_current_31 : decode cX9_current 31 = .ok (.aload_n 0, 1) := by decide +kernel
theorem dX9_current_32 : decode cX9_current 32 = .ok (.getfield 68, 3) := by decide +kernel
theorem dX9_current_35 : decode cX9_current 35 = .ok (.iload_n 1, 1) := by decide +kernel
theorem dX9_current_36 : decode cX9_current 36 = .ok (.iload_n 2, 1) := by decide +kernel
theorem dX9_current_37 : decode cX9_current 37 = .ok (.iastore, 1) := by decide +kernel
theorem dX9_current_38 : decode cX9_current 38 = .ok (.iload_n 3, 1) := by decide +kernel
theorem dX9_current_39 : decode cX9_current 39 = .ok (.ireturn, 1) := by decide +kernel
theorem dX9_isRace_0 : decode cX9_isRace 0 = .ok (.iload_n 1, 1) := by decide +kernel
theorem dX9_isRace_1 : decode cX9_isRace 1 = .ok (.iconst 0, 1) := by decide +kernel
theorem dX9_isRace_2 : decode cX9_isRace 2 = .ok (.aload_n 0, 1) := by decide +kernel
theorem dX9_isRace_3 : decode cX9_isRace 3 = .ok (.getfield 77, 3) := by decide +kernel
theorem dX9_isRace_6 : decode cX9_isRace 6 = .ok (.iconst 1, 1) := by decide +kernel
theorem dX9_isRace_7 : decode cX9_isRace 7 = .ok (.isub, 1) := by decide +kernel
theorem dX9_isRace_8 : decode cX9_isRace 8 = .ok (.invokestatic 97, 3) := by decide +kernel
theorem dX9_isRace_11 : decode cX9_isRace 11 = .ok (.ireturn, 1) := by decide +kernel
theorem dX0_driveOf_0 : decode cX0_driveOf 0 = .ok (.iconst 0, 1) := by decide +kernel
theorem dX0_driveOf_1 : decode cX0_driveOf 1 = .ok (.istore_n 3, 1) := by decide +kernel
theorem dX0_driveOf_2 : decode cX0_driveOf 2 = .ok (.iconst 0, 1) := by decide +kernel
theorem dX0_driveOf_3 : decode cX0_driveOf 3 = .ok (.istore 4, 2) := by decide +kernel
theorem dX0_driveOf_5 : decode cX0_driveOf 5 = .ok (.iload 4, 2) := by decide +kernel
theorem dX0_driveOf_7 : decode cX0_driveOf 7 = .ok (.aload_n 1, 1) := by decide +kernel
theorem dX0_driveOf_8 : decode cX0_driveOf 8 = .ok (.invokevirtual 31, 3) := by decide +kernel
theorem dX0_driveOf_11 : decode cX0_driveOf 11 = .ok (.if_icmp .ge 30, 3) := by decide +kernel
theorem dX0_driveOf_14 : decode cX0_driveOf 14 = .ok (.iload_n 3, 1) := by decide +kernel
theorem dX0_driveOf_15 : decode cX0_driveOf 15 = .ok (.aload_n 0, 1) := by decide +kernel
theorem dX0_driveOf_16 : decode cX0_driveOf 16 = .ok (.getfield 35, 3) := by decide +kernel
theorem dX0_driveOf_19 : decode cX0_driveOf 19 = .ok (.aload_n 1, 1) := by decide +kernel
theorem dX0_driveOf_20 : decode cX0_driveOf 20 = .ok (.getfield 41, 3) := by decide +kernel
theorem dX0_driveOf_23 : decode cX0_driveOf 23 = .ok (.iload 4, 2) := by decide +kernel
theorem dX0_driveOf_25 : decode cX0_driveOf 25 = .ok (.iaload, 1) := by decide +kernel
theorem dX0_driveOf_26 : decode cX0_driveOf 26 = .ok (.iaload, 1) := by decide +kernel
theorem dX0_driveOf_27 : decode cX0_driveOf 27 = .ok (.iload_n 2, 1) := by decide +kernel
theorem dX0_driveOf_28 : decode cX0_driveOf 28 = .ok (.imul, 1) := by decide +kernel
theorem dX0_driveOf_29 : decode cX0_driveOf 29 = .ok (.sipush 1000, 3) := by decide +kernel
theorem dX0_driveOf_32 : decode cX0_driveOf 32 = .ok (.idiv, 1) := by decide +kernel
theorem dX0_driveOf_33 : decode cX0_driveOf 33 = .ok (.iadd, 1) := by decide +kernel
theorem dX0_driveOf_34 : decode cX0_driveOf 34 = .ok (.istore_n 3, 1) := by decide +kernel
theorem dX0_driveOf_35 : decode cX0_driveOf 35 = .ok (.iinc 4 1, 3) := by decide +kernel
theorem dX0_driveOf_38 : decode cX0_driveOf 38 = .ok (.goto (-33), 3) := by decide +kernel
theorem dX0_driveOf_41 : decode cX0_driveOf 41 = .ok (.iload_n 3, 1) := by decide +kernel
theorem dX0_driveOf_42 : decode cX0_driveOf 42 = .ok (.aload_n 1, 1) := by decide +kernel
theorem dX0_driveOf_43 : decode cX0_driveOf 43 = .ok (.getfield 26, 3) := by decide +kernel
theorem dX0_driveOf_46 : decode cX0_driveOf 46 = .ok (.imul, 1) := by decide +kernel
theorem dX0_driveOf_47 : decode cX0_driveOf 47 = .ok (.ireturn, 1) := by decide +kernel
theorem dX0_paddle_0 : decode cX0_paddle 0 = .ok (.sipush 1000, 3) := by decide +kernel
theorem dX0_paddle_3 : decode cX0_paddle 3 = .ok (.istore 6, 2) := by decide +kernel
theorem dX0_paddle_5 : decode cX0_paddle 5 = .ok (.aload_n 1, 1) := by decide +kernel
theorem dX0_paddle_6 : decode cX0_paddle 6 = .ok (.aload_n 2, 1) := by decide +kernel
theorem dX0_paddle_7 : decode cX0_paddle 7 = .ok (.iload 6, 2) := by decide +kernel
theorem dX0_paddle_9 : decode cX0_paddle 9 = .ok (.invokestatic 16, 3) := by decide +kernel
theorem dX0_paddle_12 : decode cX0_paddle 12 = .ok (.istore 7, 2) := by decide +kernel
theorem dX0_paddle_14 : decode cX0_paddle 14 = .ok (.aload_n 0, 1) := by decide +kernel
theorem dX0_paddle_15 : decode cX0_paddle 15 = .ok (.iconst 0, 1) := by decide +kernel
theorem dX0_paddle_16 : decode cX0_paddle 16 = .ok (.putfield 7, 3) := by decide +kernel
theorem dX0_paddle_19 : decode cX0_paddle 19 = .ok (.aload_n 0, 1) := by decide +kernel
theorem dX0_paddle_20 : decode cX0_paddle 20 = .ok (.iconst 0, 1) := by decide +kernel
theorem dX0_paddle_21 : decode cX0_paddle 21 = .ok (.putfield 13, 3) := by decide +kernel
theorem dX0_paddle_24 : decode cX0_paddle 24 = .ok (.iconst 0, 1) := by decide +kernel
theorem dX0_paddle_25 : decode cX0_paddle 25 = .ok (.istore 8, 2) := by decide +kernel
theorem dX0_paddle_27 : decode cX0_paddle 27 = .ok (.iload 8, 2) := by decide +kernel
theorem dX0_paddle_29 : decode cX0_paddle 29 = .ok (.sipush 2000, 3) := by decide +kernel
theorem dX0_paddle_32 : decode cX0_paddle 32 = .ok (.if_icmp .ge 118, 3) := by decide +kernel
theorem dX0_paddle_35 : decode cX0_paddle 35 = .ok (.aload_n 0, 1) := by decide +kernel
theorem dX0_paddle_36 : decode cX0_paddle 36 = .ok (.getfield 13, 3) := by decide +kernel
theorem dX0_paddle_39 : decode cX0_paddle 39 = .ok (.iload 5, 2) := by decide +kernel
theorem dX0_paddle_41 : decode cX0_paddle 41 = .ok (.if_icmp .ge 109, 3) := by decide +kernel
theorem dX0_paddle_44 : decode cX0_paddle 44 = .ok (.iconst 1, 1) := by decide +kernel
theorem dX0_paddle_45 : decode cX0_paddle 45 = .ok (.iconst 1, 1) := by decide +kernel
theorem dX0_paddle_46 : decode cX0_paddle 46 = .ok (.iload 7, 2) := by decide +kernel
theorem dX0_paddle_48 : decode cX0_paddle 48 = .ok (.iload_n 3, 1) := by decide +kernel
theorem dX0_paddle_49 : decode cX0_paddle 49 = .ok (.isub, 1) := by decide +kernel
theorem dX0_paddle_50 : decode cX0_paddle 50 = .ok (.invokestatic 20, 3) := by decide +kernel
theorem dX0_paddle_53 : decode cX0_paddle 53 = .ok (.iload 4, 2) := by decide +kernel
theorem dX0_paddle_55 : decode cX0_paddle 55 = .ok (.iadd, 1) := by decide +kernel
theorem dX0_paddle_56 : decode cX0_paddle 56 = .ok (.invokestatic 20, 3) := by decide +kernel
theorem dX0_paddle_59 : decode cX0_paddle 59 = .ok (.istore 9, 2) := by decide +kernel
theorem dX0_paddle_61 : decode cX0_paddle 61 = .ok (.aload_n 0, 1) := by decide +kernel
theorem dX0_paddle_62 : decode cX0_paddle 62 = .ok (.getfield 13, 3) := by decide +kernel
theorem dX0_paddle_65 : decode cX0_paddle 65 = .ok (.iload 9, 2) := by decide +kernel
theorem dX0_paddle_67 : decode cX0_paddle 67 = .ok (.iadd, 1) := by decide +kernel
theorem dX0_paddle_68 : decode cX0_paddle 68 = .ok (.iload 5, 2) := by decide +kernel
theorem dX0_paddle_70 : decode cX0_paddle 70 = .ok (.if_icmp .lt 26, 3) := by decide +kernel
theorem dX0_paddle_73 : decode cX0_paddle 73 = .ok (.aload_n 0, 1) := by decide +kernel
theorem dX0_paddle_74 : decode cX0_paddle 74 = .ok (.bipush 100, 2) := by decide +kernel
theorem dX0_paddle_76 : decode cX0_paddle 76 = .ok (.iload 8, 2) := by decide +kernel
theorem dX0_paddle_78 : decode cX0_paddle 78 = .ok (.imul, 1) := by decide +kernel
theorem dX0_paddle_79 : decode cX0_paddle 79 = .ok (.iload 5, 2) := by decide +kernel
theorem dX0_paddle_81 : decode cX0_paddle 81 = .ok (.aload_n 0, 1) := by decide +kernel
theorem dX0_paddle_82 : decode cX0_paddle 82 = .ok (.getfield 13, 3) := by decide +kernel
theorem dX0_paddle_85 : decode cX0_paddle 85 = .ok (.isub, 1) := by decide +kernel
theorem dX0_paddle_86 : decode cX0_paddle 86 = .ok (.bipush 100, 2) := by decide +kernel
theorem dX0_paddle_88 : decode cX0_paddle 88 = .ok (.imul, 1) := by decide +kernel
theorem dX0_paddle_89 : decode cX0_paddle 89 = .ok (.iload 9, 2) := by decide +kernel
theorem dX0_paddle_91 : decode cX0_paddle 91 = .ok (.idiv, 1) := by decide +kernel
theorem dX0_paddle_92 : decode cX0_paddle 92 = .ok (.iadd, 1) := by decide +kernel
theorem dX0_paddle_93 : decode cX0_paddle 93 = .ok (.putfield 7, 3) := by decide +kernel
theorem dX0_paddle_96 : decode cX0_paddle 96 = .ok (.aload_n 0, 1) := by decide +kernel
theorem dX0_paddle_97 : decode cX0_paddle 97 = .ok (.dup, 1) := by decide +kernel
theorem dX0_paddle_98 : decode cX0_paddle 98 = .ok (.getfield 13, 3) := by decide +kernel
theorem dX0_paddle_101 : decode cX0_paddle 101 = .ok (.iload 9, 2) := by decide +kernel
theorem dX0_paddle_103 : decode cX0_paddle 103 = .ok (.iadd, 1) := by decide +kernel
theorem dX0_paddle_104 : decode cX0_paddle 104 = .ok (.putfield 13, 3) := by decide +kernel
theorem dX0_paddle_107 : decode cX0_paddle 107 = .ok (.iload 6, 2) := by decide +kernel
theorem dX0_paddle_109 : decode cX0_paddle 109 = .ok (.sipush 200, 3) := by decide +kernel
theorem dX0_paddle_112 : decode cX0_paddle 112 = .ok (.if_icmp .le 32, 3) := by decide +kernel
theorem dX0_paddle_115 : decode cX0_paddle 115 = .ok (.sipush 200, 3) := by decide +kernel
theorem dX0_paddle_118 : decode cX0_paddle 118 = .ok (.iload 6, 2) := by decide +kernel
theorem dX0_paddle_120 : decode cX0_paddle 120 = .ok (.aload_n 2, 1) := by decide +kernel
theorem dX0_paddle_121 : decode cX0_paddle 121 = .ok (.getfield 26, 3) := by decide +kernel
theorem dX0_paddle_124 : decode cX0_paddle 124 = .ok (.aload_n 2, 1) := by decide +kernel
theorem dX0_paddle_125 : decode cX0_paddle 125 = .ok (.getfield 26, 3) := by decide +kernel
theorem dX0_paddle_128 : decode cX0_paddle 128 = .ok (.imul, 1) := by decide +kernel
theorem dX0_paddle_129 : decode cX0_paddle 129 = .ok (.isub, 1) := by decide +kernel
theorem dX0_paddle_130 : decode cX0_paddle 130 = .ok (.invokestatic 20, 3) := by decide +kernel
theorem dX0_paddle_133 : decode cX0_paddle 133 = .ok (.istore 6, 2) := by decide +kernel
theorem dX0_paddle_135 : decode cX0_paddle 135 = .ok (.aload_n 1, 1) := by decide +kernel
theorem dX0_paddle_136 : decode cX0_paddle 136 = .ok (.aload_n 2, 1) := by decide +kernel
theorem dX0_paddle_137 : decode cX0_paddle 137 = .ok (.iload 6, 2) := by decide +kernel
theorem dX0_paddle_139 : decode cX0_paddle 139 = .ok (.invokestatic 16, 3) := by decide +kernel
theorem dX0_paddle_142 : decode cX0_paddle 142 = .ok (.istore 7, 2) := by decide +kernel
theorem dX0_paddle_144 : decode cX0_paddle 144 = .ok (.iinc 8 1, 3) := by decide +kernel
theorem dX0_paddle_147 : decode cX0_paddle 147 = .ok (.goto (-120), 3) := by decide +kernel
theorem dX0_paddle_150 : decode cX0_paddle 150 = .ok (.return_, 1) := by decide +kernel
theorem dX9_goDown_0 : decode cX9_goDown 0 = .ok (.aload_n 0, 1) := by decide +kernel
theorem dX9_goDown_1 : decode cX9_goDown 1 = .ok (.getfield 20, 3) := by decide +kernel
theorem dX9_goDown_4 : decode cX9_goDown 4 = .ok (.aload_n 1, 1) := by decide +kernel
theorem dX9_goDown_5 : decode cX9_goDown 5 = .ok (.getfield 235, 3) := by decide +kernel
theorem dX9_goDown_8 : decode cX9_goDown 8 = .ok (.iload_n 2, 1) := by decide +kernel
theorem dX9_goDown_9 : decode cX9_goDown 9 = .ok (.iaload, 1) := by decide +kernel
theorem dX9_goDown_10 : decode cX9_goDown 10 = .ok (.aaload, 1) := by decide +kernel
theorem dX9_goDown_11 : decode cX9_goDown 11 = .ok (.astore 4, 2) := by decide +kernel
theorem dX9_goDown_13 : decode cX9_goDown 13 = .ok (.aload 4, 2) := by decide +kernel
theorem dX9_goDown_15 : decode cX9_goDown 15 = .ok (.getfield 147, 3) := by decide +kernel
theorem dX9_goDown_18 : decode cX9_goDown 18 = .ok (.ifCond .ne 4, 3) := by decide +kernel
theorem dX9_goDown_21 : decode cX9_goDown 21 = .ok (.return_, 1) := by decide +kernel
theorem dX9_goDown_22 : decode cX9_goDown 22 = .ok (.aload_n 0, 1) := by decide +kernel
theorem dX9_goDown_23 : decode cX9_goDown 23 = .ok (.getfield 31, 3) := by decide +kernel
theorem dX9_goDown_26 : decode cX9_goDown 26 = .ok (.aload_n 0, 1) := by decide +kernel
theorem dX9_goDown_27 : decode cX9_goDown 27 = .ok (.getfield 12, 3) := by decide +kernel
theorem dX9_goDown_30 : decode cX9_goDown 30 = .ok (.aload 4, 2) := by decide +kernel
theorem dX9_goDown_32 : decode cX9_goDown 32 = .ok (.invokevirtual 162, 3) := by decide +kernel
theorem dX9_goDown_35 : decode cX9_goDown 35 = .ok (.iconst 0, 1) := by decide +kernel
theorem dX9_goDown_36 : decode cX9_goDown 36 = .ok (.aload_n 0, 1) := by decide +kernel
theorem dX9_goDown_37 : decode cX9_goDown 37 = .ok (.getfield 31, 3) := by decide +kernel
theorem dX9_goDown_40 : decode cX9_goDown 40 = .ok (.invokevirtual 189, 3) := by decide +kernel
theorem dX9_goDown_43 : decode cX9_goDown 43 = .ok (.invokestatic 321, 3) := by decide +kernel
theorem dX9_goDown_46 : decode cX9_goDown 46 = .ok (.bipush 10, 2) := by decide +kernel
theorem dX9_goDown_48 : decode cX9_goDown 48 = .ok (.idiv, 1) := by decide +kernel
theorem dX9_goDown_49 : decode cX9_goDown 49 = .ok (.istore 5, 2) := by decide +kernel
theorem dX9_goDown_51 : decode cX9_goDown 51 = .ok (.aload_n 0, 1) := by decide +kernel
theorem dX9_goDown_52 : decode cX9_goDown 52 = .ok (.getfield 83, 3) := by decide +kernel
theorem dX9_goDown_55 : decode cX9_goDown 55 = .ok (.aload_n 0, 1) := by decide +kernel
theorem dX9_goDown_56 : decode cX9_goDown 56 = .ok (.getfield 12, 3) := by decide +kernel
theorem dX9_goDown_59 : decode cX9_goDown 59 = .ok (.aload 4, 2) := by decide +kernel
theorem dX9_goDown_61 : decode cX9_goDown 61 = .ok (.iload 5, 2) := by decide +kernel
theorem dX9_goDown_63 : decode cX9_goDown 63 = .ok (.aload_n 0, 1) := by decide +kernel
theorem dX9_goDown_64 : decode cX9_goDown 64 = .ok (.getfield 68, 3) := by decide +kernel
theorem dX9_goDown_67 : decode cX9_goDown 67 = .ok (.iload_n 2, 1) := by decide +kernel
theorem dX9_goDown_68 : decode cX9_goDown 68 = .ok (.iaload, 1) := by decide +kernel
theorem dX9_goDown_69 : decode cX9_goDown 69 = .ok (.bipush 10, 2) := by decide +kernel
theorem dX9_goDown_71 : decode cX9_goDown 71 = .ok (.iload_n 3, 1) := by decide +kernel
theorem dX9_goDown_72 : decode cX9_goDown 72 = .ok (.imul, 1) := by decide +kernel
theorem dX9_goDown_73 : decode cX9_goDown 73 = .ok (.invokevirtual 324, 3) := by decide +kernel
theorem dX9_goDown_76 : decode cX9_goDown 76 = .ok (.aload_n 1, 1) := by decide +kernel
theorem dX9_goDown_77 : decode cX9_goDown 77 = .ok (.getfield 249, 3) := by decide +kernel
theorem dX9_goDown_80 : decode cX9_goDown 80 = .ok (.iload_n 2, 1) := by decide +kernel
theorem dX9_goDown_81 : decode cX9_goDown 81 = .ok (.aload_n 0, 1) := by decide +kernel
theorem dX9_goDown_82 : decode cX9_goDown 82 = .ok (.getfield 83, 3) := by decide +kernel
theorem dX9_goDown_85 : decode cX9_goDown 85 = .ok (.getfield 328, 3) := by decide +kernel
theorem dX9_goDown_88 : decode cX9_goDown 88 = .ok (.iastore, 1) := by decide +kernel
theorem dX9_goDown_89 : decode cX9_goDown 89 = .ok (.aload_n 1, 1) := by decide +kernel
theorem dX9_goDown_90 : decode cX9_goDown 90 = .ok (.getfield 255, 3) := by decide +kernel
theorem dX9_goDown_93 : decode cX9_goDown 93 = .ok (.iload_n 2, 1) := by decide +kernel
theorem dX9_goDown_94 : decode cX9_goDown 94 = .ok (.aload_n 0, 1) := by decide +kernel
theorem dX9_goDown_95 : decode cX9_goDown 95 = .ok (.getfield 83, 3) := by decide +kernel
theorem dX9_goDown_98 : decode cX9_goDown 98 = .ok (.getfield 331, 3) := by decide +kernel
theorem dX9_goDown_101 : decode cX9_goDown 101 = .ok (.iastore, 1) := by decide +kernel
theorem dX9_goDown_102 : decode cX9_goDown 102 = .ok (.return_, 1) := by decide +kernel
theorem dX3_timeCount_0 : decode cX3_timeCount 0 = .ok (.iconst 0, 1) := by decide +kernel
theorem dX3_timeCount_1 : decode cX3_timeCount 1 = .ok (.istore_n 1, 1) := by decide +kernel
theorem dX3_timeCount_2 : decode cX3_timeCount 2 = .ok (.iconst 0, 1) := by decide +kernel
theorem dX3_timeCount_3 : decode cX3_timeCount 3 = .ok (.istore_n 2, 1) := by decide +kernel
theorem dX3_timeCount_4 : decode cX3_timeCount 4 = .ok (.iload_n 2, 1) := by decide +kernel
theorem dX3_timeCount_5 : decode cX3_timeCount 5 = .ok (.iconst 4, 1) := by decide +kernel
theorem dX3_timeCount_6 : decode cX3_timeCount 6 = .ok (.if_icmp .ge 26, 3) := by decide +kernel
theorem dX3_timeCount_9 : decode cX3_timeCount 9 = .ok (.iload_n 1, 1) := by decide +kernel
theorem dX3_timeCount_10 : decode cX3_timeCount 10 = .ok (.aload_n 0, 1) := by decide +kernel
theorem dX3_timeCount_11 : decode cX3_timeCount 11 = .ok (.getfield 26, 3) := by decide +kernel
theorem dX3_timeCount_14 : decode cX3_timeCount 14 = .ok (.iload_n 2, 1) := by decide +kernel
theorem dX3_timeCount_15 : decode cX3_timeCount 15 = .ok (.iaload, 1) := by decide +kernel
theorem dX3_timeCount_16 : decode cX3_timeCount 16 = .ok (.ifCond .le 7, 3) := by decide +kernel
theorem dX3_timeCount_19 : decode cX3_timeCount 19 = .ok (.iconst 1, 1) := by decide +kernel
theorem dX3_timeCount_20 : decode cX3_timeCount 20 = .ok (.goto 4, 3) := by decide +kernel
theorem dX3_timeCount_23 : decode cX3_timeCount 23 = .ok (.iconst 0, 1) := by decide +kernel
theorem dX3_timeCount_24 : decode cX3_timeCount 24 = .ok (.iadd, 1) := by decide +kernel
theorem dX3_timeCount_25 : decode cX3_timeCount 25 = .ok (.istore_n 1, 1) := by decide +kernel
theorem dX3_timeCount_26 : decode cX3_timeCount 26 = .ok (.iinc 2 1, 3) := by decide +kernel
theorem dX3_timeCount_29 : decode cX3_timeCount 29 = .ok (.goto (-25), 3) := by decide +kernel
theorem dX3_timeCount_32 : decode cX3_timeCount 32 = .ok (.iload_n 1, 1) := by decide +kernel
theorem dX3_timeCount_33 : decode cX3_timeCount 33 = .ok (.ireturn, 1) := by decide +kernel
theorem dX9_run_0 : decode cX9_run 0 = .ok (.aload_n 0, 1) := by decide +kernel
theorem dX9_run_1 : decode cX9_run 1 = .ok (.iload_n 1, 1) := by decide +kernel
theorem dX9_run_2 : decode cX9_run 2 = .ok (.invokevirtual 229, 3) := by decide +kernel
theorem dX9_run_5 : decode cX9_run 5 = .ok (.ifCond .ne 5, 3) := by decide +kernel
theorem dX9_run_8 : decode cX9_run 8 = .ok (.iconst (-1), 1) := by decide +kernel
theorem dX9_run_9 : decode cX9_run 9 = .ok (.ireturn, 1) := by decide +kernel
theorem dX9_run_10 : decode cX9_run 10 = .ok (.iload_n 2, 1) := by decide +kernel
theorem dX9_run_11 : decode cX9_run 11 = .ok (.bipush 100, 2) := by decide +kernel
theorem dX9_run_13 : decode cX9_run 13 = .ok (.sipush 2000, 3) := by decide +kernel
theorem dX9_run_16 : decode cX9_run 16 = .ok (.invokestatic 97, 3) := by decide +kernel
theorem dX9_run_19 : decode cX9_run 19 = .ok (.ifCond .ne 6, 3) := by decide +kernel
theorem dX9_run_22 : decode cX9_run 22 = .ok (.bipush (-2), 2) := by decide +kernel
theorem dX9_run_24 : decode cX9_run 24 = .ok (.ireturn, 1) := by decide +kernel
theorem dX9_run_25 : decode cX9_run 25 = .ok (.aload_n 0, 1) := by decide +kernel
theorem dX9_run_26 : decode cX9_run 26 = .ok (.getfield 73, 3) := by decide +kernel
theorem dX9_run_29 : decode cX9_run 29 = .ok (.iload_n 1, 1) := by decide +kernel
theorem dX9_run_30 : decode cX9_run 30 = .ok (.aaload, 1) := by decide +kernel
theorem dX9_run_31 : decode cX9_run 31 = .ok (.astore_n 3, 1) := by decide +kernel
theorem dX9_run_32 : decode cX9_run 32 = .ok (.aload_n 3, 1) := by decide +kernel
theorem dX9_run_33 : decode cX9_run 33 = .ok (.getfield 232, 3) := by decide +kernel
theorem dX9_run_36 : decode cX9_run 36 = .ok (.ifCond .eq 6, 3) := by decide +kernel
theorem dX9_run_39 : decode cX9_run 39 = .ok (.bipush (-3), 2) := by decide +kernel
theorem dX9_run_41 : decode cX9_run 41 = .ok (.ireturn, 1) := by decide +kernel
theorem dX9_run_42 : decode cX9_run 42 = .ok (.aload_n 3, 1) := by decide +kernel
theorem dX9_run_43 : decode cX9_run 43 = .ok (.iconst 1, 1) := by decide +kernel
theorem dX9_run_44 : decode cX9_run 44 = .ok (.putfield 232, 3) := by decide +kernel
theorem dX9_run_47 : decode cX9_run 47 = .ok (.iconst 0, 1) := by decide +kernel
theorem dX9_run_48 : decode cX9_run 48 = .ok (.istore 4, 2) := by decide +kernel
theorem dX9_run_50 : decode cX9_run 50 = .ok (.iload 4, 2) := by decide +kernel
theorem dX9_run_52 : decode cX9_run 52 = .ok (.iconst 4, 1) := by decide +kernel
theorem dX9_run_53 : decode cX9_run 53 = .ok (.if_icmp .ge 38, 3) := by decide +kernel
theorem dX9_run_56 : decode cX9_run 56 = .ok (.aload_n 3, 1) := by decide +kernel
theorem dX9_run_57 : decode cX9_run 57 = .ok (.getfield 235, 3) := by decide +kernel
theorem dX9_run_60 : decode cX9_run 60 = .ok (.iload 4, 2) := by decide +kernel
theorem dX9_run_62 : decode cX9_run 62 = .ok (.iaload, 1) := by decide +kernel
theorem dX9_run_63 : decode cX9_run 63 = .ok (.iconst (-1), 1) := by decide +kernel
theorem dX9_run_64 : decode cX9_run 64 = .ok (.if_icmp .eq 21, 3) := by decide +kernel
theorem dX9_run_67 : decode cX9_run 67 = .ok (.aload_n 3, 1) := by decide +kernel
theorem dX9_run_68 : decode cX9_run 68 = .ok (.getfield 237, 3) := by decide +kernel
theorem dX9_run_71 : decode cX9_run 71 = .ok (.iload 4, 2) := by decide +kernel
theorem dX9_run_73 : decode cX9_run 73 = .ok (.baload, 1) := by decide +kernel
theorem dX9_run_74 : decode cX9_run 74 = .ok (.ifCond .ne 11, 3) := by decide +kernel
theorem dX9_run_77 : decode cX9_run 77 = .ok (.aload_n 0, 1) := by decide +kernel
theorem dX9_run_78 : decode cX9_run 78 = .ok (.aload_n 3, 1) := by decide +kernel
theorem dX9_run_79 : decode cX9_run 79 = .ok (.iload 4, 2) := by decide +kernel
theorem dX9_run_81 : decode cX9_run 81 = .ok (.iload_n 2, 1) := by decide +kernel
theorem dX9_run_82 : decode cX9_run 82 = .ok (.invokevirtual 241, 3) := by decide +kernel
theorem dX9_run_85 : decode cX9_run 85 = .ok (.iinc 4 1, 3) := by decide +kernel
theorem dX9_run_88 : decode cX9_run 88 = .ok (.goto (-38), 3) := by decide +kernel
theorem dX9_run_91 : decode cX9_run 91 = .ok (.aload_n 3, 1) := by decide +kernel
theorem dX9_run_92 : decode cX9_run 92 = .ok (.invokevirtual 245, 3) := by decide +kernel
theorem dX9_run_95 : decode cX9_run 95 = .ok (.ireturn, 1) := by decide +kernel
theorem dX9_time_0 : decode cX9_time 0 = .ok (.aload_n 0, 1) := by decide +kernel
theorem dX9_time_1 : decode cX9_time 1 = .ok (.iload_n 1, 1) := by decide +kernel
theorem dX9_time_2 : decode cX9_time 2 = .ok (.invokevirtual 229, 3) := by decide +kernel
theorem dX9_time_5 : decode cX9_time 5 = .ok (.ifCond .eq 25, 3) := by decide +kernel
theorem dX9_time_8 : decode cX9_time 8 = .ok (.iload_n 2, 1) := by decide +kernel
theorem dX9_time_9 : decode cX9_time 9 = .ok (.invokestatic 211, 3) := by decide +kernel
theorem dX9_time_12 : decode cX9_time 12 = .ok (.ifCond .eq 18, 3) := by decide +kernel
theorem dX9_time_15 : decode cX9_time 15 = .ok (.aload_n 0, 1) := by decide +kernel
theorem dX9_time_16 : decode cX9_time 16 = .ok (.getfield 73, 3) := by decide +kernel
theorem dX9_time_19 : decode cX9_time 19 = .ok (.iload_n 1, 1) := by decide +kernel
theorem dX9_time_20 : decode cX9_time 20 = .ok (.aaload, 1) := by decide +kernel
theorem dX9_time_21 : decode cX9_time 21 = .ok (.getfield 235, 3) := by decide +kernel
theorem dX9_time_24 : decode cX9_time 24 = .ok (.iload_n 2, 1) := by decide +kernel
theorem dX9_time_25 : decode cX9_time 25 = .ok (.iaload, 1) := by decide +kernel
theorem dX9_time_26 : decode cX9_time 26 = .ok (.iconst (-1), 1) := by decide +kernel
theorem dX9_time_27 : decode cX9_time 27 = .ok (.if_icmp .ne 5, 3) := by decide +kernel
theorem dX9_time_30 : decode cX9_time 30 = .ok (.iconst (-1), 1) := by decide +kernel
theorem dX9_time_31 : decode cX9_time 31 = .ok (.ireturn, 1) := by decide +kernel
theorem dX9_time_32 : decode cX9_time 32 = .ok (.iload_n 3, 1) := by decide +kernel
theorem dX9_time_33 : decode cX9_time 33 = .ok (.iconst 0, 1) := by decide +kernel
theorem dX9_time_34 : decode cX9_time 34 = .ok (.ldc 248, 2) := by decide +kernel
theorem dX9_time_36 : decode cX9_time 36 = .ok (.invokestatic 97, 3) := by decide +kernel
theorem dX9_time_39 : decode cX9_time 39 = .ok (.ifCond .ne 6, 3) := by decide +kernel
theorem dX9_time_42 : decode cX9_time 42 = .ok (.bipush (-2), 2) := by decide +kernel
theorem dX9_time_44 : decode cX9_time 44 = .ok (.ireturn, 1) := by decide +kernel
theorem dX9_time_45 : decode cX9_time 45 = .ok (.aload_n 0, 1) := by decide +kernel
theorem dX9_time_46 : decode cX9_time 46 = .ok (.getfield 73, 3) := by decide +kernel
theorem dX9_time_49 : decode cX9_time 49 = .ok (.iload_n 1, 1) := by decide +kernel
theorem dX9_time_50 : decode cX9_time 50 = .ok (.aaload, 1) := by decide +kernel
theorem dX9_time_51 : decode cX9_time 51 = .ok (.astore 4, 2) := by decide +kernel
theorem dX9_time_53 : decode cX9_time 53 = .ok (.aload 4, 2) := by decide +kernel
theorem dX9_time_55 : decode cX9_time 55 = .ok (.getfield 237, 3) := by decide +kernel
theorem dX9_time_58 : decode cX9_time 58 = .ok (.iload_n 2, 1) := by decide +kernel
theorem dX9_time_59 : decode cX9_time 59 = .ok (.baload, 1) := by decide +kernel
theorem dX9_time_60 : decode cX9_time 60 = .ok (.ifCond .eq 6, 3) := by decide +kernel
theorem dX9_time_63 : decode cX9_time 63 = .ok (.bipush (-3), 2) := by decide +kernel
theorem dX9_time_65 : decode cX9_time 65 = .ok (.ireturn, 1) := by decide +kernel
theorem dX9_time_66 : decode cX9_time 66 = .ok (.aload 4, 2) := by decide +kernel
theorem dX9_time_68 : decode cX9_time 68 = .ok (.getfield 249, 3) := by decide +kernel
theorem dX9_time_71 : decode cX9_time 71 = .ok (.iload_n 2, 1) := by decide +kernel
theorem dX9_time_72 : decode cX9_time 72 = .ok (.iaload, 1) := by decide +kernel
theorem dX9_time_73 : decode cX9_time 73 = .ok (.istore 5, 2) := by decide +kernel
theorem dX9_time_75 : decode cX9_time 75 = .ok (.aload 4, 2) := by decide +kernel
theorem dX9_time_77 : decode cX9_time 77 = .ok (.getfield 249, 3) := by decide +kernel
theorem dX9_time_80 : decode cX9_time 80 = .ok (.iload_n 2, 1) := by decide +kernel
theorem dX9_time_81 : decode cX9_time 81 = .ok (.iload_n 3, 1) := by decide +kernel
theorem dX9_time_82 : decode cX9_time 82 = .ok (.iastore, 1) := by decide +kernel
theorem dX9_time_83 : decode cX9_time 83 = .ok (.aload 4, 2) := by decide +kernel
theorem dX9_time_85 : decode cX9_time 85 = .ok (.aload 4, 2) := by decide +kernel
theorem dX9_time_87 : decode cX9_time 87 = .ok (.getfield 232, 3) := by decide +kernel
theorem dX9_time_90 : decode cX9_time 90 = .ok (.ifCond .ne 7, 3) := by decide +kernel
theorem dX9_time_93 : decode cX9_time 93 = .ok (.iload_n 3, 1) := by decide +kernel
theorem dX9_time_94 : decode cX9_time 94 = .ok (.ifCond .le 7, 3) := by decide +kernel
theorem dX9_time_97 : decode cX9_time 97 = .ok (.iconst 1, 1) := by decide +kernel
theorem dX9_time_98 : decode cX9_time 98 = .ok (.goto 4, 3) := by decide +kernel
theorem dX9_time_101 : decode cX9_time 101 = .ok (.iconst 0, 1) := by decide +kernel
theorem dX9_time_102 : decode cX9_time 102 = .ok (.putfield 232, 3) := by decide +kernel
theorem dX9_time_105 : decode cX9_time 105 = .ok (.iload 5, 2) := by decide +kernel
theorem dX9_time_107 : decode cX9_time 107 = .ok (.ireturn, 1) := by decide +kernel
theorem dX3_placeOf_0 : decode cX3_placeOf 0 = .ok (.aload_n 0, 1) := by decide +kernel
theorem dX3_placeOf_1 : decode cX3_placeOf 1 = .ok (.getfield 26, 3) := by decide +kernel
theorem dX3_placeOf_4 : decode cX3_placeOf 4 = .ok (.iload_n 1, 1) := by decide +kernel
theorem dX3_placeOf_5 : decode cX3_placeOf 5 = .ok (.iaload, 1) := by decide +kernel
theorem dX3_placeOf_6 : decode cX3_placeOf 6 = .ok (.ifCond .ne 5, 3) := by decide +kernel
theorem dX3_placeOf_9 : decode cX3_placeOf 9 = .ok (.iconst 0, 1) := by decide +kernel
theorem dX3_placeOf_10 : decode cX3_placeOf 10 = .ok (.ireturn, 1) := by decide +kernel
theorem dX3_placeOf_11 : decode cX3_placeOf 11 = .ok (.iconst 1, 1) := by decide +kernel
theorem dX3_placeOf_12 : decode cX3_placeOf 12 = .ok (.istore_n 2, 1) := by decide +kernel
theorem dX3_placeOf_13 : decode cX3_placeOf 13 = .ok (.iconst 0, 1) := by decide +kernel
theorem dX3_placeOf_14 : decode cX3_placeOf 14 = .ok (.istore_n 3, 1) := by decide +kernel
theorem dX3_placeOf_15 : decode cX3_placeOf 15 = .ok (.iload_n 3, 1) := by decide +kernel
theorem dX3_placeOf_16 : decode cX3_placeOf 16 = .ok (.iconst 4, 1) := by decide +kernel
theorem dX3_placeOf_17 : decode cX3_placeOf 17 = .ok (.if_icmp .ge 41, 3) := by decide +kernel
theorem dX3_placeOf_20 : decode cX3_placeOf 20 = .ok (.iload_n 2, 1) := by decide +kernel
theorem dX3_placeOf_21 : decode cX3_placeOf 21 = .ok (.aload_n 0, 1) := by decide +kernel
theorem dX3_placeOf_22 : decode cX3_placeOf 22 = .ok (.getfield 26, 3) := by decide +kernel
theorem dX3_placeOf_25 : decode cX3_placeOf 25 = .ok (.iload_n 3, 1) := by decide +kernel
theorem dX3_placeOf_26 : decode cX3_placeOf 26 = .ok (.iaload, 1) := by decide +kernel
theorem dX3_placeOf_27 : decode cX3_placeOf 27 = .ok (.ifCond .le 22, 3) := by decide +kernel
theorem dX3_placeOf_30 : decode cX3_placeOf 30 = .ok (.aload_n 0, 1) := by decide +kernel
theorem dX3_placeOf_31 : decode cX3_placeOf 31 = .ok (.getfield 26, 3) := by decide +kernel
theorem dX3_placeOf_34 : decode cX3_placeOf 34 = .ok (.iload_n 3, 1) := by decide +kernel
theorem dX3_placeOf_35 : decode cX3_placeOf 35 = .ok (.iaload, 1) := by decide +kernel
theorem dX3_placeOf_36 : decode cX3_placeOf 36 = .ok (.aload_n 0, 1) := by decide +kernel
theorem dX3_placeOf_37 : decode cX3_placeOf 37 = .ok (.getfield 26, 3) := by decide +kernel
theorem dX3_placeOf_40 : decode cX3_placeOf 40 = .ok (.iload_n 1, 1) := by decide +kernel
theorem dX3_placeOf_41 : decode cX3_placeOf 41 = .ok (.iaload, 1) := by decide +kernel
theorem dX3_placeOf_42 : decode cX3_placeOf 42 = .ok (.if_icmp .ge 7, 3) := by decide +kernel
theorem dX3_placeOf_45 : decode cX3_placeOf 45 = .ok (.iconst 1, 1) := by decide +kernel
theorem dX3_placeOf_46 : decode cX3_placeOf 46 = .ok (.goto 4, 3) := by decide +kernel
theorem dX3_placeOf_49 : decode cX3_placeOf 49 = .ok (.iconst 0, 1) := by decide +kernel
theorem dX3_placeOf_50 : decode cX3_placeOf 50 = .ok (.iadd, 1) := by decide +kernel
theorem dX3_placeOf_51 : decode cX3_placeOf 51 = .ok (.istore_n 2, 1) := by decide +kernel
theorem dX3_placeOf_52 : decode cX3_placeOf 52 = .ok (.iinc 3 1, 3) := by decide +kernel
theorem dX3_placeOf_55 : decode cX3_placeOf 55 = .ok (.goto (-40), 3) := by decide +kernel
theorem dX3_placeOf_58 : decode cX3_placeOf 58 = .ok (.iload_n 2, 1) := by decide +kernel
theorem dX3_placeOf_59 : decode cX3_placeOf 59 = .ok (.ireturn, 1) := by decide +kernel
theorem dX9_told_0 : decode cX9_told 0 = .ok (.aload_n 0, 1) := by decide +kernel
theorem dX9_told_1 : decode cX9_told 1 = .ok (.iload_n 1, 1) := by decide +kernel
theorem dX9_told_2 : decode cX9_told 2 = .ok (.invokevirtual 229, 3) := by decide +kernel
theorem dX9_told_5 : decode cX9_told 5 = .ok (.ifCond .eq 25, 3) := by decide +kernel
theorem dX9_told_8 : decode cX9_told 8 = .ok (.iload_n 2, 1) := by decide +kernel
theorem dX9_told_9 : decode cX9_told 9 = .ok (.invokestatic 211, 3) := by decide +kernel
theorem dX9_told_12 : decode cX9_told 12 = .ok (.ifCond .eq 18, 3) := by decide +kernel
theorem dX9_told_15 : decode cX9_told 15 = .ok (.aload_n 0, 1) := by decide +kernel
theorem dX9_told_16 : decode cX9_told 16 = .ok (.getfield 73, 3) := by decide +kernel
theorem dX9_told_19 : decode cX9_told 19 = .ok (.iload_n 1, 1) := by decide +kernel
theorem dX9_told_20 : decode cX9_told 20 = .ok (.aaload, 1) := by decide +kernel
theorem dX9_told_21 : decode cX9_told 21 = .ok (.getfield 235, 3) := by decide +kernel
theorem dX9_told_24 : decode cX9_told 24 = .ok (.iload_n 2, 1) := by decide +kernel
theorem dX9_told_25 : decode cX9_told 25 = .ok (.iaload, 1) := by decide +kernel
theorem dX9_told_26 : decode cX9_told 26 = .ok (.iconst (-1), 1) := by decide +kernel
theorem dX9_told_27 : decode cX9_told 27 = .ok (.if_icmp .ne 5, 3) := by decide +kernel
theorem dX9_told_30 : decode cX9_told 30 = .ok (.iconst (-1), 1) := by decide +kernel
theorem dX9_told_31 : decode cX9_told 31 = .ok (.ireturn, 1) := by decide +kernel
theorem dX9_told_32 : decode cX9_told 32 = .ok (.iload_n 3, 1) := by decide +kernel
theorem dX9_told_33 : decode cX9_told 33 = .ok (.tableswitch 78 0 3 #[31, 43, 55, 66], 31) := by decide +kernel
theorem dX9_told_64 : decode cX9_told 64 = .ok (.aload_n 0, 1) := by decide +kernel
theorem dX9_told_65 : decode cX9_told 65 = .ok (.getfield 73, 3) := by decide +kernel
theorem dX9_told_68 : decode cX9_told 68 = .ok (.iload_n 1, 1) := by decide +kernel
theorem dX9_told_69 : decode cX9_told 69 = .ok (.aaload, 1) := by decide +kernel
theorem dX9_told_70 : decode cX9_told 70 = .ok (.getfield 235, 3) := by decide +kernel
theorem dX9_told_73 : decode cX9_told 73 = .ok (.iload_n 2, 1) := by decide +kernel
theorem dX9_told_74 : decode cX9_told 74 = .ok (.iaload, 1) := by decide +kernel
theorem dX9_told_75 : decode cX9_told 75 = .ok (.ireturn, 1) := by decide +kernel
theorem dX9_told_76 : decode cX9_told 76 = .ok (.aload_n 0, 1) := by decide +kernel
theorem dX9_told_77 : decode cX9_told 77 = .ok (.getfield 73, 3) := by decide +kernel
theorem dX9_told_80 : decode cX9_told 80 = .ok (.iload_n 1, 1) := by decide +kernel
theorem dX9_told_81 : decode cX9_told 81 = .ok (.aaload, 1) := by decide +kernel
theorem dX9_told_82 : decode cX9_told 82 = .ok (.getfield 249, 3) := by decide +kernel
theorem dX9_told_85 : decode cX9_told 85 = .ok (.iload_n 2, 1) := by decide +kernel
theorem dX9_told_86 : decode cX9_told 86 = .ok (.iaload, 1) := by decide +kernel
theorem dX9_told_87 : decode cX9_told 87 = .ok (.ireturn, 1) := by decide +kernel
theorem dX9_told_88 : decode cX9_told 88 = .ok (.aload_n 0, 1) := by decide +kernel
theorem dX9_told_89 : decode cX9_told 89 = .ok (.getfield 73, 3) := by decide +kernel
theorem dX9_told_92 : decode cX9_told 92 = .ok (.iload_n 1, 1) := by decide +kernel
theorem dX9_told_93 : decode cX9_told 93 = .ok (.aaload, 1) := by decide +kernel
theorem dX9_told_94 : decode cX9_told 94 = .ok (.iload_n 2, 1) := by decide +kernel
theorem dX9_told_95 : decode cX9_told 95 = .ok (.invokevirtual 252, 3) := by decide +kernel
theorem dX9_told_98 : decode cX9_told 98 = .ok (.ireturn, 1) := by decide +kernel
theorem dX9_told_99 : decode cX9_told 99 = .ok (.aload_n 0, 1) := by decide +kernel
theorem dX9_told_100 : decode cX9_told 100 = .ok (.getfield 73, 3) := by decide +kernel
theorem dX9_told_103 : decode cX9_told 103 = .ok (.iload_n 1, 1) := by decide +kernel
theorem dX9_told_104 : decode cX9_told 104 = .ok (.aaload, 1) := by decide +kernel
theorem dX9_told_105 : decode cX9_told 105 = .ok (.getfield 255, 3) := by decide +kernel
theorem dX9_told_108 : decode cX9_told 108 = .ok (.iload_n 2, 1) := by decide +kernel
theorem dX9_told_109 : decode cX9_told 109 = .ok (.iaload, 1) := by decide +kernel
theorem dX9_told_110 : decode cX9_told 110 = .ok (.ireturn, 1) := by decide +kernel
theorem dX9_told_111 : decode cX9_told 111 = .ok (.iconst (-1), 1) := by decide +kernel
theorem dX9_told_112 : decode cX9_told 112 = .ok (.ireturn, 1) := by decide +kernel
theorem dX3_forgetTimes_0 : decode cX3_forgetTimes 0 = .ok (.aload_n 0, 1) := by decide +kernel
theorem dX3_forgetTimes_1 : decode cX3_forgetTimes 1 = .ok (.iconst 0, 1) := by decide +kernel
theorem dX3_forgetTimes_2 : decode cX3_forgetTimes 2 = .ok (.putfield 18, 3) := by decide +kernel
theorem dX3_forgetTimes_5 : decode cX3_forgetTimes 5 = .ok (.iconst 0, 1) := by decide +kernel
theorem dX3_forgetTimes_6 : decode cX3_forgetTimes 6 = .ok (.istore_n 1, 1) := by decide +kernel
theorem dX3_forgetTimes_7 : decode cX3_forgetTimes 7 = .ok (.iload_n 1, 1) := by decide +kernel
theorem dX3_forgetTimes_8 : decode cX3_forgetTimes 8 = .ok (.iconst 4, 1) := by decide +kernel
theorem dX3_forgetTimes_9 : decode cX3_forgetTimes 9 = .ok (.if_icmp .ge 23, 3) := by decide +kernel
theorem dX3_forgetTimes_12 : decode cX3_forgetTimes 12 = .ok (.aload_n 0, 1) := by decide +kernel
theorem dX3_forgetTimes_13 : decode cX3_forgetTimes 13 = .ok (.getfield 26, 3) := by decide +kernel
theorem dX3_forgetTimes_16 : decode cX3_forgetTimes 16 = .ok (.iload_n 1, 1) := by decide +kernel
theorem dX3_forgetTimes_17 : decode cX3_forgetTimes 17 = .ok (.iconst 0, 1) := by decide +kernel
theorem dX3_forgetTimes_18 : decode cX3_forgetTimes 18 = .ok (.iastore, 1) := by decide +kernel
theorem dX3_forgetTimes_19 : decode cX3_forgetTimes 19 = .ok (.aload_n 0, 1) := by decide +kernel
theorem dX3_forgetTimes_20 : decode cX3_forgetTimes 20 = .ok (.getfield 29, 3) := by decide +kernel
theorem dX3_forgetTimes_23 : decode cX3_forgetTimes 23 = .ok (.iload_n 1, 1) := by decide +kernel
theorem dX3_forgetTimes_24 : decode cX3_forgetTimes 24 = .ok (.iconst 0, 1) := by decide +kernel
theorem dX3_forgetTimes_25 : decode cX3_forgetTimes 25 = .ok (.iastore, 1) := by decide +kernel
theorem dX3_forgetTimes_26 : decode cX3_forgetTimes 26 = .ok (.iinc 1 1, 3) := by decide +kernel
theorem dX3_forgetTimes_29 : decode cX3_forgetTimes 29 = .ok (.goto (-22), 3) := by decide +kernel
theorem dX3_forgetTimes_32 : decode cX3_forgetTimes 32 = .ok (.return_, 1) := by decide +kernel
theorem dX9_again_0 : decode cX9_again 0 = .ok (.aload_n 0, 1) := by decide +kernel
theorem dX9_again_1 : decode cX9_again 1 = .ok (.iload_n 1, 1) := by decide +kernel
theorem dX9_again_2 : decode cX9_again 2 = .ok (.invokevirtual 229, 3) := by decide +kernel
theorem dX9_again_5 : decode cX9_again 5 = .ok (.ifCond .ne 5, 3) := by decide +kernel
theorem dX9_again_8 : decode cX9_again 8 = .ok (.iconst (-1), 1) := by decide +kernel
theorem dX9_again_9 : decode cX9_again 9 = .ok (.ireturn, 1) := by decide +kernel
theorem dX9_again_10 : decode cX9_again 10 = .ok (.aload_n 0, 1) := by decide +kernel
theorem dX9_again_11 : decode cX9_again 11 = .ok (.getfield 73, 3) := by decide +kernel
theorem dX9_again_14 : decode cX9_again 14 = .ok (.iload_n 1, 1) := by decide +kernel
theorem dX9_again_15 : decode cX9_again 15 = .ok (.aaload, 1) := by decide +kernel
theorem dX9_again_16 : decode cX9_again 16 = .ok (.invokevirtual 245, 3) := by decide +kernel
theorem dX9_again_19 : decode cX9_again 19 = .ok (.istore_n 2, 1) := by decide +kernel
theorem dX9_again_20 : decode cX9_again 20 = .ok (.aload_n 0, 1) := by decide +kernel
theorem dX9_again_21 : decode cX9_again 21 = .ok (.getfield 73, 3) := by decide +kernel
theorem dX9_again_24 : decode cX9_again 24 = .ok (.iload_n 1, 1) := by decide +kernel
theorem dX9_again_25 : decode cX9_again 25 = .ok (.aaload, 1) := by decide +kernel
theorem dX9_again_26 : decode cX9_again 26 = .ok (.invokevirtual 258, 3) := by decide +kernel
theorem dX9_again_29 : decode cX9_again 29 = .ok (.iload_n 2, 1) := by decide +kernel
theorem dX9_again_30 : decode cX9_again 30 = .ok (.ireturn, 1) := by decide +kernel
theorem dX3_laneOf_0 : decode cX3_laneOf 0 = .ok (.iconst 0, 1) := by decide +kernel
theorem dX3_laneOf_1 : decode cX3_laneOf 1 = .ok (.istore_n 2, 1) := by decide +kernel
theorem dX3_laneOf_2 : decode cX3_laneOf 2 = .ok (.iload_n 2, 1) := by decide +kernel
theorem dX3_laneOf_3 : decode cX3_laneOf 3 = .ok (.iconst 4, 1) := by decide +kernel
theorem dX3_laneOf_4 : decode cX3_laneOf 4 = .ok (.if_icmp .ge 21, 3) := by decide +kernel
theorem dX3_laneOf_7 : decode cX3_laneOf 7 = .ok (.aload_n 0, 1) := by decide +kernel
theorem dX3_laneOf_8 : decode cX3_laneOf 8 = .ok (.getfield 22, 3) := by decide +kernel
theorem dX3_laneOf_11 : decode cX3_laneOf 11 = .ok (.iload_n 2, 1) := by decide +kernel
theorem dX3_laneOf_12 : decode cX3_laneOf 12 = .ok (.iaload, 1) := by decide +kernel
theorem dX3_laneOf_13 : decode cX3_laneOf 13 = .ok (.iload_n 1, 1) := by decide +kernel
theorem dX3_laneOf_14 : decode cX3_laneOf 14 = .ok (.if_icmp .ne 5, 3) := by decide +kernel
theorem dX3_laneOf_17 : decode cX3_laneOf 17 = .ok (.iload_n 2, 1) := by decide +kernel
theorem dX3_laneOf_18 : decode cX3_laneOf 18 = .ok (.ireturn, 1) := by decide +kernel
theorem dX3_laneOf_19 : decode cX3_laneOf 19 = .ok (.iinc 2 1, 3) := by decide +kernel
theorem dX3_laneOf_22 : decode cX3_laneOf 22 = .ok (.goto (-20), 3) := by decide +kernel
theorem dX3_laneOf_25 : decode cX3_laneOf 25 = .ok (.iconst (-1), 1) := by decide +kernel
theorem dX3_laneOf_26 : decode cX3_laneOf 26 = .ok (.ireturn, 1) := by decide +kernel
theorem dX9_strike_0 : decode cX9_strike 0 = .ok (.aload_n 0, 1) := by decide +kernel
theorem dX9_strike_1 : decode cX9_strike 1 = .ok (.iload_n 1, 1) := by decide +kernel
theorem dX9_strike_2 : decode cX9_strike 2 = .ok (.invokevirtual 229, 3) := by decide +kernel
theorem dX9_strike_5 : decode cX9_strike 5 = .ok (.ifCond .eq 11, 3) := by decide +kernel
theorem dX9_strike_8 : decode cX9_strike 8 = .ok (.aload_n 0, 1) := by decide +kernel
theorem dX9_strike_9 : decode cX9_strike 9 = .ok (.iload_n 2, 1) := by decide +kernel
theorem dX9_strike_10 : decode cX9_strike 10 = .ok (.invokevirtual 126, 3) := by decide +kernel
theorem dX9_strike_13 : decode cX9_strike 13 = .ok (.ifCond .ne 5, 3) := by decide +kernel
theorem dX9_strike_16 : decode cX9_strike 16 = .ok (.iconst (-1), 1) := by decide +kernel
theorem dX9_strike_17 : decode cX9_strike 17 = .ok (.ireturn, 1) := by decide +kernel
theorem dX9_strike_18 : decode cX9_strike 18 = .ok (.aload_n 0, 1) := by decide +kernel
theorem dX9_strike_19 : decode cX9_strike 19 = .ok (.getfield 73, 3) := by decide +kernel
theorem dX9_strike_22 : decode cX9_strike 22 = .ok (.iload_n 1, 1) := by decide +kernel
theorem dX9_strike_23 : decode cX9_strike 23 = .ok (.aaload, 1) := by decide +kernel
theorem dX9_strike_24 : decode cX9_strike 24 = .ok (.astore_n 3, 1) := by decide +kernel
theorem dX9_strike_25 : decode cX9_strike 25 = .ok (.aload_n 3, 1) := by decide +kernel
theorem dX9_strike_26 : decode cX9_strike 26 = .ok (.iload_n 2, 1) := by decide +kernel
theorem dX9_strike_27 : decode cX9_strike 27 = .ok (.invokevirtual 261, 3) := by decide +kernel
theorem dX9_strike_30 : decode cX9_strike 30 = .ok (.istore 4, 2) := by decide +kernel
theorem dX9_strike_32 : decode cX9_strike 32 = .ok (.iload 4, 2) := by decide +kernel
theorem dX9_strike_34 : decode cX9_strike 34 = .ok (.iconst (-1), 1) := by decide +kernel
theorem dX9_strike_35 : decode cX9_strike 35 = .ok (.if_icmp .ne 5, 3) := by decide +kernel
theorem dX9_strike_38 : decode cX9_strike 38 = .ok (.iconst (-1), 1) := by decide +kernel
theorem dX9_strike_39 : decode cX9_strike 39 = .ok (.ireturn, 1) := by decide +kernel
theorem dX9_strike_40 : decode cX9_strike 40 = .ok (.aload_n 3, 1) := by decide +kernel
theorem dX9_strike_41 : decode cX9_strike 41 = .ok (.getfield 237, 3) := by decide +kernel
theorem dX9_strike_44 : decode cX9_strike 44 = .ok (.iload 4, 2) := by decide +kernel
theorem dX9_strike_46 : decode cX9_strike 46 = .ok (.baload, 1) := by decide +kernel
theorem dX9_strike_47 : decode cX9_strike 47 = .ok (.ifCond .eq 6, 3) := by decide +kernel
theorem dX9_strike_50 : decode cX9_strike 50 = .ok (.bipush (-3), 2) := by decide +kernel
theorem dX9_strike_52 : decode cX9_strike 52 = .ok (.ireturn, 1) := by decide +kernel
theorem dX9_strike_53 : decode cX9_strike 53 = .ok (.aload_n 3, 1) := by decide +kernel
theorem dX9_strike_54 : decode cX9_strike 54 = .ok (.iload 4, 2) := by decide +kernel
theorem dX9_strike_56 : decode cX9_strike 56 = .ok (.invokevirtual 252, 3) := by decide +kernel
theorem dX9_strike_59 : decode cX9_strike 59 = .ok (.istore 5, 2) := by decide +kernel
theorem dX9_strike_61 : decode cX9_strike 61 = .ok (.aload_n 3, 1) := by decide +kernel
theorem dX9_strike_62 : decode cX9_strike 62 = .ok (.getfield 237, 3) := by decide +kernel
theorem dX9_strike_65 : decode cX9_strike 65 = .ok (.iload 4, 2) := by decide +kernel
theorem dX9_strike_67 : decode cX9_strike 67 = .ok (.iconst 1, 1) := by decide +kernel
theorem dX9_strike_68 : decode cX9_strike 68 = .ok (.bastore, 1) := by decide +kernel
theorem dX9_strike_69 : decode cX9_strike 69 = .ok (.aload_n 3, 1) := by decide +kernel
theorem dX9_strike_70 : decode cX9_strike 70 = .ok (.getfield 249, 3) := by decide +kernel
theorem dX9_strike_73 : decode cX9_strike 73 = .ok (.iload 4, 2) := by decide +kernel
theorem dX9_strike_75 : decode cX9_strike 75 = .ok (.iconst 0, 1) := by decide +kernel
theorem dX9_strike_76 : decode cX9_strike 76 = .ok (.iastore, 1) := by decide +kernel
theorem dX9_strike_77 : decode cX9_strike 77 = .ok (.iload 5, 2) := by decide +kernel
theorem dX9_strike_79 : decode cX9_strike 79 = .ok (.ireturn, 1) := by decide +kernel
theorem dX2_addHeat_0 : decode cX2_addHeat 0 = .ok (.iconst 0, 1) := by decide +kernel
theorem dX2_addHeat_1 : decode cX2_addHeat 1 = .ok (.istore_n 3, 1) := by decide +kernel
theorem dX2_addHeat_2 : decode cX2_addHeat 2 = .ok (.iload_n 3, 1) := by decide +kernel
theorem dX2_addHeat_3 : decode cX2_addHeat 3 = .ok (.iconst 4, 1) := by decide +kernel
theorem dX2_addHeat_4 : decode cX2_addHeat 4 = .ok (.if_icmp .ge 124, 3) := by decide +kernel
theorem dX2_addHeat_7 : decode cX2_addHeat 7 = .ok (.aload_n 1, 1) := by decide +kernel
theorem dX2_addHeat_8 : decode cX2_addHeat 8 = .ok (.getfield 45, 3) := by decide +kernel
theorem dX2_addHeat_11 : decode cX2_addHeat 11 = .ok (.iload_n 3, 1) := by decide +kernel
theorem dX2_addHeat_12 : decode cX2_addHeat 12 = .ok (.iaload, 1) := by decide +kernel
theorem dX2_addHeat_13 : decode cX2_addHeat 13 = .ok (.istore 4, 2) := by decide +kernel
theorem dX2_addHeat_15 : decode cX2_addHeat 15 = .ok (.aload_n 1, 1) := by decide +kernel
theorem dX2_addHeat_16 : decode cX2_addHeat 16 = .ok (.getfield 48, 3) := by decide +kernel
theorem dX2_addHeat_19 : decode cX2_addHeat 19 = .ok (.iload_n 3, 1) := by decide +kernel
theorem dX2_addHeat_20 : decode cX2_addHeat 20 = .ok (.iaload, 1) := by decide +kernel
theorem dX2_addHeat_21 : decode cX2_addHeat 21 = .ok (.istore 5, 2) := by decide +kernel
theorem dX2_addHeat_23 : decode cX2_addHeat 23 = .ok (.iload 4, 2) := by decide +kernel
theorem dX2_addHeat_25 : decode cX2_addHeat 25 = .ok (.ifCond .le 97, 3) := by decide +kernel
theorem dX2_addHeat_28 : decode cX2_addHeat 28 = .ok (.iload 5, 2) := by decide +kernel
theorem dX2_addHeat_30 : decode cX2_addHeat 30 = .ok (.iconst 0, 1) := by decide +kernel
theorem dX2_addHeat_31 : decode cX2_addHeat 31 = .ok (.iconst 5, 1) := by decide +kernel
theorem dX2_addHeat_32 : decode cX2_addHeat 32 = .ok (.invokestatic 51, 3) := by decide +kernel
theorem dX2_addHeat_35 : decode cX2_addHeat 35 = .ok (.ifCond .eq 87, 3) := by decide +kernel
theorem dX2_addHeat_38 : decode cX2_addHeat 38 = .ok (.aload_n 0, 1) := by decide +kernel
theorem dX2_addHeat_39 : decode cX2_addHeat 39 = .ok (.getfield 19, 3) := by decide +kernel
theorem dX2_addHeat_42 : decode cX2_addHeat 42 = .ok (.iload 5, 2) := by decide +kernel
theorem dX2_addHeat_44 : decode cX2_addHeat 44 = .ok (.iaload, 1) := by decide +kernel
theorem dX2_addHeat_45 : decode cX2_addHeat 45 = .ok (.ifCond .eq 15, 3) := by decide +kernel
theorem dX2_addHeat_48 : decode cX2_addHeat 48 = .ok (.iload 4, 2) := by decide +kernel
theorem dX2_addHeat_50 : decode cX2_addHeat 50 = .ok (.aload_n 0, 1) := by decide +kernel
theorem dX2_addHeat_51 : decode cX2_addHeat 51 = .ok (.getfield 19, 3) := by decide +kernel
theorem dX2_addHeat_54 : decode cX2_addHeat 54 = .ok (.iload 5, 2) := by decide +kernel
theorem dX2_addHeat_56 : decode cX2_addHeat 56 = .ok (.iaload, 1) := by decide +kernel
theorem dX2_addHeat_57 : decode cX2_addHeat 57 = .ok (.if_icmp .ge 7, 3) := by decide +kernel
theorem dX2_addHeat_60 : decode cX2_addHeat 60 = .ok (.iconst 1, 1) := by decide +kernel
theorem dX2_addHeat_61 : decode cX2_addHeat 61 = .ok (.goto 4, 3) := by decide +kernel
theorem dX2_addHeat_64 : decode cX2_addHeat 64 = .ok (.iconst 0, 1) := by decide +kernel
theorem dX2_addHeat_65 : decode cX2_addHeat 65 = .ok (.istore 6, 2) := by decide +kernel
theorem dX2_addHeat_67 : decode cX2_addHeat 67 = .ok (.aload_n 0, 1) := by decide +kernel
theorem dX2_addHeat_68 : decode cX2_addHeat 68 = .ok (.getfield 19, 3) := by decide +kernel
theorem dX2_addHeat_71 : decode cX2_addHeat 71 = .ok (.iload 5, 2) := by decide +kernel
theorem dX2_addHeat_73 : decode cX2_addHeat 73 = .ok (.iload 6, 2) := by decide +kernel
theorem dX2_addHeat_75 : decode cX2_addHeat 75 = .ok (.ifCond .eq 8, 3) := by decide +kernel
theorem dX2_addHeat_78 : decode cX2_addHeat 78 = .ok (.iload 4, 2) := by decide +kernel
theorem dX2_addHeat_80 : decode cX2_addHeat 80 = .ok (.goto 10, 3) := by decide +kernel
theorem dX2_addHeat_83 : decode cX2_addHeat 83 = .ok (.aload_n 0, 1) := by decide +kernel
theorem dX2_addHeat_84 : decode cX2_addHeat 84 = .ok (.getfield 19, 3) := by decide +kernel
theorem dX2_addHeat_87 : decode cX2_addHeat 87 = .ok (.iload 5, 2) := by decide +kernel
theorem dX2_addHeat_89 : decode cX2_addHeat 89 = .ok (.iaload, 1) := by decide +kernel
theorem dX2_addHeat_90 : decode cX2_addHeat 90 = .ok (.iastore, 1) := by decide +kernel
theorem dX2_addHeat_91 : decode cX2_addHeat 91 = .ok (.aload_n 0, 1) := by decide +kernel
theorem dX2_addHeat_92 : decode cX2_addHeat 92 = .ok (.getfield 22, 3) := by decide +kernel
theorem dX2_addHeat_95 : decode cX2_addHeat 95 = .ok (.iload 5, 2) := by decide +kernel
theorem dX2_addHeat_97 : decode cX2_addHeat 97 = .ok (.aload_n 0, 1) := by decide +kernel
theorem dX2_addHeat_98 : decode cX2_addHeat 98 = .ok (.getfield 22, 3) := by decide +kernel
theorem dX2_addHeat_101 : decode cX2_addHeat 101 = .ok (.iload 5, 2) := by decide +kernel
theorem dX2_addHeat_103 : decode cX2_addHeat 103 = .ok (.baload, 1) := by decide +kernel
theorem dX2_addHeat_104 : decode cX2_addHeat 104 = .ok (.ifCond .ne 12, 3) := by decide +kernel
theorem dX2_addHeat_107 : decode cX2_addHeat 107 = .ok (.aload_n 1, 1) := by decide +kernel
theorem dX2_addHeat_108 : decode cX2_addHeat 108 = .ok (.iload_n 3, 1) := by decide +kernel
theorem dX2_addHeat_109 : decode cX2_addHeat 109 = .ok (.invokevirtual 55, 3) := by decide +kernel
theorem dX2_addHeat_112 : decode cX2_addHeat 112 = .ok (.iload_n 2, 1) := by decide +kernel
theorem dX2_addHeat_113 : decode cX2_addHeat 113 = .ok (.if_icmp .gt 7, 3) := by decide +kernel
theorem dX2_addHeat_116 : decode cX2_addHeat 116 = .ok (.iconst 1, 1) := by decide +kernel
theorem dX2_addHeat_117 : decode cX2_addHeat 117 = .ok (.goto 4, 3) := by decide +kernel
theorem dX2_addHeat_120 : decode cX2_addHeat 120 = .ok (.iconst 0, 1) := by decide +kernel
theorem dX2_addHeat_121 : decode cX2_addHeat 121 = .ok (.bastore, 1) := by decide +kernel
theorem dX2_addHeat_122 : decode cX2_addHeat 122 = .ok (.iinc 3 1, 3) := by decide +kernel
theorem dX2_addHeat_125 : decode cX2_addHeat 125 = .ok (.goto (-123), 3) := by decide +kernel
theorem dX2_addHeat_128 : decode cX2_addHeat 128 = .ok (.return_, 1) := by decide +kernel
theorem dX2_fasterOthers_0 : decode cX2_fasterOthers 0 = .ok (.iconst 0, 1) := by decide +kernel
theorem dX2_fasterOthers_1 : decode cX2_fasterOthers 1 = .ok (.istore_n 2, 1) := by decide +kernel
theorem dX2_fasterOthers_2 : decode cX2_fasterOthers 2 = .ok (.iconst 0, 1) := by decide +kernel
theorem dX2_fasterOthers_3 : decode cX2_fasterOthers 3 = .ok (.istore_n 3, 1) := by decide +kernel
theorem dX2_fasterOthers_4 : decode cX2_fasterOthers 4 = .ok (.iload_n 3, 1) := by decide +kernel
theorem dX2_fasterOthers_5 : decode cX2_fasterOthers 5 = .ok (.bipush 6, 2) := by decide +kernel
theorem dX2_fasterOthers_7 : decode cX2_fasterOthers 7 = .ok (.if_icmp .ge 50, 3) := by decide +kernel
theorem dX2_fasterOthers_10 : decode cX2_fasterOthers 10 = .ok (.iload_n 2, 1) := by decide +kernel
theorem dX2_fasterOthers_11 : decode cX2_fasterOthers 11 = .ok (.aload_n 0, 1) := by decide +kernel
theorem dX2_fasterOthers_12 : decode cX2_fasterOthers 12 = .ok (.getfield 22, 3) := by decide +kernel
theorem dX2_fasterOthers_15 : decode cX2_fasterOthers 15 = .ok (.iload_n 3, 1) := by decide +kernel
theorem dX2_fasterOthers_16 : decode cX2_fasterOthers 16 = .ok (.baload, 1) := by decide +kernel
theorem dX2_fasterOthers_17 : decode cX2_fasterOthers 17 = .ok (.ifCond .ne 31, 3) := by decide +kernel
theorem dX2_fasterOthers_20 : decode cX2_fasterOthers 20 = .ok (.aload_n 0, 1) := by decide +kernel
theorem dX2_fasterOthers_21 : decode cX2_fasterOthers 21 = .ok (.getfield 19, 3) := by decide +kernel
theorem dX2_fasterOthers_24 : decode cX2_fasterOthers 24 = .ok (.iload_n 3, 1) := by decide +kernel
theorem dX2_fasterOthers_25 : decode cX2_fasterOthers 25 = .ok (.iaload, 1) := by decide +kernel
theorem dX2_fasterOthers_26 : decode cX2_fasterOthers 26 = .ok (.ifCond .le 22, 3) := by decide +kernel
theorem dX2_fasterOthers_29 : decode cX2_fasterOthers 29 = .ok (.aload_n 0, 1) := by decide +kernel
theorem dX2_fasterOthers_30 : decode cX2_fasterOthers 30 = .ok (.getfield 19, 3) := by decide +kernel
theorem dX2_fasterOthers_33 : decode cX2_fasterOthers 33 = .ok (.iload_n 3, 1) := by decide +kernel
theorem dX2_fasterOthers_34 : decode cX2_fasterOthers 34 = .ok (.iaload, 1) := by decide +kernel
theorem dX2_fasterOthers_35 : decode cX2_fasterOthers 35 = .ok (.aload_n 0, 1) := by decide +kernel
theorem dX2_fasterOthers_36 : decode cX2_fasterOthers 36 = .ok (.getfield 19, 3) := by decide +kernel
theorem dX2_fasterOthers_39 : decode cX2_fasterOthers 39 = .ok (.iload_n 1, 1) := by decide +kernel
theorem dX2_fasterOthers_40 : decode cX2_fasterOthers 40 = .ok (.iaload, 1) := by decide +kernel
theorem dX2_fasterOthers_41 : decode cX2_fasterOthers 41 = .ok (.if_icmp .ge 7, 3) := by decide +kernel
theorem dX2_fasterOthers_44 : decode cX2_fasterOthers 44 = .ok (.iconst 1, 1) := by decide +kernel
theorem dX2_fasterOthers_45 : decode cX2_fasterOthers 45 = .ok (.goto 4, 3) := by decide +kernel
theorem dX2_fasterOthers_48 : decode cX2_fasterOthers 48 = .ok (.iconst 0, 1) := by decide +kernel
theorem dX2_fasterOthers_49 : decode cX2_fasterOthers 49 = .ok (.iadd, 1) := by decide +kernel
theorem dX2_fasterOthers_50 : decode cX2_fasterOthers 50 = .ok (.istore_n 2, 1) := by decide +kernel
theorem dX2_fasterOthers_51 : decode cX2_fasterOthers 51 = .ok (.iinc 3 1, 3) := by decide +kernel
theorem dX2_fasterOthers_54 : decode cX2_fasterOthers 54 = .ok (.goto (-50), 3) := by decide +kernel
theorem dX2_fasterOthers_57 : decode cX2_fasterOthers 57 = .ok (.iload_n 2, 1) := by decide +kernel
theorem dX2_fasterOthers_58 : decode cX2_fasterOthers 58 = .ok (.ireturn, 1) := by decide +kernel
theorem dX2_chosenAheadOf_0 : decode cX2_chosenAheadOf 0 = .ok (.iconst 0, 1) := by decide +kernel
theorem dX2_chosenAheadOf_1 : decode cX2_chosenAheadOf 1 = .ok (.istore_n 2, 1) := by decide +kernel
theorem dX2_chosenAheadOf_2 : decode cX2_chosenAheadOf 2 = .ok (.iconst 0, 1) := by decide +kernel
theorem dX2_chosenAheadOf_3 : decode cX2_chosenAheadOf 3 = .ok (.istore_n 3, 1) := by decide +kernel
theorem dX2_chosenAheadOf_4 : decode cX2_chosenAheadOf 4 = .ok (.iload_n 3, 1) := by decide +kernel
theorem dX2_chosenAheadOf_5 : decode cX2_chosenAheadOf 5 = .ok (.bipush 6, 2) := by decide +kernel
theorem dX2_chosenAheadOf_7 : decode cX2_chosenAheadOf 7 = .ok (.if_icmp .ge 73, 3) := by decide +kernel
theorem dX2_chosenAheadOf_10 : decode cX2_chosenAheadOf 10 = .ok (.aload_n 0, 1) := by decide +kernel
theorem dX2_chosenAheadOf_11 : decode cX2_chosenAheadOf 11 = .ok (.getfield 19, 3) := by decide +kernel
theorem dX2_chosenAheadOf_14 : decode cX2_chosenAheadOf 14 = .ok (.iload_n 3, 1) := by decide +kernel
theorem dX2_chosenAheadOf_15 : decode cX2_chosenAheadOf 15 = .ok (.iaload, 1) := by decide +kernel
theorem dX2_chosenAheadOf_16 : decode cX2_chosenAheadOf 16 = .ok (.aload_n 0, 1) := by decide +kernel
theorem dX2_chosenAheadOf_17 : decode cX2_chosenAheadOf 17 = .ok (.getfield 19, 3) := by decide +kernel
theorem dX2_chosenAheadOf_20 : decode cX2_chosenAheadOf 20 = .ok (.iload_n 1, 1) := by decide +kernel
theorem dX2_chosenAheadOf_21 : decode cX2_chosenAheadOf 21 = .ok (.iaload, 1) := by decide +kernel
theorem dX2_chosenAheadOf_22 : decode cX2_chosenAheadOf 22 = .ok (.if_icmp .lt 23, 3) := by decide +kernel
theorem dX2_chosenAheadOf_25 : decode cX2_chosenAheadOf 25 = .ok (.aload_n 0, 1) := by decide +kernel
theorem dX2_chosenAheadOf_26 : decode cX2_chosenAheadOf 26 = .ok (.getfield 19, 3) := by decide +kernel
theorem dX2_chosenAheadOf_29 : decode cX2_chosenAheadOf 29 = .ok (.iload_n 3, 1) := by decide +kernel
theorem dX2_chosenAheadOf_30 : decode cX2_chosenAheadOf 30 = .ok (.iaload, 1) := by decide +kernel
theorem dX2_chosenAheadOf_31 : decode cX2_chosenAheadOf 31 = .ok (.aload_n 0, 1) := by decide +kernel
theorem dX2_chosenAheadOf_32 : decode cX2_chosenAheadOf 32 = .ok (.getfield 19, 3) := by decide +kernel
theorem dX2_chosenAheadOf_35 : decode cX2_chosenAheadOf 35 = .ok (.iload_n 1, 1) := by decide +kernel
theorem dX2_chosenAheadOf_36 : decode cX2_chosenAheadOf 36 = .ok (.iaload, 1) := by decide +kernel
theorem dX2_chosenAheadOf_37 : decode cX2_chosenAheadOf 37 = .ok (.if_icmp .ne 12, 3) := by decide +kernel
theorem dX2_chosenAheadOf_40 : decode cX2_chosenAheadOf 40 = .ok (.iload_n 3, 1) := by decide +kernel
theorem dX2_chosenAheadOf_41 : decode cX2_chosenAheadOf 41 = .ok (.iload_n 1, 1) := by decide +kernel
theorem dX2_chosenAheadOf_42 : decode cX2_chosenAheadOf 42 = .ok (.if_icmp .ge 7, 3) := by decide +kernel
theorem dX2_chosenAheadOf_45 : decode cX2_chosenAheadOf 45 = .ok (.iconst 1, 1) := by decide +kernel
theorem dX2_chosenAheadOf_46 : decode cX2_chosenAheadOf 46 = .ok (.goto 4, 3) := by decide +kernel
theorem dX2_chosenAheadOf_49 : decode cX2_chosenAheadOf 49 = .ok (.iconst 0, 1) := by decide +kernel
theorem dX2_chosenAheadOf_50 : decode cX2_chosenAheadOf 50 = .ok (.istore 4, 2) := by decide +kernel
theorem dX2_chosenAheadOf_52 : decode cX2_chosenAheadOf 52 = .ok (.iload_n 2, 1) := by decide +kernel
theorem dX2_chosenAheadOf_53 : decode cX2_chosenAheadOf 53 = .ok (.aload_n 0, 1) := by decide +kernel
theorem dX2_chosenAheadOf_54 : decode cX2_chosenAheadOf 54 = .ok (.getfield 26, 3) := by decide +kernel
theorem dX2_chosenAheadOf_57 : decode cX2_chosenAheadOf 57 = .ok (.iload_n 3, 1) := by decide +kernel
theorem dX2_chosenAheadOf_58 : decode cX2_chosenAheadOf 58 = .ok (.baload, 1) := by decide +kernel
theorem dX2_chosenAheadOf_59 : decode cX2_chosenAheadOf 59 = .ok (.ifCond .eq 12, 3) := by decide +kernel
theorem dX2_chosenAheadOf_62 : decode cX2_chosenAheadOf 62 = .ok (.iload 4, 2) := by decide +kernel
theorem dX2_chosenAheadOf_64 : decode cX2_chosenAheadOf 64 = .ok (.ifCond .eq 7, 3) := by decide +kernel
theorem dX2_chosenAheadOf_67 : decode cX2_chosenAheadOf 67 = .ok (.iconst 1, 1) := by decide +kernel
theorem dX2_chosenAheadOf_68 : decode cX2_chosenAheadOf 68 = .ok (.goto 4, 3) := by decide +kernel
theorem dX2_chosenAheadOf_71 : decode cX2_chosenAheadOf 71 = .ok (.iconst 0, 1) := by decide +kernel
theorem dX2_chosenAheadOf_72 : decode cX2_chosenAheadOf 72 = .ok (.iadd, 1) := by decide +kernel
theorem dX2_chosenAheadOf_73 : decode cX2_chosenAheadOf 73 = .ok (.istore_n 2, 1) := by decide +kernel
theorem dX2_chosenAheadOf_74 : decode cX2_chosenAheadOf 74 = .ok (.iinc 3 1, 3) := by decide +kernel
theorem dX2_chosenAheadOf_77 : decode cX2_chosenAheadOf 77 = .ok (.goto (-73), 3) := by decide +kernel
theorem dX2_chosenAheadOf_80 : decode cX2_chosenAheadOf 80 = .ok (.iload_n 2, 1) := by decide +kernel
theorem dX2_chosenAheadOf_81 : decode cX2_chosenAheadOf 81 = .ok (.ireturn, 1) := by decide +kernel
theorem dX2_putInOrder_0 : decode cX2_putInOrder 0 = .ok (.aload_n 0, 1) := by decide +kernel
theorem dX2_putInOrder_1 : decode cX2_putInOrder 1 = .ok (.iconst 0, 1) := by decide +kernel
theorem dX2_putInOrder_2 : decode cX2_putInOrder 2 = .ok (.putfield 9, 3) := by decide +kernel
theorem dX2_putInOrder_5 : decode cX2_putInOrder 5 = .ok (.iconst 0, 1) := by decide +kernel
theorem dX2_putInOrder_6 : decode cX2_putInOrder 6 = .ok (.istore_n 1, 1) := by decide +kernel
theorem dX2_putInOrder_7 : decode cX2_putInOrder 7 = .ok (.iload_n 1, 1) := by decide +kernel
theorem dX2_putInOrder_8 : decode cX2_putInOrder 8 = .ok (.bipush 6, 2) := by decide +kernel
theorem dX2_putInOrder_10 : decode cX2_putInOrder 10 = .ok (.if_icmp .ge 39, 3) := by decide +kernel
theorem dX2_putInOrder_13 : decode cX2_putInOrder 13 = .ok (.aload_n 0, 1) := by decide +kernel
theorem dX2_putInOrder_14 : decode cX2_putInOrder 14 = .ok (.getfield 26, 3) := by decide +kernel
theorem dX2_putInOrder_17 : decode cX2_putInOrder 17 = .ok (.iload_n 1, 1) := by decide +kernel
theorem dX2_putInOrder_18 : decode cX2_putInOrder 18 = .ok (.baload, 1) := by decide +kernel
theorem dX2_putInOrder_19 : decode cX2_putInOrder 19 = .ok (.ifCond .eq 24, 3) := by decide +kernel
theorem dX2_putInOrder_22 : decode cX2_putInOrder 22 = .ok (.aload_n 0, 1) := by decide +kernel
theorem dX2_putInOrder_23 : decode cX2_putInOrder 23 = .ok (.getfield 15, 3) := by decide +kernel
theorem dX2_putInOrder_26 : decode cX2_putInOrder 26 = .ok (.aload_n 0, 1) := by decide +kernel
theorem dX2_putInOrder_27 : decode cX2_putInOrder 27 = .ok (.iload_n 1, 1) := by decide +kernel
theorem dX2_putInOrder_28 : decode cX2_putInOrder 28 = .ok (.invokevirtual 58, 3) := by decide +kernel
theorem dX2_putInOrder_31 : decode cX2_putInOrder 31 = .ok (.iload_n 1, 1) := by decide +kernel
theorem dX2_putInOrder_32 : decode cX2_putInOrder 32 = .ok (.iastore, 1) := by decide +kernel
theorem dX2_putInOrder_33 : decode cX2_putInOrder 33 = .ok (.aload_n 0, 1) := by decide +kernel
theorem dX2_putInOrder_34 : decode cX2_putInOrder 34 = .ok (.dup, 1) := by decide +kernel
theorem dX2_putInOrder_35 : decode cX2_putInOrder 35 = .ok (.getfield 9, 3) := by decide +kernel
theorem dX2_putInOrder_38 : decode cX2_putInOrder 38 = .ok (.iconst 1, 1) := by decide +kernel
theorem dX2_putInOrder_39 : decode cX2_putInOrder 39 = .ok (.iadd, 1) := by decide +kernel
theorem dX2_putInOrder_40 : decode cX2_putInOrder 40 = .ok (.putfield 9, 3) := by decide +kernel
theorem dX2_putInOrder_43 : decode cX2_putInOrder 43 = .ok (.iinc 1 1, 3) := by decide +kernel
theorem dX2_putInOrder_46 : decode cX2_putInOrder 46 = .ok (.goto (-39), 3) := by decide +kernel
theorem dX2_putInOrder_49 : decode cX2_putInOrder 49 = .ok (.return_, 1) := by decide +kernel
theorem dX2_choose_0 : decode cX2_choose 0 = .ok (.iconst 0, 1) := by decide +kernel
theorem dX2_choose_1 : decode cX2_choose 1 = .ok (.istore 5, 2) := by decide +kernel
theorem dX2_choose_3 : decode cX2_choose 3 = .ok (.iload 5, 2) := by decide +kernel
theorem dX2_choose_5 : decode cX2_choose 5 = .ok (.bipush 6, 2) := by decide +kernel
theorem dX2_choose_7 : decode cX2_choose 7 = .ok (.if_icmp .ge 25, 3) := by decide +kernel
theorem dX2_choose_10 : decode cX2_choose 10 = .ok (.aload_n 0, 1) := by decide +kernel
theorem dX2_choose_11 : decode cX2_choose 11 = .ok (.getfield 19, 3) := by decide +kernel
theorem dX2_choose_14 : decode cX2_choose 14 = .ok (.iload 5, 2) := by decide +kernel
theorem dX2_choose_16 : decode cX2_choose 16 = .ok (.iconst 0, 1) := by decide +kernel
theorem dX2_choose_17 : decode cX2_choose 17 = .ok (.iastore, 1) := by decide +kernel
theorem dX2_choose_18 : decode cX2_choose 18 = .ok (.aload_n 0, 1) := by decide +kernel
theorem dX2_choose_19 : decode cX2_choose 19 = .ok (.getfield 22, 3) := by decide +kernel
theorem dX2_choose_22 : decode cX2_choose 22 = .ok (.iload 5, 2) := by decide +kernel
theorem dX2_choose_24 : decode cX2_choose 24 = .ok (.iconst 0, 1) := by decide +kernel
theorem dX2_choose_25 : decode cX2_choose 25 = .ok (.bastore, 1) := by decide +kernel
theorem dX2_choose_26 : decode cX2_choose 26 = .ok (.iinc 5 1, 3) := by decide +kernel
theorem dX2_choose_29 : decode cX2_choose 29 = .ok (.goto (-26), 3) := by decide +kernel
theorem dX2_choose_32 : decode cX2_choose 32 = .ok (.iconst 0, 1) := by decide +kernel
theorem dX2_choose_33 : decode cX2_choose 33 = .ok (.istore 5, 2) := by decide +kernel
theorem dX2_choose_35 : decode cX2_choose 35 = .ok (.iload 5, 2) := by decide +kernel
theorem dX2_choose_37 : decode cX2_choose 37 = .ok (.iload_n 2, 1) := by decide +kernel
theorem dX2_choose_38 : decode cX2_choose 38 = .ok (.if_icmp .ge 29, 3) := by decide +kernel
theorem dX2_choose_41 : decode cX2_choose 41 = .ok (.aload_n 1, 1) := by decide +kernel
theorem dX2_choose_42 : decode cX2_choose 42 = .ok (.iload 5, 2) := by decide +kernel
theorem dX2_choose_44 : decode cX2_choose 44 = .ok (.aaload, 1) := by decide +kernel
theorem dX2_choose_45 : decode cX2_choose 45 = .ok (.getfield 29, 3) := by decide +kernel
theorem dX2_choose_48 : decode cX2_choose 48 = .ok (.iconst 1, 1) := by decide +kernel
theorem dX2_choose_49 : decode cX2_choose 49 = .ok (.if_icmp .eq 12, 3) := by decide +kernel
theorem dX2_choose_52 : decode cX2_choose 52 = .ok (.aload_n 0, 1) := by decide +kernel
theorem dX2_choose_53 : decode cX2_choose 53 = .ok (.aload_n 1, 1) := by decide +kernel
theorem dX2_choose_54 : decode cX2_choose 54 = .ok (.iload 5, 2) := by decide +kernel
theorem dX2_choose_56 : decode cX2_choose 56 = .ok (.aaload, 1) := by decide +kernel
theorem dX2_choose_57 : decode cX2_choose 57 = .ok (.iload_n 3, 1) := by decide +kernel
theorem dX2_choose_58 : decode cX2_choose 58 = .ok (.invokevirtual 34, 3) := by decide +kernel
theorem dX2_choose_61 : decode cX2_choose 61 = .ok (.iinc 5 1, 3) := by decide +kernel
theorem dX2_choose_64 : decode cX2_choose 64 = .ok (.goto (-29), 3) := by decide +kernel
theorem dX2_choose_67 : decode cX2_choose 67 = .ok (.iconst 0, 1) := by decide +kernel
theorem dX2_choose_68 : decode cX2_choose 68 = .ok (.istore 5, 2) := by decide +kernel
theorem dX2_choose_70 : decode cX2_choose 70 = .ok (.iload 5, 2) := by decide +kernel
theorem dX2_choose_72 : decode cX2_choose 72 = .ok (.bipush 6, 2) := by decide +kernel
theorem dX2_choose_74 : decode cX2_choose 74 = .ok (.if_icmp .ge 52, 3) := by decide +kernel
theorem dX2_choose_77 : decode cX2_choose 77 = .ok (.aload_n 0, 1) := by decide +kernel
theorem dX2_choose_78 : decode cX2_choose 78 = .ok (.getfield 26, 3) := by decide +kernel
theorem dX2_choose_81 : decode cX2_choose 81 = .ok (.iload 5, 2) := by decide +kernel
theorem dX2_choose_83 : decode cX2_choose 83 = .ok (.aload_n 0, 1) := by decide +kernel
theorem dX2_choose_84 : decode cX2_choose 84 = .ok (.getfield 22, 3) := by decide +kernel
theorem dX2_choose_87 : decode cX2_choose 87 = .ok (.iload 5, 2) := by decide +kernel
theorem dX2_choose_89 : decode cX2_choose 89 = .ok (.baload, 1) := by decide +kernel
theorem dX2_choose_90 : decode cX2_choose 90 = .ok (.ifCond .ne 24, 3) := by decide +kernel
theorem dX2_choose_93 : decode cX2_choose 93 = .ok (.aload_n 0, 1) := by decide +kernel
theorem dX2_choose_94 : decode cX2_choose 94 = .ok (.getfield 19, 3) := by decide +kernel
theorem dX2_choose_97 : decode cX2_choose 97 = .ok (.iload 5, 2) := by decide +kernel
theorem dX2_choose_99 : decode cX2_choose 99 = .ok (.iaload, 1) := by decide +kernel
theorem dX2_choose_100 : decode cX2_choose 100 = .ok (.ifCond .le 18, 3) := by decide +kernel
theorem dX2_choose_103 : decode cX2_choose 103 = .ok (.aload_n 0, 1) := by decide +kernel
theorem dX2_choose_104 : decode cX2_choose 104 = .ok (.iload 5, 2) := by decide +kernel
theorem dX2_choose_106 : decode cX2_choose 106 = .ok (.invokevirtual 38, 3) := by decide +kernel
theorem dX2_choose_109 : decode cX2_choose 109 = .ok (.iload 4, 2) := by decide +kernel
theorem dX2_choose_111 : decode cX2_choose 111 = .ok (.if_icmp .ge 7, 3) := by decide +kernel
theorem dX2_choose_114 : decode cX2_choose 114 = .ok (.iconst 1, 1) := by decide +kernel
theorem dX2_choose_115 : decode cX2_choose 115 = .ok (.goto 4, 3) := by decide +kernel
theorem dX2_choose_118 : decode cX2_choose 118 = .ok (.iconst 0, 1) := by decide +kernel
theorem dX2_choose_119 : decode cX2_choose 119 = .ok (.bastore, 1) := by decide +kernel
theorem dX2_choose_120 : decode cX2_choose 120 = .ok (.iinc 5 1, 3) := by decide +kernel
theorem dX2_choose_123 : decode cX2_choose 123 = .ok (.goto (-53), 3) := by decide +kernel
theorem dX2_choose_126 : decode cX2_choose 126 = .ok (.aload_n 0, 1) := by decide +kernel
theorem dX2_choose_127 : decode cX2_choose 127 = .ok (.invokevirtual 42, 3) := by decide +kernel
theorem dX2_choose_130 : decode cX2_choose 130 = .ok (.return_, 1) := by decide +kernel
theorem dX9_finalists_0 : decode cX9_finalists 0 = .ok (.iload_n 1, 1) := by decide +kernel
theorem dX9_finalists_1 : decode cX9_finalists 1 = .ok (.iconst 0, 1) := by decide +kernel
theorem dX9_finalists_2 : decode cX9_finalists 2 = .ok (.bipush 9, 2) := by decide +kernel
theorem dX9_finalists_4 : decode cX9_finalists 4 = .ok (.invokestatic 97, 3) := by decide +kernel
theorem dX9_finalists_7 : decode cX9_finalists 7 = .ok (.ifCond .eq 13, 3) := by decide +kernel
theorem dX9_finalists_10 : decode cX9_finalists 10 = .ok (.iload_n 2, 1) := by decide +kernel
theorem dX9_finalists_11 : decode cX9_finalists 11 = .ok (.iconst 0, 1) := by decide +kernel
theorem dX9_finalists_12 : decode cX9_finalists 12 = .ok (.bipush 9, 2) := by decide +kernel
theorem dX9_finalists_14 : decode cX9_finalists 14 = .ok (.invokestatic 97, 3) := by decide +kernel
theorem dX9_finalists_17 : decode cX9_finalists 17 = .ok (.ifCond .ne 6, 3) := by decide +kernel
theorem dX9_finalists_20 : decode cX9_finalists 20 = .ok (.bipush (-2), 2) := by decide +kernel
theorem dX9_finalists_22 : decode cX9_finalists 22 = .ok (.ireturn, 1) := by decide +kernel
theorem dX9_finalists_23 : decode cX9_finalists 23 = .ok (.aload_n 0, 1) := by decide +kernel
theorem dX9_finalists_24 : decode cX9_finalists 24 = .ok (.getfield 90, 3) := by decide +kernel
theorem dX9_finalists_27 : decode cX9_finalists 27 = .ok (.aload_n 0, 1) := by decide +kernel
theorem dX9_finalists_28 : decode cX9_finalists 28 = .ok (.getfield 73, 3) := by decide +kernel
theorem dX9_finalists_31 : decode cX9_finalists 31 = .ok (.aload_n 0, 1) := by decide +kernel
theorem dX9_finalists_32 : decode cX9_finalists 32 = .ok (.getfield 77, 3) := by decide +kernel
theorem dX9_finalists_35 : decode cX9_finalists 35 = .ok (.iload_n 1, 1) := by decide +kernel
theorem dX9_finalists_36 : decode cX9_finalists 36 = .ok (.iload_n 2, 1) := by decide +kernel
theorem dX9_finalists_37 : decode cX9_finalists 37 = .ok (.invokevirtual 264, 3) := by decide +kernel
theorem dX9_finalists_40 : decode cX9_finalists 40 = .ok (.aload_n 0, 1) := by decide +kernel
theorem dX9_finalists_41 : decode cX9_finalists 41 = .ok (.getfield 90, 3) := by decide +kernel
theorem dX9_finalists_44 : decode cX9_finalists 44 = .ok (.getfield 268, 3) := by decide +kernel
theorem dX9_finalists_47 : decode cX9_finalists 47 = .ok (.ireturn, 1) := by decide +kernel
theorem dX9_finalist_0 : decode cX9_finalist 0 = .ok (.iload_n 1, 1) := by decide +kernel
theorem dX9_finalist_1 : decode cX9_finalist 1 = .ok (.iconst 0, 1) := by decide +kernel
theorem dX9_finalist_2 : decode cX9_finalist 2 = .ok (.aload_n 0, 1) := by decide +kernel
theorem dX9_finalist_3 : decode cX9_finalist 3 = .ok (.getfield 90, 3) := by decide +kernel
theorem dX9_finalist_6 : decode cX9_finalist 6 = .ok (.getfield 268, 3) := by decide +kernel
theorem dX9_finalist_9 : decode cX9_finalist 9 = .ok (.iconst 1, 1) := by decide +kernel
theorem dX9_finalist_10 : decode cX9_finalist 10 = .ok (.isub, 1) := by decide +kernel
theorem dX9_finalist_11 : decode cX9_finalist 11 = .ok (.invokestatic 97, 3) := by decide +kernel
theorem dX9_finalist_14 : decode cX9_finalist 14 = .ok (.ifCond .eq 15, 3) := by decide +kernel
theorem dX9_finalist_17 : decode cX9_finalist 17 = .ok (.aload_n 0, 1) := by decide +kernel
theorem dX9_finalist_18 : decode cX9_finalist 18 = .ok (.getfield 90, 3) := by decide +kernel
theorem dX9_finalist_21 : decode cX9_finalist 21 = .ok (.getfield 269, 3) := by decide +kernel
theorem dX9_finalist_24 : decode cX9_finalist 24 = .ok (.iload_n 1, 1) := by decide +kernel
theorem dX9_finalist_25 : decode cX9_finalist 25 = .ok (.iaload, 1) := by decide +kernel
theorem dX9_finalist_26 : decode cX9_finalist 26 = .ok (.goto 4, 3) := by decide +kernel
theorem dX9_finalist_29 : decode cX9_finalist 29 = .ok (.iconst (-1), 1) := by decide +kernel
theorem dX9_finalist_30 : decode cX9_finalist 30 = .ok (.ireturn, 1) := by decide +kernel
theorem dX9_slack_0 : decode cX9_slack 0 = .ok (.iconst (-1), 1) := by decide +kernel
theorem dX9_slack_1 : decode cX9_slack 1 = .ok (.istore_n 1, 1) := by decide +kernel
theorem dX9_slack_2 : decode cX9_slack 2 = .ok (.iconst 0, 1) := by decide +kernel
theorem dX9_slack_3 : decode cX9_slack 3 = .ok (.istore_n 2, 1) := by decide +kernel
theorem dX9_slack_4 : decode cX9_slack 4 = .ok (.iload_n 2, 1) := by decide +kernel
theorem dX9_slack_5 : decode cX9_slack 5 = .ok (.aload_n 0, 1) := by decide +kernel
theorem dX9_slack_6 : decode cX9_slack 6 = .ok (.getfield 77, 3) := by decide +kernel
theorem dX9_slack_9 : decode cX9_slack 9 = .ok (.if_icmp .ge 72, 3) := by decide +kernel
theorem dX9_slack_12 : decode cX9_slack 12 = .ok (.iconst 0, 1) := by decide +kernel
theorem dX9_slack_13 : decode cX9_slack 13 = .ok (.istore_n 3, 1) := by decide +kernel
theorem dX9_slack_14 : decode cX9_slack 14 = .ok (.iload_n 3, 1) := by decide +kernel
theorem dX9_slack_15 : decode cX9_slack 15 = .ok (.iload_n 2, 1) := by decide +kernel
theorem dX9_slack_16 : decode cX9_slack 16 = .ok (.if_icmp .ge 59, 3) := by decide +kernel
theorem dX9_slack_19 : decode cX9_slack 19 = .ok (.aload_n 0, 1) := by decide +kernel
theorem dX9_slack_20 : decode cX9_slack 20 = .ok (.getfield 73, 3) := by decide +kernel
theorem dX9_slack_23 : decode cX9_slack 23 = .ok (.iload_n 2, 1) := by decide +kernel
theorem dX9_slack_24 : decode cX9_slack 24 = .ok (.aaload, 1) := by decide +kernel
theorem dX9_slack_25 : decode cX9_slack 25 = .ok (.aload_n 0, 1) := by decide +kernel
theorem dX9_slack_26 : decode cX9_slack 26 = .ok (.getfield 73, 3) := by decide +kernel
theorem dX9_slack_29 : decode cX9_slack 29 = .ok (.iload_n 3, 1) := by decide +kernel
theorem dX9_slack_30 : decode cX9_slack 30 = .ok (.aaload, 1) := by decide +kernel
theorem dX9_slack_31 : decode cX9_slack 31 = .ok (.invokevirtual 272, 3) := by decide +kernel
theorem dX9_slack_34 : decode cX9_slack 34 = .ok (.istore 4, 2) := by decide +kernel
theorem dX9_slack_36 : decode cX9_slack 36 = .ok (.iload_n 1, 1) := by decide +kernel
theorem dX9_slack_37 : decode cX9_slack 37 = .ok (.iconst (-1), 1) := by decide +kernel
theorem dX9_slack_38 : decode cX9_slack 38 = .ok (.if_icmp .eq 9, 3) := by decide +kernel
theorem dX9_slack_41 : decode cX9_slack 41 = .ok (.iload 4, 2) := by decide +kernel
theorem dX9_slack_43 : decode cX9_slack 43 = .ok (.iload_n 1, 1) := by decide +kernel
theorem dX9_slack_44 : decode cX9_slack 44 = .ok (.if_icmp .ge 25, 3) := by decide +kernel
theorem dX9_slack_47 : decode cX9_slack 47 = .ok (.aload_n 0, 1) := by decide +kernel
theorem dX9_slack_48 : decode cX9_slack 48 = .ok (.aload_n 0, 1) := by decide +kernel
theorem dX9_slack_49 : decode cX9_slack 49 = .ok (.getfield 73, 3) := by decide +kernel
theorem dX9_slack_52 : decode cX9_slack 52 = .ok (.iload_n 2, 1) := by decide +kernel
theorem dX9_slack_53 : decode cX9_slack 53 = .ok (.aaload, 1) := by decide +kernel
theorem dX9_slack_54 : decode cX9_slack 54 = .ok (.aload_n 0, 1) := by decide +kernel
theorem dX9_slack_55 : decode cX9_slack 55 = .ok (.getfield 73, 3) := by decide +kernel
theorem dX9_slack_58 : decode cX9_slack 58 = .ok (.iload_n 3, 1) := by decide +kernel
theorem dX9_slack_59 : decode cX9_slack 59 = .ok (.aaload, 1) := by decide +kernel
theorem dX9_slack_60 : decode cX9_slack 60 = .ok (.invokevirtual 276, 3) := by decide +kernel
theorem dX9_slack_63 : decode cX9_slack 63 = .ok (.ifCond .eq 6, 3) := by decide +kernel
theorem dX9_slack_66 : decode cX9_slack 66 = .ok (.iload 4, 2) := by decide +kernel
theorem dX9_slack_68 : decode cX9_slack 68 = .ok (.istore_n 1, 1) := by decide +kernel
theorem dX9_slack_69 : decode cX9_slack 69 = .ok (.iinc 3 1, 3) := by decide +kernel
theorem dX9_slack_72 : decode cX9_slack 72 = .ok (.goto (-58), 3) := by decide +kernel
theorem dX9_slack_75 : decode cX9_slack 75 = .ok (.iinc 2 1, 3) := by decide +kernel
theorem dX9_slack_78 : decode cX9_slack 78 = .ok (.goto (-74), 3) := by decide +kernel
theorem dX9_slack_81 : decode cX9_slack 81 = .ok (.iload_n 1, 1) := by decide +kernel
theorem dX9_slack_82 : decode cX9_slack 82 = .ok (.ireturn, 1) := by decide +kernel
theorem dX9_leastTimeIn_0 : decode cX9_leastTimeIn 0 = .ok (.iconst 0, 1) := by decide +kernel
theorem dX9_leastTimeIn_1 : decode cX9_leastTimeIn 1 = .ok (.istore_n 3, 1) := by decide +kernel
theorem dX9_leastTimeIn_2 : decode cX9_leastTimeIn 2 = .ok (.iconst 0, 1) := by decide +kernel
theorem dX9_leastTimeIn_3 : decode cX9_leastTimeIn 3 = .ok (.istore 4, 2) := by decide +kernel
theorem dX9_leastTimeIn_5 : decode cX9_leastTimeIn 5 = .ok (.iload 4, 2) := by decide +kernel
theorem dX9_leastTimeIn_7 : decode cX9_leastTimeIn 7 = .ok (.aload_n 0, 1) := by decide +kernel
theorem dX9_leastTimeIn_8 : decode cX9_leastTimeIn 8 = .ok (.getfield 77, 3) := by decide +kernel
theorem dX9_leastTimeIn_11 : decode cX9_leastTimeIn 11 = .ok (.if_icmp .ge 61, 3) := by decide +kernel
theorem dX9_leastTimeIn_14 : decode cX9_leastTimeIn 14 = .ok (.aload_n 0, 1) := by decide +kernel
theorem dX9_leastTimeIn_15 : decode cX9_leastTimeIn 15 = .ok (.getfield 73, 3) := by decide +kernel
theorem dX9_leastTimeIn_18 : decode cX9_leastTimeIn 18 = .ok (.iload 4, 2) := by decide +kernel
theorem dX9_leastTimeIn_20 : decode cX9_leastTimeIn 20 = .ok (.aaload, 1) := by decide +kernel
theorem dX9_leastTimeIn_21 : decode cX9_leastTimeIn 21 = .ok (.getfield 235, 3) := by decide +kernel
theorem dX9_leastTimeIn_24 : decode cX9_leastTimeIn 24 = .ok (.iload_n 1, 1) := by decide +kernel
theorem dX9_leastTimeIn_25 : decode cX9_leastTimeIn 25 = .ok (.iaload, 1) := by decide +kernel
theorem dX9_leastTimeIn_26 : decode cX9_leastTimeIn 26 = .ok (.iload_n 2, 1) := by decide +kernel
theorem dX9_leastTimeIn_27 : decode cX9_leastTimeIn 27 = .ok (.if_icmp .ne 18, 3) := by decide +kernel
theorem dX9_leastTimeIn_30 : decode cX9_leastTimeIn 30 = .ok (.aload_n 0, 1) := by decide +kernel
theorem dX9_leastTimeIn_31 : decode cX9_leastTimeIn 31 = .ok (.getfield 73, 3) := by decide +kernel
theorem dX9_leastTimeIn_34 : decode cX9_leastTimeIn 34 = .ok (.iload 4, 2) := by decide +kernel
theorem dX9_leastTimeIn_36 : decode cX9_leastTimeIn 36 = .ok (.aaload, 1) := by decide +kernel
theorem dX9_leastTimeIn_37 : decode cX9_leastTimeIn 37 = .ok (.getfield 249, 3) := by decide +kernel
theorem dX9_leastTimeIn_40 : decode cX9_leastTimeIn 40 = .ok (.iload_n 1, 1) := by decide +kernel
theorem dX9_leastTimeIn_41 : decode cX9_leastTimeIn 41 = .ok (.iaload, 1) := by decide +kernel
theorem dX9_leastTimeIn_42 : decode cX9_leastTimeIn 42 = .ok (.goto 4, 3) := by decide +kernel
theorem dX9_leastTimeIn_45 : decode cX9_leastTimeIn 45 = .ok (.iconst 0, 1) := by decide +kernel
theorem dX9_leastTimeIn_46 : decode cX9_leastTimeIn 46 = .ok (.istore 5, 2) := by decide +kernel
theorem dX9_leastTimeIn_48 : decode cX9_leastTimeIn 48 = .ok (.iload 5, 2) := by decide +kernel
theorem dX9_leastTimeIn_50 : decode cX9_leastTimeIn 50 = .ok (.ifCond .le 16, 3) := by decide +kernel
theorem dX9_leastTimeIn_53 : decode cX9_leastTimeIn 53 = .ok (.iload_n 3, 1) := by decide +kernel
theorem dX9_leastTimeIn_54 : decode cX9_leastTimeIn 54 = .ok (.ifCond .eq 9, 3) := by decide +kernel
theorem dX9_leastTimeIn_57 : decode cX9_leastTimeIn 57 = .ok (.iload 5, 2) := by decide +kernel
theorem dX9_leastTimeIn_59 : decode cX9_leastTimeIn 59 = .ok (.iload_n 3, 1) := by decide +kernel
theorem dX9_leastTimeIn_60 : decode cX9_leastTimeIn 60 = .ok (.if_icmp .ge 6, 3) := by decide +kernel
theorem dX9_leastTimeIn_63 : decode cX9_leastTimeIn 63 = .ok (.iload 5, 2) := by decide +kernel
theorem dX9_leastTimeIn_65 : decode cX9_leastTimeIn 65 = .ok (.istore_n 3, 1) := by decide +kernel
theorem dX9_leastTimeIn_66 : decode cX9_leastTimeIn 66 = .ok (.iinc 4 1, 3) := by decide +kernel
theorem dX9_leastTimeIn_69 : decode cX9_leastTimeIn 69 = .ok (.goto (-64), 3) := by decide +kernel
theorem dX9_leastTimeIn_72 : decode cX9_leastTimeIn 72 = .ok (.iload_n 3, 1) := by decide +kernel
theorem dX9_leastTimeIn_73 : decode cX9_leastTimeIn 73 = .ok (.ireturn, 1) := by decide +kernel
theorem dX9_commonDivisor_0 : decode cX9_commonDivisor 0 = .ok (.lload_n 0, 1) := by decide +kernel
theorem dX9_commonDivisor_1 : decode cX9_commonDivisor 1 = .ok (.lstore 4, 2) := by decide +kernel
theorem dX9_commonDivisor_3 : decode cX9_commonDivisor 3 = .ok (.lload_n 2, 1) := by decide +kernel
theorem dX9_commonDivisor_4 : decode cX9_commonDivisor 4 = .ok (.lstore 6, 2) := by decide +kernel
theorem dX9_commonDivisor_6 : decode cX9_commonDivisor 6 = .ok (.iconst 0, 1) := by decide +kernel
theorem dX9_commonDivisor_7 : decode cX9_commonDivisor 7 = .ok (.istore 8, 2) := by decide +kernel
theorem dX9_commonDivisor_9 : decode cX9_commonDivisor 9 = .ok (.iload 8, 2) := by decide +kernel
theorem dX9_commonDivisor_11 : decode cX9_commonDivisor 11 = .ok (.sipush 200, 3) := by decide +kernel
theorem dX9_commonDivisor_14 : decode cX9_commonDivisor 14 = .ok (.if_icmp .ge 31, 3) := by decide +kernel
theorem dX9_commonDivisor_17 : decode cX9_commonDivisor 17 = .ok (.lload 6, 2) := by decide +kernel
theorem dX9_commonDivisor_19 : decode cX9_commonDivisor 19 = .ok (.lconst 0, 1) := by decide +kernel
theorem dX9_commonDivisor_20 : decode cX9_commonDivisor 20 = .ok (.lcmp, 1) := by decide +kernel
theorem dX9_commonDivisor_21 : decode cX9_commonDivisor 21 = .ok (.ifCond .eq 24, 3) := by decide +kernel
theorem dX9_commonDivisor_24 : decode cX9_commonDivisor 24 = .ok (.lload 4, 2) := by decide +kernel
theorem dX9_commonDivisor_26 : decode cX9_commonDivisor 26 = .ok (.lload 6, 2) := by decide +kernel
theorem dX9_commonDivisor_28 : decode cX9_commonDivisor 28 = .ok (.lrem, 1) := by decide +kernel
theorem dX9_commonDivisor_29 : decode cX9_commonDivisor 29 = .ok (.lstore 9, 2) := by decide +kernel
theorem dX9_commonDivisor_31 : decode cX9_commonDivisor 31 = .ok (.lload 6, 2) := by decide +kernel
theorem dX9_commonDivisor_33 : decode cX9_commonDivisor 33 = .ok (.lstore 4, 2) := by decide +kernel
theorem dX9_commonDivisor_35 : decode cX9_commonDivisor 35 = .ok (.lload 9, 2) := by decide +kernel
theorem dX9_commonDivisor_37 : decode cX9_commonDivisor 37 = .ok (.lstore 6, 2) := by decide +kernel
theorem dX9_commonDivisor_39 : decode cX9_commonDivisor 39 = .ok (.iinc 8 1, 3) := by decide +kernel
theorem dX9_commonDivisor_42 : decode cX9_commonDivisor 42 = .ok (.goto (-33), 3) := by decide +kernel
theorem dX9_commonDivisor_45 : decode cX9_commonDivisor 45 = .ok (.lload 4, 2) := by decide +kernel
theorem dX9_commonDivisor_47 : decode cX9_commonDivisor 47 = .ok (.lreturn, 1) := by decide +kernel
theorem dX9_level_0 : decode cX9_level 0 = .ok (.iload_n 1, 1) := by decide +kernel
theorem dX9_level_1 : decode cX9_level 1 = .ok (.invokestatic 211, 3) := by decide +kernel
theorem dX9_level_4 : decode cX9_level 4 = .ok (.ifCond .eq 24, 3) := by decide +kernel
theorem dX9_level_7 : decode cX9_level 7 = .ok (.iload_n 2, 1) := by decide +kernel
theorem dX9_level_8 : decode cX9_level 8 = .ok (.invokestatic 211, 3) := by decide +kernel
theorem dX9_level_11 : decode cX9_level 11 = .ok (.ifCond .eq 17, 3) := by decide +kernel
theorem dX9_level_14 : decode cX9_level 14 = .ok (.iload_n 1, 1) := by decide +kernel
theorem dX9_level_15 : decode cX9_level 15 = .ok (.iload_n 2, 1) := by decide +kernel
theorem dX9_level_16 : decode cX9_level 16 = .ok (.if_icmp .eq 12, 3) := by decide +kernel
theorem dX9_level_19 : decode cX9_level 19 = .ok (.iload_n 3, 1) := by decide +kernel
theorem dX9_level_20 : decode cX9_level 20 = .ok (.iconst 0, 1) := by decide +kernel
theorem dX9_level_21 : decode cX9_level 21 = .ok (.iconst 1, 1) := by decide +kernel
theorem dX9_level_22 : decode cX9_level 22 = .ok (.invokestatic 97, 3) := by decide +kernel
theorem dX9_level_25 : decode cX9_level 25 = .ok (.ifCond .ne 7, 3) := by decide +kernel
theorem dX9_level_28 : decode cX9_level 28 = .ok (.ldc2_w 280, 3) := by decide +kernel
theorem dX9_level_31 : decode cX9_level 31 = .ok (.lreturn, 1) := by decide +kernel
theorem dX9_level_32 : decode cX9_level 32 = .ok (.lconst 0, 1) := by decide +kernel
theorem dX9_level_33 : decode cX9_level 33 = .ok (.lstore 4, 2) := by decide +kernel
theorem dX9_level_35 : decode cX9_level 35 = .ok (.lconst 0, 1) := by decide +kernel
theorem dX9_level_36 : decode cX9_level 36 = .ok (.lstore 6, 2) := by decide +kernel
theorem dX9_level_38 : decode cX9_level 38 = .ok (.iconst 0, 1) := by decide +kernel
theorem dX9_level_39 : decode cX9_level 39 = .ok (.istore 8, 2) := by decide +kernel
theorem dX9_level_41 : decode cX9_level 41 = .ok (.iload 8, 2) := by decide +kernel
theorem dX9_level_43 : decode cX9_level 43 = .ok (.aload_n 0, 1) := by decide +kernel
theorem dX9_level_44 : decode cX9_level 44 = .ok (.getfield 24, 3) := by decide +kernel
theorem dX9_level_47 : decode cX9_level 47 = .ok (.if_icmp .ge 54, 3) := by decide +kernel
theorem dX9_level_50 : decode cX9_level 50 = .ok (.aload_n 0, 1) := by decide +kernel
theorem dX9_level_51 : decode cX9_level 51 = .ok (.iload_n 1, 1) := by decide +kernel
theorem dX9_level_52 : decode cX9_level 52 = .ok (.iload 8, 2) := by decide +kernel
theorem dX9_level_54 : decode cX9_level 54 = .ok (.invokevirtual 282, 3) := by decide +kernel
theorem dX9_level_57 : decode cX9_level 57 = .ok (.istore 9, 2) := by decide +kernel
theorem dX9_level_59 : decode cX9_level 59 = .ok (.aload_n 0, 1) := by decide +kernel
theorem dX9_level_60 : decode cX9_level 60 = .ok (.iload_n 2, 1) := by decide +kernel
theorem dX9_level_61 : decode cX9_level 61 = .ok (.iload 8, 2) := by decide +kernel
theorem dX9_level_63 : decode cX9_level 63 = .ok (.invokevirtual 282, 3) := by decide +kernel
theorem dX9_level_66 : decode cX9_level 66 = .ok (.istore 10, 2) := by decide +kernel
theorem dX9_level_68 : decode cX9_level 68 = .ok (.iload 9, 2) := by decide +kernel
theorem dX9_level_70 : decode cX9_level 70 = .ok (.ifCond .le 25, 3) := by decide +kernel
theorem dX9_level_73 : decode cX9_level 73 = .ok (.iload 10, 2) := by decide +kernel
theorem dX9_level_75 : decode cX9_level 75 = .ok (.ifCond .le 20, 3) := by decide +kernel
theorem dX9_level_78 : decode cX9_level 78 = .ok (.lload 4, 2) := by decide +kernel
theorem dX9_level_80 : decode cX9_level 80 = .ok (.iload 9, 2) := by decide +kernel
theorem dX9_level_82 : decode cX9_level 82 = .ok (.iload 10, 2) := by decide +kernel
theorem dX9_level_84 : decode cX9_level 84 = .ok (.isub, 1) := by decide +kernel
theorem dX9_level_85 : decode cX9_level 85 = .ok (.i2l, 1) := by decide +kernel
theorem dX9_level_86 : decode cX9_level 86 = .ok (.ladd, 1) := by decide +kernel
theorem dX9_level_87 : decode cX9_level 87 = .ok (.lstore 4, 2) := by decide +kernel
theorem dX9_level_89 : decode cX9_level 89 = .ok (.lload 6, 2) := by decide +kernel
theorem dX9_level_91 : decode cX9_level 91 = .ok (.lconst 1, 1) := by decide +kernel
theorem dX9_level_92 : decode cX9_level 92 = .ok (.ladd, 1) := by decide +kernel
theorem dX9_level_93 : decode cX9_level 93 = .ok (.lstore 6, 2) := by decide +kernel
theorem dX9_level_95 : decode cX9_level 95 = .ok (.iinc 8 1, 3) := by decide +kernel
theorem dX9_level_98 : decode cX9_level 98 = .ok (.goto (-57), 3) := by decide +kernel
theorem dX9_level_101 : decode cX9_level 101 = .ok (.lload 4, 2) := by decide +kernel
theorem dX9_level_103 : decode cX9_level 103 = .ok (.invokestatic 286, 3) := by decide +kernel
theorem dX9_level_106 : decode cX9_level 106 = .ok (.lload 6, 2) := by decide +kernel
theorem dX9_level_108 : decode cX9_level 108 = .ok (.invokestatic 292, 3) := by decide +kernel
theorem dX9_level_111 : decode cX9_level 111 = .ok (.lstore 8, 2) := by decide +kernel
theorem dX9_level_113 : decode cX9_level 113 = .ok (.lload 6, 2) := by decide +kernel
theorem dX9_level_115 : decode cX9_level 115 = .ok (.lconst 0, 1) := by decide +kernel
theorem dX9_level_116 : decode cX9_level 116 = .ok (.lcmp, 1) := by decide +kernel
theorem dX9_level_117 : decode cX9_level 117 = .ok (.ifCond .eq 10, 3) := by decide +kernel
theorem dX9_level_120 : decode cX9_level 120 = .ok (.lload 8, 2) := by decide +kernel
theorem dX9_level_122 : decode cX9_level 122 = .ok (.lconst 0, 1) := by decide +kernel
theorem dX9_level_123 : decode cX9_level 123 = .ok (.lcmp, 1) := by decide +kernel
theorem dX9_level_124 : decode cX9_level 124 = .ok (.ifCond .ne 7, 3) := by decide +kernel
theorem dX9_level_127 : decode cX9_level 127 = .ok (.ldc2_w 280, 3) := by decide +kernel
theorem dX9_level_130 : decode cX9_level 130 = .ok (.lreturn, 1) := by decide +kernel
theorem dX9_level_131 : decode cX9_level 131 = .ok (.iload_n 3, 1) := by decide +kernel
theorem dX9_level_132 : decode cX9_level 132 = .ok (.ifCond .ne 11, 3) := by decide +kernel
theorem dX9_level_135 : decode cX9_level 135 = .ok (.lload 4, 2) := by decide +kernel
theorem dX9_level_137 : decode cX9_level 137 = .ok (.lload 8, 2) := by decide +kernel
theorem dX9_level_139 : decode cX9_level 139 = .ok (.ldiv, 1) := by decide +kernel
theorem dX9_level_140 : decode cX9_level 140 = .ok (.goto 8, 3) := by decide +kernel
theorem dX9_level_143 : decode cX9_level 143 = .ok (.lload 6, 2) := by decide +kernel
theorem dX9_level_145 : decode cX9_level 145 = .ok (.lload 8, 2) := by decide +kernel
theorem dX9_level_147 : decode cX9_level 147 = .ok (.ldiv, 1) := by decide +kernel
theorem dX9_level_148 : decode cX9_level 148 = .ok (.lreturn, 1) := by decide +kernel
theorem dX3_pointsIn_0 : decode cX3_pointsIn 0 = .ok (.aload_n 0, 1) := by decide +kernel
theorem dX3_pointsIn_1 : decode cX3_pointsIn 1 = .ok (.iload_n 1, 1) := by decide +kernel
theorem dX3_pointsIn_2 : decode cX3_pointsIn 2 = .ok (.invokevirtual 42, 3) := by decide +kernel
theorem dX3_pointsIn_5 : decode cX3_pointsIn 5 = .ok (.istore_n 2, 1) := by decide +kernel
theorem dX3_pointsIn_6 : decode cX3_pointsIn 6 = .ok (.iload_n 2, 1) := by decide +kernel
theorem dX3_pointsIn_7 : decode cX3_pointsIn 7 = .ok (.ifCond .ne 5, 3) := by decide +kernel
theorem dX3_pointsIn_10 : decode cX3_pointsIn 10 = .ok (.iconst 0, 1) := by decide +kernel
theorem dX3_pointsIn_11 : decode cX3_pointsIn 11 = .ok (.ireturn, 1) := by decide +kernel
theorem dX3_pointsIn_12 : decode cX3_pointsIn 12 = .ok (.iconst 0, 1) := by decide +kernel
