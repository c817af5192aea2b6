theorem dX8_weigh_112 : decode cX8_weigh 112 = .ok (.getfield 44, 3) := by decide +kernel
theorem dX8_weigh_115 : decode cX8_weigh 115 = .ok (.iload 7, 2) := by decide +kernel
theorem dX8_weigh_117 : decode cX8_weigh 117 = .ok (.iaload, 1) := by decide +kernel
theorem dX8_weigh_118 : decode cX8_weigh 118 = .ok (.iadd, 1) := by decide +kernel
theorem dX8_weigh_119 : decode cX8_weigh 119 = .ok (.aload_n 2, 1) := by decide +kernel
theorem dX8_weigh_120 : decode cX8_weigh 120 = .ok (.iload 5, 2) := by decide +kernel
theorem dX8_weigh_122 : decode cX8_weigh 122 = .ok (.invokevirtual 47, 3) := by decide +kernel
theorem dX8_weigh_125 : decode cX8_weigh 125 = .ok (.imul, 1) := by decide +kernel
theorem dX8_weigh_126 : decode cX8_weigh 126 = .ok (.iadd, 1) := by decide +kernel
theorem dX8_weigh_127 : decode cX8_weigh 127 = .ok (.putfield 16, 3) := by decide +kernel
theorem dX8_weigh_130 : decode cX8_weigh 130 = .ok (.aload_n 0, 1) := by decide +kernel
theorem dX8_weigh_131 : decode cX8_weigh 131 = .ok (.dup, 1) := by decide +kernel
theorem dX8_weigh_132 : decode cX8_weigh 132 = .ok (.getfield 19, 3) := by decide +kernel
theorem dX8_weigh_135 : decode cX8_weigh 135 = .ok (.aload_n 1, 1) := by decide +kernel
theorem dX8_weigh_136 : decode cX8_weigh 136 = .ok (.iload 6, 2) := by decide +kernel
theorem dX8_weigh_138 : decode cX8_weigh 138 = .ok (.iload 7, 2) := by decide +kernel
theorem dX8_weigh_140 : decode cX8_weigh 140 = .ok (.invokevirtual 50, 3) := by decide +kernel
theorem dX8_weigh_143 : decode cX8_weigh 143 = .ok (.ifCond .eq 7, 3) := by decide +kernel
theorem dX8_weigh_146 : decode cX8_weigh 146 = .ok (.iconst 1, 1) := by decide +kernel
theorem dX8_weigh_147 : decode cX8_weigh 147 = .ok (.goto 4, 3) := by decide +kernel
theorem dX8_weigh_150 : decode cX8_weigh 150 = .ok (.iconst 0, 1) := by decide +kernel
theorem dX8_weigh_151 : decode cX8_weigh 151 = .ok (.iadd, 1) := by decide +kernel
theorem dX8_weigh_152 : decode cX8_weigh 152 = .ok (.putfield 19, 3) := by decide +kernel
theorem dX8_weigh_155 : decode cX8_weigh 155 = .ok (.iinc 5 1, 3) := by decide +kernel
theorem dX8_weigh_158 : decode cX8_weigh 158 = .ok (.goto (-137), 3) := by decide +kernel
theorem dX8_weigh_161 : decode cX8_weigh 161 = .ok (.aload_n 0, 1) := by decide +kernel
theorem dX8_weigh_162 : decode cX8_weigh 162 = .ok (.iload_n 3, 1) := by decide +kernel
theorem dX8_weigh_163 : decode cX8_weigh 163 = .ok (.invokestatic 54, 3) := by decide +kernel
theorem dX8_weigh_166 : decode cX8_weigh 166 = .ok (.putfield 7, 3) := by decide +kernel
theorem dX8_weigh_169 : decode cX8_weigh 169 = .ok (.aload_n 0, 1) := by decide +kernel
theorem dX8_weigh_170 : decode cX8_weigh 170 = .ok (.iload 4, 2) := by decide +kernel
theorem dX8_weigh_172 : decode cX8_weigh 172 = .ok (.invokestatic 54, 3) := by decide +kernel
theorem dX8_weigh_175 : decode cX8_weigh 175 = .ok (.putfield 13, 3) := by decide +kernel
theorem dX8_weigh_178 : decode cX8_weigh 178 = .ok (.return_, 1) := by decide +kernel
theorem dX9_trim_0 : decode cX9_trim 0 = .ok (.aload_n 0, 1) := by decide +kernel
theorem dX9_trim_1 : decode cX9_trim 1 = .ok (.iload_n 1, 1) := by decide +kernel
theorem dX9_trim_2 : decode cX9_trim 2 = .ok (.invokevirtual 126, 3) := by decide +kernel
theorem dX9_trim_5 : decode cX9_trim 5 = .ok (.ifCond .eq 12, 3) := by decide +kernel
theorem dX9_trim_8 : decode cX9_trim 8 = .ok (.iload_n 2, 1) := by decide +kernel
theorem dX9_trim_9 : decode cX9_trim 9 = .ok (.iconst 0, 1) := by decide +kernel
theorem dX9_trim_10 : decode cX9_trim 10 = .ok (.iconst 3, 1) := by decide +kernel
theorem dX9_trim_11 : decode cX9_trim 11 = .ok (.invokestatic 97, 3) := by decide +kernel
theorem dX9_trim_14 : decode cX9_trim 14 = .ok (.ifCond .ne 5, 3) := by decide +kernel
theorem dX9_trim_17 : decode cX9_trim 17 = .ok (.iconst (-1), 1) := by decide +kernel
theorem dX9_trim_18 : decode cX9_trim 18 = .ok (.ireturn, 1) := by decide +kernel
theorem dX9_trim_19 : decode cX9_trim 19 = .ok (.aload_n 0, 1) := by decide +kernel
theorem dX9_trim_20 : decode cX9_trim 20 = .ok (.getfield 20, 3) := by decide +kernel
theorem dX9_trim_23 : decode cX9_trim 23 = .ok (.iload_n 1, 1) := by decide +kernel
theorem dX9_trim_24 : decode cX9_trim 24 = .ok (.aaload, 1) := by decide +kernel
theorem dX9_trim_25 : decode cX9_trim 25 = .ok (.getfield 147, 3) := by decide +kernel
theorem dX9_trim_28 : decode cX9_trim 28 = .ok (.ifCond .ne 6, 3) := by decide +kernel
theorem dX9_trim_31 : decode cX9_trim 31 = .ok (.bipush (-3), 2) := by decide +kernel
theorem dX9_trim_33 : decode cX9_trim 33 = .ok (.ireturn, 1) := by decide +kernel
theorem dX9_trim_34 : decode cX9_trim 34 = .ok (.aload_n 0, 1) := by decide +kernel
theorem dX9_trim_35 : decode cX9_trim 35 = .ok (.getfield 31, 3) := by decide +kernel
theorem dX9_trim_38 : decode cX9_trim 38 = .ok (.aload_n 0, 1) := by decide +kernel
theorem dX9_trim_39 : decode cX9_trim 39 = .ok (.getfield 12, 3) := by decide +kernel
theorem dX9_trim_42 : decode cX9_trim 42 = .ok (.aload_n 0, 1) := by decide +kernel
theorem dX9_trim_43 : decode cX9_trim 43 = .ok (.getfield 20, 3) := by decide +kernel
theorem dX9_trim_46 : decode cX9_trim 46 = .ok (.iload_n 1, 1) := by decide +kernel
theorem dX9_trim_47 : decode cX9_trim 47 = .ok (.aaload, 1) := by decide +kernel
theorem dX9_trim_48 : decode cX9_trim 48 = .ok (.invokevirtual 162, 3) := by decide +kernel
theorem dX9_trim_51 : decode cX9_trim 51 = .ok (.iload_n 2, 1) := by decide +kernel
theorem dX9_trim_52 : decode cX9_trim 52 = .ok (.tableswitch 52 0 2 #[28, 36, 44], 28) := by decide +kernel
theorem dX9_trim_80 : decode cX9_trim 80 = .ok (.aload_n 0, 1) := by decide +kernel
theorem dX9_trim_81 : decode cX9_trim 81 = .ok (.getfield 31, 3) := by decide +kernel
theorem dX9_trim_84 : decode cX9_trim 84 = .ok (.getfield 166, 3) := by decide +kernel
theorem dX9_trim_87 : decode cX9_trim 87 = .ok (.ireturn, 1) := by decide +kernel
theorem dX9_trim_88 : decode cX9_trim 88 = .ok (.aload_n 0, 1) := by decide +kernel
theorem dX9_trim_89 : decode cX9_trim 89 = .ok (.getfield 31, 3) := by decide +kernel
theorem dX9_trim_92 : decode cX9_trim 92 = .ok (.getfield 169, 3) := by decide +kernel
theorem dX9_trim_95 : decode cX9_trim 95 = .ok (.ireturn, 1) := by decide +kernel
theorem dX9_trim_96 : decode cX9_trim 96 = .ok (.aload_n 0, 1) := by decide +kernel
theorem dX9_trim_97 : decode cX9_trim 97 = .ok (.getfield 31, 3) := by decide +kernel
theorem dX9_trim_100 : decode cX9_trim 100 = .ok (.getfield 172, 3) := by decide +kernel
theorem dX9_trim_103 : decode cX9_trim 103 = .ok (.ireturn, 1) := by decide +kernel
theorem dX9_trim_104 : decode cX9_trim 104 = .ok (.aload_n 0, 1) := by decide +kernel
theorem dX9_trim_105 : decode cX9_trim 105 = .ok (.getfield 31, 3) := by decide +kernel
theorem dX9_trim_108 : decode cX9_trim 108 = .ok (.getfield 175, 3) := by decide +kernel
theorem dX9_trim_111 : decode cX9_trim 111 = .ok (.ireturn, 1) := by decide +kernel
theorem dX4_maySit_0 : decode cX4_maySit 0 = .ok (.aload_n 0, 1) := by decide +kernel
theorem dX4_maySit_1 : decode cX4_maySit 1 = .ok (.getfield 22, 3) := by decide +kernel
theorem dX4_maySit_4 : decode cX4_maySit 4 = .ok (.iload_n 1, 1) := by decide +kernel
theorem dX4_maySit_5 : decode cX4_maySit 5 = .ok (.iaload, 1) := by decide +kernel
theorem dX4_maySit_6 : decode cX4_maySit 6 = .ok (.iconst 1, 1) := by decide +kernel
theorem dX4_maySit_7 : decode cX4_maySit 7 = .ok (.iload_n 2, 1) := by decide +kernel
theorem dX4_maySit_8 : decode cX4_maySit 8 = .ok (.isub, 1) := by decide +kernel
theorem dX4_maySit_9 : decode cX4_maySit 9 = .ok (.if_icmp .eq 7, 3) := by decide +kernel
theorem dX4_maySit_12 : decode cX4_maySit 12 = .ok (.iconst 1, 1) := by decide +kernel
theorem dX4_maySit_13 : decode cX4_maySit 13 = .ok (.goto 4, 3) := by decide +kernel
theorem dX4_maySit_16 : decode cX4_maySit 16 = .ok (.iconst 0, 1) := by decide +kernel
theorem dX4_maySit_17 : decode cX4_maySit 17 = .ok (.ireturn, 1) := by decide +kernel
theorem dX1_swapSeats_0 : decode cX1_swapSeats 0 = .ok (.aload_n 0, 1) := by decide +kernel
theorem dX1_swapSeats_1 : decode cX1_swapSeats 1 = .ok (.getfield 36, 3) := by decide +kernel
theorem dX1_swapSeats_4 : decode cX1_swapSeats 4 = .ok (.iload_n 1, 1) := by decide +kernel
theorem dX1_swapSeats_5 : decode cX1_swapSeats 5 = .ok (.iaload, 1) := by decide +kernel
theorem dX1_swapSeats_6 : decode cX1_swapSeats 6 = .ok (.istore_n 3, 1) := by decide +kernel
theorem dX1_swapSeats_7 : decode cX1_swapSeats 7 = .ok (.aload_n 0, 1) := by decide +kernel
theorem dX1_swapSeats_8 : decode cX1_swapSeats 8 = .ok (.getfield 36, 3) := by decide +kernel
theorem dX1_swapSeats_11 : decode cX1_swapSeats 11 = .ok (.iload_n 1, 1) := by decide +kernel
theorem dX1_swapSeats_12 : decode cX1_swapSeats 12 = .ok (.aload_n 0, 1) := by decide +kernel
theorem dX1_swapSeats_13 : decode cX1_swapSeats 13 = .ok (.getfield 36, 3) := by decide +kernel
theorem dX1_swapSeats_16 : decode cX1_swapSeats 16 = .ok (.iload_n 2, 1) := by decide +kernel
theorem dX1_swapSeats_17 : decode cX1_swapSeats 17 = .ok (.iaload, 1) := by decide +kernel
theorem dX1_swapSeats_18 : decode cX1_swapSeats 18 = .ok (.iastore, 1) := by decide +kernel
theorem dX1_swapSeats_19 : decode cX1_swapSeats 19 = .ok (.aload_n 0, 1) := by decide +kernel
theorem dX1_swapSeats_20 : decode cX1_swapSeats 20 = .ok (.getfield 36, 3) := by decide +kernel
theorem dX1_swapSeats_23 : decode cX1_swapSeats 23 = .ok (.iload_n 2, 1) := by decide +kernel
theorem dX1_swapSeats_24 : decode cX1_swapSeats 24 = .ok (.iload_n 3, 1) := by decide +kernel
theorem dX1_swapSeats_25 : decode cX1_swapSeats 25 = .ok (.iastore, 1) := by decide +kernel
theorem dX1_swapSeats_26 : decode cX1_swapSeats 26 = .ok (.return_, 1) := by decide +kernel
theorem dX8_tilt_0 : decode cX8_tilt 0 = .ok (.iconst 4, 1) := by decide +kernel
theorem dX8_tilt_1 : decode cX8_tilt 1 = .ok (.aload_n 0, 1) := by decide +kernel
theorem dX8_tilt_2 : decode cX8_tilt 2 = .ok (.getfield 7, 3) := by decide +kernel
theorem dX8_tilt_5 : decode cX8_tilt 5 = .ok (.imul, 1) := by decide +kernel
theorem dX8_tilt_6 : decode cX8_tilt 6 = .ok (.aload_n 0, 1) := by decide +kernel
theorem dX8_tilt_7 : decode cX8_tilt 7 = .ok (.getfield 13, 3) := by decide +kernel
theorem dX8_tilt_10 : decode cX8_tilt 10 = .ok (.iadd, 1) := by decide +kernel
theorem dX8_tilt_11 : decode cX8_tilt 11 = .ok (.aload_n 0, 1) := by decide +kernel
theorem dX8_tilt_12 : decode cX8_tilt 12 = .ok (.getfield 16, 3) := by decide +kernel
theorem dX8_tilt_15 : decode cX8_tilt 15 = .ok (.isub, 1) := by decide +kernel
theorem dX8_tilt_16 : decode cX8_tilt 16 = .ok (.bipush 20, 2) := by decide +kernel
theorem dX8_tilt_18 : decode cX8_tilt 18 = .ok (.aload_n 0, 1) := by decide +kernel
theorem dX8_tilt_19 : decode cX8_tilt 19 = .ok (.getfield 19, 3) := by decide +kernel
theorem dX8_tilt_22 : decode cX8_tilt 22 = .ok (.imul, 1) := by decide +kernel
theorem dX8_tilt_23 : decode cX8_tilt 23 = .ok (.isub, 1) := by decide +kernel
theorem dX8_tilt_24 : decode cX8_tilt 24 = .ok (.ireturn, 1) := by decide +kernel
theorem dX9_change_0 : decode cX9_change 0 = .ok (.aload_n 0, 1) := by decide +kernel
theorem dX9_change_1 : decode cX9_change 1 = .ok (.iload_n 1, 1) := by decide +kernel
theorem dX9_change_2 : decode cX9_change 2 = .ok (.invokevirtual 126, 3) := by decide +kernel
theorem dX9_change_5 : decode cX9_change 5 = .ok (.ifCond .ne 6, 3) := by decide +kernel
theorem dX9_change_8 : decode cX9_change 8 = .ok (.ldc 142, 2) := by decide +kernel
theorem dX9_change_10 : decode cX9_change 10 = .ok (.ireturn, 1) := by decide +kernel
theorem dX9_change_11 : decode cX9_change 11 = .ok (.aload_n 0, 1) := by decide +kernel
theorem dX9_change_12 : decode cX9_change 12 = .ok (.getfield 20, 3) := by decide +kernel
theorem dX9_change_15 : decode cX9_change 15 = .ok (.iload_n 1, 1) := by decide +kernel
theorem dX9_change_16 : decode cX9_change 16 = .ok (.aaload, 1) := by decide +kernel
theorem dX9_change_17 : decode cX9_change 17 = .ok (.astore 4, 2) := by decide +kernel
theorem dX9_change_19 : decode cX9_change 19 = .ok (.aload 4, 2) := by decide +kernel
theorem dX9_change_21 : decode cX9_change 21 = .ok (.invokevirtual 178, 3) := by decide +kernel
theorem dX9_change_24 : decode cX9_change 24 = .ok (.iconst 1, 1) := by decide +kernel
theorem dX9_change_25 : decode cX9_change 25 = .ok (.isub, 1) := by decide +kernel
theorem dX9_change_26 : decode cX9_change 26 = .ok (.istore 5, 2) := by decide +kernel
theorem dX9_change_28 : decode cX9_change 28 = .ok (.iload_n 2, 1) := by decide +kernel
theorem dX9_change_29 : decode cX9_change 29 = .ok (.iconst 0, 1) := by decide +kernel
theorem dX9_change_30 : decode cX9_change 30 = .ok (.iload 5, 2) := by decide +kernel
theorem dX9_change_32 : decode cX9_change 32 = .ok (.invokestatic 97, 3) := by decide +kernel
theorem dX9_change_35 : decode cX9_change 35 = .ok (.ifCond .eq 13, 3) := by decide +kernel
theorem dX9_change_38 : decode cX9_change 38 = .ok (.iload_n 3, 1) := by decide +kernel
theorem dX9_change_39 : decode cX9_change 39 = .ok (.iconst 0, 1) := by decide +kernel
theorem dX9_change_40 : decode cX9_change 40 = .ok (.iload 5, 2) := by decide +kernel
theorem dX9_change_42 : decode cX9_change 42 = .ok (.invokestatic 97, 3) := by decide +kernel
theorem dX9_change_45 : decode cX9_change 45 = .ok (.ifCond .ne 6, 3) := by decide +kernel
theorem dX9_change_48 : decode cX9_change 48 = .ok (.ldc 142, 2) := by decide +kernel
theorem dX9_change_50 : decode cX9_change 50 = .ok (.ireturn, 1) := by decide +kernel
theorem dX9_change_51 : decode cX9_change 51 = .ok (.aload 4, 2) := by decide +kernel
theorem dX9_change_53 : decode cX9_change 53 = .ok (.getfield 147, 3) := by decide +kernel
theorem dX9_change_56 : decode cX9_change 56 = .ok (.ifCond .eq 43, 3) := by decide +kernel
theorem dX9_change_59 : decode cX9_change 59 = .ok (.aload_n 0, 1) := by decide +kernel
theorem dX9_change_60 : decode cX9_change 60 = .ok (.getfield 12, 3) := by decide +kernel
theorem dX9_change_63 : decode cX9_change 63 = .ok (.aload 4, 2) := by decide +kernel
theorem dX9_change_65 : decode cX9_change 65 = .ok (.getfield 159, 3) := by decide +kernel
theorem dX9_change_68 : decode cX9_change 68 = .ok (.iload_n 2, 1) := by decide +kernel
theorem dX9_change_69 : decode cX9_change 69 = .ok (.iaload, 1) := by decide +kernel
theorem dX9_change_70 : decode cX9_change 70 = .ok (.iload_n 3, 1) := by decide +kernel
theorem dX9_change_71 : decode cX9_change 71 = .ok (.iconst 2, 1) := by decide +kernel
theorem dX9_change_72 : decode cX9_change 72 = .ok (.irem, 1) := by decide +kernel
theorem dX9_change_73 : decode cX9_change 73 = .ok (.invokevirtual 182, 3) := by decide +kernel
theorem dX9_change_76 : decode cX9_change 76 = .ok (.ifCond .eq 23, 3) := by decide +kernel
theorem dX9_change_79 : decode cX9_change 79 = .ok (.aload_n 0, 1) := by decide +kernel
theorem dX9_change_80 : decode cX9_change 80 = .ok (.getfield 12, 3) := by decide +kernel
theorem dX9_change_83 : decode cX9_change 83 = .ok (.aload 4, 2) := by decide +kernel
theorem dX9_change_85 : decode cX9_change 85 = .ok (.getfield 159, 3) := by decide +kernel
theorem dX9_change_88 : decode cX9_change 88 = .ok (.iload_n 3, 1) := by decide +kernel
theorem dX9_change_89 : decode cX9_change 89 = .ok (.iaload, 1) := by decide +kernel
theorem dX9_change_90 : decode cX9_change 90 = .ok (.iload_n 2, 1) := by decide +kernel
theorem dX9_change_91 : decode cX9_change 91 = .ok (.iconst 2, 1) := by decide +kernel
theorem dX9_change_92 : decode cX9_change 92 = .ok (.irem, 1) := by decide +kernel
theorem dX9_change_93 : decode cX9_change 93 = .ok (.invokevirtual 182, 3) := by decide +kernel
theorem dX9_change_96 : decode cX9_change 96 = .ok (.ifCond .ne 6, 3) := by decide +kernel
theorem dX9_change_99 : decode cX9_change 99 = .ok (.ldc 151, 2) := by decide +kernel
theorem dX9_change_101 : decode cX9_change 101 = .ok (.ireturn, 1) := by decide +kernel
theorem dX9_change_102 : decode cX9_change 102 = .ok (.aload 4, 2) := by decide +kernel
theorem dX9_change_104 : decode cX9_change 104 = .ok (.iload_n 2, 1) := by decide +kernel
theorem dX9_change_105 : decode cX9_change 105 = .ok (.iload_n 3, 1) := by decide +kernel
theorem dX9_change_106 : decode cX9_change 106 = .ok (.invokevirtual 185, 3) := by decide +kernel
theorem dX9_change_109 : decode cX9_change 109 = .ok (.aload_n 0, 1) := by decide +kernel
theorem dX9_change_110 : decode cX9_change 110 = .ok (.getfield 31, 3) := by decide +kernel
theorem dX9_change_113 : decode cX9_change 113 = .ok (.aload_n 0, 1) := by decide +kernel
theorem dX9_change_114 : decode cX9_change 114 = .ok (.getfield 12, 3) := by decide +kernel
theorem dX9_change_117 : decode cX9_change 117 = .ok (.aload 4, 2) := by decide +kernel
theorem dX9_change_119 : decode cX9_change 119 = .ok (.invokevirtual 162, 3) := by decide +kernel
theorem dX9_change_122 : decode cX9_change 122 = .ok (.aload 4, 2) := by decide +kernel
theorem dX9_change_124 : decode cX9_change 124 = .ok (.iload_n 2, 1) := by decide +kernel
theorem dX9_change_125 : decode cX9_change 125 = .ok (.iload_n 3, 1) := by decide +kernel
theorem dX9_change_126 : decode cX9_change 126 = .ok (.invokevirtual 185, 3) := by decide +kernel
theorem dX9_change_129 : decode cX9_change 129 = .ok (.aload_n 0, 1) := by decide +kernel
theorem dX9_change_130 : decode cX9_change 130 = .ok (.getfield 31, 3) := by decide +kernel
theorem dX9_change_133 : decode cX9_change 133 = .ok (.invokevirtual 189, 3) := by decide +kernel
theorem dX9_change_136 : decode cX9_change 136 = .ok (.ireturn, 1) := by decide +kernel
theorem dX7_append_0 : decode cX7_append 0 = .ok (.iload_n 3, 1) := by decide +kernel
theorem dX7_append_1 : decode cX7_append 1 = .ok (.iconst 1, 1) := by decide +kernel
theorem dX7_append_2 : decode cX7_append 2 = .ok (.isub, 1) := by decide +kernel
theorem dX7_append_3 : decode cX7_append 3 = .ok (.istore 4, 2) := by decide +kernel
theorem dX7_append_5 : decode cX7_append 5 = .ok (.iload 4, 2) := by decide +kernel
theorem dX7_append_7 : decode cX7_append 7 = .ok (.ifCond .lt 49, 3) := by decide +kernel
theorem dX7_append_10 : decode cX7_append 10 = .ok (.aload_n 0, 1) := by decide +kernel
theorem dX7_append_11 : decode cX7_append 11 = .ok (.getfield 9, 3) := by decide +kernel
theorem dX7_append_14 : decode cX7_append 14 = .ok (.bipush 120, 2) := by decide +kernel
theorem dX7_append_16 : decode cX7_append 16 = .ok (.if_icmp .ge 40, 3) := by decide +kernel
theorem dX7_append_19 : decode cX7_append 19 = .ok (.aload_n 0, 1) := by decide +kernel
theorem dX7_append_20 : decode cX7_append 20 = .ok (.getfield 18, 3) := by decide +kernel
theorem dX7_append_23 : decode cX7_append 23 = .ok (.aload_n 0, 1) := by decide +kernel
theorem dX7_append_24 : decode cX7_append 24 = .ok (.getfield 9, 3) := by decide +kernel
theorem dX7_append_27 : decode cX7_append 27 = .ok (.lload_n 1, 1) := by decide +kernel
theorem dX7_append_28 : decode cX7_append 28 = .ok (.bipush 8, 2) := by decide +kernel
theorem dX7_append_30 : decode cX7_append 30 = .ok (.iload 4, 2) := by decide +kernel
theorem dX7_append_32 : decode cX7_append 32 = .ok (.imul, 1) := by decide +kernel
theorem dX7_append_33 : decode cX7_append 33 = .ok (.lushr, 1) := by decide +kernel
theorem dX7_append_34 : decode cX7_append 34 = .ok (.ldc2_w 22, 3) := by decide +kernel
theorem dX7_append_37 : decode cX7_append 37 = .ok (.land, 1) := by decide +kernel
theorem dX7_append_38 : decode cX7_append 38 = .ok (.l2i, 1) := by decide +kernel
theorem dX7_append_39 : decode cX7_append 39 = .ok (.iastore, 1) := by decide +kernel
theorem dX7_append_40 : decode cX7_append 40 = .ok (.aload_n 0, 1) := by decide +kernel
theorem dX7_append_41 : decode cX7_append 41 = .ok (.dup, 1) := by decide +kernel
theorem dX7_append_42 : decode cX7_append 42 = .ok (.getfield 9, 3) := by decide +kernel
theorem dX7_append_45 : decode cX7_append 45 = .ok (.iconst 1, 1) := by decide +kernel
theorem dX7_append_46 : decode cX7_append 46 = .ok (.iadd, 1) := by decide +kernel
theorem dX7_append_47 : decode cX7_append 47 = .ok (.putfield 9, 3) := by decide +kernel
theorem dX7_append_50 : decode cX7_append 50 = .ok (.iinc 4 (-1), 3) := by decide +kernel
theorem dX7_append_53 : decode cX7_append 53 = .ok (.goto (-48), 3) := by decide +kernel
theorem dX7_append_56 : decode cX7_append 56 = .ok (.return_, 1) := by decide +kernel
theorem dX9_feed_0 : decode cX9_feed 0 = .ok (.iload_n 3, 1) := by decide +kernel
theorem dX9_feed_1 : decode cX9_feed 1 = .ok (.iconst 1, 1) := by decide +kernel
theorem dX9_feed_2 : decode cX9_feed 2 = .ok (.bipush 8, 2) := by decide +kernel
theorem dX9_feed_4 : decode cX9_feed 4 = .ok (.invokestatic 97, 3) := by decide +kernel
theorem dX9_feed_7 : decode cX9_feed 7 = .ok (.ifCond .ne 6, 3) := by decide +kernel
theorem dX9_feed_10 : decode cX9_feed 10 = .ok (.bipush (-2), 2) := by decide +kernel
theorem dX9_feed_12 : decode cX9_feed 12 = .ok (.ireturn, 1) := by decide +kernel
theorem dX9_feed_13 : decode cX9_feed 13 = .ok (.aload_n 0, 1) := by decide +kernel
theorem dX9_feed_14 : decode cX9_feed 14 = .ok (.getfield 45, 3) := by decide +kernel
theorem dX9_feed_17 : decode cX9_feed 17 = .ok (.getfield 192, 3) := by decide +kernel
theorem dX9_feed_20 : decode cX9_feed 20 = .ok (.iload_n 3, 1) := by decide +kernel
theorem dX9_feed_21 : decode cX9_feed 21 = .ok (.iadd, 1) := by decide +kernel
theorem dX9_feed_22 : decode cX9_feed 22 = .ok (.bipush 120, 2) := by decide +kernel
theorem dX9_feed_24 : decode cX9_feed 24 = .ok (.if_icmp .le 6, 3) := by decide +kernel
theorem dX9_feed_27 : decode cX9_feed 27 = .ok (.bipush (-4), 2) := by decide +kernel
theorem dX9_feed_29 : decode cX9_feed 29 = .ok (.ireturn, 1) := by decide +kernel
theorem dX9_feed_30 : decode cX9_feed 30 = .ok (.aload_n 0, 1) := by decide +kernel
theorem dX9_feed_31 : decode cX9_feed 31 = .ok (.getfield 45, 3) := by decide +kernel
theorem dX9_feed_34 : decode cX9_feed 34 = .ok (.lload_n 1, 1) := by decide +kernel
theorem dX9_feed_35 : decode cX9_feed 35 = .ok (.iload_n 3, 1) := by decide +kernel
theorem dX9_feed_36 : decode cX9_feed 36 = .ok (.invokevirtual 193, 3) := by decide +kernel
theorem dX9_feed_39 : decode cX9_feed 39 = .ok (.aload_n 0, 1) := by decide +kernel
theorem dX9_feed_40 : decode cX9_feed 40 = .ok (.getfield 45, 3) := by decide +kernel
theorem dX9_feed_43 : decode cX9_feed 43 = .ok (.getfield 192, 3) := by decide +kernel
theorem dX9_feed_46 : decode cX9_feed 46 = .ok (.ireturn, 1) := by decide +kernel
theorem dX7_wordOf_0 : decode cX7_wordOf 0 = .ok (.iload_n 0, 1) := by decide +kernel
theorem dX7_wordOf_1 : decode cX7_wordOf 1 = .ok (.tableswitch 71 0 7 #[47, 50, 53, 56, 59, 62, 65, 68], 47) := by decide +kernel
theorem dX7_wordOf_48 : decode cX7_wordOf 48 = .ok (.ldc 91, 2) := by decide +kernel
theorem dX7_wordOf_50 : decode cX7_wordOf 50 = .ok (.areturn, 1) := by decide +kernel
theorem dX7_wordOf_51 : decode cX7_wordOf 51 = .ok (.ldc 93, 2) := by decide +kernel
theorem dX7_wordOf_53 : decode cX7_wordOf 53 = .ok (.areturn, 1) := by decide +kernel
theorem dX7_wordOf_54 : decode cX7_wordOf 54 = .ok (.ldc 95, 2) := by decide +kernel
theorem dX7_wordOf_56 : decode cX7_wordOf 56 = .ok (.areturn, 1) := by decide +kernel
theorem dX7_wordOf_57 : decode cX7_wordOf 57 = .ok (.ldc 97, 2) := by decide +kernel
theorem dX7_wordOf_59 : decode cX7_wordOf 59 = .ok (.areturn, 1) := by decide +kernel
theorem dX7_wordOf_60 : decode cX7_wordOf 60 = .ok (.ldc 99, 2) := by decide +kernel
theorem dX7_wordOf_62 : decode cX7_wordOf 62 = .ok (.areturn, 1) := by decide +kernel
theorem dX7_wordOf_63 : decode cX7_wordOf 63 = .ok (.ldc 101, 2) := by decide +kernel
theorem dX7_wordOf_65 : decode cX7_wordOf 65 = .ok (.areturn, 1) := by decide +kernel
theorem dX7_wordOf_66 : decode cX7_wordOf 66 = .ok (.ldc 103, 2) := by decide +kernel
theorem dX7_wordOf_68 : decode cX7_wordOf 68 = .ok (.areturn, 1) := by decide +kernel
theorem dX7_wordOf_69 : decode cX7_wordOf 69 = .ok (.ldc 105, 2) := by decide +kernel
theorem dX7_wordOf_71 : decode cX7_wordOf 71 = .ok (.areturn, 1) := by decide +kernel
theorem dX7_wordOf_72 : decode cX7_wordOf 72 = .ok (.ldc 107, 2) := by decide +kernel
theorem dX7_wordOf_74 : decode cX7_wordOf 74 = .ok (.areturn, 1) := by decide +kernel
theorem dX7_peek_0 : decode cX7_peek 0 = .ok (.aload_n 0, 1) := by decide +kernel
theorem dX7_peek_1 : decode cX7_peek 1 = .ok (.getfield 15, 3) := by decide +kernel
theorem dX7_peek_4 : decode cX7_peek 4 = .ok (.aload_n 0, 1) := by decide +kernel
theorem dX7_peek_5 : decode cX7_peek 5 = .ok (.getfield 9, 3) := by decide +kernel
theorem dX7_peek_8 : decode cX7_peek 8 = .ok (.if_icmp .ge 15, 3) := by decide +kernel
theorem dX7_peek_11 : decode cX7_peek 11 = .ok (.aload_n 0, 1) := by decide +kernel
theorem dX7_peek_12 : decode cX7_peek 12 = .ok (.getfield 18, 3) := by decide +kernel
theorem dX7_peek_15 : decode cX7_peek 15 = .ok (.aload_n 0, 1) := by decide +kernel
theorem dX7_peek_16 : decode cX7_peek 16 = .ok (.getfield 15, 3) := by decide +kernel
theorem dX7_peek_19 : decode cX7_peek 19 = .ok (.iaload, 1) := by decide +kernel
theorem dX7_peek_20 : decode cX7_peek 20 = .ok (.goto 4, 3) := by decide +kernel
theorem dX7_peek_23 : decode cX7_peek 23 = .ok (.iconst (-1), 1) := by decide +kernel
theorem dX7_peek_24 : decode cX7_peek 24 = .ok (.ireturn, 1) := by decide +kernel
theorem dJ0_coder_7d493_0 : decode cJ0_coder_7d493 0 = .ok (.getstatic 38, 3) := by decide +kernel
theorem dJ0_coder_7d493_3 : decode cJ0_coder_7d493 3 = .ok (.ifCond .eq 10, 3) := by decide +kernel
theorem dJ0_coder_7d493_6 : decode cJ0_coder_7d493 6 = .ok (.aload_n 0, 1) := by decide +kernel
theorem dJ0_coder_7d493_7 : decode cJ0_coder_7d493 7 = .ok (.getfield 15, 3) := by decide +kernel
theorem dJ0_coder_7d493_10 : decode cJ0_coder_7d493 10 = .ok (.goto 4, 3) := by decide +kernel
theorem dJ0_coder_7d493_14 : decode cJ0_coder_7d493 14 = .ok (.ireturn, 1) := by decide +kernel
theorem dJ0_length_8abf5_0 : decode cJ0_length_8abf5 0 = .ok (.aload_n 0, 1) := by decide +kernel
theorem dJ0_length_8abf5_1 : decode cJ0_length_8abf5 1 = .ok (.getfield 9, 3) := by decide +kernel
theorem dJ0_length_8abf5_4 : decode cJ0_length_8abf5 4 = .ok (.arraylength, 1) := by decide +kernel
theorem dJ0_length_8abf5_5 : decode cJ0_length_8abf5 5 = .ok (.aload_n 0, 1) := by decide +kernel
theorem dJ0_length_8abf5_6 : decode cJ0_length_8abf5 6 = .ok (.invokevirtual 335, 3) := by decide +kernel
theorem dJ0_length_8abf5_9 : decode cJ0_length_8abf5 9 = .ok (.ishr, 1) := by decide +kernel
theorem dJ0_length_8abf5_10 : decode cJ0_length_8abf5 10 = .ok (.ireturn, 1) := by decide +kernel
theorem dJ0_isLatin1_aae02_0 : decode cJ0_isLatin1_aae02 0 = .ok (.getstatic 38, 3) := by decide +kernel
theorem dJ0_isLatin1_aae02_3 : decode cJ0_isLatin1_aae02 3 = .ok (.ifCond .eq 14, 3) := by decide +kernel
theorem dJ0_isLatin1_aae02_6 : decode cJ0_isLatin1_aae02 6 = .ok (.aload_n 0, 1) := by decide +kernel
theorem dJ0_isLatin1_aae02_7 : decode cJ0_isLatin1_aae02 7 = .ok (.getfield 15, 3) := by decide +kernel
theorem dJ0_isLatin1_aae02_10 : decode cJ0_isLatin1_aae02 10 = .ok (.ifCond .ne 7, 3) := by decide +kernel
theorem dJ0_isLatin1_aae02_13 : decode cJ0_isLatin1_aae02 13 = .ok (.iconst 1, 1) := by decide +kernel
theorem dJ0_isLatin1_aae02_14 : decode cJ0_isLatin1_aae02 14 = .ok (.goto 4, 3) := by decide +kernel
theorem dJ0_isLatin1_aae02_18 : decode cJ0_isLatin1_aae02 18 = .ok (.ireturn, 1) := by decide +kernel
theorem dJ3_checkIndex_8e157_0 : decode cJ3_checkIndex_8e157 0 = .ok (.iload_n 0, 1) := by decide +kernel
theorem dJ3_checkIndex_8e157_1 : decode cJ3_checkIndex_8e157 1 = .ok (.ifCond .lt 8, 3) := by decide +kernel
theorem dJ3_checkIndex_8e157_4 : decode cJ3_checkIndex_8e157 4 = .ok (.iload_n 0, 1) := by decide +kernel
theorem dJ3_checkIndex_8e157_5 : decode cJ3_checkIndex_8e157 5 = .ok (.iload_n 1, 1) := by decide +kernel
theorem dJ3_checkIndex_8e157_6 : decode cJ3_checkIndex_8e157 6 = .ok (.if_icmp .lt 10, 3) := by decide +kernel
theorem dJ3_checkIndex_8e157_16 : decode cJ3_checkIndex_8e157 16 = .ok (.iload_n 0, 1) := by decide +kernel
theorem dJ3_checkIndex_8e157_17 : decode cJ3_checkIndex_8e157 17 = .ok (.ireturn, 1) := by decide +kernel
theorem dJ0_checkIndex_df160_0 : decode cJ0_checkIndex_df160 0 = .ok (.iload_n 0, 1) := by decide +kernel
theorem dJ0_checkIndex_df160_1 : decode cJ0_checkIndex_df160 1 = .ok (.iload_n 1, 1) := by decide +kernel
theorem dJ0_checkIndex_df160_2 : decode cJ0_checkIndex_df160 2 = .ok (.getstatic 1053, 3) := by decide +kernel
theorem dJ0_checkIndex_df160_5 : decode cJ0_checkIndex_df160 5 = .ok (.invokestatic 1059, 3) := by decide +kernel
theorem dJ0_checkIndex_df160_8 : decode cJ0_checkIndex_df160 8 = .ok (.pop, 1) := by decide +kernel
theorem dJ0_checkIndex_df160_9 : decode cJ0_checkIndex_df160 9 = .ok (.return_, 1) := by decide +kernel
theorem dJ1_charAt_3b067_0 : decode cJ1_charAt_3b067 0 = .ok (.iload_n 1, 1) := by decide +kernel
theorem dJ1_charAt_3b067_1 : decode cJ1_charAt_3b067 1 = .ok (.aload_n 0, 1) := by decide +kernel
theorem dJ1_charAt_3b067_2 : decode cJ1_charAt_3b067 2 = .ok (.arraylength, 1) := by decide +kernel
theorem dJ1_charAt_3b067_3 : decode cJ1_charAt_3b067 3 = .ok (.invokestatic 9, 3) := by decide +kernel
theorem dJ1_charAt_3b067_6 : decode cJ1_charAt_3b067 6 = .ok (.aload_n 0, 1) := by decide +kernel
theorem dJ1_charAt_3b067_7 : decode cJ1_charAt_3b067 7 = .ok (.iload_n 1, 1) := by decide +kernel
theorem dJ1_charAt_3b067_8 : decode cJ1_charAt_3b067 8 = .ok (.baload, 1) := by decide +kernel
theorem dJ1_charAt_3b067_9 : decode cJ1_charAt_3b067 9 = .ok (.sipush 255, 3) := by decide +kernel
theorem dJ1_charAt_3b067_12 : decode cJ1_charAt_3b067 12 = .ok (.iand, 1) := by decide +kernel
theorem dJ1_charAt_3b067_13 : decode cJ1_charAt_3b067 13 = .ok (.i2c, 1) := by decide +kernel
theorem dJ1_charAt_3b067_14 : decode cJ1_charAt_3b067 14 = .ok (.ireturn, 1) := by decide +kernel
theorem dJ0_charAt_5068e_0 : decode cJ0_charAt_5068e 0 = .ok (.aload_n 0, 1) := by decide +kernel
theorem dJ0_charAt_5068e_1 : decode cJ0_charAt_5068e 1 = .ok (.invokevirtual 492, 3) := by decide +kernel
theorem dJ0_charAt_5068e_4 : decode cJ0_charAt_5068e 4 = .ok (.ifCond .eq 12, 3) := by decide +kernel
theorem dJ0_charAt_5068e_7 : decode cJ0_charAt_5068e 7 = .ok (.aload_n 0, 1) := by decide +kernel
theorem dJ0_charAt_5068e_8 : decode cJ0_charAt_5068e 8 = .ok (.getfield 9, 3) := by decide +kernel
theorem dJ0_charAt_5068e_11 : decode cJ0_charAt_5068e 11 = .ok (.iload_n 1, 1) := by decide +kernel
theorem dJ0_charAt_5068e_12 : decode cJ0_charAt_5068e 12 = .ok (.invokestatic 495, 3) := by decide +kernel
theorem dJ0_charAt_5068e_15 : decode cJ0_charAt_5068e 15 = .ok (.ireturn, 1) := by decide +kernel
theorem dX7_hasSign_0 : decode cX7_hasSign 0 = .ok (.iload_n 1, 1) := by decide +kernel
theorem dX7_hasSign_1 : decode cX7_hasSign 1 = .ok (.aload_n 0, 1) := by decide +kernel
theorem dX7_hasSign_2 : decode cX7_hasSign 2 = .ok (.invokevirtual 82, 3) := by decide +kernel
theorem dX7_hasSign_5 : decode cX7_hasSign 5 = .ok (.if_icmp .ge 16, 3) := by decide +kernel
theorem dX7_hasSign_8 : decode cX7_hasSign 8 = .ok (.aload_n 0, 1) := by decide +kernel
theorem dX7_hasSign_9 : decode cX7_hasSign 9 = .ok (.iload_n 1, 1) := by decide +kernel
theorem dX7_hasSign_10 : decode cX7_hasSign 10 = .ok (.invokevirtual 87, 3) := by decide +kernel
theorem dX7_hasSign_13 : decode cX7_hasSign 13 = .ok (.iload_n 2, 1) := by decide +kernel
theorem dX7_hasSign_14 : decode cX7_hasSign 14 = .ok (.if_icmp .ne 7, 3) := by decide +kernel
theorem dX7_hasSign_17 : decode cX7_hasSign 17 = .ok (.iconst 1, 1) := by decide +kernel
theorem dX7_hasSign_18 : decode cX7_hasSign 18 = .ok (.goto 4, 3) := by decide +kernel
theorem dX7_hasSign_21 : decode cX7_hasSign 21 = .ok (.iconst 0, 1) := by decide +kernel
theorem dX7_hasSign_22 : decode cX7_hasSign 22 = .ok (.ireturn, 1) := by decide +kernel
theorem dX7_readWord_0 : decode cX7_readWord 0 = .ok (.iconst (-1), 1) := by decide +kernel
theorem dX7_readWord_1 : decode cX7_readWord 1 = .ok (.istore_n 3, 1) := by decide +kernel
theorem dX7_readWord_2 : decode cX7_readWord 2 = .ok (.iconst 0, 1) := by decide +kernel
theorem dX7_readWord_3 : decode cX7_readWord 3 = .ok (.istore 4, 2) := by decide +kernel
theorem dX7_readWord_5 : decode cX7_readWord 5 = .ok (.iload 4, 2) := by decide +kernel
theorem dX7_readWord_7 : decode cX7_readWord 7 = .ok (.bipush 6, 2) := by decide +kernel
theorem dX7_readWord_9 : decode cX7_readWord 9 = .ok (.if_icmp .ge 124, 3) := by decide +kernel
theorem dX7_readWord_12 : decode cX7_readWord 12 = .ok (.iconst 0, 1) := by decide +kernel
theorem dX7_readWord_13 : decode cX7_readWord 13 = .ok (.istore 5, 2) := by decide +kernel
theorem dX7_readWord_15 : decode cX7_readWord 15 = .ok (.iload_n 1, 1) := by decide +kernel
theorem dX7_readWord_16 : decode cX7_readWord 16 = .ok (.istore 6, 2) := by decide +kernel
theorem dX7_readWord_18 : decode cX7_readWord 18 = .ok (.iload 6, 2) := by decide +kernel
theorem dX7_readWord_20 : decode cX7_readWord 20 = .ok (.iload_n 2, 1) := by decide +kernel
theorem dX7_readWord_21 : decode cX7_readWord 21 = .ok (.if_icmp .gt 44, 3) := by decide +kernel
theorem dX7_readWord_24 : decode cX7_readWord 24 = .ok (.iload_n 3, 1) := by decide +kernel
theorem dX7_readWord_25 : decode cX7_readWord 25 = .ok (.iload 6, 2) := by decide +kernel
theorem dX7_readWord_27 : decode cX7_readWord 27 = .ok (.iushr, 1) := by decide +kernel
theorem dX7_readWord_28 : decode cX7_readWord 28 = .ok (.iconst 1, 1) := by decide +kernel
theorem dX7_readWord_29 : decode cX7_readWord 29 = .ok (.iand, 1) := by decide +kernel
theorem dX7_readWord_30 : decode cX7_readWord 30 = .ok (.ifCond .eq 29, 3) := by decide +kernel
theorem dX7_readWord_33 : decode cX7_readWord 33 = .ok (.iload 6, 2) := by decide +kernel
theorem dX7_readWord_35 : decode cX7_readWord 35 = .ok (.invokestatic 74, 3) := by decide +kernel
theorem dX7_readWord_38 : decode cX7_readWord 38 = .ok (.iload 4, 2) := by decide +kernel
theorem dX7_readWord_40 : decode cX7_readWord 40 = .ok (.aload_n 0, 1) := by decide +kernel
theorem dX7_readWord_41 : decode cX7_readWord 41 = .ok (.invokevirtual 60, 3) := by decide +kernel
theorem dX7_readWord_44 : decode cX7_readWord 44 = .ok (.invokestatic 78, 3) := by decide +kernel
theorem dX7_readWord_47 : decode cX7_readWord 47 = .ok (.ifCond .eq 12, 3) := by decide +kernel
theorem dX7_readWord_50 : decode cX7_readWord 50 = .ok (.iload 5, 2) := by decide +kernel
theorem dX7_readWord_52 : decode cX7_readWord 52 = .ok (.iconst 1, 1) := by decide +kernel
theorem dX7_readWord_53 : decode cX7_readWord 53 = .ok (.iload 6, 2) := by decide +kernel
theorem dX7_readWord_55 : decode cX7_readWord 55 = .ok (.ishl, 1) := by decide +kernel
theorem dX7_readWord_56 : decode cX7_readWord 56 = .ok (.ior, 1) := by decide +kernel
theorem dX7_readWord_57 : decode cX7_readWord 57 = .ok (.istore 5, 2) := by decide +kernel
theorem dX7_readWord_59 : decode cX7_readWord 59 = .ok (.iinc 6 1, 3) := by decide +kernel
theorem dX7_readWord_62 : decode cX7_readWord 62 = .ok (.goto (-44), 3) := by decide +kernel
theorem dX7_readWord_65 : decode cX7_readWord 65 = .ok (.iload 5, 2) := by decide +kernel
theorem dX7_readWord_67 : decode cX7_readWord 67 = .ok (.ifCond .ne 5, 3) := by decide +kernel
theorem dX7_readWord_70 : decode cX7_readWord 70 = .ok (.iconst (-1), 1) := by decide +kernel
theorem dX7_readWord_71 : decode cX7_readWord 71 = .ok (.ireturn, 1) := by decide +kernel
theorem dX7_readWord_72 : decode cX7_readWord 72 = .ok (.aload_n 0, 1) := by decide +kernel
theorem dX7_readWord_73 : decode cX7_readWord 73 = .ok (.dup, 1) := by decide +kernel
theorem dX7_readWord_74 : decode cX7_readWord 74 = .ok (.getfield 15, 3) := by decide +kernel
theorem dX7_readWord_77 : decode cX7_readWord 77 = .ok (.iconst 1, 1) := by decide +kernel
theorem dX7_readWord_78 : decode cX7_readWord 78 = .ok (.iadd, 1) := by decide +kernel
theorem dX7_readWord_79 : decode cX7_readWord 79 = .ok (.putfield 15, 3) := by decide +kernel
theorem dX7_readWord_82 : decode cX7_readWord 82 = .ok (.iload 5, 2) := by decide +kernel
theorem dX7_readWord_84 : decode cX7_readWord 84 = .ok (.istore_n 3, 1) := by decide +kernel
theorem dX7_readWord_85 : decode cX7_readWord 85 = .ok (.iload_n 1, 1) := by decide +kernel
theorem dX7_readWord_86 : decode cX7_readWord 86 = .ok (.istore 6, 2) := by decide +kernel
theorem dX7_readWord_88 : decode cX7_readWord 88 = .ok (.iload 6, 2) := by decide +kernel
theorem dX7_readWord_90 : decode cX7_readWord 90 = .ok (.iload_n 2, 1) := by decide +kernel
theorem dX7_readWord_91 : decode cX7_readWord 91 = .ok (.if_icmp .gt 36, 3) := by decide +kernel
theorem dX7_readWord_94 : decode cX7_readWord 94 = .ok (.iload_n 3, 1) := by decide +kernel
theorem dX7_readWord_95 : decode cX7_readWord 95 = .ok (.iload 6, 2) := by decide +kernel
theorem dX7_readWord_97 : decode cX7_readWord 97 = .ok (.iushr, 1) := by decide +kernel
theorem dX7_readWord_98 : decode cX7_readWord 98 = .ok (.iconst 1, 1) := by decide +kernel
theorem dX7_readWord_99 : decode cX7_readWord 99 = .ok (.iand, 1) := by decide +kernel
theorem dX7_readWord_100 : decode cX7_readWord 100 = .ok (.ifCond .eq 21, 3) := by decide +kernel
theorem dX7_readWord_103 : decode cX7_readWord 103 = .ok (.iload 6, 2) := by decide +kernel
theorem dX7_readWord_105 : decode cX7_readWord 105 = .ok (.invokestatic 74, 3) := by decide +kernel
theorem dX7_readWord_108 : decode cX7_readWord 108 = .ok (.invokevirtual 82, 3) := by decide +kernel
theorem dX7_readWord_111 : decode cX7_readWord 111 = .ok (.iload 4, 2) := by decide +kernel
theorem dX7_readWord_113 : decode cX7_readWord 113 = .ok (.iconst 1, 1) := by decide +kernel
theorem dX7_readWord_114 : decode cX7_readWord 114 = .ok (.iadd, 1) := by decide +kernel
theorem dX7_readWord_115 : decode cX7_readWord 115 = .ok (.if_icmp .ne 6, 3) := by decide +kernel
theorem dX7_readWord_118 : decode cX7_readWord 118 = .ok (.iload 6, 2) := by decide +kernel
theorem dX7_readWord_120 : decode cX7_readWord 120 = .ok (.ireturn, 1) := by decide +kernel
theorem dX7_readWord_121 : decode cX7_readWord 121 = .ok (.iinc 6 1, 3) := by decide +kernel
theorem dX7_readWord_124 : decode cX7_readWord 124 = .ok (.goto (-36), 3) := by decide +kernel
theorem dX7_readWord_127 : decode cX7_readWord 127 = .ok (.iinc 4 1, 3) := by decide +kernel
theorem dX7_readWord_130 : decode cX7_readWord 130 = .ok (.goto (-125), 3) := by decide +kernel
theorem dX7_readWord_133 : decode cX7_readWord 133 = .ok (.iconst (-1), 1) := by decide +kernel
theorem dX7_readWord_134 : decode cX7_readWord 134 = .ok (.ireturn, 1) := by decide +kernel
theorem dX7_readBlank_0 : decode cX7_readBlank 0 = .ok (.aload_n 0, 1) := by decide +kernel
theorem dX7_readBlank_1 : decode cX7_readBlank 1 = .ok (.invokevirtual 60, 3) := by decide +kernel
theorem dX7_readBlank_4 : decode cX7_readBlank 4 = .ok (.bipush 32, 2) := by decide +kernel
theorem dX7_readBlank_6 : decode cX7_readBlank 6 = .ok (.if_icmp .eq 5, 3) := by decide +kernel
theorem dX7_readBlank_9 : decode cX7_readBlank 9 = .ok (.iconst 0, 1) := by decide +kernel
theorem dX7_readBlank_10 : decode cX7_readBlank 10 = .ok (.ireturn, 1) := by decide +kernel
theorem dX7_readBlank_11 : decode cX7_readBlank 11 = .ok (.aload_n 0, 1) := by decide +kernel
theorem dX7_readBlank_12 : decode cX7_readBlank 12 = .ok (.dup, 1) := by decide +kernel
theorem dX7_readBlank_13 : decode cX7_readBlank 13 = .ok (.getfield 15, 3) := by decide +kernel
theorem dX7_readBlank_16 : decode cX7_readBlank 16 = .ok (.iconst 1, 1) := by decide +kernel
theorem dX7_readBlank_17 : decode cX7_readBlank 17 = .ok (.iadd, 1) := by decide +kernel
theorem dX7_readBlank_18 : decode cX7_readBlank 18 = .ok (.putfield 15, 3) := by decide +kernel
theorem dX7_readBlank_21 : decode cX7_readBlank 21 = .ok (.iconst 1, 1) := by decide +kernel
theorem dX7_readBlank_22 : decode cX7_readBlank 22 = .ok (.ireturn, 1) := by decide +kernel
theorem dX7_readSign_0 : decode cX7_readSign 0 = .ok (.aload_n 0, 1) := by decide +kernel
theorem dX7_readSign_1 : decode cX7_readSign 1 = .ok (.invokevirtual 60, 3) := by decide +kernel
theorem dX7_readSign_4 : decode cX7_readSign 4 = .ok (.istore_n 3, 1) := by decide +kernel
theorem dX7_readSign_5 : decode cX7_readSign 5 = .ok (.iload_n 3, 1) := by decide +kernel
theorem dX7_readSign_6 : decode cX7_readSign 6 = .ok (.bipush 60, 2) := by decide +kernel
theorem dX7_readSign_8 : decode cX7_readSign 8 = .ok (.if_icmp .eq 17, 3) := by decide +kernel
theorem dX7_readSign_11 : decode cX7_readSign 11 = .ok (.iload_n 3, 1) := by decide +kernel
theorem dX7_readSign_12 : decode cX7_readSign 12 = .ok (.bipush 61, 2) := by decide +kernel
theorem dX7_readSign_14 : decode cX7_readSign 14 = .ok (.if_icmp .eq 11, 3) := by decide +kernel
theorem dX7_readSign_17 : decode cX7_readSign 17 = .ok (.iload_n 3, 1) := by decide +kernel
theorem dX7_readSign_18 : decode cX7_readSign 18 = .ok (.bipush 62, 2) := by decide +kernel
theorem dX7_readSign_20 : decode cX7_readSign 20 = .ok (.if_icmp .eq 5, 3) := by decide +kernel
theorem dX7_readSign_23 : decode cX7_readSign 23 = .ok (.iconst 0, 1) := by decide +kernel
theorem dX7_readSign_24 : decode cX7_readSign 24 = .ok (.ireturn, 1) := by decide +kernel
theorem dX7_readSign_25 : decode cX7_readSign 25 = .ok (.aload_n 1, 1) := by decide +kernel
theorem dX7_readSign_26 : decode cX7_readSign 26 = .ok (.getfield 64, 3) := by decide +kernel
theorem dX7_readSign_29 : decode cX7_readSign 29 = .ok (.iload_n 2, 1) := by decide +kernel
theorem dX7_readSign_30 : decode cX7_readSign 30 = .ok (.iload_n 3, 1) := by decide +kernel
theorem dX7_readSign_31 : decode cX7_readSign 31 = .ok (.iastore, 1) := by decide +kernel
theorem dX7_readSign_32 : decode cX7_readSign 32 = .ok (.aload_n 0, 1) := by decide +kernel
theorem dX7_readSign_33 : decode cX7_readSign 33 = .ok (.dup, 1) := by decide +kernel
theorem dX7_readSign_34 : decode cX7_readSign 34 = .ok (.getfield 15, 3) := by decide +kernel
theorem dX7_readSign_37 : decode cX7_readSign 37 = .ok (.iconst 1, 1) := by decide +kernel
theorem dX7_readSign_38 : decode cX7_readSign 38 = .ok (.iadd, 1) := by decide +kernel
theorem dX7_readSign_39 : decode cX7_readSign 39 = .ok (.putfield 15, 3) := by decide +kernel
theorem dX7_readSign_42 : decode cX7_readSign 42 = .ok (.iconst 1, 1) := by decide +kernel
theorem dX7_readSign_43 : decode cX7_readSign 43 = .ok (.ireturn, 1) := by decide +kernel
theorem dX7_readNumber_0 : decode cX7_readNumber 0 = .ok (.iconst 0, 1) := by decide +kernel
theorem dX7_readNumber_1 : decode cX7_readNumber 1 = .ok (.istore_n 3, 1) := by decide +kernel
theorem dX7_readNumber_2 : decode cX7_readNumber 2 = .ok (.iconst 0, 1) := by decide +kernel
theorem dX7_readNumber_3 : decode cX7_readNumber 3 = .ok (.istore 4, 2) := by decide +kernel
theorem dX7_readNumber_5 : decode cX7_readNumber 5 = .ok (.iload 4, 2) := by decide +kernel
theorem dX7_readNumber_7 : decode cX7_readNumber 7 = .ok (.iconst 4, 1) := by decide +kernel
theorem dX7_readNumber_8 : decode cX7_readNumber 8 = .ok (.if_icmp .ge 46, 3) := by decide +kernel
theorem dX7_readNumber_11 : decode cX7_readNumber 11 = .ok (.aload_n 0, 1) := by decide +kernel
theorem dX7_readNumber_12 : decode cX7_readNumber 12 = .ok (.invokevirtual 60, 3) := by decide +kernel
theorem dX7_readNumber_15 : decode cX7_readNumber 15 = .ok (.bipush 48, 2) := by decide +kernel
theorem dX7_readNumber_17 : decode cX7_readNumber 17 = .ok (.bipush 57, 2) := by decide +kernel
theorem dX7_readNumber_19 : decode cX7_readNumber 19 = .ok (.invokestatic 67, 3) := by decide +kernel
theorem dX7_readNumber_22 : decode cX7_readNumber 22 = .ok (.ifCond .eq 32, 3) := by decide +kernel
theorem dX7_readNumber_25 : decode cX7_readNumber 25 = .ok (.bipush 10, 2) := by decide +kernel
theorem dX7_readNumber_27 : decode cX7_readNumber 27 = .ok (.iload_n 3, 1) := by decide +kernel
theorem dX7_readNumber_28 : decode cX7_readNumber 28 = .ok (.imul, 1) := by decide +kernel
theorem dX7_readNumber_29 : decode cX7_readNumber 29 = .ok (.aload_n 0, 1) := by decide +kernel
theorem dX7_readNumber_30 : decode cX7_readNumber 30 = .ok (.invokevirtual 60, 3) := by decide +kernel
theorem dX7_readNumber_33 : decode cX7_readNumber 33 = .ok (.bipush 48, 2) := by decide +kernel
theorem dX7_readNumber_35 : decode cX7_readNumber 35 = .ok (.isub, 1) := by decide +kernel
theorem dX7_readNumber_36 : decode cX7_readNumber 36 = .ok (.iadd, 1) := by decide +kernel
theorem dX7_readNumber_37 : decode cX7_readNumber 37 = .ok (.istore_n 3, 1) := by decide +kernel
theorem dX7_readNumber_38 : decode cX7_readNumber 38 = .ok (.iinc 4 1, 3) := by decide +kernel
theorem dX7_readNumber_41 : decode cX7_readNumber 41 = .ok (.aload_n 0, 1) := by decide +kernel
theorem dX7_readNumber_42 : decode cX7_readNumber 42 = .ok (.dup, 1) := by decide +kernel
theorem dX7_readNumber_43 : decode cX7_readNumber 43 = .ok (.getfield 15, 3) := by decide +kernel
theorem dX7_readNumber_46 : decode cX7_readNumber 46 = .ok (.iconst 1, 1) := by decide +kernel
theorem dX7_readNumber_47 : decode cX7_readNumber 47 = .ok (.iadd, 1) := by decide +kernel
theorem dX7_readNumber_48 : decode cX7_readNumber 48 = .ok (.putfield 15, 3) := by decide +kernel
theorem dX7_readNumber_51 : decode cX7_readNumber 51 = .ok (.goto (-46), 3) := by decide +kernel
theorem dX7_readNumber_54 : decode cX7_readNumber 54 = .ok (.aload_n 1, 1) := by decide +kernel
theorem dX7_readNumber_55 : decode cX7_readNumber 55 = .ok (.getfield 71, 3) := by decide +kernel
theorem dX7_readNumber_58 : decode cX7_readNumber 58 = .ok (.iload_n 2, 1) := by decide +kernel
theorem dX7_readNumber_59 : decode cX7_readNumber 59 = .ok (.iload_n 3, 1) := by decide +kernel
theorem dX7_readNumber_60 : decode cX7_readNumber 60 = .ok (.iastore, 1) := by decide +kernel
theorem dX7_readNumber_61 : decode cX7_readNumber 61 = .ok (.iload 4, 2) := by decide +kernel
theorem dX7_readNumber_63 : decode cX7_readNumber 63 = .ok (.ifCond .le 7, 3) := by decide +kernel
theorem dX7_readNumber_66 : decode cX7_readNumber 66 = .ok (.iconst 1, 1) := by decide +kernel
theorem dX7_readNumber_67 : decode cX7_readNumber 67 = .ok (.goto 4, 3) := by decide +kernel
theorem dX7_readNumber_70 : decode cX7_readNumber 70 = .ok (.iconst 0, 1) := by decide +kernel
theorem dX7_readNumber_71 : decode cX7_readNumber 71 = .ok (.ireturn, 1) := by decide +kernel
theorem dX7_readTest_0 : decode cX7_readTest 0 = .ok (.aload_n 0, 1) := by decide +kernel
theorem dX7_readTest_1 : decode cX7_readTest 1 = .ok (.iconst 0, 1) := by decide +kernel
theorem dX7_readTest_2 : decode cX7_readTest 2 = .ok (.bipush 6, 2) := by decide +kernel
theorem dX7_readTest_4 : decode cX7_readTest 4 = .ok (.invokevirtual 44, 3) := by decide +kernel
theorem dX7_readTest_7 : decode cX7_readTest 7 = .ok (.istore_n 3, 1) := by decide +kernel
theorem dX7_readTest_8 : decode cX7_readTest 8 = .ok (.aload_n 1, 1) := by decide +kernel
theorem dX7_readTest_9 : decode cX7_readTest 9 = .ok (.getfield 48, 3) := by decide +kernel
theorem dX7_readTest_12 : decode cX7_readTest 12 = .ok (.iload_n 2, 1) := by decide +kernel
theorem dX7_readTest_13 : decode cX7_readTest 13 = .ok (.iload_n 3, 1) := by decide +kernel
theorem dX7_readTest_14 : decode cX7_readTest 14 = .ok (.bipush 6, 2) := by decide +kernel
theorem dX7_readTest_16 : decode cX7_readTest 16 = .ok (.if_icmp .ne 7, 3) := by decide +kernel
theorem dX7_readTest_19 : decode cX7_readTest 19 = .ok (.iconst 1, 1) := by decide +kernel
theorem dX7_readTest_20 : decode cX7_readTest 20 = .ok (.goto 4, 3) := by decide +kernel
theorem dX7_readTest_23 : decode cX7_readTest 23 = .ok (.iconst 0, 1) := by decide +kernel
theorem dX7_readTest_24 : decode cX7_readTest 24 = .ok (.bastore, 1) := by decide +kernel
theorem dX7_readTest_25 : decode cX7_readTest 25 = .ok (.iload_n 3, 1) := by decide +kernel
theorem dX7_readTest_26 : decode cX7_readTest 26 = .ok (.bipush 6, 2) := by decide +kernel
theorem dX7_readTest_28 : decode cX7_readTest 28 = .ok (.if_icmp .ne 21, 3) := by decide +kernel
theorem dX7_readTest_31 : decode cX7_readTest 31 = .ok (.aload_n 0, 1) := by decide +kernel
theorem dX7_readTest_32 : decode cX7_readTest 32 = .ok (.invokevirtual 40, 3) := by decide +kernel
theorem dX7_readTest_35 : decode cX7_readTest 35 = .ok (.ifCond .eq 12, 3) := by decide +kernel
theorem dX7_readTest_38 : decode cX7_readTest 38 = .ok (.aload_n 0, 1) := by decide +kernel
theorem dX7_readTest_39 : decode cX7_readTest 39 = .ok (.iconst 0, 1) := by decide +kernel
theorem dX7_readTest_40 : decode cX7_readTest 40 = .ok (.iconst 5, 1) := by decide +kernel
theorem dX7_readTest_41 : decode cX7_readTest 41 = .ok (.invokevirtual 44, 3) := by decide +kernel
theorem dX7_readTest_44 : decode cX7_readTest 44 = .ok (.goto 4, 3) := by decide +kernel
theorem dX7_readTest_47 : decode cX7_readTest 47 = .ok (.iconst (-1), 1) := by decide +kernel
theorem dX7_readTest_48 : decode cX7_readTest 48 = .ok (.istore_n 3, 1) := by decide +kernel
theorem dX7_readTest_49 : decode cX7_readTest 49 = .ok (.iload_n 3, 1) := by decide +kernel
theorem dX7_readTest_50 : decode cX7_readTest 50 = .ok (.iconst (-1), 1) := by decide +kernel
theorem dX7_readTest_51 : decode cX7_readTest 51 = .ok (.if_icmp .ne 5, 3) := by decide +kernel
theorem dX7_readTest_54 : decode cX7_readTest 54 = .ok (.iconst 0, 1) := by decide +kernel
theorem dX7_readTest_55 : decode cX7_readTest 55 = .ok (.ireturn, 1) := by decide +kernel
theorem dX7_readTest_56 : decode cX7_readTest 56 = .ok (.aload_n 1, 1) := by decide +kernel
theorem dX7_readTest_57 : decode cX7_readTest 57 = .ok (.getfield 51, 3) := by decide +kernel
theorem dX7_readTest_60 : decode cX7_readTest 60 = .ok (.iload_n 2, 1) := by decide +kernel
theorem dX7_readTest_61 : decode cX7_readTest 61 = .ok (.iload_n 3, 1) := by decide +kernel
theorem dX7_readTest_62 : decode cX7_readTest 62 = .ok (.iastore, 1) := by decide +kernel
theorem dX7_readTest_63 : decode cX7_readTest 63 = .ok (.aload_n 0, 1) := by decide +kernel
theorem dX7_readTest_64 : decode cX7_readTest 64 = .ok (.aload_n 1, 1) := by decide +kernel
theorem dX7_readTest_65 : decode cX7_readTest 65 = .ok (.iload_n 2, 1) := by decide +kernel
theorem dX7_readTest_66 : decode cX7_readTest 66 = .ok (.invokevirtual 54, 3) := by decide +kernel
theorem dX7_readTest_69 : decode cX7_readTest 69 = .ok (.ifCond .eq 16, 3) := by decide +kernel
theorem dX7_readTest_72 : decode cX7_readTest 72 = .ok (.aload_n 0, 1) := by decide +kernel
theorem dX7_readTest_73 : decode cX7_readTest 73 = .ok (.aload_n 1, 1) := by decide +kernel
theorem dX7_readTest_74 : decode cX7_readTest 74 = .ok (.iload_n 2, 1) := by decide +kernel
theorem dX7_readTest_75 : decode cX7_readTest 75 = .ok (.invokevirtual 57, 3) := by decide +kernel
theorem dX7_readTest_78 : decode cX7_readTest 78 = .ok (.ifCond .eq 7, 3) := by decide +kernel
theorem dX7_readTest_81 : decode cX7_readTest 81 = .ok (.iconst 1, 1) := by decide +kernel
theorem dX7_readTest_82 : decode cX7_readTest 82 = .ok (.goto 4, 3) := by decide +kernel
theorem dX7_readTest_85 : decode cX7_readTest 85 = .ok (.iconst 0, 1) := by decide +kernel
theorem dX7_readTest_86 : decode cX7_readTest 86 = .ok (.ireturn, 1) := by decide +kernel
theorem dX7_readJoint_0 : decode cX7_readJoint 0 = .ok (.aload_n 0, 1) := by decide +kernel
theorem dX7_readJoint_1 : decode cX7_readJoint 1 = .ok (.invokevirtual 40, 3) := by decide +kernel
theorem dX7_readJoint_4 : decode cX7_readJoint 4 = .ok (.ifCond .ne 5, 3) := by decide +kernel
theorem dX7_readJoint_7 : decode cX7_readJoint 7 = .ok (.iconst 0, 1) := by decide +kernel
theorem dX7_readJoint_8 : decode cX7_readJoint 8 = .ok (.ireturn, 1) := by decide +kernel
theorem dX7_readJoint_9 : decode cX7_readJoint 9 = .ok (.aload_n 0, 1) := by decide +kernel
theorem dX7_readJoint_10 : decode cX7_readJoint 10 = .ok (.bipush 7, 2) := by decide +kernel
theorem dX7_readJoint_12 : decode cX7_readJoint 12 = .ok (.bipush 8, 2) := by decide +kernel
theorem dX7_readJoint_14 : decode cX7_readJoint 14 = .ok (.invokevirtual 44, 3) := by decide +kernel
theorem dX7_readJoint_17 : decode cX7_readJoint 17 = .ok (.istore_n 3, 1) := by decide +kernel
theorem dX7_readJoint_18 : decode cX7_readJoint 18 = .ok (.aload_n 1, 1) := by decide +kernel
theorem dX7_readJoint_19 : decode cX7_readJoint 19 = .ok (.getfield 29, 3) := by decide +kernel
theorem dX7_readJoint_22 : decode cX7_readJoint 22 = .ok (.iload_n 2, 1) := by decide +kernel
theorem dX7_readJoint_23 : decode cX7_readJoint 23 = .ok (.iload_n 3, 1) := by decide +kernel
theorem dX7_readJoint_24 : decode cX7_readJoint 24 = .ok (.bipush 7, 2) := by decide +kernel
theorem dX7_readJoint_26 : decode cX7_readJoint 26 = .ok (.if_icmp .ne 7, 3) := by decide +kernel
theorem dX7_readJoint_29 : decode cX7_readJoint 29 = .ok (.iconst 1, 1) := by decide +kernel
theorem dX7_readJoint_30 : decode cX7_readJoint 30 = .ok (.goto 4, 3) := by decide +kernel
theorem dX7_readJoint_33 : decode cX7_readJoint 33 = .ok (.iconst 0, 1) := by decide +kernel
theorem dX7_readJoint_34 : decode cX7_readJoint 34 = .ok (.bastore, 1) := by decide +kernel
theorem dX7_readJoint_35 : decode cX7_readJoint 35 = .ok (.iload_n 3, 1) := by decide +kernel
theorem dX7_readJoint_36 : decode cX7_readJoint 36 = .ok (.iconst (-1), 1) := by decide +kernel
theorem dX7_readJoint_37 : decode cX7_readJoint 37 = .ok (.if_icmp .eq 14, 3) := by decide +kernel
theorem dX7_readJoint_40 : decode cX7_readJoint 40 = .ok (.aload_n 0, 1) := by decide +kernel
theorem dX7_readJoint_41 : decode cX7_readJoint 41 = .ok (.invokevirtual 40, 3) := by decide +kernel
theorem dX7_readJoint_44 : decode cX7_readJoint 44 = .ok (.ifCond .eq 7, 3) := by decide +kernel
theorem dX7_readJoint_47 : decode cX7_readJoint 47 = .ok (.iconst 1, 1) := by decide +kernel
theorem dX7_readJoint_48 : decode cX7_readJoint 48 = .ok (.goto 4, 3) := by decide +kernel
theorem dX7_readJoint_51 : decode cX7_readJoint 51 = .ok (.iconst 0, 1) := by decide +kernel
theorem dX7_readJoint_52 : decode cX7_readJoint 52 = .ok (.ireturn, 1) := by decide +kernel
theorem dX7_readInto_0 : decode cX7_readInto 0 = .ok (.aload_n 0, 1) := by decide +kernel
theorem dX7_readInto_1 : decode cX7_readInto 1 = .ok (.iconst 0, 1) := by decide +kernel
theorem dX7_readInto_2 : decode cX7_readInto 2 = .ok (.putfield 15, 3) := by decide +kernel
theorem dX7_readInto_5 : decode cX7_readInto 5 = .ok (.aload_n 1, 1) := by decide +kernel
theorem dX7_readInto_6 : decode cX7_readInto 6 = .ok (.iconst 0, 1) := by decide +kernel
theorem dX7_readInto_7 : decode cX7_readInto 7 = .ok (.putfield 24, 3) := by decide +kernel
theorem dX7_readInto_10 : decode cX7_readInto 10 = .ok (.aload_n 1, 1) := by decide +kernel
theorem dX7_readInto_11 : decode cX7_readInto 11 = .ok (.getfield 29, 3) := by decide +kernel
theorem dX7_readInto_14 : decode cX7_readInto 14 = .ok (.iconst 0, 1) := by decide +kernel
theorem dX7_readInto_15 : decode cX7_readInto 15 = .ok (.iconst 0, 1) := by decide +kernel
theorem dX7_readInto_16 : decode cX7_readInto 16 = .ok (.bastore, 1) := by decide +kernel
theorem dX7_readInto_17 : decode cX7_readInto 17 = .ok (.iconst 0, 1) := by decide +kernel
theorem dX7_readInto_18 : decode cX7_readInto 18 = .ok (.istore_n 2, 1) := by decide +kernel
theorem dX7_readInto_19 : decode cX7_readInto 19 = .ok (.iload_n 2, 1) := by decide +kernel
theorem dX7_readInto_20 : decode cX7_readInto 20 = .ok (.bipush 8, 2) := by decide +kernel
theorem dX7_readInto_22 : decode cX7_readInto 22 = .ok (.if_icmp .ge 61, 3) := by decide +kernel
theorem dX7_readInto_25 : decode cX7_readInto 25 = .ok (.aload_n 0, 1) := by decide +kernel
theorem dX7_readInto_26 : decode cX7_readInto 26 = .ok (.aload_n 1, 1) := by decide +kernel
theorem dX7_readInto_27 : decode cX7_readInto 27 = .ok (.iload_n 2, 1) := by decide +kernel
theorem dX7_readInto_28 : decode cX7_readInto 28 = .ok (.invokevirtual 33, 3) := by decide +kernel
theorem dX7_readInto_31 : decode cX7_readInto 31 = .ok (.ifCond .ne 5, 3) := by decide +kernel
theorem dX7_readInto_34 : decode cX7_readInto 34 = .ok (.iconst 0, 1) := by decide +kernel
theorem dX7_readInto_35 : decode cX7_readInto 35 = .ok (.ireturn, 1) := by decide +kernel
theorem dX7_readInto_36 : decode cX7_readInto 36 = .ok (.aload_n 1, 1) := by decide +kernel
theorem dX7_readInto_37 : decode cX7_readInto 37 = .ok (.iload_n 2, 1) := by decide +kernel
theorem dX7_readInto_38 : decode cX7_readInto 38 = .ok (.iconst 1, 1) := by decide +kernel
theorem dX7_readInto_39 : decode cX7_readInto 39 = .ok (.iadd, 1) := by decide +kernel
theorem dX7_readInto_40 : decode cX7_readInto 40 = .ok (.putfield 24, 3) := by decide +kernel
theorem dX7_readInto_43 : decode cX7_readInto 43 = .ok (.aload_n 0, 1) := by decide +kernel
theorem dX7_readInto_44 : decode cX7_readInto 44 = .ok (.getfield 15, 3) := by decide +kernel
theorem dX7_readInto_47 : decode cX7_readInto 47 = .ok (.aload_n 0, 1) := by decide +kernel
theorem dX7_readInto_48 : decode cX7_readInto 48 = .ok (.getfield 9, 3) := by decide +kernel
theorem dX7_readInto_51 : decode cX7_readInto 51 = .ok (.if_icmp .lt 5, 3) := by decide +kernel
theorem dX7_readInto_54 : decode cX7_readInto 54 = .ok (.iconst 1, 1) := by decide +kernel
theorem dX7_readInto_55 : decode cX7_readInto 55 = .ok (.ireturn, 1) := by decide +kernel
theorem dX7_readInto_56 : decode cX7_readInto 56 = .ok (.iload_n 2, 1) := by decide +kernel
theorem dX7_readInto_57 : decode cX7_readInto 57 = .ok (.iconst 1, 1) := by decide +kernel
theorem dX7_readInto_58 : decode cX7_readInto 58 = .ok (.iadd, 1) := by decide +kernel
theorem dX7_readInto_59 : decode cX7_readInto 59 = .ok (.bipush 8, 2) := by decide +kernel
theorem dX7_readInto_61 : decode cX7_readInto 61 = .ok (.if_icmp .ge 14, 3) := by decide +kernel
theorem dX7_readInto_64 : decode cX7_readInto 64 = .ok (.aload_n 0, 1) := by decide +kernel
theorem dX7_readInto_65 : decode cX7_readInto 65 = .ok (.aload_n 1, 1) := by decide +kernel
theorem dX7_readInto_66 : decode cX7_readInto 66 = .ok (.iload_n 2, 1) := by decide +kernel
theorem dX7_readInto_67 : decode cX7_readInto 67 = .ok (.iconst 1, 1) := by decide +kernel
theorem dX7_readInto_68 : decode cX7_readInto 68 = .ok (.iadd, 1) := by decide +kernel
theorem dX7_readInto_69 : decode cX7_readInto 69 = .ok (.invokevirtual 37, 3) := by decide +kernel
theorem dX7_readInto_72 : decode cX7_readInto 72 = .ok (.ifCond .ne 5, 3) := by decide +kernel
theorem dX7_readInto_75 : decode cX7_readInto 75 = .ok (.iconst 0, 1) := by decide +kernel
theorem dX7_readInto_76 : decode cX7_readInto 76 = .ok (.ireturn, 1) := by decide +kernel
theorem dX7_readInto_77 : decode cX7_readInto 77 = .ok (.iinc 2 1, 3) := by decide +kernel
theorem dX7_readInto_80 : decode cX7_readInto 80 = .ok (.goto (-61), 3) := by decide +kernel
theorem dX7_readInto_83 : decode cX7_readInto 83 = .ok (.iconst 0, 1) := by decide +kernel
theorem dX7_readInto_84 : decode cX7_readInto 84 = .ok (.ireturn, 1) := by decide +kernel
theorem dX9_rule_0 : decode cX9_rule 0 = .ok (.aload_n 0, 1) := by decide +kernel
theorem dX9_rule_1 : decode cX9_rule 1 = .ok (.getfield 55, 3) := by decide +kernel
theorem dX9_rule_4 : decode cX9_rule 4 = .ok (.bipush 6, 2) := by decide +kernel
theorem dX9_rule_6 : decode cX9_rule 6 = .ok (.if_icmp .lt 6, 3) := by decide +kernel
theorem dX9_rule_9 : decode cX9_rule 9 = .ok (.bipush (-4), 2) := by decide +kernel
theorem dX9_rule_11 : decode cX9_rule 11 = .ok (.ireturn, 1) := by decide +kernel
theorem dX9_rule_12 : decode cX9_rule 12 = .ok (.aload_n 0, 1) := by decide +kernel
theorem dX9_rule_13 : decode cX9_rule 13 = .ok (.getfield 45, 3) := by decide +kernel
theorem dX9_rule_16 : decode cX9_rule 16 = .ok (.aload_n 0, 1) := by decide +kernel
theorem dX9_rule_17 : decode cX9_rule 17 = .ok (.getfield 51, 3) := by decide +kernel
theorem dX9_rule_20 : decode cX9_rule 20 = .ok (.aload_n 0, 1) := by decide +kernel
theorem dX9_rule_21 : decode cX9_rule 21 = .ok (.getfield 55, 3) := by decide +kernel
theorem dX9_rule_24 : decode cX9_rule 24 = .ok (.aaload, 1) := by decide +kernel
theorem dX9_rule_25 : decode cX9_rule 25 = .ok (.invokevirtual 197, 3) := by decide +kernel
theorem dX9_rule_28 : decode cX9_rule 28 = .ok (.istore_n 1, 1) := by decide +kernel
theorem dX9_rule_29 : decode cX9_rule 29 = .ok (.aload_n 0, 1) := by decide +kernel
theorem dX9_rule_30 : decode cX9_rule 30 = .ok (.getfield 45, 3) := by decide +kernel
theorem dX9_rule_33 : decode cX9_rule 33 = .ok (.iconst 0, 1) := by decide +kernel
theorem dX9_rule_34 : decode cX9_rule 34 = .ok (.putfield 192, 3) := by decide +kernel
theorem dX9_rule_37 : decode cX9_rule 37 = .ok (.iload_n 1, 1) := by decide +kernel
theorem dX9_rule_38 : decode cX9_rule 38 = .ok (.ifCond .ne 14, 3) := by decide +kernel
theorem dX9_rule_41 : decode cX9_rule 41 = .ok (.bipush (-10), 2) := by decide +kernel
theorem dX9_rule_43 : decode cX9_rule 43 = .ok (.aload_n 0, 1) := by decide +kernel
theorem dX9_rule_44 : decode cX9_rule 44 = .ok (.getfield 45, 3) := by decide +kernel
theorem dX9_rule_47 : decode cX9_rule 47 = .ok (.getfield 201, 3) := by decide +kernel
theorem dX9_rule_50 : decode cX9_rule 50 = .ok (.isub, 1) := by decide +kernel
theorem dX9_rule_51 : decode cX9_rule 51 = .ok (.ireturn, 1) := by decide +kernel
theorem dX9_rule_52 : decode cX9_rule 52 = .ok (.aload_n 0, 1) := by decide +kernel
theorem dX9_rule_53 : decode cX9_rule 53 = .ok (.dup, 1) := by decide +kernel
theorem dX9_rule_54 : decode cX9_rule 54 = .ok (.getfield 55, 3) := by decide +kernel
theorem dX9_rule_57 : decode cX9_rule 57 = .ok (.iconst 1, 1) := by decide +kernel
theorem dX9_rule_58 : decode cX9_rule 58 = .ok (.iadd, 1) := by decide +kernel
theorem dX9_rule_59 : decode cX9_rule 59 = .ok (.putfield 55, 3) := by decide +kernel
theorem dX9_rule_62 : decode cX9_rule 62 = .ok (.aload_n 0, 1) := by decide +kernel
theorem dX9_rule_63 : decode cX9_rule 63 = .ok (.getfield 55, 3) := by decide +kernel
theorem dX9_rule_66 : decode cX9_rule 66 = .ok (.iconst 1, 1) := by decide +kernel
theorem dX9_rule_67 : decode cX9_rule 67 = .ok (.isub, 1) := by decide +kernel
theorem dX9_rule_68 : decode cX9_rule 68 = .ok (.ireturn, 1) := by decide +kernel
theorem dX9_tallySeated_0 : decode cX9_tallySeated 0 = .ok (.iconst 0, 1) := by decide +kernel
theorem dX9_tallySeated_1 : decode cX9_tallySeated 1 = .ok (.istore_n 2, 1) := by decide +kernel
theorem dX9_tallySeated_2 : decode cX9_tallySeated 2 = .ok (.iload_n 2, 1) := by decide +kernel
theorem dX9_tallySeated_3 : decode cX9_tallySeated 3 = .ok (.bipush 6, 2) := by decide +kernel
theorem dX9_tallySeated_5 : decode cX9_tallySeated 5 = .ok (.if_icmp .ge 16, 3) := by decide +kernel
theorem dX9_tallySeated_8 : decode cX9_tallySeated 8 = .ok (.aload_n 0, 1) := by decide +kernel
theorem dX9_tallySeated_9 : decode cX9_tallySeated 9 = .ok (.getfield 58, 3) := by decide +kernel
theorem dX9_tallySeated_12 : decode cX9_tallySeated 12 = .ok (.iload_n 2, 1) := by decide +kernel
theorem dX9_tallySeated_13 : decode cX9_tallySeated 13 = .ok (.iconst 0, 1) := by decide +kernel
theorem dX9_tallySeated_14 : decode cX9_tallySeated 14 = .ok (.iastore, 1) := by decide +kernel
theorem dX9_tallySeated_15 : decode cX9_tallySeated 15 = .ok (.iinc 2 1, 3) := by decide +kernel
theorem dX9_tallySeated_18 : decode cX9_tallySeated 18 = .ok (.goto (-16), 3) := by decide +kernel
theorem dX9_tallySeated_21 : decode cX9_tallySeated 21 = .ok (.iconst 0, 1) := by decide +kernel
theorem dX9_tallySeated_22 : decode cX9_tallySeated 22 = .ok (.istore_n 2, 1) := by decide +kernel
theorem dX9_tallySeated_23 : decode cX9_tallySeated 23 = .ok (.iload_n 2, 1) := by decide +kernel
theorem dX9_tallySeated_24 : decode cX9_tallySeated 24 = .ok (.aload_n 1, 1) := by decide +kernel
theorem dX9_tallySeated_25 : decode cX9_tallySeated 25 = .ok (.invokevirtual 178, 3) := by decide +kernel
theorem dX9_tallySeated_28 : decode cX9_tallySeated 28 = .ok (.if_icmp .ge 126, 3) := by decide +kernel
theorem dX9_tallySeated_31 : decode cX9_tallySeated 31 = .ok (.aload_n 1, 1) := by decide +kernel
theorem dX9_tallySeated_32 : decode cX9_tallySeated 32 = .ok (.getfield 159, 3) := by decide +kernel
theorem dX9_tallySeated_35 : decode cX9_tallySeated 35 = .ok (.iload_n 2, 1) := by decide +kernel
theorem dX9_tallySeated_36 : decode cX9_tallySeated 36 = .ok (.iaload, 1) := by decide +kernel
theorem dX9_tallySeated_37 : decode cX9_tallySeated 37 = .ok (.istore_n 3, 1) := by decide +kernel
theorem dX9_tallySeated_38 : decode cX9_tallySeated 38 = .ok (.aload_n 0, 1) := by decide +kernel
theorem dX9_tallySeated_39 : decode cX9_tallySeated 39 = .ok (.getfield 58, 3) := by decide +kernel
theorem dX9_tallySeated_42 : decode cX9_tallySeated 42 = .ok (.aload_n 0, 1) := by decide +kernel
theorem dX9_tallySeated_43 : decode cX9_tallySeated 43 = .ok (.getfield 12, 3) := by decide +kernel
theorem dX9_tallySeated_46 : decode cX9_tallySeated 46 = .ok (.getfield 308, 3) := by decide +kernel
theorem dX9_tallySeated_49 : decode cX9_tallySeated 49 = .ok (.iload_n 3, 1) := by decide +kernel
theorem dX9_tallySeated_50 : decode cX9_tallySeated 50 = .ok (.iaload, 1) := by decide +kernel
theorem dX9_tallySeated_51 : decode cX9_tallySeated 51 = .ok (.ifCond .ne 7, 3) := by decide +kernel
theorem dX9_tallySeated_54 : decode cX9_tallySeated 54 = .ok (.iconst 0, 1) := by decide +kernel
theorem dX9_tallySeated_55 : decode cX9_tallySeated 55 = .ok (.goto 4, 3) := by decide +kernel
theorem dX9_tallySeated_58 : decode cX9_tallySeated 58 = .ok (.iconst 1, 1) := by decide +kernel
theorem dX9_tallySeated_59 : decode cX9_tallySeated 59 = .ok (.dup2, 1) := by decide +kernel
theorem dX9_tallySeated_60 : decode cX9_tallySeated 60 = .ok (.iaload, 1) := by decide +kernel
theorem dX9_tallySeated_61 : decode cX9_tallySeated 61 = .ok (.iconst 1, 1) := by decide +kernel
theorem dX9_tallySeated_62 : decode cX9_tallySeated 62 = .ok (.iadd, 1) := by decide +kernel
theorem dX9_tallySeated_63 : decode cX9_tallySeated 63 = .ok (.iastore, 1) := by decide +kernel
theorem dX9_tallySeated_64 : decode cX9_tallySeated 64 = .ok (.aload_n 0, 1) := by decide +kernel
theorem dX9_tallySeated_65 : decode cX9_tallySeated 65 = .ok (.getfield 58, 3) := by decide +kernel
theorem dX9_tallySeated_68 : decode cX9_tallySeated 68 = .ok (.iconst 2, 1) := by decide +kernel
theorem dX9_tallySeated_69 : decode cX9_tallySeated 69 = .ok (.dup2, 1) := by decide +kernel
theorem dX9_tallySeated_70 : decode cX9_tallySeated 70 = .ok (.iaload, 1) := by decide +kernel
theorem dX9_tallySeated_71 : decode cX9_tallySeated 71 = .ok (.aload_n 0, 1) := by decide +kernel
theorem dX9_tallySeated_72 : decode cX9_tallySeated 72 = .ok (.getfield 12, 3) := by decide +kernel
theorem dX9_tallySeated_75 : decode cX9_tallySeated 75 = .ok (.getfield 311, 3) := by decide +kernel
theorem dX9_tallySeated_78 : decode cX9_tallySeated 78 = .ok (.iload_n 3, 1) := by decide +kernel
theorem dX9_tallySeated_79 : decode cX9_tallySeated 79 = .ok (.iaload, 1) := by decide +kernel
theorem dX9_tallySeated_80 : decode cX9_tallySeated 80 = .ok (.bipush 40, 2) := by decide +kernel
theorem dX9_tallySeated_82 : decode cX9_tallySeated 82 = .ok (.if_icmp .lt 7, 3) := by decide +kernel
theorem dX9_tallySeated_85 : decode cX9_tallySeated 85 = .ok (.iconst 1, 1) := by decide +kernel
theorem dX9_tallySeated_86 : decode cX9_tallySeated 86 = .ok (.goto 4, 3) := by decide +kernel
theorem dX9_tallySeated_89 : decode cX9_tallySeated 89 = .ok (.iconst 0, 1) := by decide +kernel
theorem dX9_tallySeated_90 : decode cX9_tallySeated 90 = .ok (.iadd, 1) := by decide +kernel
theorem dX9_tallySeated_91 : decode cX9_tallySeated 91 = .ok (.iastore, 1) := by decide +kernel
theorem dX9_tallySeated_92 : decode cX9_tallySeated 92 = .ok (.aload_n 0, 1) := by decide +kernel
theorem dX9_tallySeated_93 : decode cX9_tallySeated 93 = .ok (.getfield 58, 3) := by decide +kernel
theorem dX9_tallySeated_96 : decode cX9_tallySeated 96 = .ok (.iconst 3, 1) := by decide +kernel
theorem dX9_tallySeated_97 : decode cX9_tallySeated 97 = .ok (.dup2, 1) := by decide +kernel
theorem dX9_tallySeated_98 : decode cX9_tallySeated 98 = .ok (.iaload, 1) := by decide +kernel
theorem dX9_tallySeated_99 : decode cX9_tallySeated 99 = .ok (.aload_n 0, 1) := by decide +kernel
theorem dX9_tallySeated_100 : decode cX9_tallySeated 100 = .ok (.getfield 12, 3) := by decide +kernel
theorem dX9_tallySeated_103 : decode cX9_tallySeated 103 = .ok (.getfield 311, 3) := by decide +kernel
theorem dX9_tallySeated_106 : decode cX9_tallySeated 106 = .ok (.iload_n 3, 1) := by decide +kernel
theorem dX9_tallySeated_107 : decode cX9_tallySeated 107 = .ok (.iaload, 1) := by decide +kernel
theorem dX9_tallySeated_108 : decode cX9_tallySeated 108 = .ok (.bipush 18, 2) := by decide +kernel
theorem dX9_tallySeated_110 : decode cX9_tallySeated 110 = .ok (.if_icmp .ge 7, 3) := by decide +kernel
theorem dX9_tallySeated_113 : decode cX9_tallySeated 113 = .ok (.iconst 1, 1) := by decide +kernel
theorem dX9_tallySeated_114 : decode cX9_tallySeated 114 = .ok (.goto 4, 3) := by decide +kernel
theorem dX9_tallySeated_117 : decode cX9_tallySeated 117 = .ok (.iconst 0, 1) := by decide +kernel
theorem dX9_tallySeated_118 : decode cX9_tallySeated 118 = .ok (.iadd, 1) := by decide +kernel
theorem dX9_tallySeated_119 : decode cX9_tallySeated 119 = .ok (.iastore, 1) := by decide +kernel
theorem dX9_tallySeated_120 : decode cX9_tallySeated 120 = .ok (.aload_n 0, 1) := by decide +kernel
theorem dX9_tallySeated_121 : decode cX9_tallySeated 121 = .ok (.getfield 58, 3) := by decide +kernel
theorem dX9_tallySeated_124 : decode cX9_tallySeated 124 = .ok (.iconst 4, 1) := by decide +kernel
theorem dX9_tallySeated_125 : decode cX9_tallySeated 125 = .ok (.dup2, 1) := by decide +kernel
theorem dX9_tallySeated_126 : decode cX9_tallySeated 126 = .ok (.iaload, 1) := by decide +kernel
theorem dX9_tallySeated_127 : decode cX9_tallySeated 127 = .ok (.aload_n 0, 1) := by decide +kernel
theorem dX9_tallySeated_128 : decode cX9_tallySeated 128 = .ok (.getfield 12, 3) := by decide +kernel
theorem dX9_tallySeated_131 : decode cX9_tallySeated 131 = .ok (.getfield 314, 3) := by decide +kernel
theorem dX9_tallySeated_134 : decode cX9_tallySeated 134 = .ok (.iload_n 3, 1) := by decide +kernel
theorem dX9_tallySeated_135 : decode cX9_tallySeated 135 = .ok (.iaload, 1) := by decide +kernel
theorem dX9_tallySeated_136 : decode cX9_tallySeated 136 = .ok (.iadd, 1) := by decide +kernel
theorem dX9_tallySeated_137 : decode cX9_tallySeated 137 = .ok (.iastore, 1) := by decide +kernel
theorem dX9_tallySeated_138 : decode cX9_tallySeated 138 = .ok (.aload_n 0, 1) := by decide +kernel
theorem dX9_tallySeated_139 : decode cX9_tallySeated 139 = .ok (.getfield 58, 3) := by decide +kernel
theorem dX9_tallySeated_142 : decode cX9_tallySeated 142 = .ok (.iconst 5, 1) := by decide +kernel
theorem dX9_tallySeated_143 : decode cX9_tallySeated 143 = .ok (.dup2, 1) := by decide +kernel
theorem dX9_tallySeated_144 : decode cX9_tallySeated 144 = .ok (.iaload, 1) := by decide +kernel
theorem dX9_tallySeated_145 : decode cX9_tallySeated 145 = .ok (.iconst 1, 1) := by decide +kernel
theorem dX9_tallySeated_146 : decode cX9_tallySeated 146 = .ok (.iadd, 1) := by decide +kernel
theorem dX9_tallySeated_147 : decode cX9_tallySeated 147 = .ok (.iastore, 1) := by decide +kernel
theorem dX9_tallySeated_148 : decode cX9_tallySeated 148 = .ok (.iinc 2 1, 3) := by decide +kernel
theorem dX9_tallySeated_151 : decode cX9_tallySeated 151 = .ok (.goto (-128), 3) := by decide +kernel
theorem dX9_tallySeated_154 : decode cX9_tallySeated 154 = .ok (.return_, 1) := by decide +kernel
theorem dX5_testHolds_0 : decode cX5_testHolds 0 = .ok (.aload_n 0, 1) := by decide +kernel
theorem dX5_testHolds_1 : decode cX5_testHolds 1 = .ok (.getfield 23, 3) := by decide +kernel
theorem dX5_testHolds_4 : decode cX5_testHolds 4 = .ok (.iload_n 1, 1) := by decide +kernel
theorem dX5_testHolds_5 : decode cX5_testHolds 5 = .ok (.iaload, 1) := by decide +kernel
theorem dX5_testHolds_6 : decode cX5_testHolds 6 = .ok (.lookupswitch 64 #[(60, 26), (61, 45)], 26) := by decide +kernel
theorem dX5_testHolds_32 : decode cX5_testHolds 32 = .ok (.iload_n 2, 1) := by decide +kernel
theorem dX5_testHolds_33 : decode cX5_testHolds 33 = .ok (.aload_n 0, 1) := by decide +kernel
theorem dX5_testHolds_34 : decode cX5_testHolds 34 = .ok (.getfield 26, 3) := by decide +kernel
theorem dX5_testHolds_37 : decode cX5_testHolds 37 = .ok (.iload_n 1, 1) := by decide +kernel
theorem dX5_testHolds_38 : decode cX5_testHolds 38 = .ok (.iaload, 1) := by decide +kernel
theorem dX5_testHolds_39 : decode cX5_testHolds 39 = .ok (.if_icmp .ge 7, 3) := by decide +kernel
theorem dX5_testHolds_42 : decode cX5_testHolds 42 = .ok (.iconst 1, 1) := by decide +kernel
theorem dX5_testHolds_43 : decode cX5_testHolds 43 = .ok (.goto 4, 3) := by decide +kernel
theorem dX5_testHolds_46 : decode cX5_testHolds 46 = .ok (.iconst 0, 1) := by decide +kernel
theorem dX5_testHolds_47 : decode cX5_testHolds 47 = .ok (.istore_n 3, 1) := by decide +kernel
theorem dX5_testHolds_48 : decode cX5_testHolds 48 = .ok (.goto 38, 3) := by decide +kernel
theorem dX5_testHolds_51 : decode cX5_testHolds 51 = .ok (.iload_n 2, 1) := by decide +kernel
theorem dX5_testHolds_52 : decode cX5_testHolds 52 = .ok (.aload_n 0, 1) := by decide +kernel
theorem dX5_testHolds_53 : decode cX5_testHolds 53 = .ok (.getfield 26, 3) := by decide +kernel
theorem dX5_testHolds_56 : decode cX5_testHolds 56 = .ok (.iload_n 1, 1) := by decide +kernel
theorem dX5_testHolds_57 : decode cX5_testHolds 57 = .ok (.iaload, 1) := by decide +kernel
theorem dX5_testHolds_58 : decode cX5_testHolds 58 = .ok (.if_icmp .ne 7, 3) := by decide +kernel
theorem dX5_testHolds_61 : decode cX5_testHolds 61 = .ok (.iconst 1, 1) := by decide +kernel
theorem dX5_testHolds_62 : decode cX5_testHolds 62 = .ok (.goto 4, 3) := by decide +kernel
theorem dX5_testHolds_65 : decode cX5_testHolds 65 = .ok (.iconst 0, 1) := by decide +kernel
theorem dX5_testHolds_66 : decode cX5_testHolds 66 = .ok (.istore_n 3, 1) := by decide +kernel
theorem dX5_testHolds_67 : decode cX5_testHolds 67 = .ok (.goto 19, 3) := by decide +kernel
theorem dX5_testHolds_70 : decode cX5_testHolds 70 = .ok (.iload_n 2, 1) := by decide +kernel
theorem dX5_testHolds_71 : decode cX5_testHolds 71 = .ok (.aload_n 0, 1) := by decide +kernel
theorem dX5_testHolds_72 : decode cX5_testHolds 72 = .ok (.getfield 26, 3) := by decide +kernel
theorem dX5_testHolds_75 : decode cX5_testHolds 75 = .ok (.iload_n 1, 1) := by decide +kernel
theorem dX5_testHolds_76 : decode cX5_testHolds 76 = .ok (.iaload, 1) := by decide +kernel
theorem dX5_testHolds_77 : decode cX5_testHolds 77 = .ok (.if_icmp .le 7, 3) := by decide +kernel
theorem dX5_testHolds_80 : decode cX5_testHolds 80 = .ok (.iconst 1, 1) := by decide +kernel
theorem dX5_testHolds_81 : decode cX5_testHolds 81 = .ok (.goto 4, 3) := by decide +kernel
theorem dX5_testHolds_84 : decode cX5_testHolds 84 = .ok (.iconst 0, 1) := by decide +kernel
theorem dX5_testHolds_85 : decode cX5_testHolds 85 = .ok (.istore_n 3, 1) := by decide +kernel
theorem dX5_testHolds_86 : decode cX5_testHolds 86 = .ok (.iload_n 3, 1) := by decide +kernel
theorem dX5_testHolds_87 : decode cX5_testHolds 87 = .ok (.aload_n 0, 1) := by decide +kernel
theorem dX5_testHolds_88 : decode cX5_testHolds 88 = .ok (.getfield 15, 3) := by decide +kernel
theorem dX5_testHolds_91 : decode cX5_testHolds 91 = .ok (.iload_n 1, 1) := by decide +kernel
theorem dX5_testHolds_92 : decode cX5_testHolds 92 = .ok (.baload, 1) := by decide +kernel
theorem dX5_testHolds_93 : decode cX5_testHolds 93 = .ok (.if_icmp .eq 7, 3) := by decide +kernel
theorem dX5_testHolds_96 : decode cX5_testHolds 96 = .ok (.iconst 1, 1) := by decide +kernel
theorem dX5_testHolds_97 : decode cX5_testHolds 97 = .ok (.goto 4, 3) := by decide +kernel
theorem dX5_testHolds_100 : decode cX5_testHolds 100 = .ok (.iconst 0, 1) := by decide +kernel
theorem dX5_testHolds_101 : decode cX5_testHolds 101 = .ok (.ireturn, 1) := by decide +kernel
theorem dX5_holds_0 : decode cX5_holds 0 = .ok (.iconst 0, 1) := by decide +kernel
theorem dX5_holds_1 : decode cX5_holds 1 = .ok (.istore_n 2, 1) := by decide +kernel
theorem dX5_holds_2 : decode cX5_holds 2 = .ok (.iconst 1, 1) := by decide +kernel
theorem dX5_holds_3 : decode cX5_holds 3 = .ok (.istore_n 3, 1) := by decide +kernel
theorem dX5_holds_4 : decode cX5_holds 4 = .ok (.iconst 0, 1) := by decide +kernel
theorem dX5_holds_5 : decode cX5_holds 5 = .ok (.istore 4, 2) := by decide +kernel
theorem dX5_holds_7 : decode cX5_holds 7 = .ok (.iload 4, 2) := by decide +kernel
theorem dX5_holds_9 : decode cX5_holds 9 = .ok (.aload_n 0, 1) := by decide +kernel
theorem dX5_holds_10 : decode cX5_holds 10 = .ok (.getfield 9, 3) := by decide +kernel
theorem dX5_holds_13 : decode cX5_holds 13 = .ok (.if_icmp .ge 63, 3) := by decide +kernel
theorem dX5_holds_16 : decode cX5_holds 16 = .ok (.aload_n 0, 1) := by decide +kernel
theorem dX5_holds_17 : decode cX5_holds 17 = .ok (.getfield 29, 3) := by decide +kernel
theorem dX5_holds_20 : decode cX5_holds 20 = .ok (.iload 4, 2) := by decide +kernel
theorem dX5_holds_22 : decode cX5_holds 22 = .ok (.baload, 1) := by decide +kernel
theorem dX5_holds_23 : decode cX5_holds 23 = .ok (.ifCond .eq 19, 3) := by decide +kernel
theorem dX5_holds_26 : decode cX5_holds 26 = .ok (.iload_n 2, 1) := by decide +kernel
theorem dX5_holds_27 : decode cX5_holds 27 = .ok (.ifCond .ne 7, 3) := by decide +kernel
theorem dX5_holds_30 : decode cX5_holds 30 = .ok (.iload_n 3, 1) := by decide +kernel
theorem dX5_holds_31 : decode cX5_holds 31 = .ok (.ifCond .eq 7, 3) := by decide +kernel
theorem dX5_holds_34 : decode cX5_holds 34 = .ok (.iconst 1, 1) := by decide +kernel
theorem dX5_holds_35 : decode cX5_holds 35 = .ok (.goto 4, 3) := by decide +kernel
theorem dX5_holds_38 : decode cX5_holds 38 = .ok (.iconst 0, 1) := by decide +kernel
theorem dX5_holds_39 : decode cX5_holds 39 = .ok (.istore_n 2, 1) := by decide +kernel
theorem dX5_holds_40 : decode cX5_holds 40 = .ok (.iconst 1, 1) := by decide +kernel
theorem dX5_holds_41 : decode cX5_holds 41 = .ok (.istore_n 3, 1) := by decide +kernel
theorem dX5_holds_42 : decode cX5_holds 42 = .ok (.iload_n 3, 1) := by decide +kernel
theorem dX5_holds_43 : decode cX5_holds 43 = .ok (.ifCond .eq 25, 3) := by decide +kernel
theorem dX5_holds_46 : decode cX5_holds 46 = .ok (.aload_n 0, 1) := by decide +kernel
theorem dX5_holds_47 : decode cX5_holds 47 = .ok (.iload 4, 2) := by decide +kernel
theorem dX5_holds_49 : decode cX5_holds 49 = .ok (.aload_n 1, 1) := by decide +kernel
theorem dX5_holds_50 : decode cX5_holds 50 = .ok (.aload_n 0, 1) := by decide +kernel
theorem dX5_holds_51 : decode cX5_holds 51 = .ok (.getfield 19, 3) := by decide +kernel
theorem dX5_holds_54 : decode cX5_holds 54 = .ok (.iload 4, 2) := by decide +kernel
theorem dX5_holds_56 : decode cX5_holds 56 = .ok (.iaload, 1) := by decide +kernel
theorem dX5_holds_57 : decode cX5_holds 57 = .ok (.iaload, 1) := by decide +kernel
theorem dX5_holds_58 : decode cX5_holds 58 = .ok (.invokevirtual 32, 3) := by decide +kernel
theorem dX5_holds_61 : decode cX5_holds 61 = .ok (.ifCond .eq 7, 3) := by decide +kernel
theorem dX5_holds_64 : decode cX5_holds 64 = .ok (.iconst 1, 1) := by decide +kernel
theorem dX5_holds_65 : decode cX5_holds 65 = .ok (.goto 4, 3) := by decide +kernel
theorem dX5_holds_68 : decode cX5_holds 68 = .ok (.iconst 0, 1) := by decide +kernel
theorem dX5_holds_69 : decode cX5_holds 69 = .ok (.istore_n 3, 1) := by decide +kernel
theorem dX5_holds_70 : decode cX5_holds 70 = .ok (.iinc 4 1, 3) := by decide +kernel
theorem dX5_holds_73 : decode cX5_holds 73 = .ok (.goto (-66), 3) := by decide +kernel
theorem dX5_holds_76 : decode cX5_holds 76 = .ok (.iload_n 2, 1) := by decide +kernel
theorem dX5_holds_77 : decode cX5_holds 77 = .ok (.ifCond .ne 7, 3) := by decide +kernel
theorem dX5_holds_80 : decode cX5_holds 80 = .ok (.iload_n 3, 1) := by decide +kernel
theorem dX5_holds_81 : decode cX5_holds 81 = .ok (.ifCond .eq 7, 3) := by decide +kernel
theorem dX5_holds_84 : decode cX5_holds 84 = .ok (.iconst 1, 1) := by decide +kernel
theorem dX5_holds_85 : decode cX5_holds 85 = .ok (.goto 4, 3) := by decide +kernel
theorem dX5_holds_88 : decode cX5_holds 88 = .ok (.iconst 0, 1) := by decide +kernel
theorem dX5_holds_89 : decode cX5_holds 89 = .ok (.ireturn, 1) := by decide +kernel
theorem dX9_keeps_0 : decode cX9_keeps 0 = .ok (.aload_n 0, 1) := by decide +kernel
theorem dX9_keeps_1 : decode cX9_keeps 1 = .ok (.iload_n 1, 1) := by decide +kernel
theorem dX9_keeps_2 : decode cX9_keeps 2 = .ok (.invokevirtual 126, 3) := by decide +kernel
theorem dX9_keeps_5 : decode cX9_keeps 5 = .ok (.ifCond .eq 17, 3) := by decide +kernel
theorem dX9_keeps_8 : decode cX9_keeps 8 = .ok (.iload_n 2, 1) := by decide +kernel
theorem dX9_keeps_9 : decode cX9_keeps 9 = .ok (.iconst 0, 1) := by decide +kernel
theorem dX9_keeps_10 : decode cX9_keeps 10 = .ok (.aload_n 0, 1) := by decide +kernel
theorem dX9_keeps_11 : decode cX9_keeps 11 = .ok (.getfield 55, 3) := by decide +kernel
theorem dX9_keeps_14 : decode cX9_keeps 14 = .ok (.iconst 1, 1) := by decide +kernel
theorem dX9_keeps_15 : decode cX9_keeps 15 = .ok (.isub, 1) := by decide +kernel
theorem dX9_keeps_16 : decode cX9_keeps 16 = .ok (.invokestatic 97, 3) := by decide +kernel
theorem dX9_keeps_19 : decode cX9_keeps 19 = .ok (.ifCond .ne 5, 3) := by decide +kernel
theorem dX9_keeps_22 : decode cX9_keeps 22 = .ok (.iconst (-1), 1) := by decide +kernel
theorem dX9_keeps_23 : decode cX9_keeps 23 = .ok (.ireturn, 1) := by decide +kernel
theorem dX9_keeps_24 : decode cX9_keeps 24 = .ok (.aload_n 0, 1) := by decide +kernel
theorem dX9_keeps_25 : decode cX9_keeps 25 = .ok (.getfield 20, 3) := by decide +kernel
theorem dX9_keeps_28 : decode cX9_keeps 28 = .ok (.iload_n 1, 1) := by decide +kernel
theorem dX9_keeps_29 : decode cX9_keeps 29 = .ok (.aaload, 1) := by decide +kernel
theorem dX9_keeps_30 : decode cX9_keeps 30 = .ok (.getfield 147, 3) := by decide +kernel
theorem dX9_keeps_33 : decode cX9_keeps 33 = .ok (.ifCond .ne 6, 3) := by decide +kernel
theorem dX9_keeps_36 : decode cX9_keeps 36 = .ok (.bipush (-3), 2) := by decide +kernel
theorem dX9_keeps_38 : decode cX9_keeps 38 = .ok (.ireturn, 1) := by decide +kernel
theorem dX9_keeps_39 : decode cX9_keeps 39 = .ok (.aload_n 0, 1) := by decide +kernel
theorem dX9_keeps_40 : decode cX9_keeps 40 = .ok (.aload_n 0, 1) := by decide +kernel
theorem dX9_keeps_41 : decode cX9_keeps 41 = .ok (.getfield 20, 3) := by decide +kernel
theorem dX9_keeps_44 : decode cX9_keeps 44 = .ok (.iload_n 1, 1) := by decide +kernel
theorem dX9_keeps_45 : decode cX9_keeps 45 = .ok (.aaload, 1) := by decide +kernel
theorem dX9_keeps_46 : decode cX9_keeps 46 = .ok (.invokevirtual 204, 3) := by decide +kernel
theorem dX9_keeps_49 : decode cX9_keeps 49 = .ok (.aload_n 0, 1) := by decide +kernel
theorem dX9_keeps_50 : decode cX9_keeps 50 = .ok (.getfield 51, 3) := by decide +kernel
theorem dX9_keeps_53 : decode cX9_keeps 53 = .ok (.iload_n 2, 1) := by decide +kernel
theorem dX9_keeps_54 : decode cX9_keeps 54 = .ok (.aaload, 1) := by decide +kernel
theorem dX9_keeps_55 : decode cX9_keeps 55 = .ok (.aload_n 0, 1) := by decide +kernel
theorem dX9_keeps_56 : decode cX9_keeps 56 = .ok (.getfield 58, 3) := by decide +kernel
theorem dX9_keeps_59 : decode cX9_keeps 59 = .ok (.invokevirtual 207, 3) := by decide +kernel
theorem dX9_keeps_62 : decode cX9_keeps 62 = .ok (.ifCond .eq 7, 3) := by decide +kernel
theorem dX9_keeps_65 : decode cX9_keeps 65 = .ok (.iconst 1, 1) := by decide +kernel
theorem dX9_keeps_66 : decode cX9_keeps 66 = .ok (.goto 4, 3) := by decide +kernel
theorem dX9_keeps_69 : decode cX9_keeps 69 = .ok (.iconst 0, 1) := by decide +kernel
theorem dX9_keeps_70 : decode cX9_keeps 70 = .ok (.ireturn, 1) := by decide +kernel
theorem dX9_rest_0 : decode cX9_rest 0 = .ok (.iload_n 1, 1) := by decide +kernel
theorem dX9_rest_1 : decode cX9_rest 1 = .ok (.iconst 0, 1) := by decide +kernel
theorem dX9_rest_2 : decode cX9_rest 2 = .ok (.bipush 99, 2) := by decide +kernel
theorem dX9_rest_4 : decode cX9_rest 4 = .ok (.invokestatic 97, 3) := by decide +kernel
theorem dX9_rest_7 : decode cX9_rest 7 = .ok (.ifCond .ne 6, 3) := by decide +kernel
theorem dX9_rest_10 : decode cX9_rest 10 = .ok (.bipush (-2), 2) := by decide +kernel
theorem dX9_rest_12 : decode cX9_rest 12 = .ok (.ireturn, 1) := by decide +kernel
theorem dX9_rest_13 : decode cX9_rest 13 = .ok (.aload_n 0, 1) := by decide +kernel
theorem dX9_rest_14 : decode cX9_rest 14 = .ok (.getfield 62, 3) := by decide +kernel
theorem dX9_rest_17 : decode cX9_rest 17 = .ok (.istore_n 2, 1) := by decide +kernel
theorem dX9_rest_18 : decode cX9_rest 18 = .ok (.aload_n 0, 1) := by decide +kernel
theorem dX9_rest_19 : decode cX9_rest 19 = .ok (.iload_n 1, 1) := by decide +kernel
theorem dX9_rest_20 : decode cX9_rest 20 = .ok (.putfield 62, 3) := by decide +kernel
theorem dX9_rest_23 : decode cX9_rest 23 = .ok (.iload_n 2, 1) := by decide +kernel
theorem dX9_rest_24 : decode cX9_rest 24 = .ok (.ireturn, 1) := by decide +kernel
theorem dX9_isLane_0 : decode cX9_isLane 0 = .ok (.iload_n 0, 1) := by decide +kernel
theorem dX9_isLane_1 : decode cX9_isLane 1 = .ok (.iconst 0, 1) := by decide +kernel
theorem dX9_isLane_2 : decode cX9_isLane 2 = .ok (.iconst 3, 1) := by decide +kernel
theorem dX9_isLane_3 : decode cX9_isLane 3 = .ok (.invokestatic 97, 3) := by decide +kernel
theorem dX9_isLane_6 : decode cX9_isLane 6 = .ok (.ireturn, 1) := by decide +kernel
theorem dX9_isMetByOneOf_0 : decode cX9_isMetByOneOf 0 = .ok (.iconst 0, 1) := by decide +kernel
theorem dX9_isMetByOneOf_1 : decode cX9_isMetByOneOf 1 = .ok (.istore_n 3, 1) := by decide +kernel
theorem dX9_isMetByOneOf_2 : decode cX9_isMetByOneOf 2 = .ok (.iload_n 3, 1) := by decide +kernel
theorem dX9_isMetByOneOf_3 : decode cX9_isMetByOneOf 3 = .ok (.iconst 4, 1) := by decide +kernel
theorem dX9_isMetByOneOf_4 : decode cX9_isMetByOneOf 4 = .ok (.if_icmp .ge 53, 3) := by decide +kernel
theorem dX9_isMetByOneOf_7 : decode cX9_isMetByOneOf 7 = .ok (.aload_n 1, 1) := by decide +kernel
theorem dX9_isMetByOneOf_8 : decode cX9_isMetByOneOf 8 = .ok (.iload_n 3, 1) := by decide +kernel
theorem dX9_isMetByOneOf_9 : decode cX9_isMetByOneOf 9 = .ok (.iaload, 1) := by decide +kernel
theorem dX9_isMetByOneOf_10 : decode cX9_isMetByOneOf 10 = .ok (.istore 4, 2) := by decide +kernel
theorem dX9_isMetByOneOf_12 : decode cX9_isMetByOneOf 12 = .ok (.iload 4, 2) := by decide +kernel
theorem dX9_isMetByOneOf_14 : decode cX9_isMetByOneOf 14 = .ok (.iconst (-1), 1) := by decide +kernel
theorem dX9_isMetByOneOf_15 : decode cX9_isMetByOneOf 15 = .ok (.if_icmp .eq 36, 3) := by decide +kernel
theorem dX9_isMetByOneOf_18 : decode cX9_isMetByOneOf 18 = .ok (.iload 4, 2) := by decide +kernel
theorem dX9_isMetByOneOf_20 : decode cX9_isMetByOneOf 20 = .ok (.iload_n 2, 1) := by decide +kernel
theorem dX9_isMetByOneOf_21 : decode cX9_isMetByOneOf 21 = .ok (.if_icmp .eq 28, 3) := by decide +kernel
theorem dX9_isMetByOneOf_24 : decode cX9_isMetByOneOf 24 = .ok (.aload_n 0, 1) := by decide +kernel
theorem dX9_isMetByOneOf_25 : decode cX9_isMetByOneOf 25 = .ok (.getfield 20, 3) := by decide +kernel
theorem dX9_isMetByOneOf_28 : decode cX9_isMetByOneOf 28 = .ok (.iload 4, 2) := by decide +kernel
theorem dX9_isMetByOneOf_30 : decode cX9_isMetByOneOf 30 = .ok (.aaload, 1) := by decide +kernel
theorem dX9_isMetByOneOf_31 : decode cX9_isMetByOneOf 31 = .ok (.getfield 317, 3) := by decide +kernel
theorem dX9_isMetByOneOf_34 : decode cX9_isMetByOneOf 34 = .ok (.aload_n 0, 1) := by decide +kernel
theorem dX9_isMetByOneOf_35 : decode cX9_isMetByOneOf 35 = .ok (.getfield 20, 3) := by decide +kernel
theorem dX9_isMetByOneOf_38 : decode cX9_isMetByOneOf 38 = .ok (.iload_n 2, 1) := by decide +kernel
theorem dX9_isMetByOneOf_39 : decode cX9_isMetByOneOf 39 = .ok (.aaload, 1) := by decide +kernel
theorem dX9_isMetByOneOf_40 : decode cX9_isMetByOneOf 40 = .ok (.getfield 317, 3) := by decide +kernel
theorem dX9_isMetByOneOf_43 : decode cX9_isMetByOneOf 43 = .ok (.land, 1) := by decide +kernel
theorem dX9_isMetByOneOf_44 : decode cX9_isMetByOneOf 44 = .ok (.lconst 0, 1) := by decide +kernel
theorem dX9_isMetByOneOf_45 : decode cX9_isMetByOneOf 45 = .ok (.lcmp, 1) := by decide +kernel
theorem dX9_isMetByOneOf_46 : decode cX9_isMetByOneOf 46 = .ok (.ifCond .eq 5, 3) := by decide +kernel
theorem dX9_isMetByOneOf_49 : decode cX9_isMetByOneOf 49 = .ok (.iconst 1, 1) := by decide +kernel
theorem dX9_isMetByOneOf_50 : decode cX9_isMetByOneOf 50 = .ok (.ireturn, 1) := by decide +kernel
theorem dX9_isMetByOneOf_51 : decode cX9_isMetByOneOf 51 = .ok (.iinc 3 1, 3) := by decide +kernel
theorem dX9_isMetByOneOf_54 : decode cX9_isMetByOneOf 54 = .ok (.goto (-52), 3) := by decide +kernel
theorem dX9_isMetByOneOf_57 : decode cX9_isMetByOneOf 57 = .ok (.iconst 0, 1) := by decide +kernel
theorem dX9_isMetByOneOf_58 : decode cX9_isMetByOneOf 58 = .ok (.ireturn, 1) := by decide +kernel
theorem dX9_howManyWait_0 : decode cX9_howManyWait 0 = .ok (.iconst 0, 1) := by decide +kernel
theorem dX9_howManyWait_1 : decode cX9_howManyWait 1 = .ok (.istore_n 1, 1) := by decide +kernel
theorem dX9_howManyWait_2 : decode cX9_howManyWait 2 = .ok (.iconst 0, 1) := by decide +kernel
theorem dX9_howManyWait_3 : decode cX9_howManyWait 3 = .ok (.istore_n 2, 1) := by decide +kernel
theorem dX9_howManyWait_4 : decode cX9_howManyWait 4 = .ok (.iload_n 2, 1) := by decide +kernel
theorem dX9_howManyWait_5 : decode cX9_howManyWait 5 = .ok (.iconst 4, 1) := by decide +kernel
theorem dX9_howManyWait_6 : decode cX9_howManyWait 6 = .ok (.if_icmp .ge 27, 3) := by decide +kernel
theorem dX9_howManyWait_9 : decode cX9_howManyWait 9 = .ok (.iload_n 1, 1) := by decide +kernel
theorem dX9_howManyWait_10 : decode cX9_howManyWait 10 = .ok (.aload_n 0, 1) := by decide +kernel
theorem dX9_howManyWait_11 : decode cX9_howManyWait 11 = .ok (.getfield 65, 3) := by decide +kernel
theorem dX9_howManyWait_14 : decode cX9_howManyWait 14 = .ok (.iload_n 2, 1) := by decide +kernel
theorem dX9_howManyWait_15 : decode cX9_howManyWait 15 = .ok (.iaload, 1) := by decide +kernel
theorem dX9_howManyWait_16 : decode cX9_howManyWait 16 = .ok (.iconst (-1), 1) := by decide +kernel
theorem dX9_howManyWait_17 : decode cX9_howManyWait 17 = .ok (.if_icmp .eq 7, 3) := by decide +kernel
theorem dX9_howManyWait_20 : decode cX9_howManyWait 20 = .ok (.iconst 1, 1) := by decide +kernel
theorem dX9_howManyWait_21 : decode cX9_howManyWait 21 = .ok (.goto 4, 3) := by decide +kernel
theorem dX9_howManyWait_24 : decode cX9_howManyWait 24 = .ok (.iconst 0, 1) := by decide +kernel
theorem dX9_howManyWait_25 : decode cX9_howManyWait 25 = .ok (.iadd, 1) := by decide +kernel
theorem dX9_howManyWait_26 : decode cX9_howManyWait 26 = .ok (.istore_n 1, 1) := by decide +kernel
theorem dX9_howManyWait_27 : decode cX9_howManyWait 27 = .ok (.iinc 2 1, 3) := by decide +kernel
theorem dX9_howManyWait_30 : decode cX9_howManyWait 30 = .ok (.goto (-26), 3) := by decide +kernel
theorem dX9_howManyWait_33 : decode cX9_howManyWait 33 = .ok (.iload_n 1, 1) := by decide +kernel
theorem dX9_howManyWait_34 : decode cX9_howManyWait 34 = .ok (.ireturn, 1) := by decide +kernel
theorem dX9_lane_0 : decode cX9_lane 0 = .ok (.aload_n 0, 1) := by decide +kernel
theorem dX9_lane_1 : decode cX9_lane 1 = .ok (.iload_n 1, 1) := by decide +kernel
theorem dX9_lane_2 : decode cX9_lane 2 = .ok (.invokevirtual 126, 3) := by decide +kernel
theorem dX9_lane_5 : decode cX9_lane 5 = .ok (.ifCond .eq 10, 3) := by decide +kernel
theorem dX9_lane_8 : decode cX9_lane 8 = .ok (.iload_n 2, 1) := by decide +kernel
theorem dX9_lane_9 : decode cX9_lane 9 = .ok (.invokestatic 211, 3) := by decide +kernel
theorem dX9_lane_12 : decode cX9_lane 12 = .ok (.ifCond .ne 5, 3) := by decide +kernel
theorem dX9_lane_15 : decode cX9_lane 15 = .ok (.iconst (-1), 1) := by decide +kernel
theorem dX9_lane_16 : decode cX9_lane 16 = .ok (.ireturn, 1) := by decide +kernel
theorem dX9_lane_17 : decode cX9_lane 17 = .ok (.aload_n 0, 1) := by decide +kernel
theorem dX9_lane_18 : decode cX9_lane 18 = .ok (.getfield 65, 3) := by decide +kernel
theorem dX9_lane_21 : decode cX9_lane 21 = .ok (.iload_n 2, 1) := by decide +kernel
theorem dX9_lane_22 : decode cX9_lane 22 = .ok (.iaload, 1) := by decide +kernel
theorem dX9_lane_23 : decode cX9_lane 23 = .ok (.iconst (-1), 1) := by decide +kernel
theorem dX9_lane_24 : decode cX9_lane 24 = .ok (.if_icmp .ne 15, 3) := by decide +kernel
theorem dX9_lane_27 : decode cX9_lane 27 = .ok (.aload_n 0, 1) := by decide +kernel
theorem dX9_lane_28 : decode cX9_lane 28 = .ok (.aload_n 0, 1) := by decide +kernel
theorem dX9_lane_29 : decode cX9_lane 29 = .ok (.getfield 65, 3) := by decide +kernel
theorem dX9_lane_32 : decode cX9_lane 32 = .ok (.iload_n 1, 1) := by decide +kernel
theorem dX9_lane_33 : decode cX9_lane 33 = .ok (.invokevirtual 214, 3) := by decide +kernel
theorem dX9_lane_36 : decode cX9_lane 36 = .ok (.ifCond .eq 6, 3) := by decide +kernel
theorem dX9_lane_39 : decode cX9_lane 39 = .ok (.bipush (-3), 2) := by decide +kernel
theorem dX9_lane_41 : decode cX9_lane 41 = .ok (.ireturn, 1) := by decide +kernel
theorem dX9_lane_42 : decode cX9_lane 42 = .ok (.aload_n 0, 1) := by decide +kernel
theorem dX9_lane_43 : decode cX9_lane 43 = .ok (.getfield 65, 3) := by decide +kernel
theorem dX9_lane_46 : decode cX9_lane 46 = .ok (.iload_n 2, 1) := by decide +kernel
theorem dX9_lane_47 : decode cX9_lane 47 = .ok (.iload_n 1, 1) := by decide +kernel
theorem dX9_lane_48 : decode cX9_lane 48 = .ok (.iastore, 1) := by decide +kernel
theorem dX9_lane_49 : decode cX9_lane 49 = .ok (.aload_n 0, 1) := by decide +kernel
theorem dX9_lane_50 : decode cX9_lane 50 = .ok (.invokevirtual 218, 3) := by decide +kernel
theorem dX9_lane_53 : decode cX9_lane 53 = .ok (.ireturn, 1) := by decide +kernel
theorem dX3_set_0 : decode cX3_set 0 = .ok (.aload_n 0, 1) := by decide +kernel
theorem dX3_set_1 : decode cX3_set 1 = .ok (.iload_n 1, 1) := by decide +kernel
theorem dX3_set_2 : decode cX3_set 2 = .ok (.putfield 9, 3) := by decide +kernel
theorem dX3_set_5 : decode cX3_set 5 = .ok (.aload_n 0, 1) := by decide +kernel
theorem dX3_set_6 : decode cX3_set 6 = .ok (.iload_n 2, 1) := by decide +kernel
theorem dX3_set_7 : decode cX3_set 7 = .ok (.putfield 15, 3) := by decide +kernel
theorem dX3_set_10 : decode cX3_set 10 = .ok (.iconst 0, 1) := by decide +kernel
theorem dX3_set_11 : decode cX3_set 11 = .ok (.istore 4, 2) := by decide +kernel
theorem dX3_set_13 : decode cX3_set 13 = .ok (.iload 4, 2) := by decide +kernel
theorem dX3_set_15 : decode cX3_set 15 = .ok (.iconst 4, 1) := by decide +kernel
theorem dX3_set_16 : decode cX3_set 16 = .ok (.if_icmp .ge 20, 3) := by decide +kernel
theorem dX3_set_19 : decode cX3_set 19 = .ok (.aload_n 0, 1) := by decide +kernel
theorem dX3_set_20 : decode cX3_set 20 = .ok (.getfield 22, 3) := by decide +kernel
theorem dX3_set_23 : decode cX3_set 23 = .ok (.iload 4, 2) := by decide +kernel
theorem dX3_set_25 : decode cX3_set 25 = .ok (.aload_n 3, 1) := by decide +kernel
theorem dX3_set_26 : decode cX3_set 26 = .ok (.iload 4, 2) := by decide +kernel
theorem dX3_set_28 : decode cX3_set 28 = .ok (.iaload, 1) := by decide +kernel
theorem dX3_set_29 : decode cX3_set 29 = .ok (.iastore, 1) := by decide +kernel
theorem dX3_set_30 : decode cX3_set 30 = .ok (.iinc 4 1, 3) := by decide +kernel
theorem dX3_set_33 : decode cX3_set 33 = .ok (.goto (-20), 3) := by decide +kernel
theorem dX3_set_36 : decode cX3_set 36 = .ok (.return_, 1) := by decide +kernel
theorem dX3_minutesTo_0 : decode cX3_minutesTo 0 = .ok (.aload_n 0, 1) := by decide +kernel
theorem dX3_minutesTo_1 : decode cX3_minutesTo 1 = .ok (.getfield 9, 3) := by decide +kernel
theorem dX3_minutesTo_4 : decode cX3_minutesTo 4 = .ok (.aload_n 1, 1) := by decide +kernel
theorem dX3_minutesTo_5 : decode cX3_minutesTo 5 = .ok (.getfield 9, 3) := by decide +kernel
theorem dX3_minutesTo_8 : decode cX3_minutesTo 8 = .ok (.isub, 1) := by decide +kernel
theorem dX3_minutesTo_9 : decode cX3_minutesTo 9 = .ok (.invokestatic 36, 3) := by decide +kernel
theorem dX3_minutesTo_12 : decode cX3_minutesTo 12 = .ok (.ireturn, 1) := by decide +kernel
theorem dX9_racesMeet_0 : decode cX9_racesMeet 0 = .ok (.iconst 0, 1) := by decide +kernel
theorem dX9_racesMeet_1 : decode cX9_racesMeet 1 = .ok (.istore_n 3, 1) := by decide +kernel
theorem dX9_racesMeet_2 : decode cX9_racesMeet 2 = .ok (.iload_n 3, 1) := by decide +kernel
theorem dX9_racesMeet_3 : decode cX9_racesMeet 3 = .ok (.iconst 4, 1) := by decide +kernel
theorem dX9_racesMeet_4 : decode cX9_racesMeet 4 = .ok (.if_icmp .ge 38, 3) := by decide +kernel
theorem dX9_racesMeet_7 : decode cX9_racesMeet 7 = .ok (.aload_n 1, 1) := by decide +kernel
theorem dX9_racesMeet_8 : decode cX9_racesMeet 8 = .ok (.getfield 235, 3) := by decide +kernel
theorem dX9_racesMeet_11 : decode cX9_racesMeet 11 = .ok (.iload_n 3, 1) := by decide +kernel
theorem dX9_racesMeet_12 : decode cX9_racesMeet 12 = .ok (.iaload, 1) := by decide +kernel
theorem dX9_racesMeet_13 : decode cX9_racesMeet 13 = .ok (.iconst (-1), 1) := by decide +kernel
theorem dX9_racesMeet_14 : decode cX9_racesMeet 14 = .ok (.if_icmp .eq 22, 3) := by decide +kernel
theorem dX9_racesMeet_17 : decode cX9_racesMeet 17 = .ok (.aload_n 0, 1) := by decide +kernel
theorem dX9_racesMeet_18 : decode cX9_racesMeet 18 = .ok (.aload_n 2, 1) := by decide +kernel
theorem dX9_racesMeet_19 : decode cX9_racesMeet 19 = .ok (.getfield 235, 3) := by decide +kernel
theorem dX9_racesMeet_22 : decode cX9_racesMeet 22 = .ok (.aload_n 1, 1) := by decide +kernel
theorem dX9_racesMeet_23 : decode cX9_racesMeet 23 = .ok (.getfield 235, 3) := by decide +kernel
theorem dX9_racesMeet_26 : decode cX9_racesMeet 26 = .ok (.iload_n 3, 1) := by decide +kernel
theorem dX9_racesMeet_27 : decode cX9_racesMeet 27 = .ok (.iaload, 1) := by decide +kernel
theorem dX9_racesMeet_28 : decode cX9_racesMeet 28 = .ok (.invokevirtual 214, 3) := by decide +kernel
theorem dX9_racesMeet_31 : decode cX9_racesMeet 31 = .ok (.ifCond .eq 5, 3) := by decide +kernel
theorem dX9_racesMeet_34 : decode cX9_racesMeet 34 = .ok (.iconst 1, 1) := by decide +kernel
theorem dX9_racesMeet_35 : decode cX9_racesMeet 35 = .ok (.ireturn, 1) := by decide +kernel
theorem dX9_racesMeet_36 : decode cX9_racesMeet 36 = .ok (.iinc 3 1, 3) := by decide +kernel
theorem dX9_racesMeet_39 : decode cX9_racesMeet 39 = .ok (.goto (-37), 3) := by decide +kernel
theorem dX9_racesMeet_42 : decode cX9_racesMeet 42 = .ok (.iconst 0, 1) := by decide +kernel
theorem dX9_racesMeet_43 : decode cX9_racesMeet 43 = .ok (.ireturn, 1) := by decide +kernel
theorem dX9_firstBarring_0 : decode cX9_firstBarring 0 = .ok (.iconst 0, 1) := by decide +kernel
theorem dX9_firstBarring_1 : decode cX9_firstBarring 1 = .ok (.istore_n 2, 1) := by decide +kernel
theorem dX9_firstBarring_2 : decode cX9_firstBarring 2 = .ok (.iload_n 2, 1) := by decide +kernel
theorem dX9_firstBarring_3 : decode cX9_firstBarring 3 = .ok (.iload_n 1, 1) := by decide +kernel
theorem dX9_firstBarring_4 : decode cX9_firstBarring 4 = .ok (.if_icmp .ge 52, 3) := by decide +kernel
theorem dX9_firstBarring_7 : decode cX9_firstBarring 7 = .ok (.aload_n 0, 1) := by decide +kernel
theorem dX9_firstBarring_8 : decode cX9_firstBarring 8 = .ok (.getfield 73, 3) := by decide +kernel
theorem dX9_firstBarring_11 : decode cX9_firstBarring 11 = .ok (.iload_n 1, 1) := by decide +kernel
theorem dX9_firstBarring_12 : decode cX9_firstBarring 12 = .ok (.aaload, 1) := by decide +kernel
theorem dX9_firstBarring_13 : decode cX9_firstBarring 13 = .ok (.aload_n 0, 1) := by decide +kernel
theorem dX9_firstBarring_14 : decode cX9_firstBarring 14 = .ok (.getfield 73, 3) := by decide +kernel
theorem dX9_firstBarring_17 : decode cX9_firstBarring 17 = .ok (.iload_n 2, 1) := by decide +kernel
theorem dX9_firstBarring_18 : decode cX9_firstBarring 18 = .ok (.aaload, 1) := by decide +kernel
theorem dX9_firstBarring_19 : decode cX9_firstBarring 19 = .ok (.invokevirtual 272, 3) := by decide +kernel
theorem dX9_firstBarring_22 : decode cX9_firstBarring 22 = .ok (.aload_n 0, 1) := by decide +kernel
theorem dX9_firstBarring_23 : decode cX9_firstBarring 23 = .ok (.getfield 62, 3) := by decide +kernel
theorem dX9_firstBarring_26 : decode cX9_firstBarring 26 = .ok (.if_icmp .ge 24, 3) := by decide +kernel
theorem dX9_firstBarring_29 : decode cX9_firstBarring 29 = .ok (.aload_n 0, 1) := by decide +kernel
theorem dX9_firstBarring_30 : decode cX9_firstBarring 30 = .ok (.aload_n 0, 1) := by decide +kernel
