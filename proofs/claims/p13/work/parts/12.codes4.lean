theorem dX10_feed_50 : decode cX10_feed 50 = .ok (.putfield 159, 3) := by decide +kernel
theorem dX10_feed_53 : decode cX10_feed 53 = .ok (.lload_n 1, 1) := by decide +kernel
theorem dX10_feed_54 : decode cX10_feed 54 = .ok (.bipush 8, 2) := by decide +kernel
theorem dX10_feed_56 : decode cX10_feed 56 = .ok (.iload 4, 2) := by decide +kernel
theorem dX10_feed_58 : decode cX10_feed 58 = .ok (.imul, 1) := by decide +kernel
theorem dX10_feed_59 : decode cX10_feed 59 = .ok (.lshr, 1) := by decide +kernel
theorem dX10_feed_60 : decode cX10_feed 60 = .ok (.ldc2_w 162, 3) := by decide +kernel
theorem dX10_feed_63 : decode cX10_feed 63 = .ok (.land, 1) := by decide +kernel
theorem dX10_feed_64 : decode cX10_feed 64 = .ok (.l2i, 1) := by decide +kernel
theorem dX10_feed_65 : decode cX10_feed 65 = .ok (.iastore, 1) := by decide +kernel
theorem dX10_feed_66 : decode cX10_feed 66 = .ok (.iinc 4 (-1), 3) := by decide +kernel
theorem dX10_feed_69 : decode cX10_feed 69 = .ok (.goto (-36), 3) := by decide +kernel
theorem dX10_feed_72 : decode cX10_feed 72 = .ok (.aload_n 0, 1) := by decide +kernel
theorem dX10_feed_73 : decode cX10_feed 73 = .ok (.getfield 159, 3) := by decide +kernel
theorem dX10_feed_76 : decode cX10_feed 76 = .ok (.ireturn, 1) := by decide +kernel
theorem dX10_now_0 : decode cX10_now 0 = .ok (.aload_n 0, 1) := by decide +kernel
theorem dX10_now_1 : decode cX10_now 1 = .ok (.getfield 164, 3) := by decide +kernel
theorem dX10_now_4 : decode cX10_now 4 = .ok (.aload_n 0, 1) := by decide +kernel
theorem dX10_now_5 : decode cX10_now 5 = .ok (.getfield 159, 3) := by decide +kernel
theorem dX10_now_8 : decode cX10_now 8 = .ok (.if_icmp .ge 15, 3) := by decide +kernel
theorem dX10_now_11 : decode cX10_now 11 = .ok (.aload_n 0, 1) := by decide +kernel
theorem dX10_now_12 : decode cX10_now 12 = .ok (.getfield 56, 3) := by decide +kernel
theorem dX10_now_15 : decode cX10_now 15 = .ok (.aload_n 0, 1) := by decide +kernel
theorem dX10_now_16 : decode cX10_now 16 = .ok (.getfield 164, 3) := by decide +kernel
theorem dX10_now_19 : decode cX10_now 19 = .ok (.iaload, 1) := by decide +kernel
theorem dX10_now_20 : decode cX10_now 20 = .ok (.goto 4, 3) := by decide +kernel
theorem dX10_now_23 : decode cX10_now 23 = .ok (.iconst (-1), 1) := by decide +kernel
theorem dX10_now_24 : decode cX10_now 24 = .ok (.ireturn, 1) := by decide +kernel
theorem dX10_expect_0 : decode cX10_expect 0 = .ok (.iconst 0, 1) := by decide +kernel
theorem dX10_expect_1 : decode cX10_expect 1 = .ok (.istore_n 2, 1) := by decide +kernel
theorem dX10_expect_2 : decode cX10_expect 2 = .ok (.iload_n 2, 1) := by decide +kernel
theorem dX10_expect_3 : decode cX10_expect 3 = .ok (.aload_n 1, 1) := by decide +kernel
theorem dX10_expect_4 : decode cX10_expect 4 = .ok (.invokevirtual 167, 3) := by decide +kernel
theorem dX10_expect_7 : decode cX10_expect 7 = .ok (.if_icmp .ge 50, 3) := by decide +kernel
theorem dX10_expect_10 : decode cX10_expect 10 = .ok (.aload_n 0, 1) := by decide +kernel
theorem dX10_expect_11 : decode cX10_expect 11 = .ok (.getfield 173, 3) := by decide +kernel
theorem dX10_expect_14 : decode cX10_expect 14 = .ok (.iconst (-1), 1) := by decide +kernel
theorem dX10_expect_15 : decode cX10_expect 15 = .ok (.if_icmp .ne 42, 3) := by decide +kernel
theorem dX10_expect_18 : decode cX10_expect 18 = .ok (.aload_n 0, 1) := by decide +kernel
theorem dX10_expect_19 : decode cX10_expect 19 = .ok (.invokevirtual 176, 3) := by decide +kernel
theorem dX10_expect_22 : decode cX10_expect 22 = .ok (.aload_n 1, 1) := by decide +kernel
theorem dX10_expect_23 : decode cX10_expect 23 = .ok (.iload_n 2, 1) := by decide +kernel
theorem dX10_expect_24 : decode cX10_expect 24 = .ok (.invokevirtual 179, 3) := by decide +kernel
theorem dX10_expect_27 : decode cX10_expect 27 = .ok (.if_icmp .ne 16, 3) := by decide +kernel
theorem dX10_expect_30 : decode cX10_expect 30 = .ok (.aload_n 0, 1) := by decide +kernel
theorem dX10_expect_31 : decode cX10_expect 31 = .ok (.dup, 1) := by decide +kernel
theorem dX10_expect_32 : decode cX10_expect 32 = .ok (.getfield 164, 3) := by decide +kernel
theorem dX10_expect_35 : decode cX10_expect 35 = .ok (.iconst 1, 1) := by decide +kernel
theorem dX10_expect_36 : decode cX10_expect 36 = .ok (.iadd, 1) := by decide +kernel
theorem dX10_expect_37 : decode cX10_expect 37 = .ok (.putfield 164, 3) := by decide +kernel
theorem dX10_expect_40 : decode cX10_expect 40 = .ok (.goto 11, 3) := by decide +kernel
theorem dX10_expect_43 : decode cX10_expect 43 = .ok (.aload_n 0, 1) := by decide +kernel
theorem dX10_expect_44 : decode cX10_expect 44 = .ok (.aload_n 0, 1) := by decide +kernel
theorem dX10_expect_45 : decode cX10_expect 45 = .ok (.getfield 164, 3) := by decide +kernel
theorem dX10_expect_48 : decode cX10_expect 48 = .ok (.putfield 173, 3) := by decide +kernel
theorem dX10_expect_51 : decode cX10_expect 51 = .ok (.iinc 2 1, 3) := by decide +kernel
theorem dX10_expect_54 : decode cX10_expect 54 = .ok (.goto (-52), 3) := by decide +kernel
theorem dX10_expect_57 : decode cX10_expect 57 = .ok (.return_, 1) := by decide +kernel
theorem dX10_test_0 : decode cX10_test 0 = .ok (.aload_n 0, 1) := by decide +kernel
theorem dX10_test_1 : decode cX10_test 1 = .ok (.getfield 71, 3) := by decide +kernel
theorem dX10_test_4 : decode cX10_test 4 = .ok (.iload_n 1, 1) := by decide +kernel
theorem dX10_test_5 : decode cX10_test 5 = .ok (.aload_n 0, 1) := by decide +kernel
theorem dX10_test_6 : decode cX10_test 6 = .ok (.invokevirtual 176, 3) := by decide +kernel
theorem dX10_test_9 : decode cX10_test 9 = .ok (.bipush 110, 2) := by decide +kernel
theorem dX10_test_11 : decode cX10_test 11 = .ok (.if_icmp .ne 7, 3) := by decide +kernel
theorem dX10_test_14 : decode cX10_test 14 = .ok (.iconst 1, 1) := by decide +kernel
theorem dX10_test_15 : decode cX10_test 15 = .ok (.goto 4, 3) := by decide +kernel
theorem dX10_test_18 : decode cX10_test 18 = .ok (.iconst 0, 1) := by decide +kernel
theorem dX10_test_19 : decode cX10_test 19 = .ok (.bastore, 1) := by decide +kernel
theorem dX10_test_20 : decode cX10_test 20 = .ok (.aload_n 0, 1) := by decide +kernel
theorem dX10_test_21 : decode cX10_test 21 = .ok (.getfield 71, 3) := by decide +kernel
theorem dX10_test_24 : decode cX10_test 24 = .ok (.iload_n 1, 1) := by decide +kernel
theorem dX10_test_25 : decode cX10_test 25 = .ok (.baload, 1) := by decide +kernel
theorem dX10_test_26 : decode cX10_test 26 = .ok (.ifCond .eq 9, 3) := by decide +kernel
theorem dX10_test_29 : decode cX10_test 29 = .ok (.aload_n 0, 1) := by decide +kernel
theorem dX10_test_30 : decode cX10_test 30 = .ok (.ldc 183, 2) := by decide +kernel
theorem dX10_test_32 : decode cX10_test 32 = .ok (.invokevirtual 185, 3) := by decide +kernel
theorem dX10_test_35 : decode cX10_test 35 = .ok (.aload_n 0, 1) := by decide +kernel
theorem dX10_test_36 : decode cX10_test 36 = .ok (.getfield 173, 3) := by decide +kernel
theorem dX10_test_39 : decode cX10_test 39 = .ok (.iconst (-1), 1) := by decide +kernel
theorem dX10_test_40 : decode cX10_test 40 = .ok (.if_icmp .eq 4, 3) := by decide +kernel
theorem dX10_test_43 : decode cX10_test 43 = .ok (.return_, 1) := by decide +kernel
theorem dX10_test_44 : decode cX10_test 44 = .ok (.aload_n 0, 1) := by decide +kernel
theorem dX10_test_45 : decode cX10_test 45 = .ok (.invokevirtual 176, 3) := by decide +kernel
theorem dX10_test_48 : decode cX10_test 48 = .ok (.istore_n 2, 1) := by decide +kernel
theorem dX10_test_49 : decode cX10_test 49 = .ok (.aload_n 0, 1) := by decide +kernel
theorem dX10_test_50 : decode cX10_test 50 = .ok (.getfield 164, 3) := by decide +kernel
theorem dX10_test_53 : decode cX10_test 53 = .ok (.iconst 1, 1) := by decide +kernel
theorem dX10_test_54 : decode cX10_test 54 = .ok (.iadd, 1) := by decide +kernel
theorem dX10_test_55 : decode cX10_test 55 = .ok (.aload_n 0, 1) := by decide +kernel
theorem dX10_test_56 : decode cX10_test 56 = .ok (.getfield 159, 3) := by decide +kernel
theorem dX10_test_59 : decode cX10_test 59 = .ok (.if_icmp .ge 17, 3) := by decide +kernel
theorem dX10_test_62 : decode cX10_test 62 = .ok (.aload_n 0, 1) := by decide +kernel
theorem dX10_test_63 : decode cX10_test 63 = .ok (.getfield 56, 3) := by decide +kernel
theorem dX10_test_66 : decode cX10_test 66 = .ok (.aload_n 0, 1) := by decide +kernel
theorem dX10_test_67 : decode cX10_test 67 = .ok (.getfield 164, 3) := by decide +kernel
theorem dX10_test_70 : decode cX10_test 70 = .ok (.iconst 1, 1) := by decide +kernel
theorem dX10_test_71 : decode cX10_test 71 = .ok (.iadd, 1) := by decide +kernel
theorem dX10_test_72 : decode cX10_test 72 = .ok (.iaload, 1) := by decide +kernel
theorem dX10_test_73 : decode cX10_test 73 = .ok (.goto 4, 3) := by decide +kernel
theorem dX10_test_76 : decode cX10_test 76 = .ok (.iconst (-1), 1) := by decide +kernel
theorem dX10_test_77 : decode cX10_test 77 = .ok (.istore_n 3, 1) := by decide +kernel
theorem dX10_test_78 : decode cX10_test 78 = .ok (.iload_n 2, 1) := by decide +kernel
theorem dX10_test_79 : decode cX10_test 79 = .ok (.bipush 119, 2) := by decide +kernel
theorem dX10_test_81 : decode cX10_test 81 = .ok (.if_icmp .ne 43, 3) := by decide +kernel
theorem dX10_test_84 : decode cX10_test 84 = .ok (.aload_n 0, 1) := by decide +kernel
theorem dX10_test_85 : decode cX10_test 85 = .ok (.getfield 62, 3) := by decide +kernel
theorem dX10_test_88 : decode cX10_test 88 = .ok (.iload_n 1, 1) := by decide +kernel
theorem dX10_test_89 : decode cX10_test 89 = .ok (.iload_n 3, 1) := by decide +kernel
theorem dX10_test_90 : decode cX10_test 90 = .ok (.bipush 101, 2) := by decide +kernel
theorem dX10_test_92 : decode cX10_test 92 = .ok (.if_icmp .ne 7, 3) := by decide +kernel
theorem dX10_test_95 : decode cX10_test 95 = .ok (.iconst 4, 1) := by decide +kernel
theorem dX10_test_96 : decode cX10_test 96 = .ok (.goto 4, 3) := by decide +kernel
theorem dX10_test_99 : decode cX10_test 99 = .ok (.iconst 1, 1) := by decide +kernel
theorem dX10_test_100 : decode cX10_test 100 = .ok (.iastore, 1) := by decide +kernel
theorem dX10_test_101 : decode cX10_test 101 = .ok (.iload_n 3, 1) := by decide +kernel
theorem dX10_test_102 : decode cX10_test 102 = .ok (.bipush 101, 2) := by decide +kernel
theorem dX10_test_104 : decode cX10_test 104 = .ok (.if_icmp .eq 57, 3) := by decide +kernel
theorem dX10_test_107 : decode cX10_test 107 = .ok (.iload_n 3, 1) := by decide +kernel
theorem dX10_test_108 : decode cX10_test 108 = .ok (.bipush 111, 2) := by decide +kernel
theorem dX10_test_110 : decode cX10_test 110 = .ok (.if_icmp .eq 51, 3) := by decide +kernel
theorem dX10_test_113 : decode cX10_test 113 = .ok (.aload_n 0, 1) := by decide +kernel
theorem dX10_test_114 : decode cX10_test 114 = .ok (.aload_n 0, 1) := by decide +kernel
theorem dX10_test_115 : decode cX10_test 115 = .ok (.getfield 164, 3) := by decide +kernel
theorem dX10_test_118 : decode cX10_test 118 = .ok (.iconst 1, 1) := by decide +kernel
theorem dX10_test_119 : decode cX10_test 119 = .ok (.iadd, 1) := by decide +kernel
theorem dX10_test_120 : decode cX10_test 120 = .ok (.putfield 173, 3) := by decide +kernel
theorem dX10_test_123 : decode cX10_test 123 = .ok (.return_, 1) := by decide +kernel
theorem dX10_test_124 : decode cX10_test 124 = .ok (.aload_n 0, 1) := by decide +kernel
theorem dX10_test_125 : decode cX10_test 125 = .ok (.getfield 62, 3) := by decide +kernel
theorem dX10_test_128 : decode cX10_test 128 = .ok (.iload_n 1, 1) := by decide +kernel
theorem dX10_test_129 : decode cX10_test 129 = .ok (.iload_n 2, 1) := by decide +kernel
theorem dX10_test_130 : decode cX10_test 130 = .ok (.bipush 109, 2) := by decide +kernel
theorem dX10_test_132 : decode cX10_test 132 = .ok (.if_icmp .ne 7, 3) := by decide +kernel
theorem dX10_test_135 : decode cX10_test 135 = .ok (.iconst 0, 1) := by decide +kernel
theorem dX10_test_136 : decode cX10_test 136 = .ok (.goto 24, 3) := by decide +kernel
theorem dX10_test_139 : decode cX10_test 139 = .ok (.iload_n 2, 1) := by decide +kernel
theorem dX10_test_140 : decode cX10_test 140 = .ok (.bipush 111, 2) := by decide +kernel
theorem dX10_test_142 : decode cX10_test 142 = .ok (.if_icmp .ne 7, 3) := by decide +kernel
theorem dX10_test_145 : decode cX10_test 145 = .ok (.iconst 2, 1) := by decide +kernel
theorem dX10_test_146 : decode cX10_test 146 = .ok (.goto 14, 3) := by decide +kernel
theorem dX10_test_149 : decode cX10_test 149 = .ok (.iload_n 2, 1) := by decide +kernel
theorem dX10_test_150 : decode cX10_test 150 = .ok (.bipush 121, 2) := by decide +kernel
theorem dX10_test_152 : decode cX10_test 152 = .ok (.if_icmp .ne 7, 3) := by decide +kernel
theorem dX10_test_155 : decode cX10_test 155 = .ok (.iconst 3, 1) := by decide +kernel
theorem dX10_test_156 : decode cX10_test 156 = .ok (.goto 4, 3) := by decide +kernel
theorem dX10_test_159 : decode cX10_test 159 = .ok (.iconst 5, 1) := by decide +kernel
theorem dX10_test_160 : decode cX10_test 160 = .ok (.iastore, 1) := by decide +kernel
theorem dX10_test_161 : decode cX10_test 161 = .ok (.aload_n 0, 1) := by decide +kernel
theorem dX10_test_162 : decode cX10_test 162 = .ok (.getfield 62, 3) := by decide +kernel
theorem dX10_test_165 : decode cX10_test 165 = .ok (.iload_n 1, 1) := by decide +kernel
theorem dX10_test_166 : decode cX10_test 166 = .ok (.iaload, 1) := by decide +kernel
theorem dX10_test_167 : decode cX10_test 167 = .ok (.istore 4, 2) := by decide +kernel
theorem dX10_test_169 : decode cX10_test 169 = .ok (.aload_n 0, 1) := by decide +kernel
theorem dX10_test_170 : decode cX10_test 170 = .ok (.iload 4, 2) := by decide +kernel
theorem dX10_test_172 : decode cX10_test 172 = .ok (.ifCond .ne 8, 3) := by decide +kernel
theorem dX10_test_175 : decode cX10_test 175 = .ok (.ldc 189, 2) := by decide +kernel
theorem dX10_test_177 : decode cX10_test 177 = .ok (.goto 49, 3) := by decide +kernel
theorem dX10_test_180 : decode cX10_test 180 = .ok (.iload 4, 2) := by decide +kernel
theorem dX10_test_182 : decode cX10_test 182 = .ok (.iconst 1, 1) := by decide +kernel
theorem dX10_test_183 : decode cX10_test 183 = .ok (.if_icmp .ne 8, 3) := by decide +kernel
theorem dX10_test_186 : decode cX10_test 186 = .ok (.ldc 191, 2) := by decide +kernel
theorem dX10_test_188 : decode cX10_test 188 = .ok (.goto 38, 3) := by decide +kernel
theorem dX10_test_191 : decode cX10_test 191 = .ok (.iload 4, 2) := by decide +kernel
theorem dX10_test_193 : decode cX10_test 193 = .ok (.iconst 2, 1) := by decide +kernel
theorem dX10_test_194 : decode cX10_test 194 = .ok (.if_icmp .ne 8, 3) := by decide +kernel
theorem dX10_test_197 : decode cX10_test 197 = .ok (.ldc 193, 2) := by decide +kernel
theorem dX10_test_199 : decode cX10_test 199 = .ok (.goto 27, 3) := by decide +kernel
theorem dX10_test_202 : decode cX10_test 202 = .ok (.iload 4, 2) := by decide +kernel
theorem dX10_test_204 : decode cX10_test 204 = .ok (.iconst 3, 1) := by decide +kernel
theorem dX10_test_205 : decode cX10_test 205 = .ok (.if_icmp .ne 8, 3) := by decide +kernel
theorem dX10_test_208 : decode cX10_test 208 = .ok (.ldc 195, 2) := by decide +kernel
theorem dX10_test_210 : decode cX10_test 210 = .ok (.goto 16, 3) := by decide +kernel
theorem dX10_test_213 : decode cX10_test 213 = .ok (.iload 4, 2) := by decide +kernel
theorem dX10_test_215 : decode cX10_test 215 = .ok (.iconst 4, 1) := by decide +kernel
theorem dX10_test_216 : decode cX10_test 216 = .ok (.if_icmp .ne 8, 3) := by decide +kernel
theorem dX10_test_219 : decode cX10_test 219 = .ok (.ldc 197, 2) := by decide +kernel
theorem dX10_test_221 : decode cX10_test 221 = .ok (.goto 5, 3) := by decide +kernel
theorem dX10_test_224 : decode cX10_test 224 = .ok (.ldc 198, 2) := by decide +kernel
theorem dX10_test_226 : decode cX10_test 226 = .ok (.invokevirtual 185, 3) := by decide +kernel
theorem dX10_test_229 : decode cX10_test 229 = .ok (.aload_n 0, 1) := by decide +kernel
theorem dX10_test_230 : decode cX10_test 230 = .ok (.getfield 173, 3) := by decide +kernel
theorem dX10_test_233 : decode cX10_test 233 = .ok (.iconst (-1), 1) := by decide +kernel
theorem dX10_test_234 : decode cX10_test 234 = .ok (.if_icmp .eq 4, 3) := by decide +kernel
theorem dX10_test_237 : decode cX10_test 237 = .ok (.return_, 1) := by decide +kernel
theorem dX10_test_238 : decode cX10_test 238 = .ok (.aload_n 0, 1) := by decide +kernel
theorem dX10_test_239 : decode cX10_test 239 = .ok (.invokevirtual 176, 3) := by decide +kernel
theorem dX10_test_242 : decode cX10_test 242 = .ok (.istore_n 2, 1) := by decide +kernel
theorem dX10_test_243 : decode cX10_test 243 = .ok (.aload_n 0, 1) := by decide +kernel
theorem dX10_test_244 : decode cX10_test 244 = .ok (.getfield 65, 3) := by decide +kernel
theorem dX10_test_247 : decode cX10_test 247 = .ok (.iload_n 1, 1) := by decide +kernel
theorem dX10_test_248 : decode cX10_test 248 = .ok (.iload_n 2, 1) := by decide +kernel
theorem dX10_test_249 : decode cX10_test 249 = .ok (.bipush 60, 2) := by decide +kernel
theorem dX10_test_251 : decode cX10_test 251 = .ok (.if_icmp .ne 7, 3) := by decide +kernel
theorem dX10_test_254 : decode cX10_test 254 = .ok (.iconst (-1), 1) := by decide +kernel
theorem dX10_test_255 : decode cX10_test 255 = .ok (.goto 14, 3) := by decide +kernel
theorem dX10_test_258 : decode cX10_test 258 = .ok (.iload_n 2, 1) := by decide +kernel
theorem dX10_test_259 : decode cX10_test 259 = .ok (.bipush 61, 2) := by decide +kernel
theorem dX10_test_261 : decode cX10_test 261 = .ok (.if_icmp .ne 7, 3) := by decide +kernel
theorem dX10_test_264 : decode cX10_test 264 = .ok (.iconst 0, 1) := by decide +kernel
theorem dX10_test_265 : decode cX10_test 265 = .ok (.goto 4, 3) := by decide +kernel
theorem dX10_test_268 : decode cX10_test 268 = .ok (.iconst 1, 1) := by decide +kernel
theorem dX10_test_269 : decode cX10_test 269 = .ok (.iastore, 1) := by decide +kernel
theorem dX10_test_270 : decode cX10_test 270 = .ok (.iload_n 2, 1) := by decide +kernel
theorem dX10_test_271 : decode cX10_test 271 = .ok (.bipush 60, 2) := by decide +kernel
theorem dX10_test_273 : decode cX10_test 273 = .ok (.if_icmp .eq 24, 3) := by decide +kernel
theorem dX10_test_276 : decode cX10_test 276 = .ok (.iload_n 2, 1) := by decide +kernel
theorem dX10_test_277 : decode cX10_test 277 = .ok (.bipush 61, 2) := by decide +kernel
theorem dX10_test_279 : decode cX10_test 279 = .ok (.if_icmp .eq 18, 3) := by decide +kernel
theorem dX10_test_282 : decode cX10_test 282 = .ok (.iload_n 2, 1) := by decide +kernel
theorem dX10_test_283 : decode cX10_test 283 = .ok (.bipush 62, 2) := by decide +kernel
theorem dX10_test_285 : decode cX10_test 285 = .ok (.if_icmp .eq 12, 3) := by decide +kernel
theorem dX10_test_288 : decode cX10_test 288 = .ok (.aload_n 0, 1) := by decide +kernel
theorem dX10_test_289 : decode cX10_test 289 = .ok (.aload_n 0, 1) := by decide +kernel
theorem dX10_test_290 : decode cX10_test 290 = .ok (.getfield 164, 3) := by decide +kernel
theorem dX10_test_293 : decode cX10_test 293 = .ok (.putfield 173, 3) := by decide +kernel
theorem dX10_test_296 : decode cX10_test 296 = .ok (.return_, 1) := by decide +kernel
theorem dX10_test_297 : decode cX10_test 297 = .ok (.aload_n 0, 1) := by decide +kernel
theorem dX10_test_298 : decode cX10_test 298 = .ok (.dup, 1) := by decide +kernel
theorem dX10_test_299 : decode cX10_test 299 = .ok (.getfield 164, 3) := by decide +kernel
theorem dX10_test_302 : decode cX10_test 302 = .ok (.iconst 1, 1) := by decide +kernel
theorem dX10_test_303 : decode cX10_test 303 = .ok (.iadd, 1) := by decide +kernel
theorem dX10_test_304 : decode cX10_test 304 = .ok (.putfield 164, 3) := by decide +kernel
theorem dX10_test_307 : decode cX10_test 307 = .ok (.iconst 0, 1) := by decide +kernel
theorem dX10_test_308 : decode cX10_test 308 = .ok (.istore 5, 2) := by decide +kernel
theorem dX10_test_310 : decode cX10_test 310 = .ok (.aload_n 0, 1) := by decide +kernel
theorem dX10_test_311 : decode cX10_test 311 = .ok (.getfield 68, 3) := by decide +kernel
theorem dX10_test_314 : decode cX10_test 314 = .ok (.iload_n 1, 1) := by decide +kernel
theorem dX10_test_315 : decode cX10_test 315 = .ok (.iconst 0, 1) := by decide +kernel
theorem dX10_test_316 : decode cX10_test 316 = .ok (.iastore, 1) := by decide +kernel
theorem dX10_test_317 : decode cX10_test 317 = .ok (.iload 5, 2) := by decide +kernel
theorem dX10_test_319 : decode cX10_test 319 = .ok (.iconst 4, 1) := by decide +kernel
theorem dX10_test_320 : decode cX10_test 320 = .ok (.if_icmp .ge 60, 3) := by decide +kernel
theorem dX10_test_323 : decode cX10_test 323 = .ok (.aload_n 0, 1) := by decide +kernel
theorem dX10_test_324 : decode cX10_test 324 = .ok (.invokevirtual 176, 3) := by decide +kernel
theorem dX10_test_327 : decode cX10_test 327 = .ok (.bipush 48, 2) := by decide +kernel
theorem dX10_test_329 : decode cX10_test 329 = .ok (.if_icmp .lt 51, 3) := by decide +kernel
theorem dX10_test_332 : decode cX10_test 332 = .ok (.aload_n 0, 1) := by decide +kernel
theorem dX10_test_333 : decode cX10_test 333 = .ok (.invokevirtual 176, 3) := by decide +kernel
theorem dX10_test_336 : decode cX10_test 336 = .ok (.bipush 57, 2) := by decide +kernel
theorem dX10_test_338 : decode cX10_test 338 = .ok (.if_icmp .gt 42, 3) := by decide +kernel
theorem dX10_test_341 : decode cX10_test 341 = .ok (.aload_n 0, 1) := by decide +kernel
theorem dX10_test_342 : decode cX10_test 342 = .ok (.getfield 68, 3) := by decide +kernel
theorem dX10_test_345 : decode cX10_test 345 = .ok (.iload_n 1, 1) := by decide +kernel
theorem dX10_test_346 : decode cX10_test 346 = .ok (.bipush 10, 2) := by decide +kernel
theorem dX10_test_348 : decode cX10_test 348 = .ok (.aload_n 0, 1) := by decide +kernel
theorem dX10_test_349 : decode cX10_test 349 = .ok (.getfield 68, 3) := by decide +kernel
theorem dX10_test_352 : decode cX10_test 352 = .ok (.iload_n 1, 1) := by decide +kernel
theorem dX10_test_353 : decode cX10_test 353 = .ok (.iaload, 1) := by decide +kernel
theorem dX10_test_354 : decode cX10_test 354 = .ok (.imul, 1) := by decide +kernel
theorem dX10_test_355 : decode cX10_test 355 = .ok (.aload_n 0, 1) := by decide +kernel
theorem dX10_test_356 : decode cX10_test 356 = .ok (.invokevirtual 176, 3) := by decide +kernel
theorem dX10_test_359 : decode cX10_test 359 = .ok (.iadd, 1) := by decide +kernel
theorem dX10_test_360 : decode cX10_test 360 = .ok (.bipush 48, 2) := by decide +kernel
theorem dX10_test_362 : decode cX10_test 362 = .ok (.isub, 1) := by decide +kernel
theorem dX10_test_363 : decode cX10_test 363 = .ok (.iastore, 1) := by decide +kernel
theorem dX10_test_364 : decode cX10_test 364 = .ok (.aload_n 0, 1) := by decide +kernel
theorem dX10_test_365 : decode cX10_test 365 = .ok (.dup, 1) := by decide +kernel
theorem dX10_test_366 : decode cX10_test 366 = .ok (.getfield 164, 3) := by decide +kernel
theorem dX10_test_369 : decode cX10_test 369 = .ok (.iconst 1, 1) := by decide +kernel
theorem dX10_test_370 : decode cX10_test 370 = .ok (.iadd, 1) := by decide +kernel
theorem dX10_test_371 : decode cX10_test 371 = .ok (.putfield 164, 3) := by decide +kernel
theorem dX10_test_374 : decode cX10_test 374 = .ok (.iinc 5 1, 3) := by decide +kernel
theorem dX10_test_377 : decode cX10_test 377 = .ok (.goto (-60), 3) := by decide +kernel
theorem dX10_test_380 : decode cX10_test 380 = .ok (.iload 5, 2) := by decide +kernel
theorem dX10_test_382 : decode cX10_test 382 = .ok (.ifCond .ne 11, 3) := by decide +kernel
theorem dX10_test_385 : decode cX10_test 385 = .ok (.aload_n 0, 1) := by decide +kernel
theorem dX10_test_386 : decode cX10_test 386 = .ok (.aload_n 0, 1) := by decide +kernel
theorem dX10_test_387 : decode cX10_test 387 = .ok (.getfield 164, 3) := by decide +kernel
theorem dX10_test_390 : decode cX10_test 390 = .ok (.putfield 173, 3) := by decide +kernel
theorem dX10_test_393 : decode cX10_test 393 = .ok (.return_, 1) := by decide +kernel
theorem dX10_rule_0 : decode cX10_rule 0 = .ok (.aload_n 0, 1) := by decide +kernel
theorem dX10_rule_1 : decode cX10_rule 1 = .ok (.getfield 200, 3) := by decide +kernel
theorem dX10_rule_4 : decode cX10_rule 4 = .ok (.bipush 6, 2) := by decide +kernel
theorem dX10_rule_6 : decode cX10_rule 6 = .ok (.if_icmp .ne 6, 3) := by decide +kernel
theorem dX10_rule_9 : decode cX10_rule 9 = .ok (.bipush (-4), 2) := by decide +kernel
theorem dX10_rule_11 : decode cX10_rule 11 = .ok (.ireturn, 1) := by decide +kernel
theorem dX10_rule_12 : decode cX10_rule 12 = .ok (.aload_n 0, 1) := by decide +kernel
theorem dX10_rule_13 : decode cX10_rule 13 = .ok (.iconst 0, 1) := by decide +kernel
theorem dX10_rule_14 : decode cX10_rule 14 = .ok (.putfield 164, 3) := by decide +kernel
theorem dX10_rule_17 : decode cX10_rule 17 = .ok (.aload_n 0, 1) := by decide +kernel
theorem dX10_rule_18 : decode cX10_rule 18 = .ok (.iconst (-1), 1) := by decide +kernel
theorem dX10_rule_19 : decode cX10_rule 19 = .ok (.putfield 173, 3) := by decide +kernel
theorem dX10_rule_22 : decode cX10_rule 22 = .ok (.iconst 0, 1) := by decide +kernel
theorem dX10_rule_23 : decode cX10_rule 23 = .ok (.istore_n 1, 1) := by decide +kernel
theorem dX10_rule_24 : decode cX10_rule 24 = .ok (.bipush 8, 2) := by decide +kernel
theorem dX10_rule_26 : decode cX10_rule 26 = .ok (.aload_n 0, 1) := by decide +kernel
theorem dX10_rule_27 : decode cX10_rule 27 = .ok (.getfield 200, 3) := by decide +kernel
theorem dX10_rule_30 : decode cX10_rule 30 = .ok (.imul, 1) := by decide +kernel
theorem dX10_rule_31 : decode cX10_rule 31 = .ok (.istore_n 2, 1) := by decide +kernel
theorem dX10_rule_32 : decode cX10_rule 32 = .ok (.aload_n 0, 1) := by decide +kernel
theorem dX10_rule_33 : decode cX10_rule 33 = .ok (.getfield 74, 3) := by decide +kernel
theorem dX10_rule_36 : decode cX10_rule 36 = .ok (.iload_n 2, 1) := by decide +kernel
theorem dX10_rule_37 : decode cX10_rule 37 = .ok (.iconst 0, 1) := by decide +kernel
theorem dX10_rule_38 : decode cX10_rule 38 = .ok (.bastore, 1) := by decide +kernel
theorem dX10_rule_39 : decode cX10_rule 39 = .ok (.aload_n 0, 1) := by decide +kernel
theorem dX10_rule_40 : decode cX10_rule 40 = .ok (.iload_n 2, 1) := by decide +kernel
theorem dX10_rule_41 : decode cX10_rule 41 = .ok (.invokevirtual 203, 3) := by decide +kernel
theorem dX10_rule_44 : decode cX10_rule 44 = .ok (.iinc 1 1, 3) := by decide +kernel
theorem dX10_rule_47 : decode cX10_rule 47 = .ok (.aload_n 0, 1) := by decide +kernel
theorem dX10_rule_48 : decode cX10_rule 48 = .ok (.getfield 173, 3) := by decide +kernel
theorem dX10_rule_51 : decode cX10_rule 51 = .ok (.iconst (-1), 1) := by decide +kernel
theorem dX10_rule_52 : decode cX10_rule 52 = .ok (.if_icmp .ne 111, 3) := by decide +kernel
theorem dX10_rule_55 : decode cX10_rule 55 = .ok (.aload_n 0, 1) := by decide +kernel
theorem dX10_rule_56 : decode cX10_rule 56 = .ok (.getfield 164, 3) := by decide +kernel
theorem dX10_rule_59 : decode cX10_rule 59 = .ok (.aload_n 0, 1) := by decide +kernel
theorem dX10_rule_60 : decode cX10_rule 60 = .ok (.getfield 159, 3) := by decide +kernel
theorem dX10_rule_63 : decode cX10_rule 63 = .ok (.if_icmp .ge 100, 3) := by decide +kernel
theorem dX10_rule_66 : decode cX10_rule 66 = .ok (.iload_n 1, 1) := by decide +kernel
theorem dX10_rule_67 : decode cX10_rule 67 = .ok (.bipush 8, 2) := by decide +kernel
theorem dX10_rule_69 : decode cX10_rule 69 = .ok (.if_icmp .ne 14, 3) := by decide +kernel
theorem dX10_rule_72 : decode cX10_rule 72 = .ok (.aload_n 0, 1) := by decide +kernel
theorem dX10_rule_73 : decode cX10_rule 73 = .ok (.aload_n 0, 1) := by decide +kernel
theorem dX10_rule_74 : decode cX10_rule 74 = .ok (.getfield 164, 3) := by decide +kernel
theorem dX10_rule_77 : decode cX10_rule 77 = .ok (.putfield 173, 3) := by decide +kernel
theorem dX10_rule_80 : decode cX10_rule 80 = .ok (.goto 83, 3) := by decide +kernel
theorem dX10_rule_83 : decode cX10_rule 83 = .ok (.aload_n 0, 1) := by decide +kernel
theorem dX10_rule_84 : decode cX10_rule 84 = .ok (.ldc 207, 2) := by decide +kernel
theorem dX10_rule_86 : decode cX10_rule 86 = .ok (.invokevirtual 185, 3) := by decide +kernel
theorem dX10_rule_89 : decode cX10_rule 89 = .ok (.aload_n 0, 1) := by decide +kernel
theorem dX10_rule_90 : decode cX10_rule 90 = .ok (.getfield 173, 3) := by decide +kernel
theorem dX10_rule_93 : decode cX10_rule 93 = .ok (.iconst (-1), 1) := by decide +kernel
theorem dX10_rule_94 : decode cX10_rule 94 = .ok (.if_icmp .eq 6, 3) := by decide +kernel
theorem dX10_rule_97 : decode cX10_rule 97 = .ok (.goto 66, 3) := by decide +kernel
theorem dX10_rule_100 : decode cX10_rule 100 = .ok (.aload_n 0, 1) := by decide +kernel
theorem dX10_rule_101 : decode cX10_rule 101 = .ok (.invokevirtual 176, 3) := by decide +kernel
theorem dX10_rule_104 : decode cX10_rule 104 = .ok (.bipush 111, 2) := by decide +kernel
theorem dX10_rule_106 : decode cX10_rule 106 = .ok (.if_icmp .ne 7, 3) := by decide +kernel
theorem dX10_rule_109 : decode cX10_rule 109 = .ok (.iconst 1, 1) := by decide +kernel
theorem dX10_rule_110 : decode cX10_rule 110 = .ok (.goto 4, 3) := by decide +kernel
theorem dX10_rule_113 : decode cX10_rule 113 = .ok (.iconst 0, 1) := by decide +kernel
theorem dX10_rule_114 : decode cX10_rule 114 = .ok (.istore_n 3, 1) := by decide +kernel
theorem dX10_rule_115 : decode cX10_rule 115 = .ok (.aload_n 0, 1) := by decide +kernel
theorem dX10_rule_116 : decode cX10_rule 116 = .ok (.iload_n 3, 1) := by decide +kernel
theorem dX10_rule_117 : decode cX10_rule 117 = .ok (.ifCond .eq 8, 3) := by decide +kernel
theorem dX10_rule_120 : decode cX10_rule 120 = .ok (.ldc 209, 2) := by decide +kernel
theorem dX10_rule_122 : decode cX10_rule 122 = .ok (.goto 5, 3) := by decide +kernel
theorem dX10_rule_125 : decode cX10_rule 125 = .ok (.ldc 211, 2) := by decide +kernel
theorem dX10_rule_127 : decode cX10_rule 127 = .ok (.invokevirtual 185, 3) := by decide +kernel
theorem dX10_rule_130 : decode cX10_rule 130 = .ok (.aload_n 0, 1) := by decide +kernel
theorem dX10_rule_131 : decode cX10_rule 131 = .ok (.getfield 173, 3) := by decide +kernel
theorem dX10_rule_134 : decode cX10_rule 134 = .ok (.iconst (-1), 1) := by decide +kernel
theorem dX10_rule_135 : decode cX10_rule 135 = .ok (.if_icmp .eq 6, 3) := by decide +kernel
theorem dX10_rule_138 : decode cX10_rule 138 = .ok (.goto 25, 3) := by decide +kernel
theorem dX10_rule_141 : decode cX10_rule 141 = .ok (.aload_n 0, 1) := by decide +kernel
theorem dX10_rule_142 : decode cX10_rule 142 = .ok (.getfield 74, 3) := by decide +kernel
theorem dX10_rule_145 : decode cX10_rule 145 = .ok (.iload_n 2, 1) := by decide +kernel
theorem dX10_rule_146 : decode cX10_rule 146 = .ok (.iload_n 1, 1) := by decide +kernel
theorem dX10_rule_147 : decode cX10_rule 147 = .ok (.iadd, 1) := by decide +kernel
theorem dX10_rule_148 : decode cX10_rule 148 = .ok (.iload_n 3, 1) := by decide +kernel
theorem dX10_rule_149 : decode cX10_rule 149 = .ok (.bastore, 1) := by decide +kernel
theorem dX10_rule_150 : decode cX10_rule 150 = .ok (.aload_n 0, 1) := by decide +kernel
theorem dX10_rule_151 : decode cX10_rule 151 = .ok (.iload_n 2, 1) := by decide +kernel
theorem dX10_rule_152 : decode cX10_rule 152 = .ok (.iload_n 1, 1) := by decide +kernel
theorem dX10_rule_153 : decode cX10_rule 153 = .ok (.iadd, 1) := by decide +kernel
theorem dX10_rule_154 : decode cX10_rule 154 = .ok (.invokevirtual 203, 3) := by decide +kernel
theorem dX10_rule_157 : decode cX10_rule 157 = .ok (.iinc 1 1, 3) := by decide +kernel
theorem dX10_rule_160 : decode cX10_rule 160 = .ok (.goto (-113), 3) := by decide +kernel
theorem dX10_rule_163 : decode cX10_rule 163 = .ok (.aload_n 0, 1) := by decide +kernel
theorem dX10_rule_164 : decode cX10_rule 164 = .ok (.iconst 0, 1) := by decide +kernel
theorem dX10_rule_165 : decode cX10_rule 165 = .ok (.putfield 159, 3) := by decide +kernel
theorem dX10_rule_168 : decode cX10_rule 168 = .ok (.aload_n 0, 1) := by decide +kernel
theorem dX10_rule_169 : decode cX10_rule 169 = .ok (.getfield 173, 3) := by decide +kernel
theorem dX10_rule_172 : decode cX10_rule 172 = .ok (.iconst (-1), 1) := by decide +kernel
theorem dX10_rule_173 : decode cX10_rule 173 = .ok (.if_icmp .eq 11, 3) := by decide +kernel
theorem dX10_rule_176 : decode cX10_rule 176 = .ok (.bipush (-10), 2) := by decide +kernel
theorem dX10_rule_178 : decode cX10_rule 178 = .ok (.aload_n 0, 1) := by decide +kernel
theorem dX10_rule_179 : decode cX10_rule 179 = .ok (.getfield 173, 3) := by decide +kernel
theorem dX10_rule_182 : decode cX10_rule 182 = .ok (.isub, 1) := by decide +kernel
theorem dX10_rule_183 : decode cX10_rule 183 = .ok (.ireturn, 1) := by decide +kernel
theorem dX10_rule_184 : decode cX10_rule 184 = .ok (.aload_n 0, 1) := by decide +kernel
theorem dX10_rule_185 : decode cX10_rule 185 = .ok (.getfield 59, 3) := by decide +kernel
theorem dX10_rule_188 : decode cX10_rule 188 = .ok (.aload_n 0, 1) := by decide +kernel
theorem dX10_rule_189 : decode cX10_rule 189 = .ok (.getfield 200, 3) := by decide +kernel
theorem dX10_rule_192 : decode cX10_rule 192 = .ok (.iload_n 1, 1) := by decide +kernel
theorem dX10_rule_193 : decode cX10_rule 193 = .ok (.iastore, 1) := by decide +kernel
theorem dX10_rule_194 : decode cX10_rule 194 = .ok (.aload_n 0, 1) := by decide +kernel
theorem dX10_rule_195 : decode cX10_rule 195 = .ok (.dup, 1) := by decide +kernel
theorem dX10_rule_196 : decode cX10_rule 196 = .ok (.getfield 200, 3) := by decide +kernel
theorem dX10_rule_199 : decode cX10_rule 199 = .ok (.dup_x1, 1) := by decide +kernel
theorem dX10_rule_200 : decode cX10_rule 200 = .ok (.iconst 1, 1) := by decide +kernel
theorem dX10_rule_201 : decode cX10_rule 201 = .ok (.iadd, 1) := by decide +kernel
theorem dX10_rule_202 : decode cX10_rule 202 = .ok (.putfield 200, 3) := by decide +kernel
theorem dX10_rule_205 : decode cX10_rule 205 = .ok (.ireturn, 1) := by decide +kernel
theorem dX10_field_0 : decode cX10_field 0 = .ok (.iconst 0, 1) := by decide +kernel
theorem dX10_field_1 : decode cX10_field 1 = .ok (.istore_n 3, 1) := by decide +kernel
theorem dX10_field_2 : decode cX10_field 2 = .ok (.iconst 0, 1) := by decide +kernel
theorem dX10_field_3 : decode cX10_field 3 = .ok (.istore 4, 2) := by decide +kernel
theorem dX10_field_5 : decode cX10_field 5 = .ok (.iload 4, 2) := by decide +kernel
theorem dX10_field_7 : decode cX10_field 7 = .ok (.iconst 2, 1) := by decide +kernel
theorem dX10_field_8 : decode cX10_field 8 = .ok (.aload_n 0, 1) := by decide +kernel
theorem dX10_field_9 : decode cX10_field 9 = .ok (.getfield 35, 3) := by decide +kernel
theorem dX10_field_12 : decode cX10_field 12 = .ok (.iload_n 1, 1) := by decide +kernel
theorem dX10_field_13 : decode cX10_field 13 = .ok (.iaload, 1) := by decide +kernel
theorem dX10_field_14 : decode cX10_field 14 = .ok (.imul, 1) := by decide +kernel
theorem dX10_field_15 : decode cX10_field 15 = .ok (.if_icmp .ge 155, 3) := by decide +kernel
theorem dX10_field_18 : decode cX10_field 18 = .ok (.aload_n 0, 1) := by decide +kernel
theorem dX10_field_19 : decode cX10_field 19 = .ok (.getfield 50, 3) := by decide +kernel
theorem dX10_field_22 : decode cX10_field 22 = .ok (.bipush 8, 2) := by decide +kernel
theorem dX10_field_24 : decode cX10_field 24 = .ok (.iload_n 1, 1) := by decide +kernel
theorem dX10_field_25 : decode cX10_field 25 = .ok (.imul, 1) := by decide +kernel
theorem dX10_field_26 : decode cX10_field 26 = .ok (.iload 4, 2) := by decide +kernel
theorem dX10_field_28 : decode cX10_field 28 = .ok (.iadd, 1) := by decide +kernel
theorem dX10_field_29 : decode cX10_field 29 = .ok (.iaload, 1) := by decide +kernel
theorem dX10_field_30 : decode cX10_field 30 = .ok (.istore 5, 2) := by decide +kernel
theorem dX10_field_32 : decode cX10_field 32 = .ok (.iload_n 2, 1) := by decide +kernel
theorem dX10_field_33 : decode cX10_field 33 = .ok (.tableswitch 128 0 4 #[35, 56, 69, 92, 115], 35) := by decide +kernel
theorem dX10_field_68 : decode cX10_field 68 = .ok (.iload_n 3, 1) := by decide +kernel
theorem dX10_field_69 : decode cX10_field 69 = .ok (.aload_n 0, 1) := by decide +kernel
theorem dX10_field_70 : decode cX10_field 70 = .ok (.getfield 25, 3) := by decide +kernel
theorem dX10_field_73 : decode cX10_field 73 = .ok (.iload 5, 2) := by decide +kernel
theorem dX10_field_75 : decode cX10_field 75 = .ok (.iaload, 1) := by decide +kernel
theorem dX10_field_76 : decode cX10_field 76 = .ok (.ifCond .ne 7, 3) := by decide +kernel
theorem dX10_field_79 : decode cX10_field 79 = .ok (.iconst 1, 1) := by decide +kernel
theorem dX10_field_80 : decode cX10_field 80 = .ok (.goto 4, 3) := by decide +kernel
theorem dX10_field_83 : decode cX10_field 83 = .ok (.iconst 0, 1) := by decide +kernel
theorem dX10_field_84 : decode cX10_field 84 = .ok (.iadd, 1) := by decide +kernel
theorem dX10_field_85 : decode cX10_field 85 = .ok (.istore_n 3, 1) := by decide +kernel
theorem dX10_field_86 : decode cX10_field 86 = .ok (.goto 78, 3) := by decide +kernel
theorem dX10_field_89 : decode cX10_field 89 = .ok (.iload_n 3, 1) := by decide +kernel
theorem dX10_field_90 : decode cX10_field 90 = .ok (.aload_n 0, 1) := by decide +kernel
theorem dX10_field_91 : decode cX10_field 91 = .ok (.getfield 25, 3) := by decide +kernel
theorem dX10_field_94 : decode cX10_field 94 = .ok (.iload 5, 2) := by decide +kernel
theorem dX10_field_96 : decode cX10_field 96 = .ok (.iaload, 1) := by decide +kernel
theorem dX10_field_97 : decode cX10_field 97 = .ok (.iadd, 1) := by decide +kernel
theorem dX10_field_98 : decode cX10_field 98 = .ok (.istore_n 3, 1) := by decide +kernel
theorem dX10_field_99 : decode cX10_field 99 = .ok (.goto 65, 3) := by decide +kernel
theorem dX10_field_102 : decode cX10_field 102 = .ok (.iload_n 3, 1) := by decide +kernel
theorem dX10_field_103 : decode cX10_field 103 = .ok (.aload_n 0, 1) := by decide +kernel
theorem dX10_field_104 : decode cX10_field 104 = .ok (.getfield 28, 3) := by decide +kernel
theorem dX10_field_107 : decode cX10_field 107 = .ok (.iload 5, 2) := by decide +kernel
theorem dX10_field_109 : decode cX10_field 109 = .ok (.iaload, 1) := by decide +kernel
theorem dX10_field_110 : decode cX10_field 110 = .ok (.bipush 40, 2) := by decide +kernel
theorem dX10_field_112 : decode cX10_field 112 = .ok (.if_icmp .lt 7, 3) := by decide +kernel
theorem dX10_field_115 : decode cX10_field 115 = .ok (.iconst 1, 1) := by decide +kernel
theorem dX10_field_116 : decode cX10_field 116 = .ok (.goto 4, 3) := by decide +kernel
theorem dX10_field_119 : decode cX10_field 119 = .ok (.iconst 0, 1) := by decide +kernel
theorem dX10_field_120 : decode cX10_field 120 = .ok (.iadd, 1) := by decide +kernel
theorem dX10_field_121 : decode cX10_field 121 = .ok (.istore_n 3, 1) := by decide +kernel
theorem dX10_field_122 : decode cX10_field 122 = .ok (.goto 42, 3) := by decide +kernel
theorem dX10_field_125 : decode cX10_field 125 = .ok (.iload_n 3, 1) := by decide +kernel
theorem dX10_field_126 : decode cX10_field 126 = .ok (.aload_n 0, 1) := by decide +kernel
theorem dX10_field_127 : decode cX10_field 127 = .ok (.getfield 28, 3) := by decide +kernel
theorem dX10_field_130 : decode cX10_field 130 = .ok (.iload 5, 2) := by decide +kernel
theorem dX10_field_132 : decode cX10_field 132 = .ok (.iaload, 1) := by decide +kernel
theorem dX10_field_133 : decode cX10_field 133 = .ok (.bipush 18, 2) := by decide +kernel
theorem dX10_field_135 : decode cX10_field 135 = .ok (.if_icmp .ge 7, 3) := by decide +kernel
theorem dX10_field_138 : decode cX10_field 138 = .ok (.iconst 1, 1) := by decide +kernel
theorem dX10_field_139 : decode cX10_field 139 = .ok (.goto 4, 3) := by decide +kernel
theorem dX10_field_142 : decode cX10_field 142 = .ok (.iconst 0, 1) := by decide +kernel
theorem dX10_field_143 : decode cX10_field 143 = .ok (.iadd, 1) := by decide +kernel
theorem dX10_field_144 : decode cX10_field 144 = .ok (.istore_n 3, 1) := by decide +kernel
theorem dX10_field_145 : decode cX10_field 145 = .ok (.goto 19, 3) := by decide +kernel
theorem dX10_field_148 : decode cX10_field 148 = .ok (.iload_n 3, 1) := by decide +kernel
theorem dX10_field_149 : decode cX10_field 149 = .ok (.aload_n 0, 1) := by decide +kernel
theorem dX10_field_150 : decode cX10_field 150 = .ok (.getfield 15, 3) := by decide +kernel
theorem dX10_field_153 : decode cX10_field 153 = .ok (.iload 5, 2) := by decide +kernel
theorem dX10_field_155 : decode cX10_field 155 = .ok (.iaload, 1) := by decide +kernel
theorem dX10_field_156 : decode cX10_field 156 = .ok (.iadd, 1) := by decide +kernel
theorem dX10_field_157 : decode cX10_field 157 = .ok (.istore_n 3, 1) := by decide +kernel
theorem dX10_field_158 : decode cX10_field 158 = .ok (.goto 6, 3) := by decide +kernel
theorem dX10_field_161 : decode cX10_field 161 = .ok (.iinc 3 1, 3) := by decide +kernel
theorem dX10_field_164 : decode cX10_field 164 = .ok (.iinc 4 1, 3) := by decide +kernel
theorem dX10_field_167 : decode cX10_field 167 = .ok (.goto (-162), 3) := by decide +kernel
theorem dX10_field_170 : decode cX10_field 170 = .ok (.iload_n 3, 1) := by decide +kernel
theorem dX10_field_171 : decode cX10_field 171 = .ok (.ireturn, 1) := by decide +kernel
theorem dX10_keeps_0 : decode cX10_keeps 0 = .ok (.aload_n 0, 1) := by decide +kernel
theorem dX10_keeps_1 : decode cX10_keeps 1 = .ok (.iload_n 1, 1) := by decide +kernel
theorem dX10_keeps_2 : decode cX10_keeps 2 = .ok (.invokevirtual 135, 3) := by decide +kernel
theorem dX10_keeps_5 : decode cX10_keeps 5 = .ok (.ifCond .eq 15, 3) := by decide +kernel
theorem dX10_keeps_8 : decode cX10_keeps 8 = .ok (.iload_n 2, 1) := by decide +kernel
theorem dX10_keeps_9 : decode cX10_keeps 9 = .ok (.ifCond .lt 11, 3) := by decide +kernel
theorem dX10_keeps_12 : decode cX10_keeps 12 = .ok (.iload_n 2, 1) := by decide +kernel
theorem dX10_keeps_13 : decode cX10_keeps 13 = .ok (.aload_n 0, 1) := by decide +kernel
theorem dX10_keeps_14 : decode cX10_keeps 14 = .ok (.getfield 200, 3) := by decide +kernel
theorem dX10_keeps_17 : decode cX10_keeps 17 = .ok (.if_icmp .lt 5, 3) := by decide +kernel
theorem dX10_keeps_20 : decode cX10_keeps 20 = .ok (.iconst (-1), 1) := by decide +kernel
theorem dX10_keeps_21 : decode cX10_keeps 21 = .ok (.ireturn, 1) := by decide +kernel
theorem dX10_keeps_22 : decode cX10_keeps 22 = .ok (.aload_n 0, 1) := by decide +kernel
theorem dX10_keeps_23 : decode cX10_keeps 23 = .ok (.getfield 53, 3) := by decide +kernel
theorem dX10_keeps_26 : decode cX10_keeps 26 = .ok (.iload_n 1, 1) := by decide +kernel
theorem dX10_keeps_27 : decode cX10_keeps 27 = .ok (.baload, 1) := by decide +kernel
theorem dX10_keeps_28 : decode cX10_keeps 28 = .ok (.ifCond .ne 6, 3) := by decide +kernel
theorem dX10_keeps_31 : decode cX10_keeps 31 = .ok (.bipush (-3), 2) := by decide +kernel
theorem dX10_keeps_33 : decode cX10_keeps 33 = .ok (.ireturn, 1) := by decide +kernel
theorem dX10_keeps_34 : decode cX10_keeps 34 = .ok (.iconst 0, 1) := by decide +kernel
theorem dX10_keeps_35 : decode cX10_keeps 35 = .ok (.istore_n 3, 1) := by decide +kernel
theorem dX10_keeps_36 : decode cX10_keeps 36 = .ok (.iconst 1, 1) := by decide +kernel
theorem dX10_keeps_37 : decode cX10_keeps 37 = .ok (.istore 4, 2) := by decide +kernel
theorem dX10_keeps_39 : decode cX10_keeps 39 = .ok (.iconst 0, 1) := by decide +kernel
theorem dX10_keeps_40 : decode cX10_keeps 40 = .ok (.istore 5, 2) := by decide +kernel
theorem dX10_keeps_42 : decode cX10_keeps 42 = .ok (.iload 5, 2) := by decide +kernel
theorem dX10_keeps_44 : decode cX10_keeps 44 = .ok (.aload_n 0, 1) := by decide +kernel
theorem dX10_keeps_45 : decode cX10_keeps 45 = .ok (.getfield 59, 3) := by decide +kernel
theorem dX10_keeps_48 : decode cX10_keeps 48 = .ok (.iload_n 2, 1) := by decide +kernel
theorem dX10_keeps_49 : decode cX10_keeps 49 = .ok (.iaload, 1) := by decide +kernel
theorem dX10_keeps_50 : decode cX10_keeps 50 = .ok (.if_icmp .ge 134, 3) := by decide +kernel
theorem dX10_keeps_53 : decode cX10_keeps 53 = .ok (.bipush 8, 2) := by decide +kernel
theorem dX10_keeps_55 : decode cX10_keeps 55 = .ok (.iload_n 2, 1) := by decide +kernel
theorem dX10_keeps_56 : decode cX10_keeps 56 = .ok (.imul, 1) := by decide +kernel
theorem dX10_keeps_57 : decode cX10_keeps 57 = .ok (.iload 5, 2) := by decide +kernel
theorem dX10_keeps_59 : decode cX10_keeps 59 = .ok (.iadd, 1) := by decide +kernel
theorem dX10_keeps_60 : decode cX10_keeps 60 = .ok (.istore 6, 2) := by decide +kernel
theorem dX10_keeps_62 : decode cX10_keeps 62 = .ok (.aload_n 0, 1) := by decide +kernel
theorem dX10_keeps_63 : decode cX10_keeps 63 = .ok (.getfield 74, 3) := by decide +kernel
theorem dX10_keeps_66 : decode cX10_keeps 66 = .ok (.iload 6, 2) := by decide +kernel
theorem dX10_keeps_68 : decode cX10_keeps 68 = .ok (.baload, 1) := by decide +kernel
theorem dX10_keeps_69 : decode cX10_keeps 69 = .ok (.ifCond .eq 21, 3) := by decide +kernel
theorem dX10_keeps_72 : decode cX10_keeps 72 = .ok (.iload_n 3, 1) := by decide +kernel
theorem dX10_keeps_73 : decode cX10_keeps 73 = .ok (.ifCond .ne 8, 3) := by decide +kernel
theorem dX10_keeps_76 : decode cX10_keeps 76 = .ok (.iload 4, 2) := by decide +kernel
theorem dX10_keeps_78 : decode cX10_keeps 78 = .ok (.ifCond .eq 7, 3) := by decide +kernel
theorem dX10_keeps_81 : decode cX10_keeps 81 = .ok (.iconst 1, 1) := by decide +kernel
theorem dX10_keeps_82 : decode cX10_keeps 82 = .ok (.goto 4, 3) := by decide +kernel
theorem dX10_keeps_85 : decode cX10_keeps 85 = .ok (.iconst 0, 1) := by decide +kernel
theorem dX10_keeps_86 : decode cX10_keeps 86 = .ok (.istore_n 3, 1) := by decide +kernel
theorem dX10_keeps_87 : decode cX10_keeps 87 = .ok (.iconst 1, 1) := by decide +kernel
theorem dX10_keeps_88 : decode cX10_keeps 88 = .ok (.istore 4, 2) := by decide +kernel
theorem dX10_keeps_90 : decode cX10_keeps 90 = .ok (.aload_n 0, 1) := by decide +kernel
theorem dX10_keeps_91 : decode cX10_keeps 91 = .ok (.iload_n 1, 1) := by decide +kernel
theorem dX10_keeps_92 : decode cX10_keeps 92 = .ok (.aload_n 0, 1) := by decide +kernel
theorem dX10_keeps_93 : decode cX10_keeps 93 = .ok (.getfield 62, 3) := by decide +kernel
theorem dX10_keeps_96 : decode cX10_keeps 96 = .ok (.iload 6, 2) := by decide +kernel
theorem dX10_keeps_98 : decode cX10_keeps 98 = .ok (.iaload, 1) := by decide +kernel
theorem dX10_keeps_99 : decode cX10_keeps 99 = .ok (.invokevirtual 213, 3) := by decide +kernel
theorem dX10_keeps_102 : decode cX10_keeps 102 = .ok (.istore 7, 2) := by decide +kernel
theorem dX10_keeps_104 : decode cX10_keeps 104 = .ok (.iload 7, 2) := by decide +kernel
theorem dX10_keeps_106 : decode cX10_keeps 106 = .ok (.aload_n 0, 1) := by decide +kernel
theorem dX10_keeps_107 : decode cX10_keeps 107 = .ok (.getfield 68, 3) := by decide +kernel
theorem dX10_keeps_110 : decode cX10_keeps 110 = .ok (.iload 6, 2) := by decide +kernel
theorem dX10_keeps_112 : decode cX10_keeps 112 = .ok (.iaload, 1) := by decide +kernel
theorem dX10_keeps_113 : decode cX10_keeps 113 = .ok (.if_icmp .ge 7, 3) := by decide +kernel
theorem dX10_keeps_116 : decode cX10_keeps 116 = .ok (.iconst (-1), 1) := by decide +kernel
theorem dX10_keeps_117 : decode cX10_keeps 117 = .ok (.goto 20, 3) := by decide +kernel
theorem dX10_keeps_120 : decode cX10_keeps 120 = .ok (.iload 7, 2) := by decide +kernel
theorem dX10_keeps_122 : decode cX10_keeps 122 = .ok (.aload_n 0, 1) := by decide +kernel
theorem dX10_keeps_123 : decode cX10_keeps 123 = .ok (.getfield 68, 3) := by decide +kernel
theorem dX10_keeps_126 : decode cX10_keeps 126 = .ok (.iload 6, 2) := by decide +kernel
theorem dX10_keeps_128 : decode cX10_keeps 128 = .ok (.iaload, 1) := by decide +kernel
theorem dX10_keeps_129 : decode cX10_keeps 129 = .ok (.if_icmp .le 7, 3) := by decide +kernel
theorem dX10_keeps_132 : decode cX10_keeps 132 = .ok (.iconst 1, 1) := by decide +kernel
theorem dX10_keeps_133 : decode cX10_keeps 133 = .ok (.goto 4, 3) := by decide +kernel
theorem dX10_keeps_136 : decode cX10_keeps 136 = .ok (.iconst 0, 1) := by decide +kernel
theorem dX10_keeps_137 : decode cX10_keeps 137 = .ok (.istore 8, 2) := by decide +kernel
theorem dX10_keeps_139 : decode cX10_keeps 139 = .ok (.iload 4, 2) := by decide +kernel
theorem dX10_keeps_141 : decode cX10_keeps 141 = .ok (.ifCond .eq 34, 3) := by decide +kernel
theorem dX10_keeps_144 : decode cX10_keeps 144 = .ok (.iload 8, 2) := by decide +kernel
theorem dX10_keeps_146 : decode cX10_keeps 146 = .ok (.aload_n 0, 1) := by decide +kernel
theorem dX10_keeps_147 : decode cX10_keeps 147 = .ok (.getfield 65, 3) := by decide +kernel
theorem dX10_keeps_150 : decode cX10_keeps 150 = .ok (.iload 6, 2) := by decide +kernel
theorem dX10_keeps_152 : decode cX10_keeps 152 = .ok (.iaload, 1) := by decide +kernel
theorem dX10_keeps_153 : decode cX10_keeps 153 = .ok (.if_icmp .ne 7, 3) := by decide +kernel
theorem dX10_keeps_156 : decode cX10_keeps 156 = .ok (.iconst 1, 1) := by decide +kernel
theorem dX10_keeps_157 : decode cX10_keeps 157 = .ok (.goto 4, 3) := by decide +kernel
theorem dX10_keeps_160 : decode cX10_keeps 160 = .ok (.iconst 0, 1) := by decide +kernel
theorem dX10_keeps_161 : decode cX10_keeps 161 = .ok (.aload_n 0, 1) := by decide +kernel
theorem dX10_keeps_162 : decode cX10_keeps 162 = .ok (.getfield 71, 3) := by decide +kernel
theorem dX10_keeps_165 : decode cX10_keeps 165 = .ok (.iload 6, 2) := by decide +kernel
theorem dX10_keeps_167 : decode cX10_keeps 167 = .ok (.baload, 1) := by decide +kernel
theorem dX10_keeps_168 : decode cX10_keeps 168 = .ok (.if_icmp .eq 7, 3) := by decide +kernel
theorem dX10_keeps_171 : decode cX10_keeps 171 = .ok (.iconst 1, 1) := by decide +kernel
theorem dX10_keeps_172 : decode cX10_keeps 172 = .ok (.goto 4, 3) := by decide +kernel
theorem dX10_keeps_175 : decode cX10_keeps 175 = .ok (.iconst 0, 1) := by decide +kernel
theorem dX10_keeps_176 : decode cX10_keeps 176 = .ok (.istore 4, 2) := by decide +kernel
theorem dX10_keeps_178 : decode cX10_keeps 178 = .ok (.iinc 5 1, 3) := by decide +kernel
theorem dX10_keeps_181 : decode cX10_keeps 181 = .ok (.goto (-139), 3) := by decide +kernel
theorem dX10_keeps_184 : decode cX10_keeps 184 = .ok (.iload_n 3, 1) := by decide +kernel
theorem dX10_keeps_185 : decode cX10_keeps 185 = .ok (.ifCond .ne 8, 3) := by decide +kernel
theorem dX10_keeps_188 : decode cX10_keeps 188 = .ok (.iload 4, 2) := by decide +kernel
theorem dX10_keeps_190 : decode cX10_keeps 190 = .ok (.ifCond .eq 7, 3) := by decide +kernel
theorem dX10_keeps_193 : decode cX10_keeps 193 = .ok (.iconst 1, 1) := by decide +kernel
theorem dX10_keeps_194 : decode cX10_keeps 194 = .ok (.goto 4, 3) := by decide +kernel
theorem dX10_keeps_197 : decode cX10_keeps 197 = .ok (.iconst 0, 1) := by decide +kernel
theorem dX10_keeps_198 : decode cX10_keeps 198 = .ok (.ireturn, 1) := by decide +kernel
theorem dX10_rest_0 : decode cX10_rest 0 = .ok (.iload_n 1, 1) := by decide +kernel
theorem dX10_rest_1 : decode cX10_rest 1 = .ok (.ifCond .lt 9, 3) := by decide +kernel
theorem dX10_rest_4 : decode cX10_rest 4 = .ok (.iload_n 1, 1) := by decide +kernel
theorem dX10_rest_5 : decode cX10_rest 5 = .ok (.bipush 99, 2) := by decide +kernel
theorem dX10_rest_7 : decode cX10_rest 7 = .ok (.if_icmp .le 6, 3) := by decide +kernel
theorem dX10_rest_10 : decode cX10_rest 10 = .ok (.bipush (-2), 2) := by decide +kernel
theorem dX10_rest_12 : decode cX10_rest 12 = .ok (.ireturn, 1) := by decide +kernel
theorem dX10_rest_13 : decode cX10_rest 13 = .ok (.aload_n 0, 1) := by decide +kernel
theorem dX10_rest_14 : decode cX10_rest 14 = .ok (.getfield 9, 3) := by decide +kernel
theorem dX10_rest_17 : decode cX10_rest 17 = .ok (.istore_n 2, 1) := by decide +kernel
theorem dX10_rest_18 : decode cX10_rest 18 = .ok (.aload_n 0, 1) := by decide +kernel
theorem dX10_rest_19 : decode cX10_rest 19 = .ok (.iload_n 1, 1) := by decide +kernel
theorem dX10_rest_20 : decode cX10_rest 20 = .ok (.putfield 9, 3) := by decide +kernel
theorem dX10_rest_23 : decode cX10_rest 23 = .ok (.iload_n 2, 1) := by decide +kernel
theorem dX10_rest_24 : decode cX10_rest 24 = .ok (.ireturn, 1) := by decide +kernel
theorem dX10_haveCommon_0 : decode cX10_haveCommon 0 = .ok (.iload_n 1, 1) := by decide +kernel
theorem dX10_haveCommon_1 : decode cX10_haveCommon 1 = .ok (.iload_n 2, 1) := by decide +kernel
theorem dX10_haveCommon_2 : decode cX10_haveCommon 2 = .ok (.if_icmp .ne 5, 3) := by decide +kernel
theorem dX10_haveCommon_5 : decode cX10_haveCommon 5 = .ok (.iconst 1, 1) := by decide +kernel
theorem dX10_haveCommon_6 : decode cX10_haveCommon 6 = .ok (.ireturn, 1) := by decide +kernel
theorem dX10_haveCommon_7 : decode cX10_haveCommon 7 = .ok (.iconst 0, 1) := by decide +kernel
theorem dX10_haveCommon_8 : decode cX10_haveCommon 8 = .ok (.istore_n 3, 1) := by decide +kernel
theorem dX10_haveCommon_9 : decode cX10_haveCommon 9 = .ok (.iload_n 3, 1) := by decide +kernel
theorem dX10_haveCommon_10 : decode cX10_haveCommon 10 = .ok (.aload_n 0, 1) := by decide +kernel
theorem dX10_haveCommon_11 : decode cX10_haveCommon 11 = .ok (.getfield 41, 3) := by decide +kernel
theorem dX10_haveCommon_14 : decode cX10_haveCommon 14 = .ok (.iload_n 1, 1) := by decide +kernel
theorem dX10_haveCommon_15 : decode cX10_haveCommon 15 = .ok (.iaload, 1) := by decide +kernel
theorem dX10_haveCommon_16 : decode cX10_haveCommon 16 = .ok (.if_icmp .ge 30, 3) := by decide +kernel
theorem dX10_haveCommon_19 : decode cX10_haveCommon 19 = .ok (.aload_n 0, 1) := by decide +kernel
theorem dX10_haveCommon_20 : decode cX10_haveCommon 20 = .ok (.iload_n 2, 1) := by decide +kernel
theorem dX10_haveCommon_21 : decode cX10_haveCommon 21 = .ok (.aload_n 0, 1) := by decide +kernel
theorem dX10_haveCommon_22 : decode cX10_haveCommon 22 = .ok (.getfield 47, 3) := by decide +kernel
theorem dX10_haveCommon_25 : decode cX10_haveCommon 25 = .ok (.bipush 8, 2) := by decide +kernel
theorem dX10_haveCommon_27 : decode cX10_haveCommon 27 = .ok (.iload_n 1, 1) := by decide +kernel
theorem dX10_haveCommon_28 : decode cX10_haveCommon 28 = .ok (.imul, 1) := by decide +kernel
theorem dX10_haveCommon_29 : decode cX10_haveCommon 29 = .ok (.iload_n 3, 1) := by decide +kernel
theorem dX10_haveCommon_30 : decode cX10_haveCommon 30 = .ok (.iadd, 1) := by decide +kernel
theorem dX10_haveCommon_31 : decode cX10_haveCommon 31 = .ok (.iaload, 1) := by decide +kernel
theorem dX10_haveCommon_32 : decode cX10_haveCommon 32 = .ok (.invokevirtual 138, 3) := by decide +kernel
theorem dX10_haveCommon_35 : decode cX10_haveCommon 35 = .ok (.ifCond .eq 5, 3) := by decide +kernel
theorem dX10_haveCommon_38 : decode cX10_haveCommon 38 = .ok (.iconst 1, 1) := by decide +kernel
theorem dX10_haveCommon_39 : decode cX10_haveCommon 39 = .ok (.ireturn, 1) := by decide +kernel
theorem dX10_haveCommon_40 : decode cX10_haveCommon 40 = .ok (.iinc 3 1, 3) := by decide +kernel
theorem dX10_haveCommon_43 : decode cX10_haveCommon 43 = .ok (.goto (-34), 3) := by decide +kernel
theorem dX10_haveCommon_46 : decode cX10_haveCommon 46 = .ok (.iconst 0, 1) := by decide +kernel
theorem dX10_haveCommon_47 : decode cX10_haveCommon 47 = .ok (.ireturn, 1) := by decide +kernel
theorem dX10_lane_0 : decode cX10_lane 0 = .ok (.aload_n 0, 1) := by decide +kernel
theorem dX10_lane_1 : decode cX10_lane 1 = .ok (.iload_n 1, 1) := by decide +kernel
theorem dX10_lane_2 : decode cX10_lane 2 = .ok (.invokevirtual 135, 3) := by decide +kernel
theorem dX10_lane_5 : decode cX10_lane 5 = .ok (.ifCond .eq 12, 3) := by decide +kernel
theorem dX10_lane_8 : decode cX10_lane 8 = .ok (.iload_n 2, 1) := by decide +kernel
theorem dX10_lane_9 : decode cX10_lane 9 = .ok (.ifCond .lt 8, 3) := by decide +kernel
theorem dX10_lane_12 : decode cX10_lane 12 = .ok (.iload_n 2, 1) := by decide +kernel
theorem dX10_lane_13 : decode cX10_lane 13 = .ok (.iconst 3, 1) := by decide +kernel
theorem dX10_lane_14 : decode cX10_lane 14 = .ok (.if_icmp .le 5, 3) := by decide +kernel
theorem dX10_lane_17 : decode cX10_lane 17 = .ok (.iconst (-1), 1) := by decide +kernel
theorem dX10_lane_18 : decode cX10_lane 18 = .ok (.ireturn, 1) := by decide +kernel
theorem dX10_lane_19 : decode cX10_lane 19 = .ok (.aload_n 0, 1) := by decide +kernel
theorem dX10_lane_20 : decode cX10_lane 20 = .ok (.getfield 98, 3) := by decide +kernel
theorem dX10_lane_23 : decode cX10_lane 23 = .ok (.iload_n 2, 1) := by decide +kernel
theorem dX10_lane_24 : decode cX10_lane 24 = .ok (.iaload, 1) := by decide +kernel
theorem dX10_lane_25 : decode cX10_lane 25 = .ok (.iconst (-1), 1) := by decide +kernel
theorem dX10_lane_26 : decode cX10_lane 26 = .ok (.if_icmp .eq 6, 3) := by decide +kernel
theorem dX10_lane_29 : decode cX10_lane 29 = .ok (.bipush (-3), 2) := by decide +kernel
theorem dX10_lane_31 : decode cX10_lane 31 = .ok (.ireturn, 1) := by decide +kernel
theorem dX10_lane_32 : decode cX10_lane 32 = .ok (.iconst 0, 1) := by decide +kernel
theorem dX10_lane_33 : decode cX10_lane 33 = .ok (.istore_n 3, 1) := by decide +kernel
theorem dX10_lane_34 : decode cX10_lane 34 = .ok (.iload_n 3, 1) := by decide +kernel
theorem dX10_lane_35 : decode cX10_lane 35 = .ok (.iconst 4, 1) := by decide +kernel
theorem dX10_lane_36 : decode cX10_lane 36 = .ok (.if_icmp .ge 36, 3) := by decide +kernel
theorem dX10_lane_39 : decode cX10_lane 39 = .ok (.aload_n 0, 1) := by decide +kernel
theorem dX10_lane_40 : decode cX10_lane 40 = .ok (.getfield 98, 3) := by decide +kernel
theorem dX10_lane_43 : decode cX10_lane 43 = .ok (.iload_n 3, 1) := by decide +kernel
theorem dX10_lane_44 : decode cX10_lane 44 = .ok (.iaload, 1) := by decide +kernel
theorem dX10_lane_45 : decode cX10_lane 45 = .ok (.iconst (-1), 1) := by decide +kernel
theorem dX10_lane_46 : decode cX10_lane 46 = .ok (.if_icmp .eq 20, 3) := by decide +kernel
theorem dX10_lane_49 : decode cX10_lane 49 = .ok (.aload_n 0, 1) := by decide +kernel
theorem dX10_lane_50 : decode cX10_lane 50 = .ok (.iload_n 1, 1) := by decide +kernel
theorem dX10_lane_51 : decode cX10_lane 51 = .ok (.aload_n 0, 1) := by decide +kernel
theorem dX10_lane_52 : decode cX10_lane 52 = .ok (.getfield 98, 3) := by decide +kernel
theorem dX10_lane_55 : decode cX10_lane 55 = .ok (.iload_n 3, 1) := by decide +kernel
theorem dX10_lane_56 : decode cX10_lane 56 = .ok (.iaload, 1) := by decide +kernel
theorem dX10_lane_57 : decode cX10_lane 57 = .ok (.invokevirtual 217, 3) := by decide +kernel
theorem dX10_lane_60 : decode cX10_lane 60 = .ok (.ifCond .eq 6, 3) := by decide +kernel
theorem dX10_lane_63 : decode cX10_lane 63 = .ok (.bipush (-3), 2) := by decide +kernel
theorem dX10_lane_65 : decode cX10_lane 65 = .ok (.ireturn, 1) := by decide +kernel
theorem dX10_lane_66 : decode cX10_lane 66 = .ok (.iinc 3 1, 3) := by decide +kernel
theorem dX10_lane_69 : decode cX10_lane 69 = .ok (.goto (-35), 3) := by decide +kernel
theorem dX10_lane_72 : decode cX10_lane 72 = .ok (.aload_n 0, 1) := by decide +kernel
theorem dX10_lane_73 : decode cX10_lane 73 = .ok (.getfield 98, 3) := by decide +kernel
theorem dX10_lane_76 : decode cX10_lane 76 = .ok (.iload_n 2, 1) := by decide +kernel
theorem dX10_lane_77 : decode cX10_lane 77 = .ok (.iload_n 1, 1) := by decide +kernel
theorem dX10_lane_78 : decode cX10_lane 78 = .ok (.iastore, 1) := by decide +kernel
theorem dX10_lane_79 : decode cX10_lane 79 = .ok (.aload_n 0, 1) := by decide +kernel
theorem dX10_lane_80 : decode cX10_lane 80 = .ok (.dup, 1) := by decide +kernel
theorem dX10_lane_81 : decode cX10_lane 81 = .ok (.getfield 220, 3) := by decide +kernel
theorem dX10_lane_84 : decode cX10_lane 84 = .ok (.iconst 1, 1) := by decide +kernel
theorem dX10_lane_85 : decode cX10_lane 85 = .ok (.iadd, 1) := by decide +kernel
theorem dX10_lane_86 : decode cX10_lane 86 = .ok (.dup_x1, 1) := by decide +kernel
theorem dX10_lane_87 : decode cX10_lane 87 = .ok (.putfield 220, 3) := by decide +kernel
theorem dX10_lane_90 : decode cX10_lane 90 = .ok (.ireturn, 1) := by decide +kernel
theorem dX10_race_0 : decode cX10_race 0 = .ok (.iload_n 1, 1) := by decide +kernel
theorem dX10_race_1 : decode cX10_race 1 = .ok (.ifCond .lt 19, 3) := by decide +kernel
theorem dX10_race_4 : decode cX10_race 4 = .ok (.iload_n 1, 1) := by decide +kernel
theorem dX10_race_5 : decode cX10_race 5 = .ok (.sipush 999, 3) := by decide +kernel
theorem dX10_race_8 : decode cX10_race 8 = .ok (.if_icmp .gt 12, 3) := by decide +kernel
theorem dX10_race_11 : decode cX10_race 11 = .ok (.iload_n 2, 1) := by decide +kernel
theorem dX10_race_12 : decode cX10_race 12 = .ok (.ifCond .lt 8, 3) := by decide +kernel
theorem dX10_race_15 : decode cX10_race 15 = .ok (.iload_n 2, 1) := by decide +kernel
theorem dX10_race_16 : decode cX10_race 16 = .ok (.iconst 1, 1) := by decide +kernel
theorem dX10_race_17 : decode cX10_race 17 = .ok (.if_icmp .le 6, 3) := by decide +kernel
theorem dX10_race_20 : decode cX10_race 20 = .ok (.bipush (-2), 2) := by decide +kernel
theorem dX10_race_22 : decode cX10_race 22 = .ok (.ireturn, 1) := by decide +kernel
theorem dX10_race_23 : decode cX10_race 23 = .ok (.aload_n 0, 1) := by decide +kernel
theorem dX10_race_24 : decode cX10_race 24 = .ok (.getfield 220, 3) := by decide +kernel
theorem dX10_race_27 : decode cX10_race 27 = .ok (.iconst 2, 1) := by decide +kernel
theorem dX10_race_28 : decode cX10_race 28 = .ok (.if_icmp .ge 6, 3) := by decide +kernel
theorem dX10_race_31 : decode cX10_race 31 = .ok (.bipush (-3), 2) := by decide +kernel
theorem dX10_race_33 : decode cX10_race 33 = .ok (.ireturn, 1) := by decide +kernel
theorem dX10_race_34 : decode cX10_race 34 = .ok (.aload_n 0, 1) := by decide +kernel
theorem dX10_race_35 : decode cX10_race 35 = .ok (.getfield 223, 3) := by decide +kernel
theorem dX10_race_38 : decode cX10_race 38 = .ok (.bipush 24, 2) := by decide +kernel
theorem dX10_race_40 : decode cX10_race 40 = .ok (.if_icmp .ne 6, 3) := by decide +kernel
theorem dX10_race_43 : decode cX10_race 43 = .ok (.bipush (-4), 2) := by decide +kernel
theorem dX10_race_45 : decode cX10_race 45 = .ok (.ireturn, 1) := by decide +kernel
theorem dX10_race_46 : decode cX10_race 46 = .ok (.iconst 0, 1) := by decide +kernel
theorem dX10_race_47 : decode cX10_race 47 = .ok (.istore_n 3, 1) := by decide +kernel
theorem dX10_race_48 : decode cX10_race 48 = .ok (.iload_n 3, 1) := by decide +kernel
theorem dX10_race_49 : decode cX10_race 49 = .ok (.aload_n 0, 1) := by decide +kernel
theorem dX10_race_50 : decode cX10_race 50 = .ok (.getfield 223, 3) := by decide +kernel
theorem dX10_race_53 : decode cX10_race 53 = .ok (.if_icmp .ge 116, 3) := by decide +kernel
theorem dX10_race_56 : decode cX10_race 56 = .ok (.aload_n 0, 1) := by decide +kernel
theorem dX10_race_57 : decode cX10_race 57 = .ok (.getfield 77, 3) := by decide +kernel
theorem dX10_race_60 : decode cX10_race 60 = .ok (.iload_n 3, 1) := by decide +kernel
theorem dX10_race_61 : decode cX10_race 61 = .ok (.iaload, 1) := by decide +kernel
theorem dX10_race_62 : decode cX10_race 62 = .ok (.iload_n 1, 1) := by decide +kernel
theorem dX10_race_63 : decode cX10_race 63 = .ok (.isub, 1) := by decide +kernel
theorem dX10_race_64 : decode cX10_race 64 = .ok (.invokestatic 142, 3) := by decide +kernel
theorem dX10_race_67 : decode cX10_race 67 = .ok (.aload_n 0, 1) := by decide +kernel
theorem dX10_race_68 : decode cX10_race 68 = .ok (.getfield 9, 3) := by decide +kernel
theorem dX10_race_71 : decode cX10_race 71 = .ok (.if_icmp .lt 6, 3) := by decide +kernel
theorem dX10_race_74 : decode cX10_race 74 = .ok (.goto 89, 3) := by decide +kernel
theorem dX10_race_77 : decode cX10_race 77 = .ok (.iconst 0, 1) := by decide +kernel
theorem dX10_race_78 : decode cX10_race 78 = .ok (.istore 4, 2) := by decide +kernel
theorem dX10_race_80 : decode cX10_race 80 = .ok (.iload 4, 2) := by decide +kernel
theorem dX10_race_82 : decode cX10_race 82 = .ok (.iconst 4, 1) := by decide +kernel
theorem dX10_race_83 : decode cX10_race 83 = .ok (.if_icmp .ge 80, 3) := by decide +kernel
theorem dX10_race_86 : decode cX10_race 86 = .ok (.iconst 0, 1) := by decide +kernel
theorem dX10_race_87 : decode cX10_race 87 = .ok (.istore 5, 2) := by decide +kernel
theorem dX10_race_89 : decode cX10_race 89 = .ok (.iload 5, 2) := by decide +kernel
theorem dX10_race_91 : decode cX10_race 91 = .ok (.iconst 4, 1) := by decide +kernel
theorem dX10_race_92 : decode cX10_race 92 = .ok (.if_icmp .ge 65, 3) := by decide +kernel
theorem dX10_race_95 : decode cX10_race 95 = .ok (.aload_n 0, 1) := by decide +kernel
theorem dX10_race_96 : decode cX10_race 96 = .ok (.getfield 98, 3) := by decide +kernel
theorem dX10_race_99 : decode cX10_race 99 = .ok (.iload 4, 2) := by decide +kernel
theorem dX10_race_101 : decode cX10_race 101 = .ok (.iaload, 1) := by decide +kernel
theorem dX10_race_102 : decode cX10_race 102 = .ok (.iconst (-1), 1) := by decide +kernel
theorem dX10_race_103 : decode cX10_race 103 = .ok (.if_icmp .eq 48, 3) := by decide +kernel
theorem dX10_race_106 : decode cX10_race 106 = .ok (.aload_n 0, 1) := by decide +kernel
theorem dX10_race_107 : decode cX10_race 107 = .ok (.getfield 83, 3) := by decide +kernel
theorem dX10_race_110 : decode cX10_race 110 = .ok (.iconst 4, 1) := by decide +kernel
theorem dX10_race_111 : decode cX10_race 111 = .ok (.iload_n 3, 1) := by decide +kernel
theorem dX10_race_112 : decode cX10_race 112 = .ok (.imul, 1) := by decide +kernel
theorem dX10_race_113 : decode cX10_race 113 = .ok (.iload 5, 2) := by decide +kernel
theorem dX10_race_115 : decode cX10_race 115 = .ok (.iadd, 1) := by decide +kernel
theorem dX10_race_116 : decode cX10_race 116 = .ok (.iaload, 1) := by decide +kernel
theorem dX10_race_117 : decode cX10_race 117 = .ok (.iconst (-1), 1) := by decide +kernel
theorem dX10_race_118 : decode cX10_race 118 = .ok (.if_icmp .eq 33, 3) := by decide +kernel
theorem dX10_race_121 : decode cX10_race 121 = .ok (.aload_n 0, 1) := by decide +kernel
theorem dX10_race_122 : decode cX10_race 122 = .ok (.aload_n 0, 1) := by decide +kernel
theorem dX10_race_123 : decode cX10_race 123 = .ok (.getfield 98, 3) := by decide +kernel
theorem dX10_race_126 : decode cX10_race 126 = .ok (.iload 4, 2) := by decide +kernel
theorem dX10_race_128 : decode cX10_race 128 = .ok (.iaload, 1) := by decide +kernel
theorem dX10_race_129 : decode cX10_race 129 = .ok (.aload_n 0, 1) := by decide +kernel
theorem dX10_race_130 : decode cX10_race 130 = .ok (.getfield 83, 3) := by decide +kernel
theorem dX10_race_133 : decode cX10_race 133 = .ok (.iconst 4, 1) := by decide +kernel
theorem dX10_race_134 : decode cX10_race 134 = .ok (.iload_n 3, 1) := by decide +kernel
theorem dX10_race_135 : decode cX10_race 135 = .ok (.imul, 1) := by decide +kernel
theorem dX10_race_136 : decode cX10_race 136 = .ok (.iload 5, 2) := by decide +kernel
theorem dX10_race_138 : decode cX10_race 138 = .ok (.iadd, 1) := by decide +kernel
theorem dX10_race_139 : decode cX10_race 139 = .ok (.iaload, 1) := by decide +kernel
theorem dX10_race_140 : decode cX10_race 140 = .ok (.invokevirtual 217, 3) := by decide +kernel
theorem dX10_race_143 : decode cX10_race 143 = .ok (.ifCond .eq 8, 3) := by decide +kernel
theorem dX10_race_146 : decode cX10_race 146 = .ok (.bipush (-10), 2) := by decide +kernel
theorem dX10_race_148 : decode cX10_race 148 = .ok (.iload_n 3, 1) := by decide +kernel
theorem dX10_race_149 : decode cX10_race 149 = .ok (.isub, 1) := by decide +kernel
theorem dX10_race_150 : decode cX10_race 150 = .ok (.ireturn, 1) := by decide +kernel
theorem dX10_race_151 : decode cX10_race 151 = .ok (.iinc 5 1, 3) := by decide +kernel
theorem dX10_race_154 : decode cX10_race 154 = .ok (.goto (-65), 3) := by decide +kernel
theorem dX10_race_157 : decode cX10_race 157 = .ok (.iinc 4 1, 3) := by decide +kernel
theorem dX10_race_160 : decode cX10_race 160 = .ok (.goto (-80), 3) := by decide +kernel
theorem dX10_race_163 : decode cX10_race 163 = .ok (.iinc 3 1, 3) := by decide +kernel
theorem dX10_race_166 : decode cX10_race 166 = .ok (.goto (-118), 3) := by decide +kernel
theorem dX10_race_169 : decode cX10_race 169 = .ok (.aload_n 0, 1) := by decide +kernel
theorem dX10_race_170 : decode cX10_race 170 = .ok (.getfield 77, 3) := by decide +kernel
theorem dX10_race_173 : decode cX10_race 173 = .ok (.aload_n 0, 1) := by decide +kernel
theorem dX10_race_174 : decode cX10_race 174 = .ok (.getfield 223, 3) := by decide +kernel
theorem dX10_race_177 : decode cX10_race 177 = .ok (.iload_n 1, 1) := by decide +kernel
theorem dX10_race_178 : decode cX10_race 178 = .ok (.iastore, 1) := by decide +kernel
theorem dX10_race_179 : decode cX10_race 179 = .ok (.aload_n 0, 1) := by decide +kernel
theorem dX10_race_180 : decode cX10_race 180 = .ok (.getfield 80, 3) := by decide +kernel
theorem dX10_race_183 : decode cX10_race 183 = .ok (.aload_n 0, 1) := by decide +kernel
theorem dX10_race_184 : decode cX10_race 184 = .ok (.getfield 223, 3) := by decide +kernel
theorem dX10_race_187 : decode cX10_race 187 = .ok (.iload_n 2, 1) := by decide +kernel
theorem dX10_race_188 : decode cX10_race 188 = .ok (.iastore, 1) := by decide +kernel
theorem dX10_race_189 : decode cX10_race 189 = .ok (.aload_n 0, 1) := by decide +kernel
theorem dX10_race_190 : decode cX10_race 190 = .ok (.getfield 95, 3) := by decide +kernel
theorem dX10_race_193 : decode cX10_race 193 = .ok (.aload_n 0, 1) := by decide +kernel
theorem dX10_race_194 : decode cX10_race 194 = .ok (.getfield 223, 3) := by decide +kernel
theorem dX10_race_197 : decode cX10_race 197 = .ok (.iconst 0, 1) := by decide +kernel
theorem dX10_race_198 : decode cX10_race 198 = .ok (.bastore, 1) := by decide +kernel
theorem dX10_race_199 : decode cX10_race 199 = .ok (.iconst 0, 1) := by decide +kernel
theorem dX10_race_200 : decode cX10_race 200 = .ok (.istore_n 3, 1) := by decide +kernel
theorem dX10_race_201 : decode cX10_race 201 = .ok (.iload_n 3, 1) := by decide +kernel
theorem dX10_race_202 : decode cX10_race 202 = .ok (.iconst 4, 1) := by decide +kernel
theorem dX10_race_203 : decode cX10_race 203 = .ok (.if_icmp .ge 77, 3) := by decide +kernel
theorem dX10_race_206 : decode cX10_race 206 = .ok (.aload_n 0, 1) := by decide +kernel
theorem dX10_race_207 : decode cX10_race 207 = .ok (.getfield 83, 3) := by decide +kernel
theorem dX10_race_210 : decode cX10_race 210 = .ok (.iconst 4, 1) := by decide +kernel
theorem dX10_race_211 : decode cX10_race 211 = .ok (.aload_n 0, 1) := by decide +kernel
theorem dX10_race_212 : decode cX10_race 212 = .ok (.getfield 223, 3) := by decide +kernel
theorem dX10_race_215 : decode cX10_race 215 = .ok (.imul, 1) := by decide +kernel
theorem dX10_race_216 : decode cX10_race 216 = .ok (.iload_n 3, 1) := by decide +kernel
theorem dX10_race_217 : decode cX10_race 217 = .ok (.iadd, 1) := by decide +kernel
theorem dX10_race_218 : decode cX10_race 218 = .ok (.aload_n 0, 1) := by decide +kernel
theorem dX10_race_219 : decode cX10_race 219 = .ok (.getfield 98, 3) := by decide +kernel
theorem dX10_race_222 : decode cX10_race 222 = .ok (.iload_n 3, 1) := by decide +kernel
theorem dX10_race_223 : decode cX10_race 223 = .ok (.iaload, 1) := by decide +kernel
theorem dX10_race_224 : decode cX10_race 224 = .ok (.iastore, 1) := by decide +kernel
theorem dX10_race_225 : decode cX10_race 225 = .ok (.aload_n 0, 1) := by decide +kernel
theorem dX10_race_226 : decode cX10_race 226 = .ok (.getfield 86, 3) := by decide +kernel
theorem dX10_race_229 : decode cX10_race 229 = .ok (.iconst 4, 1) := by decide +kernel
theorem dX10_race_230 : decode cX10_race 230 = .ok (.aload_n 0, 1) := by decide +kernel
theorem dX10_race_231 : decode cX10_race 231 = .ok (.getfield 223, 3) := by decide +kernel
theorem dX10_race_234 : decode cX10_race 234 = .ok (.imul, 1) := by decide +kernel
theorem dX10_race_235 : decode cX10_race 235 = .ok (.iload_n 3, 1) := by decide +kernel
theorem dX10_race_236 : decode cX10_race 236 = .ok (.iadd, 1) := by decide +kernel
theorem dX10_race_237 : decode cX10_race 237 = .ok (.iconst 0, 1) := by decide +kernel
theorem dX10_race_238 : decode cX10_race 238 = .ok (.iastore, 1) := by decide +kernel
theorem dX10_race_239 : decode cX10_race 239 = .ok (.aload_n 0, 1) := by decide +kernel
theorem dX10_race_240 : decode cX10_race 240 = .ok (.getfield 89, 3) := by decide +kernel
theorem dX10_race_243 : decode cX10_race 243 = .ok (.iconst 4, 1) := by decide +kernel
theorem dX10_race_244 : decode cX10_race 244 = .ok (.aload_n 0, 1) := by decide +kernel
theorem dX10_race_245 : decode cX10_race 245 = .ok (.getfield 223, 3) := by decide +kernel
theorem dX10_race_248 : decode cX10_race 248 = .ok (.imul, 1) := by decide +kernel
theorem dX10_race_249 : decode cX10_race 249 = .ok (.iload_n 3, 1) := by decide +kernel
theorem dX10_race_250 : decode cX10_race 250 = .ok (.iadd, 1) := by decide +kernel
theorem dX10_race_251 : decode cX10_race 251 = .ok (.iconst 0, 1) := by decide +kernel
theorem dX10_race_252 : decode cX10_race 252 = .ok (.iastore, 1) := by decide +kernel
theorem dX10_race_253 : decode cX10_race 253 = .ok (.aload_n 0, 1) := by decide +kernel
theorem dX10_race_254 : decode cX10_race 254 = .ok (.getfield 92, 3) := by decide +kernel
theorem dX10_race_257 : decode cX10_race 257 = .ok (.iconst 4, 1) := by decide +kernel
theorem dX10_race_258 : decode cX10_race 258 = .ok (.aload_n 0, 1) := by decide +kernel
theorem dX10_race_259 : decode cX10_race 259 = .ok (.getfield 223, 3) := by decide +kernel
theorem dX10_race_262 : decode cX10_race 262 = .ok (.imul, 1) := by decide +kernel
theorem dX10_race_263 : decode cX10_race 263 = .ok (.iload_n 3, 1) := by decide +kernel
theorem dX10_race_264 : decode cX10_race 264 = .ok (.iadd, 1) := by decide +kernel
theorem dX10_race_265 : decode cX10_race 265 = .ok (.iconst 0, 1) := by decide +kernel
theorem dX10_race_266 : decode cX10_race 266 = .ok (.bastore, 1) := by decide +kernel
theorem dX10_race_267 : decode cX10_race 267 = .ok (.aload_n 0, 1) := by decide +kernel
theorem dX10_race_268 : decode cX10_race 268 = .ok (.getfield 98, 3) := by decide +kernel
theorem dX10_race_271 : decode cX10_race 271 = .ok (.iload_n 3, 1) := by decide +kernel
theorem dX10_race_272 : decode cX10_race 272 = .ok (.iconst (-1), 1) := by decide +kernel
theorem dX10_race_273 : decode cX10_race 273 = .ok (.iastore, 1) := by decide +kernel
theorem dX10_race_274 : decode cX10_race 274 = .ok (.iinc 3 1, 3) := by decide +kernel
theorem dX10_race_277 : decode cX10_race 277 = .ok (.goto (-76), 3) := by decide +kernel
theorem dX10_race_280 : decode cX10_race 280 = .ok (.aload_n 0, 1) := by decide +kernel
theorem dX10_race_281 : decode cX10_race 281 = .ok (.iconst 0, 1) := by decide +kernel
theorem dX10_race_282 : decode cX10_race 282 = .ok (.putfield 220, 3) := by decide +kernel
theorem dX10_race_285 : decode cX10_race 285 = .ok (.aload_n 0, 1) := by decide +kernel
theorem dX10_race_286 : decode cX10_race 286 = .ok (.dup, 1) := by decide +kernel
theorem dX10_race_287 : decode cX10_race 287 = .ok (.getfield 223, 3) := by decide +kernel
theorem dX10_race_290 : decode cX10_race 290 = .ok (.dup_x1, 1) := by decide +kernel
theorem dX10_race_291 : decode cX10_race 291 = .ok (.iconst 1, 1) := by decide +kernel
theorem dX10_race_292 : decode cX10_race 292 = .ok (.iadd, 1) := by decide +kernel
theorem dX10_race_293 : decode cX10_race 293 = .ok (.putfield 223, 3) := by decide +kernel
theorem dX10_race_296 : decode cX10_race 296 = .ok (.ireturn, 1) := by decide +kernel
theorem dX10_current_0 : decode cX10_current 0 = .ok (.iload_n 1, 1) := by decide +kernel
theorem dX10_current_1 : decode cX10_current 1 = .ok (.ifCond .lt 8, 3) := by decide +kernel
theorem dX10_current_4 : decode cX10_current 4 = .ok (.iload_n 1, 1) := by decide +kernel
theorem dX10_current_5 : decode cX10_current 5 = .ok (.iconst 3, 1) := by decide +kernel
theorem dX10_current_6 : decode cX10_current 6 = .ok (.if_icmp .le 6, 3) := by decide +kernel
theorem dX10_current_9 : decode cX10_current 9 = .ok (.bipush (-100), 2) := by decide +kernel
theorem dX10_current_11 : decode cX10_current 11 = .ok (.ireturn, 1) := by decide +kernel
theorem dX10_current_12 : decode cX10_current 12 = .ok (.iload_n 2, 1) := by decide +kernel
theorem dX10_current_13 : decode cX10_current 13 = .ok (.bipush (-9), 2) := by decide +kernel
theorem dX10_current_15 : decode cX10_current 15 = .ok (.if_icmp .lt 9, 3) := by decide +kernel
theorem dX10_current_18 : decode cX10_current 18 = .ok (.iload_n 2, 1) := by decide +kernel
theorem dX10_current_19 : decode cX10_current 19 = .ok (.bipush 9, 2) := by decide +kernel
theorem dX10_current_21 : decode cX10_current 21 = .ok (.if_icmp .le 6, 3) := by decide +kernel
theorem dX10_current_24 : decode cX10_current 24 = .ok (.bipush (-101), 2) := by decide +kernel
theorem dX10_current_26 : decode cX10_current 26 = .ok (.ireturn, 1) := by decide +kernel
theorem dX10_current_27 : decode cX10_current 27 = .ok (.aload_n 0, 1) := by decide +kernel
theorem dX10_current_28 : decode cX10_current 28 = .ok (.getfield 101, 3) := by decide +kernel
theorem dX10_current_31 : decode cX10_current 31 = .ok (.iload_n 1, 1) := by decide +kernel
theorem dX10_current_32 : decode cX10_current 32 = .ok (.iaload, 1) := by decide +kernel
theorem dX10_current_33 : decode cX10_current 33 = .ok (.istore_n 3, 1) := by decide +kernel
theorem dX10_current_34 : decode cX10_current 34 = .ok (.aload_n 0, 1) := by decide +kernel
theorem dX10_current_35 : decode cX10_current 35 = .ok (.getfield 101, 3) := by decide +kernel
theorem dX10_current_38 : decode cX10_current 38 = .ok (.iload_n 1, 1) := by decide +kernel
theorem dX10_current_39 : decode cX10_current 39 = .ok (.iload_n 2, 1) := by decide +kernel
theorem dX10_current_40 : decode cX10_current 40 = .ok (.iastore, 1) := by decide +kernel
theorem dX10_current_41 : decode cX10_current 41 = .ok (.iload_n 3, 1) := by decide +kernel
theorem dX10_current_42 : decode cX10_current 42 = .ok (.ireturn, 1) := by decide +kernel
theorem dX10_isRace_0 : decode cX10_isRace 0 = .ok (.iload_n 1, 1) := by decide +kernel
theorem dX10_isRace_1 : decode cX10_isRace 1 = .ok (.ifCond .lt 15, 3) := by decide +kernel
theorem dX10_isRace_4 : decode cX10_isRace 4 = .ok (.iload_n 1, 1) := by decide +kernel
theorem dX10_isRace_5 : decode cX10_isRace 5 = .ok (.aload_n 0, 1) := by decide +kernel
theorem dX10_isRace_6 : decode cX10_isRace 6 = .ok (.getfield 223, 3) := by decide +kernel
theorem dX10_isRace_9 : decode cX10_isRace 9 = .ok (.if_icmp .ge 7, 3) := by decide +kernel
theorem dX10_isRace_12 : decode cX10_isRace 12 = .ok (.iconst 1, 1) := by decide +kernel
theorem dX10_isRace_13 : decode cX10_isRace 13 = .ok (.goto 4, 3) := by decide +kernel
theorem dX10_isRace_16 : decode cX10_isRace 16 = .ok (.iconst 0, 1) := by decide +kernel
theorem dX10_isRace_17 : decode cX10_isRace 17 = .ok (.ireturn, 1) := by decide +kernel
theorem dX10_goes_0 : decode cX10_goes 0 = .ok (.aload_n 0, 1) := by decide +kernel
theorem dX10_goes_1 : decode cX10_goes 1 = .ok (.getfield 83, 3) := by decide +kernel
theorem dX10_goes_4 : decode cX10_goes 4 = .ok (.iload_n 1, 1) := by decide +kernel
theorem dX10_goes_5 : decode cX10_goes 5 = .ok (.iaload, 1) := by decide +kernel
theorem dX10_goes_6 : decode cX10_goes 6 = .ok (.istore 4, 2) := by decide +kernel
theorem dX10_goes_8 : decode cX10_goes 8 = .ok (.iconst 2, 1) := by decide +kernel
theorem dX10_goes_9 : decode cX10_goes 9 = .ok (.aload_n 0, 1) := by decide +kernel
theorem dX10_goes_10 : decode cX10_goes 10 = .ok (.getfield 35, 3) := by decide +kernel
theorem dX10_goes_13 : decode cX10_goes 13 = .ok (.iload 4, 2) := by decide +kernel
theorem dX10_goes_15 : decode cX10_goes 15 = .ok (.iaload, 1) := by decide +kernel
theorem dX10_goes_16 : decode cX10_goes 16 = .ok (.imul, 1) := by decide +kernel
theorem dX10_goes_17 : decode cX10_goes 17 = .ok (.istore 5, 2) := by decide +kernel
theorem dX10_goes_19 : decode cX10_goes 19 = .ok (.iconst 0, 1) := by decide +kernel
theorem dX10_goes_20 : decode cX10_goes 20 = .ok (.istore 6, 2) := by decide +kernel
theorem dX10_goes_22 : decode cX10_goes 22 = .ok (.iload 6, 2) := by decide +kernel
theorem dX10_goes_24 : decode cX10_goes 24 = .ok (.iload 5, 2) := by decide +kernel
theorem dX10_goes_26 : decode cX10_goes 26 = .ok (.if_icmp .ge 19, 3) := by decide +kernel
theorem dX10_goes_29 : decode cX10_goes 29 = .ok (.aload_n 0, 1) := by decide +kernel
theorem dX10_goes_30 : decode cX10_goes 30 = .ok (.getfield 119, 3) := by decide +kernel
theorem dX10_goes_33 : decode cX10_goes 33 = .ok (.iload 6, 2) := by decide +kernel
theorem dX10_goes_35 : decode cX10_goes 35 = .ok (.sipush 1000, 3) := by decide +kernel
theorem dX10_goes_38 : decode cX10_goes 38 = .ok (.iastore, 1) := by decide +kernel
theorem dX10_goes_39 : decode cX10_goes 39 = .ok (.iinc 6 1, 3) := by decide +kernel
theorem dX10_goes_42 : decode cX10_goes 42 = .ok (.goto (-20), 3) := by decide +kernel
theorem dX10_goes_45 : decode cX10_goes 45 = .ok (.aload_n 0, 1) := by decide +kernel
theorem dX10_goes_46 : decode cX10_goes 46 = .ok (.iload 4, 2) := by decide +kernel
theorem dX10_goes_48 : decode cX10_goes 48 = .ok (.aload_n 0, 1) := by decide +kernel
theorem dX10_goes_49 : decode cX10_goes 49 = .ok (.getfield 50, 3) := by decide +kernel
theorem dX10_goes_52 : decode cX10_goes 52 = .ok (.bipush 8, 2) := by decide +kernel
theorem dX10_goes_54 : decode cX10_goes 54 = .ok (.iload 4, 2) := by decide +kernel
theorem dX10_goes_56 : decode cX10_goes 56 = .ok (.imul, 1) := by decide +kernel
theorem dX10_goes_57 : decode cX10_goes 57 = .ok (.invokevirtual 154, 3) := by decide +kernel
theorem dX10_goes_60 : decode cX10_goes 60 = .ok (.istore 6, 2) := by decide +kernel
theorem dX10_goes_62 : decode cX10_goes 62 = .ok (.iload 6, 2) := by decide +kernel
theorem dX10_goes_64 : decode cX10_goes 64 = .ok (.ifCond .ge 7, 3) := by decide +kernel
theorem dX10_goes_67 : decode cX10_goes 67 = .ok (.iconst 0, 1) := by decide +kernel
theorem dX10_goes_68 : decode cX10_goes 68 = .ok (.goto 8, 3) := by decide +kernel
theorem dX10_goes_71 : decode cX10_goes 71 = .ok (.iload 6, 2) := by decide +kernel
theorem dX10_goes_73 : decode cX10_goes 73 = .ok (.bipush 10, 2) := by decide +kernel
theorem dX10_goes_75 : decode cX10_goes 75 = .ok (.idiv, 1) := by decide +kernel
theorem dX10_goes_76 : decode cX10_goes 76 = .ok (.istore 7, 2) := by decide +kernel
theorem dX10_goes_78 : decode cX10_goes 78 = .ok (.bipush 10, 2) := by decide +kernel
theorem dX10_goes_80 : decode cX10_goes 80 = .ok (.iload_n 3, 1) := by decide +kernel
theorem dX10_goes_81 : decode cX10_goes 81 = .ok (.imul, 1) := by decide +kernel
theorem dX10_goes_82 : decode cX10_goes 82 = .ok (.istore 8, 2) := by decide +kernel
theorem dX10_goes_84 : decode cX10_goes 84 = .ok (.iconst 0, 1) := by decide +kernel
theorem dX10_goes_85 : decode cX10_goes 85 = .ok (.istore 9, 2) := by decide +kernel
theorem dX10_goes_87 : decode cX10_goes 87 = .ok (.iconst 1, 1) := by decide +kernel
theorem dX10_goes_88 : decode cX10_goes 88 = .ok (.istore 10, 2) := by decide +kernel
theorem dX10_goes_90 : decode cX10_goes 90 = .ok (.iload 10, 2) := by decide +kernel
theorem dX10_goes_92 : decode cX10_goes 92 = .ok (.sipush 2000, 3) := by decide +kernel
theorem dX10_goes_95 : decode cX10_goes 95 = .ok (.if_icmp .gt 245, 3) := by decide +kernel
theorem dX10_goes_98 : decode cX10_goes 98 = .ok (.iconst 0, 1) := by decide +kernel
theorem dX10_goes_99 : decode cX10_goes 99 = .ok (.istore 11, 2) := by decide +kernel
theorem dX10_goes_101 : decode cX10_goes 101 = .ok (.iconst 0, 1) := by decide +kernel
theorem dX10_goes_102 : decode cX10_goes 102 = .ok (.istore 12, 2) := by decide +kernel
theorem dX10_goes_104 : decode cX10_goes 104 = .ok (.iload 12, 2) := by decide +kernel
theorem dX10_goes_106 : decode cX10_goes 106 = .ok (.iload 5, 2) := by decide +kernel
theorem dX10_goes_108 : decode cX10_goes 108 = .ok (.if_icmp .ge 44, 3) := by decide +kernel
theorem dX10_goes_111 : decode cX10_goes 111 = .ok (.iload 11, 2) := by decide +kernel
theorem dX10_goes_113 : decode cX10_goes 113 = .ok (.aload_n 0, 1) := by decide +kernel
theorem dX10_goes_114 : decode cX10_goes 114 = .ok (.getfield 19, 3) := by decide +kernel
theorem dX10_goes_117 : decode cX10_goes 117 = .ok (.aload_n 0, 1) := by decide +kernel
theorem dX10_goes_118 : decode cX10_goes 118 = .ok (.getfield 50, 3) := by decide +kernel
theorem dX10_goes_121 : decode cX10_goes 121 = .ok (.bipush 8, 2) := by decide +kernel
theorem dX10_goes_123 : decode cX10_goes 123 = .ok (.iload 4, 2) := by decide +kernel
theorem dX10_goes_125 : decode cX10_goes 125 = .ok (.imul, 1) := by decide +kernel
theorem dX10_goes_126 : decode cX10_goes 126 = .ok (.iload 12, 2) := by decide +kernel
theorem dX10_goes_128 : decode cX10_goes 128 = .ok (.iadd, 1) := by decide +kernel
theorem dX10_goes_129 : decode cX10_goes 129 = .ok (.iaload, 1) := by decide +kernel
theorem dX10_goes_130 : decode cX10_goes 130 = .ok (.iaload, 1) := by decide +kernel
theorem dX10_goes_131 : decode cX10_goes 131 = .ok (.aload_n 0, 1) := by decide +kernel
theorem dX10_goes_132 : decode cX10_goes 132 = .ok (.getfield 119, 3) := by decide +kernel
theorem dX10_goes_135 : decode cX10_goes 135 = .ok (.iload 12, 2) := by decide +kernel
theorem dX10_goes_137 : decode cX10_goes 137 = .ok (.iaload, 1) := by decide +kernel
theorem dX10_goes_138 : decode cX10_goes 138 = .ok (.imul, 1) := by decide +kernel
theorem dX10_goes_139 : decode cX10_goes 139 = .ok (.sipush 1000, 3) := by decide +kernel
theorem dX10_goes_142 : decode cX10_goes 142 = .ok (.idiv, 1) := by decide +kernel
theorem dX10_goes_143 : decode cX10_goes 143 = .ok (.iadd, 1) := by decide +kernel
theorem dX10_goes_144 : decode cX10_goes 144 = .ok (.istore 11, 2) := by decide +kernel
theorem dX10_goes_146 : decode cX10_goes 146 = .ok (.iinc 12 1, 3) := by decide +kernel
theorem dX10_goes_149 : decode cX10_goes 149 = .ok (.goto (-45), 3) := by decide +kernel
theorem dX10_goes_152 : decode cX10_goes 152 = .ok (.iload 11, 2) := by decide +kernel
theorem dX10_goes_154 : decode cX10_goes 154 = .ok (.aload_n 0, 1) := by decide +kernel
theorem dX10_goes_155 : decode cX10_goes 155 = .ok (.getfield 44, 3) := by decide +kernel
theorem dX10_goes_158 : decode cX10_goes 158 = .ok (.iload 4, 2) := by decide +kernel
theorem dX10_goes_160 : decode cX10_goes 160 = .ok (.iaload, 1) := by decide +kernel
theorem dX10_goes_161 : decode cX10_goes 161 = .ok (.imul, 1) := by decide +kernel
theorem dX10_goes_162 : decode cX10_goes 162 = .ok (.istore 11, 2) := by decide +kernel
theorem dX10_goes_164 : decode cX10_goes 164 = .ok (.iload 11, 2) := by decide +kernel
theorem dX10_goes_166 : decode cX10_goes 166 = .ok (.iload 7, 2) := by decide +kernel
theorem dX10_goes_168 : decode cX10_goes 168 = .ok (.isub, 1) := by decide +kernel
theorem dX10_goes_169 : decode cX10_goes 169 = .ok (.iconst 1, 1) := by decide +kernel
theorem dX10_goes_170 : decode cX10_goes 170 = .ok (.if_icmp .ge 7, 3) := by decide +kernel
theorem dX10_goes_173 : decode cX10_goes 173 = .ok (.iconst 1, 1) := by decide +kernel
theorem dX10_goes_174 : decode cX10_goes 174 = .ok (.goto 8, 3) := by decide +kernel
theorem dX10_goes_177 : decode cX10_goes 177 = .ok (.iload 11, 2) := by decide +kernel
theorem dX10_goes_179 : decode cX10_goes 179 = .ok (.iload 7, 2) := by decide +kernel
theorem dX10_goes_181 : decode cX10_goes 181 = .ok (.isub, 1) := by decide +kernel
theorem dX10_goes_182 : decode cX10_goes 182 = .ok (.aload_n 0, 1) := by decide +kernel
theorem dX10_goes_183 : decode cX10_goes 183 = .ok (.getfield 101, 3) := by decide +kernel
theorem dX10_goes_186 : decode cX10_goes 186 = .ok (.iload_n 2, 1) := by decide +kernel
theorem dX10_goes_187 : decode cX10_goes 187 = .ok (.iaload, 1) := by decide +kernel
theorem dX10_goes_188 : decode cX10_goes 188 = .ok (.iadd, 1) := by decide +kernel
theorem dX10_goes_189 : decode cX10_goes 189 = .ok (.istore 12, 2) := by decide +kernel
theorem dX10_goes_191 : decode cX10_goes 191 = .ok (.iload 12, 2) := by decide +kernel
theorem dX10_goes_193 : decode cX10_goes 193 = .ok (.iconst 1, 1) := by decide +kernel
theorem dX10_goes_194 : decode cX10_goes 194 = .ok (.if_icmp .ge 6, 3) := by decide +kernel
theorem dX10_goes_197 : decode cX10_goes 197 = .ok (.iconst 1, 1) := by decide +kernel
theorem dX10_goes_198 : decode cX10_goes 198 = .ok (.istore 12, 2) := by decide +kernel
theorem dX10_goes_200 : decode cX10_goes 200 = .ok (.iconst 0, 1) := by decide +kernel
theorem dX10_goes_201 : decode cX10_goes 201 = .ok (.istore 13, 2) := by decide +kernel
theorem dX10_goes_203 : decode cX10_goes 203 = .ok (.iload 13, 2) := by decide +kernel
theorem dX10_goes_205 : decode cX10_goes 205 = .ok (.iload 5, 2) := by decide +kernel
theorem dX10_goes_207 : decode cX10_goes 207 = .ok (.if_icmp .ge 74, 3) := by decide +kernel
theorem dX10_goes_210 : decode cX10_goes 210 = .ok (.aload_n 0, 1) := by decide +kernel
theorem dX10_goes_211 : decode cX10_goes 211 = .ok (.getfield 119, 3) := by decide +kernel
theorem dX10_goes_214 : decode cX10_goes 214 = .ok (.iload 13, 2) := by decide +kernel
theorem dX10_goes_216 : decode cX10_goes 216 = .ok (.aload_n 0, 1) := by decide +kernel
theorem dX10_goes_217 : decode cX10_goes 217 = .ok (.getfield 119, 3) := by decide +kernel
theorem dX10_goes_220 : decode cX10_goes 220 = .ok (.iload 13, 2) := by decide +kernel
theorem dX10_goes_222 : decode cX10_goes 222 = .ok (.iaload, 1) := by decide +kernel
theorem dX10_goes_223 : decode cX10_goes 223 = .ok (.aload_n 0, 1) := by decide +kernel
theorem dX10_goes_224 : decode cX10_goes 224 = .ok (.getfield 44, 3) := by decide +kernel
theorem dX10_goes_227 : decode cX10_goes 227 = .ok (.iload 4, 2) := by decide +kernel
theorem dX10_goes_229 : decode cX10_goes 229 = .ok (.iaload, 1) := by decide +kernel
theorem dX10_goes_230 : decode cX10_goes 230 = .ok (.aload_n 0, 1) := by decide +kernel
theorem dX10_goes_231 : decode cX10_goes 231 = .ok (.getfield 44, 3) := by decide +kernel
theorem dX10_goes_234 : decode cX10_goes 234 = .ok (.iload 4, 2) := by decide +kernel
theorem dX10_goes_236 : decode cX10_goes 236 = .ok (.iaload, 1) := by decide +kernel
theorem dX10_goes_237 : decode cX10_goes 237 = .ok (.imul, 1) := by decide +kernel
theorem dX10_goes_238 : decode cX10_goes 238 = .ok (.isub, 1) := by decide +kernel
theorem dX10_goes_239 : decode cX10_goes 239 = .ok (.sipush 200, 3) := by decide +kernel
theorem dX10_goes_242 : decode cX10_goes 242 = .ok (.if_icmp .ge 9, 3) := by decide +kernel
theorem dX10_goes_245 : decode cX10_goes 245 = .ok (.sipush 200, 3) := by decide +kernel
theorem dX10_goes_248 : decode cX10_goes 248 = .ok (.goto 26, 3) := by decide +kernel
theorem dX10_goes_251 : decode cX10_goes 251 = .ok (.aload_n 0, 1) := by decide +kernel
theorem dX10_goes_252 : decode cX10_goes 252 = .ok (.getfield 119, 3) := by decide +kernel
theorem dX10_goes_255 : decode cX10_goes 255 = .ok (.iload 13, 2) := by decide +kernel
theorem dX10_goes_257 : decode cX10_goes 257 = .ok (.iaload, 1) := by decide +kernel
theorem dX10_goes_258 : decode cX10_goes 258 = .ok (.aload_n 0, 1) := by decide +kernel
theorem dX10_goes_259 : decode cX10_goes 259 = .ok (.getfield 44, 3) := by decide +kernel
theorem dX10_goes_262 : decode cX10_goes 262 = .ok (.iload 4, 2) := by decide +kernel
theorem dX10_goes_264 : decode cX10_goes 264 = .ok (.iaload, 1) := by decide +kernel
theorem dX10_goes_265 : decode cX10_goes 265 = .ok (.aload_n 0, 1) := by decide +kernel
theorem dX10_goes_266 : decode cX10_goes 266 = .ok (.getfield 44, 3) := by decide +kernel
theorem dX10_goes_269 : decode cX10_goes 269 = .ok (.iload 4, 2) := by decide +kernel
theorem dX10_goes_271 : decode cX10_goes 271 = .ok (.iaload, 1) := by decide +kernel
theorem dX10_goes_272 : decode cX10_goes 272 = .ok (.imul, 1) := by decide +kernel
theorem dX10_goes_273 : decode cX10_goes 273 = .ok (.isub, 1) := by decide +kernel
theorem dX10_goes_274 : decode cX10_goes 274 = .ok (.iastore, 1) := by decide +kernel
theorem dX10_goes_275 : decode cX10_goes 275 = .ok (.iinc 13 1, 3) := by decide +kernel
theorem dX10_goes_278 : decode cX10_goes 278 = .ok (.goto (-75), 3) := by decide +kernel
theorem dX10_goes_281 : decode cX10_goes 281 = .ok (.iload 8, 2) := by decide +kernel
theorem dX10_goes_283 : decode cX10_goes 283 = .ok (.iload 9, 2) := by decide +kernel
theorem dX10_goes_285 : decode cX10_goes 285 = .ok (.isub, 1) := by decide +kernel
theorem dX10_goes_286 : decode cX10_goes 286 = .ok (.istore 13, 2) := by decide +kernel
theorem dX10_goes_288 : decode cX10_goes 288 = .ok (.iload 9, 2) := by decide +kernel
theorem dX10_goes_290 : decode cX10_goes 290 = .ok (.iload 12, 2) := by decide +kernel
theorem dX10_goes_292 : decode cX10_goes 292 = .ok (.iadd, 1) := by decide +kernel
theorem dX10_goes_293 : decode cX10_goes 293 = .ok (.istore 9, 2) := by decide +kernel
theorem dX10_goes_295 : decode cX10_goes 295 = .ok (.aload_n 0, 1) := by decide +kernel
theorem dX10_goes_296 : decode cX10_goes 296 = .ok (.getfield 89, 3) := by decide +kernel
theorem dX10_goes_299 : decode cX10_goes 299 = .ok (.iload_n 1, 1) := by decide +kernel
theorem dX10_goes_300 : decode cX10_goes 300 = .ok (.iload 9, 2) := by decide +kernel
theorem dX10_goes_302 : decode cX10_goes 302 = .ok (.iastore, 1) := by decide +kernel
theorem dX10_goes_303 : decode cX10_goes 303 = .ok (.iload 9, 2) := by decide +kernel
theorem dX10_goes_305 : decode cX10_goes 305 = .ok (.iload 8, 2) := by decide +kernel
theorem dX10_goes_307 : decode cX10_goes 307 = .ok (.if_icmp .lt 27, 3) := by decide +kernel
theorem dX10_goes_310 : decode cX10_goes 310 = .ok (.aload_n 0, 1) := by decide +kernel
theorem dX10_goes_311 : decode cX10_goes 311 = .ok (.getfield 86, 3) := by decide +kernel
theorem dX10_goes_314 : decode cX10_goes 314 = .ok (.iload_n 1, 1) := by decide +kernel
theorem dX10_goes_315 : decode cX10_goes 315 = .ok (.bipush 100, 2) := by decide +kernel
theorem dX10_goes_317 : decode cX10_goes 317 = .ok (.iload 10, 2) := by decide +kernel
theorem dX10_goes_319 : decode cX10_goes 319 = .ok (.iconst 1, 1) := by decide +kernel
theorem dX10_goes_320 : decode cX10_goes 320 = .ok (.isub, 1) := by decide +kernel
theorem dX10_goes_321 : decode cX10_goes 321 = .ok (.imul, 1) := by decide +kernel
theorem dX10_goes_322 : decode cX10_goes 322 = .ok (.iload 13, 2) := by decide +kernel
theorem dX10_goes_324 : decode cX10_goes 324 = .ok (.bipush 100, 2) := by decide +kernel
theorem dX10_goes_326 : decode cX10_goes 326 = .ok (.imul, 1) := by decide +kernel
theorem dX10_goes_327 : decode cX10_goes 327 = .ok (.iload 12, 2) := by decide +kernel
theorem dX10_goes_329 : decode cX10_goes 329 = .ok (.idiv, 1) := by decide +kernel
theorem dX10_goes_330 : decode cX10_goes 330 = .ok (.iadd, 1) := by decide +kernel
theorem dX10_goes_331 : decode cX10_goes 331 = .ok (.iastore, 1) := by decide +kernel
theorem dX10_goes_332 : decode cX10_goes 332 = .ok (.iconst 1, 1) := by decide +kernel
theorem dX10_goes_333 : decode cX10_goes 333 = .ok (.ireturn, 1) := by decide +kernel
theorem dX10_goes_334 : decode cX10_goes 334 = .ok (.iinc 10 1, 3) := by decide +kernel
theorem dX10_goes_337 : decode cX10_goes 337 = .ok (.goto (-247), 3) := by decide +kernel
theorem dX10_goes_340 : decode cX10_goes 340 = .ok (.iconst 0, 1) := by decide +kernel
theorem dX10_goes_341 : decode cX10_goes 341 = .ok (.ireturn, 1) := by decide +kernel
theorem dX10_run_0 : decode cX10_run 0 = .ok (.aload_n 0, 1) := by decide +kernel
theorem dX10_run_1 : decode cX10_run 1 = .ok (.iload_n 1, 1) := by decide +kernel
theorem dX10_run_2 : decode cX10_run 2 = .ok (.invokevirtual 226, 3) := by decide +kernel
theorem dX10_run_5 : decode cX10_run 5 = .ok (.ifCond .ne 5, 3) := by decide +kernel
theorem dX10_run_8 : decode cX10_run 8 = .ok (.iconst (-1), 1) := by decide +kernel
theorem dX10_run_9 : decode cX10_run 9 = .ok (.ireturn, 1) := by decide +kernel
theorem dX10_run_10 : decode cX10_run 10 = .ok (.iload_n 2, 1) := by decide +kernel
theorem dX10_run_11 : decode cX10_run 11 = .ok (.bipush 100, 2) := by decide +kernel
theorem dX10_run_13 : decode cX10_run 13 = .ok (.if_icmp .lt 10, 3) := by decide +kernel
theorem dX10_run_16 : decode cX10_run 16 = .ok (.iload_n 2, 1) := by decide +kernel
theorem dX10_run_17 : decode cX10_run 17 = .ok (.sipush 2000, 3) := by decide +kernel
theorem dX10_run_20 : decode cX10_run 20 = .ok (.if_icmp .le 6, 3) := by decide +kernel
theorem dX10_run_23 : decode cX10_run 23 = .ok (.bipush (-2), 2) := by decide +kernel
theorem dX10_run_25 : decode cX10_run 25 = .ok (.ireturn, 1) := by decide +kernel
theorem dX10_run_26 : decode cX10_run 26 = .ok (.iconst 0, 1) := by decide +kernel
theorem dX10_run_27 : decode cX10_run 27 = .ok (.istore_n 3, 1) := by decide +kernel
theorem dX10_run_28 : decode cX10_run 28 = .ok (.iload_n 3, 1) := by decide +kernel
theorem dX10_run_29 : decode cX10_run 29 = .ok (.iconst 4, 1) := by decide +kernel
theorem dX10_run_30 : decode cX10_run 30 = .ok (.if_icmp .ge 25, 3) := by decide +kernel
theorem dX10_run_33 : decode cX10_run 33 = .ok (.aload_n 0, 1) := by decide +kernel
theorem dX10_run_34 : decode cX10_run 34 = .ok (.getfield 86, 3) := by decide +kernel
theorem dX10_run_37 : decode cX10_run 37 = .ok (.iconst 4, 1) := by decide +kernel
