theorem dX7_readInto_0 : decode cX7_readInto 0 = .ok (.aload_n 0, 1) := by decide +kernel
theorem dX7_readInto_1 : decode cX7_readInto 1 = .ok (.iconst 0, 1) := by decide +kernel
theorem dX7_readInto_2 : decode cX7_readInto 2 = .ok (.putfield 15, 3) := by decide +kernel
theorem dX7_readInto_5 : decode cX7_readInto 5 = .ok (.aload_n 1, 1) := by decide +kernel
theorem dX7_readInto_6 : decode cX7_readInto 6 = .ok (.iconst 0, 1) := by decide +kernel
theorem dX7_readInto_7 : decode cX7_readInto 7 = .ok (.putfield 24, 3) := by decide +kernel
theorem dX7_readInto_10 : decode cX7_readInto 10 = .ok (.aload_n 1, 1) := by decide +kernel
theorem dX7_readInto_11 : decode cX7_readInto 11 = .ok (.getfield 29, 3) := by decide +kernel
theorem dX7_readInto_14 : decode cX7_readInto 14 = .ok (.iconst 0, 1) := by decide +kernel
theorem dX7_readInto_15 : decode cX7_readInto 15 = .ok (.iconst 0, 1) := by decide +kernel
theorem dX7_readInto_16 : decode cX7_readInto 16 = .ok (.bastore, 1) := by decide +kernel
theorem dX7_readInto_17 : decode cX7_readInto 17 = .ok (.iconst 0, 1) := by decide +kernel
theorem dX7_readInto_18 : decode cX7_readInto 18 = .ok (.istore_n 2, 1) := by decide +kernel
theorem dX7_readInto_19 : decode cX7_readInto 19 = .ok (.iload_n 2, 1) := by decide +kernel
theorem dX7_readInto_20 : decode cX7_readInto 20 = .ok (.bipush 8, 2) := by decide +kernel
theorem dX7_readInto_22 : decode cX7_readInto 22 = .ok (.if_icmp .ge 61, 3) := by decide +kernel
theorem dX7_readInto_25 : decode cX7_readInto 25 = .ok (.aload_n 0, 1) := by decide +kernel
theorem dX7_readInto_26 : decode cX7_readInto 26 = .ok (.aload_n 1, 1) := by decide +kernel
theorem dX7_readInto_27 : decode cX7_readInto 27 = .ok (.iload_n 2, 1) := by decide +kernel
theorem dX7_readInto_28 : decode cX7_readInto 28 = .ok (.invokevirtual 33, 3) := by decide +kernel
theorem dX7_readInto_31 : decode cX7_readInto 31 = .ok (.ifCond .ne 5, 3) := by decide +kernel
theorem dX7_readInto_34 : decode cX7_readInto 34 = .ok (.iconst 0, 1) := by decide +kernel
theorem dX7_readInto_35 : decode cX7_readInto 35 = .ok (.ireturn, 1) := by decide +kernel
theorem dX7_readTest_0 : decode cX7_readTest 0 = .ok (.aload_n 0, 1) := by decide +kernel
theorem dX7_readTest_1 : decode cX7_readTest 1 = .ok (.iconst 0, 1) := by decide +kernel
theorem dX7_readTest_2 : decode cX7_readTest 2 = .ok (.bipush 6, 2) := by decide +kernel
theorem dX7_readTest_4 : decode cX7_readTest 4 = .ok (.invokevirtual 44, 3) := by decide +kernel
theorem dX7_readTest_7 : decode cX7_readTest 7 = .ok (.istore_n 3, 1) := by decide +kernel
theorem dX7_readTest_8 : decode cX7_readTest 8 = .ok (.aload_n 1, 1) := by decide +kernel
theorem dX7_readTest_9 : decode cX7_readTest 9 = .ok (.getfield 48, 3) := by decide +kernel
theorem dX7_readTest_12 : decode cX7_readTest 12 = .ok (.iload_n 2, 1) := by decide +kernel
theorem dX7_readTest_13 : decode cX7_readTest 13 = .ok (.iload_n 3, 1) := by decide +kernel
theorem dX7_readTest_14 : decode cX7_readTest 14 = .ok (.bipush 6, 2) := by decide +kernel
theorem dX7_readTest_16 : decode cX7_readTest 16 = .ok (.if_icmp .ne 7, 3) := by decide +kernel
theorem dX7_readTest_23 : decode cX7_readTest 23 = .ok (.iconst 0, 1) := by decide +kernel
theorem dX7_readTest_24 : decode cX7_readTest 24 = .ok (.bastore, 1) := by decide +kernel
theorem dX7_readTest_25 : decode cX7_readTest 25 = .ok (.iload_n 3, 1) := by decide +kernel
theorem dX7_readTest_26 : decode cX7_readTest 26 = .ok (.bipush 6, 2) := by decide +kernel
theorem dX7_readTest_28 : decode cX7_readTest 28 = .ok (.if_icmp .ne 21, 3) := by decide +kernel
theorem dX7_readTest_49 : decode cX7_readTest 49 = .ok (.iload_n 3, 1) := by decide +kernel
theorem dX7_readTest_50 : decode cX7_readTest 50 = .ok (.iconst (-1), 1) := by decide +kernel
theorem dX7_readTest_51 : decode cX7_readTest 51 = .ok (.if_icmp .ne 5, 3) := by decide +kernel
theorem dX7_readTest_54 : decode cX7_readTest 54 = .ok (.iconst 0, 1) := by decide +kernel
theorem dX7_readTest_55 : decode cX7_readTest 55 = .ok (.ireturn, 1) := by decide +kernel
theorem dX7_peek_0 : decode cX7_peek 0 = .ok (.aload_n 0, 1) := by decide +kernel
theorem dX7_peek_1 : decode cX7_peek 1 = .ok (.getfield 15, 3) := by decide +kernel
theorem dX7_peek_4 : decode cX7_peek 4 = .ok (.aload_n 0, 1) := by decide +kernel
theorem dX7_peek_5 : decode cX7_peek 5 = .ok (.getfield 9, 3) := by decide +kernel
theorem dX7_peek_8 : decode cX7_peek 8 = .ok (.if_icmp .ge 15, 3) := by decide +kernel
theorem dX7_peek_23 : decode cX7_peek 23 = .ok (.iconst (-1), 1) := by decide +kernel
theorem dX7_peek_24 : decode cX7_peek 24 = .ok (.ireturn, 1) := by decide +kernel
theorem dX7_readWord_0 : decode cX7_readWord 0 = .ok (.iconst (-1), 1) := by decide +kernel
theorem dX7_readWord_1 : decode cX7_readWord 1 = .ok (.istore_n 3, 1) := by decide +kernel
theorem dX7_readWord_2 : decode cX7_readWord 2 = .ok (.iconst 0, 1) := by decide +kernel
theorem dX7_readWord_3 : decode cX7_readWord 3 = .ok (.istore 4, 2) := by decide +kernel
theorem dX7_readWord_5 : decode cX7_readWord 5 = .ok (.iload 4, 2) := by decide +kernel
theorem dX7_readWord_7 : decode cX7_readWord 7 = .ok (.bipush 6, 2) := by decide +kernel
theorem dX7_readWord_9 : decode cX7_readWord 9 = .ok (.if_icmp .ge 124, 3) := by decide +kernel
theorem dX7_readWord_12 : decode cX7_readWord 12 = .ok (.iconst 0, 1) := by decide +kernel
theorem dX7_readWord_13 : decode cX7_readWord 13 = .ok (.istore 5, 2) := by decide +kernel
theorem dX7_readWord_15 : decode cX7_readWord 15 = .ok (.iload_n 1, 1) := by decide +kernel
theorem dX7_readWord_16 : decode cX7_readWord 16 = .ok (.istore 6, 2) := by decide +kernel
theorem dX7_readWord_18 : decode cX7_readWord 18 = .ok (.iload 6, 2) := by decide +kernel
theorem dX7_readWord_20 : decode cX7_readWord 20 = .ok (.iload_n 2, 1) := by decide +kernel
theorem dX7_readWord_21 : decode cX7_readWord 21 = .ok (.if_icmp .gt 44, 3) := by decide +kernel
theorem dX7_readWord_24 : decode cX7_readWord 24 = .ok (.iload_n 3, 1) := by decide +kernel
theorem dX7_readWord_25 : decode cX7_readWord 25 = .ok (.iload 6, 2) := by decide +kernel
theorem dX7_readWord_27 : decode cX7_readWord 27 = .ok (.iushr, 1) := by decide +kernel
theorem dX7_readWord_28 : decode cX7_readWord 28 = .ok (.iconst 1, 1) := by decide +kernel
theorem dX7_readWord_29 : decode cX7_readWord 29 = .ok (.iand, 1) := by decide +kernel
theorem dX7_readWord_30 : decode cX7_readWord 30 = .ok (.ifCond .eq 29, 3) := by decide +kernel
theorem dX7_readWord_33 : decode cX7_readWord 33 = .ok (.iload 6, 2) := by decide +kernel
theorem dX7_readWord_35 : decode cX7_readWord 35 = .ok (.invokestatic 74, 3) := by decide +kernel
theorem dX7_readWord_38 : decode cX7_readWord 38 = .ok (.iload 4, 2) := by decide +kernel
theorem dX7_readWord_40 : decode cX7_readWord 40 = .ok (.aload_n 0, 1) := by decide +kernel
theorem dX7_readWord_41 : decode cX7_readWord 41 = .ok (.invokevirtual 60, 3) := by decide +kernel
theorem dX7_readWord_44 : decode cX7_readWord 44 = .ok (.invokestatic 78, 3) := by decide +kernel
theorem dX7_readWord_47 : decode cX7_readWord 47 = .ok (.ifCond .eq 12, 3) := by decide +kernel
theorem dX7_readWord_59 : decode cX7_readWord 59 = .ok (.iinc 6 1, 3) := by decide +kernel
theorem dX7_readWord_62 : decode cX7_readWord 62 = .ok (.goto (-44), 3) := by decide +kernel
theorem dX7_readWord_65 : decode cX7_readWord 65 = .ok (.iload 5, 2) := by decide +kernel
theorem dX7_readWord_67 : decode cX7_readWord 67 = .ok (.ifCond .ne 5, 3) := by decide +kernel
theorem dX7_readWord_70 : decode cX7_readWord 70 = .ok (.iconst (-1), 1) := by decide +kernel
theorem dX7_readWord_71 : decode cX7_readWord 71 = .ok (.ireturn, 1) := by decide +kernel
theorem dX7_hasSign_0 : decode cX7_hasSign 0 = .ok (.iload_n 1, 1) := by decide +kernel
theorem dX7_hasSign_1 : decode cX7_hasSign 1 = .ok (.aload_n 0, 1) := by decide +kernel
theorem dX7_hasSign_2 : decode cX7_hasSign 2 = .ok (.invokevirtual 82, 3) := by decide +kernel
theorem dX7_hasSign_5 : decode cX7_hasSign 5 = .ok (.if_icmp .ge 16, 3) := by decide +kernel
theorem dX7_hasSign_8 : decode cX7_hasSign 8 = .ok (.aload_n 0, 1) := by decide +kernel
theorem dX7_hasSign_9 : decode cX7_hasSign 9 = .ok (.iload_n 1, 1) := by decide +kernel
theorem dX7_hasSign_10 : decode cX7_hasSign 10 = .ok (.invokevirtual 87, 3) := by decide +kernel
theorem dX7_hasSign_13 : decode cX7_hasSign 13 = .ok (.iload_n 2, 1) := by decide +kernel
theorem dX7_hasSign_14 : decode cX7_hasSign 14 = .ok (.if_icmp .ne 7, 3) := by decide +kernel
theorem dX7_hasSign_21 : decode cX7_hasSign 21 = .ok (.iconst 0, 1) := by decide +kernel
theorem dX7_hasSign_22 : decode cX7_hasSign 22 = .ok (.ireturn, 1) := by decide +kernel
theorem dX7_wordOf_0 : decode cX7_wordOf 0 = .ok (.iload_n 0, 1) := by decide +kernel
theorem dX7_wordOf_1 : decode cX7_wordOf 1 = .ok (.tableswitch 71 0 7 #[47, 50, 53, 56, 59, 62, 65, 68], 47) := by decide +kernel
theorem dX7_wordOf_48 : decode cX7_wordOf 48 = .ok (.ldc 91, 2) := by decide +kernel
theorem dX7_wordOf_50 : decode cX7_wordOf 50 = .ok (.areturn, 1) := by decide +kernel
theorem dX7_wordOf_51 : decode cX7_wordOf 51 = .ok (.ldc 93, 2) := by decide +kernel
theorem dX7_wordOf_53 : decode cX7_wordOf 53 = .ok (.areturn, 1) := by decide +kernel
theorem dX7_wordOf_54 : decode cX7_wordOf 54 = .ok (.ldc 95, 2) := by decide +kernel
theorem dX7_wordOf_56 : decode cX7_wordOf 56 = .ok (.areturn, 1) := by decide +kernel
theorem dX7_wordOf_57 : decode cX7_wordOf 57 = .ok (.ldc 97, 2) := by decide +kernel
theorem dX7_wordOf_59 : decode cX7_wordOf 59 = .ok (.areturn, 1) := by decide +kernel
theorem dX7_wordOf_60 : decode cX7_wordOf 60 = .ok (.ldc 99, 2) := by decide +kernel
theorem dX7_wordOf_62 : decode cX7_wordOf 62 = .ok (.areturn, 1) := by decide +kernel
theorem dX7_wordOf_63 : decode cX7_wordOf 63 = .ok (.ldc 101, 2) := by decide +kernel
theorem dX7_wordOf_65 : decode cX7_wordOf 65 = .ok (.areturn, 1) := by decide +kernel
theorem dX7_wordOf_66 : decode cX7_wordOf 66 = .ok (.ldc 103, 2) := by decide +kernel
theorem dX7_wordOf_68 : decode cX7_wordOf 68 = .ok (.areturn, 1) := by decide +kernel
theorem dX9_rule_0 : decode cX9_rule 0 = .ok (.aload_n 0, 1) := by decide +kernel
theorem dX9_rule_1 : decode cX9_rule 1 = .ok (.getfield 55, 3) := by decide +kernel
theorem dX9_rule_4 : decode cX9_rule 4 = .ok (.bipush 6, 2) := by decide +kernel
theorem dX9_rule_6 : decode cX9_rule 6 = .ok (.if_icmp .lt 6, 3) := by decide +kernel
theorem dX9_rule_12 : decode cX9_rule 12 = .ok (.aload_n 0, 1) := by decide +kernel
theorem dX9_rule_13 : decode cX9_rule 13 = .ok (.getfield 45, 3) := by decide +kernel
theorem dX9_rule_16 : decode cX9_rule 16 = .ok (.aload_n 0, 1) := by decide +kernel
theorem dX9_rule_17 : decode cX9_rule 17 = .ok (.getfield 51, 3) := by decide +kernel
theorem dX9_rule_20 : decode cX9_rule 20 = .ok (.aload_n 0, 1) := by decide +kernel
theorem dX9_rule_21 : decode cX9_rule 21 = .ok (.getfield 55, 3) := by decide +kernel
theorem dX9_rule_24 : decode cX9_rule 24 = .ok (.aaload, 1) := by decide +kernel
theorem dX9_rule_25 : decode cX9_rule 25 = .ok (.invokevirtual 197, 3) := by decide +kernel
theorem dX9_rule_28 : decode cX9_rule 28 = .ok (.istore_n 1, 1) := by decide +kernel
theorem dX9_rule_29 : decode cX9_rule 29 = .ok (.aload_n 0, 1) := by decide +kernel
theorem dX9_rule_30 : decode cX9_rule 30 = .ok (.getfield 45, 3) := by decide +kernel
theorem dX9_rule_33 : decode cX9_rule 33 = .ok (.iconst 0, 1) := by decide +kernel
theorem dX9_rule_34 : decode cX9_rule 34 = .ok (.putfield 192, 3) := by decide +kernel
theorem dX9_rule_37 : decode cX9_rule 37 = .ok (.iload_n 1, 1) := by decide +kernel
theorem dX9_rule_38 : decode cX9_rule 38 = .ok (.ifCond .ne 14, 3) := by decide +kernel
theorem dX9_rule_41 : decode cX9_rule 41 = .ok (.bipush (-10), 2) := by decide +kernel
theorem dX9_rule_43 : decode cX9_rule 43 = .ok (.aload_n 0, 1) := by decide +kernel
theorem dX9_rule_44 : decode cX9_rule 44 = .ok (.getfield 45, 3) := by decide +kernel
theorem dX9_rule_47 : decode cX9_rule 47 = .ok (.getfield 201, 3) := by decide +kernel
theorem dX9_rule_50 : decode cX9_rule 50 = .ok (.isub, 1) := by decide +kernel
theorem dX9_rule_51 : decode cX9_rule 51 = .ok (.ireturn, 1) := by decide +kernel
theorem dX10_now_0 : decode cX10_now 0 = .ok (.aload_n 0, 1) := by decide +kernel
theorem dX10_now_1 : decode cX10_now 1 = .ok (.getfield 164, 3) := by decide +kernel
theorem dX10_now_4 : decode cX10_now 4 = .ok (.aload_n 0, 1) := by decide +kernel
theorem dX10_now_5 : decode cX10_now 5 = .ok (.getfield 159, 3) := by decide +kernel
theorem dX10_now_8 : decode cX10_now 8 = .ok (.if_icmp .ge 15, 3) := by decide +kernel
theorem dX10_now_23 : decode cX10_now 23 = .ok (.iconst (-1), 1) := by decide +kernel
theorem dX10_now_24 : decode cX10_now 24 = .ok (.ireturn, 1) := by decide +kernel
theorem dX10_expect_0 : decode cX10_expect 0 = .ok (.iconst 0, 1) := by decide +kernel
theorem dX10_expect_1 : decode cX10_expect 1 = .ok (.istore_n 2, 1) := by decide +kernel
theorem dX10_expect_2 : decode cX10_expect 2 = .ok (.iload_n 2, 1) := by decide +kernel
theorem dX10_expect_3 : decode cX10_expect 3 = .ok (.aload_n 1, 1) := by decide +kernel
theorem dX10_expect_4 : decode cX10_expect 4 = .ok (.invokevirtual 167, 3) := by decide +kernel
theorem dX10_expect_7 : decode cX10_expect 7 = .ok (.if_icmp .ge 50, 3) := by decide +kernel
theorem dX10_expect_10 : decode cX10_expect 10 = .ok (.aload_n 0, 1) := by decide +kernel
theorem dX10_expect_11 : decode cX10_expect 11 = .ok (.getfield 173, 3) := by decide +kernel
theorem dX10_expect_14 : decode cX10_expect 14 = .ok (.iconst (-1), 1) := by decide +kernel
theorem dX10_expect_15 : decode cX10_expect 15 = .ok (.if_icmp .ne 42, 3) := by decide +kernel
theorem dX10_expect_18 : decode cX10_expect 18 = .ok (.aload_n 0, 1) := by decide +kernel
theorem dX10_expect_19 : decode cX10_expect 19 = .ok (.invokevirtual 176, 3) := by decide +kernel
theorem dX10_expect_22 : decode cX10_expect 22 = .ok (.aload_n 1, 1) := by decide +kernel
theorem dX10_expect_23 : decode cX10_expect 23 = .ok (.iload_n 2, 1) := by decide +kernel
theorem dX10_expect_24 : decode cX10_expect 24 = .ok (.invokevirtual 179, 3) := by decide +kernel
theorem dX10_expect_27 : decode cX10_expect 27 = .ok (.if_icmp .ne 16, 3) := by decide +kernel
theorem dX10_expect_43 : decode cX10_expect 43 = .ok (.aload_n 0, 1) := by decide +kernel
theorem dX10_expect_44 : decode cX10_expect 44 = .ok (.aload_n 0, 1) := by decide +kernel
theorem dX10_expect_45 : decode cX10_expect 45 = .ok (.getfield 164, 3) := by decide +kernel
theorem dX10_expect_48 : decode cX10_expect 48 = .ok (.putfield 173, 3) := by decide +kernel
theorem dX10_expect_51 : decode cX10_expect 51 = .ok (.iinc 2 1, 3) := by decide +kernel
theorem dX10_expect_54 : decode cX10_expect 54 = .ok (.goto (-52), 3) := by decide +kernel
theorem dX10_expect_57 : decode cX10_expect 57 = .ok (.return_, 1) := by decide +kernel
theorem dX10_test_0 : decode cX10_test 0 = .ok (.aload_n 0, 1) := by decide +kernel
theorem dX10_test_1 : decode cX10_test 1 = .ok (.getfield 71, 3) := by decide +kernel
theorem dX10_test_4 : decode cX10_test 4 = .ok (.iload_n 1, 1) := by decide +kernel
theorem dX10_test_5 : decode cX10_test 5 = .ok (.aload_n 0, 1) := by decide +kernel
theorem dX10_test_6 : decode cX10_test 6 = .ok (.invokevirtual 176, 3) := by decide +kernel
theorem dX10_test_9 : decode cX10_test 9 = .ok (.bipush 110, 2) := by decide +kernel
theorem dX10_test_11 : decode cX10_test 11 = .ok (.if_icmp .ne 7, 3) := by decide +kernel
theorem dX10_test_18 : decode cX10_test 18 = .ok (.iconst 0, 1) := by decide +kernel
theorem dX10_test_19 : decode cX10_test 19 = .ok (.bastore, 1) := by decide +kernel
theorem dX10_test_20 : decode cX10_test 20 = .ok (.aload_n 0, 1) := by decide +kernel
theorem dX10_test_21 : decode cX10_test 21 = .ok (.getfield 71, 3) := by decide +kernel
theorem dX10_test_24 : decode cX10_test 24 = .ok (.iload_n 1, 1) := by decide +kernel
theorem dX10_test_25 : decode cX10_test 25 = .ok (.baload, 1) := by decide +kernel
theorem dX10_test_26 : decode cX10_test 26 = .ok (.ifCond .eq 9, 3) := by decide +kernel
theorem dX10_test_35 : decode cX10_test 35 = .ok (.aload_n 0, 1) := by decide +kernel
theorem dX10_test_36 : decode cX10_test 36 = .ok (.getfield 173, 3) := by decide +kernel
theorem dX10_test_39 : decode cX10_test 39 = .ok (.iconst (-1), 1) := by decide +kernel
theorem dX10_test_40 : decode cX10_test 40 = .ok (.if_icmp .eq 4, 3) := by decide +kernel
theorem dX10_test_44 : decode cX10_test 44 = .ok (.aload_n 0, 1) := by decide +kernel
theorem dX10_test_45 : decode cX10_test 45 = .ok (.invokevirtual 176, 3) := by decide +kernel
theorem dX10_test_48 : decode cX10_test 48 = .ok (.istore_n 2, 1) := by decide +kernel
theorem dX10_test_49 : decode cX10_test 49 = .ok (.aload_n 0, 1) := by decide +kernel
theorem dX10_test_50 : decode cX10_test 50 = .ok (.getfield 164, 3) := by decide +kernel
theorem dX10_test_53 : decode cX10_test 53 = .ok (.iconst 1, 1) := by decide +kernel
theorem dX10_test_54 : decode cX10_test 54 = .ok (.iadd, 1) := by decide +kernel
theorem dX10_test_55 : decode cX10_test 55 = .ok (.aload_n 0, 1) := by decide +kernel
theorem dX10_test_56 : decode cX10_test 56 = .ok (.getfield 159, 3) := by decide +kernel
theorem dX10_test_59 : decode cX10_test 59 = .ok (.if_icmp .ge 17, 3) := by decide +kernel
theorem dX10_test_76 : decode cX10_test 76 = .ok (.iconst (-1), 1) := by decide +kernel
theorem dX10_test_77 : decode cX10_test 77 = .ok (.istore_n 3, 1) := by decide +kernel
theorem dX10_test_78 : decode cX10_test 78 = .ok (.iload_n 2, 1) := by decide +kernel
theorem dX10_test_79 : decode cX10_test 79 = .ok (.bipush 119, 2) := by decide +kernel
theorem dX10_test_81 : decode cX10_test 81 = .ok (.if_icmp .ne 43, 3) := by decide +kernel
theorem dX10_test_124 : decode cX10_test 124 = .ok (.aload_n 0, 1) := by decide +kernel
theorem dX10_test_125 : decode cX10_test 125 = .ok (.getfield 62, 3) := by decide +kernel
theorem dX10_test_128 : decode cX10_test 128 = .ok (.iload_n 1, 1) := by decide +kernel
theorem dX10_test_129 : decode cX10_test 129 = .ok (.iload_n 2, 1) := by decide +kernel
theorem dX10_test_130 : decode cX10_test 130 = .ok (.bipush 109, 2) := by decide +kernel
theorem dX10_test_132 : decode cX10_test 132 = .ok (.if_icmp .ne 7, 3) := by decide +kernel
theorem dX10_test_139 : decode cX10_test 139 = .ok (.iload_n 2, 1) := by decide +kernel
theorem dX10_test_140 : decode cX10_test 140 = .ok (.bipush 111, 2) := by decide +kernel
theorem dX10_test_142 : decode cX10_test 142 = .ok (.if_icmp .ne 7, 3) := by decide +kernel
theorem dX10_test_149 : decode cX10_test 149 = .ok (.iload_n 2, 1) := by decide +kernel
theorem dX10_test_150 : decode cX10_test 150 = .ok (.bipush 121, 2) := by decide +kernel
theorem dX10_test_152 : decode cX10_test 152 = .ok (.if_icmp .ne 7, 3) := by decide +kernel
theorem dX10_test_159 : decode cX10_test 159 = .ok (.iconst 5, 1) := by decide +kernel
theorem dX10_test_160 : decode cX10_test 160 = .ok (.iastore, 1) := by decide +kernel
theorem dX10_test_161 : decode cX10_test 161 = .ok (.aload_n 0, 1) := by decide +kernel
theorem dX10_test_162 : decode cX10_test 162 = .ok (.getfield 62, 3) := by decide +kernel
theorem dX10_test_165 : decode cX10_test 165 = .ok (.iload_n 1, 1) := by decide +kernel
theorem dX10_test_166 : decode cX10_test 166 = .ok (.iaload, 1) := by decide +kernel
theorem dX10_test_167 : decode cX10_test 167 = .ok (.istore 4, 2) := by decide +kernel
theorem dX10_test_169 : decode cX10_test 169 = .ok (.aload_n 0, 1) := by decide +kernel
theorem dX10_test_170 : decode cX10_test 170 = .ok (.iload 4, 2) := by decide +kernel
theorem dX10_test_172 : decode cX10_test 172 = .ok (.ifCond .ne 8, 3) := by decide +kernel
theorem dX10_test_180 : decode cX10_test 180 = .ok (.iload 4, 2) := by decide +kernel
theorem dX10_test_182 : decode cX10_test 182 = .ok (.iconst 1, 1) := by decide +kernel
theorem dX10_test_183 : decode cX10_test 183 = .ok (.if_icmp .ne 8, 3) := by decide +kernel
theorem dX10_test_191 : decode cX10_test 191 = .ok (.iload 4, 2) := by decide +kernel
theorem dX10_test_193 : decode cX10_test 193 = .ok (.iconst 2, 1) := by decide +kernel
theorem dX10_test_194 : decode cX10_test 194 = .ok (.if_icmp .ne 8, 3) := by decide +kernel
theorem dX10_test_202 : decode cX10_test 202 = .ok (.iload 4, 2) := by decide +kernel
theorem dX10_test_204 : decode cX10_test 204 = .ok (.iconst 3, 1) := by decide +kernel
theorem dX10_test_205 : decode cX10_test 205 = .ok (.if_icmp .ne 8, 3) := by decide +kernel
theorem dX10_test_213 : decode cX10_test 213 = .ok (.iload 4, 2) := by decide +kernel
theorem dX10_test_215 : decode cX10_test 215 = .ok (.iconst 4, 1) := by decide +kernel
theorem dX10_test_216 : decode cX10_test 216 = .ok (.if_icmp .ne 8, 3) := by decide +kernel
theorem dX10_test_224 : decode cX10_test 224 = .ok (.ldc 198, 2) := by decide +kernel
theorem dX10_test_226 : decode cX10_test 226 = .ok (.invokevirtual 185, 3) := by decide +kernel
theorem dX10_test_229 : decode cX10_test 229 = .ok (.aload_n 0, 1) := by decide +kernel
theorem dX10_test_230 : decode cX10_test 230 = .ok (.getfield 173, 3) := by decide +kernel
theorem dX10_test_233 : decode cX10_test 233 = .ok (.iconst (-1), 1) := by decide +kernel
theorem dX10_test_234 : decode cX10_test 234 = .ok (.if_icmp .eq 4, 3) := by decide +kernel
theorem dX10_test_237 : decode cX10_test 237 = .ok (.return_, 1) := by decide +kernel
theorem dX10_rule_0 : decode cX10_rule 0 = .ok (.aload_n 0, 1) := by decide +kernel
theorem dX10_rule_1 : decode cX10_rule 1 = .ok (.getfield 200, 3) := by decide +kernel
theorem dX10_rule_4 : decode cX10_rule 4 = .ok (.bipush 6, 2) := by decide +kernel
theorem dX10_rule_6 : decode cX10_rule 6 = .ok (.if_icmp .ne 6, 3) := by decide +kernel
theorem dX10_rule_12 : decode cX10_rule 12 = .ok (.aload_n 0, 1) := by decide +kernel
theorem dX10_rule_13 : decode cX10_rule 13 = .ok (.iconst 0, 1) := by decide +kernel
theorem dX10_rule_14 : decode cX10_rule 14 = .ok (.putfield 164, 3) := by decide +kernel
theorem dX10_rule_17 : decode cX10_rule 17 = .ok (.aload_n 0, 1) := by decide +kernel
theorem dX10_rule_18 : decode cX10_rule 18 = .ok (.iconst (-1), 1) := by decide +kernel
theorem dX10_rule_19 : decode cX10_rule 19 = .ok (.putfield 173, 3) := by decide +kernel
theorem dX10_rule_22 : decode cX10_rule 22 = .ok (.iconst 0, 1) := by decide +kernel
theorem dX10_rule_23 : decode cX10_rule 23 = .ok (.istore_n 1, 1) := by decide +kernel
theorem dX10_rule_24 : decode cX10_rule 24 = .ok (.bipush 8, 2) := by decide +kernel
theorem dX10_rule_26 : decode cX10_rule 26 = .ok (.aload_n 0, 1) := by decide +kernel
theorem dX10_rule_27 : decode cX10_rule 27 = .ok (.getfield 200, 3) := by decide +kernel
theorem dX10_rule_30 : decode cX10_rule 30 = .ok (.imul, 1) := by decide +kernel
theorem dX10_rule_31 : decode cX10_rule 31 = .ok (.istore_n 2, 1) := by decide +kernel
theorem dX10_rule_32 : decode cX10_rule 32 = .ok (.aload_n 0, 1) := by decide +kernel
theorem dX10_rule_33 : decode cX10_rule 33 = .ok (.getfield 74, 3) := by decide +kernel
theorem dX10_rule_36 : decode cX10_rule 36 = .ok (.iload_n 2, 1) := by decide +kernel
theorem dX10_rule_37 : decode cX10_rule 37 = .ok (.iconst 0, 1) := by decide +kernel
theorem dX10_rule_38 : decode cX10_rule 38 = .ok (.bastore, 1) := by decide +kernel
theorem dX10_rule_39 : decode cX10_rule 39 = .ok (.aload_n 0, 1) := by decide +kernel
theorem dX10_rule_40 : decode cX10_rule 40 = .ok (.iload_n 2, 1) := by decide +kernel
theorem dX10_rule_41 : decode cX10_rule 41 = .ok (.invokevirtual 203, 3) := by decide +kernel
theorem dX10_rule_44 : decode cX10_rule 44 = .ok (.iinc 1 1, 3) := by decide +kernel
theorem dX10_rule_47 : decode cX10_rule 47 = .ok (.aload_n 0, 1) := by decide +kernel
theorem dX10_rule_48 : decode cX10_rule 48 = .ok (.getfield 173, 3) := by decide +kernel
theorem dX10_rule_51 : decode cX10_rule 51 = .ok (.iconst (-1), 1) := by decide +kernel
theorem dX10_rule_52 : decode cX10_rule 52 = .ok (.if_icmp .ne 111, 3) := by decide +kernel
theorem dX10_rule_163 : decode cX10_rule 163 = .ok (.aload_n 0, 1) := by decide +kernel
theorem dX10_rule_164 : decode cX10_rule 164 = .ok (.iconst 0, 1) := by decide +kernel
theorem dX10_rule_165 : decode cX10_rule 165 = .ok (.putfield 159, 3) := by decide +kernel
theorem dX10_rule_168 : decode cX10_rule 168 = .ok (.aload_n 0, 1) := by decide +kernel
theorem dX10_rule_169 : decode cX10_rule 169 = .ok (.getfield 173, 3) := by decide +kernel
theorem dX10_rule_172 : decode cX10_rule 172 = .ok (.iconst (-1), 1) := by decide +kernel
theorem dX10_rule_173 : decode cX10_rule 173 = .ok (.if_icmp .eq 11, 3) := by decide +kernel
theorem dX10_rule_176 : decode cX10_rule 176 = .ok (.bipush (-10), 2) := by decide +kernel
theorem dX10_rule_178 : decode cX10_rule 178 = .ok (.aload_n 0, 1) := by decide +kernel
theorem dX10_rule_179 : decode cX10_rule 179 = .ok (.getfield 173, 3) := by decide +kernel
theorem dX10_rule_182 : decode cX10_rule 182 = .ok (.isub, 1) := by decide +kernel
theorem dX10_rule_183 : decode cX10_rule 183 = .ok (.ireturn, 1) := by decide +kernel
theorem dJ0_length_8abf5_0 : decode cJ0_length_8abf5 0 = .ok (.aload_n 0, 1) := by decide +kernel
theorem dJ0_length_8abf5_1 : decode cJ0_length_8abf5 1 = .ok (.getfield 9, 3) := by decide +kernel
theorem dJ0_length_8abf5_4 : decode cJ0_length_8abf5 4 = .ok (.arraylength, 1) := by decide +kernel
theorem dJ0_length_8abf5_5 : decode cJ0_length_8abf5 5 = .ok (.aload_n 0, 1) := by decide +kernel
theorem dJ0_length_8abf5_6 : decode cJ0_length_8abf5 6 = .ok (.invokevirtual 335, 3) := by decide +kernel
theorem dJ0_length_8abf5_9 : decode cJ0_length_8abf5 9 = .ok (.ishr, 1) := by decide +kernel
theorem dJ0_length_8abf5_10 : decode cJ0_length_8abf5 10 = .ok (.ireturn, 1) := by decide +kernel
theorem dJ0_charAt_5068e_0 : decode cJ0_charAt_5068e 0 = .ok (.aload_n 0, 1) := by decide +kernel
theorem dJ0_charAt_5068e_1 : decode cJ0_charAt_5068e 1 = .ok (.invokevirtual 492, 3) := by decide +kernel
theorem dJ0_charAt_5068e_4 : decode cJ0_charAt_5068e 4 = .ok (.ifCond .eq 12, 3) := by decide +kernel
theorem dJ0_charAt_5068e_7 : decode cJ0_charAt_5068e 7 = .ok (.aload_n 0, 1) := by decide +kernel
theorem dJ0_charAt_5068e_8 : decode cJ0_charAt_5068e 8 = .ok (.getfield 9, 3) := by decide +kernel
theorem dJ0_charAt_5068e_11 : decode cJ0_charAt_5068e 11 = .ok (.iload_n 1, 1) := by decide +kernel
theorem dJ0_charAt_5068e_12 : decode cJ0_charAt_5068e 12 = .ok (.invokestatic 495, 3) := by decide +kernel
theorem dJ0_charAt_5068e_15 : decode cJ0_charAt_5068e 15 = .ok (.ireturn, 1) := by decide +kernel
theorem dJ0_coder_7d493_0 : decode cJ0_coder_7d493 0 = .ok (.getstatic 38, 3) := by decide +kernel
theorem dJ0_coder_7d493_3 : decode cJ0_coder_7d493 3 = .ok (.ifCond .eq 10, 3) := by decide +kernel
theorem dJ0_coder_7d493_6 : decode cJ0_coder_7d493 6 = .ok (.aload_n 0, 1) := by decide +kernel
theorem dJ0_coder_7d493_7 : decode cJ0_coder_7d493 7 = .ok (.getfield 15, 3) := by decide +kernel
theorem dJ0_coder_7d493_10 : decode cJ0_coder_7d493 10 = .ok (.goto 4, 3) := by decide +kernel
theorem dJ0_coder_7d493_14 : decode cJ0_coder_7d493 14 = .ok (.ireturn, 1) := by decide +kernel
theorem dJ0_isLatin1_aae02_0 : decode cJ0_isLatin1_aae02 0 = .ok (.getstatic 38, 3) := by decide +kernel
theorem dJ0_isLatin1_aae02_3 : decode cJ0_isLatin1_aae02 3 = .ok (.ifCond .eq 14, 3) := by decide +kernel
theorem dJ0_isLatin1_aae02_6 : decode cJ0_isLatin1_aae02 6 = .ok (.aload_n 0, 1) := by decide +kernel
theorem dJ0_isLatin1_aae02_7 : decode cJ0_isLatin1_aae02 7 = .ok (.getfield 15, 3) := by decide +kernel
theorem dJ0_isLatin1_aae02_10 : decode cJ0_isLatin1_aae02 10 = .ok (.ifCond .ne 7, 3) := by decide +kernel
theorem dJ0_isLatin1_aae02_13 : decode cJ0_isLatin1_aae02 13 = .ok (.iconst 1, 1) := by decide +kernel
theorem dJ0_isLatin1_aae02_14 : decode cJ0_isLatin1_aae02 14 = .ok (.goto 4, 3) := by decide +kernel
theorem dJ0_isLatin1_aae02_18 : decode cJ0_isLatin1_aae02 18 = .ok (.ireturn, 1) := by decide +kernel
theorem dJ0_checkIndex_df160_0 : decode cJ0_checkIndex_df160 0 = .ok (.iload_n 0, 1) := by decide +kernel
theorem dJ0_checkIndex_df160_1 : decode cJ0_checkIndex_df160 1 = .ok (.iload_n 1, 1) := by decide +kernel
theorem dJ0_checkIndex_df160_2 : decode cJ0_checkIndex_df160 2 = .ok (.getstatic 1053, 3) := by decide +kernel
theorem dJ0_checkIndex_df160_5 : decode cJ0_checkIndex_df160 5 = .ok (.invokestatic 1059, 3) := by decide +kernel
theorem dJ0_checkIndex_df160_8 : decode cJ0_checkIndex_df160 8 = .ok (.pop, 1) := by decide +kernel
theorem dJ0_checkIndex_df160_9 : decode cJ0_checkIndex_df160 9 = .ok (.return_, 1) := by decide +kernel
theorem dJ1_charAt_3b067_0 : decode cJ1_charAt_3b067 0 = .ok (.iload_n 1, 1) := by decide +kernel
theorem dJ1_charAt_3b067_1 : decode cJ1_charAt_3b067 1 = .ok (.aload_n 0, 1) := by decide +kernel
theorem dJ1_charAt_3b067_2 : decode cJ1_charAt_3b067 2 = .ok (.arraylength, 1) := by decide +kernel
theorem dJ1_charAt_3b067_3 : decode cJ1_charAt_3b067 3 = .ok (.invokestatic 9, 3) := by decide +kernel
theorem dJ1_charAt_3b067_6 : decode cJ1_charAt_3b067 6 = .ok (.aload_n 0, 1) := by decide +kernel
theorem dJ1_charAt_3b067_7 : decode cJ1_charAt_3b067 7 = .ok (.iload_n 1, 1) := by decide +kernel
theorem dJ1_charAt_3b067_8 : decode cJ1_charAt_3b067 8 = .ok (.baload, 1) := by decide +kernel
theorem dJ1_charAt_3b067_9 : decode cJ1_charAt_3b067 9 = .ok (.sipush 255, 3) := by decide +kernel
theorem dJ1_charAt_3b067_12 : decode cJ1_charAt_3b067 12 = .ok (.iand, 1) := by decide +kernel
theorem dJ1_charAt_3b067_13 : decode cJ1_charAt_3b067 13 = .ok (.i2c, 1) := by decide +kernel
theorem dJ1_charAt_3b067_14 : decode cJ1_charAt_3b067 14 = .ok (.ireturn, 1) := by decide +kernel
theorem dJ3_checkIndex_8e157_0 : decode cJ3_checkIndex_8e157 0 = .ok (.iload_n 0, 1) := by decide +kernel
theorem dJ3_checkIndex_8e157_1 : decode cJ3_checkIndex_8e157 1 = .ok (.ifCond .lt 8, 3) := by decide +kernel
theorem dJ3_checkIndex_8e157_4 : decode cJ3_checkIndex_8e157 4 = .ok (.iload_n 0, 1) := by decide +kernel
theorem dJ3_checkIndex_8e157_5 : decode cJ3_checkIndex_8e157 5 = .ok (.iload_n 1, 1) := by decide +kernel
theorem dJ3_checkIndex_8e157_6 : decode cJ3_checkIndex_8e157 6 = .ok (.if_icmp .lt 10, 3) := by decide +kernel
theorem dJ3_checkIndex_8e157_16 : decode cJ3_checkIndex_8e157 16 = .ok (.iload_n 0, 1) := by decide +kernel
theorem dJ3_checkIndex_8e157_17 : decode cJ3_checkIndex_8e157 17 = .ok (.ireturn, 1) := by decide +kernel
