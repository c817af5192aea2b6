theorem dX9_within_0 : decode cX9_within 0 = .ok (.iload_n 0, 1) := by decide +kernel
theorem dX9_within_1 : decode cX9_within 1 = .ok (.iload_n 1, 1) := by decide +kernel
theorem dX9_within_2 : decode cX9_within 2 = .ok (.if_icmp .lt 12, 3) := by decide +kernel
theorem dX9_within_5 : decode cX9_within 5 = .ok (.iload_n 0, 1) := by decide +kernel
theorem dX9_within_6 : decode cX9_within 6 = .ok (.iload_n 2, 1) := by decide +kernel
theorem dX9_within_7 : decode cX9_within 7 = .ok (.if_icmp .gt 7, 3) := by decide +kernel
theorem dX9_within_10 : decode cX9_within 10 = .ok (.iconst 1, 1) := by decide +kernel
theorem dX9_within_11 : decode cX9_within 11 = .ok (.goto 4, 3) := by decide +kernel
theorem dX9_within_14 : decode cX9_within 14 = .ok (.iconst 0, 1) := by decide +kernel
theorem dX9_within_15 : decode cX9_within 15 = .ok (.ireturn, 1) := by decide +kernel
theorem dX4_add_0 : decode cX4_add 0 = .ok (.aload_n 0, 1) := by decide +kernel
theorem dX4_add_1 : decode cX4_add 1 = .ok (.getfield 15, 3) := by decide +kernel
theorem dX4_add_4 : decode cX4_add 4 = .ok (.aload_n 0, 1) := by decide +kernel
theorem dX4_add_5 : decode cX4_add 5 = .ok (.getfield 9, 3) := by decide +kernel
theorem dX4_add_8 : decode cX4_add 8 = .ok (.iload_n 1, 1) := by decide +kernel
theorem dX4_add_9 : decode cX4_add 9 = .ok (.iastore, 1) := by decide +kernel
theorem dX4_add_10 : decode cX4_add 10 = .ok (.aload_n 0, 1) := by decide +kernel
theorem dX4_add_11 : decode cX4_add 11 = .ok (.getfield 19, 3) := by decide +kernel
theorem dX4_add_14 : decode cX4_add 14 = .ok (.aload_n 0, 1) := by decide +kernel
theorem dX4_add_15 : decode cX4_add 15 = .ok (.getfield 9, 3) := by decide +kernel
theorem dX4_add_18 : decode cX4_add 18 = .ok (.iload_n 2, 1) := by decide +kernel
theorem dX4_add_19 : decode cX4_add 19 = .ok (.iastore, 1) := by decide +kernel
theorem dX4_add_20 : decode cX4_add 20 = .ok (.aload_n 0, 1) := by decide +kernel
theorem dX4_add_21 : decode cX4_add 21 = .ok (.getfield 22, 3) := by decide +kernel
theorem dX4_add_24 : decode cX4_add 24 = .ok (.aload_n 0, 1) := by decide +kernel
theorem dX4_add_25 : decode cX4_add 25 = .ok (.getfield 9, 3) := by decide +kernel
theorem dX4_add_28 : decode cX4_add 28 = .ok (.iload_n 3, 1) := by decide +kernel
theorem dX4_add_29 : decode cX4_add 29 = .ok (.iastore, 1) := by decide +kernel
theorem dX4_add_30 : decode cX4_add 30 = .ok (.aload_n 0, 1) := by decide +kernel
theorem dX4_add_31 : decode cX4_add 31 = .ok (.getfield 25, 3) := by decide +kernel
theorem dX4_add_34 : decode cX4_add 34 = .ok (.aload_n 0, 1) := by decide +kernel
theorem dX4_add_35 : decode cX4_add 35 = .ok (.getfield 9, 3) := by decide +kernel
theorem dX4_add_38 : decode cX4_add 38 = .ok (.iload 4, 2) := by decide +kernel
theorem dX4_add_40 : decode cX4_add 40 = .ok (.iastore, 1) := by decide +kernel
theorem dX4_add_41 : decode cX4_add 41 = .ok (.aload_n 0, 1) := by decide +kernel
theorem dX4_add_42 : decode cX4_add 42 = .ok (.getfield 28, 3) := by decide +kernel
theorem dX4_add_45 : decode cX4_add 45 = .ok (.aload_n 0, 1) := by decide +kernel
theorem dX4_add_46 : decode cX4_add 46 = .ok (.getfield 9, 3) := by decide +kernel
theorem dX4_add_49 : decode cX4_add 49 = .ok (.iload 5, 2) := by decide +kernel
theorem dX4_add_51 : decode cX4_add 51 = .ok (.iastore, 1) := by decide +kernel
theorem dX4_add_52 : decode cX4_add 52 = .ok (.aload_n 0, 1) := by decide +kernel
theorem dX4_add_53 : decode cX4_add 53 = .ok (.dup, 1) := by decide +kernel
theorem dX4_add_54 : decode cX4_add 54 = .ok (.getfield 9, 3) := by decide +kernel
theorem dX4_add_57 : decode cX4_add 57 = .ok (.iconst 1, 1) := by decide +kernel
theorem dX4_add_58 : decode cX4_add 58 = .ok (.iadd, 1) := by decide +kernel
theorem dX4_add_59 : decode cX4_add 59 = .ok (.putfield 9, 3) := by decide +kernel
theorem dX4_add_62 : decode cX4_add 62 = .ok (.aload_n 0, 1) := by decide +kernel
theorem dX4_add_63 : decode cX4_add 63 = .ok (.getfield 9, 3) := by decide +kernel
theorem dX4_add_66 : decode cX4_add 66 = .ok (.iconst 1, 1) := by decide +kernel
theorem dX4_add_67 : decode cX4_add 67 = .ok (.isub, 1) := by decide +kernel
theorem dX4_add_68 : decode cX4_add 68 = .ok (.ireturn, 1) := by decide +kernel
theorem dX9_paddler_0 : decode cX9_paddler 0 = .ok (.iload_n 1, 1) := by decide +kernel
theorem dX9_paddler_1 : decode cX9_paddler 1 = .ok (.bipush 30, 2) := by decide +kernel
theorem dX9_paddler_3 : decode cX9_paddler 3 = .ok (.sipush 150, 3) := by decide +kernel
theorem dX9_paddler_6 : decode cX9_paddler 6 = .ok (.invokestatic 97, 3) := by decide +kernel
theorem dX9_paddler_9 : decode cX9_paddler 9 = .ok (.ifCond .eq 44, 3) := by decide +kernel
theorem dX9_paddler_12 : decode cX9_paddler 12 = .ok (.iload_n 2, 1) := by decide +kernel
theorem dX9_paddler_13 : decode cX9_paddler 13 = .ok (.iconst 1, 1) := by decide +kernel
theorem dX9_paddler_14 : decode cX9_paddler 14 = .ok (.bipush 99, 2) := by decide +kernel
theorem dX9_paddler_16 : decode cX9_paddler 16 = .ok (.invokestatic 97, 3) := by decide +kernel
theorem dX9_paddler_19 : decode cX9_paddler 19 = .ok (.ifCond .eq 34, 3) := by decide +kernel
theorem dX9_paddler_22 : decode cX9_paddler 22 = .ok (.iload_n 3, 1) := by decide +kernel
theorem dX9_paddler_23 : decode cX9_paddler 23 = .ok (.iconst 0, 1) := by decide +kernel
theorem dX9_paddler_24 : decode cX9_paddler 24 = .ok (.iconst 2, 1) := by decide +kernel
theorem dX9_paddler_25 : decode cX9_paddler 25 = .ok (.invokestatic 97, 3) := by decide +kernel
theorem dX9_paddler_28 : decode cX9_paddler 28 = .ok (.ifCond .eq 25, 3) := by decide +kernel
theorem dX9_paddler_31 : decode cX9_paddler 31 = .ok (.iload 4, 2) := by decide +kernel
theorem dX9_paddler_33 : decode cX9_paddler 33 = .ok (.iconst 0, 1) := by decide +kernel
theorem dX9_paddler_34 : decode cX9_paddler 34 = .ok (.iconst 1, 1) := by decide +kernel
theorem dX9_paddler_35 : decode cX9_paddler 35 = .ok (.invokestatic 97, 3) := by decide +kernel
theorem dX9_paddler_38 : decode cX9_paddler 38 = .ok (.ifCond .eq 15, 3) := by decide +kernel
theorem dX9_paddler_41 : decode cX9_paddler 41 = .ok (.iload 5, 2) := by decide +kernel
theorem dX9_paddler_43 : decode cX9_paddler 43 = .ok (.bipush 10, 2) := by decide +kernel
theorem dX9_paddler_45 : decode cX9_paddler 45 = .ok (.bipush 90, 2) := by decide +kernel
theorem dX9_paddler_47 : decode cX9_paddler 47 = .ok (.invokestatic 97, 3) := by decide +kernel
theorem dX9_paddler_50 : decode cX9_paddler 50 = .ok (.ifCond .ne 6, 3) := by decide +kernel
theorem dX9_paddler_53 : decode cX9_paddler 53 = .ok (.bipush (-2), 2) := by decide +kernel
theorem dX9_paddler_55 : decode cX9_paddler 55 = .ok (.ireturn, 1) := by decide +kernel
theorem dX9_paddler_56 : decode cX9_paddler 56 = .ok (.aload_n 0, 1) := by decide +kernel
theorem dX9_paddler_57 : decode cX9_paddler 57 = .ok (.getfield 12, 3) := by decide +kernel
theorem dX9_paddler_60 : decode cX9_paddler 60 = .ok (.getfield 101, 3) := by decide +kernel
theorem dX9_paddler_63 : decode cX9_paddler 63 = .ok (.bipush 40, 2) := by decide +kernel
theorem dX9_paddler_65 : decode cX9_paddler 65 = .ok (.if_icmp .lt 6, 3) := by decide +kernel
theorem dX9_paddler_68 : decode cX9_paddler 68 = .ok (.bipush (-4), 2) := by decide +kernel
theorem dX9_paddler_70 : decode cX9_paddler 70 = .ok (.ireturn, 1) := by decide +kernel
theorem dX9_paddler_71 : decode cX9_paddler 71 = .ok (.aload_n 0, 1) := by decide +kernel
theorem dX9_paddler_72 : decode cX9_paddler 72 = .ok (.getfield 12, 3) := by decide +kernel
theorem dX9_paddler_75 : decode cX9_paddler 75 = .ok (.iload_n 1, 1) := by decide +kernel
theorem dX9_paddler_76 : decode cX9_paddler 76 = .ok (.iload_n 2, 1) := by decide +kernel
theorem dX9_paddler_77 : decode cX9_paddler 77 = .ok (.iload_n 3, 1) := by decide +kernel
theorem dX9_paddler_78 : decode cX9_paddler 78 = .ok (.iload 4, 2) := by decide +kernel
theorem dX9_paddler_80 : decode cX9_paddler 80 = .ok (.iload 5, 2) := by decide +kernel
theorem dX9_paddler_82 : decode cX9_paddler 82 = .ok (.invokevirtual 104, 3) := by decide +kernel
theorem dX9_paddler_85 : decode cX9_paddler 85 = .ok (.ireturn, 1) := by decide +kernel
theorem dX4_has_0 : decode cX4_has 0 = .ok (.iload_n 1, 1) := by decide +kernel
theorem dX4_has_1 : decode cX4_has 1 = .ok (.iconst 0, 1) := by decide +kernel
theorem dX4_has_2 : decode cX4_has 2 = .ok (.aload_n 0, 1) := by decide +kernel
theorem dX4_has_3 : decode cX4_has 3 = .ok (.getfield 9, 3) := by decide +kernel
theorem dX4_has_6 : decode cX4_has 6 = .ok (.iconst 1, 1) := by decide +kernel
theorem dX4_has_7 : decode cX4_has 7 = .ok (.isub, 1) := by decide +kernel
theorem dX4_has_8 : decode cX4_has 8 = .ok (.invokestatic 35, 3) := by decide +kernel
theorem dX4_has_11 : decode cX4_has 11 = .ok (.ireturn, 1) := by decide +kernel
theorem dX4_areFriends_0 : decode cX4_areFriends 0 = .ok (.aload_n 0, 1) := by decide +kernel
theorem dX4_areFriends_1 : decode cX4_areFriends 1 = .ok (.getfield 31, 3) := by decide +kernel
theorem dX4_areFriends_4 : decode cX4_areFriends 4 = .ok (.iload_n 1, 1) := by decide +kernel
theorem dX4_areFriends_5 : decode cX4_areFriends 5 = .ok (.laload, 1) := by decide +kernel
theorem dX4_areFriends_6 : decode cX4_areFriends 6 = .ok (.iload_n 2, 1) := by decide +kernel
theorem dX4_areFriends_7 : decode cX4_areFriends 7 = .ok (.lushr, 1) := by decide +kernel
theorem dX4_areFriends_8 : decode cX4_areFriends 8 = .ok (.lconst 1, 1) := by decide +kernel
theorem dX4_areFriends_9 : decode cX4_areFriends 9 = .ok (.land, 1) := by decide +kernel
theorem dX4_areFriends_10 : decode cX4_areFriends 10 = .ok (.lconst 0, 1) := by decide +kernel
theorem dX4_areFriends_11 : decode cX4_areFriends 11 = .ok (.lcmp, 1) := by decide +kernel
theorem dX4_areFriends_12 : decode cX4_areFriends 12 = .ok (.ifCond .eq 7, 3) := by decide +kernel
theorem dX4_areFriends_15 : decode cX4_areFriends 15 = .ok (.iconst 1, 1) := by decide +kernel
theorem dX4_areFriends_16 : decode cX4_areFriends 16 = .ok (.goto 4, 3) := by decide +kernel
theorem dX4_areFriends_19 : decode cX4_areFriends 19 = .ok (.iconst 0, 1) := by decide +kernel
theorem dX4_areFriends_20 : decode cX4_areFriends 20 = .ok (.ireturn, 1) := by decide +kernel
theorem dX4_setFriends_0 : decode cX4_setFriends 0 = .ok (.lconst 1, 1) := by decide +kernel
theorem dX4_setFriends_1 : decode cX4_setFriends 1 = .ok (.iload_n 1, 1) := by decide +kernel
theorem dX4_setFriends_2 : decode cX4_setFriends 2 = .ok (.lshl, 1) := by decide +kernel
theorem dX4_setFriends_3 : decode cX4_setFriends 3 = .ok (.lstore 4, 2) := by decide +kernel
theorem dX4_setFriends_5 : decode cX4_setFriends 5 = .ok (.lconst 1, 1) := by decide +kernel
theorem dX4_setFriends_6 : decode cX4_setFriends 6 = .ok (.iload_n 2, 1) := by decide +kernel
theorem dX4_setFriends_7 : decode cX4_setFriends 7 = .ok (.lshl, 1) := by decide +kernel
theorem dX4_setFriends_8 : decode cX4_setFriends 8 = .ok (.lstore 6, 2) := by decide +kernel
theorem dX4_setFriends_10 : decode cX4_setFriends 10 = .ok (.aload_n 0, 1) := by decide +kernel
theorem dX4_setFriends_11 : decode cX4_setFriends 11 = .ok (.getfield 31, 3) := by decide +kernel
theorem dX4_setFriends_14 : decode cX4_setFriends 14 = .ok (.iload_n 1, 1) := by decide +kernel
theorem dX4_setFriends_15 : decode cX4_setFriends 15 = .ok (.iload_n 3, 1) := by decide +kernel
theorem dX4_setFriends_16 : decode cX4_setFriends 16 = .ok (.ifCond .eq 15, 3) := by decide +kernel
theorem dX4_setFriends_19 : decode cX4_setFriends 19 = .ok (.aload_n 0, 1) := by decide +kernel
theorem dX4_setFriends_20 : decode cX4_setFriends 20 = .ok (.getfield 31, 3) := by decide +kernel
theorem dX4_setFriends_23 : decode cX4_setFriends 23 = .ok (.iload_n 1, 1) := by decide +kernel
theorem dX4_setFriends_24 : decode cX4_setFriends 24 = .ok (.laload, 1) := by decide +kernel
theorem dX4_setFriends_25 : decode cX4_setFriends 25 = .ok (.lload 6, 2) := by decide +kernel
theorem dX4_setFriends_27 : decode cX4_setFriends 27 = .ok (.lor, 1) := by decide +kernel
theorem dX4_setFriends_28 : decode cX4_setFriends 28 = .ok (.goto 16, 3) := by decide +kernel
theorem dX4_setFriends_31 : decode cX4_setFriends 31 = .ok (.aload_n 0, 1) := by decide +kernel
theorem dX4_setFriends_32 : decode cX4_setFriends 32 = .ok (.getfield 31, 3) := by decide +kernel
theorem dX4_setFriends_35 : decode cX4_setFriends 35 = .ok (.iload_n 1, 1) := by decide +kernel
theorem dX4_setFriends_36 : decode cX4_setFriends 36 = .ok (.laload, 1) := by decide +kernel
theorem dX4_setFriends_37 : decode cX4_setFriends 37 = .ok (.lload 6, 2) := by decide +kernel
theorem dX4_setFriends_39 : decode cX4_setFriends 39 = .ok (.ldc2_w 39, 3) := by decide +kernel
theorem dX4_setFriends_42 : decode cX4_setFriends 42 = .ok (.lxor, 1) := by decide +kernel
theorem dX4_setFriends_43 : decode cX4_setFriends 43 = .ok (.land, 1) := by decide +kernel
theorem dX4_setFriends_44 : decode cX4_setFriends 44 = .ok (.lastore, 1) := by decide +kernel
theorem dX4_setFriends_45 : decode cX4_setFriends 45 = .ok (.aload_n 0, 1) := by decide +kernel
theorem dX4_setFriends_46 : decode cX4_setFriends 46 = .ok (.getfield 31, 3) := by decide +kernel
theorem dX4_setFriends_49 : decode cX4_setFriends 49 = .ok (.iload_n 2, 1) := by decide +kernel
theorem dX4_setFriends_50 : decode cX4_setFriends 50 = .ok (.iload_n 3, 1) := by decide +kernel
theorem dX4_setFriends_51 : decode cX4_setFriends 51 = .ok (.ifCond .eq 15, 3) := by decide +kernel
theorem dX4_setFriends_54 : decode cX4_setFriends 54 = .ok (.aload_n 0, 1) := by decide +kernel
theorem dX4_setFriends_55 : decode cX4_setFriends 55 = .ok (.getfield 31, 3) := by decide +kernel
theorem dX4_setFriends_58 : decode cX4_setFriends 58 = .ok (.iload_n 2, 1) := by decide +kernel
theorem dX4_setFriends_59 : decode cX4_setFriends 59 = .ok (.laload, 1) := by decide +kernel
theorem dX4_setFriends_60 : decode cX4_setFriends 60 = .ok (.lload 4, 2) := by decide +kernel
theorem dX4_setFriends_62 : decode cX4_setFriends 62 = .ok (.lor, 1) := by decide +kernel
theorem dX4_setFriends_63 : decode cX4_setFriends 63 = .ok (.goto 16, 3) := by decide +kernel
theorem dX4_setFriends_66 : decode cX4_setFriends 66 = .ok (.aload_n 0, 1) := by decide +kernel
theorem dX4_setFriends_67 : decode cX4_setFriends 67 = .ok (.getfield 31, 3) := by decide +kernel
theorem dX4_setFriends_70 : decode cX4_setFriends 70 = .ok (.iload_n 2, 1) := by decide +kernel
theorem dX4_setFriends_71 : decode cX4_setFriends 71 = .ok (.laload, 1) := by decide +kernel
theorem dX4_setFriends_72 : decode cX4_setFriends 72 = .ok (.lload 4, 2) := by decide +kernel
theorem dX4_setFriends_74 : decode cX4_setFriends 74 = .ok (.ldc2_w 39, 3) := by decide +kernel
theorem dX4_setFriends_77 : decode cX4_setFriends 77 = .ok (.lxor, 1) := by decide +kernel
theorem dX4_setFriends_78 : decode cX4_setFriends 78 = .ok (.land, 1) := by decide +kernel
theorem dX4_setFriends_79 : decode cX4_setFriends 79 = .ok (.lastore, 1) := by decide +kernel
theorem dX4_setFriends_80 : decode cX4_setFriends 80 = .ok (.return_, 1) := by decide +kernel
theorem dX9_like_0 : decode cX9_like 0 = .ok (.aload_n 0, 1) := by decide +kernel
theorem dX9_like_1 : decode cX9_like 1 = .ok (.getfield 12, 3) := by decide +kernel
theorem dX9_like_4 : decode cX9_like 4 = .ok (.iload_n 1, 1) := by decide +kernel
theorem dX9_like_5 : decode cX9_like 5 = .ok (.invokevirtual 108, 3) := by decide +kernel
theorem dX9_like_8 : decode cX9_like 8 = .ok (.ifCond .eq 14, 3) := by decide +kernel
theorem dX9_like_11 : decode cX9_like 11 = .ok (.aload_n 0, 1) := by decide +kernel
theorem dX9_like_12 : decode cX9_like 12 = .ok (.getfield 12, 3) := by decide +kernel
theorem dX9_like_15 : decode cX9_like 15 = .ok (.iload_n 2, 1) := by decide +kernel
theorem dX9_like_16 : decode cX9_like 16 = .ok (.invokevirtual 108, 3) := by decide +kernel
theorem dX9_like_19 : decode cX9_like 19 = .ok (.ifCond .ne 5, 3) := by decide +kernel
theorem dX9_like_22 : decode cX9_like 22 = .ok (.iconst (-1), 1) := by decide +kernel
theorem dX9_like_23 : decode cX9_like 23 = .ok (.ireturn, 1) := by decide +kernel
theorem dX9_like_24 : decode cX9_like 24 = .ok (.iload_n 3, 1) := by decide +kernel
theorem dX9_like_25 : decode cX9_like 25 = .ok (.iconst 0, 1) := by decide +kernel
theorem dX9_like_26 : decode cX9_like 26 = .ok (.iconst 1, 1) := by decide +kernel
theorem dX9_like_27 : decode cX9_like 27 = .ok (.invokestatic 97, 3) := by decide +kernel
theorem dX9_like_30 : decode cX9_like 30 = .ok (.ifCond .eq 8, 3) := by decide +kernel
theorem dX9_like_33 : decode cX9_like 33 = .ok (.iload_n 1, 1) := by decide +kernel
theorem dX9_like_34 : decode cX9_like 34 = .ok (.iload_n 2, 1) := by decide +kernel
theorem dX9_like_35 : decode cX9_like 35 = .ok (.if_icmp .ne 6, 3) := by decide +kernel
theorem dX9_like_38 : decode cX9_like 38 = .ok (.bipush (-2), 2) := by decide +kernel
theorem dX9_like_40 : decode cX9_like 40 = .ok (.ireturn, 1) := by decide +kernel
theorem dX9_like_41 : decode cX9_like 41 = .ok (.aload_n 0, 1) := by decide +kernel
theorem dX9_like_42 : decode cX9_like 42 = .ok (.getfield 12, 3) := by decide +kernel
theorem dX9_like_45 : decode cX9_like 45 = .ok (.iload_n 1, 1) := by decide +kernel
theorem dX9_like_46 : decode cX9_like 46 = .ok (.iload_n 2, 1) := by decide +kernel
theorem dX9_like_47 : decode cX9_like 47 = .ok (.invokevirtual 112, 3) := by decide +kernel
theorem dX9_like_50 : decode cX9_like 50 = .ok (.ifCond .eq 7, 3) := by decide +kernel
theorem dX9_like_53 : decode cX9_like 53 = .ok (.iconst 1, 1) := by decide +kernel
theorem dX9_like_54 : decode cX9_like 54 = .ok (.goto 4, 3) := by decide +kernel
theorem dX9_like_57 : decode cX9_like 57 = .ok (.iconst 0, 1) := by decide +kernel
theorem dX9_like_58 : decode cX9_like 58 = .ok (.istore 4, 2) := by decide +kernel
theorem dX9_like_60 : decode cX9_like 60 = .ok (.aload_n 0, 1) := by decide +kernel
theorem dX9_like_61 : decode cX9_like 61 = .ok (.getfield 12, 3) := by decide +kernel
theorem dX9_like_64 : decode cX9_like 64 = .ok (.iload_n 1, 1) := by decide +kernel
theorem dX9_like_65 : decode cX9_like 65 = .ok (.iload_n 2, 1) := by decide +kernel
theorem dX9_like_66 : decode cX9_like 66 = .ok (.iload_n 3, 1) := by decide +kernel
theorem dX9_like_67 : decode cX9_like 67 = .ok (.iconst 1, 1) := by decide +kernel
theorem dX9_like_68 : decode cX9_like 68 = .ok (.if_icmp .ne 7, 3) := by decide +kernel
theorem dX9_like_71 : decode cX9_like 71 = .ok (.iconst 1, 1) := by decide +kernel
theorem dX9_like_72 : decode cX9_like 72 = .ok (.goto 4, 3) := by decide +kernel
theorem dX9_like_75 : decode cX9_like 75 = .ok (.iconst 0, 1) := by decide +kernel
theorem dX9_like_76 : decode cX9_like 76 = .ok (.invokevirtual 116, 3) := by decide +kernel
theorem dX9_like_79 : decode cX9_like 79 = .ok (.iload 4, 2) := by decide +kernel
theorem dX9_like_81 : decode cX9_like 81 = .ok (.ireturn, 1) := by decide +kernel
theorem dX9_crew_0 : decode cX9_crew 0 = .ok (.iload_n 1, 1) := by decide +kernel
theorem dX9_crew_1 : decode cX9_crew 1 = .ok (.iconst 2, 1) := by decide +kernel
theorem dX9_crew_2 : decode cX9_crew 2 = .ok (.iconst 4, 1) := by decide +kernel
theorem dX9_crew_3 : decode cX9_crew 3 = .ok (.invokestatic 97, 3) := by decide +kernel
theorem dX9_crew_6 : decode cX9_crew 6 = .ok (.ifCond .eq 14, 3) := by decide +kernel
theorem dX9_crew_9 : decode cX9_crew 9 = .ok (.iload_n 2, 1) := by decide +kernel
theorem dX9_crew_10 : decode cX9_crew 10 = .ok (.iconst 0, 1) := by decide +kernel
theorem dX9_crew_11 : decode cX9_crew 11 = .ok (.sipush 150, 3) := by decide +kernel
theorem dX9_crew_14 : decode cX9_crew 14 = .ok (.invokestatic 97, 3) := by decide +kernel
theorem dX9_crew_17 : decode cX9_crew 17 = .ok (.ifCond .ne 6, 3) := by decide +kernel
theorem dX9_crew_20 : decode cX9_crew 20 = .ok (.bipush (-2), 2) := by decide +kernel
theorem dX9_crew_22 : decode cX9_crew 22 = .ok (.ireturn, 1) := by decide +kernel
theorem dX9_crew_23 : decode cX9_crew 23 = .ok (.aload_n 0, 1) := by decide +kernel
theorem dX9_crew_24 : decode cX9_crew 24 = .ok (.getfield 24, 3) := by decide +kernel
theorem dX9_crew_27 : decode cX9_crew 27 = .ok (.bipush 6, 2) := by decide +kernel
theorem dX9_crew_29 : decode cX9_crew 29 = .ok (.if_icmp .lt 6, 3) := by decide +kernel
theorem dX9_crew_32 : decode cX9_crew 32 = .ok (.bipush (-4), 2) := by decide +kernel
theorem dX9_crew_34 : decode cX9_crew 34 = .ok (.ireturn, 1) := by decide +kernel
theorem dX9_crew_35 : decode cX9_crew 35 = .ok (.aload_n 0, 1) := by decide +kernel
theorem dX9_crew_36 : decode cX9_crew 36 = .ok (.getfield 20, 3) := by decide +kernel
theorem dX9_crew_39 : decode cX9_crew 39 = .ok (.aload_n 0, 1) := by decide +kernel
theorem dX9_crew_40 : decode cX9_crew 40 = .ok (.getfield 24, 3) := by decide +kernel
theorem dX9_crew_43 : decode cX9_crew 43 = .ok (.aaload, 1) := by decide +kernel
theorem dX9_crew_44 : decode cX9_crew 44 = .ok (.iload_n 1, 1) := by decide +kernel
theorem dX9_crew_45 : decode cX9_crew 45 = .ok (.putfield 120, 3) := by decide +kernel
theorem dX9_crew_48 : decode cX9_crew 48 = .ok (.aload_n 0, 1) := by decide +kernel
theorem dX9_crew_49 : decode cX9_crew 49 = .ok (.getfield 20, 3) := by decide +kernel
theorem dX9_crew_52 : decode cX9_crew 52 = .ok (.aload_n 0, 1) := by decide +kernel
theorem dX9_crew_53 : decode cX9_crew 53 = .ok (.getfield 24, 3) := by decide +kernel
theorem dX9_crew_56 : decode cX9_crew 56 = .ok (.aaload, 1) := by decide +kernel
theorem dX9_crew_57 : decode cX9_crew 57 = .ok (.iload_n 2, 1) := by decide +kernel
theorem dX9_crew_58 : decode cX9_crew 58 = .ok (.putfield 123, 3) := by decide +kernel
theorem dX9_crew_61 : decode cX9_crew 61 = .ok (.aload_n 0, 1) := by decide +kernel
theorem dX9_crew_62 : decode cX9_crew 62 = .ok (.dup, 1) := by decide +kernel
theorem dX9_crew_63 : decode cX9_crew 63 = .ok (.getfield 24, 3) := by decide +kernel
theorem dX9_crew_66 : decode cX9_crew 66 = .ok (.iconst 1, 1) := by decide +kernel
theorem dX9_crew_67 : decode cX9_crew 67 = .ok (.iadd, 1) := by decide +kernel
theorem dX9_crew_68 : decode cX9_crew 68 = .ok (.putfield 24, 3) := by decide +kernel
theorem dX9_crew_71 : decode cX9_crew 71 = .ok (.aload_n 0, 1) := by decide +kernel
theorem dX9_crew_72 : decode cX9_crew 72 = .ok (.getfield 24, 3) := by decide +kernel
theorem dX9_crew_75 : decode cX9_crew 75 = .ok (.iconst 1, 1) := by decide +kernel
theorem dX9_crew_76 : decode cX9_crew 76 = .ok (.isub, 1) := by decide +kernel
theorem dX9_crew_77 : decode cX9_crew 77 = .ok (.ireturn, 1) := by decide +kernel
theorem dX9_isCrew_0 : decode cX9_isCrew 0 = .ok (.iload_n 1, 1) := by decide +kernel
theorem dX9_isCrew_1 : decode cX9_isCrew 1 = .ok (.iconst 0, 1) := by decide +kernel
theorem dX9_isCrew_2 : decode cX9_isCrew 2 = .ok (.aload_n 0, 1) := by decide +kernel
theorem dX9_isCrew_3 : decode cX9_isCrew 3 = .ok (.getfield 24, 3) := by decide +kernel
theorem dX9_isCrew_6 : decode cX9_isCrew 6 = .ok (.iconst 1, 1) := by decide +kernel
theorem dX9_isCrew_7 : decode cX9_isCrew 7 = .ok (.isub, 1) := by decide +kernel
theorem dX9_isCrew_8 : decode cX9_isCrew 8 = .ok (.invokestatic 97, 3) := by decide +kernel
theorem dX9_isCrew_11 : decode cX9_isCrew 11 = .ok (.ireturn, 1) := by decide +kernel
theorem dX1_hasMember_0 : decode cX1_hasMember 0 = .ok (.aload_n 0, 1) := by decide +kernel
theorem dX1_hasMember_1 : decode cX1_hasMember 1 = .ok (.getfield 28, 3) := by decide +kernel
theorem dX1_hasMember_4 : decode cX1_hasMember 4 = .ok (.iload_n 1, 1) := by decide +kernel
theorem dX1_hasMember_5 : decode cX1_hasMember 5 = .ok (.lushr, 1) := by decide +kernel
theorem dX1_hasMember_6 : decode cX1_hasMember 6 = .ok (.lconst 1, 1) := by decide +kernel
theorem dX1_hasMember_7 : decode cX1_hasMember 7 = .ok (.land, 1) := by decide +kernel
theorem dX1_hasMember_8 : decode cX1_hasMember 8 = .ok (.lconst 0, 1) := by decide +kernel
theorem dX1_hasMember_9 : decode cX1_hasMember 9 = .ok (.lcmp, 1) := by decide +kernel
theorem dX1_hasMember_10 : decode cX1_hasMember 10 = .ok (.ifCond .eq 7, 3) := by decide +kernel
theorem dX1_hasMember_13 : decode cX1_hasMember 13 = .ok (.iconst 1, 1) := by decide +kernel
theorem dX1_hasMember_14 : decode cX1_hasMember 14 = .ok (.goto 4, 3) := by decide +kernel
theorem dX1_hasMember_17 : decode cX1_hasMember 17 = .ok (.iconst 0, 1) := by decide +kernel
theorem dX1_hasMember_18 : decode cX1_hasMember 18 = .ok (.ireturn, 1) := by decide +kernel
theorem dX1_addMember_0 : decode cX1_addMember 0 = .ok (.aload_n 0, 1) := by decide +kernel
theorem dX1_addMember_1 : decode cX1_addMember 1 = .ok (.getfield 24, 3) := by decide +kernel
theorem dX1_addMember_4 : decode cX1_addMember 4 = .ok (.aload_n 0, 1) := by decide +kernel
theorem dX1_addMember_5 : decode cX1_addMember 5 = .ok (.getfield 21, 3) := by decide +kernel
theorem dX1_addMember_8 : decode cX1_addMember 8 = .ok (.iload_n 1, 1) := by decide +kernel
theorem dX1_addMember_9 : decode cX1_addMember 9 = .ok (.iastore, 1) := by decide +kernel
theorem dX1_addMember_10 : decode cX1_addMember 10 = .ok (.aload_n 0, 1) := by decide +kernel
theorem dX1_addMember_11 : decode cX1_addMember 11 = .ok (.dup, 1) := by decide +kernel
theorem dX1_addMember_12 : decode cX1_addMember 12 = .ok (.getfield 21, 3) := by decide +kernel
theorem dX1_addMember_15 : decode cX1_addMember 15 = .ok (.iconst 1, 1) := by decide +kernel
theorem dX1_addMember_16 : decode cX1_addMember 16 = .ok (.iadd, 1) := by decide +kernel
theorem dX1_addMember_17 : decode cX1_addMember 17 = .ok (.putfield 21, 3) := by decide +kernel
theorem dX1_addMember_20 : decode cX1_addMember 20 = .ok (.aload_n 0, 1) := by decide +kernel
theorem dX1_addMember_21 : decode cX1_addMember 21 = .ok (.dup, 1) := by decide +kernel
theorem dX1_addMember_22 : decode cX1_addMember 22 = .ok (.getfield 28, 3) := by decide +kernel
theorem dX1_addMember_25 : decode cX1_addMember 25 = .ok (.lconst 1, 1) := by decide +kernel
theorem dX1_addMember_26 : decode cX1_addMember 26 = .ok (.iload_n 1, 1) := by decide +kernel
theorem dX1_addMember_27 : decode cX1_addMember 27 = .ok (.lshl, 1) := by decide +kernel
theorem dX1_addMember_28 : decode cX1_addMember 28 = .ok (.lor, 1) := by decide +kernel
theorem dX1_addMember_29 : decode cX1_addMember 29 = .ok (.putfield 28, 3) := by decide +kernel
theorem dX1_addMember_32 : decode cX1_addMember 32 = .ok (.aload_n 0, 1) := by decide +kernel
theorem dX1_addMember_33 : decode cX1_addMember 33 = .ok (.iconst 0, 1) := by decide +kernel
theorem dX1_addMember_34 : decode cX1_addMember 34 = .ok (.putfield 32, 3) := by decide +kernel
theorem dX1_addMember_37 : decode cX1_addMember 37 = .ok (.return_, 1) := by decide +kernel
theorem dX9_join_0 : decode cX9_join 0 = .ok (.aload_n 0, 1) := by decide +kernel
theorem dX9_join_1 : decode cX9_join 1 = .ok (.iload_n 1, 1) := by decide +kernel
theorem dX9_join_2 : decode cX9_join 2 = .ok (.invokevirtual 126, 3) := by decide +kernel
theorem dX9_join_5 : decode cX9_join 5 = .ok (.ifCond .eq 14, 3) := by decide +kernel
theorem dX9_join_8 : decode cX9_join 8 = .ok (.aload_n 0, 1) := by decide +kernel
theorem dX9_join_9 : decode cX9_join 9 = .ok (.getfield 12, 3) := by decide +kernel
theorem dX9_join_12 : decode cX9_join 12 = .ok (.iload_n 2, 1) := by decide +kernel
theorem dX9_join_13 : decode cX9_join 13 = .ok (.invokevirtual 108, 3) := by decide +kernel
theorem dX9_join_16 : decode cX9_join 16 = .ok (.ifCond .ne 5, 3) := by decide +kernel
theorem dX9_join_19 : decode cX9_join 19 = .ok (.iconst (-1), 1) := by decide +kernel
theorem dX9_join_20 : decode cX9_join 20 = .ok (.ireturn, 1) := by decide +kernel
theorem dX9_join_21 : decode cX9_join 21 = .ok (.aload_n 0, 1) := by decide +kernel
theorem dX9_join_22 : decode cX9_join 22 = .ok (.getfield 20, 3) := by decide +kernel
theorem dX9_join_25 : decode cX9_join 25 = .ok (.iload_n 1, 1) := by decide +kernel
theorem dX9_join_26 : decode cX9_join 26 = .ok (.aaload, 1) := by decide +kernel
theorem dX9_join_27 : decode cX9_join 27 = .ok (.astore_n 3, 1) := by decide +kernel
theorem dX9_join_28 : decode cX9_join 28 = .ok (.aload_n 3, 1) := by decide +kernel
theorem dX9_join_29 : decode cX9_join 29 = .ok (.iload_n 2, 1) := by decide +kernel
theorem dX9_join_30 : decode cX9_join 30 = .ok (.invokevirtual 129, 3) := by decide +kernel
theorem dX9_join_33 : decode cX9_join 33 = .ok (.ifCond .eq 6, 3) := by decide +kernel
theorem dX9_join_36 : decode cX9_join 36 = .ok (.bipush (-3), 2) := by decide +kernel
theorem dX9_join_38 : decode cX9_join 38 = .ok (.ireturn, 1) := by decide +kernel
theorem dX9_join_39 : decode cX9_join 39 = .ok (.aload_n 3, 1) := by decide +kernel
theorem dX9_join_40 : decode cX9_join 40 = .ok (.getfield 132, 3) := by decide +kernel
theorem dX9_join_43 : decode cX9_join 43 = .ok (.bipush 8, 2) := by decide +kernel
theorem dX9_join_45 : decode cX9_join 45 = .ok (.if_icmp .lt 6, 3) := by decide +kernel
theorem dX9_join_48 : decode cX9_join 48 = .ok (.bipush (-4), 2) := by decide +kernel
theorem dX9_join_50 : decode cX9_join 50 = .ok (.ireturn, 1) := by decide +kernel
theorem dX9_join_51 : decode cX9_join 51 = .ok (.aload_n 3, 1) := by decide +kernel
theorem dX9_join_52 : decode cX9_join 52 = .ok (.iload_n 2, 1) := by decide +kernel
theorem dX9_join_53 : decode cX9_join 53 = .ok (.invokevirtual 135, 3) := by decide +kernel
theorem dX9_join_56 : decode cX9_join 56 = .ok (.aload_n 3, 1) := by decide +kernel
theorem dX9_join_57 : decode cX9_join 57 = .ok (.getfield 132, 3) := by decide +kernel
theorem dX9_join_60 : decode cX9_join 60 = .ok (.ireturn, 1) := by decide +kernel
theorem dX9_beat_0 : decode cX9_beat 0 = .ok (.aload_n 0, 1) := by decide +kernel
theorem dX9_beat_1 : decode cX9_beat 1 = .ok (.iload_n 1, 1) := by decide +kernel
theorem dX9_beat_2 : decode cX9_beat 2 = .ok (.invokevirtual 126, 3) := by decide +kernel
theorem dX9_beat_5 : decode cX9_beat 5 = .ok (.ifCond .ne 5, 3) := by decide +kernel
theorem dX9_beat_8 : decode cX9_beat 8 = .ok (.iconst (-1), 1) := by decide +kernel
theorem dX9_beat_9 : decode cX9_beat 9 = .ok (.ireturn, 1) := by decide +kernel
theorem dX9_beat_10 : decode cX9_beat 10 = .ok (.iload_n 2, 1) := by decide +kernel
theorem dX9_beat_11 : decode cX9_beat 11 = .ok (.iconst 1, 1) := by decide +kernel
theorem dX9_beat_12 : decode cX9_beat 12 = .ok (.bipush 9, 2) := by decide +kernel
theorem dX9_beat_14 : decode cX9_beat 14 = .ok (.invokestatic 97, 3) := by decide +kernel
theorem dX9_beat_17 : decode cX9_beat 17 = .ok (.ifCond .ne 6, 3) := by decide +kernel
theorem dX9_beat_20 : decode cX9_beat 20 = .ok (.bipush (-2), 2) := by decide +kernel
theorem dX9_beat_22 : decode cX9_beat 22 = .ok (.ireturn, 1) := by decide +kernel
theorem dX9_beat_23 : decode cX9_beat 23 = .ok (.aload_n 0, 1) := by decide +kernel
theorem dX9_beat_24 : decode cX9_beat 24 = .ok (.getfield 20, 3) := by decide +kernel
theorem dX9_beat_27 : decode cX9_beat 27 = .ok (.iload_n 1, 1) := by decide +kernel
theorem dX9_beat_28 : decode cX9_beat 28 = .ok (.aaload, 1) := by decide +kernel
theorem dX9_beat_29 : decode cX9_beat 29 = .ok (.getfield 139, 3) := by decide +kernel
theorem dX9_beat_32 : decode cX9_beat 32 = .ok (.istore_n 3, 1) := by decide +kernel
theorem dX9_beat_33 : decode cX9_beat 33 = .ok (.aload_n 0, 1) := by decide +kernel
theorem dX9_beat_34 : decode cX9_beat 34 = .ok (.getfield 20, 3) := by decide +kernel
theorem dX9_beat_37 : decode cX9_beat 37 = .ok (.iload_n 1, 1) := by decide +kernel
theorem dX9_beat_38 : decode cX9_beat 38 = .ok (.aaload, 1) := by decide +kernel
theorem dX9_beat_39 : decode cX9_beat 39 = .ok (.iload_n 2, 1) := by decide +kernel
theorem dX9_beat_40 : decode cX9_beat 40 = .ok (.putfield 139, 3) := by decide +kernel
theorem dX9_beat_43 : decode cX9_beat 43 = .ok (.iload_n 3, 1) := by decide +kernel
theorem dX9_beat_44 : decode cX9_beat 44 = .ok (.ireturn, 1) := by decide +kernel
theorem dX1_seatCount_0 : decode cX1_seatCount 0 = .ok (.iconst 2, 1) := by decide +kernel
theorem dX1_seatCount_1 : decode cX1_seatCount 1 = .ok (.aload_n 0, 1) := by decide +kernel
theorem dX1_seatCount_2 : decode cX1_seatCount 2 = .ok (.getfield 9, 3) := by decide +kernel
theorem dX1_seatCount_5 : decode cX1_seatCount 5 = .ok (.imul, 1) := by decide +kernel
theorem dX1_seatCount_6 : decode cX1_seatCount 6 = .ok (.ireturn, 1) := by decide +kernel
theorem dX6_loadMembers_0 : decode cX6_loadMembers 0 = .ok (.iconst 0, 1) := by decide +kernel
theorem dX6_loadMembers_1 : decode cX6_loadMembers 1 = .ok (.istore_n 3, 1) := by decide +kernel
theorem dX6_loadMembers_2 : decode cX6_loadMembers 2 = .ok (.iload_n 3, 1) := by decide +kernel
theorem dX6_loadMembers_3 : decode cX6_loadMembers 3 = .ok (.aload_n 0, 1) := by decide +kernel
theorem dX6_loadMembers_4 : decode cX6_loadMembers 4 = .ok (.getfield 22, 3) := by decide +kernel
theorem dX6_loadMembers_7 : decode cX6_loadMembers 7 = .ok (.if_icmp .ge 110, 3) := by decide +kernel
theorem dX6_loadMembers_10 : decode cX6_loadMembers 10 = .ok (.aload_n 2, 1) := by decide +kernel
theorem dX6_loadMembers_11 : decode cX6_loadMembers 11 = .ok (.getfield 97, 3) := by decide +kernel
theorem dX6_loadMembers_14 : decode cX6_loadMembers 14 = .ok (.iload_n 3, 1) := by decide +kernel
theorem dX6_loadMembers_15 : decode cX6_loadMembers 15 = .ok (.iaload, 1) := by decide +kernel
theorem dX6_loadMembers_16 : decode cX6_loadMembers 16 = .ok (.istore 4, 2) := by decide +kernel
theorem dX6_loadMembers_18 : decode cX6_loadMembers 18 = .ok (.aload_n 0, 1) := by decide +kernel
theorem dX6_loadMembers_19 : decode cX6_loadMembers 19 = .ok (.getfield 25, 3) := by decide +kernel
theorem dX6_loadMembers_22 : decode cX6_loadMembers 22 = .ok (.iload_n 3, 1) := by decide +kernel
theorem dX6_loadMembers_23 : decode cX6_loadMembers 23 = .ok (.aload_n 1, 1) := by decide +kernel
theorem dX6_loadMembers_24 : decode cX6_loadMembers 24 = .ok (.getfield 99, 3) := by decide +kernel
theorem dX6_loadMembers_27 : decode cX6_loadMembers 27 = .ok (.iload 4, 2) := by decide +kernel
theorem dX6_loadMembers_29 : decode cX6_loadMembers 29 = .ok (.iaload, 1) := by decide +kernel
theorem dX6_loadMembers_30 : decode cX6_loadMembers 30 = .ok (.iastore, 1) := by decide +kernel
theorem dX6_loadMembers_31 : decode cX6_loadMembers 31 = .ok (.aload_n 0, 1) := by decide +kernel
theorem dX6_loadMembers_32 : decode cX6_loadMembers 32 = .ok (.getfield 29, 3) := by decide +kernel
theorem dX6_loadMembers_35 : decode cX6_loadMembers 35 = .ok (.iload_n 3, 1) := by decide +kernel
theorem dX6_loadMembers_36 : decode cX6_loadMembers 36 = .ok (.aload_n 1, 1) := by decide +kernel
theorem dX6_loadMembers_37 : decode cX6_loadMembers 37 = .ok (.getfield 102, 3) := by decide +kernel
theorem dX6_loadMembers_40 : decode cX6_loadMembers 40 = .ok (.iload 4, 2) := by decide +kernel
theorem dX6_loadMembers_42 : decode cX6_loadMembers 42 = .ok (.iaload, 1) := by decide +kernel
theorem dX6_loadMembers_43 : decode cX6_loadMembers 43 = .ok (.iastore, 1) := by decide +kernel
theorem dX6_loadMembers_44 : decode cX6_loadMembers 44 = .ok (.aload_n 0, 1) := by decide +kernel
theorem dX6_loadMembers_45 : decode cX6_loadMembers 45 = .ok (.getfield 32, 3) := by decide +kernel
theorem dX6_loadMembers_48 : decode cX6_loadMembers 48 = .ok (.iload_n 3, 1) := by decide +kernel
theorem dX6_loadMembers_49 : decode cX6_loadMembers 49 = .ok (.aload_n 1, 1) := by decide +kernel
theorem dX6_loadMembers_50 : decode cX6_loadMembers 50 = .ok (.getfield 103, 3) := by decide +kernel
theorem dX6_loadMembers_53 : decode cX6_loadMembers 53 = .ok (.iload 4, 2) := by decide +kernel
theorem dX6_loadMembers_55 : decode cX6_loadMembers 55 = .ok (.iaload, 1) := by decide +kernel
theorem dX6_loadMembers_56 : decode cX6_loadMembers 56 = .ok (.iastore, 1) := by decide +kernel
theorem dX6_loadMembers_57 : decode cX6_loadMembers 57 = .ok (.aload_n 0, 1) := by decide +kernel
theorem dX6_loadMembers_58 : decode cX6_loadMembers 58 = .ok (.getfield 35, 3) := by decide +kernel
theorem dX6_loadMembers_61 : decode cX6_loadMembers 61 = .ok (.iload_n 3, 1) := by decide +kernel
theorem dX6_loadMembers_62 : decode cX6_loadMembers 62 = .ok (.iconst 0, 1) := by decide +kernel
theorem dX6_loadMembers_63 : decode cX6_loadMembers 63 = .ok (.iastore, 1) := by decide +kernel
theorem dX6_loadMembers_64 : decode cX6_loadMembers 64 = .ok (.iconst 0, 1) := by decide +kernel
theorem dX6_loadMembers_65 : decode cX6_loadMembers 65 = .ok (.istore 5, 2) := by decide +kernel
theorem dX6_loadMembers_67 : decode cX6_loadMembers 67 = .ok (.iload 5, 2) := by decide +kernel
theorem dX6_loadMembers_69 : decode cX6_loadMembers 69 = .ok (.aload_n 0, 1) := by decide +kernel
theorem dX6_loadMembers_70 : decode cX6_loadMembers 70 = .ok (.getfield 22, 3) := by decide +kernel
theorem dX6_loadMembers_73 : decode cX6_loadMembers 73 = .ok (.if_icmp .ge 38, 3) := by decide +kernel
theorem dX6_loadMembers_76 : decode cX6_loadMembers 76 = .ok (.aload_n 1, 1) := by decide +kernel
theorem dX6_loadMembers_77 : decode cX6_loadMembers 77 = .ok (.iload 4, 2) := by decide +kernel
theorem dX6_loadMembers_79 : decode cX6_loadMembers 79 = .ok (.aload_n 2, 1) := by decide +kernel
theorem dX6_loadMembers_80 : decode cX6_loadMembers 80 = .ok (.getfield 97, 3) := by decide +kernel
theorem dX6_loadMembers_83 : decode cX6_loadMembers 83 = .ok (.iload 5, 2) := by decide +kernel
theorem dX6_loadMembers_85 : decode cX6_loadMembers 85 = .ok (.iaload, 1) := by decide +kernel
theorem dX6_loadMembers_86 : decode cX6_loadMembers 86 = .ok (.invokevirtual 104, 3) := by decide +kernel
theorem dX6_loadMembers_89 : decode cX6_loadMembers 89 = .ok (.ifCond .eq 16, 3) := by decide +kernel
theorem dX6_loadMembers_92 : decode cX6_loadMembers 92 = .ok (.aload_n 0, 1) := by decide +kernel
theorem dX6_loadMembers_93 : decode cX6_loadMembers 93 = .ok (.getfield 35, 3) := by decide +kernel
theorem dX6_loadMembers_96 : decode cX6_loadMembers 96 = .ok (.iload_n 3, 1) := by decide +kernel
theorem dX6_loadMembers_97 : decode cX6_loadMembers 97 = .ok (.dup2, 1) := by decide +kernel
theorem dX6_loadMembers_98 : decode cX6_loadMembers 98 = .ok (.iaload, 1) := by decide +kernel
theorem dX6_loadMembers_99 : decode cX6_loadMembers 99 = .ok (.iconst 1, 1) := by decide +kernel
theorem dX6_loadMembers_100 : decode cX6_loadMembers 100 = .ok (.iload 5, 2) := by decide +kernel
theorem dX6_loadMembers_102 : decode cX6_loadMembers 102 = .ok (.ishl, 1) := by decide +kernel
theorem dX6_loadMembers_103 : decode cX6_loadMembers 103 = .ok (.ior, 1) := by decide +kernel
theorem dX6_loadMembers_104 : decode cX6_loadMembers 104 = .ok (.iastore, 1) := by decide +kernel
theorem dX6_loadMembers_105 : decode cX6_loadMembers 105 = .ok (.iinc 5 1, 3) := by decide +kernel
theorem dX6_loadMembers_108 : decode cX6_loadMembers 108 = .ok (.goto (-41), 3) := by decide +kernel
theorem dX6_loadMembers_111 : decode cX6_loadMembers 111 = .ok (.iinc 3 1, 3) := by decide +kernel
theorem dX6_loadMembers_114 : decode cX6_loadMembers 114 = .ok (.goto (-112), 3) := by decide +kernel
theorem dX6_loadMembers_117 : decode cX6_loadMembers 117 = .ok (.return_, 1) := by decide +kernel
theorem dX1_pitchFactor_0 : decode cX1_pitchFactor 0 = .ok (.iconst 2, 1) := by decide +kernel
theorem dX1_pitchFactor_1 : decode cX1_pitchFactor 1 = .ok (.iload_n 1, 1) := by decide +kernel
theorem dX1_pitchFactor_2 : decode cX1_pitchFactor 2 = .ok (.imul, 1) := by decide +kernel
theorem dX1_pitchFactor_3 : decode cX1_pitchFactor 3 = .ok (.aload_n 0, 1) := by decide +kernel
theorem dX1_pitchFactor_4 : decode cX1_pitchFactor 4 = .ok (.getfield 9, 3) := by decide +kernel
theorem dX1_pitchFactor_7 : decode cX1_pitchFactor 7 = .ok (.iconst 1, 1) := by decide +kernel
theorem dX1_pitchFactor_8 : decode cX1_pitchFactor 8 = .ok (.isub, 1) := by decide +kernel
theorem dX1_pitchFactor_9 : decode cX1_pitchFactor 9 = .ok (.isub, 1) := by decide +kernel
theorem dX1_pitchFactor_10 : decode cX1_pitchFactor 10 = .ok (.ireturn, 1) := by decide +kernel
theorem dX1_middleFactor_0 : decode cX1_middleFactor 0 = .ok (.iload_n 1, 1) := by decide +kernel
theorem dX1_middleFactor_1 : decode cX1_middleFactor 1 = .ok (.aload_n 0, 1) := by decide +kernel
theorem dX1_middleFactor_2 : decode cX1_middleFactor 2 = .ok (.getfield 9, 3) := by decide +kernel
theorem dX1_middleFactor_5 : decode cX1_middleFactor 5 = .ok (.iconst 1, 1) := by decide +kernel
theorem dX1_middleFactor_6 : decode cX1_middleFactor 6 = .ok (.isub, 1) := by decide +kernel
theorem dX1_middleFactor_7 : decode cX1_middleFactor 7 = .ok (.iload_n 1, 1) := by decide +kernel
theorem dX1_middleFactor_8 : decode cX1_middleFactor 8 = .ok (.isub, 1) := by decide +kernel
theorem dX1_middleFactor_9 : decode cX1_middleFactor 9 = .ok (.invokestatic 39, 3) := by decide +kernel
theorem dX1_middleFactor_12 : decode cX1_middleFactor 12 = .ok (.ireturn, 1) := by decide +kernel
theorem dX6_loadBounds_0 : decode cX6_loadBounds 0 = .ok (.aload_n 0, 1) := by decide +kernel
theorem dX6_loadBounds_1 : decode cX6_loadBounds 1 = .ok (.getfield 25, 3) := by decide +kernel
theorem dX6_loadBounds_4 : decode cX6_loadBounds 4 = .ok (.iconst 0, 1) := by decide +kernel
theorem dX6_loadBounds_5 : decode cX6_loadBounds 5 = .ok (.iaload, 1) := by decide +kernel
theorem dX6_loadBounds_6 : decode cX6_loadBounds 6 = .ok (.istore_n 2, 1) := by decide +kernel
theorem dX6_loadBounds_7 : decode cX6_loadBounds 7 = .ok (.aload_n 0, 1) := by decide +kernel
theorem dX6_loadBounds_8 : decode cX6_loadBounds 8 = .ok (.getfield 25, 3) := by decide +kernel
theorem dX6_loadBounds_11 : decode cX6_loadBounds 11 = .ok (.iconst 0, 1) := by decide +kernel
theorem dX6_loadBounds_12 : decode cX6_loadBounds 12 = .ok (.iaload, 1) := by decide +kernel
theorem dX6_loadBounds_13 : decode cX6_loadBounds 13 = .ok (.istore_n 3, 1) := by decide +kernel
theorem dX6_loadBounds_14 : decode cX6_loadBounds 14 = .ok (.aload_n 0, 1) := by decide +kernel
theorem dX6_loadBounds_15 : decode cX6_loadBounds 15 = .ok (.getfield 29, 3) := by decide +kernel
theorem dX6_loadBounds_18 : decode cX6_loadBounds 18 = .ok (.iconst 0, 1) := by decide +kernel
theorem dX6_loadBounds_19 : decode cX6_loadBounds 19 = .ok (.iaload, 1) := by decide +kernel
theorem dX6_loadBounds_20 : decode cX6_loadBounds 20 = .ok (.istore 4, 2) := by decide +kernel
theorem dX6_loadBounds_22 : decode cX6_loadBounds 22 = .ok (.iconst 0, 1) := by decide +kernel
theorem dX6_loadBounds_23 : decode cX6_loadBounds 23 = .ok (.istore 5, 2) := by decide +kernel
theorem dX6_loadBounds_25 : decode cX6_loadBounds 25 = .ok (.iconst 0, 1) := by decide +kernel
theorem dX6_loadBounds_26 : decode cX6_loadBounds 26 = .ok (.istore 6, 2) := by decide +kernel
theorem dX6_loadBounds_28 : decode cX6_loadBounds 28 = .ok (.iload 6, 2) := by decide +kernel
theorem dX6_loadBounds_30 : decode cX6_loadBounds 30 = .ok (.aload_n 0, 1) := by decide +kernel
theorem dX6_loadBounds_31 : decode cX6_loadBounds 31 = .ok (.getfield 22, 3) := by decide +kernel
theorem dX6_loadBounds_34 : decode cX6_loadBounds 34 = .ok (.if_icmp .ge 59, 3) := by decide +kernel
theorem dX6_loadBounds_37 : decode cX6_loadBounds 37 = .ok (.iload_n 2, 1) := by decide +kernel
theorem dX6_loadBounds_38 : decode cX6_loadBounds 38 = .ok (.aload_n 0, 1) := by decide +kernel
theorem dX6_loadBounds_39 : decode cX6_loadBounds 39 = .ok (.getfield 25, 3) := by decide +kernel
theorem dX6_loadBounds_42 : decode cX6_loadBounds 42 = .ok (.iload 6, 2) := by decide +kernel
theorem dX6_loadBounds_44 : decode cX6_loadBounds 44 = .ok (.iaload, 1) := by decide +kernel
theorem dX6_loadBounds_45 : decode cX6_loadBounds 45 = .ok (.invokestatic 71, 3) := by decide +kernel
theorem dX6_loadBounds_48 : decode cX6_loadBounds 48 = .ok (.istore_n 2, 1) := by decide +kernel
theorem dX6_loadBounds_49 : decode cX6_loadBounds 49 = .ok (.iload_n 3, 1) := by decide +kernel
theorem dX6_loadBounds_50 : decode cX6_loadBounds 50 = .ok (.aload_n 0, 1) := by decide +kernel
theorem dX6_loadBounds_51 : decode cX6_loadBounds 51 = .ok (.getfield 25, 3) := by decide +kernel
theorem dX6_loadBounds_54 : decode cX6_loadBounds 54 = .ok (.iload 6, 2) := by decide +kernel
theorem dX6_loadBounds_56 : decode cX6_loadBounds 56 = .ok (.iaload, 1) := by decide +kernel
theorem dX6_loadBounds_57 : decode cX6_loadBounds 57 = .ok (.invokestatic 108, 3) := by decide +kernel
theorem dX6_loadBounds_60 : decode cX6_loadBounds 60 = .ok (.istore_n 3, 1) := by decide +kernel
theorem dX6_loadBounds_61 : decode cX6_loadBounds 61 = .ok (.iload 4, 2) := by decide +kernel
theorem dX6_loadBounds_63 : decode cX6_loadBounds 63 = .ok (.aload_n 0, 1) := by decide +kernel
theorem dX6_loadBounds_64 : decode cX6_loadBounds 64 = .ok (.getfield 29, 3) := by decide +kernel
theorem dX6_loadBounds_67 : decode cX6_loadBounds 67 = .ok (.iload 6, 2) := by decide +kernel
theorem dX6_loadBounds_69 : decode cX6_loadBounds 69 = .ok (.iaload, 1) := by decide +kernel
theorem dX6_loadBounds_70 : decode cX6_loadBounds 70 = .ok (.invokestatic 108, 3) := by decide +kernel
theorem dX6_loadBounds_73 : decode cX6_loadBounds 73 = .ok (.istore 4, 2) := by decide +kernel
theorem dX6_loadBounds_75 : decode cX6_loadBounds 75 = .ok (.iload 5, 2) := by decide +kernel
theorem dX6_loadBounds_77 : decode cX6_loadBounds 77 = .ok (.aload_n 0, 1) := by decide +kernel
theorem dX6_loadBounds_78 : decode cX6_loadBounds 78 = .ok (.getfield 35, 3) := by decide +kernel
theorem dX6_loadBounds_81 : decode cX6_loadBounds 81 = .ok (.iload 6, 2) := by decide +kernel
theorem dX6_loadBounds_83 : decode cX6_loadBounds 83 = .ok (.iaload, 1) := by decide +kernel
theorem dX6_loadBounds_84 : decode cX6_loadBounds 84 = .ok (.ior, 1) := by decide +kernel
theorem dX6_loadBounds_85 : decode cX6_loadBounds 85 = .ok (.istore 5, 2) := by decide +kernel
theorem dX6_loadBounds_87 : decode cX6_loadBounds 87 = .ok (.iinc 6 1, 3) := by decide +kernel
theorem dX6_loadBounds_90 : decode cX6_loadBounds 90 = .ok (.goto (-62), 3) := by decide +kernel
theorem dX6_loadBounds_93 : decode cX6_loadBounds 93 = .ok (.iload 5, 2) := by decide +kernel
theorem dX6_loadBounds_95 : decode cX6_loadBounds 95 = .ok (.ifCond .eq 8, 3) := by decide +kernel
theorem dX6_loadBounds_98 : decode cX6_loadBounds 98 = .ok (.bipush 20, 2) := by decide +kernel
theorem dX6_loadBounds_100 : decode cX6_loadBounds 100 = .ok (.goto 4, 3) := by decide +kernel
theorem dX6_loadBounds_103 : decode cX6_loadBounds 103 = .ok (.iconst 0, 1) := by decide +kernel
theorem dX6_loadBounds_104 : decode cX6_loadBounds 104 = .ok (.istore 6, 2) := by decide +kernel
theorem dX6_loadBounds_106 : decode cX6_loadBounds 106 = .ok (.aload_n 0, 1) := by decide +kernel
theorem dX6_loadBounds_107 : decode cX6_loadBounds 107 = .ok (.getfield 50, 3) := by decide +kernel
theorem dX6_loadBounds_110 : decode cX6_loadBounds 110 = .ok (.aload_n 0, 1) := by decide +kernel
theorem dX6_loadBounds_111 : decode cX6_loadBounds 111 = .ok (.getfield 19, 3) := by decide +kernel
theorem dX6_loadBounds_114 : decode cX6_loadBounds 114 = .ok (.iconst 0, 1) := by decide +kernel
theorem dX6_loadBounds_115 : decode cX6_loadBounds 115 = .ok (.iastore, 1) := by decide +kernel
theorem dX6_loadBounds_116 : decode cX6_loadBounds 116 = .ok (.aload_n 0, 1) := by decide +kernel
theorem dX6_loadBounds_117 : decode cX6_loadBounds 117 = .ok (.getfield 53, 3) := by decide +kernel
theorem dX6_loadBounds_120 : decode cX6_loadBounds 120 = .ok (.aload_n 0, 1) := by decide +kernel
theorem dX6_loadBounds_121 : decode cX6_loadBounds 121 = .ok (.getfield 19, 3) := by decide +kernel
theorem dX6_loadBounds_124 : decode cX6_loadBounds 124 = .ok (.iconst 0, 1) := by decide +kernel
theorem dX6_loadBounds_125 : decode cX6_loadBounds 125 = .ok (.iastore, 1) := by decide +kernel
theorem dX6_loadBounds_126 : decode cX6_loadBounds 126 = .ok (.aload_n 0, 1) := by decide +kernel
theorem dX6_loadBounds_127 : decode cX6_loadBounds 127 = .ok (.getfield 56, 3) := by decide +kernel
theorem dX6_loadBounds_130 : decode cX6_loadBounds 130 = .ok (.aload_n 0, 1) := by decide +kernel
theorem dX6_loadBounds_131 : decode cX6_loadBounds 131 = .ok (.getfield 19, 3) := by decide +kernel
theorem dX6_loadBounds_134 : decode cX6_loadBounds 134 = .ok (.iconst 0, 1) := by decide +kernel
theorem dX6_loadBounds_135 : decode cX6_loadBounds 135 = .ok (.iastore, 1) := by decide +kernel
theorem dX6_loadBounds_136 : decode cX6_loadBounds 136 = .ok (.aload_n 0, 1) := by decide +kernel
theorem dX6_loadBounds_137 : decode cX6_loadBounds 137 = .ok (.getfield 59, 3) := by decide +kernel
theorem dX6_loadBounds_140 : decode cX6_loadBounds 140 = .ok (.aload_n 0, 1) := by decide +kernel
theorem dX6_loadBounds_141 : decode cX6_loadBounds 141 = .ok (.getfield 19, 3) := by decide +kernel
theorem dX6_loadBounds_144 : decode cX6_loadBounds 144 = .ok (.iconst 0, 1) := by decide +kernel
theorem dX6_loadBounds_145 : decode cX6_loadBounds 145 = .ok (.iastore, 1) := by decide +kernel
theorem dX6_loadBounds_146 : decode cX6_loadBounds 146 = .ok (.aload_n 0, 1) := by decide +kernel
theorem dX6_loadBounds_147 : decode cX6_loadBounds 147 = .ok (.getfield 62, 3) := by decide +kernel
theorem dX6_loadBounds_150 : decode cX6_loadBounds 150 = .ok (.aload_n 0, 1) := by decide +kernel
theorem dX6_loadBounds_151 : decode cX6_loadBounds 151 = .ok (.getfield 19, 3) := by decide +kernel
theorem dX6_loadBounds_154 : decode cX6_loadBounds 154 = .ok (.iconst 0, 1) := by decide +kernel
theorem dX6_loadBounds_155 : decode cX6_loadBounds 155 = .ok (.iastore, 1) := by decide +kernel
theorem dX6_loadBounds_156 : decode cX6_loadBounds 156 = .ok (.aload_n 0, 1) := by decide +kernel
theorem dX6_loadBounds_157 : decode cX6_loadBounds 157 = .ok (.getfield 19, 3) := by decide +kernel
theorem dX6_loadBounds_160 : decode cX6_loadBounds 160 = .ok (.iconst 1, 1) := by decide +kernel
theorem dX6_loadBounds_161 : decode cX6_loadBounds 161 = .ok (.isub, 1) := by decide +kernel
theorem dX6_loadBounds_162 : decode cX6_loadBounds 162 = .ok (.istore 7, 2) := by decide +kernel
theorem dX6_loadBounds_164 : decode cX6_loadBounds 164 = .ok (.iload 7, 2) := by decide +kernel
theorem dX6_loadBounds_166 : decode cX6_loadBounds 166 = .ok (.ifCond .lt 214, 3) := by decide +kernel
theorem dX6_loadBounds_169 : decode cX6_loadBounds 169 = .ok (.iload 7, 2) := by decide +kernel
theorem dX6_loadBounds_171 : decode cX6_loadBounds 171 = .ok (.iconst 2, 1) := by decide +kernel
theorem dX6_loadBounds_172 : decode cX6_loadBounds 172 = .ok (.idiv, 1) := by decide +kernel
theorem dX6_loadBounds_173 : decode cX6_loadBounds 173 = .ok (.istore 8, 2) := by decide +kernel
theorem dX6_loadBounds_175 : decode cX6_loadBounds 175 = .ok (.iload 7, 2) := by decide +kernel
theorem dX6_loadBounds_177 : decode cX6_loadBounds 177 = .ok (.iconst 2, 1) := by decide +kernel
theorem dX6_loadBounds_178 : decode cX6_loadBounds 178 = .ok (.irem, 1) := by decide +kernel
theorem dX6_loadBounds_179 : decode cX6_loadBounds 179 = .ok (.ifCond .ne 7, 3) := by decide +kernel
theorem dX6_loadBounds_182 : decode cX6_loadBounds 182 = .ok (.iconst 1, 1) := by decide +kernel
theorem dX6_loadBounds_183 : decode cX6_loadBounds 183 = .ok (.goto 4, 3) := by decide +kernel
theorem dX6_loadBounds_186 : decode cX6_loadBounds 186 = .ok (.iconst 0, 1) := by decide +kernel
theorem dX6_loadBounds_187 : decode cX6_loadBounds 187 = .ok (.istore 9, 2) := by decide +kernel
theorem dX6_loadBounds_189 : decode cX6_loadBounds 189 = .ok (.aload_n 1, 1) := by decide +kernel
theorem dX6_loadBounds_190 : decode cX6_loadBounds 190 = .ok (.iload 8, 2) := by decide +kernel
theorem dX6_loadBounds_192 : decode cX6_loadBounds 192 = .ok (.invokevirtual 113, 3) := by decide +kernel
theorem dX6_loadBounds_195 : decode cX6_loadBounds 195 = .ok (.istore 10, 2) := by decide +kernel
theorem dX6_loadBounds_197 : decode cX6_loadBounds 197 = .ok (.aload_n 0, 1) := by decide +kernel
theorem dX6_loadBounds_198 : decode cX6_loadBounds 198 = .ok (.getfield 38, 3) := by decide +kernel
theorem dX6_loadBounds_201 : decode cX6_loadBounds 201 = .ok (.iload 7, 2) := by decide +kernel
theorem dX6_loadBounds_203 : decode cX6_loadBounds 203 = .ok (.iload 10, 2) := by decide +kernel
theorem dX6_loadBounds_205 : decode cX6_loadBounds 205 = .ok (.iastore, 1) := by decide +kernel
theorem dX6_loadBounds_206 : decode cX6_loadBounds 206 = .ok (.aload_n 0, 1) := by decide +kernel
theorem dX6_loadBounds_207 : decode cX6_loadBounds 207 = .ok (.getfield 41, 3) := by decide +kernel
theorem dX6_loadBounds_210 : decode cX6_loadBounds 210 = .ok (.iload 7, 2) := by decide +kernel
theorem dX6_loadBounds_212 : decode cX6_loadBounds 212 = .ok (.aload_n 1, 1) := by decide +kernel
theorem dX6_loadBounds_213 : decode cX6_loadBounds 213 = .ok (.iload 8, 2) := by decide +kernel
theorem dX6_loadBounds_215 : decode cX6_loadBounds 215 = .ok (.invokevirtual 116, 3) := by decide +kernel
theorem dX6_loadBounds_218 : decode cX6_loadBounds 218 = .ok (.iastore, 1) := by decide +kernel
theorem dX6_loadBounds_219 : decode cX6_loadBounds 219 = .ok (.aload_n 0, 1) := by decide +kernel
theorem dX6_loadBounds_220 : decode cX6_loadBounds 220 = .ok (.getfield 50, 3) := by decide +kernel
theorem dX6_loadBounds_223 : decode cX6_loadBounds 223 = .ok (.iload 7, 2) := by decide +kernel
theorem dX6_loadBounds_225 : decode cX6_loadBounds 225 = .ok (.aload_n 0, 1) := by decide +kernel
theorem dX6_loadBounds_226 : decode cX6_loadBounds 226 = .ok (.getfield 50, 3) := by decide +kernel
theorem dX6_loadBounds_229 : decode cX6_loadBounds 229 = .ok (.iload 7, 2) := by decide +kernel
theorem dX6_loadBounds_231 : decode cX6_loadBounds 231 = .ok (.iconst 1, 1) := by decide +kernel
theorem dX6_loadBounds_232 : decode cX6_loadBounds 232 = .ok (.iadd, 1) := by decide +kernel
theorem dX6_loadBounds_233 : decode cX6_loadBounds 233 = .ok (.iaload, 1) := by decide +kernel
theorem dX6_loadBounds_234 : decode cX6_loadBounds 234 = .ok (.iload 9, 2) := by decide +kernel
theorem dX6_loadBounds_236 : decode cX6_loadBounds 236 = .ok (.ifCond .eq 7, 3) := by decide +kernel
theorem dX6_loadBounds_239 : decode cX6_loadBounds 239 = .ok (.iload_n 2, 1) := by decide +kernel
theorem dX6_loadBounds_240 : decode cX6_loadBounds 240 = .ok (.goto 5, 3) := by decide +kernel
theorem dX6_loadBounds_243 : decode cX6_loadBounds 243 = .ok (.iload_n 3, 1) := by decide +kernel
theorem dX6_loadBounds_244 : decode cX6_loadBounds 244 = .ok (.ineg, 1) := by decide +kernel
theorem dX6_loadBounds_245 : decode cX6_loadBounds 245 = .ok (.iadd, 1) := by decide +kernel
theorem dX6_loadBounds_246 : decode cX6_loadBounds 246 = .ok (.iastore, 1) := by decide +kernel
theorem dX6_loadBounds_247 : decode cX6_loadBounds 247 = .ok (.aload_n 0, 1) := by decide +kernel
theorem dX6_loadBounds_248 : decode cX6_loadBounds 248 = .ok (.getfield 53, 3) := by decide +kernel
theorem dX6_loadBounds_251 : decode cX6_loadBounds 251 = .ok (.iload 7, 2) := by decide +kernel
theorem dX6_loadBounds_253 : decode cX6_loadBounds 253 = .ok (.aload_n 0, 1) := by decide +kernel
theorem dX6_loadBounds_254 : decode cX6_loadBounds 254 = .ok (.getfield 53, 3) := by decide +kernel
theorem dX6_loadBounds_257 : decode cX6_loadBounds 257 = .ok (.iload 7, 2) := by decide +kernel
theorem dX6_loadBounds_259 : decode cX6_loadBounds 259 = .ok (.iconst 1, 1) := by decide +kernel
theorem dX6_loadBounds_260 : decode cX6_loadBounds 260 = .ok (.iadd, 1) := by decide +kernel
theorem dX6_loadBounds_261 : decode cX6_loadBounds 261 = .ok (.iaload, 1) := by decide +kernel
theorem dX6_loadBounds_262 : decode cX6_loadBounds 262 = .ok (.iload 9, 2) := by decide +kernel
theorem dX6_loadBounds_264 : decode cX6_loadBounds 264 = .ok (.ifCond .eq 7, 3) := by decide +kernel
theorem dX6_loadBounds_267 : decode cX6_loadBounds 267 = .ok (.iload_n 3, 1) := by decide +kernel
theorem dX6_loadBounds_268 : decode cX6_loadBounds 268 = .ok (.goto 5, 3) := by decide +kernel
theorem dX6_loadBounds_271 : decode cX6_loadBounds 271 = .ok (.iload_n 2, 1) := by decide +kernel
theorem dX6_loadBounds_272 : decode cX6_loadBounds 272 = .ok (.ineg, 1) := by decide +kernel
theorem dX6_loadBounds_273 : decode cX6_loadBounds 273 = .ok (.iadd, 1) := by decide +kernel
theorem dX6_loadBounds_274 : decode cX6_loadBounds 274 = .ok (.iastore, 1) := by decide +kernel
theorem dX6_loadBounds_275 : decode cX6_loadBounds 275 = .ok (.aload_n 0, 1) := by decide +kernel
theorem dX6_loadBounds_276 : decode cX6_loadBounds 276 = .ok (.getfield 56, 3) := by decide +kernel
theorem dX6_loadBounds_279 : decode cX6_loadBounds 279 = .ok (.iload 7, 2) := by decide +kernel
theorem dX6_loadBounds_281 : decode cX6_loadBounds 281 = .ok (.aload_n 0, 1) := by decide +kernel
theorem dX6_loadBounds_282 : decode cX6_loadBounds 282 = .ok (.getfield 56, 3) := by decide +kernel
theorem dX6_loadBounds_285 : decode cX6_loadBounds 285 = .ok (.iload 7, 2) := by decide +kernel
theorem dX6_loadBounds_287 : decode cX6_loadBounds 287 = .ok (.iconst 1, 1) := by decide +kernel
theorem dX6_loadBounds_288 : decode cX6_loadBounds 288 = .ok (.iadd, 1) := by decide +kernel
theorem dX6_loadBounds_289 : decode cX6_loadBounds 289 = .ok (.iaload, 1) := by decide +kernel
theorem dX6_loadBounds_290 : decode cX6_loadBounds 290 = .ok (.iload 10, 2) := by decide +kernel
theorem dX6_loadBounds_292 : decode cX6_loadBounds 292 = .ok (.iload 10, 2) := by decide +kernel
theorem dX6_loadBounds_294 : decode cX6_loadBounds 294 = .ok (.ifCond .ge 7, 3) := by decide +kernel
theorem dX6_loadBounds_297 : decode cX6_loadBounds 297 = .ok (.iload_n 3, 1) := by decide +kernel
theorem dX6_loadBounds_298 : decode cX6_loadBounds 298 = .ok (.goto 4, 3) := by decide +kernel
theorem dX6_loadBounds_301 : decode cX6_loadBounds 301 = .ok (.iload_n 2, 1) := by decide +kernel
theorem dX6_loadBounds_302 : decode cX6_loadBounds 302 = .ok (.imul, 1) := by decide +kernel
theorem dX6_loadBounds_303 : decode cX6_loadBounds 303 = .ok (.iadd, 1) := by decide +kernel
theorem dX6_loadBounds_304 : decode cX6_loadBounds 304 = .ok (.iastore, 1) := by decide +kernel
theorem dX6_loadBounds_305 : decode cX6_loadBounds 305 = .ok (.aload_n 0, 1) := by decide +kernel
theorem dX6_loadBounds_306 : decode cX6_loadBounds 306 = .ok (.getfield 59, 3) := by decide +kernel
theorem dX6_loadBounds_309 : decode cX6_loadBounds 309 = .ok (.iload 7, 2) := by decide +kernel
theorem dX6_loadBounds_311 : decode cX6_loadBounds 311 = .ok (.aload_n 0, 1) := by decide +kernel
theorem dX6_loadBounds_312 : decode cX6_loadBounds 312 = .ok (.getfield 59, 3) := by decide +kernel
theorem dX6_loadBounds_315 : decode cX6_loadBounds 315 = .ok (.iload 7, 2) := by decide +kernel
theorem dX6_loadBounds_317 : decode cX6_loadBounds 317 = .ok (.iconst 1, 1) := by decide +kernel
theorem dX6_loadBounds_318 : decode cX6_loadBounds 318 = .ok (.iadd, 1) := by decide +kernel
theorem dX6_loadBounds_319 : decode cX6_loadBounds 319 = .ok (.iaload, 1) := by decide +kernel
theorem dX6_loadBounds_320 : decode cX6_loadBounds 320 = .ok (.iload 10, 2) := by decide +kernel
theorem dX6_loadBounds_322 : decode cX6_loadBounds 322 = .ok (.iload 10, 2) := by decide +kernel
theorem dX6_loadBounds_324 : decode cX6_loadBounds 324 = .ok (.ifCond .ge 7, 3) := by decide +kernel
theorem dX6_loadBounds_327 : decode cX6_loadBounds 327 = .ok (.iload_n 2, 1) := by decide +kernel
theorem dX6_loadBounds_328 : decode cX6_loadBounds 328 = .ok (.goto 4, 3) := by decide +kernel
theorem dX6_loadBounds_331 : decode cX6_loadBounds 331 = .ok (.iload_n 3, 1) := by decide +kernel
theorem dX6_loadBounds_332 : decode cX6_loadBounds 332 = .ok (.imul, 1) := by decide +kernel
theorem dX6_loadBounds_333 : decode cX6_loadBounds 333 = .ok (.iadd, 1) := by decide +kernel
theorem dX6_loadBounds_334 : decode cX6_loadBounds 334 = .ok (.iastore, 1) := by decide +kernel
theorem dX6_loadBounds_335 : decode cX6_loadBounds 335 = .ok (.aload_n 0, 1) := by decide +kernel
theorem dX6_loadBounds_336 : decode cX6_loadBounds 336 = .ok (.getfield 62, 3) := by decide +kernel
theorem dX6_loadBounds_339 : decode cX6_loadBounds 339 = .ok (.iload 7, 2) := by decide +kernel
theorem dX6_loadBounds_341 : decode cX6_loadBounds 341 = .ok (.aload_n 0, 1) := by decide +kernel
theorem dX6_loadBounds_342 : decode cX6_loadBounds 342 = .ok (.getfield 62, 3) := by decide +kernel
theorem dX6_loadBounds_345 : decode cX6_loadBounds 345 = .ok (.iload 7, 2) := by decide +kernel
theorem dX6_loadBounds_347 : decode cX6_loadBounds 347 = .ok (.iconst 1, 1) := by decide +kernel
theorem dX6_loadBounds_348 : decode cX6_loadBounds 348 = .ok (.iadd, 1) := by decide +kernel
theorem dX6_loadBounds_349 : decode cX6_loadBounds 349 = .ok (.iaload, 1) := by decide +kernel
theorem dX6_loadBounds_350 : decode cX6_loadBounds 350 = .ok (.iload 4, 2) := by decide +kernel
theorem dX6_loadBounds_352 : decode cX6_loadBounds 352 = .ok (.aload_n 0, 1) := by decide +kernel
theorem dX6_loadBounds_353 : decode cX6_loadBounds 353 = .ok (.getfield 41, 3) := by decide +kernel
theorem dX6_loadBounds_356 : decode cX6_loadBounds 356 = .ok (.iload 7, 2) := by decide +kernel
theorem dX6_loadBounds_358 : decode cX6_loadBounds 358 = .ok (.iaload, 1) := by decide +kernel
theorem dX6_loadBounds_359 : decode cX6_loadBounds 359 = .ok (.imul, 1) := by decide +kernel
theorem dX6_loadBounds_360 : decode cX6_loadBounds 360 = .ok (.iadd, 1) := by decide +kernel
theorem dX6_loadBounds_361 : decode cX6_loadBounds 361 = .ok (.iload 9, 2) := by decide +kernel
theorem dX6_loadBounds_363 : decode cX6_loadBounds 363 = .ok (.ifCond .eq 7, 3) := by decide +kernel
theorem dX6_loadBounds_366 : decode cX6_loadBounds 366 = .ok (.iconst 0, 1) := by decide +kernel
theorem dX6_loadBounds_367 : decode cX6_loadBounds 367 = .ok (.goto 5, 3) := by decide +kernel
theorem dX6_loadBounds_370 : decode cX6_loadBounds 370 = .ok (.iload 6, 2) := by decide +kernel
theorem dX6_loadBounds_372 : decode cX6_loadBounds 372 = .ok (.iadd, 1) := by decide +kernel
theorem dX6_loadBounds_373 : decode cX6_loadBounds 373 = .ok (.iastore, 1) := by decide +kernel
theorem dX6_loadBounds_374 : decode cX6_loadBounds 374 = .ok (.iinc 7 (-1), 3) := by decide +kernel
theorem dX6_loadBounds_377 : decode cX6_loadBounds 377 = .ok (.goto (-213), 3) := by decide +kernel
theorem dX6_loadBounds_380 : decode cX6_loadBounds 380 = .ok (.return_, 1) := by decide +kernel
theorem dX1_drummerPitch_0 : decode cX1_drummerPitch 0 = .ok (.aload_n 0, 1) := by decide +kernel
theorem dX1_drummerPitch_1 : decode cX1_drummerPitch 1 = .ok (.getfield 9, 3) := by decide +kernel
theorem dX1_drummerPitch_4 : decode cX1_drummerPitch 4 = .ok (.ineg, 1) := by decide +kernel
theorem dX1_drummerPitch_5 : decode cX1_drummerPitch 5 = .ok (.aload_n 0, 1) := by decide +kernel
theorem dX1_drummerPitch_6 : decode cX1_drummerPitch 6 = .ok (.getfield 15, 3) := by decide +kernel
theorem dX1_drummerPitch_9 : decode cX1_drummerPitch 9 = .ok (.imul, 1) := by decide +kernel
theorem dX1_drummerPitch_10 : decode cX1_drummerPitch 10 = .ok (.ireturn, 1) := by decide +kernel
theorem dX6_leastSize_0 : decode cX6_leastSize 0 = .ok (.iload_n 0, 1) := by decide +kernel
theorem dX6_leastSize_1 : decode cX6_leastSize 1 = .ok (.ifCond .le 5, 3) := by decide +kernel
theorem dX6_leastSize_4 : decode cX6_leastSize 4 = .ok (.iload_n 0, 1) := by decide +kernel
theorem dX6_leastSize_5 : decode cX6_leastSize 5 = .ok (.ireturn, 1) := by decide +kernel
theorem dX6_leastSize_6 : decode cX6_leastSize 6 = .ok (.iload_n 1, 1) := by decide +kernel
theorem dX6_leastSize_7 : decode cX6_leastSize 7 = .ok (.ifCond .ge 8, 3) := by decide +kernel
theorem dX6_leastSize_10 : decode cX6_leastSize 10 = .ok (.iload_n 1, 1) := by decide +kernel
theorem dX6_leastSize_11 : decode cX6_leastSize 11 = .ok (.ineg, 1) := by decide +kernel
theorem dX6_leastSize_12 : decode cX6_leastSize 12 = .ok (.goto 4, 3) := by decide +kernel
theorem dX6_leastSize_15 : decode cX6_leastSize 15 = .ok (.iconst 0, 1) := by decide +kernel
theorem dX6_leastSize_16 : decode cX6_leastSize 16 = .ok (.ireturn, 1) := by decide +kernel
theorem dX6_leastFrom_0 : decode cX6_leastFrom 0 = .ok (.iconst 4, 1) := by decide +kernel
theorem dX6_leastFrom_1 : decode cX6_leastFrom 1 = .ok (.iload_n 2, 1) := by decide +kernel
theorem dX6_leastFrom_2 : decode cX6_leastFrom 2 = .ok (.aload_n 0, 1) := by decide +kernel
theorem dX6_leastFrom_3 : decode cX6_leastFrom 3 = .ok (.getfield 50, 3) := by decide +kernel
theorem dX6_leastFrom_6 : decode cX6_leastFrom 6 = .ok (.iload_n 1, 1) := by decide +kernel
theorem dX6_leastFrom_7 : decode cX6_leastFrom 7 = .ok (.iaload, 1) := by decide +kernel
theorem dX6_leastFrom_8 : decode cX6_leastFrom 8 = .ok (.iadd, 1) := by decide +kernel
theorem dX6_leastFrom_9 : decode cX6_leastFrom 9 = .ok (.iload_n 2, 1) := by decide +kernel
theorem dX6_leastFrom_10 : decode cX6_leastFrom 10 = .ok (.aload_n 0, 1) := by decide +kernel
theorem dX6_leastFrom_11 : decode cX6_leastFrom 11 = .ok (.getfield 53, 3) := by decide +kernel
theorem dX6_leastFrom_14 : decode cX6_leastFrom 14 = .ok (.iload_n 1, 1) := by decide +kernel
theorem dX6_leastFrom_15 : decode cX6_leastFrom 15 = .ok (.iaload, 1) := by decide +kernel
theorem dX6_leastFrom_16 : decode cX6_leastFrom 16 = .ok (.iadd, 1) := by decide +kernel
theorem dX6_leastFrom_17 : decode cX6_leastFrom 17 = .ok (.invokestatic 132, 3) := by decide +kernel
theorem dX6_leastFrom_20 : decode cX6_leastFrom 20 = .ok (.imul, 1) := by decide +kernel
theorem dX6_leastFrom_21 : decode cX6_leastFrom 21 = .ok (.iload_n 3, 1) := by decide +kernel
theorem dX6_leastFrom_22 : decode cX6_leastFrom 22 = .ok (.aload_n 0, 1) := by decide +kernel
theorem dX6_leastFrom_23 : decode cX6_leastFrom 23 = .ok (.getfield 56, 3) := by decide +kernel
theorem dX6_leastFrom_26 : decode cX6_leastFrom 26 = .ok (.iload_n 1, 1) := by decide +kernel
theorem dX6_leastFrom_27 : decode cX6_leastFrom 27 = .ok (.iaload, 1) := by decide +kernel
theorem dX6_leastFrom_28 : decode cX6_leastFrom 28 = .ok (.iadd, 1) := by decide +kernel
theorem dX6_leastFrom_29 : decode cX6_leastFrom 29 = .ok (.iload_n 3, 1) := by decide +kernel
theorem dX6_leastFrom_30 : decode cX6_leastFrom 30 = .ok (.aload_n 0, 1) := by decide +kernel
theorem dX6_leastFrom_31 : decode cX6_leastFrom 31 = .ok (.getfield 59, 3) := by decide +kernel
theorem dX6_leastFrom_34 : decode cX6_leastFrom 34 = .ok (.iload_n 1, 1) := by decide +kernel
theorem dX6_leastFrom_35 : decode cX6_leastFrom 35 = .ok (.iaload, 1) := by decide +kernel
theorem dX6_leastFrom_36 : decode cX6_leastFrom 36 = .ok (.iadd, 1) := by decide +kernel
theorem dX6_leastFrom_37 : decode cX6_leastFrom 37 = .ok (.invokestatic 132, 3) := by decide +kernel
theorem dX6_leastFrom_40 : decode cX6_leastFrom 40 = .ok (.iadd, 1) := by decide +kernel
theorem dX6_leastFrom_41 : decode cX6_leastFrom 41 = .ok (.iload 4, 2) := by decide +kernel
theorem dX6_leastFrom_43 : decode cX6_leastFrom 43 = .ok (.isub, 1) := by decide +kernel
theorem dX6_leastFrom_44 : decode cX6_leastFrom 44 = .ok (.aload_n 0, 1) := by decide +kernel
theorem dX6_leastFrom_45 : decode cX6_leastFrom 45 = .ok (.getfield 62, 3) := by decide +kernel
theorem dX6_leastFrom_48 : decode cX6_leastFrom 48 = .ok (.iload_n 1, 1) := by decide +kernel
theorem dX6_leastFrom_49 : decode cX6_leastFrom 49 = .ok (.iaload, 1) := by decide +kernel
theorem dX6_leastFrom_50 : decode cX6_leastFrom 50 = .ok (.isub, 1) := by decide +kernel
theorem dX6_leastFrom_51 : decode cX6_leastFrom 51 = .ok (.ireturn, 1) := by decide +kernel
theorem dX6_keepChosen_0 : decode cX6_keepChosen 0 = .ok (.aload_n 0, 1) := by decide +kernel
theorem dX6_keepChosen_1 : decode cX6_keepChosen 1 = .ok (.iconst 1, 1) := by decide +kernel
theorem dX6_keepChosen_2 : decode cX6_keepChosen 2 = .ok (.putfield 15, 3) := by decide +kernel
theorem dX6_keepChosen_5 : decode cX6_keepChosen 5 = .ok (.aload_n 0, 1) := by decide +kernel
theorem dX6_keepChosen_6 : decode cX6_keepChosen 6 = .ok (.iload_n 1, 1) := by decide +kernel
theorem dX6_keepChosen_7 : decode cX6_keepChosen 7 = .ok (.putfield 9, 3) := by decide +kernel
theorem dX6_keepChosen_10 : decode cX6_keepChosen 10 = .ok (.iconst 0, 1) := by decide +kernel
theorem dX6_keepChosen_11 : decode cX6_keepChosen 11 = .ok (.istore_n 2, 1) := by decide +kernel
theorem dX6_keepChosen_12 : decode cX6_keepChosen 12 = .ok (.iload_n 2, 1) := by decide +kernel
theorem dX6_keepChosen_13 : decode cX6_keepChosen 13 = .ok (.aload_n 0, 1) := by decide +kernel
theorem dX6_keepChosen_14 : decode cX6_keepChosen 14 = .ok (.getfield 19, 3) := by decide +kernel
theorem dX6_keepChosen_17 : decode cX6_keepChosen 17 = .ok (.if_icmp .ge 21, 3) := by decide +kernel
theorem dX6_keepChosen_20 : decode cX6_keepChosen 20 = .ok (.aload_n 0, 1) := by decide +kernel
theorem dX6_keepChosen_21 : decode cX6_keepChosen 21 = .ok (.getfield 47, 3) := by decide +kernel
theorem dX6_keepChosen_24 : decode cX6_keepChosen 24 = .ok (.iload_n 2, 1) := by decide +kernel
theorem dX6_keepChosen_25 : decode cX6_keepChosen 25 = .ok (.aload_n 0, 1) := by decide +kernel
theorem dX6_keepChosen_26 : decode cX6_keepChosen 26 = .ok (.getfield 44, 3) := by decide +kernel
theorem dX6_keepChosen_29 : decode cX6_keepChosen 29 = .ok (.iload_n 2, 1) := by decide +kernel
theorem dX6_keepChosen_30 : decode cX6_keepChosen 30 = .ok (.iaload, 1) := by decide +kernel
theorem dX6_keepChosen_31 : decode cX6_keepChosen 31 = .ok (.iastore, 1) := by decide +kernel
theorem dX6_keepChosen_32 : decode cX6_keepChosen 32 = .ok (.iinc 2 1, 3) := by decide +kernel
theorem dX6_keepChosen_35 : decode cX6_keepChosen 35 = .ok (.goto (-23), 3) := by decide +kernel
theorem dX6_keepChosen_38 : decode cX6_keepChosen 38 = .ok (.return_, 1) := by decide +kernel
theorem dX6_gainOf_0 : decode cX6_gainOf 0 = .ok (.aload_n 0, 1) := by decide +kernel
theorem dX6_gainOf_1 : decode cX6_gainOf 1 = .ok (.getfield 29, 3) := by decide +kernel
theorem dX6_gainOf_4 : decode cX6_gainOf 4 = .ok (.iload_n 2, 1) := by decide +kernel
theorem dX6_gainOf_5 : decode cX6_gainOf 5 = .ok (.iaload, 1) := by decide +kernel
theorem dX6_gainOf_6 : decode cX6_gainOf 6 = .ok (.aload_n 0, 1) := by decide +kernel
theorem dX6_gainOf_7 : decode cX6_gainOf 7 = .ok (.getfield 41, 3) := by decide +kernel
theorem dX6_gainOf_10 : decode cX6_gainOf 10 = .ok (.iload_n 1, 1) := by decide +kernel
theorem dX6_gainOf_11 : decode cX6_gainOf 11 = .ok (.iaload, 1) := by decide +kernel
theorem dX6_gainOf_12 : decode cX6_gainOf 12 = .ok (.imul, 1) := by decide +kernel
theorem dX6_gainOf_13 : decode cX6_gainOf 13 = .ok (.istore_n 3, 1) := by decide +kernel
theorem dX6_gainOf_14 : decode cX6_gainOf 14 = .ok (.iload_n 1, 1) := by decide +kernel
theorem dX6_gainOf_15 : decode cX6_gainOf 15 = .ok (.iconst 2, 1) := by decide +kernel
theorem dX6_gainOf_16 : decode cX6_gainOf 16 = .ok (.irem, 1) := by decide +kernel
theorem dX6_gainOf_17 : decode cX6_gainOf 17 = .ok (.iconst 1, 1) := by decide +kernel
theorem dX6_gainOf_18 : decode cX6_gainOf 18 = .ok (.if_icmp .ne 27, 3) := by decide +kernel
theorem dX6_gainOf_21 : decode cX6_gainOf 21 = .ok (.aload_n 0, 1) := by decide +kernel
theorem dX6_gainOf_22 : decode cX6_gainOf 22 = .ok (.getfield 35, 3) := by decide +kernel
theorem dX6_gainOf_25 : decode cX6_gainOf 25 = .ok (.iload_n 2, 1) := by decide +kernel
theorem dX6_gainOf_26 : decode cX6_gainOf 26 = .ok (.iaload, 1) := by decide +kernel
theorem dX6_gainOf_27 : decode cX6_gainOf 27 = .ok (.aload_n 0, 1) := by decide +kernel
theorem dX6_gainOf_28 : decode cX6_gainOf 28 = .ok (.getfield 44, 3) := by decide +kernel
theorem dX6_gainOf_31 : decode cX6_gainOf 31 = .ok (.iload_n 1, 1) := by decide +kernel
theorem dX6_gainOf_32 : decode cX6_gainOf 32 = .ok (.iconst 1, 1) := by decide +kernel
theorem dX6_gainOf_33 : decode cX6_gainOf 33 = .ok (.isub, 1) := by decide +kernel
theorem dX6_gainOf_34 : decode cX6_gainOf 34 = .ok (.iaload, 1) := by decide +kernel
theorem dX6_gainOf_35 : decode cX6_gainOf 35 = .ok (.iushr, 1) := by decide +kernel
theorem dX6_gainOf_36 : decode cX6_gainOf 36 = .ok (.iconst 1, 1) := by decide +kernel
theorem dX6_gainOf_37 : decode cX6_gainOf 37 = .ok (.iand, 1) := by decide +kernel
theorem dX6_gainOf_38 : decode cX6_gainOf 38 = .ok (.ifCond .eq 7, 3) := by decide +kernel
theorem dX6_gainOf_41 : decode cX6_gainOf 41 = .ok (.iconst 1, 1) := by decide +kernel
theorem dX6_gainOf_42 : decode cX6_gainOf 42 = .ok (.goto 4, 3) := by decide +kernel
theorem dX6_gainOf_45 : decode cX6_gainOf 45 = .ok (.iconst 0, 1) := by decide +kernel
theorem dX6_gainOf_46 : decode cX6_gainOf 46 = .ok (.istore 4, 2) := by decide +kernel
theorem dX6_gainOf_48 : decode cX6_gainOf 48 = .ok (.iload 4, 2) := by decide +kernel
theorem dX6_gainOf_50 : decode cX6_gainOf 50 = .ok (.ifCond .eq 10, 3) := by decide +kernel
theorem dX6_gainOf_53 : decode cX6_gainOf 53 = .ok (.iload_n 3, 1) := by decide +kernel
theorem dX6_gainOf_54 : decode cX6_gainOf 54 = .ok (.bipush 20, 2) := by decide +kernel
theorem dX6_gainOf_56 : decode cX6_gainOf 56 = .ok (.iadd, 1) := by decide +kernel
theorem dX6_gainOf_57 : decode cX6_gainOf 57 = .ok (.goto 4, 3) := by decide +kernel
theorem dX6_gainOf_60 : decode cX6_gainOf 60 = .ok (.iload_n 3, 1) := by decide +kernel
theorem dX6_gainOf_61 : decode cX6_gainOf 61 = .ok (.ireturn, 1) := by decide +kernel
theorem dX6_fillFrom_0 : decode cX6_fillFrom 0 = .ok (.aload_n 0, 1) := by decide +kernel
theorem dX6_fillFrom_1 : decode cX6_fillFrom 1 = .ok (.getfield 15, 3) := by decide +kernel
theorem dX6_fillFrom_4 : decode cX6_fillFrom 4 = .ok (.ifCond .eq 21, 3) := by decide +kernel
theorem dX6_fillFrom_7 : decode cX6_fillFrom 7 = .ok (.aload_n 0, 1) := by decide +kernel
theorem dX6_fillFrom_8 : decode cX6_fillFrom 8 = .ok (.iload_n 1, 1) := by decide +kernel
theorem dX6_fillFrom_9 : decode cX6_fillFrom 9 = .ok (.iload_n 3, 1) := by decide +kernel
theorem dX6_fillFrom_10 : decode cX6_fillFrom 10 = .ok (.iload 4, 2) := by decide +kernel
theorem dX6_fillFrom_12 : decode cX6_fillFrom 12 = .ok (.iload 5, 2) := by decide +kernel
theorem dX6_fillFrom_14 : decode cX6_fillFrom 14 = .ok (.invokevirtual 118, 3) := by decide +kernel
theorem dX6_fillFrom_17 : decode cX6_fillFrom 17 = .ok (.aload_n 0, 1) := by decide +kernel
theorem dX6_fillFrom_18 : decode cX6_fillFrom 18 = .ok (.getfield 9, 3) := by decide +kernel
theorem dX6_fillFrom_21 : decode cX6_fillFrom 21 = .ok (.if_icmp .lt 4, 3) := by decide +kernel
theorem dX6_fillFrom_24 : decode cX6_fillFrom 24 = .ok (.return_, 1) := by decide +kernel
theorem dX6_fillFrom_25 : decode cX6_fillFrom 25 = .ok (.iload_n 1, 1) := by decide +kernel
theorem dX6_fillFrom_26 : decode cX6_fillFrom 26 = .ok (.aload_n 0, 1) := by decide +kernel
theorem dX6_fillFrom_27 : decode cX6_fillFrom 27 = .ok (.getfield 19, 3) := by decide +kernel
theorem dX6_fillFrom_30 : decode cX6_fillFrom 30 = .ok (.if_icmp .lt 23, 3) := by decide +kernel
theorem dX6_fillFrom_33 : decode cX6_fillFrom 33 = .ok (.aload_n 0, 1) := by decide +kernel
theorem dX6_fillFrom_34 : decode cX6_fillFrom 34 = .ok (.iconst 4, 1) := by decide +kernel
theorem dX6_fillFrom_35 : decode cX6_fillFrom 35 = .ok (.iload_n 3, 1) := by decide +kernel
theorem dX6_fillFrom_36 : decode cX6_fillFrom 36 = .ok (.invokestatic 122, 3) := by decide +kernel
theorem dX6_fillFrom_39 : decode cX6_fillFrom 39 = .ok (.imul, 1) := by decide +kernel
theorem dX6_fillFrom_40 : decode cX6_fillFrom 40 = .ok (.iload 4, 2) := by decide +kernel
theorem dX6_fillFrom_42 : decode cX6_fillFrom 42 = .ok (.invokestatic 122, 3) := by decide +kernel
theorem dX6_fillFrom_45 : decode cX6_fillFrom 45 = .ok (.iadd, 1) := by decide +kernel
theorem dX6_fillFrom_46 : decode cX6_fillFrom 46 = .ok (.iload 5, 2) := by decide +kernel
theorem dX6_fillFrom_48 : decode cX6_fillFrom 48 = .ok (.isub, 1) := by decide +kernel
theorem dX6_fillFrom_49 : decode cX6_fillFrom 49 = .ok (.invokevirtual 125, 3) := by decide +kernel
theorem dX6_fillFrom_52 : decode cX6_fillFrom 52 = .ok (.return_, 1) := by decide +kernel
theorem dX6_fillFrom_53 : decode cX6_fillFrom 53 = .ok (.iload_n 1, 1) := by decide +kernel
theorem dX6_fillFrom_54 : decode cX6_fillFrom 54 = .ok (.iconst 2, 1) := by decide +kernel
theorem dX6_fillFrom_55 : decode cX6_fillFrom 55 = .ok (.irem, 1) := by decide +kernel
theorem dX6_fillFrom_56 : decode cX6_fillFrom 56 = .ok (.istore 6, 2) := by decide +kernel
theorem dX6_fillFrom_58 : decode cX6_fillFrom 58 = .ok (.iconst 0, 1) := by decide +kernel
theorem dX6_fillFrom_59 : decode cX6_fillFrom 59 = .ok (.istore 7, 2) := by decide +kernel
theorem dX6_fillFrom_61 : decode cX6_fillFrom 61 = .ok (.iload 7, 2) := by decide +kernel
theorem dX6_fillFrom_63 : decode cX6_fillFrom 63 = .ok (.aload_n 0, 1) := by decide +kernel
theorem dX6_fillFrom_64 : decode cX6_fillFrom 64 = .ok (.getfield 22, 3) := by decide +kernel
theorem dX6_fillFrom_67 : decode cX6_fillFrom 67 = .ok (.if_icmp .ge 106, 3) := by decide +kernel
theorem dX6_fillFrom_70 : decode cX6_fillFrom 70 = .ok (.iload_n 2, 1) := by decide +kernel
theorem dX6_fillFrom_71 : decode cX6_fillFrom 71 = .ok (.iload 7, 2) := by decide +kernel
theorem dX6_fillFrom_73 : decode cX6_fillFrom 73 = .ok (.iushr, 1) := by decide +kernel
theorem dX6_fillFrom_74 : decode cX6_fillFrom 74 = .ok (.iconst 1, 1) := by decide +kernel
theorem dX6_fillFrom_75 : decode cX6_fillFrom 75 = .ok (.iand, 1) := by decide +kernel
theorem dX6_fillFrom_76 : decode cX6_fillFrom 76 = .ok (.ifCond .ne 91, 3) := by decide +kernel
theorem dX6_fillFrom_79 : decode cX6_fillFrom 79 = .ok (.aload_n 0, 1) := by decide +kernel
theorem dX6_fillFrom_80 : decode cX6_fillFrom 80 = .ok (.getfield 32, 3) := by decide +kernel
theorem dX6_fillFrom_83 : decode cX6_fillFrom 83 = .ok (.iload 7, 2) := by decide +kernel
theorem dX6_fillFrom_85 : decode cX6_fillFrom 85 = .ok (.iaload, 1) := by decide +kernel
theorem dX6_fillFrom_86 : decode cX6_fillFrom 86 = .ok (.iconst 1, 1) := by decide +kernel
theorem dX6_fillFrom_87 : decode cX6_fillFrom 87 = .ok (.iload 6, 2) := by decide +kernel
theorem dX6_fillFrom_89 : decode cX6_fillFrom 89 = .ok (.isub, 1) := by decide +kernel
theorem dX6_fillFrom_90 : decode cX6_fillFrom 90 = .ok (.if_icmp .eq 77, 3) := by decide +kernel
theorem dX6_fillFrom_93 : decode cX6_fillFrom 93 = .ok (.aload_n 0, 1) := by decide +kernel
theorem dX6_fillFrom_94 : decode cX6_fillFrom 94 = .ok (.getfield 44, 3) := by decide +kernel
theorem dX6_fillFrom_97 : decode cX6_fillFrom 97 = .ok (.iload_n 1, 1) := by decide +kernel
theorem dX6_fillFrom_98 : decode cX6_fillFrom 98 = .ok (.iload 7, 2) := by decide +kernel
theorem dX6_fillFrom_100 : decode cX6_fillFrom 100 = .ok (.iastore, 1) := by decide +kernel
theorem dX6_fillFrom_101 : decode cX6_fillFrom 101 = .ok (.aload_n 0, 1) := by decide +kernel
theorem dX6_fillFrom_102 : decode cX6_fillFrom 102 = .ok (.iload_n 1, 1) := by decide +kernel
theorem dX6_fillFrom_103 : decode cX6_fillFrom 103 = .ok (.iconst 1, 1) := by decide +kernel
theorem dX6_fillFrom_104 : decode cX6_fillFrom 104 = .ok (.iadd, 1) := by decide +kernel
theorem dX6_fillFrom_105 : decode cX6_fillFrom 105 = .ok (.iload_n 2, 1) := by decide +kernel
theorem dX6_fillFrom_106 : decode cX6_fillFrom 106 = .ok (.iconst 1, 1) := by decide +kernel
theorem dX6_fillFrom_107 : decode cX6_fillFrom 107 = .ok (.iload 7, 2) := by decide +kernel
theorem dX6_fillFrom_109 : decode cX6_fillFrom 109 = .ok (.ishl, 1) := by decide +kernel
theorem dX6_fillFrom_110 : decode cX6_fillFrom 110 = .ok (.ior, 1) := by decide +kernel
theorem dX6_fillFrom_111 : decode cX6_fillFrom 111 = .ok (.iload 6, 2) := by decide +kernel
theorem dX6_fillFrom_113 : decode cX6_fillFrom 113 = .ok (.ifCond .ne 15, 3) := by decide +kernel
theorem dX6_fillFrom_116 : decode cX6_fillFrom 116 = .ok (.iload_n 3, 1) := by decide +kernel
theorem dX6_fillFrom_117 : decode cX6_fillFrom 117 = .ok (.aload_n 0, 1) := by decide +kernel
theorem dX6_fillFrom_118 : decode cX6_fillFrom 118 = .ok (.getfield 25, 3) := by decide +kernel
theorem dX6_fillFrom_121 : decode cX6_fillFrom 121 = .ok (.iload 7, 2) := by decide +kernel
theorem dX6_fillFrom_123 : decode cX6_fillFrom 123 = .ok (.iaload, 1) := by decide +kernel
theorem dX6_fillFrom_124 : decode cX6_fillFrom 124 = .ok (.iadd, 1) := by decide +kernel
theorem dX6_fillFrom_125 : decode cX6_fillFrom 125 = .ok (.goto 12, 3) := by decide +kernel
theorem dX6_fillFrom_128 : decode cX6_fillFrom 128 = .ok (.iload_n 3, 1) := by decide +kernel
theorem dX6_fillFrom_129 : decode cX6_fillFrom 129 = .ok (.aload_n 0, 1) := by decide +kernel
theorem dX6_fillFrom_130 : decode cX6_fillFrom 130 = .ok (.getfield 25, 3) := by decide +kernel
theorem dX6_fillFrom_133 : decode cX6_fillFrom 133 = .ok (.iload 7, 2) := by decide +kernel
theorem dX6_fillFrom_135 : decode cX6_fillFrom 135 = .ok (.iaload, 1) := by decide +kernel
theorem dX6_fillFrom_136 : decode cX6_fillFrom 136 = .ok (.isub, 1) := by decide +kernel
theorem dX6_fillFrom_137 : decode cX6_fillFrom 137 = .ok (.iload 4, 2) := by decide +kernel
theorem dX6_fillFrom_139 : decode cX6_fillFrom 139 = .ok (.aload_n 0, 1) := by decide +kernel
theorem dX6_fillFrom_140 : decode cX6_fillFrom 140 = .ok (.getfield 25, 3) := by decide +kernel
theorem dX6_fillFrom_143 : decode cX6_fillFrom 143 = .ok (.iload 7, 2) := by decide +kernel
theorem dX6_fillFrom_145 : decode cX6_fillFrom 145 = .ok (.iaload, 1) := by decide +kernel
theorem dX6_fillFrom_146 : decode cX6_fillFrom 146 = .ok (.aload_n 0, 1) := by decide +kernel
theorem dX6_fillFrom_147 : decode cX6_fillFrom 147 = .ok (.getfield 38, 3) := by decide +kernel
theorem dX6_fillFrom_150 : decode cX6_fillFrom 150 = .ok (.iload_n 1, 1) := by decide +kernel
theorem dX6_fillFrom_151 : decode cX6_fillFrom 151 = .ok (.iaload, 1) := by decide +kernel
theorem dX6_fillFrom_152 : decode cX6_fillFrom 152 = .ok (.imul, 1) := by decide +kernel
theorem dX6_fillFrom_153 : decode cX6_fillFrom 153 = .ok (.iadd, 1) := by decide +kernel
theorem dX6_fillFrom_154 : decode cX6_fillFrom 154 = .ok (.iload 5, 2) := by decide +kernel
theorem dX6_fillFrom_156 : decode cX6_fillFrom 156 = .ok (.aload_n 0, 1) := by decide +kernel
theorem dX6_fillFrom_157 : decode cX6_fillFrom 157 = .ok (.iload_n 1, 1) := by decide +kernel
theorem dX6_fillFrom_158 : decode cX6_fillFrom 158 = .ok (.iload 7, 2) := by decide +kernel
theorem dX6_fillFrom_160 : decode cX6_fillFrom 160 = .ok (.invokevirtual 129, 3) := by decide +kernel
theorem dX6_fillFrom_163 : decode cX6_fillFrom 163 = .ok (.iadd, 1) := by decide +kernel
theorem dX6_fillFrom_164 : decode cX6_fillFrom 164 = .ok (.invokestatic 91, 3) := by decide +kernel
theorem dX6_fillFrom_167 : decode cX6_fillFrom 167 = .ok (.iinc 7 1, 3) := by decide +kernel
theorem dX6_fillFrom_170 : decode cX6_fillFrom 170 = .ok (.goto (-109), 3) := by decide +kernel
theorem dX6_fillFrom_173 : decode cX6_fillFrom 173 = .ok (.return_, 1) := by decide +kernel
theorem dX6_find_0 : decode cX6_find 0 = .ok (.aload_n 0, 1) := by decide +kernel
theorem dX6_find_1 : decode cX6_find 1 = .ok (.iconst 0, 1) := by decide +kernel
theorem dX6_find_2 : decode cX6_find 2 = .ok (.putfield 15, 3) := by decide +kernel
theorem dX6_find_5 : decode cX6_find 5 = .ok (.aload_n 0, 1) := by decide +kernel
theorem dX6_find_6 : decode cX6_find 6 = .ok (.iconst 0, 1) := by decide +kernel
theorem dX6_find_7 : decode cX6_find 7 = .ok (.putfield 9, 3) := by decide +kernel
theorem dX6_find_10 : decode cX6_find 10 = .ok (.aload_n 0, 1) := by decide +kernel
theorem dX6_find_11 : decode cX6_find 11 = .ok (.aload_n 2, 1) := by decide +kernel
theorem dX6_find_12 : decode cX6_find 12 = .ok (.invokevirtual 65, 3) := by decide +kernel
theorem dX6_find_15 : decode cX6_find 15 = .ok (.bipush 8, 2) := by decide +kernel
theorem dX6_find_17 : decode cX6_find 17 = .ok (.invokestatic 71, 3) := by decide +kernel
theorem dX6_find_20 : decode cX6_find 20 = .ok (.putfield 19, 3) := by decide +kernel
theorem dX6_find_23 : decode cX6_find 23 = .ok (.aload_n 0, 1) := by decide +kernel
theorem dX6_find_24 : decode cX6_find 24 = .ok (.aload_n 2, 1) := by decide +kernel
theorem dX6_find_25 : decode cX6_find 25 = .ok (.getfield 77, 3) := by decide +kernel
theorem dX6_find_28 : decode cX6_find 28 = .ok (.bipush 8, 2) := by decide +kernel
theorem dX6_find_30 : decode cX6_find 30 = .ok (.invokestatic 71, 3) := by decide +kernel
theorem dX6_find_33 : decode cX6_find 33 = .ok (.putfield 22, 3) := by decide +kernel
theorem dX6_find_36 : decode cX6_find 36 = .ok (.aload_n 0, 1) := by decide +kernel
theorem dX6_find_37 : decode cX6_find 37 = .ok (.getfield 22, 3) := by decide +kernel
theorem dX6_find_40 : decode cX6_find 40 = .ok (.aload_n 0, 1) := by decide +kernel
theorem dX6_find_41 : decode cX6_find 41 = .ok (.getfield 19, 3) := by decide +kernel
theorem dX6_find_44 : decode cX6_find 44 = .ok (.if_icmp .ge 5, 3) := by decide +kernel
theorem dX6_find_47 : decode cX6_find 47 = .ok (.iconst 0, 1) := by decide +kernel
theorem dX6_find_48 : decode cX6_find 48 = .ok (.ireturn, 1) := by decide +kernel
theorem dX6_find_49 : decode cX6_find 49 = .ok (.aload_n 0, 1) := by decide +kernel
theorem dX6_find_50 : decode cX6_find 50 = .ok (.aload_n 1, 1) := by decide +kernel
theorem dX6_find_51 : decode cX6_find 51 = .ok (.aload_n 2, 1) := by decide +kernel
theorem dX6_find_52 : decode cX6_find 52 = .ok (.invokevirtual 80, 3) := by decide +kernel
theorem dX6_find_55 : decode cX6_find 55 = .ok (.aload_n 0, 1) := by decide +kernel
theorem dX6_find_56 : decode cX6_find 56 = .ok (.aload_n 2, 1) := by decide +kernel
theorem dX6_find_57 : decode cX6_find 57 = .ok (.invokevirtual 84, 3) := by decide +kernel
theorem dX6_find_60 : decode cX6_find 60 = .ok (.aload_n 0, 1) := by decide +kernel
theorem dX6_find_61 : decode cX6_find 61 = .ok (.iconst 0, 1) := by decide +kernel
theorem dX6_find_62 : decode cX6_find 62 = .ok (.iconst 0, 1) := by decide +kernel
theorem dX6_find_63 : decode cX6_find 63 = .ok (.iconst 0, 1) := by decide +kernel
theorem dX6_find_64 : decode cX6_find 64 = .ok (.aload_n 2, 1) := by decide +kernel
theorem dX6_find_65 : decode cX6_find 65 = .ok (.invokevirtual 88, 3) := by decide +kernel
theorem dX6_find_68 : decode cX6_find 68 = .ok (.iconst 0, 1) := by decide +kernel
theorem dX6_find_69 : decode cX6_find 69 = .ok (.invokestatic 91, 3) := by decide +kernel
theorem dX6_find_72 : decode cX6_find 72 = .ok (.aload_n 0, 1) := by decide +kernel
theorem dX6_find_73 : decode cX6_find 73 = .ok (.getfield 15, 3) := by decide +kernel
theorem dX6_find_76 : decode cX6_find 76 = .ok (.ireturn, 1) := by decide +kernel
theorem dX6_copyBestTo_0 : decode cX6_copyBestTo 0 = .ok (.iconst 0, 1) := by decide +kernel
theorem dX6_copyBestTo_1 : decode cX6_copyBestTo 1 = .ok (.istore_n 2, 1) := by decide +kernel
theorem dX6_copyBestTo_2 : decode cX6_copyBestTo 2 = .ok (.iload_n 2, 1) := by decide +kernel
theorem dX6_copyBestTo_3 : decode cX6_copyBestTo 3 = .ok (.aload_n 0, 1) := by decide +kernel
theorem dX6_copyBestTo_4 : decode cX6_copyBestTo 4 = .ok (.getfield 19, 3) := by decide +kernel
theorem dX6_copyBestTo_7 : decode cX6_copyBestTo 7 = .ok (.if_icmp .ge 26, 3) := by decide +kernel
theorem dX6_copyBestTo_10 : decode cX6_copyBestTo 10 = .ok (.aload_n 1, 1) := by decide +kernel
theorem dX6_copyBestTo_11 : decode cX6_copyBestTo 11 = .ok (.getfield 95, 3) := by decide +kernel
theorem dX6_copyBestTo_14 : decode cX6_copyBestTo 14 = .ok (.iload_n 2, 1) := by decide +kernel
theorem dX6_copyBestTo_15 : decode cX6_copyBestTo 15 = .ok (.aload_n 1, 1) := by decide +kernel
theorem dX6_copyBestTo_16 : decode cX6_copyBestTo 16 = .ok (.getfield 97, 3) := by decide +kernel
theorem dX6_copyBestTo_19 : decode cX6_copyBestTo 19 = .ok (.aload_n 0, 1) := by decide +kernel
theorem dX6_copyBestTo_20 : decode cX6_copyBestTo 20 = .ok (.getfield 47, 3) := by decide +kernel
theorem dX6_copyBestTo_23 : decode cX6_copyBestTo 23 = .ok (.iload_n 2, 1) := by decide +kernel
theorem dX6_copyBestTo_24 : decode cX6_copyBestTo 24 = .ok (.iaload, 1) := by decide +kernel
theorem dX6_copyBestTo_25 : decode cX6_copyBestTo 25 = .ok (.iaload, 1) := by decide +kernel
theorem dX6_copyBestTo_26 : decode cX6_copyBestTo 26 = .ok (.iastore, 1) := by decide +kernel
theorem dX6_copyBestTo_27 : decode cX6_copyBestTo 27 = .ok (.iinc 2 1, 3) := by decide +kernel
theorem dX6_copyBestTo_30 : decode cX6_copyBestTo 30 = .ok (.goto (-28), 3) := by decide +kernel
theorem dX6_copyBestTo_33 : decode cX6_copyBestTo 33 = .ok (.return_, 1) := by decide +kernel
theorem dX9_seat_0 : decode cX9_seat 0 = .ok (.aload_n 0, 1) := by decide +kernel
theorem dX9_seat_1 : decode cX9_seat 1 = .ok (.iload_n 1, 1) := by decide +kernel
theorem dX9_seat_2 : decode cX9_seat 2 = .ok (.invokevirtual 126, 3) := by decide +kernel
theorem dX9_seat_5 : decode cX9_seat 5 = .ok (.ifCond .ne 6, 3) := by decide +kernel
theorem dX9_seat_8 : decode cX9_seat 8 = .ok (.ldc 142, 2) := by decide +kernel
theorem dX9_seat_10 : decode cX9_seat 10 = .ok (.ireturn, 1) := by decide +kernel
theorem dX9_seat_11 : decode cX9_seat 11 = .ok (.aload_n 0, 1) := by decide +kernel
theorem dX9_seat_12 : decode cX9_seat 12 = .ok (.getfield 20, 3) := by decide +kernel
theorem dX9_seat_15 : decode cX9_seat 15 = .ok (.iload_n 1, 1) := by decide +kernel
theorem dX9_seat_16 : decode cX9_seat 16 = .ok (.aaload, 1) := by decide +kernel
theorem dX9_seat_17 : decode cX9_seat 17 = .ok (.astore_n 2, 1) := by decide +kernel
theorem dX9_seat_18 : decode cX9_seat 18 = .ok (.aload_n 2, 1) := by decide +kernel
theorem dX9_seat_19 : decode cX9_seat 19 = .ok (.aload_n 0, 1) := by decide +kernel
theorem dX9_seat_20 : decode cX9_seat 20 = .ok (.getfield 38, 3) := by decide +kernel
theorem dX9_seat_23 : decode cX9_seat 23 = .ok (.aload_n 0, 1) := by decide +kernel
theorem dX9_seat_24 : decode cX9_seat 24 = .ok (.getfield 12, 3) := by decide +kernel
theorem dX9_seat_27 : decode cX9_seat 27 = .ok (.aload_n 2, 1) := by decide +kernel
theorem dX9_seat_28 : decode cX9_seat 28 = .ok (.invokevirtual 143, 3) := by decide +kernel
theorem dX9_seat_31 : decode cX9_seat 31 = .ok (.putfield 147, 3) := by decide +kernel
theorem dX9_seat_34 : decode cX9_seat 34 = .ok (.aload_n 2, 1) := by decide +kernel
theorem dX9_seat_35 : decode cX9_seat 35 = .ok (.getfield 147, 3) := by decide +kernel
theorem dX9_seat_38 : decode cX9_seat 38 = .ok (.ifCond .ne 6, 3) := by decide +kernel
theorem dX9_seat_41 : decode cX9_seat 41 = .ok (.ldc 151, 2) := by decide +kernel
theorem dX9_seat_43 : decode cX9_seat 43 = .ok (.ireturn, 1) := by decide +kernel
theorem dX9_seat_44 : decode cX9_seat 44 = .ok (.aload_n 0, 1) := by decide +kernel
theorem dX9_seat_45 : decode cX9_seat 45 = .ok (.getfield 38, 3) := by decide +kernel
theorem dX9_seat_48 : decode cX9_seat 48 = .ok (.aload_n 2, 1) := by decide +kernel
theorem dX9_seat_49 : decode cX9_seat 49 = .ok (.invokevirtual 152, 3) := by decide +kernel
theorem dX9_seat_52 : decode cX9_seat 52 = .ok (.aload_n 0, 1) := by decide +kernel
theorem dX9_seat_53 : decode cX9_seat 53 = .ok (.getfield 38, 3) := by decide +kernel
theorem dX9_seat_56 : decode cX9_seat 56 = .ok (.getfield 156, 3) := by decide +kernel
theorem dX9_seat_59 : decode cX9_seat 59 = .ok (.ireturn, 1) := by decide +kernel
theorem dX9_sits_0 : decode cX9_sits 0 = .ok (.aload_n 0, 1) := by decide +kernel
theorem dX9_sits_1 : decode cX9_sits 1 = .ok (.iload_n 1, 1) := by decide +kernel
theorem dX9_sits_2 : decode cX9_sits 2 = .ok (.invokevirtual 126, 3) := by decide +kernel
theorem dX9_sits_5 : decode cX9_sits 5 = .ok (.ifCond .eq 43, 3) := by decide +kernel
theorem dX9_sits_8 : decode cX9_sits 8 = .ok (.iload_n 2, 1) := by decide +kernel
theorem dX9_sits_9 : decode cX9_sits 9 = .ok (.iconst 0, 1) := by decide +kernel
theorem dX9_sits_10 : decode cX9_sits 10 = .ok (.aload_n 0, 1) := by decide +kernel
theorem dX9_sits_11 : decode cX9_sits 11 = .ok (.getfield 20, 3) := by decide +kernel
theorem dX9_sits_14 : decode cX9_sits 14 = .ok (.iload_n 1, 1) := by decide +kernel
theorem dX9_sits_15 : decode cX9_sits 15 = .ok (.aaload, 1) := by decide +kernel
theorem dX9_sits_16 : decode cX9_sits 16 = .ok (.getfield 120, 3) := by decide +kernel
theorem dX9_sits_19 : decode cX9_sits 19 = .ok (.iconst 1, 1) := by decide +kernel
theorem dX9_sits_20 : decode cX9_sits 20 = .ok (.isub, 1) := by decide +kernel
theorem dX9_sits_21 : decode cX9_sits 21 = .ok (.invokestatic 97, 3) := by decide +kernel
theorem dX9_sits_24 : decode cX9_sits 24 = .ok (.ifCond .eq 24, 3) := by decide +kernel
theorem dX9_sits_27 : decode cX9_sits 27 = .ok (.iload_n 3, 1) := by decide +kernel
theorem dX9_sits_28 : decode cX9_sits 28 = .ok (.iconst 0, 1) := by decide +kernel
theorem dX9_sits_29 : decode cX9_sits 29 = .ok (.iconst 1, 1) := by decide +kernel
theorem dX9_sits_30 : decode cX9_sits 30 = .ok (.invokestatic 97, 3) := by decide +kernel
theorem dX9_sits_33 : decode cX9_sits 33 = .ok (.ifCond .eq 15, 3) := by decide +kernel
theorem dX9_sits_36 : decode cX9_sits 36 = .ok (.aload_n 0, 1) := by decide +kernel
theorem dX9_sits_37 : decode cX9_sits 37 = .ok (.getfield 20, 3) := by decide +kernel
theorem dX9_sits_40 : decode cX9_sits 40 = .ok (.iload_n 1, 1) := by decide +kernel
theorem dX9_sits_41 : decode cX9_sits 41 = .ok (.aaload, 1) := by decide +kernel
theorem dX9_sits_42 : decode cX9_sits 42 = .ok (.getfield 147, 3) := by decide +kernel
theorem dX9_sits_45 : decode cX9_sits 45 = .ok (.ifCond .ne 5, 3) := by decide +kernel
theorem dX9_sits_48 : decode cX9_sits 48 = .ok (.iconst (-1), 1) := by decide +kernel
theorem dX9_sits_49 : decode cX9_sits 49 = .ok (.ireturn, 1) := by decide +kernel
theorem dX9_sits_50 : decode cX9_sits 50 = .ok (.aload_n 0, 1) := by decide +kernel
theorem dX9_sits_51 : decode cX9_sits 51 = .ok (.getfield 20, 3) := by decide +kernel
theorem dX9_sits_54 : decode cX9_sits 54 = .ok (.iload_n 1, 1) := by decide +kernel
theorem dX9_sits_55 : decode cX9_sits 55 = .ok (.aaload, 1) := by decide +kernel
theorem dX9_sits_56 : decode cX9_sits 56 = .ok (.getfield 159, 3) := by decide +kernel
theorem dX9_sits_59 : decode cX9_sits 59 = .ok (.iconst 2, 1) := by decide +kernel
theorem dX9_sits_60 : decode cX9_sits 60 = .ok (.iload_n 2, 1) := by decide +kernel
theorem dX9_sits_61 : decode cX9_sits 61 = .ok (.imul, 1) := by decide +kernel
theorem dX9_sits_62 : decode cX9_sits 62 = .ok (.iload_n 3, 1) := by decide +kernel
theorem dX9_sits_63 : decode cX9_sits 63 = .ok (.iadd, 1) := by decide +kernel
theorem dX9_sits_64 : decode cX9_sits 64 = .ok (.iaload, 1) := by decide +kernel
theorem dX9_sits_65 : decode cX9_sits 65 = .ok (.ireturn, 1) := by decide +kernel
theorem dX8_weigh_0 : decode cX8_weigh 0 = .ok (.iconst 0, 1) := by decide +kernel
theorem dX8_weigh_1 : decode cX8_weigh 1 = .ok (.istore_n 3, 1) := by decide +kernel
theorem dX8_weigh_2 : decode cX8_weigh 2 = .ok (.aload_n 2, 1) := by decide +kernel
theorem dX8_weigh_3 : decode cX8_weigh 3 = .ok (.invokevirtual 22, 3) := by decide +kernel
theorem dX8_weigh_6 : decode cX8_weigh 6 = .ok (.istore 4, 2) := by decide +kernel
theorem dX8_weigh_8 : decode cX8_weigh 8 = .ok (.aload_n 0, 1) := by decide +kernel
theorem dX8_weigh_9 : decode cX8_weigh 9 = .ok (.iconst 0, 1) := by decide +kernel
theorem dX8_weigh_10 : decode cX8_weigh 10 = .ok (.putfield 16, 3) := by decide +kernel
theorem dX8_weigh_13 : decode cX8_weigh 13 = .ok (.aload_n 0, 1) := by decide +kernel
theorem dX8_weigh_14 : decode cX8_weigh 14 = .ok (.iconst 0, 1) := by decide +kernel
theorem dX8_weigh_15 : decode cX8_weigh 15 = .ok (.putfield 19, 3) := by decide +kernel
theorem dX8_weigh_18 : decode cX8_weigh 18 = .ok (.iconst 0, 1) := by decide +kernel
theorem dX8_weigh_19 : decode cX8_weigh 19 = .ok (.istore 5, 2) := by decide +kernel
theorem dX8_weigh_21 : decode cX8_weigh 21 = .ok (.iload 5, 2) := by decide +kernel
theorem dX8_weigh_23 : decode cX8_weigh 23 = .ok (.aload_n 2, 1) := by decide +kernel
theorem dX8_weigh_24 : decode cX8_weigh 24 = .ok (.getfield 28, 3) := by decide +kernel
theorem dX8_weigh_27 : decode cX8_weigh 27 = .ok (.if_icmp .ge 134, 3) := by decide +kernel
theorem dX8_weigh_30 : decode cX8_weigh 30 = .ok (.aload_n 2, 1) := by decide +kernel
theorem dX8_weigh_31 : decode cX8_weigh 31 = .ok (.getfield 31, 3) := by decide +kernel
theorem dX8_weigh_34 : decode cX8_weigh 34 = .ok (.iconst 2, 1) := by decide +kernel
theorem dX8_weigh_35 : decode cX8_weigh 35 = .ok (.iload 5, 2) := by decide +kernel
theorem dX8_weigh_37 : decode cX8_weigh 37 = .ok (.imul, 1) := by decide +kernel
theorem dX8_weigh_38 : decode cX8_weigh 38 = .ok (.iaload, 1) := by decide +kernel
theorem dX8_weigh_39 : decode cX8_weigh 39 = .ok (.istore 6, 2) := by decide +kernel
theorem dX8_weigh_41 : decode cX8_weigh 41 = .ok (.aload_n 2, 1) := by decide +kernel
theorem dX8_weigh_42 : decode cX8_weigh 42 = .ok (.getfield 31, 3) := by decide +kernel
theorem dX8_weigh_45 : decode cX8_weigh 45 = .ok (.iconst 2, 1) := by decide +kernel
theorem dX8_weigh_46 : decode cX8_weigh 46 = .ok (.iload 5, 2) := by decide +kernel
theorem dX8_weigh_48 : decode cX8_weigh 48 = .ok (.imul, 1) := by decide +kernel
theorem dX8_weigh_49 : decode cX8_weigh 49 = .ok (.iconst 1, 1) := by decide +kernel
theorem dX8_weigh_50 : decode cX8_weigh 50 = .ok (.iadd, 1) := by decide +kernel
theorem dX8_weigh_51 : decode cX8_weigh 51 = .ok (.iaload, 1) := by decide +kernel
theorem dX8_weigh_52 : decode cX8_weigh 52 = .ok (.istore 7, 2) := by decide +kernel
theorem dX8_weigh_54 : decode cX8_weigh 54 = .ok (.iload_n 3, 1) := by decide +kernel
theorem dX8_weigh_55 : decode cX8_weigh 55 = .ok (.aload_n 1, 1) := by decide +kernel
theorem dX8_weigh_56 : decode cX8_weigh 56 = .ok (.getfield 35, 3) := by decide +kernel
theorem dX8_weigh_59 : decode cX8_weigh 59 = .ok (.iload 6, 2) := by decide +kernel
theorem dX8_weigh_61 : decode cX8_weigh 61 = .ok (.iaload, 1) := by decide +kernel
theorem dX8_weigh_62 : decode cX8_weigh 62 = .ok (.aload_n 1, 1) := by decide +kernel
theorem dX8_weigh_63 : decode cX8_weigh 63 = .ok (.getfield 35, 3) := by decide +kernel
theorem dX8_weigh_66 : decode cX8_weigh 66 = .ok (.iload 7, 2) := by decide +kernel
theorem dX8_weigh_68 : decode cX8_weigh 68 = .ok (.iaload, 1) := by decide +kernel
theorem dX8_weigh_69 : decode cX8_weigh 69 = .ok (.isub, 1) := by decide +kernel
theorem dX8_weigh_70 : decode cX8_weigh 70 = .ok (.iadd, 1) := by decide +kernel
theorem dX8_weigh_71 : decode cX8_weigh 71 = .ok (.istore_n 3, 1) := by decide +kernel
theorem dX8_weigh_72 : decode cX8_weigh 72 = .ok (.iload 4, 2) := by decide +kernel
theorem dX8_weigh_74 : decode cX8_weigh 74 = .ok (.aload_n 1, 1) := by decide +kernel
theorem dX8_weigh_75 : decode cX8_weigh 75 = .ok (.getfield 35, 3) := by decide +kernel
theorem dX8_weigh_78 : decode cX8_weigh 78 = .ok (.iload 6, 2) := by decide +kernel
theorem dX8_weigh_80 : decode cX8_weigh 80 = .ok (.iaload, 1) := by decide +kernel
theorem dX8_weigh_81 : decode cX8_weigh 81 = .ok (.aload_n 1, 1) := by decide +kernel
theorem dX8_weigh_82 : decode cX8_weigh 82 = .ok (.getfield 35, 3) := by decide +kernel
theorem dX8_weigh_85 : decode cX8_weigh 85 = .ok (.iload 7, 2) := by decide +kernel
theorem dX8_weigh_87 : decode cX8_weigh 87 = .ok (.iaload, 1) := by decide +kernel
theorem dX8_weigh_88 : decode cX8_weigh 88 = .ok (.iadd, 1) := by decide +kernel
theorem dX8_weigh_89 : decode cX8_weigh 89 = .ok (.aload_n 2, 1) := by decide +kernel
theorem dX8_weigh_90 : decode cX8_weigh 90 = .ok (.iload 5, 2) := by decide +kernel
theorem dX8_weigh_92 : decode cX8_weigh 92 = .ok (.invokevirtual 40, 3) := by decide +kernel
theorem dX8_weigh_95 : decode cX8_weigh 95 = .ok (.imul, 1) := by decide +kernel
theorem dX8_weigh_96 : decode cX8_weigh 96 = .ok (.iadd, 1) := by decide +kernel
theorem dX8_weigh_97 : decode cX8_weigh 97 = .ok (.istore 4, 2) := by decide +kernel
theorem dX8_weigh_99 : decode cX8_weigh 99 = .ok (.aload_n 0, 1) := by decide +kernel
theorem dX8_weigh_100 : decode cX8_weigh 100 = .ok (.dup, 1) := by decide +kernel
theorem dX8_weigh_101 : decode cX8_weigh 101 = .ok (.getfield 16, 3) := by decide +kernel
theorem dX8_weigh_104 : decode cX8_weigh 104 = .ok (.aload_n 1, 1) := by decide +kernel
theorem dX8_weigh_105 : decode cX8_weigh 105 = .ok (.getfield 44, 3) := by decide +kernel
theorem dX8_weigh_108 : decode cX8_weigh 108 = .ok (.iload 6, 2) := by decide +kernel
theorem dX8_weigh_110 : decode cX8_weigh 110 = .ok (.iaload, 1) := by decide +kernel
theorem dX8_weigh_111 : decode cX8_weigh 111 = .ok (.aload_n 1, 1) := by decide +kernel
