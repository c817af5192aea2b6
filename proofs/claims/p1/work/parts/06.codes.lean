theorem dX0_init_0 : decode cX0_init 0 = .ok (.aload_n 0, 1) := by decide +kernel
theorem dX0_init_1 : decode cX0_init 1 = .ok (.invokespecial 1, 3) := by decide +kernel
theorem dX0_init_4 : decode cX0_init 4 = .ok (.aload_n 0, 1) := by decide +kernel
theorem dX0_init_5 : decode cX0_init 5 = .ok (.iconst 0, 1) := by decide +kernel
theorem dX0_init_6 : decode cX0_init 6 = .ok (.putfield 7, 3) := by decide +kernel
theorem dX0_init_9 : decode cX0_init 9 = .ok (.aload_n 0, 1) := by decide +kernel
theorem dX0_init_10 : decode cX0_init 10 = .ok (.iconst 0, 1) := by decide +kernel
theorem dX0_init_11 : decode cX0_init 11 = .ok (.putfield 13, 3) := by decide +kernel
theorem dX0_init_14 : decode cX0_init 14 = .ok (.return_, 1) := by decide +kernel
theorem dX1_init_0 : decode cX1_init 0 = .ok (.aload_n 0, 1) := by decide +kernel
theorem dX1_init_1 : decode cX1_init 1 = .ok (.invokespecial 3, 3) := by decide +kernel
theorem dX1_init_4 : decode cX1_init 4 = .ok (.aload_n 0, 1) := by decide +kernel
theorem dX1_init_5 : decode cX1_init 5 = .ok (.iconst 2, 1) := by decide +kernel
theorem dX1_init_6 : decode cX1_init 6 = .ok (.putfield 9, 3) := by decide +kernel
theorem dX1_init_9 : decode cX1_init 9 = .ok (.aload_n 0, 1) := by decide +kernel
theorem dX1_init_10 : decode cX1_init 10 = .ok (.iconst 0, 1) := by decide +kernel
theorem dX1_init_11 : decode cX1_init 11 = .ok (.putfield 15, 3) := by decide +kernel
theorem dX1_init_14 : decode cX1_init 14 = .ok (.aload_n 0, 1) := by decide +kernel
theorem dX1_init_15 : decode cX1_init 15 = .ok (.iconst 4, 1) := by decide +kernel
theorem dX1_init_16 : decode cX1_init 16 = .ok (.putfield 18, 3) := by decide +kernel
theorem dX1_init_19 : decode cX1_init 19 = .ok (.aload_n 0, 1) := by decide +kernel
theorem dX1_init_20 : decode cX1_init 20 = .ok (.iconst 0, 1) := by decide +kernel
theorem dX1_init_21 : decode cX1_init 21 = .ok (.putfield 21, 3) := by decide +kernel
theorem dX1_init_24 : decode cX1_init 24 = .ok (.aload_n 0, 1) := by decide +kernel
theorem dX1_init_25 : decode cX1_init 25 = .ok (.bipush 8, 2) := by decide +kernel
theorem dX1_init_27 : decode cX1_init 27 = .ok (.newarray .int, 2) := by decide +kernel
theorem dX1_init_29 : decode cX1_init 29 = .ok (.putfield 24, 3) := by decide +kernel
theorem dX1_init_32 : decode cX1_init 32 = .ok (.aload_n 0, 1) := by decide +kernel
theorem dX1_init_33 : decode cX1_init 33 = .ok (.lconst 0, 1) := by decide +kernel
theorem dX1_init_34 : decode cX1_init 34 = .ok (.putfield 28, 3) := by decide +kernel
theorem dX1_init_37 : decode cX1_init 37 = .ok (.aload_n 0, 1) := by decide +kernel
theorem dX1_init_38 : decode cX1_init 38 = .ok (.iconst 0, 1) := by decide +kernel
theorem dX1_init_39 : decode cX1_init 39 = .ok (.putfield 32, 3) := by decide +kernel
theorem dX1_init_42 : decode cX1_init 42 = .ok (.aload_n 0, 1) := by decide +kernel
theorem dX1_init_43 : decode cX1_init 43 = .ok (.bipush 8, 2) := by decide +kernel
theorem dX1_init_45 : decode cX1_init 45 = .ok (.newarray .int, 2) := by decide +kernel
theorem dX1_init_47 : decode cX1_init 47 = .ok (.putfield 36, 3) := by decide +kernel
theorem dX1_init_50 : decode cX1_init 50 = .ok (.return_, 1) := by decide +kernel
theorem dX2_init_0 : decode cX2_init 0 = .ok (.aload_n 0, 1) := by decide +kernel
theorem dX2_init_1 : decode cX2_init 1 = .ok (.invokespecial 3, 3) := by decide +kernel
theorem dX2_init_4 : decode cX2_init 4 = .ok (.aload_n 0, 1) := by decide +kernel
theorem dX2_init_5 : decode cX2_init 5 = .ok (.iconst 0, 1) := by decide +kernel
theorem dX2_init_6 : decode cX2_init 6 = .ok (.putfield 9, 3) := by decide +kernel
theorem dX2_init_9 : decode cX2_init 9 = .ok (.aload_n 0, 1) := by decide +kernel
theorem dX2_init_10 : decode cX2_init 10 = .ok (.bipush 6, 2) := by decide +kernel
theorem dX2_init_12 : decode cX2_init 12 = .ok (.newarray .int, 2) := by decide +kernel
theorem dX2_init_14 : decode cX2_init 14 = .ok (.putfield 15, 3) := by decide +kernel
theorem dX2_init_17 : decode cX2_init 17 = .ok (.aload_n 0, 1) := by decide +kernel
theorem dX2_init_18 : decode cX2_init 18 = .ok (.bipush 6, 2) := by decide +kernel
theorem dX2_init_20 : decode cX2_init 20 = .ok (.newarray .int, 2) := by decide +kernel
theorem dX2_init_22 : decode cX2_init 22 = .ok (.putfield 19, 3) := by decide +kernel
theorem dX2_init_25 : decode cX2_init 25 = .ok (.aload_n 0, 1) := by decide +kernel
theorem dX2_init_26 : decode cX2_init 26 = .ok (.bipush 6, 2) := by decide +kernel
theorem dX2_init_28 : decode cX2_init 28 = .ok (.newarray .boolean, 2) := by decide +kernel
theorem dX2_init_30 : decode cX2_init 30 = .ok (.putfield 22, 3) := by decide +kernel
theorem dX2_init_33 : decode cX2_init 33 = .ok (.aload_n 0, 1) := by decide +kernel
theorem dX2_init_34 : decode cX2_init 34 = .ok (.bipush 6, 2) := by decide +kernel
theorem dX2_init_36 : decode cX2_init 36 = .ok (.newarray .boolean, 2) := by decide +kernel
theorem dX2_init_38 : decode cX2_init 38 = .ok (.putfield 26, 3) := by decide +kernel
theorem dX2_init_41 : decode cX2_init 41 = .ok (.return_, 1) := by decide +kernel
theorem dX2_choose_0 : decode cX2_choose 0 = .ok (.iconst 0, 1) := by decide +kernel
theorem dX2_choose_1 : decode cX2_choose 1 = .ok (.istore 5, 2) := by decide +kernel
theorem dX2_choose_3 : decode cX2_choose 3 = .ok (.iload 5, 2) := by decide +kernel
theorem dX2_choose_5 : decode cX2_choose 5 = .ok (.bipush 6, 2) := by decide +kernel
theorem dX2_choose_7 : decode cX2_choose 7 = .ok (.if_icmp .ge 25, 3) := by decide +kernel
theorem dX2_choose_10 : decode cX2_choose 10 = .ok (.aload_n 0, 1) := by decide +kernel
theorem dX2_choose_11 : decode cX2_choose 11 = .ok (.getfield 19, 3) := by decide +kernel
theorem dX2_choose_14 : decode cX2_choose 14 = .ok (.iload 5, 2) := by decide +kernel
theorem dX2_choose_16 : decode cX2_choose 16 = .ok (.iconst 0, 1) := by decide +kernel
theorem dX2_choose_17 : decode cX2_choose 17 = .ok (.iastore, 1) := by decide +kernel
theorem dX2_choose_18 : decode cX2_choose 18 = .ok (.aload_n 0, 1) := by decide +kernel
theorem dX2_choose_19 : decode cX2_choose 19 = .ok (.getfield 22, 3) := by decide +kernel
theorem dX2_choose_22 : decode cX2_choose 22 = .ok (.iload 5, 2) := by decide +kernel
theorem dX2_choose_24 : decode cX2_choose 24 = .ok (.iconst 0, 1) := by decide +kernel
theorem dX2_choose_25 : decode cX2_choose 25 = .ok (.bastore, 1) := by decide +kernel
theorem dX2_choose_26 : decode cX2_choose 26 = .ok (.iinc 5 1, 3) := by decide +kernel
theorem dX2_choose_29 : decode cX2_choose 29 = .ok (.goto (-26), 3) := by decide +kernel
theorem dX2_choose_32 : decode cX2_choose 32 = .ok (.iconst 0, 1) := by decide +kernel
theorem dX2_choose_33 : decode cX2_choose 33 = .ok (.istore 5, 2) := by decide +kernel
theorem dX2_choose_35 : decode cX2_choose 35 = .ok (.iload 5, 2) := by decide +kernel
theorem dX2_choose_37 : decode cX2_choose 37 = .ok (.iload_n 2, 1) := by decide +kernel
theorem dX2_choose_38 : decode cX2_choose 38 = .ok (.if_icmp .ge 29, 3) := by decide +kernel
theorem dX2_choose_67 : decode cX2_choose 67 = .ok (.iconst 0, 1) := by decide +kernel
theorem dX2_choose_68 : decode cX2_choose 68 = .ok (.istore 5, 2) := by decide +kernel
theorem dX2_choose_70 : decode cX2_choose 70 = .ok (.iload 5, 2) := by decide +kernel
theorem dX2_choose_72 : decode cX2_choose 72 = .ok (.bipush 6, 2) := by decide +kernel
theorem dX2_choose_74 : decode cX2_choose 74 = .ok (.if_icmp .ge 52, 3) := by decide +kernel
theorem dX2_choose_77 : decode cX2_choose 77 = .ok (.aload_n 0, 1) := by decide +kernel
theorem dX2_choose_78 : decode cX2_choose 78 = .ok (.getfield 26, 3) := by decide +kernel
theorem dX2_choose_81 : decode cX2_choose 81 = .ok (.iload 5, 2) := by decide +kernel
theorem dX2_choose_83 : decode cX2_choose 83 = .ok (.aload_n 0, 1) := by decide +kernel
theorem dX2_choose_84 : decode cX2_choose 84 = .ok (.getfield 22, 3) := by decide +kernel
theorem dX2_choose_87 : decode cX2_choose 87 = .ok (.iload 5, 2) := by decide +kernel
theorem dX2_choose_89 : decode cX2_choose 89 = .ok (.baload, 1) := by decide +kernel
theorem dX2_choose_90 : decode cX2_choose 90 = .ok (.ifCond .ne 24, 3) := by decide +kernel
theorem dX2_choose_93 : decode cX2_choose 93 = .ok (.aload_n 0, 1) := by decide +kernel
theorem dX2_choose_94 : decode cX2_choose 94 = .ok (.getfield 19, 3) := by decide +kernel
theorem dX2_choose_97 : decode cX2_choose 97 = .ok (.iload 5, 2) := by decide +kernel
theorem dX2_choose_99 : decode cX2_choose 99 = .ok (.iaload, 1) := by decide +kernel
theorem dX2_choose_100 : decode cX2_choose 100 = .ok (.ifCond .le 18, 3) := by decide +kernel
theorem dX2_choose_118 : decode cX2_choose 118 = .ok (.iconst 0, 1) := by decide +kernel
theorem dX2_choose_119 : decode cX2_choose 119 = .ok (.bastore, 1) := by decide +kernel
theorem dX2_choose_120 : decode cX2_choose 120 = .ok (.iinc 5 1, 3) := by decide +kernel
theorem dX2_choose_123 : decode cX2_choose 123 = .ok (.goto (-53), 3) := by decide +kernel
theorem dX2_choose_126 : decode cX2_choose 126 = .ok (.aload_n 0, 1) := by decide +kernel
theorem dX2_choose_127 : decode cX2_choose 127 = .ok (.invokevirtual 42, 3) := by decide +kernel
theorem dX2_choose_130 : decode cX2_choose 130 = .ok (.return_, 1) := by decide +kernel
theorem dX2_putInOrder_0 : decode cX2_putInOrder 0 = .ok (.aload_n 0, 1) := by decide +kernel
theorem dX2_putInOrder_1 : decode cX2_putInOrder 1 = .ok (.iconst 0, 1) := by decide +kernel
theorem dX2_putInOrder_2 : decode cX2_putInOrder 2 = .ok (.putfield 9, 3) := by decide +kernel
theorem dX2_putInOrder_5 : decode cX2_putInOrder 5 = .ok (.iconst 0, 1) := by decide +kernel
theorem dX2_putInOrder_6 : decode cX2_putInOrder 6 = .ok (.istore_n 1, 1) := by decide +kernel
theorem dX2_putInOrder_7 : decode cX2_putInOrder 7 = .ok (.iload_n 1, 1) := by decide +kernel
theorem dX2_putInOrder_8 : decode cX2_putInOrder 8 = .ok (.bipush 6, 2) := by decide +kernel
theorem dX2_putInOrder_10 : decode cX2_putInOrder 10 = .ok (.if_icmp .ge 39, 3) := by decide +kernel
theorem dX2_putInOrder_13 : decode cX2_putInOrder 13 = .ok (.aload_n 0, 1) := by decide +kernel
theorem dX2_putInOrder_14 : decode cX2_putInOrder 14 = .ok (.getfield 26, 3) := by decide +kernel
theorem dX2_putInOrder_17 : decode cX2_putInOrder 17 = .ok (.iload_n 1, 1) := by decide +kernel
theorem dX2_putInOrder_18 : decode cX2_putInOrder 18 = .ok (.baload, 1) := by decide +kernel
theorem dX2_putInOrder_19 : decode cX2_putInOrder 19 = .ok (.ifCond .eq 24, 3) := by decide +kernel
theorem dX2_putInOrder_43 : decode cX2_putInOrder 43 = .ok (.iinc 1 1, 3) := by decide +kernel
theorem dX2_putInOrder_46 : decode cX2_putInOrder 46 = .ok (.goto (-39), 3) := by decide +kernel
theorem dX2_putInOrder_49 : decode cX2_putInOrder 49 = .ok (.return_, 1) := by decide +kernel
theorem dX3_init_0 : decode cX3_init 0 = .ok (.aload_n 0, 1) := by decide +kernel
theorem dX3_init_1 : decode cX3_init 1 = .ok (.invokespecial 3, 3) := by decide +kernel
theorem dX3_init_4 : decode cX3_init 4 = .ok (.aload_n 0, 1) := by decide +kernel
theorem dX3_init_5 : decode cX3_init 5 = .ok (.iconst 0, 1) := by decide +kernel
theorem dX3_init_6 : decode cX3_init 6 = .ok (.putfield 9, 3) := by decide +kernel
theorem dX3_init_9 : decode cX3_init 9 = .ok (.aload_n 0, 1) := by decide +kernel
theorem dX3_init_10 : decode cX3_init 10 = .ok (.iconst 0, 1) := by decide +kernel
theorem dX3_init_11 : decode cX3_init 11 = .ok (.putfield 15, 3) := by decide +kernel
theorem dX3_init_14 : decode cX3_init 14 = .ok (.aload_n 0, 1) := by decide +kernel
theorem dX3_init_15 : decode cX3_init 15 = .ok (.iconst 0, 1) := by decide +kernel
theorem dX3_init_16 : decode cX3_init 16 = .ok (.putfield 18, 3) := by decide +kernel
theorem dX3_init_19 : decode cX3_init 19 = .ok (.aload_n 0, 1) := by decide +kernel
theorem dX3_init_20 : decode cX3_init 20 = .ok (.iconst 4, 1) := by decide +kernel
theorem dX3_init_21 : decode cX3_init 21 = .ok (.newarray .int, 2) := by decide +kernel
theorem dX3_init_23 : decode cX3_init 23 = .ok (.putfield 22, 3) := by decide +kernel
theorem dX3_init_26 : decode cX3_init 26 = .ok (.aload_n 0, 1) := by decide +kernel
theorem dX3_init_27 : decode cX3_init 27 = .ok (.iconst 4, 1) := by decide +kernel
theorem dX3_init_28 : decode cX3_init 28 = .ok (.newarray .int, 2) := by decide +kernel
theorem dX3_init_30 : decode cX3_init 30 = .ok (.putfield 26, 3) := by decide +kernel
theorem dX3_init_33 : decode cX3_init 33 = .ok (.aload_n 0, 1) := by decide +kernel
theorem dX3_init_34 : decode cX3_init 34 = .ok (.iconst 4, 1) := by decide +kernel
theorem dX3_init_35 : decode cX3_init 35 = .ok (.newarray .int, 2) := by decide +kernel
theorem dX3_init_37 : decode cX3_init 37 = .ok (.putfield 29, 3) := by decide +kernel
theorem dX3_init_40 : decode cX3_init 40 = .ok (.aload_n 0, 1) := by decide +kernel
theorem dX3_init_41 : decode cX3_init 41 = .ok (.iconst 4, 1) := by decide +kernel
theorem dX3_init_42 : decode cX3_init 42 = .ok (.newarray .boolean, 2) := by decide +kernel
theorem dX3_init_44 : decode cX3_init 44 = .ok (.putfield 32, 3) := by decide +kernel
theorem dX3_init_47 : decode cX3_init 47 = .ok (.return_, 1) := by decide +kernel
theorem dX4_init_0 : decode cX4_init 0 = .ok (.aload_n 0, 1) := by decide +kernel
theorem dX4_init_1 : decode cX4_init 1 = .ok (.invokespecial 3, 3) := by decide +kernel
theorem dX4_init_4 : decode cX4_init 4 = .ok (.aload_n 0, 1) := by decide +kernel
theorem dX4_init_5 : decode cX4_init 5 = .ok (.iconst 0, 1) := by decide +kernel
theorem dX4_init_6 : decode cX4_init 6 = .ok (.putfield 9, 3) := by decide +kernel
theorem dX4_init_9 : decode cX4_init 9 = .ok (.aload_n 0, 1) := by decide +kernel
theorem dX4_init_10 : decode cX4_init 10 = .ok (.bipush 40, 2) := by decide +kernel
theorem dX4_init_12 : decode cX4_init 12 = .ok (.newarray .int, 2) := by decide +kernel
theorem dX4_init_14 : decode cX4_init 14 = .ok (.putfield 15, 3) := by decide +kernel
theorem dX4_init_17 : decode cX4_init 17 = .ok (.aload_n 0, 1) := by decide +kernel
theorem dX4_init_18 : decode cX4_init 18 = .ok (.bipush 40, 2) := by decide +kernel
theorem dX4_init_20 : decode cX4_init 20 = .ok (.newarray .int, 2) := by decide +kernel
theorem dX4_init_22 : decode cX4_init 22 = .ok (.putfield 19, 3) := by decide +kernel
theorem dX4_init_25 : decode cX4_init 25 = .ok (.aload_n 0, 1) := by decide +kernel
theorem dX4_init_26 : decode cX4_init 26 = .ok (.bipush 40, 2) := by decide +kernel
theorem dX4_init_28 : decode cX4_init 28 = .ok (.newarray .int, 2) := by decide +kernel
theorem dX4_init_30 : decode cX4_init 30 = .ok (.putfield 22, 3) := by decide +kernel
theorem dX4_init_33 : decode cX4_init 33 = .ok (.aload_n 0, 1) := by decide +kernel
theorem dX4_init_34 : decode cX4_init 34 = .ok (.bipush 40, 2) := by decide +kernel
theorem dX4_init_36 : decode cX4_init 36 = .ok (.newarray .int, 2) := by decide +kernel
theorem dX4_init_38 : decode cX4_init 38 = .ok (.putfield 25, 3) := by decide +kernel
theorem dX4_init_41 : decode cX4_init 41 = .ok (.aload_n 0, 1) := by decide +kernel
theorem dX4_init_42 : decode cX4_init 42 = .ok (.bipush 40, 2) := by decide +kernel
theorem dX4_init_44 : decode cX4_init 44 = .ok (.newarray .int, 2) := by decide +kernel
theorem dX4_init_46 : decode cX4_init 46 = .ok (.putfield 28, 3) := by decide +kernel
theorem dX4_init_49 : decode cX4_init 49 = .ok (.aload_n 0, 1) := by decide +kernel
theorem dX4_init_50 : decode cX4_init 50 = .ok (.bipush 40, 2) := by decide +kernel
theorem dX4_init_52 : decode cX4_init 52 = .ok (.newarray .long, 2) := by decide +kernel
theorem dX4_init_54 : decode cX4_init 54 = .ok (.putfield 31, 3) := by decide +kernel
theorem dX4_init_57 : decode cX4_init 57 = .ok (.return_, 1) := by decide +kernel
theorem dX4_has_0 : decode cX4_has 0 = .ok (.iload_n 1, 1) := by decide +kernel
theorem dX4_has_1 : decode cX4_has 1 = .ok (.iconst 0, 1) := by decide +kernel
theorem dX4_has_2 : decode cX4_has 2 = .ok (.aload_n 0, 1) := by decide +kernel
theorem dX4_has_3 : decode cX4_has 3 = .ok (.getfield 9, 3) := by decide +kernel
theorem dX4_has_6 : decode cX4_has 6 = .ok (.iconst 1, 1) := by decide +kernel
theorem dX4_has_7 : decode cX4_has 7 = .ok (.isub, 1) := by decide +kernel
theorem dX4_has_8 : decode cX4_has 8 = .ok (.invokestatic 35, 3) := by decide +kernel
theorem dX4_has_11 : decode cX4_has 11 = .ok (.ireturn, 1) := by decide +kernel
theorem dX4_add_0 : decode cX4_add 0 = .ok (.aload_n 0, 1) := by decide +kernel
theorem dX4_add_1 : decode cX4_add 1 = .ok (.getfield 15, 3) := by decide +kernel
theorem dX4_add_4 : decode cX4_add 4 = .ok (.aload_n 0, 1) := by decide +kernel
theorem dX4_add_5 : decode cX4_add 5 = .ok (.getfield 9, 3) := by decide +kernel
theorem dX4_add_8 : decode cX4_add 8 = .ok (.iload_n 1, 1) := by decide +kernel
theorem dX4_add_9 : decode cX4_add 9 = .ok (.iastore, 1) := by decide +kernel
theorem dX4_add_10 : decode cX4_add 10 = .ok (.aload_n 0, 1) := by decide +kernel
theorem dX4_add_11 : decode cX4_add 11 = .ok (.getfield 19, 3) := by decide +kernel
theorem dX4_add_14 : decode cX4_add 14 = .ok (.aload_n 0, 1) := by decide +kernel
theorem dX4_add_15 : decode cX4_add 15 = .ok (.getfield 9, 3) := by decide +kernel
theorem dX4_add_18 : decode cX4_add 18 = .ok (.iload_n 2, 1) := by decide +kernel
theorem dX4_add_19 : decode cX4_add 19 = .ok (.iastore, 1) := by decide +kernel
theorem dX4_add_20 : decode cX4_add 20 = .ok (.aload_n 0, 1) := by decide +kernel
theorem dX4_add_21 : decode cX4_add 21 = .ok (.getfield 22, 3) := by decide +kernel
theorem dX4_add_24 : decode cX4_add 24 = .ok (.aload_n 0, 1) := by decide +kernel
theorem dX4_add_25 : decode cX4_add 25 = .ok (.getfield 9, 3) := by decide +kernel
theorem dX4_add_28 : decode cX4_add 28 = .ok (.iload_n 3, 1) := by decide +kernel
theorem dX4_add_29 : decode cX4_add 29 = .ok (.iastore, 1) := by decide +kernel
theorem dX4_add_30 : decode cX4_add 30 = .ok (.aload_n 0, 1) := by decide +kernel
theorem dX4_add_31 : decode cX4_add 31 = .ok (.getfield 25, 3) := by decide +kernel
theorem dX4_add_34 : decode cX4_add 34 = .ok (.aload_n 0, 1) := by decide +kernel
theorem dX4_add_35 : decode cX4_add 35 = .ok (.getfield 9, 3) := by decide +kernel
theorem dX4_add_38 : decode cX4_add 38 = .ok (.iload 4, 2) := by decide +kernel
theorem dX4_add_40 : decode cX4_add 40 = .ok (.iastore, 1) := by decide +kernel
theorem dX4_add_41 : decode cX4_add 41 = .ok (.aload_n 0, 1) := by decide +kernel
theorem dX4_add_42 : decode cX4_add 42 = .ok (.getfield 28, 3) := by decide +kernel
theorem dX4_add_45 : decode cX4_add 45 = .ok (.aload_n 0, 1) := by decide +kernel
theorem dX4_add_46 : decode cX4_add 46 = .ok (.getfield 9, 3) := by decide +kernel
theorem dX4_add_49 : decode cX4_add 49 = .ok (.iload 5, 2) := by decide +kernel
theorem dX4_add_51 : decode cX4_add 51 = .ok (.iastore, 1) := by decide +kernel
theorem dX4_add_52 : decode cX4_add 52 = .ok (.aload_n 0, 1) := by decide +kernel
theorem dX4_add_53 : decode cX4_add 53 = .ok (.dup, 1) := by decide +kernel
theorem dX4_add_54 : decode cX4_add 54 = .ok (.getfield 9, 3) := by decide +kernel
theorem dX4_add_57 : decode cX4_add 57 = .ok (.iconst 1, 1) := by decide +kernel
theorem dX4_add_58 : decode cX4_add 58 = .ok (.iadd, 1) := by decide +kernel
theorem dX4_add_59 : decode cX4_add 59 = .ok (.putfield 9, 3) := by decide +kernel
theorem dX4_add_62 : decode cX4_add 62 = .ok (.aload_n 0, 1) := by decide +kernel
theorem dX4_add_63 : decode cX4_add 63 = .ok (.getfield 9, 3) := by decide +kernel
theorem dX4_add_66 : decode cX4_add 66 = .ok (.iconst 1, 1) := by decide +kernel
theorem dX4_add_67 : decode cX4_add 67 = .ok (.isub, 1) := by decide +kernel
theorem dX4_add_68 : decode cX4_add 68 = .ok (.ireturn, 1) := by decide +kernel
theorem dX5_init_0 : decode cX5_init 0 = .ok (.aload_n 0, 1) := by decide +kernel
theorem dX5_init_1 : decode cX5_init 1 = .ok (.invokespecial 3, 3) := by decide +kernel
theorem dX5_init_4 : decode cX5_init 4 = .ok (.aload_n 0, 1) := by decide +kernel
theorem dX5_init_5 : decode cX5_init 5 = .ok (.iconst 0, 1) := by decide +kernel
theorem dX5_init_6 : decode cX5_init 6 = .ok (.putfield 9, 3) := by decide +kernel
theorem dX5_init_9 : decode cX5_init 9 = .ok (.aload_n 0, 1) := by decide +kernel
theorem dX5_init_10 : decode cX5_init 10 = .ok (.bipush 8, 2) := by decide +kernel
theorem dX5_init_12 : decode cX5_init 12 = .ok (.newarray .boolean, 2) := by decide +kernel
theorem dX5_init_14 : decode cX5_init 14 = .ok (.putfield 15, 3) := by decide +kernel
theorem dX5_init_17 : decode cX5_init 17 = .ok (.aload_n 0, 1) := by decide +kernel
theorem dX5_init_18 : decode cX5_init 18 = .ok (.bipush 8, 2) := by decide +kernel
theorem dX5_init_20 : decode cX5_init 20 = .ok (.newarray .int, 2) := by decide +kernel
theorem dX5_init_22 : decode cX5_init 22 = .ok (.putfield 19, 3) := by decide +kernel
theorem dX5_init_25 : decode cX5_init 25 = .ok (.aload_n 0, 1) := by decide +kernel
theorem dX5_init_26 : decode cX5_init 26 = .ok (.bipush 8, 2) := by decide +kernel
theorem dX5_init_28 : decode cX5_init 28 = .ok (.newarray .int, 2) := by decide +kernel
theorem dX5_init_30 : decode cX5_init 30 = .ok (.putfield 23, 3) := by decide +kernel
theorem dX5_init_33 : decode cX5_init 33 = .ok (.aload_n 0, 1) := by decide +kernel
theorem dX5_init_34 : decode cX5_init 34 = .ok (.bipush 8, 2) := by decide +kernel
theorem dX5_init_36 : decode cX5_init 36 = .ok (.newarray .int, 2) := by decide +kernel
theorem dX5_init_38 : decode cX5_init 38 = .ok (.putfield 26, 3) := by decide +kernel
theorem dX5_init_41 : decode cX5_init 41 = .ok (.aload_n 0, 1) := by decide +kernel
theorem dX5_init_42 : decode cX5_init 42 = .ok (.bipush 8, 2) := by decide +kernel
theorem dX5_init_44 : decode cX5_init 44 = .ok (.newarray .boolean, 2) := by decide +kernel
theorem dX5_init_46 : decode cX5_init 46 = .ok (.putfield 29, 3) := by decide +kernel
theorem dX5_init_49 : decode cX5_init 49 = .ok (.return_, 1) := by decide +kernel
theorem dX6_init_0 : decode cX6_init 0 = .ok (.aload_n 0, 1) := by decide +kernel
theorem dX6_init_1 : decode cX6_init 1 = .ok (.invokespecial 3, 3) := by decide +kernel
theorem dX6_init_4 : decode cX6_init 4 = .ok (.aload_n 0, 1) := by decide +kernel
theorem dX6_init_5 : decode cX6_init 5 = .ok (.iconst 0, 1) := by decide +kernel
theorem dX6_init_6 : decode cX6_init 6 = .ok (.putfield 9, 3) := by decide +kernel
theorem dX6_init_9 : decode cX6_init 9 = .ok (.aload_n 0, 1) := by decide +kernel
theorem dX6_init_10 : decode cX6_init 10 = .ok (.iconst 0, 1) := by decide +kernel
theorem dX6_init_11 : decode cX6_init 11 = .ok (.putfield 15, 3) := by decide +kernel
theorem dX6_init_14 : decode cX6_init 14 = .ok (.aload_n 0, 1) := by decide +kernel
theorem dX6_init_15 : decode cX6_init 15 = .ok (.iconst 0, 1) := by decide +kernel
theorem dX6_init_16 : decode cX6_init 16 = .ok (.putfield 19, 3) := by decide +kernel
theorem dX6_init_19 : decode cX6_init 19 = .ok (.aload_n 0, 1) := by decide +kernel
theorem dX6_init_20 : decode cX6_init 20 = .ok (.iconst 0, 1) := by decide +kernel
theorem dX6_init_21 : decode cX6_init 21 = .ok (.putfield 22, 3) := by decide +kernel
theorem dX6_init_24 : decode cX6_init 24 = .ok (.aload_n 0, 1) := by decide +kernel
theorem dX6_init_25 : decode cX6_init 25 = .ok (.bipush 8, 2) := by decide +kernel
theorem dX6_init_27 : decode cX6_init 27 = .ok (.newarray .int, 2) := by decide +kernel
theorem dX6_init_29 : decode cX6_init 29 = .ok (.putfield 25, 3) := by decide +kernel
theorem dX6_init_32 : decode cX6_init 32 = .ok (.aload_n 0, 1) := by decide +kernel
theorem dX6_init_33 : decode cX6_init 33 = .ok (.bipush 8, 2) := by decide +kernel
theorem dX6_init_35 : decode cX6_init 35 = .ok (.newarray .int, 2) := by decide +kernel
theorem dX6_init_37 : decode cX6_init 37 = .ok (.putfield 29, 3) := by decide +kernel
theorem dX6_init_40 : decode cX6_init 40 = .ok (.aload_n 0, 1) := by decide +kernel
theorem dX6_init_41 : decode cX6_init 41 = .ok (.bipush 8, 2) := by decide +kernel
theorem dX6_init_43 : decode cX6_init 43 = .ok (.newarray .int, 2) := by decide +kernel
theorem dX6_init_45 : decode cX6_init 45 = .ok (.putfield 32, 3) := by decide +kernel
theorem dX6_init_48 : decode cX6_init 48 = .ok (.aload_n 0, 1) := by decide +kernel
theorem dX6_init_49 : decode cX6_init 49 = .ok (.bipush 8, 2) := by decide +kernel
theorem dX6_init_51 : decode cX6_init 51 = .ok (.newarray .int, 2) := by decide +kernel
theorem dX6_init_53 : decode cX6_init 53 = .ok (.putfield 35, 3) := by decide +kernel
theorem dX6_init_56 : decode cX6_init 56 = .ok (.aload_n 0, 1) := by decide +kernel
theorem dX6_init_57 : decode cX6_init 57 = .ok (.bipush 8, 2) := by decide +kernel
theorem dX6_init_59 : decode cX6_init 59 = .ok (.newarray .int, 2) := by decide +kernel
theorem dX6_init_61 : decode cX6_init 61 = .ok (.putfield 38, 3) := by decide +kernel
theorem dX6_init_64 : decode cX6_init 64 = .ok (.aload_n 0, 1) := by decide +kernel
theorem dX6_init_65 : decode cX6_init 65 = .ok (.bipush 8, 2) := by decide +kernel
theorem dX6_init_67 : decode cX6_init 67 = .ok (.newarray .int, 2) := by decide +kernel
theorem dX6_init_69 : decode cX6_init 69 = .ok (.putfield 41, 3) := by decide +kernel
theorem dX6_init_72 : decode cX6_init 72 = .ok (.aload_n 0, 1) := by decide +kernel
theorem dX6_init_73 : decode cX6_init 73 = .ok (.bipush 8, 2) := by decide +kernel
theorem dX6_init_75 : decode cX6_init 75 = .ok (.newarray .int, 2) := by decide +kernel
theorem dX6_init_77 : decode cX6_init 77 = .ok (.putfield 44, 3) := by decide +kernel
theorem dX6_init_80 : decode cX6_init 80 = .ok (.aload_n 0, 1) := by decide +kernel
theorem dX6_init_81 : decode cX6_init 81 = .ok (.bipush 8, 2) := by decide +kernel
theorem dX6_init_83 : decode cX6_init 83 = .ok (.newarray .int, 2) := by decide +kernel
theorem dX6_init_85 : decode cX6_init 85 = .ok (.putfield 47, 3) := by decide +kernel
theorem dX6_init_88 : decode cX6_init 88 = .ok (.aload_n 0, 1) := by decide +kernel
theorem dX6_init_89 : decode cX6_init 89 = .ok (.bipush 9, 2) := by decide +kernel
theorem dX6_init_91 : decode cX6_init 91 = .ok (.newarray .int, 2) := by decide +kernel
theorem dX6_init_93 : decode cX6_init 93 = .ok (.putfield 50, 3) := by decide +kernel
theorem dX6_init_96 : decode cX6_init 96 = .ok (.aload_n 0, 1) := by decide +kernel
theorem dX6_init_97 : decode cX6_init 97 = .ok (.bipush 9, 2) := by decide +kernel
theorem dX6_init_99 : decode cX6_init 99 = .ok (.newarray .int, 2) := by decide +kernel
theorem dX6_init_101 : decode cX6_init 101 = .ok (.putfield 53, 3) := by decide +kernel
theorem dX6_init_104 : decode cX6_init 104 = .ok (.aload_n 0, 1) := by decide +kernel
theorem dX6_init_105 : decode cX6_init 105 = .ok (.bipush 9, 2) := by decide +kernel
theorem dX6_init_107 : decode cX6_init 107 = .ok (.newarray .int, 2) := by decide +kernel
theorem dX6_init_109 : decode cX6_init 109 = .ok (.putfield 56, 3) := by decide +kernel
theorem dX6_init_112 : decode cX6_init 112 = .ok (.aload_n 0, 1) := by decide +kernel
theorem dX6_init_113 : decode cX6_init 113 = .ok (.bipush 9, 2) := by decide +kernel
theorem dX6_init_115 : decode cX6_init 115 = .ok (.newarray .int, 2) := by decide +kernel
theorem dX6_init_117 : decode cX6_init 117 = .ok (.putfield 59, 3) := by decide +kernel
theorem dX6_init_120 : decode cX6_init 120 = .ok (.aload_n 0, 1) := by decide +kernel
theorem dX6_init_121 : decode cX6_init 121 = .ok (.bipush 9, 2) := by decide +kernel
theorem dX6_init_123 : decode cX6_init 123 = .ok (.newarray .int, 2) := by decide +kernel
theorem dX6_init_125 : decode cX6_init 125 = .ok (.putfield 62, 3) := by decide +kernel
theorem dX6_init_128 : decode cX6_init 128 = .ok (.return_, 1) := by decide +kernel
theorem dX7_init_0 : decode cX7_init 0 = .ok (.aload_n 0, 1) := by decide +kernel
theorem dX7_init_1 : decode cX7_init 1 = .ok (.invokespecial 3, 3) := by decide +kernel
theorem dX7_init_4 : decode cX7_init 4 = .ok (.aload_n 0, 1) := by decide +kernel
theorem dX7_init_5 : decode cX7_init 5 = .ok (.iconst 0, 1) := by decide +kernel
theorem dX7_init_6 : decode cX7_init 6 = .ok (.putfield 9, 3) := by decide +kernel
theorem dX7_init_9 : decode cX7_init 9 = .ok (.aload_n 0, 1) := by decide +kernel
theorem dX7_init_10 : decode cX7_init 10 = .ok (.iconst 0, 1) := by decide +kernel
theorem dX7_init_11 : decode cX7_init 11 = .ok (.putfield 15, 3) := by decide +kernel
theorem dX7_init_14 : decode cX7_init 14 = .ok (.aload_n 0, 1) := by decide +kernel
theorem dX7_init_15 : decode cX7_init 15 = .ok (.bipush 120, 2) := by decide +kernel
theorem dX7_init_17 : decode cX7_init 17 = .ok (.newarray .int, 2) := by decide +kernel
theorem dX7_init_19 : decode cX7_init 19 = .ok (.putfield 18, 3) := by decide +kernel
theorem dX7_init_22 : decode cX7_init 22 = .ok (.return_, 1) := by decide +kernel
theorem dX8_init_0 : decode cX8_init 0 = .ok (.aload_n 0, 1) := by decide +kernel
theorem dX8_init_1 : decode cX8_init 1 = .ok (.invokespecial 1, 3) := by decide +kernel
theorem dX8_init_4 : decode cX8_init 4 = .ok (.aload_n 0, 1) := by decide +kernel
theorem dX8_init_5 : decode cX8_init 5 = .ok (.iconst 0, 1) := by decide +kernel
theorem dX8_init_6 : decode cX8_init 6 = .ok (.putfield 7, 3) := by decide +kernel
theorem dX8_init_9 : decode cX8_init 9 = .ok (.aload_n 0, 1) := by decide +kernel
theorem dX8_init_10 : decode cX8_init 10 = .ok (.iconst 0, 1) := by decide +kernel
theorem dX8_init_11 : decode cX8_init 11 = .ok (.putfield 13, 3) := by decide +kernel
theorem dX8_init_14 : decode cX8_init 14 = .ok (.aload_n 0, 1) := by decide +kernel
theorem dX8_init_15 : decode cX8_init 15 = .ok (.iconst 0, 1) := by decide +kernel
theorem dX8_init_16 : decode cX8_init 16 = .ok (.putfield 16, 3) := by decide +kernel
theorem dX8_init_19 : decode cX8_init 19 = .ok (.aload_n 0, 1) := by decide +kernel
theorem dX8_init_20 : decode cX8_init 20 = .ok (.iconst 0, 1) := by decide +kernel
theorem dX8_init_21 : decode cX8_init 21 = .ok (.putfield 19, 3) := by decide +kernel
theorem dX8_init_24 : decode cX8_init 24 = .ok (.return_, 1) := by decide +kernel
theorem dX9_init_0 : decode cX9_init 0 = .ok (.aload_n 0, 1) := by decide +kernel
theorem dX9_init_1 : decode cX9_init 1 = .ok (.invokespecial 3, 3) := by decide +kernel
theorem dX9_init_4 : decode cX9_init 4 = .ok (.aload_n 0, 1) := by decide +kernel
theorem dX9_init_5 : decode cX9_init 5 = .ok (.new 9, 3) := by decide +kernel
theorem dX9_init_8 : decode cX9_init 8 = .ok (.dup, 1) := by decide +kernel
theorem dX9_init_9 : decode cX9_init 9 = .ok (.invokespecial 11, 3) := by decide +kernel
theorem dX9_init_12 : decode cX9_init 12 = .ok (.putfield 12, 3) := by decide +kernel
theorem dX9_init_15 : decode cX9_init 15 = .ok (.aload_n 0, 1) := by decide +kernel
theorem dX9_init_16 : decode cX9_init 16 = .ok (.bipush 6, 2) := by decide +kernel
theorem dX9_init_18 : decode cX9_init 18 = .ok (.anewarray 18, 3) := by decide +kernel
theorem dX9_init_21 : decode cX9_init 21 = .ok (.putfield 20, 3) := by decide +kernel
theorem dX9_init_24 : decode cX9_init 24 = .ok (.aload_n 0, 1) := by decide +kernel
theorem dX9_init_25 : decode cX9_init 25 = .ok (.iconst 0, 1) := by decide +kernel
theorem dX9_init_26 : decode cX9_init 26 = .ok (.putfield 24, 3) := by decide +kernel
theorem dX9_init_29 : decode cX9_init 29 = .ok (.aload_n 0, 1) := by decide +kernel
theorem dX9_init_30 : decode cX9_init 30 = .ok (.new 28, 3) := by decide +kernel
theorem dX9_init_33 : decode cX9_init 33 = .ok (.dup, 1) := by decide +kernel
theorem dX9_init_34 : decode cX9_init 34 = .ok (.invokespecial 30, 3) := by decide +kernel
theorem dX9_init_37 : decode cX9_init 37 = .ok (.putfield 31, 3) := by decide +kernel
theorem dX9_init_40 : decode cX9_init 40 = .ok (.aload_n 0, 1) := by decide +kernel
theorem dX9_init_41 : decode cX9_init 41 = .ok (.new 35, 3) := by decide +kernel
theorem dX9_init_44 : decode cX9_init 44 = .ok (.dup, 1) := by decide +kernel
theorem dX9_init_45 : decode cX9_init 45 = .ok (.invokespecial 37, 3) := by decide +kernel
theorem dX9_init_48 : decode cX9_init 48 = .ok (.putfield 38, 3) := by decide +kernel
theorem dX9_init_51 : decode cX9_init 51 = .ok (.aload_n 0, 1) := by decide +kernel
theorem dX9_init_52 : decode cX9_init 52 = .ok (.new 42, 3) := by decide +kernel
theorem dX9_init_55 : decode cX9_init 55 = .ok (.dup, 1) := by decide +kernel
theorem dX9_init_56 : decode cX9_init 56 = .ok (.invokespecial 44, 3) := by decide +kernel
theorem dX9_init_59 : decode cX9_init 59 = .ok (.putfield 45, 3) := by decide +kernel
theorem dX9_init_62 : decode cX9_init 62 = .ok (.aload_n 0, 1) := by decide +kernel
theorem dX9_init_63 : decode cX9_init 63 = .ok (.bipush 6, 2) := by decide +kernel
theorem dX9_init_65 : decode cX9_init 65 = .ok (.anewarray 49, 3) := by decide +kernel
theorem dX9_init_68 : decode cX9_init 68 = .ok (.putfield 51, 3) := by decide +kernel
theorem dX9_init_71 : decode cX9_init 71 = .ok (.aload_n 0, 1) := by decide +kernel
theorem dX9_init_72 : decode cX9_init 72 = .ok (.iconst 0, 1) := by decide +kernel
theorem dX9_init_73 : decode cX9_init 73 = .ok (.putfield 55, 3) := by decide +kernel
theorem dX9_init_76 : decode cX9_init 76 = .ok (.aload_n 0, 1) := by decide +kernel
theorem dX9_init_77 : decode cX9_init 77 = .ok (.bipush 6, 2) := by decide +kernel
theorem dX9_init_79 : decode cX9_init 79 = .ok (.newarray .int, 2) := by decide +kernel
theorem dX9_init_81 : decode cX9_init 81 = .ok (.putfield 58, 3) := by decide +kernel
theorem dX9_init_84 : decode cX9_init 84 = .ok (.aload_n 0, 1) := by decide +kernel
theorem dX9_init_85 : decode cX9_init 85 = .ok (.bipush 10, 2) := by decide +kernel
theorem dX9_init_87 : decode cX9_init 87 = .ok (.putfield 62, 3) := by decide +kernel
theorem dX9_init_90 : decode cX9_init 90 = .ok (.aload_n 0, 1) := by decide +kernel
theorem dX9_init_91 : decode cX9_init 91 = .ok (.iconst 4, 1) := by decide +kernel
theorem dX9_init_92 : decode cX9_init 92 = .ok (.newarray .int, 2) := by decide +kernel
theorem dX9_init_94 : decode cX9_init 94 = .ok (.dup, 1) := by decide +kernel
theorem dX9_init_95 : decode cX9_init 95 = .ok (.iconst 0, 1) := by decide +kernel
theorem dX9_init_96 : decode cX9_init 96 = .ok (.iconst (-1), 1) := by decide +kernel
theorem dX9_init_97 : decode cX9_init 97 = .ok (.iastore, 1) := by decide +kernel
theorem dX9_init_98 : decode cX9_init 98 = .ok (.dup, 1) := by decide +kernel
theorem dX9_init_99 : decode cX9_init 99 = .ok (.iconst 1, 1) := by decide +kernel
theorem dX9_init_100 : decode cX9_init 100 = .ok (.iconst (-1), 1) := by decide +kernel
theorem dX9_init_101 : decode cX9_init 101 = .ok (.iastore, 1) := by decide +kernel
theorem dX9_init_102 : decode cX9_init 102 = .ok (.dup, 1) := by decide +kernel
theorem dX9_init_103 : decode cX9_init 103 = .ok (.iconst 2, 1) := by decide +kernel
theorem dX9_init_104 : decode cX9_init 104 = .ok (.iconst (-1), 1) := by decide +kernel
theorem dX9_init_105 : decode cX9_init 105 = .ok (.iastore, 1) := by decide +kernel
theorem dX9_init_106 : decode cX9_init 106 = .ok (.dup, 1) := by decide +kernel
theorem dX9_init_107 : decode cX9_init 107 = .ok (.iconst 3, 1) := by decide +kernel
theorem dX9_init_108 : decode cX9_init 108 = .ok (.iconst (-1), 1) := by decide +kernel
theorem dX9_init_109 : decode cX9_init 109 = .ok (.iastore, 1) := by decide +kernel
theorem dX9_init_110 : decode cX9_init 110 = .ok (.putfield 65, 3) := by decide +kernel
theorem dX9_init_113 : decode cX9_init 113 = .ok (.aload_n 0, 1) := by decide +kernel
theorem dX9_init_114 : decode cX9_init 114 = .ok (.iconst 4, 1) := by decide +kernel
theorem dX9_init_115 : decode cX9_init 115 = .ok (.newarray .int, 2) := by decide +kernel
theorem dX9_init_117 : decode cX9_init 117 = .ok (.putfield 68, 3) := by decide +kernel
theorem dX9_init_120 : decode cX9_init 120 = .ok (.aload_n 0, 1) := by decide +kernel
theorem dX9_init_121 : decode cX9_init 121 = .ok (.bipush 24, 2) := by decide +kernel
theorem dX9_init_123 : decode cX9_init 123 = .ok (.anewarray 71, 3) := by decide +kernel
theorem dX9_init_126 : decode cX9_init 126 = .ok (.putfield 73, 3) := by decide +kernel
theorem dX9_init_129 : decode cX9_init 129 = .ok (.aload_n 0, 1) := by decide +kernel
theorem dX9_init_130 : decode cX9_init 130 = .ok (.iconst 0, 1) := by decide +kernel
theorem dX9_init_131 : decode cX9_init 131 = .ok (.putfield 77, 3) := by decide +kernel
theorem dX9_init_134 : decode cX9_init 134 = .ok (.aload_n 0, 1) := by decide +kernel
theorem dX9_init_135 : decode cX9_init 135 = .ok (.new 80, 3) := by decide +kernel
theorem dX9_init_138 : decode cX9_init 138 = .ok (.dup, 1) := by decide +kernel
theorem dX9_init_139 : decode cX9_init 139 = .ok (.invokespecial 82, 3) := by decide +kernel
theorem dX9_init_142 : decode cX9_init 142 = .ok (.putfield 83, 3) := by decide +kernel
theorem dX9_init_145 : decode cX9_init 145 = .ok (.aload_n 0, 1) := by decide +kernel
theorem dX9_init_146 : decode cX9_init 146 = .ok (.new 87, 3) := by decide +kernel
theorem dX9_init_149 : decode cX9_init 149 = .ok (.dup, 1) := by decide +kernel
theorem dX9_init_150 : decode cX9_init 150 = .ok (.invokespecial 89, 3) := by decide +kernel
theorem dX9_init_153 : decode cX9_init 153 = .ok (.putfield 90, 3) := by decide +kernel
theorem dX9_init_156 : decode cX9_init 156 = .ok (.iconst 0, 1) := by decide +kernel
theorem dX9_init_157 : decode cX9_init 157 = .ok (.istore_n 1, 1) := by decide +kernel
theorem dX9_init_158 : decode cX9_init 158 = .ok (.iload_n 1, 1) := by decide +kernel
theorem dX9_init_159 : decode cX9_init 159 = .ok (.bipush 6, 2) := by decide +kernel
theorem dX9_init_161 : decode cX9_init 161 = .ok (.if_icmp .ge 22, 3) := by decide +kernel
theorem dX9_init_164 : decode cX9_init 164 = .ok (.aload_n 0, 1) := by decide +kernel
theorem dX9_init_165 : decode cX9_init 165 = .ok (.getfield 20, 3) := by decide +kernel
theorem dX9_init_168 : decode cX9_init 168 = .ok (.iload_n 1, 1) := by decide +kernel
theorem dX9_init_169 : decode cX9_init 169 = .ok (.new 18, 3) := by decide +kernel
theorem dX9_init_172 : decode cX9_init 172 = .ok (.dup, 1) := by decide +kernel
theorem dX9_init_173 : decode cX9_init 173 = .ok (.invokespecial 94, 3) := by decide +kernel
theorem dX9_init_176 : decode cX9_init 176 = .ok (.aastore, 1) := by decide +kernel
theorem dX9_init_177 : decode cX9_init 177 = .ok (.iinc 1 1, 3) := by decide +kernel
theorem dX9_init_180 : decode cX9_init 180 = .ok (.goto (-22), 3) := by decide +kernel
theorem dX9_init_183 : decode cX9_init 183 = .ok (.iconst 0, 1) := by decide +kernel
theorem dX9_init_184 : decode cX9_init 184 = .ok (.istore_n 1, 1) := by decide +kernel
theorem dX9_init_185 : decode cX9_init 185 = .ok (.iload_n 1, 1) := by decide +kernel
theorem dX9_init_186 : decode cX9_init 186 = .ok (.bipush 6, 2) := by decide +kernel
theorem dX9_init_188 : decode cX9_init 188 = .ok (.if_icmp .ge 22, 3) := by decide +kernel
theorem dX9_init_191 : decode cX9_init 191 = .ok (.aload_n 0, 1) := by decide +kernel
theorem dX9_init_192 : decode cX9_init 192 = .ok (.getfield 51, 3) := by decide +kernel
theorem dX9_init_195 : decode cX9_init 195 = .ok (.iload_n 1, 1) := by decide +kernel
theorem dX9_init_196 : decode cX9_init 196 = .ok (.new 49, 3) := by decide +kernel
theorem dX9_init_199 : decode cX9_init 199 = .ok (.dup, 1) := by decide +kernel
theorem dX9_init_200 : decode cX9_init 200 = .ok (.invokespecial 95, 3) := by decide +kernel
theorem dX9_init_203 : decode cX9_init 203 = .ok (.aastore, 1) := by decide +kernel
theorem dX9_init_204 : decode cX9_init 204 = .ok (.iinc 1 1, 3) := by decide +kernel
theorem dX9_init_207 : decode cX9_init 207 = .ok (.goto (-22), 3) := by decide +kernel
theorem dX9_init_210 : decode cX9_init 210 = .ok (.iconst 0, 1) := by decide +kernel
theorem dX9_init_211 : decode cX9_init 211 = .ok (.istore_n 1, 1) := by decide +kernel
theorem dX9_init_212 : decode cX9_init 212 = .ok (.iload_n 1, 1) := by decide +kernel
theorem dX9_init_213 : decode cX9_init 213 = .ok (.bipush 24, 2) := by decide +kernel
theorem dX9_init_215 : decode cX9_init 215 = .ok (.if_icmp .ge 22, 3) := by decide +kernel
theorem dX9_init_218 : decode cX9_init 218 = .ok (.aload_n 0, 1) := by decide +kernel
theorem dX9_init_219 : decode cX9_init 219 = .ok (.getfield 73, 3) := by decide +kernel
theorem dX9_init_222 : decode cX9_init 222 = .ok (.iload_n 1, 1) := by decide +kernel
theorem dX9_init_223 : decode cX9_init 223 = .ok (.new 71, 3) := by decide +kernel
theorem dX9_init_226 : decode cX9_init 226 = .ok (.dup, 1) := by decide +kernel
theorem dX9_init_227 : decode cX9_init 227 = .ok (.invokespecial 96, 3) := by decide +kernel
theorem dX9_init_230 : decode cX9_init 230 = .ok (.aastore, 1) := by decide +kernel
theorem dX9_init_231 : decode cX9_init 231 = .ok (.iinc 1 1, 3) := by decide +kernel
theorem dX9_init_234 : decode cX9_init 234 = .ok (.goto (-22), 3) := by decide +kernel
theorem dX9_init_237 : decode cX9_init 237 = .ok (.return_, 1) := by decide +kernel
theorem dX9_paddler_0 : decode cX9_paddler 0 = .ok (.iload_n 1, 1) := by decide +kernel
theorem dX9_paddler_1 : decode cX9_paddler 1 = .ok (.bipush 30, 2) := by decide +kernel
theorem dX9_paddler_3 : decode cX9_paddler 3 = .ok (.sipush 150, 3) := by decide +kernel
theorem dX9_paddler_6 : decode cX9_paddler 6 = .ok (.invokestatic 97, 3) := by decide +kernel
theorem dX9_paddler_9 : decode cX9_paddler 9 = .ok (.ifCond .eq 44, 3) := by decide +kernel
theorem dX9_paddler_12 : decode cX9_paddler 12 = .ok (.iload_n 2, 1) := by decide +kernel
theorem dX9_paddler_13 : decode cX9_paddler 13 = .ok (.iconst 1, 1) := by decide +kernel
theorem dX9_paddler_14 : decode cX9_paddler 14 = .ok (.bipush 99, 2) := by decide +kernel
theorem dX9_paddler_16 : decode cX9_paddler 16 = .ok (.invokestatic 97, 3) := by decide +kernel
theorem dX9_paddler_19 : decode cX9_paddler 19 = .ok (.ifCond .eq 34, 3) := by decide +kernel
theorem dX9_paddler_22 : decode cX9_paddler 22 = .ok (.iload_n 3, 1) := by decide +kernel
theorem dX9_paddler_23 : decode cX9_paddler 23 = .ok (.iconst 0, 1) := by decide +kernel
theorem dX9_paddler_24 : decode cX9_paddler 24 = .ok (.iconst 2, 1) := by decide +kernel
theorem dX9_paddler_25 : decode cX9_paddler 25 = .ok (.invokestatic 97, 3) := by decide +kernel
theorem dX9_paddler_28 : decode cX9_paddler 28 = .ok (.ifCond .eq 25, 3) := by decide +kernel
theorem dX9_paddler_31 : decode cX9_paddler 31 = .ok (.iload 4, 2) := by decide +kernel
theorem dX9_paddler_33 : decode cX9_paddler 33 = .ok (.iconst 0, 1) := by decide +kernel
theorem dX9_paddler_34 : decode cX9_paddler 34 = .ok (.iconst 1, 1) := by decide +kernel
theorem dX9_paddler_35 : decode cX9_paddler 35 = .ok (.invokestatic 97, 3) := by decide +kernel
theorem dX9_paddler_38 : decode cX9_paddler 38 = .ok (.ifCond .eq 15, 3) := by decide +kernel
theorem dX9_paddler_41 : decode cX9_paddler 41 = .ok (.iload 5, 2) := by decide +kernel
theorem dX9_paddler_43 : decode cX9_paddler 43 = .ok (.bipush 10, 2) := by decide +kernel
theorem dX9_paddler_45 : decode cX9_paddler 45 = .ok (.bipush 90, 2) := by decide +kernel
theorem dX9_paddler_47 : decode cX9_paddler 47 = .ok (.invokestatic 97, 3) := by decide +kernel
theorem dX9_paddler_50 : decode cX9_paddler 50 = .ok (.ifCond .ne 6, 3) := by decide +kernel
theorem dX9_paddler_53 : decode cX9_paddler 53 = .ok (.bipush (-2), 2) := by decide +kernel
theorem dX9_paddler_55 : decode cX9_paddler 55 = .ok (.ireturn, 1) := by decide +kernel
theorem dX9_paddler_56 : decode cX9_paddler 56 = .ok (.aload_n 0, 1) := by decide +kernel
theorem dX9_paddler_57 : decode cX9_paddler 57 = .ok (.getfield 12, 3) := by decide +kernel
theorem dX9_paddler_60 : decode cX9_paddler 60 = .ok (.getfield 101, 3) := by decide +kernel
theorem dX9_paddler_63 : decode cX9_paddler 63 = .ok (.bipush 40, 2) := by decide +kernel
theorem dX9_paddler_65 : decode cX9_paddler 65 = .ok (.if_icmp .lt 6, 3) := by decide +kernel
theorem dX9_paddler_71 : decode cX9_paddler 71 = .ok (.aload_n 0, 1) := by decide +kernel
theorem dX9_paddler_72 : decode cX9_paddler 72 = .ok (.getfield 12, 3) := by decide +kernel
theorem dX9_paddler_75 : decode cX9_paddler 75 = .ok (.iload_n 1, 1) := by decide +kernel
theorem dX9_paddler_76 : decode cX9_paddler 76 = .ok (.iload_n 2, 1) := by decide +kernel
theorem dX9_paddler_77 : decode cX9_paddler 77 = .ok (.iload_n 3, 1) := by decide +kernel
theorem dX9_paddler_78 : decode cX9_paddler 78 = .ok (.iload 4, 2) := by decide +kernel
theorem dX9_paddler_80 : decode cX9_paddler 80 = .ok (.iload 5, 2) := by decide +kernel
theorem dX9_paddler_82 : decode cX9_paddler 82 = .ok (.invokevirtual 104, 3) := by decide +kernel
theorem dX9_paddler_85 : decode cX9_paddler 85 = .ok (.ireturn, 1) := by decide +kernel
theorem dX9_like_0 : decode cX9_like 0 = .ok (.aload_n 0, 1) := by decide +kernel
theorem dX9_like_1 : decode cX9_like 1 = .ok (.getfield 12, 3) := by decide +kernel
theorem dX9_like_4 : decode cX9_like 4 = .ok (.iload_n 1, 1) := by decide +kernel
theorem dX9_like_5 : decode cX9_like 5 = .ok (.invokevirtual 108, 3) := by decide +kernel
theorem dX9_like_8 : decode cX9_like 8 = .ok (.ifCond .eq 14, 3) := by decide +kernel
theorem dX9_like_22 : decode cX9_like 22 = .ok (.iconst (-1), 1) := by decide +kernel
theorem dX9_like_23 : decode cX9_like 23 = .ok (.ireturn, 1) := by decide +kernel
theorem dX9_crew_0 : decode cX9_crew 0 = .ok (.iload_n 1, 1) := by decide +kernel
theorem dX9_crew_1 : decode cX9_crew 1 = .ok (.iconst 2, 1) := by decide +kernel
theorem dX9_crew_2 : decode cX9_crew 2 = .ok (.iconst 4, 1) := by decide +kernel
theorem dX9_crew_3 : decode cX9_crew 3 = .ok (.invokestatic 97, 3) := by decide +kernel
theorem dX9_crew_6 : decode cX9_crew 6 = .ok (.ifCond .eq 14, 3) := by decide +kernel
theorem dX9_crew_9 : decode cX9_crew 9 = .ok (.iload_n 2, 1) := by decide +kernel
theorem dX9_crew_10 : decode cX9_crew 10 = .ok (.iconst 0, 1) := by decide +kernel
theorem dX9_crew_11 : decode cX9_crew 11 = .ok (.sipush 150, 3) := by decide +kernel
theorem dX9_crew_14 : decode cX9_crew 14 = .ok (.invokestatic 97, 3) := by decide +kernel
theorem dX9_crew_17 : decode cX9_crew 17 = .ok (.ifCond .ne 6, 3) := by decide +kernel
theorem dX9_crew_20 : decode cX9_crew 20 = .ok (.bipush (-2), 2) := by decide +kernel
theorem dX9_crew_22 : decode cX9_crew 22 = .ok (.ireturn, 1) := by decide +kernel
theorem dX9_crew_23 : decode cX9_crew 23 = .ok (.aload_n 0, 1) := by decide +kernel
theorem dX9_crew_24 : decode cX9_crew 24 = .ok (.getfield 24, 3) := by decide +kernel
theorem dX9_crew_27 : decode cX9_crew 27 = .ok (.bipush 6, 2) := by decide +kernel
theorem dX9_crew_29 : decode cX9_crew 29 = .ok (.if_icmp .lt 6, 3) := by decide +kernel
theorem dX9_crew_35 : decode cX9_crew 35 = .ok (.aload_n 0, 1) := by decide +kernel
theorem dX9_crew_36 : decode cX9_crew 36 = .ok (.getfield 20, 3) := by decide +kernel
theorem dX9_crew_39 : decode cX9_crew 39 = .ok (.aload_n 0, 1) := by decide +kernel
theorem dX9_crew_40 : decode cX9_crew 40 = .ok (.getfield 24, 3) := by decide +kernel
theorem dX9_crew_43 : decode cX9_crew 43 = .ok (.aaload, 1) := by decide +kernel
theorem dX9_crew_44 : decode cX9_crew 44 = .ok (.iload_n 1, 1) := by decide +kernel
theorem dX9_crew_45 : decode cX9_crew 45 = .ok (.putfield 120, 3) := by decide +kernel
theorem dX9_crew_48 : decode cX9_crew 48 = .ok (.aload_n 0, 1) := by decide +kernel
theorem dX9_crew_49 : decode cX9_crew 49 = .ok (.getfield 20, 3) := by decide +kernel
theorem dX9_crew_52 : decode cX9_crew 52 = .ok (.aload_n 0, 1) := by decide +kernel
theorem dX9_crew_53 : decode cX9_crew 53 = .ok (.getfield 24, 3) := by decide +kernel
theorem dX9_crew_56 : decode cX9_crew 56 = .ok (.aaload, 1) := by decide +kernel
theorem dX9_crew_57 : decode cX9_crew 57 = .ok (.iload_n 2, 1) := by decide +kernel
theorem dX9_crew_58 : decode cX9_crew 58 = .ok (.putfield 123, 3) := by decide +kernel
theorem dX9_crew_61 : decode cX9_crew 61 = .ok (.aload_n 0, 1) := by decide +kernel
theorem dX9_crew_62 : decode cX9_crew 62 = .ok (.dup, 1) := by decide +kernel
theorem dX9_crew_63 : decode cX9_crew 63 = .ok (.getfield 24, 3) := by decide +kernel
theorem dX9_crew_66 : decode cX9_crew 66 = .ok (.iconst 1, 1) := by decide +kernel
theorem dX9_crew_67 : decode cX9_crew 67 = .ok (.iadd, 1) := by decide +kernel
theorem dX9_crew_68 : decode cX9_crew 68 = .ok (.putfield 24, 3) := by decide +kernel
theorem dX9_crew_71 : decode cX9_crew 71 = .ok (.aload_n 0, 1) := by decide +kernel
theorem dX9_crew_72 : decode cX9_crew 72 = .ok (.getfield 24, 3) := by decide +kernel
theorem dX9_crew_75 : decode cX9_crew 75 = .ok (.iconst 1, 1) := by decide +kernel
theorem dX9_crew_76 : decode cX9_crew 76 = .ok (.isub, 1) := by decide +kernel
theorem dX9_crew_77 : decode cX9_crew 77 = .ok (.ireturn, 1) := by decide +kernel
theorem dX9_join_0 : decode cX9_join 0 = .ok (.aload_n 0, 1) := by decide +kernel
theorem dX9_join_1 : decode cX9_join 1 = .ok (.iload_n 1, 1) := by decide +kernel
theorem dX9_join_2 : decode cX9_join 2 = .ok (.invokevirtual 126, 3) := by decide +kernel
theorem dX9_join_5 : decode cX9_join 5 = .ok (.ifCond .eq 14, 3) := by decide +kernel
theorem dX9_join_19 : decode cX9_join 19 = .ok (.iconst (-1), 1) := by decide +kernel
theorem dX9_join_20 : decode cX9_join 20 = .ok (.ireturn, 1) := by decide +kernel
theorem dX9_beat_0 : decode cX9_beat 0 = .ok (.aload_n 0, 1) := by decide +kernel
theorem dX9_beat_1 : decode cX9_beat 1 = .ok (.iload_n 1, 1) := by decide +kernel
theorem dX9_beat_2 : decode cX9_beat 2 = .ok (.invokevirtual 126, 3) := by decide +kernel
theorem dX9_beat_5 : decode cX9_beat 5 = .ok (.ifCond .ne 5, 3) := by decide +kernel
theorem dX9_beat_8 : decode cX9_beat 8 = .ok (.iconst (-1), 1) := by decide +kernel
theorem dX9_beat_9 : decode cX9_beat 9 = .ok (.ireturn, 1) := by decide +kernel
theorem dX9_seat_0 : decode cX9_seat 0 = .ok (.aload_n 0, 1) := by decide +kernel
theorem dX9_seat_1 : decode cX9_seat 1 = .ok (.iload_n 1, 1) := by decide +kernel
theorem dX9_seat_2 : decode cX9_seat 2 = .ok (.invokevirtual 126, 3) := by decide +kernel
theorem dX9_seat_5 : decode cX9_seat 5 = .ok (.ifCond .ne 6, 3) := by decide +kernel
theorem dX9_seat_8 : decode cX9_seat 8 = .ok (.ldc 142, 2) := by decide +kernel
theorem dX9_seat_10 : decode cX9_seat 10 = .ok (.ireturn, 1) := by decide +kernel
theorem dX9_sits_0 : decode cX9_sits 0 = .ok (.aload_n 0, 1) := by decide +kernel
theorem dX9_sits_1 : decode cX9_sits 1 = .ok (.iload_n 1, 1) := by decide +kernel
theorem dX9_sits_2 : decode cX9_sits 2 = .ok (.invokevirtual 126, 3) := by decide +kernel
theorem dX9_sits_5 : decode cX9_sits 5 = .ok (.ifCond .eq 43, 3) := by decide +kernel
theorem dX9_sits_48 : decode cX9_sits 48 = .ok (.iconst (-1), 1) := by decide +kernel
theorem dX9_sits_49 : decode cX9_sits 49 = .ok (.ireturn, 1) := by decide +kernel
theorem dX9_trim_0 : decode cX9_trim 0 = .ok (.aload_n 0, 1) := by decide +kernel
theorem dX9_trim_1 : decode cX9_trim 1 = .ok (.iload_n 1, 1) := by decide +kernel
theorem dX9_trim_2 : decode cX9_trim 2 = .ok (.invokevirtual 126, 3) := by decide +kernel
theorem dX9_trim_5 : decode cX9_trim 5 = .ok (.ifCond .eq 12, 3) := by decide +kernel
theorem dX9_trim_17 : decode cX9_trim 17 = .ok (.iconst (-1), 1) := by decide +kernel
theorem dX9_trim_18 : decode cX9_trim 18 = .ok (.ireturn, 1) := by decide +kernel
theorem dX9_change_0 : decode cX9_change 0 = .ok (.aload_n 0, 1) := by decide +kernel
theorem dX9_change_1 : decode cX9_change 1 = .ok (.iload_n 1, 1) := by decide +kernel
theorem dX9_change_2 : decode cX9_change 2 = .ok (.invokevirtual 126, 3) := by decide +kernel
theorem dX9_change_5 : decode cX9_change 5 = .ok (.ifCond .ne 6, 3) := by decide +kernel
theorem dX9_change_8 : decode cX9_change 8 = .ok (.ldc 142, 2) := by decide +kernel
theorem dX9_change_10 : decode cX9_change 10 = .ok (.ireturn, 1) := by decide +kernel
theorem dX9_keeps_0 : decode cX9_keeps 0 = .ok (.aload_n 0, 1) := by decide +kernel
theorem dX9_keeps_1 : decode cX9_keeps 1 = .ok (.iload_n 1, 1) := by decide +kernel
theorem dX9_keeps_2 : decode cX9_keeps 2 = .ok (.invokevirtual 126, 3) := by decide +kernel
theorem dX9_keeps_5 : decode cX9_keeps 5 = .ok (.ifCond .eq 17, 3) := by decide +kernel
theorem dX9_keeps_22 : decode cX9_keeps 22 = .ok (.iconst (-1), 1) := by decide +kernel
theorem dX9_keeps_23 : decode cX9_keeps 23 = .ok (.ireturn, 1) := by decide +kernel
theorem dX9_rest_0 : decode cX9_rest 0 = .ok (.iload_n 1, 1) := by decide +kernel
theorem dX9_rest_1 : decode cX9_rest 1 = .ok (.iconst 0, 1) := by decide +kernel
theorem dX9_rest_2 : decode cX9_rest 2 = .ok (.bipush 99, 2) := by decide +kernel
theorem dX9_rest_4 : decode cX9_rest 4 = .ok (.invokestatic 97, 3) := by decide +kernel
theorem dX9_rest_7 : decode cX9_rest 7 = .ok (.ifCond .ne 6, 3) := by decide +kernel
theorem dX9_rest_10 : decode cX9_rest 10 = .ok (.bipush (-2), 2) := by decide +kernel
theorem dX9_rest_12 : decode cX9_rest 12 = .ok (.ireturn, 1) := by decide +kernel
theorem dX9_rest_13 : decode cX9_rest 13 = .ok (.aload_n 0, 1) := by decide +kernel
theorem dX9_rest_14 : decode cX9_rest 14 = .ok (.getfield 62, 3) := by decide +kernel
theorem dX9_rest_17 : decode cX9_rest 17 = .ok (.istore_n 2, 1) := by decide +kernel
theorem dX9_rest_18 : decode cX9_rest 18 = .ok (.aload_n 0, 1) := by decide +kernel
theorem dX9_rest_19 : decode cX9_rest 19 = .ok (.iload_n 1, 1) := by decide +kernel
theorem dX9_rest_20 : decode cX9_rest 20 = .ok (.putfield 62, 3) := by decide +kernel
theorem dX9_rest_23 : decode cX9_rest 23 = .ok (.iload_n 2, 1) := by decide +kernel
theorem dX9_rest_24 : decode cX9_rest 24 = .ok (.ireturn, 1) := by decide +kernel
theorem dX9_lane_0 : decode cX9_lane 0 = .ok (.aload_n 0, 1) := by decide +kernel
theorem dX9_lane_1 : decode cX9_lane 1 = .ok (.iload_n 1, 1) := by decide +kernel
theorem dX9_lane_2 : decode cX9_lane 2 = .ok (.invokevirtual 126, 3) := by decide +kernel
theorem dX9_lane_5 : decode cX9_lane 5 = .ok (.ifCond .eq 10, 3) := by decide +kernel
theorem dX9_lane_15 : decode cX9_lane 15 = .ok (.iconst (-1), 1) := by decide +kernel
theorem dX9_lane_16 : decode cX9_lane 16 = .ok (.ireturn, 1) := by decide +kernel
theorem dX9_race_0 : decode cX9_race 0 = .ok (.iload_n 1, 1) := by decide +kernel
theorem dX9_race_1 : decode cX9_race 1 = .ok (.iconst 0, 1) := by decide +kernel
theorem dX9_race_2 : decode cX9_race 2 = .ok (.sipush 999, 3) := by decide +kernel
theorem dX9_race_5 : decode cX9_race 5 = .ok (.invokestatic 97, 3) := by decide +kernel
theorem dX9_race_8 : decode cX9_race 8 = .ok (.ifCond .eq 12, 3) := by decide +kernel
theorem dX9_race_11 : decode cX9_race 11 = .ok (.iload_n 2, 1) := by decide +kernel
theorem dX9_race_12 : decode cX9_race 12 = .ok (.iconst 0, 1) := by decide +kernel
theorem dX9_race_13 : decode cX9_race 13 = .ok (.iconst 1, 1) := by decide +kernel
theorem dX9_race_14 : decode cX9_race 14 = .ok (.invokestatic 97, 3) := by decide +kernel
theorem dX9_race_17 : decode cX9_race 17 = .ok (.ifCond .ne 6, 3) := by decide +kernel
theorem dX9_race_20 : decode cX9_race 20 = .ok (.bipush (-2), 2) := by decide +kernel
theorem dX9_race_22 : decode cX9_race 22 = .ok (.ireturn, 1) := by decide +kernel
theorem dX9_race_23 : decode cX9_race 23 = .ok (.aload_n 0, 1) := by decide +kernel
theorem dX9_race_24 : decode cX9_race 24 = .ok (.invokevirtual 218, 3) := by decide +kernel
theorem dX9_race_27 : decode cX9_race 27 = .ok (.iconst 2, 1) := by decide +kernel
theorem dX9_race_28 : decode cX9_race 28 = .ok (.if_icmp .ge 6, 3) := by decide +kernel
theorem dX9_race_31 : decode cX9_race 31 = .ok (.bipush (-3), 2) := by decide +kernel
theorem dX9_race_33 : decode cX9_race 33 = .ok (.ireturn, 1) := by decide +kernel
theorem dX9_current_0 : decode cX9_current 0 = .ok (.iload_n 1, 1) := by decide +kernel
theorem dX9_current_1 : decode cX9_current 1 = .ok (.invokestatic 211, 3) := by decide +kernel
theorem dX9_current_4 : decode cX9_current 4 = .ok (.ifCond .ne 6, 3) := by decide +kernel
theorem dX9_current_7 : decode cX9_current 7 = .ok (.bipush (-100), 2) := by decide +kernel
theorem dX9_current_9 : decode cX9_current 9 = .ok (.ireturn, 1) := by decide +kernel
theorem dX9_current_10 : decode cX9_current 10 = .ok (.iload_n 2, 1) := by decide +kernel
theorem dX9_current_11 : decode cX9_current 11 = .ok (.bipush (-9), 2) := by decide +kernel
theorem dX9_current_13 : decode cX9_current 13 = .ok (.bipush 9, 2) := by decide +kernel
theorem dX9_current_15 : decode cX9_current 15 = .ok (.invokestatic 97, 3) := by decide +kernel
theorem dX9_current_18 : decode cX9_current 18 = .ok (.ifCond .ne 6, 3) := by decide +kernel
theorem dX9_current_21 : decode cX9_current 21 = .ok (.bipush (-101), 2) := by decide +kernel
theorem dX9_current_23 : decode cX9_current 23 = .ok (.ireturn, 1) := by decide +kernel
theorem dX9_current_24 : decode cX9_current 24 = .ok (.aload_n 0, 1) := by decide +kernel
theorem dX9_current_25 : decode cX9_current 25 = .ok (.getfield 68, 3) := by decide +kernel
theorem dX9_current_28 : decode cX9_current 28 = .ok (.iload_n 1, 1) := by decide +kernel
theorem dX9_current_29 : decode cX9_current 29 = .ok (.iaload, 1) := by decide +kernel
theorem dX9_current_30 : decode cX9_current 30 = .ok (.istore_n 3, 1) := by decide +kernel
theorem dX9_current_31 : decode cX9_current 31 = .ok (.aload_n 0, 1) := by decide +kernel
theorem dX9_current_32 : decode cX9_current 32 = .ok (.getfield 68, 3) := by decide +kernel
theorem dX9_current_35 : decode cX9_current 35 = .ok (.iload_n 1, 1) := by decide +kernel
theorem dX9_current_36 : decode cX9_current 36 = .ok (.iload_n 2, 1) := by decide +kernel
theorem dX9_current_37 : decode cX9_current 37 = .ok (.iastore, 1) := by decide +kernel
theorem dX9_current_38 : decode cX9_current 38 = .ok (.iload_n 3, 1) := by decide +kernel
theorem dX9_current_39 : decode cX9_current 39 = .ok (.ireturn, 1) := by decide +kernel
theorem dX9_run_0 : decode cX9_run 0 = .ok (.aload_n 0, 1) := by decide +kernel
theorem dX9_run_1 : decode cX9_run 1 = .ok (.iload_n 1, 1) := by decide +kernel
theorem dX9_run_2 : decode cX9_run 2 = .ok (.invokevirtual 229, 3) := by decide +kernel
theorem dX9_run_5 : decode cX9_run 5 = .ok (.ifCond .ne 5, 3) := by decide +kernel
theorem dX9_run_8 : decode cX9_run 8 = .ok (.iconst (-1), 1) := by decide +kernel
theorem dX9_run_9 : decode cX9_run 9 = .ok (.ireturn, 1) := by decide +kernel
theorem dX9_time_0 : decode cX9_time 0 = .ok (.aload_n 0, 1) := by decide +kernel
theorem dX9_time_1 : decode cX9_time 1 = .ok (.iload_n 1, 1) := by decide +kernel
theorem dX9_time_2 : decode cX9_time 2 = .ok (.invokevirtual 229, 3) := by decide +kernel
theorem dX9_time_5 : decode cX9_time 5 = .ok (.ifCond .eq 25, 3) := by decide +kernel
theorem dX9_time_30 : decode cX9_time 30 = .ok (.iconst (-1), 1) := by decide +kernel
theorem dX9_time_31 : decode cX9_time 31 = .ok (.ireturn, 1) := by decide +kernel
theorem dX9_told_0 : decode cX9_told 0 = .ok (.aload_n 0, 1) := by decide +kernel
theorem dX9_told_1 : decode cX9_told 1 = .ok (.iload_n 1, 1) := by decide +kernel
theorem dX9_told_2 : decode cX9_told 2 = .ok (.invokevirtual 229, 3) := by decide +kernel
theorem dX9_told_5 : decode cX9_told 5 = .ok (.ifCond .eq 25, 3) := by decide +kernel
theorem dX9_told_30 : decode cX9_told 30 = .ok (.iconst (-1), 1) := by decide +kernel
theorem dX9_told_31 : decode cX9_told 31 = .ok (.ireturn, 1) := by decide +kernel
theorem dX9_again_0 : decode cX9_again 0 = .ok (.aload_n 0, 1) := by decide +kernel
theorem dX9_again_1 : decode cX9_again 1 = .ok (.iload_n 1, 1) := by decide +kernel
theorem dX9_again_2 : decode cX9_again 2 = .ok (.invokevirtual 229, 3) := by decide +kernel
theorem dX9_again_5 : decode cX9_again 5 = .ok (.ifCond .ne 5, 3) := by decide +kernel
theorem dX9_again_8 : decode cX9_again 8 = .ok (.iconst (-1), 1) := by decide +kernel
theorem dX9_again_9 : decode cX9_again 9 = .ok (.ireturn, 1) := by decide +kernel
theorem dX9_strike_0 : decode cX9_strike 0 = .ok (.aload_n 0, 1) := by decide +kernel
theorem dX9_strike_1 : decode cX9_strike 1 = .ok (.iload_n 1, 1) := by decide +kernel
theorem dX9_strike_2 : decode cX9_strike 2 = .ok (.invokevirtual 229, 3) := by decide +kernel
theorem dX9_strike_5 : decode cX9_strike 5 = .ok (.ifCond .eq 11, 3) := by decide +kernel
theorem dX9_strike_16 : decode cX9_strike 16 = .ok (.iconst (-1), 1) := by decide +kernel
theorem dX9_strike_17 : decode cX9_strike 17 = .ok (.ireturn, 1) := by decide +kernel
theorem dX9_finalists_0 : decode cX9_finalists 0 = .ok (.iload_n 1, 1) := by decide +kernel
theorem dX9_finalists_1 : decode cX9_finalists 1 = .ok (.iconst 0, 1) := by decide +kernel
theorem dX9_finalists_2 : decode cX9_finalists 2 = .ok (.bipush 9, 2) := by decide +kernel
theorem dX9_finalists_4 : decode cX9_finalists 4 = .ok (.invokestatic 97, 3) := by decide +kernel
theorem dX9_finalists_7 : decode cX9_finalists 7 = .ok (.ifCond .eq 13, 3) := by decide +kernel
theorem dX9_finalists_10 : decode cX9_finalists 10 = .ok (.iload_n 2, 1) := by decide +kernel
theorem dX9_finalists_11 : decode cX9_finalists 11 = .ok (.iconst 0, 1) := by decide +kernel
theorem dX9_finalists_12 : decode cX9_finalists 12 = .ok (.bipush 9, 2) := by decide +kernel
theorem dX9_finalists_14 : decode cX9_finalists 14 = .ok (.invokestatic 97, 3) := by decide +kernel
theorem dX9_finalists_17 : decode cX9_finalists 17 = .ok (.ifCond .ne 6, 3) := by decide +kernel
theorem dX9_finalists_20 : decode cX9_finalists 20 = .ok (.bipush (-2), 2) := by decide +kernel
theorem dX9_finalists_22 : decode cX9_finalists 22 = .ok (.ireturn, 1) := by decide +kernel
theorem dX9_finalists_23 : decode cX9_finalists 23 = .ok (.aload_n 0, 1) := by decide +kernel
theorem dX9_finalists_24 : decode cX9_finalists 24 = .ok (.getfield 90, 3) := by decide +kernel
theorem dX9_finalists_27 : decode cX9_finalists 27 = .ok (.aload_n 0, 1) := by decide +kernel
theorem dX9_finalists_28 : decode cX9_finalists 28 = .ok (.getfield 73, 3) := by decide +kernel
theorem dX9_finalists_31 : decode cX9_finalists 31 = .ok (.aload_n 0, 1) := by decide +kernel
theorem dX9_finalists_32 : decode cX9_finalists 32 = .ok (.getfield 77, 3) := by decide +kernel
theorem dX9_finalists_35 : decode cX9_finalists 35 = .ok (.iload_n 1, 1) := by decide +kernel
theorem dX9_finalists_36 : decode cX9_finalists 36 = .ok (.iload_n 2, 1) := by decide +kernel
theorem dX9_finalists_37 : decode cX9_finalists 37 = .ok (.invokevirtual 264, 3) := by decide +kernel
theorem dX9_finalists_40 : decode cX9_finalists 40 = .ok (.aload_n 0, 1) := by decide +kernel
theorem dX9_finalists_41 : decode cX9_finalists 41 = .ok (.getfield 90, 3) := by decide +kernel
theorem dX9_finalists_44 : decode cX9_finalists 44 = .ok (.getfield 268, 3) := by decide +kernel
theorem dX9_finalists_47 : decode cX9_finalists 47 = .ok (.ireturn, 1) := by decide +kernel
theorem dX9_finalist_0 : decode cX9_finalist 0 = .ok (.iload_n 1, 1) := by decide +kernel
theorem dX9_finalist_1 : decode cX9_finalist 1 = .ok (.iconst 0, 1) := by decide +kernel
theorem dX9_finalist_2 : decode cX9_finalist 2 = .ok (.aload_n 0, 1) := by decide +kernel
theorem dX9_finalist_3 : decode cX9_finalist 3 = .ok (.getfield 90, 3) := by decide +kernel
theorem dX9_finalist_6 : decode cX9_finalist 6 = .ok (.getfield 268, 3) := by decide +kernel
theorem dX9_finalist_9 : decode cX9_finalist 9 = .ok (.iconst 1, 1) := by decide +kernel
theorem dX9_finalist_10 : decode cX9_finalist 10 = .ok (.isub, 1) := by decide +kernel
theorem dX9_finalist_11 : decode cX9_finalist 11 = .ok (.invokestatic 97, 3) := by decide +kernel
theorem dX9_finalist_14 : decode cX9_finalist 14 = .ok (.ifCond .eq 15, 3) := by decide +kernel
theorem dX9_finalist_29 : decode cX9_finalist 29 = .ok (.iconst (-1), 1) := by decide +kernel
theorem dX9_finalist_30 : decode cX9_finalist 30 = .ok (.ireturn, 1) := by decide +kernel
theorem dX9_slack_0 : decode cX9_slack 0 = .ok (.iconst (-1), 1) := by decide +kernel
theorem dX9_slack_1 : decode cX9_slack 1 = .ok (.istore_n 1, 1) := by decide +kernel
theorem dX9_slack_2 : decode cX9_slack 2 = .ok (.iconst 0, 1) := by decide +kernel
theorem dX9_slack_3 : decode cX9_slack 3 = .ok (.istore_n 2, 1) := by decide +kernel
theorem dX9_slack_4 : decode cX9_slack 4 = .ok (.iload_n 2, 1) := by decide +kernel
theorem dX9_slack_5 : decode cX9_slack 5 = .ok (.aload_n 0, 1) := by decide +kernel
theorem dX9_slack_6 : decode cX9_slack 6 = .ok (.getfield 77, 3) := by decide +kernel
theorem dX9_slack_9 : decode cX9_slack 9 = .ok (.if_icmp .ge 72, 3) := by decide +kernel
theorem dX9_slack_81 : decode cX9_slack 81 = .ok (.iload_n 1, 1) := by decide +kernel
theorem dX9_slack_82 : decode cX9_slack 82 = .ok (.ireturn, 1) := by decide +kernel
theorem dX9_level_0 : decode cX9_level 0 = .ok (.iload_n 1, 1) := by decide +kernel
theorem dX9_level_1 : decode cX9_level 1 = .ok (.invokestatic 211, 3) := by decide +kernel
theorem dX9_level_4 : decode cX9_level 4 = .ok (.ifCond .eq 24, 3) := by decide +kernel
theorem dX9_level_7 : decode cX9_level 7 = .ok (.iload_n 2, 1) := by decide +kernel
theorem dX9_level_8 : decode cX9_level 8 = .ok (.invokestatic 211, 3) := by decide +kernel
theorem dX9_level_11 : decode cX9_level 11 = .ok (.ifCond .eq 17, 3) := by decide +kernel
theorem dX9_level_14 : decode cX9_level 14 = .ok (.iload_n 1, 1) := by decide +kernel
theorem dX9_level_15 : decode cX9_level 15 = .ok (.iload_n 2, 1) := by decide +kernel
theorem dX9_level_16 : decode cX9_level 16 = .ok (.if_icmp .eq 12, 3) := by decide +kernel
theorem dX9_level_19 : decode cX9_level 19 = .ok (.iload_n 3, 1) := by decide +kernel
theorem dX9_level_20 : decode cX9_level 20 = .ok (.iconst 0, 1) := by decide +kernel
theorem dX9_level_21 : decode cX9_level 21 = .ok (.iconst 1, 1) := by decide +kernel
theorem dX9_level_22 : decode cX9_level 22 = .ok (.invokestatic 97, 3) := by decide +kernel
theorem dX9_level_25 : decode cX9_level 25 = .ok (.ifCond .ne 7, 3) := by decide +kernel
theorem dX9_level_28 : decode cX9_level 28 = .ok (.ldc2_w 280, 3) := by decide +kernel
theorem dX9_level_31 : decode cX9_level 31 = .ok (.lreturn, 1) := by decide +kernel
theorem dX9_level_32 : decode cX9_level 32 = .ok (.lconst 0, 1) := by decide +kernel
theorem dX9_level_33 : decode cX9_level 33 = .ok (.lstore 4, 2) := by decide +kernel
theorem dX9_level_35 : decode cX9_level 35 = .ok (.lconst 0, 1) := by decide +kernel
theorem dX9_level_36 : decode cX9_level 36 = .ok (.lstore 6, 2) := by decide +kernel
theorem dX9_level_38 : decode cX9_level 38 = .ok (.iconst 0, 1) := by decide +kernel
theorem dX9_level_39 : decode cX9_level 39 = .ok (.istore 8, 2) := by decide +kernel
theorem dX9_level_41 : decode cX9_level 41 = .ok (.iload 8, 2) := by decide +kernel
theorem dX9_level_43 : decode cX9_level 43 = .ok (.aload_n 0, 1) := by decide +kernel
theorem dX9_level_44 : decode cX9_level 44 = .ok (.getfield 24, 3) := by decide +kernel
theorem dX9_level_47 : decode cX9_level 47 = .ok (.if_icmp .ge 54, 3) := by decide +kernel
theorem dX9_level_101 : decode cX9_level 101 = .ok (.lload 4, 2) := by decide +kernel
theorem dX9_level_103 : decode cX9_level 103 = .ok (.invokestatic 286, 3) := by decide +kernel
theorem dX9_level_106 : decode cX9_level 106 = .ok (.lload 6, 2) := by decide +kernel
theorem dX9_level_108 : decode cX9_level 108 = .ok (.invokestatic 292, 3) := by decide +kernel
theorem dX9_level_111 : decode cX9_level 111 = .ok (.lstore 8, 2) := by decide +kernel
theorem dX9_level_113 : decode cX9_level 113 = .ok (.lload 6, 2) := by decide +kernel
theorem dX9_level_115 : decode cX9_level 115 = .ok (.lconst 0, 1) := by decide +kernel
theorem dX9_level_116 : decode cX9_level 116 = .ok (.lcmp, 1) := by decide +kernel
theorem dX9_level_117 : decode cX9_level 117 = .ok (.ifCond .eq 10, 3) := by decide +kernel
theorem dX9_level_127 : decode cX9_level 127 = .ok (.ldc2_w 280, 3) := by decide +kernel
theorem dX9_level_130 : decode cX9_level 130 = .ok (.lreturn, 1) := by decide +kernel
theorem dX9_points_0 : decode cX9_points 0 = .ok (.aload_n 0, 1) := by decide +kernel
theorem dX9_points_1 : decode cX9_points 1 = .ok (.iload_n 1, 1) := by decide +kernel
theorem dX9_points_2 : decode cX9_points 2 = .ok (.invokevirtual 126, 3) := by decide +kernel
theorem dX9_points_5 : decode cX9_points 5 = .ok (.ifCond .eq 11, 3) := by decide +kernel
theorem dX9_points_16 : decode cX9_points 16 = .ok (.iconst (-1), 1) := by decide +kernel
theorem dX9_points_17 : decode cX9_points 17 = .ok (.ireturn, 1) := by decide +kernel
theorem dX9_table_0 : decode cX9_table 0 = .ok (.iconst 0, 1) := by decide +kernel
theorem dX9_table_1 : decode cX9_table 1 = .ok (.istore_n 2, 1) := by decide +kernel
theorem dX9_table_2 : decode cX9_table 2 = .ok (.iload_n 2, 1) := by decide +kernel
theorem dX9_table_3 : decode cX9_table 3 = .ok (.aload_n 0, 1) := by decide +kernel
theorem dX9_table_4 : decode cX9_table 4 = .ok (.getfield 24, 3) := by decide +kernel
theorem dX9_table_7 : decode cX9_table 7 = .ok (.if_icmp .ge 20, 3) := by decide +kernel
theorem dX9_table_27 : decode cX9_table 27 = .ok (.iconst (-1), 1) := by decide +kernel
theorem dX9_table_28 : decode cX9_table 28 = .ok (.ireturn, 1) := by decide +kernel
theorem dX9_count_0 : decode cX9_count 0 = .ok (.iload_n 1, 1) := by decide +kernel
theorem dX9_count_1 : decode cX9_count 1 = .ok (.tableswitch 102 0 8 #[51, 59, 64, 69, 74, 79, 87, 92, 97], 51) := by decide +kernel
theorem dX9_count_52 : decode cX9_count 52 = .ok (.aload_n 0, 1) := by decide +kernel
theorem dX9_count_53 : decode cX9_count 53 = .ok (.getfield 12, 3) := by decide +kernel
theorem dX9_count_56 : decode cX9_count 56 = .ok (.getfield 101, 3) := by decide +kernel
theorem dX9_count_59 : decode cX9_count 59 = .ok (.ireturn, 1) := by decide +kernel
theorem dX9_count_60 : decode cX9_count 60 = .ok (.aload_n 0, 1) := by decide +kernel
theorem dX9_count_61 : decode cX9_count 61 = .ok (.getfield 24, 3) := by decide +kernel
theorem dX9_count_64 : decode cX9_count 64 = .ok (.ireturn, 1) := by decide +kernel
theorem dX9_count_65 : decode cX9_count 65 = .ok (.aload_n 0, 1) := by decide +kernel
theorem dX9_count_66 : decode cX9_count 66 = .ok (.getfield 55, 3) := by decide +kernel
theorem dX9_count_69 : decode cX9_count 69 = .ok (.ireturn, 1) := by decide +kernel
theorem dX9_count_70 : decode cX9_count 70 = .ok (.aload_n 0, 1) := by decide +kernel
theorem dX9_count_71 : decode cX9_count 71 = .ok (.getfield 77, 3) := by decide +kernel
theorem dX9_count_74 : decode cX9_count 74 = .ok (.ireturn, 1) := by decide +kernel
theorem dX9_count_75 : decode cX9_count 75 = .ok (.aload_n 0, 1) := by decide +kernel
theorem dX9_count_76 : decode cX9_count 76 = .ok (.invokevirtual 218, 3) := by decide +kernel
theorem dX9_count_79 : decode cX9_count 79 = .ok (.ireturn, 1) := by decide +kernel
theorem dX9_count_80 : decode cX9_count 80 = .ok (.aload_n 0, 1) := by decide +kernel
theorem dX9_count_81 : decode cX9_count 81 = .ok (.getfield 45, 3) := by decide +kernel
theorem dX9_count_84 : decode cX9_count 84 = .ok (.getfield 192, 3) := by decide +kernel
theorem dX9_count_87 : decode cX9_count 87 = .ok (.ireturn, 1) := by decide +kernel
theorem dX9_count_88 : decode cX9_count 88 = .ok (.aload_n 0, 1) := by decide +kernel
theorem dX9_count_89 : decode cX9_count 89 = .ok (.getfield 62, 3) := by decide +kernel
theorem dX9_count_92 : decode cX9_count 92 = .ok (.ireturn, 1) := by decide +kernel
theorem dX9_count_93 : decode cX9_count 93 = .ok (.aload_n 0, 1) := by decide +kernel
theorem dX9_count_94 : decode cX9_count 94 = .ok (.invokevirtual 302, 3) := by decide +kernel
theorem dX9_count_97 : decode cX9_count 97 = .ok (.ireturn, 1) := by decide +kernel
theorem dX9_count_98 : decode cX9_count 98 = .ok (.aload_n 0, 1) := by decide +kernel
theorem dX9_count_99 : decode cX9_count 99 = .ok (.invokevirtual 305, 3) := by decide +kernel
theorem dX9_count_102 : decode cX9_count 102 = .ok (.ireturn, 1) := by decide +kernel
theorem dX9_count_103 : decode cX9_count 103 = .ok (.iconst (-1), 1) := by decide +kernel
theorem dX9_count_104 : decode cX9_count 104 = .ok (.ireturn, 1) := by decide +kernel
theorem dX9_within_0 : decode cX9_within 0 = .ok (.iload_n 0, 1) := by decide +kernel
theorem dX9_within_1 : decode cX9_within 1 = .ok (.iload_n 1, 1) := by decide +kernel
theorem dX9_within_2 : decode cX9_within 2 = .ok (.if_icmp .lt 12, 3) := by decide +kernel
theorem dX9_within_5 : decode cX9_within 5 = .ok (.iload_n 0, 1) := by decide +kernel
theorem dX9_within_6 : decode cX9_within 6 = .ok (.iload_n 2, 1) := by decide +kernel
theorem dX9_within_7 : decode cX9_within 7 = .ok (.if_icmp .gt 7, 3) := by decide +kernel
theorem dX9_within_10 : decode cX9_within 10 = .ok (.iconst 1, 1) := by decide +kernel
theorem dX9_within_11 : decode cX9_within 11 = .ok (.goto 4, 3) := by decide +kernel
theorem dX9_within_14 : decode cX9_within 14 = .ok (.iconst 0, 1) := by decide +kernel
theorem dX9_within_15 : decode cX9_within 15 = .ok (.ireturn, 1) := by decide +kernel
theorem dX9_isLane_0 : decode cX9_isLane 0 = .ok (.iload_n 0, 1) := by decide +kernel
theorem dX9_isLane_1 : decode cX9_isLane 1 = .ok (.iconst 0, 1) := by decide +kernel
theorem dX9_isLane_2 : decode cX9_isLane 2 = .ok (.iconst 3, 1) := by decide +kernel
theorem dX9_isLane_3 : decode cX9_isLane 3 = .ok (.invokestatic 97, 3) := by decide +kernel
theorem dX9_isLane_6 : decode cX9_isLane 6 = .ok (.ireturn, 1) := by decide +kernel
theorem dX9_isCrew_0 : decode cX9_isCrew 0 = .ok (.iload_n 1, 1) := by decide +kernel
theorem dX9_isCrew_1 : decode cX9_isCrew 1 = .ok (.iconst 0, 1) := by decide +kernel
theorem dX9_isCrew_2 : decode cX9_isCrew 2 = .ok (.aload_n 0, 1) := by decide +kernel
theorem dX9_isCrew_3 : decode cX9_isCrew 3 = .ok (.getfield 24, 3) := by decide +kernel
theorem dX9_isCrew_6 : decode cX9_isCrew 6 = .ok (.iconst 1, 1) := by decide +kernel
theorem dX9_isCrew_7 : decode cX9_isCrew 7 = .ok (.isub, 1) := by decide +kernel
theorem dX9_isCrew_8 : decode cX9_isCrew 8 = .ok (.invokestatic 97, 3) := by decide +kernel
theorem dX9_isCrew_11 : decode cX9_isCrew 11 = .ok (.ireturn, 1) := by decide +kernel
theorem dX9_isRace_0 : decode cX9_isRace 0 = .ok (.iload_n 1, 1) := by decide +kernel
theorem dX9_isRace_1 : decode cX9_isRace 1 = .ok (.iconst 0, 1) := by decide +kernel
theorem dX9_isRace_2 : decode cX9_isRace 2 = .ok (.aload_n 0, 1) := by decide +kernel
theorem dX9_isRace_3 : decode cX9_isRace 3 = .ok (.getfield 77, 3) := by decide +kernel
theorem dX9_isRace_6 : decode cX9_isRace 6 = .ok (.iconst 1, 1) := by decide +kernel
theorem dX9_isRace_7 : decode cX9_isRace 7 = .ok (.isub, 1) := by decide +kernel
theorem dX9_isRace_8 : decode cX9_isRace 8 = .ok (.invokestatic 97, 3) := by decide +kernel
theorem dX9_isRace_11 : decode cX9_isRace 11 = .ok (.ireturn, 1) := by decide +kernel
theorem dX9_howManyWait_0 : decode cX9_howManyWait 0 = .ok (.iconst 0, 1) := by decide +kernel
theorem dX9_howManyWait_1 : decode cX9_howManyWait 1 = .ok (.istore_n 1, 1) := by decide +kernel
theorem dX9_howManyWait_2 : decode cX9_howManyWait 2 = .ok (.iconst 0, 1) := by decide +kernel
theorem dX9_howManyWait_3 : decode cX9_howManyWait 3 = .ok (.istore_n 2, 1) := by decide +kernel
theorem dX9_howManyWait_4 : decode cX9_howManyWait 4 = .ok (.iload_n 2, 1) := by decide +kernel
theorem dX9_howManyWait_5 : decode cX9_howManyWait 5 = .ok (.iconst 4, 1) := by decide +kernel
theorem dX9_howManyWait_6 : decode cX9_howManyWait 6 = .ok (.if_icmp .ge 27, 3) := by decide +kernel
theorem dX9_howManyWait_9 : decode cX9_howManyWait 9 = .ok (.iload_n 1, 1) := by decide +kernel
theorem dX9_howManyWait_10 : decode cX9_howManyWait 10 = .ok (.aload_n 0, 1) := by decide +kernel
theorem dX9_howManyWait_11 : decode cX9_howManyWait 11 = .ok (.getfield 65, 3) := by decide +kernel
theorem dX9_howManyWait_14 : decode cX9_howManyWait 14 = .ok (.iload_n 2, 1) := by decide +kernel
theorem dX9_howManyWait_15 : decode cX9_howManyWait 15 = .ok (.iaload, 1) := by decide +kernel
theorem dX9_howManyWait_16 : decode cX9_howManyWait 16 = .ok (.iconst (-1), 1) := by decide +kernel
theorem dX9_howManyWait_17 : decode cX9_howManyWait 17 = .ok (.if_icmp .eq 7, 3) := by decide +kernel
theorem dX9_howManyWait_24 : decode cX9_howManyWait 24 = .ok (.iconst 0, 1) := by decide +kernel
theorem dX9_howManyWait_25 : decode cX9_howManyWait 25 = .ok (.iadd, 1) := by decide +kernel
theorem dX9_howManyWait_26 : decode cX9_howManyWait 26 = .ok (.istore_n 1, 1) := by decide +kernel
theorem dX9_howManyWait_27 : decode cX9_howManyWait 27 = .ok (.iinc 2 1, 3) := by decide +kernel
theorem dX9_howManyWait_30 : decode cX9_howManyWait 30 = .ok (.goto (-26), 3) := by decide +kernel
theorem dX9_howManyWait_33 : decode cX9_howManyWait 33 = .ok (.iload_n 1, 1) := by decide +kernel
theorem dX9_howManyWait_34 : decode cX9_howManyWait 34 = .ok (.ireturn, 1) := by decide +kernel
theorem dX9_howManyAreSeated_0 : decode cX9_howManyAreSeated 0 = .ok (.iconst 0, 1) := by decide +kernel
theorem dX9_howManyAreSeated_1 : decode cX9_howManyAreSeated 1 = .ok (.istore_n 1, 1) := by decide +kernel
theorem dX9_howManyAreSeated_2 : decode cX9_howManyAreSeated 2 = .ok (.iconst 0, 1) := by decide +kernel
theorem dX9_howManyAreSeated_3 : decode cX9_howManyAreSeated 3 = .ok (.istore_n 2, 1) := by decide +kernel
theorem dX9_howManyAreSeated_4 : decode cX9_howManyAreSeated 4 = .ok (.iload_n 2, 1) := by decide +kernel
theorem dX9_howManyAreSeated_5 : decode cX9_howManyAreSeated 5 = .ok (.aload_n 0, 1) := by decide +kernel
theorem dX9_howManyAreSeated_6 : decode cX9_howManyAreSeated 6 = .ok (.getfield 24, 3) := by decide +kernel
theorem dX9_howManyAreSeated_9 : decode cX9_howManyAreSeated 9 = .ok (.if_icmp .ge 29, 3) := by decide +kernel
theorem dX9_howManyAreSeated_38 : decode cX9_howManyAreSeated 38 = .ok (.iload_n 1, 1) := by decide +kernel
theorem dX9_howManyAreSeated_39 : decode cX9_howManyAreSeated 39 = .ok (.ireturn, 1) := by decide +kernel
theorem dX9_howManyTimes_0 : decode cX9_howManyTimes 0 = .ok (.iconst 0, 1) := by decide +kernel
theorem dX9_howManyTimes_1 : decode cX9_howManyTimes 1 = .ok (.istore_n 1, 1) := by decide +kernel
theorem dX9_howManyTimes_2 : decode cX9_howManyTimes 2 = .ok (.iconst 0, 1) := by decide +kernel
theorem dX9_howManyTimes_3 : decode cX9_howManyTimes 3 = .ok (.istore_n 2, 1) := by decide +kernel
theorem dX9_howManyTimes_4 : decode cX9_howManyTimes 4 = .ok (.iload_n 2, 1) := by decide +kernel
theorem dX9_howManyTimes_5 : decode cX9_howManyTimes 5 = .ok (.aload_n 0, 1) := by decide +kernel
theorem dX9_howManyTimes_6 : decode cX9_howManyTimes 6 = .ok (.getfield 77, 3) := by decide +kernel
theorem dX9_howManyTimes_9 : decode cX9_howManyTimes 9 = .ok (.if_icmp .ge 21, 3) := by decide +kernel
theorem dX9_howManyTimes_30 : decode cX9_howManyTimes 30 = .ok (.iload_n 1, 1) := by decide +kernel
theorem dX9_howManyTimes_31 : decode cX9_howManyTimes 31 = .ok (.ireturn, 1) := by decide +kernel
theorem dX9_commonDivisor_0 : decode cX9_commonDivisor 0 = .ok (.lload_n 0, 1) := by decide +kernel
theorem dX9_commonDivisor_1 : decode cX9_commonDivisor 1 = .ok (.lstore 4, 2) := by decide +kernel
theorem dX9_commonDivisor_3 : decode cX9_commonDivisor 3 = .ok (.lload_n 2, 1) := by decide +kernel
theorem dX9_commonDivisor_4 : decode cX9_commonDivisor 4 = .ok (.lstore 6, 2) := by decide +kernel
theorem dX9_commonDivisor_6 : decode cX9_commonDivisor 6 = .ok (.iconst 0, 1) := by decide +kernel
theorem dX9_commonDivisor_7 : decode cX9_commonDivisor 7 = .ok (.istore 8, 2) := by decide +kernel
theorem dX9_commonDivisor_9 : decode cX9_commonDivisor 9 = .ok (.iload 8, 2) := by decide +kernel
theorem dX9_commonDivisor_11 : decode cX9_commonDivisor 11 = .ok (.sipush 200, 3) := by decide +kernel
theorem dX9_commonDivisor_14 : decode cX9_commonDivisor 14 = .ok (.if_icmp .ge 31, 3) := by decide +kernel
theorem dX9_commonDivisor_17 : decode cX9_commonDivisor 17 = .ok (.lload 6, 2) := by decide +kernel
theorem dX9_commonDivisor_19 : decode cX9_commonDivisor 19 = .ok (.lconst 0, 1) := by decide +kernel
theorem dX9_commonDivisor_20 : decode cX9_commonDivisor 20 = .ok (.lcmp, 1) := by decide +kernel
theorem dX9_commonDivisor_21 : decode cX9_commonDivisor 21 = .ok (.ifCond .eq 24, 3) := by decide +kernel
theorem dX9_commonDivisor_45 : decode cX9_commonDivisor 45 = .ok (.lload 4, 2) := by decide +kernel
theorem dX9_commonDivisor_47 : decode cX9_commonDivisor 47 = .ok (.lreturn, 1) := by decide +kernel
theorem dX10_init_0 : decode cX10_init 0 = .ok (.aload_n 0, 1) := by decide +kernel
theorem dX10_init_1 : decode cX10_init 1 = .ok (.invokespecial 3, 3) := by decide +kernel
theorem dX10_init_4 : decode cX10_init 4 = .ok (.aload_n 0, 1) := by decide +kernel
theorem dX10_init_5 : decode cX10_init 5 = .ok (.bipush 10, 2) := by decide +kernel
theorem dX10_init_7 : decode cX10_init 7 = .ok (.putfield 9, 3) := by decide +kernel
theorem dX10_init_10 : decode cX10_init 10 = .ok (.aload_n 0, 1) := by decide +kernel
theorem dX10_init_11 : decode cX10_init 11 = .ok (.bipush 40, 2) := by decide +kernel
theorem dX10_init_13 : decode cX10_init 13 = .ok (.newarray .int, 2) := by decide +kernel
theorem dX10_init_15 : decode cX10_init 15 = .ok (.putfield 15, 3) := by decide +kernel
theorem dX10_init_18 : decode cX10_init 18 = .ok (.aload_n 0, 1) := by decide +kernel
theorem dX10_init_19 : decode cX10_init 19 = .ok (.bipush 40, 2) := by decide +kernel
theorem dX10_init_21 : decode cX10_init 21 = .ok (.newarray .int, 2) := by decide +kernel
theorem dX10_init_23 : decode cX10_init 23 = .ok (.putfield 19, 3) := by decide +kernel
theorem dX10_init_26 : decode cX10_init 26 = .ok (.aload_n 0, 1) := by decide +kernel
theorem dX10_init_27 : decode cX10_init 27 = .ok (.bipush 40, 2) := by decide +kernel
theorem dX10_init_29 : decode cX10_init 29 = .ok (.newarray .int, 2) := by decide +kernel
theorem dX10_init_31 : decode cX10_init 31 = .ok (.putfield 22, 3) := by decide +kernel
theorem dX10_init_34 : decode cX10_init 34 = .ok (.aload_n 0, 1) := by decide +kernel
theorem dX10_init_35 : decode cX10_init 35 = .ok (.bipush 40, 2) := by decide +kernel
theorem dX10_init_37 : decode cX10_init 37 = .ok (.newarray .int, 2) := by decide +kernel
theorem dX10_init_39 : decode cX10_init 39 = .ok (.putfield 25, 3) := by decide +kernel
theorem dX10_init_42 : decode cX10_init 42 = .ok (.aload_n 0, 1) := by decide +kernel
theorem dX10_init_43 : decode cX10_init 43 = .ok (.bipush 40, 2) := by decide +kernel
theorem dX10_init_45 : decode cX10_init 45 = .ok (.newarray .int, 2) := by decide +kernel
theorem dX10_init_47 : decode cX10_init 47 = .ok (.putfield 28, 3) := by decide +kernel
theorem dX10_init_50 : decode cX10_init 50 = .ok (.aload_n 0, 1) := by decide +kernel
theorem dX10_init_51 : decode cX10_init 51 = .ok (.sipush 1600, 3) := by decide +kernel
theorem dX10_init_54 : decode cX10_init 54 = .ok (.newarray .boolean, 2) := by decide +kernel
theorem dX10_init_56 : decode cX10_init 56 = .ok (.putfield 31, 3) := by decide +kernel
theorem dX10_init_59 : decode cX10_init 59 = .ok (.aload_n 0, 1) := by decide +kernel
theorem dX10_init_60 : decode cX10_init 60 = .ok (.bipush 6, 2) := by decide +kernel
theorem dX10_init_62 : decode cX10_init 62 = .ok (.newarray .int, 2) := by decide +kernel
theorem dX10_init_64 : decode cX10_init 64 = .ok (.putfield 35, 3) := by decide +kernel
theorem dX10_init_67 : decode cX10_init 67 = .ok (.aload_n 0, 1) := by decide +kernel
theorem dX10_init_68 : decode cX10_init 68 = .ok (.bipush 6, 2) := by decide +kernel
theorem dX10_init_70 : decode cX10_init 70 = .ok (.newarray .int, 2) := by decide +kernel
theorem dX10_init_72 : decode cX10_init 72 = .ok (.putfield 38, 3) := by decide +kernel
theorem dX10_init_75 : decode cX10_init 75 = .ok (.aload_n 0, 1) := by decide +kernel
theorem dX10_init_76 : decode cX10_init 76 = .ok (.bipush 6, 2) := by decide +kernel
theorem dX10_init_78 : decode cX10_init 78 = .ok (.newarray .int, 2) := by decide +kernel
theorem dX10_init_80 : decode cX10_init 80 = .ok (.putfield 41, 3) := by decide +kernel
theorem dX10_init_83 : decode cX10_init 83 = .ok (.aload_n 0, 1) := by decide +kernel
theorem dX10_init_84 : decode cX10_init 84 = .ok (.bipush 6, 2) := by decide +kernel
theorem dX10_init_86 : decode cX10_init 86 = .ok (.newarray .int, 2) := by decide +kernel
theorem dX10_init_88 : decode cX10_init 88 = .ok (.putfield 44, 3) := by decide +kernel
theorem dX10_init_91 : decode cX10_init 91 = .ok (.aload_n 0, 1) := by decide +kernel
theorem dX10_init_92 : decode cX10_init 92 = .ok (.bipush 48, 2) := by decide +kernel
theorem dX10_init_94 : decode cX10_init 94 = .ok (.newarray .int, 2) := by decide +kernel
theorem dX10_init_96 : decode cX10_init 96 = .ok (.putfield 47, 3) := by decide +kernel
theorem dX10_init_99 : decode cX10_init 99 = .ok (.aload_n 0, 1) := by decide +kernel
theorem dX10_init_100 : decode cX10_init 100 = .ok (.bipush 48, 2) := by decide +kernel
theorem dX10_init_102 : decode cX10_init 102 = .ok (.newarray .int, 2) := by decide +kernel
theorem dX10_init_104 : decode cX10_init 104 = .ok (.putfield 50, 3) := by decide +kernel
theorem dX10_init_107 : decode cX10_init 107 = .ok (.aload_n 0, 1) := by decide +kernel
theorem dX10_init_108 : decode cX10_init 108 = .ok (.bipush 6, 2) := by decide +kernel
theorem dX10_init_110 : decode cX10_init 110 = .ok (.newarray .boolean, 2) := by decide +kernel
theorem dX10_init_112 : decode cX10_init 112 = .ok (.putfield 53, 3) := by decide +kernel
theorem dX10_init_115 : decode cX10_init 115 = .ok (.aload_n 0, 1) := by decide +kernel
theorem dX10_init_116 : decode cX10_init 116 = .ok (.bipush 120, 2) := by decide +kernel
theorem dX10_init_118 : decode cX10_init 118 = .ok (.newarray .int, 2) := by decide +kernel
theorem dX10_init_120 : decode cX10_init 120 = .ok (.putfield 56, 3) := by decide +kernel
theorem dX10_init_123 : decode cX10_init 123 = .ok (.aload_n 0, 1) := by decide +kernel
theorem dX10_init_124 : decode cX10_init 124 = .ok (.bipush 6, 2) := by decide +kernel
theorem dX10_init_126 : decode cX10_init 126 = .ok (.newarray .int, 2) := by decide +kernel
theorem dX10_init_128 : decode cX10_init 128 = .ok (.putfield 59, 3) := by decide +kernel
theorem dX10_init_131 : decode cX10_init 131 = .ok (.aload_n 0, 1) := by decide +kernel
theorem dX10_init_132 : decode cX10_init 132 = .ok (.bipush 48, 2) := by decide +kernel
theorem dX10_init_134 : decode cX10_init 134 = .ok (.newarray .int, 2) := by decide +kernel
theorem dX10_init_136 : decode cX10_init 136 = .ok (.putfield 62, 3) := by decide +kernel
theorem dX10_init_139 : decode cX10_init 139 = .ok (.aload_n 0, 1) := by decide +kernel
theorem dX10_init_140 : decode cX10_init 140 = .ok (.bipush 48, 2) := by decide +kernel
theorem dX10_init_142 : decode cX10_init 142 = .ok (.newarray .int, 2) := by decide +kernel
theorem dX10_init_144 : decode cX10_init 144 = .ok (.putfield 65, 3) := by decide +kernel
theorem dX10_init_147 : decode cX10_init 147 = .ok (.aload_n 0, 1) := by decide +kernel
theorem dX10_init_148 : decode cX10_init 148 = .ok (.bipush 48, 2) := by decide +kernel
theorem dX10_init_150 : decode cX10_init 150 = .ok (.newarray .int, 2) := by decide +kernel
theorem dX10_init_152 : decode cX10_init 152 = .ok (.putfield 68, 3) := by decide +kernel
theorem dX10_init_155 : decode cX10_init 155 = .ok (.aload_n 0, 1) := by decide +kernel
theorem dX10_init_156 : decode cX10_init 156 = .ok (.bipush 48, 2) := by decide +kernel
theorem dX10_init_158 : decode cX10_init 158 = .ok (.newarray .boolean, 2) := by decide +kernel
theorem dX10_init_160 : decode cX10_init 160 = .ok (.putfield 71, 3) := by decide +kernel
theorem dX10_init_163 : decode cX10_init 163 = .ok (.aload_n 0, 1) := by decide +kernel
theorem dX10_init_164 : decode cX10_init 164 = .ok (.bipush 48, 2) := by decide +kernel
theorem dX10_init_166 : decode cX10_init 166 = .ok (.newarray .boolean, 2) := by decide +kernel
theorem dX10_init_168 : decode cX10_init 168 = .ok (.putfield 74, 3) := by decide +kernel
theorem dX10_init_171 : decode cX10_init 171 = .ok (.aload_n 0, 1) := by decide +kernel
theorem dX10_init_172 : decode cX10_init 172 = .ok (.bipush 24, 2) := by decide +kernel
theorem dX10_init_174 : decode cX10_init 174 = .ok (.newarray .int, 2) := by decide +kernel
theorem dX10_init_176 : decode cX10_init 176 = .ok (.putfield 77, 3) := by decide +kernel
theorem dX10_init_179 : decode cX10_init 179 = .ok (.aload_n 0, 1) := by decide +kernel
theorem dX10_init_180 : decode cX10_init 180 = .ok (.bipush 24, 2) := by decide +kernel
theorem dX10_init_182 : decode cX10_init 182 = .ok (.newarray .int, 2) := by decide +kernel
theorem dX10_init_184 : decode cX10_init 184 = .ok (.putfield 80, 3) := by decide +kernel
theorem dX10_init_187 : decode cX10_init 187 = .ok (.aload_n 0, 1) := by decide +kernel
theorem dX10_init_188 : decode cX10_init 188 = .ok (.bipush 96, 2) := by decide +kernel
theorem dX10_init_190 : decode cX10_init 190 = .ok (.newarray .int, 2) := by decide +kernel
theorem dX10_init_192 : decode cX10_init 192 = .ok (.putfield 83, 3) := by decide +kernel
theorem dX10_init_195 : decode cX10_init 195 = .ok (.aload_n 0, 1) := by decide +kernel
theorem dX10_init_196 : decode cX10_init 196 = .ok (.bipush 96, 2) := by decide +kernel
theorem dX10_init_198 : decode cX10_init 198 = .ok (.newarray .int, 2) := by decide +kernel
theorem dX10_init_200 : decode cX10_init 200 = .ok (.putfield 86, 3) := by decide +kernel
theorem dX10_init_203 : decode cX10_init 203 = .ok (.aload_n 0, 1) := by decide +kernel
theorem dX10_init_204 : decode cX10_init 204 = .ok (.bipush 96, 2) := by decide +kernel
theorem dX10_init_206 : decode cX10_init 206 = .ok (.newarray .int, 2) := by decide +kernel
theorem dX10_init_208 : decode cX10_init 208 = .ok (.putfield 89, 3) := by decide +kernel
theorem dX10_init_211 : decode cX10_init 211 = .ok (.aload_n 0, 1) := by decide +kernel
theorem dX10_init_212 : decode cX10_init 212 = .ok (.bipush 96, 2) := by decide +kernel
theorem dX10_init_214 : decode cX10_init 214 = .ok (.newarray .boolean, 2) := by decide +kernel
theorem dX10_init_216 : decode cX10_init 216 = .ok (.putfield 92, 3) := by decide +kernel
theorem dX10_init_219 : decode cX10_init 219 = .ok (.aload_n 0, 1) := by decide +kernel
theorem dX10_init_220 : decode cX10_init 220 = .ok (.bipush 24, 2) := by decide +kernel
theorem dX10_init_222 : decode cX10_init 222 = .ok (.newarray .boolean, 2) := by decide +kernel
theorem dX10_init_224 : decode cX10_init 224 = .ok (.putfield 95, 3) := by decide +kernel
theorem dX10_init_227 : decode cX10_init 227 = .ok (.aload_n 0, 1) := by decide +kernel
theorem dX10_init_228 : decode cX10_init 228 = .ok (.iconst 4, 1) := by decide +kernel
theorem dX10_init_229 : decode cX10_init 229 = .ok (.newarray .int, 2) := by decide +kernel
theorem dX10_init_231 : decode cX10_init 231 = .ok (.putfield 98, 3) := by decide +kernel
theorem dX10_init_234 : decode cX10_init 234 = .ok (.aload_n 0, 1) := by decide +kernel
theorem dX10_init_235 : decode cX10_init 235 = .ok (.iconst 4, 1) := by decide +kernel
theorem dX10_init_236 : decode cX10_init 236 = .ok (.newarray .int, 2) := by decide +kernel
theorem dX10_init_238 : decode cX10_init 238 = .ok (.putfield 101, 3) := by decide +kernel
theorem dX10_init_241 : decode cX10_init 241 = .ok (.aload_n 0, 1) := by decide +kernel
theorem dX10_init_242 : decode cX10_init 242 = .ok (.bipush 6, 2) := by decide +kernel
theorem dX10_init_244 : decode cX10_init 244 = .ok (.newarray .int, 2) := by decide +kernel
theorem dX10_init_246 : decode cX10_init 246 = .ok (.putfield 104, 3) := by decide +kernel
theorem dX10_init_249 : decode cX10_init 249 = .ok (.aload_n 0, 1) := by decide +kernel
theorem dX10_init_250 : decode cX10_init 250 = .ok (.bipush 6, 2) := by decide +kernel
theorem dX10_init_252 : decode cX10_init 252 = .ok (.newarray .int, 2) := by decide +kernel
theorem dX10_init_254 : decode cX10_init 254 = .ok (.putfield 107, 3) := by decide +kernel
theorem dX10_init_257 : decode cX10_init 257 = .ok (.aload_n 0, 1) := by decide +kernel
theorem dX10_init_258 : decode cX10_init 258 = .ok (.bipush 6, 2) := by decide +kernel
theorem dX10_init_260 : decode cX10_init 260 = .ok (.newarray .boolean, 2) := by decide +kernel
theorem dX10_init_262 : decode cX10_init 262 = .ok (.putfield 110, 3) := by decide +kernel
theorem dX10_init_265 : decode cX10_init 265 = .ok (.aload_n 0, 1) := by decide +kernel
theorem dX10_init_266 : decode cX10_init 266 = .ok (.bipush 8, 2) := by decide +kernel
theorem dX10_init_268 : decode cX10_init 268 = .ok (.newarray .int, 2) := by decide +kernel
theorem dX10_init_270 : decode cX10_init 270 = .ok (.putfield 113, 3) := by decide +kernel
theorem dX10_init_273 : decode cX10_init 273 = .ok (.aload_n 0, 1) := by decide +kernel
theorem dX10_init_274 : decode cX10_init 274 = .ok (.bipush 8, 2) := by decide +kernel
theorem dX10_init_276 : decode cX10_init 276 = .ok (.newarray .int, 2) := by decide +kernel
theorem dX10_init_278 : decode cX10_init 278 = .ok (.putfield 116, 3) := by decide +kernel
theorem dX10_init_281 : decode cX10_init 281 = .ok (.aload_n 0, 1) := by decide +kernel
theorem dX10_init_282 : decode cX10_init 282 = .ok (.bipush 8, 2) := by decide +kernel
theorem dX10_init_284 : decode cX10_init 284 = .ok (.newarray .int, 2) := by decide +kernel
theorem dX10_init_286 : decode cX10_init 286 = .ok (.putfield 119, 3) := by decide +kernel
theorem dX10_init_289 : decode cX10_init 289 = .ok (.aload_n 0, 1) := by decide +kernel
theorem dX10_init_290 : decode cX10_init 290 = .ok (.bipush 8, 2) := by decide +kernel
theorem dX10_init_292 : decode cX10_init 292 = .ok (.newarray .int, 2) := by decide +kernel
theorem dX10_init_294 : decode cX10_init 294 = .ok (.putfield 122, 3) := by decide +kernel
theorem dX10_init_297 : decode cX10_init 297 = .ok (.iconst 0, 1) := by decide +kernel
theorem dX10_init_298 : decode cX10_init 298 = .ok (.istore_n 1, 1) := by decide +kernel
theorem dX10_init_299 : decode cX10_init 299 = .ok (.iload_n 1, 1) := by decide +kernel
theorem dX10_init_300 : decode cX10_init 300 = .ok (.iconst 4, 1) := by decide +kernel
theorem dX10_init_301 : decode cX10_init 301 = .ok (.if_icmp .ge 16, 3) := by decide +kernel
theorem dX10_init_304 : decode cX10_init 304 = .ok (.aload_n 0, 1) := by decide +kernel
theorem dX10_init_305 : decode cX10_init 305 = .ok (.getfield 98, 3) := by decide +kernel
theorem dX10_init_308 : decode cX10_init 308 = .ok (.iload_n 1, 1) := by decide +kernel
theorem dX10_init_309 : decode cX10_init 309 = .ok (.iconst (-1), 1) := by decide +kernel
theorem dX10_init_310 : decode cX10_init 310 = .ok (.iastore, 1) := by decide +kernel
theorem dX10_init_311 : decode cX10_init 311 = .ok (.iinc 1 1, 3) := by decide +kernel
theorem dX10_init_314 : decode cX10_init 314 = .ok (.goto (-15), 3) := by decide +kernel
theorem dX10_init_317 : decode cX10_init 317 = .ok (.return_, 1) := by decide +kernel
theorem dX10_isPaddler_0 : decode cX10_isPaddler 0 = .ok (.iload_n 1, 1) := by decide +kernel
theorem dX10_isPaddler_1 : decode cX10_isPaddler 1 = .ok (.ifCond .lt 15, 3) := by decide +kernel
theorem dX10_isPaddler_4 : decode cX10_isPaddler 4 = .ok (.iload_n 1, 1) := by decide +kernel
theorem dX10_isPaddler_5 : decode cX10_isPaddler 5 = .ok (.aload_n 0, 1) := by decide +kernel
theorem dX10_isPaddler_6 : decode cX10_isPaddler 6 = .ok (.getfield 125, 3) := by decide +kernel
theorem dX10_isPaddler_9 : decode cX10_isPaddler 9 = .ok (.if_icmp .ge 7, 3) := by decide +kernel
theorem dX10_isPaddler_16 : decode cX10_isPaddler 16 = .ok (.iconst 0, 1) := by decide +kernel
theorem dX10_isPaddler_17 : decode cX10_isPaddler 17 = .ok (.ireturn, 1) := by decide +kernel
theorem dX10_isCrew_0 : decode cX10_isCrew 0 = .ok (.iload_n 1, 1) := by decide +kernel
theorem dX10_isCrew_1 : decode cX10_isCrew 1 = .ok (.ifCond .lt 15, 3) := by decide +kernel
theorem dX10_isCrew_4 : decode cX10_isCrew 4 = .ok (.iload_n 1, 1) := by decide +kernel
theorem dX10_isCrew_5 : decode cX10_isCrew 5 = .ok (.aload_n 0, 1) := by decide +kernel
theorem dX10_isCrew_6 : decode cX10_isCrew 6 = .ok (.getfield 128, 3) := by decide +kernel
theorem dX10_isCrew_9 : decode cX10_isCrew 9 = .ok (.if_icmp .ge 7, 3) := by decide +kernel
theorem dX10_isCrew_16 : decode cX10_isCrew 16 = .ok (.iconst 0, 1) := by decide +kernel
theorem dX10_isCrew_17 : decode cX10_isCrew 17 = .ok (.ireturn, 1) := by decide +kernel
theorem dX10_paddler_0 : decode cX10_paddler 0 = .ok (.iload_n 1, 1) := by decide +kernel
theorem dX10_paddler_1 : decode cX10_paddler 1 = .ok (.bipush 30, 2) := by decide +kernel
theorem dX10_paddler_3 : decode cX10_paddler 3 = .ok (.if_icmp .lt 55, 3) := by decide +kernel
theorem dX10_paddler_6 : decode cX10_paddler 6 = .ok (.iload_n 1, 1) := by decide +kernel
theorem dX10_paddler_7 : decode cX10_paddler 7 = .ok (.sipush 150, 3) := by decide +kernel
theorem dX10_paddler_10 : decode cX10_paddler 10 = .ok (.if_icmp .gt 48, 3) := by decide +kernel
theorem dX10_paddler_13 : decode cX10_paddler 13 = .ok (.iload_n 2, 1) := by decide +kernel
theorem dX10_paddler_14 : decode cX10_paddler 14 = .ok (.iconst 1, 1) := by decide +kernel
theorem dX10_paddler_15 : decode cX10_paddler 15 = .ok (.if_icmp .lt 43, 3) := by decide +kernel
theorem dX10_paddler_18 : decode cX10_paddler 18 = .ok (.iload_n 2, 1) := by decide +kernel
theorem dX10_paddler_19 : decode cX10_paddler 19 = .ok (.bipush 99, 2) := by decide +kernel
theorem dX10_paddler_21 : decode cX10_paddler 21 = .ok (.if_icmp .gt 37, 3) := by decide +kernel
theorem dX10_paddler_24 : decode cX10_paddler 24 = .ok (.iload_n 3, 1) := by decide +kernel
theorem dX10_paddler_25 : decode cX10_paddler 25 = .ok (.ifCond .lt 33, 3) := by decide +kernel
theorem dX10_paddler_28 : decode cX10_paddler 28 = .ok (.iload_n 3, 1) := by decide +kernel
theorem dX10_paddler_29 : decode cX10_paddler 29 = .ok (.iconst 2, 1) := by decide +kernel
theorem dX10_paddler_30 : decode cX10_paddler 30 = .ok (.if_icmp .gt 28, 3) := by decide +kernel
theorem dX10_paddler_33 : decode cX10_paddler 33 = .ok (.iload 4, 2) := by decide +kernel
theorem dX10_paddler_35 : decode cX10_paddler 35 = .ok (.ifCond .lt 23, 3) := by decide +kernel
theorem dX10_paddler_38 : decode cX10_paddler 38 = .ok (.iload 4, 2) := by decide +kernel
theorem dX10_paddler_40 : decode cX10_paddler 40 = .ok (.iconst 1, 1) := by decide +kernel
theorem dX10_paddler_41 : decode cX10_paddler 41 = .ok (.if_icmp .gt 17, 3) := by decide +kernel
theorem dX10_paddler_44 : decode cX10_paddler 44 = .ok (.iload 5, 2) := by decide +kernel
theorem dX10_paddler_46 : decode cX10_paddler 46 = .ok (.bipush 10, 2) := by decide +kernel
theorem dX10_paddler_48 : decode cX10_paddler 48 = .ok (.if_icmp .lt 10, 3) := by decide +kernel
theorem dX10_paddler_51 : decode cX10_paddler 51 = .ok (.iload 5, 2) := by decide +kernel
theorem dX10_paddler_53 : decode cX10_paddler 53 = .ok (.bipush 90, 2) := by decide +kernel
theorem dX10_paddler_55 : decode cX10_paddler 55 = .ok (.if_icmp .le 6, 3) := by decide +kernel
theorem dX10_paddler_58 : decode cX10_paddler 58 = .ok (.bipush (-2), 2) := by decide +kernel
theorem dX10_paddler_60 : decode cX10_paddler 60 = .ok (.ireturn, 1) := by decide +kernel
theorem dX10_paddler_61 : decode cX10_paddler 61 = .ok (.aload_n 0, 1) := by decide +kernel
theorem dX10_paddler_62 : decode cX10_paddler 62 = .ok (.getfield 125, 3) := by decide +kernel
theorem dX10_paddler_65 : decode cX10_paddler 65 = .ok (.bipush 40, 2) := by decide +kernel
theorem dX10_paddler_67 : decode cX10_paddler 67 = .ok (.if_icmp .ne 6, 3) := by decide +kernel
theorem dX10_paddler_73 : decode cX10_paddler 73 = .ok (.aload_n 0, 1) := by decide +kernel
theorem dX10_paddler_74 : decode cX10_paddler 74 = .ok (.getfield 15, 3) := by decide +kernel
theorem dX10_paddler_77 : decode cX10_paddler 77 = .ok (.aload_n 0, 1) := by decide +kernel
theorem dX10_paddler_78 : decode cX10_paddler 78 = .ok (.getfield 125, 3) := by decide +kernel
theorem dX10_paddler_81 : decode cX10_paddler 81 = .ok (.iload_n 1, 1) := by decide +kernel
theorem dX10_paddler_82 : decode cX10_paddler 82 = .ok (.iastore, 1) := by decide +kernel
theorem dX10_paddler_83 : decode cX10_paddler 83 = .ok (.aload_n 0, 1) := by decide +kernel
theorem dX10_paddler_84 : decode cX10_paddler 84 = .ok (.getfield 19, 3) := by decide +kernel
theorem dX10_paddler_87 : decode cX10_paddler 87 = .ok (.aload_n 0, 1) := by decide +kernel
theorem dX10_paddler_88 : decode cX10_paddler 88 = .ok (.getfield 125, 3) := by decide +kernel
theorem dX10_paddler_91 : decode cX10_paddler 91 = .ok (.iload_n 2, 1) := by decide +kernel
theorem dX10_paddler_92 : decode cX10_paddler 92 = .ok (.iastore, 1) := by decide +kernel
theorem dX10_paddler_93 : decode cX10_paddler 93 = .ok (.aload_n 0, 1) := by decide +kernel
theorem dX10_paddler_94 : decode cX10_paddler 94 = .ok (.getfield 22, 3) := by decide +kernel
theorem dX10_paddler_97 : decode cX10_paddler 97 = .ok (.aload_n 0, 1) := by decide +kernel
theorem dX10_paddler_98 : decode cX10_paddler 98 = .ok (.getfield 125, 3) := by decide +kernel
theorem dX10_paddler_101 : decode cX10_paddler 101 = .ok (.iload_n 3, 1) := by decide +kernel
theorem dX10_paddler_102 : decode cX10_paddler 102 = .ok (.iastore, 1) := by decide +kernel
theorem dX10_paddler_103 : decode cX10_paddler 103 = .ok (.aload_n 0, 1) := by decide +kernel
theorem dX10_paddler_104 : decode cX10_paddler 104 = .ok (.getfield 25, 3) := by decide +kernel
theorem dX10_paddler_107 : decode cX10_paddler 107 = .ok (.aload_n 0, 1) := by decide +kernel
theorem dX10_paddler_108 : decode cX10_paddler 108 = .ok (.getfield 125, 3) := by decide +kernel
theorem dX10_paddler_111 : decode cX10_paddler 111 = .ok (.iload 4, 2) := by decide +kernel
theorem dX10_paddler_113 : decode cX10_paddler 113 = .ok (.iastore, 1) := by decide +kernel
theorem dX10_paddler_114 : decode cX10_paddler 114 = .ok (.aload_n 0, 1) := by decide +kernel
theorem dX10_paddler_115 : decode cX10_paddler 115 = .ok (.getfield 28, 3) := by decide +kernel
theorem dX10_paddler_118 : decode cX10_paddler 118 = .ok (.aload_n 0, 1) := by decide +kernel
theorem dX10_paddler_119 : decode cX10_paddler 119 = .ok (.getfield 125, 3) := by decide +kernel
theorem dX10_paddler_122 : decode cX10_paddler 122 = .ok (.iload 5, 2) := by decide +kernel
theorem dX10_paddler_124 : decode cX10_paddler 124 = .ok (.iastore, 1) := by decide +kernel
theorem dX10_paddler_125 : decode cX10_paddler 125 = .ok (.aload_n 0, 1) := by decide +kernel
theorem dX10_paddler_126 : decode cX10_paddler 126 = .ok (.dup, 1) := by decide +kernel
theorem dX10_paddler_127 : decode cX10_paddler 127 = .ok (.getfield 125, 3) := by decide +kernel
theorem dX10_paddler_130 : decode cX10_paddler 130 = .ok (.dup_x1, 1) := by decide +kernel
theorem dX10_paddler_131 : decode cX10_paddler 131 = .ok (.iconst 1, 1) := by decide +kernel
theorem dX10_paddler_132 : decode cX10_paddler 132 = .ok (.iadd, 1) := by decide +kernel
theorem dX10_paddler_133 : decode cX10_paddler 133 = .ok (.putfield 125, 3) := by decide +kernel
theorem dX10_paddler_136 : decode cX10_paddler 136 = .ok (.ireturn, 1) := by decide +kernel
theorem dX10_like_0 : decode cX10_like 0 = .ok (.aload_n 0, 1) := by decide +kernel
theorem dX10_like_1 : decode cX10_like 1 = .ok (.iload_n 1, 1) := by decide +kernel
theorem dX10_like_2 : decode cX10_like 2 = .ok (.invokevirtual 131, 3) := by decide +kernel
theorem dX10_like_5 : decode cX10_like 5 = .ok (.ifCond .eq 11, 3) := by decide +kernel
theorem dX10_like_16 : decode cX10_like 16 = .ok (.iconst (-1), 1) := by decide +kernel
theorem dX10_like_17 : decode cX10_like 17 = .ok (.ireturn, 1) := by decide +kernel
theorem dX10_crew_0 : decode cX10_crew 0 = .ok (.iload_n 1, 1) := by decide +kernel
theorem dX10_crew_1 : decode cX10_crew 1 = .ok (.iconst 2, 1) := by decide +kernel
theorem dX10_crew_2 : decode cX10_crew 2 = .ok (.if_icmp .lt 19, 3) := by decide +kernel
theorem dX10_crew_5 : decode cX10_crew 5 = .ok (.iload_n 1, 1) := by decide +kernel
theorem dX10_crew_6 : decode cX10_crew 6 = .ok (.iconst 4, 1) := by decide +kernel
theorem dX10_crew_7 : decode cX10_crew 7 = .ok (.if_icmp .gt 14, 3) := by decide +kernel
theorem dX10_crew_10 : decode cX10_crew 10 = .ok (.iload_n 2, 1) := by decide +kernel
theorem dX10_crew_11 : decode cX10_crew 11 = .ok (.ifCond .lt 10, 3) := by decide +kernel
theorem dX10_crew_14 : decode cX10_crew 14 = .ok (.iload_n 2, 1) := by decide +kernel
theorem dX10_crew_15 : decode cX10_crew 15 = .ok (.sipush 150, 3) := by decide +kernel
theorem dX10_crew_18 : decode cX10_crew 18 = .ok (.if_icmp .le 6, 3) := by decide +kernel
theorem dX10_crew_21 : decode cX10_crew 21 = .ok (.bipush (-2), 2) := by decide +kernel
theorem dX10_crew_23 : decode cX10_crew 23 = .ok (.ireturn, 1) := by decide +kernel
theorem dX10_crew_24 : decode cX10_crew 24 = .ok (.aload_n 0, 1) := by decide +kernel
theorem dX10_crew_25 : decode cX10_crew 25 = .ok (.getfield 128, 3) := by decide +kernel
theorem dX10_crew_28 : decode cX10_crew 28 = .ok (.bipush 6, 2) := by decide +kernel
theorem dX10_crew_30 : decode cX10_crew 30 = .ok (.if_icmp .ne 6, 3) := by decide +kernel
theorem dX10_crew_36 : decode cX10_crew 36 = .ok (.aload_n 0, 1) := by decide +kernel
theorem dX10_crew_37 : decode cX10_crew 37 = .ok (.getfield 35, 3) := by decide +kernel
theorem dX10_crew_40 : decode cX10_crew 40 = .ok (.aload_n 0, 1) := by decide +kernel
theorem dX10_crew_41 : decode cX10_crew 41 = .ok (.getfield 128, 3) := by decide +kernel
theorem dX10_crew_44 : decode cX10_crew 44 = .ok (.iload_n 1, 1) := by decide +kernel
theorem dX10_crew_45 : decode cX10_crew 45 = .ok (.iastore, 1) := by decide +kernel
theorem dX10_crew_46 : decode cX10_crew 46 = .ok (.aload_n 0, 1) := by decide +kernel
theorem dX10_crew_47 : decode cX10_crew 47 = .ok (.getfield 38, 3) := by decide +kernel
theorem dX10_crew_50 : decode cX10_crew 50 = .ok (.aload_n 0, 1) := by decide +kernel
theorem dX10_crew_51 : decode cX10_crew 51 = .ok (.getfield 128, 3) := by decide +kernel
theorem dX10_crew_54 : decode cX10_crew 54 = .ok (.iload_n 2, 1) := by decide +kernel
theorem dX10_crew_55 : decode cX10_crew 55 = .ok (.iastore, 1) := by decide +kernel
theorem dX10_crew_56 : decode cX10_crew 56 = .ok (.aload_n 0, 1) := by decide +kernel
theorem dX10_crew_57 : decode cX10_crew 57 = .ok (.getfield 44, 3) := by decide +kernel
theorem dX10_crew_60 : decode cX10_crew 60 = .ok (.aload_n 0, 1) := by decide +kernel
theorem dX10_crew_61 : decode cX10_crew 61 = .ok (.getfield 128, 3) := by decide +kernel
theorem dX10_crew_64 : decode cX10_crew 64 = .ok (.iconst 4, 1) := by decide +kernel
theorem dX10_crew_65 : decode cX10_crew 65 = .ok (.iastore, 1) := by decide +kernel
theorem dX10_crew_66 : decode cX10_crew 66 = .ok (.aload_n 0, 1) := by decide +kernel
theorem dX10_crew_67 : decode cX10_crew 67 = .ok (.dup, 1) := by decide +kernel
theorem dX10_crew_68 : decode cX10_crew 68 = .ok (.getfield 128, 3) := by decide +kernel
theorem dX10_crew_71 : decode cX10_crew 71 = .ok (.dup_x1, 1) := by decide +kernel
theorem dX10_crew_72 : decode cX10_crew 72 = .ok (.iconst 1, 1) := by decide +kernel
theorem dX10_crew_73 : decode cX10_crew 73 = .ok (.iadd, 1) := by decide +kernel
theorem dX10_crew_74 : decode cX10_crew 74 = .ok (.putfield 128, 3) := by decide +kernel
theorem dX10_crew_77 : decode cX10_crew 77 = .ok (.ireturn, 1) := by decide +kernel
theorem dX10_join_0 : decode cX10_join 0 = .ok (.aload_n 0, 1) := by decide +kernel
theorem dX10_join_1 : decode cX10_join 1 = .ok (.iload_n 1, 1) := by decide +kernel
theorem dX10_join_2 : decode cX10_join 2 = .ok (.invokevirtual 135, 3) := by decide +kernel
theorem dX10_join_5 : decode cX10_join 5 = .ok (.ifCond .eq 11, 3) := by decide +kernel
theorem dX10_join_16 : decode cX10_join 16 = .ok (.iconst (-1), 1) := by decide +kernel
theorem dX10_join_17 : decode cX10_join 17 = .ok (.ireturn, 1) := by decide +kernel
theorem dX10_beat_0 : decode cX10_beat 0 = .ok (.aload_n 0, 1) := by decide +kernel
theorem dX10_beat_1 : decode cX10_beat 1 = .ok (.iload_n 1, 1) := by decide +kernel
theorem dX10_beat_2 : decode cX10_beat 2 = .ok (.invokevirtual 135, 3) := by decide +kernel
theorem dX10_beat_5 : decode cX10_beat 5 = .ok (.ifCond .ne 5, 3) := by decide +kernel
theorem dX10_beat_8 : decode cX10_beat 8 = .ok (.iconst (-1), 1) := by decide +kernel
theorem dX10_beat_9 : decode cX10_beat 9 = .ok (.ireturn, 1) := by decide +kernel
theorem dX10_seat_0 : decode cX10_seat 0 = .ok (.aload_n 0, 1) := by decide +kernel
theorem dX10_seat_1 : decode cX10_seat 1 = .ok (.iload_n 1, 1) := by decide +kernel
theorem dX10_seat_2 : decode cX10_seat 2 = .ok (.invokevirtual 135, 3) := by decide +kernel
theorem dX10_seat_5 : decode cX10_seat 5 = .ok (.ifCond .ne 6, 3) := by decide +kernel
theorem dX10_seat_8 : decode cX10_seat 8 = .ok (.ldc 150, 2) := by decide +kernel
theorem dX10_seat_10 : decode cX10_seat 10 = .ok (.ireturn, 1) := by decide +kernel
theorem dX10_sits_0 : decode cX10_sits 0 = .ok (.aload_n 0, 1) := by decide +kernel
theorem dX10_sits_1 : decode cX10_sits 1 = .ok (.iload_n 1, 1) := by decide +kernel
theorem dX10_sits_2 : decode cX10_sits 2 = .ok (.invokevirtual 135, 3) := by decide +kernel
theorem dX10_sits_5 : decode cX10_sits 5 = .ok (.ifCond .eq 35, 3) := by decide +kernel
theorem dX10_sits_40 : decode cX10_sits 40 = .ok (.iconst (-1), 1) := by decide +kernel
theorem dX10_sits_41 : decode cX10_sits 41 = .ok (.ireturn, 1) := by decide +kernel
theorem dX10_trim_0 : decode cX10_trim 0 = .ok (.aload_n 0, 1) := by decide +kernel
theorem dX10_trim_1 : decode cX10_trim 1 = .ok (.iload_n 1, 1) := by decide +kernel
theorem dX10_trim_2 : decode cX10_trim 2 = .ok (.invokevirtual 135, 3) := by decide +kernel
theorem dX10_trim_5 : decode cX10_trim 5 = .ok (.ifCond .eq 12, 3) := by decide +kernel
theorem dX10_trim_17 : decode cX10_trim 17 = .ok (.iconst (-1), 1) := by decide +kernel
theorem dX10_trim_18 : decode cX10_trim 18 = .ok (.ireturn, 1) := by decide +kernel
theorem dX10_change_0 : decode cX10_change 0 = .ok (.aload_n 0, 1) := by decide +kernel
theorem dX10_change_1 : decode cX10_change 1 = .ok (.iload_n 1, 1) := by decide +kernel
theorem dX10_change_2 : decode cX10_change 2 = .ok (.invokevirtual 135, 3) := by decide +kernel
theorem dX10_change_5 : decode cX10_change 5 = .ok (.ifCond .eq 35, 3) := by decide +kernel
theorem dX10_change_40 : decode cX10_change 40 = .ok (.ldc 150, 2) := by decide +kernel
theorem dX10_change_42 : decode cX10_change 42 = .ok (.ireturn, 1) := by decide +kernel
theorem dX10_keeps_0 : decode cX10_keeps 0 = .ok (.aload_n 0, 1) := by decide +kernel
theorem dX10_keeps_1 : decode cX10_keeps 1 = .ok (.iload_n 1, 1) := by decide +kernel
theorem dX10_keeps_2 : decode cX10_keeps 2 = .ok (.invokevirtual 135, 3) := by decide +kernel
theorem dX10_keeps_5 : decode cX10_keeps 5 = .ok (.ifCond .eq 15, 3) := by decide +kernel
theorem dX10_keeps_20 : decode cX10_keeps 20 = .ok (.iconst (-1), 1) := by decide +kernel
theorem dX10_keeps_21 : decode cX10_keeps 21 = .ok (.ireturn, 1) := by decide +kernel
theorem dX10_rest_0 : decode cX10_rest 0 = .ok (.iload_n 1, 1) := by decide +kernel
theorem dX10_rest_1 : decode cX10_rest 1 = .ok (.ifCond .lt 9, 3) := by decide +kernel
theorem dX10_rest_4 : decode cX10_rest 4 = .ok (.iload_n 1, 1) := by decide +kernel
theorem dX10_rest_5 : decode cX10_rest 5 = .ok (.bipush 99, 2) := by decide +kernel
theorem dX10_rest_7 : decode cX10_rest 7 = .ok (.if_icmp .le 6, 3) := by decide +kernel
theorem dX10_rest_10 : decode cX10_rest 10 = .ok (.bipush (-2), 2) := by decide +kernel
theorem dX10_rest_12 : decode cX10_rest 12 = .ok (.ireturn, 1) := by decide +kernel
theorem dX10_rest_13 : decode cX10_rest 13 = .ok (.aload_n 0, 1) := by decide +kernel
theorem dX10_rest_14 : decode cX10_rest 14 = .ok (.getfield 9, 3) := by decide +kernel
theorem dX10_rest_17 : decode cX10_rest 17 = .ok (.istore_n 2, 1) := by decide +kernel
theorem dX10_rest_18 : decode cX10_rest 18 = .ok (.aload_n 0, 1) := by decide +kernel
theorem dX10_rest_19 : decode cX10_rest 19 = .ok (.iload_n 1, 1) := by decide +kernel
theorem dX10_rest_20 : decode cX10_rest 20 = .ok (.putfield 9, 3) := by decide +kernel
theorem dX10_rest_23 : decode cX10_rest 23 = .ok (.iload_n 2, 1) := by decide +kernel
theorem dX10_rest_24 : decode cX10_rest 24 = .ok (.ireturn, 1) := by decide +kernel
theorem dX10_lane_0 : decode cX10_lane 0 = .ok (.aload_n 0, 1) := by decide +kernel
theorem dX10_lane_1 : decode cX10_lane 1 = .ok (.iload_n 1, 1) := by decide +kernel
theorem dX10_lane_2 : decode cX10_lane 2 = .ok (.invokevirtual 135, 3) := by decide +kernel
theorem dX10_lane_5 : decode cX10_lane 5 = .ok (.ifCond .eq 12, 3) := by decide +kernel
theorem dX10_lane_17 : decode cX10_lane 17 = .ok (.iconst (-1), 1) := by decide +kernel
theorem dX10_lane_18 : decode cX10_lane 18 = .ok (.ireturn, 1) := by decide +kernel
theorem dX10_race_0 : decode cX10_race 0 = .ok (.iload_n 1, 1) := by decide +kernel
theorem dX10_race_1 : decode cX10_race 1 = .ok (.ifCond .lt 19, 3) := by decide +kernel
theorem dX10_race_4 : decode cX10_race 4 = .ok (.iload_n 1, 1) := by decide +kernel
theorem dX10_race_5 : decode cX10_race 5 = .ok (.sipush 999, 3) := by decide +kernel
theorem dX10_race_8 : decode cX10_race 8 = .ok (.if_icmp .gt 12, 3) := by decide +kernel
theorem dX10_race_11 : decode cX10_race 11 = .ok (.iload_n 2, 1) := by decide +kernel
theorem dX10_race_12 : decode cX10_race 12 = .ok (.ifCond .lt 8, 3) := by decide +kernel
theorem dX10_race_15 : decode cX10_race 15 = .ok (.iload_n 2, 1) := by decide +kernel
theorem dX10_race_16 : decode cX10_race 16 = .ok (.iconst 1, 1) := by decide +kernel
theorem dX10_race_17 : decode cX10_race 17 = .ok (.if_icmp .le 6, 3) := by decide +kernel
theorem dX10_race_20 : decode cX10_race 20 = .ok (.bipush (-2), 2) := by decide +kernel
theorem dX10_race_22 : decode cX10_race 22 = .ok (.ireturn, 1) := by decide +kernel
theorem dX10_race_23 : decode cX10_race 23 = .ok (.aload_n 0, 1) := by decide +kernel
theorem dX10_race_24 : decode cX10_race 24 = .ok (.getfield 220, 3) := by decide +kernel
theorem dX10_race_27 : decode cX10_race 27 = .ok (.iconst 2, 1) := by decide +kernel
theorem dX10_race_28 : decode cX10_race 28 = .ok (.if_icmp .ge 6, 3) := by decide +kernel
theorem dX10_race_31 : decode cX10_race 31 = .ok (.bipush (-3), 2) := by decide +kernel
theorem dX10_race_33 : decode cX10_race 33 = .ok (.ireturn, 1) := by decide +kernel
theorem dX10_current_0 : decode cX10_current 0 = .ok (.iload_n 1, 1) := by decide +kernel
theorem dX10_current_1 : decode cX10_current 1 = .ok (.ifCond .lt 8, 3) := by decide +kernel
theorem dX10_current_4 : decode cX10_current 4 = .ok (.iload_n 1, 1) := by decide +kernel
theorem dX10_current_5 : decode cX10_current 5 = .ok (.iconst 3, 1) := by decide +kernel
theorem dX10_current_6 : decode cX10_current 6 = .ok (.if_icmp .le 6, 3) := by decide +kernel
theorem dX10_current_9 : decode cX10_current 9 = .ok (.bipush (-100), 2) := by decide +kernel
theorem dX10_current_11 : decode cX10_current 11 = .ok (.ireturn, 1) := by decide +kernel
theorem dX10_current_12 : decode cX10_current 12 = .ok (.iload_n 2, 1) := by decide +kernel
theorem dX10_current_13 : decode cX10_current 13 = .ok (.bipush (-9), 2) := by decide +kernel
theorem dX10_current_15 : decode cX10_current 15 = .ok (.if_icmp .lt 9, 3) := by decide +kernel
theorem dX10_current_18 : decode cX10_current 18 = .ok (.iload_n 2, 1) := by decide +kernel
theorem dX10_current_19 : decode cX10_current 19 = .ok (.bipush 9, 2) := by decide +kernel
theorem dX10_current_21 : decode cX10_current 21 = .ok (.if_icmp .le 6, 3) := by decide +kernel
theorem dX10_current_24 : decode cX10_current 24 = .ok (.bipush (-101), 2) := by decide +kernel
theorem dX10_current_26 : decode cX10_current 26 = .ok (.ireturn, 1) := by decide +kernel
theorem dX10_current_27 : decode cX10_current 27 = .ok (.aload_n 0, 1) := by decide +kernel
theorem dX10_current_28 : decode cX10_current 28 = .ok (.getfield 101, 3) := by decide +kernel
theorem dX10_current_31 : decode cX10_current 31 = .ok (.iload_n 1, 1) := by decide +kernel
theorem dX10_current_32 : decode cX10_current 32 = .ok (.iaload, 1) := by decide +kernel
theorem dX10_current_33 : decode cX10_current 33 = .ok (.istore_n 3, 1) := by decide +kernel
theorem dX10_current_34 : decode cX10_current 34 = .ok (.aload_n 0, 1) := by decide +kernel
theorem dX10_current_35 : decode cX10_current 35 = .ok (.getfield 101, 3) := by decide +kernel
theorem dX10_current_38 : decode cX10_current 38 = .ok (.iload_n 1, 1) := by decide +kernel
theorem dX10_current_39 : decode cX10_current 39 = .ok (.iload_n 2, 1) := by decide +kernel
theorem dX10_current_40 : decode cX10_current 40 = .ok (.iastore, 1) := by decide +kernel
theorem dX10_current_41 : decode cX10_current 41 = .ok (.iload_n 3, 1) := by decide +kernel
theorem dX10_current_42 : decode cX10_current 42 = .ok (.ireturn, 1) := by decide +kernel
theorem dX10_isRace_0 : decode cX10_isRace 0 = .ok (.iload_n 1, 1) := by decide +kernel
theorem dX10_isRace_1 : decode cX10_isRace 1 = .ok (.ifCond .lt 15, 3) := by decide +kernel
theorem dX10_isRace_4 : decode cX10_isRace 4 = .ok (.iload_n 1, 1) := by decide +kernel
theorem dX10_isRace_5 : decode cX10_isRace 5 = .ok (.aload_n 0, 1) := by decide +kernel
theorem dX10_isRace_6 : decode cX10_isRace 6 = .ok (.getfield 223, 3) := by decide +kernel
theorem dX10_isRace_9 : decode cX10_isRace 9 = .ok (.if_icmp .ge 7, 3) := by decide +kernel
theorem dX10_isRace_16 : decode cX10_isRace 16 = .ok (.iconst 0, 1) := by decide +kernel
theorem dX10_isRace_17 : decode cX10_isRace 17 = .ok (.ireturn, 1) := by decide +kernel
theorem dX10_run_0 : decode cX10_run 0 = .ok (.aload_n 0, 1) := by decide +kernel
theorem dX10_run_1 : decode cX10_run 1 = .ok (.iload_n 1, 1) := by decide +kernel
theorem dX10_run_2 : decode cX10_run 2 = .ok (.invokevirtual 226, 3) := by decide +kernel
theorem dX10_run_5 : decode cX10_run 5 = .ok (.ifCond .ne 5, 3) := by decide +kernel
theorem dX10_run_8 : decode cX10_run 8 = .ok (.iconst (-1), 1) := by decide +kernel
theorem dX10_run_9 : decode cX10_run 9 = .ok (.ireturn, 1) := by decide +kernel
theorem dX10_isIn_0 : decode cX10_isIn 0 = .ok (.aload_n 0, 1) := by decide +kernel
theorem dX10_isIn_1 : decode cX10_isIn 1 = .ok (.iload_n 1, 1) := by decide +kernel
theorem dX10_isIn_2 : decode cX10_isIn 2 = .ok (.invokevirtual 226, 3) := by decide +kernel
theorem dX10_isIn_5 : decode cX10_isIn 5 = .ok (.ifCond .eq 30, 3) := by decide +kernel
theorem dX10_isIn_35 : decode cX10_isIn 35 = .ok (.iconst 0, 1) := by decide +kernel
theorem dX10_isIn_36 : decode cX10_isIn 36 = .ok (.ireturn, 1) := by decide +kernel
theorem dX10_time_0 : decode cX10_time 0 = .ok (.aload_n 0, 1) := by decide +kernel
theorem dX10_time_1 : decode cX10_time 1 = .ok (.iload_n 1, 1) := by decide +kernel
theorem dX10_time_2 : decode cX10_time 2 = .ok (.iload_n 2, 1) := by decide +kernel
theorem dX10_time_3 : decode cX10_time 3 = .ok (.invokevirtual 233, 3) := by decide +kernel
theorem dX10_time_6 : decode cX10_time 6 = .ok (.ifCond .ne 5, 3) := by decide +kernel
theorem dX10_time_9 : decode cX10_time 9 = .ok (.iconst (-1), 1) := by decide +kernel
theorem dX10_time_10 : decode cX10_time 10 = .ok (.ireturn, 1) := by decide +kernel
theorem dX10_told_0 : decode cX10_told 0 = .ok (.aload_n 0, 1) := by decide +kernel
theorem dX10_told_1 : decode cX10_told 1 = .ok (.iload_n 1, 1) := by decide +kernel
theorem dX10_told_2 : decode cX10_told 2 = .ok (.iload_n 2, 1) := by decide +kernel
theorem dX10_told_3 : decode cX10_told 3 = .ok (.invokevirtual 233, 3) := by decide +kernel
theorem dX10_told_6 : decode cX10_told 6 = .ok (.ifCond .ne 5, 3) := by decide +kernel
theorem dX10_told_9 : decode cX10_told 9 = .ok (.iconst (-1), 1) := by decide +kernel
theorem dX10_told_10 : decode cX10_told 10 = .ok (.ireturn, 1) := by decide +kernel
theorem dX10_again_0 : decode cX10_again 0 = .ok (.aload_n 0, 1) := by decide +kernel
theorem dX10_again_1 : decode cX10_again 1 = .ok (.iload_n 1, 1) := by decide +kernel
theorem dX10_again_2 : decode cX10_again 2 = .ok (.invokevirtual 226, 3) := by decide +kernel
theorem dX10_again_5 : decode cX10_again 5 = .ok (.ifCond .ne 5, 3) := by decide +kernel
theorem dX10_again_8 : decode cX10_again 8 = .ok (.iconst (-1), 1) := by decide +kernel
theorem dX10_again_9 : decode cX10_again 9 = .ok (.ireturn, 1) := by decide +kernel
theorem dX10_strike_0 : decode cX10_strike 0 = .ok (.aload_n 0, 1) := by decide +kernel
theorem dX10_strike_1 : decode cX10_strike 1 = .ok (.iload_n 1, 1) := by decide +kernel
theorem dX10_strike_2 : decode cX10_strike 2 = .ok (.invokevirtual 226, 3) := by decide +kernel
theorem dX10_strike_5 : decode cX10_strike 5 = .ok (.ifCond .ne 5, 3) := by decide +kernel
theorem dX10_strike_8 : decode cX10_strike 8 = .ok (.iconst (-1), 1) := by decide +kernel
theorem dX10_strike_9 : decode cX10_strike 9 = .ok (.ireturn, 1) := by decide +kernel
theorem dX10_finalists_0 : decode cX10_finalists 0 = .ok (.iload_n 1, 1) := by decide +kernel
theorem dX10_finalists_1 : decode cX10_finalists 1 = .ok (.ifCond .lt 19, 3) := by decide +kernel
theorem dX10_finalists_4 : decode cX10_finalists 4 = .ok (.iload_n 1, 1) := by decide +kernel
theorem dX10_finalists_5 : decode cX10_finalists 5 = .ok (.bipush 9, 2) := by decide +kernel
theorem dX10_finalists_7 : decode cX10_finalists 7 = .ok (.if_icmp .gt 13, 3) := by decide +kernel
theorem dX10_finalists_10 : decode cX10_finalists 10 = .ok (.iload_n 2, 1) := by decide +kernel
theorem dX10_finalists_11 : decode cX10_finalists 11 = .ok (.ifCond .lt 9, 3) := by decide +kernel
theorem dX10_finalists_14 : decode cX10_finalists 14 = .ok (.iload_n 2, 1) := by decide +kernel
theorem dX10_finalists_15 : decode cX10_finalists 15 = .ok (.bipush 9, 2) := by decide +kernel
theorem dX10_finalists_17 : decode cX10_finalists 17 = .ok (.if_icmp .le 6, 3) := by decide +kernel
theorem dX10_finalists_20 : decode cX10_finalists 20 = .ok (.bipush (-2), 2) := by decide +kernel
theorem dX10_finalists_22 : decode cX10_finalists 22 = .ok (.ireturn, 1) := by decide +kernel
theorem dX10_finalists_23 : decode cX10_finalists 23 = .ok (.iconst 0, 1) := by decide +kernel
theorem dX10_finalists_24 : decode cX10_finalists 24 = .ok (.istore_n 3, 1) := by decide +kernel
theorem dX10_finalists_25 : decode cX10_finalists 25 = .ok (.iload_n 3, 1) := by decide +kernel
theorem dX10_finalists_26 : decode cX10_finalists 26 = .ok (.aload_n 0, 1) := by decide +kernel
theorem dX10_finalists_27 : decode cX10_finalists 27 = .ok (.getfield 128, 3) := by decide +kernel
theorem dX10_finalists_30 : decode cX10_finalists 30 = .ok (.if_icmp .ge 23, 3) := by decide +kernel
theorem dX10_finalists_53 : decode cX10_finalists 53 = .ok (.iconst 0, 1) := by decide +kernel
theorem dX10_finalists_54 : decode cX10_finalists 54 = .ok (.istore_n 3, 1) := by decide +kernel
theorem dX10_finalists_55 : decode cX10_finalists 55 = .ok (.iload_n 3, 1) := by decide +kernel
theorem dX10_finalists_56 : decode cX10_finalists 56 = .ok (.aload_n 0, 1) := by decide +kernel
theorem dX10_finalists_57 : decode cX10_finalists 57 = .ok (.getfield 223, 3) := by decide +kernel
theorem dX10_finalists_60 : decode cX10_finalists 60 = .ok (.if_icmp .ge 117, 3) := by decide +kernel
theorem dX10_finalists_177 : decode cX10_finalists 177 = .ok (.aload_n 0, 1) := by decide +kernel
theorem dX10_finalists_178 : decode cX10_finalists 178 = .ok (.iconst 0, 1) := by decide +kernel
theorem dX10_finalists_179 : decode cX10_finalists 179 = .ok (.putfield 240, 3) := by decide +kernel
theorem dX10_finalists_182 : decode cX10_finalists 182 = .ok (.iconst 0, 1) := by decide +kernel
theorem dX10_finalists_183 : decode cX10_finalists 183 = .ok (.istore_n 3, 1) := by decide +kernel
theorem dX10_finalists_184 : decode cX10_finalists 184 = .ok (.iload_n 3, 1) := by decide +kernel
theorem dX10_finalists_185 : decode cX10_finalists 185 = .ok (.aload_n 0, 1) := by decide +kernel
theorem dX10_finalists_186 : decode cX10_finalists 186 = .ok (.getfield 128, 3) := by decide +kernel
theorem dX10_finalists_189 : decode cX10_finalists 189 = .ok (.if_icmp .ge 183, 3) := by decide +kernel
theorem dX10_finalists_372 : decode cX10_finalists 372 = .ok (.aload_n 0, 1) := by decide +kernel
theorem dX10_finalists_373 : decode cX10_finalists 373 = .ok (.getfield 240, 3) := by decide +kernel
theorem dX10_finalists_376 : decode cX10_finalists 376 = .ok (.ireturn, 1) := by decide +kernel
theorem dX10_finalist_0 : decode cX10_finalist 0 = .ok (.iload_n 1, 1) := by decide +kernel
theorem dX10_finalist_1 : decode cX10_finalist 1 = .ok (.ifCond .lt 20, 3) := by decide +kernel
theorem dX10_finalist_4 : decode cX10_finalist 4 = .ok (.iload_n 1, 1) := by decide +kernel
theorem dX10_finalist_5 : decode cX10_finalist 5 = .ok (.aload_n 0, 1) := by decide +kernel
theorem dX10_finalist_6 : decode cX10_finalist 6 = .ok (.getfield 240, 3) := by decide +kernel
theorem dX10_finalist_9 : decode cX10_finalist 9 = .ok (.if_icmp .ge 12, 3) := by decide +kernel
theorem dX10_finalist_21 : decode cX10_finalist 21 = .ok (.iconst (-1), 1) := by decide +kernel
theorem dX10_finalist_22 : decode cX10_finalist 22 = .ok (.ireturn, 1) := by decide +kernel
theorem dX10_slack_0 : decode cX10_slack 0 = .ok (.iconst (-1), 1) := by decide +kernel
theorem dX10_slack_1 : decode cX10_slack 1 = .ok (.istore_n 1, 1) := by decide +kernel
theorem dX10_slack_2 : decode cX10_slack 2 = .ok (.iconst 0, 1) := by decide +kernel
theorem dX10_slack_3 : decode cX10_slack 3 = .ok (.istore_n 2, 1) := by decide +kernel
theorem dX10_slack_4 : decode cX10_slack 4 = .ok (.iload_n 2, 1) := by decide +kernel
theorem dX10_slack_5 : decode cX10_slack 5 = .ok (.aload_n 0, 1) := by decide +kernel
theorem dX10_slack_6 : decode cX10_slack 6 = .ok (.getfield 223, 3) := by decide +kernel
theorem dX10_slack_9 : decode cX10_slack 9 = .ok (.if_icmp .ge 134, 3) := by decide +kernel
theorem dX10_slack_143 : decode cX10_slack 143 = .ok (.iload_n 1, 1) := by decide +kernel
theorem dX10_slack_144 : decode cX10_slack 144 = .ok (.ireturn, 1) := by decide +kernel
theorem dX10_level_0 : decode cX10_level 0 = .ok (.iload_n 1, 1) := by decide +kernel
theorem dX10_level_1 : decode cX10_level 1 = .ok (.ifCond .lt 31, 3) := by decide +kernel
theorem dX10_level_4 : decode cX10_level 4 = .ok (.iload_n 1, 1) := by decide +kernel
theorem dX10_level_5 : decode cX10_level 5 = .ok (.iconst 3, 1) := by decide +kernel
theorem dX10_level_6 : decode cX10_level 6 = .ok (.if_icmp .gt 26, 3) := by decide +kernel
theorem dX10_level_9 : decode cX10_level 9 = .ok (.iload_n 2, 1) := by decide +kernel
theorem dX10_level_10 : decode cX10_level 10 = .ok (.ifCond .lt 22, 3) := by decide +kernel
theorem dX10_level_13 : decode cX10_level 13 = .ok (.iload_n 2, 1) := by decide +kernel
theorem dX10_level_14 : decode cX10_level 14 = .ok (.iconst 3, 1) := by decide +kernel
theorem dX10_level_15 : decode cX10_level 15 = .ok (.if_icmp .gt 17, 3) := by decide +kernel
theorem dX10_level_18 : decode cX10_level 18 = .ok (.iload_n 1, 1) := by decide +kernel
theorem dX10_level_19 : decode cX10_level 19 = .ok (.iload_n 2, 1) := by decide +kernel
theorem dX10_level_20 : decode cX10_level 20 = .ok (.if_icmp .eq 12, 3) := by decide +kernel
theorem dX10_level_23 : decode cX10_level 23 = .ok (.iload_n 3, 1) := by decide +kernel
theorem dX10_level_24 : decode cX10_level 24 = .ok (.ifCond .lt 8, 3) := by decide +kernel
theorem dX10_level_27 : decode cX10_level 27 = .ok (.iload_n 3, 1) := by decide +kernel
theorem dX10_level_28 : decode cX10_level 28 = .ok (.iconst 1, 1) := by decide +kernel
theorem dX10_level_29 : decode cX10_level 29 = .ok (.if_icmp .le 7, 3) := by decide +kernel
theorem dX10_level_32 : decode cX10_level 32 = .ok (.ldc2_w 243, 3) := by decide +kernel
theorem dX10_level_35 : decode cX10_level 35 = .ok (.lreturn, 1) := by decide +kernel
theorem dX10_level_36 : decode cX10_level 36 = .ok (.aload_n 0, 1) := by decide +kernel
theorem dX10_level_37 : decode cX10_level 37 = .ok (.lconst 0, 1) := by decide +kernel
theorem dX10_level_38 : decode cX10_level 38 = .ok (.putfield 245, 3) := by decide +kernel
theorem dX10_level_41 : decode cX10_level 41 = .ok (.aload_n 0, 1) := by decide +kernel
theorem dX10_level_42 : decode cX10_level 42 = .ok (.lconst 0, 1) := by decide +kernel
theorem dX10_level_43 : decode cX10_level 43 = .ok (.putfield 249, 3) := by decide +kernel
theorem dX10_level_46 : decode cX10_level 46 = .ok (.iconst 0, 1) := by decide +kernel
theorem dX10_level_47 : decode cX10_level 47 = .ok (.istore 4, 2) := by decide +kernel
theorem dX10_level_49 : decode cX10_level 49 = .ok (.iload 4, 2) := by decide +kernel
theorem dX10_level_51 : decode cX10_level 51 = .ok (.aload_n 0, 1) := by decide +kernel
theorem dX10_level_52 : decode cX10_level 52 = .ok (.getfield 128, 3) := by decide +kernel
theorem dX10_level_55 : decode cX10_level 55 = .ok (.if_icmp .ge 65, 3) := by decide +kernel
theorem dX10_level_120 : decode cX10_level 120 = .ok (.aload_n 0, 1) := by decide +kernel
theorem dX10_level_121 : decode cX10_level 121 = .ok (.getfield 249, 3) := by decide +kernel
theorem dX10_level_124 : decode cX10_level 124 = .ok (.lconst 0, 1) := by decide +kernel
theorem dX10_level_125 : decode cX10_level 125 = .ok (.lcmp, 1) := by decide +kernel
theorem dX10_level_126 : decode cX10_level 126 = .ok (.ifCond .ne 7, 3) := by decide +kernel
theorem dX10_level_129 : decode cX10_level 129 = .ok (.ldc2_w 243, 3) := by decide +kernel
theorem dX10_level_132 : decode cX10_level 132 = .ok (.lreturn, 1) := by decide +kernel
theorem dX10_points_0 : decode cX10_points 0 = .ok (.aload_n 0, 1) := by decide +kernel
theorem dX10_points_1 : decode cX10_points 1 = .ok (.iload_n 1, 1) := by decide +kernel
theorem dX10_points_2 : decode cX10_points 2 = .ok (.invokevirtual 135, 3) := by decide +kernel
theorem dX10_points_5 : decode cX10_points 5 = .ok (.ifCond .eq 11, 3) := by decide +kernel
theorem dX10_points_16 : decode cX10_points 16 = .ok (.iconst (-1), 1) := by decide +kernel
theorem dX10_points_17 : decode cX10_points 17 = .ok (.ireturn, 1) := by decide +kernel
theorem dX10_table_0 : decode cX10_table 0 = .ok (.iload_n 1, 1) := by decide +kernel
theorem dX10_table_1 : decode cX10_table 1 = .ok (.ifCond .lt 11, 3) := by decide +kernel
theorem dX10_table_4 : decode cX10_table 4 = .ok (.iload_n 1, 1) := by decide +kernel
theorem dX10_table_5 : decode cX10_table 5 = .ok (.aload_n 0, 1) := by decide +kernel
theorem dX10_table_6 : decode cX10_table 6 = .ok (.getfield 128, 3) := by decide +kernel
theorem dX10_table_9 : decode cX10_table 9 = .ok (.if_icmp .lt 5, 3) := by decide +kernel
theorem dX10_table_12 : decode cX10_table 12 = .ok (.iconst (-1), 1) := by decide +kernel
theorem dX10_table_13 : decode cX10_table 13 = .ok (.ireturn, 1) := by decide +kernel
theorem dX10_count_0 : decode cX10_count 0 = .ok (.iconst 0, 1) := by decide +kernel
theorem dX10_count_1 : decode cX10_count 1 = .ok (.istore_n 2, 1) := by decide +kernel
theorem dX10_count_2 : decode cX10_count 2 = .ok (.iload_n 1, 1) := by decide +kernel
theorem dX10_count_3 : decode cX10_count 3 = .ok (.tableswitch 146 0 8 #[49, 54, 59, 64, 69, 74, 79, 84, 114], 49) := by decide +kernel
theorem dX10_count_52 : decode cX10_count 52 = .ok (.aload_n 0, 1) := by decide +kernel
theorem dX10_count_53 : decode cX10_count 53 = .ok (.getfield 125, 3) := by decide +kernel
theorem dX10_count_56 : decode cX10_count 56 = .ok (.ireturn, 1) := by decide +kernel
theorem dX10_count_57 : decode cX10_count 57 = .ok (.aload_n 0, 1) := by decide +kernel
theorem dX10_count_58 : decode cX10_count 58 = .ok (.getfield 128, 3) := by decide +kernel
theorem dX10_count_61 : decode cX10_count 61 = .ok (.ireturn, 1) := by decide +kernel
theorem dX10_count_62 : decode cX10_count 62 = .ok (.aload_n 0, 1) := by decide +kernel
theorem dX10_count_63 : decode cX10_count 63 = .ok (.getfield 200, 3) := by decide +kernel
theorem dX10_count_66 : decode cX10_count 66 = .ok (.ireturn, 1) := by decide +kernel
theorem dX10_count_67 : decode cX10_count 67 = .ok (.aload_n 0, 1) := by decide +kernel
theorem dX10_count_68 : decode cX10_count 68 = .ok (.getfield 223, 3) := by decide +kernel
theorem dX10_count_71 : decode cX10_count 71 = .ok (.ireturn, 1) := by decide +kernel
theorem dX10_count_72 : decode cX10_count 72 = .ok (.aload_n 0, 1) := by decide +kernel
theorem dX10_count_73 : decode cX10_count 73 = .ok (.getfield 220, 3) := by decide +kernel
theorem dX10_count_76 : decode cX10_count 76 = .ok (.ireturn, 1) := by decide +kernel
theorem dX10_count_77 : decode cX10_count 77 = .ok (.aload_n 0, 1) := by decide +kernel
theorem dX10_count_78 : decode cX10_count 78 = .ok (.getfield 159, 3) := by decide +kernel
theorem dX10_count_81 : decode cX10_count 81 = .ok (.ireturn, 1) := by decide +kernel
theorem dX10_count_82 : decode cX10_count 82 = .ok (.aload_n 0, 1) := by decide +kernel
theorem dX10_count_83 : decode cX10_count 83 = .ok (.getfield 9, 3) := by decide +kernel
theorem dX10_count_86 : decode cX10_count 86 = .ok (.ireturn, 1) := by decide +kernel
theorem dX10_count_87 : decode cX10_count 87 = .ok (.iconst 0, 1) := by decide +kernel
theorem dX10_count_88 : decode cX10_count 88 = .ok (.istore_n 3, 1) := by decide +kernel
theorem dX10_count_89 : decode cX10_count 89 = .ok (.iload_n 3, 1) := by decide +kernel
theorem dX10_count_90 : decode cX10_count 90 = .ok (.aload_n 0, 1) := by decide +kernel
theorem dX10_count_91 : decode cX10_count 91 = .ok (.getfield 128, 3) := by decide +kernel
theorem dX10_count_94 : decode cX10_count 94 = .ok (.if_icmp .ge 21, 3) := by decide +kernel
theorem dX10_count_115 : decode cX10_count 115 = .ok (.iload_n 2, 1) := by decide +kernel
theorem dX10_count_116 : decode cX10_count 116 = .ok (.ireturn, 1) := by decide +kernel
theorem dX10_count_117 : decode cX10_count 117 = .ok (.iconst 0, 1) := by decide +kernel
theorem dX10_count_118 : decode cX10_count 118 = .ok (.istore_n 3, 1) := by decide +kernel
theorem dX10_count_119 : decode cX10_count 119 = .ok (.iload_n 3, 1) := by decide +kernel
theorem dX10_count_120 : decode cX10_count 120 = .ok (.iconst 4, 1) := by decide +kernel
theorem dX10_count_121 : decode cX10_count 121 = .ok (.aload_n 0, 1) := by decide +kernel
theorem dX10_count_122 : decode cX10_count 122 = .ok (.getfield 223, 3) := by decide +kernel
theorem dX10_count_125 : decode cX10_count 125 = .ok (.imul, 1) := by decide +kernel
theorem dX10_count_126 : decode cX10_count 126 = .ok (.if_icmp .ge 21, 3) := by decide +kernel
theorem dX10_count_147 : decode cX10_count 147 = .ok (.iload_n 2, 1) := by decide +kernel
theorem dX10_count_148 : decode cX10_count 148 = .ok (.ireturn, 1) := by decide +kernel
theorem dX10_count_149 : decode cX10_count 149 = .ok (.iconst (-1), 1) := by decide +kernel
theorem dX10_count_150 : decode cX10_count 150 = .ok (.ireturn, 1) := by decide +kernel
