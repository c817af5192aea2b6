theorem mem_r {big : List Cond} (ws : List Cond) (ps : List Nat) (hp : ws = ps.filterMap (fun i => big[i]?)) : ∀ w ∈ ws, w ∈ big := by
  intro w hw
  rw [hp] at hw
  obtain ⟨i, -, hi⟩ := List.mem_filterMap.mp hw
  exact List.mem_of_getElem? hi
theorem mem_app {big a b : List Cond} (ha : ∀ w ∈ a, w ∈ big) (hb : ∀ w ∈ b, w ∈ big) : ∀ w ∈ a ++ b, w ∈ big := fun w h => (List.mem_append.mp h).elim (ha w) (hb w)
set_option maxRecDepth 100000 in
theorem wl_L_law_r1 : ∀ w ∈ wsL_law_r1, w ∈ lw_tbl := mem_r _ [64, 65, 48, 880, 881, 58, 1234, 66, 67, 68, 69, 70, 71, 72, 73, 49, 368, 112, 369, 370, 114, 115, 50, 371] (by decide +kernel)
set_option maxRecDepth 100000 in
theorem wl_L_law_r2 : ∀ w ∈ wsL_law_r2, w ∈ lw_tbl := mem_r _ [137, 138, 51, 372, 196, 197, 52, 373, 214, 374, 375, 110, 376, 377, 378, 379, 216, 380, 381, 218, 219, 53, 382, 233] (by decide +kernel)
set_option maxRecDepth 100000 in
theorem wl_L_law_r3 : ∀ w ∈ wsL_law_r3, w ∈ lw_tbl := mem_r _ [234, 54, 383, 258, 55, 302, 56, 332, 57, 75, 76, 77, 78, 80, 84, 88, 90, 92, 111, 94, 117, 118, 119, 120] (by decide +kernel)
set_option maxRecDepth 100000 in
theorem wl_L_law_r4 : ∀ w ∈ wsL_law_r4, w ∈ lw_tbl := mem_r _ [122, 124, 126, 140, 141, 142, 143, 145, 146, 147, 148, 149, 150, 151, 152, 153, 154, 155, 156, 157, 158, 159, 160, 199] (by decide +kernel)
set_option maxRecDepth 100000 in
theorem wl_L_law_r5 : ∀ w ∈ wsL_law_r5, w ∈ lw_tbl := mem_r _ [200, 201, 202, 204, 206, 221, 222, 223, 224, 226, 236, 237, 238, 239, 241, 243, 257, 244, 245, 260, 261, 262, 263, 266] (by decide +kernel)
set_option maxRecDepth 100000 in
theorem wl_L_law_r6 : ∀ w ∈ wsL_law_r6, w ∈ lw_tbl := mem_r _ [268, 271, 274, 276, 278, 280, 304, 305, 306, 307, 309, 311, 313, 315, 317, 334, 335, 336, 337, 338, 341, 343, 346, 349] (by decide +kernel)
set_option maxRecDepth 100000 in
theorem wl_L_law_r7 : ∀ w ∈ wsL_law_r7, w ∈ lw_tbl := mem_r _ [351, 882, 883, 884, 885, 891, 894, 895, 896, 897, 898, 899, 900, 901, 902, 903, 904, 905, 906, 907, 908, 909, 910, 911] (by decide +kernel)
set_option maxRecDepth 100000 in
theorem wl_L_law_r8 : ∀ w ∈ wsL_law_r8, w ∈ lw_tbl := mem_r _ [912, 913, 914, 915, 916, 917, 918, 919, 920, 921, 922, 923, 924, 925, 926, 927, 928, 929, 417, 418, 419, 420, 79, 421] (by decide +kernel)
set_option maxRecDepth 100000 in
theorem wl_L_law_r9 : ∀ w ∈ wsL_law_r9, w ∈ lw_tbl := mem_r _ [422, 423, 424, 425, 426, 427, 1031, 1032, 1033, 1034, 886, 428, 429, 430, 431, 432, 433, 434, 435, 437, 438, 439, 440, 441] (by decide +kernel)
set_option maxRecDepth 100000 in
theorem wl_L_law_r10 : ∀ w ∈ wsL_law_r10, w ∈ lw_tbl := mem_r _ [442, 443, 444, 445, 1035, 1036, 1037, 1038, 1039, 1041, 30, 1042, 446, 447, 448, 449, 265, 267, 1043, 1044, 1045, 1046, 887, 450] (by decide +kernel)
set_option maxRecDepth 100000 in
theorem wl_L_law_r11 : ∀ w ∈ wsL_law_r11, w ∈ lw_tbl := mem_r _ [451, 452, 453, 273, 454, 456, 0, 457, 458, 459, 460, 461, 462, 463, 464, 465, 1047, 1048, 1049, 1050, 1051, 1053, 31, 1054] (by decide +kernel)
set_option maxRecDepth 100000 in
theorem wl_L_law_r12 : ∀ w ∈ wsL_law_r12, w ∈ lw_tbl := mem_r _ [1055, 1057, 32, 1058, 466, 467, 468, 469, 270, 1059, 1060, 1061, 1062, 470, 471, 472, 473, 474, 279, 532, 144, 475, 476, 477] (by decide +kernel)
set_option maxRecDepth 100000 in
theorem wl_L_law_r13 : ∀ w ∈ wsL_law_r13, w ∈ lw_tbl := mem_r _ [478, 483, 484, 59, 485, 272, 479, 480, 481, 482, 486, 488, 1, 489, 275, 82, 87, 89, 490, 491, 493, 2, 494, 495] (by decide +kernel)
set_option maxRecDepth 100000 in
theorem wl_L_law_r14 : ∀ w ∈ wsL_law_r14, w ∈ lw_tbl := mem_r _ [496, 497, 498, 499, 500, 501, 502, 503, 504, 505, 506, 507, 508, 509, 510, 511, 512, 513, 521, 522, 523, 514, 516, 3] (by decide +kernel)
set_option maxRecDepth 100000 in
theorem wl_L_law_r15 : ∀ w ∈ wsL_law_r15, w ∈ lw_tbl := mem_r _ [517, 518, 519, 520, 524, 526, 4, 527, 528, 530, 5, 531, 533, 534, 535, 536, 282, 1063, 1064, 1065, 1066, 1067, 1083, 1068] (by decide +kernel)
set_option maxRecDepth 100000 in
theorem wl_L_law_r16 : ∀ w ∈ wsL_law_r16, w ∈ lw_tbl := mem_r _ [1070, 33, 1071, 1072, 1074, 34, 1075, 1076, 1078, 35, 1079, 1080, 1081, 1082, 537, 538, 539, 540, 284, 1084, 1085, 1086, 1087, 541] (by decide +kernel)
set_option maxRecDepth 100000 in
theorem wl_L_law_r17 : ∀ w ∈ wsL_law_r17, w ∈ lw_tbl := mem_r _ [542, 543, 544, 121, 123, 125, 127, 545, 546, 547, 548, 264, 281, 81, 85, 553, 549, 550, 551, 552, 1088, 1089, 1090, 1091] (by decide +kernel)
set_option maxRecDepth 100000 in
theorem wl_L_law_r18 : ∀ w ∈ wsL_law_r18, w ∈ lw_tbl := mem_r _ [554, 555, 556, 557, 558, 559, 560, 561, 562, 563, 564, 565, 566, 567, 568, 569, 570, 1092, 1093, 1094, 1095, 571, 572, 573] (by decide +kernel)
set_option maxRecDepth 100000 in
theorem wl_L_law_r19 : ∀ w ∈ wsL_law_r19, w ∈ lw_tbl := mem_r _ [574, 203, 575, 576, 577, 578, 579, 1096, 1097, 1098, 1099, 890, 1100, 580, 581, 582, 583, 205, 584, 585, 586, 587, 308, 318] (by decide +kernel)
set_option maxRecDepth 100000 in
theorem wl_L_law_r20 : ∀ w ∈ wsL_law_r20, w ∈ lw_tbl := mem_r _ [588, 590, 6, 591, 310, 312, 592, 594, 7, 595, 596, 597, 598, 608, 610, 8, 611, 612, 613, 614, 615, 616, 617, 60] (by decide +kernel)
set_option maxRecDepth 100000 in
theorem wl_L_law_r21 : ∀ w ∈ wsL_law_r21, w ∈ lw_tbl := mem_r _ [618, 1235, 619, 620, 621, 622, 623, 1236, 625, 626, 627, 628, 629, 630, 631, 632, 633, 634, 61, 635, 636, 637, 638, 639] (by decide +kernel)
set_option maxRecDepth 100000 in
theorem wl_L_law_r22 : ∀ w ∈ wsL_law_r22, w ∈ lw_tbl := mem_r _ [641, 642, 62, 643, 644, 645, 63, 646, 647, 648, 649, 650, 651, 652, 653, 654, 655, 656, 657, 659, 661, 663, 665, 9] (by decide +kernel)
set_option maxRecDepth 100000 in
theorem wl_L_law_r23 : ∀ w ∈ wsL_law_r23, w ∈ lw_tbl := mem_r _ [666, 667, 669, 10, 670, 314, 671, 673, 11, 674, 316, 676, 678, 12, 679, 1101, 1102, 1103, 1104, 888, 932, 933, 1105, 1107] (by decide +kernel)
set_option maxRecDepth 100000 in
theorem wl_L_law_r24 : ∀ w ∈ wsL_law_r24, w ∈ lw_tbl := mem_r _ [36, 1108, 1109, 1111, 37, 1112, 1114, 1116, 38, 1117, 1118, 1119, 681, 682, 683, 684, 685, 687, 13, 688, 91, 93, 83, 689] (by decide +kernel)
set_option maxRecDepth 100000 in
theorem wl_L_law_r25 : ∀ w ∈ wsL_law_r25, w ∈ lw_tbl := mem_r _ [690, 691, 692, 693, 695, 14, 696, 1129, 1130, 1131, 1132, 1133, 1135, 39, 1136, 697, 698, 699, 700, 1137, 1138, 1139, 1140, 701] (by decide +kernel)
set_option maxRecDepth 100000 in
theorem wl_L_law_r26 : ∀ w ∈ wsL_law_r26, w ∈ lw_tbl := mem_r _ [702, 703, 704, 705, 706, 707, 708, 710, 15, 711, 277, 712, 714, 16, 715, 1141, 1142, 1143, 1144, 892, 1145, 1147, 40, 1148] (by decide +kernel)
set_option maxRecDepth 100000 in
theorem wl_L_law_r27 : ∀ w ∈ wsL_law_r27, w ∈ lw_tbl := mem_r _ [716, 717, 718, 719, 720, 721, 722, 723, 724, 726, 17, 727, 728, 729, 730, 731, 732, 733, 735, 18, 736, 345, 1149, 1150] (by decide +kernel)
set_option maxRecDepth 100000 in
theorem wl_L_law_r28 : ∀ w ∈ wsL_law_r28, w ∈ lw_tbl := mem_r _ [1151, 1152, 889, 737, 738, 739, 740, 1153, 1154, 1155, 1156, 741, 742, 743, 744, 342, 352, 745, 747, 19, 748, 749, 751, 20] (by decide +kernel)
set_option maxRecDepth 100000 in
theorem wl_L_law_r29 : ∀ w ∈ wsL_law_r29, w ∈ lw_tbl := mem_r _ [752, 753, 348, 225, 350, 227, 754, 755, 756, 757, 762, 269, 758, 759, 760, 86, 283, 761, 763, 764, 765, 766, 1157, 1158] (by decide +kernel)
set_option maxRecDepth 100000 in
theorem wl_L_law_r30 : ∀ w ∈ wsL_law_r30, w ∈ lw_tbl := mem_r _ [1159, 1160, 1161, 1163, 41, 1164, 1165, 1167, 42, 1168, 767, 768, 769, 770, 771, 1169, 1170, 1171, 1172, 1177, 1173, 1175, 43, 1176] (by decide +kernel)
set_option maxRecDepth 100000 in
theorem wl_L_law_r31 : ∀ w ∈ wsL_law_r31, w ∈ lw_tbl := mem_r _ [772, 773, 774, 775, 776, 777, 778, 779, 1178, 1179, 1180, 1181, 1182, 1184, 44, 1185, 780, 781, 782, 783, 784, 785, 786, 787] (by decide +kernel)
set_option maxRecDepth 100000 in
theorem wl_L_law_r32 : ∀ w ∈ wsL_law_r32, w ∈ lw_tbl := mem_r _ [1186, 1187, 1188, 1189, 788, 789, 790, 791, 792, 793, 794, 795, 1190, 1191, 1192, 1193, 796, 797, 798, 799, 240, 800, 801, 802] (by decide +kernel)
set_option maxRecDepth 100000 in
theorem wl_L_law_r33 : ∀ w ∈ wsL_law_r33, w ∈ lw_tbl := mem_r _ [803, 339, 804, 806, 21, 807, 347, 344, 809, 810, 812, 22, 813, 814, 816, 23, 817, 818, 820, 24, 821, 1194, 1195, 1196] (by decide +kernel)
set_option maxRecDepth 100000 in
theorem wl_L_law_r34 : ∀ w ∈ wsL_law_r34, w ∈ lw_tbl := mem_r _ [1197, 893, 822, 823, 824, 825, 242, 1198, 1199, 1200, 1201, 826, 827, 828, 829, 1202, 1203, 1204, 1205, 830, 831, 832, 833, 834] (by decide +kernel)
set_option maxRecDepth 100000 in
theorem wl_L_law_r35 : ∀ w ∈ wsL_law_r35, w ∈ lw_tbl := mem_r _ [839, 840, 841, 835, 837, 25, 838, 842, 843, 844, 1206, 1207, 1208, 1209, 1210, 930, 931, 1211, 1213, 45, 1214, 845, 846, 847] (by decide +kernel)
set_option maxRecDepth 100000 in
theorem wl_L_law_r36 : ∀ w ∈ wsL_law_r36, w ∈ lw_tbl := mem_r _ [848, 849, 851, 26, 852, 340, 853, 854, 855, 856, 857, 1215, 1216, 1217, 1218, 1219, 1221, 46, 1222, 1223, 1224, 1225, 860, 861] (by decide +kernel)
set_option maxRecDepth 100000 in
theorem wl_L_law_r37 : ∀ w ∈ wsL_law_r37, w ∈ lw_tbl := mem_r _ [862, 863, 864, 866, 27, 867, 1226, 1227, 1228, 1229, 868, 869, 870, 871, 872, 874, 28, 875, 876, 878, 29, 879, 1230, 1231] (by decide +kernel)
set_option maxRecDepth 100000 in
theorem wl_L_law_r38 : ∀ w ∈ wsL_law_r38, w ∈ lw_tbl := mem_r _ [1232, 1233] (by decide +kernel)
set_option maxRecDepth 100000 in
theorem wl_X90 : ∀ w ∈ wsX90, w ∈ lw_tbl := mem_r _ [384, 386, 388, 390, 392, 394, 396, 398, 400, 402, 404, 406, 408, 410, 412, 414] (by decide +kernel)
set_option maxRecDepth 100000 in
theorem wl_X100 : ∀ w ∈ wsX100, w ∈ lw_tbl := mem_r _ [934, 936, 938, 940, 942, 944, 946, 948, 950, 952, 954, 956, 958, 960, 962, 964, 966, 968, 970, 972, 974, 976, 978, 980, 982, 984, 986, 988, 990, 992, 994, 996, 998, 1000, 1002, 1004, 1006, 1008, 1010, 1012, 1014, 1016, 1018, 1020, 1022, 1024, 1026, 1028] (by decide +kernel)
set_option maxRecDepth 100000 in
theorem wl_X40 : ∀ w ∈ wsX40, w ∈ lw_tbl := mem_r _ [95, 97, 99, 101, 103, 105, 107] (by decide +kernel)
set_option maxRecDepth 100000 in
theorem wl_X80 : ∀ w ∈ wsX80, w ∈ lw_tbl := mem_r _ [128, 130, 132, 134] (by decide +kernel)
set_option maxRecDepth 100000 in
theorem wl_X60 : ∀ w ∈ wsX60, w ∈ lw_tbl := mem_r _ [161, 163, 165, 167, 169, 171, 173, 175, 177, 179, 181, 183, 185, 187, 189, 191, 193] (by decide +kernel)
set_option maxRecDepth 100000 in
theorem wl_X70 : ∀ w ∈ wsX70, w ∈ lw_tbl := mem_r _ [207, 209, 211] (by decide +kernel)
set_option maxRecDepth 100000 in
theorem wl_X00 : ∀ w ∈ wsX00, w ∈ lw_tbl := mem_r _ [228, 230] (by decide +kernel)
set_option maxRecDepth 100000 in
theorem wl_X20 : ∀ w ∈ wsX20, w ∈ lw_tbl := mem_r _ [246, 248, 250, 252, 254] (by decide +kernel)
set_option maxRecDepth 100000 in
theorem wl_X10 : ∀ w ∈ wsX10, w ∈ lw_tbl := mem_r _ [285, 287, 289, 291, 293, 295, 297, 299] (by decide +kernel)
set_option maxRecDepth 100000 in
theorem wl_X50 : ∀ w ∈ wsX50, w ∈ lw_tbl := mem_r _ [319, 321, 323, 325, 327, 329] (by decide +kernel)
set_option maxRecDepth 100000 in
theorem wl_X30 : ∀ w ∈ wsX30, w ∈ lw_tbl := mem_r _ [353, 355, 357, 359, 361, 363, 365] (by decide +kernel)
theorem wsL_law_in : ∀ w ∈ wsL_law, w ∈ lw_tbl := (mem_app (mem_app (mem_app (mem_app (mem_app (mem_app (mem_app (mem_app (mem_app (mem_app (mem_app (mem_app (mem_app wl_L_law_r1 (mem_app wl_L_law_r2 (mem_app wl_L_law_r3 (mem_app wl_L_law_r4 (mem_app wl_L_law_r5 (mem_app wl_L_law_r6 (mem_app wl_L_law_r7 (mem_app wl_L_law_r8 (mem_app wl_L_law_r9 (mem_app wl_L_law_r10 (mem_app wl_L_law_r11 (mem_app wl_L_law_r12 (mem_app wl_L_law_r13 (mem_app wl_L_law_r14 (mem_app wl_L_law_r15 (mem_app wl_L_law_r16 (mem_app wl_L_law_r17 (mem_app wl_L_law_r18 (mem_app wl_L_law_r19 (mem_app wl_L_law_r20 (mem_app wl_L_law_r21 (mem_app wl_L_law_r22 (mem_app wl_L_law_r23 (mem_app wl_L_law_r24 (mem_app wl_L_law_r25 (mem_app wl_L_law_r26 (mem_app wl_L_law_r27 (mem_app wl_L_law_r28 (mem_app wl_L_law_r29 (mem_app wl_L_law_r30 (mem_app wl_L_law_r31 (mem_app wl_L_law_r32 (mem_app wl_L_law_r33 (mem_app wl_L_law_r34 (mem_app wl_L_law_r35 (mem_app wl_L_law_r36 (mem_app wl_L_law_r37 wl_L_law_r38))))))))))))))))))))))))))))))))))))) wl_X90) wl_X100) wl_X40) wl_X80) wl_X60) wl_X70) wl_X00) wl_X20) wl_X10) wl_X50) wl_X30) (fun w h => by simp at h))
theorem inlX0 : ∀ w ∈ wsX00, w ∈ wsL_law := fun _ h => List.mem_append_left _ (List.mem_append_left _ (List.mem_append_left _ (List.mem_append_left _ (List.mem_append_left _ (List.mem_append_right _ h)))))
theorem inX0 : ∀ w ∈ wsX00, w ∈ lw_tbl := fun w h => wsL_law_in w (inlX0 w h)
theorem inlX1 : ∀ w ∈ wsX10, w ∈ wsL_law := fun _ h => List.mem_append_left _ (List.mem_append_left _ (List.mem_append_left _ (List.mem_append_right _ h)))
theorem inX1 : ∀ w ∈ wsX10, w ∈ lw_tbl := fun w h => wsL_law_in w (inlX1 w h)
theorem inlX2 : ∀ w ∈ wsX20, w ∈ wsL_law := fun _ h => List.mem_append_left _ (List.mem_append_left _ (List.mem_append_left _ (List.mem_append_left _ (List.mem_append_right _ h))))
theorem inX2 : ∀ w ∈ wsX20, w ∈ lw_tbl := fun w h => wsL_law_in w (inlX2 w h)
theorem inlX3 : ∀ w ∈ wsX30, w ∈ wsL_law := fun _ h => List.mem_append_left _ (List.mem_append_right _ h)
theorem inX3 : ∀ w ∈ wsX30, w ∈ lw_tbl := fun w h => wsL_law_in w (inlX3 w h)
theorem inlX4 : ∀ w ∈ wsX40, w ∈ wsL_law := fun _ h => List.mem_append_left _ (List.mem_append_left _ (List.mem_append_left _ (List.mem_append_left _ (List.mem_append_left _ (List.mem_append_left _ (List.mem_append_left _ (List.mem_append_left _ (List.mem_append_left _ (List.mem_append_right _ h)))))))))
theorem inX4 : ∀ w ∈ wsX40, w ∈ lw_tbl := fun w h => wsL_law_in w (inlX4 w h)
theorem inlX5 : ∀ w ∈ wsX50, w ∈ wsL_law := fun _ h => List.mem_append_left _ (List.mem_append_left _ (List.mem_append_right _ h))
theorem inX5 : ∀ w ∈ wsX50, w ∈ lw_tbl := fun w h => wsL_law_in w (inlX5 w h)
theorem inlX6 : ∀ w ∈ wsX60, w ∈ wsL_law := fun _ h => List.mem_append_left _ (List.mem_append_left _ (List.mem_append_left _ (List.mem_append_left _ (List.mem_append_left _ (List.mem_append_left _ (List.mem_append_left _ (List.mem_append_right _ h)))))))
theorem inX6 : ∀ w ∈ wsX60, w ∈ lw_tbl := fun w h => wsL_law_in w (inlX6 w h)
theorem inlX7 : ∀ w ∈ wsX70, w ∈ wsL_law := fun _ h => List.mem_append_left _ (List.mem_append_left _ (List.mem_append_left _ (List.mem_append_left _ (List.mem_append_left _ (List.mem_append_left _ (List.mem_append_right _ h))))))
theorem inX7 : ∀ w ∈ wsX70, w ∈ lw_tbl := fun w h => wsL_law_in w (inlX7 w h)
theorem inlX8 : ∀ w ∈ wsX80, w ∈ wsL_law := fun _ h => List.mem_append_left _ (List.mem_append_left _ (List.mem_append_left _ (List.mem_append_left _ (List.mem_append_left _ (List.mem_append_left _ (List.mem_append_left _ (List.mem_append_left _ (List.mem_append_right _ h))))))))
theorem inX8 : ∀ w ∈ wsX80, w ∈ lw_tbl := fun w h => wsL_law_in w (inlX8 w h)
theorem inlX9 : ∀ w ∈ wsX90, w ∈ wsL_law := fun _ h => List.mem_append_left _ (List.mem_append_left _ (List.mem_append_left _ (List.mem_append_left _ (List.mem_append_left _ (List.mem_append_left _ (List.mem_append_left _ (List.mem_append_left _ (List.mem_append_left _ (List.mem_append_left _ (List.mem_append_left _ (List.mem_append_right _ h)))))))))))
theorem inX9 : ∀ w ∈ wsX90, w ∈ lw_tbl := fun w h => wsL_law_in w (inlX9 w h)
theorem inlX10 : ∀ w ∈ wsX100, w ∈ wsL_law := fun _ h => List.mem_append_left _ (List.mem_append_left _ (List.mem_append_left _ (List.mem_append_left _ (List.mem_append_left _ (List.mem_append_left _ (List.mem_append_left _ (List.mem_append_left _ (List.mem_append_left _ (List.mem_append_left _ (List.mem_append_right _ h))))))))))
theorem inX10 : ∀ w ∈ wsX100, w ∈ lw_tbl := fun w h => wsL_law_in w (inlX10 w h)
abbrev vwCl : List vw_C := [(RX0, TX0, 2), (RX1, TX1, 8), (RX2, TX2, 5), (RX3, TX3, 7), (RX4, TX4, 7), (RX5, TX5, 6), (RX6, TX6, 17), (RX7, TX7, 3), (RX8, TX8, 4), (RX9, TX9, 16), (RX10, TX10, 48)]
