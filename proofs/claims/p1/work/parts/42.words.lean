set_option maxRecDepth 20000 in
theorem ggL_law_X9_init : GoodIn wsL_law wsX9_init := goodIn_r _ [9, 10, 11, 12, 13, 14, 15, 16, 17, 18, 19, 20, 21, 22, 23, 24, 25, 26, 27, 28, 29, 30, 31, 32, 33, 34, 35, 36, 37, 38, 39, 40, 41, 42, 43, 44, 45, 46, 47, 48, 49, 50, 51, 52, 53, 54, 55, 56, 57, 58, 59, 60, 61, 62, 63, 64, 65, 66, 67, 68, 69, 70, 71, 72, 73, 74, 75, 76, 77, 78, 79, 80, 81, 82, 83, 84, 85, 86, 87, 88, 89, 90, 91, 92, 93, 94, 95, 96, 97, 98, 99, 100, 101, 102, 103, 104, 105, 106, 107, 108, 109, 110, 111, 112, 113, 114, 115, 116, 117, 118, 119, 120, 121, 122, 123, 124, 125, 126, 127, 128, 129, 130, 131, 132, 133, 134, 135, 136, 137, 138, 139, 140, 141, 142, 143, 144, 954, 955, 956, 957, 958, 959, 960, 890, 891, 892, 893, 894, 895, 896, 897, 898, 899, 900, 901, 902, 903, 904, 905, 961, 962, 963, 964, 965, 966, 967, 968, 969, 970, 971, 972, 973, 974, 975, 976, 977, 978, 979, 980, 981, 982, 983, 984, 985, 986, 987, 988, 989, 990, 991, 992, 993, 994, 995, 996, 997, 998, 999, 1000, 1001, 1002, 1003, 1004, 1005, 1006, 1007, 1008, 1009, 1010, 1011, 1012] (by decide +kernel) (by decide +kernel)
set_option maxRecDepth 20000 in
theorem gL_law_X9_init : GoodIn wsL_law (wsX9_init) := ggL_law_X9_init
set_option maxRecDepth 20000 in
theorem ggL_law_X10_init : GoodIn wsL_law wsX10_init := goodIn_r _ [147, 148, 11, 12, 149, 35, 150, 151, 152, 153, 154, 112, 155, 156, 157, 158, 159, 160, 161, 162, 163, 164, 165, 166, 167, 168, 169, 170, 171, 172, 173, 174, 175, 176, 177, 178, 179, 180, 181, 182, 183, 184, 185, 906, 907, 908, 909, 910, 911, 912, 913, 914, 915, 916, 917, 918, 919, 920, 921, 922, 923, 924, 925, 926, 927, 928, 929, 930, 931, 932, 933, 934, 935, 936, 937, 938, 939, 940, 941, 942, 943, 944, 945, 946, 947, 948, 949, 950, 951, 952, 953] (by decide +kernel) (by decide +kernel)
set_option maxRecDepth 20000 in
theorem gL_law_X10_init : GoodIn wsL_law (wsX10_init) := ggL_law_X10_init
set_option maxRecDepth 20000 in
theorem ggL_law_X9_paddler : GoodIn wsL_law wsX9_paddler := goodIn_r _ [189, 16, 190, 191, 192, 2, 193, 194, 195, 196, 15, 197, 61, 60, 62, 63, 64, 65, 890, 891, 892, 893, 894, 895, 896, 897, 898, 899, 900, 901, 902, 903, 904, 905, 954, 955, 956, 957, 958, 959, 960] (by decide +kernel) (by decide +kernel)
set_option maxRecDepth 20000 in
theorem gL_law_X9_paddler : GoodIn wsL_law (wsV RL 13 RX9 yX9_paddler wsX9_paddler) := goodIn_app (goodIn_of _ (by decide +kernel)) ggL_law_X9_paddler
set_option maxRecDepth 20000 in
theorem ggL_law_X10_paddler : GoodIn wsL_law wsX10_paddler := goodIn_r _ [201, 202, 150, 151, 152, 153, 154, 906, 907, 908, 909, 910, 911, 912, 913, 914, 915, 916, 917, 918, 919, 920, 921, 922, 923, 924, 925, 926, 927, 928, 929, 930, 931, 932, 933, 934, 935, 936, 937, 938, 939, 940, 941, 942, 943, 944, 945, 946, 947, 948, 949, 950, 951, 952, 953] (by decide +kernel) (by decide +kernel)
set_option maxRecDepth 20000 in
theorem gL_law_X10_paddler : GoodIn wsL_law (wsV RL 17 RX10 yX10_paddler wsX10_paddler) := goodIn_app (goodIn_of _ (by decide +kernel)) ggL_law_X10_paddler
set_option maxRecDepth 20000 in
theorem ggL_law_X9_like : GoodIn wsL_law wsX9_like := goodIn_r _ [206, 16, 207, 208, 209, 15, 210, 60, 192, 2, 193, 191, 211, 212, 213, 214, 67, 215, 216, 217, 218, 219, 890, 891, 892, 893, 894, 895, 896, 897, 898, 899, 900, 901, 902, 903, 904, 905, 954, 955, 956, 957, 958, 959, 960] (by decide +kernel) (by decide +kernel)
set_option maxRecDepth 20000 in
theorem gL_law_X9_like : GoodIn wsL_law (wsV RL 18 RX9 yX9_like wsX9_like) := goodIn_app (goodIn_of _ (by decide +kernel)) ggL_law_X9_like
set_option maxRecDepth 20000 in
theorem ggL_law_X10_like : GoodIn wsL_law wsX10_like := goodIn_r _ [223, 155, 224, 225, 226, 5, 227, 202, 906, 907, 908, 909, 910, 911, 912, 913, 914, 915, 916, 917, 918, 919, 920, 921, 922, 923, 924, 925, 926, 927, 928, 929, 930, 931, 932, 933, 934, 935, 936, 937, 938, 939, 940, 941, 942, 943, 944, 945, 946, 947, 948, 949, 950, 951, 952, 953] (by decide +kernel) (by decide +kernel)
set_option maxRecDepth 20000 in
theorem gL_law_X10_like : GoodIn wsL_law (wsV RL 22 RX10 yX10_like wsX10_like) := goodIn_app (goodIn_of _ (by decide +kernel)) ggL_law_X10_like
set_option maxRecDepth 20000 in
theorem ggL_law_X9_crew : GoodIn wsL_law wsX9_crew := goodIn_r _ [231, 19, 18, 232, 233, 191, 192, 2, 193, 890, 891, 892, 893, 894, 895, 896, 897, 898, 899, 900, 901, 902, 903, 904, 905, 992, 993, 994, 995, 996, 997, 998, 999] (by decide +kernel) (by decide +kernel)
set_option maxRecDepth 20000 in
theorem gL_law_X9_crew : GoodIn wsL_law (wsV RL 23 RX9 yX9_crew wsX9_crew) := goodIn_app (goodIn_of _ (by decide +kernel)) ggL_law_X9_crew
set_option maxRecDepth 20000 in
theorem ggL_law_X10_crew : GoodIn wsL_law wsX10_crew := goodIn_r _ [237, 238, 156, 157, 159, 906, 907, 908, 909, 910, 911, 912, 913, 914, 915, 916, 917, 918, 919, 920, 921, 922, 923, 924, 925, 926, 927, 928, 929, 930, 931, 932, 933, 934, 935, 936, 937, 938, 939, 940, 941, 942, 943, 944, 945, 946, 947, 948, 949, 950, 951, 952, 953] (by decide +kernel) (by decide +kernel)
set_option maxRecDepth 20000 in
theorem gL_law_X10_crew : GoodIn wsL_law (wsV RL 27 RX10 yX10_crew wsX10_crew) := goodIn_app (goodIn_of _ (by decide +kernel)) ggL_law_X10_crew
set_option maxRecDepth 20000 in
theorem ggL_law_X9_join : GoodIn wsL_law wsX9_join := goodIn_r _ [242, 16, 18, 243, 244, 245, 246, 2, 247, 19, 191, 192, 193, 207, 208, 209, 15, 210, 60, 248, 249, 250, 52, 251, 123, 252, 253, 254, 255, 122, 121, 124, 890, 891, 892, 893, 894, 895, 896, 897, 898, 899, 900, 901, 902, 903, 904, 905, 992, 993, 994, 995, 996, 997, 998, 999, 954, 955, 956, 957, 958, 959, 960] (by decide +kernel) (by decide +kernel)
set_option maxRecDepth 20000 in
theorem gL_law_X9_join : GoodIn wsL_law (wsV RL 28 RX9 yX9_join wsX9_join) := goodIn_app (goodIn_of _ (by decide +kernel)) ggL_law_X9_join
set_option maxRecDepth 20000 in
theorem ggL_law_X10_join : GoodIn wsL_law wsX10_join := goodIn_r _ [259, 158, 160, 162, 260, 261, 262, 5, 263, 238, 224, 225, 226, 227, 202, 264, 265, 266, 267, 906, 907, 908, 909, 910, 911, 912, 913, 914, 915, 916, 917, 918, 919, 920, 921, 922, 923, 924, 925, 926, 927, 928, 929, 930, 931, 932, 933, 934, 935, 936, 937, 938, 939, 940, 941, 942, 943, 944, 945, 946, 947, 948, 949, 950, 951, 952, 953] (by decide +kernel) (by decide +kernel)
set_option maxRecDepth 20000 in
theorem gL_law_X10_join : GoodIn wsL_law (wsV RL 31 RX10 yX10_join wsX10_join) := goodIn_app (goodIn_of _ (by decide +kernel)) ggL_law_X10_join
set_option maxRecDepth 20000 in
theorem ggL_law_X9_beat : GoodIn wsL_law wsX9_beat := goodIn_r _ [271, 18, 272, 244, 245, 246, 2, 247, 19, 191, 192, 193, 890, 891, 892, 893, 894, 895, 896, 897, 898, 899, 900, 901, 902, 903, 904, 905, 992, 993, 994, 995, 996, 997, 998, 999] (by decide +kernel) (by decide +kernel)
set_option maxRecDepth 20000 in
theorem gL_law_X9_beat : GoodIn wsL_law (wsV RL 32 RX9 yX9_beat wsX9_beat) := goodIn_app (goodIn_of _ (by decide +kernel)) ggL_law_X9_beat
set_option maxRecDepth 20000 in
theorem ggL_law_X10_beat : GoodIn wsL_law wsX10_beat := goodIn_r _ [276, 159, 260, 261, 262, 5, 263, 238, 906, 907, 908, 909, 910, 911, 912, 913, 914, 915, 916, 917, 918, 919, 920, 921, 922, 923, 924, 925, 926, 927, 928, 929, 930, 931, 932, 933, 934, 935, 936, 937, 938, 939, 940, 941, 942, 943, 944, 945, 946, 947, 948, 949, 950, 951, 952, 953] (by decide +kernel) (by decide +kernel)
set_option maxRecDepth 20000 in
theorem gL_law_X10_beat : GoodIn wsL_law (wsV RL 35 RX10 yX10_beat wsX10_beat) := goodIn_app (goodIn_of _ (by decide +kernel)) ggL_law_X10_beat
set_option maxRecDepth 20000 in
theorem ggL_law_X9_seat : GoodIn wsL_law wsX9_seat := goodIn_r _ [280, 281, 18, 27, 16, 282, 283, 284, 244, 245, 246, 2, 247, 19, 191, 192, 193, 285, 286, 287, 26, 288, 79, 78, 289, 290, 291, 292, 80, 293, 81, 294, 295, 296, 52, 297, 118, 298, 299, 300, 301, 302, 82, 303, 83, 304, 84, 305, 85, 306, 212, 213, 15, 214, 67, 307, 308, 309, 310, 311, 312, 313, 90, 91, 92, 93, 94, 86, 87, 314, 315, 316, 317, 318, 319, 320, 321, 322, 323, 324, 325, 326, 119, 327, 328, 329, 330, 331, 332, 88, 333, 334, 335, 336, 337, 338, 339, 340, 341, 342, 343, 89, 344, 345, 346, 347, 348, 349, 350, 351, 352, 890, 891, 892, 893, 894, 895, 896, 897, 898, 899, 900, 901, 902, 903, 904, 905, 992, 993, 994, 995, 996, 997, 998, 999, 965, 966, 967, 968, 969, 970, 971, 972, 973, 974, 975, 976, 977, 978, 979, 980, 981, 954, 955, 956, 957, 958, 959, 960] (by decide +kernel) (by decide +kernel)
set_option maxRecDepth 20000 in
theorem gL_law_X9_seat : GoodIn wsL_law (wsV RL 36 RX9 yX9_seat wsX9_seat) := goodIn_app (goodIn_of _ (by decide +kernel)) ggL_law_X9_seat
set_option maxRecDepth 20000 in
theorem ggL_law_X10_seat : GoodIn wsL_law wsX10_seat := goodIn_r _ [356, 357, 156, 158, 182, 160, 185, 183, 162, 358, 161, 260, 261, 262, 5, 263, 238, 359, 360, 361, 362, 152, 363, 364, 365, 366, 367, 368, 369, 370, 157, 150, 151, 155, 371, 372, 373, 906, 907, 908, 909, 910, 911, 912, 913, 914, 915, 916, 917, 918, 919, 920, 921, 922, 923, 924, 925, 926, 927, 928, 929, 930, 931, 932, 933, 934, 935, 936, 937, 938, 939, 940, 941, 942, 943, 944, 945, 946, 947, 948, 949, 950, 951, 952, 953] (by decide +kernel) (by decide +kernel)
set_option maxRecDepth 20000 in
theorem gL_law_X10_seat : GoodIn wsL_law (wsV RL 40 RX10 yX10_seat wsX10_seat) := goodIn_app (goodIn_of _ (by decide +kernel)) ggL_law_X10_seat
set_option maxRecDepth 20000 in
theorem ggL_law_X9_sits : GoodIn wsL_law wsX9_sits := goodIn_r _ [377, 18, 232, 282, 378, 244, 245, 246, 2, 247, 19, 191, 192, 193, 890, 891, 892, 893, 894, 895, 896, 897, 898, 899, 900, 901, 902, 903, 904, 905, 992, 993, 994, 995, 996, 997, 998, 999] (by decide +kernel) (by decide +kernel)
set_option maxRecDepth 20000 in
theorem gL_law_X9_sits : GoodIn wsL_law (wsV RL 41 RX9 yX9_sits wsX9_sits) := goodIn_app (goodIn_of _ (by decide +kernel)) ggL_law_X9_sits
set_option maxRecDepth 20000 in
theorem ggL_law_X10_sits : GoodIn wsL_law wsX10_sits := goodIn_r _ [382, 156, 162, 161, 260, 261, 262, 5, 263, 238, 906, 907, 908, 909, 910, 911, 912, 913, 914, 915, 916, 917, 918, 919, 920, 921, 922, 923, 924, 925, 926, 927, 928, 929, 930, 931, 932, 933, 934, 935, 936, 937, 938, 939, 940, 941, 942, 943, 944, 945, 946, 947, 948, 949, 950, 951, 952, 953] (by decide +kernel) (by decide +kernel)
set_option maxRecDepth 20000 in
theorem gL_law_X10_sits : GoodIn wsL_law (wsV RL 44 RX10 yX10_sits wsX10_sits) := goodIn_app (goodIn_of _ (by decide +kernel)) ggL_law_X10_sits
set_option maxRecDepth 20000 in
theorem ggL_law_X9_trim : GoodIn wsL_law wsX9_trim := goodIn_r _ [386, 18, 282, 23, 16, 387, 388, 389, 390, 244, 245, 246, 2, 247, 19, 191, 192, 193, 391, 392, 393, 22, 394, 73, 74, 395, 396, 397, 398, 399, 331, 291, 332, 71, 72, 400, 324, 325, 52, 326, 118, 119, 401, 315, 316, 317, 402, 319, 320, 321, 322, 290, 292, 403, 212, 213, 15, 214, 67, 890, 891, 892, 893, 894, 895, 896, 897, 898, 899, 900, 901, 902, 903, 904, 905, 992, 993, 994, 995, 996, 997, 998, 999, 961, 962, 963, 964, 954, 955, 956, 957, 958, 959, 960] (by decide +kernel) (by decide +kernel)
set_option maxRecDepth 20000 in
theorem gL_law_X9_trim : GoodIn wsL_law (wsV RL 45 RX9 yX9_trim wsX9_trim) := goodIn_app (goodIn_of _ (by decide +kernel)) ggL_law_X9_trim
set_option maxRecDepth 20000 in
theorem ggL_law_X10_trim : GoodIn wsL_law wsX10_trim := goodIn_r _ [407, 162, 161, 260, 261, 262, 5, 263, 238, 367, 368, 369, 370, 156, 157, 150, 151, 155, 371, 372, 373, 906, 907, 908, 909, 910, 911, 912, 913, 914, 915, 916, 917, 918, 919, 920, 921, 922, 923, 924, 925, 926, 927, 928, 929, 930, 931, 932, 933, 934, 935, 936, 937, 938, 939, 940, 941, 942, 943, 944, 945, 946, 947, 948, 949, 950, 951, 952, 953] (by decide +kernel) (by decide +kernel)
set_option maxRecDepth 20000 in
theorem gL_law_X10_trim : GoodIn wsL_law (wsV RL 48 RX10 yX10_trim wsX10_trim) := goodIn_app (goodIn_of _ (by decide +kernel)) ggL_law_X10_trim
set_option maxRecDepth 20000 in
theorem ggL_law_X9_change : GoodIn wsL_law wsX9_change := goodIn_r _ [411, 281, 18, 282, 16, 378, 283, 23, 244, 245, 246, 2, 247, 19, 191, 192, 193, 412, 295, 296, 52, 297, 118, 413, 414, 415, 15, 416, 63, 417, 418, 419, 420, 125, 391, 392, 393, 22, 394, 73, 74, 395, 396, 397, 398, 399, 331, 291, 332, 71, 72, 400, 324, 325, 326, 119, 401, 315, 316, 317, 402, 319, 320, 321, 322, 290, 292, 403, 212, 213, 214, 67, 421, 422, 423, 424, 890, 891, 892, 893, 894, 895, 896, 897, 898, 899, 900, 901, 902, 903, 904, 905, 992, 993, 994, 995, 996, 997, 998, 999, 954, 955, 956, 957, 958, 959, 960, 961, 962, 963, 964] (by decide +kernel) (by decide +kernel)
set_option maxRecDepth 20000 in
theorem gL_law_X9_change : GoodIn wsL_law (wsV RL 49 RX9 yX9_change wsX9_change) := goodIn_app (goodIn_of _ (by decide +kernel)) ggL_law_X9_change
set_option maxRecDepth 20000 in
theorem ggL_law_X10_change : GoodIn wsL_law wsX10_change := goodIn_r _ [428, 156, 357, 162, 358, 185, 161, 260, 261, 262, 5, 263, 238, 359, 360, 361, 362, 152, 363, 364, 365, 366, 367, 368, 369, 370, 157, 150, 151, 155, 371, 372, 373, 906, 907, 908, 909, 910, 911, 912, 913, 914, 915, 916, 917, 918, 919, 920, 921, 922, 923, 924, 925, 926, 927, 928, 929, 930, 931, 932, 933, 934, 935, 936, 937, 938, 939, 940, 941, 942, 943, 944, 945, 946, 947, 948, 949, 950, 951, 952, 953] (by decide +kernel) (by decide +kernel)
set_option maxRecDepth 20000 in
theorem gL_law_X10_change : GoodIn wsL_law (wsV RL 52 RX10 yX10_change wsX10_change) := goodIn_app (goodIn_of _ (by decide +kernel)) ggL_law_X10_change
set_option maxRecDepth 20000 in
theorem ggL_law_X9_feed : GoodIn wsL_law wsX9_feed := goodIn_r _ [432, 31, 433, 191, 192, 2, 193, 434, 435, 436, 30, 437, 98, 100, 438, 890, 891, 892, 893, 894, 895, 896, 897, 898, 899, 900, 901, 902, 903, 904, 905, 982, 983, 984] (by decide +kernel) (by decide +kernel)
set_option maxRecDepth 20000 in
theorem gL_law_X9_feed : GoodIn wsL_law (wsV RL 55 RX9 yX9_feed wsX9_feed) := goodIn_app (goodIn_of _ (by decide +kernel)) ggL_law_X9_feed
set_option maxRecDepth 20000 in
theorem ggL_law_X10_feed : GoodIn wsL_law wsX10_feed := goodIn_r _ [442, 443, 163, 444, 906, 907, 908, 909, 910, 911, 912, 913, 914, 915, 916, 917, 918, 919, 920, 921, 922, 923, 924, 925, 926, 927, 928, 929, 930, 931, 932, 933, 934, 935, 936, 937, 938, 939, 940, 941, 942, 943, 944, 945, 946, 947, 948, 949, 950, 951, 952, 953] (by decide +kernel) (by decide +kernel)
set_option maxRecDepth 20000 in
theorem gL_law_X10_feed : GoodIn wsL_law (wsV RL 59 RX10 yX10_feed wsX10_feed) := goodIn_app (goodIn_of _ (by decide +kernel)) ggL_law_X10_feed
set_option maxRecDepth 20000 in
theorem ggL_law_X9_rule : GoodIn wsL_law wsX9_rule := goodIn_r _ [448, 34, 31, 33, 433, 449, 450, 451, 452, 30, 453, 99, 454, 455, 98, 456, 457, 458, 459, 460, 461, 462, 463, 464, 465, 466, 467, 468, 469, 470, 471, 472, 100, 473, 474, 475, 476, 477, 478, 479, 480, 481, 482, 483, 484, 485, 486, 487, 488, 489, 490, 491, 492, 493, 494, 495, 496, 497, 498, 499, 500, 501, 502, 503, 504, 505, 506, 507, 508, 509, 510, 511, 512, 513, 514, 515, 516, 517, 518, 519, 520, 521, 522, 523, 524, 525, 526, 527, 528, 529, 530, 531, 532, 533, 534, 535, 536, 537, 538, 192, 2, 193, 539, 540, 541, 542, 890, 891, 892, 893, 894, 895, 896, 897, 898, 899, 900, 901, 902, 903, 904, 905, 982, 983, 984, 1000, 1001, 1002, 1003, 1004, 1005] (by decide +kernel) (by decide +kernel)
set_option maxRecDepth 20000 in
theorem gL_law_X9_rule : GoodIn wsL_law (wsV RL 60 RX9 yX9_rule wsX9_rule) := goodIn_app (goodIn_of _ (by decide +kernel)) ggL_law_X9_rule
set_option maxRecDepth 20000 in
theorem ggL_law_X10_rule : GoodIn wsL_law wsX10_rule := goodIn_r _ [546, 547, 548, 549, 169, 443, 164, 550, 551, 552, 5, 553, 168, 163, 165, 166, 167, 554, 555, 556, 557, 558, 559, 560, 561, 562, 477, 478, 479, 480, 481, 482, 483, 484, 485, 486, 487, 563, 489, 490, 491, 492, 493, 494, 495, 496, 497, 498, 499, 500, 501, 502, 503, 504, 505, 506, 507, 508, 509, 510, 511, 512, 513, 514, 515, 516, 517, 518, 519, 520, 521, 522, 523, 524, 906, 907, 908, 909, 910, 911, 912, 913, 914, 915, 916, 917, 918, 919, 920, 921, 922, 923, 924, 925, 926, 927, 928, 929, 930, 931, 932, 933, 934, 935, 936, 937, 938, 939, 940, 941, 942, 943, 944, 945, 946, 947, 948, 949, 950, 951, 952, 953] (by decide +kernel) (by decide +kernel)
set_option maxRecDepth 20000 in
theorem gL_law_X10_rule : GoodIn wsL_law (wsV RL 64 RX10 yX10_rule wsX10_rule) := goodIn_app (goodIn_of _ (by decide +kernel)) ggL_law_X10_rule
set_option maxRecDepth 20000 in
theorem ggL_law_X9_keeps : GoodIn wsL_law wsX9_keeps := goodIn_r _ [567, 34, 18, 282, 33, 36, 244, 245, 246, 2, 247, 19, 191, 192, 193, 568, 569, 570, 571, 378, 16, 572, 573, 574, 412, 295, 296, 52, 297, 118, 575, 576, 577, 54, 578, 129, 134, 131, 579, 580, 581, 582, 132, 133, 130, 890, 891, 892, 893, 894, 895, 896, 897, 898, 899, 900, 901, 902, 903, 904, 905, 992, 993, 994, 995, 996, 997, 998, 999, 954, 955, 956, 957, 958, 959, 960, 1000, 1001, 1002, 1003, 1004, 1005] (by decide +kernel) (by decide +kernel)
set_option maxRecDepth 20000 in
theorem gL_law_X9_keeps : GoodIn wsL_law (wsV RL 65 RX9 yX9_keeps wsX9_keeps) := goodIn_app (goodIn_of _ (by decide +kernel)) ggL_law_X9_keeps
set_option maxRecDepth 20000 in
theorem ggL_law_X10_keeps : GoodIn wsL_law wsX10_keeps := goodIn_r _ [586, 547, 162, 164, 169, 165, 167, 166, 168, 260, 261, 262, 5, 263, 238, 587, 588, 589, 590, 156, 161, 153, 154, 150, 906, 907, 908, 909, 910, 911, 912, 913, 914, 915, 916, 917, 918, 919, 920, 921, 922, 923, 924, 925, 926, 927, 928, 929, 930, 931, 932, 933, 934, 935, 936, 937, 938, 939, 940, 941, 942, 943, 944, 945, 946, 947, 948, 949, 950, 951, 952, 953] (by decide +kernel) (by decide +kernel)
set_option maxRecDepth 20000 in
theorem gL_law_X10_keeps : GoodIn wsL_law (wsV RL 68 RX10 yX10_keeps wsX10_keeps) := goodIn_app (goodIn_of _ (by decide +kernel)) ggL_law_X10_keeps
set_option maxRecDepth 20000 in
theorem ggL_law_X9_rest : GoodIn wsL_law wsX9_rest := goodIn_r _ [594, 37, 191, 192, 2, 193, 890, 891, 892, 893, 894, 895, 896, 897, 898, 899, 900, 901, 902, 903, 904, 905] (by decide +kernel) (by decide +kernel)
set_option maxRecDepth 20000 in
theorem gL_law_X9_rest : GoodIn wsL_law (wsV RL 69 RX9 yX9_rest wsX9_rest) := goodIn_app (goodIn_of _ (by decide +kernel)) ggL_law_X9_rest
set_option maxRecDepth 20000 in
theorem ggL_law_X10_rest : GoodIn wsL_law wsX10_rest := goodIn_r _ [598, 149, 906, 907, 908, 909, 910, 911, 912, 913, 914, 915, 916, 917, 918, 919, 920, 921, 922, 923, 924, 925, 926, 927, 928, 929, 930, 931, 932, 933, 934, 935, 936, 937, 938, 939, 940, 941, 942, 943, 944, 945, 946, 947, 948, 949, 950, 951, 952, 953] (by decide +kernel) (by decide +kernel)
set_option maxRecDepth 20000 in
theorem gL_law_X10_rest : GoodIn wsL_law (wsV RL 72 RX10 yX10_rest wsX10_rest) := goodIn_app (goodIn_of _ (by decide +kernel)) ggL_law_X10_rest
set_option maxRecDepth 20000 in
theorem ggL_law_X9_lane : GoodIn wsL_law wsX9_lane := goodIn_r _ [602, 38, 244, 245, 246, 2, 247, 19, 191, 192, 193, 603, 604, 605, 606, 607, 608, 609, 18, 610, 611, 612, 613, 614, 890, 891, 892, 893, 894, 895, 896, 897, 898, 899, 900, 901, 902, 903, 904, 905, 992, 993, 994, 995, 996, 997, 998, 999] (by decide +kernel) (by decide +kernel)
set_option maxRecDepth 20000 in
theorem gL_law_X9_lane : GoodIn wsL_law (wsV RL 73 RX9 yX9_lane wsX9_lane) := goodIn_app (goodIn_of _ (by decide +kernel)) ggL_law_X9_lane
set_option maxRecDepth 20000 in
theorem ggL_law_X10_lane : GoodIn wsL_law wsX10_lane := goodIn_r _ [618, 177, 619, 260, 261, 262, 5, 263, 238, 620, 621, 622, 623, 158, 160, 264, 265, 266, 267, 906, 907, 908, 909, 910, 911, 912, 913, 914, 915, 916, 917, 918, 919, 920, 921, 922, 923, 924, 925, 926, 927, 928, 929, 930, 931, 932, 933, 934, 935, 936, 937, 938, 939, 940, 941, 942, 943, 944, 945, 946, 947, 948, 949, 950, 951, 952, 953] (by decide +kernel) (by decide +kernel)
set_option maxRecDepth 20000 in
theorem gL_law_X10_lane : GoodIn wsL_law (wsV RL 76 RX10 yX10_lane wsX10_lane) := goodIn_app (goodIn_of _ (by decide +kernel)) ggL_law_X10_lane
set_option maxRecDepth 20000 in
theorem ggL_law_X9_race : GoodIn wsL_law wsX9_race := goodIn_r _ [627, 42, 41, 38, 191, 192, 2, 193, 611, 612, 613, 614, 628, 629, 630, 56, 631, 138, 139, 141, 632, 633, 634, 635, 37, 636, 637, 638, 639, 640, 331, 291, 332, 641, 642, 643, 644, 645, 606, 607, 608, 609, 18, 610, 890, 891, 892, 893, 894, 895, 896, 897, 898, 899, 900, 901, 902, 903, 904, 905, 1006, 1007, 1008, 1009, 1010, 1011, 1012, 992, 993, 994, 995, 996, 997, 998, 999] (by decide +kernel) (by decide +kernel)
set_option maxRecDepth 20000 in
theorem gL_law_X9_race : GoodIn wsL_law (wsV RL 77 RX9 yX9_race wsX9_race) := goodIn_app (goodIn_of _ (by decide +kernel)) ggL_law_X9_race
set_option maxRecDepth 20000 in
theorem ggL_law_X10_race : GoodIn wsL_law wsX10_race := goodIn_r _ [649, 619, 650, 170, 149, 177, 172, 171, 176, 173, 174, 175, 371, 372, 5, 373, 620, 621, 622, 623, 158, 160, 264, 265, 266, 267, 906, 907, 908, 909, 910, 911, 912, 913, 914, 915, 916, 917, 918, 919, 920, 921, 922, 923, 924, 925, 926, 927, 928, 929, 930, 931, 932, 933, 934, 935, 936, 937, 938, 939, 940, 941, 942, 943, 944, 945, 946, 947, 948, 949, 950, 951, 952, 953] (by decide +kernel) (by decide +kernel)
set_option maxRecDepth 20000 in
theorem gL_law_X10_race : GoodIn wsL_law (wsV RL 80 RX10 yX10_race wsX10_race) := goodIn_app (goodIn_of _ (by decide +kernel)) ggL_law_X10_race
set_option maxRecDepth 20000 in
theorem ggL_law_X9_current : GoodIn wsL_law wsX9_current := goodIn_r _ [654, 39, 603, 604, 2, 605, 191, 192, 193, 890, 891, 892, 893, 894, 895, 896, 897, 898, 899, 900, 901, 902, 903, 904, 905] (by decide +kernel) (by decide +kernel)
set_option maxRecDepth 20000 in
theorem gL_law_X9_current : GoodIn wsL_law (wsV RL 81 RX9 yX9_current wsX9_current) := goodIn_app (goodIn_of _ (by decide +kernel)) ggL_law_X9_current
set_option maxRecDepth 20000 in
theorem ggL_law_X10_current : GoodIn wsL_law wsX10_current := goodIn_r _ [658, 178, 906, 907, 908, 909, 910, 911, 912, 913, 914, 915, 916, 917, 918, 919, 920, 921, 922, 923, 924, 925, 926, 927, 928, 929, 930, 931, 932, 933, 934, 935, 936, 937, 938, 939, 940, 941, 942, 943, 944, 945, 946, 947, 948, 949, 950, 951, 952, 953] (by decide +kernel) (by decide +kernel)
set_option maxRecDepth 20000 in
theorem gL_law_X10_current : GoodIn wsL_law (wsV RL 84 RX10 yX10_current wsX10_current) := goodIn_app (goodIn_of _ (by decide +kernel)) ggL_law_X10_current
set_option maxRecDepth 20000 in
theorem ggL_law_X9_run : GoodIn wsL_law wsX9_run := goodIn_r _ [662, 41, 663, 645, 664, 665, 666, 667, 2, 668, 42, 191, 192, 193, 669, 670, 671, 672, 18, 282, 23, 16, 673, 312, 291, 313, 46, 39, 674, 675, 676, 677, 391, 392, 393, 22, 394, 73, 74, 395, 396, 397, 398, 399, 331, 332, 71, 72, 400, 324, 325, 52, 326, 118, 119, 401, 315, 316, 317, 402, 319, 320, 321, 322, 290, 292, 403, 212, 213, 15, 214, 67, 421, 422, 423, 424, 678, 679, 680, 45, 681, 104, 105, 682, 683, 684, 685, 686, 687, 688, 689, 295, 296, 297, 690, 691, 692, 56, 693, 142, 890, 891, 892, 893, 894, 895, 896, 897, 898, 899, 900, 901, 902, 903, 904, 905, 1006, 1007, 1008, 1009, 1010, 1011, 1012, 992, 993, 994, 995, 996, 997, 998, 999, 985, 986, 961, 962, 963, 964, 954, 955, 956, 957, 958, 959, 960] (by decide +kernel) (by decide +kernel)
set_option maxRecDepth 20000 in
theorem gL_law_X9_run : GoodIn wsL_law (wsV RL 85 RX9 yX9_run wsX9_run) := goodIn_app (goodIn_of _ (by decide +kernel)) ggL_law_X9_run
set_option maxRecDepth 20000 in
theorem ggL_law_X10_run : GoodIn wsL_law wsX10_run := goodIn_r _ [697, 173, 176, 172, 175, 162, 698, 699, 700, 5, 701, 650, 702, 703, 704, 705, 156, 184, 161, 151, 159, 178, 174, 363, 364, 365, 366, 367, 368, 369, 370, 157, 150, 155, 371, 372, 373, 906, 907, 908, 909, 910, 911, 912, 913, 914, 915, 916, 917, 918, 919, 920, 921, 922, 923, 924, 925, 926, 927, 928, 929, 930, 931, 932, 933, 934, 935, 936, 937, 938, 939, 940, 941, 942, 943, 944, 945, 946, 947, 948, 949, 950, 951, 952, 953] (by decide +kernel) (by decide +kernel)
set_option maxRecDepth 20000 in
theorem gL_law_X10_run : GoodIn wsL_law (wsV RL 88 RX10 yX10_run wsX10_run) := goodIn_app (goodIn_of _ (by decide +kernel)) ggL_law_X10_run
set_option maxRecDepth 20000 in
theorem ggL_law_X9_time : GoodIn wsL_law wsX9_time := goodIn_r _ [709, 41, 645, 710, 664, 674, 663, 665, 666, 667, 2, 668, 42, 191, 192, 193, 603, 604, 605, 890, 891, 892, 893, 894, 895, 896, 897, 898, 899, 900, 901, 902, 903, 904, 905, 1006, 1007, 1008, 1009, 1010, 1011, 1012] (by decide +kernel) (by decide +kernel)
set_option maxRecDepth 20000 in
theorem gL_law_X9_time : GoodIn wsL_law (wsV RL 89 RX9 yX9_time wsX9_time) := goodIn_app (goodIn_of _ (by decide +kernel)) ggL_law_X9_time
set_option maxRecDepth 20000 in
theorem ggL_law_X10_time : GoodIn wsL_law wsX10_time := goodIn_r _ [714, 715, 175, 173, 716, 717, 718, 5, 719, 172, 698, 699, 700, 701, 650, 906, 907, 908, 909, 910, 911, 912, 913, 914, 915, 916, 917, 918, 919, 920, 921, 922, 923, 924, 925, 926, 927, 928, 929, 930, 931, 932, 933, 934, 935, 936, 937, 938, 939, 940, 941, 942, 943, 944, 945, 946, 947, 948, 949, 950, 951, 952, 953] (by decide +kernel) (by decide +kernel)
set_option maxRecDepth 20000 in
theorem gL_law_X10_time : GoodIn wsL_law (wsV RL 92 RX10 yX10_time wsX10_time) := goodIn_app (goodIn_of _ (by decide +kernel)) ggL_law_X10_time
set_option maxRecDepth 20000 in
theorem ggL_law_X9_told : GoodIn wsL_law wsX9_told := goodIn_r _ [723, 41, 645, 674, 676, 665, 666, 667, 2, 668, 42, 191, 192, 193, 603, 604, 605, 724, 725, 726, 56, 727, 142, 890, 891, 892, 893, 894, 895, 896, 897, 898, 899, 900, 901, 902, 903, 904, 905, 1006, 1007, 1008, 1009, 1010, 1011, 1012] (by decide +kernel) (by decide +kernel)
set_option maxRecDepth 20000 in
theorem gL_law_X9_told : GoodIn wsL_law (wsV RL 93 RX9 yX9_told wsX9_told) := goodIn_app (goodIn_of _ (by decide +kernel)) ggL_law_X9_told
set_option maxRecDepth 20000 in
theorem ggL_law_X10_told : GoodIn wsL_law wsX10_told := goodIn_r _ [731, 172, 173, 174, 716, 717, 718, 5, 719, 698, 699, 700, 701, 650, 732, 733, 734, 735, 906, 907, 908, 909, 910, 911, 912, 913, 914, 915, 916, 917, 918, 919, 920, 921, 922, 923, 924, 925, 926, 927, 928, 929, 930, 931, 932, 933, 934, 935, 936, 937, 938, 939, 940, 941, 942, 943, 944, 945, 946, 947, 948, 949, 950, 951, 952, 953] (by decide +kernel) (by decide +kernel)
set_option maxRecDepth 20000 in
theorem gL_law_X10_told : GoodIn wsL_law (wsV RL 96 RX10 yX10_told wsX10_told) := goodIn_app (goodIn_of _ (by decide +kernel)) ggL_law_X10_told
set_option maxRecDepth 20000 in
theorem ggL_law_X9_again : GoodIn wsL_law wsX9_again := goodIn_r _ [739, 41, 665, 666, 667, 2, 668, 42, 191, 192, 193, 690, 691, 692, 56, 693, 142, 740, 741, 742, 743, 140, 143, 890, 891, 892, 893, 894, 895, 896, 897, 898, 899, 900, 901, 902, 903, 904, 905, 1006, 1007, 1008, 1009, 1010, 1011, 1012] (by decide +kernel) (by decide +kernel)
set_option maxRecDepth 20000 in
theorem gL_law_X9_again : GoodIn wsL_law (wsV RL 97 RX9 yX9_again wsX9_again) := goodIn_app (goodIn_of _ (by decide +kernel)) ggL_law_X9_again
set_option maxRecDepth 20000 in
theorem ggL_law_X10_again : GoodIn wsL_law wsX10_again := goodIn_r _ [747, 173, 174, 176, 698, 699, 700, 5, 701, 650, 906, 907, 908, 909, 910, 911, 912, 913, 914, 915, 916, 917, 918, 919, 920, 921, 922, 923, 924, 925, 926, 927, 928, 929, 930, 931, 932, 933, 934, 935, 936, 937, 938, 939, 940, 941, 942, 943, 944, 945, 946, 947, 948, 949, 950, 951, 952, 953] (by decide +kernel) (by decide +kernel)
set_option maxRecDepth 20000 in
theorem gL_law_X10_again : GoodIn wsL_law (wsV RL 100 RX10 yX10_again wsX10_again) := goodIn_app (goodIn_of _ (by decide +kernel)) ggL_law_X10_again
set_option maxRecDepth 20000 in
theorem ggL_law_X9_strike : GoodIn wsL_law wsX9_strike := goodIn_r _ [751, 41, 664, 674, 665, 666, 667, 2, 668, 42, 191, 192, 193, 244, 245, 246, 247, 19, 752, 753, 754, 56, 755, 141, 724, 725, 726, 727, 142, 890, 891, 892, 893, 894, 895, 896, 897, 898, 899, 900, 901, 902, 903, 904, 905, 1006, 1007, 1008, 1009, 1010, 1011, 1012] (by decide +kernel) (by decide +kernel)
set_option maxRecDepth 20000 in
theorem gL_law_X9_strike : GoodIn wsL_law (wsV RL 101 RX9 yX9_strike wsX9_strike) := goodIn_app (goodIn_of _ (by decide +kernel)) ggL_law_X9_strike
set_option maxRecDepth 20000 in
theorem ggL_law_X10_strike : GoodIn wsL_law wsX10_strike := goodIn_r _ [759, 172, 175, 173, 698, 699, 700, 5, 701, 650, 732, 733, 734, 735, 906, 907, 908, 909, 910, 911, 912, 913, 914, 915, 916, 917, 918, 919, 920, 921, 922, 923, 924, 925, 926, 927, 928, 929, 930, 931, 932, 933, 934, 935, 936, 937, 938, 939, 940, 941, 942, 943, 944, 945, 946, 947, 948, 949, 950, 951, 952, 953] (by decide +kernel) (by decide +kernel)
set_option maxRecDepth 20000 in
theorem gL_law_X10_strike : GoodIn wsL_law (wsV RL 104 RX10 yX10_strike wsX10_strike) := goodIn_app (goodIn_of _ (by decide +kernel)) ggL_law_X10_strike
set_option maxRecDepth 20000 in
theorem ggL_law_X9_finalists : GoodIn wsL_law wsX9_finalists := goodIn_r _ [763, 50, 41, 42, 764, 191, 192, 2, 193, 765, 766, 767, 49, 768, 111, 113, 769, 114, 770, 771, 772, 773, 774, 775, 776, 725, 726, 56, 727, 142, 777, 778, 779, 780, 781, 782, 783, 784, 109, 110, 785, 786, 787, 788, 890, 891, 892, 893, 894, 895, 896, 897, 898, 899, 900, 901, 902, 903, 904, 905, 987, 988, 989, 990, 991, 1006, 1007, 1008, 1009, 1010, 1011, 1012] (by decide +kernel) (by decide +kernel)
set_option maxRecDepth 20000 in
theorem gL_law_X9_finalists : GoodIn wsL_law (wsV RL 105 RX9 yX9_finalists wsX9_finalists) := goodIn_app (goodIn_of _ (by decide +kernel)) ggL_law_X9_finalists
set_option maxRecDepth 20000 in
theorem ggL_law_X10_finalists : GoodIn wsL_law wsX10_finalists := goodIn_r _ [792, 238, 180, 181, 650, 171, 173, 172, 793, 179, 732, 733, 734, 5, 735, 906, 907, 908, 909, 910, 911, 912, 913, 914, 915, 916, 917, 918, 919, 920, 921, 922, 923, 924, 925, 926, 927, 928, 929, 930, 931, 932, 933, 934, 935, 936, 937, 938, 939, 940, 941, 942, 943, 944, 945, 946, 947, 948, 949, 950, 951, 952, 953] (by decide +kernel) (by decide +kernel)
set_option maxRecDepth 20000 in
theorem gL_law_X10_finalists : GoodIn wsL_law (wsV RL 108 RX10 yX10_finalists wsX10_finalists) := goodIn_app (goodIn_of _ (by decide +kernel)) ggL_law_X10_finalists
set_option maxRecDepth 20000 in
theorem ggL_law_X9_finalist : GoodIn wsL_law wsX9_finalist := goodIn_r _ [797, 50, 764, 798, 191, 192, 2, 193, 890, 891, 892, 893, 894, 895, 896, 897, 898, 899, 900, 901, 902, 903, 904, 905, 987, 988, 989, 990, 991] (by decide +kernel) (by decide +kernel)
set_option maxRecDepth 20000 in
theorem gL_law_X9_finalist : GoodIn wsL_law (wsV RL 109 RX9 yX9_finalist wsX9_finalist) := goodIn_app (goodIn_of _ (by decide +kernel)) ggL_law_X9_finalist
set_option maxRecDepth 20000 in
theorem ggL_law_X10_finalist : GoodIn wsL_law wsX10_finalist := goodIn_r _ [802, 793, 179, 906, 907, 908, 909, 910, 911, 912, 913, 914, 915, 916, 917, 918, 919, 920, 921, 922, 923, 924, 925, 926, 927, 928, 929, 930, 931, 932, 933, 934, 935, 936, 937, 938, 939, 940, 941, 942, 943, 944, 945, 946, 947, 948, 949, 950, 951, 952, 953] (by decide +kernel) (by decide +kernel)
set_option maxRecDepth 20000 in
theorem gL_law_X10_finalist : GoodIn wsL_law (wsV RL 112 RX10 yX10_finalist wsX10_finalist) := goodIn_app (goodIn_of _ (by decide +kernel)) ggL_law_X10_finalist
set_option maxRecDepth 20000 in
theorem ggL_law_X9_slack : GoodIn wsL_law wsX9_slack := goodIn_r _ [806, 42, 41, 636, 637, 638, 56, 639, 138, 640, 331, 291, 332, 641, 642, 643, 2, 644, 645, 606, 607, 608, 609, 18, 610, 890, 891, 892, 893, 894, 895, 896, 897, 898, 899, 900, 901, 902, 903, 904, 905, 1006, 1007, 1008, 1009, 1010, 1011, 1012, 992, 993, 994, 995, 996, 997, 998, 999] (by decide +kernel) (by decide +kernel)
set_option maxRecDepth 20000 in
theorem gL_law_X9_slack : GoodIn wsL_law (wsV RL 113 RX9 yX9_slack wsX9_slack) := goodIn_app (goodIn_of _ (by decide +kernel)) ggL_law_X9_slack
set_option maxRecDepth 20000 in
theorem ggL_law_X10_slack : GoodIn wsL_law wsX10_slack := goodIn_r _ [810, 650, 172, 170, 620, 621, 622, 5, 623, 158, 160, 264, 265, 266, 267, 371, 372, 373, 906, 907, 908, 909, 910, 911, 912, 913, 914, 915, 916, 917, 918, 919, 920, 921, 922, 923, 924, 925, 926, 927, 928, 929, 930, 931, 932, 933, 934, 935, 936, 937, 938, 939, 940, 941, 942, 943, 944, 945, 946, 947, 948, 949, 950, 951, 952, 953] (by decide +kernel) (by decide +kernel)
set_option maxRecDepth 20000 in
theorem gL_law_X10_slack : GoodIn wsL_law (wsV RL 116 RX10 yX10_slack wsX10_slack) := goodIn_app (goodIn_of _ (by decide +kernel)) ggL_law_X10_slack
set_option maxRecDepth 20000 in
theorem ggL_law_X9_level : GoodIn wsL_law wsX9_level := goodIn_r _ [814, 815, 19, 816, 817, 291, 818, 603, 604, 2, 605, 191, 192, 193, 819, 820, 821, 822, 42, 41, 645, 674, 823, 824, 825, 890, 891, 892, 893, 894, 895, 896, 897, 898, 899, 900, 901, 902, 903, 904, 905, 1006, 1007, 1008, 1009, 1010, 1011, 1012] (by decide +kernel) (by decide +kernel)
set_option maxRecDepth 20000 in
theorem gL_law_X9_level : GoodIn wsL_law (wsV RL 117 RX9 yX9_level wsX9_level) := goodIn_app (goodIn_of _ (by decide +kernel)) ggL_law_X9_level
set_option maxRecDepth 20000 in
theorem ggL_law_X10_level : GoodIn wsL_law wsX10_level := goodIn_r _ [829, 830, 831, 832, 238, 833, 834, 835, 5, 836, 650, 172, 173, 906, 907, 908, 909, 910, 911, 912, 913, 914, 915, 916, 917, 918, 919, 920, 921, 922, 923, 924, 925, 926, 927, 928, 929, 930, 931, 932, 933, 934, 935, 936, 937, 938, 939, 940, 941, 942, 943, 944, 945, 946, 947, 948, 949, 950, 951, 952, 953] (by decide +kernel) (by decide +kernel)
set_option maxRecDepth 20000 in
theorem gL_law_X10_level : GoodIn wsL_law (wsV RL 121 RX10 yX10_level wsX10_level) := goodIn_app (goodIn_of _ (by decide +kernel)) ggL_law_X10_level
set_option maxRecDepth 20000 in
theorem ggL_law_X9_points : GoodIn wsL_law wsX9_points := goodIn_r _ [840, 244, 245, 246, 2, 247, 19, 191, 192, 193, 841, 842, 843, 844, 42, 41, 845, 752, 753, 754, 56, 755, 141, 846, 847, 848, 849, 142, 850, 725, 726, 727, 890, 891, 892, 893, 894, 895, 896, 897, 898, 899, 900, 901, 902, 903, 904, 905, 1006, 1007, 1008, 1009, 1010, 1011, 1012] (by decide +kernel) (by decide +kernel)
set_option maxRecDepth 20000 in
theorem gL_law_X9_points : GoodIn wsL_law (wsV RL 122 RX9 yX9_points wsX9_points) := goodIn_app (goodIn_of _ (by decide +kernel)) ggL_law_X9_points
set_option maxRecDepth 20000 in
theorem ggL_law_X10_points : GoodIn wsL_law wsX10_points := goodIn_r _ [854, 260, 261, 262, 5, 263, 238, 855, 856, 857, 858, 650, 171, 172, 173, 732, 733, 734, 735, 859, 860, 861, 906, 907, 908, 909, 910, 911, 912, 913, 914, 915, 916, 917, 918, 919, 920, 921, 922, 923, 924, 925, 926, 927, 928, 929, 930, 931, 932, 933, 934, 935, 936, 937, 938, 939, 940, 941, 942, 943, 944, 945, 946, 947, 948, 949, 950, 951, 952, 953] (by decide +kernel) (by decide +kernel)
set_option maxRecDepth 20000 in
theorem gL_law_X10_points : GoodIn wsL_law (wsV RL 125 RX10 yX10_points wsX10_points) := goodIn_app (goodIn_of _ (by decide +kernel)) ggL_law_X10_points
set_option maxRecDepth 20000 in
theorem ggL_law_X9_table : GoodIn wsL_law wsX9_table := goodIn_r _ [865, 19, 866, 867, 868, 2, 869, 841, 842, 843, 844, 42, 41, 845, 752, 753, 754, 56, 755, 141, 846, 847, 848, 849, 142, 850, 725, 726, 727, 890, 891, 892, 893, 894, 895, 896, 897, 898, 899, 900, 901, 902, 903, 904, 905, 1006, 1007, 1008, 1009, 1010, 1011, 1012] (by decide +kernel) (by decide +kernel)
set_option maxRecDepth 20000 in
theorem gL_law_X9_table : GoodIn wsL_law (wsV RL 126 RX9 yX9_table wsX9_table) := goodIn_app (goodIn_of _ (by decide +kernel)) ggL_law_X9_table
set_option maxRecDepth 20000 in
theorem ggL_law_X10_table : GoodIn wsL_law wsX10_table := goodIn_r _ [873, 238, 855, 856, 857, 5, 858, 650, 171, 172, 173, 732, 733, 734, 735, 859, 860, 861, 906, 907, 908, 909, 910, 911, 912, 913, 914, 915, 916, 917, 918, 919, 920, 921, 922, 923, 924, 925, 926, 927, 928, 929, 930, 931, 932, 933, 934, 935, 936, 937, 938, 939, 940, 941, 942, 943, 944, 945, 946, 947, 948, 949, 950, 951, 952, 953] (by decide +kernel) (by decide +kernel)
set_option maxRecDepth 20000 in
theorem gL_law_X10_table : GoodIn wsL_law (wsV RL 129 RX10 yX10_table wsX10_table) := goodIn_app (goodIn_of _ (by decide +kernel)) ggL_law_X10_table
set_option maxRecDepth 20000 in
theorem ggL_law_X9_count : GoodIn wsL_law wsX9_count := goodIn_r _ [877, 16, 190, 19, 34, 42, 31, 433, 37, 611, 612, 613, 2, 614, 38, 878, 879, 880, 881, 18, 282, 882, 883, 884, 885, 41, 690, 691, 692, 56, 693, 142, 890, 891, 892, 893, 894, 895, 896, 897, 898, 899, 900, 901, 902, 903, 904, 905, 954, 955, 956, 957, 958, 959, 960, 982, 983, 984, 992, 993, 994, 995, 996, 997, 998, 999, 1006, 1007, 1008, 1009, 1010, 1011, 1012] (by decide +kernel) (by decide +kernel)
set_option maxRecDepth 20000 in
theorem gL_law_X9_count : GoodIn wsL_law (wsV RL 130 RX9 yX9_count wsX9_count) := goodIn_app (goodIn_of _ (by decide +kernel)) ggL_law_X9_count
set_option maxRecDepth 20000 in
theorem ggL_law_X10_count : GoodIn wsL_law wsX10_count := goodIn_r _ [889, 202, 238, 547, 650, 619, 443, 149, 162, 173, 906, 907, 908, 909, 910, 911, 912, 913, 914, 915, 916, 917, 918, 919, 920, 921, 922, 923, 924, 925, 926, 927, 928, 929, 930, 931, 932, 933, 934, 935, 936, 937, 938, 939, 940, 941, 942, 943, 944, 945, 946, 947, 948, 949, 950, 951, 952, 953] (by decide +kernel) (by decide +kernel)
set_option maxRecDepth 20000 in
theorem gL_law_X10_count : GoodIn wsL_law (wsV RL 133 RX10 yX10_count wsX10_count) := goodIn_app (goodIn_of _ (by decide +kernel)) ggL_law_X10_count
