theorem inlX0 : ∀ w ∈ wsX00, w ∈ wsL_law := fun _ h => List.mem_append_left _ (List.mem_append_left _ (List.mem_append_left _ (List.mem_append_left _ (List.mem_append_left _ (List.mem_append_right _ h)))))
theorem inX0 : ∀ w ∈ wsX00, w ∈ lw_tbl := fun w h => wsL_law_in w (inlX0 w h)
theorem inlX1 : ∀ w ∈ wsX10, w ∈ wsL_law := fun _ h => List.mem_append_left _ (List.mem_append_right _ h)
theorem inX1 : ∀ w ∈ wsX10, w ∈ lw_tbl := fun w h => wsL_law_in w (inlX1 w h)
theorem inlX2 : ∀ w ∈ wsX20, w ∈ wsL_law := fun _ h => List.mem_append_left _ (List.mem_append_left _ (List.mem_append_left _ (List.mem_append_left _ (List.mem_append_left _ (List.mem_append_left _ (List.mem_append_right _ h))))))
theorem inX2 : ∀ w ∈ wsX20, w ∈ lw_tbl := fun w h => wsL_law_in w (inlX2 w h)
theorem inlX3 : ∀ w ∈ wsX30, w ∈ wsL_law := fun _ h => List.mem_append_left _ (List.mem_append_left _ (List.mem_append_right _ h))
theorem inX3 : ∀ w ∈ wsX30, w ∈ lw_tbl := fun w h => wsL_law_in w (inlX3 w h)
theorem inlX4 : ∀ w ∈ wsX40, w ∈ wsL_law := fun _ h => List.mem_append_left _ (List.mem_append_left _ (List.mem_append_left _ (List.mem_append_right _ h)))
theorem inX4 : ∀ w ∈ wsX40, w ∈ lw_tbl := fun w h => wsL_law_in w (inlX4 w h)
theorem inlX5 : ∀ w ∈ wsX50, w ∈ wsL_law := fun _ h => List.mem_append_left _ (List.mem_append_left _ (List.mem_append_left _ (List.mem_append_left _ (List.mem_append_left _ (List.mem_append_left _ (List.mem_append_left _ (List.mem_append_right _ h)))))))
theorem inX5 : ∀ w ∈ wsX50, w ∈ lw_tbl := fun w h => wsL_law_in w (inlX5 w h)
theorem inlX6 : ∀ w ∈ wsX60, w ∈ wsL_law := fun _ h => List.mem_append_left _ (List.mem_append_left _ (List.mem_append_left _ (List.mem_append_left _ (List.mem_append_right _ h))))
theorem inX6 : ∀ w ∈ wsX60, w ∈ lw_tbl := fun w h => wsL_law_in w (inlX6 w h)
theorem inlX7 : ∀ w ∈ wsX70, w ∈ wsL_law := fun _ h => List.mem_append_left _ (List.mem_append_left _ (List.mem_append_left _ (List.mem_append_left _ (List.mem_append_left _ (List.mem_append_left _ (List.mem_append_left _ (List.mem_append_left _ (List.mem_append_left _ (List.mem_append_right _ h)))))))))
theorem inX7 : ∀ w ∈ wsX70, w ∈ lw_tbl := fun w h => wsL_law_in w (inlX7 w h)
theorem inlX8 : ∀ w ∈ wsX80, w ∈ wsL_law := fun _ h => List.mem_append_left _ (List.mem_append_left _ (List.mem_append_left _ (List.mem_append_left _ (List.mem_append_left _ (List.mem_append_left _ (List.mem_append_left _ (List.mem_append_left _ (List.mem_append_right _ h))))))))
theorem inX8 : ∀ w ∈ wsX80, w ∈ lw_tbl := fun w h => wsL_law_in w (inlX8 w h)
theorem inJ6 : ∀ w ∈ wsJ60, w ∈ lw_tbl := by decide +kernel
theorem inJ9 : ∀ w ∈ wsJ90, w ∈ lw_tbl := by decide +kernel
theorem inJ0 : ∀ w ∈ wsJ00, w ∈ lw_tbl := by decide +kernel
theorem inJ1 : ∀ w ∈ wsJ10, w ∈ lw_tbl := by decide +kernel
theorem inJ2 : ∀ w ∈ wsJ20, w ∈ lw_tbl := by decide +kernel
theorem inJ3 : ∀ w ∈ wsJ30, w ∈ lw_tbl := by decide +kernel
set_option maxRecDepth 20000 in
theorem ggL_law_X7_init : GoodIn wsL_law wsX7_init := goodIn_r _ [9, 10, 11, 12, 13, 14, 15, 16, 17, 18, 19, 20, 21, 22, 23, 24, 25, 26, 27, 28, 29, 30, 31, 32, 33, 34, 35, 36, 37, 38, 39, 40, 41, 42, 43, 44, 45, 46, 47, 48, 49, 50, 51, 52, 53, 54, 55, 56, 57, 58, 59, 60, 61, 62, 63, 64, 65, 66, 67, 68, 69, 70, 71, 72, 73, 74, 75, 76, 77, 78, 79, 80, 81, 82, 83, 84, 85, 86, 87, 88, 89, 90, 91, 92, 93, 94, 95, 96, 97, 98, 962, 963, 916, 917, 918, 919, 920, 921, 922, 923, 924, 925, 926, 964, 965, 966, 967, 968, 969, 970, 971, 972, 973, 974, 975, 976, 977, 978, 979, 980, 981, 982, 983, 984, 985, 986, 987, 988, 989, 990, 991, 992, 993, 994, 995, 996, 997, 998, 999, 1000, 1001, 1002, 1003, 1004, 1005] (by decide +kernel) (by decide +kernel)
set_option maxRecDepth 20000 in
theorem gL_law_X7_init : GoodIn wsL_law (wsX7_init) := ggL_law_X7_init
set_option maxRecDepth 20000 in
theorem ggL_law_X8_init : GoodIn wsL_law wsX8_init := goodIn_r _ [101, 102, 11, 12, 64, 103, 23, 104, 105, 106, 107, 108, 109, 110, 111, 112, 113, 114, 115, 116, 117, 118, 119, 120, 121, 122, 123, 927, 928, 929, 930, 931, 932, 933, 934, 935, 936, 937, 938, 939, 940, 941, 942, 943, 944, 945, 946, 947, 948, 949, 950, 951, 952, 953, 954, 955, 956, 957, 958, 959, 960, 961] (by decide +kernel) (by decide +kernel)
set_option maxRecDepth 20000 in
theorem gL_law_X8_init : GoodIn wsL_law (wsX8_init) := ggL_law_X8_init
set_option maxRecDepth 20000 in
theorem ggL_law_X7_feed : GoodIn wsL_law wsX7_feed := goodIn_r _ [127, 128, 16, 129, 130, 131, 132, 15, 133, 134, 50, 916, 917, 918, 919, 920, 921, 922, 923, 924, 925, 926, 962, 963] (by decide +kernel) (by decide +kernel)
set_option maxRecDepth 20000 in
theorem gL_law_X7_feed : GoodIn wsL_law (wsV RL 15 RX7 yX7_feed wsX7_feed) := goodIn_app (goodIn_of _ (by decide +kernel)) ggL_law_X7_feed
set_option maxRecDepth 20000 in
theorem ggL_law_X8_feed : GoodIn wsL_law wsX8_feed := goodIn_r _ [138, 139, 140, 141, 142, 115, 143, 144, 145, 5, 146, 927, 928, 929, 930, 931, 932, 933, 934, 935, 936, 937, 938, 939, 940, 941, 942, 943, 944, 945, 946, 947, 948, 949, 950, 951, 952, 953, 954, 955, 956, 957, 958, 959, 960, 961] (by decide +kernel) (by decide +kernel)
set_option maxRecDepth 20000 in
theorem gL_law_X8_feed : GoodIn wsL_law (wsV RL 19 RX8 yX8_feed wsX8_feed) := goodIn_app (goodIn_of _ (by decide +kernel)) ggL_law_X8_feed
set_option maxRecDepth 20000 in
theorem ggL_law_X7_wall : GoodIn wsL_law wsX7_wall := goodIn_r _ [150, 20, 16, 45, 44, 28, 32, 24, 43, 151, 152, 153, 19, 154, 56, 58, 155, 156, 59, 60, 157, 158, 159, 42, 160, 161, 162, 163, 68, 69, 164, 165, 166, 34, 167, 74, 168, 169, 170, 171, 172, 173, 174, 175, 176, 177, 81, 79, 80, 75, 82, 178, 179, 180, 181, 76, 77, 78, 182, 183, 184, 185, 186, 187, 188, 15, 189, 134, 50, 190, 191, 192, 193, 194, 195, 196, 197, 198, 199, 200, 201, 202, 203, 204, 205, 206, 207, 208, 209, 210, 211, 212, 213, 214, 215, 216, 217, 218, 219, 220, 221, 222, 223, 224, 225, 226, 227, 228, 229, 230, 231, 232, 233, 234, 235, 236, 237, 238, 239, 240, 241, 242, 243, 244, 245, 246, 247, 248, 249, 250, 251, 252, 253, 254, 255, 256, 257, 258, 259, 260, 261, 262, 263, 264, 265, 266, 267, 268, 269, 270, 271, 272, 273, 274, 275, 276, 277, 278, 279, 280, 281, 282, 283, 284, 285, 286, 287, 288, 65, 66, 70, 289, 290, 291, 292, 293, 294, 295, 296, 297, 298, 299, 300, 301, 67, 302, 303, 304, 305, 306, 307, 308, 309, 310, 311, 312, 313, 314, 315, 316, 317, 318, 319, 320, 321, 322, 323, 324, 325, 326, 327, 328, 2, 329, 916, 917, 918, 919, 920, 921, 922, 923, 924, 925, 926, 962, 963, 964, 965, 966, 967, 968, 969, 970, 979, 980, 981, 982, 983, 984, 985, 986, 987, 988, 989, 990, 991, 992, 993, 971, 972, 973, 974, 975, 976, 977, 978, 997, 998, 999, 1000, 1001, 1002, 1003, 1004, 1005] (by decide +kernel) (by decide +kernel)
set_option maxRecDepth 20000 in
theorem gL_law_X7_wall : GoodIn wsL_law (wsV RL 20 RX7 yX7_wall wsX7_wall) := goodIn_app (goodIn_of _ (by decide +kernel)) ggL_law_X7_wall
set_option maxRecDepth 20000 in
theorem ggL_law_X8_wall : GoodIn wsL_law wsX8_wall := goodIn_r _ [333, 334, 335, 116, 336, 337, 338, 339, 141, 340, 341, 342, 103, 105, 106, 114, 112, 113, 107, 111, 108, 109, 110, 343, 344, 104, 345, 346, 347, 5, 348, 115, 349, 350, 351, 352, 353, 354, 355, 356, 357, 358, 359, 360, 144, 145, 146, 361, 362, 363, 364, 365, 366, 367, 368, 369, 370, 371, 372, 373, 374, 375, 376, 377, 378, 379, 380, 381, 382, 383, 384, 385, 386, 387, 388, 389, 390, 391, 392, 393, 394, 395, 396, 397, 927, 928, 929, 930, 931, 932, 933, 934, 935, 936, 937, 938, 939, 940, 941, 942, 943, 944, 945, 946, 947, 948, 949, 950, 951, 952, 953, 954, 955, 956, 957, 958, 959, 960, 961] (by decide +kernel) (by decide +kernel)
set_option maxRecDepth 20000 in
theorem gL_law_X8_wall : GoodIn wsL_law (wsV RL 24 RX8 yX8_wall wsX8_wall) := goodIn_app (goodIn_of _ (by decide +kernel)) ggL_law_X8_wall
set_option maxRecDepth 20000 in
theorem ggL_law_X7_fault : GoodIn wsL_law wsX7_fault := goodIn_r _ [401, 45, 916, 917, 918, 919, 920, 921, 922, 923, 924, 925, 926] (by decide +kernel) (by decide +kernel)
set_option maxRecDepth 20000 in
theorem gL_law_X7_fault : GoodIn wsL_law (wsV RL 25 RX7 yX7_fault wsX7_fault) := goodIn_app (goodIn_of _ (by decide +kernel)) ggL_law_X7_fault
set_option maxRecDepth 20000 in
theorem ggL_law_X8_fault : GoodIn wsL_law wsX8_fault := goodIn_r _ [405, 116, 927, 928, 929, 930, 931, 932, 933, 934, 935, 936, 937, 938, 939, 940, 941, 942, 943, 944, 945, 946, 947, 948, 949, 950, 951, 952, 953, 954, 955, 956, 957, 958, 959, 960, 961] (by decide +kernel) (by decide +kernel)
set_option maxRecDepth 20000 in
theorem gL_law_X8_fault : GoodIn wsL_law (wsV RL 28 RX8 yX8_fault wsX8_fault) := goodIn_app (goodIn_of _ (by decide +kernel)) ggL_law_X8_fault
set_option maxRecDepth 20000 in
theorem ggL_law_X7_told : GoodIn wsL_law wsX7_told := goodIn_r _ [409, 43, 16, 44, 28, 32, 128, 410, 411, 412, 42, 413, 161, 65, 916, 917, 918, 919, 920, 921, 922, 923, 924, 925, 926, 997, 998, 999, 1000, 1001, 1002, 1003, 1004, 1005, 962, 963, 979, 980, 981, 982, 983, 984, 985, 986, 987, 988, 989, 990, 991, 992, 993, 971, 972, 973, 974, 975, 976, 977, 978] (by decide +kernel) (by decide +kernel)
set_option maxRecDepth 20000 in
theorem gL_law_X7_told : GoodIn wsL_law (wsV RL 29 RX7 yX7_told wsX7_told) := goodIn_app (goodIn_of _ (by decide +kernel)) ggL_law_X7_told
set_option maxRecDepth 20000 in
theorem ggL_law_X8_told : GoodIn wsL_law wsX8_told := goodIn_r _ [417, 340, 341, 342, 141, 103, 343, 344, 140, 418, 419, 420, 5, 421, 105, 927, 928, 929, 930, 931, 932, 933, 934, 935, 936, 937, 938, 939, 940, 941, 942, 943, 944, 945, 946, 947, 948, 949, 950, 951, 952, 953, 954, 955, 956, 957, 958, 959, 960, 961] (by decide +kernel) (by decide +kernel)
set_option maxRecDepth 20000 in
theorem gL_law_X8_told : GoodIn wsL_law (wsV RL 33 RX8 yX8_told wsX8_told) := goodIn_app (goodIn_of _ (by decide +kernel)) ggL_law_X8_told
set_option maxRecDepth 20000 in
theorem ggL_law_X7_coin : GoodIn wsL_law wsX7_coin := goodIn_r _ [425, 43, 426, 44, 128, 427, 428, 429, 42, 430, 161, 431, 432, 433, 434, 66, 435, 436, 437, 438, 162, 439, 440, 441, 442, 443, 916, 917, 918, 919, 920, 921, 922, 923, 924, 925, 926, 997, 998, 999, 1000, 1001, 1002, 1003, 1004, 1005, 979, 980, 981, 982, 983, 984, 985, 986, 987, 988, 989, 990, 991, 992, 993] (by decide +kernel) (by decide +kernel)
set_option maxRecDepth 20000 in
theorem gL_law_X7_coin : GoodIn wsL_law (wsV RL 34 RX7 yX7_coin wsX7_coin) := goodIn_app (goodIn_of _ (by decide +kernel)) ggL_law_X7_coin
set_option maxRecDepth 20000 in
theorem ggL_law_X8_coin : GoodIn wsL_law wsX8_coin := goodIn_r _ [447, 448, 105, 106, 103, 140, 449, 450, 451, 5, 452, 340, 144, 145, 146, 453, 454, 455, 456, 457, 458, 459, 460, 341, 461, 462, 463, 464, 395, 396, 397, 927, 928, 929, 930, 931, 932, 933, 934, 935, 936, 937, 938, 939, 940, 941, 942, 943, 944, 945, 946, 947, 948, 949, 950, 951, 952, 953, 954, 955, 956, 957, 958, 959, 960, 961] (by decide +kernel) (by decide +kernel)
set_option maxRecDepth 20000 in
theorem gL_law_X8_coin : GoodIn wsL_law (wsV RL 38 RX8 yX8_coin wsX8_coin) := goodIn_app (goodIn_of _ (by decide +kernel)) ggL_law_X8_coin
set_option maxRecDepth 20000 in
theorem ggL_law_X7_column : GoodIn wsL_law wsX7_column := goodIn_r _ [468, 43, 426, 44, 128, 469, 311, 312, 42, 313, 162, 470, 471, 472, 34, 473, 76, 474, 475, 476, 477, 161, 443, 432, 433, 434, 66, 478, 479, 480, 481, 163, 67, 916, 917, 918, 919, 920, 921, 922, 923, 924, 925, 926, 979, 980, 981, 982, 983, 984, 985, 986, 987, 988, 989, 990, 991, 992, 993, 997, 998, 999, 1000, 1001, 1002, 1003, 1004, 1005] (by decide +kernel) (by decide +kernel)
set_option maxRecDepth 20000 in
theorem gL_law_X7_column : GoodIn wsL_law (wsV RL 39 RX7 yX7_column wsX7_column) := goodIn_app (goodIn_of _ (by decide +kernel)) ggL_law_X7_column
set_option maxRecDepth 20000 in
theorem ggL_law_X8_column : GoodIn wsL_law wsX8_column := goodIn_r _ [485, 448, 103, 140, 486, 487, 488, 5, 489, 341, 144, 145, 146, 395, 396, 397, 490, 491, 492, 493, 342, 340, 114, 453, 454, 455, 456, 106, 461, 462, 463, 464, 927, 928, 929, 930, 931, 932, 933, 934, 935, 936, 937, 938, 939, 940, 941, 942, 943, 944, 945, 946, 947, 948, 949, 950, 951, 952, 953, 954, 955, 956, 957, 958, 959, 960, 961] (by decide +kernel) (by decide +kernel)
set_option maxRecDepth 20000 in
theorem gL_law_X8_column : GoodIn wsL_law (wsV RL 42 RX8 yX8_column wsX8_column) := goodIn_app (goodIn_of _ (by decide +kernel)) ggL_law_X8_column
set_option maxRecDepth 20000 in
theorem ggL_law_X7_buy : GoodIn wsL_law wsX7_buy := goodIn_r _ [497, 43, 426, 128, 44, 469, 311, 312, 42, 313, 162, 427, 428, 429, 430, 161, 498, 499, 500, 501, 502, 503, 504, 274, 275, 276, 505, 506, 507, 508, 65, 509, 471, 472, 34, 473, 76, 439, 440, 441, 442, 443, 432, 433, 434, 66, 510, 511, 512, 513, 74, 514, 515, 516, 517, 168, 518, 519, 520, 521, 522, 70, 916, 917, 918, 919, 920, 921, 922, 923, 924, 925, 926, 997, 998, 999, 1000, 1001, 1002, 1003, 1004, 1005, 979, 980, 981, 982, 983, 984, 985, 986, 987, 988, 989, 990, 991, 992, 993] (by decide +kernel) (by decide +kernel)
set_option maxRecDepth 20000 in
theorem gL_law_X7_buy : GoodIn wsL_law (wsV RL 43 RX7 yX7_buy wsX7_buy) := goodIn_app (goodIn_of _ (by decide +kernel)) ggL_law_X7_buy
set_option maxRecDepth 20000 in
theorem ggL_law_X8_buy : GoodIn wsL_law wsX8_buy := goodIn_r _ [526, 448, 527, 140, 528, 105, 103, 486, 487, 488, 5, 489, 341, 144, 145, 146, 449, 450, 451, 452, 340, 529, 530, 531, 532, 453, 454, 455, 456, 106, 461, 462, 463, 464, 533, 534, 535, 536, 537, 538, 539, 540, 541, 542, 543, 544, 545, 546, 547, 548, 549, 550, 551, 552, 553, 388, 389, 390, 927, 928, 929, 930, 931, 932, 933, 934, 935, 936, 937, 938, 939, 940, 941, 942, 943, 944, 945, 946, 947, 948, 949, 950, 951, 952, 953, 954, 955, 956, 957, 958, 959, 960, 961] (by decide +kernel) (by decide +kernel)
set_option maxRecDepth 20000 in
theorem gL_law_X8_buy : GoodIn wsL_law (wsV RL 47 RX8 yX8_buy wsX8_buy) := goodIn_app (goodIn_of _ (by decide +kernel)) ggL_law_X8_buy
set_option maxRecDepth 20000 in
theorem ggL_law_X7_kick : GoodIn wsL_law wsX7_kick := goodIn_r _ [557, 43, 426, 128, 44, 558, 469, 311, 312, 42, 313, 162, 470, 471, 472, 34, 473, 76, 559, 560, 561, 562, 77, 78, 518, 274, 275, 276, 563, 564, 565, 566, 69, 68, 567, 179, 180, 181, 916, 917, 918, 919, 920, 921, 922, 923, 924, 925, 926, 979, 980, 981, 982, 983, 984, 985, 986, 987, 988, 989, 990, 991, 992, 993, 997, 998, 999, 1000, 1001, 1002, 1003, 1004, 1005] (by decide +kernel) (by decide +kernel)
set_option maxRecDepth 20000 in
theorem gL_law_X7_kick : GoodIn wsL_law (wsV RL 48 RX7 yX7_kick wsX7_kick) := goodIn_app (goodIn_of _ (by decide +kernel)) ggL_law_X7_kick
set_option maxRecDepth 20000 in
theorem ggL_law_X8_kick : GoodIn wsL_law wsX8_kick := goodIn_r _ [571, 448, 140, 103, 528, 113, 112, 486, 487, 488, 5, 489, 341, 144, 145, 146, 927, 928, 929, 930, 931, 932, 933, 934, 935, 936, 937, 938, 939, 940, 941, 942, 943, 944, 945, 946, 947, 948, 949, 950, 951, 952, 953, 954, 955, 956, 957, 958, 959, 960, 961] (by decide +kernel) (by decide +kernel)
set_option maxRecDepth 20000 in
theorem gL_law_X8_kick : GoodIn wsL_law (wsV RL 51 RX8 yX8_kick wsX8_kick) := goodIn_app (goodIn_of _ (by decide +kernel)) ggL_law_X8_kick
set_option maxRecDepth 20000 in
theorem ggL_law_X7_damp : GoodIn wsL_law wsX7_damp := goodIn_r _ [575, 128, 44, 916, 917, 918, 919, 920, 921, 922, 923, 924, 925, 926, 979, 980, 981, 982, 983, 984, 985, 986, 987, 988, 989, 990, 991, 992, 993] (by decide +kernel) (by decide +kernel)
set_option maxRecDepth 20000 in
theorem gL_law_X7_damp : GoodIn wsL_law (wsV RL 52 RX7 yX7_damp wsX7_damp) := goodIn_app (goodIn_of _ (by decide +kernel)) ggL_law_X7_damp
set_option maxRecDepth 20000 in
theorem ggL_law_X8_damp : GoodIn wsL_law wsX8_damp := goodIn_r _ [579, 580, 140, 144, 145, 5, 146, 581, 582, 583, 584, 103, 927, 928, 929, 930, 931, 932, 933, 934, 935, 936, 937, 938, 939, 940, 941, 942, 943, 944, 945, 946, 947, 948, 949, 950, 951, 952, 953, 954, 955, 956, 957, 958, 959, 960, 961] (by decide +kernel) (by decide +kernel)
set_option maxRecDepth 20000 in
theorem gL_law_X8_damp : GoodIn wsL_law (wsV RL 55 RX8 yX8_damp wsX8_damp) := goodIn_app (goodIn_of _ (by decide +kernel)) ggL_law_X8_damp
set_option maxRecDepth 20000 in
theorem ggL_law_X7_wear : GoodIn wsL_law wsX7_wear := goodIn_r _ [588, 128, 44, 916, 917, 918, 919, 920, 921, 922, 923, 924, 925, 926, 979, 980, 981, 982, 983, 984, 985, 986, 987, 988, 989, 990, 991, 992, 993] (by decide +kernel) (by decide +kernel)
set_option maxRecDepth 20000 in
theorem gL_law_X7_wear : GoodIn wsL_law (wsV RL 56 RX7 yX7_wear wsX7_wear) := goodIn_app (goodIn_of _ (by decide +kernel)) ggL_law_X7_wear
set_option maxRecDepth 20000 in
theorem ggL_law_X8_wear : GoodIn wsL_law wsX8_wear := goodIn_r _ [592, 580, 140, 144, 145, 5, 146, 581, 582, 583, 584, 103, 927, 928, 929, 930, 931, 932, 933, 934, 935, 936, 937, 938, 939, 940, 941, 942, 943, 944, 945, 946, 947, 948, 949, 950, 951, 952, 953, 954, 955, 956, 957, 958, 959, 960, 961] (by decide +kernel) (by decide +kernel)
set_option maxRecDepth 20000 in
theorem gL_law_X8_wear : GoodIn wsL_law (wsV RL 59 RX8 yX8_wear wsX8_wear) := goodIn_app (goodIn_of _ (by decide +kernel)) ggL_law_X8_wear
set_option maxRecDepth 20000 in
theorem ggL_law_X7_stock : GoodIn wsL_law wsX7_stock := goodIn_r _ [596, 43, 44, 426, 469, 311, 312, 42, 313, 162, 597, 598, 2, 599, 128, 916, 917, 918, 919, 920, 921, 922, 923, 924, 925, 926, 979, 980, 981, 982, 983, 984, 985, 986, 987, 988, 989, 990, 991, 992, 993, 997, 998, 999, 1000, 1001, 1002, 1003, 1004, 1005] (by decide +kernel) (by decide +kernel)
set_option maxRecDepth 20000 in
theorem gL_law_X7_stock : GoodIn wsL_law (wsV RL 60 RX7 yX7_stock wsX7_stock) := goodIn_app (goodIn_of _ (by decide +kernel)) ggL_law_X7_stock
set_option maxRecDepth 20000 in
theorem ggL_law_X8_stock : GoodIn wsL_law wsX8_stock := goodIn_r _ [603, 448, 604, 140, 486, 487, 488, 5, 489, 341, 144, 145, 146, 581, 582, 583, 584, 103, 927, 928, 929, 930, 931, 932, 933, 934, 935, 936, 937, 938, 939, 940, 941, 942, 943, 944, 945, 946, 947, 948, 949, 950, 951, 952, 953, 954, 955, 956, 957, 958, 959, 960, 961] (by decide +kernel) (by decide +kernel)
set_option maxRecDepth 20000 in
theorem gL_law_X8_stock : GoodIn wsL_law (wsV RL 63 RX8 yX8_stock wsX8_stock) := goodIn_app (goodIn_of _ (by decide +kernel)) ggL_law_X8_stock
set_option maxRecDepth 20000 in
theorem ggL_law_X7_tube : GoodIn wsL_law wsX7_tube := goodIn_r _ [608, 43, 44, 426, 427, 428, 429, 42, 430, 161, 597, 598, 2, 599, 128, 916, 917, 918, 919, 920, 921, 922, 923, 924, 925, 926, 979, 980, 981, 982, 983, 984, 985, 986, 987, 988, 989, 990, 991, 992, 993, 997, 998, 999, 1000, 1001, 1002, 1003, 1004, 1005] (by decide +kernel) (by decide +kernel)
set_option maxRecDepth 20000 in
theorem gL_law_X7_tube : GoodIn wsL_law (wsV RL 64 RX7 yX7_tube wsX7_tube) := goodIn_app (goodIn_of _ (by decide +kernel)) ggL_law_X7_tube
set_option maxRecDepth 20000 in
theorem ggL_law_X8_tube : GoodIn wsL_law wsX8_tube := goodIn_r _ [612, 448, 604, 140, 449, 450, 451, 5, 452, 340, 144, 145, 146, 581, 582, 583, 584, 103, 927, 928, 929, 930, 931, 932, 933, 934, 935, 936, 937, 938, 939, 940, 941, 942, 943, 944, 945, 946, 947, 948, 949, 950, 951, 952, 953, 954, 955, 956, 957, 958, 959, 960, 961] (by decide +kernel) (by decide +kernel)
set_option maxRecDepth 20000 in
theorem gL_law_X8_tube : GoodIn wsL_law (wsV RL 67 RX8 yX8_tube wsX8_tube) := goodIn_app (goodIn_of _ (by decide +kernel)) ggL_law_X8_tube
set_option maxRecDepth 20000 in
theorem ggL_law_X7_price : GoodIn wsL_law wsX7_price := goodIn_r _ [616, 43, 44, 426, 469, 311, 312, 42, 313, 162, 597, 598, 2, 599, 128, 916, 917, 918, 919, 920, 921, 922, 923, 924, 925, 926, 979, 980, 981, 982, 983, 984, 985, 986, 987, 988, 989, 990, 991, 992, 993, 997, 998, 999, 1000, 1001, 1002, 1003, 1004, 1005] (by decide +kernel) (by decide +kernel)
set_option maxRecDepth 20000 in
theorem gL_law_X7_price : GoodIn wsL_law (wsV RL 68 RX7 yX7_price wsX7_price) := goodIn_app (goodIn_of _ (by decide +kernel)) ggL_law_X7_price
set_option maxRecDepth 20000 in
theorem ggL_law_X8_price : GoodIn wsL_law wsX8_price := goodIn_r _ [620, 448, 527, 140, 486, 487, 488, 5, 489, 341, 144, 145, 146, 581, 582, 583, 584, 103, 927, 928, 929, 930, 931, 932, 933, 934, 935, 936, 937, 938, 939, 940, 941, 942, 943, 944, 945, 946, 947, 948, 949, 950, 951, 952, 953, 954, 955, 956, 957, 958, 959, 960, 961] (by decide +kernel) (by decide +kernel)
set_option maxRecDepth 20000 in
theorem gL_law_X8_price : GoodIn wsL_law (wsV RL 71 RX8 yX8_price wsX8_price) := goodIn_app (goodIn_of _ (by decide +kernel)) ggL_law_X8_price
set_option maxRecDepth 20000 in
theorem ggL_law_X7_span : GoodIn wsL_law wsX7_span := goodIn_r _ [624, 43, 426, 128, 44, 469, 311, 312, 42, 313, 162, 916, 917, 918, 919, 920, 921, 922, 923, 924, 925, 926, 979, 980, 981, 982, 983, 984, 985, 986, 987, 988, 989, 990, 991, 992, 993, 997, 998, 999, 1000, 1001, 1002, 1003, 1004, 1005] (by decide +kernel) (by decide +kernel)
set_option maxRecDepth 20000 in
theorem gL_law_X7_span : GoodIn wsL_law (wsV RL 72 RX7 yX7_span wsX7_span) := goodIn_app (goodIn_of _ (by decide +kernel)) ggL_law_X7_span
set_option maxRecDepth 20000 in
theorem ggL_law_X8_span : GoodIn wsL_law wsX8_span := goodIn_r _ [628, 448, 527, 140, 486, 487, 488, 5, 489, 341, 144, 145, 146, 581, 582, 583, 584, 103, 927, 928, 929, 930, 931, 932, 933, 934, 935, 936, 937, 938, 939, 940, 941, 942, 943, 944, 945, 946, 947, 948, 949, 950, 951, 952, 953, 954, 955, 956, 957, 958, 959, 960, 961] (by decide +kernel) (by decide +kernel)
set_option maxRecDepth 20000 in
theorem gL_law_X8_span : GoodIn wsL_law (wsV RL 75 RX8 yX8_span wsX8_span) := goodIn_app (goodIn_of _ (by decide +kernel)) ggL_law_X8_span
set_option maxRecDepth 20000 in
theorem ggL_law_X7_wire : GoodIn wsL_law wsX7_wire := goodIn_r _ [632, 43, 426, 44, 469, 311, 312, 42, 313, 162, 916, 917, 918, 919, 920, 921, 922, 923, 924, 925, 926, 979, 980, 981, 982, 983, 984, 985, 986, 987, 988, 989, 990, 991, 992, 993, 997, 998, 999, 1000, 1001, 1002, 1003, 1004, 1005] (by decide +kernel) (by decide +kernel)
set_option maxRecDepth 20000 in
theorem gL_law_X7_wire : GoodIn wsL_law (wsV RL 76 RX7 yX7_wire wsX7_wire) := goodIn_app (goodIn_of _ (by decide +kernel)) ggL_law_X7_wire
set_option maxRecDepth 20000 in
theorem ggL_law_X8_wire : GoodIn wsL_law wsX8_wire := goodIn_r _ [636, 448, 486, 487, 488, 5, 489, 341, 144, 145, 146, 581, 582, 583, 584, 103, 927, 928, 929, 930, 931, 932, 933, 934, 935, 936, 937, 938, 939, 940, 941, 942, 943, 944, 945, 946, 947, 948, 949, 950, 951, 952, 953, 954, 955, 956, 957, 958, 959, 960, 961] (by decide +kernel) (by decide +kernel)
set_option maxRecDepth 20000 in
theorem gL_law_X8_wire : GoodIn wsL_law (wsV RL 79 RX8 yX8_wire wsX8_wire) := goodIn_app (goodIn_of _ (by decide +kernel)) ggL_law_X8_wire
set_option maxRecDepth 20000 in
theorem ggL_law_X7_drift : GoodIn wsL_law wsX7_drift := goodIn_r _ [640, 128, 43, 558, 44, 641, 642, 643, 34, 644, 173, 645, 646, 647, 648, 649, 650, 651, 2, 652, 498, 499, 500, 42, 501, 502, 503, 504, 274, 275, 276, 505, 506, 507, 508, 65, 509, 471, 472, 473, 76, 439, 440, 441, 442, 443, 432, 433, 434, 66, 510, 511, 512, 513, 74, 514, 515, 516, 517, 168, 518, 519, 520, 521, 522, 161, 70, 916, 917, 918, 919, 920, 921, 922, 923, 924, 925, 926, 997, 998, 999, 1000, 1001, 1002, 1003, 1004, 1005, 979, 980, 981, 982, 983, 984, 985, 986, 987, 988, 989, 990, 991, 992, 993] (by decide +kernel) (by decide +kernel)
set_option maxRecDepth 20000 in
theorem gL_law_X7_drift : GoodIn wsL_law (wsV RL 80 RX7 yX7_drift wsX7_drift) := goodIn_app (goodIn_of _ (by decide +kernel)) ggL_law_X7_drift
set_option maxRecDepth 20000 in
theorem ggL_law_X8_drift : GoodIn wsL_law wsX8_drift := goodIn_r _ [656, 527, 140, 340, 341, 528, 103, 144, 145, 5, 146, 657, 658, 659, 660, 661, 662, 663, 664, 529, 530, 531, 532, 105, 453, 454, 455, 456, 106, 461, 462, 463, 464, 533, 534, 535, 536, 537, 538, 539, 540, 541, 542, 543, 544, 545, 546, 547, 548, 549, 550, 551, 552, 553, 388, 389, 390, 927, 928, 929, 930, 931, 932, 933, 934, 935, 936, 937, 938, 939, 940, 941, 942, 943, 944, 945, 946, 947, 948, 949, 950, 951, 952, 953, 954, 955, 956, 957, 958, 959, 960, 961] (by decide +kernel) (by decide +kernel)
set_option maxRecDepth 20000 in
theorem gL_law_X8_drift : GoodIn wsL_law (wsV RL 83 RX8 yX8_drift wsX8_drift) := goodIn_app (goodIn_of _ (by decide +kernel)) ggL_law_X8_drift
set_option maxRecDepth 20000 in
theorem ggL_law_X7_fewest : GoodIn wsL_law wsX7_fewest := goodIn_r _ [668, 43, 426, 469, 311, 312, 42, 313, 162, 669, 670, 671, 2, 672, 427, 428, 429, 430, 161, 673, 674, 675, 676, 39, 677, 678, 679, 38, 680, 681, 274, 275, 276, 682, 683, 98, 684, 685, 686, 687, 35, 44, 688, 28, 689, 690, 691, 34, 692, 74, 75, 76, 77, 78, 79, 80, 81, 82, 168, 169, 170, 171, 172, 173, 693, 506, 507, 508, 65, 694, 695, 696, 697, 498, 499, 500, 501, 502, 503, 504, 505, 509, 471, 472, 473, 439, 440, 441, 442, 443, 432, 433, 434, 66, 510, 511, 512, 513, 514, 515, 516, 517, 518, 519, 520, 521, 522, 70, 698, 699, 700, 701, 702, 703, 704, 705, 706, 707, 708, 709, 710, 711, 712, 713, 714, 715, 916, 917, 918, 919, 920, 921, 922, 923, 924, 925, 926, 997, 998, 999, 1000, 1001, 1002, 1003, 1004, 1005, 994, 995, 996, 979, 980, 981, 982, 983, 984, 985, 986, 987, 988, 989, 990, 991, 992, 993, 971, 972, 973, 974] (by decide +kernel) (by decide +kernel)
set_option maxRecDepth 20000 in
theorem gL_law_X7_fewest : GoodIn wsL_law (wsV RL 84 RX7 yX7_fewest wsX7_fewest) := goodIn_app (goodIn_of _ (by decide +kernel)) ggL_law_X7_fewest
set_option maxRecDepth 20000 in
theorem ggL_law_X8_fewest : GoodIn wsL_law wsX8_fewest := goodIn_r _ [719, 448, 117, 486, 487, 488, 5, 489, 341, 144, 145, 146, 449, 450, 451, 452, 340, 720, 721, 722, 723, 724, 725, 726, 727, 728, 729, 730, 731, 105, 103, 732, 733, 734, 735, 453, 454, 455, 456, 106, 461, 462, 463, 464, 537, 538, 539, 540, 541, 542, 543, 544, 545, 546, 547, 548, 549, 550, 551, 552, 553, 388, 389, 390, 927, 928, 929, 930, 931, 932, 933, 934, 935, 936, 937, 938, 939, 940, 941, 942, 943, 944, 945, 946, 947, 948, 949, 950, 951, 952, 953, 954, 955, 956, 957, 958, 959, 960, 961] (by decide +kernel) (by decide +kernel)
set_option maxRecDepth 20000 in
theorem gL_law_X8_fewest : GoodIn wsL_law (wsV RL 87 RX8 yX8_fewest wsX8_fewest) := goodIn_app (goodIn_of _ (by decide +kernel)) ggL_law_X8_fewest
set_option maxRecDepth 20000 in
theorem ggL_law_X7_buyer : GoodIn wsL_law wsX7_buyer := goodIn_r _ [739, 43, 426, 128, 28, 129, 469, 311, 312, 42, 313, 162, 427, 428, 429, 430, 161, 740, 741, 742, 27, 743, 744, 86, 87, 88, 916, 917, 918, 919, 920, 921, 922, 923, 924, 925, 926, 971, 972, 973, 974, 997, 998, 999, 1000, 1001, 1002, 1003, 1004, 1005] (by decide +kernel) (by decide +kernel)
set_option maxRecDepth 20000 in
theorem gL_law_X7_buyer : GoodIn wsL_law (wsV RL 88 RX7 yX7_buyer wsX7_buyer) := goodIn_app (goodIn_of _ (by decide +kernel)) ggL_law_X7_buyer
set_option maxRecDepth 20000 in
theorem ggL_law_X8_buyer : GoodIn wsL_law wsX8_buyer := goodIn_r _ [748, 448, 527, 140, 343, 142, 118, 119, 120, 486, 487, 488, 5, 489, 341, 144, 145, 146, 449, 450, 451, 452, 340, 927, 928, 929, 930, 931, 932, 933, 934, 935, 936, 937, 938, 939, 940, 941, 942, 943, 944, 945, 946, 947, 948, 949, 950, 951, 952, 953, 954, 955, 956, 957, 958, 959, 960, 961] (by decide +kernel) (by decide +kernel)
set_option maxRecDepth 20000 in
theorem gL_law_X8_buyer : GoodIn wsL_law (wsV RL 91 RX8 yX8_buyer wsX8_buyer) := goodIn_app (goodIn_of _ (by decide +kernel)) ggL_law_X8_buyer
set_option maxRecDepth 20000 in
theorem ggL_law_X7_fill : GoodIn wsL_law wsX7_fill := goodIn_r _ [752, 426, 669, 670, 671, 2, 672, 43, 427, 428, 429, 42, 430, 161, 673, 674, 675, 676, 39, 677, 678, 679, 38, 680, 681, 274, 275, 276, 682, 683, 98, 684, 685, 686, 687, 35, 44, 688, 28, 689, 690, 691, 34, 692, 74, 75, 76, 77, 78, 79, 80, 81, 82, 168, 169, 170, 171, 172, 173, 693, 506, 507, 508, 65, 694, 695, 696, 697, 498, 499, 500, 501, 502, 503, 504, 505, 509, 471, 472, 473, 439, 440, 441, 442, 443, 432, 433, 434, 66, 510, 511, 512, 513, 514, 515, 516, 517, 518, 519, 520, 521, 522, 70, 698, 699, 700, 701, 702, 703, 704, 705, 706, 707, 708, 709, 710, 711, 712, 713, 714, 715, 916, 917, 918, 919, 920, 921, 922, 923, 924, 925, 926, 997, 998, 999, 1000, 1001, 1002, 1003, 1004, 1005, 994, 995, 996, 979, 980, 981, 982, 983, 984, 985, 986, 987, 988, 989, 990, 991, 992, 993, 971, 972, 973, 974] (by decide +kernel) (by decide +kernel)
set_option maxRecDepth 20000 in
theorem gL_law_X7_fill : GoodIn wsL_law (wsV RL 92 RX7 yX7_fill wsX7_fill) := goodIn_app (goodIn_of _ (by decide +kernel)) ggL_law_X7_fill
set_option maxRecDepth 20000 in
theorem ggL_law_X8_fill : GoodIn wsL_law wsX8_fill := goodIn_r _ [756, 448, 117, 449, 450, 451, 5, 452, 340, 144, 145, 146, 720, 721, 722, 723, 724, 725, 726, 727, 757, 758, 759, 760, 103, 732, 733, 734, 735, 761, 762, 763, 764, 343, 118, 119, 120, 388, 389, 390, 529, 530, 531, 532, 105, 453, 454, 455, 456, 106, 461, 462, 463, 464, 533, 534, 535, 536, 537, 538, 539, 540, 541, 542, 543, 544, 545, 546, 547, 548, 549, 550, 551, 552, 553, 927, 928, 929, 930, 931, 932, 933, 934, 935, 936, 937, 938, 939, 940, 941, 942, 943, 944, 945, 946, 947, 948, 949, 950, 951, 952, 953, 954, 955, 956, 957, 958, 959, 960, 961] (by decide +kernel) (by decide +kernel)
set_option maxRecDepth 20000 in
theorem gL_law_X8_fill : GoodIn wsL_law (wsV RL 95 RX8 yX8_fill wsX8_fill) := goodIn_app (goodIn_of _ (by decide +kernel)) ggL_law_X8_fill
set_option maxRecDepth 20000 in
theorem ggL_law_X7_shortOn : GoodIn wsL_law wsX7_shortOn := goodIn_r _ [768, 28, 35, 44, 689, 690, 691, 34, 692, 74, 75, 76, 77, 78, 79, 80, 81, 82, 168, 169, 170, 171, 172, 173, 769, 770, 771, 2, 772, 773, 774, 775, 776, 558, 694, 695, 696, 697, 43, 498, 499, 500, 42, 501, 502, 503, 504, 274, 275, 276, 505, 506, 507, 508, 65, 509, 471, 472, 473, 439, 440, 441, 442, 443, 432, 433, 434, 66, 510, 511, 512, 513, 514, 515, 516, 517, 518, 519, 520, 521, 522, 161, 70, 916, 917, 918, 919, 920, 921, 922, 923, 924, 925, 926, 971, 972, 973, 974, 979, 980, 981, 982, 983, 984, 985, 986, 987, 988, 989, 990, 991, 992, 993, 997, 998, 999, 1000, 1001, 1002, 1003, 1004, 1005] (by decide +kernel) (by decide +kernel)
set_option maxRecDepth 20000 in
theorem gL_law_X7_shortOn : GoodIn wsL_law (wsV RL 96 RX7 yX7_shortOn wsX7_shortOn) := goodIn_app (goodIn_of _ (by decide +kernel)) ggL_law_X7_shortOn
set_option maxRecDepth 20000 in
theorem ggL_law_X8_shortOn : GoodIn wsL_law wsX8_shortOn := goodIn_r _ [780, 732, 733, 734, 5, 735, 103, 761, 762, 763, 764, 343, 118, 119, 120, 388, 389, 390, 529, 530, 531, 532, 105, 453, 454, 455, 456, 106, 461, 462, 463, 464, 144, 145, 146, 533, 534, 535, 536, 537, 538, 539, 540, 541, 542, 543, 544, 545, 546, 547, 548, 549, 340, 550, 551, 552, 553, 927, 928, 929, 930, 931, 932, 933, 934, 935, 936, 937, 938, 939, 940, 941, 942, 943, 944, 945, 946, 947, 948, 949, 950, 951, 952, 953, 954, 955, 956, 957, 958, 959, 960, 961] (by decide +kernel) (by decide +kernel)
set_option maxRecDepth 20000 in
theorem gL_law_X8_shortOn : GoodIn wsL_law (wsV RL 99 RX8 yX8_shortOn wsX8_shortOn) := goodIn_app (goodIn_of _ (by decide +kernel)) ggL_law_X8_shortOn
set_option maxRecDepth 20000 in
theorem ggL_law_X7_night : GoodIn wsL_law wsX7_night := goodIn_r _ [784, 128, 24, 558, 28, 35, 22, 44, 689, 690, 691, 34, 692, 74, 75, 76, 77, 78, 79, 80, 81, 82, 168, 169, 170, 171, 172, 173, 773, 774, 775, 2, 776, 694, 695, 696, 697, 43, 498, 499, 500, 42, 501, 502, 503, 504, 274, 275, 276, 505, 506, 507, 508, 65, 509, 471, 472, 473, 439, 440, 441, 442, 443, 432, 433, 434, 66, 510, 511, 512, 513, 514, 515, 516, 517, 518, 519, 520, 521, 522, 161, 70, 785, 786, 787, 788, 916, 917, 918, 919, 920, 921, 922, 923, 924, 925, 926, 971, 972, 973, 974, 979, 980, 981, 982, 983, 984, 985, 986, 987, 988, 989, 990, 991, 992, 993, 997, 998, 999, 1000, 1001, 1002, 1003, 1004, 1005] (by decide +kernel) (by decide +kernel)
set_option maxRecDepth 20000 in
theorem gL_law_X7_night : GoodIn wsL_law (wsV RL 100 RX7 yX7_night wsX7_night) := goodIn_app (goodIn_of _ (by decide +kernel)) ggL_law_X7_night
set_option maxRecDepth 20000 in
theorem ggL_law_X8_night : GoodIn wsL_law wsX8_night := goodIn_r _ [792, 140, 104, 528, 343, 144, 145, 5, 146, 732, 733, 734, 735, 103, 761, 762, 763, 764, 118, 119, 120, 388, 389, 390, 529, 530, 531, 532, 105, 453, 454, 455, 456, 106, 461, 462, 463, 464, 533, 534, 535, 536, 537, 538, 539, 540, 541, 542, 543, 544, 545, 546, 547, 548, 549, 340, 550, 551, 552, 553, 793, 794, 795, 796, 927, 928, 929, 930, 931, 932, 933, 934, 935, 936, 937, 938, 939, 940, 941, 942, 943, 944, 945, 946, 947, 948, 949, 950, 951, 952, 953, 954, 955, 956, 957, 958, 959, 960, 961] (by decide +kernel) (by decide +kernel)
set_option maxRecDepth 20000 in
theorem gL_law_X8_night : GoodIn wsL_law (wsV RL 103 RX8 yX8_night wsX8_night) := goodIn_app (goodIn_of _ (by decide +kernel)) ggL_law_X8_night
set_option maxRecDepth 20000 in
theorem ggL_law_X7_best : GoodIn wsL_law wsX7_best := goodIn_r _ [800, 128, 43, 801, 802, 803, 2, 804, 805, 515, 275, 516, 44, 806, 807, 808, 809, 478, 479, 480, 42, 481, 163, 67, 474, 475, 476, 477, 161, 443, 432, 433, 434, 66, 810, 811, 812, 813, 814, 815, 816, 431, 916, 917, 918, 919, 920, 921, 922, 923, 924, 925, 926, 997, 998, 999, 1000, 1001, 1002, 1003, 1004, 1005, 979, 980, 981, 982, 983, 984, 985, 986, 987, 988, 989, 990, 991, 992, 993] (by decide +kernel) (by decide +kernel)
set_option maxRecDepth 20000 in
theorem gL_law_X7_best : GoodIn wsL_law (wsV RL 104 RX7 yX7_best wsX7_best) := goodIn_app (goodIn_of _ (by decide +kernel)) ggL_law_X7_best
set_option maxRecDepth 20000 in
theorem ggL_law_X8_best : GoodIn wsL_law wsX8_best := goodIn_r _ [820, 821, 140, 340, 342, 114, 144, 145, 5, 146, 453, 454, 455, 456, 106, 103, 395, 396, 397, 927, 928, 929, 930, 931, 932, 933, 934, 935, 936, 937, 938, 939, 940, 941, 942, 943, 944, 945, 946, 947, 948, 949, 950, 951, 952, 953, 954, 955, 956, 957, 958, 959, 960, 961] (by decide +kernel) (by decide +kernel)
set_option maxRecDepth 20000 in
theorem gL_law_X8_best : GoodIn wsL_law (wsV RL 107 RX8 yX8_best wsX8_best) := goodIn_app (goodIn_of _ (by decide +kernel)) ggL_law_X8_best
set_option maxRecDepth 20000 in
theorem ggL_law_X7_cheat : GoodIn wsL_law wsX7_cheat := goodIn_r _ [825, 43, 44, 426, 469, 311, 312, 42, 313, 162, 826, 827, 828, 34, 829, 81, 82, 916, 917, 918, 919, 920, 921, 922, 923, 924, 925, 926, 997, 998, 999, 1000, 1001, 1002, 1003, 1004, 1005, 979, 980, 981, 982, 983, 984, 985, 986, 987, 988, 989, 990, 991, 992, 993] (by decide +kernel) (by decide +kernel)
set_option maxRecDepth 20000 in
theorem gL_law_X7_cheat : GoodIn wsL_law (wsV RL 108 RX7 yX7_cheat wsX7_cheat) := goodIn_app (goodIn_of _ (by decide +kernel)) ggL_law_X7_cheat
set_option maxRecDepth 20000 in
theorem ggL_law_X8_cheat : GoodIn wsL_law wsX8_cheat := goodIn_r _ [833, 448, 486, 487, 488, 5, 489, 341, 144, 145, 146, 834, 835, 836, 837, 103, 927, 928, 929, 930, 931, 932, 933, 934, 935, 936, 937, 938, 939, 940, 941, 942, 943, 944, 945, 946, 947, 948, 949, 950, 951, 952, 953, 954, 955, 956, 957, 958, 959, 960, 961] (by decide +kernel) (by decide +kernel)
set_option maxRecDepth 20000 in
theorem gL_law_X8_cheat : GoodIn wsL_law (wsV RL 111 RX8 yX8_cheat wsX8_cheat) := goodIn_app (goodIn_of _ (by decide +kernel)) ggL_law_X8_cheat
set_option maxRecDepth 20000 in
theorem ggL_law_X7_cheats : GoodIn wsL_law wsX7_cheats := goodIn_r _ [841, 43, 44, 826, 827, 828, 34, 829, 81, 82, 916, 917, 918, 919, 920, 921, 922, 923, 924, 925, 926, 997, 998, 999, 1000, 1001, 1002, 1003, 1004, 1005, 979, 980, 981, 982, 983, 984, 985, 986, 987, 988, 989, 990, 991, 992, 993] (by decide +kernel) (by decide +kernel)
set_option maxRecDepth 20000 in
theorem gL_law_X7_cheats : GoodIn wsL_law (wsV RL 112 RX7 yX7_cheats wsX7_cheats) := goodIn_app (goodIn_of _ (by decide +kernel)) ggL_law_X7_cheats
set_option maxRecDepth 20000 in
theorem ggL_law_X8_cheats : GoodIn wsL_law wsX8_cheats := goodIn_r _ [845, 341, 834, 835, 836, 5, 837, 103, 927, 928, 929, 930, 931, 932, 933, 934, 935, 936, 937, 938, 939, 940, 941, 942, 943, 944, 945, 946, 947, 948, 949, 950, 951, 952, 953, 954, 955, 956, 957, 958, 959, 960, 961] (by decide +kernel) (by decide +kernel)
set_option maxRecDepth 20000 in
theorem gL_law_X8_cheats : GoodIn wsL_law (wsV RL 115 RX8 yX8_cheats wsX8_cheats) := goodIn_app (goodIn_of _ (by decide +kernel)) ggL_law_X8_cheats
set_option maxRecDepth 20000 in
theorem ggL_law_X7_attempt : GoodIn wsL_law wsX7_attempt := goodIn_r _ [849, 128, 32, 129, 850, 851, 852, 31, 853, 854, 92, 93, 94, 916, 917, 918, 919, 920, 921, 922, 923, 924, 925, 926, 975, 976, 977, 978] (by decide +kernel) (by decide +kernel)
set_option maxRecDepth 20000 in
theorem gL_law_X7_attempt : GoodIn wsL_law (wsV RL 116 RX7 yX7_attempt wsX7_attempt) := goodIn_app (goodIn_of _ (by decide +kernel)) ggL_law_X7_attempt
set_option maxRecDepth 20000 in
theorem ggL_law_X8_attempt : GoodIn wsL_law wsX8_attempt := goodIn_r _ [858, 139, 140, 344, 142, 121, 122, 123, 144, 145, 5, 146, 927, 928, 929, 930, 931, 932, 933, 934, 935, 936, 937, 938, 939, 940, 941, 942, 943, 944, 945, 946, 947, 948, 949, 950, 951, 952, 953, 954, 955, 956, 957, 958, 959, 960, 961] (by decide +kernel) (by decide +kernel)
set_option maxRecDepth 20000 in
theorem gL_law_X8_attempt : GoodIn wsL_law (wsV RL 120 RX8 yX8_attempt wsX8_attempt) := goodIn_app (goodIn_of _ (by decide +kernel)) ggL_law_X8_attempt
set_option maxRecDepth 20000 in
theorem ggL_law_X7_fits : GoodIn wsL_law wsX7_fits := goodIn_r _ [862, 128, 32, 863, 864, 865, 31, 866, 854, 94, 93, 867, 868, 869, 870, 92, 916, 917, 918, 919, 920, 921, 922, 923, 924, 925, 926, 975, 976, 977, 978] (by decide +kernel) (by decide +kernel)
set_option maxRecDepth 20000 in
theorem gL_law_X7_fits : GoodIn wsL_law (wsV RL 121 RX7 yX7_fits wsX7_fits) := goodIn_app (goodIn_of _ (by decide +kernel)) ggL_law_X7_fits
set_option maxRecDepth 20000 in
theorem ggL_law_X8_fits : GoodIn wsL_law wsX8_fits := goodIn_r _ [874, 875, 140, 144, 145, 5, 146, 876, 877, 878, 879, 344, 123, 122, 880, 881, 882, 883, 121, 927, 928, 929, 930, 931, 932, 933, 934, 935, 936, 937, 938, 939, 940, 941, 942, 943, 944, 945, 946, 947, 948, 949, 950, 951, 952, 953, 954, 955, 956, 957, 958, 959, 960, 961] (by decide +kernel) (by decide +kernel)
set_option maxRecDepth 20000 in
theorem gL_law_X8_fits : GoodIn wsL_law (wsV RL 124 RX8 yX8_fits wsX8_fits) := goodIn_app (goodIn_of _ (by decide +kernel)) ggL_law_X8_fits
set_option maxRecDepth 20000 in
theorem ggL_law_X7_tear : GoodIn wsL_law wsX7_tear := goodIn_r _ [887, 28, 32, 916, 917, 918, 919, 920, 921, 922, 923, 924, 925, 926, 971, 972, 973, 974, 975, 976, 977, 978] (by decide +kernel) (by decide +kernel)
set_option maxRecDepth 20000 in
theorem gL_law_X7_tear : GoodIn wsL_law (wsV RL 125 RX7 yX7_tear wsX7_tear) := goodIn_app (goodIn_of _ (by decide +kernel)) ggL_law_X7_tear
set_option maxRecDepth 20000 in
theorem ggL_law_X8_tear : GoodIn wsL_law wsX8_tear := goodIn_r _ [891, 343, 344, 927, 928, 929, 930, 931, 932, 933, 934, 935, 936, 937, 938, 939, 940, 941, 942, 943, 944, 945, 946, 947, 948, 949, 950, 951, 952, 953, 954, 955, 956, 957, 958, 959, 960, 961] (by decide +kernel) (by decide +kernel)
set_option maxRecDepth 20000 in
theorem gL_law_X8_tear : GoodIn wsL_law (wsV RL 128 RX8 yX8_tear wsX8_tear) := goodIn_app (goodIn_of _ (by decide +kernel)) ggL_law_X8_tear
set_option maxRecDepth 20000 in
theorem ggL_law_X7_seed : GoodIn wsL_law wsX7_seed := goodIn_r _ [895, 128, 44, 916, 917, 918, 919, 920, 921, 922, 923, 924, 925, 926, 979, 980, 981, 982, 983, 984, 985, 986, 987, 988, 989, 990, 991, 992, 993] (by decide +kernel) (by decide +kernel)
set_option maxRecDepth 20000 in
theorem gL_law_X7_seed : GoodIn wsL_law (wsV RL 129 RX7 yX7_seed wsX7_seed) := goodIn_app (goodIn_of _ (by decide +kernel)) ggL_law_X7_seed
set_option maxRecDepth 20000 in
theorem ggL_law_X8_seed : GoodIn wsL_law wsX8_seed := goodIn_r _ [899, 140, 581, 582, 583, 5, 584, 103, 927, 928, 929, 930, 931, 932, 933, 934, 935, 936, 937, 938, 939, 940, 941, 942, 943, 944, 945, 946, 947, 948, 949, 950, 951, 952, 953, 954, 955, 956, 957, 958, 959, 960, 961] (by decide +kernel) (by decide +kernel)
set_option maxRecDepth 20000 in
theorem gL_law_X8_seed : GoodIn wsL_law (wsV RL 132 RX8 yX8_seed wsX8_seed) := goodIn_app (goodIn_of _ (by decide +kernel)) ggL_law_X8_seed
set_option maxRecDepth 20000 in
theorem ggL_law_X7_keep : GoodIn wsL_law wsX7_keep := goodIn_r _ [903, 426, 22, 44, 24, 689, 690, 691, 34, 692, 74, 75, 76, 77, 78, 79, 80, 81, 82, 168, 169, 170, 171, 172, 173, 916, 917, 918, 919, 920, 921, 922, 923, 924, 925, 926, 979, 980, 981, 982, 983, 984, 985, 986, 987, 988, 989, 990, 991, 992, 993] (by decide +kernel) (by decide +kernel)
set_option maxRecDepth 20000 in
theorem gL_law_X7_keep : GoodIn wsL_law (wsV RL 133 RX7 yX7_keep wsX7_keep) := goodIn_app (goodIn_of _ (by decide +kernel)) ggL_law_X7_keep
set_option maxRecDepth 20000 in
theorem ggL_law_X8_keep : GoodIn wsL_law wsX8_keep := goodIn_r _ [907, 448, 104, 144, 145, 5, 146, 732, 733, 734, 735, 103, 927, 928, 929, 930, 931, 932, 933, 934, 935, 936, 937, 938, 939, 940, 941, 942, 943, 944, 945, 946, 947, 948, 949, 950, 951, 952, 953, 954, 955, 956, 957, 958, 959, 960, 961] (by decide +kernel) (by decide +kernel)
set_option maxRecDepth 20000 in
theorem gL_law_X8_keep : GoodIn wsL_law (wsV RL 136 RX8 yX8_keep wsX8_keep) := goodIn_app (goodIn_of _ (by decide +kernel)) ggL_law_X8_keep
set_option maxRecDepth 20000 in
theorem ggL_law_X7_goBack : GoodIn wsL_law wsX7_goBack := goodIn_r _ [911, 426, 24, 558, 44, 22, 689, 690, 691, 34, 692, 74, 75, 76, 77, 78, 79, 80, 81, 82, 168, 169, 170, 171, 172, 173, 916, 917, 918, 919, 920, 921, 922, 923, 924, 925, 926, 979, 980, 981, 982, 983, 984, 985, 986, 987, 988, 989, 990, 991, 992, 993] (by decide +kernel) (by decide +kernel)
set_option maxRecDepth 20000 in
theorem gL_law_X7_goBack : GoodIn wsL_law (wsV RL 137 RX7 yX7_goBack wsX7_goBack) := goodIn_app (goodIn_of _ (by decide +kernel)) ggL_law_X7_goBack
set_option maxRecDepth 20000 in
theorem ggL_law_X8_goBack : GoodIn wsL_law wsX8_goBack := goodIn_r _ [915, 448, 104, 528, 144, 145, 5, 146, 732, 733, 734, 735, 103, 927, 928, 929, 930, 931, 932, 933, 934, 935, 936, 937, 938, 939, 940, 941, 942, 943, 944, 945, 946, 947, 948, 949, 950, 951, 952, 953, 954, 955, 956, 957, 958, 959, 960, 961] (by decide +kernel) (by decide +kernel)
set_option maxRecDepth 20000 in
theorem gL_law_X8_goBack : GoodIn wsL_law (wsV RL 140 RX8 yX8_goBack wsX8_goBack) := goodIn_app (goodIn_of _ (by decide +kernel)) ggL_law_X8_goBack
theorem dL_law_0 : decode cL_law 0 = .ok (.new 7, 3) := by decide +kernel
theorem dL_law_3 : decode cL_law 3 = .ok (.dup, 1) := by decide +kernel
theorem dL_law_4 : decode cL_law 4 = .ok (.invokespecial 9, 3) := by decide +kernel
theorem dL_law_7 : decode cL_law 7 = .ok (.astore_n 1, 1) := by decide +kernel
theorem dL_law_8 : decode cL_law 8 = .ok (.new 10, 3) := by decide +kernel
theorem dL_law_11 : decode cL_law 11 = .ok (.dup, 1) := by decide +kernel
theorem dL_law_12 : decode cL_law 12 = .ok (.invokespecial 12, 3) := by decide +kernel
theorem dL_law_15 : decode cL_law 15 = .ok (.astore_n 2, 1) := by decide +kernel
theorem dL_law_16 : decode cL_law 16 = .ok (.iconst 0, 1) := by decide +kernel
theorem dL_law_17 : decode cL_law 17 = .ok (.istore_n 3, 1) := by decide +kernel
theorem dL_law_18 : decode cL_law 18 = .ok (.iload_n 3, 1) := by decide +kernel
theorem dL_law_19 : decode cL_law 19 = .ok (.aload_n 0, 1) := by decide +kernel
theorem dL_law_20 : decode cL_law 20 = .ok (.arraylength, 1) := by decide +kernel
theorem dL_law_21 : decode cL_law 21 = .ok (.iconst 4, 1) := by decide +kernel
theorem dL_law_22 : decode cL_law 22 = .ok (.isub, 1) := by decide +kernel
theorem dL_law_23 : decode cL_law 23 = .ok (.if_icmp .gt 1017, 3) := by decide +kernel
theorem dL_law_26 : decode cL_law 26 = .ok (.aload_n 0, 1) := by decide +kernel
theorem dL_law_27 : decode cL_law 27 = .ok (.iload_n 3, 1) := by decide +kernel
theorem dL_law_28 : decode cL_law 28 = .ok (.iaload, 1) := by decide +kernel
theorem dL_law_29 : decode cL_law 29 = .ok (.bipush 31, 2) := by decide +kernel
theorem dL_law_31 : decode cL_law 31 = .ok (.iand, 1) := by decide +kernel
theorem dL_law_32 : decode cL_law 32 = .ok (.tableswitch 1002 0 29 #[136, 199, 212, 225, 248, 281, 314, 357, 390, 413, 436, 469, 502, 535, 578, 611, 634, 667, 710, 733, 746, 769, 792, 815, 828, 887, 920, 933, 956, 979], 136) := by decide +kernel
theorem dL_law_168 : decode cL_law 168 = .ok (.aload_n 1, 1) := by decide +kernel
theorem dL_law_169 : decode cL_law 169 = .ok (.aload_n 0, 1) := by decide +kernel
theorem dL_law_170 : decode cL_law 170 = .ok (.iload_n 3, 1) := by decide +kernel
theorem dL_law_171 : decode cL_law 171 = .ok (.iconst 1, 1) := by decide +kernel
theorem dL_law_172 : decode cL_law 172 = .ok (.iadd, 1) := by decide +kernel
theorem dL_law_173 : decode cL_law 173 = .ok (.iaload, 1) := by decide +kernel
theorem dL_law_174 : decode cL_law 174 = .ok (.aload_n 0, 1) := by decide +kernel
theorem dL_law_175 : decode cL_law 175 = .ok (.iload_n 3, 1) := by decide +kernel
theorem dL_law_176 : decode cL_law 176 = .ok (.iconst 2, 1) := by decide +kernel
theorem dL_law_177 : decode cL_law 177 = .ok (.iadd, 1) := by decide +kernel
theorem dL_law_178 : decode cL_law 178 = .ok (.iaload, 1) := by decide +kernel
theorem dL_law_179 : decode cL_law 179 = .ok (.i2l, 1) := by decide +kernel
theorem dL_law_180 : decode cL_law 180 = .ok (.bipush 32, 2) := by decide +kernel
theorem dL_law_182 : decode cL_law 182 = .ok (.lshl, 1) := by decide +kernel
theorem dL_law_183 : decode cL_law 183 = .ok (.aload_n 0, 1) := by decide +kernel
theorem dL_law_184 : decode cL_law 184 = .ok (.iload_n 3, 1) := by decide +kernel
theorem dL_law_185 : decode cL_law 185 = .ok (.iconst 3, 1) := by decide +kernel
theorem dL_law_186 : decode cL_law 186 = .ok (.iadd, 1) := by decide +kernel
theorem dL_law_187 : decode cL_law 187 = .ok (.iaload, 1) := by decide +kernel
theorem dL_law_188 : decode cL_law 188 = .ok (.i2l, 1) := by decide +kernel
theorem dL_law_189 : decode cL_law 189 = .ok (.ldc2_w 13, 3) := by decide +kernel
theorem dL_law_192 : decode cL_law 192 = .ok (.land, 1) := by decide +kernel
theorem dL_law_193 : decode cL_law 193 = .ok (.lor, 1) := by decide +kernel
theorem dL_law_194 : decode cL_law 194 = .ok (.invokevirtual 15, 3) := by decide +kernel
theorem dL_law_197 : decode cL_law 197 = .ok (.aload_n 2, 1) := by decide +kernel
theorem dL_law_198 : decode cL_law 198 = .ok (.aload_n 0, 1) := by decide +kernel
theorem dL_law_199 : decode cL_law 199 = .ok (.iload_n 3, 1) := by decide +kernel
theorem dL_law_200 : decode cL_law 200 = .ok (.iconst 1, 1) := by decide +kernel
theorem dL_law_201 : decode cL_law 201 = .ok (.iadd, 1) := by decide +kernel
theorem dL_law_202 : decode cL_law 202 = .ok (.iaload, 1) := by decide +kernel
theorem dL_law_203 : decode cL_law 203 = .ok (.aload_n 0, 1) := by decide +kernel
theorem dL_law_204 : decode cL_law 204 = .ok (.iload_n 3, 1) := by decide +kernel
theorem dL_law_205 : decode cL_law 205 = .ok (.iconst 2, 1) := by decide +kernel
theorem dL_law_206 : decode cL_law 206 = .ok (.iadd, 1) := by decide +kernel
theorem dL_law_207 : decode cL_law 207 = .ok (.iaload, 1) := by decide +kernel
theorem dL_law_208 : decode cL_law 208 = .ok (.i2l, 1) := by decide +kernel
theorem dL_law_209 : decode cL_law 209 = .ok (.bipush 32, 2) := by decide +kernel
theorem dL_law_211 : decode cL_law 211 = .ok (.lshl, 1) := by decide +kernel
theorem dL_law_212 : decode cL_law 212 = .ok (.aload_n 0, 1) := by decide +kernel
theorem dL_law_213 : decode cL_law 213 = .ok (.iload_n 3, 1) := by decide +kernel
theorem dL_law_214 : decode cL_law 214 = .ok (.iconst 3, 1) := by decide +kernel
theorem dL_law_215 : decode cL_law 215 = .ok (.iadd, 1) := by decide +kernel
theorem dL_law_216 : decode cL_law 216 = .ok (.iaload, 1) := by decide +kernel
theorem dL_law_217 : decode cL_law 217 = .ok (.i2l, 1) := by decide +kernel
theorem dL_law_218 : decode cL_law 218 = .ok (.ldc2_w 13, 3) := by decide +kernel
theorem dL_law_221 : decode cL_law 221 = .ok (.land, 1) := by decide +kernel
theorem dL_law_222 : decode cL_law 222 = .ok (.lor, 1) := by decide +kernel
theorem dL_law_223 : decode cL_law 223 = .ok (.invokevirtual 19, 3) := by decide +kernel
theorem dL_law_226 : decode cL_law 226 = .ok (.if_icmp .eq 808, 3) := by decide +kernel
theorem dL_law_229 : decode cL_law 229 = .ok (.iconst 0, 1) := by decide +kernel
theorem dL_law_230 : decode cL_law 230 = .ok (.ireturn, 1) := by decide +kernel
theorem dL_law_231 : decode cL_law 231 = .ok (.aload_n 1, 1) := by decide +kernel
theorem dL_law_232 : decode cL_law 232 = .ok (.invokevirtual 20, 3) := by decide +kernel
theorem dL_law_235 : decode cL_law 235 = .ok (.aload_n 2, 1) := by decide +kernel
theorem dL_law_236 : decode cL_law 236 = .ok (.invokevirtual 24, 3) := by decide +kernel
theorem dL_law_239 : decode cL_law 239 = .ok (.if_icmp .eq 795, 3) := by decide +kernel
theorem dL_law_242 : decode cL_law 242 = .ok (.iconst 0, 1) := by decide +kernel
theorem dL_law_243 : decode cL_law 243 = .ok (.ireturn, 1) := by decide +kernel
theorem dL_law_244 : decode cL_law 244 = .ok (.aload_n 1, 1) := by decide +kernel
theorem dL_law_245 : decode cL_law 245 = .ok (.invokevirtual 25, 3) := by decide +kernel
theorem dL_law_248 : decode cL_law 248 = .ok (.aload_n 2, 1) := by decide +kernel
theorem dL_law_249 : decode cL_law 249 = .ok (.invokevirtual 28, 3) := by decide +kernel
theorem dL_law_252 : decode cL_law 252 = .ok (.if_icmp .eq 782, 3) := by decide +kernel
theorem dL_law_255 : decode cL_law 255 = .ok (.iconst 0, 1) := by decide +kernel
theorem dL_law_256 : decode cL_law 256 = .ok (.ireturn, 1) := by decide +kernel
theorem dL_law_257 : decode cL_law 257 = .ok (.aload_n 1, 1) := by decide +kernel
theorem dL_law_258 : decode cL_law 258 = .ok (.aload_n 0, 1) := by decide +kernel
theorem dL_law_259 : decode cL_law 259 = .ok (.iload_n 3, 1) := by decide +kernel
theorem dL_law_260 : decode cL_law 260 = .ok (.iconst 1, 1) := by decide +kernel
theorem dL_law_261 : decode cL_law 261 = .ok (.iadd, 1) := by decide +kernel
theorem dL_law_262 : decode cL_law 262 = .ok (.iaload, 1) := by decide +kernel
theorem dL_law_263 : decode cL_law 263 = .ok (.invokevirtual 29, 3) := by decide +kernel
theorem dL_law_266 : decode cL_law 266 = .ok (.aload_n 2, 1) := by decide +kernel
theorem dL_law_267 : decode cL_law 267 = .ok (.aload_n 0, 1) := by decide +kernel
theorem dL_law_268 : decode cL_law 268 = .ok (.iload_n 3, 1) := by decide +kernel
theorem dL_law_269 : decode cL_law 269 = .ok (.iconst 1, 1) := by decide +kernel
theorem dL_law_270 : decode cL_law 270 = .ok (.iadd, 1) := by decide +kernel
theorem dL_law_271 : decode cL_law 271 = .ok (.iaload, 1) := by decide +kernel
theorem dL_law_272 : decode cL_law 272 = .ok (.invokevirtual 33, 3) := by decide +kernel
theorem dL_law_275 : decode cL_law 275 = .ok (.if_icmp .eq 759, 3) := by decide +kernel
theorem dL_law_278 : decode cL_law 278 = .ok (.iconst 0, 1) := by decide +kernel
theorem dL_law_279 : decode cL_law 279 = .ok (.ireturn, 1) := by decide +kernel
theorem dL_law_280 : decode cL_law 280 = .ok (.aload_n 1, 1) := by decide +kernel
theorem dL_law_281 : decode cL_law 281 = .ok (.aload_n 0, 1) := by decide +kernel
theorem dL_law_282 : decode cL_law 282 = .ok (.iload_n 3, 1) := by decide +kernel
theorem dL_law_283 : decode cL_law 283 = .ok (.iconst 1, 1) := by decide +kernel
theorem dL_law_284 : decode cL_law 284 = .ok (.iadd, 1) := by decide +kernel
theorem dL_law_285 : decode cL_law 285 = .ok (.iaload, 1) := by decide +kernel
theorem dL_law_286 : decode cL_law 286 = .ok (.aload_n 0, 1) := by decide +kernel
