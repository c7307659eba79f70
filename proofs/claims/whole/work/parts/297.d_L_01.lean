set_option maxRecDepth 20000 in
theorem ggL_law_X8_fault : GoodIn wsL_law wsX8_fault := goodIn_r _ [405, 116, 927, 928, 929, 930, 931, 932, 933, 934, 935, 936, 937, 938, 939, 940, 941, 942, 943, 944, 945, 946, 947, 948, 949, 950, 951, 952, 953, 954, 955, 956, 957, 958, 959, 960, 961] (by decide +kernel) (by decide +kernel)
set_option maxRecDepth 20000 in
theorem gL_law_X8_fault : GoodIn wsL_law (wsV RL 28 RX8 yX8_fault wsX8_fault) := goodIn_app (goodIn_of _ (by decide +kernel)) ggL_law_X8_fault
set_option maxRecDepth 20000 in
theorem ggL_law_X7_told : GoodIn wsL_law wsX7_told := goodIn_r _ [409, 43, 16, 44, 28, 32, 128, 410, 411, 412, 42, 413, 161, 65, 916, 917, 918, 919, 920, 921, 922, 923, 924, 925, 926, 997, 998, 999, 1000, 1001, 1002, 1003, 1004, 1005, 962, 963, 979, 980, 981, 982, 983, 984, 985, 986, 987, 988, 989, 990, 991, 992, 993, 971, 972, 973, 974, 975, 976, 977, 978] (by decide +kernel) (by decide +kernel)
set_option maxRecDepth 20000 in
theorem gL_law_X7_told : GoodIn wsL_law (wsV RL 29 RX7 yX7_told wsX7_told) := goodIn_app (goodIn_of _ (by decide +kernel)) ggL_law_X7_told
set_option maxRecDepth 20000 in
theorem ggL_law_X8_told : GoodIn wsL_law wsX8_told := goodIn_r _ [417, 340, 341, 342, 141, 103, 343, 344, 140, 418, 419, 420, 5, 421, 105, 927, 928, 929, 930, 931, 932, 933, 934, 935, 936, 937, 938, 939, 940, 941, 942, 943, 944, 945, 946, 947, 948, 949, 950, 951, 952, 953, 954, 955, 956, 957, 958, 959, 960, 961] (by decide +kernel) (by decide +kernel)
set_option maxRecDepth 20000 in
theorem gL_law_X8_told : GoodIn wsL_law (wsV RL 33 RX8 yX8_told wsX8_told) := goodIn_app (goodIn_of _ (by decide +kernel)) ggL_law_X8_told
set_option maxRecDepth 20000 in
theorem ggL_law_X7_coin : GoodIn wsL_law wsX7_coin := goodIn_r _ [425, 43, 426, 44, 128, 427, 428, 429, 42, 430, 161, 431, 432, 433, 434, 66, 435, 436, 437, 438, 162, 439, 440, 441, 442, 443, 916, 917, 918, 919, 920, 921, 922, 923, 924, 925, 926, 997, 998, 999, 1000, 1001, 1002, 1003, 1004, 1005, 979, 980, 981, 982, 983, 984, 985, 986, 987, 988, 989, 990, 991, 992, 993] (by decide +kernel) (by decide +kernel)
set_option maxRecDepth 20000 in
theorem gL_law_X7_coin : GoodIn wsL_law (wsV RL 34 RX7 yX7_coin wsX7_coin) := goodIn_app (goodIn_of _ (by decide +kernel)) ggL_law_X7_coin
set_option maxRecDepth 20000 in
theorem ggL_law_X8_coin : GoodIn wsL_law wsX8_coin := goodIn_r _ [447, 448, 105, 106, 103, 140, 449, 450, 451, 5, 452, 340, 144, 145, 146, 453, 454, 455, 456, 457, 458, 459, 460, 341, 461, 462, 463, 464, 395, 396, 397, 927, 928, 929, 930, 931, 932, 933, 934, 935, 936, 937, 938, 939, 940, 941, 942, 943, 944, 945, 946, 947, 948, 949, 950, 951, 952, 953, 954, 955, 956, 957, 958, 959, 960, 961] (by decide +kernel) (by decide +kernel)
set_option maxRecDepth 20000 in
theorem gL_law_X8_coin : GoodIn wsL_law (wsV RL 38 RX8 yX8_coin wsX8_coin) := goodIn_app (goodIn_of _ (by decide +kernel)) ggL_law_X8_coin
set_option maxRecDepth 20000 in
theorem ggL_law_X7_column : GoodIn wsL_law wsX7_column := goodIn_r _ [468, 43, 426, 44, 128, 469, 311, 312, 42, 313, 162, 470, 471, 472, 34, 473, 76, 474, 475, 476, 477, 161, 443, 432, 433, 434, 66, 478, 479, 480, 481, 163, 67, 916, 917, 918, 919, 920, 921, 922, 923, 924, 925, 926, 979, 980, 981, 982, 983, 984, 985, 986, 987, 988, 989, 990, 991, 992, 993, 997, 998, 999, 1000, 1001, 1002, 1003, 1004, 1005] (by decide +kernel) (by decide +kernel)
set_option maxRecDepth 20000 in
theorem gL_law_X7_column : GoodIn wsL_law (wsV RL 39 RX7 yX7_column wsX7_column) := goodIn_app (goodIn_of _ (by decide +kernel)) ggL_law_X7_column
set_option maxRecDepth 20000 in
theorem ggL_law_X8_column : GoodIn wsL_law wsX8_column := goodIn_r _ [485, 448, 103, 140, 486, 487, 488, 5, 489, 341, 144, 145, 146, 395, 396, 397, 490, 491, 492, 493, 342, 340, 114, 453, 454, 455, 456, 106, 461, 462, 463, 464, 927, 928, 929, 930, 931, 932, 933, 934, 935, 936, 937, 938, 939, 940, 941, 942, 943, 944, 945, 946, 947, 948, 949, 950, 951, 952, 953, 954, 955, 956, 957, 958, 959, 960, 961] (by decide +kernel) (by decide +kernel)
set_option maxRecDepth 20000 in
theorem gL_law_X8_column : GoodIn wsL_law (wsV RL 42 RX8 yX8_column wsX8_column) := goodIn_app (goodIn_of _ (by decide +kernel)) ggL_law_X8_column
set_option maxRecDepth 20000 in
theorem ggL_law_X7_buy : GoodIn wsL_law wsX7_buy := goodIn_r _ [497, 43, 426, 128, 44, 469, 311, 312, 42, 313, 162, 427, 428, 429, 430, 161, 498, 499, 500, 501, 502, 503, 504, 274, 275, 276, 505, 506, 507, 508, 65, 509, 471, 472, 34, 473, 76, 439, 440, 441, 442, 443, 432, 433, 434, 66, 510, 511, 512, 513, 74, 514, 515, 516, 517, 168, 518, 519, 520, 521, 522, 70, 916, 917, 918, 919, 920, 921, 922, 923, 924, 925, 926, 997, 998, 999, 1000, 1001, 1002, 1003, 1004, 1005, 979, 980, 981, 982, 983, 984, 985, 986, 987, 988, 989, 990, 991, 992, 993] (by decide +kernel) (by decide +kernel)
set_option maxRecDepth 20000 in
theorem gL_law_X7_buy : GoodIn wsL_law (wsV RL 43 RX7 yX7_buy wsX7_buy) := goodIn_app (goodIn_of _ (by decide +kernel)) ggL_law_X7_buy
set_option maxRecDepth 20000 in
theorem ggL_law_X8_buy : GoodIn wsL_law wsX8_buy := goodIn_r _ [526, 448, 527, 140, 528, 105, 103, 486, 487, 488, 5, 489, 341, 144, 145, 146, 449, 450, 451, 452, 340, 529, 530, 531, 532, 453, 454, 455, 456, 106, 461, 462, 463, 464, 533, 534, 535, 536, 537, 538, 539, 540, 541, 542, 543, 544, 545, 546, 547, 548, 549, 550, 551, 552, 553, 388, 389, 390, 927, 928, 929, 930, 931, 932, 933, 934, 935, 936, 937, 938, 939, 940, 941, 942, 943, 944, 945, 946, 947, 948, 949, 950, 951, 952, 953, 954, 955, 956, 957, 958, 959, 960, 961] (by decide +kernel) (by decide +kernel)
set_option maxRecDepth 20000 in
theorem gL_law_X8_buy : GoodIn wsL_law (wsV RL 47 RX8 yX8_buy wsX8_buy) := goodIn_app (goodIn_of _ (by decide +kernel)) ggL_law_X8_buy
set_option maxRecDepth 20000 in
theorem ggL_law_X7_kick : GoodIn wsL_law wsX7_kick := goodIn_r _ [557, 43, 426, 128, 44, 558, 469, 311, 312, 42, 313, 162, 470, 471, 472, 34, 473, 76, 559, 560, 561, 562, 77, 78, 518, 274, 275, 276, 563, 564, 565, 566, 69, 68, 567, 179, 180, 181, 916, 917, 918, 919, 920, 921, 922, 923, 924, 925, 926, 979, 980, 981, 982, 983, 984, 985, 986, 987, 988, 989, 990, 991, 992, 993, 997, 998, 999, 1000, 1001, 1002, 1003, 1004, 1005] (by decide +kernel) (by decide +kernel)
set_option maxRecDepth 20000 in
theorem gL_law_X7_kick : GoodIn wsL_law (wsV RL 48 RX7 yX7_kick wsX7_kick) := goodIn_app (goodIn_of _ (by decide +kernel)) ggL_law_X7_kick
set_option maxRecDepth 20000 in
theorem ggL_law_X8_kick : GoodIn wsL_law wsX8_kick := goodIn_r _ [571, 448, 140, 103, 528, 113, 112, 486, 487, 488, 5, 489, 341, 144, 145, 146, 927, 928, 929, 930, 931, 932, 933, 934, 935, 936, 937, 938, 939, 940, 941, 942, 943, 944, 945, 946, 947, 948, 949, 950, 951, 952, 953, 954, 955, 956, 957, 958, 959, 960, 961] (by decide +kernel) (by decide +kernel)
set_option maxRecDepth 20000 in
theorem gL_law_X8_kick : GoodIn wsL_law (wsV RL 51 RX8 yX8_kick wsX8_kick) := goodIn_app (goodIn_of _ (by decide +kernel)) ggL_law_X8_kick
set_option maxRecDepth 20000 in
theorem ggL_law_X7_damp : GoodIn wsL_law wsX7_damp := goodIn_r _ [575, 128, 44, 916, 917, 918, 919, 920, 921, 922, 923, 924, 925, 926, 979, 980, 981, 982, 983, 984, 985, 986, 987, 988, 989, 990, 991, 992, 993] (by decide +kernel) (by decide +kernel)
set_option maxRecDepth 20000 in
theorem gL_law_X7_damp : GoodIn wsL_law (wsV RL 52 RX7 yX7_damp wsX7_damp) := goodIn_app (goodIn_of _ (by decide +kernel)) ggL_law_X7_damp
set_option maxRecDepth 20000 in
theorem ggL_law_X8_damp : GoodIn wsL_law wsX8_damp := goodIn_r _ [579, 580, 140, 144, 145, 5, 146, 581, 582, 583, 584, 103, 927, 928, 929, 930, 931, 932, 933, 934, 935, 936, 937, 938, 939, 940, 941, 942, 943, 944, 945, 946, 947, 948, 949, 950, 951, 952, 953, 954, 955, 956, 957, 958, 959, 960, 961] (by decide +kernel) (by decide +kernel)
set_option maxRecDepth 20000 in
theorem gL_law_X8_damp : GoodIn wsL_law (wsV RL 55 RX8 yX8_damp wsX8_damp) := goodIn_app (goodIn_of _ (by decide +kernel)) ggL_law_X8_damp
set_option maxRecDepth 20000 in
theorem ggL_law_X7_wear : GoodIn wsL_law wsX7_wear := goodIn_r _ [588, 128, 44, 916, 917, 918, 919, 920, 921, 922, 923, 924, 925, 926, 979, 980, 981, 982, 983, 984, 985, 986, 987, 988, 989, 990, 991, 992, 993] (by decide +kernel) (by decide +kernel)
set_option maxRecDepth 20000 in
theorem gL_law_X7_wear : GoodIn wsL_law (wsV RL 56 RX7 yX7_wear wsX7_wear) := goodIn_app (goodIn_of _ (by decide +kernel)) ggL_law_X7_wear
set_option maxRecDepth 20000 in
theorem ggL_law_X8_wear : GoodIn wsL_law wsX8_wear := goodIn_r _ [592, 580, 140, 144, 145, 5, 146, 581, 582, 583, 584, 103, 927, 928, 929, 930, 931, 932, 933, 934, 935, 936, 937, 938, 939, 940, 941, 942, 943, 944, 945, 946, 947, 948, 949, 950, 951, 952, 953, 954, 955, 956, 957, 958, 959, 960, 961] (by decide +kernel) (by decide +kernel)
set_option maxRecDepth 20000 in
theorem gL_law_X8_wear : GoodIn wsL_law (wsV RL 59 RX8 yX8_wear wsX8_wear) := goodIn_app (goodIn_of _ (by decide +kernel)) ggL_law_X8_wear
set_option maxRecDepth 20000 in
theorem ggL_law_X7_stock : GoodIn wsL_law wsX7_stock := goodIn_r _ [596, 43, 44, 426, 469, 311, 312, 42, 313, 162, 597, 598, 2, 599, 128, 916, 917, 918, 919, 920, 921, 922, 923, 924, 925, 926, 979, 980, 981, 982, 983, 984, 985, 986, 987, 988, 989, 990, 991, 992, 993, 997, 998, 999, 1000, 1001, 1002, 1003, 1004, 1005] (by decide +kernel) (by decide +kernel)
set_option maxRecDepth 20000 in
theorem gL_law_X7_stock : GoodIn wsL_law (wsV RL 60 RX7 yX7_stock wsX7_stock) := goodIn_app (goodIn_of _ (by decide +kernel)) ggL_law_X7_stock
set_option maxRecDepth 20000 in
theorem ggL_law_X8_stock : GoodIn wsL_law wsX8_stock := goodIn_r _ [603, 448, 604, 140, 486, 487, 488, 5, 489, 341, 144, 145, 146, 581, 582, 583, 584, 103, 927, 928, 929, 930, 931, 932, 933, 934, 935, 936, 937, 938, 939, 940, 941, 942, 943, 944, 945, 946, 947, 948, 949, 950, 951, 952, 953, 954, 955, 956, 957, 958, 959, 960, 961] (by decide +kernel) (by decide +kernel)
set_option maxRecDepth 20000 in
theorem gL_law_X8_stock : GoodIn wsL_law (wsV RL 63 RX8 yX8_stock wsX8_stock) := goodIn_app (goodIn_of _ (by decide +kernel)) ggL_law_X8_stock
set_option maxRecDepth 20000 in
theorem ggL_law_X7_tube : GoodIn wsL_law wsX7_tube := goodIn_r _ [608, 43, 44, 426, 427, 428, 429, 42, 430, 161, 597, 598, 2, 599, 128, 916, 917, 918, 919, 920, 921, 922, 923, 924, 925, 926, 979, 980, 981, 982, 983, 984, 985, 986, 987, 988, 989, 990, 991, 992, 993, 997, 998, 999, 1000, 1001, 1002, 1003, 1004, 1005] (by decide +kernel) (by decide +kernel)
set_option maxRecDepth 20000 in
theorem gL_law_X7_tube : GoodIn wsL_law (wsV RL 64 RX7 yX7_tube wsX7_tube) := goodIn_app (goodIn_of _ (by decide +kernel)) ggL_law_X7_tube
set_option maxRecDepth 20000 in
theorem ggL_law_X8_tube : GoodIn wsL_law wsX8_tube := goodIn_r _ [612, 448, 604, 140, 449, 450, 451, 5, 452, 340, 144, 145, 146, 581, 582, 583, 584, 103, 927, 928, 929, 930, 931, 932, 933, 934, 935, 936, 937, 938, 939, 940, 941, 942, 943, 944, 945, 946, 947, 948, 949, 950, 951, 952, 953, 954, 955, 956, 957, 958, 959, 960, 961] (by decide +kernel) (by decide +kernel)
set_option maxRecDepth 20000 in
theorem gL_law_X8_tube : GoodIn wsL_law (wsV RL 67 RX8 yX8_tube wsX8_tube) := goodIn_app (goodIn_of _ (by decide +kernel)) ggL_law_X8_tube
