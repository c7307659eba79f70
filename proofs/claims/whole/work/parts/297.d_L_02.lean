set_option maxRecDepth 20000 in
theorem ggL_law_X7_price : GoodIn wsL_law wsX7_price := goodIn_r _ [616, 43, 44, 426, 469, 311, 312, 42, 313, 162, 597, 598, 2, 599, 128, 916, 917, 918, 919, 920, 921, 922, 923, 924, 925, 926, 979, 980, 981, 982, 983, 984, 985, 986, 987, 988, 989, 990, 991, 992, 993, 997, 998, 999, 1000, 1001, 1002, 1003, 1004, 1005] (by decide +kernel) (by decide +kernel)
set_option maxRecDepth 20000 in
theorem gL_law_X7_price : GoodIn wsL_law (wsV RL 68 RX7 yX7_price wsX7_price) := goodIn_app (goodIn_of _ (by decide +kernel)) ggL_law_X7_price
set_option maxRecDepth 20000 in
theorem ggL_law_X8_price : GoodIn wsL_law wsX8_price := goodIn_r _ [620, 448, 527, 140, 486, 487, 488, 5, 489, 341, 144, 145, 146, 581, 582, 583, 584, 103, 927, 928, 929, 930, 931, 932, 933, 934, 935, 936, 937, 938, 939, 940, 941, 942, 943, 944, 945, 946, 947, 948, 949, 950, 951, 952, 953, 954, 955, 956, 957, 958, 959, 960, 961] (by decide +kernel) (by decide +kernel)
set_option maxRecDepth 20000 in
theorem gL_law_X8_price : GoodIn wsL_law (wsV RL 71 RX8 yX8_price wsX8_price) := goodIn_app (goodIn_of _ (by decide +kernel)) ggL_law_X8_price
set_option maxRecDepth 20000 in
theorem ggL_law_X7_span : GoodIn wsL_law wsX7_span := goodIn_r _ [624, 43, 426, 128, 44, 469, 311, 312, 42, 313, 162, 916, 917, 918, 919, 920, 921, 922, 923, 924, 925, 926, 979, 980, 981, 982, 983, 984, 985, 986, 987, 988, 989, 990, 991, 992, 993, 997, 998, 999, 1000, 1001, 1002, 1003, 1004, 1005] (by decide +kernel) (by decide +kernel)
set_option maxRecDepth 20000 in
theorem gL_law_X7_span : GoodIn wsL_law (wsV RL 72 RX7 yX7_span wsX7_span) := goodIn_app (goodIn_of _ (by decide +kernel)) ggL_law_X7_span
set_option maxRecDepth 20000 in
theorem ggL_law_X8_span : GoodIn wsL_law wsX8_span := goodIn_r _ [628, 448, 527, 140, 486, 487, 488, 5, 489, 341, 144, 145, 146, 581, 582, 583, 584, 103, 927, 928, 929, 930, 931, 932, 933, 934, 935, 936, 937, 938, 939, 940, 941, 942, 943, 944, 945, 946, 947, 948, 949, 950, 951, 952, 953, 954, 955, 956, 957, 958, 959, 960, 961] (by decide +kernel) (by decide +kernel)
set_option maxRecDepth 20000 in
theorem gL_law_X8_span : GoodIn wsL_law (wsV RL 75 RX8 yX8_span wsX8_span) := goodIn_app (goodIn_of _ (by decide +kernel)) ggL_law_X8_span
set_option maxRecDepth 20000 in
theorem ggL_law_X7_wire : GoodIn wsL_law wsX7_wire := goodIn_r _ [632, 43, 426, 44, 469, 311, 312, 42, 313, 162, 916, 917, 918, 919, 920, 921, 922, 923, 924, 925, 926, 979, 980, 981, 982, 983, 984, 985, 986, 987, 988, 989, 990, 991, 992, 993, 997, 998, 999, 1000, 1001, 1002, 1003, 1004, 1005] (by decide +kernel) (by decide +kernel)
set_option maxRecDepth 20000 in
theorem gL_law_X7_wire : GoodIn wsL_law (wsV RL 76 RX7 yX7_wire wsX7_wire) := goodIn_app (goodIn_of _ (by decide +kernel)) ggL_law_X7_wire
set_option maxRecDepth 20000 in
theorem ggL_law_X8_wire : GoodIn wsL_law wsX8_wire := goodIn_r _ [636, 448, 486, 487, 488, 5, 489, 341, 144, 145, 146, 581, 582, 583, 584, 103, 927, 928, 929, 930, 931, 932, 933, 934, 935, 936, 937, 938, 939, 940, 941, 942, 943, 944, 945, 946, 947, 948, 949, 950, 951, 952, 953, 954, 955, 956, 957, 958, 959, 960, 961] (by decide +kernel) (by decide +kernel)
set_option maxRecDepth 20000 in
theorem gL_law_X8_wire : GoodIn wsL_law (wsV RL 79 RX8 yX8_wire wsX8_wire) := goodIn_app (goodIn_of _ (by decide +kernel)) ggL_law_X8_wire
set_option maxRecDepth 20000 in
theorem ggL_law_X7_drift : GoodIn wsL_law wsX7_drift := goodIn_r _ [640, 128, 43, 558, 44, 641, 642, 643, 34, 644, 173, 645, 646, 647, 648, 649, 650, 651, 2, 652, 498, 499, 500, 42, 501, 502, 503, 504, 274, 275, 276, 505, 506, 507, 508, 65, 509, 471, 472, 473, 76, 439, 440, 441, 442, 443, 432, 433, 434, 66, 510, 511, 512, 513, 74, 514, 515, 516, 517, 168, 518, 519, 520, 521, 522, 161, 70, 916, 917, 918, 919, 920, 921, 922, 923, 924, 925, 926, 997, 998, 999, 1000, 1001, 1002, 1003, 1004, 1005, 979, 980, 981, 982, 983, 984, 985, 986, 987, 988, 989, 990, 991, 992, 993] (by decide +kernel) (by decide +kernel)
set_option maxRecDepth 20000 in
theorem gL_law_X7_drift : GoodIn wsL_law (wsV RL 80 RX7 yX7_drift wsX7_drift) := goodIn_app (goodIn_of _ (by decide +kernel)) ggL_law_X7_drift
set_option maxRecDepth 20000 in
theorem ggL_law_X8_drift : GoodIn wsL_law wsX8_drift := goodIn_r _ [656, 527, 140, 340, 341, 528, 103, 144, 145, 5, 146, 657, 658, 659, 660, 661, 662, 663, 664, 529, 530, 531, 532, 105, 453, 454, 455, 456, 106, 461, 462, 463, 464, 533, 534, 535, 536, 537, 538, 539, 540, 541, 542, 543, 544, 545, 546, 547, 548, 549, 550, 551, 552, 553, 388, 389, 390, 927, 928, 929, 930, 931, 932, 933, 934, 935, 936, 937, 938, 939, 940, 941, 942, 943, 944, 945, 946, 947, 948, 949, 950, 951, 952, 953, 954, 955, 956, 957, 958, 959, 960, 961] (by decide +kernel) (by decide +kernel)
set_option maxRecDepth 20000 in
theorem gL_law_X8_drift : GoodIn wsL_law (wsV RL 83 RX8 yX8_drift wsX8_drift) := goodIn_app (goodIn_of _ (by decide +kernel)) ggL_law_X8_drift
set_option maxRecDepth 20000 in
theorem ggL_law_X7_fewest : GoodIn wsL_law wsX7_fewest := goodIn_r _ [668, 43, 426, 469, 311, 312, 42, 313, 162, 669, 670, 671, 2, 672, 427, 428, 429, 430, 161, 673, 674, 675, 676, 39, 677, 678, 679, 38, 680, 681, 274, 275, 276, 682, 683, 98, 684, 685, 686, 687, 35, 44, 688, 28, 689, 690, 691, 34, 692, 74, 75, 76, 77, 78, 79, 80, 81, 82, 168, 169, 170, 171, 172, 173, 693, 506, 507, 508, 65, 694, 695, 696, 697, 498, 499, 500, 501, 502, 503, 504, 505, 509, 471, 472, 473, 439, 440, 441, 442, 443, 432, 433, 434, 66, 510, 511, 512, 513, 514, 515, 516, 517, 518, 519, 520, 521, 522, 70, 698, 699, 700, 701, 702, 703, 704, 705, 706, 707, 708, 709, 710, 711, 712, 713, 714, 715, 916, 917, 918, 919, 920, 921, 922, 923, 924, 925, 926, 997, 998, 999, 1000, 1001, 1002, 1003, 1004, 1005, 994, 995, 996, 979, 980, 981, 982, 983, 984, 985, 986, 987, 988, 989, 990, 991, 992, 993, 971, 972, 973, 974] (by decide +kernel) (by decide +kernel)
set_option maxRecDepth 20000 in
theorem gL_law_X7_fewest : GoodIn wsL_law (wsV RL 84 RX7 yX7_fewest wsX7_fewest) := goodIn_app (goodIn_of _ (by decide +kernel)) ggL_law_X7_fewest
set_option maxRecDepth 20000 in
theorem ggL_law_X8_fewest : GoodIn wsL_law wsX8_fewest := goodIn_r _ [719, 448, 117, 486, 487, 488, 5, 489, 341, 144, 145, 146, 449, 450, 451, 452, 340, 720, 721, 722, 723, 724, 725, 726, 727, 728, 729, 730, 731, 105, 103, 732, 733, 734, 735, 453, 454, 455, 456, 106, 461, 462, 463, 464, 537, 538, 539, 540, 541, 542, 543, 544, 545, 546, 547, 548, 549, 550, 551, 552, 553, 388, 389, 390, 927, 928, 929, 930, 931, 932, 933, 934, 935, 936, 937, 938, 939, 940, 941, 942, 943, 944, 945, 946, 947, 948, 949, 950, 951, 952, 953, 954, 955, 956, 957, 958, 959, 960, 961] (by decide +kernel) (by decide +kernel)
set_option maxRecDepth 20000 in
theorem gL_law_X8_fewest : GoodIn wsL_law (wsV RL 87 RX8 yX8_fewest wsX8_fewest) := goodIn_app (goodIn_of _ (by decide +kernel)) ggL_law_X8_fewest
set_option maxRecDepth 20000 in
theorem ggL_law_X7_buyer : GoodIn wsL_law wsX7_buyer := goodIn_r _ [739, 43, 426, 128, 28, 129, 469, 311, 312, 42, 313, 162, 427, 428, 429, 430, 161, 740, 741, 742, 27, 743, 744, 86, 87, 88, 916, 917, 918, 919, 920, 921, 922, 923, 924, 925, 926, 971, 972, 973, 974, 997, 998, 999, 1000, 1001, 1002, 1003, 1004, 1005] (by decide +kernel) (by decide +kernel)
set_option maxRecDepth 20000 in
theorem gL_law_X7_buyer : GoodIn wsL_law (wsV RL 88 RX7 yX7_buyer wsX7_buyer) := goodIn_app (goodIn_of _ (by decide +kernel)) ggL_law_X7_buyer
set_option maxRecDepth 20000 in
theorem ggL_law_X8_buyer : GoodIn wsL_law wsX8_buyer := goodIn_r _ [748, 448, 527, 140, 343, 142, 118, 119, 120, 486, 487, 488, 5, 489, 341, 144, 145, 146, 449, 450, 451, 452, 340, 927, 928, 929, 930, 931, 932, 933, 934, 935, 936, 937, 938, 939, 940, 941, 942, 943, 944, 945, 946, 947, 948, 949, 950, 951, 952, 953, 954, 955, 956, 957, 958, 959, 960, 961] (by decide +kernel) (by decide +kernel)
set_option maxRecDepth 20000 in
theorem gL_law_X8_buyer : GoodIn wsL_law (wsV RL 91 RX8 yX8_buyer wsX8_buyer) := goodIn_app (goodIn_of _ (by decide +kernel)) ggL_law_X8_buyer
set_option maxRecDepth 20000 in
theorem ggL_law_X7_fill : GoodIn wsL_law wsX7_fill := goodIn_r _ [752, 426, 669, 670, 671, 2, 672, 43, 427, 428, 429, 42, 430, 161, 673, 674, 675, 676, 39, 677, 678, 679, 38, 680, 681, 274, 275, 276, 682, 683, 98, 684, 685, 686, 687, 35, 44, 688, 28, 689, 690, 691, 34, 692, 74, 75, 76, 77, 78, 79, 80, 81, 82, 168, 169, 170, 171, 172, 173, 693, 506, 507, 508, 65, 694, 695, 696, 697, 498, 499, 500, 501, 502, 503, 504, 505, 509, 471, 472, 473, 439, 440, 441, 442, 443, 432, 433, 434, 66, 510, 511, 512, 513, 514, 515, 516, 517, 518, 519, 520, 521, 522, 70, 698, 699, 700, 701, 702, 703, 704, 705, 706, 707, 708, 709, 710, 711, 712, 713, 714, 715, 916, 917, 918, 919, 920, 921, 922, 923, 924, 925, 926, 997, 998, 999, 1000, 1001, 1002, 1003, 1004, 1005, 994, 995, 996, 979, 980, 981, 982, 983, 984, 985, 986, 987, 988, 989, 990, 991, 992, 993, 971, 972, 973, 974] (by decide +kernel) (by decide +kernel)
set_option maxRecDepth 20000 in
theorem gL_law_X7_fill : GoodIn wsL_law (wsV RL 92 RX7 yX7_fill wsX7_fill) := goodIn_app (goodIn_of _ (by decide +kernel)) ggL_law_X7_fill
set_option maxRecDepth 20000 in
theorem ggL_law_X8_fill : GoodIn wsL_law wsX8_fill := goodIn_r _ [756, 448, 117, 449, 450, 451, 5, 452, 340, 144, 145, 146, 720, 721, 722, 723, 724, 725, 726, 727, 757, 758, 759, 760, 103, 732, 733, 734, 735, 761, 762, 763, 764, 343, 118, 119, 120, 388, 389, 390, 529, 530, 531, 532, 105, 453, 454, 455, 456, 106, 461, 462, 463, 464, 533, 534, 535, 536, 537, 538, 539, 540, 541, 542, 543, 544, 545, 546, 547, 548, 549, 550, 551, 552, 553, 927, 928, 929, 930, 931, 932, 933, 934, 935, 936, 937, 938, 939, 940, 941, 942, 943, 944, 945, 946, 947, 948, 949, 950, 951, 952, 953, 954, 955, 956, 957, 958, 959, 960, 961] (by decide +kernel) (by decide +kernel)
set_option maxRecDepth 20000 in
theorem gL_law_X8_fill : GoodIn wsL_law (wsV RL 95 RX8 yX8_fill wsX8_fill) := goodIn_app (goodIn_of _ (by decide +kernel)) ggL_law_X8_fill
set_option maxRecDepth 20000 in
theorem ggL_law_X7_shortOn : GoodIn wsL_law wsX7_shortOn := goodIn_r _ [768, 28, 35, 44, 689, 690, 691, 34, 692, 74, 75, 76, 77, 78, 79, 80, 81, 82, 168, 169, 170, 171, 172, 173, 769, 770, 771, 2, 772, 773, 774, 775, 776, 558, 694, 695, 696, 697, 43, 498, 499, 500, 42, 501, 502, 503, 504, 274, 275, 276, 505, 506, 507, 508, 65, 509, 471, 472, 473, 439, 440, 441, 442, 443, 432, 433, 434, 66, 510, 511, 512, 513, 514, 515, 516, 517, 518, 519, 520, 521, 522, 161, 70, 916, 917, 918, 919, 920, 921, 922, 923, 924, 925, 926, 971, 972, 973, 974, 979, 980, 981, 982, 983, 984, 985, 986, 987, 988, 989, 990, 991, 992, 993, 997, 998, 999, 1000, 1001, 1002, 1003, 1004, 1005] (by decide +kernel) (by decide +kernel)
set_option maxRecDepth 20000 in
theorem gL_law_X7_shortOn : GoodIn wsL_law (wsV RL 96 RX7 yX7_shortOn wsX7_shortOn) := goodIn_app (goodIn_of _ (by decide +kernel)) ggL_law_X7_shortOn
set_option maxRecDepth 20000 in
theorem ggL_law_X8_shortOn : GoodIn wsL_law wsX8_shortOn := goodIn_r _ [780, 732, 733, 734, 5, 735, 103, 761, 762, 763, 764, 343, 118, 119, 120, 388, 389, 390, 529, 530, 531, 532, 105, 453, 454, 455, 456, 106, 461, 462, 463, 464, 144, 145, 146, 533, 534, 535, 536, 537, 538, 539, 540, 541, 542, 543, 544, 545, 546, 547, 548, 549, 340, 550, 551, 552, 553, 927, 928, 929, 930, 931, 932, 933, 934, 935, 936, 937, 938, 939, 940, 941, 942, 943, 944, 945, 946, 947, 948, 949, 950, 951, 952, 953, 954, 955, 956, 957, 958, 959, 960, 961] (by decide +kernel) (by decide +kernel)
set_option maxRecDepth 20000 in
theorem gL_law_X8_shortOn : GoodIn wsL_law (wsV RL 99 RX8 yX8_shortOn wsX8_shortOn) := goodIn_app (goodIn_of _ (by decide +kernel)) ggL_law_X8_shortOn
set_option maxRecDepth 20000 in
theorem ggL_law_X7_night : GoodIn wsL_law wsX7_night := goodIn_r _ [784, 128, 24, 558, 28, 35, 22, 44, 689, 690, 691, 34, 692, 74, 75, 76, 77, 78, 79, 80, 81, 82, 168, 169, 170, 171, 172, 173, 773, 774, 775, 2, 776, 694, 695, 696, 697, 43, 498, 499, 500, 42, 501, 502, 503, 504, 274, 275, 276, 505, 506, 507, 508, 65, 509, 471, 472, 473, 439, 440, 441, 442, 443, 432, 433, 434, 66, 510, 511, 512, 513, 514, 515, 516, 517, 518, 519, 520, 521, 522, 161, 70, 785, 786, 787, 788, 916, 917, 918, 919, 920, 921, 922, 923, 924, 925, 926, 971, 972, 973, 974, 979, 980, 981, 982, 983, 984, 985, 986, 987, 988, 989, 990, 991, 992, 993, 997, 998, 999, 1000, 1001, 1002, 1003, 1004, 1005] (by decide +kernel) (by decide +kernel)
set_option maxRecDepth 20000 in
theorem gL_law_X7_night : GoodIn wsL_law (wsV RL 100 RX7 yX7_night wsX7_night) := goodIn_app (goodIn_of _ (by decide +kernel)) ggL_law_X7_night
set_option maxRecDepth 20000 in
theorem ggL_law_X8_night : GoodIn wsL_law wsX8_night := goodIn_r _ [792, 140, 104, 528, 343, 144, 145, 5, 146, 732, 733, 734, 735, 103, 761, 762, 763, 764, 118, 119, 120, 388, 389, 390, 529, 530, 531, 532, 105, 453, 454, 455, 456, 106, 461, 462, 463, 464, 533, 534, 535, 536, 537, 538, 539, 540, 541, 542, 543, 544, 545, 546, 547, 548, 549, 340, 550, 551, 552, 553, 793, 794, 795, 796, 927, 928, 929, 930, 931, 932, 933, 934, 935, 936, 937, 938, 939, 940, 941, 942, 943, 944, 945, 946, 947, 948, 949, 950, 951, 952, 953, 954, 955, 956, 957, 958, 959, 960, 961] (by decide +kernel) (by decide +kernel)
set_option maxRecDepth 20000 in
theorem gL_law_X8_night : GoodIn wsL_law (wsV RL 103 RX8 yX8_night wsX8_night) := goodIn_app (goodIn_of _ (by decide +kernel)) ggL_law_X8_night
set_option maxRecDepth 20000 in
theorem ggL_law_X7_best : GoodIn wsL_law wsX7_best := goodIn_r _ [800, 128, 43, 801, 802, 803, 2, 804, 805, 515, 275, 516, 44, 806, 807, 808, 809, 478, 479, 480, 42, 481, 163, 67, 474, 475, 476, 477, 161, 443, 432, 433, 434, 66, 810, 811, 812, 813, 814, 815, 816, 431, 916, 917, 918, 919, 920, 921, 922, 923, 924, 925, 926, 997, 998, 999, 1000, 1001, 1002, 1003, 1004, 1005, 979, 980, 981, 982, 983, 984, 985, 986, 987, 988, 989, 990, 991, 992, 993] (by decide +kernel) (by decide +kernel)
set_option maxRecDepth 20000 in
theorem gL_law_X7_best : GoodIn wsL_law (wsV RL 104 RX7 yX7_best wsX7_best) := goodIn_app (goodIn_of _ (by decide +kernel)) ggL_law_X7_best
