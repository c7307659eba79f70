theorem mem_ps {big ws : List Cond} (ps : List Nat) (hp : ws = ps.filterMap (fun i => big[i]?)) : ∀ w ∈ ws, w ∈ big := by
  intro w hw
  rw [hp] at hw
  obtain ⟨i, -, hi⟩ := List.mem_filterMap.mp hw
  exact List.mem_of_getElem? hi
set_option maxRecDepth 20000 in
theorem in_wsL_law_r1 : ∀ w ∈ wsL_law_r1, w ∈ lw_tbl := mem_ps [76, 77, 61, 827, 828, 69, 1229, 78, 79, 80, 81, 82, 83, 84, 85, 62, 321, 100, 101, 63, 322, 254, 323, 279] (by decide +kernel)
set_option maxRecDepth 20000 in
theorem in_wsL_law_r2 : ∀ w ∈ wsL_law_r2, w ∈ lw_tbl := mem_ps [324, 256, 257, 66, 325, 280, 281, 67, 326, 150, 65, 327, 301, 302, 68, 328, 319, 107, 64, 329, 330, 331, 87, 88] (by decide +kernel)
set_option maxRecDepth 20000 in
theorem in_wsL_law_r3 : ∀ w ∈ wsL_law_r3, w ∈ lw_tbl := mem_ps [89, 99, 90, 102, 103, 104, 105, 106, 229, 149, 231, 237, 228, 109, 110, 111, 148, 112, 114, 116, 117, 118, 119, 152] (by decide +kernel)
set_option maxRecDepth 20000 in
theorem in_wsL_law_r4 : ∀ w ∈ wsL_law_r4, w ∈ lw_tbl := mem_ps [153, 154, 155, 159, 162, 165, 167, 169, 172, 175, 178, 259, 260, 261, 262, 264, 266, 283, 284, 285, 286, 287, 288, 304] (by decide +kernel)
set_option maxRecDepth 20000 in
theorem in_wsL_law_r5 : ∀ w ∈ wsL_law_r5, w ∈ lw_tbl := mem_ps [305, 306, 307, 829, 830, 831, 832, 833, 834, 835, 836, 837, 838, 839, 840, 841, 842, 843, 844, 852, 858, 859, 860, 861] (by decide +kernel)
set_option maxRecDepth 20000 in
theorem in_wsL_law_r6 : ∀ w ∈ wsL_law_r6, w ∈ lw_tbl := mem_ps [862, 864, 865, 866, 355, 356, 357, 358, 359, 360, 361, 362, 363, 364, 91, 939, 940, 941, 942, 943, 947, 853, 948, 949] (by decide +kernel)
set_option maxRecDepth 20000 in
theorem in_wsL_law_r7 : ∀ w ∈ wsL_law_r7, w ∈ lw_tbl := mem_ps [944, 945, 946, 365, 366, 367, 368, 369, 370, 371, 372, 233, 235, 373, 374, 375, 376, 120, 123, 126, 377, 378, 379, 380] (by decide +kernel)
set_option maxRecDepth 20000 in
theorem in_wsL_law_r8 : ∀ w ∈ wsL_law_r8, w ∈ lw_tbl := mem_ps [181, 183, 186, 189, 192, 195, 381, 382, 383, 384, 385, 386, 387, 388, 389, 391, 0, 392, 393, 394, 395, 396, 397, 399] (by decide +kernel)
set_option maxRecDepth 20000 in
theorem in_wsL_law_r9 : ∀ w ∈ wsL_law_r9, w ∈ lw_tbl := mem_ps [1, 400, 234, 401, 403, 2, 404, 405, 406, 407, 408, 409, 411, 413, 3, 414, 415, 416, 417, 70, 418, 1230, 419, 420] (by decide +kernel)
set_option maxRecDepth 20000 in
theorem in_wsL_law_r10 : ∀ w ∈ wsL_law_r10, w ∈ lw_tbl := mem_ps [421, 422, 423, 1231, 425, 426, 427, 428, 429, 430, 431, 432, 433, 434, 71, 435, 436, 437, 438, 439, 441, 442, 72, 443] (by decide +kernel)
set_option maxRecDepth 20000 in
theorem in_wsL_law_r11 : ∀ w ∈ wsL_law_r11, w ∈ lw_tbl := mem_ps [444, 445, 73, 446, 447, 448, 449, 450, 451, 452, 453, 454, 455, 456, 457, 459, 461, 463, 465, 4, 466, 467, 469, 5] (by decide +kernel)
set_option maxRecDepth 20000 in
theorem in_wsL_law_r12 : ∀ w ∈ wsL_law_r12, w ∈ lw_tbl := mem_ps [470, 471, 473, 6, 474, 475, 477, 7, 478, 483, 484, 74, 485, 479, 480, 481, 482, 486, 488, 8, 489, 490, 491, 492] (by decide +kernel)
set_option maxRecDepth 20000 in
theorem in_wsL_law_r13 : ∀ w ∈ wsL_law_r13, w ∈ lw_tbl := mem_ps [493, 495, 497, 9, 498, 499, 501, 503, 10, 504, 505, 506, 507, 508, 510, 512, 11, 513, 514, 515, 516, 517, 518, 519] (by decide +kernel)
set_option maxRecDepth 20000 in
theorem in_wsL_law_r14 : ∀ w ∈ wsL_law_r14, w ∈ lw_tbl := mem_ps [520, 521, 522, 524, 12, 525, 526, 527, 528, 529, 530, 531, 532, 533, 534, 536, 13, 537, 950, 951, 952, 953, 854, 857] (by decide +kernel)
set_option maxRecDepth 20000 in
theorem in_wsL_law_r15 : ∀ w ∈ wsL_law_r15, w ∈ lw_tbl := mem_ps [848, 849, 850, 851, 845, 846, 847, 863, 867, 954, 956, 26, 957, 958, 960, 27, 961, 855, 962, 964, 28, 965, 966, 967] (by decide +kernel)
set_option maxRecDepth 20000 in
theorem in_wsL_law_r16 : ∀ w ∈ wsL_law_r16, w ∈ lw_tbl := mem_ps [856, 968, 970, 29, 971, 972, 974, 30, 975, 976, 978, 31, 979, 980, 982, 32, 983, 984, 985, 986, 987, 989, 33, 990] (by decide +kernel)
set_option maxRecDepth 20000 in
theorem in_wsL_law_r17 : ∀ w ∈ wsL_law_r17, w ∈ lw_tbl := mem_ps [991, 993, 34, 994, 995, 996, 997, 998, 1000, 35, 1001, 1002, 1003, 1004, 538, 539, 540, 541, 1005, 1006, 1007, 1008, 542, 543] (by decide +kernel)
set_option maxRecDepth 20000 in
theorem in_wsL_law_r18 : ∀ w ∈ wsL_law_r18, w ∈ lw_tbl := mem_ps [544, 545, 546, 547, 548, 549, 1009, 1010, 1011, 1012, 1013, 1015, 36, 1016, 550, 551, 552, 553, 558, 554, 555, 556, 557, 559] (by decide +kernel)
set_option maxRecDepth 20000 in
theorem in_wsL_law_r19 : ∀ w ∈ wsL_law_r19, w ∈ lw_tbl := mem_ps [560, 561, 562, 563, 564, 565, 566, 567, 568, 569, 570, 571, 1017, 1018, 1019, 1020, 1025, 1021, 1023, 37, 1024, 1026, 1028, 38] (by decide +kernel)
set_option maxRecDepth 20000 in
theorem in_wsL_law_r20 : ∀ w ∈ wsL_law_r20, w ∈ lw_tbl := mem_ps [1029, 1030, 1032, 39, 1033, 1034, 1036, 40, 1037, 572, 573, 574, 575, 576, 577, 578, 579, 580, 581, 582, 583, 584, 585, 586] (by decide +kernel)
set_option maxRecDepth 20000 in
theorem in_wsL_law_r21 : ∀ w ∈ wsL_law_r21, w ∈ lw_tbl := mem_ps [587, 588, 1038, 1039, 1040, 1041, 1042, 1044, 41, 1045, 1046, 1048, 42, 1049, 589, 590, 591, 592, 593, 594, 595, 596, 602, 617] (by decide +kernel)
set_option maxRecDepth 20000 in
theorem in_wsL_law_r22 : ∀ w ∈ wsL_law_r22, w ∈ lw_tbl := mem_ps [616, 597, 598, 599, 600, 601, 603, 604, 605, 606, 607, 608, 609, 610, 611, 612, 613, 614, 615, 1050, 1051, 1052, 1053, 1054] (by decide +kernel)
set_option maxRecDepth 20000 in
theorem in_wsL_law_r23 : ∀ w ∈ wsL_law_r23, w ∈ lw_tbl := mem_ps [1059, 1055, 1057, 43, 1058, 1060, 1062, 44, 1063, 1064, 1066, 45, 1067, 1068, 1069, 1070, 1071, 1072, 1073, 1075, 46, 1076, 1077, 1079] (by decide +kernel)
set_option maxRecDepth 20000 in
theorem in_wsL_law_r24 : ∀ w ∈ wsL_law_r24, w ∈ lw_tbl := mem_ps [47, 1080, 618, 619, 620, 621, 622, 623, 624, 625, 626, 627, 628, 629, 630, 631, 1081, 1082, 1083, 1084, 632, 633, 634, 635] (by decide +kernel)
set_option maxRecDepth 20000 in
theorem in_wsL_law_r25 : ∀ w ∈ wsL_law_r25, w ∈ lw_tbl := mem_ps [1085, 1086, 1087, 1088, 1089, 1090, 1092, 48, 1093, 636, 637, 638, 639, 1094, 1095, 1096, 1097, 640, 641, 642, 643, 644, 645, 646] (by decide +kernel)
set_option maxRecDepth 20000 in
theorem in_wsL_law_r26 : ∀ w ∈ wsL_law_r26, w ∈ lw_tbl := mem_ps [1098, 1099, 1100, 1101, 1102, 647, 648, 649, 650, 1103, 1104, 1105, 1106, 651, 652, 653, 654, 1107, 1108, 1109, 1110, 655, 656, 657] (by decide +kernel)
set_option maxRecDepth 20000 in
theorem in_wsL_law_r27 : ∀ w ∈ wsL_law_r27, w ∈ lw_tbl := mem_ps [658, 1111, 1112, 1113, 1114, 659, 660, 661, 662, 1115, 1116, 1117, 1118, 663, 664, 665, 666, 667, 668, 669, 670, 671, 672, 673] (by decide +kernel)
set_option maxRecDepth 20000 in
theorem in_wsL_law_r28 : ∀ w ∈ wsL_law_r28, w ∈ lw_tbl := mem_ps [674, 675, 677, 14, 678, 1119, 1120, 1121, 1122, 1123, 1125, 49, 1126, 1127, 1128, 1129, 1130, 679, 680, 681, 682, 683, 685, 15] (by decide +kernel)
set_option maxRecDepth 20000 in
theorem in_wsL_law_r29 : ∀ w ∈ wsL_law_r29, w ∈ lw_tbl := mem_ps [686, 687, 689, 16, 690, 691, 692, 693, 694, 695, 309, 310, 696, 698, 17, 699, 704, 700, 701, 702, 703, 705, 706, 708] (by decide +kernel)
set_option maxRecDepth 20000 in
theorem in_wsL_law_r30 : ∀ w ∈ wsL_law_r30, w ∈ lw_tbl := mem_ps [18, 709, 710, 712, 19, 713, 714, 715, 716, 717, 718, 719, 720, 722, 20, 723, 724, 725, 726, 727, 1131, 1132, 1133, 1134] (by decide +kernel)
set_option maxRecDepth 20000 in
theorem in_wsL_law_r31 : ∀ w ∈ wsL_law_r31, w ∈ lw_tbl := mem_ps [1135, 1137, 50, 1138, 1139, 1141, 51, 1142, 1143, 1145, 52, 1146, 1147, 1149, 53, 1150, 728, 729, 730, 731, 732, 733, 734, 735] (by decide +kernel)
set_option maxRecDepth 20000 in
theorem in_wsL_law_r32 : ∀ w ∈ wsL_law_r32, w ∈ lw_tbl := mem_ps [268, 1151, 1152, 1153, 1154, 736, 737, 738, 739, 1155, 1156, 1157, 1158, 1159, 1161, 54, 1162, 1163, 1165, 55, 1166, 740, 741, 742] (by decide +kernel)
set_option maxRecDepth 20000 in
theorem in_wsL_law_r33 : ∀ w ∈ wsL_law_r33, w ∈ lw_tbl := mem_ps [743, 744, 746, 21, 747, 748, 750, 22, 751, 1167, 1168, 1169, 1170, 752, 753, 754, 755, 756, 757, 758, 759, 1171, 1172, 1173] (by decide +kernel)
set_option maxRecDepth 20000 in
theorem in_wsL_law_r34 : ∀ w ∈ wsL_law_r34, w ∈ lw_tbl := mem_ps [1174, 1175, 1177, 56, 1178, 760, 761, 762, 763, 764, 766, 23, 767, 778, 768, 770, 24, 771, 772, 773, 75, 774, 775, 776] (by decide +kernel)
set_option maxRecDepth 20000 in
theorem in_wsL_law_r35 : ∀ w ∈ wsL_law_r35, w ∈ lw_tbl := mem_ps [777, 1179, 1180, 1181, 1182, 1183, 779, 780, 781, 782, 783, 784, 785, 786, 1184, 1185, 1186, 1187, 1188, 1190, 57, 1191, 787, 788] (by decide +kernel)
set_option maxRecDepth 20000 in
theorem in_wsL_law_r36 : ∀ w ∈ wsL_law_r36, w ∈ lw_tbl := mem_ps [789, 790, 1192, 1193, 1194, 1195, 791, 792, 793, 794, 795, 796, 797, 798, 289, 1196, 1197, 1198, 1199, 799, 800, 801, 802, 803] (by decide +kernel)
set_option maxRecDepth 20000 in
theorem in_wsL_law_r37 : ∀ w ∈ wsL_law_r37, w ∈ lw_tbl := mem_ps [804, 805, 806, 807, 809, 25, 810, 1200, 1201, 1202, 1203, 1204, 1205, 1207, 58, 1208, 1209, 1211, 59, 1212, 811, 812, 813, 814] (by decide +kernel)
set_option maxRecDepth 20000 in
theorem in_wsL_law_r38 : ∀ w ∈ wsL_law_r38, w ∈ lw_tbl := mem_ps [1213, 1214, 1215, 1216, 815, 816, 817, 818, 1217, 1218, 1219, 1220, 819, 820, 821, 822, 1221, 1222, 1223, 1224, 823, 824, 825, 826] (by decide +kernel)
set_option maxRecDepth 20000 in
theorem in_wsL_law_r39 : ∀ w ∈ wsL_law_r39, w ∈ lw_tbl := mem_ps [1225, 1226, 1227, 1228] (by decide +kernel)
set_option maxRecDepth 20000 in
theorem in_wsX70 : ∀ w ∈ wsX70, w ∈ lw_tbl := mem_ps [332, 334, 336, 338, 340, 342, 344, 346, 348, 350, 352] (by decide +kernel)
set_option maxRecDepth 20000 in
theorem in_wsX80 : ∀ w ∈ wsX80, w ∈ lw_tbl := mem_ps [868, 870, 872, 874, 876, 878, 880, 882, 884, 886, 888, 890, 892, 894, 896, 898, 900, 902, 904, 906, 908, 910, 912, 914, 916, 918, 920, 922, 924, 926, 928, 930, 932, 934, 936] (by decide +kernel)
set_option maxRecDepth 20000 in
theorem in_wsX50 : ∀ w ∈ wsX50, w ∈ lw_tbl := mem_ps [94, 96] (by decide +kernel)
set_option maxRecDepth 20000 in
theorem in_wsX20 : ∀ w ∈ wsX20, w ∈ lw_tbl := mem_ps [239, 241, 243, 245, 247, 249, 251] (by decide +kernel)
set_option maxRecDepth 20000 in
theorem in_wsX00 : ∀ w ∈ wsX00, w ∈ lw_tbl := mem_ps [270, 272, 274, 276] (by decide +kernel)
set_option maxRecDepth 20000 in
theorem in_wsX60 : ∀ w ∈ wsX60, w ∈ lw_tbl := mem_ps [291, 293, 295, 297] (by decide +kernel)
set_option maxRecDepth 20000 in
theorem in_wsX40 : ∀ w ∈ wsX40, w ∈ lw_tbl := mem_ps [197, 199, 201, 203, 205, 207, 209, 211, 213, 215, 217, 219, 221, 223, 225] (by decide +kernel)
set_option maxRecDepth 20000 in
theorem in_wsX30 : ∀ w ∈ wsX30, w ∈ lw_tbl := mem_ps [312, 314, 316] (by decide +kernel)
set_option maxRecDepth 20000 in
theorem in_wsX10 : ∀ w ∈ wsX10, w ∈ lw_tbl := mem_ps [129, 131, 133, 135, 137, 139, 141, 143, 145] (by decide +kernel)
theorem wsL_law_in : ∀ w ∈ wsL_law, w ∈ lw_tbl := (List.forall_mem_append.mpr ⟨(List.forall_mem_append.mpr ⟨(List.forall_mem_append.mpr ⟨(List.forall_mem_append.mpr ⟨(List.forall_mem_append.mpr ⟨(List.forall_mem_append.mpr ⟨(List.forall_mem_append.mpr ⟨(List.forall_mem_append.mpr ⟨(List.forall_mem_append.mpr ⟨(List.forall_mem_append.mpr ⟨(List.forall_mem_append.mpr ⟨in_wsL_law_r1, (List.forall_mem_append.mpr ⟨in_wsL_law_r2, (List.forall_mem_append.mpr ⟨in_wsL_law_r3, (List.forall_mem_append.mpr ⟨in_wsL_law_r4, (List.forall_mem_append.mpr ⟨in_wsL_law_r5, (List.forall_mem_append.mpr ⟨in_wsL_law_r6, (List.forall_mem_append.mpr ⟨in_wsL_law_r7, (List.forall_mem_append.mpr ⟨in_wsL_law_r8, (List.forall_mem_append.mpr ⟨in_wsL_law_r9, (List.forall_mem_append.mpr ⟨in_wsL_law_r10, (List.forall_mem_append.mpr ⟨in_wsL_law_r11, (List.forall_mem_append.mpr ⟨in_wsL_law_r12, (List.forall_mem_append.mpr ⟨in_wsL_law_r13, (List.forall_mem_append.mpr ⟨in_wsL_law_r14, (List.forall_mem_append.mpr ⟨in_wsL_law_r15, (List.forall_mem_append.mpr ⟨in_wsL_law_r16, (List.forall_mem_append.mpr ⟨in_wsL_law_r17, (List.forall_mem_append.mpr ⟨in_wsL_law_r18, (List.forall_mem_append.mpr ⟨in_wsL_law_r19, (List.forall_mem_append.mpr ⟨in_wsL_law_r20, (List.forall_mem_append.mpr ⟨in_wsL_law_r21, (List.forall_mem_append.mpr ⟨in_wsL_law_r22, (List.forall_mem_append.mpr ⟨in_wsL_law_r23, (List.forall_mem_append.mpr ⟨in_wsL_law_r24, (List.forall_mem_append.mpr ⟨in_wsL_law_r25, (List.forall_mem_append.mpr ⟨in_wsL_law_r26, (List.forall_mem_append.mpr ⟨in_wsL_law_r27, (List.forall_mem_append.mpr ⟨in_wsL_law_r28, (List.forall_mem_append.mpr ⟨in_wsL_law_r29, (List.forall_mem_append.mpr ⟨in_wsL_law_r30, (List.forall_mem_append.mpr ⟨in_wsL_law_r31, (List.forall_mem_append.mpr ⟨in_wsL_law_r32, (List.forall_mem_append.mpr ⟨in_wsL_law_r33, (List.forall_mem_append.mpr ⟨in_wsL_law_r34, (List.forall_mem_append.mpr ⟨in_wsL_law_r35, (List.forall_mem_append.mpr ⟨in_wsL_law_r36, (List.forall_mem_append.mpr ⟨in_wsL_law_r37, (List.forall_mem_append.mpr ⟨in_wsL_law_r38, in_wsL_law_r39⟩)⟩)⟩)⟩)⟩)⟩)⟩)⟩)⟩)⟩)⟩)⟩)⟩)⟩)⟩)⟩)⟩)⟩)⟩)⟩)⟩)⟩)⟩)⟩)⟩)⟩)⟩)⟩)⟩)⟩)⟩)⟩)⟩)⟩)⟩)⟩)⟩)⟩), in_wsX70⟩), in_wsX80⟩), in_wsX50⟩), in_wsX20⟩), in_wsX00⟩), in_wsX60⟩), in_wsX40⟩), in_wsX30⟩), in_wsX10⟩), (fun _ h => absurd h List.not_mem_nil)⟩)
