theorem in_ps {ws : List Cond} (ps : List Nat) (hp : ws = ps.filterMap (fun i => lw_tbl[i]?)) : ∀ w ∈ ws, w ∈ lw_tbl := fun w h => by
  rw [hp] at h
  obtain ⟨i, -, hi⟩ := List.mem_filterMap.mp h
  exact List.mem_of_getElem? hi
set_option maxRecDepth 20000 in
theorem wsL_law0_r1_in : ∀ w ∈ wsL_law0_r1, w ∈ lw_tbl := in_ps [138, 139, 125, 908, 909, 131, 1295, 140, 141, 142, 143, 144, 145, 146, 147, 126, 290, 291, 149, 150, 151, 152, 153, 127] rfl
set_option maxRecDepth 20000 in
theorem wsL_law0_r2_in : ∀ w ∈ wsL_law0_r2, w ∈ lw_tbl := in_ps [259, 176, 177, 128, 261, 195, 196, 129, 263, 207, 208, 130, 265, 174, 267, 272, 155, 156, 157, 158, 159, 175, 160, 179] rfl
set_option maxRecDepth 20000 in
theorem wsL_law0_r3_in : ∀ w ∈ wsL_law0_r3, w ∈ lw_tbl := in_ps [180, 181, 182, 183, 198, 199, 200, 210, 211, 212, 910, 911, 912, 913, 916, 917, 920, 914, 921, 924, 925, 322, 323, 124] rfl
set_option maxRecDepth 20000 in
theorem wsL_law0_r4_in : ∀ w ∈ wsL_law0_r4, w ∈ lw_tbl := in_ps [324, 325, 326, 327, 328, 329, 330, 135, 264, 262, 396, 397, 398, 399, 201, 400, 401, 402, 403, 404, 186, 405, 406, 407] rfl
set_option maxRecDepth 20000 in
theorem wsL_law0_r5_in : ∀ w ∈ wsL_law0_r5, w ∈ lw_tbl := in_ps [408, 409, 410, 411, 412, 1262, 1263, 1264, 1265, 915, 1032, 918, 919, 1003, 1004, 1005, 1006, 413, 414, 415, 416, 417, 418, 419] rfl
set_option maxRecDepth 20000 in
theorem wsL_law0_r6_in : ∀ w ∈ wsL_law0_r6, w ∈ lw_tbl := in_ps [202, 184, 420, 421, 422, 423, 424, 425, 426, 427, 1266, 1267, 1268, 1269, 428, 429, 430, 431, 432, 433, 434, 435, 260, 437] rfl
set_option maxRecDepth 20000 in
theorem wsL_law0_r7_in : ∀ w ∈ wsL_law0_r7, w ∈ lw_tbl := in_ps [438, 439, 440, 161, 163, 441, 1270, 1271, 1272, 1273, 1274, 1041, 1043, 73, 1044, 922, 923, 442, 443, 444, 445, 446, 447, 448] rfl
set_option maxRecDepth 20000 in
theorem wsL_law0_r8_in : ∀ w ∈ wsL_law0_r8, w ∈ lw_tbl := in_ps [449, 451, 452, 453, 454, 1275, 1276, 1277, 1278, 1040, 1049, 1051, 75, 1052, 306, 307, 308, 309, 310, 311, 312, 313, 1279, 1280] rfl
set_option maxRecDepth 20000 in
theorem wsL_law0_r9_in : ∀ w ∈ wsL_law0_r9, w ∈ lw_tbl := in_ps [1281, 1282, 314, 315, 316, 317, 318, 319, 320, 321, 1283, 1284, 1285, 1286, 455, 456, 457, 458, 459, 460, 461, 462, 463, 136] rfl
set_option maxRecDepth 20000 in
theorem wsL_law0_r10_in : ∀ w ∈ wsL_law0_r10, w ∈ lw_tbl := in_ps [1287, 1288, 1289, 1290, 479, 480, 481, 482, 483, 484, 485, 268, 266, 487, 489, 1, 490, 292, 293, 491, 492, 493, 494, 495] rfl
set_option maxRecDepth 20000 in
theorem wsL_law0_r11_in : ∀ w ∈ wsL_law0_r11, w ∈ lw_tbl := in_ps [497, 2, 498, 294, 499, 500, 501, 502, 185, 503, 505, 3, 506, 203, 507, 508, 510, 4, 511, 512, 513, 514, 515, 516] rfl
set_option maxRecDepth 20000 in
theorem wsL_law0_r12_in : ∀ w ∈ wsL_law0_r12, w ∈ lw_tbl := in_ps [517, 518, 519, 520, 521, 522, 523, 524, 525, 526, 527, 528, 529, 530, 531, 532, 533, 534, 535, 536, 537, 538, 187, 213] rfl
set_option maxRecDepth 20000 in
theorem wsL_law0_r13_in : ∀ w ∈ wsL_law0_r13, w ∈ lw_tbl := in_ps [233, 217, 218, 215, 539, 541, 5, 542, 543, 545, 6, 546, 547, 548, 549, 550, 551, 552, 553, 555, 557, 7, 558, 559] rfl
set_option maxRecDepth 20000 in
theorem wsL_law0_r14_in : ∀ w ∈ wsL_law0_r14, w ∈ lw_tbl := in_ps [561, 8, 562, 221, 230, 231, 563, 564, 565, 566, 568, 9, 569, 220, 224, 226, 228, 586, 570, 571, 572, 573, 574, 576] rfl
set_option maxRecDepth 20000 in
theorem wsL_law0_r15_in : ∀ w ∈ wsL_law0_r15, w ∈ lw_tbl := in_ps [10, 577, 578, 579, 580, 581, 583, 11, 584, 585, 587, 589, 12, 590, 591, 592, 593, 594, 595, 597, 13, 598, 599, 600] rfl
set_option maxRecDepth 20000 in
theorem wsL_law0_r16_in : ∀ w ∈ wsL_law0_r16, w ∈ lw_tbl := in_ps [601, 602, 603, 604, 605, 606, 216, 229, 607, 609, 14, 610, 222, 611, 612, 613, 614, 615, 616, 617, 618, 619, 621, 15] rfl
set_option maxRecDepth 20000 in
theorem wsL_law0_r17_in : ∀ w ∈ wsL_law0_r17, w ∈ lw_tbl := in_ps [622, 623, 625, 16, 626, 223, 225, 227, 627, 628, 629, 630, 631, 632, 634, 17, 635, 636, 637, 639, 18, 640, 641, 642] rfl
set_option maxRecDepth 20000 in
theorem wsL_law0_r18_in : ∀ w ∈ wsL_law0_r18, w ∈ lw_tbl := in_ps [643, 644, 645, 646, 648, 19, 649, 650, 651, 652, 653, 654, 655, 137, 656, 657, 658, 659, 660, 662, 20, 663, 664, 666] rfl
set_option maxRecDepth 20000 in
theorem wsL_law0_r19_in : ∀ w ∈ wsL_law0_r19, w ∈ lw_tbl := in_ps [21, 667, 668, 670, 22, 671, 672, 673, 674, 675, 676, 677, 679, 23, 680, 681, 683, 24, 684, 685, 687, 25, 688, 689] rfl
set_option maxRecDepth 20000 in
theorem wsL_law0_r20_in : ∀ w ∈ wsL_law0_r20, w ∈ lw_tbl := in_ps [690, 691, 692, 693, 695, 26, 696, 698, 697, 699, 701, 27, 702, 703, 705, 28, 706, 707, 709, 29, 710, 711, 713, 30] rfl
set_option maxRecDepth 20000 in
theorem wsL_law0_r21_in : ∀ w ∈ wsL_law0_r21, w ∈ lw_tbl := in_ps [714, 715, 716, 717, 718, 719, 721, 31, 722, 723, 725, 32, 726, 727, 728, 729, 730, 731, 733, 33, 734, 735, 737, 34] rfl
set_option maxRecDepth 20000 in
theorem wsL_law0_r22_in : ∀ w ∈ wsL_law0_r22, w ∈ lw_tbl := in_ps [738, 739, 740, 742, 35, 743, 744, 746, 36, 747, 748, 749, 751, 37, 752, 753, 755, 38, 756, 232, 766, 757, 759, 39] rfl
set_option maxRecDepth 20000 in
theorem wsL_law0_r23_in : ∀ w ∈ wsL_law0_r23, w ∈ lw_tbl := in_ps [760, 761, 763, 40, 764, 765, 767, 769, 41, 770, 771, 772, 773, 774, 775, 777, 42, 778, 219, 271, 214, 779, 781, 43] rfl
set_option maxRecDepth 20000 in
theorem wsL_law0_r24_in : ∀ w ∈ wsL_law0_r24, w ∈ lw_tbl := in_ps [782, 783, 785, 44, 786, 787, 788, 790, 45, 791, 792, 794, 46, 795, 796, 797, 799, 47, 800, 801, 802, 803, 804, 805] rfl
set_option maxRecDepth 20000 in
theorem wsL_law0_r25_in : ∀ w ∈ wsL_law0_r25, w ∈ lw_tbl := in_ps [806, 807, 808, 809, 811, 48, 812, 813, 815, 49, 816, 817, 819, 50, 820, 821, 823, 51, 824, 825, 827, 52, 828, 829] rfl
set_option maxRecDepth 20000 in
theorem wsL_law0_r26_in : ∀ w ∈ wsL_law0_r26, w ∈ lw_tbl := in_ps [831, 53, 832, 833, 835, 54, 836, 837, 838, 839, 840, 841, 843, 55, 844, 845, 847, 56, 848, 849, 851, 57, 852, 853] rfl
set_option maxRecDepth 20000 in
theorem wsL_law0_r27_in : ∀ w ∈ wsL_law0_r27, w ∈ lw_tbl := in_ps [855, 58, 856, 857, 859, 59, 860, 861, 863, 60, 864, 865, 866, 867, 869, 61, 870, 269, 871, 873, 62, 874, 875, 877] rfl
set_option maxRecDepth 20000 in
theorem wsL_law0_r28_in : ∀ w ∈ wsL_law0_r28, w ∈ lw_tbl := in_ps [63, 878, 879, 880, 881, 882, 883, 885, 64, 886, 887, 889, 65, 890, 891, 892, 893, 894, 895, 897, 66, 898, 899, 1007] rfl
set_option maxRecDepth 20000 in
theorem wsL_law0_r29_in : ∀ w ∈ wsL_law0_r29, w ∈ lw_tbl := in_ps [1008, 1009, 1010, 1011, 1013, 67, 1014, 929, 930, 931, 928, 926, 1015, 1017, 68, 1018, 1019, 1021, 69, 1022, 1023, 1025, 70, 1026] rfl
set_option maxRecDepth 20000 in
theorem wsL_law0_r30_in : ∀ w ∈ wsL_law0_r30, w ∈ lw_tbl := in_ps [1027, 1028, 1030, 71, 1031, 1033, 1035, 72, 1036, 1037, 1038, 1039, 1045, 1047, 74, 1048, 1053, 1055, 76, 1056, 932, 933, 934, 935] rfl
set_option maxRecDepth 20000 in
theorem wsL_law0_r31_in : ∀ w ∈ wsL_law0_r31, w ∈ lw_tbl := in_ps [936, 1057, 1059, 77, 1060, 1061, 1063, 78, 1064, 942, 943, 938, 937, 1065, 1067, 79, 1068, 1069, 1071, 80, 1072, 939, 940, 941] rfl
set_option maxRecDepth 20000 in
theorem wsL_law0_r32_in : ∀ w ∈ wsL_law0_r32, w ∈ lw_tbl := in_ps [1073, 1075, 81, 1076, 1077, 1078, 1079, 1080, 1082, 82, 1083, 1084, 1086, 83, 1087, 1088, 1090, 84, 1091, 1092, 1094, 85, 1095, 1096] rfl
set_option maxRecDepth 20000 in
theorem wsL_law0_r33_in : ∀ w ∈ wsL_law0_r33, w ∈ lw_tbl := in_ps [1098, 86, 1099, 1100, 1102, 87, 1103, 1104, 1106, 88, 1107, 1108, 1110, 89, 1111, 1112, 1114, 90, 1115, 1116, 1117, 1118, 1119, 1120] rfl
set_option maxRecDepth 20000 in
theorem wsL_law0_r34_in : ∀ w ∈ wsL_law0_r34, w ∈ lw_tbl := in_ps [1121, 1122, 1123, 1124, 1125, 1126, 1128, 91, 1129, 1130, 1132, 92, 1133, 1134, 1136, 93, 1137, 1138, 1140, 94, 1141, 1142, 1144, 95] rfl
set_option maxRecDepth 20000 in
theorem wsL_law0_r35_in : ∀ w ∈ wsL_law0_r35, w ∈ lw_tbl := in_ps [1145, 1146, 1148, 96, 1149, 1150, 1151, 1153, 97, 1154, 1155, 1157, 98, 1158, 1159, 1161, 99, 1162, 1163, 1165, 100, 1166, 1167, 1169] rfl
set_option maxRecDepth 20000 in
theorem wsL_law0_r36_in : ∀ w ∈ wsL_law0_r36, w ∈ lw_tbl := in_ps [101, 1170, 1171, 1173, 102, 1174, 1175, 1177, 103, 1178, 1179, 1181, 104, 1182, 1183, 1185, 105, 1186, 1187, 1189, 106, 1190, 1191, 1193] rfl
set_option maxRecDepth 20000 in
theorem wsL_law0_r37_in : ∀ w ∈ wsL_law0_r37, w ∈ lw_tbl := in_ps [107, 1194, 1195, 1197, 108, 1198, 927, 1199, 1201, 109, 1202, 1203, 1205, 110, 1206, 1207, 1209, 111, 1210, 1211, 1213, 112, 1214, 1215] rfl
set_option maxRecDepth 20000 in
theorem wsL_law0_r38_in : ∀ w ∈ wsL_law0_r38, w ∈ lw_tbl := in_ps [1217, 113, 1218, 1219, 1221, 114, 1222, 1223, 1225, 115, 1226, 1227, 1229, 116, 1230, 1231, 1233, 117, 1234, 1235, 1237, 118, 1238, 1239] rfl
set_option maxRecDepth 20000 in
theorem wsL_law0_r39_in : ∀ w ∈ wsL_law0_r39, w ∈ lw_tbl := in_ps [1241, 119, 1242, 1243, 1245, 120, 1246, 1247, 1249, 121, 1250, 1251, 1253, 122, 1254, 1255, 1256, 1257, 1258, 1260, 123, 1261, 900, 901] rfl
set_option maxRecDepth 20000 in
theorem wsL_law0_r40_in : ∀ w ∈ wsL_law0_r40, w ∈ lw_tbl := in_ps [902, 903, 904, 905, 906, 162, 164, 270, 1291, 1292, 1293, 1294] rfl
set_option maxRecDepth 20000 in
theorem wsX50_in : ∀ w ∈ wsX50, w ∈ lw_tbl := in_ps [295, 297, 299, 301, 303] rfl
set_option maxRecDepth 20000 in
theorem wsX60_in : ∀ w ∈ wsX60, w ∈ lw_tbl := in_ps [944, 946, 948, 950, 952, 954, 956, 958, 960, 962, 964, 966, 968, 970, 972, 974, 976, 978, 980, 982, 984, 986, 988, 990, 992, 994, 996, 998, 1000] rfl
set_option maxRecDepth 20000 in
theorem wsX30_in : ∀ w ∈ wsX30, w ∈ lw_tbl := in_ps [273, 275, 277, 279, 281, 283, 285, 287] rfl
set_option maxRecDepth 20000 in
theorem wsX20_in : ∀ w ∈ wsX20, w ∈ lw_tbl := in_ps [165, 167, 169, 171] rfl
set_option maxRecDepth 20000 in
theorem wsX40_in : ∀ w ∈ wsX40, w ∈ lw_tbl := in_ps [188, 190, 192] rfl
set_option maxRecDepth 20000 in
theorem wsX00_in : ∀ w ∈ wsX00, w ∈ lw_tbl := in_ps [204] rfl
set_option maxRecDepth 20000 in
theorem wsX10_in : ∀ w ∈ wsX10, w ∈ lw_tbl := in_ps [234, 236, 238, 240, 242, 244, 246, 248, 250, 252, 254, 256] rfl
