theorem fd_app {a b big : List Cond} (ha : ∀ w ∈ a, w ∈ big) (hb : ∀ w ∈ b, w ∈ big) : ∀ w ∈ a ++ b, w ∈ big := fun w h => (List.mem_append.mp h).elim (ha w) (hb w)
set_option maxRecDepth 20000 in
theorem in_wsL_law0_r1 : ∀ w ∈ wsL_law0_r1, w ∈ lw_tbl := fun w h => (goodIn_r wsL_law0_r1 [61, 62, 39, 1035, 1036, 50, 104, 1333, 63, 64, 65, 66, 67, 68, 69, 70, 40, 294, 106, 107, 41, 295, 122, 123] (by decide +kernel) (by decide +kernel) w h).1
set_option maxRecDepth 20000 in
theorem in_wsL_law0_r2 : ∀ w ∈ wsL_law0_r2, w ∈ lw_tbl := fun w h => (goodIn_r wsL_law0_r2 [42, 296, 138, 139, 43, 297, 228, 229, 47, 298, 241, 242, 48, 299, 260, 261, 49, 300, 301, 72, 73, 74, 103, 75] (by decide +kernel) (by decide +kernel) w h).1
set_option maxRecDepth 20000 in
theorem in_wsL_law0_r3 : ∀ w ∈ wsL_law0_r3, w ∈ lw_tbl := fun w h => (goodIn_r wsL_law0_r3 [76, 77, 78, 79, 105, 80, 109, 110, 111, 112, 113, 125, 126, 127, 128, 129, 140, 141, 142, 143, 144, 145, 44, 209] (by decide +kernel) (by decide +kernel) w h).1
set_option maxRecDepth 20000 in
theorem in_wsL_law0_r4 : ∀ w ∈ wsL_law0_r4, w ∈ lw_tbl := fun w h => (goodIn_r wsL_law0_r4 [172, 173, 45, 210, 204, 179, 46, 211, 212, 206, 207, 208, 147, 148, 149, 150, 151, 152, 153, 154, 155, 175, 176, 177] (by decide +kernel) (by decide +kernel) w h).1
set_option maxRecDepth 20000 in
theorem in_wsL_law0_r5 : ∀ w ∈ wsL_law0_r5, w ∈ lw_tbl := fun w h => (goodIn_r wsL_law0_r5 [178, 194, 195, 196, 181, 182, 183, 231, 232, 233, 234, 244, 245, 246, 247, 248, 263, 264, 265, 266, 267, 268, 269, 270] (by decide +kernel) (by decide +kernel) w h).1
set_option maxRecDepth 20000 in
theorem in_wsL_law0_r6 : ∀ w ∈ wsL_law0_r6, w ∈ lw_tbl := fun w h => (goodIn_r wsL_law0_r6 [271, 272, 1037, 1038, 1039, 1040, 1047, 1048, 1049, 1050, 1053, 1054, 1057, 1058, 1059, 1060, 1061, 1064, 1065, 1066, 1067, 1068, 1069, 1070] (by decide +kernel) (by decide +kernel) w h).1
set_option maxRecDepth 20000 in
theorem in_wsL_law0_r7 : ∀ w ∈ wsL_law0_r7, w ∈ lw_tbl := fun w h => (goodIn_r wsL_law0_r7 [1075, 1078, 1079, 1081, 1082, 1083, 1084, 1085, 1086, 1087, 1041, 1042, 1043, 1044, 1046, 1051, 1052, 1055, 1056, 1062, 1063, 1074, 1076, 1077] (by decide +kernel) (by decide +kernel) w h).1
set_option maxRecDepth 20000 in
theorem in_wsL_law0_r8 : ∀ w ∈ wsL_law0_r8, w ∈ lw_tbl := fun w h => (goodIn_r wsL_law0_r8 [1080, 537, 538, 38, 539, 540, 541, 542, 543, 544, 550, 54, 545, 546, 547, 548, 82, 549, 340, 341, 342, 81, 618, 619] (by decide +kernel) (by decide +kernel) w h).1
set_option maxRecDepth 20000 in
theorem in_wsL_law0_r9 : ∀ w ∈ wsL_law0_r9, w ∈ lw_tbl := fun w h => (goodIn_r wsL_law0_r9 [620, 621, 1179, 1180, 1181, 1182, 1045, 1183, 1185, 24, 1186, 622, 623, 624, 625, 626, 627, 628, 629, 630, 656, 56, 631, 633] (by decide +kernel) (by decide +kernel) w h).1
set_option maxRecDepth 20000 in
theorem in_wsL_law0_r10 : ∀ w ∈ wsL_law0_r10, w ∈ lw_tbl := fun w h => (goodIn_r wsL_law0_r10 [9, 634, 639, 55, 635, 636, 637, 638, 672, 673, 674, 675, 369, 371, 3, 372, 358, 1187, 1188, 1189, 1190, 1191, 1192, 1193] (by decide +kernel) (by decide +kernel) w h).1
set_option maxRecDepth 20000 in
theorem in_wsL_law0_r11 : ∀ w ∈ wsL_law0_r11, w ∈ lw_tbl := fun w h => (goodIn_r wsL_law0_r11 [676, 677, 678, 679, 680, 681, 682, 683, 398, 399, 400, 114, 685, 686, 687, 688, 1194, 1195, 1196, 1197, 1175, 1176, 1177, 1178] (by decide +kernel) (by decide +kernel) w h).1
set_option maxRecDepth 20000 in
theorem in_wsL_law0_r12 : ∀ w ∈ wsL_law0_r12, w ∈ lw_tbl := fun w h => (goodIn_r wsL_law0_r12 [689, 690, 691, 692, 693, 694, 695, 697, 698, 699, 700, 83, 1198, 1199, 1200, 1201, 701, 702, 703, 704, 705, 706, 707, 708] (by decide +kernel) (by decide +kernel) w h).1
set_option maxRecDepth 20000 in
theorem in_wsL_law0_r13 : ∀ w ∈ wsL_law0_r13, w ∈ lw_tbl := fun w h => (goodIn_r wsL_law0_r13 [709, 710, 711, 712, 714, 715, 716, 717, 1202, 1203, 1204, 1205, 718, 719, 720, 721, 722, 723, 724, 725, 726, 727, 728, 409] (by decide +kernel) (by decide +kernel) w h).1
set_option maxRecDepth 20000 in
theorem in_wsL_law0_r14 : ∀ w ∈ wsL_law0_r14, w ∈ lw_tbl := fun w h => (goodIn_r wsL_law0_r14 [390, 391, 392, 1206, 1207, 1208, 1209, 1210, 1212, 25, 1213, 1214, 1216, 26, 1217, 1218, 1219, 1220, 1221, 1222, 1224, 27, 1225, 729] (by decide +kernel) (by decide +kernel) w h).1
set_option maxRecDepth 20000 in
theorem in_wsL_law0_r15 : ∀ w ∈ wsL_law0_r15, w ∈ lw_tbl := fun w h => (goodIn_r wsL_law0_r15 [730, 731, 732, 733, 734, 735, 736, 738, 10, 739, 741, 742, 743, 744, 1226, 1227, 1228, 1229, 745, 746, 747, 748, 749, 750] (by decide +kernel) (by decide +kernel) w h).1
set_option maxRecDepth 20000 in
theorem in_wsL_law0_r16 : ∀ w ∈ wsL_law0_r16, w ∈ lw_tbl := fun w h => (goodIn_r wsL_law0_r16 [751, 752, 344, 345, 346, 130, 754, 755, 756, 757, 366, 367, 57, 368, 758, 759, 760, 761, 763, 11, 764, 766, 767, 768] (by decide +kernel) (by decide +kernel) w h).1
set_option maxRecDepth 20000 in
theorem in_wsL_law0_r17 : ∀ w ∈ wsL_law0_r17, w ∈ lw_tbl := fun w h => (goodIn_r wsL_law0_r17 [769, 770, 772, 12, 773, 1230, 1231, 1232, 1233, 1234, 1236, 28, 1237, 774, 775, 776, 777, 778, 779, 780, 781, 782, 783, 784] (by decide +kernel) (by decide +kernel) w h).1
set_option maxRecDepth 20000 in
theorem in_wsL_law0_r18 : ∀ w ∈ wsL_law0_r18, w ∈ lw_tbl := fun w h => (goodIn_r wsL_law0_r18 [335, 337, 1, 338, 339, 343, 786, 787, 788, 789, 347, 349, 2, 350, 351, 352, 353, 354, 355, 356, 357, 359, 360, 361] (by decide +kernel) (by decide +kernel) w h).1
set_option maxRecDepth 20000 in
theorem in_wsL_law0_r19 : ∀ w ∈ wsL_law0_r19, w ∈ lw_tbl := fun w h => (goodIn_r wsL_law0_r19 [362, 363, 365, 364, 58, 373, 374, 375, 376, 377, 378, 379, 380, 381, 382, 383, 384, 401, 402, 403, 404, 405, 406, 407] (by decide +kernel) (by decide +kernel) w h).1
set_option maxRecDepth 20000 in
theorem in_wsL_law0_r20 : ∀ w ∈ wsL_law0_r20, w ∈ lw_tbl := fun w h => (goodIn_r wsL_law0_r20 [408, 1238, 1239, 1240, 1241, 1242, 1244, 29, 1245, 1246, 1248, 30, 1249, 319, 320, 321, 322, 323, 324, 325, 326, 327, 329, 0] (by decide +kernel) (by decide +kernel) w h).1
set_option maxRecDepth 20000 in
theorem in_wsL_law0_r21 : ∀ w ∈ wsL_law0_r21, w ∈ lw_tbl := fun w h => (goodIn_r wsL_law0_r21 [330, 331, 332, 333, 334, 156, 385, 387, 4, 388, 389, 393, 394, 395, 396, 184, 185, 186, 397, 410, 411, 412, 413, 414] (by decide +kernel) (by decide +kernel) w h).1
set_option maxRecDepth 20000 in
theorem in_wsL_law0_r22 : ∀ w ∈ wsL_law0_r22, w ∈ lw_tbl := fun w h => (goodIn_r wsL_law0_r22 [415, 416, 417, 424, 418, 419, 59, 420, 421, 422, 423, 425, 426, 427, 428, 429, 430, 431, 432, 433, 434, 435, 436, 437] (by decide +kernel) (by decide +kernel) w h).1
set_option maxRecDepth 20000 in
theorem in_wsL_law0_r23 : ∀ w ∈ wsL_law0_r23, w ∈ lw_tbl := fun w h => (goodIn_r wsL_law0_r23 [438, 439, 440, 441, 442, 443, 444, 445, 446, 447, 448, 449, 450, 451, 452, 453, 454, 455, 456, 457, 458, 460, 5, 461] (by decide +kernel) (by decide +kernel) w h).1
set_option maxRecDepth 20000 in
theorem in_wsL_law0_r24 : ∀ w ∈ wsL_law0_r24, w ∈ lw_tbl := fun w h => (goodIn_r wsL_law0_r24 [462, 463, 464, 465, 466, 467, 469, 6, 470, 471, 472, 473, 474, 475, 476, 477, 478, 479, 480, 481, 482, 483, 485, 7] (by decide +kernel) (by decide +kernel) w h).1
set_option maxRecDepth 20000 in
theorem in_wsL_law0_r25 : ∀ w ∈ wsL_law0_r25, w ∈ lw_tbl := fun w h => (goodIn_r wsL_law0_r25 [486, 487, 488, 489, 490, 491, 492, 493, 494, 495, 496, 497, 498, 499, 500, 501, 502, 503, 504, 505, 1250, 1251, 1252, 1253] (by decide +kernel) (by decide +kernel) w h).1
set_option maxRecDepth 20000 in
theorem in_wsL_law0_r26 : ∀ w ∈ wsL_law0_r26, w ∈ lw_tbl := fun w h => (goodIn_r wsL_law0_r26 [1254, 1256, 31, 1257, 1071, 1072, 1073, 1258, 1260, 32, 1261, 1262, 1263, 1264, 1265, 1267, 33, 1268, 1269, 1271, 34, 1272, 790, 791] (by decide +kernel) (by decide +kernel) w h).1
set_option maxRecDepth 20000 in
theorem in_wsL_law0_r27 : ∀ w ∈ wsL_law0_r27, w ∈ lw_tbl := fun w h => (goodIn_r wsL_law0_r27 [792, 793, 794, 795, 796, 798, 800, 13, 801, 804, 806, 14, 807, 808, 809, 810, 811, 812, 813, 814, 815, 816, 817, 818] (by decide +kernel) (by decide +kernel) w h).1
set_option maxRecDepth 20000 in
theorem in_wsL_law0_r28 : ∀ w ∈ wsL_law0_r28, w ∈ lw_tbl := fun w h => (goodIn_r wsL_law0_r28 [819, 820, 821, 822, 823, 1273, 1274, 1275, 1276, 824, 825, 826, 827, 828, 829, 830, 832, 834, 15, 835, 836, 837, 838, 839] (by decide +kernel) (by decide +kernel) w h).1
set_option maxRecDepth 20000 in
theorem in_wsL_law0_r29 : ∀ w ∈ wsL_law0_r29, w ∈ lw_tbl := fun w h => (goodIn_r wsL_law0_r29 [840, 841, 842, 843, 844, 845, 846, 847, 848, 849, 850, 851, 852, 853, 854, 855, 1277, 1278, 1279, 1280, 856, 857, 858, 859] (by decide +kernel) (by decide +kernel) w h).1
set_option maxRecDepth 20000 in
theorem in_wsL_law0_r30 : ∀ w ∈ wsL_law0_r30, w ∈ lw_tbl := fun w h => (goodIn_r wsL_law0_r30 [860, 861, 862, 863, 864, 865, 866, 867, 868, 869, 870, 235, 871, 873, 16, 874, 875, 876, 877, 878, 1281, 1282, 1283, 1284] (by decide +kernel) (by decide +kernel) w h).1
set_option maxRecDepth 20000 in
theorem in_wsL_law0_r31 : ∀ w ∈ wsL_law0_r31, w ∈ lw_tbl := fun w h => (goodIn_r wsL_law0_r31 [879, 880, 881, 882, 883, 884, 885, 886, 887, 888, 889, 1285, 1286, 1287, 1288, 890, 891, 892, 893, 894, 895, 896, 898, 899] (by decide +kernel) (by decide +kernel) w h).1
set_option maxRecDepth 20000 in
theorem in_wsL_law0_r32 : ∀ w ∈ wsL_law0_r32, w ∈ lw_tbl := fun w h => (goodIn_r wsL_law0_r32 [900, 901, 249, 250, 1289, 1290, 1291, 1292, 902, 903, 904, 905, 906, 907, 908, 909, 911, 17, 912, 913, 914, 915, 916, 918] (by decide +kernel) (by decide +kernel) w h).1
set_option maxRecDepth 20000 in
theorem in_wsL_law0_r33 : ∀ w ∈ wsL_law0_r33, w ∈ lw_tbl := fun w h => (goodIn_r wsL_law0_r33 [919, 920, 921, 923, 924, 925, 926, 1293, 1294, 1295, 1296, 927, 928, 929, 930, 931, 932, 933, 935, 936, 937, 938, 939, 941] (by decide +kernel) (by decide +kernel) w h).1
set_option maxRecDepth 20000 in
theorem in_wsL_law0_r34 : ∀ w ∈ wsL_law0_r34, w ∈ lw_tbl := fun w h => (goodIn_r wsL_law0_r34 [18, 942, 946, 943, 944, 945, 947, 948, 949, 950, 1297, 1298, 1299, 1300, 1301, 1303, 35, 1304, 951, 952, 953, 954, 955, 956] (by decide +kernel) (by decide +kernel) w h).1
set_option maxRecDepth 20000 in
theorem in_wsL_law0_r35 : ∀ w ∈ wsL_law0_r35, w ∈ lw_tbl := fun w h => (goodIn_r wsL_law0_r35 [957, 958, 959, 960, 961, 273, 963, 964, 965, 967, 968, 969, 970, 971, 973, 19, 974, 1305, 1306, 1307, 1308, 975, 976, 977] (by decide +kernel) (by decide +kernel) w h).1
set_option maxRecDepth 20000 in
theorem in_wsL_law0_r36 : ∀ w ∈ wsL_law0_r36, w ∈ lw_tbl := fun w h => (goodIn_r wsL_law0_r36 [978, 979, 980, 981, 982, 983, 984, 986, 987, 988, 989, 274, 990, 992, 20, 993, 994, 996, 21, 997, 998, 1000, 22, 1001] (by decide +kernel) (by decide +kernel) w h).1
set_option maxRecDepth 20000 in
theorem in_wsL_law0_r37 : ∀ w ∈ wsL_law0_r37, w ∈ lw_tbl := fun w h => (goodIn_r wsL_law0_r37 [1002, 1004, 23, 1005, 1006, 1309, 1310, 1311, 1312, 1313, 1315, 36, 1316, 1317, 1318, 1319, 1320, 1322, 37, 1323, 1007, 1008, 1009, 1010] (by decide +kernel) (by decide +kernel) w h).1
set_option maxRecDepth 20000 in
theorem in_wsL_law0_r38 : ∀ w ∈ wsL_law0_r38, w ∈ lw_tbl := fun w h => (goodIn_r wsL_law0_r38 [1011, 1012, 1013, 1014, 1015, 1016, 1017, 1018, 1324, 1325, 1326, 1327, 1019, 1020, 1021, 1022, 1023, 1024, 1025, 1026, 1027, 1028, 1029, 1030] (by decide +kernel) (by decide +kernel) w h).1
set_option maxRecDepth 20000 in
theorem in_wsL_law0_r39 : ∀ w ∈ wsL_law0_r39, w ∈ lw_tbl := fun w h => (goodIn_r wsL_law0_r39 [1031, 1032, 1033, 1328, 1329, 1330, 1331, 506, 507, 508, 509, 510, 511, 512, 513, 514, 515, 516, 517, 518, 519, 520, 521, 522] (by decide +kernel) (by decide +kernel) w h).1
set_option maxRecDepth 20000 in
theorem in_wsL_law0_r40 : ∀ w ∈ wsL_law0_r40, w ∈ lw_tbl := fun w h => (goodIn_r wsL_law0_r40 [523, 524, 525, 526, 527, 60, 528, 529, 530, 531, 532, 533, 534, 535, 536, 1332] (by decide +kernel) (by decide +kernel) w h).1
set_option maxRecDepth 20000 in
theorem in_wsX100 : ∀ w ∈ wsX100, w ∈ lw_tbl := fun w h => (goodIn_r wsX100 [302, 304, 306, 308, 310, 312, 314, 316] (by decide +kernel) (by decide +kernel) w h).1
set_option maxRecDepth 20000 in
theorem in_wsX110 : ∀ w ∈ wsX110, w ∈ lw_tbl := fun w h => (goodIn_r wsX110 [1088, 1090, 1092, 1094, 1096, 1098, 1100, 1102, 1104, 1106, 1108, 1110, 1112, 1114, 1116, 1118, 1120, 1122, 1124, 1126, 1128, 1130, 1132, 1134, 1136, 1138, 1140, 1142, 1144, 1146, 1148, 1150, 1152, 1154, 1156, 1158, 1160, 1162, 1164, 1166, 1168, 1170, 1172] (by decide +kernel) (by decide +kernel) w h).1
set_option maxRecDepth 20000 in
theorem in_wsX20 : ∀ w ∈ wsX20, w ∈ lw_tbl := fun w h => (goodIn_r wsX20 [84, 86, 88, 90, 92, 94, 96, 98, 100] (by decide +kernel) (by decide +kernel) w h).1
set_option maxRecDepth 20000 in
theorem in_wsX50 : ∀ w ∈ wsX50, w ∈ lw_tbl := fun w h => (goodIn_r wsX50 [115, 117, 119] (by decide +kernel) (by decide +kernel) w h).1
set_option maxRecDepth 20000 in
theorem in_wsX40 : ∀ w ∈ wsX40, w ∈ lw_tbl := fun w h => (goodIn_r wsX40 [131, 133, 135] (by decide +kernel) (by decide +kernel) w h).1
set_option maxRecDepth 20000 in
theorem in_wsX30 : ∀ w ∈ wsX30, w ∈ lw_tbl := fun w h => (goodIn_r wsX30 [213, 215, 217, 219, 221, 223, 225] (by decide +kernel) (by decide +kernel) w h).1
set_option maxRecDepth 20000 in
theorem in_wsX70 : ∀ w ∈ wsX70, w ∈ lw_tbl := fun w h => (goodIn_r wsX70 [236, 238] (by decide +kernel) (by decide +kernel) w h).1
set_option maxRecDepth 20000 in
theorem in_wsX10 : ∀ w ∈ wsX10, w ∈ lw_tbl := fun w h => (goodIn_r wsX10 [251, 253, 255, 257] (by decide +kernel) (by decide +kernel) w h).1
set_option maxRecDepth 20000 in
theorem in_wsX60 : ∀ w ∈ wsX60, w ∈ lw_tbl := fun w h => (goodIn_r wsX60 [275, 277, 279, 281, 283, 285, 287, 289, 291] (by decide +kernel) (by decide +kernel) w h).1
set_option maxRecDepth 20000 in
theorem in_wsX80 : ∀ w ∈ wsX80, w ∈ lw_tbl := fun w h => (goodIn_r wsX80 [157, 159, 161, 163, 165, 167, 169] (by decide +kernel) (by decide +kernel) w h).1
set_option maxRecDepth 20000 in
theorem in_wsX00 : ∀ w ∈ wsX00, w ∈ lw_tbl := fun w h => (goodIn_r wsX00 [197, 199, 201] (by decide +kernel) (by decide +kernel) w h).1
set_option maxRecDepth 20000 in
theorem in_wsX90 : ∀ w ∈ wsX90, w ∈ lw_tbl := fun w h => (goodIn_r wsX90 [187, 189, 191] (by decide +kernel) (by decide +kernel) w h).1
/-- the law's words, in the order of wsL_law -/
def fd_wl : List Cond := wsL_law0_r1 ++ (wsL_law0_r2 ++ (wsL_law0_r3 ++ (wsL_law0_r4 ++ (wsL_law0_r5 ++ (wsL_law0_r6 ++ (wsL_law0_r7 ++ (wsL_law0_r8 ++ (wsL_law0_r9 ++ (wsL_law0_r10 ++ (wsL_law0_r11 ++ (wsL_law0_r12 ++ (wsL_law0_r13 ++ (wsL_law0_r14 ++ (wsL_law0_r15 ++ (wsL_law0_r16 ++ (wsL_law0_r17 ++ (wsL_law0_r18 ++ (wsL_law0_r19 ++ (wsL_law0_r20 ++ (wsL_law0_r21 ++ (wsL_law0_r22 ++ (wsL_law0_r23 ++ (wsL_law0_r24 ++ (wsL_law0_r25 ++ (wsL_law0_r26 ++ (wsL_law0_r27 ++ (wsL_law0_r28 ++ (wsL_law0_r29 ++ (wsL_law0_r30 ++ (wsL_law0_r31 ++ (wsL_law0_r32 ++ (wsL_law0_r33 ++ (wsL_law0_r34 ++ (wsL_law0_r35 ++ (wsL_law0_r36 ++ (wsL_law0_r37 ++ (wsL_law0_r38 ++ (wsL_law0_r39 ++ (wsL_law0_r40 ++ (wsX100 ++ (wsX110 ++ (wsX20 ++ (wsX50 ++ (wsX40 ++ (wsX30 ++ (wsX70 ++ (wsX10 ++ (wsX60 ++ (wsX80 ++ (wsX00 ++ (wsX90 ++ ((vx_atS RX10 75 "java/lang/IllegalStateException" ["java/lang/RuntimeException", "java/lang/Exception"]).filter goodWord ++ ((vx_atS RX10 91 "java/lang/IllegalArgumentException" ["java/lang/RuntimeException", "java/lang/Exception"]).filter goodWord ++ ((vx_atS RX10 118 "java/lang/IndexOutOfBoundsException" ["java/lang/RuntimeException", "java/lang/Exception"]).filter goodWord))))))))))))))))))))))))))))))))))))))))))))))))))))))
theorem in_at0 : ∀ w ∈ (vx_atS RX10 75 "java/lang/IllegalStateException" ["java/lang/RuntimeException", "java/lang/Exception"]).filter goodWord, w ∈ lw_tbl := by decide +kernel
theorem in_at1 : ∀ w ∈ (vx_atS RX10 91 "java/lang/IllegalArgumentException" ["java/lang/RuntimeException", "java/lang/Exception"]).filter goodWord, w ∈ lw_tbl := by decide +kernel
theorem in_at2 : ∀ w ∈ (vx_atS RX10 118 "java/lang/IndexOutOfBoundsException" ["java/lang/RuntimeException", "java/lang/Exception"]).filter goodWord, w ∈ lw_tbl := by decide +kernel
theorem fd_wl_in : ∀ w ∈ fd_wl, w ∈ lw_tbl := fd_app in_wsL_law0_r1 (fd_app in_wsL_law0_r2 (fd_app in_wsL_law0_r3 (fd_app in_wsL_law0_r4 (fd_app in_wsL_law0_r5 (fd_app in_wsL_law0_r6 (fd_app in_wsL_law0_r7 (fd_app in_wsL_law0_r8 (fd_app in_wsL_law0_r9 (fd_app in_wsL_law0_r10 (fd_app in_wsL_law0_r11 (fd_app in_wsL_law0_r12 (fd_app in_wsL_law0_r13 (fd_app in_wsL_law0_r14 (fd_app in_wsL_law0_r15 (fd_app in_wsL_law0_r16 (fd_app in_wsL_law0_r17 (fd_app in_wsL_law0_r18 (fd_app in_wsL_law0_r19 (fd_app in_wsL_law0_r20 (fd_app in_wsL_law0_r21 (fd_app in_wsL_law0_r22 (fd_app in_wsL_law0_r23 (fd_app in_wsL_law0_r24 (fd_app in_wsL_law0_r25 (fd_app in_wsL_law0_r26 (fd_app in_wsL_law0_r27 (fd_app in_wsL_law0_r28 (fd_app in_wsL_law0_r29 (fd_app in_wsL_law0_r30 (fd_app in_wsL_law0_r31 (fd_app in_wsL_law0_r32 (fd_app in_wsL_law0_r33 (fd_app in_wsL_law0_r34 (fd_app in_wsL_law0_r35 (fd_app in_wsL_law0_r36 (fd_app in_wsL_law0_r37 (fd_app in_wsL_law0_r38 (fd_app in_wsL_law0_r39 (fd_app in_wsL_law0_r40 (fd_app in_wsX100 (fd_app in_wsX110 (fd_app in_wsX20 (fd_app in_wsX50 (fd_app in_wsX40 (fd_app in_wsX30 (fd_app in_wsX70 (fd_app in_wsX10 (fd_app in_wsX60 (fd_app in_wsX80 (fd_app in_wsX00 (fd_app in_wsX90 (fd_app in_at0 (fd_app in_at1 (in_at2))))))))))))))))))))))))))))))))))))))))))))))))))))))
