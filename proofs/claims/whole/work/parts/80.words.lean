theorem z_in {big ws : List Cond} {is : List Nat} (h : ws.map some = is.map (fun i => big[i]?)) : ∀ w ∈ ws, w ∈ big := by
  intro w hw
  have h1 : some w ∈ is.map (fun i => big[i]?) := h ▸ List.mem_map_of_mem hw
  obtain ⟨i, -, e⟩ := List.mem_map.mp h1
  exact List.mem_of_getElem? e
set_option maxRecDepth 100000 in
theorem z_w1 : wsL_law_r1.map some = ([92, 93, 74, 927, 928, 91, 94, 95, 96, 97, 98, 99, 100, 101, 75, 682, 136, 683, 117, 118, 77, 684, 137, 138] : List Nat).map (fun i => lw_tbl[i]?) := by decide +kernel
set_option maxRecDepth 100000 in
theorem z_w2 : wsL_law_r2.map some = ([78, 685, 159, 160, 80, 686, 186, 187, 82, 687, 194, 195, 83, 688, 211, 212, 84, 689, 690, 691, 692, 102, 103, 104] : List Nat).map (fun i => lw_tbl[i]?) := by decide +kernel
set_option maxRecDepth 100000 in
theorem z_w3 : wsL_law_r3.map some = ([105, 106, 107, 76, 108, 116, 109, 120, 121, 122, 123, 124, 125, 140, 141, 142, 162, 163, 165, 79, 166, 167, 168, 169] : List Nat).map (fun i => lw_tbl[i]?) := by decide +kernel
set_option maxRecDepth 100000 in
theorem z_w4 : wsL_law_r4.map some = ([81, 182, 170, 171, 172, 173, 174, 175, 189, 190, 197, 198, 199, 210, 200, 201, 213, 214, 215, 216, 217, 218, 85, 286] : List Nat).map (fun i => lw_tbl[i]?) := by decide +kernel
set_option maxRecDepth 100000 in
theorem z_w5 : wsL_law_r5.map some = ([251, 290, 292, 253, 254, 86, 288, 220, 221, 222, 223, 224, 225, 226, 227, 229, 230, 252, 255, 256, 257, 258, 259, 264] : List Nat).map (fun i => lw_tbl[i]?) := by decide +kernel
set_option maxRecDepth 100000 in
theorem z_w6 : wsL_law_r6.map some = ([265, 266, 261, 262, 263, 260, 311, 312, 313, 314, 110, 315, 317, 0, 318, 289, 287, 291, 293, 319, 320, 321, 322, 126] : List Nat).map (fun i => lw_tbl[i]?) := by decide +kernel
set_option maxRecDepth 100000 in
theorem z_w7 : wsL_law_r7.map some = ([323, 324, 325, 326, 327, 328, 329, 330, 331, 333, 1, 334, 335, 337, 2, 338, 339, 341, 3, 342, 343, 344, 345, 347] : List Nat).map (fun i => lw_tbl[i]?) := by decide +kernel
set_option maxRecDepth 100000 in
theorem z_w8 : wsL_law_r8.map some = ([348, 367, 368, 369, 87, 370, 1365, 371, 372, 373, 374, 375, 1366, 377, 378, 379, 380, 381, 382, 383, 384, 385, 386, 88] : List Nat).map (fun i => lw_tbl[i]?) := by decide +kernel
set_option maxRecDepth 100000 in
theorem z_w9 : wsL_law_r9.map some = ([387, 388, 389, 390, 391, 393, 394, 89, 395, 396, 397, 90, 398, 399, 400, 401, 402, 403, 404, 405, 406, 407, 408, 409] : List Nat).map (fun i => lw_tbl[i]?) := by decide +kernel
set_option maxRecDepth 100000 in
theorem z_w10 : wsL_law_r10.map some = ([411, 413, 415, 416, 417, 418, 419, 420, 421, 422, 423, 424, 143, 144, 145, 147, 425, 426, 427, 428, 429, 430, 431, 432] : List Nat).map (fun i => lw_tbl[i]?) := by decide +kernel
set_option maxRecDepth 100000 in
theorem z_w11 : wsL_law_r11.map some = ([433, 435, 4, 436, 438, 439, 440, 442, 5, 443, 146, 445, 446, 447, 449, 6, 450, 452, 453, 455, 456, 457, 459, 7] : List Nat).map (fun i => lw_tbl[i]?) := by decide +kernel
set_option maxRecDepth 100000 in
theorem z_w12 : wsL_law_r12.map some = ([460, 461, 462, 463, 464, 267, 268, 465, 466, 467, 468, 228, 231, 469, 470, 471, 472, 176, 473, 474, 475, 476, 477, 478] : List Nat).map (fun i => lw_tbl[i]?) := by decide +kernel
set_option maxRecDepth 100000 in
theorem z_w13 : wsL_law_r13.map some = ([479, 481, 8, 482, 484, 486, 9, 487, 488, 489, 490, 491, 492, 493, 494, 495, 496, 498, 10, 499, 500, 502, 11, 503] : List Nat).map (fun i => lw_tbl[i]?) := by decide +kernel
set_option maxRecDepth 100000 in
theorem z_w14 : wsL_law_r14.map some = ([504, 505, 506, 507, 509, 510, 511, 512, 513, 514, 515, 516, 517, 518, 519, 521, 12, 522, 525, 526, 527, 529, 530, 531] : List Nat).map (fun i => lw_tbl[i]?) := by decide +kernel
set_option maxRecDepth 100000 in
theorem z_w15 : wsL_law_r15.map some = ([533, 13, 534, 535, 536, 537, 538, 539, 540, 542, 543, 544, 545, 546, 547, 548, 549, 550, 551, 552, 553, 554, 555, 556] : List Nat).map (fun i => lw_tbl[i]?) := by decide +kernel
set_option maxRecDepth 100000 in
theorem z_w16 : wsL_law_r16.map some = ([557, 559, 560, 561, 562, 564, 565, 566, 567, 568, 569, 570, 571, 572, 573, 574, 576, 577, 591, 592, 593, 594, 595, 596] : List Nat).map (fun i => lw_tbl[i]?) := by decide +kernel
set_option maxRecDepth 100000 in
theorem z_w17 : wsL_law_r17.map some = ([1363, 69, 598, 599, 600, 601, 602, 603, 604, 606, 607, 608, 609, 610, 611, 612, 613, 614, 616, 14, 617, 618, 619, 620] : List Nat).map (fun i => lw_tbl[i]?) := by decide +kernel
set_option maxRecDepth 100000 in
theorem z_w18 : wsL_law_r18.map some = ([621, 624, 632, 633, 634, 635, 636, 638, 639, 649, 1364, 70, 651, 652, 653, 654, 655, 656, 657, 658, 659, 660, 71, 661] : List Nat).map (fun i => lw_tbl[i]?) := by decide +kernel
set_option maxRecDepth 100000 in
theorem z_w19 : wsL_law_r19.map some = ([662, 664, 665, 666, 667, 668, 669, 670, 72, 672, 673, 674, 675, 676, 677, 678, 679, 681, 929, 930, 931, 932, 934, 936] : List Nat).map (fun i => lw_tbl[i]?) := by decide +kernel
set_option maxRecDepth 100000 in
theorem z_w20 : wsL_law_r20.map some = ([937, 939, 940, 941, 943, 944, 945, 946, 947, 949, 951, 952, 954, 955, 959, 961, 963, 964, 972, 973, 974, 975, 935, 717] : List Nat).map (fun i => lw_tbl[i]?) := by decide +kernel
set_option maxRecDepth 100000 in
theorem z_w21 : wsL_law_r21.map some = ([718, 719, 720, 721, 722, 723, 724, 725, 1063, 1064, 1065, 1066, 1067, 1068, 933, 1069, 1070, 1071, 726, 727, 728, 729, 1072, 1073] : List Nat).map (fun i => lw_tbl[i]?) := by decide +kernel
set_option maxRecDepth 100000 in
theorem z_w22 : wsL_law_r22.map some = ([1074, 1075, 730, 731, 732, 733, 734, 735, 736, 737, 738, 1076, 1077, 1078, 1079, 1080, 1082, 25, 1083, 938, 968, 969, 970, 971] : List Nat).map (fun i => lw_tbl[i]?) := by decide +kernel
set_option maxRecDepth 100000 in
theorem z_w23 : wsL_law_r23.map some = ([965, 967, 1084, 1086, 26, 1087, 1088, 1090, 27, 1091, 966, 1092, 1093, 1094, 1095, 1096, 1098, 28, 1099, 1100, 1101, 1102, 1103, 1105] : List Nat).map (fun i => lw_tbl[i]?) := by decide +kernel
set_option maxRecDepth 100000 in
theorem z_w24 : wsL_law_r24.map some = ([29, 1106, 1107, 1108, 1109, 1110, 1111, 1112, 1113, 1114, 1116, 30, 1117, 739, 740, 741, 742, 1118, 1119, 1120, 1121, 743, 744, 745] : List Nat).map (fun i => lw_tbl[i]?) := by decide +kernel
set_option maxRecDepth 100000 in
theorem z_w25 : wsL_law_r25.map some = ([746, 747, 748, 749, 750, 751, 752, 1122, 1123, 1124, 1125, 1126, 1127, 1128, 753, 754, 755, 756, 757, 758, 759, 760, 761, 762] : List Nat).map (fun i => lw_tbl[i]?) := by decide +kernel
set_option maxRecDepth 100000 in
theorem z_w26 : wsL_law_r26.map some = ([1129, 1130, 1131, 1132, 763, 764, 765, 766, 295, 767, 768, 769, 770, 771, 772, 773, 294, 296, 774, 775, 776, 777, 202, 782] : List Nat).map (fun i => lw_tbl[i]?) := by decide +kernel
set_option maxRecDepth 100000 in
theorem z_w27 : wsL_law_r27.map some = ([783, 784, 778, 779, 780, 781, 785, 787, 15, 788, 789, 790, 791, 792, 794, 16, 795, 796, 797, 799, 17, 800, 801, 803] : List Nat).map (fun i => lw_tbl[i]?) := by decide +kernel
set_option maxRecDepth 100000 in
theorem z_w28 : wsL_law_r28.map some = ([18, 804, 805, 807, 19, 808, 809, 810, 811, 813, 20, 814, 815, 817, 21, 818, 819, 820, 821, 822, 823, 825, 22, 826] : List Nat).map (fun i => lw_tbl[i]?) := by decide +kernel
set_option maxRecDepth 100000 in
theorem z_w29 : wsL_law_r29.map some = ([827, 828, 830, 23, 831, 832, 833, 834, 835, 836, 837, 838, 839, 841, 842, 843, 844, 1133, 1134, 1135, 1136, 957, 1137, 1138] : List Nat).map (fun i => lw_tbl[i]?) := by decide +kernel
set_option maxRecDepth 100000 in
theorem z_w30 : wsL_law_r30.map some = ([1139, 1140, 1141, 1143, 31, 1144, 942, 948, 950, 953, 956, 1145, 1147, 32, 1148, 1149, 1151, 33, 1152, 1153, 1154, 1155, 1156, 1158] : List Nat).map (fun i => lw_tbl[i]?) := by decide +kernel
set_option maxRecDepth 100000 in
theorem z_w31 : wsL_law_r31.map some = ([34, 1159, 1160, 1162, 35, 1163, 1164, 1166, 36, 1167, 1168, 1170, 37, 1171, 1172, 1174, 38, 1175, 1176, 1178, 39, 1179, 1180, 1182] : List Nat).map (fun i => lw_tbl[i]?) := by decide +kernel
set_option maxRecDepth 100000 in
theorem z_w32 : wsL_law_r32.map some = ([40, 1183, 1184, 1186, 41, 1187, 958, 1188, 1190, 42, 1191, 1192, 1194, 43, 1195, 1196, 1198, 44, 1199, 1200, 1202, 45, 1203, 1204] : List Nat).map (fun i => lw_tbl[i]?) := by decide +kernel
set_option maxRecDepth 100000 in
theorem z_w33 : wsL_law_r33.map some = ([1206, 46, 1207, 1208, 1209, 1211, 47, 1212, 1213, 1214, 1216, 48, 1217, 1218, 1220, 49, 1221, 1222, 1224, 50, 1225, 1226, 1227, 1229] : List Nat).map (fun i => lw_tbl[i]?) := by decide +kernel
set_option maxRecDepth 100000 in
theorem z_w34 : wsL_law_r34.map some = ([51, 1230, 1231, 1233, 52, 1234, 845, 846, 847, 848, 297, 1235, 1236, 1237, 1238, 1239, 849, 850, 851, 852, 853, 854, 855, 856] : List Nat).map (fun i => lw_tbl[i]?) := by decide +kernel
set_option maxRecDepth 100000 in
theorem z_w35 : wsL_law_r35.map some = ([857, 1240, 1241, 1242, 1243, 858, 859, 860, 861, 862, 863, 864, 865, 1244, 1245, 1246, 1247, 866, 867, 868, 869, 1248, 1249, 1250] : List Nat).map (fun i => lw_tbl[i]?) := by decide +kernel
set_option maxRecDepth 100000 in
theorem z_w36 : wsL_law_r36.map some = ([1251, 870, 871, 872, 873, 874, 1252, 1253, 1254, 1255, 875, 876, 877, 878, 879, 880, 881, 882, 887, 883, 885, 24, 886, 1256] : List Nat).map (fun i => lw_tbl[i]?) := by decide +kernel
set_option maxRecDepth 100000 in
theorem z_w37 : wsL_law_r37.map some = ([1257, 1258, 1259, 888, 889, 890, 891, 892, 893, 894, 895, 896, 897, 1260, 1261, 1262, 1263, 960, 1264, 1266, 53, 1267, 1268, 1270] : List Nat).map (fun i => lw_tbl[i]?) := by decide +kernel
set_option maxRecDepth 100000 in
theorem z_w38 : wsL_law_r38.map some = ([54, 1271, 962, 1272, 1274, 55, 1275, 1276, 1278, 56, 1279, 1280, 1282, 57, 1283, 1284, 1286, 58, 1287, 1288, 1289, 1291, 59, 1292] : List Nat).map (fun i => lw_tbl[i]?) := by decide +kernel
set_option maxRecDepth 100000 in
theorem z_w39 : wsL_law_r39.map some = ([1293, 1294, 1295, 1296, 1298, 60, 1299, 898, 899, 900, 901, 1300, 1301, 1302, 1303, 902, 903, 904, 905, 906, 1304, 1305, 1306, 1307] : List Nat).map (fun i => lw_tbl[i]?) := by decide +kernel
set_option maxRecDepth 100000 in
theorem z_w40 : wsL_law_r40.map some = ([907, 908, 909, 910, 1308, 1309, 1310, 1311, 1312, 1314, 61, 1315, 1316, 1318, 62, 1319, 1320, 1321, 1322, 1323, 1325, 63, 1326, 1327] : List Nat).map (fun i => lw_tbl[i]?) := by decide +kernel
set_option maxRecDepth 100000 in
theorem z_w41 : wsL_law_r41.map some = ([1329, 64, 1330, 1331, 1332, 1333, 1334, 1335, 1337, 65, 1338, 1339, 1341, 66, 1342, 1343, 1345, 67, 1346, 1347, 1349, 68, 1350, 911] : List Nat).map (fun i => lw_tbl[i]?) := by decide +kernel
set_option maxRecDepth 100000 in
theorem z_w42 : wsL_law_r42.map some = ([912, 913, 914, 1351, 1352, 1353, 1354, 915, 916, 917, 918, 919, 920, 921, 922, 1355, 1356, 1357, 1358, 923, 924, 925, 926, 1359] : List Nat).map (fun i => lw_tbl[i]?) := by decide +kernel
set_option maxRecDepth 100000 in
theorem z_w43 : wsL_law_r43.map some = ([1360, 1361, 1362] : List Nat).map (fun i => lw_tbl[i]?) := by decide +kernel
set_option maxRecDepth 100000 in
theorem z_X110 : wsX110.map some = ([693, 695, 697, 699, 701, 703, 705, 707, 709, 711, 713] : List Nat).map (fun i => lw_tbl[i]?) := by decide +kernel
set_option maxRecDepth 100000 in
theorem z_X120 : wsX120.map some = ([976, 978, 980, 982, 984, 986, 988, 990, 992, 994, 996, 998, 1000, 1002, 1004, 1006, 1008, 1010, 1012, 1014, 1016, 1018, 1020, 1022, 1024, 1026, 1028, 1030, 1032, 1034, 1036, 1038, 1040, 1042, 1044, 1046, 1048, 1050, 1052, 1054, 1056, 1058, 1060] : List Nat).map (fun i => lw_tbl[i]?) := by decide +kernel
set_option maxRecDepth 100000 in
theorem z_X10 : wsX10.map some = ([111, 113] : List Nat).map (fun i => lw_tbl[i]?) := by decide +kernel
set_option maxRecDepth 100000 in
theorem z_X80 : wsX80.map some = ([127, 129, 131, 133] : List Nat).map (fun i => lw_tbl[i]?) := by decide +kernel
set_option maxRecDepth 100000 in
theorem z_X70 : wsX70.map some = ([148, 150, 152, 154, 156] : List Nat).map (fun i => lw_tbl[i]?) := by decide +kernel
set_option maxRecDepth 100000 in
theorem z_X40 : wsX40.map some = ([183] : List Nat).map (fun i => lw_tbl[i]?) := by decide +kernel
set_option maxRecDepth 100000 in
theorem z_X60 : wsX60.map some = ([192] : List Nat).map (fun i => lw_tbl[i]?) := by decide +kernel
set_option maxRecDepth 100000 in
theorem z_X20 : wsX20.map some = ([203, 205, 207] : List Nat).map (fun i => lw_tbl[i]?) := by decide +kernel
set_option maxRecDepth 100000 in
theorem z_X50 : wsX50.map some = ([298, 300, 302, 304, 306, 308] : List Nat).map (fun i => lw_tbl[i]?) := by decide +kernel
set_option maxRecDepth 100000 in
theorem z_X30 : wsX30.map some = ([177, 179] : List Nat).map (fun i => lw_tbl[i]?) := by decide +kernel
set_option maxRecDepth 100000 in
theorem z_X90 : wsX90.map some = ([232, 234, 236, 238, 240, 242, 244, 246, 248] : List Nat).map (fun i => lw_tbl[i]?) := by decide +kernel
set_option maxRecDepth 100000 in
theorem z_X00 : wsX00.map some = ([269, 271, 273, 275, 277, 279, 281, 283] : List Nat).map (fun i => lw_tbl[i]?) := by decide +kernel
theorem z_law_in : ∀ w ∈ wsL_law, w ∈ lw_tbl := by
  unfold wsL_law
  exact List.forall_mem_append.mpr ⟨List.forall_mem_append.mpr ⟨List.forall_mem_append.mpr ⟨List.forall_mem_append.mpr ⟨List.forall_mem_append.mpr ⟨List.forall_mem_append.mpr ⟨List.forall_mem_append.mpr ⟨List.forall_mem_append.mpr ⟨List.forall_mem_append.mpr ⟨List.forall_mem_append.mpr ⟨List.forall_mem_append.mpr ⟨List.forall_mem_append.mpr ⟨List.forall_mem_append.mpr ⟨List.forall_mem_append.mpr ⟨z_in z_w1, List.forall_mem_append.mpr ⟨z_in z_w2, List.forall_mem_append.mpr ⟨z_in z_w3, List.forall_mem_append.mpr ⟨z_in z_w4, List.forall_mem_append.mpr ⟨z_in z_w5, List.forall_mem_append.mpr ⟨z_in z_w6, List.forall_mem_append.mpr ⟨z_in z_w7, List.forall_mem_append.mpr ⟨z_in z_w8, List.forall_mem_append.mpr ⟨z_in z_w9, List.forall_mem_append.mpr ⟨z_in z_w10, List.forall_mem_append.mpr ⟨z_in z_w11, List.forall_mem_append.mpr ⟨z_in z_w12, List.forall_mem_append.mpr ⟨z_in z_w13, List.forall_mem_append.mpr ⟨z_in z_w14, List.forall_mem_append.mpr ⟨z_in z_w15, List.forall_mem_append.mpr ⟨z_in z_w16, List.forall_mem_append.mpr ⟨z_in z_w17, List.forall_mem_append.mpr ⟨z_in z_w18, List.forall_mem_append.mpr ⟨z_in z_w19, List.forall_mem_append.mpr ⟨z_in z_w20, List.forall_mem_append.mpr ⟨z_in z_w21, List.forall_mem_append.mpr ⟨z_in z_w22, List.forall_mem_append.mpr ⟨z_in z_w23, List.forall_mem_append.mpr ⟨z_in z_w24, List.forall_mem_append.mpr ⟨z_in z_w25, List.forall_mem_append.mpr ⟨z_in z_w26, List.forall_mem_append.mpr ⟨z_in z_w27, List.forall_mem_append.mpr ⟨z_in z_w28, List.forall_mem_append.mpr ⟨z_in z_w29, List.forall_mem_append.mpr ⟨z_in z_w30, List.forall_mem_append.mpr ⟨z_in z_w31, List.forall_mem_append.mpr ⟨z_in z_w32, List.forall_mem_append.mpr ⟨z_in z_w33, List.forall_mem_append.mpr ⟨z_in z_w34, List.forall_mem_append.mpr ⟨z_in z_w35, List.forall_mem_append.mpr ⟨z_in z_w36, List.forall_mem_append.mpr ⟨z_in z_w37, List.forall_mem_append.mpr ⟨z_in z_w38, List.forall_mem_append.mpr ⟨z_in z_w39, List.forall_mem_append.mpr ⟨z_in z_w40, List.forall_mem_append.mpr ⟨z_in z_w41, List.forall_mem_append.mpr ⟨z_in z_w42, z_in z_w43⟩⟩⟩⟩⟩⟩⟩⟩⟩⟩⟩⟩⟩⟩⟩⟩⟩⟩⟩⟩⟩⟩⟩⟩⟩⟩⟩⟩⟩⟩⟩⟩⟩⟩⟩⟩⟩⟩⟩⟩⟩⟩, z_in z_X110⟩, z_in z_X120⟩, z_in z_X10⟩, z_in z_X80⟩, z_in z_X70⟩, z_in z_X40⟩, z_in z_X60⟩, z_in z_X20⟩, z_in z_X50⟩, z_in z_X30⟩, z_in z_X90⟩, z_in z_X00⟩, fun _ h => absurd h List.not_mem_nil⟩
set_option maxRecDepth 100000 in
theorem z_M_in : ∀ w ∈ zM.map (fun q => Cond.methodLinkNest q.1 q.2.1 q.2.2.1 q.2.2.2), w ∈ lw_tbl := z_in (is := [119, 139, 161, 188, 196, 483, 523, 524, 528, 508, 840, 164, 623, 625, 563, 219, 191, 637, 643, 644, 575, 437, 444, 451, 454, 346, 680]) (by decide +kernel)
set_option maxRecDepth 100000 in
theorem z_D_in : ∀ w ∈ zDc.map (fun q => Cond.declares q), w ∈ lw_tbl := z_in (is := [541, 558, 605, 663]) (by decide +kernel)
set_option maxRecDepth 100000 in
theorem z_E_in : ∀ w ∈ zE, w ∈ lw_tbl := z_in (is := [626, 627, 647, 648, 628, 79, 629, 631, 630, 312, 313, 75, 314, 110, 109, 111, 113]) (by decide +kernel)
set_option maxRecDepth 100000 in
theorem z_S_in : ∀ w ∈ zStr.map (fun q => Cond.stringRef q.1 q.2.1 q.2.2), w ∈ lw_tbl := z_in (is := [349, 350, 351, 352, 353, 354, 355, 356, 357, 358, 359, 360, 361, 362, 363, 364, 365, 366, 578, 579, 580, 581, 582, 583, 584, 585, 586, 587, 588, 589, 590, 622, 640, 641, 642, 645, 646, 671]) (by decide +kernel)
set_option maxRecDepth 100000 in
theorem z_M_tab : (zM.map (fun q => Cond.methodLinkNest q.1 q.2.1 q.2.2.1 q.2.2.2)).all (fun w => w.onTables) = true := by decide +kernel
set_option maxRecDepth 100000 in
theorem z_D_tab : (zDc.map (fun q => Cond.declares q)).all (fun w => w.onTables) = true := by decide +kernel
/-- the literals' terms -/
def ztm (i : Nat) : Term := Term.string (zStr.getD i ("", 0, "")).1 (zStr.getD i ("", 0, "")).2.1
def zvt (i : Nat) : Term := Term.field (ztm i) "java/lang/String" "value" "[B"
/-- what the start gives of literal i -/
def zlw (i : Nat) : List Cond := [Cond.exactly (ztm i) "java/lang/String", Cond.eq (.field (ztm i) "java/lang/String" "coder" "B") (.int 0), Cond.arrayOf (zvt i) .byte, Cond.eq (.length (zvt i)) (.int (Int32.ofNat (zlen i)))] ++ (List.range (zlen i)).map (fun j => Cond.eq (.elem (zvt i) (.int (Int32.ofNat j))) (.int (zch i j)))
set_option maxRecDepth 100000 in
theorem z_l0 : (zlw 0).map some = ([9, 10, 11, 12, 13, 14, 15] : List Nat).map (fun i => (flatC (Jvm.Cond.and given_1 narrow_1))[i]?) := by decide +kernel
set_option maxRecDepth 100000 in
theorem z_l1 : (zlw 1).map some = ([16, 17, 18, 19, 20, 21, 22] : List Nat).map (fun i => (flatC (Jvm.Cond.and given_1 narrow_1))[i]?) := by decide +kernel
set_option maxRecDepth 100000 in
theorem z_l2 : (zlw 2).map some = ([23, 24, 25, 26, 27, 28, 29] : List Nat).map (fun i => (flatC (Jvm.Cond.and given_1 narrow_1))[i]?) := by decide +kernel
set_option maxRecDepth 100000 in
theorem z_l3 : (zlw 3).map some = ([30, 31, 32, 33, 34, 35, 36] : List Nat).map (fun i => (flatC (Jvm.Cond.and given_1 narrow_1))[i]?) := by decide +kernel
set_option maxRecDepth 100000 in
theorem z_l4 : (zlw 4).map some = ([37, 38, 39, 40, 41] : List Nat).map (fun i => (flatC (Jvm.Cond.and given_1 narrow_1))[i]?) := by decide +kernel
set_option maxRecDepth 100000 in
theorem z_l5 : (zlw 5).map some = ([42, 43, 44, 45, 46] : List Nat).map (fun i => (flatC (Jvm.Cond.and given_1 narrow_1))[i]?) := by decide +kernel
set_option maxRecDepth 100000 in
theorem z_l6 : (zlw 6).map some = ([47, 48, 49, 50, 51] : List Nat).map (fun i => (flatC (Jvm.Cond.and given_1 narrow_1))[i]?) := by decide +kernel
set_option maxRecDepth 100000 in
theorem z_l7 : (zlw 7).map some = ([52, 53, 54, 55, 56] : List Nat).map (fun i => (flatC (Jvm.Cond.and given_1 narrow_1))[i]?) := by decide +kernel
set_option maxRecDepth 100000 in
theorem z_l8 : (zlw 8).map some = ([57, 58, 59, 60, 61] : List Nat).map (fun i => (flatC (Jvm.Cond.and given_1 narrow_1))[i]?) := by decide +kernel
set_option maxRecDepth 100000 in
theorem z_l9 : (zlw 9).map some = ([62, 63, 64, 65, 66] : List Nat).map (fun i => (flatC (Jvm.Cond.and given_1 narrow_1))[i]?) := by decide +kernel
set_option maxRecDepth 100000 in
theorem z_l10 : (zlw 10).map some = ([67, 68, 69, 70, 71] : List Nat).map (fun i => (flatC (Jvm.Cond.and given_1 narrow_1))[i]?) := by decide +kernel
set_option maxRecDepth 100000 in
theorem z_l11 : (zlw 11).map some = ([72, 73, 74, 75, 76] : List Nat).map (fun i => (flatC (Jvm.Cond.and given_1 narrow_1))[i]?) := by decide +kernel
set_option maxRecDepth 100000 in
theorem z_l12 : (zlw 12).map some = ([77, 78, 79, 80, 81, 82] : List Nat).map (fun i => (flatC (Jvm.Cond.and given_1 narrow_1))[i]?) := by decide +kernel
set_option maxRecDepth 100000 in
theorem z_l13 : (zlw 13).map some = ([83, 84, 85, 86, 87, 88] : List Nat).map (fun i => (flatC (Jvm.Cond.and given_1 narrow_1))[i]?) := by decide +kernel
set_option maxRecDepth 100000 in
theorem z_l14 : (zlw 14).map some = ([89, 90, 91, 92, 93, 94] : List Nat).map (fun i => (flatC (Jvm.Cond.and given_1 narrow_1))[i]?) := by decide +kernel
set_option maxRecDepth 100000 in
theorem z_l15 : (zlw 15).map some = ([95, 96, 97, 98, 99] : List Nat).map (fun i => (flatC (Jvm.Cond.and given_1 narrow_1))[i]?) := by decide +kernel
set_option maxRecDepth 100000 in
theorem z_l16 : (zlw 16).map some = ([100, 101, 102, 103, 104, 105] : List Nat).map (fun i => (flatC (Jvm.Cond.and given_1 narrow_1))[i]?) := by decide +kernel
set_option maxRecDepth 100000 in
theorem z_l17 : (zlw 17).map some = ([106, 107, 108, 109] : List Nat).map (fun i => (flatC (Jvm.Cond.and given_1 narrow_1))[i]?) := by decide +kernel
set_option maxRecDepth 100000 in
theorem z_l18 : (zlw 18).map some = ([110, 111, 112, 113, 114, 115, 116, 117] : List Nat).map (fun i => (flatC (Jvm.Cond.and given_1 narrow_1))[i]?) := by decide +kernel
set_option maxRecDepth 100000 in
theorem z_l19 : (zlw 19).map some = ([118, 119, 120, 121, 122, 123, 124, 125, 126] : List Nat).map (fun i => (flatC (Jvm.Cond.and given_1 narrow_1))[i]?) := by decide +kernel
set_option maxRecDepth 100000 in
theorem z_l20 : (zlw 20).map some = ([127, 128, 129, 130, 131, 132, 133, 134, 135] : List Nat).map (fun i => (flatC (Jvm.Cond.and given_1 narrow_1))[i]?) := by decide +kernel
set_option maxRecDepth 100000 in
theorem z_l21 : (zlw 21).map some = ([136, 137, 138, 139, 140, 141, 142, 143] : List Nat).map (fun i => (flatC (Jvm.Cond.and given_1 narrow_1))[i]?) := by decide +kernel
set_option maxRecDepth 100000 in
theorem z_l22 : (zlw 22).map some = ([144, 145, 146, 147, 148, 149] : List Nat).map (fun i => (flatC (Jvm.Cond.and given_1 narrow_1))[i]?) := by decide +kernel
set_option maxRecDepth 100000 in
theorem z_l23 : (zlw 23).map some = ([150, 151, 152, 153, 154, 155] : List Nat).map (fun i => (flatC (Jvm.Cond.and given_1 narrow_1))[i]?) := by decide +kernel
set_option maxRecDepth 100000 in
theorem z_l24 : (zlw 24).map some = ([156, 157, 158, 159, 160, 161, 162, 163, 164, 165] : List Nat).map (fun i => (flatC (Jvm.Cond.and given_1 narrow_1))[i]?) := by decide +kernel
set_option maxRecDepth 100000 in
theorem z_l25 : (zlw 25).map some = ([166, 167, 168, 169, 170, 171, 172, 173, 174] : List Nat).map (fun i => (flatC (Jvm.Cond.and given_1 narrow_1))[i]?) := by decide +kernel
set_option maxRecDepth 100000 in
theorem z_l26 : (zlw 26).map some = ([175, 176, 177, 178, 179, 180, 181, 182, 183] : List Nat).map (fun i => (flatC (Jvm.Cond.and given_1 narrow_1))[i]?) := by decide +kernel
set_option maxRecDepth 100000 in
theorem z_l27 : (zlw 27).map some = ([184, 185, 186, 187, 188, 189, 190, 191] : List Nat).map (fun i => (flatC (Jvm.Cond.and given_1 narrow_1))[i]?) := by decide +kernel
set_option maxRecDepth 100000 in
theorem z_l28 : (zlw 28).map some = ([192, 193, 194, 195, 196, 197, 198, 199, 200, 201] : List Nat).map (fun i => (flatC (Jvm.Cond.and given_1 narrow_1))[i]?) := by decide +kernel
set_option maxRecDepth 100000 in
theorem z_l29 : (zlw 29).map some = ([202, 203, 204, 205, 206, 207, 208, 209, 210, 211] : List Nat).map (fun i => (flatC (Jvm.Cond.and given_1 narrow_1))[i]?) := by decide +kernel
set_option maxRecDepth 100000 in
theorem z_l30 : (zlw 30).map some = ([212, 213, 214, 215, 216, 217, 218, 219] : List Nat).map (fun i => (flatC (Jvm.Cond.and given_1 narrow_1))[i]?) := by decide +kernel
set_option maxRecDepth 100000 in
theorem z_l31 : (zlw 31).map some = ([220, 221, 222, 223, 224, 225] : List Nat).map (fun i => (flatC (Jvm.Cond.and given_1 narrow_1))[i]?) := by decide +kernel
set_option maxRecDepth 100000 in
theorem z_l32 : (zlw 32).map some = ([226, 227, 228, 229] : List Nat).map (fun i => (flatC (Jvm.Cond.and given_1 narrow_1))[i]?) := by decide +kernel
set_option maxRecDepth 100000 in
theorem z_l33 : (zlw 33).map some = ([231, 232, 233, 234, 235, 236, 237, 238, 239] : List Nat).map (fun i => (flatC (Jvm.Cond.and given_1 narrow_1))[i]?) := by decide +kernel
set_option maxRecDepth 100000 in
theorem z_l34 : (zlw 34).map some = ([240, 241, 242, 243, 244, 245, 246, 247, 248, 249] : List Nat).map (fun i => (flatC (Jvm.Cond.and given_1 narrow_1))[i]?) := by decide +kernel
set_option maxRecDepth 100000 in
theorem z_l35 : (zlw 35).map some = ([250, 251, 252, 253, 254, 255, 256, 257, 258, 259] : List Nat).map (fun i => (flatC (Jvm.Cond.and given_1 narrow_1))[i]?) := by decide +kernel
set_option maxRecDepth 100000 in
theorem z_l36 : (zlw 36).map some = ([260, 261, 262, 263, 264, 265, 266, 267] : List Nat).map (fun i => (flatC (Jvm.Cond.and given_1 narrow_1))[i]?) := by decide +kernel
set_option maxRecDepth 100000 in
theorem z_l37 : (zlw 37).map some = ([268, 269, 270, 271, 272, 273, 274, 275, 276, 277] : List Nat).map (fun i => (flatC (Jvm.Cond.and given_1 narrow_1))[i]?) := by decide +kernel
theorem z_lit : ∀ i : Nat, i < 38 → ∀ w ∈ zlw i, w ∈ flatC (Jvm.Cond.and given_1 narrow_1)
  | 0, _ => z_in z_l0
  | 1, _ => z_in z_l1
  | 2, _ => z_in z_l2
  | 3, _ => z_in z_l3
  | 4, _ => z_in z_l4
  | 5, _ => z_in z_l5
  | 6, _ => z_in z_l6
  | 7, _ => z_in z_l7
  | 8, _ => z_in z_l8
  | 9, _ => z_in z_l9
  | 10, _ => z_in z_l10
  | 11, _ => z_in z_l11
  | 12, _ => z_in z_l12
  | 13, _ => z_in z_l13
  | 14, _ => z_in z_l14
  | 15, _ => z_in z_l15
  | 16, _ => z_in z_l16
  | 17, _ => z_in z_l17
  | 18, _ => z_in z_l18
  | 19, _ => z_in z_l19
  | 20, _ => z_in z_l20
  | 21, _ => z_in z_l21
  | 22, _ => z_in z_l22
  | 23, _ => z_in z_l23
  | 24, _ => z_in z_l24
  | 25, _ => z_in z_l25
  | 26, _ => z_in z_l26
  | 27, _ => z_in z_l27
  | 28, _ => z_in z_l28
  | 29, _ => z_in z_l29
  | 30, _ => z_in z_l30
  | 31, _ => z_in z_l31
  | 32, _ => z_in z_l32
  | 33, _ => z_in z_l33
  | 34, _ => z_in z_l34
  | 35, _ => z_in z_l35
  | 36, _ => z_in z_l36
  | 37, _ => z_in z_l37
  | i + 38, h => absurd h (by omega)
set_option maxRecDepth 100000 in
theorem z_st1 : Cond.eq (.static "java/lang/String" "COMPACT_STRINGS" "Z") (.int 1) ∈ flatC (Jvm.Cond.and given_1 narrow_1) := List.mem_of_getElem? (i := 4) (by decide +kernel)
set_option maxRecDepth 100000 in
theorem z_st2 : Cond.isRef (.static "jdk/internal/util/Preconditions" "SIOOBE_FORMATTER" "Ljava/util/function/BiFunction;") ∈ flatC (Jvm.Cond.and given_1 narrow_1) := List.mem_of_getElem? (i := 5) (by decide +kernel)
set_option maxRecDepth 100000 in
theorem z_x0 : Cond.laysStatic "java/lang/String" "COMPACT_STRINGS" "Z" ∈ lw_tbl := List.mem_of_getElem? (i := 376) (by decide +kernel)
set_option maxRecDepth 100000 in
theorem z_x1 : Cond.initialized "java/lang/String" ∈ lw_tbl := List.mem_of_getElem? (i := 87) (by decide +kernel)
set_option maxRecDepth 100000 in
theorem z_x2 : Cond.laysStatic "jdk/internal/util/Preconditions" "SIOOBE_FORMATTER" "Ljava/util/function/BiFunction;" ∈ lw_tbl := List.mem_of_getElem? (i := 392) (by decide +kernel)
set_option maxRecDepth 100000 in
theorem z_x3 : Cond.initialized "jdk/internal/util/Preconditions" ∈ lw_tbl := List.mem_of_getElem? (i := 89) (by decide +kernel)
set_option maxRecDepth 100000 in
theorem z_x4 : Cond.arrayClass .int ∈ lw_tbl := List.mem_of_getElem? (i := 136) (by decide +kernel)
set_option maxRecDepth 100000 in
theorem z_x5 : Cond.arrayClass .long ∈ lw_tbl := List.mem_of_getElem? (i := 210) (by decide +kernel)
set_option maxRecDepth 100000 in
theorem z_x6 : Cond.arrayClass .char ∈ lw_tbl := List.mem_of_getElem? (i := 116) (by decide +kernel)
