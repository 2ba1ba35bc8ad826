theorem mem_r {big : List Cond} {ws : List Cond} (ps : List Nat) (hp : ws = ps.filterMap (fun i => big[i]?)) : ∀ w ∈ ws, w ∈ big := fun w hw => by
  rw [hp] at hw
  obtain ⟨i, -, hi⟩ := List.mem_filterMap.mp hw
  exact List.mem_of_getElem? hi
set_option maxRecDepth 100000 in
theorem wi_wsL_law0_r1 : ∀ w ∈ wsL_law0_r1, w ∈ lw_tbl := mem_r [103, 104, 80, 992, 993, 90, 1192, 105, 106, 107, 108, 109, 110, 111, 112, 81, 359, 114, 115, 116, 117, 118, 82, 307] rfl
set_option maxRecDepth 100000 in
theorem wi_wsL_law0_r2 : ∀ w ∈ wsL_law0_r2, w ∈ lw_tbl := mem_r [141, 142, 83, 309, 311, 161, 162, 84, 313, 177, 178, 85, 315, 220, 221, 86, 317, 245, 246, 87, 318, 261, 262, 88] rfl
set_option maxRecDepth 100000 in
theorem wi_wsL_law0_r3 : ∀ w ∈ wsL_law0_r3, w ∈ lw_tbl := mem_r [320, 327, 120, 121, 122, 140, 123, 143, 144, 145, 146, 160, 147, 149, 164, 165, 166, 167, 180, 181, 182, 183, 184, 185] rfl
set_option maxRecDepth 100000 in
theorem wi_wsL_law0_r4 : ∀ w ∈ wsL_law0_r4, w ∈ lw_tbl := mem_r [189, 192, 219, 195, 197, 223, 224, 225, 226, 227, 228, 230, 248, 249, 250, 251, 263, 264, 265, 266, 267, 268, 89, 289] rfl
set_option maxRecDepth 100000 in
theorem wi_wsL_law0_r5 : ∀ w ∈ wsL_law0_r5, w ∈ lw_tbl := mem_r [285, 286, 287, 288, 270, 271, 272, 273, 274, 994, 995, 996, 997, 998, 999, 1000, 1001, 1002, 1003, 1004, 1005, 1006, 1007, 1008] rfl
set_option maxRecDepth 100000 in
theorem wi_wsL_law0_r6 : ∀ w ∈ wsL_law0_r6, w ∈ lw_tbl := mem_r [1009, 1010, 1011, 1012, 1013, 1014, 1015, 1016, 1017, 1018, 1019, 1020, 1021, 1022, 1023, 1024, 1025, 1026, 1027, 1028, 1029, 1030, 1071, 1031] rfl
set_option maxRecDepth 100000 in
theorem wi_wsL_law0_r7 : ∀ w ∈ wsL_law0_r7, w ∈ lw_tbl := mem_r [1032, 1033, 1034, 1035, 1036, 1037, 1038, 1039, 1040, 1041, 1042, 1043, 1044, 1045, 1046, 1047, 1048, 1049, 1050, 1051, 1052, 1053, 1054, 1055] rfl
set_option maxRecDepth 100000 in
theorem wi_wsL_law0_r8 : ∀ w ∈ wsL_law0_r8, w ∈ lw_tbl := mem_r [1056, 1057, 1058, 1059, 1060, 1061, 1062, 1063, 1064, 1065, 1066, 1067, 1068, 1069, 1070, 1072, 1074, 1077, 1079, 1081, 1083, 1084, 1085, 1087] rfl
set_option maxRecDepth 100000 in
theorem wi_wsL_law0_r9 : ∀ w ∈ wsL_law0_r9, w ∈ lw_tbl := mem_r [1089, 1090, 1091, 1092, 1093, 1094, 1095, 1100, 1101, 363, 364, 365, 366, 367, 368, 369, 370, 124, 1197, 1198, 1199, 1200, 1073, 1075] rfl
set_option maxRecDepth 100000 in
theorem wi_wsL_law0_r10 : ∀ w ∈ wsL_law0_r10, w ∈ lw_tbl := mem_r [375, 376, 79, 377, 378, 379, 380, 381, 382, 383, 94, 450, 451, 452, 453, 322, 323, 325, 328, 329, 454, 455, 457, 1] rfl
set_option maxRecDepth 100000 in
theorem wi_wsL_law0_r11 : ∀ w ∈ wsL_law0_r11, w ∈ lw_tbl := mem_r [458, 459, 460, 461, 462, 291, 463, 464, 465, 466, 199, 467, 469, 2, 470, 471, 472, 473, 474, 232, 475, 477, 3, 478] rfl
set_option maxRecDepth 100000 in
theorem wi_wsL_law0_r12 : ∀ w ∈ wsL_law0_r12, w ∈ lw_tbl := mem_r [479, 480, 481, 482, 483, 484, 485, 486, 487, 488, 489, 490, 491, 492, 493, 494, 495, 498, 499, 500, 501, 502, 503, 504] rfl
set_option maxRecDepth 100000 in
theorem wi_wsL_law0_r13 : ∀ w ∈ wsL_law0_r13, w ∈ lw_tbl := mem_r [505, 506, 507, 508, 509, 510, 511, 512, 513, 150, 514, 515, 516, 517, 125, 126, 127, 518, 520, 4, 521, 522, 524, 5] rfl
set_option maxRecDepth 100000 in
theorem wi_wsL_law0_r14 : ∀ w ∈ wsL_law0_r14, w ∈ lw_tbl := mem_r [525, 612, 526, 527, 528, 529, 530, 532, 6, 533, 534, 535, 536, 537, 538, 540, 7, 541, 542, 543, 544, 97, 545, 1407] rfl
set_option maxRecDepth 100000 in
theorem wi_wsL_law0_r15 : ∀ w ∈ wsL_law0_r15, w ∈ lw_tbl := mem_r [546, 547, 548, 549, 550, 1408, 552, 553, 554, 555, 556, 557, 558, 559, 560, 561, 98, 562, 563, 564, 565, 566, 568, 569] rfl
set_option maxRecDepth 100000 in
theorem wi_wsL_law0_r16 : ∀ w ∈ wsL_law0_r16, w ∈ lw_tbl := mem_r [99, 570, 571, 572, 100, 573, 574, 575, 576, 577, 578, 579, 580, 581, 582, 583, 584, 586, 588, 590, 591, 592, 593, 594] rfl
set_option maxRecDepth 100000 in
theorem wi_wsL_law0_r17 : ∀ w ∈ wsL_law0_r17, w ∈ lw_tbl := mem_r [595, 596, 597, 598, 169, 599, 600, 601, 602, 603, 604, 605, 606, 608, 609, 610, 611, 607, 613, 614, 615, 616, 617, 618] rfl
set_option maxRecDepth 100000 in
theorem wi_wsL_law0_r18 : ∀ w ∈ wsL_law0_r18, w ∈ lw_tbl := mem_r [619, 620, 621, 623, 8, 624, 626, 628, 9, 629, 630, 631, 632, 633, 634, 635, 636, 637, 638, 639, 640, 641, 642, 643] rfl
set_option maxRecDepth 100000 in
theorem wi_wsL_law0_r19 : ∀ w ∈ wsL_law0_r19, w ∈ lw_tbl := mem_r [645, 10, 646, 647, 649, 11, 650, 651, 653, 654, 656, 657, 95, 658, 1414, 659, 661, 12, 662, 663, 664, 665, 666, 667] rfl
set_option maxRecDepth 100000 in
theorem wi_wsL_law0_r20 : ∀ w ∈ wsL_law0_r20, w ∈ lw_tbl := mem_r [668, 669, 670, 671, 673, 13, 674, 675, 676, 677, 678, 679, 681, 14, 682, 683, 685, 15, 686, 687, 688, 689, 690, 691] rfl
set_option maxRecDepth 100000 in
theorem wi_wsL_law0_r21 : ∀ w ∈ wsL_law0_r21, w ∈ lw_tbl := mem_r [692, 693, 695, 16, 696, 697, 698, 699, 700, 701, 703, 17, 704, 705, 706, 707, 708, 709, 710, 712, 18, 713, 714, 716] rfl
set_option maxRecDepth 100000 in
theorem wi_wsL_law0_r22 : ∀ w ∈ wsL_law0_r22, w ∈ lw_tbl := mem_r [19, 717, 718, 720, 20, 721, 722, 724, 21, 725, 726, 728, 22, 729, 730, 732, 734, 736, 23, 737, 738, 740, 24, 741] rfl
set_option maxRecDepth 100000 in
theorem wi_wsL_law0_r23 : ∀ w ∈ wsL_law0_r23, w ∈ lw_tbl := mem_r [742, 743, 745, 25, 746, 747, 748, 749, 750, 751, 752, 753, 754, 755, 757, 26, 758, 759, 761, 763, 764, 765, 766, 767] rfl
set_option maxRecDepth 100000 in
theorem wi_wsL_law0_r24 : ∀ w ∈ wsL_law0_r24, w ∈ lw_tbl := mem_r [769, 27, 770, 771, 772, 773, 774, 779, 780, 775, 776, 777, 778, 253, 781, 782, 784, 28, 785, 786, 788, 790, 791, 792] rfl
set_option maxRecDepth 100000 in
theorem wi_wsL_law0_r25 : ∀ w ∈ wsL_law0_r25, w ∈ lw_tbl := mem_r [793, 794, 795, 796, 797, 798, 799, 800, 801, 802, 803, 804, 805, 806, 807, 808, 809, 811, 29, 812, 813, 814, 815, 816] rfl
set_option maxRecDepth 100000 in
theorem wi_wsL_law0_r26 : ∀ w ∈ wsL_law0_r26, w ∈ lw_tbl := mem_r [817, 818, 819, 820, 821, 822, 823, 824, 825, 826, 827, 828, 829, 830, 831, 832, 834, 30, 835, 836, 837, 838, 840, 31] rfl
set_option maxRecDepth 100000 in
theorem wi_wsL_law0_r27 : ∀ w ∈ wsL_law0_r27, w ∈ lw_tbl := mem_r [841, 842, 843, 844, 845, 846, 847, 848, 849, 851, 32, 852, 853, 854, 855, 856, 857, 858, 860, 861, 862, 863, 864, 865] rfl
set_option maxRecDepth 100000 in
theorem wi_wsL_law0_r28 : ∀ w ∈ wsL_law0_r28, w ∈ lw_tbl := mem_r [866, 867, 868, 870, 33, 871, 872, 873, 874, 875, 876, 877, 878, 879, 880, 881, 882, 883, 884, 886, 34, 887, 888, 889] rfl
set_option maxRecDepth 100000 in
theorem wi_wsL_law0_r29 : ∀ w ∈ wsL_law0_r29, w ∈ lw_tbl := mem_r [890, 891, 275, 892, 894, 35, 895, 896, 898, 900, 902, 904, 905, 906, 907, 908, 910, 36, 911, 912, 914, 37, 915, 916] rfl
set_option maxRecDepth 100000 in
theorem wi_wsL_law0_r30 : ∀ w ∈ wsL_law0_r30, w ∈ lw_tbl := mem_r [917, 918, 919, 920, 921, 922, 923, 924, 925, 927, 38, 928, 929, 930, 931, 932, 933, 934, 935, 936, 937, 938, 939, 940] rfl
set_option maxRecDepth 100000 in
theorem wi_wsL_law0_r31 : ∀ w ∈ wsL_law0_r31, w ∈ lw_tbl := mem_r [1201, 1202, 1203, 1204, 1105, 1106, 1107, 1078, 1076, 1110, 1086, 1109, 1205, 1207, 39, 1208, 1099, 1088, 1104, 1080, 1209, 1211, 40, 1212] rfl
set_option maxRecDepth 100000 in
theorem wi_wsL_law0_r32 : ∀ w ∈ wsL_law0_r32, w ∈ lw_tbl := mem_r [1103, 1213, 1215, 41, 1216, 1217, 1219, 42, 1220, 1096, 1225, 1226, 1227, 1221, 1223, 43, 1224, 1228, 1230, 44, 1231, 1232, 1234, 45] rfl
set_option maxRecDepth 100000 in
theorem wi_wsL_law0_r33 : ∀ w ∈ wsL_law0_r33, w ∈ lw_tbl := mem_r [1235, 1236, 1238, 46, 1239, 1082, 1240, 1242, 47, 1243, 1102, 1097, 1098, 1244, 1246, 48, 1247, 1248, 1250, 49, 1251, 1108, 1252, 1254] rfl
set_option maxRecDepth 100000 in
theorem wi_wsL_law0_r34 : ∀ w ∈ wsL_law0_r34, w ∈ lw_tbl := mem_r [50, 1255, 1256, 1258, 51, 1259, 1260, 1262, 52, 1263, 1264, 1265, 1266, 1267, 1268, 1269, 1270, 1271, 1272, 1273, 1275, 53, 1276, 1277] rfl
set_option maxRecDepth 100000 in
theorem wi_wsL_law0_r35 : ∀ w ∈ wsL_law0_r35, w ∈ lw_tbl := mem_r [1279, 54, 1280, 1281, 1283, 55, 1284, 1285, 1287, 56, 1288, 1289, 1291, 57, 1292, 1293, 1295, 58, 1296, 1297, 1299, 59, 1300, 1301] rfl
set_option maxRecDepth 100000 in
theorem wi_wsL_law0_r36 : ∀ w ∈ wsL_law0_r36, w ∈ lw_tbl := mem_r [1303, 60, 1304, 1309, 1305, 1307, 61, 1308, 1310, 1312, 62, 1313, 1314, 1316, 63, 1317, 1318, 1319, 1321, 64, 1322, 1323, 1325, 65] rfl
set_option maxRecDepth 100000 in
theorem wi_wsL_law0_r37 : ∀ w ∈ wsL_law0_r37, w ∈ lw_tbl := mem_r [1326, 1327, 1329, 66, 1330, 1331, 1333, 67, 1334, 1335, 1337, 68, 1338, 1339, 1341, 69, 1342, 1343, 1345, 70, 1346, 1347, 1348, 1349] rfl
set_option maxRecDepth 100000 in
theorem wi_wsL_law0_r38 : ∀ w ∈ wsL_law0_r38, w ∈ lw_tbl := mem_r [1350, 1352, 71, 1353, 1354, 1356, 72, 1357, 1358, 1360, 73, 1361, 1362, 1364, 74, 1365, 1366, 1368, 75, 1369, 1370, 1371, 1372, 1373] rfl
set_option maxRecDepth 100000 in
theorem wi_wsL_law0_r39 : ∀ w ∈ wsL_law0_r39, w ∈ lw_tbl := mem_r [1375, 76, 1376, 1377, 1379, 77, 1380, 1193, 1194, 1195, 1196, 941, 942, 943, 944, 945, 946, 947, 948, 949, 102, 1381, 1382, 1383] rfl
set_option maxRecDepth 100000 in
theorem wi_wsL_law0_r40 : ∀ w ∈ wsL_law0_r40, w ∈ lw_tbl := mem_r [1384, 1385, 1387, 78, 1388, 965, 966, 967, 968, 969, 970, 971, 1389, 1390, 1391, 1392, 973, 974, 975, 976, 977, 978, 979, 980] rfl
set_option maxRecDepth 100000 in
theorem wi_wsL_law0_r41 : ∀ w ∈ wsL_law0_r41, w ∈ lw_tbl := mem_r [982, 1393, 1394, 1395, 1396, 983, 984, 985, 986, 987, 988, 989, 1397, 1398, 1399, 1400, 371, 372, 373, 374, 1401, 1402, 1403, 1404] rfl
set_option maxRecDepth 100000 in
theorem wi_wsX110 : ∀ w ∈ wsX110, w ∈ lw_tbl := mem_r [360] rfl
set_option maxRecDepth 100000 in
theorem wi_wsX120 : ∀ w ∈ wsX120, w ∈ lw_tbl := mem_r [1111, 1113, 1115, 1117, 1119, 1121, 1123, 1125, 1127, 1129, 1131, 1133, 1135, 1137, 1139, 1141, 1143, 1145, 1147, 1149, 1151, 1153, 1155, 1157, 1159, 1161, 1163, 1165, 1167, 1169, 1171, 1173, 1175, 1177, 1179, 1181, 1183, 1185, 1187, 1189] rfl
set_option maxRecDepth 100000 in
theorem wi_wsX30 : ∀ w ∈ wsX30, w ∈ lw_tbl := mem_r [330, 332, 334, 336, 338, 340, 342, 344, 346, 348, 350, 352, 354, 356] rfl
set_option maxRecDepth 100000 in
theorem wi_wsX90 : ∀ w ∈ wsX90, w ∈ lw_tbl := mem_r [129, 131, 133, 135, 137] rfl
set_option maxRecDepth 100000 in
theorem wi_wsX80 : ∀ w ∈ wsX80, w ∈ lw_tbl := mem_r [153, 155, 157] rfl
set_option maxRecDepth 100000 in
theorem wi_wsX50 : ∀ w ∈ wsX50, w ∈ lw_tbl := mem_r [172, 174] rfl
set_option maxRecDepth 100000 in
theorem wi_wsX20 : ∀ w ∈ wsX20, w ∈ lw_tbl := mem_r [202, 204, 206, 208, 210, 212, 214, 216] rfl
set_option maxRecDepth 100000 in
theorem wi_wsX10 : ∀ w ∈ wsX10, w ∈ lw_tbl := mem_r [234, 236, 238, 240, 242] rfl
set_option maxRecDepth 100000 in
theorem wi_wsX70 : ∀ w ∈ wsX70, w ∈ lw_tbl := mem_r [256, 258] rfl
set_option maxRecDepth 100000 in
theorem wi_wsX40 : ∀ w ∈ wsX40, w ∈ lw_tbl := mem_r [294, 296, 298, 300, 302, 304] rfl
set_option maxRecDepth 100000 in
theorem wi_wsX60 : ∀ w ∈ wsX60, w ∈ lw_tbl := mem_r [278, 280, 282] rfl
theorem wl0 : ∀ w ∈ wsL_law0, w ∈ lw_tbl := List.forall_mem_append.mpr ⟨List.forall_mem_append.mpr ⟨List.forall_mem_append.mpr ⟨List.forall_mem_append.mpr ⟨List.forall_mem_append.mpr ⟨List.forall_mem_append.mpr ⟨List.forall_mem_append.mpr ⟨List.forall_mem_append.mpr ⟨List.forall_mem_append.mpr ⟨List.forall_mem_append.mpr ⟨List.forall_mem_append.mpr ⟨List.forall_mem_append.mpr ⟨List.forall_mem_append.mpr ⟨wi_wsL_law0_r1, List.forall_mem_append.mpr ⟨wi_wsL_law0_r2, List.forall_mem_append.mpr ⟨wi_wsL_law0_r3, List.forall_mem_append.mpr ⟨wi_wsL_law0_r4, List.forall_mem_append.mpr ⟨wi_wsL_law0_r5, List.forall_mem_append.mpr ⟨wi_wsL_law0_r6, List.forall_mem_append.mpr ⟨wi_wsL_law0_r7, List.forall_mem_append.mpr ⟨wi_wsL_law0_r8, List.forall_mem_append.mpr ⟨wi_wsL_law0_r9, List.forall_mem_append.mpr ⟨wi_wsL_law0_r10, List.forall_mem_append.mpr ⟨wi_wsL_law0_r11, List.forall_mem_append.mpr ⟨wi_wsL_law0_r12, List.forall_mem_append.mpr ⟨wi_wsL_law0_r13, List.forall_mem_append.mpr ⟨wi_wsL_law0_r14, List.forall_mem_append.mpr ⟨wi_wsL_law0_r15, List.forall_mem_append.mpr ⟨wi_wsL_law0_r16, List.forall_mem_append.mpr ⟨wi_wsL_law0_r17, List.forall_mem_append.mpr ⟨wi_wsL_law0_r18, List.forall_mem_append.mpr ⟨wi_wsL_law0_r19, List.forall_mem_append.mpr ⟨wi_wsL_law0_r20, List.forall_mem_append.mpr ⟨wi_wsL_law0_r21, List.forall_mem_append.mpr ⟨wi_wsL_law0_r22, List.forall_mem_append.mpr ⟨wi_wsL_law0_r23, List.forall_mem_append.mpr ⟨wi_wsL_law0_r24, List.forall_mem_append.mpr ⟨wi_wsL_law0_r25, List.forall_mem_append.mpr ⟨wi_wsL_law0_r26, List.forall_mem_append.mpr ⟨wi_wsL_law0_r27, List.forall_mem_append.mpr ⟨wi_wsL_law0_r28, List.forall_mem_append.mpr ⟨wi_wsL_law0_r29, List.forall_mem_append.mpr ⟨wi_wsL_law0_r30, List.forall_mem_append.mpr ⟨wi_wsL_law0_r31, List.forall_mem_append.mpr ⟨wi_wsL_law0_r32, List.forall_mem_append.mpr ⟨wi_wsL_law0_r33, List.forall_mem_append.mpr ⟨wi_wsL_law0_r34, List.forall_mem_append.mpr ⟨wi_wsL_law0_r35, List.forall_mem_append.mpr ⟨wi_wsL_law0_r36, List.forall_mem_append.mpr ⟨wi_wsL_law0_r37, List.forall_mem_append.mpr ⟨wi_wsL_law0_r38, List.forall_mem_append.mpr ⟨wi_wsL_law0_r39, List.forall_mem_append.mpr ⟨wi_wsL_law0_r40, wi_wsL_law0_r41⟩⟩⟩⟩⟩⟩⟩⟩⟩⟩⟩⟩⟩⟩⟩⟩⟩⟩⟩⟩⟩⟩⟩⟩⟩⟩⟩⟩⟩⟩⟩⟩⟩⟩⟩⟩⟩⟩⟩⟩, wi_wsX110⟩, wi_wsX120⟩, wi_wsX30⟩, wi_wsX90⟩, wi_wsX80⟩, wi_wsX50⟩, wi_wsX20⟩, wi_wsX10⟩, wi_wsX70⟩, wi_wsX40⟩, wi_wsX60⟩, (fun _ h => absurd h List.not_mem_nil)⟩
set_option maxRecDepth 20000 in
theorem wl_x0 : ∀ w ∈ (vx_atS RX11 30 "java/lang/IllegalArgumentException" ["java/lang/RuntimeException", "java/lang/Exception"]).filter goodWord, w ∈ lw_tbl := by decide +kernel
set_option maxRecDepth 20000 in
theorem wl_x1 : ∀ w ∈ (vx_atS RX11 51 "java/lang/IndexOutOfBoundsException" ["java/lang/RuntimeException", "java/lang/Exception"]).filter goodWord, w ∈ lw_tbl := by decide +kernel
theorem wl_all : ∀ w ∈ wsL_law, w ∈ lw_tbl := List.forall_mem_append.mpr ⟨List.forall_mem_append.mpr ⟨wl0, wl_x0⟩, wl_x1⟩
