/-! THE LAW'S WORDS, OUT OF ITS TABLES -/
theorem z_selP {C on nm ds : String} {y : MethodName} {s : State} {args : Array Value} {n : Nat} (hy : y.cls ≠ "java/lang/invoke/MethodHandle" ∧ y.cls ≠ "java/lang/invoke/VarHandle")
    (hins : (Cond.instantiable C n).before args s = true) (hpriv : (Cond.privateMethod y).before args s = true) (hinst : (Cond.instanceMethod y).before args s = true) (hsame : (Cond.sameMethod y.cls on nm ds).before args s = true) :
    (Cond.selects C y y).before args s = true := by
  obtain ⟨c, k, hc, hk, -, hniab, -, -⟩ := Cond.instantiable_spec hins
  obtain ⟨mk, methM, hnamed, hmethM, -, -⟩ := Cond.instanceMethod_spec hinst
  obtain ⟨c2, k2, hc2, hk2, hni⟩ := Cond.sameMethod_class hsame
  have hcls : mk.cls = c2 := Option.some.inj ((findClass_of_methodNamed hnamed).symm.trans hc2)
  have hfound : s.methodFound? y.cls y.name y.desc = some mk := State.methodFound?_of_named hnamed hy
  have hsel : selectMethod {} s.vm c mk = .method mk := selectMethod_private hmethM (Cond.privateMethod_at hpriv mk methM hnamed hmethM)
  simp only [Cond.before, Cond.holds, Cond.value, hc, hfound, hnamed, hsel, hk]
  simp
  rw [hcls, hk2]
  simp [hni]
def wsSel : List MethodName := [yJ5_ensureCapacityInternal_d00df, yJ5_newCapacity_0f7a4, yJ5_inflate_da8c8, yJ5_appendNull_278bc, yJ5_putStringAt_47b60, yJ5_inflateIfNeededFor_a7421]
def wsSelW : List Cond := wsSel.map (fun y => Cond.selects RJ4 y y)
def lwB : List Cond := lw_tbl ++ wsSelW
theorem z_inI {ws B : List Cond} (ps : List Nat) (hp : ws.map some = ps.map (fun i => B[i]?)) : ∀ w ∈ ws, w ∈ B := by
  intro w hw
  have h1 : some w ∈ ps.map (fun i => B[i]?) := by rw [← hp]; exact List.mem_map.mpr ⟨w, hw, rfl⟩
  obtain ⟨i, -, hi⟩ := List.mem_map.mp h1
  exact List.mem_of_getElem? hi
theorem z_inS {ws B : List Cond} (n : Nat) (h1 : ∀ w ∈ ws.take n, w ∈ B) (h2 : ∀ w ∈ ws.drop n, w ∈ B) : ∀ w ∈ ws, w ∈ B := by
  intro w hw
  rw [← List.take_append_drop n ws] at hw
  exact (List.mem_append.mp hw).elim (h1 w) (h2 w)
set_option maxRecDepth 100000 in
theorem wsLi_0 : ∀ w ∈ (wsL_law.drop 0).take 56, w ∈ lwB := z_inI [56, 57, 20, 1471, 58, 59, 60, 61, 62, 63, 64, 65, 21, 260, 261, 262, 122, 123, 22, 263, 141, 142, 23, 264, 154, 155, 24, 265, 176, 177, 25, 266, 196, 197, 26, 267, 227, 228, 28, 268, 269, 270, 271, 67, 68, 69, 120, 70, 72, 76, 80, 83, 121, 85, 89, 92] (by decide +kernel)
set_option maxRecDepth 100000 in
theorem wsLi_1 : ∀ w ∈ (wsL_law.drop 56).take 56, w ∈ lwB := z_inI [94, 96, 125, 126, 127, 128, 129, 130, 131, 144, 145, 146, 147, 148, 157, 158, 159, 160, 161, 162, 163, 164, 178, 179, 180, 181, 182, 185, 186, 187, 199, 200, 201, 226, 202, 203, 204, 205, 206, 208, 209, 229, 230, 231, 232, 233, 27, 234, 235, 236, 259, 245, 246, 238, 239, 30] (by decide +kernel)
set_option maxRecDepth 100000 in
theorem wsLi_2 : ∀ w ∈ (wsL_law.drop 112).take 56, w ∈ lwB := z_inI [240, 241, 242, 243, 244, 882, 883, 19, 884, 400, 885, 886, 887, 888, 508, 34, 890, 891, 892, 893, 305, 306, 307, 308, 309, 311, 310, 35, 894, 895, 896, 897, 898, 899, 900, 393, 902, 903, 904, 905, 389, 390, 391, 392, 597, 598, 599, 570, 600, 601, 602, 603, 604, 605, 36, 606] (by decide +kernel)
set_option maxRecDepth 100000 in
theorem wsLi_3 : ∀ w ∈ (wsL_law.drop 168).take 56, w ∈ lwB := z_inI [590, 408, 412, 413, 414, 417, 39, 491, 40, 526, 41, 415, 489, 507, 524, 301, 302, 303, 304, 312, 313, 42, 314, 607, 608, 609, 610, 700, 701, 702, 703, 704, 705, 706, 707, 708, 709, 710, 712, 713, 714, 715, 716, 717, 718, 719, 720, 721, 722, 723, 724, 725, 726, 727, 728, 729] (by decide +kernel)
set_option maxRecDepth 100000 in
theorem wsLi_4 : ∀ w ∈ (wsL_law.drop 224).take 56, w ∈ lwB := z_inI [730, 731, 796, 797, 798, 733, 735, 8, 736, 737, 738, 739, 29, 740, 1248, 741, 742, 743, 744, 745, 1249, 746, 747, 748, 749, 750, 751, 752, 753, 754, 755, 43, 756, 757, 758, 759, 760, 762, 763, 44, 764, 765, 766, 767, 768, 769, 770, 771, 772, 773, 774, 775, 776, 777, 778, 780] (by decide +kernel)
set_option maxRecDepth 100000 in
theorem wsLi_5 : ∀ w ∈ (wsL_law.drop 280).take 56, w ∈ lwB := z_inI [782, 784, 786, 9, 787, 788, 790, 10, 791, 792, 794, 11, 795, 799, 800, 801, 802, 804, 806, 12, 807, 835, 808, 809, 811, 13, 812, 817, 813, 814, 815, 816, 819, 820, 822, 823, 37, 824, 1508, 405, 406, 407, 410, 576, 577, 578, 595, 579, 580, 581, 582, 583, 584, 589, 585, 586] (by decide +kernel)
set_option maxRecDepth 100000 in
theorem wsLi_6 : ∀ w ∈ (wsL_law.drop 336).take 56, w ∈ lwB := z_inI [587, 588, 591, 592, 593, 594, 336, 337, 338, 331, 332, 333, 334, 825, 826, 827, 828, 677, 829, 830, 831, 832, 833, 834, 618, 619, 620, 621, 622, 623, 624, 335, 625, 626, 627, 628, 629, 630, 631, 632, 836, 838, 14, 839, 542, 543, 544, 545, 596, 344, 345, 346, 840, 841, 842, 843] (by decide +kernel)
set_option maxRecDepth 100000 in
theorem wsLi_7 : ∀ w ∈ (wsL_law.drop 392).take 56, w ∈ lwB := z_inI [343, 844, 845, 846, 847, 848, 849, 850, 851, 852, 315, 316, 317, 318, 319, 321, 0, 322, 323, 324, 325, 326, 327, 328, 329, 330, 339, 340, 341, 342, 347, 349, 1, 350, 351, 352, 853, 854, 855, 856, 633, 634, 635, 636, 637, 638, 640, 5, 641, 642, 643, 46, 644, 645, 646, 647] (by decide +kernel)
set_option maxRecDepth 100000 in
theorem wsLi_8 : ∀ w ∈ (wsL_law.drop 448).take 56, w ∈ lwB := z_inI [648, 650, 6, 651, 652, 858, 859, 860, 861, 862, 863, 864, 865, 866, 47, 397, 398, 399, 401, 402, 403, 404, 546, 547, 548, 549, 572, 573, 574, 575, 679, 680, 681, 682, 683, 684, 685, 660, 661, 662, 686, 687, 688, 689, 377, 379, 2, 380, 690, 692, 7, 693, 381, 383, 3, 384] (by decide +kernel)
set_option maxRecDepth 100000 in
theorem wsLi_9 : ∀ w ∈ (wsL_law.drop 504).take 56, w ∈ lwB := z_inI [694, 695, 50, 696, 697, 698, 699, 369, 370, 371, 372, 373, 374, 375, 376, 611, 612, 613, 614, 615, 616, 617, 653, 654, 655, 656, 657, 658, 659, 297, 298, 299, 300, 670, 671, 672, 673, 674, 675, 676, 678, 663, 664, 665, 666, 667, 668, 669, 361, 362, 363, 364, 365, 366, 367, 368] (by decide +kernel)
set_option maxRecDepth 100000 in
theorem wsLi_10 : ∀ w ∈ (wsL_law.drop 560).take 56, w ∈ lwB := z_inI [353, 354, 355, 356, 357, 358, 359, 360, 906, 907, 908, 394, 395, 396, 909, 910, 911, 912, 913, 914, 915, 916, 917, 918, 919, 920, 921, 922, 923, 924, 925, 926, 955, 940, 941, 942, 943, 944, 51, 947, 948, 949, 950, 952, 953, 954, 951, 956, 957, 52, 958, 962, 964, 963, 52, 965] (by decide +kernel)
set_option maxRecDepth 100000 in
theorem wsLi_11 : ∀ w ∈ (wsL_law.drop 616).take 56, w ∈ lwB := z_inI [959, 960, 961, 966, 967, 968, 974, 969, 970, 971, 972, 975, 976, 53, 977, 981, 983, 982, 53, 984, 978, 979, 980, 985, 986, 987, 988, 989, 990, 991, 992, 993, 994, 995, 996, 997, 998, 999, 1000, 1001, 1002, 1003, 1004, 1005, 1006, 1007, 1008, 1009, 1010, 1011, 1012, 1013, 1014, 1015, 1016, 1017] (by decide +kernel)
set_option maxRecDepth 100000 in
theorem wsLi_12 : ∀ w ∈ (wsL_law.drop 672).take 56, w ∈ lwB := z_inI [1018, 1019, 1020, 1021, 1022, 1023, 1024, 1025, 1026, 1027, 1028, 1029, 1030, 1031, 1032, 1033, 1035, 15, 1036, 1037, 1039, 16, 1040, 1041, 1042, 1043, 1045, 1046, 1047, 1048, 1049, 1050, 1051, 1052, 1053, 1054, 1055, 1056, 1057, 1058, 1059, 1060, 1061, 1062, 1063, 1064, 1473, 258, 1065, 1066, 1067, 1068, 54, 249, 247, 1086] (by decide +kernel)
set_option maxRecDepth 100000 in
theorem wsLi_13 : ∀ w ∈ (wsL_law.drop 728).take 56, w ∈ lwB := z_inI [1476, 1525, 1088, 1089, 1090, 1477, 1526, 1092, 1093, 1102, 1094, 1095, 55, 1096, 1097, 1098, 1099, 1100, 1101, 1103, 1104, 1105, 1106, 1107, 1108, 1109, 1110, 1112, 1113, 1114, 1115, 1117, 1118, 1116, 1119, 1263, 1264, 1265, 1266, 1267, 1268, 1269, 1270, 1271, 1231, 1275, 550, 48, 1285, 1286, 1287, 1288, 1289, 1171, 1172, 1173] (by decide +kernel)
set_option maxRecDepth 100000 in
theorem wsLi_14 : ∀ w ∈ (wsL_law.drop 784).take 56, w ∈ lwB := z_inI [1174, 1481, 1175, 1176, 1177, 1178, 1179, 1180, 1181, 1182, 1183, 1185, 1187, 1188, 1189, 1123, 1124, 1125, 1126, 1127, 1128, 1129, 1130, 1131, 1190, 1191, 1192, 1193, 1194, 1132, 1133, 1134, 1290, 1291, 1292, 1293, 1294, 1482, 1295, 1296, 1297, 1298, 1299, 1145, 1480, 1527, 1147, 1148, 1149, 1150, 1151, 1152, 1153, 1154, 1155, 1156] (by decide +kernel)
set_option maxRecDepth 100000 in
theorem wsLi_15 : ∀ w ∈ (wsL_law.drop 840).take 56, w ∈ lwB := z_inI [1157, 1158, 1159, 1160, 1161, 1162, 1163, 1300, 1301, 1302, 1303, 1216, 1483, 1217, 1218, 1214, 1213, 1219, 1304, 1305, 1306, 1307, 1308, 1309, 1310, 1312, 1313, 1314, 1315, 1316, 1484, 1317, 1318, 1319, 1320, 1321, 1322, 1323, 1324, 1325, 1326, 1327, 1328, 1329, 1330, 1331, 1332, 1334, 1335, 1336, 1337, 1338, 1339, 1340, 1392, 1393] (by decide +kernel)
set_option maxRecDepth 100000 in
theorem wsLi_16a : Cond.code yL_thrown cL_thrown 10 (some .boolean) ∈ lw_tbl := List.mem_of_getElem? (i := 1394) rfl
set_option maxRecDepth 100000 in
theorem wsLi_16b : (wsL_law.drop 896).take 1 = [Cond.code yL_thrown cL_thrown 10 (some .boolean)] := rfl
theorem wsLi_16c : ∀ w ∈ (wsL_law.drop 896).take 1, w ∈ lwB := fun w hw => by
  rw [wsLi_16b] at hw
  rw [List.mem_singleton.mp hw]
  exact List.mem_append_left _ wsLi_16a
set_option maxRecDepth 100000 in
theorem wsLi_16t : ∀ w ∈ (wsL_law.drop 897).take 55, w ∈ lwB := z_inI [385, 386, 387, 388, 1344, 1345, 1346, 1347, 1348, 1349, 1350, 1351, 1352, 1353, 1354, 1355, 1356, 1357, 1358, 1359, 1360, 1361, 1362, 1363, 1364, 1365, 1366, 1367, 1368, 1369, 1370, 1371, 1372, 1373, 1374, 1375, 1376, 1377, 1378, 1395, 1396, 1397, 1398, 1399, 1400, 1401, 1402, 1403, 1404, 1405, 1406, 1407, 1408, 1409, 1410] (by decide +kernel)
set_option maxRecDepth 100000 in
theorem wsLi_17 : ∀ w ∈ (wsL_law.drop 952).take 56, w ∈ lwB := z_inI [1411, 1412, 1413, 1414, 1415, 1416, 1417, 1418, 1419, 1420, 1421, 1422, 1423, 1424, 1425, 1426, 1427, 1428, 1429, 1430, 1432, 17, 1433, 1434, 1436, 18, 1437, 1438, 1439, 1440, 1441, 1442, 1443, 1444, 1445, 1446, 1447, 1448, 1449, 1450, 1451, 1452, 1453, 1454, 1455, 1456, 1457, 1458, 1459, 1387, 1388, 1389, 1390, 1391, 1462, 1463] (by decide +kernel)
set_option maxRecDepth 100000 in
theorem wsLi_18 : ∀ w ∈ (wsL_law.drop 1008).take 56, w ∈ lwB := z_inI [1464, 1465, 1466, 1467, 1468, 1341, 1342, 1343, 1379, 1380, 1382, 1076, 1077, 1078, 1079, 1474, 1080, 1081, 1082, 1475, 1528, 1084, 1085, 1120, 1121, 1122, 1135, 1136, 1478, 1529, 1138, 1139, 1140, 1479, 1530, 1142, 1143, 1144, 1164, 1165, 1166, 1167, 1168, 1169, 1383, 1385, 1196, 1197, 1198, 1199, 565, 1200, 1201, 1202, 1203, 1204] (by decide +kernel)
set_option maxRecDepth 100000 in
theorem wsLi_19 : ∀ w ∈ (wsL_law.drop 1064).take 56, w ∈ lwB := z_inI [1205, 1206, 248, 1207, 1209, 1210, 1208, 1211, 1212, 1213, 1215, 1220, 1221, 1222, 1223, 1224, 1225, 1226, 1227, 1228, 1229, 1238, 1239, 1240, 1241, 1242, 1243, 1244, 1245, 1246, 1247, 272, 274, 276, 278, 280, 282, 284, 286, 288, 290, 292, 294, 99, 101, 103, 105, 107, 109, 111, 113, 115, 117, 132, 134, 136] (by decide +kernel)
set_option maxRecDepth 100000 in
theorem wsLi_20 : ∀ w ∈ (wsL_law.drop 1120).take 56, w ∈ lwB := z_inI [138, 149, 151, 165, 167, 169, 171, 173, 189, 191, 193, 211, 213, 215, 217, 219, 221, 223, 250, 252, 254, 256, 566, 568, 1250, 1252, 1256, 1257, 1258, 1259, 1260, 1261, 554, 555, 556, 557, 558, 559, 31, 439, 448, 457, 460, 462, 440, 441, 62, 63, 442, 447, 458, 478, 429, 479, 431, 480] (by decide +kernel)
set_option maxRecDepth 100000 in
theorem wsLi_21 : ∀ w ∈ (wsL_law.drop 1176).take 56, w ∈ lwB := z_inI [433, 443, 445, 435, 474, 475, 477, 435, 519, 520, 521, 468, 468, 469, 470, 471, 471, 472, 473, 474, 518, 509, 511, 453, 512, 513, 514, 515, 438, 437, 516, 31, 439, 448, 457, 460, 462, 440, 441, 62, 63, 442, 447, 458, 478, 429, 479, 431, 480, 433, 443, 445, 435, 474, 475, 477] (by decide +kernel)
set_option maxRecDepth 100000 in
theorem wsLi_22 : ∀ w ∈ (wsL_law.drop 1232).take 56, w ∈ lwB := z_inI [435, 551, 552, 553, 465, 465, 466, 467, 468, 468, 469, 470, 471, 471, 472, 473, 474, 29, 565, 259, 566, 568, 567, 569, 48, 550, 564, 451, 556, 557, 559, 555, 438, 437, 554, 31, 439, 448, 457, 460, 462, 440, 441, 62, 63, 442, 447, 458, 478, 429, 479, 431, 480, 433, 443, 445] (by decide +kernel)
set_option maxRecDepth 100000 in
theorem wsLi_23 : ∀ w ∈ (wsL_law.drop 1288).take 56, w ∈ lwB := z_inI [435, 474, 475, 477, 435, 465, 466, 467, 468, 468, 469, 470, 471, 471, 472, 473, 474, 464, 418, 426, 427, 428, 430, 432, 434, 438, 437, 436, 31, 439, 448, 457, 460, 462, 440, 441, 62, 63, 442, 447, 458, 478, 429, 479, 431, 480, 433, 443, 445, 435, 474, 475, 477, 435, 502, 503] (by decide +kernel)
set_option maxRecDepth 100000 in
theorem wsLi_24 : ∀ w ∈ (wsL_law.drop 1344).take 56, w ∈ lwB := z_inI [504, 468, 468, 469, 470, 471, 471, 472, 473, 474, 501, 492, 494, 452, 495, 496, 497, 498, 438, 437, 499, 31, 439, 448, 457, 460, 462, 440, 441, 62, 63, 442, 447, 458, 478, 429, 479, 431, 480, 433, 443, 445, 435, 474, 475, 477, 435, 537, 538, 539, 468, 468, 469, 470, 471, 471] (by decide +kernel)
set_option maxRecDepth 100000 in
theorem wsLi_25 : ∀ w ∈ (wsL_law.drop 1400).take 56, w ∈ lwB := z_inI [472, 473, 474, 536, 527, 529, 455, 530, 531, 532, 533, 438, 437, 534, 31, 439, 448, 457, 460, 462, 440, 441, 62, 63, 442, 447, 458, 478, 429, 479, 431, 480, 433, 443, 445, 435, 474, 475, 477, 435, 928, 929, 930, 468, 468, 469, 470, 471, 471, 472, 473, 474, 29, 565, 259, 566] (by decide +kernel)
set_option maxRecDepth 100000 in
theorem wsLi_26 : ∀ w ∈ (wsL_law.drop 1456).take 56, w ∈ lwB := z_inI [568, 567, 569, 51, 927, 939, 450, 933, 934, 936, 932, 438, 437, 931, 31, 439, 448, 457, 460, 462, 440, 441, 62, 63, 442, 447, 458, 478, 429, 479, 431, 480, 433, 443, 445, 435, 474, 475, 477, 435, 877, 878, 879, 468, 468, 469, 470, 471, 471, 472, 473, 474, 876, 867, 869, 456] (by decide +kernel)
set_option maxRecDepth 100000 in
theorem wsLi_27 : ∀ w ∈ (wsL_law.drop 1512).take 56, w ∈ lwB := z_inI [870, 871, 872, 873, 438, 437, 874, 31, 439, 448, 457, 460, 462, 440, 441, 62, 63, 442, 447, 458, 478, 429, 479, 431, 480, 433, 443, 445, 435, 474, 475, 477, 435, 928, 929, 930, 468, 468, 469, 470, 471, 471, 472, 473, 474, 946, 927, 939, 450, 933, 934, 936, 932, 438, 437, 931] (by decide +kernel)
theorem wsLd_28 : ∀ w ∈ wsL_law.drop 1568, w ∈ lwB := by
  have : wsL_law.drop 1568 = [] := by decide +kernel
  rw [this]
  exact fun w h => nomatch h
theorem wsLd_27 : ∀ w ∈ wsL_law.drop 1512, w ∈ lwB := z_inS 56 wsLi_27 (by rw [List.drop_drop]; exact wsLd_28)
theorem wsLd_26 : ∀ w ∈ wsL_law.drop 1456, w ∈ lwB := z_inS 56 wsLi_26 (by rw [List.drop_drop]; exact wsLd_27)
theorem wsLd_25 : ∀ w ∈ wsL_law.drop 1400, w ∈ lwB := z_inS 56 wsLi_25 (by rw [List.drop_drop]; exact wsLd_26)
theorem wsLd_24 : ∀ w ∈ wsL_law.drop 1344, w ∈ lwB := z_inS 56 wsLi_24 (by rw [List.drop_drop]; exact wsLd_25)
theorem wsLd_23 : ∀ w ∈ wsL_law.drop 1288, w ∈ lwB := z_inS 56 wsLi_23 (by rw [List.drop_drop]; exact wsLd_24)
theorem wsLd_22 : ∀ w ∈ wsL_law.drop 1232, w ∈ lwB := z_inS 56 wsLi_22 (by rw [List.drop_drop]; exact wsLd_23)
theorem wsLd_21 : ∀ w ∈ wsL_law.drop 1176, w ∈ lwB := z_inS 56 wsLi_21 (by rw [List.drop_drop]; exact wsLd_22)
theorem wsLd_20 : ∀ w ∈ wsL_law.drop 1120, w ∈ lwB := z_inS 56 wsLi_20 (by rw [List.drop_drop]; exact wsLd_21)
theorem wsLd_19 : ∀ w ∈ wsL_law.drop 1064, w ∈ lwB := z_inS 56 wsLi_19 (by rw [List.drop_drop]; exact wsLd_20)
theorem wsLd_18 : ∀ w ∈ wsL_law.drop 1008, w ∈ lwB := z_inS 56 wsLi_18 (by rw [List.drop_drop]; exact wsLd_19)
theorem wsLd_17 : ∀ w ∈ wsL_law.drop 952, w ∈ lwB := z_inS 56 wsLi_17 (by rw [List.drop_drop]; exact wsLd_18)
theorem wsLd_16x : ∀ w ∈ wsL_law.drop 897, w ∈ lwB := z_inS 55 wsLi_16t (by rw [List.drop_drop]; exact wsLd_17)
theorem wsLd_16 : ∀ w ∈ wsL_law.drop 896, w ∈ lwB := z_inS 1 wsLi_16c (by rw [List.drop_drop]; exact wsLd_16x)
theorem wsLd_15 : ∀ w ∈ wsL_law.drop 840, w ∈ lwB := z_inS 56 wsLi_15 (by rw [List.drop_drop]; exact wsLd_16)
theorem wsLd_14 : ∀ w ∈ wsL_law.drop 784, w ∈ lwB := z_inS 56 wsLi_14 (by rw [List.drop_drop]; exact wsLd_15)
theorem wsLd_13 : ∀ w ∈ wsL_law.drop 728, w ∈ lwB := z_inS 56 wsLi_13 (by rw [List.drop_drop]; exact wsLd_14)
theorem wsLd_12 : ∀ w ∈ wsL_law.drop 672, w ∈ lwB := z_inS 56 wsLi_12 (by rw [List.drop_drop]; exact wsLd_13)
theorem wsLd_11 : ∀ w ∈ wsL_law.drop 616, w ∈ lwB := z_inS 56 wsLi_11 (by rw [List.drop_drop]; exact wsLd_12)
theorem wsLd_10 : ∀ w ∈ wsL_law.drop 560, w ∈ lwB := z_inS 56 wsLi_10 (by rw [List.drop_drop]; exact wsLd_11)
theorem wsLd_9 : ∀ w ∈ wsL_law.drop 504, w ∈ lwB := z_inS 56 wsLi_9 (by rw [List.drop_drop]; exact wsLd_10)
theorem wsLd_8 : ∀ w ∈ wsL_law.drop 448, w ∈ lwB := z_inS 56 wsLi_8 (by rw [List.drop_drop]; exact wsLd_9)
theorem wsLd_7 : ∀ w ∈ wsL_law.drop 392, w ∈ lwB := z_inS 56 wsLi_7 (by rw [List.drop_drop]; exact wsLd_8)
theorem wsLd_6 : ∀ w ∈ wsL_law.drop 336, w ∈ lwB := z_inS 56 wsLi_6 (by rw [List.drop_drop]; exact wsLd_7)
theorem wsLd_5 : ∀ w ∈ wsL_law.drop 280, w ∈ lwB := z_inS 56 wsLi_5 (by rw [List.drop_drop]; exact wsLd_6)
theorem wsLd_4 : ∀ w ∈ wsL_law.drop 224, w ∈ lwB := z_inS 56 wsLi_4 (by rw [List.drop_drop]; exact wsLd_5)
theorem wsLd_3 : ∀ w ∈ wsL_law.drop 168, w ∈ lwB := z_inS 56 wsLi_3 (by rw [List.drop_drop]; exact wsLd_4)
theorem wsLd_2 : ∀ w ∈ wsL_law.drop 112, w ∈ lwB := z_inS 56 wsLi_2 (by rw [List.drop_drop]; exact wsLd_3)
theorem wsLd_1 : ∀ w ∈ wsL_law.drop 56, w ∈ lwB := z_inS 56 wsLi_1 (by rw [List.drop_drop]; exact wsLd_2)
theorem wsLd_0 : ∀ w ∈ wsL_law.drop 0, w ∈ lwB := z_inS 56 wsLi_0 (by rw [List.drop_drop]; exact wsLd_1)
theorem law_words {args : Array Value} {s : State} (hts : ∀ w ∈ lw_tbl, w.before args s = true) : ∀ w ∈ wsL_law, w.before args s = true := by
  intro w hw
  rcases List.mem_append.mp (wsLd_0 w hw) with h | h
  · exact hts w h
  · obtain ⟨y, hy, rfl⟩ := List.mem_map.mp h
    have hs : (Cond.sameMethod "java/lang/AbstractStringBuilder" "java/lang/AbstractStringBuilder" "isLatin1" "()Z").before args s = true := hts _ (by decide +kernel)
    have hi : (Cond.instantiable RJ4 4).before args s = true := hts _ (by decide +kernel)
    simp only [wsSel, List.mem_cons, List.not_mem_nil, or_false] at hy
    rcases hy with rfl | rfl | rfl | rfl | rfl | rfl
    · exact z_selP (by decide) hi (hts _ (by decide +kernel)) (hts _ (by decide +kernel)) hs
    · exact z_selP (by decide) hi (hts _ (by decide +kernel)) (hts _ (by decide +kernel)) hs
    · exact z_selP (by decide) hi (hts _ (by decide +kernel)) (hts _ (by decide +kernel)) hs
    · exact z_selP (by decide) hi (hts _ (by decide +kernel)) (hts _ (by decide +kernel)) hs
    · exact z_selP (by decide) hi (hts _ (by decide +kernel)) (hts _ (by decide +kernel)) hs
    · exact z_selP (by decide) hi (hts _ (by decide +kernel)) (hts _ (by decide +kernel)) hs
