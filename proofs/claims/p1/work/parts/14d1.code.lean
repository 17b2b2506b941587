def kL_16 : Ci_t := [(817, .aload_n 1, 1), (818, .aload_n 0, 1), (819, .iload_n 3, 1), (820, .iconst 1, 1), (821, .iadd, 1), (822, .iaload, 1), (823, .aload_n 0, 1), (824, .iload_n 3, 1), (825, .iconst 2, 1), (826, .iadd, 1), (827, .iaload, 1), (828, .aload_n 0, 1), (829, .iload_n 3, 1), (830, .iconst 3, 1), (831, .iadd, 1), (832, .iaload, 1), (833, .invokevirtual 79, 3), (836, .aload_n 2, 1), (837, .aload_n 0, 1), (838, .iload_n 3, 1), (839, .iconst 1, 1), (840, .iadd, 1), (841, .iaload, 1), (842, .aload_n 0, 1), (843, .iload_n 3, 1), (844, .iconst 2, 1), (845, .iadd, 1), (846, .iaload, 1), (847, .aload_n 0, 1), (848, .iload_n 3, 1), (849, .iconst 3, 1), (850, .iadd, 1), (851, .iaload, 1), (852, .invokevirtual 82, 3), (855, .if_icmp .eq 1951, 3), (858, .iconst 0, 1), (859, .ireturn, 1)]
set_option maxRecDepth 1000000 in
theorem eL_16 : ∀ q ∈ kL_16, decode cL_law q.1 = .ok q.2 := by decide +kernel
set_option maxRecDepth 1000000 in
theorem oL_16 : ck_ knL kL_16 = true := by decide +kernel
def kL_17 : Ci_t := [(860, .aload_n 1, 1), (861, .aload_n 0, 1), (862, .iload_n 3, 1), (863, .iconst 1, 1), (864, .iadd, 1), (865, .iaload, 1), (866, .aload_n 0, 1), (867, .iload_n 3, 1), (868, .iconst 2, 1), (869, .iadd, 1), (870, .iaload, 1), (871, .aload_n 0, 1), (872, .iload_n 3, 1), (873, .iconst 3, 1), (874, .iadd, 1), (875, .iaload, 1), (876, .invokevirtual 83, 3), (879, .aload_n 2, 1), (880, .aload_n 0, 1), (881, .iload_n 3, 1), (882, .iconst 1, 1), (883, .iadd, 1), (884, .iaload, 1), (885, .aload_n 0, 1), (886, .iload_n 3, 1), (887, .iconst 2, 1), (888, .iadd, 1), (889, .iaload, 1), (890, .aload_n 0, 1), (891, .iload_n 3, 1), (892, .iconst 3, 1), (893, .iadd, 1), (894, .iaload, 1), (895, .invokevirtual 86, 3), (898, .if_icmp .eq 1908, 3), (901, .iconst 0, 1), (902, .ireturn, 1)]
set_option maxRecDepth 1000000 in
theorem eL_17 : ∀ q ∈ kL_17, decode cL_law q.1 = .ok q.2 := by decide +kernel
set_option maxRecDepth 1000000 in
theorem oL_17 : ck_ knL kL_17 = true := by decide +kernel
def kL_18 : Ci_t := [(903, .aload_n 1, 1), (904, .aload_n 0, 1), (905, .iload_n 3, 1), (906, .iconst 1, 1), (907, .iadd, 1), (908, .iaload, 1), (909, .aload_n 0, 1), (910, .iload_n 3, 1), (911, .iconst 2, 1), (912, .iadd, 1), (913, .iaload, 1), (914, .aload_n 0, 1), (915, .iload_n 3, 1), (916, .iconst 3, 1), (917, .iadd, 1), (918, .iaload, 1), (919, .aload_n 0, 1), (920, .iload_n 3, 1), (921, .iconst 4, 1), (922, .iadd, 1), (923, .iaload, 1), (924, .invokevirtual 87, 3), (927, .aload_n 2, 1), (928, .aload_n 0, 1), (929, .iload_n 3, 1), (930, .iconst 1, 1), (931, .iadd, 1), (932, .iaload, 1), (933, .aload_n 0, 1), (934, .iload_n 3, 1), (935, .iconst 2, 1), (936, .iadd, 1), (937, .iaload, 1), (938, .aload_n 0, 1), (939, .iload_n 3, 1), (940, .iconst 3, 1), (941, .iadd, 1), (942, .iaload, 1), (943, .aload_n 0, 1), (944, .iload_n 3, 1), (945, .iconst 4, 1), (946, .iadd, 1), (947, .iaload, 1), (948, .invokevirtual 90, 3), (951, .if_icmp .eq 1855, 3), (954, .iconst 0, 1), (955, .ireturn, 1)]
set_option maxRecDepth 1000000 in
theorem eL_18 : ∀ q ∈ kL_18, decode cL_law q.1 = .ok q.2 := by decide +kernel
set_option maxRecDepth 1000000 in
theorem oL_18 : ck_ knL kL_18 = true := by decide +kernel
def kL_19 : Ci_t := [(956, .aload_n 1, 1), (957, .aload_n 0, 1), (958, .iload_n 3, 1), (959, .iconst 1, 1), (960, .iadd, 1), (961, .iaload, 1), (962, .aload_n 0, 1), (963, .iload_n 3, 1), (964, .iconst 2, 1), (965, .iadd, 1), (966, .iaload, 1), (967, .aload_n 0, 1), (968, .iload_n 3, 1), (969, .iconst 3, 1), (970, .iadd, 1), (971, .iaload, 1), (972, .aload_n 0, 1), (973, .iload_n 3, 1), (974, .iconst 4, 1), (975, .iadd, 1), (976, .iaload, 1), (977, .aload_n 0, 1), (978, .iload_n 3, 1), (979, .iconst 5, 1), (980, .iadd, 1), (981, .iaload, 1), (982, .invokevirtual 91, 3), (985, .aload_n 2, 1), (986, .aload_n 0, 1), (987, .iload_n 3, 1), (988, .iconst 1, 1), (989, .iadd, 1), (990, .iaload, 1), (991, .aload_n 0, 1), (992, .iload_n 3, 1), (993, .iconst 2, 1), (994, .iadd, 1), (995, .iaload, 1), (996, .aload_n 0, 1), (997, .iload_n 3, 1), (998, .iconst 3, 1), (999, .iadd, 1), (1000, .iaload, 1), (1001, .aload_n 0, 1), (1002, .iload_n 3, 1), (1003, .iconst 4, 1), (1004, .iadd, 1), (1005, .iaload, 1), (1006, .aload_n 0, 1), (1007, .iload_n 3, 1), (1008, .iconst 5, 1), (1009, .iadd, 1), (1010, .iaload, 1), (1011, .invokevirtual 94, 3), (1014, .if_icmp .eq 1792, 3), (1017, .iconst 0, 1), (1018, .ireturn, 1)]
set_option maxRecDepth 1000000 in
theorem eL_19 : ∀ q ∈ kL_19, decode cL_law q.1 = .ok q.2 := by decide +kernel
set_option maxRecDepth 1000000 in
theorem oL_19 : ck_ knL kL_19 = true := by decide +kernel
def kL_20 : Ci_t := [(1019, .aload_n 1, 1), (1020, .aload_n 0, 1), (1021, .iload_n 3, 1), (1022, .iconst 1, 1), (1023, .iadd, 1), (1024, .iaload, 1), (1025, .invokevirtual 95, 3), (1028, .aload_n 2, 1), (1029, .aload_n 0, 1), (1030, .iload_n 3, 1), (1031, .iconst 1, 1), (1032, .iadd, 1), (1033, .iaload, 1), (1034, .invokevirtual 98, 3), (1037, .if_icmp .eq 1769, 3), (1040, .iconst 0, 1), (1041, .ireturn, 1)]
set_option maxRecDepth 1000000 in
theorem eL_20 : ∀ q ∈ kL_20, decode cL_law q.1 = .ok q.2 := by decide +kernel
set_option maxRecDepth 1000000 in
theorem oL_20 : ck_ knL kL_20 = true := by decide +kernel
def kL_21 : Ci_t := [(1042, .aload_n 1, 1), (1043, .aload_n 0, 1), (1044, .iload_n 3, 1), (1045, .iconst 1, 1), (1046, .iadd, 1), (1047, .iaload, 1), (1048, .aload_n 0, 1), (1049, .iload_n 3, 1), (1050, .iconst 2, 1), (1051, .iadd, 1), (1052, .iaload, 1), (1053, .aload_n 0, 1), (1054, .iload_n 3, 1), (1055, .iconst 3, 1), (1056, .iadd, 1), (1057, .iaload, 1), (1058, .invokevirtual 99, 3), (1061, .aload_n 2, 1), (1062, .aload_n 0, 1), (1063, .iload_n 3, 1), (1064, .iconst 1, 1), (1065, .iadd, 1), (1066, .iaload, 1), (1067, .aload_n 0, 1), (1068, .iload_n 3, 1), (1069, .iconst 2, 1), (1070, .iadd, 1), (1071, .iaload, 1), (1072, .aload_n 0, 1), (1073, .iload_n 3, 1), (1074, .iconst 3, 1), (1075, .iadd, 1), (1076, .iaload, 1), (1077, .invokevirtual 102, 3), (1080, .if_icmp .eq 1726, 3), (1083, .iconst 0, 1), (1084, .ireturn, 1)]
set_option maxRecDepth 1000000 in
theorem eL_21 : ∀ q ∈ kL_21, decode cL_law q.1 = .ok q.2 := by decide +kernel
set_option maxRecDepth 1000000 in
theorem oL_21 : ck_ knL kL_21 = true := by decide +kernel
def kL_22 : Ci_t := [(1085, .aload_n 1, 1), (1086, .aload_n 0, 1), (1087, .iload_n 3, 1), (1088, .iconst 1, 1), (1089, .iadd, 1), (1090, .iaload, 1), (1091, .invokevirtual 103, 3), (1094, .aload_n 2, 1), (1095, .aload_n 0, 1), (1096, .iload_n 3, 1), (1097, .iconst 1, 1), (1098, .iadd, 1), (1099, .iaload, 1), (1100, .invokevirtual 106, 3), (1103, .if_icmp .eq 1703, 3), (1106, .iconst 0, 1), (1107, .ireturn, 1)]
set_option maxRecDepth 1000000 in
theorem eL_22 : ∀ q ∈ kL_22, decode cL_law q.1 = .ok q.2 := by decide +kernel
set_option maxRecDepth 1000000 in
theorem oL_22 : ck_ knL kL_22 = true := by decide +kernel
def kL_23 : Ci_t := [(1108, .aload_n 1, 1), (1109, .aload_n 0, 1), (1110, .iload_n 3, 1), (1111, .iconst 1, 1), (1112, .iadd, 1), (1113, .iaload, 1), (1114, .aload_n 0, 1), (1115, .iload_n 3, 1), (1116, .iconst 2, 1), (1117, .iadd, 1), (1118, .iaload, 1), (1119, .invokevirtual 107, 3), (1122, .aload_n 2, 1), (1123, .aload_n 0, 1), (1124, .iload_n 3, 1), (1125, .iconst 1, 1), (1126, .iadd, 1), (1127, .iaload, 1), (1128, .aload_n 0, 1), (1129, .iload_n 3, 1), (1130, .iconst 2, 1), (1131, .iadd, 1), (1132, .iaload, 1), (1133, .invokevirtual 110, 3), (1136, .if_icmp .eq 1670, 3), (1139, .iconst 0, 1), (1140, .ireturn, 1)]
set_option maxRecDepth 1000000 in
theorem eL_23 : ∀ q ∈ kL_23, decode cL_law q.1 = .ok q.2 := by decide +kernel
set_option maxRecDepth 1000000 in
theorem oL_23 : ck_ knL kL_23 = true := by decide +kernel
def kL_24 : Ci_t := [(1141, .aload_n 1, 1), (1142, .aload_n 0, 1), (1143, .iload_n 3, 1), (1144, .iconst 1, 1), (1145, .iadd, 1), (1146, .iaload, 1), (1147, .aload_n 0, 1), (1148, .iload_n 3, 1), (1149, .iconst 2, 1), (1150, .iadd, 1), (1151, .iaload, 1), (1152, .aload_n 0, 1), (1153, .iload_n 3, 1), (1154, .iconst 3, 1), (1155, .iadd, 1), (1156, .iaload, 1), (1157, .aload_n 0, 1), (1158, .iload_n 3, 1), (1159, .iconst 4, 1), (1160, .iadd, 1), (1161, .iaload, 1), (1162, .aload_n 0, 1), (1163, .iload_n 3, 1), (1164, .iconst 5, 1), (1165, .iadd, 1), (1166, .iaload, 1), (1167, .invokevirtual 111, 3), (1170, .aload_n 2, 1), (1171, .aload_n 0, 1), (1172, .iload_n 3, 1), (1173, .iconst 1, 1), (1174, .iadd, 1), (1175, .iaload, 1), (1176, .aload_n 0, 1), (1177, .iload_n 3, 1), (1178, .iconst 2, 1), (1179, .iadd, 1), (1180, .iaload, 1), (1181, .aload_n 0, 1), (1182, .iload_n 3, 1), (1183, .iconst 3, 1), (1184, .iadd, 1), (1185, .iaload, 1), (1186, .aload_n 0, 1), (1187, .iload_n 3, 1), (1188, .iconst 4, 1), (1189, .iadd, 1), (1190, .iaload, 1), (1191, .aload_n 0, 1), (1192, .iload_n 3, 1), (1193, .iconst 5, 1), (1194, .iadd, 1), (1195, .iaload, 1), (1196, .invokevirtual 114, 3), (1199, .if_icmp .eq 1607, 3), (1202, .iconst 0, 1), (1203, .ireturn, 1)]
set_option maxRecDepth 1000000 in
theorem eL_24 : ∀ q ∈ kL_24, decode cL_law q.1 = .ok q.2 := by decide +kernel
set_option maxRecDepth 1000000 in
theorem oL_24 : ck_ knL kL_24 = true := by decide +kernel
def kL_25 : Ci_t := [(1204, .aload_n 1, 1), (1205, .aload_n 0, 1), (1206, .iload_n 3, 1), (1207, .iconst 1, 1), (1208, .iadd, 1), (1209, .iaload, 1), (1210, .aload_n 0, 1), (1211, .iload_n 3, 1), (1212, .iconst 2, 1), (1213, .iadd, 1), (1214, .iaload, 1), (1215, .aload_n 0, 1), (1216, .iload_n 3, 1), (1217, .iconst 3, 1), (1218, .iadd, 1), (1219, .iaload, 1), (1220, .aload_n 0, 1), (1221, .iload_n 3, 1), (1222, .iconst 4, 1), (1223, .iadd, 1), (1224, .iaload, 1), (1225, .aload_n 0, 1), (1226, .iload_n 3, 1), (1227, .iconst 5, 1), (1228, .iadd, 1), (1229, .iaload, 1), (1230, .invokevirtual 115, 3), (1233, .aload_n 2, 1), (1234, .aload_n 0, 1), (1235, .iload_n 3, 1), (1236, .iconst 1, 1), (1237, .iadd, 1), (1238, .iaload, 1), (1239, .aload_n 0, 1), (1240, .iload_n 3, 1), (1241, .iconst 2, 1), (1242, .iadd, 1), (1243, .iaload, 1), (1244, .aload_n 0, 1), (1245, .iload_n 3, 1), (1246, .iconst 3, 1), (1247, .iadd, 1), (1248, .iaload, 1), (1249, .aload_n 0, 1), (1250, .iload_n 3, 1), (1251, .iconst 4, 1), (1252, .iadd, 1), (1253, .iaload, 1), (1254, .aload_n 0, 1), (1255, .iload_n 3, 1), (1256, .iconst 5, 1), (1257, .iadd, 1), (1258, .iaload, 1), (1259, .invokevirtual 119, 3), (1262, .lcmp, 1), (1263, .ifCond .eq 1543, 3), (1266, .iconst 0, 1), (1267, .ireturn, 1)]
set_option maxRecDepth 1000000 in
theorem eL_25 : ∀ q ∈ kL_25, decode cL_law q.1 = .ok q.2 := by decide +kernel
set_option maxRecDepth 1000000 in
theorem oL_25 : ck_ knL kL_25 = true := by decide +kernel
def kL_26 : Ci_t := [(1268, .aload_n 1, 1), (1269, .aload_n 0, 1), (1270, .iload_n 3, 1), (1271, .iconst 1, 1), (1272, .iadd, 1), (1273, .iaload, 1), (1274, .aload_n 0, 1), (1275, .iload_n 3, 1), (1276, .iconst 2, 1), (1277, .iadd, 1), (1278, .iaload, 1), (1279, .aload_n 0, 1), (1280, .iload_n 3, 1), (1281, .iconst 3, 1), (1282, .iadd, 1), (1283, .iaload, 1), (1284, .aload_n 0, 1), (1285, .iload_n 3, 1), (1286, .iconst 4, 1), (1287, .iadd, 1), (1288, .iaload, 1), (1289, .invokevirtual 120, 3), (1292, .aload_n 2, 1), (1293, .aload_n 0, 1), (1294, .iload_n 3, 1), (1295, .iconst 1, 1), (1296, .iadd, 1), (1297, .iaload, 1), (1298, .aload_n 0, 1), (1299, .iload_n 3, 1), (1300, .iconst 2, 1), (1301, .iadd, 1), (1302, .iaload, 1), (1303, .aload_n 0, 1), (1304, .iload_n 3, 1), (1305, .iconst 3, 1), (1306, .iadd, 1), (1307, .iaload, 1), (1308, .aload_n 0, 1), (1309, .iload_n 3, 1), (1310, .iconst 4, 1), (1311, .iadd, 1), (1312, .iaload, 1), (1313, .invokevirtual 123, 3), (1316, .if_icmp .eq 1490, 3), (1319, .iconst 0, 1), (1320, .ireturn, 1)]
set_option maxRecDepth 1000000 in
theorem eL_26 : ∀ q ∈ kL_26, decode cL_law q.1 = .ok q.2 := by decide +kernel
set_option maxRecDepth 1000000 in
theorem oL_26 : ck_ knL kL_26 = true := by decide +kernel
def kL_27 : Ci_t := [(1321, .aload_n 1, 1), (1322, .aload_n 0, 1), (1323, .iload_n 3, 1), (1324, .iconst 1, 1), (1325, .iadd, 1), (1326, .iaload, 1), (1327, .aload_n 0, 1), (1328, .iload_n 3, 1), (1329, .iconst 2, 1), (1330, .iadd, 1), (1331, .iaload, 1), (1332, .aload_n 0, 1), (1333, .iload_n 3, 1), (1334, .iconst 3, 1), (1335, .iadd, 1), (1336, .iaload, 1), (1337, .aload_n 0, 1), (1338, .iload_n 3, 1), (1339, .iconst 4, 1), (1340, .iadd, 1), (1341, .iaload, 1), (1342, .invokevirtual 124, 3), (1345, .aload_n 2, 1), (1346, .aload_n 0, 1), (1347, .iload_n 3, 1), (1348, .iconst 1, 1), (1349, .iadd, 1), (1350, .iaload, 1), (1351, .aload_n 0, 1), (1352, .iload_n 3, 1), (1353, .iconst 2, 1), (1354, .iadd, 1), (1355, .iaload, 1), (1356, .aload_n 0, 1), (1357, .iload_n 3, 1), (1358, .iconst 3, 1), (1359, .iadd, 1), (1360, .iaload, 1), (1361, .aload_n 0, 1), (1362, .iload_n 3, 1), (1363, .iconst 4, 1), (1364, .iadd, 1), (1365, .iaload, 1), (1366, .invokevirtual 127, 3), (1369, .if_icmp .eq 1437, 3), (1372, .iconst 0, 1), (1373, .ireturn, 1)]
set_option maxRecDepth 1000000 in
theorem eL_27 : ∀ q ∈ kL_27, decode cL_law q.1 = .ok q.2 := by decide +kernel
set_option maxRecDepth 1000000 in
theorem oL_27 : ck_ knL kL_27 = true := by decide +kernel
def kL_28 : Ci_t := [(1374, .aload_n 1, 1), (1375, .aload_n 0, 1), (1376, .iload_n 3, 1), (1377, .iconst 1, 1), (1378, .iadd, 1), (1379, .iaload, 1), (1380, .invokevirtual 128, 3), (1383, .aload_n 2, 1), (1384, .aload_n 0, 1), (1385, .iload_n 3, 1), (1386, .iconst 1, 1), (1387, .iadd, 1), (1388, .iaload, 1), (1389, .invokevirtual 131, 3), (1392, .if_icmp .eq 1414, 3), (1395, .iconst 0, 1), (1396, .ireturn, 1)]
set_option maxRecDepth 1000000 in
theorem eL_28 : ∀ q ∈ kL_28, decode cL_law q.1 = .ok q.2 := by decide +kernel
set_option maxRecDepth 1000000 in
theorem oL_28 : ck_ knL kL_28 = true := by decide +kernel
def kL_29 : Ci_t := [(1397, .aload_n 1, 1), (1398, .aload_n 0, 1), (1399, .iload_n 3, 1), (1400, .iconst 1, 1), (1401, .iadd, 1), (1402, .iaload, 1), (1403, .aload_n 0, 1), (1404, .iload_n 3, 1), (1405, .iconst 2, 1), (1406, .iadd, 1), (1407, .iaload, 1), (1408, .invokevirtual 132, 3), (1411, .aload_n 2, 1), (1412, .aload_n 0, 1), (1413, .iload_n 3, 1), (1414, .iconst 1, 1), (1415, .iadd, 1), (1416, .iaload, 1), (1417, .aload_n 0, 1), (1418, .iload_n 3, 1), (1419, .iconst 2, 1), (1420, .iadd, 1), (1421, .iaload, 1), (1422, .invokevirtual 135, 3), (1425, .if_icmp .eq 1381, 3), (1428, .iconst 0, 1), (1429, .ireturn, 1)]
set_option maxRecDepth 1000000 in
theorem eL_29 : ∀ q ∈ kL_29, decode cL_law q.1 = .ok q.2 := by decide +kernel
set_option maxRecDepth 1000000 in
theorem oL_29 : ck_ knL kL_29 = true := by decide +kernel
def kL_30 : Ci_t := [(1430, .aload_n 1, 1), (1431, .aload_n 0, 1), (1432, .iload_n 3, 1), (1433, .iconst 1, 1), (1434, .iadd, 1), (1435, .iaload, 1), (1436, .invokevirtual 136, 3), (1439, .aload_n 2, 1), (1440, .aload_n 0, 1), (1441, .iload_n 3, 1), (1442, .iconst 1, 1), (1443, .iadd, 1), (1444, .iaload, 1), (1445, .invokevirtual 139, 3), (1448, .if_icmp .eq 1358, 3), (1451, .iconst 0, 1), (1452, .ireturn, 1)]
set_option maxRecDepth 1000000 in
theorem eL_30 : ∀ q ∈ kL_30, decode cL_law q.1 = .ok q.2 := by decide +kernel
set_option maxRecDepth 1000000 in
theorem oL_30 : ck_ knL kL_30 = true := by decide +kernel
def kL_31 : Ci_t := [(1453, .aload_n 1, 1), (1454, .aload_n 0, 1), (1455, .iload_n 3, 1), (1456, .iconst 1, 1), (1457, .iadd, 1), (1458, .iaload, 1), (1459, .invokevirtual 140, 3), (1462, .aload_n 2, 1), (1463, .aload_n 0, 1), (1464, .iload_n 3, 1), (1465, .iconst 1, 1), (1466, .iadd, 1), (1467, .iaload, 1), (1468, .invokevirtual 143, 3), (1471, .if_icmp .eq 1335, 3), (1474, .iconst 0, 1), (1475, .ireturn, 1)]
set_option maxRecDepth 1000000 in
theorem eL_31 : ∀ q ∈ kL_31, decode cL_law q.1 = .ok q.2 := by decide +kernel
set_option maxRecDepth 1000000 in
theorem oL_31 : ck_ knL kL_31 = true := by decide +kernel
