/-- a long list, in pieces -/
theorem goodIn_ch {big ws : List Cond} (k n : Nat) (hk : 0 < k) (hlen : ws.length ≤ n * k) (h : ∀ j : Nat, j < n → GoodIn big ((ws.drop (j * k)).take k)) : GoodIn big ws := fun w hw => by
  obtain ⟨i, hi, rfl⟩ := List.mem_iff_getElem.mp hw
  have hj : i / k < n := by
    rw [Nat.div_lt_iff_lt_mul hk]
    omega
  refine h (i / k) hj _ ?_
  have hm : i / k * k + i % k = i := Nat.div_add_mod' i k
  have hlt : i % k < k := Nat.mod_lt _ hk
  refine List.mem_of_getElem? (i := i % k) ?_
  rw [List.getElem?_take_of_lt hlt, List.getElem?_drop, hm]
  exact List.getElem?_eq_getElem hi
theorem dX7_givesTarget_0 : decode cX7_givesTarget 0 = .ok (.aload_n 0, 1) := by decide +kernel
set_option maxRecDepth 20000 in
theorem ggX7_givesTarget_X7_needScript : GoodIn wsX7_givesTarget wsX7_needScript := goodIn_ca (goodIn_r _ [10, 11, 12, 2, 13, 225, 226, 227, 228, 229, 230, 231, 232, 233, 234, 235, 236, 237, 238, 239, 240, 241, 242, 243] (by decide +kernel) (by decide +kernel)) (goodIn_sub (fun _ h => List.mem_cons_of_mem _ (List.mem_append_right _ h)) (by decide +kernel))
set_option maxRecDepth 20000 in
theorem gX7_givesTarget_X7_needScript : GoodIn wsX7_givesTarget (wsV RX7 119 RX7 yX7_needScript wsX7_needScript) := goodIn_app (goodIn_of _ (by decide +kernel)) ggX7_givesTarget_X7_needScript
theorem dX7_givesTarget_1 : decode cX7_givesTarget 1 = .ok (.invokevirtual 119, 3) := by decide +kernel
theorem dL_givesTarget_0 : decode cL_givesTarget 0 = .ok (.aload_n 1, 1) := by decide +kernel
theorem dL_givesTarget_1 : decode cL_givesTarget 1 = .ok (.iconst 0, 1) := by decide +kernel
theorem dL_givesTarget_2 : decode cL_givesTarget 2 = .ok (.aload_n 0, 1) := by decide +kernel
set_option maxRecDepth 20000 in
theorem ggL_givesTarget_X7_givesTarget : GoodIn wsL_givesTarget wsX7_givesTarget := goodIn_ca (goodIn_r _ [6, 7, 8, 9, 10, 11, 12, 13, 14, 5, 15, 16, 17, 18, 19, 20, 21, 22, 23, 24, 25, 26, 27, 28, 29, 30, 31, 32, 33, 34, 35, 36, 37, 38, 39, 40, 41, 42, 43, 44, 45, 46, 47, 48, 49, 50, 51, 52, 53, 54, 55, 56, 57, 58, 59, 60, 61, 62, 63, 64, 65, 66, 67, 68, 69, 70, 71, 72, 73, 74, 75, 76, 77, 78, 79, 80, 81, 82, 83, 84, 85, 86, 87, 88, 89, 90, 91, 92, 93, 94, 95, 96, 97, 98, 99, 100, 101, 102, 103, 104, 105, 106, 107, 108, 109, 110, 111, 112, 113, 114, 115, 116, 117, 118, 119, 120, 121, 122, 123, 124, 125, 126, 127, 128, 129, 130, 131, 132, 133, 134, 135, 136, 137, 138, 139, 140, 141, 142, 143, 144, 145, 146, 147, 148, 149, 150, 151, 152, 153, 154, 155, 156, 157, 158, 159, 160, 161, 162, 163, 164, 165, 166, 167, 168, 169, 170, 171, 172, 173, 174, 175, 176, 177, 178, 179, 180, 181, 182, 183, 184, 185, 186, 187, 188, 189, 190, 191, 192, 193, 194, 195, 196, 197, 198, 199, 200, 201, 202, 203, 204, 205, 206, 207, 208, 209, 210, 211, 212, 213, 214, 215, 216, 217, 218, 219, 220, 221, 222, 223, 224, 225, 226, 227, 228, 229, 230, 231, 232, 233, 234, 235, 236, 237, 238, 239, 240, 241, 242, 243, 244, 245, 246, 247, 248, 249, 250, 251, 252, 253, 254, 255, 256, 257, 258, 259, 260, 261, 262, 263, 264, 265, 266, 267, 268, 269] (by decide +kernel) (by decide +kernel)) (goodIn_sub (fun _ h => List.mem_cons_of_mem _ (List.mem_append_right _ h)) (by decide +kernel))
set_option maxRecDepth 20000 in
theorem gL_givesTarget_X7_givesTarget : GoodIn wsL_givesTarget (wsV RL 132 RX7 yX7_givesTarget wsX7_givesTarget) := goodIn_app (goodIn_of _ (by decide +kernel)) ggL_givesTarget_X7_givesTarget
theorem dL_givesTarget_3 : decode cL_givesTarget 3 = .ok (.invokevirtual 132, 3) := by decide +kernel
theorem dL_givesTarget_18 : decode cL_givesTarget 18 = .ok (.astore_n 2, 1) := by decide +kernel
theorem dL_givesTarget_19 : decode cL_givesTarget 19 = .ok (.iconst 1, 1) := by decide +kernel
theorem dL_givesTarget_20 : decode cL_givesTarget 20 = .ok (.ireturn, 1) := by decide +kernel
theorem dX10_givesTarget_0 : decode cX10_givesTarget 0 = .ok (.aload_n 0, 1) := by decide +kernel
set_option maxRecDepth 20000 in
theorem ggX10_givesTarget_X10_isNoScript : GoodIn wsX10_givesTarget wsX10_isNoScript := goodIn_r _ [8, 9, 10, 141, 142, 143, 144, 145, 146, 147, 148, 149, 150, 151, 152, 153, 154, 155, 156, 157, 158, 159, 160, 161, 162, 163, 164, 165, 166, 167, 168, 169, 170, 171] (by decide +kernel) (by decide +kernel)
set_option maxRecDepth 20000 in
theorem gX10_givesTarget_X10_isNoScript : GoodIn wsX10_givesTarget (wsV RX10 264 RX10 yX10_isNoScript wsX10_isNoScript) := goodIn_app (goodIn_of _ (by decide +kernel)) ggX10_givesTarget_X10_isNoScript
theorem dX10_givesTarget_1 : decode cX10_givesTarget 1 = .ok (.invokevirtual 264, 3) := by decide +kernel
theorem dX10_givesTarget_4 : decode cX10_givesTarget 4 = .ok (.ifCond .eq 5, 3) := by decide +kernel
theorem dX10_givesTarget_7 : decode cX10_givesTarget 7 = .ok (.iconst 0, 1) := by decide +kernel
theorem dX10_givesTarget_8 : decode cX10_givesTarget 8 = .ok (.ireturn, 1) := by decide +kernel
theorem dL_law_2442 : decode cL_law 2442 = .ok (.aload_n 1, 1) := by decide +kernel
theorem dL_law_2443 : decode cL_law 2443 = .ok (.aload_n 3, 1) := by decide +kernel
def zzL_law_L_givesTarget : List Cond := .codeWith yL_givesTarget cL_givesTarget 3 (some .int) [(0, 15, 18, 13)] :: ((wsL_givesTarget_r1 ++ (wsL_givesTarget_r2 ++ (wsL_givesTarget_r3 ++ (wsL_givesTarget_r4 ++ (wsL_givesTarget_r5 ++ (wsL_givesTarget_r6 ++ (wsL_givesTarget_r7 ++ (wsL_givesTarget_r8 ++ (wsL_givesTarget_r9 ++ wsL_givesTarget_r10))))))))) ++ wsX70 ++ wsX30 ++ wsX20 ++ wsX10 ++ wsX50)
set_option maxRecDepth 20000 in
theorem ggL_law_L_givesTarget_p0 : GoodIn wsL_law ((zzL_law_L_givesTarget.drop (0 * 25)).take 25) := goodIn_r _ [1231, 155, 1232, 1233, 1234, 2, 1235, 39, 35, 1183, 1236, 1237, 586, 587, 588, 589, 160, 161, 590, 1238, 1239, 1240, 38, 1241, 100] (by decide +kernel) (by decide +kernel)
set_option maxRecDepth 20000 in
theorem ggL_law_L_givesTarget_p1 : GoodIn wsL_law ((zzL_law_L_givesTarget.drop (1 * 25)).take 25) := goodIn_r _ [1242, 102, 1243, 1048, 1049, 26, 1050, 78, 79, 936, 76, 937, 77, 938, 1051, 933, 934, 935, 74, 75, 72, 73, 939, 940, 941] (by decide +kernel) (by decide +kernel)
set_option maxRecDepth 20000 in
theorem ggL_law_L_givesTarget_p2 : GoodIn wsL_law ((zzL_law_L_givesTarget.drop (2 * 25)).take 25) := goodIn_r _ [44, 942, 63, 662, 663, 664, 665, 60, 943, 944, 945, 946, 947, 948, 949, 950, 951, 952, 953, 954, 955, 417, 400, 418, 956] (by decide +kernel) (by decide +kernel)
set_option maxRecDepth 20000 in
theorem ggL_law_L_givesTarget_p3 : GoodIn wsL_law ((zzL_law_L_givesTarget.drop (3 * 25)).take 25) := goodIn_r _ [957, 958, 959, 960, 961, 962, 963, 964, 965, 966, 967, 968, 969, 970, 971, 972, 973, 974, 721, 754, 1052, 1053, 408, 1054, 1055] (by decide +kernel) (by decide +kernel)
set_option maxRecDepth 20000 in
theorem ggL_law_L_givesTarget_p4 : GoodIn wsL_law ((zzL_law_L_givesTarget.drop (4 * 25)).take 25) := goodIn_r _ [1056, 1057, 1058, 1059, 1060, 1061, 1062, 1244, 246, 247, 248, 56, 249, 250, 251, 252, 58, 59, 1245, 1246, 1247, 1248, 61, 1249, 1250] (by decide +kernel) (by decide +kernel)
set_option maxRecDepth 20000 in
theorem ggL_law_L_givesTarget_p5 : GoodIn wsL_law ((zzL_law_L_givesTarget.drop (5 * 25)).take 25) := goodIn_r _ [1251, 1252, 1253, 1254, 1255, 1256, 1257, 1258, 1259, 1260, 243, 244, 1261, 884, 885, 886, 887, 888, 889, 890, 1262, 1263, 1264, 1265, 1266] (by decide +kernel) (by decide +kernel)
set_option maxRecDepth 20000 in
theorem ggL_law_L_givesTarget_p6 : GoodIn wsL_law ((zzL_law_L_givesTarget.drop (6 * 25)).take 25) := goodIn_r _ [707, 708, 709, 670, 671, 672, 673, 1267, 1268, 1269, 1270, 103, 104, 1271, 1272, 1273, 1274, 1275, 1276, 1277, 1278, 1279, 1280, 1281, 1282] (by decide +kernel) (by decide +kernel)
set_option maxRecDepth 20000 in
theorem ggL_law_L_givesTarget_p7 : GoodIn wsL_law ((zzL_law_L_givesTarget.drop (7 * 25)).take 25) := goodIn_r _ [1283, 1284, 1285, 1286, 1287, 1288, 1289, 1290, 1291, 1292, 1293, 1294, 1295, 1296, 1297, 1298, 1299, 1300, 1301, 1302, 1303, 1304, 1305, 1306, 228] (by decide +kernel) (by decide +kernel)
set_option maxRecDepth 20000 in
theorem ggL_law_L_givesTarget_p8 : GoodIn wsL_law ((zzL_law_L_givesTarget.drop (8 * 25)).take 25) := goodIn_r _ [229, 230, 1307, 1308, 1309, 1310, 1311, 1312, 1313, 1314, 659, 660, 661, 1315, 1316, 1317, 1318, 1319, 642, 643, 644, 1320, 667, 668, 669] (by decide +kernel) (by decide +kernel)
set_option maxRecDepth 20000 in
theorem ggL_law_L_givesTarget_p9 : GoodIn wsL_law ((zzL_law_L_givesTarget.drop (9 * 25)).take 25) := goodIn_r _ [1321, 219, 220, 221, 883, 1458, 1459, 1460, 1461, 1462, 1463, 1464, 1465, 1466, 1467, 1517, 1518, 1519, 1520, 1521, 1522, 1523, 1524, 1525, 1526] (by decide +kernel) (by decide +kernel)
set_option maxRecDepth 20000 in
theorem ggL_law_L_givesTarget_p10 : GoodIn wsL_law ((zzL_law_L_givesTarget.drop (10 * 25)).take 25) := goodIn_r _ [1527, 1528, 1529, 1505, 1506, 1507, 1508, 1509, 1510, 1511, 1512, 1513, 1514, 1530, 1531, 1532, 1533, 1534, 1535, 1536] (by decide +kernel) (by decide +kernel)
set_option maxRecDepth 20000 in
theorem ggL_law_L_givesTarget_ch : GoodIn wsL_law zzL_law_L_givesTarget := goodIn_ch 25 11 (by decide) (by decide +kernel) (fun j hj => by
  rcases (show j = 0 ∨ j = 1 ∨ j = 2 ∨ j = 3 ∨ j = 4 ∨ j = 5 ∨ j = 6 ∨ j = 7 ∨ j = 8 ∨ j = 9 ∨ j = 10 by omega) with rfl | rfl | rfl | rfl | rfl | rfl | rfl | rfl | rfl | rfl | rfl
  · exact ggL_law_L_givesTarget_p0
  · exact ggL_law_L_givesTarget_p1
  · exact ggL_law_L_givesTarget_p2
  · exact ggL_law_L_givesTarget_p3
  · exact ggL_law_L_givesTarget_p4
  · exact ggL_law_L_givesTarget_p5
  · exact ggL_law_L_givesTarget_p6
  · exact ggL_law_L_givesTarget_p7
  · exact ggL_law_L_givesTarget_p8
  · exact ggL_law_L_givesTarget_p9
  · exact ggL_law_L_givesTarget_p10)
set_option maxRecDepth 20000 in
theorem ggL_law_L_givesTarget : GoodIn wsL_law wsL_givesTarget := goodIn_ca (show GoodIn wsL_law _ from ggL_law_L_givesTarget_ch) (goodIn_sub (fun _ h => List.mem_append_left _ (List.mem_append_left _ (List.mem_append_left _ (List.mem_append_left _ (List.mem_append_right _ h))))) (by decide +kernel))
set_option maxRecDepth 20000 in
theorem gL_law_L_givesTarget : GoodIn wsL_law (va_wsS RL 266 yL_givesTarget wsL_givesTarget) := goodIn_app (goodIn_of _ (by decide +kernel)) ggL_law_L_givesTarget
theorem dL_law_2444 : decode cL_law 2444 = .ok (.invokestatic 266, 3) := by decide +kernel
theorem dL_law_2447 : decode cL_law 2447 = .ok (.istore 6, 2) := by decide +kernel
theorem dL_law_2449 : decode cL_law 2449 = .ok (.aload_n 2, 1) := by decide +kernel
set_option maxRecDepth 20000 in
theorem ggL_law_X10_givesTarget_p0 : GoodIn wsL_law ((wsX10_givesTarget.drop (0 * 25)).take 25) := goodIn_r _ [1325, 126, 118, 127, 1130, 1131, 1132, 5, 1133, 601, 172, 1326, 1327, 1328, 1329, 1330, 1331, 134, 602, 1332, 1103, 1104, 1105, 1106, 1102] (by decide +kernel) (by decide +kernel)
set_option maxRecDepth 20000 in
theorem ggL_law_X10_givesTarget_p1 : GoodIn wsL_law ((wsX10_givesTarget.drop (1 * 25)).take 25) := goodIn_r _ [124, 125, 979, 980, 981, 982, 120, 510, 113, 511, 512, 57, 146, 142, 513, 507, 508, 509, 983, 984, 985, 986, 119, 987, 988] (by decide +kernel) (by decide +kernel)
set_option maxRecDepth 20000 in
theorem ggL_law_X10_givesTarget_p2 : GoodIn wsL_law ((wsX10_givesTarget.drop (2 * 25)).take 25) := goodIn_r _ [417, 400, 418, 690, 691, 692, 1107, 1108, 1109, 1110, 1111, 1112, 1113, 1114, 121, 122, 123, 1333, 1334, 1335, 133, 1336, 1337, 1338, 1339] (by decide +kernel) (by decide +kernel)
set_option maxRecDepth 20000 in
theorem ggL_law_X10_givesTarget_p3 : GoodIn wsL_law ((wsX10_givesTarget.drop (3 * 25)).take 25) := goodIn_r _ [1340, 12, 13, 1341, 1342, 1343, 1344, 1345, 1346, 1347, 1348, 1349, 1350, 1351, 128, 1352, 1353, 1354, 1355, 129, 1356, 1357, 1358, 1359, 895] (by decide +kernel) (by decide +kernel)
set_option maxRecDepth 20000 in
theorem ggL_law_X10_givesTarget_p4 : GoodIn wsL_law ((wsX10_givesTarget.drop (4 * 25)).take 25) := goodIn_r _ [896, 897, 1360, 1361, 1362, 1363, 1364, 1365, 1366, 1367, 1368, 1369, 1370, 130, 1371, 1372, 1373, 1374, 132, 1375, 1376, 1377, 1378, 1379, 1380] (by decide +kernel) (by decide +kernel)
set_option maxRecDepth 20000 in
theorem ggL_law_X10_givesTarget_p5 : GoodIn wsL_law ((wsX10_givesTarget.drop (5 * 25)).take 25) := goodIn_r _ [1381, 1382, 1383, 1384, 1385, 1386, 143, 144, 145, 147, 148, 149, 150, 139, 140, 141, 1468, 1469, 1470, 1471, 1472, 1473, 1474, 1475, 1476] (by decide +kernel) (by decide +kernel)
set_option maxRecDepth 20000 in
theorem ggL_law_X10_givesTarget_p6 : GoodIn wsL_law ((wsX10_givesTarget.drop (6 * 25)).take 25) := goodIn_r _ [1477, 1478, 1479, 1480, 1481, 1482, 1483, 1484, 1485, 1486, 1487, 1488, 1489, 1490, 1491, 1492, 1493, 1494, 1495, 1496, 1497, 1498, 1537, 1538, 1539] (by decide +kernel) (by decide +kernel)
set_option maxRecDepth 20000 in
theorem ggL_law_X10_givesTarget_p7 : GoodIn wsL_law ((wsX10_givesTarget.drop (7 * 25)).take 25) := goodIn_r _ [1540, 1541, 1550, 1551, 1552, 1553, 1554, 1555] (by decide +kernel) (by decide +kernel)
set_option maxRecDepth 20000 in
theorem ggL_law_X10_givesTarget_ch : GoodIn wsL_law wsX10_givesTarget := goodIn_ch 25 8 (by decide) (by decide +kernel) (fun j hj => by
  rcases (show j = 0 ∨ j = 1 ∨ j = 2 ∨ j = 3 ∨ j = 4 ∨ j = 5 ∨ j = 6 ∨ j = 7 by omega) with rfl | rfl | rfl | rfl | rfl | rfl | rfl | rfl
  · exact ggL_law_X10_givesTarget_p0
  · exact ggL_law_X10_givesTarget_p1
  · exact ggL_law_X10_givesTarget_p2
  · exact ggL_law_X10_givesTarget_p3
  · exact ggL_law_X10_givesTarget_p4
  · exact ggL_law_X10_givesTarget_p5
  · exact ggL_law_X10_givesTarget_p6
  · exact ggL_law_X10_givesTarget_p7)
set_option maxRecDepth 20000 in
theorem ggL_law_X10_givesTarget : GoodIn wsL_law wsX10_givesTarget := ggL_law_X10_givesTarget_ch
set_option maxRecDepth 20000 in
theorem gL_law_X10_givesTarget : GoodIn wsL_law (wsV RL 268 RX10 yX10_givesTarget wsX10_givesTarget) := goodIn_app (goodIn_of _ (by decide +kernel)) ggL_law_X10_givesTarget
theorem dL_law_2450 : decode cL_law 2450 = .ok (.invokevirtual 268, 3) := by decide +kernel
theorem dL_law_2453 : decode cL_law 2453 = .ok (.istore 7, 2) := by decide +kernel
theorem dL_law_2455 : decode cL_law 2455 = .ok (.aload_n 2, 1) := by decide +kernel
theorem dL_law_2456 : decode cL_law 2456 = .ok (.invokevirtual 156, 3) := by decide +kernel
theorem dL_law_2459 : decode cL_law 2459 = .ok (.iload 6, 2) := by decide +kernel
theorem dL_law_2461 : decode cL_law 2461 = .ok (.if_icmp .eq 5, 3) := by decide +kernel
theorem dL_law_2466 : decode cL_law 2466 = .ok (.iload 6, 2) := by decide +kernel
theorem dL_law_2468 : decode cL_law 2468 = .ok (.ifCond .ne 22, 3) := by decide +kernel
theorem dL_law_2490 : decode cL_law 2490 = .ok (.goto 160, 3) := by decide +kernel
variable {l : Launch} {N0 : Nat} {D : va_G} {cI cC cL cD cII cTr cTm cIt cB : ClassId} {F : Nat → Option va_E} {ql : Nat → Nat}
theorem k1550_X7_givesTarget {n : Nat} (hst : l.stackTraces = false) (hn : N0 + 231 ≤ n) (h0 : F N0 = some (.inr (9, [.ref (N0 + 1), .ref (N0 + 2), .ref (N0 + 11), .ref (N0 + 13), .ref (N0 + 63), .ref (N0 + 65), .ref (N0 + 85), .int (-1), .int (-1), .int 32]))) (h1 : F (N0 + 65) = some (.inr (5, [.int 0, .ref (N0 + 66), .ref (N0 + 73), .ref (N0 + 80), .ref (N0 + 81), .ref (N0 + 82), .ref (N0 + 83), .ref (N0 + 84), .int 0]))) : vx_Met l yX7_givesTarget wsX7_givesTarget ({ frames := 7, cells := 1, slots := 6, locals := 102 }) (va_Pc [.ref N0] (fP N0 D vwCl (fty cI cC cL cD cII cTr cTm cIt cB) (fen ql) F n)) (fNo N0 D vwCl (fty cI cC cL cD cII cTr cTm cIt cB) F n) (fXC N0 D vwCl (fty cI cC cL cD cII cTr cTm cIt cB) "java/lang/IllegalStateException" F n) 1 6 (fA N0) := by
  refine fx_startX 1 rfl rfl (Nat.le_of_ble_eq_true rfl) ?_ rfl
  intro p e s m below meth c ls S htab hlocks hG hl
  have hl : lv_has ls 1 [(0, .ref N0)] := hl
  have lt_h0 := hG.1.lt h0
  have lt_h1 := hG.1.lt h1
  refine lv_aload_n S.1 S.2.1 dX7_givesTarget_0 rfl (lv_at hl 0 rfl) ?_
  refine fx_xV (As := []) (rest := []) S hG (k63_X7_needScript hst (by omega) h0 h1) h0 rfl (cwV 0 S.2.2.2.2 gX7_givesTarget_X7_needScript rfl rfl rfl (by decide +kernel) ⟨Nat.le_of_ble_eq_true rfl, Nat.le_of_ble_eq_true rfl⟩) rfl hl.1 rfl (Nat.le_of_ble_eq_true rfl) dX7_givesTarget_1 ⟨Nat.le_of_ble_eq_true rfl, Nat.le_of_ble_eq_true rfl⟩ (fun ceq_1 q_1 H locs n_2 hn_2 hG h1q_1 h2q_1 h3q_1 => ?_)
  exact fx_out htab hlocks hG (by omega) h1q_1 h2q_1 h3q_1 (by decide) (by decide)
theorem k1551_L_givesTarget {n : Nat} (hst : l.stackTraces = false) (hn : N0 + 231 ≤ n) (h0 : F N0 = some (.inr (9, [.ref (N0 + 1), .ref (N0 + 2), .ref (N0 + 11), .ref (N0 + 13), .ref (N0 + 63), .ref (N0 + 65), .ref (N0 + 85), .int (-1), .int (-1), .int 32]))) (h1 : F (N0 + 65) = some (.inr (5, [.int 0, .ref (N0 + 66), .ref (N0 + 73), .ref (N0 + 80), .ref (N0 + 81), .ref (N0 + 82), .ref (N0 + 83), .ref (N0 + 84), .int 0]))) : Met l yL_givesTarget wsL_givesTarget ({ frames := 8, cells := 1, slots := 6, locals := 122 }) (va_Pc [.ref N0, .ref (N0 + 229)] (fP N0 D vwCl (fty cI cC cL cD cII cTr cTm cIt cB) (fen ql) F n)) (fQi N0 D vwCl (fty cI cC cL cD cII cTr cTm cIt cB) (fun (r : Int32) (u : Nat) => r = 1 ∧ n ≤ u) (fun _ => F) (fun u => u)) 1 6 (fA N0) := by
  refine fx_startW (hh := [(0, 15, 18, 13)]) 3 rfl rfl (Nat.le_of_ble_eq_true rfl) ?_ rfl
  intro p e s m below meth c ls S htab hr hlocks hG hl
  have hl : lv_has ls 3 [(0, .ref N0), (1, .ref (N0 + 229))] := hl
  have lt_h0 := hG.1.lt h0
  have lt_h1 := hG.1.lt h1
  refine lv_aload_n S.1 S.2.1 dL_givesTarget_0 rfl (lv_at hl 1 rfl) ?_
  refine lv_iconst (v := 0) S.1 S.2.1 dL_givesTarget_1 (by decide) ?_
  refine lv_aload_n S.1 S.2.1 dL_givesTarget_2 rfl (lv_at hl 0 rfl) ?_
  refine fx_xV (As := []) (rest := [.int 0, .ref (N0 + 229)]) S hG (k1550_X7_givesTarget hst (by omega) h0 h1) h0 rfl (cwV 0 S.2.2.2.2 gL_givesTarget_X7_givesTarget rfl rfl rfl (by decide +kernel) ⟨Nat.le_of_ble_eq_true rfl, Nat.le_of_ble_eq_true rfl⟩) rfl hl.1 rfl (Nat.le_of_ble_eq_true rfl) dL_givesTarget_3 ⟨Nat.le_of_ble_eq_true rfl, Nat.le_of_ble_eq_true rfl⟩ (fun ceq_1 q_1 H locs n_2 hn_2 hG h1q_1 h2q_1 h3q_1 => ?_)
  refine fx_catch (hh := [(0, 15, 18, 13)]) S htab hG h1q_1 h2q_1 h3q_1 [] ⟨0, 15, 18, 13⟩ [] rfl [] (fun z hz => absurd hz List.not_mem_nil) (by decide) (by decide) (by decide +kernel) (List.mem_of_getElem? (i := 0) rfl) ?_
  refine lv_astore_n (lv' := [(2, .ref q_1), (0, .ref N0), (1, .ref (N0 + 229))]) S.1 S.2.1 dL_givesTarget_18 rfl hl (by decide) rfl (fun ls hl => ?_)
  refine lv_iconst (v := 1) S.1 S.2.1 dL_givesTarget_19 (by decide) ?_
  exact fx_iret S hr hlocks n_2 hG (⟨rfl, hn_2⟩) dL_givesTarget_20
theorem k1552_X10_givesTarget {n : Nat} (hn : N0 + 231 ≤ n) (h0 : F (N0 + 164) = some (.inr (12, [.ref (N0 + 165), .int 0, .ref (N0 + 181), .int 0, .int 0, .int 0, .int (-1), .ref (ql 24), .ref (N0 + 182), .ref (N0 + 187), .ref (N0 + 208), .ref (N0 + 209), .ref (N0 + 210), .ref (N0 + 211), .ref (N0 + 212), .int 0, .ref (N0 + 213), .ref (N0 + 218), .ref (N0 + 223), .ref (N0 + 224), .ref (N0 + 225), .ref (N0 + 226), .ref (N0 + 227), .int 0, .int 0, .ref (N0 + 228), .null, .int (-1), .int 0, .int 0, .int 0]))) : Met l yX10_givesTarget wsX10_givesTarget ({ frames := 1, cells := 0, slots := 0, locals := 20 }) (va_Pc [.ref (N0 + 164)] (fP N0 D vwCl (fty cI cC cL cD cII cTr cTm cIt cB) (fen ql) F n)) (fQi N0 D vwCl (fty cI cC cL cD cII cTr cTm cIt cB) (fun (r : Int32) (_ : Unit) => r = 0) (fun _ => (fu F (N0 + 164) (.inr (12, [.ref (N0 + 165), .int 1, .ref (N0 + 181), .int 0, .int 0, .int 0, .int (-1), .ref (ql 24), .ref (N0 + 182), .ref (N0 + 187), .ref (N0 + 208), .ref (N0 + 209), .ref (N0 + 210), .ref (N0 + 211), .ref (N0 + 212), .int 0, .ref (N0 + 213), .ref (N0 + 218), .ref (N0 + 223), .ref (N0 + 224), .ref (N0 + 225), .ref (N0 + 226), .ref (N0 + 227), .int 0, .int 0, .ref (N0 + 228), .null, .int (-1), .int 0, .int 0, .int 0])))) (fun _ => n)) 0 0 (fA N0) := by
  refine fx_start 1 rfl rfl (Nat.le_of_ble_eq_true rfl) ?_ rfl
  intro p e s m below meth c ls S hr hlocks hin hG hl
  have hl : lv_has ls 1 [(0, .ref (N0 + 164))] := hl
  have lt_h0 := hG.1.lt h0
  refine lv_aload_n S.1 S.2.1 dX10_givesTarget_0 rfl (lv_at hl 0 rfl) ?_
  refine fx_cVi (As := []) (rest := []) S hG (k1528_X10_isNoScript (by omega) h0) h0 rfl (cwV 0 S.2.2.2.2 gX10_givesTarget_X10_isNoScript rfl rfl rfl (by decide +kernel) ⟨Nat.le_of_ble_eq_true rfl, Nat.le_of_ble_eq_true rfl⟩) rfl hl.1 rfl (Nat.le_of_ble_eq_true rfl) dX10_givesTarget_1 ⟨Nat.le_of_ble_eq_true rfl, Nat.le_of_ble_eq_true rfl⟩ (fun rv_1 _ H locs hp hG => ?_)
  subst rv_1
  refine lv_if_eq (tgt := 9) S.1 S.2.1 dX10_givesTarget_4 (by decide) (fun c => absurd c (by decide)) (fun _ => ?_)
  refine lv_iconst (v := 0) S.1 S.2.1 dX10_givesTarget_7 (by decide) ?_
  exact fx_zret S hr (rfl) hlocks () hG (rfl) dX10_givesTarget_8
theorem l34_0 {p : Program} {e : Env} {s : State} {m : MethodId} {below : List Frame} {meth : Method} {c : Code} {b : Nat} {xs : Nat → Int32} {H : Heap} {locs : List Loc} {ls : Array Slot} {n : Nat} {a1 a2 a3 a4 : Int32} (S : CallFix p m c cL_law 9 s #[.ref b] wsL_law "TreeDifferLaw") (hr : meth.sig.returnType = ret) (hlocks : meth.locks = false) (hst : l.stackTraces = false) (hX : va_X b 5 xs s s.heap) (hbl : b < s.heap.size ∧ b < N0) (hN : s.heap.size = N0) (hn : N0 + 231 ≤ n) (hx1 : xs 1 = a1) (hx2 : xs 2 = a2) (hx3 : xs 3 = a3) (hx4 : xs 4 = a4) (h0 : F N0 = some (.inr (9, [.ref (N0 + 1), .ref (N0 + 2), .ref (N0 + 11), .ref (N0 + 13), .ref (N0 + 63), .ref (N0 + 65), .ref (N0 + 85), .int (-1), .int (-1), .int 32]))) (h1 : F (N0 + 65) = some (.inr (5, [.int 0, .ref (N0 + 66), .ref (N0 + 73), .ref (N0 + 80), .ref (N0 + 81), .ref (N0 + 82), .ref (N0 + 83), .ref (N0 + 84), .int 0]))) (h2 : F (N0 + 164) = some (.inr (12, [.ref (N0 + 165), .int 0, .ref (N0 + 181), .int 0, .int 0, .int 0, .int (-1), .ref (ql 24), .ref (N0 + 182), .ref (N0 + 187), .ref (N0 + 208), .ref (N0 + 209), .ref (N0 + 210), .ref (N0 + 211), .ref (N0 + 212), .int 0, .ref (N0 + 213), .ref (N0 + 218), .ref (N0 + 223), .ref (N0 + 224), .ref (N0 + 225), .ref (N0 + 226), .ref (N0 + 227), .int 0, .int 0, .ref (N0 + 228), .null, .int (-1), .int 0, .int 0, .int 0]))) (hG : fG N0 D vwCl (fty cI cC cL cD cII cTr cTm cIt cB) (fen ql) s F n H locs) (hl : lv_has ls 9 [(0, .ref b), (1, .ref N0), (2, .ref (N0 + 164)), (3, .ref (N0 + 229)), (4, .ref (N0 + 230)), (5, .int 0)]) : W p l e { frames := 2048, cells := 600002, slots := 7302232, locals := 84000 } s m #[.ref b] below meth c H locs 231 4980 (lw_Z below #[.ref b] s) (F0 m 2442 ls []) := by
  have lt_h0 := hG.1.lt h0
  have lt_h1 := hG.1.lt h1
  have lt_h2 := hG.1.lt h2
  refine lv_aload_n S.1 S.2.1 dL_law_2442 rfl (lv_at hl 1 rfl) ?_
  refine lv_aload_n S.1 S.2.1 dL_law_2443 rfl (lv_at hl 3 rfl) ?_
  refine fx_cTi (As := [.ref N0, .ref (N0 + 229)]) (rest := []) S hG (k1551_L_givesTarget hst (by omega) h0 h1) (vx_cwSW 2 S.2.2.2.2 gL_law_L_givesTarget rfl rfl rfl (by decide +kernel) ⟨Nat.le_of_ble_eq_true rfl, Nat.le_of_ble_eq_true rfl⟩) rfl hl.1 rfl (Nat.le_of_ble_eq_true rfl) dL_law_2444 ⟨Nat.le_of_ble_eq_true rfl, Nat.le_of_ble_eq_true rfl⟩ (fun rv_u_1 u_1 H locs hp hG => ?_)
  obtain ⟨rfl, hu_1⟩ := hp
  refine W.widen (k := 232) (n := 4986) (by decide) (by decide) ?_
  refine lv_istore (lv' := [(6, .int 1), (0, .ref b), (1, .ref N0), (2, .ref (N0 + 164)), (3, .ref (N0 + 229)), (4, .ref (N0 + 230)), (5, .int 0)]) S.1 S.2.1 dL_law_2447 hl (by decide) rfl (fun ls hl => ?_)
  refine lv_aload_n S.1 S.2.1 dL_law_2449 rfl (lv_at hl 3 rfl) ?_
  refine fx_cVi (As := []) (rest := []) S hG (k1552_X10_givesTarget (by omega) h2) h2 rfl (cwV 0 S.2.2.2.2 gL_law_X10_givesTarget rfl rfl rfl (by decide +kernel) ⟨Nat.le_of_ble_eq_true rfl, Nat.le_of_ble_eq_true rfl⟩) rfl hl.1 rfl (Nat.le_of_ble_eq_true rfl) dL_law_2450 ⟨Nat.le_of_ble_eq_true rfl, Nat.le_of_ble_eq_true rfl⟩ (fun rv_2 _ H locs hp hG => ?_)
  subst rv_2
  refine lv_istore (lv' := [(7, .int 0), (6, .int 1), (0, .ref b), (1, .ref N0), (2, .ref (N0 + 164)), (3, .ref (N0 + 229)), (4, .ref (N0 + 230)), (5, .int 0)]) S.1 S.2.1 dL_law_2453 hl (by decide) rfl (fun ls hl => ?_)
  refine lv_aload_n S.1 S.2.1 dL_law_2455 rfl (lv_at hl 4 rfl) ?_
  refine fx_cVi (As := []) (rest := []) S hG (k25_X10_thrown (by omega) fu_s) fu_s rfl (cwV 0 S.2.2.2.2 gL_law_X10_thrown rfl rfl rfl (by decide +kernel) ⟨Nat.le_of_ble_eq_true rfl, Nat.le_of_ble_eq_true rfl⟩) rfl hl.1 rfl (Nat.le_of_ble_eq_true rfl) dL_law_2456 ⟨Nat.le_of_ble_eq_true rfl, Nat.le_of_ble_eq_true rfl⟩ (fun rv_3 _ H locs hp hG => ?_)
  subst rv_3
  refine lv_iload S.1 S.2.1 dL_law_2459 (lv_at hl 1 rfl) ?_
  refine lv_icmp_eq (tgt := 2466) S.1 S.2.1 dL_law_2461 (by decide) (fun _ => ?_) (fun c => absurd (by decide) c)
  refine lv_iload S.1 S.2.1 dL_law_2466 (lv_at hl 1 rfl) ?_
  refine lv_if_ne (tgt := 2490) S.1 S.2.1 dL_law_2468 (by decide) (fun _ => ?_) (fun c => absurd c (by decide))
  refine lv_goto (tgt := 2650) S.1 S.2.1 dL_law_2490 (by decide) ?_
  refine lv_iinc (v := 5) (lv' := [(5, .int 5), (7, .int 0), (6, .int 1), (0, .ref b), (1, .ref N0), (2, .ref (N0 + 164)), (3, .ref (N0 + 229)), (4, .ref (N0 + 230))]) S.1 S.2.1 dL_law_2650 hl (k := 7) rfl (by decide) (by decide) rfl (fun ls hl => ?_)
  refine lv_goto (tgt := 28) S.1 S.2.1 dL_law_2653 (by decide) ?_
  refine lv_iload S.1 S.2.1 dL_law_28 (lv_at hl 0 rfl) ?_
  refine lv_aload_n S.1 S.2.1 dL_law_30 rfl (lv_at hl 3 rfl) ?_
  refine gx_slen (v := 5) S hG hX hbl rfl dL_law_31 ?_
  refine lv_iconst (v := 5) S.1 S.2.1 dL_law_32 (by decide) ?_
  refine lv_isub S.1 S.2.1 dL_law_33 ?_
  refine fx_topi (y := 0) (by decide) ?_
  refine lv_icmp_gt (tgt := 2656) S.1 S.2.1 dL_law_34 (by decide) (fun _ => ?_) (fun c => absurd (by decide) c)
  refine lv_iconst (v := 1) S.1 S.2.1 dL_law_2656 (by decide) ?_
  refine va_forget (fun q hq => by rw [hN]; exact hG.2.1.2.2 q hq) ?_
  refine W.widen (k := 600002) (n := 7302232) (by decide) (by decide) ?_
  exact lw_ret (d0 := s.drawn) (Drawn.sameBut.refl _ _) S.1 S.2.1 hr hlocks dL_law_2657
theorem case_34 {p : Program} {e : Env} {s : State} {m : MethodId} {below : List Frame} {meth : Method} {c : Code} {b : Nat} {xs : Nat → Int32} {H : Heap} {locs : List Loc} {ls : Array Slot} {n : Nat} {a1 a2 a3 a4 : Int32} (S : CallFix p m c cL_law 9 s #[.ref b] wsL_law "TreeDifferLaw") (hr : meth.sig.returnType = ret) (hlocks : meth.locks = false) (hst : l.stackTraces = false) (hX : va_X b 5 xs s s.heap) (hbl : b < s.heap.size ∧ b < N0) (hN : s.heap.size = N0) (hn : N0 + 231 ≤ n) (hx1 : xs 1 = a1) (hx2 : xs 2 = a2) (hx3 : xs 3 = a3) (hx4 : xs 4 = a4) (hL : ∀ (i : Nat) (q : Nat × va_E), (lneed N0 cI cC cL cD cII cTr cTm cIt cB ql)[i]? = some q → F (N0 + q.1) = some q.2) (hG : fG N0 D vwCl (fty cI cC cL cD cII cTr cTm cIt cB) (fen ql) s F n H locs) (hl : lv_has ls 9 [(0, .ref b), (1, .ref N0), (2, .ref (N0 + 164)), (3, .ref (N0 + 229)), (4, .ref (N0 + 230)), (5, .int 0)]) : W p l e { frames := 2048, cells := 600002, slots := 7302232, locals := 84000 } s m #[.ref b] below meth c H locs 231 4980 (lw_Z below #[.ref b] s) (F0 m 2442 ls []) := by
  have hn1 := pk_nc a1
  have hf1 := pk_fc a1
  have hv1 := pk_vc a1
  obtain ⟨g_c1_ge_0, g_c1_le_65535⟩ := fl_c0 a1
  generalize hc1 : (a1.toUInt32 % 65536).toInt32 = c1 at *
  have hn2 := pk_nc a2
  have hf2 := pk_fc a2
  have hv2 := pk_vc a2
  obtain ⟨g_c2_ge_0, g_c2_le_65535⟩ := fl_c0 a2
  generalize hc2 : (a2.toUInt32 % 65536).toInt32 = c2 at *
  have hn3 := pk_nc a3
  have hf3 := pk_fc a3
  have hv3 := pk_vc a3
  obtain ⟨g_c3_ge_0, g_c3_le_65535⟩ := fl_c0 a3
  generalize hc3 : (a3.toUInt32 % 65536).toInt32 = c3 at *
  have hn4 := pk_nc a4
  have hf4 := pk_fc a4
  have hv4 := pk_vc a4
  obtain ⟨g_c4_ge_0, g_c4_le_65535⟩ := fl_c0 a4
  generalize hc4 : (a4.toUInt32 % 65536).toInt32 = c4 at *
  exact l34_0 S hr hlocks hst hX hbl hN hn hx1 hx2 hx3 hx4 (hL 0 _ rfl) (hL 9 _ rfl) (hL 4 _ rfl) hG hl
