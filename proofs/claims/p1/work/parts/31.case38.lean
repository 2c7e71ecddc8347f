theorem dX5_isSound_0 : decode cX5_isSound 0 = .ok (.aload_n 0, 1) := by decide +kernel
theorem dX5_isSound_1 : decode cX5_isSound 1 = .ok (.getfield 31, 3) := by decide +kernel
theorem dX5_isSound_4 : decode cX5_isSound 4 = .ok (.iconst 1, 1) := by decide +kernel
theorem dX5_isSound_5 : decode cX5_isSound 5 = .ok (.if_icmp .lt 31, 3) := by decide +kernel
theorem dX5_isSound_8 : decode cX5_isSound 8 = .ok (.aload_n 0, 1) := by decide +kernel
theorem dX5_isSound_9 : decode cX5_isSound 9 = .ok (.getfield 31, 3) := by decide +kernel
theorem dX5_isSound_12 : decode cX5_isSound 12 = .ok (.bipush 20, 2) := by decide +kernel
theorem dX5_isSound_14 : decode cX5_isSound 14 = .ok (.if_icmp .gt 22, 3) := by decide +kernel
theorem dX5_isSound_17 : decode cX5_isSound 17 = .ok (.aload_n 0, 1) := by decide +kernel
theorem dX5_isSound_18 : decode cX5_isSound 18 = .ok (.getfield 22, 3) := by decide +kernel
theorem dX5_isSound_21 : decode cX5_isSound 21 = .ok (.iconst 0, 1) := by decide +kernel
theorem dX5_isSound_22 : decode cX5_isSound 22 = .ok (.iaload, 1) := by decide +kernel
theorem dX5_isSound_23 : decode cX5_isSound 23 = .ok (.iconst (-1), 1) := by decide +kernel
theorem dX5_isSound_24 : decode cX5_isSound 24 = .ok (.if_icmp .ne 12, 3) := by decide +kernel
theorem dX5_isSound_27 : decode cX5_isSound 27 = .ok (.aload_n 0, 1) := by decide +kernel
theorem dX5_isSound_28 : decode cX5_isSound 28 = .ok (.getfield 15, 3) := by decide +kernel
theorem dX5_isSound_31 : decode cX5_isSound 31 = .ok (.iconst 0, 1) := by decide +kernel
theorem dX5_isSound_32 : decode cX5_isSound 32 = .ok (.iaload, 1) := by decide +kernel
theorem dX5_isSound_33 : decode cX5_isSound 33 = .ok (.ifCond .eq 5, 3) := by decide +kernel
theorem dX5_isSound_38 : decode cX5_isSound 38 = .ok (.iconst 0, 1) := by decide +kernel
theorem dX5_isSound_39 : decode cX5_isSound 39 = .ok (.istore_n 1, 1) := by decide +kernel
theorem dX5_isSound_40 : decode cX5_isSound 40 = .ok (.iload_n 1, 1) := by decide +kernel
theorem dX5_isSound_41 : decode cX5_isSound 41 = .ok (.aload_n 0, 1) := by decide +kernel
theorem dX5_isSound_42 : decode cX5_isSound 42 = .ok (.getfield 31, 3) := by decide +kernel
theorem dX5_isSound_45 : decode cX5_isSound 45 = .ok (.if_icmp .ge 61, 3) := by decide +kernel
theorem dX5_isSound_48 : decode cX5_isSound 48 = .ok (.aload_n 0, 1) := by decide +kernel
theorem dX5_isSound_49 : decode cX5_isSound 49 = .ok (.getfield 9, 3) := by decide +kernel
theorem dX5_isSound_52 : decode cX5_isSound 52 = .ok (.iload_n 1, 1) := by decide +kernel
theorem dX5_isSound_53 : decode cX5_isSound 53 = .ok (.caload, 1) := by decide +kernel
set_option maxRecDepth 20000 in
theorem ggX5_isSound_X7_isLabel : GoodIn wsX5_isSound wsX7_isLabel := goodIn_r _ [8] (by decide +kernel) (by decide +kernel)
set_option maxRecDepth 20000 in
theorem gX5_isSound_X7_isLabel_n71 : GoodIn wsX5_isSound (wsX7_isLabel) := ggX5_isSound_X7_isLabel
theorem dX5_isSound_54 : decode cX5_isSound 54 = .ok (.invokestatic 71, 3) := by decide +kernel
theorem dX5_isSound_57 : decode cX5_isSound 57 = .ok (.ifCond .eq 27, 3) := by decide +kernel
theorem dX5_isSound_60 : decode cX5_isSound 60 = .ok (.aload_n 0, 1) := by decide +kernel
theorem dX5_isSound_61 : decode cX5_isSound 61 = .ok (.getfield 15, 3) := by decide +kernel
theorem dX5_isSound_64 : decode cX5_isSound 64 = .ok (.iload_n 1, 1) := by decide +kernel
theorem dX5_isSound_65 : decode cX5_isSound 65 = .ok (.iaload, 1) := by decide +kernel
set_option maxRecDepth 20000 in
theorem ggX5_isSound_X7_isKey : GoodIn wsX5_isSound wsX7_isKey := goodIn_r _ [10] (by decide +kernel) (by decide +kernel)
set_option maxRecDepth 20000 in
theorem gX5_isSound_X7_isKey_n74 : GoodIn wsX5_isSound (wsX7_isKey) := ggX5_isSound_X7_isKey
theorem dX5_isSound_66 : decode cX5_isSound 66 = .ok (.invokestatic 74, 3) := by decide +kernel
theorem dX5_isSound_69 : decode cX5_isSound 69 = .ok (.ifCond .eq 15, 3) := by decide +kernel
theorem dX5_isSound_72 : decode cX5_isSound 72 = .ok (.aload_n 0, 1) := by decide +kernel
theorem dX5_isSound_73 : decode cX5_isSound 73 = .ok (.getfield 19, 3) := by decide +kernel
theorem dX5_isSound_76 : decode cX5_isSound 76 = .ok (.iload_n 1, 1) := by decide +kernel
theorem dX5_isSound_77 : decode cX5_isSound 77 = .ok (.iaload, 1) := by decide +kernel
set_option maxRecDepth 20000 in
theorem ggX5_isSound_X7_isValue : GoodIn wsX5_isSound wsX7_isValue := goodIn_r _ [12] (by decide +kernel) (by decide +kernel)
set_option maxRecDepth 20000 in
theorem gX5_isSound_X7_isValue_n77 : GoodIn wsX5_isSound (wsX7_isValue) := ggX5_isSound_X7_isValue
theorem dX5_isSound_78 : decode cX5_isSound 78 = .ok (.invokestatic 77, 3) := by decide +kernel
theorem dX5_isSound_81 : decode cX5_isSound 81 = .ok (.ifCond .ne 5, 3) := by decide +kernel
theorem dX5_isSound_86 : decode cX5_isSound 86 = .ok (.iload_n 1, 1) := by decide +kernel
theorem dX5_isSound_87 : decode cX5_isSound 87 = .ok (.ifCond .le 13, 3) := by decide +kernel
theorem dX5_isSound_100 : decode cX5_isSound 100 = .ok (.iinc 1 1, 3) := by decide +kernel
theorem dX5_isSound_103 : decode cX5_isSound 103 = .ok (.goto (-63), 3) := by decide +kernel
theorem dX5_isSound_106 : decode cX5_isSound 106 = .ok (.iconst 1, 1) := by decide +kernel
theorem dX5_isSound_107 : decode cX5_isSound 107 = .ok (.ireturn, 1) := by decide +kernel
theorem dX4_isSound_0 : decode cX4_isSound 0 = .ok (.aload_n 0, 1) := by decide +kernel
theorem dX4_isSound_1 : decode cX4_isSound 1 = .ok (.getfield 22, 3) := by decide +kernel
theorem dX4_isSound_4 : decode cX4_isSound 4 = .ok (.ifCond .lt 16, 3) := by decide +kernel
theorem dX4_isSound_7 : decode cX4_isSound 7 = .ok (.aload_n 0, 1) := by decide +kernel
theorem dX4_isSound_8 : decode cX4_isSound 8 = .ok (.getfield 22, 3) := by decide +kernel
theorem dX4_isSound_11 : decode cX4_isSound 11 = .ok (.bipush 80, 2) := by decide +kernel
theorem dX4_isSound_13 : decode cX4_isSound 13 = .ok (.if_icmp .gt 7, 3) := by decide +kernel
theorem dX4_isSound_16 : decode cX4_isSound 16 = .ok (.iconst 1, 1) := by decide +kernel
theorem dX4_isSound_17 : decode cX4_isSound 17 = .ok (.goto 4, 3) := by decide +kernel
theorem dX4_isSound_21 : decode cX4_isSound 21 = .ok (.ireturn, 1) := by decide +kernel
theorem dX0_isSound_0 : decode cX0_isSound 0 = .ok (.aload_n 0, 1) := by decide +kernel
theorem dX0_isSound_1 : decode cX0_isSound 1 = .ok (.getfield 15, 3) := by decide +kernel
theorem dX0_isSound_4 : decode cX0_isSound 4 = .ok (.ifCond .lt 17, 3) := by decide +kernel
theorem dX0_isSound_7 : decode cX0_isSound 7 = .ok (.aload_n 0, 1) := by decide +kernel
theorem dX0_isSound_8 : decode cX0_isSound 8 = .ok (.getfield 15, 3) := by decide +kernel
theorem dX0_isSound_11 : decode cX0_isSound 11 = .ok (.sipush 160, 3) := by decide +kernel
theorem dX0_isSound_14 : decode cX0_isSound 14 = .ok (.if_icmp .gt 7, 3) := by decide +kernel
theorem dX0_isSound_17 : decode cX0_isSound 17 = .ok (.iconst 1, 1) := by decide +kernel
theorem dX0_isSound_18 : decode cX0_isSound 18 = .ok (.goto 4, 3) := by decide +kernel
theorem dX0_isSound_22 : decode cX0_isSound 22 = .ok (.ireturn, 1) := by decide +kernel
theorem dX3_isSound_0 : decode cX3_isSound 0 = .ok (.aload_n 0, 1) := by decide +kernel
theorem dX3_isSound_1 : decode cX3_isSound 1 = .ok (.getfield 65, 3) := by decide +kernel
theorem dX3_isSound_4 : decode cX3_isSound 4 = .ok (.ifCond .ne 16, 3) := by decide +kernel
theorem dX3_isSound_7 : decode cX3_isSound 7 = .ok (.aload_n 0, 1) := by decide +kernel
theorem dX3_isSound_8 : decode cX3_isSound 8 = .ok (.getfield 69, 3) := by decide +kernel
theorem dX3_isSound_11 : decode cX3_isSound 11 = .ok (.ifCond .ne 7, 3) := by decide +kernel
theorem dX3_isSound_14 : decode cX3_isSound 14 = .ok (.iconst 1, 1) := by decide +kernel
theorem dX3_isSound_15 : decode cX3_isSound 15 = .ok (.goto 4, 3) := by decide +kernel
theorem dX3_isSound_19 : decode cX3_isSound 19 = .ok (.ireturn, 1) := by decide +kernel
theorem dX7_isConsistent_0 : decode cX7_isConsistent 0 = .ok (.iconst 0, 1) := by decide +kernel
theorem dX7_isConsistent_1 : decode cX7_isConsistent 1 = .ok (.istore_n 1, 1) := by decide +kernel
theorem dX7_isConsistent_2 : decode cX7_isConsistent 2 = .ok (.iload_n 1, 1) := by decide +kernel
theorem dX7_isConsistent_3 : decode cX7_isConsistent 3 = .ok (.iconst 3, 1) := by decide +kernel
theorem dX7_isConsistent_4 : decode cX7_isConsistent 4 = .ok (.if_icmp .ge 23, 3) := by decide +kernel
theorem dX7_isConsistent_7 : decode cX7_isConsistent 7 = .ok (.aload_n 0, 1) := by decide +kernel
theorem dX7_isConsistent_8 : decode cX7_isConsistent 8 = .ok (.getfield 11, 3) := by decide +kernel
theorem dX7_isConsistent_11 : decode cX7_isConsistent 11 = .ok (.iload_n 1, 1) := by decide +kernel
theorem dX7_isConsistent_12 : decode cX7_isConsistent 12 = .ok (.aaload, 1) := by decide +kernel
set_option maxRecDepth 20000 in
theorem ggX7_isConsistent_X5_isSound : GoodIn wsX7_isConsistent wsX5_isSound := goodIn_r _ [9, 10, 11, 12, 13, 14, 15, 16, 17, 18, 19, 20, 21, 22, 23, 24, 8, 25, 26, 27, 28, 29, 73, 74, 75, 76, 77, 78, 79] (by decide +kernel) (by decide +kernel)
set_option maxRecDepth 20000 in
theorem gX7_isConsistent_X5_isSound : GoodIn wsX7_isConsistent (wsV RX7 294 RX5 yX5_isSound wsX5_isSound) := goodIn_app (goodIn_of _ (by decide +kernel)) ggX7_isConsistent_X5_isSound
theorem dX7_isConsistent_13 : decode cX7_isConsistent 13 = .ok (.invokevirtual 294, 3) := by decide +kernel
theorem dX7_isConsistent_16 : decode cX7_isConsistent 16 = .ok (.ifCond .ne 5, 3) := by decide +kernel
theorem dX7_isConsistent_21 : decode cX7_isConsistent 21 = .ok (.iinc 1 1, 3) := by decide +kernel
theorem dX7_isConsistent_24 : decode cX7_isConsistent 24 = .ok (.goto (-22), 3) := by decide +kernel
theorem dX7_isConsistent_27 : decode cX7_isConsistent 27 = .ok (.aload_n 0, 1) := by decide +kernel
theorem dX7_isConsistent_28 : decode cX7_isConsistent 28 = .ok (.getfield 18, 3) := by decide +kernel
set_option maxRecDepth 20000 in
theorem ggX7_isConsistent_X4_isSound : GoodIn wsX7_isConsistent wsX4_isSound := goodIn_r _ [34, 35, 80, 81, 82, 83] (by decide +kernel) (by decide +kernel)
set_option maxRecDepth 20000 in
theorem gX7_isConsistent_X4_isSound : GoodIn wsX7_isConsistent (wsV RX7 297 RX4 yX4_isSound wsX4_isSound) := goodIn_app (goodIn_of _ (by decide +kernel)) ggX7_isConsistent_X4_isSound
theorem dX7_isConsistent_31 : decode cX7_isConsistent 31 = .ok (.invokevirtual 297, 3) := by decide +kernel
theorem dX7_isConsistent_34 : decode cX7_isConsistent 34 = .ok (.ifCond .eq 27, 3) := by decide +kernel
theorem dX7_isConsistent_37 : decode cX7_isConsistent 37 = .ok (.aload_n 0, 1) := by decide +kernel
theorem dX7_isConsistent_38 : decode cX7_isConsistent 38 = .ok (.getfield 25, 3) := by decide +kernel
set_option maxRecDepth 20000 in
theorem ggX7_isConsistent_X0_isSound : GoodIn wsX7_isConsistent wsX0_isSound := goodIn_r _ [40, 41, 84, 85] (by decide +kernel) (by decide +kernel)
set_option maxRecDepth 20000 in
theorem gX7_isConsistent_X0_isSound : GoodIn wsX7_isConsistent (wsV RX7 298 RX0 yX0_isSound wsX0_isSound) := goodIn_app (goodIn_of _ (by decide +kernel)) ggX7_isConsistent_X0_isSound
theorem dX7_isConsistent_41 : decode cX7_isConsistent 41 = .ok (.invokevirtual 298, 3) := by decide +kernel
theorem dX7_isConsistent_44 : decode cX7_isConsistent 44 = .ok (.ifCond .eq 17, 3) := by decide +kernel
theorem dX7_isConsistent_47 : decode cX7_isConsistent 47 = .ok (.aload_n 0, 1) := by decide +kernel
theorem dX7_isConsistent_48 : decode cX7_isConsistent 48 = .ok (.getfield 46, 3) := by decide +kernel
set_option maxRecDepth 20000 in
theorem ggX7_isConsistent_X3_isSound : GoodIn wsX7_isConsistent wsX3_isSound := goodIn_r _ [46, 47, 48, 49, 50, 51, 6, 7, 8, 9, 10, 11, 12, 13, 14, 15, 16, 17, 18, 19, 20, 21, 22, 23, 24, 25, 26, 27, 28, 29, 52, 53, 54, 45, 55, 56, 57, 58, 59, 60, 61, 62, 86, 87, 88, 89, 90, 91, 92, 93, 94, 73, 74, 75, 76, 77, 78, 79] (by decide +kernel) (by decide +kernel)
set_option maxRecDepth 20000 in
theorem gX7_isConsistent_X3_isSound : GoodIn wsX7_isConsistent (wsV RX7 299 RX3 yX3_isSound wsX3_isSound) := goodIn_app (goodIn_of _ (by decide +kernel)) ggX7_isConsistent_X3_isSound
theorem dX7_isConsistent_51 : decode cX7_isConsistent 51 = .ok (.invokevirtual 299, 3) := by decide +kernel
theorem dX7_isConsistent_54 : decode cX7_isConsistent 54 = .ok (.ifCond .eq 7, 3) := by decide +kernel
theorem dX7_isConsistent_57 : decode cX7_isConsistent 57 = .ok (.iconst 1, 1) := by decide +kernel
theorem dX7_isConsistent_58 : decode cX7_isConsistent 58 = .ok (.goto 4, 3) := by decide +kernel
theorem dX7_isConsistent_62 : decode cX7_isConsistent 62 = .ok (.ireturn, 1) := by decide +kernel
theorem dX10_isConsistent_0 : decode cX10_isConsistent 0 = .ok (.aload_n 0, 1) := by decide +kernel
theorem dX10_isConsistent_1 : decode cX10_isConsistent 1 = .ok (.iconst 0, 1) := by decide +kernel
theorem dX10_isConsistent_2 : decode cX10_isConsistent 2 = .ok (.putfield 105, 3) := by decide +kernel
theorem dX10_isConsistent_5 : decode cX10_isConsistent 5 = .ok (.iconst 1, 1) := by decide +kernel
theorem dX10_isConsistent_6 : decode cX10_isConsistent 6 = .ok (.ireturn, 1) := by decide +kernel
theorem dL_law_2637 : decode cL_law 2637 = .ok (.aload_n 1, 1) := by decide +kernel
set_option maxRecDepth 20000 in
theorem ggL_law_X7_isConsistent : GoodIn wsL_law wsX7_isConsistent := goodIn_r _ [1426, 15, 19, 23, 35, 1427, 1428, 1429, 44, 1430, 63, 60, 58, 56, 59, 216, 2, 217, 740, 741, 756, 757, 1431, 1432, 1433, 1434, 1435, 228, 229, 230, 1436, 1437, 1438, 18, 1439, 167, 1440, 1441, 1442, 22, 1443, 326, 1444, 1445, 1446, 34, 1447, 1045, 1067, 88, 89, 1448, 1449, 1450, 1451, 1452, 1068, 90, 91, 1453, 642, 643, 644, 1458, 1459, 1460, 1461, 1462, 1463, 1464, 1465, 1466, 1467, 1530, 1531, 1532, 1533, 1534, 1535, 1536, 1499, 1500, 1501, 1502, 1503, 1504, 1517, 1518, 1519, 1520, 1521, 1522, 1523, 1524, 1525] (by decide +kernel) (by decide +kernel)
set_option maxRecDepth 20000 in
theorem gL_law_X7_isConsistent : GoodIn wsL_law (wsV RL 278 RX7 yX7_isConsistent wsX7_isConsistent) := goodIn_app (goodIn_of _ (by decide +kernel)) ggL_law_X7_isConsistent
theorem dL_law_2638 : decode cL_law 2638 = .ok (.invokevirtual 278, 3) := by decide +kernel
theorem dL_law_2641 : decode cL_law 2641 = .ok (.aload_n 2, 1) := by decide +kernel
set_option maxRecDepth 20000 in
theorem ggL_law_X10_isConsistent : GoodIn wsL_law wsX10_isConsistent := goodIn_r _ [1457, 172, 1468, 1469, 1470, 1471, 1472, 1473, 1474, 1475, 1476, 1477, 1478, 1479, 1480, 1481, 1482, 1483, 1484, 1485, 1486, 1487, 1488, 1489, 1490, 1491, 1492, 1493, 1494, 1495, 1496, 1497, 1498] (by decide +kernel) (by decide +kernel)
set_option maxRecDepth 20000 in
theorem gL_law_X10_isConsistent : GoodIn wsL_law (wsV RL 281 RX10 yX10_isConsistent wsX10_isConsistent) := goodIn_app (goodIn_of _ (by decide +kernel)) ggL_law_X10_isConsistent
theorem dL_law_2642 : decode cL_law 2642 = .ok (.invokevirtual 281, 3) := by decide +kernel
theorem dL_law_2645 : decode cL_law 2645 = .ok (.if_icmp .eq 5, 3) := by decide +kernel
variable {l : Launch} {N0 : Nat} {D : va_G} {cI cC cL cD cII cTr cTm cIt cB : ClassId} {F : Nat → Option va_E} {ql : Nat → Nat}
theorem k1574_X7_isLabel {n : Nat} (hn : N0 + 231 ≤ n)  : Met l yX7_isLabel wsX7_isLabel ({ frames := 0, cells := 0, slots := 0, locals := 0 }) (va_Pc [.int 97] (fP N0 D vwCl (fty cI cC cL cD cII cTr cTm cIt cB) (fen ql) F n)) (fQi N0 D vwCl (fty cI cC cL cD cII cTr cTm cIt cB) (fun (r : Int32) (_ : Unit) => r = 1) (fun _ => F) (fun _ => n)) 0 0 (fA N0) := by
  refine fx_start 1 rfl rfl (Nat.le_of_ble_eq_true rfl) ?_ rfl
  intro p e s m below meth c ls S hr hlocks hin hG hl
  have hl : lv_has ls 1 [(0, .int 97)] := hl
  refine lv_iload_n S.1 S.2.1 dX7_isLabel_0 rfl (lv_at hl 0 rfl) ?_
  refine lv_bipush (v := 97) S.1 S.2.1 dX7_isLabel_1 (by decide) ?_
  refine lv_icmp_lt (tgt := 16) S.1 S.2.1 dX7_isLabel_3 (by decide) (fun c => absurd c (by decide)) (fun _ => ?_)
  refine lv_iload_n S.1 S.2.1 dX7_isLabel_6 rfl (lv_at hl 0 rfl) ?_
  refine lv_bipush (v := 122) S.1 S.2.1 dX7_isLabel_7 (by decide) ?_
  refine lv_icmp_gt (tgt := 16) S.1 S.2.1 dX7_isLabel_9 (by decide) (fun c => absurd c (by decide)) (fun _ => ?_)
  refine lv_iconst (v := 1) S.1 S.2.1 dX7_isLabel_12 (by decide) ?_
  refine lv_goto (tgt := 17) S.1 S.2.1 dX7_isLabel_13 (by decide) ?_
  exact fx_zret S hr (rfl) hlocks () hG (rfl) dX7_isLabel_17
theorem k1575_X7_isKey {n : Nat} (hn : N0 + 231 ≤ n)  : Met l yX7_isKey wsX7_isKey ({ frames := 0, cells := 0, slots := 0, locals := 0 }) (va_Pc [.int 0] (fP N0 D vwCl (fty cI cC cL cD cII cTr cTm cIt cB) (fen ql) F n)) (fQi N0 D vwCl (fty cI cC cL cD cII cTr cTm cIt cB) (fun (r : Int32) (_ : Unit) => r = 1) (fun _ => F) (fun _ => n)) 0 0 (fA N0) := by
  refine fx_start 1 rfl rfl (Nat.le_of_ble_eq_true rfl) ?_ rfl
  intro p e s m below meth c ls S hr hlocks hin hG hl
  have hl : lv_has ls 1 [(0, .int 0)] := hl
  refine lv_iload_n S.1 S.2.1 dX7_isKey_0 rfl (lv_at hl 0 rfl) ?_
  refine lv_if_lt (tgt := 14) S.1 S.2.1 dX7_isKey_1 (by decide) (fun c => absurd c (by decide)) (fun _ => ?_)
  refine lv_iload_n S.1 S.2.1 dX7_isKey_4 rfl (lv_at hl 0 rfl) ?_
  refine lv_bipush (v := 9) S.1 S.2.1 dX7_isKey_5 (by decide) ?_
  refine lv_icmp_gt (tgt := 14) S.1 S.2.1 dX7_isKey_7 (by decide) (fun c => absurd c (by decide)) (fun _ => ?_)
  refine lv_iconst (v := 1) S.1 S.2.1 dX7_isKey_10 (by decide) ?_
  refine lv_goto (tgt := 15) S.1 S.2.1 dX7_isKey_11 (by decide) ?_
  exact fx_zret S hr (rfl) hlocks () hG (rfl) dX7_isKey_15
theorem k1576_X7_isValue {n : Nat} (hn : N0 + 231 ≤ n)  : Met l yX7_isValue wsX7_isValue ({ frames := 0, cells := 0, slots := 0, locals := 0 }) (va_Pc [.int 0] (fP N0 D vwCl (fty cI cC cL cD cII cTr cTm cIt cB) (fen ql) F n)) (fQi N0 D vwCl (fty cI cC cL cD cII cTr cTm cIt cB) (fun (r : Int32) (_ : Unit) => r = 1) (fun _ => F) (fun _ => n)) 0 0 (fA N0) := by
  refine fx_start 1 rfl rfl (Nat.le_of_ble_eq_true rfl) ?_ rfl
  intro p e s m below meth c ls S hr hlocks hin hG hl
  have hl : lv_has ls 1 [(0, .int 0)] := hl
  refine lv_iload_n S.1 S.2.1 dX7_isValue_0 rfl (lv_at hl 0 rfl) ?_
  refine lv_if_lt (tgt := 14) S.1 S.2.1 dX7_isValue_1 (by decide) (fun c => absurd c (by decide)) (fun _ => ?_)
  refine lv_iload_n S.1 S.2.1 dX7_isValue_4 rfl (lv_at hl 0 rfl) ?_
  refine lv_bipush (v := 99) S.1 S.2.1 dX7_isValue_5 (by decide) ?_
  refine lv_icmp_gt (tgt := 14) S.1 S.2.1 dX7_isValue_7 (by decide) (fun c => absurd c (by decide)) (fun _ => ?_)
  refine lv_iconst (v := 1) S.1 S.2.1 dX7_isValue_10 (by decide) ?_
  refine lv_goto (tgt := 15) S.1 S.2.1 dX7_isValue_11 (by decide) ?_
  exact fx_zret S hr (rfl) hlocks () hG (rfl) dX7_isValue_15
theorem i_X5_isSound_X5 : ∀ w ∈ u_ws RX5 TX5 7, w ∈ wsX5_isSound := by decide +kernel
theorem k1577_X5_isSound {n : Nat} (hn : N0 + 231 ≤ n) (h0 : F (N0 + 143) = some (.inr (7, [.ref (N0 + 144), .ref (N0 + 145), .ref (N0 + 146), .ref (N0 + 147), .ref (N0 + 148), .ref (N0 + 149), .int 1]))) (h1 : F (N0 + 147) = some (.inl (cI, 20, .inl (upd (fun _ => 0) 0 (-1))))) (h2 : F (N0 + 145) = some (.inl (cI, 20, .inl (fun _ => 0)))) (h3 : F (N0 + 144) = some (.inl (cC, 20, .inl (upd (fun _ => 0) 0 97)))) (h4 : F (N0 + 146) = some (.inl (cI, 20, .inl (fun _ => 0)))) : Met l yX5_isSound wsX5_isSound ({ frames := 1, cells := 0, slots := 0, locals := 20 }) (va_Pc [.ref (N0 + 143)] (fP N0 D vwCl (fty cI cC cL cD cII cTr cTm cIt cB) (fen ql) F n)) (fQi N0 D vwCl (fty cI cC cL cD cII cTr cTm cIt cB) (fun (r : Int32) (_ : Unit) => r = 1) (fun _ => F) (fun _ => n)) 0 0 (fA N0) := by
  refine fx_start 2 rfl rfl (Nat.le_of_ble_eq_true rfl) ?_ rfl
  intro p e s m below meth c ls S hr hlocks hin hG hl
  have hl : lv_has ls 2 [(0, .ref (N0 + 143))] := hl
  have lt_h0 := hG.1.lt h0
  have lt_h1 := hG.1.lt h1
  have lt_h2 := hG.1.lt h2
  have lt_h3 := hG.1.lt h3
  have lt_h4 := hG.1.lt h4
  refine lv_aload_n S.1 S.2.1 dX5_isSound_0 rfl (lv_at hl 0 rfl) ?_
  refine gx_get (C := RX5) (T := TX5) (N := 7) S hG h0 i_X5_isSound_X5 rfl 6 (by decide) (by decide +kernel) rfl dX5_isSound_1 ?_
  refine lv_iconst (v := 1) S.1 S.2.1 dX5_isSound_4 (by decide) ?_
  refine lv_icmp_lt (tgt := 36) S.1 S.2.1 dX5_isSound_5 (by decide) (fun c => absurd c (by decide)) (fun _ => ?_)
  refine lv_aload_n S.1 S.2.1 dX5_isSound_8 rfl (lv_at hl 0 rfl) ?_
  refine gx_get (C := RX5) (T := TX5) (N := 7) S hG h0 i_X5_isSound_X5 rfl 6 (by decide) (by decide +kernel) rfl dX5_isSound_9 ?_
  refine lv_bipush (v := 20) S.1 S.2.1 dX5_isSound_12 (by decide) ?_
  refine lv_icmp_gt (tgt := 36) S.1 S.2.1 dX5_isSound_14 (by decide) (fun c => absurd c (by decide)) (fun _ => ?_)
  refine lv_aload_n S.1 S.2.1 dX5_isSound_17 rfl (lv_at hl 0 rfl) ?_
  refine gx_get (C := RX5) (T := TX5) (N := 7) S hG h0 i_X5_isSound_X5 rfl 3 (by decide) (by decide +kernel) rfl dX5_isSound_18 ?_
  refine lv_iconst (v := 0) S.1 S.2.1 dX5_isSound_21 (by decide) ?_
  refine gx_iald (v := (-1)) S hG 0 h1 rfl (fin_l (by decide)) (by decide) dX5_isSound_22 ?_
  refine lv_iconst (v := (-1)) S.1 S.2.1 dX5_isSound_23 (by decide) ?_
  refine lv_icmp_ne (tgt := 36) S.1 S.2.1 dX5_isSound_24 (by decide) (fun c => absurd (by decide) c) (fun _ => ?_)
  refine lv_aload_n S.1 S.2.1 dX5_isSound_27 rfl (lv_at hl 0 rfl) ?_
  refine gx_get (C := RX5) (T := TX5) (N := 7) S hG h0 i_X5_isSound_X5 rfl 1 (by decide) (by decide +kernel) rfl dX5_isSound_28 ?_
  refine lv_iconst (v := 0) S.1 S.2.1 dX5_isSound_31 (by decide) ?_
  refine gx_iald (v := 0) S hG 0 h2 rfl (fin_l (by decide)) (by decide) dX5_isSound_32 ?_
  refine lv_if_eq (tgt := 38) S.1 S.2.1 dX5_isSound_33 (by decide) (fun _ => ?_) (fun c => absurd (by decide) c)
  refine lv_iconst (v := 0) S.1 S.2.1 dX5_isSound_38 (by decide) ?_
  refine lv_istore_n (lv' := [(1, .int 0), (0, .ref (N0 + 143))]) S.1 S.2.1 dX5_isSound_39 rfl hl (by decide) rfl (fun ls hl => ?_)
  refine lv_iload_n S.1 S.2.1 dX5_isSound_40 rfl (lv_at hl 0 rfl) ?_
  refine lv_aload_n S.1 S.2.1 dX5_isSound_41 rfl (lv_at hl 1 rfl) ?_
  refine gx_get (C := RX5) (T := TX5) (N := 7) S hG h0 i_X5_isSound_X5 rfl 6 (by decide) (by decide +kernel) rfl dX5_isSound_42 ?_
  refine lv_icmp_ge (tgt := 106) S.1 S.2.1 dX5_isSound_45 (by decide) (fun c => absurd c (by decide)) (fun _ => ?_)
  refine lv_aload_n S.1 S.2.1 dX5_isSound_48 rfl (lv_at hl 1 rfl) ?_
  refine gx_get (C := RX5) (T := TX5) (N := 7) S hG h0 i_X5_isSound_X5 rfl 0 (by decide) (by decide +kernel) rfl dX5_isSound_49 ?_
  refine lv_iload_n S.1 S.2.1 dX5_isSound_52 rfl (lv_at hl 0 rfl) ?_
  refine gx_cald (v := 97) S hG 1 h3 rfl (fin_l (by decide)) (by decide) dX5_isSound_53 ?_
  refine fx_cSNi (host := "TreeDiffer") (As := [.int 97]) (rest := []) S hG (k1574_X7_isLabel (by omega)) ⟨(va_cnB 1 S.2.2.2.2 gX5_isSound_X7_isLabel_n71 rfl rfl rfl (hG.nest (show _ ∈ fen2.2.2.1 from by decide)) (S.2.2.2.2 (.initialized RX7) (by decide +kernel)) (by decide +kernel) ⟨Nat.le_of_ble_eq_true rfl, Nat.le_of_ble_eq_true rfl⟩), S.2.2.2.2 (.static yX7_isLabel) (by decide +kernel), trivial⟩ rfl hl.1 rfl (Nat.le_of_ble_eq_true rfl) dX5_isSound_54 ⟨Nat.le_of_ble_eq_true rfl, Nat.le_of_ble_eq_true rfl⟩ (fun rv_1 _ H locs hp hG => ?_)
  subst rv_1
  refine lv_if_eq (tgt := 84) S.1 S.2.1 dX5_isSound_57 (by decide) (fun c => absurd c (by decide)) (fun _ => ?_)
  refine lv_aload_n S.1 S.2.1 dX5_isSound_60 rfl (lv_at hl 1 rfl) ?_
  refine gx_get (C := RX5) (T := TX5) (N := 7) S hG h0 i_X5_isSound_X5 rfl 1 (by decide) (by decide +kernel) rfl dX5_isSound_61 ?_
  refine lv_iload_n S.1 S.2.1 dX5_isSound_64 rfl (lv_at hl 0 rfl) ?_
  refine gx_iald (v := 0) S hG 0 h2 rfl (fin_l (by decide)) (by decide) dX5_isSound_65 ?_
  refine fx_cSNi (host := "TreeDiffer") (As := [.int 0]) (rest := []) S hG (k1575_X7_isKey (by omega)) ⟨(va_cnB 1 S.2.2.2.2 gX5_isSound_X7_isKey_n74 rfl rfl rfl (hG.nest (show _ ∈ fen2.2.2.1 from by decide)) (S.2.2.2.2 (.initialized RX7) (by decide +kernel)) (by decide +kernel) ⟨Nat.le_of_ble_eq_true rfl, Nat.le_of_ble_eq_true rfl⟩), S.2.2.2.2 (.static yX7_isKey) (by decide +kernel), trivial⟩ rfl hl.1 rfl (Nat.le_of_ble_eq_true rfl) dX5_isSound_66 ⟨Nat.le_of_ble_eq_true rfl, Nat.le_of_ble_eq_true rfl⟩ (fun rv_2 _ H locs hp hG => ?_)
  subst rv_2
  refine lv_if_eq (tgt := 84) S.1 S.2.1 dX5_isSound_69 (by decide) (fun c => absurd c (by decide)) (fun _ => ?_)
  refine lv_aload_n S.1 S.2.1 dX5_isSound_72 rfl (lv_at hl 1 rfl) ?_
  refine gx_get (C := RX5) (T := TX5) (N := 7) S hG h0 i_X5_isSound_X5 rfl 2 (by decide) (by decide +kernel) rfl dX5_isSound_73 ?_
  refine lv_iload_n S.1 S.2.1 dX5_isSound_76 rfl (lv_at hl 0 rfl) ?_
  refine gx_iald (v := 0) S hG 0 h4 rfl (fin_l (by decide)) (by decide) dX5_isSound_77 ?_
  refine fx_cSNi (host := "TreeDiffer") (As := [.int 0]) (rest := []) S hG (k1576_X7_isValue (by omega)) ⟨(va_cnB 1 S.2.2.2.2 gX5_isSound_X7_isValue_n77 rfl rfl rfl (hG.nest (show _ ∈ fen2.2.2.1 from by decide)) (S.2.2.2.2 (.initialized RX7) (by decide +kernel)) (by decide +kernel) ⟨Nat.le_of_ble_eq_true rfl, Nat.le_of_ble_eq_true rfl⟩), S.2.2.2.2 (.static yX7_isValue) (by decide +kernel), trivial⟩ rfl hl.1 rfl (Nat.le_of_ble_eq_true rfl) dX5_isSound_78 ⟨Nat.le_of_ble_eq_true rfl, Nat.le_of_ble_eq_true rfl⟩ (fun rv_3 _ H locs hp hG => ?_)
  subst rv_3
  refine lv_if_ne (tgt := 86) S.1 S.2.1 dX5_isSound_81 (by decide) (fun _ => ?_) (fun c => absurd c (by decide))
  refine lv_iload_n S.1 S.2.1 dX5_isSound_86 rfl (lv_at hl 0 rfl) ?_
  refine lv_if_le (tgt := 100) S.1 S.2.1 dX5_isSound_87 (by decide) (fun _ => ?_) (fun c => absurd (by decide) c)
  refine lv_iinc (v := 1) (lv' := [(1, .int 1), (0, .ref (N0 + 143))]) S.1 S.2.1 dX5_isSound_100 hl (k := 0) rfl (by decide) (by decide) rfl (fun ls hl => ?_)
  refine lv_goto (tgt := 40) S.1 S.2.1 dX5_isSound_103 (by decide) ?_
  refine lv_iload_n S.1 S.2.1 dX5_isSound_40 rfl (lv_at hl 0 rfl) ?_
  refine lv_aload_n S.1 S.2.1 dX5_isSound_41 rfl (lv_at hl 1 rfl) ?_
  refine gx_get (C := RX5) (T := TX5) (N := 7) S hG h0 i_X5_isSound_X5 rfl 6 (by decide) (by decide +kernel) rfl dX5_isSound_42 ?_
  refine lv_icmp_ge (tgt := 106) S.1 S.2.1 dX5_isSound_45 (by decide) (fun _ => ?_) (fun c => absurd (by decide) c)
  refine lv_iconst (v := 1) S.1 S.2.1 dX5_isSound_106 (by decide) ?_
  exact fx_zret S hr (rfl) hlocks () hG (rfl) dX5_isSound_107
theorem k1578_X5_isSound {n : Nat} (hn : N0 + 231 ≤ n) (h0 : F (N0 + 150) = some (.inr (7, [.ref (N0 + 151), .ref (N0 + 152), .ref (N0 + 153), .ref (N0 + 154), .ref (N0 + 155), .ref (N0 + 156), .int 1]))) (h1 : F (N0 + 154) = some (.inl (cI, 20, .inl (upd (fun _ => 0) 0 (-1))))) (h2 : F (N0 + 152) = some (.inl (cI, 20, .inl (fun _ => 0)))) (h3 : F (N0 + 151) = some (.inl (cC, 20, .inl (upd (fun _ => 0) 0 97)))) (h4 : F (N0 + 153) = some (.inl (cI, 20, .inl (fun _ => 0)))) : Met l yX5_isSound wsX5_isSound ({ frames := 1, cells := 0, slots := 0, locals := 20 }) (va_Pc [.ref (N0 + 150)] (fP N0 D vwCl (fty cI cC cL cD cII cTr cTm cIt cB) (fen ql) F n)) (fQi N0 D vwCl (fty cI cC cL cD cII cTr cTm cIt cB) (fun (r : Int32) (_ : Unit) => r = 1) (fun _ => F) (fun _ => n)) 0 0 (fA N0) := by
  refine fx_start 2 rfl rfl (Nat.le_of_ble_eq_true rfl) ?_ rfl
  intro p e s m below meth c ls S hr hlocks hin hG hl
  have hl : lv_has ls 2 [(0, .ref (N0 + 150))] := hl
  have lt_h0 := hG.1.lt h0
  have lt_h1 := hG.1.lt h1
  have lt_h2 := hG.1.lt h2
  have lt_h3 := hG.1.lt h3
  have lt_h4 := hG.1.lt h4
  refine lv_aload_n S.1 S.2.1 dX5_isSound_0 rfl (lv_at hl 0 rfl) ?_
  refine gx_get (C := RX5) (T := TX5) (N := 7) S hG h0 i_X5_isSound_X5 rfl 6 (by decide) (by decide +kernel) rfl dX5_isSound_1 ?_
  refine lv_iconst (v := 1) S.1 S.2.1 dX5_isSound_4 (by decide) ?_
  refine lv_icmp_lt (tgt := 36) S.1 S.2.1 dX5_isSound_5 (by decide) (fun c => absurd c (by decide)) (fun _ => ?_)
  refine lv_aload_n S.1 S.2.1 dX5_isSound_8 rfl (lv_at hl 0 rfl) ?_
  refine gx_get (C := RX5) (T := TX5) (N := 7) S hG h0 i_X5_isSound_X5 rfl 6 (by decide) (by decide +kernel) rfl dX5_isSound_9 ?_
  refine lv_bipush (v := 20) S.1 S.2.1 dX5_isSound_12 (by decide) ?_
  refine lv_icmp_gt (tgt := 36) S.1 S.2.1 dX5_isSound_14 (by decide) (fun c => absurd c (by decide)) (fun _ => ?_)
  refine lv_aload_n S.1 S.2.1 dX5_isSound_17 rfl (lv_at hl 0 rfl) ?_
  refine gx_get (C := RX5) (T := TX5) (N := 7) S hG h0 i_X5_isSound_X5 rfl 3 (by decide) (by decide +kernel) rfl dX5_isSound_18 ?_
  refine lv_iconst (v := 0) S.1 S.2.1 dX5_isSound_21 (by decide) ?_
  refine gx_iald (v := (-1)) S hG 0 h1 rfl (fin_l (by decide)) (by decide) dX5_isSound_22 ?_
  refine lv_iconst (v := (-1)) S.1 S.2.1 dX5_isSound_23 (by decide) ?_
  refine lv_icmp_ne (tgt := 36) S.1 S.2.1 dX5_isSound_24 (by decide) (fun c => absurd (by decide) c) (fun _ => ?_)
  refine lv_aload_n S.1 S.2.1 dX5_isSound_27 rfl (lv_at hl 0 rfl) ?_
  refine gx_get (C := RX5) (T := TX5) (N := 7) S hG h0 i_X5_isSound_X5 rfl 1 (by decide) (by decide +kernel) rfl dX5_isSound_28 ?_
  refine lv_iconst (v := 0) S.1 S.2.1 dX5_isSound_31 (by decide) ?_
  refine gx_iald (v := 0) S hG 0 h2 rfl (fin_l (by decide)) (by decide) dX5_isSound_32 ?_
  refine lv_if_eq (tgt := 38) S.1 S.2.1 dX5_isSound_33 (by decide) (fun _ => ?_) (fun c => absurd (by decide) c)
  refine lv_iconst (v := 0) S.1 S.2.1 dX5_isSound_38 (by decide) ?_
  refine lv_istore_n (lv' := [(1, .int 0), (0, .ref (N0 + 150))]) S.1 S.2.1 dX5_isSound_39 rfl hl (by decide) rfl (fun ls hl => ?_)
  refine lv_iload_n S.1 S.2.1 dX5_isSound_40 rfl (lv_at hl 0 rfl) ?_
  refine lv_aload_n S.1 S.2.1 dX5_isSound_41 rfl (lv_at hl 1 rfl) ?_
  refine gx_get (C := RX5) (T := TX5) (N := 7) S hG h0 i_X5_isSound_X5 rfl 6 (by decide) (by decide +kernel) rfl dX5_isSound_42 ?_
  refine lv_icmp_ge (tgt := 106) S.1 S.2.1 dX5_isSound_45 (by decide) (fun c => absurd c (by decide)) (fun _ => ?_)
  refine lv_aload_n S.1 S.2.1 dX5_isSound_48 rfl (lv_at hl 1 rfl) ?_
  refine gx_get (C := RX5) (T := TX5) (N := 7) S hG h0 i_X5_isSound_X5 rfl 0 (by decide) (by decide +kernel) rfl dX5_isSound_49 ?_
  refine lv_iload_n S.1 S.2.1 dX5_isSound_52 rfl (lv_at hl 0 rfl) ?_
  refine gx_cald (v := 97) S hG 1 h3 rfl (fin_l (by decide)) (by decide) dX5_isSound_53 ?_
  refine fx_cSNi (host := "TreeDiffer") (As := [.int 97]) (rest := []) S hG (k1574_X7_isLabel (by omega)) ⟨(va_cnB 1 S.2.2.2.2 gX5_isSound_X7_isLabel_n71 rfl rfl rfl (hG.nest (show _ ∈ fen2.2.2.1 from by decide)) (S.2.2.2.2 (.initialized RX7) (by decide +kernel)) (by decide +kernel) ⟨Nat.le_of_ble_eq_true rfl, Nat.le_of_ble_eq_true rfl⟩), S.2.2.2.2 (.static yX7_isLabel) (by decide +kernel), trivial⟩ rfl hl.1 rfl (Nat.le_of_ble_eq_true rfl) dX5_isSound_54 ⟨Nat.le_of_ble_eq_true rfl, Nat.le_of_ble_eq_true rfl⟩ (fun rv_1 _ H locs hp hG => ?_)
  subst rv_1
  refine lv_if_eq (tgt := 84) S.1 S.2.1 dX5_isSound_57 (by decide) (fun c => absurd c (by decide)) (fun _ => ?_)
  refine lv_aload_n S.1 S.2.1 dX5_isSound_60 rfl (lv_at hl 1 rfl) ?_
  refine gx_get (C := RX5) (T := TX5) (N := 7) S hG h0 i_X5_isSound_X5 rfl 1 (by decide) (by decide +kernel) rfl dX5_isSound_61 ?_
  refine lv_iload_n S.1 S.2.1 dX5_isSound_64 rfl (lv_at hl 0 rfl) ?_
  refine gx_iald (v := 0) S hG 0 h2 rfl (fin_l (by decide)) (by decide) dX5_isSound_65 ?_
  refine fx_cSNi (host := "TreeDiffer") (As := [.int 0]) (rest := []) S hG (k1575_X7_isKey (by omega)) ⟨(va_cnB 1 S.2.2.2.2 gX5_isSound_X7_isKey_n74 rfl rfl rfl (hG.nest (show _ ∈ fen2.2.2.1 from by decide)) (S.2.2.2.2 (.initialized RX7) (by decide +kernel)) (by decide +kernel) ⟨Nat.le_of_ble_eq_true rfl, Nat.le_of_ble_eq_true rfl⟩), S.2.2.2.2 (.static yX7_isKey) (by decide +kernel), trivial⟩ rfl hl.1 rfl (Nat.le_of_ble_eq_true rfl) dX5_isSound_66 ⟨Nat.le_of_ble_eq_true rfl, Nat.le_of_ble_eq_true rfl⟩ (fun rv_2 _ H locs hp hG => ?_)
  subst rv_2
  refine lv_if_eq (tgt := 84) S.1 S.2.1 dX5_isSound_69 (by decide) (fun c => absurd c (by decide)) (fun _ => ?_)
  refine lv_aload_n S.1 S.2.1 dX5_isSound_72 rfl (lv_at hl 1 rfl) ?_
  refine gx_get (C := RX5) (T := TX5) (N := 7) S hG h0 i_X5_isSound_X5 rfl 2 (by decide) (by decide +kernel) rfl dX5_isSound_73 ?_
  refine lv_iload_n S.1 S.2.1 dX5_isSound_76 rfl (lv_at hl 0 rfl) ?_
  refine gx_iald (v := 0) S hG 0 h4 rfl (fin_l (by decide)) (by decide) dX5_isSound_77 ?_
  refine fx_cSNi (host := "TreeDiffer") (As := [.int 0]) (rest := []) S hG (k1576_X7_isValue (by omega)) ⟨(va_cnB 1 S.2.2.2.2 gX5_isSound_X7_isValue_n77 rfl rfl rfl (hG.nest (show _ ∈ fen2.2.2.1 from by decide)) (S.2.2.2.2 (.initialized RX7) (by decide +kernel)) (by decide +kernel) ⟨Nat.le_of_ble_eq_true rfl, Nat.le_of_ble_eq_true rfl⟩), S.2.2.2.2 (.static yX7_isValue) (by decide +kernel), trivial⟩ rfl hl.1 rfl (Nat.le_of_ble_eq_true rfl) dX5_isSound_78 ⟨Nat.le_of_ble_eq_true rfl, Nat.le_of_ble_eq_true rfl⟩ (fun rv_3 _ H locs hp hG => ?_)
  subst rv_3
  refine lv_if_ne (tgt := 86) S.1 S.2.1 dX5_isSound_81 (by decide) (fun _ => ?_) (fun c => absurd c (by decide))
  refine lv_iload_n S.1 S.2.1 dX5_isSound_86 rfl (lv_at hl 0 rfl) ?_
  refine lv_if_le (tgt := 100) S.1 S.2.1 dX5_isSound_87 (by decide) (fun _ => ?_) (fun c => absurd (by decide) c)
  refine lv_iinc (v := 1) (lv' := [(1, .int 1), (0, .ref (N0 + 150))]) S.1 S.2.1 dX5_isSound_100 hl (k := 0) rfl (by decide) (by decide) rfl (fun ls hl => ?_)
  refine lv_goto (tgt := 40) S.1 S.2.1 dX5_isSound_103 (by decide) ?_
  refine lv_iload_n S.1 S.2.1 dX5_isSound_40 rfl (lv_at hl 0 rfl) ?_
  refine lv_aload_n S.1 S.2.1 dX5_isSound_41 rfl (lv_at hl 1 rfl) ?_
  refine gx_get (C := RX5) (T := TX5) (N := 7) S hG h0 i_X5_isSound_X5 rfl 6 (by decide) (by decide +kernel) rfl dX5_isSound_42 ?_
  refine lv_icmp_ge (tgt := 106) S.1 S.2.1 dX5_isSound_45 (by decide) (fun _ => ?_) (fun c => absurd (by decide) c)
  refine lv_iconst (v := 1) S.1 S.2.1 dX5_isSound_106 (by decide) ?_
  exact fx_zret S hr (rfl) hlocks () hG (rfl) dX5_isSound_107
theorem k1579_X5_isSound {n : Nat} (hn : N0 + 231 ≤ n) (h0 : F (N0 + 157) = some (.inr (7, [.ref (N0 + 158), .ref (N0 + 159), .ref (N0 + 160), .ref (N0 + 161), .ref (N0 + 162), .ref (N0 + 163), .int 1]))) (h1 : F (N0 + 161) = some (.inl (cI, 20, .inl (upd (fun _ => 0) 0 (-1))))) (h2 : F (N0 + 159) = some (.inl (cI, 20, .inl (fun _ => 0)))) (h3 : F (N0 + 158) = some (.inl (cC, 20, .inl (upd (fun _ => 0) 0 97)))) (h4 : F (N0 + 160) = some (.inl (cI, 20, .inl (fun _ => 0)))) : Met l yX5_isSound wsX5_isSound ({ frames := 1, cells := 0, slots := 0, locals := 20 }) (va_Pc [.ref (N0 + 157)] (fP N0 D vwCl (fty cI cC cL cD cII cTr cTm cIt cB) (fen ql) F n)) (fQi N0 D vwCl (fty cI cC cL cD cII cTr cTm cIt cB) (fun (r : Int32) (_ : Unit) => r = 1) (fun _ => F) (fun _ => n)) 0 0 (fA N0) := by
  refine fx_start 2 rfl rfl (Nat.le_of_ble_eq_true rfl) ?_ rfl
  intro p e s m below meth c ls S hr hlocks hin hG hl
  have hl : lv_has ls 2 [(0, .ref (N0 + 157))] := hl
  have lt_h0 := hG.1.lt h0
  have lt_h1 := hG.1.lt h1
  have lt_h2 := hG.1.lt h2
  have lt_h3 := hG.1.lt h3
  have lt_h4 := hG.1.lt h4
  refine lv_aload_n S.1 S.2.1 dX5_isSound_0 rfl (lv_at hl 0 rfl) ?_
  refine gx_get (C := RX5) (T := TX5) (N := 7) S hG h0 i_X5_isSound_X5 rfl 6 (by decide) (by decide +kernel) rfl dX5_isSound_1 ?_
  refine lv_iconst (v := 1) S.1 S.2.1 dX5_isSound_4 (by decide) ?_
  refine lv_icmp_lt (tgt := 36) S.1 S.2.1 dX5_isSound_5 (by decide) (fun c => absurd c (by decide)) (fun _ => ?_)
  refine lv_aload_n S.1 S.2.1 dX5_isSound_8 rfl (lv_at hl 0 rfl) ?_
  refine gx_get (C := RX5) (T := TX5) (N := 7) S hG h0 i_X5_isSound_X5 rfl 6 (by decide) (by decide +kernel) rfl dX5_isSound_9 ?_
  refine lv_bipush (v := 20) S.1 S.2.1 dX5_isSound_12 (by decide) ?_
  refine lv_icmp_gt (tgt := 36) S.1 S.2.1 dX5_isSound_14 (by decide) (fun c => absurd c (by decide)) (fun _ => ?_)
  refine lv_aload_n S.1 S.2.1 dX5_isSound_17 rfl (lv_at hl 0 rfl) ?_
  refine gx_get (C := RX5) (T := TX5) (N := 7) S hG h0 i_X5_isSound_X5 rfl 3 (by decide) (by decide +kernel) rfl dX5_isSound_18 ?_
  refine lv_iconst (v := 0) S.1 S.2.1 dX5_isSound_21 (by decide) ?_
  refine gx_iald (v := (-1)) S hG 0 h1 rfl (fin_l (by decide)) (by decide) dX5_isSound_22 ?_
  refine lv_iconst (v := (-1)) S.1 S.2.1 dX5_isSound_23 (by decide) ?_
  refine lv_icmp_ne (tgt := 36) S.1 S.2.1 dX5_isSound_24 (by decide) (fun c => absurd (by decide) c) (fun _ => ?_)
  refine lv_aload_n S.1 S.2.1 dX5_isSound_27 rfl (lv_at hl 0 rfl) ?_
  refine gx_get (C := RX5) (T := TX5) (N := 7) S hG h0 i_X5_isSound_X5 rfl 1 (by decide) (by decide +kernel) rfl dX5_isSound_28 ?_
  refine lv_iconst (v := 0) S.1 S.2.1 dX5_isSound_31 (by decide) ?_
  refine gx_iald (v := 0) S hG 0 h2 rfl (fin_l (by decide)) (by decide) dX5_isSound_32 ?_
  refine lv_if_eq (tgt := 38) S.1 S.2.1 dX5_isSound_33 (by decide) (fun _ => ?_) (fun c => absurd (by decide) c)
  refine lv_iconst (v := 0) S.1 S.2.1 dX5_isSound_38 (by decide) ?_
  refine lv_istore_n (lv' := [(1, .int 0), (0, .ref (N0 + 157))]) S.1 S.2.1 dX5_isSound_39 rfl hl (by decide) rfl (fun ls hl => ?_)
  refine lv_iload_n S.1 S.2.1 dX5_isSound_40 rfl (lv_at hl 0 rfl) ?_
  refine lv_aload_n S.1 S.2.1 dX5_isSound_41 rfl (lv_at hl 1 rfl) ?_
  refine gx_get (C := RX5) (T := TX5) (N := 7) S hG h0 i_X5_isSound_X5 rfl 6 (by decide) (by decide +kernel) rfl dX5_isSound_42 ?_
  refine lv_icmp_ge (tgt := 106) S.1 S.2.1 dX5_isSound_45 (by decide) (fun c => absurd c (by decide)) (fun _ => ?_)
  refine lv_aload_n S.1 S.2.1 dX5_isSound_48 rfl (lv_at hl 1 rfl) ?_
  refine gx_get (C := RX5) (T := TX5) (N := 7) S hG h0 i_X5_isSound_X5 rfl 0 (by decide) (by decide +kernel) rfl dX5_isSound_49 ?_
  refine lv_iload_n S.1 S.2.1 dX5_isSound_52 rfl (lv_at hl 0 rfl) ?_
  refine gx_cald (v := 97) S hG 1 h3 rfl (fin_l (by decide)) (by decide) dX5_isSound_53 ?_
  refine fx_cSNi (host := "TreeDiffer") (As := [.int 97]) (rest := []) S hG (k1574_X7_isLabel (by omega)) ⟨(va_cnB 1 S.2.2.2.2 gX5_isSound_X7_isLabel_n71 rfl rfl rfl (hG.nest (show _ ∈ fen2.2.2.1 from by decide)) (S.2.2.2.2 (.initialized RX7) (by decide +kernel)) (by decide +kernel) ⟨Nat.le_of_ble_eq_true rfl, Nat.le_of_ble_eq_true rfl⟩), S.2.2.2.2 (.static yX7_isLabel) (by decide +kernel), trivial⟩ rfl hl.1 rfl (Nat.le_of_ble_eq_true rfl) dX5_isSound_54 ⟨Nat.le_of_ble_eq_true rfl, Nat.le_of_ble_eq_true rfl⟩ (fun rv_1 _ H locs hp hG => ?_)
  subst rv_1
  refine lv_if_eq (tgt := 84) S.1 S.2.1 dX5_isSound_57 (by decide) (fun c => absurd c (by decide)) (fun _ => ?_)
  refine lv_aload_n S.1 S.2.1 dX5_isSound_60 rfl (lv_at hl 1 rfl) ?_
  refine gx_get (C := RX5) (T := TX5) (N := 7) S hG h0 i_X5_isSound_X5 rfl 1 (by decide) (by decide +kernel) rfl dX5_isSound_61 ?_
  refine lv_iload_n S.1 S.2.1 dX5_isSound_64 rfl (lv_at hl 0 rfl) ?_
  refine gx_iald (v := 0) S hG 0 h2 rfl (fin_l (by decide)) (by decide) dX5_isSound_65 ?_
  refine fx_cSNi (host := "TreeDiffer") (As := [.int 0]) (rest := []) S hG (k1575_X7_isKey (by omega)) ⟨(va_cnB 1 S.2.2.2.2 gX5_isSound_X7_isKey_n74 rfl rfl rfl (hG.nest (show _ ∈ fen2.2.2.1 from by decide)) (S.2.2.2.2 (.initialized RX7) (by decide +kernel)) (by decide +kernel) ⟨Nat.le_of_ble_eq_true rfl, Nat.le_of_ble_eq_true rfl⟩), S.2.2.2.2 (.static yX7_isKey) (by decide +kernel), trivial⟩ rfl hl.1 rfl (Nat.le_of_ble_eq_true rfl) dX5_isSound_66 ⟨Nat.le_of_ble_eq_true rfl, Nat.le_of_ble_eq_true rfl⟩ (fun rv_2 _ H locs hp hG => ?_)
  subst rv_2
  refine lv_if_eq (tgt := 84) S.1 S.2.1 dX5_isSound_69 (by decide) (fun c => absurd c (by decide)) (fun _ => ?_)
  refine lv_aload_n S.1 S.2.1 dX5_isSound_72 rfl (lv_at hl 1 rfl) ?_
  refine gx_get (C := RX5) (T := TX5) (N := 7) S hG h0 i_X5_isSound_X5 rfl 2 (by decide) (by decide +kernel) rfl dX5_isSound_73 ?_
  refine lv_iload_n S.1 S.2.1 dX5_isSound_76 rfl (lv_at hl 0 rfl) ?_
  refine gx_iald (v := 0) S hG 0 h4 rfl (fin_l (by decide)) (by decide) dX5_isSound_77 ?_
  refine fx_cSNi (host := "TreeDiffer") (As := [.int 0]) (rest := []) S hG (k1576_X7_isValue (by omega)) ⟨(va_cnB 1 S.2.2.2.2 gX5_isSound_X7_isValue_n77 rfl rfl rfl (hG.nest (show _ ∈ fen2.2.2.1 from by decide)) (S.2.2.2.2 (.initialized RX7) (by decide +kernel)) (by decide +kernel) ⟨Nat.le_of_ble_eq_true rfl, Nat.le_of_ble_eq_true rfl⟩), S.2.2.2.2 (.static yX7_isValue) (by decide +kernel), trivial⟩ rfl hl.1 rfl (Nat.le_of_ble_eq_true rfl) dX5_isSound_78 ⟨Nat.le_of_ble_eq_true rfl, Nat.le_of_ble_eq_true rfl⟩ (fun rv_3 _ H locs hp hG => ?_)
  subst rv_3
  refine lv_if_ne (tgt := 86) S.1 S.2.1 dX5_isSound_81 (by decide) (fun _ => ?_) (fun c => absurd c (by decide))
  refine lv_iload_n S.1 S.2.1 dX5_isSound_86 rfl (lv_at hl 0 rfl) ?_
  refine lv_if_le (tgt := 100) S.1 S.2.1 dX5_isSound_87 (by decide) (fun _ => ?_) (fun c => absurd (by decide) c)
  refine lv_iinc (v := 1) (lv' := [(1, .int 1), (0, .ref (N0 + 157))]) S.1 S.2.1 dX5_isSound_100 hl (k := 0) rfl (by decide) (by decide) rfl (fun ls hl => ?_)
  refine lv_goto (tgt := 40) S.1 S.2.1 dX5_isSound_103 (by decide) ?_
  refine lv_iload_n S.1 S.2.1 dX5_isSound_40 rfl (lv_at hl 0 rfl) ?_
  refine lv_aload_n S.1 S.2.1 dX5_isSound_41 rfl (lv_at hl 1 rfl) ?_
  refine gx_get (C := RX5) (T := TX5) (N := 7) S hG h0 i_X5_isSound_X5 rfl 6 (by decide) (by decide +kernel) rfl dX5_isSound_42 ?_
  refine lv_icmp_ge (tgt := 106) S.1 S.2.1 dX5_isSound_45 (by decide) (fun _ => ?_) (fun c => absurd (by decide) c)
  refine lv_iconst (v := 1) S.1 S.2.1 dX5_isSound_106 (by decide) ?_
  exact fx_zret S hr (rfl) hlocks () hG (rfl) dX5_isSound_107
theorem i_X4_isSound_X4 : ∀ w ∈ u_ws RX4 TX4 4, w ∈ wsX4_isSound := by decide +kernel
theorem k1580_X4_isSound {n : Nat} (hn : N0 + 231 ≤ n) (h0 : F (N0 + 2) = some (.inr (6, [.ref (N0 + 3), .int 0, .int 0, .ref (N0 + 4)]))) : Met l yX4_isSound wsX4_isSound ({ frames := 0, cells := 0, slots := 0, locals := 0 }) (va_Pc [.ref (N0 + 2)] (fP N0 D vwCl (fty cI cC cL cD cII cTr cTm cIt cB) (fen ql) F n)) (fQi N0 D vwCl (fty cI cC cL cD cII cTr cTm cIt cB) (fun (r : Int32) (_ : Unit) => r = 1) (fun _ => F) (fun _ => n)) 0 0 (fA N0) := by
  refine fx_start 1 rfl rfl (Nat.le_of_ble_eq_true rfl) ?_ rfl
  intro p e s m below meth c ls S hr hlocks hin hG hl
  have hl : lv_has ls 1 [(0, .ref (N0 + 2))] := hl
  have lt_h0 := hG.1.lt h0
  refine lv_aload_n S.1 S.2.1 dX4_isSound_0 rfl (lv_at hl 0 rfl) ?_
  refine gx_get (C := RX4) (T := TX4) (N := 4) S hG h0 i_X4_isSound_X4 rfl 1 (by decide) (by decide +kernel) rfl dX4_isSound_1 ?_
  refine lv_if_lt (tgt := 20) S.1 S.2.1 dX4_isSound_4 (by decide) (fun c => absurd c (by decide)) (fun _ => ?_)
  refine lv_aload_n S.1 S.2.1 dX4_isSound_7 rfl (lv_at hl 0 rfl) ?_
  refine gx_get (C := RX4) (T := TX4) (N := 4) S hG h0 i_X4_isSound_X4 rfl 1 (by decide) (by decide +kernel) rfl dX4_isSound_8 ?_
  refine lv_bipush (v := 80) S.1 S.2.1 dX4_isSound_11 (by decide) ?_
  refine lv_icmp_gt (tgt := 20) S.1 S.2.1 dX4_isSound_13 (by decide) (fun c => absurd c (by decide)) (fun _ => ?_)
  refine lv_iconst (v := 1) S.1 S.2.1 dX4_isSound_16 (by decide) ?_
  refine lv_goto (tgt := 21) S.1 S.2.1 dX4_isSound_17 (by decide) ?_
  exact fx_zret S hr (rfl) hlocks () hG (rfl) dX4_isSound_21
theorem i_X0_isSound_X0 : ∀ w ∈ u_ws RX0 TX0 2, w ∈ wsX0_isSound := by decide +kernel
theorem k1581_X0_isSound {n : Nat} (hn : N0 + 231 ≤ n) (h0 : F (N0 + 11) = some (.inr (2, [.ref (N0 + 12), .int 0]))) : Met l yX0_isSound wsX0_isSound ({ frames := 0, cells := 0, slots := 0, locals := 0 }) (va_Pc [.ref (N0 + 11)] (fP N0 D vwCl (fty cI cC cL cD cII cTr cTm cIt cB) (fen ql) F n)) (fQi N0 D vwCl (fty cI cC cL cD cII cTr cTm cIt cB) (fun (r : Int32) (_ : Unit) => r = 1) (fun _ => F) (fun _ => n)) 0 0 (fA N0) := by
  refine fx_start 1 rfl rfl (Nat.le_of_ble_eq_true rfl) ?_ rfl
  intro p e s m below meth c ls S hr hlocks hin hG hl
  have hl : lv_has ls 1 [(0, .ref (N0 + 11))] := hl
  have lt_h0 := hG.1.lt h0
  refine lv_aload_n S.1 S.2.1 dX0_isSound_0 rfl (lv_at hl 0 rfl) ?_
  refine gx_get (C := RX0) (T := TX0) (N := 2) S hG h0 i_X0_isSound_X0 rfl 1 (by decide) (by decide +kernel) rfl dX0_isSound_1 ?_
  refine lv_if_lt (tgt := 21) S.1 S.2.1 dX0_isSound_4 (by decide) (fun c => absurd c (by decide)) (fun _ => ?_)
  refine lv_aload_n S.1 S.2.1 dX0_isSound_7 rfl (lv_at hl 0 rfl) ?_
  refine gx_get (C := RX0) (T := TX0) (N := 2) S hG h0 i_X0_isSound_X0 rfl 1 (by decide) (by decide +kernel) rfl dX0_isSound_8 ?_
  refine lv_sipush (v := 160) S.1 S.2.1 dX0_isSound_11 (by decide) ?_
  refine lv_icmp_gt (tgt := 21) S.1 S.2.1 dX0_isSound_14 (by decide) (fun c => absurd c (by decide)) (fun _ => ?_)
  refine lv_iconst (v := 1) S.1 S.2.1 dX0_isSound_17 (by decide) ?_
  refine lv_goto (tgt := 22) S.1 S.2.1 dX0_isSound_18 (by decide) ?_
  exact fx_zret S hr (rfl) hlocks () hG (rfl) dX0_isSound_22
theorem i_X3_isSound_X3 : ∀ w ∈ u_ws RX3 TX3 9, w ∈ wsX3_isSound := by decide +kernel
theorem k1582_X3_isSound {n : Nat} (hn : N0 + 231 ≤ n) (h0 : F (N0 + 65) = some (.inr (5, [.int 0, .ref (N0 + 66), .ref (N0 + 73), .ref (N0 + 80), .ref (N0 + 81), .ref (N0 + 82), .ref (N0 + 83), .ref (N0 + 84), .int 0]))) : Met l yX3_isSound wsX3_isSound ({ frames := 0, cells := 0, slots := 0, locals := 0 }) (va_Pc [.ref (N0 + 65)] (fP N0 D vwCl (fty cI cC cL cD cII cTr cTm cIt cB) (fen ql) F n)) (fQi N0 D vwCl (fty cI cC cL cD cII cTr cTm cIt cB) (fun (r : Int32) (_ : Unit) => r = 1) (fun _ => F) (fun _ => n)) 0 0 (fA N0) := by
  refine fx_start 1 rfl rfl (Nat.le_of_ble_eq_true rfl) ?_ rfl
  intro p e s m below meth c ls S hr hlocks hin hG hl
  have hl : lv_has ls 1 [(0, .ref (N0 + 65))] := hl
  have lt_h0 := hG.1.lt h0
  refine lv_aload_n S.1 S.2.1 dX3_isSound_0 rfl (lv_at hl 0 rfl) ?_
  refine gx_get (C := RX3) (T := TX3) (N := 9) S hG h0 i_X3_isSound_X3 rfl 0 (by decide) (by decide +kernel) rfl dX3_isSound_1 ?_
  refine lv_if_ne (tgt := 20) S.1 S.2.1 dX3_isSound_4 (by decide) (fun c => absurd (by decide) c) (fun _ => ?_)
  refine lv_aload_n S.1 S.2.1 dX3_isSound_7 rfl (lv_at hl 0 rfl) ?_
  refine gx_get (C := RX3) (T := TX3) (N := 9) S hG h0 i_X3_isSound_X3 rfl 8 (by decide) (by decide +kernel) rfl dX3_isSound_8 ?_
  refine lv_if_ne (tgt := 18) S.1 S.2.1 dX3_isSound_11 (by decide) (fun c => absurd (by decide) c) (fun _ => ?_)
  refine lv_iconst (v := 1) S.1 S.2.1 dX3_isSound_14 (by decide) ?_
  refine lv_goto (tgt := 19) S.1 S.2.1 dX3_isSound_15 (by decide) ?_
  exact fx_zret S hr (rfl) hlocks () hG (rfl) dX3_isSound_19
theorem i_X7_isConsistent_X7 : ∀ w ∈ u_ws RX7 TX7 10, w ∈ wsX7_isConsistent := by decide +kernel
theorem k1583_X7_isConsistent {n : Nat} (hn : N0 + 231 ≤ n) (h0 : F N0 = some (.inr (9, [.ref (N0 + 1), .ref (N0 + 2), .ref (N0 + 11), .ref (N0 + 13), .ref (N0 + 63), .ref (N0 + 65), .ref (N0 + 85), .int (-1), .int (-1), .int 32]))) (h1 : F (N0 + 1) = some (.inl (cTr, 3, .inr (.inr (.inr (.inr (va_up (va_up (va_up (fun _ => none) 0 (some (N0 + 143))) 1 (some (N0 + 150))) 2 (some (N0 + 157))))))))) (h2 : F (N0 + 143) = some (.inr (7, [.ref (N0 + 144), .ref (N0 + 145), .ref (N0 + 146), .ref (N0 + 147), .ref (N0 + 148), .ref (N0 + 149), .int 1]))) (h3 : F (N0 + 147) = some (.inl (cI, 20, .inl (upd (fun _ => 0) 0 (-1))))) (h4 : F (N0 + 145) = some (.inl (cI, 20, .inl (fun _ => 0)))) (h5 : F (N0 + 144) = some (.inl (cC, 20, .inl (upd (fun _ => 0) 0 97)))) (h6 : F (N0 + 146) = some (.inl (cI, 20, .inl (fun _ => 0)))) (h7 : F (N0 + 150) = some (.inr (7, [.ref (N0 + 151), .ref (N0 + 152), .ref (N0 + 153), .ref (N0 + 154), .ref (N0 + 155), .ref (N0 + 156), .int 1]))) (h8 : F (N0 + 154) = some (.inl (cI, 20, .inl (upd (fun _ => 0) 0 (-1))))) (h9 : F (N0 + 152) = some (.inl (cI, 20, .inl (fun _ => 0)))) (h10 : F (N0 + 151) = some (.inl (cC, 20, .inl (upd (fun _ => 0) 0 97)))) (h11 : F (N0 + 153) = some (.inl (cI, 20, .inl (fun _ => 0)))) (h12 : F (N0 + 157) = some (.inr (7, [.ref (N0 + 158), .ref (N0 + 159), .ref (N0 + 160), .ref (N0 + 161), .ref (N0 + 162), .ref (N0 + 163), .int 1]))) (h13 : F (N0 + 161) = some (.inl (cI, 20, .inl (upd (fun _ => 0) 0 (-1))))) (h14 : F (N0 + 159) = some (.inl (cI, 20, .inl (fun _ => 0)))) (h15 : F (N0 + 158) = some (.inl (cC, 20, .inl (upd (fun _ => 0) 0 97)))) (h16 : F (N0 + 160) = some (.inl (cI, 20, .inl (fun _ => 0)))) (h17 : F (N0 + 2) = some (.inr (6, [.ref (N0 + 3), .int 0, .int 0, .ref (N0 + 4)]))) (h18 : F (N0 + 11) = some (.inr (2, [.ref (N0 + 12), .int 0]))) (h19 : F (N0 + 65) = some (.inr (5, [.int 0, .ref (N0 + 66), .ref (N0 + 73), .ref (N0 + 80), .ref (N0 + 81), .ref (N0 + 82), .ref (N0 + 83), .ref (N0 + 84), .int 0]))) : Met l yX7_isConsistent wsX7_isConsistent ({ frames := 2, cells := 0, slots := 0, locals := 41 }) (va_Pc [.ref N0] (fP N0 D vwCl (fty cI cC cL cD cII cTr cTm cIt cB) (fen ql) F n)) (fQi N0 D vwCl (fty cI cC cL cD cII cTr cTm cIt cB) (fun (r : Int32) (_ : Unit) => r = 1) (fun _ => F) (fun _ => n)) 0 0 (fA N0) := by
  refine fx_start 2 rfl rfl (Nat.le_of_ble_eq_true rfl) ?_ rfl
  intro p e s m below meth c ls S hr hlocks hin hG hl
  have hl : lv_has ls 2 [(0, .ref N0)] := hl
  have lt_h0 := hG.1.lt h0
  have lt_h1 := hG.1.lt h1
  have lt_h2 := hG.1.lt h2
  have lt_h3 := hG.1.lt h3
  have lt_h4 := hG.1.lt h4
  have lt_h5 := hG.1.lt h5
  have lt_h6 := hG.1.lt h6
  have lt_h7 := hG.1.lt h7
  have lt_h8 := hG.1.lt h8
  have lt_h9 := hG.1.lt h9
  have lt_h10 := hG.1.lt h10
  have lt_h11 := hG.1.lt h11
  have lt_h12 := hG.1.lt h12
  have lt_h13 := hG.1.lt h13
  have lt_h14 := hG.1.lt h14
  have lt_h15 := hG.1.lt h15
  have lt_h16 := hG.1.lt h16
  have lt_h17 := hG.1.lt h17
  have lt_h18 := hG.1.lt h18
  have lt_h19 := hG.1.lt h19
  refine lv_iconst (v := 0) S.1 S.2.1 dX7_isConsistent_0 (by decide) ?_
  refine lv_istore_n (lv' := [(1, .int 0), (0, .ref N0)]) S.1 S.2.1 dX7_isConsistent_1 rfl hl (by decide) rfl (fun ls hl => ?_)
  refine lv_iload_n S.1 S.2.1 dX7_isConsistent_2 rfl (lv_at hl 0 rfl) ?_
  refine lv_iconst (v := 3) S.1 S.2.1 dX7_isConsistent_3 (by decide) ?_
  refine lv_icmp_ge (tgt := 27) S.1 S.2.1 dX7_isConsistent_4 (by decide) (fun c => absurd c (by decide)) (fun _ => ?_)
  refine lv_aload_n S.1 S.2.1 dX7_isConsistent_7 rfl (lv_at hl 1 rfl) ?_
  refine gx_get (C := RX7) (T := TX7) (N := 10) S hG h0 i_X7_isConsistent_X7 rfl 0 (by decide) (by decide +kernel) rfl dX7_isConsistent_8 ?_
  refine lv_iload_n S.1 S.2.1 dX7_isConsistent_11 rfl (lv_at hl 0 rfl) ?_
  refine gx_aldq (x := (N0 + 143)) S hG 5 rfl h1 rfl (fin_l (by decide)) (rfl) dX7_isConsistent_12 ?_
  refine fx_cVi (As := []) (rest := []) S hG (k1577_X5_isSound (by omega) h2 h3 h4 h5 h6) h2 rfl (cwV 0 S.2.2.2.2 gX7_isConsistent_X5_isSound rfl rfl rfl (by decide +kernel) ⟨Nat.le_of_ble_eq_true rfl, Nat.le_of_ble_eq_true rfl⟩) rfl hl.1 rfl (Nat.le_of_ble_eq_true rfl) dX7_isConsistent_13 ⟨Nat.le_of_ble_eq_true rfl, Nat.le_of_ble_eq_true rfl⟩ (fun rv_1 _ H locs hp hG => ?_)
  subst rv_1
  refine lv_if_ne (tgt := 21) S.1 S.2.1 dX7_isConsistent_16 (by decide) (fun _ => ?_) (fun c => absurd c (by decide))
  refine lv_iinc (v := 1) (lv' := [(1, .int 1), (0, .ref N0)]) S.1 S.2.1 dX7_isConsistent_21 hl (k := 0) rfl (by decide) (by decide) rfl (fun ls hl => ?_)
  refine lv_goto (tgt := 2) S.1 S.2.1 dX7_isConsistent_24 (by decide) ?_
  refine lv_iload_n S.1 S.2.1 dX7_isConsistent_2 rfl (lv_at hl 0 rfl) ?_
  refine lv_iconst (v := 3) S.1 S.2.1 dX7_isConsistent_3 (by decide) ?_
  refine lv_icmp_ge (tgt := 27) S.1 S.2.1 dX7_isConsistent_4 (by decide) (fun c => absurd c (by decide)) (fun _ => ?_)
  refine lv_aload_n S.1 S.2.1 dX7_isConsistent_7 rfl (lv_at hl 1 rfl) ?_
  refine gx_get (C := RX7) (T := TX7) (N := 10) S hG h0 i_X7_isConsistent_X7 rfl 0 (by decide) (by decide +kernel) rfl dX7_isConsistent_8 ?_
  refine lv_iload_n S.1 S.2.1 dX7_isConsistent_11 rfl (lv_at hl 0 rfl) ?_
  refine gx_aldq (x := (N0 + 150)) S hG 5 rfl h1 rfl (fin_l (by decide)) (rfl) dX7_isConsistent_12 ?_
  refine fx_cVi (As := []) (rest := []) S hG (k1578_X5_isSound (by omega) h7 h8 h9 h10 h11) h7 rfl (cwV 0 S.2.2.2.2 gX7_isConsistent_X5_isSound rfl rfl rfl (by decide +kernel) ⟨Nat.le_of_ble_eq_true rfl, Nat.le_of_ble_eq_true rfl⟩) rfl hl.1 rfl (Nat.le_of_ble_eq_true rfl) dX7_isConsistent_13 ⟨Nat.le_of_ble_eq_true rfl, Nat.le_of_ble_eq_true rfl⟩ (fun rv_2 _ H locs hp hG => ?_)
  subst rv_2
  refine lv_if_ne (tgt := 21) S.1 S.2.1 dX7_isConsistent_16 (by decide) (fun _ => ?_) (fun c => absurd c (by decide))
  refine lv_iinc (v := 2) (lv' := [(1, .int 2), (0, .ref N0)]) S.1 S.2.1 dX7_isConsistent_21 hl (k := 0) rfl (by decide) (by decide) rfl (fun ls hl => ?_)
  refine lv_goto (tgt := 2) S.1 S.2.1 dX7_isConsistent_24 (by decide) ?_
  refine lv_iload_n S.1 S.2.1 dX7_isConsistent_2 rfl (lv_at hl 0 rfl) ?_
  refine lv_iconst (v := 3) S.1 S.2.1 dX7_isConsistent_3 (by decide) ?_
  refine lv_icmp_ge (tgt := 27) S.1 S.2.1 dX7_isConsistent_4 (by decide) (fun c => absurd c (by decide)) (fun _ => ?_)
  refine lv_aload_n S.1 S.2.1 dX7_isConsistent_7 rfl (lv_at hl 1 rfl) ?_
  refine gx_get (C := RX7) (T := TX7) (N := 10) S hG h0 i_X7_isConsistent_X7 rfl 0 (by decide) (by decide +kernel) rfl dX7_isConsistent_8 ?_
  refine lv_iload_n S.1 S.2.1 dX7_isConsistent_11 rfl (lv_at hl 0 rfl) ?_
  refine gx_aldq (x := (N0 + 157)) S hG 5 rfl h1 rfl (fin_l (by decide)) (rfl) dX7_isConsistent_12 ?_
  refine fx_cVi (As := []) (rest := []) S hG (k1579_X5_isSound (by omega) h12 h13 h14 h15 h16) h12 rfl (cwV 0 S.2.2.2.2 gX7_isConsistent_X5_isSound rfl rfl rfl (by decide +kernel) ⟨Nat.le_of_ble_eq_true rfl, Nat.le_of_ble_eq_true rfl⟩) rfl hl.1 rfl (Nat.le_of_ble_eq_true rfl) dX7_isConsistent_13 ⟨Nat.le_of_ble_eq_true rfl, Nat.le_of_ble_eq_true rfl⟩ (fun rv_3 _ H locs hp hG => ?_)
  subst rv_3
  refine lv_if_ne (tgt := 21) S.1 S.2.1 dX7_isConsistent_16 (by decide) (fun _ => ?_) (fun c => absurd c (by decide))
  refine lv_iinc (v := 3) (lv' := [(1, .int 3), (0, .ref N0)]) S.1 S.2.1 dX7_isConsistent_21 hl (k := 0) rfl (by decide) (by decide) rfl (fun ls hl => ?_)
  refine lv_goto (tgt := 2) S.1 S.2.1 dX7_isConsistent_24 (by decide) ?_
  refine lv_iload_n S.1 S.2.1 dX7_isConsistent_2 rfl (lv_at hl 0 rfl) ?_
  refine lv_iconst (v := 3) S.1 S.2.1 dX7_isConsistent_3 (by decide) ?_
  refine lv_icmp_ge (tgt := 27) S.1 S.2.1 dX7_isConsistent_4 (by decide) (fun _ => ?_) (fun c => absurd (by decide) c)
  refine lv_aload_n S.1 S.2.1 dX7_isConsistent_27 rfl (lv_at hl 1 rfl) ?_
  refine gx_get (C := RX7) (T := TX7) (N := 10) S hG h0 i_X7_isConsistent_X7 rfl 1 (by decide) (by decide +kernel) rfl dX7_isConsistent_28 ?_
  refine fx_cVi (As := []) (rest := []) S hG (k1580_X4_isSound (by omega) h17) h17 rfl (cwV 0 S.2.2.2.2 gX7_isConsistent_X4_isSound rfl rfl rfl (by decide +kernel) ⟨Nat.le_of_ble_eq_true rfl, Nat.le_of_ble_eq_true rfl⟩) rfl hl.1 rfl (Nat.le_of_ble_eq_true rfl) dX7_isConsistent_31 ⟨Nat.le_of_ble_eq_true rfl, Nat.le_of_ble_eq_true rfl⟩ (fun rv_4 _ H locs hp hG => ?_)
  subst rv_4
  refine lv_if_eq (tgt := 61) S.1 S.2.1 dX7_isConsistent_34 (by decide) (fun c => absurd c (by decide)) (fun _ => ?_)
  refine lv_aload_n S.1 S.2.1 dX7_isConsistent_37 rfl (lv_at hl 1 rfl) ?_
  refine gx_get (C := RX7) (T := TX7) (N := 10) S hG h0 i_X7_isConsistent_X7 rfl 2 (by decide) (by decide +kernel) rfl dX7_isConsistent_38 ?_
  refine fx_cVi (As := []) (rest := []) S hG (k1581_X0_isSound (by omega) h18) h18 rfl (cwV 0 S.2.2.2.2 gX7_isConsistent_X0_isSound rfl rfl rfl (by decide +kernel) ⟨Nat.le_of_ble_eq_true rfl, Nat.le_of_ble_eq_true rfl⟩) rfl hl.1 rfl (Nat.le_of_ble_eq_true rfl) dX7_isConsistent_41 ⟨Nat.le_of_ble_eq_true rfl, Nat.le_of_ble_eq_true rfl⟩ (fun rv_5 _ H locs hp hG => ?_)
  subst rv_5
  refine lv_if_eq (tgt := 61) S.1 S.2.1 dX7_isConsistent_44 (by decide) (fun c => absurd c (by decide)) (fun _ => ?_)
  refine lv_aload_n S.1 S.2.1 dX7_isConsistent_47 rfl (lv_at hl 1 rfl) ?_
  refine gx_get (C := RX7) (T := TX7) (N := 10) S hG h0 i_X7_isConsistent_X7 rfl 5 (by decide) (by decide +kernel) rfl dX7_isConsistent_48 ?_
  refine fx_cVi (As := []) (rest := []) S hG (k1582_X3_isSound (by omega) h19) h19 rfl (cwV 0 S.2.2.2.2 gX7_isConsistent_X3_isSound rfl rfl rfl (by decide +kernel) ⟨Nat.le_of_ble_eq_true rfl, Nat.le_of_ble_eq_true rfl⟩) rfl hl.1 rfl (Nat.le_of_ble_eq_true rfl) dX7_isConsistent_51 ⟨Nat.le_of_ble_eq_true rfl, Nat.le_of_ble_eq_true rfl⟩ (fun rv_6 _ H locs hp hG => ?_)
  subst rv_6
  refine lv_if_eq (tgt := 61) S.1 S.2.1 dX7_isConsistent_54 (by decide) (fun c => absurd c (by decide)) (fun _ => ?_)
  refine lv_iconst (v := 1) S.1 S.2.1 dX7_isConsistent_57 (by decide) ?_
  refine lv_goto (tgt := 62) S.1 S.2.1 dX7_isConsistent_58 (by decide) ?_
  exact fx_zret S hr (rfl) hlocks () hG (rfl) dX7_isConsistent_62
theorem i_X10_isConsistent_X10 : ∀ w ∈ u_ws RX10 TX10 31, w ∈ wsX10_isConsistent := by decide +kernel
theorem k1584_X10_isConsistent {n : Nat} (hn : N0 + 231 ≤ n) (h0 : F (N0 + 164) = some (.inr (12, [.ref (N0 + 165), .int 0, .ref (N0 + 181), .int 0, .int 0, .int 0, .int (-1), .ref (ql 24), .ref (N0 + 182), .ref (N0 + 187), .ref (N0 + 208), .ref (N0 + 209), .ref (N0 + 210), .ref (N0 + 211), .ref (N0 + 212), .int 0, .ref (N0 + 213), .ref (N0 + 218), .ref (N0 + 223), .ref (N0 + 224), .ref (N0 + 225), .ref (N0 + 226), .ref (N0 + 227), .int 0, .int 0, .ref (N0 + 228), .null, .int (-1), .int 0, .int 0, .int 0]))) : Met l yX10_isConsistent wsX10_isConsistent ({ frames := 0, cells := 0, slots := 0, locals := 0 }) (va_Pc [.ref (N0 + 164)] (fP N0 D vwCl (fty cI cC cL cD cII cTr cTm cIt cB) (fen ql) F n)) (fQi N0 D vwCl (fty cI cC cL cD cII cTr cTm cIt cB) (fun (r : Int32) (_ : Unit) => r = 1) (fun _ => (fu F (N0 + 164) (.inr (12, [.ref (N0 + 165), .int 0, .ref (N0 + 181), .int 0, .int 0, .int 0, .int (-1), .ref (ql 24), .ref (N0 + 182), .ref (N0 + 187), .ref (N0 + 208), .ref (N0 + 209), .ref (N0 + 210), .ref (N0 + 211), .ref (N0 + 212), .int 0, .ref (N0 + 213), .ref (N0 + 218), .ref (N0 + 223), .ref (N0 + 224), .ref (N0 + 225), .ref (N0 + 226), .ref (N0 + 227), .int 0, .int 0, .ref (N0 + 228), .null, .int (-1), .int 0, .int 0, .int 0])))) (fun _ => n)) 0 0 (fA N0) := by
  refine fx_start 1 rfl rfl (Nat.le_of_ble_eq_true rfl) ?_ rfl
  intro p e s m below meth c ls S hr hlocks hin hG hl
  have hl : lv_has ls 1 [(0, .ref (N0 + 164))] := hl
  have lt_h0 := hG.1.lt h0
  refine lv_aload_n S.1 S.2.1 dX10_isConsistent_0 rfl (lv_at hl 0 rfl) ?_
  refine lv_iconst (v := 0) S.1 S.2.1 dX10_isConsistent_1 (by decide) ?_
  refine gx_put (C := RX10) (T := TX10) (N := 31) (ty := .int) (v := .int 0) (fs' := [.ref (N0 + 165), .int 0, .ref (N0 + 181), .int 0, .int 0, .int 0, .int (-1), .ref (ql 24), .ref (N0 + 182), .ref (N0 + 187), .ref (N0 + 208), .ref (N0 + 209), .ref (N0 + 210), .ref (N0 + 211), .ref (N0 + 212), .int 0, .ref (N0 + 213), .ref (N0 + 218), .ref (N0 + 223), .ref (N0 + 224), .ref (N0 + 225), .ref (N0 + 226), .ref (N0 + 227), .int 0, .int 0, .ref (N0 + 228), .null, .int (-1), .int 0, .int 0, .int 0]) S hG h0 i_X10_isConsistent_X10 rfl 1 (by decide) tyX10 tyX10_ok nmX10 (by decide +kernel) rfl (by decide +kernel) rfl rfl (Nat.le_of_ble_eq_true rfl) rfl dX10_isConsistent_2 (fun H locs hG => ?_)
  refine lv_iconst (v := 1) S.1 S.2.1 dX10_isConsistent_5 (by decide) ?_
  exact fx_zret S hr (rfl) hlocks () hG (rfl) dX10_isConsistent_6
theorem l38_0 {p : Program} {e : Env} {s : State} {m : MethodId} {below : List Frame} {meth : Method} {c : Code} {b : Nat} {xs : Nat → Int32} {H : Heap} {locs : List Loc} {ls : Array Slot} {n : Nat} {a1 a2 a3 a4 : Int32} (S : CallFix p m c cL_law 9 s #[.ref b] wsL_law "TreeDifferLaw") (hr : meth.sig.returnType = ret) (hlocks : meth.locks = false) (hst : l.stackTraces = false) (hX : va_X b 5 xs s s.heap) (hbl : b < s.heap.size ∧ b < N0) (hN : s.heap.size = N0) (hn : N0 + 231 ≤ n) (hx1 : xs 1 = a1) (hx2 : xs 2 = a2) (hx3 : xs 3 = a3) (hx4 : xs 4 = a4) (h0 : F N0 = some (.inr (9, [.ref (N0 + 1), .ref (N0 + 2), .ref (N0 + 11), .ref (N0 + 13), .ref (N0 + 63), .ref (N0 + 65), .ref (N0 + 85), .int (-1), .int (-1), .int 32]))) (h1 : F (N0 + 1) = some (.inl (cTr, 3, .inr (.inr (.inr (.inr (va_up (va_up (va_up (fun _ => none) 0 (some (N0 + 143))) 1 (some (N0 + 150))) 2 (some (N0 + 157))))))))) (h2 : F (N0 + 143) = some (.inr (7, [.ref (N0 + 144), .ref (N0 + 145), .ref (N0 + 146), .ref (N0 + 147), .ref (N0 + 148), .ref (N0 + 149), .int 1]))) (h3 : F (N0 + 147) = some (.inl (cI, 20, .inl (upd (fun _ => 0) 0 (-1))))) (h4 : F (N0 + 145) = some (.inl (cI, 20, .inl (fun _ => 0)))) (h5 : F (N0 + 144) = some (.inl (cC, 20, .inl (upd (fun _ => 0) 0 97)))) (h6 : F (N0 + 146) = some (.inl (cI, 20, .inl (fun _ => 0)))) (h7 : F (N0 + 150) = some (.inr (7, [.ref (N0 + 151), .ref (N0 + 152), .ref (N0 + 153), .ref (N0 + 154), .ref (N0 + 155), .ref (N0 + 156), .int 1]))) (h8 : F (N0 + 154) = some (.inl (cI, 20, .inl (upd (fun _ => 0) 0 (-1))))) (h9 : F (N0 + 152) = some (.inl (cI, 20, .inl (fun _ => 0)))) (h10 : F (N0 + 151) = some (.inl (cC, 20, .inl (upd (fun _ => 0) 0 97)))) (h11 : F (N0 + 153) = some (.inl (cI, 20, .inl (fun _ => 0)))) (h12 : F (N0 + 157) = some (.inr (7, [.ref (N0 + 158), .ref (N0 + 159), .ref (N0 + 160), .ref (N0 + 161), .ref (N0 + 162), .ref (N0 + 163), .int 1]))) (h13 : F (N0 + 161) = some (.inl (cI, 20, .inl (upd (fun _ => 0) 0 (-1))))) (h14 : F (N0 + 159) = some (.inl (cI, 20, .inl (fun _ => 0)))) (h15 : F (N0 + 158) = some (.inl (cC, 20, .inl (upd (fun _ => 0) 0 97)))) (h16 : F (N0 + 160) = some (.inl (cI, 20, .inl (fun _ => 0)))) (h17 : F (N0 + 2) = some (.inr (6, [.ref (N0 + 3), .int 0, .int 0, .ref (N0 + 4)]))) (h18 : F (N0 + 11) = some (.inr (2, [.ref (N0 + 12), .int 0]))) (h19 : F (N0 + 65) = some (.inr (5, [.int 0, .ref (N0 + 66), .ref (N0 + 73), .ref (N0 + 80), .ref (N0 + 81), .ref (N0 + 82), .ref (N0 + 83), .ref (N0 + 84), .int 0]))) (h20 : F (N0 + 164) = some (.inr (12, [.ref (N0 + 165), .int 0, .ref (N0 + 181), .int 0, .int 0, .int 0, .int (-1), .ref (ql 24), .ref (N0 + 182), .ref (N0 + 187), .ref (N0 + 208), .ref (N0 + 209), .ref (N0 + 210), .ref (N0 + 211), .ref (N0 + 212), .int 0, .ref (N0 + 213), .ref (N0 + 218), .ref (N0 + 223), .ref (N0 + 224), .ref (N0 + 225), .ref (N0 + 226), .ref (N0 + 227), .int 0, .int 0, .ref (N0 + 228), .null, .int (-1), .int 0, .int 0, .int 0]))) (hG : fG N0 D vwCl (fty cI cC cL cD cII cTr cTm cIt cB) (fen ql) s F n H locs) (hl : lv_has ls 9 [(0, .ref b), (1, .ref N0), (2, .ref (N0 + 164)), (3, .ref (N0 + 229)), (4, .ref (N0 + 230)), (5, .int 0)]) : W p l e { frames := 2048, cells := 600002, slots := 7302232, locals := 84000 } s m #[.ref b] below meth c H locs 231 4980 (lw_Z below #[.ref b] s) (F0 m 2637 ls []) := by
  have lt_h0 := hG.1.lt h0
  have lt_h1 := hG.1.lt h1
  have lt_h2 := hG.1.lt h2
  have lt_h3 := hG.1.lt h3
  have lt_h4 := hG.1.lt h4
  have lt_h5 := hG.1.lt h5
  have lt_h6 := hG.1.lt h6
  have lt_h7 := hG.1.lt h7
  have lt_h8 := hG.1.lt h8
  have lt_h9 := hG.1.lt h9
  have lt_h10 := hG.1.lt h10
  have lt_h11 := hG.1.lt h11
  have lt_h12 := hG.1.lt h12
  have lt_h13 := hG.1.lt h13
  have lt_h14 := hG.1.lt h14
  have lt_h15 := hG.1.lt h15
  have lt_h16 := hG.1.lt h16
  have lt_h17 := hG.1.lt h17
  have lt_h18 := hG.1.lt h18
  have lt_h19 := hG.1.lt h19
  have lt_h20 := hG.1.lt h20
  refine lv_aload_n S.1 S.2.1 dL_law_2637 rfl (lv_at hl 1 rfl) ?_
  refine fx_cVi (As := []) (rest := []) S hG (k1583_X7_isConsistent (by omega) h0 h1 h2 h3 h4 h5 h6 h7 h8 h9 h10 h11 h12 h13 h14 h15 h16 h17 h18 h19) h0 rfl (cwV 0 S.2.2.2.2 gL_law_X7_isConsistent rfl rfl rfl (by decide +kernel) ⟨Nat.le_of_ble_eq_true rfl, Nat.le_of_ble_eq_true rfl⟩) rfl hl.1 rfl (Nat.le_of_ble_eq_true rfl) dL_law_2638 ⟨Nat.le_of_ble_eq_true rfl, Nat.le_of_ble_eq_true rfl⟩ (fun rv_1 _ H locs hp hG => ?_)
  subst rv_1
  refine lv_aload_n S.1 S.2.1 dL_law_2641 rfl (lv_at hl 2 rfl) ?_
  refine fx_cVi (As := []) (rest := [.int 1]) S hG (k1584_X10_isConsistent (by omega) h20) h20 rfl (cwV 0 S.2.2.2.2 gL_law_X10_isConsistent rfl rfl rfl (by decide +kernel) ⟨Nat.le_of_ble_eq_true rfl, Nat.le_of_ble_eq_true rfl⟩) rfl hl.1 rfl (Nat.le_of_ble_eq_true rfl) dL_law_2642 ⟨Nat.le_of_ble_eq_true rfl, Nat.le_of_ble_eq_true rfl⟩ (fun rv_2 _ H locs hp hG => ?_)
  subst rv_2
  refine lv_icmp_eq (tgt := 2650) S.1 S.2.1 dL_law_2645 (by decide) (fun _ => ?_) (fun c => absurd (by decide) c)
  refine lv_iinc (v := 5) (lv' := [(5, .int 5), (0, .ref b), (1, .ref N0), (2, .ref (N0 + 164)), (3, .ref (N0 + 229)), (4, .ref (N0 + 230))]) S.1 S.2.1 dL_law_2650 hl (k := 5) rfl (by decide) (by decide) rfl (fun ls hl => ?_)
  refine lv_goto (tgt := 28) S.1 S.2.1 dL_law_2653 (by decide) ?_
  refine lv_iload S.1 S.2.1 dL_law_28 (lv_at hl 0 rfl) ?_
  refine lv_aload_n S.1 S.2.1 dL_law_30 rfl (lv_at hl 1 rfl) ?_
  refine gx_slen (v := 5) S hG hX hbl rfl dL_law_31 ?_
  refine lv_iconst (v := 5) S.1 S.2.1 dL_law_32 (by decide) ?_
  refine lv_isub S.1 S.2.1 dL_law_33 ?_
  refine fx_topi (y := 0) (by decide) ?_
  refine lv_icmp_gt (tgt := 2656) S.1 S.2.1 dL_law_34 (by decide) (fun _ => ?_) (fun c => absurd (by decide) c)
  refine lv_iconst (v := 1) S.1 S.2.1 dL_law_2656 (by decide) ?_
  refine va_forget (fun q hq => by rw [hN]; exact hG.2.1.2.2 q hq) ?_
  refine W.widen (k := 600002) (n := 7302232) (by decide) (by decide) ?_
  exact lw_ret (d0 := s.drawn) (Drawn.sameBut.refl _ _) S.1 S.2.1 hr hlocks dL_law_2657
theorem case_38 {p : Program} {e : Env} {s : State} {m : MethodId} {below : List Frame} {meth : Method} {c : Code} {b : Nat} {xs : Nat → Int32} {H : Heap} {locs : List Loc} {ls : Array Slot} {n : Nat} {a1 a2 a3 a4 : Int32} (S : CallFix p m c cL_law 9 s #[.ref b] wsL_law "TreeDifferLaw") (hr : meth.sig.returnType = ret) (hlocks : meth.locks = false) (hst : l.stackTraces = false) (hX : va_X b 5 xs s s.heap) (hbl : b < s.heap.size ∧ b < N0) (hN : s.heap.size = N0) (hn : N0 + 231 ≤ n) (hx1 : xs 1 = a1) (hx2 : xs 2 = a2) (hx3 : xs 3 = a3) (hx4 : xs 4 = a4) (hL : ∀ (i : Nat) (q : Nat × va_E), (lneed N0 cI cC cL cD cII cTr cTm cIt cB ql)[i]? = some q → F (N0 + q.1) = some q.2) (hG : fG N0 D vwCl (fty cI cC cL cD cII cTr cTm cIt cB) (fen ql) s F n H locs) (hl : lv_has ls 9 [(0, .ref b), (1, .ref N0), (2, .ref (N0 + 164)), (3, .ref (N0 + 229)), (4, .ref (N0 + 230)), (5, .int 0)]) : W p l e { frames := 2048, cells := 600002, slots := 7302232, locals := 84000 } s m #[.ref b] below meth c H locs 231 4980 (lw_Z below #[.ref b] s) (F0 m 2637 ls []) := by
  have hn1 := pk_nc a1
  have hf1 := pk_fc a1
  have hv1 := pk_vc a1
  obtain ⟨g_c1_ge_0, g_c1_le_65535⟩ := fl_c0 a1
  generalize hc1 : (a1.toUInt32 % 65536).toInt32 = c1 at *
  have hn2 := pk_nc a2
  have hf2 := pk_fc a2
  have hv2 := pk_vc a2
  obtain ⟨g_c2_ge_0, g_c2_le_65535⟩ := fl_c0 a2
  generalize hc2 : (a2.toUInt32 % 65536).toInt32 = c2 at *
  have hn3 := pk_nc a3
  have hf3 := pk_fc a3
  have hv3 := pk_vc a3
  obtain ⟨g_c3_ge_0, g_c3_le_65535⟩ := fl_c0 a3
  generalize hc3 : (a3.toUInt32 % 65536).toInt32 = c3 at *
  have hn4 := pk_nc a4
  have hf4 := pk_fc a4
  have hv4 := pk_vc a4
  obtain ⟨g_c4_ge_0, g_c4_le_65535⟩ := fl_c0 a4
  generalize hc4 : (a4.toUInt32 % 65536).toInt32 = c4 at *
  exact l38_0 S hr hlocks hst hX hbl hN hn hx1 hx2 hx3 hx4 (hL 0 _ rfl) (hL 6 _ rfl) (hL 10 _ rfl) (hL 16 _ rfl) (hL 14 _ rfl) (hL 13 _ rfl) (hL 15 _ rfl) (hL 22 _ rfl) (hL 27 _ rfl) (hL 25 _ rfl) (hL 24 _ rfl) (hL 26 _ rfl) (hL 33 _ rfl) (hL 38 _ rfl) (hL 36 _ rfl) (hL 35 _ rfl) (hL 37 _ rfl) (hL 1 _ rfl) (hL 87 _ rfl) (hL 9 _ rfl) (hL 4 _ rfl) hG hl
